

set_option maxHeartbeats 4000000 in
set_option maxRecDepth 100000 in
theorem k_rSlab_2 (l : Launch) (D : va_G) (k : KT) (A : Nat → Prop) (a : Nat → Nat) (z : SK) (G : GS) (p0 : Int32) (p1 : Int32) (ha_p0 : 0 ≤ p0.toInt ∧ p0.toInt ≤ 1600) (ha_p1 : 0 ≤ p1.toInt ∧ p1.toInt ≤ 9) (hv_5_5 : G.2.2 5 5 = 2) (hs : (G.1 2 9).toInt < 3) : Met l yX7_readSlab (WS yX7_readSlab cX7_readSlab 9 (some .boolean)) ({ frames := 7, cells := 0, slots := 0, locals := 148 }) (va_Pc [.ref (a 5), .int p0, .int p1] (cW D k A a z G)) (va_Qi (fun (r : Int32) (G1 : GS) => Bd G1 ∧ Fr [20, 21] [(3, 2), (3, 3), (3, 4), (3, 5), (3, 6), (3, 7), (3, 8), (5, 9)] G G1 ∧ (0 ≤ r.toInt ∧ r.toInt ≤ 1)) (fun (G1 : GS) t => Wd D k A a G1 t.heap) A) 0 0 A := by
  refine Met.ofW (cc := cX7_readSlab) (maxL := 9) (ret := (some .boolean)) (by decide) rfl ?_
  intro p e s m args below meth c s₁ B hml hv
  obtain ⟨rfl, hW, hB_G, hK, hZ⟩ := hv
  have hx := B.exec
  have hb := B.bytes
  have hr := B.returns
  have hts := atoms_spec (ws := WS yX7_readSlab cX7_readSlab 9 (some .boolean)) B.pre
  have hgd : ∀ w ∈ gd, w ∈ WS yX7_readSlab cX7_readSlab 9 (some .boolean) := fun w h => List.mem_cons_of_mem _ h
  have hg : ∀ w ∈ gd, w.before _ s = true := fun w h => hts w (hgd w h)
  have hown : s.vm.findClass RX7 = some m.cls := findClass_of_methodNamed B.named
  have hS : va_S A s.heap s.heap [] := va_S.rf
  have hF : Fr [20, 21] [(3, 2), (3, 3), (3, 4), (3, 5), (3, 6), (3, 7), (3, 8), (5, 9)] G G := Fr.rf
  have hl := lv_entry ([.ref (a 5), .int p0, .int p1]) (n := 9) (Nat.le_of_ble_eq_true rfl)
  rw [lg_entry_eq]
  generalize (lg_sl ([.ref (a 5), .int p0, .int p1]) ++ List.replicate (9 - (lg_sl ([.ref (a 5), .int p0, .int p1])).length) Slot.unset).toArray = ls at hl ⊢
  have hl : lv_has ls 9 [(0, .ref (a 5)), (1, .int p0), (2, .int p1)] := hl
  refine lv_iload_n hx hb dX7_readSlab_0 rfl (lv_at hl 1 rfl) ?_
  refine W.cut (σ := Int32) (pcJ := 9) (J := fun y H locs ls => ∃ (G_4 : GS), (0 ≤ y.toInt ∧ y.toInt ≤ 9) ∧ Wd D k A a G_4 H ∧ Bd G_4 ∧ Fr [20, 21] [(3, 2), (3, 3), (3, 4), (3, 5), (3, 6), (3, 7), (3, 8), (5, 9)] G G_4 ∧ Fr [] [] G G_4 ∧ va_S A s.heap H locs ∧ lv_has ls 9 [(0, .ref (a 5)), (1, .int p0)]) (stJ := fun y => [.int y]) ?_ (fun hJ_5 => ?_)
  · intro y H locs ls hI
    obtain ⟨w_3, hy⟩ : ∃ q, q = y := ⟨_, rfl⟩
    subst hy
    obtain ⟨G_4, f_7, hW, hB_G_4, hF, hq_6, hS, hl⟩ := hI
    refine lv_istore_n (lv' := [(3, .int w_3), (0, .ref (a 5)), (1, .int p0)]) hx hb dX7_readSlab_9 rfl hl (by decide) rfl (fun ls hl => ?_)
    refine lv_sipush (v := 400) hx hb dX7_readSlab_10 (by decide) ?_
    refine lv_aload_n hx hb dX7_readSlab_13 rfl (lv_at hl 1 rfl) ?_
    refine S_getV (n := 2) (C := RX7) (T := TX7) (N := 10) hx hb hg iX7 hown hK hW kd_5 rfl 5 (by decide) (hg (Cond.fieldLink RX7 39 "SlabWalk$Reader" "paving" "LSlabWalk$Paving;") m317) (fun _ h9 => h9) rfl (((hq_6.r 5 5 (by decide) (by decide))).trans (hv_5_5)) dX7_readSlab_14 ?_
    refine S_getR (n := 20) (C := RX6) (T := TX6) (N := 17) hx hb hg iX6 hown hK hW kd_2 rfl 0 (by decide) (hg (Cond.fieldLink RX7 121 "SlabWalk$Paving" "length" "[I") m160) (fun _ h9 => h9) rfl dX7_readSlab_17 ?_
    refine lv_aload_n hx hb dX7_readSlab_20 rfl (lv_at hl 1 rfl) ?_
    refine S_getV (n := 2) (C := RX7) (T := TX7) (N := 10) hx hb hg iX7 hown hK hW kd_5 rfl 5 (by decide) (hg (Cond.fieldLink RX7 39 "SlabWalk$Reader" "paving" "LSlabWalk$Paving;") m317) (fun _ h9 => h9) rfl (((hq_6.r 5 5 (by decide) (by decide))).trans (hv_5_5)) dX7_readSlab_21 ?_
    have b_8 : 0 ≤ (G.1 2 9).toInt ∧ (G.1 2 9).toInt ≤ 3 := hB_G.i 2 9 rfl rfl
    refine S_getI (v := (G.1 2 9)) (C := RX6) (T := TX6) (N := 17) hx hb hg iX6 hown hK hW kd_2 rfl 9 (by decide) (hg (Cond.fieldLink RX7 104 "SlabWalk$Paving" "streets" "I") m188) (fun _ h9 => h9) rfl (hq_6.i 2 9 (by decide) (by decide)) dX7_readSlab_24 ?_
    refine S_iald hx hb hK hW kd_20 (vin (by omega) (by omega)) dX7_readSlab_27 (fun y_9 ey_9 => ?_)
    have ty_9 : 0 ≤ y_9.toInt ∧ y_9.toInt ≤ 400 := hB_G_4.v ey_9 rfl rfl
    refine lv_isub hx hb dX7_readSlab_28 ?_
    refine lv_topi (fun y_10 ey_10 => ?_)
    have ty_10 : y_10.toInt = 400 - y_9.toInt := xI_sub rfl rfl ey_10 (by omega) (by omega)
    refine lv_iload_n hx hb dX7_readSlab_29 rfl (lv_at hl 0 rfl) ?_
    refine lv_isub hx hb dX7_readSlab_30 ?_
    refine lv_topi (fun y_11 ey_11 => ?_)
    have ty_11 : y_11.toInt = y_10.toInt - w_3.toInt := xI_sub rfl rfl ey_11 (by omega) (by omega)
    refine lv_istore (lv' := [(4, .int y_11), (3, .int w_3), (0, .ref (a 5)), (1, .int p0)]) hx hb dX7_readSlab_31 hl (by decide) rfl (fun ls hl => ?_)
    refine lv_aload_n hx hb dX7_readSlab_33 rfl (lv_at hl 2 rfl) ?_
    refine lv_iconst (v := 1) hx hb dX7_readSlab_34 (by decide) ?_
    refine lv_bipush (v := 60) hx hb dX7_readSlab_35 (by decide) ?_
    refine lv_iload hx hb dX7_readSlab_37 (lv_at hl 0 rfl) ?_
    refine va_mmin hx hb (by rw [hml]; exact hl.1.symm) hown (hg (Cond.methodLink RX7 128 Lib.Math.min.name) m803) (hg (Cond.static Lib.Math.min.name) m636) (hg (Cond.initialized "java/lang/Math") m132) (hg (Cond.code Lib.Math.min.name Lib.Math.min.code 2 (some .int)) m637) (Nat.le_of_ble_eq_true rfl) (Nat.le_of_ble_eq_true rfl) (Nat.le_of_ble_eq_true rfl) (Nat.le_of_ble_eq_true rfl) dX7_readSlab_39 ?_
    refine lv_topi (fun y_12 ey_12 => ?_)
    have ty_12 := xI_min (X := 60) (Y := y_11.toInt) rfl rfl ey_12
    have qc_13 : (1 : Int32).toInt = 1 := rfl
    refine S_calli (va_runV (As := [.int 1, .int y_12]) (rest := []) ⟨hx, hb, hml, hown, hts⟩ (k_rIsNum l D k A a z G_4 1 y_12 ) (cwV 2 hts (gd_V hgd m795 m797 m12 m119 m798) rfl rfl rfl (by decide +kernel) ⟨Nat.le_of_ble_eq_true rfl, Nat.le_of_ble_eq_true rfl⟩) (pre_V hW hB_G_4 hK hZ hS kd_5 rfl) rfl rfl hl.1 rfl (lv_room (Nat.le_of_ble_eq_true rfl)) dX7_readSlab_42 ⟨Nat.le_of_ble_eq_true rfl, Nat.le_of_ble_eq_true rfl⟩) hS (fun r_14 G_15 H locs hpo hW hS => ?_)
    obtain ⟨hB_G_15, hq_16, f_18, hp_17⟩ := hpo
    have hF := hF.call hq_16 (by decide) (by decide)
    refine lv_if_ne (tgt := 50) hx hb dX7_readSlab_45 (by decide) (fun c_19 => ?_) (fun c_19 => ?_)
    · have c_19 : r_14.toInt ≠ 0 := xI_ne rfl rfl c_19
      refine lv_aload_n hx hb dX7_readSlab_50 rfl (lv_at hl 2 rfl) ?_
      refine S_getI (v := (G_15.1 5 9)) (C := RX7) (T := TX7) (N := 10) hx hb hg iX7 hown hK hW kd_5 rfl 9 (by decide) (hg (Cond.fieldLink RX7 99 "SlabWalk$Reader" "number" "I") m321) (fun _ h9 => h9) rfl rfl dX7_readSlab_51 ?_
      refine lv_istore (lv' := [(5, .int (G_15.1 5 9)), (4, .int y_11), (3, .int w_3), (0, .ref (a 5)), (1, .int p0)]) hx hb dX7_readSlab_54 hl (by decide) rfl (fun ls hl => ?_)
      refine lv_iconst (v := 0) hx hb dX7_readSlab_56 (by decide) ?_
      refine lv_istore (lv' := [(6, .int 0), (5, .int (G_15.1 5 9)), (4, .int y_11), (3, .int w_3), (0, .ref (a 5)), (1, .int p0)]) hx hb dX7_readSlab_57 hl (by decide) rfl (fun ls hl => ?_)
      refine lv_aload_n hx hb dX7_readSlab_59 rfl (lv_at hl 4 rfl) ?_
      refine S_getR (n := 3) (C := RX7) (T := TX7) (N := 10) hx hb hg iX7 hown hK hW kd_5 rfl 0 (by decide) (hg (Cond.fieldLink RX7 26 "SlabWalk$Reader" "tokens" "LSlabWalk$Tokens;") m311) (fun _ h9 => h9) rfl dX7_readSlab_60 ?_
      refine S_calli (va_runV (As := []) (rest := []) ⟨hx, hb, hml, hown, hts⟩ (k_tAdvance l D k A a z G_15  ) (cwV 0 hts (gd_V hgd m777 m639 m640 m120 m641) rfl rfl rfl (by decide +kernel) ⟨Nat.le_of_ble_eq_true rfl, Nat.le_of_ble_eq_true rfl⟩) (pre_V hW hB_G_15 hK hZ hS kd_3 rfl) rfl rfl hl.1 rfl (lv_room (Nat.le_of_ble_eq_true rfl)) dX7_readSlab_63 ⟨Nat.le_of_ble_eq_true rfl, Nat.le_of_ble_eq_true rfl⟩) hS (fun r_20 G_21 H locs hpo hW hS => ?_)
      obtain ⟨hB_G_21, hq_22, f_24⟩ := hpo
      have hF := hF.call hq_22 (by decide) (by decide)
      refine lv_pop hx hb dX7_readSlab_66 rfl ?_
      refine lv_iconst (v := 0) hx hb dX7_readSlab_67 (by decide) ?_
      refine lv_istore (lv' := [(7, .int 0), (6, .int 0), (5, .int (G_15.1 5 9)), (4, .int y_11), (3, .int w_3), (0, .ref (a 5)), (1, .int p0)]) hx hb dX7_readSlab_68 hl (by decide) rfl (fun ls hl => ?_)
      have qc_31 : (0 : Int32).toInt = 0 := rfl
      refine loop_N (Inv := fun n H locs ls => ∃ (G_25 : GS) (x_29 : Int32) (x_30 : Int32), (n : Int) = 5 - x_29.toInt ∧ (0 ≤ x_29.toInt ∧ x_29.toInt ≤ 5) ∧ (0 ≤ x_30.toInt ∧ x_30.toInt ≤ 63) ∧ Wd D k A a G_25 H ∧ Bd G_25 ∧ Fr [20, 21] [(3, 2), (3, 3), (3, 4), (3, 5), (3, 6), (3, 7), (3, 8), (5, 9)] G G_25 ∧ Fr [20, 21] [(3, 2), (3, 3), (3, 4), (3, 5), (3, 6), (3, 7), (3, 8)] G_21 G_25 ∧ va_S A s.heap H locs ∧ lv_has ls 9 [(7, .int x_29), (6, .int x_30), (5, .int (G_15.1 5 9)), (3, .int w_3), (0, .ref (a 5)), (1, .int p0)]) (fun n_28 H locs ls ih_27 hI => ?_) (5 - 0 : Int).toNat ⟨G_21, 0, 0, (Int.toNat_of_nonneg (by omega)), ⟨by omega, by omega⟩, ⟨by omega, by omega⟩, hW, hB_G_21, hF, Fr.rf, hS, lv_sub hl [0, 1, 2, 4, 5, 6] rfl⟩
      obtain ⟨G_25, x_29, x_30, hn_34, f_32, f_33, hW, hB_G_25, hF, hq_26, hS, hl⟩ := hI
      refine lv_iload hx hb dX7_readSlab_70 (lv_at hl 0 rfl) ?_
      refine lv_iconst (v := 4) hx hb dX7_readSlab_72 (by decide) ?_
      refine W.cut (σ := Unit) (pcJ := 155) (J := fun y H locs ls => ∃ (G_40 : GS), Wd D k A a G_40 H ∧ Bd G_40 ∧ Fr [20, 21] [(3, 2), (3, 3), (3, 4), (3, 5), (3, 6), (3, 7), (3, 8), (5, 9)] G G_40 ∧ Fr [] [(3, 2), (3, 3), (3, 4), (3, 5), (3, 6), (3, 7), (3, 8)] G_25 G_40 ∧ va_S A s.heap H locs ∧ lv_has ls 9 [(6, .int x_30), (5, .int (G_15.1 5 9)), (3, .int w_3), (0, .ref (a 5)), (1, .int p0)]) (stJ := fun _ => []) ?_ (fun hJ_41 => ?_)
      · intro y H locs ls hI
        obtain ⟨G_40, hW, hB_G_40, hF, hq_42, hS, hl⟩ := hI
        refine lv_iload_n hx hb dX7_readSlab_155 rfl (lv_at hl 4 rfl) ?_
        refine lv_if_le (tgt := 172) hx hb dX7_readSlab_156 (by decide) (fun c_43 => ?_) (fun c_43 => ?_)
        · have c_43 : p0.toInt ≤ 0 := xI_le rfl rfl c_43
          refine lv_aload_n hx hb dX7_readSlab_172 rfl (lv_at hl 3 rfl) ?_
          refine S_getV (n := 2) (C := RX7) (T := TX7) (N := 10) hx hb hg iX7 hown hK hW kd_5 rfl 5 (by decide) (hg (Cond.fieldLink RX7 39 "SlabWalk$Reader" "paving" "LSlabWalk$Paving;") m317) (fun _ h9 => h9) rfl ((((hq_42.r 5 5 (by decide) (by decide)).trans ((hq_26.r 5 5 (by decide) (by decide)).trans ((hq_22.r 5 5 (by decide) (by decide)).trans ((hq_16.r 5 5 (by decide) (by decide)).trans (hq_6.r 5 5 (by decide) (by decide))))))).trans (hv_5_5)) dX7_readSlab_173 ?_
          refine lv_iconst (v := 0) hx hb dX7_readSlab_176 (by decide) ?_
          refine lv_iload hx hb dX7_readSlab_177 (lv_at hl 0 rfl) ?_
          refine lv_iload_n hx hb dX7_readSlab_179 rfl (lv_at hl 4 rfl) ?_
          refine lv_iload hx hb dX7_readSlab_180 (lv_at hl 1 rfl) ?_
          refine S_callv (va_runV (As := [.int 0, .int x_30, .int p0, .int (G_15.1 5 9)]) (rest := []) ⟨hx, hb, hml, hown, hts⟩ (k_lay_2 l D k A a z G_40 0 x_30 p0 (G_15.1 5 9) ⟨by omega, by omega⟩) (cwV 4 hts (gd_V hgd m804 m805 m806 m118 m807) rfl rfl rfl (by decide +kernel) ⟨Nat.le_of_ble_eq_true rfl, Nat.le_of_ble_eq_true rfl⟩) (pre_V hW hB_G_40 hK hZ hS kd_2 rfl) rfl rfl hl.1 rfl (lv_room (Nat.le_of_ble_eq_true rfl)) dX7_readSlab_182 ⟨Nat.le_of_ble_eq_true rfl, Nat.le_of_ble_eq_true rfl⟩) hS (fun G_45 H locs hpo hW hS => ?_)
          obtain ⟨hB_G_45, hq_46⟩ := hpo
          have hF := hF.call hq_46 (by decide) (by decide)
          refine lv_iconst (v := 1) hx hb dX7_readSlab_185 (by decide) ?_
          exact W.zret (v := 1) hx hb hr (by decide) (fun t ht _ => ⟨⟨1, G_45, rfl, ⟨hB_G_45, hF, ⟨by decide, by decide⟩⟩, wd_t ht hW⟩, hS.F ht⟩) hS.2.2 dX7_readSlab_186
        · have c_43 : 0 < p0.toInt := xI_nle rfl rfl c_43
          refine lv_aload_n hx hb dX7_readSlab_159 rfl (lv_at hl 3 rfl) ?_
          refine S_getV (n := 2) (C := RX7) (T := TX7) (N := 10) hx hb hg iX7 hown hK hW kd_5 rfl 5 (by decide) (hg (Cond.fieldLink RX7 39 "SlabWalk$Reader" "paving" "LSlabWalk$Paving;") m317) (fun _ h9 => h9) rfl ((((hq_42.r 5 5 (by decide) (by decide)).trans ((hq_26.r 5 5 (by decide) (by decide)).trans ((hq_22.r 5 5 (by decide) (by decide)).trans ((hq_16.r 5 5 (by decide) (by decide)).trans (hq_6.r 5 5 (by decide) (by decide))))))).trans (hv_5_5)) dX7_readSlab_160 ?_
          refine lv_iconst (v := 1) hx hb dX7_readSlab_163 (by decide) ?_
          refine lv_iconst (v := 0) hx hb dX7_readSlab_164 (by decide) ?_
          refine lv_iload_n hx hb dX7_readSlab_165 rfl (lv_at hl 4 rfl) ?_
          refine lv_iconst (v := 1) hx hb dX7_readSlab_166 (by decide) ?_
          refine lv_isub hx hb dX7_readSlab_167 ?_
          refine lv_topi (fun y_48 ey_48 => ?_)
          have ty_48 : y_48.toInt = p0.toInt - 1 := xI_sub rfl rfl ey_48 (by omega) (by omega)
          refine lv_iload_n hx hb dX7_readSlab_168 rfl (lv_at hl 2 rfl) ?_
          refine S_callv (va_runV (As := [.int 1, .int 0, .int y_48, .int w_3]) (rest := []) ⟨hx, hb, hml, hown, hts⟩ (k_lay_2 l D k A a z G_40 1 0 y_48 w_3 ⟨by omega, by omega⟩) (cwV 4 hts (gd_V hgd m804 m805 m806 m118 m807) rfl rfl rfl (by decide +kernel) ⟨Nat.le_of_ble_eq_true rfl, Nat.le_of_ble_eq_true rfl⟩) (pre_V hW hB_G_40 hK hZ hS kd_2 rfl) rfl rfl hl.1 rfl (lv_room (Nat.le_of_ble_eq_true rfl)) dX7_readSlab_169 ⟨Nat.le_of_ble_eq_true rfl, Nat.le_of_ble_eq_true rfl⟩) hS (fun G_50 H locs hpo hW hS => ?_)
          obtain ⟨hB_G_50, hq_51⟩ := hpo
          have hF := hF.call hq_51 (by decide) (by decide)
          refine lv_aload_n hx hb dX7_readSlab_172 rfl (lv_at hl 3 rfl) ?_
          refine S_getV (n := 2) (C := RX7) (T := TX7) (N := 10) hx hb hg iX7 hown hK hW kd_5 rfl 5 (by decide) (hg (Cond.fieldLink RX7 39 "SlabWalk$Reader" "paving" "LSlabWalk$Paving;") m317) (fun _ h9 => h9) rfl ((((hq_51.r 5 5 (by decide) (by decide)).trans ((hq_42.r 5 5 (by decide) (by decide)).trans ((hq_26.r 5 5 (by decide) (by decide)).trans ((hq_22.r 5 5 (by decide) (by decide)).trans ((hq_16.r 5 5 (by decide) (by decide)).trans (hq_6.r 5 5 (by decide) (by decide)))))))).trans (hv_5_5)) dX7_readSlab_173 ?_
          refine lv_iconst (v := 0) hx hb dX7_readSlab_176 (by decide) ?_
          refine lv_iload hx hb dX7_readSlab_177 (lv_at hl 0 rfl) ?_
          refine lv_iload_n hx hb dX7_readSlab_179 rfl (lv_at hl 4 rfl) ?_
          refine lv_iload hx hb dX7_readSlab_180 (lv_at hl 1 rfl) ?_
          refine S_callv (va_runV (As := [.int 0, .int x_30, .int p0, .int (G_15.1 5 9)]) (rest := []) ⟨hx, hb, hml, hown, hts⟩ (k_lay_2 l D k A a z G_50 0 x_30 p0 (G_15.1 5 9) ⟨by omega, by omega⟩) (cwV 4 hts (gd_V hgd m804 m805 m806 m118 m807) rfl rfl rfl (by decide +kernel) ⟨Nat.le_of_ble_eq_true rfl, Nat.le_of_ble_eq_true rfl⟩) (pre_V hW hB_G_50 hK hZ hS kd_2 rfl) rfl rfl hl.1 rfl (lv_room (Nat.le_of_ble_eq_true rfl)) dX7_readSlab_182 ⟨Nat.le_of_ble_eq_true rfl, Nat.le_of_ble_eq_true rfl⟩) hS (fun G_54 H locs hpo hW hS => ?_)
          obtain ⟨hB_G_54, hq_55⟩ := hpo
          have hF := hF.call hq_55 (by decide) (by decide)
          refine lv_iconst (v := 1) hx hb dX7_readSlab_185 (by decide) ?_
          exact W.zret (v := 1) hx hb hr (by decide) (fun t ht _ => ⟨⟨1, G_54, rfl, ⟨hB_G_54, hF, ⟨by decide, by decide⟩⟩, wd_t ht hW⟩, hS.F ht⟩) hS.2.2 dX7_readSlab_186
      refine lv_icmp_gt (tgt := 155) hx hb dX7_readSlab_73 (by decide) (fun c_57 => ?_) (fun c_57 => ?_)
      · have c_57 : 4 < x_29.toInt := xI_lt rfl rfl c_57
        exact hJ_41 () _ _ _ ⟨G_25, hW, hB_G_25, hF, Fr.rf, hS, lv_sub hl [1, 2, 3, 4, 5] rfl⟩
      · have c_57 : x_29.toInt ≤ 4 := xI_nlt rfl rfl c_57
        refine lv_aload_n hx hb dX7_readSlab_76 rfl (lv_at hl 4 rfl) ?_
        refine S_getR (n := 3) (C := RX7) (T := TX7) (N := 10) hx hb hg iX7 hown hK hW kd_5 rfl 0 (by decide) (hg (Cond.fieldLink RX7 26 "SlabWalk$Reader" "tokens" "LSlabWalk$Tokens;") m311) (fun _ h9 => h9) rfl dX7_readSlab_77 ?_
        refine S_getI (v := (G_25.1 3 3)) (C := RX9) (T := TX9) (N := 9) hx hb hg iX9 hown hK hW kd_3 rfl 3 (by decide) (hg (Cond.fieldLink RX7 62 "SlabWalk$Tokens" "kind" "I") m261) (fun _ h9 => h9) rfl rfl dX7_readSlab_80 ?_
        refine lv_sipush (v := 140) hx hb dX7_readSlab_83 (by decide) ?_
        refine lv_icmp_lt (tgt := 155) hx hb dX7_readSlab_86 (by decide) (fun c_58 => ?_) (fun c_58 => ?_)
        · have c_58 : (G_25.1 3 3).toInt < 140 := xI_lt rfl rfl c_58
          exact hJ_41 () _ _ _ ⟨G_25, hW, hB_G_25, hF, Fr.rf, hS, lv_sub hl [1, 2, 3, 4, 5] rfl⟩
        · have c_58 : 140 ≤ (G_25.1 3 3).toInt := xI_nlt rfl rfl c_58
          refine lv_aload_n hx hb dX7_readSlab_89 rfl (lv_at hl 4 rfl) ?_
          refine S_getR (n := 3) (C := RX7) (T := TX7) (N := 10) hx hb hg iX7 hown hK hW kd_5 rfl 0 (by decide) (hg (Cond.fieldLink RX7 26 "SlabWalk$Reader" "tokens" "LSlabWalk$Tokens;") m311) (fun _ h9 => h9) rfl dX7_readSlab_90 ?_
          refine S_getI (v := (G_25.1 3 3)) (C := RX9) (T := TX9) (N := 9) hx hb hg iX9 hown hK hW kd_3 rfl 3 (by decide) (hg (Cond.fieldLink RX7 62 "SlabWalk$Tokens" "kind" "I") m261) (fun _ h9 => h9) rfl rfl dX7_readSlab_93 ?_
          refine lv_sipush (v := 143) hx hb dX7_readSlab_96 (by decide) ?_
          refine lv_icmp_gt (tgt := 155) hx hb dX7_readSlab_99 (by decide) (fun c_59 => ?_) (fun c_59 => ?_)
          · have c_59 : 143 < (G_25.1 3 3).toInt := xI_lt rfl rfl c_59
            exact hJ_41 () _ _ _ ⟨G_25, hW, hB_G_25, hF, Fr.rf, hS, lv_sub hl [1, 2, 3, 4, 5] rfl⟩
          · have c_59 : (G_25.1 3 3).toInt ≤ 143 := xI_nlt rfl rfl c_59
            refine lv_iconst (v := 1) hx hb dX7_readSlab_102 (by decide) ?_
            refine lv_aload_n hx hb dX7_readSlab_103 rfl (lv_at hl 4 rfl) ?_
            refine S_getR (n := 3) (C := RX7) (T := TX7) (N := 10) hx hb hg iX7 hown hK hW kd_5 rfl 0 (by decide) (hg (Cond.fieldLink RX7 26 "SlabWalk$Reader" "tokens" "LSlabWalk$Tokens;") m311) (fun _ h9 => h9) rfl dX7_readSlab_104 ?_
            refine S_getI (v := (G_25.1 3 3)) (C := RX9) (T := TX9) (N := 9) hx hb hg iX9 hown hK hW kd_3 rfl 3 (by decide) (hg (Cond.fieldLink RX7 62 "SlabWalk$Tokens" "kind" "I") m261) (fun _ h9 => h9) rfl rfl dX7_readSlab_107 ?_
            refine lv_sipush (v := 140) hx hb dX7_readSlab_110 (by decide) ?_
            refine lv_isub hx hb dX7_readSlab_113 ?_
            refine lv_topi (fun y_60 ey_60 => ?_)
            have ty_60 : y_60.toInt = (G_25.1 3 3).toInt - 140 := xI_sub rfl rfl ey_60 (by omega) (by omega)
            refine lv_ishl hx hb dX7_readSlab_114 ?_
            refine lv_topi (fun y_61 ey_61 => ?_)
            have ty_61 := sh5 (Y := y_60.toInt) rfl ey_61 rfl (by omega) (by omega)
            refine lv_istore (lv' := [(8, .int y_61), (7, .int x_29), (6, .int x_30), (5, .int (G_15.1 5 9)), (3, .int w_3), (0, .ref (a 5)), (1, .int p0)]) hx hb dX7_readSlab_115 hl (by decide) rfl (fun ls hl => ?_)
            refine lv_iload hx hb dX7_readSlab_117 (lv_at hl 2 rfl) ?_
            refine lv_iload hx hb dX7_readSlab_119 (lv_at hl 0 rfl) ?_
            refine lv_iand hx hb dX7_readSlab_121 ?_
            refine lv_topi (fun y_62 ey_62 => ?_)
            refine lv_if_eq (tgt := 134) hx hb dX7_readSlab_122 (by decide) (fun c_63 => ?_) (fun c_63 => ?_)
            · have c_63 : y_62.toInt = 0 := xI_eq rfl rfl c_63
              refine lv_iload hx hb dX7_readSlab_134 (lv_at hl 2 rfl) ?_
              refine lv_iload hx hb dX7_readSlab_136 (lv_at hl 0 rfl) ?_
              refine lv_ior hx hb dX7_readSlab_138 ?_
              refine lv_topi (fun y_64 ey_64 => ?_)
              have ty_64 := or6 ey_64 ⟨by omega, by omega⟩ ⟨by omega, by omega⟩
              refine lv_istore (lv' := [(6, .int y_64), (8, .int y_61), (7, .int x_29), (5, .int (G_15.1 5 9)), (3, .int w_3), (0, .ref (a 5)), (1, .int p0)]) hx hb dX7_readSlab_139 hl (by decide) rfl (fun ls hl => ?_)
              refine lv_aload_n hx hb dX7_readSlab_141 rfl (lv_at hl 5 rfl) ?_
              refine S_getR (n := 3) (C := RX7) (T := TX7) (N := 10) hx hb hg iX7 hown hK hW kd_5 rfl 0 (by decide) (hg (Cond.fieldLink RX7 26 "SlabWalk$Reader" "tokens" "LSlabWalk$Tokens;") m311) (fun _ h9 => h9) rfl dX7_readSlab_142 ?_
              refine S_calli (va_runV (As := []) (rest := []) ⟨hx, hb, hml, hown, hts⟩ (k_tAdvance l D k A a z G_25  ) (cwV 0 hts (gd_V hgd m777 m639 m640 m120 m641) rfl rfl rfl (by decide +kernel) ⟨Nat.le_of_ble_eq_true rfl, Nat.le_of_ble_eq_true rfl⟩) (pre_V hW hB_G_25 hK hZ hS kd_3 rfl) rfl rfl hl.1 rfl (lv_room (Nat.le_of_ble_eq_true rfl)) dX7_readSlab_145 ⟨Nat.le_of_ble_eq_true rfl, Nat.le_of_ble_eq_true rfl⟩) hS (fun r_65 G_66 H locs hpo hW hS => ?_)
              obtain ⟨hB_G_66, hq_67, f_69⟩ := hpo
              have hF := hF.call hq_67 (by decide) (by decide)
              refine lv_pop hx hb dX7_readSlab_148 rfl ?_
              obtain ⟨y_70, ey_70⟩ : ∃ q, q = x_29 + 1 := ⟨_, rfl⟩
              have ty_70 : y_70.toInt = x_29.toInt + 1 := xI_add rfl rfl ey_70 (by omega) (by omega)
              refine lv_iinc (v := y_70) (lv' := [(7, .int y_70), (6, .int y_64), (8, .int y_61), (5, .int (G_15.1 5 9)), (3, .int w_3), (0, .ref (a 5)), (1, .int p0)]) hx hb dX7_readSlab_149 hl (k := 2) rfl (by rw [ey_70]; rfl) (by decide) rfl (fun ls hl => ?_)
              refine lv_goto (tgt := 70) hx hb dX7_readSlab_152 (by decide) ?_
              exact ih_27 (5 - y_70.toInt : Int).toNat (by omega) _ _ _ ⟨G_66, y_70, y_64, (Int.toNat_of_nonneg (by omega)), ⟨by omega, by omega⟩, ⟨by omega, by omega⟩, hW, hB_G_66, hF, ((Fr.rf.call hq_26 (by decide) (by decide)).call hq_67 (by decide) (by decide)), hS, lv_sub hl [0, 1, 3, 4, 5, 6] rfl⟩
            · have c_63 : y_62.toInt ≠ 0 := xI_ne rfl rfl c_63
              refine lv_aload_n hx hb dX7_readSlab_125 rfl (lv_at hl 5 rfl) ?_
              refine S_getR (n := 3) (C := RX7) (T := TX7) (N := 10) hx hb hg iX7 hown hK hW kd_5 rfl 0 (by decide) (hg (Cond.fieldLink RX7 26 "SlabWalk$Reader" "tokens" "LSlabWalk$Tokens;") m311) (fun _ h9 => h9) rfl dX7_readSlab_126 ?_
              refine lv_iconst (v := 2) hx hb dX7_readSlab_129 (by decide) ?_
              refine S_calli (va_runV (As := [.int 2]) (rest := []) ⟨hx, hb, hml, hown, hts⟩ (k_tRefuse l D k A a z G_25 2 ⟨by decide, by decide⟩) (cwV 1 hts (gd_V hgd m778 m779 m780 m120 m781) rfl rfl rfl (by decide +kernel) ⟨Nat.le_of_ble_eq_true rfl, Nat.le_of_ble_eq_true rfl⟩) (pre_V hW hB_G_25 hK hZ hS kd_3 rfl) rfl rfl hl.1 rfl (lv_room (Nat.le_of_ble_eq_true rfl)) dX7_readSlab_130 ⟨Nat.le_of_ble_eq_true rfl, Nat.le_of_ble_eq_true rfl⟩) hS (fun r_71 G_72 H locs hpo hW hS => ?_)
              obtain ⟨hB_G_72, hq_73, f_75⟩ := hpo
              have hF := hF.call hq_73 (by decide) (by decide)
              exact W.zret (v := r_71) hx hb hr (nar_z (by omega) (by omega)) (fun t ht _ => ⟨⟨r_71, G_72, rfl, ⟨hB_G_72, hF, ⟨by omega, by omega⟩⟩, wd_t ht hW⟩, hS.F ht⟩) hS.2.2 dX7_readSlab_133
    · have c_19 : r_14.toInt = 0 := xI_eq rfl rfl c_19
      refine lv_iconst (v := 0) hx hb dX7_readSlab_48 (by decide) ?_
      exact W.zret (v := 0) hx hb hr (by decide) (fun t ht _ => ⟨⟨0, G_15, rfl, ⟨hB_G_15, hF, ⟨by decide, by decide⟩⟩, wd_t ht hW⟩, hS.F ht⟩) hS.2.2 dX7_readSlab_49
  refine lv_if_ne (tgt := 8) hx hb dX7_readSlab_1 (by decide) (fun c_76 => ?_) (fun c_76 => ?_)
  · have c_76 : p0.toInt ≠ 0 := xI_ne rfl rfl c_76
    refine lv_iload_n hx hb dX7_readSlab_8 rfl (lv_at hl 2 rfl) ?_
    exact hJ_5 p1 _ _ _ ⟨G, ⟨by omega, by omega⟩, hW, hB_G, hF, Fr.rf, hS, lv_sub hl [0, 1] rfl⟩
  · have c_76 : p0.toInt = 0 := xI_eq rfl rfl c_76
    refine lv_iconst (v := 0) hx hb dX7_readSlab_4 (by decide) ?_
    refine lv_goto (tgt := 9) hx hb dX7_readSlab_5 (by decide) ?_
    have qc_77 : (0 : Int32).toInt = 0 := rfl
    exact hJ_5 0 _ _ _ ⟨G, ⟨by omega, by omega⟩, hW, hB_G, hF, Fr.rf, hS, lv_sub hl [0, 1] rfl⟩

set_option maxHeartbeats 4000000 in
set_option maxRecDepth 100000 in
theorem k_rStreet_2 (l : Launch) (D : va_G) (k : KT) (A : Nat → Prop) (a : Nat → Nat) (z : SK) (G : GS)  (hv_5_5 : G.2.2 5 5 = 2) : Met l yX7_readStreet (WS yX7_readStreet cX7_readStreet 3 (some .boolean)) ({ frames := 8, cells := 0, slots := 0, locals := 176 }) (va_Pc [.ref (a 5)] (cW D k A a z G)) (va_Qi (fun (r : Int32) (G1 : GS) => Bd G1 ∧ Fr [20, 21, 34] [(2, 9), (3, 2), (3, 3), (3, 4), (3, 5), (3, 6), (3, 7), (3, 8), (5, 9)] G G1 ∧ (0 ≤ r.toInt ∧ r.toInt ≤ 1)) (fun (G1 : GS) t => Wd D k A a G1 t.heap) A) 0 0 A := by
  refine Met.ofW (cc := cX7_readStreet) (maxL := 3) (ret := (some .boolean)) (by decide) rfl ?_
  intro p e s m args below meth c s₁ B hml hv
  obtain ⟨rfl, hW, hB_G, hK, hZ⟩ := hv
  have hx := B.exec
  have hb := B.bytes
  have hr := B.returns
  have hts := atoms_spec (ws := WS yX7_readStreet cX7_readStreet 3 (some .boolean)) B.pre
  have hgd : ∀ w ∈ gd, w ∈ WS yX7_readStreet cX7_readStreet 3 (some .boolean) := fun w h => List.mem_cons_of_mem _ h
  have hg : ∀ w ∈ gd, w.before _ s = true := fun w h => hts w (hgd w h)
  have hown : s.vm.findClass RX7 = some m.cls := findClass_of_methodNamed B.named
  have hS : va_S A s.heap s.heap [] := va_S.rf
  have hF : Fr [20, 21, 34] [(2, 9), (3, 2), (3, 3), (3, 4), (3, 5), (3, 6), (3, 7), (3, 8), (5, 9)] G G := Fr.rf
  have hl := lv_entry ([.ref (a 5)]) (n := 3) (Nat.le_of_ble_eq_true rfl)
  rw [lg_entry_eq]
  generalize (lg_sl ([.ref (a 5)]) ++ List.replicate (3 - (lg_sl ([.ref (a 5)])).length) Slot.unset).toArray = ls at hl ⊢
  have hl : lv_has ls 3 [(0, .ref (a 5))] := hl
  refine lv_aload_n hx hb dX7_readStreet_0 rfl (lv_at hl 0 rfl) ?_
  refine lv_aload_n hx hb dX7_readStreet_1 rfl (lv_at hl 0 rfl) ?_
  refine S_getV (n := 2) (C := RX7) (T := TX7) (N := 10) hx hb hg iX7 hown hK hW kd_5 rfl 5 (by decide) (hg (Cond.fieldLink RX7 39 "SlabWalk$Reader" "paving" "LSlabWalk$Paving;") m317) (fun _ h9 => h9) rfl hv_5_5 dX7_readStreet_2 ?_
  have b_1 : 0 ≤ (G.1 2 9).toInt ∧ (G.1 2 9).toInt ≤ 3 := hB_G.i 2 9 rfl rfl
  refine S_getI (v := (G.1 2 9)) (C := RX6) (T := TX6) (N := 17) hx hb hg iX6 hown hK hW kd_2 rfl 9 (by decide) (hg (Cond.fieldLink RX7 104 "SlabWalk$Paving" "streets" "I") m188) (fun _ h9 => h9) rfl rfl dX7_readStreet_5 ?_
  refine lv_iconst (v := 3) hx hb dX7_readStreet_8 (by decide) ?_
  refine W.cut (σ := Int32) (pcJ := 17) (J := fun y H locs ls => ∃ (G_5 : GS), (0 ≤ y.toInt ∧ y.toInt ≤ 1) ∧ (y.toInt = 0 ∨ (G_5.1 2 9).toInt < 3) ∧ Wd D k A a G_5 H ∧ Bd G_5 ∧ Fr [20, 21, 34] [(2, 9), (3, 2), (3, 3), (3, 4), (3, 5), (3, 6), (3, 7), (3, 8), (5, 9)] G G_5 ∧ Fr [] [] G G_5 ∧ va_S A s.heap H locs ∧ lv_has ls 3 [(0, .ref (a 5))]) (stJ := fun y => [.int y, .ref (a 5)]) ?_ (fun hJ_6 => ?_)
  · intro y H locs ls hI
    obtain ⟨w_3, hy⟩ : ∃ q, q = y := ⟨_, rfl⟩
    subst hy
    obtain ⟨G_5, f_8, f_9, hW, hB_G_5, hF, hq_7, hS, hl⟩ := hI
    have g_10 : (G_5.1 2 9).toInt = (G.1 2 9).toInt := by rw [show G_5.1 2 9 = (G.1 2 9) from ((hq_7.i 2 9 (by decide) (by decide)).trans (rfl))]
    refine S_calli (va_runV (As := [.int w_3]) (rest := []) ⟨hx, hb, hml, hown, hts⟩ (k_rFirst l D k A a z G_5 w_3 ⟨by omega, by omega⟩) (cwV 1 hts (gd_V hgd m773 m775 m9 m119 m776) rfl rfl rfl (by decide +kernel) ⟨Nat.le_of_ble_eq_true rfl, Nat.le_of_ble_eq_true rfl⟩) (pre_V hW hB_G_5 hK hZ hS kd_5 rfl) rfl rfl hl.1 rfl (lv_room (Nat.le_of_ble_eq_true rfl)) dX7_readStreet_17 ⟨Nat.le_of_ble_eq_true rfl, Nat.le_of_ble_eq_true rfl⟩) hS (fun r_11 G_12 H locs hpo hW hS => ?_)
    obtain ⟨hB_G_12, hq_13, f_15, hp_14⟩ := hpo
    have hF := hF.call hq_13 (by decide) (by decide)
    refine lv_if_eq (tgt := 64) hx hb dX7_readStreet_20 (by decide) (fun c_16 => ?_) (fun c_16 => ?_)
    · have c_16 : r_11.toInt = 0 := xI_eq rfl rfl c_16
      refine lv_iconst (v := 0) hx hb dX7_readStreet_64 (by decide) ?_
      exact W.zret (v := 0) hx hb hr (by decide) (fun t ht _ => ⟨⟨0, G_12, rfl, ⟨hB_G_12, hF, ⟨by decide, by decide⟩⟩, wd_t ht hW⟩, hS.F ht⟩) hS.2.2 dX7_readStreet_65
    · have c_16 : r_11.toInt ≠ 0 := xI_ne rfl rfl c_16
      refine lv_aload_n hx hb dX7_readStreet_23 rfl (lv_at hl 0 rfl) ?_
      refine lv_aload_n hx hb dX7_readStreet_24 rfl (lv_at hl 0 rfl) ?_
      refine S_getR (n := 34) (C := RX7) (T := TX7) (N := 10) hx hb hg iX7 hown hK hW kd_5 rfl 2 (by decide) (hg (Cond.fieldLink RX7 9 "SlabWalk$Reader" "streetNames" "[J") m314) (fun _ h9 => h9) rfl dX7_readStreet_25 ?_
      refine lv_aload_n hx hb dX7_readStreet_28 rfl (lv_at hl 0 rfl) ?_
      refine S_getV (n := 2) (C := RX7) (T := TX7) (N := 10) hx hb hg iX7 hown hK hW kd_5 rfl 5 (by decide) (hg (Cond.fieldLink RX7 39 "SlabWalk$Reader" "paving" "LSlabWalk$Paving;") m317) (fun _ h9 => h9) rfl ((((hq_13.r 5 5 (by decide) (by decide)).trans (hq_7.r 5 5 (by decide) (by decide)))).trans (hv_5_5)) dX7_readStreet_29 ?_
      refine S_getI (v := (G.1 2 9)) (C := RX6) (T := TX6) (N := 17) hx hb hg iX6 hown hK hW kd_2 rfl 9 (by decide) (hg (Cond.fieldLink RX7 104 "SlabWalk$Paving" "streets" "I") m188) (fun _ h9 => h9) rfl ((hq_13.i 2 9 (by decide) (by decide)).trans ((hq_7.i 2 9 (by decide) (by decide)).trans (rfl))) dX7_readStreet_32 ?_
      refine S_calli (va_runV (As := [.ref (a 34), .int (G.1 2 9)]) (rest := []) ⟨hx, hb, hml, hown, hts⟩ (k_rName_34 l D k A a z G_12 (G.1 2 9) ⟨by omega, by omega⟩) (cwV 2 hts (gd_V hgd m782 m784 m10 m119 m785) rfl rfl rfl (by decide +kernel) ⟨Nat.le_of_ble_eq_true rfl, Nat.le_of_ble_eq_true rfl⟩) (pre_V hW hB_G_12 hK hZ hS kd_5 rfl) rfl rfl hl.1 rfl (lv_room (Nat.le_of_ble_eq_true rfl)) dX7_readStreet_35 ⟨Nat.le_of_ble_eq_true rfl, Nat.le_of_ble_eq_true rfl⟩) hS (fun r_17 G_18 H locs hpo hW hS => ?_)
      obtain ⟨hB_G_18, hq_19, f_21⟩ := hpo
      have hF := hF.call hq_19 (by decide) (by decide)
      refine lv_if_eq (tgt := 64) hx hb dX7_readStreet_38 (by decide) (fun c_22 => ?_) (fun c_22 => ?_)
      · have c_22 : r_17.toInt = 0 := xI_eq rfl rfl c_22
        refine lv_iconst (v := 0) hx hb dX7_readStreet_64 (by decide) ?_
        exact W.zret (v := 0) hx hb hr (by decide) (fun t ht _ => ⟨⟨0, G_18, rfl, ⟨hB_G_18, hF, ⟨by decide, by decide⟩⟩, wd_t ht hW⟩, hS.F ht⟩) hS.2.2 dX7_readStreet_65
      · have c_22 : r_17.toInt ≠ 0 := xI_ne rfl rfl c_22
        refine lv_aload_n hx hb dX7_readStreet_41 rfl (lv_at hl 0 rfl) ?_
        refine S_getR (n := 3) (C := RX7) (T := TX7) (N := 10) hx hb hg iX7 hown hK hW kd_5 rfl 0 (by decide) (hg (Cond.fieldLink RX7 26 "SlabWalk$Reader" "tokens" "LSlabWalk$Tokens;") m311) (fun _ h9 => h9) rfl dX7_readStreet_42 ?_
        refine lv_sipush (v := 139) hx hb dX7_readStreet_45 (by decide) ?_
        refine S_calli (va_runV (As := [.int 139]) (rest := []) ⟨hx, hb, hml, hown, hts⟩ (k_tPass l D k A a z G_18 139 ) (cwV 1 hts (gd_V hgd m786 m787 m788 m120 m789) rfl rfl rfl (by decide +kernel) ⟨Nat.le_of_ble_eq_true rfl, Nat.le_of_ble_eq_true rfl⟩) (pre_V hW hB_G_18 hK hZ hS kd_3 rfl) rfl rfl hl.1 rfl (lv_room (Nat.le_of_ble_eq_true rfl)) dX7_readStreet_48 ⟨Nat.le_of_ble_eq_true rfl, Nat.le_of_ble_eq_true rfl⟩) hS (fun r_23 G_24 H locs hpo hW hS => ?_)
        obtain ⟨hB_G_24, hq_25, f_27⟩ := hpo
        have hF := hF.call hq_25 (by decide) (by decide)
        refine lv_if_eq (tgt := 64) hx hb dX7_readStreet_51 (by decide) (fun c_28 => ?_) (fun c_28 => ?_)
        · have c_28 : r_23.toInt = 0 := xI_eq rfl rfl c_28
          refine lv_iconst (v := 0) hx hb dX7_readStreet_64 (by decide) ?_
          exact W.zret (v := 0) hx hb hr (by decide) (fun t ht _ => ⟨⟨0, G_24, rfl, ⟨hB_G_24, hF, ⟨by decide, by decide⟩⟩, wd_t ht hW⟩, hS.F ht⟩) hS.2.2 dX7_readStreet_65
        · have c_28 : r_23.toInt ≠ 0 := xI_ne rfl rfl c_28
          refine lv_aload_n hx hb dX7_readStreet_54 rfl (lv_at hl 0 rfl) ?_
          refine lv_iconst (v := 0) hx hb dX7_readStreet_55 (by decide) ?_
          refine lv_bipush (v := 9) hx hb dX7_readStreet_56 (by decide) ?_
          have qc_29 : (0 : Int32).toInt = 0 := rfl
          have qc_30 : (9 : Int32).toInt = 9 := rfl
          refine S_calli (va_runV (As := [.int 0, .int 9]) (rest := []) ⟨hx, hb, hml, hown, hts⟩ (k_rNum l D k A a z G_24 0 9 ) (cwV 2 hts (gd_V hgd m791 m793 m11 m119 m794) rfl rfl rfl (by decide +kernel) ⟨Nat.le_of_ble_eq_true rfl, Nat.le_of_ble_eq_true rfl⟩) (pre_V hW hB_G_24 hK hZ hS kd_5 rfl) rfl rfl hl.1 rfl (lv_room (Nat.le_of_ble_eq_true rfl)) dX7_readStreet_58 ⟨Nat.le_of_ble_eq_true rfl, Nat.le_of_ble_eq_true rfl⟩) hS (fun r_31 G_32 H locs hpo hW hS => ?_)
          obtain ⟨hB_G_32, hq_33, f_35, hp_34⟩ := hpo
          have hF := hF.call hq_33 (by decide) (by decide)
          refine lv_if_ne (tgt := 66) hx hb dX7_readStreet_61 (by decide) (fun c_36 => ?_) (fun c_36 => ?_)
          · have c_36 : r_31.toInt ≠ 0 := xI_ne rfl rfl c_36
            refine lv_aload_n hx hb dX7_readStreet_66 rfl (lv_at hl 0 rfl) ?_
            refine S_getI (v := (G_32.1 5 9)) (C := RX7) (T := TX7) (N := 10) hx hb hg iX7 hown hK hW kd_5 rfl 9 (by decide) (hg (Cond.fieldLink RX7 99 "SlabWalk$Reader" "number" "I") m321) (fun _ h9 => h9) rfl rfl dX7_readStreet_67 ?_
            refine lv_istore_n (lv' := [(1, .int (G_32.1 5 9)), (0, .ref (a 5))]) hx hb dX7_readStreet_70 rfl hl (by decide) rfl (fun ls hl => ?_)
            refine lv_aload_n hx hb dX7_readStreet_71 rfl (lv_at hl 1 rfl) ?_
            refine S_getV (n := 2) (C := RX7) (T := TX7) (N := 10) hx hb hg iX7 hown hK hW kd_5 rfl 5 (by decide) (hg (Cond.fieldLink RX7 39 "SlabWalk$Reader" "paving" "LSlabWalk$Paving;") m317) (fun _ h9 => h9) rfl ((((hq_33.r 5 5 (by decide) (by decide)).trans ((hq_25.r 5 5 (by decide) (by decide)).trans ((hq_19.r 5 5 (by decide) (by decide)).trans ((hq_13.r 5 5 (by decide) (by decide)).trans (hq_7.r 5 5 (by decide) (by decide))))))).trans (hv_5_5)) dX7_readStreet_72 ?_
            refine S_getR (n := 20) (C := RX6) (T := TX6) (N := 17) hx hb hg iX6 hown hK hW kd_2 rfl 0 (by decide) (hg (Cond.fieldLink RX7 121 "SlabWalk$Paving" "length" "[I") m160) (fun _ h9 => h9) rfl dX7_readStreet_75 ?_
            refine lv_aload_n hx hb dX7_readStreet_78 rfl (lv_at hl 1 rfl) ?_
            refine S_getV (n := 2) (C := RX7) (T := TX7) (N := 10) hx hb hg iX7 hown hK hW kd_5 rfl 5 (by decide) (hg (Cond.fieldLink RX7 39 "SlabWalk$Reader" "paving" "LSlabWalk$Paving;") m317) (fun _ h9 => h9) rfl ((((hq_33.r 5 5 (by decide) (by decide)).trans ((hq_25.r 5 5 (by decide) (by decide)).trans ((hq_19.r 5 5 (by decide) (by decide)).trans ((hq_13.r 5 5 (by decide) (by decide)).trans (hq_7.r 5 5 (by decide) (by decide))))))).trans (hv_5_5)) dX7_readStreet_79 ?_
            refine S_getI (v := (G.1 2 9)) (C := RX6) (T := TX6) (N := 17) hx hb hg iX6 hown hK hW kd_2 rfl 9 (by decide) (hg (Cond.fieldLink RX7 104 "SlabWalk$Paving" "streets" "I") m188) (fun _ h9 => h9) rfl ((hq_33.i 2 9 (by decide) (by decide)).trans ((hq_25.i 2 9 (by decide) (by decide)).trans ((hq_19.i 2 9 (by decide) (by decide)).trans ((hq_13.i 2 9 (by decide) (by decide)).trans ((hq_7.i 2 9 (by decide) (by decide)).trans (rfl)))))) dX7_readStreet_82 ?_
            refine lv_iconst (v := 0) hx hb dX7_readStreet_85 (by decide) ?_
            refine S_iast hx hb hK hW hS kd_20 (vin (by omega) (by omega)) dX7_readStreet_86 (fun G_37 H locs eG_37 hW hS => ?_)
            have hB_G_37 : Bd G_37 := hB_G_32.put (V := 0) (lo := 0) (hi := 400) eG_37 rfl rfl rfl (by omega) (by omega) (hB_G_32.2.put eG_37 rfl)
            have hF := hF.put eG_37 (Or.inl (by decide))
            refine lv_iconst (v := 0) hx hb dX7_readStreet_87 (by decide) ?_
            refine lv_istore_n (lv' := [(2, .int 0), (1, .int (G_32.1 5 9)), (0, .ref (a 5))]) hx hb dX7_readStreet_88 rfl hl (by decide) rfl (fun ls hl => ?_)
            have g_43 : (G_37.1 2 9).toInt = (G.1 2 9).toInt := by rw [show G_37.1 2 9 = (G.1 2 9) from ((gp_ne eG_37 (fun q => absurd q.1 (by decide))).trans ((hq_33.i 2 9 (by decide) (by decide)).trans ((hq_25.i 2 9 (by decide) (by decide)).trans ((hq_19.i 2 9 (by decide) (by decide)).trans ((hq_13.i 2 9 (by decide) (by decide)).trans ((hq_7.i 2 9 (by decide) (by decide)).trans (rfl)))))))]
            have qc_44 : (0 : Int32).toInt = 0 := rfl
            refine loop_N (Inv := fun n H locs ls => ∃ (G_38 : GS) (x_42 : Int32), (n : Int) = 1600 - x_42.toInt ∧ (0 ≤ x_42.toInt ∧ x_42.toInt ≤ 1600) ∧ ((G_38.1 2 9).toInt < 3) ∧ Wd D k A a G_38 H ∧ Bd G_38 ∧ Fr [20, 21, 34] [(2, 9), (3, 2), (3, 3), (3, 4), (3, 5), (3, 6), (3, 7), (3, 8), (5, 9)] G G_38 ∧ Fr [20, 21] [(2, 9), (3, 2), (3, 3), (3, 4), (3, 5), (3, 6), (3, 7), (3, 8), (5, 9)] G_37 G_38 ∧ va_S A s.heap H locs ∧ lv_has ls 3 [(2, .int x_42), (1, .int (G_32.1 5 9)), (0, .ref (a 5))]) (fun n_41 H locs ls ih_40 hI => ?_) (1600 - 0 : Int).toNat ⟨G_37, 0, (Int.toNat_of_nonneg (by omega)), ⟨by omega, by omega⟩, (by omega), hW, hB_G_37, hF, Fr.rf, hS, lv_sub hl [0, 1, 2] rfl⟩
            obtain ⟨G_38, x_42, hn_47, f_45, f_46, hW, hB_G_38, hF, hq_39, hS, hl⟩ := hI
            have b_48 : 0 ≤ (G_38.1 2 9).toInt ∧ (G_38.1 2 9).toInt ≤ 3 := hB_G_38.i 2 9 rfl rfl
            refine lv_iload_n hx hb dX7_readStreet_89 rfl (lv_at hl 0 rfl) ?_
            refine lv_sipush (v := 1600) hx hb dX7_readStreet_90 (by decide) ?_
            refine W.cut (σ := Unit) (pcJ := 130) (J := fun y H locs ls => ∃ (G_50 : GS), Wd D k A a G_50 H ∧ Bd G_50 ∧ Fr [20, 21, 34] [(2, 9), (3, 2), (3, 3), (3, 4), (3, 5), (3, 6), (3, 7), (3, 8), (5, 9)] G G_50 ∧ Fr [20, 21] [(3, 2), (3, 3), (3, 4), (3, 5), (3, 6), (3, 7), (3, 8), (5, 9)] G_38 G_50 ∧ va_S A s.heap H locs ∧ lv_has ls 3 [(0, .ref (a 5))]) (stJ := fun _ => []) ?_ (fun hJ_51 => ?_)
            · intro y H locs ls hI
              obtain ⟨G_50, hW, hB_G_50, hF, hq_52, hS, hl⟩ := hI
              refine lv_aload_n hx hb dX7_readStreet_130 rfl (lv_at hl 0 rfl) ?_
              refine S_getR (n := 3) (C := RX7) (T := TX7) (N := 10) hx hb hg iX7 hown hK hW kd_5 rfl 0 (by decide) (hg (Cond.fieldLink RX7 26 "SlabWalk$Reader" "tokens" "LSlabWalk$Tokens;") m311) (fun _ h9 => h9) rfl dX7_readStreet_131 ?_
              refine lv_bipush (v := 59) hx hb dX7_readStreet_134 (by decide) ?_
              refine S_calli (va_runV (As := [.int 59]) (rest := []) ⟨hx, hb, hml, hown, hts⟩ (k_tPass l D k A a z G_50 59 ) (cwV 1 hts (gd_V hgd m786 m787 m788 m120 m789) rfl rfl rfl (by decide +kernel) ⟨Nat.le_of_ble_eq_true rfl, Nat.le_of_ble_eq_true rfl⟩) (pre_V hW hB_G_50 hK hZ hS kd_3 rfl) rfl rfl hl.1 rfl (lv_room (Nat.le_of_ble_eq_true rfl)) dX7_readStreet_136 ⟨Nat.le_of_ble_eq_true rfl, Nat.le_of_ble_eq_true rfl⟩) hS (fun r_53 G_54 H locs hpo hW hS => ?_)
              obtain ⟨hB_G_54, hq_55, f_57⟩ := hpo
              have hF := hF.call hq_55 (by decide) (by decide)
              refine lv_if_ne (tgt := 144) hx hb dX7_readStreet_139 (by decide) (fun c_58 => ?_) (fun c_58 => ?_)
              · have c_58 : r_53.toInt ≠ 0 := xI_ne rfl rfl c_58
                refine lv_aload_n hx hb dX7_readStreet_144 rfl (lv_at hl 0 rfl) ?_
                refine S_getV (n := 2) (C := RX7) (T := TX7) (N := 10) hx hb hg iX7 hown hK hW kd_5 rfl 5 (by decide) (hg (Cond.fieldLink RX7 39 "SlabWalk$Reader" "paving" "LSlabWalk$Paving;") m317) (fun _ h9 => h9) rfl ((((hq_55.r 5 5 (by decide) (by decide)).trans ((hq_52.r 5 5 (by decide) (by decide)).trans ((hq_39.r 5 5 (by decide) (by decide)).trans ((congrFun (congrFun (congrArg (fun q => q.2.2) eG_37) 5) 5).trans ((hq_33.r 5 5 (by decide) (by decide)).trans ((hq_25.r 5 5 (by decide) (by decide)).trans ((hq_19.r 5 5 (by decide) (by decide)).trans ((hq_13.r 5 5 (by decide) (by decide)).trans (hq_7.r 5 5 (by decide) (by decide))))))))))).trans (hv_5_5)) dX7_readStreet_145 ?_
                refine lv_dup hx hb dX7_readStreet_148 rfl ?_
                refine S_getI (v := (G_38.1 2 9)) (C := RX6) (T := TX6) (N := 17) hx hb hg iX6 hown hK hW kd_2 rfl 9 (by decide) (hg (Cond.fieldLink RX7 104 "SlabWalk$Paving" "streets" "I") m188) (fun _ h9 => h9) rfl ((hq_55.i 2 9 (by decide) (by decide)).trans ((hq_52.i 2 9 (by decide) (by decide)).trans (rfl))) dX7_readStreet_149 ?_
                refine lv_iconst (v := 1) hx hb dX7_readStreet_152 (by decide) ?_
                refine lv_iadd hx hb dX7_readStreet_153 ?_
                refine lv_topi (fun y_59 ey_59 => ?_)
                have ty_59 : y_59.toInt = (G_38.1 2 9).toInt + 1 := xI_add rfl rfl ey_59 (by omega) (by omega)
                refine S_putI (ty := .int) (C := RX6) (T := TX6) (N := 17) hx hb hg iX6 tyX6 tyX6_ok nmX6 hown hK hW hS kd_2 rfl 9 (by decide) (hg (Cond.fieldLink RX7 104 "SlabWalk$Paving" "streets" "I") m188) (fun _ h9 => h9) rfl (by decide +kernel) rfl rfl rfl dX7_readStreet_154 (fun G_60 H locs eG_60 hW hS => ?_)
                have hB_G_60 : Bd G_60 := hB_G_54.put (V := y_59.toInt) (lo := 0) (hi := 3) eG_60 rfl rfl rfl (by omega) (by omega) (hB_G_54.2.put eG_60 rfl)
                have hF := hF.put eG_60 (Or.inr (by decide))
                refine lv_iconst (v := 1) hx hb dX7_readStreet_157 (by decide) ?_
                exact W.zret (v := 1) hx hb hr (by decide) (fun t ht _ => ⟨⟨1, G_60, rfl, ⟨hB_G_60, hF, ⟨by decide, by decide⟩⟩, wd_t ht hW⟩, hS.F ht⟩) hS.2.2 dX7_readStreet_158
              · have c_58 : r_53.toInt = 0 := xI_eq rfl rfl c_58
                refine lv_iconst (v := 0) hx hb dX7_readStreet_142 (by decide) ?_
                exact W.zret (v := 0) hx hb hr (by decide) (fun t ht _ => ⟨⟨0, G_54, rfl, ⟨hB_G_54, hF, ⟨by decide, by decide⟩⟩, wd_t ht hW⟩, hS.F ht⟩) hS.2.2 dX7_readStreet_143
            refine lv_icmp_ge (tgt := 130) hx hb dX7_readStreet_93 (by decide) (fun c_61 => ?_) (fun c_61 => ?_)
            · have c_61 : 1600 ≤ x_42.toInt := xI_le rfl rfl c_61
              exact hJ_51 () _ _ _ ⟨G_38, hW, hB_G_38, hF, Fr.rf, hS, lv_sub hl [2] rfl⟩
            · have c_61 : x_42.toInt < 1600 := xI_nle rfl rfl c_61
              refine lv_iload_n hx hb dX7_readStreet_96 rfl (lv_at hl 0 rfl) ?_
              refine lv_if_eq (tgt := 113) hx hb dX7_readStreet_97 (by decide) (fun c_62 => ?_) (fun c_62 => ?_)
              · have c_62 : x_42.toInt = 0 := xI_eq rfl rfl c_62
                refine lv_aload_n hx hb dX7_readStreet_113 rfl (lv_at hl 2 rfl) ?_
                refine lv_iload_n hx hb dX7_readStreet_114 rfl (lv_at hl 0 rfl) ?_
                refine lv_iload_n hx hb dX7_readStreet_115 rfl (lv_at hl 1 rfl) ?_
                refine S_calli (va_runV (As := [.int x_42, .int (G_32.1 5 9)]) (rest := []) ⟨hx, hb, hml, hown, hts⟩ (k_rSlab_2 l D k A a z G_38 x_42 (G_32.1 5 9) ⟨by omega, by omega⟩ ⟨by omega, by omega⟩ ((((hq_39.r 5 5 (by decide) (by decide)).trans ((congrFun (congrFun (congrArg (fun q => q.2.2) eG_37) 5) 5).trans ((hq_33.r 5 5 (by decide) (by decide)).trans ((hq_25.r 5 5 (by decide) (by decide)).trans ((hq_19.r 5 5 (by decide) (by decide)).trans ((hq_13.r 5 5 (by decide) (by decide)).trans (hq_7.r 5 5 (by decide) (by decide))))))))).trans (hv_5_5)) (by omega)) (cwV 2 hts (gd_V hgd m799 m801 m13 m119 m802) rfl rfl rfl (by decide +kernel) ⟨Nat.le_of_ble_eq_true rfl, Nat.le_of_ble_eq_true rfl⟩) (pre_V hW hB_G_38 hK hZ hS kd_5 rfl) rfl rfl hl.1 rfl (lv_room (Nat.le_of_ble_eq_true rfl)) dX7_readStreet_116 ⟨Nat.le_of_ble_eq_true rfl, Nat.le_of_ble_eq_true rfl⟩) hS (fun r_63 G_64 H locs hpo hW hS => ?_)
                obtain ⟨hB_G_64, hq_65, f_67⟩ := hpo
                have hF := hF.call hq_65 (by decide) (by decide)
                refine lv_if_ne (tgt := 124) hx hb dX7_readStreet_119 (by decide) (fun c_68 => ?_) (fun c_68 => ?_)
                · have c_68 : r_63.toInt ≠ 0 := xI_ne rfl rfl c_68
                  obtain ⟨y_69, ey_69⟩ : ∃ q, q = x_42 + 1 := ⟨_, rfl⟩
                  have ty_69 : y_69.toInt = x_42.toInt + 1 := xI_add rfl rfl ey_69 (by omega) (by omega)
                  refine lv_iinc (v := y_69) (lv' := [(2, .int y_69), (1, .int (G_32.1 5 9)), (0, .ref (a 5))]) hx hb dX7_readStreet_124 hl (k := 0) rfl (by rw [ey_69]; rfl) (by decide) rfl (fun ls hl => ?_)
                  refine lv_goto (tgt := 89) hx hb dX7_readStreet_127 (by decide) ?_
                  have g_70 : (G_64.1 2 9).toInt = (G_38.1 2 9).toInt := by rw [show G_64.1 2 9 = (G_38.1 2 9) from ((hq_65.i 2 9 (by decide) (by decide)).trans (rfl))]
                  exact ih_40 (1600 - y_69.toInt : Int).toNat (by omega) _ _ _ ⟨G_64, y_69, (Int.toNat_of_nonneg (by omega)), ⟨by omega, by omega⟩, (by omega), hW, hB_G_64, hF, ((Fr.rf.call hq_39 (by decide) (by decide)).call hq_65 (by decide) (by decide)), hS, lv_sub hl [0, 1, 2] rfl⟩
                · have c_68 : r_63.toInt = 0 := xI_eq rfl rfl c_68
                  refine lv_iconst (v := 0) hx hb dX7_readStreet_122 (by decide) ?_
                  exact W.zret (v := 0) hx hb hr (by decide) (fun t ht _ => ⟨⟨0, G_64, rfl, ⟨hB_G_64, hF, ⟨by decide, by decide⟩⟩, wd_t ht hW⟩, hS.F ht⟩) hS.2.2 dX7_readStreet_123
              · have c_62 : x_42.toInt ≠ 0 := xI_ne rfl rfl c_62
                refine lv_aload_n hx hb dX7_readStreet_100 rfl (lv_at hl 2 rfl) ?_
                refine S_getR (n := 3) (C := RX7) (T := TX7) (N := 10) hx hb hg iX7 hown hK hW kd_5 rfl 0 (by decide) (hg (Cond.fieldLink RX7 26 "SlabWalk$Reader" "tokens" "LSlabWalk$Tokens;") m311) (fun _ h9 => h9) rfl dX7_readStreet_101 ?_
                refine S_getI (v := (G_38.1 3 3)) (C := RX9) (T := TX9) (N := 9) hx hb hg iX9 hown hK hW kd_3 rfl 3 (by decide) (hg (Cond.fieldLink RX7 62 "SlabWalk$Tokens" "kind" "I") m261) (fun _ h9 => h9) rfl rfl dX7_readStreet_104 ?_
                refine lv_sipush (v := 201) hx hb dX7_readStreet_107 (by decide) ?_
                refine lv_icmp_ne (tgt := 130) hx hb dX7_readStreet_110 (by decide) (fun c_71 => ?_) (fun c_71 => ?_)
                · have c_71 : (G_38.1 3 3).toInt ≠ 201 := xI_ne rfl rfl c_71
                  exact hJ_51 () _ _ _ ⟨G_38, hW, hB_G_38, hF, Fr.rf, hS, lv_sub hl [2] rfl⟩
                · have c_71 : (G_38.1 3 3).toInt = 201 := xI_eq rfl rfl c_71
                  refine lv_aload_n hx hb dX7_readStreet_113 rfl (lv_at hl 2 rfl) ?_
                  refine lv_iload_n hx hb dX7_readStreet_114 rfl (lv_at hl 0 rfl) ?_
                  refine lv_iload_n hx hb dX7_readStreet_115 rfl (lv_at hl 1 rfl) ?_
                  refine S_calli (va_runV (As := [.int x_42, .int (G_32.1 5 9)]) (rest := []) ⟨hx, hb, hml, hown, hts⟩ (k_rSlab_2 l D k A a z G_38 x_42 (G_32.1 5 9) ⟨by omega, by omega⟩ ⟨by omega, by omega⟩ ((((hq_39.r 5 5 (by decide) (by decide)).trans ((congrFun (congrFun (congrArg (fun q => q.2.2) eG_37) 5) 5).trans ((hq_33.r 5 5 (by decide) (by decide)).trans ((hq_25.r 5 5 (by decide) (by decide)).trans ((hq_19.r 5 5 (by decide) (by decide)).trans ((hq_13.r 5 5 (by decide) (by decide)).trans (hq_7.r 5 5 (by decide) (by decide))))))))).trans (hv_5_5)) (by omega)) (cwV 2 hts (gd_V hgd m799 m801 m13 m119 m802) rfl rfl rfl (by decide +kernel) ⟨Nat.le_of_ble_eq_true rfl, Nat.le_of_ble_eq_true rfl⟩) (pre_V hW hB_G_38 hK hZ hS kd_5 rfl) rfl rfl hl.1 rfl (lv_room (Nat.le_of_ble_eq_true rfl)) dX7_readStreet_116 ⟨Nat.le_of_ble_eq_true rfl, Nat.le_of_ble_eq_true rfl⟩) hS (fun r_72 G_73 H locs hpo hW hS => ?_)
                  obtain ⟨hB_G_73, hq_74, f_76⟩ := hpo
                  have hF := hF.call hq_74 (by decide) (by decide)
                  refine lv_if_ne (tgt := 124) hx hb dX7_readStreet_119 (by decide) (fun c_77 => ?_) (fun c_77 => ?_)
                  · have c_77 : r_72.toInt ≠ 0 := xI_ne rfl rfl c_77
                    obtain ⟨y_78, ey_78⟩ : ∃ q, q = x_42 + 1 := ⟨_, rfl⟩
                    have ty_78 : y_78.toInt = x_42.toInt + 1 := xI_add rfl rfl ey_78 (by omega) (by omega)
                    refine lv_iinc (v := y_78) (lv' := [(2, .int y_78), (1, .int (G_32.1 5 9)), (0, .ref (a 5))]) hx hb dX7_readStreet_124 hl (k := 0) rfl (by rw [ey_78]; rfl) (by decide) rfl (fun ls hl => ?_)
                    refine lv_goto (tgt := 89) hx hb dX7_readStreet_127 (by decide) ?_
                    have g_79 : (G_73.1 2 9).toInt = (G_38.1 2 9).toInt := by rw [show G_73.1 2 9 = (G_38.1 2 9) from ((hq_74.i 2 9 (by decide) (by decide)).trans (rfl))]
                    exact ih_40 (1600 - y_78.toInt : Int).toNat (by omega) _ _ _ ⟨G_73, y_78, (Int.toNat_of_nonneg (by omega)), ⟨by omega, by omega⟩, (by omega), hW, hB_G_73, hF, ((Fr.rf.call hq_39 (by decide) (by decide)).call hq_74 (by decide) (by decide)), hS, lv_sub hl [0, 1, 2] rfl⟩
                  · have c_77 : r_72.toInt = 0 := xI_eq rfl rfl c_77
                    refine lv_iconst (v := 0) hx hb dX7_readStreet_122 (by decide) ?_
                    exact W.zret (v := 0) hx hb hr (by decide) (fun t ht _ => ⟨⟨0, G_73, rfl, ⟨hB_G_73, hF, ⟨by decide, by decide⟩⟩, wd_t ht hW⟩, hS.F ht⟩) hS.2.2 dX7_readStreet_123
          · have c_36 : r_31.toInt = 0 := xI_eq rfl rfl c_36
            refine lv_iconst (v := 0) hx hb dX7_readStreet_64 (by decide) ?_
            exact W.zret (v := 0) hx hb hr (by decide) (fun t ht _ => ⟨⟨0, G_32, rfl, ⟨hB_G_32, hF, ⟨by decide, by decide⟩⟩, wd_t ht hW⟩, hS.F ht⟩) hS.2.2 dX7_readStreet_65
  refine lv_icmp_ge (tgt := 16) hx hb dX7_readStreet_9 (by decide) (fun c_80 => ?_) (fun c_80 => ?_)
  · have c_80 : 3 ≤ (G.1 2 9).toInt := xI_le rfl rfl c_80
    refine lv_iconst (v := 0) hx hb dX7_readStreet_16 (by decide) ?_
    have qc_81 : (0 : Int32).toInt = 0 := rfl
    exact hJ_6 0 _ _ _ ⟨G, ⟨by omega, by omega⟩, (by omega), hW, hB_G, hF, Fr.rf, hS, lv_sub hl [0] rfl⟩
  · have c_80 : (G.1 2 9).toInt < 3 := xI_nle rfl rfl c_80
    refine lv_iconst (v := 1) hx hb dX7_readStreet_12 (by decide) ?_
    refine lv_goto (tgt := 17) hx hb dX7_readStreet_13 (by decide) ?_
    have qc_82 : (1 : Int32).toInt = 1 := rfl
    exact hJ_6 1 _ _ _ ⟨G, ⟨by omega, by omega⟩, (by omega), hW, hB_G, hF, Fr.rf, hS, lv_sub hl [0] rfl⟩

set_option maxHeartbeats 4000000 in
set_option maxRecDepth 100000 in
theorem k_rWalker_2 (l : Launch) (D : va_G) (k : KT) (A : Nat → Prop) (a : Nat → Nat) (z : SK) (G : GS)  (hv_5_5 : G.2.2 5 5 = 2) : Met l yX7_readWalker (WS yX7_readWalker cX7_readWalker 2 (some .boolean)) ({ frames := 8, cells := 0, slots := 0, locals := 171 }) (va_Pc [.ref (a 5)] (cW D k A a z G)) (va_Qi (fun (r : Int32) (G1 : GS) => Bd G1 ∧ Fr [22, 23, 24, 25, 35] [(2, 10), (3, 2), (3, 3), (3, 4), (3, 5), (3, 6), (3, 7), (3, 8), (5, 9)] G G1 ∧ (0 ≤ r.toInt ∧ r.toInt ≤ 1)) (fun (G1 : GS) t => Wd D k A a G1 t.heap) A) 0 0 A := by
  refine Met.ofW (cc := cX7_readWalker) (maxL := 2) (ret := (some .boolean)) (by decide) rfl ?_
  intro p e s m args below meth c s₁ B hml hv
  obtain ⟨rfl, hW, hB_G, hK, hZ⟩ := hv
  have hx := B.exec
  have hb := B.bytes
  have hr := B.returns
  have hts := atoms_spec (ws := WS yX7_readWalker cX7_readWalker 2 (some .boolean)) B.pre
  have hgd : ∀ w ∈ gd, w ∈ WS yX7_readWalker cX7_readWalker 2 (some .boolean) := fun w h => List.mem_cons_of_mem _ h
  have hg : ∀ w ∈ gd, w.before _ s = true := fun w h => hts w (hgd w h)
  have hown : s.vm.findClass RX7 = some m.cls := findClass_of_methodNamed B.named
  have hS : va_S A s.heap s.heap [] := va_S.rf
  have hF : Fr [22, 23, 24, 25, 35] [(2, 10), (3, 2), (3, 3), (3, 4), (3, 5), (3, 6), (3, 7), (3, 8), (5, 9)] G G := Fr.rf
  have hl := lv_entry ([.ref (a 5)]) (n := 2) (Nat.le_of_ble_eq_true rfl)
  rw [lg_entry_eq]
  generalize (lg_sl ([.ref (a 5)]) ++ List.replicate (2 - (lg_sl ([.ref (a 5)])).length) Slot.unset).toArray = ls at hl ⊢
  have hl : lv_has ls 2 [(0, .ref (a 5))] := hl
  refine lv_aload_n hx hb dX7_readWalker_0 rfl (lv_at hl 0 rfl) ?_
  refine S_getV (n := 2) (C := RX7) (T := TX7) (N := 10) hx hb hg iX7 hown hK hW kd_5 rfl 5 (by decide) (hg (Cond.fieldLink RX7 39 "SlabWalk$Reader" "paving" "LSlabWalk$Paving;") m317) (fun _ h9 => h9) rfl hv_5_5 dX7_readWalker_1 ?_
  have b_1 : 0 ≤ (G.1 2 10).toInt ∧ (G.1 2 10).toInt ≤ 4 := hB_G.i 2 10 rfl rfl
  refine S_getI (v := (G.1 2 10)) (C := RX6) (T := TX6) (N := 17) hx hb hg iX6 hown hK hW kd_2 rfl 10 (by decide) (hg (Cond.fieldLink RX7 138 "SlabWalk$Paving" "walkers" "I") m190) (fun _ h9 => h9) rfl rfl dX7_readWalker_4 ?_
  refine lv_istore_n (lv' := [(1, .int (G.1 2 10)), (0, .ref (a 5))]) hx hb dX7_readWalker_7 rfl hl (by decide) rfl (fun ls hl => ?_)
  refine lv_aload_n hx hb dX7_readWalker_8 rfl (lv_at hl 1 rfl) ?_
  refine lv_iload_n hx hb dX7_readWalker_9 rfl (lv_at hl 0 rfl) ?_
  refine lv_iconst (v := 4) hx hb dX7_readWalker_10 (by decide) ?_
  refine W.cut (σ := Int32) (pcJ := 19) (J := fun y H locs ls => ∃ (G_6 : GS), (0 ≤ y.toInt ∧ y.toInt ≤ 1) ∧ (y.toInt = 0 ∨ (G.1 2 10).toInt < 4) ∧ Wd D k A a G_6 H ∧ Bd G_6 ∧ Fr [22, 23, 24, 25, 35] [(2, 10), (3, 2), (3, 3), (3, 4), (3, 5), (3, 6), (3, 7), (3, 8), (5, 9)] G G_6 ∧ Fr [] [] G G_6 ∧ va_S A s.heap H locs ∧ lv_has ls 2 [(1, .int (G.1 2 10)), (0, .ref (a 5))]) (stJ := fun y => [.int y, .ref (a 5)]) ?_ (fun hJ_7 => ?_)
  · intro y H locs ls hI
    obtain ⟨w_4, hy⟩ : ∃ q, q = y := ⟨_, rfl⟩
    subst hy
    obtain ⟨G_6, f_9, f_10, hW, hB_G_6, hF, hq_8, hS, hl⟩ := hI
    refine S_calli (va_runV (As := [.int w_4]) (rest := []) ⟨hx, hb, hml, hown, hts⟩ (k_rFirst l D k A a z G_6 w_4 ⟨by omega, by omega⟩) (cwV 1 hts (gd_V hgd m773 m775 m9 m119 m776) rfl rfl rfl (by decide +kernel) ⟨Nat.le_of_ble_eq_true rfl, Nat.le_of_ble_eq_true rfl⟩) (pre_V hW hB_G_6 hK hZ hS kd_5 rfl) rfl rfl hl.1 rfl (lv_room (Nat.le_of_ble_eq_true rfl)) dX7_readWalker_19 ⟨Nat.le_of_ble_eq_true rfl, Nat.le_of_ble_eq_true rfl⟩) hS (fun r_11 G_12 H locs hpo hW hS => ?_)
    obtain ⟨hB_G_12, hq_13, f_15, hp_14⟩ := hpo
    have hF := hF.call hq_13 (by decide) (by decide)
    refine lv_if_eq (tgt := 60) hx hb dX7_readWalker_22 (by decide) (fun c_16 => ?_) (fun c_16 => ?_)
    · have c_16 : r_11.toInt = 0 := xI_eq rfl rfl c_16
      refine lv_iconst (v := 0) hx hb dX7_readWalker_60 (by decide) ?_
      exact W.zret (v := 0) hx hb hr (by decide) (fun t ht _ => ⟨⟨0, G_12, rfl, ⟨hB_G_12, hF, ⟨by decide, by decide⟩⟩, wd_t ht hW⟩, hS.F ht⟩) hS.2.2 dX7_readWalker_61
    · have c_16 : r_11.toInt ≠ 0 := xI_ne rfl rfl c_16
      refine lv_aload_n hx hb dX7_readWalker_25 rfl (lv_at hl 1 rfl) ?_
      refine lv_aload_n hx hb dX7_readWalker_26 rfl (lv_at hl 1 rfl) ?_
      refine S_getR (n := 35) (C := RX7) (T := TX7) (N := 10) hx hb hg iX7 hown hK hW kd_5 rfl 3 (by decide) (hg (Cond.fieldLink RX7 15 "SlabWalk$Reader" "walkerNames" "[J") m315) (fun _ h9 => h9) rfl dX7_readWalker_27 ?_
      refine lv_iload_n hx hb dX7_readWalker_30 rfl (lv_at hl 0 rfl) ?_
      refine S_calli (va_runV (As := [.ref (a 35), .int (G.1 2 10)]) (rest := []) ⟨hx, hb, hml, hown, hts⟩ (k_rName_35 l D k A a z G_12 (G.1 2 10) ⟨by omega, by omega⟩) (cwV 2 hts (gd_V hgd m782 m784 m10 m119 m785) rfl rfl rfl (by decide +kernel) ⟨Nat.le_of_ble_eq_true rfl, Nat.le_of_ble_eq_true rfl⟩) (pre_V hW hB_G_12 hK hZ hS kd_5 rfl) rfl rfl hl.1 rfl (lv_room (Nat.le_of_ble_eq_true rfl)) dX7_readWalker_31 ⟨Nat.le_of_ble_eq_true rfl, Nat.le_of_ble_eq_true rfl⟩) hS (fun r_17 G_18 H locs hpo hW hS => ?_)
      obtain ⟨hB_G_18, hq_19, f_21⟩ := hpo
      have hF := hF.call hq_19 (by decide) (by decide)
      refine lv_if_eq (tgt := 60) hx hb dX7_readWalker_34 (by decide) (fun c_22 => ?_) (fun c_22 => ?_)
      · have c_22 : r_17.toInt = 0 := xI_eq rfl rfl c_22
        refine lv_iconst (v := 0) hx hb dX7_readWalker_60 (by decide) ?_
        exact W.zret (v := 0) hx hb hr (by decide) (fun t ht _ => ⟨⟨0, G_18, rfl, ⟨hB_G_18, hF, ⟨by decide, by decide⟩⟩, wd_t ht hW⟩, hS.F ht⟩) hS.2.2 dX7_readWalker_61
      · have c_22 : r_17.toInt ≠ 0 := xI_ne rfl rfl c_22
        refine lv_aload_n hx hb dX7_readWalker_37 rfl (lv_at hl 1 rfl) ?_
        refine S_getR (n := 3) (C := RX7) (T := TX7) (N := 10) hx hb hg iX7 hown hK hW kd_5 rfl 0 (by decide) (hg (Cond.fieldLink RX7 26 "SlabWalk$Reader" "tokens" "LSlabWalk$Tokens;") m311) (fun _ h9 => h9) rfl dX7_readWalker_38 ?_
        refine lv_sipush (v := 130) hx hb dX7_readWalker_41 (by decide) ?_
        refine S_calli (va_runV (As := [.int 130]) (rest := []) ⟨hx, hb, hml, hown, hts⟩ (k_tPass l D k A a z G_18 130 ) (cwV 1 hts (gd_V hgd m786 m787 m788 m120 m789) rfl rfl rfl (by decide +kernel) ⟨Nat.le_of_ble_eq_true rfl, Nat.le_of_ble_eq_true rfl⟩) (pre_V hW hB_G_18 hK hZ hS kd_3 rfl) rfl rfl hl.1 rfl (lv_room (Nat.le_of_ble_eq_true rfl)) dX7_readWalker_44 ⟨Nat.le_of_ble_eq_true rfl, Nat.le_of_ble_eq_true rfl⟩) hS (fun r_23 G_24 H locs hpo hW hS => ?_)
        obtain ⟨hB_G_24, hq_25, f_27⟩ := hpo
        have hF := hF.call hq_25 (by decide) (by decide)
        refine lv_if_eq (tgt := 60) hx hb dX7_readWalker_47 (by decide) (fun c_28 => ?_) (fun c_28 => ?_)
        · have c_28 : r_23.toInt = 0 := xI_eq rfl rfl c_28
          refine lv_iconst (v := 0) hx hb dX7_readWalker_60 (by decide) ?_
          exact W.zret (v := 0) hx hb hr (by decide) (fun t ht _ => ⟨⟨0, G_24, rfl, ⟨hB_G_24, hF, ⟨by decide, by decide⟩⟩, wd_t ht hW⟩, hS.F ht⟩) hS.2.2 dX7_readWalker_61
        · have c_28 : r_23.toInt ≠ 0 := xI_ne rfl rfl c_28
          refine lv_aload_n hx hb dX7_readWalker_50 rfl (lv_at hl 1 rfl) ?_
          refine lv_iconst (v := 1) hx hb dX7_readWalker_51 (by decide) ?_
          refine lv_bipush (v := 12) hx hb dX7_readWalker_52 (by decide) ?_
          have qc_29 : (1 : Int32).toInt = 1 := rfl
          have qc_30 : (12 : Int32).toInt = 12 := rfl
          refine S_calli (va_runV (As := [.int 1, .int 12]) (rest := []) ⟨hx, hb, hml, hown, hts⟩ (k_rNum l D k A a z G_24 1 12 ) (cwV 2 hts (gd_V hgd m791 m793 m11 m119 m794) rfl rfl rfl (by decide +kernel) ⟨Nat.le_of_ble_eq_true rfl, Nat.le_of_ble_eq_true rfl⟩) (pre_V hW hB_G_24 hK hZ hS kd_5 rfl) rfl rfl hl.1 rfl (lv_room (Nat.le_of_ble_eq_true rfl)) dX7_readWalker_54 ⟨Nat.le_of_ble_eq_true rfl, Nat.le_of_ble_eq_true rfl⟩) hS (fun r_31 G_32 H locs hpo hW hS => ?_)
          obtain ⟨hB_G_32, hq_33, f_35, hp_34⟩ := hpo
          have hF := hF.call hq_33 (by decide) (by decide)
          refine lv_if_ne (tgt := 62) hx hb dX7_readWalker_57 (by decide) (fun c_36 => ?_) (fun c_36 => ?_)
          · have c_36 : r_31.toInt ≠ 0 := xI_ne rfl rfl c_36
            refine lv_aload_n hx hb dX7_readWalker_62 rfl (lv_at hl 1 rfl) ?_
            refine S_getV (n := 2) (C := RX7) (T := TX7) (N := 10) hx hb hg iX7 hown hK hW kd_5 rfl 5 (by decide) (hg (Cond.fieldLink RX7 39 "SlabWalk$Reader" "paving" "LSlabWalk$Paving;") m317) (fun _ h9 => h9) rfl ((((hq_33.r 5 5 (by decide) (by decide)).trans ((hq_25.r 5 5 (by decide) (by decide)).trans ((hq_19.r 5 5 (by decide) (by decide)).trans ((hq_13.r 5 5 (by decide) (by decide)).trans (hq_8.r 5 5 (by decide) (by decide))))))).trans (hv_5_5)) dX7_readWalker_63 ?_
            refine S_getR (n := 22) (C := RX6) (T := TX6) (N := 17) hx hb hg iX6 hown hK hW kd_2 rfl 2 (by decide) (hg (Cond.fieldLink RX7 141 "SlabWalk$Paving" "foot" "[I") m165) (fun _ h9 => h9) rfl dX7_readWalker_66 ?_
            refine lv_iload_n hx hb dX7_readWalker_69 rfl (lv_at hl 0 rfl) ?_
            refine lv_aload_n hx hb dX7_readWalker_70 rfl (lv_at hl 1 rfl) ?_
            refine S_getI (v := (G_32.1 5 9)) (C := RX7) (T := TX7) (N := 10) hx hb hg iX7 hown hK hW kd_5 rfl 9 (by decide) (hg (Cond.fieldLink RX7 99 "SlabWalk$Reader" "number" "I") m321) (fun _ h9 => h9) rfl rfl dX7_readWalker_71 ?_
            refine S_iast hx hb hK hW hS kd_22 (vin (by omega) (by omega)) dX7_readWalker_74 (fun G_37 H locs eG_37 hW hS => ?_)
            have hB_G_37 : Bd G_37 := hB_G_32.put (V := (G_32.1 5 9).toInt) (lo := 0) (hi := 12) eG_37 rfl rfl rfl (by omega) (by omega) (hB_G_32.2.out (P := 2) eG_37 (by decide) (by decide) (by rw [show G_32.1 2 10 = (G.1 2 10) from ((hq_33.i 2 10 (by decide) (by decide)).trans ((hq_25.i 2 10 (by decide) (by decide)).trans ((hq_19.i 2 10 (by decide) (by decide)).trans ((hq_13.i 2 10 (by decide) (by decide)).trans ((hq_8.i 2 10 (by decide) (by decide)).trans (rfl)))))), tN (by omega)]; omega))
            have hF := hF.put eG_37 (Or.inl (by decide))
            refine lv_aload_n hx hb dX7_readWalker_75 rfl (lv_at hl 1 rfl) ?_
            refine S_getR (n := 3) (C := RX7) (T := TX7) (N := 10) hx hb hg iX7 hown hK hW kd_5 rfl 0 (by decide) (hg (Cond.fieldLink RX7 26 "SlabWalk$Reader" "tokens" "LSlabWalk$Tokens;") m311) (fun _ h9 => h9) rfl dX7_readWalker_76 ?_
            refine lv_sipush (v := 131) hx hb dX7_readWalker_79 (by decide) ?_
            refine S_calli (va_runV (As := [.int 131]) (rest := []) ⟨hx, hb, hml, hown, hts⟩ (k_tPass l D k A a z G_37 131 ) (cwV 1 hts (gd_V hgd m786 m787 m788 m120 m789) rfl rfl rfl (by decide +kernel) ⟨Nat.le_of_ble_eq_true rfl, Nat.le_of_ble_eq_true rfl⟩) (pre_V hW hB_G_37 hK hZ hS kd_3 rfl) rfl rfl hl.1 rfl (lv_room (Nat.le_of_ble_eq_true rfl)) dX7_readWalker_82 ⟨Nat.le_of_ble_eq_true rfl, Nat.le_of_ble_eq_true rfl⟩) hS (fun r_38 G_39 H locs hpo hW hS => ?_)
            obtain ⟨hB_G_39, hq_40, f_42⟩ := hpo
            have hF := hF.call hq_40 (by decide) (by decide)
            refine lv_if_eq (tgt := 98) hx hb dX7_readWalker_85 (by decide) (fun c_43 => ?_) (fun c_43 => ?_)
            · have c_43 : r_38.toInt = 0 := xI_eq rfl rfl c_43
              refine lv_iconst (v := 0) hx hb dX7_readWalker_98 (by decide) ?_
              exact W.zret (v := 0) hx hb hr (by decide) (fun t ht _ => ⟨⟨0, G_39, rfl, ⟨hB_G_39, hF, ⟨by decide, by decide⟩⟩, wd_t ht hW⟩, hS.F ht⟩) hS.2.2 dX7_readWalker_99
            · have c_43 : r_38.toInt ≠ 0 := xI_ne rfl rfl c_43
              refine lv_aload_n hx hb dX7_readWalker_88 rfl (lv_at hl 1 rfl) ?_
              refine lv_iconst (v := 1) hx hb dX7_readWalker_89 (by decide) ?_
              refine lv_bipush (v := 60) hx hb dX7_readWalker_90 (by decide) ?_
              have qc_44 : (1 : Int32).toInt = 1 := rfl
              have qc_45 : (60 : Int32).toInt = 60 := rfl
              refine S_calli (va_runV (As := [.int 1, .int 60]) (rest := []) ⟨hx, hb, hml, hown, hts⟩ (k_rNum l D k A a z G_39 1 60 ) (cwV 2 hts (gd_V hgd m791 m793 m11 m119 m794) rfl rfl rfl (by decide +kernel) ⟨Nat.le_of_ble_eq_true rfl, Nat.le_of_ble_eq_true rfl⟩) (pre_V hW hB_G_39 hK hZ hS kd_5 rfl) rfl rfl hl.1 rfl (lv_room (Nat.le_of_ble_eq_true rfl)) dX7_readWalker_92 ⟨Nat.le_of_ble_eq_true rfl, Nat.le_of_ble_eq_true rfl⟩) hS (fun r_46 G_47 H locs hpo hW hS => ?_)
              obtain ⟨hB_G_47, hq_48, f_50, hp_49⟩ := hpo
              have hF := hF.call hq_48 (by decide) (by decide)
              refine lv_if_ne (tgt := 100) hx hb dX7_readWalker_95 (by decide) (fun c_51 => ?_) (fun c_51 => ?_)
              · have c_51 : r_46.toInt ≠ 0 := xI_ne rfl rfl c_51
                refine lv_aload_n hx hb dX7_readWalker_100 rfl (lv_at hl 1 rfl) ?_
                refine S_getV (n := 2) (C := RX7) (T := TX7) (N := 10) hx hb hg iX7 hown hK hW kd_5 rfl 5 (by decide) (hg (Cond.fieldLink RX7 39 "SlabWalk$Reader" "paving" "LSlabWalk$Paving;") m317) (fun _ h9 => h9) rfl ((((hq_48.r 5 5 (by decide) (by decide)).trans ((hq_40.r 5 5 (by decide) (by decide)).trans ((congrFun (congrFun (congrArg (fun q => q.2.2) eG_37) 5) 5).trans ((hq_33.r 5 5 (by decide) (by decide)).trans ((hq_25.r 5 5 (by decide) (by decide)).trans ((hq_19.r 5 5 (by decide) (by decide)).trans ((hq_13.r 5 5 (by decide) (by decide)).trans (hq_8.r 5 5 (by decide) (by decide)))))))))).trans (hv_5_5)) dX7_readWalker_101 ?_
                refine S_getR (n := 23) (C := RX6) (T := TX6) (N := 17) hx hb hg iX6 hown hK hW kd_2 rfl 3 (by decide) (hg (Cond.fieldLink RX7 144 "SlabWalk$Paving" "least" "[I") m168) (fun _ h9 => h9) rfl dX7_readWalker_104 ?_
                refine lv_iload_n hx hb dX7_readWalker_107 rfl (lv_at hl 0 rfl) ?_
                refine lv_aload_n hx hb dX7_readWalker_108 rfl (lv_at hl 1 rfl) ?_
                refine S_getI (v := (G_47.1 5 9)) (C := RX7) (T := TX7) (N := 10) hx hb hg iX7 hown hK hW kd_5 rfl 9 (by decide) (hg (Cond.fieldLink RX7 99 "SlabWalk$Reader" "number" "I") m321) (fun _ h9 => h9) rfl rfl dX7_readWalker_109 ?_
                refine S_iast hx hb hK hW hS kd_23 (vin (by omega) (by omega)) dX7_readWalker_112 (fun G_52 H locs eG_52 hW hS => ?_)
                have hB_G_52 : Bd G_52 := hB_G_47.put (V := (G_47.1 5 9).toInt) (lo := 0) (hi := 60) eG_52 rfl rfl rfl (by omega) (by omega) (hB_G_47.2.out (P := 2) eG_52 (by decide) (by decide) (by rw [show G_47.1 2 10 = (G.1 2 10) from ((hq_48.i 2 10 (by decide) (by decide)).trans ((hq_40.i 2 10 (by decide) (by decide)).trans ((gp_ne eG_37 (fun q => absurd q.1 (by decide))).trans ((hq_33.i 2 10 (by decide) (by decide)).trans ((hq_25.i 2 10 (by decide) (by decide)).trans ((hq_19.i 2 10 (by decide) (by decide)).trans ((hq_13.i 2 10 (by decide) (by decide)).trans ((hq_8.i 2 10 (by decide) (by decide)).trans (rfl))))))))), tN (by omega)]; omega))
                have hF := hF.put eG_52 (Or.inl (by decide))
                refine lv_aload_n hx hb dX7_readWalker_113 rfl (lv_at hl 1 rfl) ?_
                refine S_getR (n := 3) (C := RX7) (T := TX7) (N := 10) hx hb hg iX7 hown hK hW kd_5 rfl 0 (by decide) (hg (Cond.fieldLink RX7 26 "SlabWalk$Reader" "tokens" "LSlabWalk$Tokens;") m311) (fun _ h9 => h9) rfl dX7_readWalker_114 ?_
                refine lv_sipush (v := 132) hx hb dX7_readWalker_117 (by decide) ?_
                refine S_calli (va_runV (As := [.int 132]) (rest := []) ⟨hx, hb, hml, hown, hts⟩ (k_tPass l D k A a z G_52 132 ) (cwV 1 hts (gd_V hgd m786 m787 m788 m120 m789) rfl rfl rfl (by decide +kernel) ⟨Nat.le_of_ble_eq_true rfl, Nat.le_of_ble_eq_true rfl⟩) (pre_V hW hB_G_52 hK hZ hS kd_3 rfl) rfl rfl hl.1 rfl (lv_room (Nat.le_of_ble_eq_true rfl)) dX7_readWalker_120 ⟨Nat.le_of_ble_eq_true rfl, Nat.le_of_ble_eq_true rfl⟩) hS (fun r_53 G_54 H locs hpo hW hS => ?_)
                obtain ⟨hB_G_54, hq_55, f_57⟩ := hpo
                have hF := hF.call hq_55 (by decide) (by decide)
                refine lv_if_eq (tgt := 144) hx hb dX7_readWalker_123 (by decide) (fun c_58 => ?_) (fun c_58 => ?_)
                · have c_58 : r_53.toInt = 0 := xI_eq rfl rfl c_58
                  refine lv_iconst (v := 0) hx hb dX7_readWalker_144 (by decide) ?_
                  exact W.zret (v := 0) hx hb hr (by decide) (fun t ht _ => ⟨⟨0, G_54, rfl, ⟨hB_G_54, hF, ⟨by decide, by decide⟩⟩, wd_t ht hW⟩, hS.F ht⟩) hS.2.2 dX7_readWalker_145
                · have c_58 : r_53.toInt ≠ 0 := xI_ne rfl rfl c_58
                  refine lv_aload_n hx hb dX7_readWalker_126 rfl (lv_at hl 1 rfl) ?_
                  refine lv_aload_n hx hb dX7_readWalker_127 rfl (lv_at hl 1 rfl) ?_
                  refine S_getV (n := 2) (C := RX7) (T := TX7) (N := 10) hx hb hg iX7 hown hK hW kd_5 rfl 5 (by decide) (hg (Cond.fieldLink RX7 39 "SlabWalk$Reader" "paving" "LSlabWalk$Paving;") m317) (fun _ h9 => h9) rfl ((((hq_55.r 5 5 (by decide) (by decide)).trans ((congrFun (congrFun (congrArg (fun q => q.2.2) eG_52) 5) 5).trans ((hq_48.r 5 5 (by decide) (by decide)).trans ((hq_40.r 5 5 (by decide) (by decide)).trans ((congrFun (congrFun (congrArg (fun q => q.2.2) eG_37) 5) 5).trans ((hq_33.r 5 5 (by decide) (by decide)).trans ((hq_25.r 5 5 (by decide) (by decide)).trans ((hq_19.r 5 5 (by decide) (by decide)).trans ((hq_13.r 5 5 (by decide) (by decide)).trans (hq_8.r 5 5 (by decide) (by decide)))))))))))).trans (hv_5_5)) dX7_readWalker_128 ?_
                  refine S_getR (n := 23) (C := RX6) (T := TX6) (N := 17) hx hb hg iX6 hown hK hW kd_2 rfl 3 (by decide) (hg (Cond.fieldLink RX7 144 "SlabWalk$Paving" "least" "[I") m168) (fun _ h9 => h9) rfl dX7_readWalker_131 ?_
                  refine lv_iload_n hx hb dX7_readWalker_134 rfl (lv_at hl 0 rfl) ?_
                  refine S_iald hx hb hK hW kd_23 (vin (by omega) (by omega)) dX7_readWalker_135 (fun y_59 ey_59 => ?_)
                  have ty_59 : 0 ≤ y_59.toInt ∧ y_59.toInt ≤ 60 := hB_G_54.v ey_59 rfl rfl
                  refine lv_bipush (v := 60) hx hb dX7_readWalker_136 (by decide) ?_
                  have qc_60 : (60 : Int32).toInt = 60 := rfl
                  refine S_calli (va_runV (As := [.int y_59, .int 60]) (rest := []) ⟨hx, hb, hml, hown, hts⟩ (k_rNum l D k A a z G_54 y_59 60 ) (cwV 2 hts (gd_V hgd m791 m793 m11 m119 m794) rfl rfl rfl (by decide +kernel) ⟨Nat.le_of_ble_eq_true rfl, Nat.le_of_ble_eq_true rfl⟩) (pre_V hW hB_G_54 hK hZ hS kd_5 rfl) rfl rfl hl.1 rfl (lv_room (Nat.le_of_ble_eq_true rfl)) dX7_readWalker_138 ⟨Nat.le_of_ble_eq_true rfl, Nat.le_of_ble_eq_true rfl⟩) hS (fun r_61 G_62 H locs hpo hW hS => ?_)
                  obtain ⟨hB_G_62, hq_63, f_65, hp_64⟩ := hpo
                  have hF := hF.call hq_63 (by decide) (by decide)
                  refine lv_if_ne (tgt := 146) hx hb dX7_readWalker_141 (by decide) (fun c_66 => ?_) (fun c_66 => ?_)
                  · have c_66 : r_61.toInt ≠ 0 := xI_ne rfl rfl c_66
                    refine lv_aload_n hx hb dX7_readWalker_146 rfl (lv_at hl 1 rfl) ?_
                    refine S_getV (n := 2) (C := RX7) (T := TX7) (N := 10) hx hb hg iX7 hown hK hW kd_5 rfl 5 (by decide) (hg (Cond.fieldLink RX7 39 "SlabWalk$Reader" "paving" "LSlabWalk$Paving;") m317) (fun _ h9 => h9) rfl ((((hq_63.r 5 5 (by decide) (by decide)).trans ((hq_55.r 5 5 (by decide) (by decide)).trans ((congrFun (congrFun (congrArg (fun q => q.2.2) eG_52) 5) 5).trans ((hq_48.r 5 5 (by decide) (by decide)).trans ((hq_40.r 5 5 (by decide) (by decide)).trans ((congrFun (congrFun (congrArg (fun q => q.2.2) eG_37) 5) 5).trans ((hq_33.r 5 5 (by decide) (by decide)).trans ((hq_25.r 5 5 (by decide) (by decide)).trans ((hq_19.r 5 5 (by decide) (by decide)).trans ((hq_13.r 5 5 (by decide) (by decide)).trans (hq_8.r 5 5 (by decide) (by decide))))))))))))).trans (hv_5_5)) dX7_readWalker_147 ?_
                    refine S_getR (n := 24) (C := RX6) (T := TX6) (N := 17) hx hb hg iX6 hown hK hW kd_2 rfl 4 (by decide) (hg (Cond.fieldLink RX7 147 "SlabWalk$Paving" "most" "[I") m172) (fun _ h9 => h9) rfl dX7_readWalker_150 ?_
                    refine lv_iload_n hx hb dX7_readWalker_153 rfl (lv_at hl 0 rfl) ?_
                    refine lv_aload_n hx hb dX7_readWalker_154 rfl (lv_at hl 1 rfl) ?_
                    refine S_getI (v := (G_62.1 5 9)) (C := RX7) (T := TX7) (N := 10) hx hb hg iX7 hown hK hW kd_5 rfl 9 (by decide) (hg (Cond.fieldLink RX7 99 "SlabWalk$Reader" "number" "I") m321) (fun _ h9 => h9) rfl rfl dX7_readWalker_155 ?_
                    refine S_iast hx hb hK hW hS kd_24 (vin (by omega) (by omega)) dX7_readWalker_158 (fun G_67 H locs eG_67 hW hS => ?_)
                    have hB_G_67 : Bd G_67 := hB_G_62.put (V := (G_62.1 5 9).toInt) (lo := 0) (hi := 60) eG_67 rfl rfl rfl (by omega) (by omega) (hB_G_62.2.out (P := 2) eG_67 (by decide) (by decide) (by rw [show G_62.1 2 10 = (G.1 2 10) from ((hq_63.i 2 10 (by decide) (by decide)).trans ((hq_55.i 2 10 (by decide) (by decide)).trans ((gp_ne eG_52 (fun q => absurd q.1 (by decide))).trans ((hq_48.i 2 10 (by decide) (by decide)).trans ((hq_40.i 2 10 (by decide) (by decide)).trans ((gp_ne eG_37 (fun q => absurd q.1 (by decide))).trans ((hq_33.i 2 10 (by decide) (by decide)).trans ((hq_25.i 2 10 (by decide) (by decide)).trans ((hq_19.i 2 10 (by decide) (by decide)).trans ((hq_13.i 2 10 (by decide) (by decide)).trans ((hq_8.i 2 10 (by decide) (by decide)).trans (rfl)))))))))))), tN (by omega)]; omega))
                    have hF := hF.put eG_67 (Or.inl (by decide))
                    refine lv_aload_n hx hb dX7_readWalker_159 rfl (lv_at hl 1 rfl) ?_
                    refine S_getR (n := 3) (C := RX7) (T := TX7) (N := 10) hx hb hg iX7 hown hK hW kd_5 rfl 0 (by decide) (hg (Cond.fieldLink RX7 26 "SlabWalk$Reader" "tokens" "LSlabWalk$Tokens;") m311) (fun _ h9 => h9) rfl dX7_readWalker_160 ?_
                    refine S_getI (v := (G_62.1 3 3)) (C := RX9) (T := TX9) (N := 9) hx hb hg iX9 hown hK hW kd_3 rfl 3 (by decide) (hg (Cond.fieldLink RX7 62 "SlabWalk$Tokens" "kind" "I") m261) (fun _ h9 => h9) rfl (gp_ne eG_67 (fun q => absurd q.1 (by decide))) dX7_readWalker_163 ?_
                    refine lv_sipush (v := 133) hx hb dX7_readWalker_166 (by decide) ?_
                    refine W.cut (σ := Unit) (pcJ := 207) (J := fun y H locs ls => ∃ (G_70 : GS), (0 ≤ (G_70.1 5 9).toInt ∧ (G_70.1 5 9).toInt ≤ 99) ∧ Wd D k A a G_70 H ∧ Bd G_70 ∧ Fr [22, 23, 24, 25, 35] [(2, 10), (3, 2), (3, 3), (3, 4), (3, 5), (3, 6), (3, 7), (3, 8), (5, 9)] G G_70 ∧ Fr [] [(3, 2), (3, 3), (3, 4), (3, 5), (3, 6), (3, 7), (3, 8), (5, 9)] G_67 G_70 ∧ va_S A s.heap H locs ∧ lv_has ls 2 [(1, .int (G.1 2 10)), (0, .ref (a 5))]) (stJ := fun _ => []) ?_ (fun hJ_71 => ?_)
                    · intro y H locs ls hI
                      obtain ⟨G_70, f_73, hW, hB_G_70, hF, hq_72, hS, hl⟩ := hI
                      refine lv_aload_n hx hb dX7_readWalker_207 rfl (lv_at hl 1 rfl) ?_
                      refine S_getV (n := 2) (C := RX7) (T := TX7) (N := 10) hx hb hg iX7 hown hK hW kd_5 rfl 5 (by decide) (hg (Cond.fieldLink RX7 39 "SlabWalk$Reader" "paving" "LSlabWalk$Paving;") m317) (fun _ h9 => h9) rfl ((((hq_72.r 5 5 (by decide) (by decide)).trans ((congrFun (congrFun (congrArg (fun q => q.2.2) eG_67) 5) 5).trans ((hq_63.r 5 5 (by decide) (by decide)).trans ((hq_55.r 5 5 (by decide) (by decide)).trans ((congrFun (congrFun (congrArg (fun q => q.2.2) eG_52) 5) 5).trans ((hq_48.r 5 5 (by decide) (by decide)).trans ((hq_40.r 5 5 (by decide) (by decide)).trans ((congrFun (congrFun (congrArg (fun q => q.2.2) eG_37) 5) 5).trans ((hq_33.r 5 5 (by decide) (by decide)).trans ((hq_25.r 5 5 (by decide) (by decide)).trans ((hq_19.r 5 5 (by decide) (by decide)).trans ((hq_13.r 5 5 (by decide) (by decide)).trans (hq_8.r 5 5 (by decide) (by decide))))))))))))))).trans (hv_5_5)) dX7_readWalker_208 ?_
                      refine S_getR (n := 25) (C := RX6) (T := TX6) (N := 17) hx hb hg iX6 hown hK hW kd_2 rfl 5 (by decide) (hg (Cond.fieldLink RX7 150 "SlabWalk$Paving" "leap" "[I") m176) (fun _ h9 => h9) rfl dX7_readWalker_211 ?_
                      refine lv_iload_n hx hb dX7_readWalker_214 rfl (lv_at hl 0 rfl) ?_
                      refine lv_aload_n hx hb dX7_readWalker_215 rfl (lv_at hl 1 rfl) ?_
                      refine S_getI (v := (G_70.1 5 9)) (C := RX7) (T := TX7) (N := 10) hx hb hg iX7 hown hK hW kd_5 rfl 9 (by decide) (hg (Cond.fieldLink RX7 99 "SlabWalk$Reader" "number" "I") m321) (fun _ h9 => h9) rfl rfl dX7_readWalker_216 ?_
                      refine S_iast hx hb hK hW hS kd_25 (vin (by omega) (by omega)) dX7_readWalker_219 (fun G_74 H locs eG_74 hW hS => ?_)
                      have hB_G_74 : Bd G_74 := hB_G_70.put (V := (G_70.1 5 9).toInt) (lo := 0) (hi := 99) eG_74 rfl rfl rfl (by omega) (by omega) (hB_G_70.2.put eG_74 rfl)
                      have hF := hF.put eG_74 (Or.inl (by decide))
                      refine lv_aload_n hx hb dX7_readWalker_220 rfl (lv_at hl 1 rfl) ?_
                      refine S_getV (n := 2) (C := RX7) (T := TX7) (N := 10) hx hb hg iX7 hown hK hW kd_5 rfl 5 (by decide) (hg (Cond.fieldLink RX7 39 "SlabWalk$Reader" "paving" "LSlabWalk$Paving;") m317) (fun _ h9 => h9) rfl ((((congrFun (congrFun (congrArg (fun q => q.2.2) eG_74) 5) 5).trans ((hq_72.r 5 5 (by decide) (by decide)).trans ((congrFun (congrFun (congrArg (fun q => q.2.2) eG_67) 5) 5).trans ((hq_63.r 5 5 (by decide) (by decide)).trans ((hq_55.r 5 5 (by decide) (by decide)).trans ((congrFun (congrFun (congrArg (fun q => q.2.2) eG_52) 5) 5).trans ((hq_48.r 5 5 (by decide) (by decide)).trans ((hq_40.r 5 5 (by decide) (by decide)).trans ((congrFun (congrFun (congrArg (fun q => q.2.2) eG_37) 5) 5).trans ((hq_33.r 5 5 (by decide) (by decide)).trans ((hq_25.r 5 5 (by decide) (by decide)).trans ((hq_19.r 5 5 (by decide) (by decide)).trans ((hq_13.r 5 5 (by decide) (by decide)).trans (hq_8.r 5 5 (by decide) (by decide)))))))))))))))).trans (hv_5_5)) dX7_readWalker_221 ?_
                      refine lv_dup hx hb dX7_readWalker_224 rfl ?_
                      refine S_getI (v := (G.1 2 10)) (C := RX6) (T := TX6) (N := 17) hx hb hg iX6 hown hK hW kd_2 rfl 10 (by decide) (hg (Cond.fieldLink RX7 138 "SlabWalk$Paving" "walkers" "I") m190) (fun _ h9 => h9) rfl ((gp_ne eG_74 (fun q => absurd q.1 (by decide))).trans ((hq_72.i 2 10 (by decide) (by decide)).trans ((gp_ne eG_67 (fun q => absurd q.1 (by decide))).trans ((hq_63.i 2 10 (by decide) (by decide)).trans ((hq_55.i 2 10 (by decide) (by decide)).trans ((gp_ne eG_52 (fun q => absurd q.1 (by decide))).trans ((hq_48.i 2 10 (by decide) (by decide)).trans ((hq_40.i 2 10 (by decide) (by decide)).trans ((gp_ne eG_37 (fun q => absurd q.1 (by decide))).trans ((hq_33.i 2 10 (by decide) (by decide)).trans ((hq_25.i 2 10 (by decide) (by decide)).trans ((hq_19.i 2 10 (by decide) (by decide)).trans ((hq_13.i 2 10 (by decide) (by decide)).trans ((hq_8.i 2 10 (by decide) (by decide)).trans (rfl))))))))))))))) dX7_readWalker_225 ?_
                      refine lv_iconst (v := 1) hx hb dX7_readWalker_228 (by decide) ?_
                      refine lv_iadd hx hb dX7_readWalker_229 ?_
                      refine lv_topi (fun y_75 ey_75 => ?_)
                      have ty_75 : y_75.toInt = (G.1 2 10).toInt + 1 := xI_add rfl rfl ey_75 (by omega) (by omega)
                      refine S_putI (ty := .int) (C := RX6) (T := TX6) (N := 17) hx hb hg iX6 tyX6 tyX6_ok nmX6 hown hK hW hS kd_2 rfl 10 (by decide) (hg (Cond.fieldLink RX7 138 "SlabWalk$Paving" "walkers" "I") m190) (fun _ h9 => h9) rfl (by decide +kernel) rfl rfl rfl dX7_readWalker_230 (fun G_76 H locs eG_76 hW hS => ?_)
                      have u_77 : (G_74.1 22 (G.1 2 10).toNatClampNeg).toInt = (G_32.1 5 9).toInt := by rw [show G_74.1 22 (G.1 2 10).toNatClampNeg = (G_32.1 5 9) from ((gp_ne eG_74 (fun q => absurd q.1 (by decide))).trans ((hq_72.ri 22 (by decide) (by decide) ((G.1 2 10).toNatClampNeg)).trans ((gp_ne eG_67 (fun q => absurd q.1 (by decide))).trans ((hq_63.ri 22 (by decide) (by decide) ((G.1 2 10).toNatClampNeg)).trans ((hq_55.ri 22 (by decide) (by decide) ((G.1 2 10).toNatClampNeg)).trans ((gp_ne eG_52 (fun q => absurd q.1 (by decide))).trans ((hq_48.ri 22 (by decide) (by decide) ((G.1 2 10).toNatClampNeg)).trans ((hq_40.ri 22 (by decide) (by decide) ((G.1 2 10).toNatClampNeg)).trans (gp_eq eG_37)))))))))]
                      have u_78 : (G_74.1 23 (G.1 2 10).toNatClampNeg).toInt = y_59.toInt := by rw [show G_74.1 23 (G.1 2 10).toNatClampNeg = y_59 from ((gp_ne eG_74 (fun q => absurd q.1 (by decide))).trans ((hq_72.ri 23 (by decide) (by decide) ((G.1 2 10).toNatClampNeg)).trans ((gp_ne eG_67 (fun q => absurd q.1 (by decide))).trans ((hq_63.ri 23 (by decide) (by decide) ((G.1 2 10).toNatClampNeg)).trans (ey_59.symm)))))]
                      have u_79 : (G_74.1 24 (G.1 2 10).toNatClampNeg).toInt = (G_62.1 5 9).toInt := by rw [show G_74.1 24 (G.1 2 10).toNatClampNeg = (G_62.1 5 9) from ((gp_ne eG_74 (fun q => absurd q.1 (by decide))).trans ((hq_72.ri 24 (by decide) (by decide) ((G.1 2 10).toNatClampNeg)).trans (gp_eq eG_67)))]
                      have hB_G_76 : Bd G_76 := hB_G_74.put (V := y_75.toInt) (lo := 0) (hi := 4) eG_76 rfl rfl rfl (by omega) (by omega) (hB_G_74.2.walkers (P := 2) eG_76 (by decide) (inc_w (P := 2) (j := (G.1 2 10).toNatClampNeg) (fun h => hB_G_74.2.of2 h) (by rw [show G_74.1 2 10 = (G.1 2 10) from ((gp_ne eG_74 (fun q => absurd q.1 (by decide))).trans ((hq_72.i 2 10 (by decide) (by decide)).trans ((gp_ne eG_67 (fun q => absurd q.1 (by decide))).trans ((hq_63.i 2 10 (by decide) (by decide)).trans ((hq_55.i 2 10 (by decide) (by decide)).trans ((gp_ne eG_52 (fun q => absurd q.1 (by decide))).trans ((hq_48.i 2 10 (by decide) (by decide)).trans ((hq_40.i 2 10 (by decide) (by decide)).trans ((gp_ne eG_37 (fun q => absurd q.1 (by decide))).trans ((hq_33.i 2 10 (by decide) (by decide)).trans ((hq_25.i 2 10 (by decide) (by decide)).trans ((hq_19.i 2 10 (by decide) (by decide)).trans ((hq_13.i 2 10 (by decide) (by decide)).trans ((hq_8.i 2 10 (by decide) (by decide)).trans (rfl)))))))))))))))]; omega) (by rw [tN (by omega), show G_74.1 2 10 = (G.1 2 10) from ((gp_ne eG_74 (fun q => absurd q.1 (by decide))).trans ((hq_72.i 2 10 (by decide) (by decide)).trans ((gp_ne eG_67 (fun q => absurd q.1 (by decide))).trans ((hq_63.i 2 10 (by decide) (by decide)).trans ((hq_55.i 2 10 (by decide) (by decide)).trans ((gp_ne eG_52 (fun q => absurd q.1 (by decide))).trans ((hq_48.i 2 10 (by decide) (by decide)).trans ((hq_40.i 2 10 (by decide) (by decide)).trans ((gp_ne eG_37 (fun q => absurd q.1 (by decide))).trans ((hq_33.i 2 10 (by decide) (by decide)).trans ((hq_25.i 2 10 (by decide) (by decide)).trans ((hq_19.i 2 10 (by decide) (by decide)).trans ((hq_13.i 2 10 (by decide) (by decide)).trans ((hq_8.i 2 10 (by decide) (by decide)).trans (rfl)))))))))))))))]) ⟨show 1 ≤ (G_74.1 22 (G.1 2 10).toNatClampNeg).toInt from by omega, show (G_74.1 23 (G.1 2 10).toNatClampNeg).toInt ≤ (G_74.1 24 (G.1 2 10).toNatClampNeg).toInt from by omega⟩))
                      have hF := hF.put eG_76 (Or.inr (by decide))
                      refine lv_aload_n hx hb dX7_readWalker_233 rfl (lv_at hl 1 rfl) ?_
                      refine S_getR (n := 3) (C := RX7) (T := TX7) (N := 10) hx hb hg iX7 hown hK hW kd_5 rfl 0 (by decide) (hg (Cond.fieldLink RX7 26 "SlabWalk$Reader" "tokens" "LSlabWalk$Tokens;") m311) (fun _ h9 => h9) rfl dX7_readWalker_234 ?_
                      refine lv_bipush (v := 59) hx hb dX7_readWalker_237 (by decide) ?_
                      refine S_calli (va_runV (As := [.int 59]) (rest := []) ⟨hx, hb, hml, hown, hts⟩ (k_tPass l D k A a z G_76 59 ) (cwV 1 hts (gd_V hgd m786 m787 m788 m120 m789) rfl rfl rfl (by decide +kernel) ⟨Nat.le_of_ble_eq_true rfl, Nat.le_of_ble_eq_true rfl⟩) (pre_V hW hB_G_76 hK hZ hS kd_3 rfl) rfl rfl hl.1 rfl (lv_room (Nat.le_of_ble_eq_true rfl)) dX7_readWalker_239 ⟨Nat.le_of_ble_eq_true rfl, Nat.le_of_ble_eq_true rfl⟩) hS (fun r_80 G_81 H locs hpo hW hS => ?_)
                      obtain ⟨hB_G_81, hq_82, f_84⟩ := hpo
                      have hF := hF.call hq_82 (by decide) (by decide)
                      exact W.zret (v := r_80) hx hb hr (nar_z (by omega) (by omega)) (fun t ht _ => ⟨⟨r_80, G_81, rfl, ⟨hB_G_81, hF, ⟨by omega, by omega⟩⟩, wd_t ht hW⟩, hS.F ht⟩) hS.2.2 dX7_readWalker_242
                    refine lv_icmp_ne (tgt := 207) hx hb dX7_readWalker_169 (by decide) (fun c_85 => ?_) (fun c_85 => ?_)
                    · have c_85 : (G_62.1 3 3).toInt ≠ 133 := xI_ne rfl rfl c_85
                      have g_86 : (G_67.1 5 9).toInt = (G_62.1 5 9).toInt := by rw [show G_67.1 5 9 = (G_62.1 5 9) from ((gp_ne eG_67 (fun q => absurd q.1 (by decide))).trans (rfl))]
                      exact hJ_71 () _ _ _ ⟨G_67, (by omega), hW, hB_G_67, hF, Fr.rf, hS, lv_sub hl [0, 1] rfl⟩
                    · have c_85 : (G_62.1 3 3).toInt = 133 := xI_eq rfl rfl c_85
                      refine lv_aload_n hx hb dX7_readWalker_172 rfl (lv_at hl 1 rfl) ?_
                      refine S_getR (n := 3) (C := RX7) (T := TX7) (N := 10) hx hb hg iX7 hown hK hW kd_5 rfl 0 (by decide) (hg (Cond.fieldLink RX7 26 "SlabWalk$Reader" "tokens" "LSlabWalk$Tokens;") m311) (fun _ h9 => h9) rfl dX7_readWalker_173 ?_
                      refine lv_sipush (v := 133) hx hb dX7_readWalker_176 (by decide) ?_
                      refine S_calli (va_runV (As := [.int 133]) (rest := []) ⟨hx, hb, hml, hown, hts⟩ (k_tPass l D k A a z G_67 133 ) (cwV 1 hts (gd_V hgd m786 m787 m788 m120 m789) rfl rfl rfl (by decide +kernel) ⟨Nat.le_of_ble_eq_true rfl, Nat.le_of_ble_eq_true rfl⟩) (pre_V hW hB_G_67 hK hZ hS kd_3 rfl) rfl rfl hl.1 rfl (lv_room (Nat.le_of_ble_eq_true rfl)) dX7_readWalker_179 ⟨Nat.le_of_ble_eq_true rfl, Nat.le_of_ble_eq_true rfl⟩) hS (fun r_87 G_88 H locs hpo hW hS => ?_)
                      obtain ⟨hB_G_88, hq_89, f_91⟩ := hpo
                      have hF := hF.call hq_89 (by decide) (by decide)
                      refine lv_if_eq (tgt := 205) hx hb dX7_readWalker_182 (by decide) (fun c_92 => ?_) (fun c_92 => ?_)
                      · have c_92 : r_87.toInt = 0 := xI_eq rfl rfl c_92
                        refine lv_iconst (v := 0) hx hb dX7_readWalker_205 (by decide) ?_
                        exact W.zret (v := 0) hx hb hr (by decide) (fun t ht _ => ⟨⟨0, G_88, rfl, ⟨hB_G_88, hF, ⟨by decide, by decide⟩⟩, wd_t ht hW⟩, hS.F ht⟩) hS.2.2 dX7_readWalker_206
                      · have c_92 : r_87.toInt ≠ 0 := xI_ne rfl rfl c_92
                        refine lv_aload_n hx hb dX7_readWalker_185 rfl (lv_at hl 1 rfl) ?_
                        refine lv_aload_n hx hb dX7_readWalker_186 rfl (lv_at hl 1 rfl) ?_
                        refine S_getV (n := 2) (C := RX7) (T := TX7) (N := 10) hx hb hg iX7 hown hK hW kd_5 rfl 5 (by decide) (hg (Cond.fieldLink RX7 39 "SlabWalk$Reader" "paving" "LSlabWalk$Paving;") m317) (fun _ h9 => h9) rfl ((((hq_89.r 5 5 (by decide) (by decide)).trans ((congrFun (congrFun (congrArg (fun q => q.2.2) eG_67) 5) 5).trans ((hq_63.r 5 5 (by decide) (by decide)).trans ((hq_55.r 5 5 (by decide) (by decide)).trans ((congrFun (congrFun (congrArg (fun q => q.2.2) eG_52) 5) 5).trans ((hq_48.r 5 5 (by decide) (by decide)).trans ((hq_40.r 5 5 (by decide) (by decide)).trans ((congrFun (congrFun (congrArg (fun q => q.2.2) eG_37) 5) 5).trans ((hq_33.r 5 5 (by decide) (by decide)).trans ((hq_25.r 5 5 (by decide) (by decide)).trans ((hq_19.r 5 5 (by decide) (by decide)).trans ((hq_13.r 5 5 (by decide) (by decide)).trans (hq_8.r 5 5 (by decide) (by decide))))))))))))))).trans (hv_5_5)) dX7_readWalker_187 ?_
                        refine S_getR (n := 24) (C := RX6) (T := TX6) (N := 17) hx hb hg iX6 hown hK hW kd_2 rfl 4 (by decide) (hg (Cond.fieldLink RX7 147 "SlabWalk$Paving" "most" "[I") m172) (fun _ h9 => h9) rfl dX7_readWalker_190 ?_
                        refine lv_iload_n hx hb dX7_readWalker_193 rfl (lv_at hl 0 rfl) ?_
                        refine S_iald hx hb hK hW kd_24 (vin (by omega) (by omega)) dX7_readWalker_194 (fun y_93 ey_93 => ?_)
                        have ty_93 : 0 ≤ y_93.toInt ∧ y_93.toInt ≤ 60 := hB_G_88.v ey_93 rfl rfl
                        refine lv_iconst (v := 1) hx hb dX7_readWalker_195 (by decide) ?_
                        refine lv_iadd hx hb dX7_readWalker_196 ?_
                        refine lv_topi (fun y_94 ey_94 => ?_)
                        have ty_94 : y_94.toInt = y_93.toInt + 1 := xI_add rfl rfl ey_94 (by omega) (by omega)
                        refine lv_bipush (v := 99) hx hb dX7_readWalker_197 (by decide) ?_
                        have qc_95 : (99 : Int32).toInt = 99 := rfl
                        refine S_calli (va_runV (As := [.int y_94, .int 99]) (rest := []) ⟨hx, hb, hml, hown, hts⟩ (k_rNum l D k A a z G_88 y_94 99 ) (cwV 2 hts (gd_V hgd m791 m793 m11 m119 m794) rfl rfl rfl (by decide +kernel) ⟨Nat.le_of_ble_eq_true rfl, Nat.le_of_ble_eq_true rfl⟩) (pre_V hW hB_G_88 hK hZ hS kd_5 rfl) rfl rfl hl.1 rfl (lv_room (Nat.le_of_ble_eq_true rfl)) dX7_readWalker_199 ⟨Nat.le_of_ble_eq_true rfl, Nat.le_of_ble_eq_true rfl⟩) hS (fun r_96 G_97 H locs hpo hW hS => ?_)
                        obtain ⟨hB_G_97, hq_98, f_100, hp_99⟩ := hpo
                        have hF := hF.call hq_98 (by decide) (by decide)
                        refine lv_if_ne (tgt := 207) hx hb dX7_readWalker_202 (by decide) (fun c_101 => ?_) (fun c_101 => ?_)
                        · have c_101 : r_96.toInt ≠ 0 := xI_ne rfl rfl c_101
                          exact hJ_71 () _ _ _ ⟨G_97, (by omega), hW, hB_G_97, hF, ((Fr.rf.call hq_89 (by decide) (by decide)).call hq_98 (by decide) (by decide)), hS, lv_sub hl [0, 1] rfl⟩
                        · have c_101 : r_96.toInt = 0 := xI_eq rfl rfl c_101
                          refine lv_iconst (v := 0) hx hb dX7_readWalker_205 (by decide) ?_
                          exact W.zret (v := 0) hx hb hr (by decide) (fun t ht _ => ⟨⟨0, G_97, rfl, ⟨hB_G_97, hF, ⟨by decide, by decide⟩⟩, wd_t ht hW⟩, hS.F ht⟩) hS.2.2 dX7_readWalker_206
                  · have c_66 : r_61.toInt = 0 := xI_eq rfl rfl c_66
                    refine lv_iconst (v := 0) hx hb dX7_readWalker_144 (by decide) ?_
                    exact W.zret (v := 0) hx hb hr (by decide) (fun t ht _ => ⟨⟨0, G_62, rfl, ⟨hB_G_62, hF, ⟨by decide, by decide⟩⟩, wd_t ht hW⟩, hS.F ht⟩) hS.2.2 dX7_readWalker_145
              · have c_51 : r_46.toInt = 0 := xI_eq rfl rfl c_51
                refine lv_iconst (v := 0) hx hb dX7_readWalker_98 (by decide) ?_
                exact W.zret (v := 0) hx hb hr (by decide) (fun t ht _ => ⟨⟨0, G_47, rfl, ⟨hB_G_47, hF, ⟨by decide, by decide⟩⟩, wd_t ht hW⟩, hS.F ht⟩) hS.2.2 dX7_readWalker_99
          · have c_36 : r_31.toInt = 0 := xI_eq rfl rfl c_36
            refine lv_iconst (v := 0) hx hb dX7_readWalker_60 (by decide) ?_
            exact W.zret (v := 0) hx hb hr (by decide) (fun t ht _ => ⟨⟨0, G_32, rfl, ⟨hB_G_32, hF, ⟨by decide, by decide⟩⟩, wd_t ht hW⟩, hS.F ht⟩) hS.2.2 dX7_readWalker_61
  refine lv_icmp_ge (tgt := 18) hx hb dX7_readWalker_11 (by decide) (fun c_102 => ?_) (fun c_102 => ?_)
  · have c_102 : 4 ≤ (G.1 2 10).toInt := xI_le rfl rfl c_102
    refine lv_iconst (v := 0) hx hb dX7_readWalker_18 (by decide) ?_
    have qc_103 : (0 : Int32).toInt = 0 := rfl
    exact hJ_7 0 _ _ _ ⟨G, ⟨by omega, by omega⟩, (by omega), hW, hB_G, hF, Fr.rf, hS, lv_sub hl [0, 1] rfl⟩
  · have c_102 : (G.1 2 10).toInt < 4 := xI_nle rfl rfl c_102
    refine lv_iconst (v := 1) hx hb dX7_readWalker_14 (by decide) ?_
    refine lv_goto (tgt := 19) hx hb dX7_readWalker_15 (by decide) ?_
    have qc_104 : (1 : Int32).toInt = 1 := rfl
    exact hJ_7 1 _ _ _ ⟨G, ⟨by omega, by omega⟩, (by omega), hW, hB_G, hF, Fr.rf, hS, lv_sub hl [0, 1] rfl⟩

set_option maxHeartbeats 4000000 in
set_option maxRecDepth 100000 in
theorem k_rRule_2 (l : Launch) (D : va_G) (k : KT) (A : Nat → Prop) (a : Nat → Nat) (z : SK) (G : GS)  (hv_5_5 : G.2.2 5 5 = 2) : Met l yX7_readRule (WS yX7_readRule cX7_readRule 1 (some .boolean)) ({ frames := 99, cells := 0, slots := 0, locals := 2129 }) (va_Pc [.ref (a 5)] (cW D k A a z G)) (va_Qi (fun (r : Int32) (G1 : GS) => Bd G1 ∧ Fr [27, 28, 36] [(2, 11), (2, 12), (2, 13), (3, 2), (3, 3), (3, 4), (3, 5), (3, 6), (3, 7), (3, 8), (4, 1), (4, 2)] G G1 ∧ (0 ≤ r.toInt ∧ r.toInt ≤ 1)) (fun (G1 : GS) t => Wd D k A a G1 t.heap) A) 0 0 A := by
  refine Met.ofW (cc := cX7_readRule) (maxL := 1) (ret := (some .boolean)) (by decide) rfl ?_
  intro p e s m args below meth c s₁ B hml hv
  obtain ⟨rfl, hW, hB_G, hK, hZ⟩ := hv
  have hx := B.exec
  have hb := B.bytes
  have hr := B.returns
  have hts := atoms_spec (ws := WS yX7_readRule cX7_readRule 1 (some .boolean)) B.pre
  have hgd : ∀ w ∈ gd, w ∈ WS yX7_readRule cX7_readRule 1 (some .boolean) := fun w h => List.mem_cons_of_mem _ h
  have hg : ∀ w ∈ gd, w.before _ s = true := fun w h => hts w (hgd w h)
  have hown : s.vm.findClass RX7 = some m.cls := findClass_of_methodNamed B.named
  have hS : va_S A s.heap s.heap [] := va_S.rf
  have hF : Fr [27, 28, 36] [(2, 11), (2, 12), (2, 13), (3, 2), (3, 3), (3, 4), (3, 5), (3, 6), (3, 7), (3, 8), (4, 1), (4, 2)] G G := Fr.rf
  have hl := lv_entry ([.ref (a 5)]) (n := 1) (Nat.le_of_ble_eq_true rfl)
  rw [lg_entry_eq]
  generalize (lg_sl ([.ref (a 5)]) ++ List.replicate (1 - (lg_sl ([.ref (a 5)])).length) Slot.unset).toArray = ls at hl ⊢
  have hl : lv_has ls 1 [(0, .ref (a 5))] := hl
  refine lv_aload_n hx hb dX7_readRule_0 rfl (lv_at hl 0 rfl) ?_
  refine lv_aload_n hx hb dX7_readRule_1 rfl (lv_at hl 0 rfl) ?_
  refine S_getV (n := 2) (C := RX7) (T := TX7) (N := 10) hx hb hg iX7 hown hK hW kd_5 rfl 5 (by decide) (hg (Cond.fieldLink RX7 39 "SlabWalk$Reader" "paving" "LSlabWalk$Paving;") m317) (fun _ h9 => h9) rfl hv_5_5 dX7_readRule_2 ?_
  have b_1 : 0 ≤ (G.1 2 11).toInt ∧ (G.1 2 11).toInt ≤ 6 := hB_G.i 2 11 rfl rfl
  refine S_getI (v := (G.1 2 11)) (C := RX6) (T := TX6) (N := 17) hx hb hg iX6 hown hK hW kd_2 rfl 11 (by decide) (hg (Cond.fieldLink RX7 153 "SlabWalk$Paving" "rules" "I") m194) (fun _ h9 => h9) rfl rfl dX7_readRule_5 ?_
  refine lv_bipush (v := 6) hx hb dX7_readRule_8 (by decide) ?_
  refine W.cut (σ := Int32) (pcJ := 18) (J := fun y H locs ls => ∃ (G_5 : GS), (0 ≤ y.toInt ∧ y.toInt ≤ 1) ∧ (y.toInt = 0 ∨ (G_5.1 2 11).toInt < 6) ∧ Wd D k A a G_5 H ∧ Bd G_5 ∧ Fr [27, 28, 36] [(2, 11), (2, 12), (2, 13), (3, 2), (3, 3), (3, 4), (3, 5), (3, 6), (3, 7), (3, 8), (4, 1), (4, 2)] G G_5 ∧ Fr [] [] G G_5 ∧ va_S A s.heap H locs ∧ lv_has ls 1 [(0, .ref (a 5))]) (stJ := fun y => [.int y, .ref (a 5)]) ?_ (fun hJ_6 => ?_)
  · intro y H locs ls hI
    obtain ⟨w_3, hy⟩ : ∃ q, q = y := ⟨_, rfl⟩
    subst hy
    obtain ⟨G_5, f_8, f_9, hW, hB_G_5, hF, hq_7, hS, hl⟩ := hI
    have g_10 : (G_5.1 2 11).toInt = (G.1 2 11).toInt := by rw [show G_5.1 2 11 = (G.1 2 11) from ((hq_7.i 2 11 (by decide) (by decide)).trans (rfl))]
    refine S_calli (va_runV (As := [.int w_3]) (rest := []) ⟨hx, hb, hml, hown, hts⟩ (k_rFirst l D k A a z G_5 w_3 ⟨by omega, by omega⟩) (cwV 1 hts (gd_V hgd m773 m775 m9 m119 m776) rfl rfl rfl (by decide +kernel) ⟨Nat.le_of_ble_eq_true rfl, Nat.le_of_ble_eq_true rfl⟩) (pre_V hW hB_G_5 hK hZ hS kd_5 rfl) rfl rfl hl.1 rfl (lv_room (Nat.le_of_ble_eq_true rfl)) dX7_readRule_18 ⟨Nat.le_of_ble_eq_true rfl, Nat.le_of_ble_eq_true rfl⟩) hS (fun r_11 G_12 H locs hpo hW hS => ?_)
    obtain ⟨hB_G_12, hq_13, f_15, hp_14⟩ := hpo
    have hF := hF.call hq_13 (by decide) (by decide)
    refine lv_if_eq (tgt := 42) hx hb dX7_readRule_21 (by decide) (fun c_16 => ?_) (fun c_16 => ?_)
    · have c_16 : r_11.toInt = 0 := xI_eq rfl rfl c_16
      refine lv_iconst (v := 0) hx hb dX7_readRule_42 (by decide) ?_
      exact W.zret (v := 0) hx hb hr (by decide) (fun t ht _ => ⟨⟨0, G_12, rfl, ⟨hB_G_12, hF, ⟨by decide, by decide⟩⟩, wd_t ht hW⟩, hS.F ht⟩) hS.2.2 dX7_readRule_43
    · have c_16 : r_11.toInt ≠ 0 := xI_ne rfl rfl c_16
      refine lv_aload_n hx hb dX7_readRule_24 rfl (lv_at hl 0 rfl) ?_
      refine lv_aload_n hx hb dX7_readRule_25 rfl (lv_at hl 0 rfl) ?_
      refine S_getR (n := 36) (C := RX7) (T := TX7) (N := 10) hx hb hg iX7 hown hK hW kd_5 rfl 4 (by decide) (hg (Cond.fieldLink RX7 18 "SlabWalk$Reader" "ruleNames" "[J") m316) (fun _ h9 => h9) rfl dX7_readRule_26 ?_
      refine lv_aload_n hx hb dX7_readRule_29 rfl (lv_at hl 0 rfl) ?_
      refine S_getV (n := 2) (C := RX7) (T := TX7) (N := 10) hx hb hg iX7 hown hK hW kd_5 rfl 5 (by decide) (hg (Cond.fieldLink RX7 39 "SlabWalk$Reader" "paving" "LSlabWalk$Paving;") m317) (fun _ h9 => h9) rfl ((((hq_13.r 5 5 (by decide) (by decide)).trans (hq_7.r 5 5 (by decide) (by decide)))).trans (hv_5_5)) dX7_readRule_30 ?_
      refine S_getI (v := (G.1 2 11)) (C := RX6) (T := TX6) (N := 17) hx hb hg iX6 hown hK hW kd_2 rfl 11 (by decide) (hg (Cond.fieldLink RX7 153 "SlabWalk$Paving" "rules" "I") m194) (fun _ h9 => h9) rfl ((hq_13.i 2 11 (by decide) (by decide)).trans ((hq_7.i 2 11 (by decide) (by decide)).trans (rfl))) dX7_readRule_33 ?_
      refine S_calli (va_runV (As := [.ref (a 36), .int (G.1 2 11)]) (rest := []) ⟨hx, hb, hml, hown, hts⟩ (k_rName_36 l D k A a z G_12 (G.1 2 11) ⟨by omega, by omega⟩) (cwV 2 hts (gd_V hgd m782 m784 m10 m119 m785) rfl rfl rfl (by decide +kernel) ⟨Nat.le_of_ble_eq_true rfl, Nat.le_of_ble_eq_true rfl⟩) (pre_V hW hB_G_12 hK hZ hS kd_5 rfl) rfl rfl hl.1 rfl (lv_room (Nat.le_of_ble_eq_true rfl)) dX7_readRule_36 ⟨Nat.le_of_ble_eq_true rfl, Nat.le_of_ble_eq_true rfl⟩) hS (fun r_17 G_18 H locs hpo hW hS => ?_)
      obtain ⟨hB_G_18, hq_19, f_21⟩ := hpo
      have hF := hF.call hq_19 (by decide) (by decide)
      refine lv_if_ne (tgt := 44) hx hb dX7_readRule_39 (by decide) (fun c_22 => ?_) (fun c_22 => ?_)
      · have c_22 : r_17.toInt ≠ 0 := xI_ne rfl rfl c_22
        refine lv_aload_n hx hb dX7_readRule_44 rfl (lv_at hl 0 rfl) ?_
        refine S_getV (n := 2) (C := RX7) (T := TX7) (N := 10) hx hb hg iX7 hown hK hW kd_5 rfl 5 (by decide) (hg (Cond.fieldLink RX7 39 "SlabWalk$Reader" "paving" "LSlabWalk$Paving;") m317) (fun _ h9 => h9) rfl ((((hq_19.r 5 5 (by decide) (by decide)).trans ((hq_13.r 5 5 (by decide) (by decide)).trans (hq_7.r 5 5 (by decide) (by decide))))).trans (hv_5_5)) dX7_readRule_45 ?_
        refine S_getR (n := 28) (C := RX6) (T := TX6) (N := 17) hx hb hg iX6 hown hK hW kd_2 rfl 8 (by decide) (hg (Cond.fieldLink RX7 156 "SlabWalk$Paving" "codeEnd" "[I") m185) (fun _ h9 => h9) rfl dX7_readRule_48 ?_
        refine lv_aload_n hx hb dX7_readRule_51 rfl (lv_at hl 0 rfl) ?_
        refine S_getV (n := 2) (C := RX7) (T := TX7) (N := 10) hx hb hg iX7 hown hK hW kd_5 rfl 5 (by decide) (hg (Cond.fieldLink RX7 39 "SlabWalk$Reader" "paving" "LSlabWalk$Paving;") m317) (fun _ h9 => h9) rfl ((((hq_19.r 5 5 (by decide) (by decide)).trans ((hq_13.r 5 5 (by decide) (by decide)).trans (hq_7.r 5 5 (by decide) (by decide))))).trans (hv_5_5)) dX7_readRule_52 ?_
        refine S_getI (v := (G.1 2 11)) (C := RX6) (T := TX6) (N := 17) hx hb hg iX6 hown hK hW kd_2 rfl 11 (by decide) (hg (Cond.fieldLink RX7 153 "SlabWalk$Paving" "rules" "I") m194) (fun _ h9 => h9) rfl ((hq_19.i 2 11 (by decide) (by decide)).trans ((hq_13.i 2 11 (by decide) (by decide)).trans ((hq_7.i 2 11 (by decide) (by decide)).trans (rfl)))) dX7_readRule_55 ?_
        refine lv_aload_n hx hb dX7_readRule_58 rfl (lv_at hl 0 rfl) ?_
        refine S_getV (n := 2) (C := RX7) (T := TX7) (N := 10) hx hb hg iX7 hown hK hW kd_5 rfl 5 (by decide) (hg (Cond.fieldLink RX7 39 "SlabWalk$Reader" "paving" "LSlabWalk$Paving;") m317) (fun _ h9 => h9) rfl ((((hq_19.r 5 5 (by decide) (by decide)).trans ((hq_13.r 5 5 (by decide) (by decide)).trans (hq_7.r 5 5 (by decide) (by decide))))).trans (hv_5_5)) dX7_readRule_59 ?_
        have b_23 : 0 ≤ (G.1 2 13).toInt ∧ (G.1 2 13).toInt ≤ 580 := hB_G.i 2 13 rfl rfl
        refine S_getI (v := (G.1 2 13)) (C := RX6) (T := TX6) (N := 17) hx hb hg iX6 hown hK hW kd_2 rfl 13 (by decide) (hg (Cond.fieldLink RX7 159 "SlabWalk$Paving" "coded" "I") m200) (fun _ h9 => h9) rfl ((hq_19.i 2 13 (by decide) (by decide)).trans ((hq_13.i 2 13 (by decide) (by decide)).trans (hq_7.i 2 13 (by decide) (by decide)))) dX7_readRule_62 ?_
        refine S_iast hx hb hK hW hS kd_28 (vin (by omega) (by omega)) dX7_readRule_65 (fun G_24 H locs eG_24 hW hS => ?_)
        have hB_G_24 : Bd G_24 := hB_G_18.put (V := (G.1 2 13).toInt) (lo := 0) (hi := 580) eG_24 rfl rfl rfl (by omega) (by omega) (hB_G_18.2.put eG_24 rfl)
        have hF := hF.put eG_24 (Or.inl (by decide))
        refine lv_aload_n hx hb dX7_readRule_66 rfl (lv_at hl 0 rfl) ?_
        refine S_getR (n := 4) (C := RX7) (T := TX7) (N := 10) hx hb hg iX7 hown hK hW kd_5 rfl 1 (by decide) (hg (Cond.fieldLink RX7 35 "SlabWalk$Reader" "formulas" "LSlabWalk$Formulas;") m313) (fun _ h9 => h9) rfl dX7_readRule_67 ?_
        refine lv_aload_n hx hb dX7_readRule_70 rfl (lv_at hl 0 rfl) ?_
        refine S_getV (n := 2) (C := RX7) (T := TX7) (N := 10) hx hb hg iX7 hown hK hW kd_5 rfl 5 (by decide) (hg (Cond.fieldLink RX7 39 "SlabWalk$Reader" "paving" "LSlabWalk$Paving;") m317) (fun _ h9 => h9) rfl ((((congrFun (congrFun (congrArg (fun q => q.2.2) eG_24) 5) 5).trans ((hq_19.r 5 5 (by decide) (by decide)).trans ((hq_13.r 5 5 (by decide) (by decide)).trans (hq_7.r 5 5 (by decide) (by decide)))))).trans (hv_5_5)) dX7_readRule_71 ?_
        refine S_calli (va_runV (As := [.ref (a 2)]) (rest := []) ⟨hx, hb, hml, hown, hts⟩ (k_fRead_2 l D k A a z G_24  ) (cwV 1 hts (gd_V hgd m817 m818 m819 m121 m820) rfl rfl rfl (by decide +kernel) ⟨Nat.le_of_ble_eq_true rfl, Nat.le_of_ble_eq_true rfl⟩) (pre_V hW hB_G_24 hK hZ hS kd_4 rfl) rfl rfl hl.1 rfl (lv_room (Nat.le_of_ble_eq_true rfl)) dX7_readRule_74 ⟨Nat.le_of_ble_eq_true rfl, Nat.le_of_ble_eq_true rfl⟩) hS (fun r_25 G_26 H locs hpo hW hS => ?_)
        obtain ⟨hB_G_26, hq_27, f_29⟩ := hpo
        have hF := hF.call hq_27 (by decide) (by decide)
        refine lv_if_ne (tgt := 82) hx hb dX7_readRule_77 (by decide) (fun c_30 => ?_) (fun c_30 => ?_)
        · have c_30 : r_25.toInt ≠ 0 := xI_ne rfl rfl c_30
          refine lv_aload_n hx hb dX7_readRule_82 rfl (lv_at hl 0 rfl) ?_
          refine S_getV (n := 2) (C := RX7) (T := TX7) (N := 10) hx hb hg iX7 hown hK hW kd_5 rfl 5 (by decide) (hg (Cond.fieldLink RX7 39 "SlabWalk$Reader" "paving" "LSlabWalk$Paving;") m317) (fun _ h9 => h9) rfl ((((hq_27.r 5 5 (by decide) (by decide)).trans ((congrFun (congrFun (congrArg (fun q => q.2.2) eG_24) 5) 5).trans ((hq_19.r 5 5 (by decide) (by decide)).trans ((hq_13.r 5 5 (by decide) (by decide)).trans (hq_7.r 5 5 (by decide) (by decide))))))).trans (hv_5_5)) dX7_readRule_83 ?_
          refine lv_dup hx hb dX7_readRule_86 rfl ?_
          refine S_getI (v := (G.1 2 11)) (C := RX6) (T := TX6) (N := 17) hx hb hg iX6 hown hK hW kd_2 rfl 11 (by decide) (hg (Cond.fieldLink RX7 153 "SlabWalk$Paving" "rules" "I") m194) (fun _ h9 => h9) rfl ((hq_27.i 2 11 (by decide) (by decide)).trans ((gp_ne eG_24 (fun q => absurd q.1 (by decide))).trans ((hq_19.i 2 11 (by decide) (by decide)).trans ((hq_13.i 2 11 (by decide) (by decide)).trans ((hq_7.i 2 11 (by decide) (by decide)).trans (rfl)))))) dX7_readRule_87 ?_
          refine lv_iconst (v := 1) hx hb dX7_readRule_90 (by decide) ?_
          refine lv_iadd hx hb dX7_readRule_91 ?_
          refine lv_topi (fun y_31 ey_31 => ?_)
          have ty_31 : y_31.toInt = (G.1 2 11).toInt + 1 := xI_add rfl rfl ey_31 (by omega) (by omega)
          refine S_putI (ty := .int) (C := RX6) (T := TX6) (N := 17) hx hb hg iX6 tyX6 tyX6_ok nmX6 hown hK hW hS kd_2 rfl 11 (by decide) (hg (Cond.fieldLink RX7 153 "SlabWalk$Paving" "rules" "I") m194) (fun _ h9 => h9) rfl (by decide +kernel) rfl rfl rfl dX7_readRule_92 (fun G_32 H locs eG_32 hW hS => ?_)
          have hB_G_32 : Bd G_32 := hB_G_26.put (V := y_31.toInt) (lo := 0) (hi := 6) eG_32 rfl rfl rfl (by omega) (by omega) (hB_G_26.2.put eG_32 rfl)
          have hF := hF.put eG_32 (Or.inr (by decide))
          refine lv_aload_n hx hb dX7_readRule_95 rfl (lv_at hl 0 rfl) ?_
          refine S_getV (n := 2) (C := RX7) (T := TX7) (N := 10) hx hb hg iX7 hown hK hW kd_5 rfl 5 (by decide) (hg (Cond.fieldLink RX7 39 "SlabWalk$Reader" "paving" "LSlabWalk$Paving;") m317) (fun _ h9 => h9) rfl ((((congrFun (congrFun (congrArg (fun q => q.2.2) eG_32) 5) 5).trans ((hq_27.r 5 5 (by decide) (by decide)).trans ((congrFun (congrFun (congrArg (fun q => q.2.2) eG_24) 5) 5).trans ((hq_19.r 5 5 (by decide) (by decide)).trans ((hq_13.r 5 5 (by decide) (by decide)).trans (hq_7.r 5 5 (by decide) (by decide)))))))).trans (hv_5_5)) dX7_readRule_96 ?_
          refine S_getR (n := 28) (C := RX6) (T := TX6) (N := 17) hx hb hg iX6 hown hK hW kd_2 rfl 8 (by decide) (hg (Cond.fieldLink RX7 156 "SlabWalk$Paving" "codeEnd" "[I") m185) (fun _ h9 => h9) rfl dX7_readRule_99 ?_
          refine lv_aload_n hx hb dX7_readRule_102 rfl (lv_at hl 0 rfl) ?_
          refine S_getV (n := 2) (C := RX7) (T := TX7) (N := 10) hx hb hg iX7 hown hK hW kd_5 rfl 5 (by decide) (hg (Cond.fieldLink RX7 39 "SlabWalk$Reader" "paving" "LSlabWalk$Paving;") m317) (fun _ h9 => h9) rfl ((((congrFun (congrFun (congrArg (fun q => q.2.2) eG_32) 5) 5).trans ((hq_27.r 5 5 (by decide) (by decide)).trans ((congrFun (congrFun (congrArg (fun q => q.2.2) eG_24) 5) 5).trans ((hq_19.r 5 5 (by decide) (by decide)).trans ((hq_13.r 5 5 (by decide) (by decide)).trans (hq_7.r 5 5 (by decide) (by decide)))))))).trans (hv_5_5)) dX7_readRule_103 ?_
          refine S_getI (v := y_31) (C := RX6) (T := TX6) (N := 17) hx hb hg iX6 hown hK hW kd_2 rfl 11 (by decide) (hg (Cond.fieldLink RX7 153 "SlabWalk$Paving" "rules" "I") m194) (fun _ h9 => h9) rfl (gp_eq eG_32) dX7_readRule_106 ?_
          refine lv_aload_n hx hb dX7_readRule_109 rfl (lv_at hl 0 rfl) ?_
          refine S_getV (n := 2) (C := RX7) (T := TX7) (N := 10) hx hb hg iX7 hown hK hW kd_5 rfl 5 (by decide) (hg (Cond.fieldLink RX7 39 "SlabWalk$Reader" "paving" "LSlabWalk$Paving;") m317) (fun _ h9 => h9) rfl ((((congrFun (congrFun (congrArg (fun q => q.2.2) eG_32) 5) 5).trans ((hq_27.r 5 5 (by decide) (by decide)).trans ((congrFun (congrFun (congrArg (fun q => q.2.2) eG_24) 5) 5).trans ((hq_19.r 5 5 (by decide) (by decide)).trans ((hq_13.r 5 5 (by decide) (by decide)).trans (hq_7.r 5 5 (by decide) (by decide)))))))).trans (hv_5_5)) dX7_readRule_110 ?_
          have b_33 : 0 ≤ (G_26.1 2 13).toInt ∧ (G_26.1 2 13).toInt ≤ 580 := hB_G_26.i 2 13 rfl rfl
          refine S_getI (v := (G_26.1 2 13)) (C := RX6) (T := TX6) (N := 17) hx hb hg iX6 hown hK hW kd_2 rfl 13 (by decide) (hg (Cond.fieldLink RX7 159 "SlabWalk$Paving" "coded" "I") m200) (fun _ h9 => h9) rfl (gp_ne eG_32 (by decide)) dX7_readRule_113 ?_
          refine S_iast hx hb hK hW hS kd_28 (vin (by omega) (by omega)) dX7_readRule_116 (fun G_34 H locs eG_34 hW hS => ?_)
          have hB_G_34 : Bd G_34 := hB_G_32.put (V := (G_26.1 2 13).toInt) (lo := 0) (hi := 580) eG_34 rfl rfl rfl (by omega) (by omega) (hB_G_32.2.put eG_34 rfl)
          have hF := hF.put eG_34 (Or.inl (by decide))
          refine lv_aload_n hx hb dX7_readRule_117 rfl (lv_at hl 0 rfl) ?_
          refine S_getR (n := 3) (C := RX7) (T := TX7) (N := 10) hx hb hg iX7 hown hK hW kd_5 rfl 0 (by decide) (hg (Cond.fieldLink RX7 26 "SlabWalk$Reader" "tokens" "LSlabWalk$Tokens;") m311) (fun _ h9 => h9) rfl dX7_readRule_118 ?_
          refine lv_bipush (v := 59) hx hb dX7_readRule_121 (by decide) ?_
          refine S_calli (va_runV (As := [.int 59]) (rest := []) ⟨hx, hb, hml, hown, hts⟩ (k_tPass l D k A a z G_34 59 ) (cwV 1 hts (gd_V hgd m786 m787 m788 m120 m789) rfl rfl rfl (by decide +kernel) ⟨Nat.le_of_ble_eq_true rfl, Nat.le_of_ble_eq_true rfl⟩) (pre_V hW hB_G_34 hK hZ hS kd_3 rfl) rfl rfl hl.1 rfl (lv_room (Nat.le_of_ble_eq_true rfl)) dX7_readRule_123 ⟨Nat.le_of_ble_eq_true rfl, Nat.le_of_ble_eq_true rfl⟩) hS (fun r_35 G_36 H locs hpo hW hS => ?_)
          obtain ⟨hB_G_36, hq_37, f_39⟩ := hpo
          have hF := hF.call hq_37 (by decide) (by decide)
          exact W.zret (v := r_35) hx hb hr (nar_z (by omega) (by omega)) (fun t ht _ => ⟨⟨r_35, G_36, rfl, ⟨hB_G_36, hF, ⟨by omega, by omega⟩⟩, wd_t ht hW⟩, hS.F ht⟩) hS.2.2 dX7_readRule_126
        · have c_30 : r_25.toInt = 0 := xI_eq rfl rfl c_30
          refine lv_iconst (v := 0) hx hb dX7_readRule_80 (by decide) ?_
          exact W.zret (v := 0) hx hb hr (by decide) (fun t ht _ => ⟨⟨0, G_26, rfl, ⟨hB_G_26, hF, ⟨by decide, by decide⟩⟩, wd_t ht hW⟩, hS.F ht⟩) hS.2.2 dX7_readRule_81
      · have c_22 : r_17.toInt = 0 := xI_eq rfl rfl c_22
        refine lv_iconst (v := 0) hx hb dX7_readRule_42 (by decide) ?_
        exact W.zret (v := 0) hx hb hr (by decide) (fun t ht _ => ⟨⟨0, G_18, rfl, ⟨hB_G_18, hF, ⟨by decide, by decide⟩⟩, wd_t ht hW⟩, hS.F ht⟩) hS.2.2 dX7_readRule_43
  refine lv_icmp_ge (tgt := 17) hx hb dX7_readRule_10 (by decide) (fun c_40 => ?_) (fun c_40 => ?_)
  · have c_40 : 6 ≤ (G.1 2 11).toInt := xI_le rfl rfl c_40
    refine lv_iconst (v := 0) hx hb dX7_readRule_17 (by decide) ?_
    have qc_41 : (0 : Int32).toInt = 0 := rfl
    exact hJ_6 0 _ _ _ ⟨G, ⟨by omega, by omega⟩, (by omega), hW, hB_G, hF, Fr.rf, hS, lv_sub hl [0] rfl⟩
  · have c_40 : (G.1 2 11).toInt < 6 := xI_nle rfl rfl c_40
    refine lv_iconst (v := 1) hx hb dX7_readRule_13 (by decide) ?_
    refine lv_goto (tgt := 18) hx hb dX7_readRule_14 (by decide) ?_
    have qc_42 : (1 : Int32).toInt = 1 := rfl
    exact hJ_6 1 _ _ _ ⟨G, ⟨by omega, by omega⟩, (by omega), hW, hB_G, hF, Fr.rf, hS, lv_sub hl [0] rfl⟩

set_option maxHeartbeats 4000000 in
set_option maxRecDepth 100000 in
theorem k_rSlip_2 (l : Launch) (D : va_G) (k : KT) (A : Nat → Prop) (a : Nat → Nat) (z : SK) (G : GS)  (hv_5_5 : G.2.2 5 5 = 2) : Met l yX7_readSlip (WS yX7_readSlip cX7_readSlip 3 (some .boolean)) ({ frames := 8, cells := 0, slots := 0, locals := 170 }) (va_Pc [.ref (a 5)] (cW D k A a z G)) (va_Qi (fun (r : Int32) (G1 : GS) => Bd G1 ∧ Fr [26] [(3, 2), (3, 3), (3, 4), (3, 5), (3, 6), (3, 7), (3, 8), (5, 6), (5, 9)] G G1 ∧ (0 ≤ r.toInt ∧ r.toInt ≤ 1)) (fun (G1 : GS) t => Wd D k A a G1 t.heap) A) 0 0 A := by
  refine Met.ofW (cc := cX7_readSlip) (maxL := 3) (ret := (some .boolean)) (by decide) rfl ?_
  intro p e s m args below meth c s₁ B hml hv
  obtain ⟨rfl, hW, hB_G, hK, hZ⟩ := hv
  have hx := B.exec
  have hb := B.bytes
  have hr := B.returns
  have hts := atoms_spec (ws := WS yX7_readSlip cX7_readSlip 3 (some .boolean)) B.pre
  have hgd : ∀ w ∈ gd, w ∈ WS yX7_readSlip cX7_readSlip 3 (some .boolean) := fun w h => List.mem_cons_of_mem _ h
  have hg : ∀ w ∈ gd, w.before _ s = true := fun w h => hts w (hgd w h)
  have hown : s.vm.findClass RX7 = some m.cls := findClass_of_methodNamed B.named
  have hS : va_S A s.heap s.heap [] := va_S.rf
  have hF : Fr [26] [(3, 2), (3, 3), (3, 4), (3, 5), (3, 6), (3, 7), (3, 8), (5, 6), (5, 9)] G G := Fr.rf
  have hl := lv_entry ([.ref (a 5)]) (n := 3) (Nat.le_of_ble_eq_true rfl)
  rw [lg_entry_eq]
  generalize (lg_sl ([.ref (a 5)]) ++ List.replicate (3 - (lg_sl ([.ref (a 5)])).length) Slot.unset).toArray = ls at hl ⊢
  have hl : lv_has ls 3 [(0, .ref (a 5))] := hl
  refine lv_aload_n hx hb dX7_readSlip_0 rfl (lv_at hl 0 rfl) ?_
  refine lv_aload_n hx hb dX7_readSlip_1 rfl (lv_at hl 0 rfl) ?_
  have b_1 : 0 ≤ (G.1 5 6).toInt ∧ (G.1 5 6).toInt ≤ 1 := hB_G.i 5 6 rfl rfl
  refine S_getI (v := (G.1 5 6)) (C := RX7) (T := TX7) (N := 10) hx hb hg iX7 hown hK hW kd_5 rfl 6 (by decide) (hg (Cond.fieldLink RX7 48 "SlabWalk$Reader" "slipTold" "Z") m318) (fun _ h9 => h9) rfl rfl dX7_readSlip_2 ?_
  refine W.cut (σ := Int32) (pcJ := 13) (J := fun y H locs ls => ∃ (G_5 : GS), (0 ≤ y.toInt ∧ y.toInt ≤ 1) ∧ Wd D k A a G_5 H ∧ Bd G_5 ∧ Fr [26] [(3, 2), (3, 3), (3, 4), (3, 5), (3, 6), (3, 7), (3, 8), (5, 6), (5, 9)] G G_5 ∧ Fr [] [] G G_5 ∧ va_S A s.heap H locs ∧ lv_has ls 3 [(0, .ref (a 5))]) (stJ := fun y => [.int y, .ref (a 5)]) ?_ (fun hJ_6 => ?_)
  · intro y H locs ls hI
    obtain ⟨w_3, hy⟩ : ∃ q, q = y := ⟨_, rfl⟩
    subst hy
    obtain ⟨G_5, f_8, hW, hB_G_5, hF, hq_7, hS, hl⟩ := hI
    refine S_calli (va_runV (As := [.int w_3]) (rest := []) ⟨hx, hb, hml, hown, hts⟩ (k_rFirst l D k A a z G_5 w_3 ⟨by omega, by omega⟩) (cwV 1 hts (gd_V hgd m773 m775 m9 m119 m776) rfl rfl rfl (by decide +kernel) ⟨Nat.le_of_ble_eq_true rfl, Nat.le_of_ble_eq_true rfl⟩) (pre_V hW hB_G_5 hK hZ hS kd_5 rfl) rfl rfl hl.1 rfl (lv_room (Nat.le_of_ble_eq_true rfl)) dX7_readSlip_13 ⟨Nat.le_of_ble_eq_true rfl, Nat.le_of_ble_eq_true rfl⟩) hS (fun r_9 G_10 H locs hpo hW hS => ?_)
    obtain ⟨hB_G_10, hq_11, f_13, hp_12⟩ := hpo
    have hF := hF.call hq_11 (by decide) (by decide)
    refine lv_if_ne (tgt := 21) hx hb dX7_readSlip_16 (by decide) (fun c_14 => ?_) (fun c_14 => ?_)
    · have c_14 : r_9.toInt ≠ 0 := xI_ne rfl rfl c_14
      refine lv_aload_n hx hb dX7_readSlip_21 rfl (lv_at hl 0 rfl) ?_
      refine lv_iconst (v := 1) hx hb dX7_readSlip_22 (by decide) ?_
      refine S_putI (ty := .boolean) (C := RX7) (T := TX7) (N := 10) hx hb hg iX7 tyX7 tyX7_ok nmX7 hown hK hW hS kd_5 rfl 6 (by decide) (hg (Cond.fieldLink RX7 48 "SlabWalk$Reader" "slipTold" "Z") m318) (fun _ h9 => h9) rfl (by decide +kernel) (by decide) rfl rfl dX7_readSlip_23 (fun G_15 H locs eG_15 hW hS => ?_)
      have hB_G_15 : Bd G_15 := hB_G_10.put (V := 1) (lo := 0) (hi := 1) eG_15 rfl rfl rfl (by omega) (by omega) (hB_G_10.2.put eG_15 rfl)
      have hF := hF.put eG_15 (Or.inr (by decide))
      refine lv_iconst (v := 0) hx hb dX7_readSlip_26 (by decide) ?_
      refine lv_istore_n (lv' := [(1, .int 0), (0, .ref (a 5))]) hx hb dX7_readSlip_27 rfl hl (by decide) rfl (fun ls hl => ?_)
      refine lv_iconst (v := 0) hx hb dX7_readSlip_28 (by decide) ?_
      refine lv_istore_n (lv' := [(2, .int 0), (1, .int 0), (0, .ref (a 5))]) hx hb dX7_readSlip_29 rfl hl (by decide) rfl (fun ls hl => ?_)
      have qc_22 : (0 : Int32).toInt = 0 := rfl
      refine loop_N (Inv := fun n H locs ls => ∃ (G_16 : GS) (x_20 : Int32) (x_21 : Int32), (n : Int) = 3 - x_20.toInt ∧ (0 ≤ x_20.toInt ∧ x_20.toInt ≤ 3) ∧ (0 ≤ x_21.toInt ∧ x_21.toInt ≤ 27) ∧ (x_21.toInt ≤ 9 * x_20.toInt) ∧ Wd D k A a G_16 H ∧ Bd G_16 ∧ Fr [26] [(3, 2), (3, 3), (3, 4), (3, 5), (3, 6), (3, 7), (3, 8), (5, 6), (5, 9)] G G_16 ∧ Fr [26] [(3, 2), (3, 3), (3, 4), (3, 5), (3, 6), (3, 7), (3, 8), (5, 9)] G_15 G_16 ∧ va_S A s.heap H locs ∧ lv_has ls 3 [(2, .int x_20), (1, .int x_21), (0, .ref (a 5))]) (fun n_19 H locs ls ih_18 hI => ?_) (3 - 0 : Int).toNat ⟨G_15, 0, 0, (Int.toNat_of_nonneg (by omega)), ⟨by omega, by omega⟩, ⟨by omega, by omega⟩, (by omega), hW, hB_G_15, hF, Fr.rf, hS, lv_sub hl [0, 1, 2] rfl⟩
      obtain ⟨G_16, x_20, x_21, hn_26, f_23, f_24, f_25, hW, hB_G_16, hF, hq_17, hS, hl⟩ := hI
      refine lv_iload_n hx hb dX7_readSlip_30 rfl (lv_at hl 0 rfl) ?_
      refine lv_iconst (v := 3) hx hb dX7_readSlip_31 (by decide) ?_
      refine lv_icmp_ge (tgt := 86) hx hb dX7_readSlip_32 (by decide) (fun c_27 => ?_) (fun c_27 => ?_)
      · have c_27 : 3 ≤ x_20.toInt := xI_le rfl rfl c_27
        refine lv_aload_n hx hb dX7_readSlip_86 rfl (lv_at hl 2 rfl) ?_
        refine S_getR (n := 3) (C := RX7) (T := TX7) (N := 10) hx hb hg iX7 hown hK hW kd_5 rfl 0 (by decide) (hg (Cond.fieldLink RX7 26 "SlabWalk$Reader" "tokens" "LSlabWalk$Tokens;") m311) (fun _ h9 => h9) rfl dX7_readSlip_87 ?_
        refine lv_bipush (v := 59) hx hb dX7_readSlip_90 (by decide) ?_
        refine S_calli (va_runV (As := [.int 59]) (rest := []) ⟨hx, hb, hml, hown, hts⟩ (k_tPass l D k A a z G_16 59 ) (cwV 1 hts (gd_V hgd m786 m787 m788 m120 m789) rfl rfl rfl (by decide +kernel) ⟨Nat.le_of_ble_eq_true rfl, Nat.le_of_ble_eq_true rfl⟩) (pre_V hW hB_G_16 hK hZ hS kd_3 rfl) rfl rfl hl.1 rfl (lv_room (Nat.le_of_ble_eq_true rfl)) dX7_readSlip_92 ⟨Nat.le_of_ble_eq_true rfl, Nat.le_of_ble_eq_true rfl⟩) hS (fun r_28 G_29 H locs hpo hW hS => ?_)
        obtain ⟨hB_G_29, hq_30, f_32⟩ := hpo
        have hF := hF.call hq_30 (by decide) (by decide)
        exact W.zret (v := r_28) hx hb hr (nar_z (by omega) (by omega)) (fun t ht _ => ⟨⟨r_28, G_29, rfl, ⟨hB_G_29, hF, ⟨by omega, by omega⟩⟩, wd_t ht hW⟩, hS.F ht⟩) hS.2.2 dX7_readSlip_95
      · have c_27 : x_20.toInt < 3 := xI_nle rfl rfl c_27
        refine lv_aload_n hx hb dX7_readSlip_35 rfl (lv_at hl 2 rfl) ?_
        refine lv_iload_n hx hb dX7_readSlip_36 rfl (lv_at hl 0 rfl) ?_
        refine lv_iconst (v := 2) hx hb dX7_readSlip_37 (by decide) ?_
        refine W.cut (σ := Unit) (pcJ := 49) (J := fun y H locs ls => ∃ (G_37 : GS), Wd D k A a G_37 H ∧ Bd G_37 ∧ Fr [26] [(3, 2), (3, 3), (3, 4), (3, 5), (3, 6), (3, 7), (3, 8), (5, 6), (5, 9)] G G_37 ∧ Fr [26] [(3, 2), (3, 3), (3, 4), (3, 5), (3, 6), (3, 7), (3, 8), (5, 9)] G_16 G_37 ∧ va_S A s.heap H locs ∧ lv_has ls 3 [(2, .int x_20), (1, .int x_21), (0, .ref (a 5))]) (stJ := fun _ => [.ref (a 5)]) ?_ (fun hJ_38 => ?_)
        · intro y H locs ls hI
          obtain ⟨G_37, hW, hB_G_37, hF, hq_39, hS, hl⟩ := hI
          refine lv_iconst (v := 0) hx hb dX7_readSlip_49 (by decide) ?_
          refine lv_bipush (v := 9) hx hb dX7_readSlip_50 (by decide) ?_
          have qc_40 : (0 : Int32).toInt = 0 := rfl
          have qc_41 : (9 : Int32).toInt = 9 := rfl
          refine S_calli (va_runV (As := [.int 0, .int 9]) (rest := []) ⟨hx, hb, hml, hown, hts⟩ (k_rNum l D k A a z G_37 0 9 ) (cwV 2 hts (gd_V hgd m791 m793 m11 m119 m794) rfl rfl rfl (by decide +kernel) ⟨Nat.le_of_ble_eq_true rfl, Nat.le_of_ble_eq_true rfl⟩) (pre_V hW hB_G_37 hK hZ hS kd_5 rfl) rfl rfl hl.1 rfl (lv_room (Nat.le_of_ble_eq_true rfl)) dX7_readSlip_52 ⟨Nat.le_of_ble_eq_true rfl, Nat.le_of_ble_eq_true rfl⟩) hS (fun r_42 G_43 H locs hpo hW hS => ?_)
          obtain ⟨hB_G_43, hq_44, f_46, hp_45⟩ := hpo
          have hF := hF.call hq_44 (by decide) (by decide)
          refine lv_if_ne (tgt := 60) hx hb dX7_readSlip_55 (by decide) (fun c_47 => ?_) (fun c_47 => ?_)
          · have c_47 : r_42.toInt ≠ 0 := xI_ne rfl rfl c_47
            refine lv_aload_n hx hb dX7_readSlip_60 rfl (lv_at hl 2 rfl) ?_
            refine S_getV (n := 2) (C := RX7) (T := TX7) (N := 10) hx hb hg iX7 hown hK hW kd_5 rfl 5 (by decide) (hg (Cond.fieldLink RX7 39 "SlabWalk$Reader" "paving" "LSlabWalk$Paving;") m317) (fun _ h9 => h9) rfl ((((hq_44.r 5 5 (by decide) (by decide)).trans ((hq_39.r 5 5 (by decide) (by decide)).trans ((hq_17.r 5 5 (by decide) (by decide)).trans ((congrFun (congrFun (congrArg (fun q => q.2.2) eG_15) 5) 5).trans ((hq_11.r 5 5 (by decide) (by decide)).trans (hq_7.r 5 5 (by decide) (by decide)))))))).trans (hv_5_5)) dX7_readSlip_61 ?_
            refine S_getR (n := 26) (C := RX6) (T := TX6) (N := 17) hx hb hg iX6 hown hK hW kd_2 rfl 6 (by decide) (hg (Cond.fieldLink RX7 166 "SlabWalk$Paving" "slip" "[I") m179) (fun _ h9 => h9) rfl dX7_readSlip_64 ?_
            refine lv_iload_n hx hb dX7_readSlip_67 rfl (lv_at hl 0 rfl) ?_
            refine lv_aload_n hx hb dX7_readSlip_68 rfl (lv_at hl 2 rfl) ?_
            refine S_getI (v := (G_43.1 5 9)) (C := RX7) (T := TX7) (N := 10) hx hb hg iX7 hown hK hW kd_5 rfl 9 (by decide) (hg (Cond.fieldLink RX7 99 "SlabWalk$Reader" "number" "I") m321) (fun _ h9 => h9) rfl rfl dX7_readSlip_69 ?_
            refine S_iast hx hb hK hW hS kd_26 (vin (by omega) (by omega)) dX7_readSlip_72 (fun G_48 H locs eG_48 hW hS => ?_)
            have hB_G_48 : Bd G_48 := hB_G_43.put (V := (G_43.1 5 9).toInt) (lo := 0) (hi := 9) eG_48 rfl rfl rfl (by omega) (by omega) (hB_G_43.2.put eG_48 rfl)
            have hF := hF.put eG_48 (Or.inl (by decide))
            refine lv_iload_n hx hb dX7_readSlip_73 rfl (lv_at hl 1 rfl) ?_
            refine lv_aload_n hx hb dX7_readSlip_74 rfl (lv_at hl 2 rfl) ?_
            refine S_getI (v := (G_43.1 5 9)) (C := RX7) (T := TX7) (N := 10) hx hb hg iX7 hown hK hW kd_5 rfl 9 (by decide) (hg (Cond.fieldLink RX7 99 "SlabWalk$Reader" "number" "I") m321) (fun _ h9 => h9) rfl ((gp_ne eG_48 (fun q => absurd q.1 (by decide))).trans (rfl)) dX7_readSlip_75 ?_
            refine lv_iadd hx hb dX7_readSlip_78 ?_
            refine lv_topi (fun y_49 ey_49 => ?_)
            have ty_49 : y_49.toInt = x_21.toInt + (G_43.1 5 9).toInt := xI_add rfl rfl ey_49 (by omega) (by omega)
            refine lv_istore_n (lv' := [(1, .int y_49), (2, .int x_20), (0, .ref (a 5))]) hx hb dX7_readSlip_79 rfl hl (by decide) rfl (fun ls hl => ?_)
            obtain ⟨y_50, ey_50⟩ : ∃ q, q = x_20 + 1 := ⟨_, rfl⟩
            have ty_50 : y_50.toInt = x_20.toInt + 1 := xI_add rfl rfl ey_50 (by omega) (by omega)
            refine lv_iinc (v := y_50) (lv' := [(2, .int y_50), (1, .int y_49), (0, .ref (a 5))]) hx hb dX7_readSlip_80 hl (k := 1) rfl (by rw [ey_50]; rfl) (by decide) rfl (fun ls hl => ?_)
            refine lv_goto (tgt := 30) hx hb dX7_readSlip_83 (by decide) ?_
            exact ih_18 (3 - y_50.toInt : Int).toNat (by omega) _ _ _ ⟨G_48, y_50, y_49, (Int.toNat_of_nonneg (by omega)), ⟨by omega, by omega⟩, ⟨by omega, by omega⟩, (by omega), hW, hB_G_48, hF, ((((Fr.rf.call hq_17 (by decide) (by decide)).call hq_39 (by decide) (by decide)).call hq_44 (by decide) (by decide)).put eG_48 (Or.inl (by decide))), hS, lv_sub hl [0, 1, 2] rfl⟩
          · have c_47 : r_42.toInt = 0 := xI_eq rfl rfl c_47
            refine lv_iconst (v := 0) hx hb dX7_readSlip_58 (by decide) ?_
            exact W.zret (v := 0) hx hb hr (by decide) (fun t ht _ => ⟨⟨0, G_43, rfl, ⟨hB_G_43, hF, ⟨by decide, by decide⟩⟩, wd_t ht hW⟩, hS.F ht⟩) hS.2.2 dX7_readSlip_59
        refine lv_icmp_ne (tgt := 49) hx hb dX7_readSlip_38 (by decide) (fun c_51 => ?_) (fun c_51 => ?_)
        · have c_51 : x_20.toInt ≠ 2 := xI_ne rfl rfl c_51
          exact hJ_38 () _ _ _ ⟨G_16, hW, hB_G_16, hF, Fr.rf, hS, lv_sub hl [0, 1, 2] rfl⟩
        · have c_51 : x_20.toInt = 2 := xI_eq rfl rfl c_51
          refine lv_iload_n hx hb dX7_readSlip_41 rfl (lv_at hl 1 rfl) ?_
          refine lv_if_ne (tgt := 49) hx hb dX7_readSlip_42 (by decide) (fun c_52 => ?_) (fun c_52 => ?_)
          · have c_52 : x_21.toInt ≠ 0 := xI_ne rfl rfl c_52
            exact hJ_38 () _ _ _ ⟨G_16, hW, hB_G_16, hF, Fr.rf, hS, lv_sub hl [0, 1, 2] rfl⟩
          · have c_52 : x_21.toInt = 0 := xI_eq rfl rfl c_52
            refine lv_iconst (v := 1) hx hb dX7_readSlip_45 (by decide) ?_
            refine lv_goto (tgt := 50) hx hb dX7_readSlip_46 (by decide) ?_
            refine lv_bipush (v := 9) hx hb dX7_readSlip_50 (by decide) ?_
            have qc_53 : (1 : Int32).toInt = 1 := rfl
            have qc_54 : (9 : Int32).toInt = 9 := rfl
            refine S_calli (va_runV (As := [.int 1, .int 9]) (rest := []) ⟨hx, hb, hml, hown, hts⟩ (k_rNum l D k A a z G_16 1 9 ) (cwV 2 hts (gd_V hgd m791 m793 m11 m119 m794) rfl rfl rfl (by decide +kernel) ⟨Nat.le_of_ble_eq_true rfl, Nat.le_of_ble_eq_true rfl⟩) (pre_V hW hB_G_16 hK hZ hS kd_5 rfl) rfl rfl hl.1 rfl (lv_room (Nat.le_of_ble_eq_true rfl)) dX7_readSlip_52 ⟨Nat.le_of_ble_eq_true rfl, Nat.le_of_ble_eq_true rfl⟩) hS (fun r_55 G_56 H locs hpo hW hS => ?_)
            obtain ⟨hB_G_56, hq_57, f_59, hp_58⟩ := hpo
            have hF := hF.call hq_57 (by decide) (by decide)
            refine lv_if_ne (tgt := 60) hx hb dX7_readSlip_55 (by decide) (fun c_60 => ?_) (fun c_60 => ?_)
            · have c_60 : r_55.toInt ≠ 0 := xI_ne rfl rfl c_60
              refine lv_aload_n hx hb dX7_readSlip_60 rfl (lv_at hl 2 rfl) ?_
              refine S_getV (n := 2) (C := RX7) (T := TX7) (N := 10) hx hb hg iX7 hown hK hW kd_5 rfl 5 (by decide) (hg (Cond.fieldLink RX7 39 "SlabWalk$Reader" "paving" "LSlabWalk$Paving;") m317) (fun _ h9 => h9) rfl ((((hq_57.r 5 5 (by decide) (by decide)).trans ((hq_17.r 5 5 (by decide) (by decide)).trans ((congrFun (congrFun (congrArg (fun q => q.2.2) eG_15) 5) 5).trans ((hq_11.r 5 5 (by decide) (by decide)).trans (hq_7.r 5 5 (by decide) (by decide))))))).trans (hv_5_5)) dX7_readSlip_61 ?_
              refine S_getR (n := 26) (C := RX6) (T := TX6) (N := 17) hx hb hg iX6 hown hK hW kd_2 rfl 6 (by decide) (hg (Cond.fieldLink RX7 166 "SlabWalk$Paving" "slip" "[I") m179) (fun _ h9 => h9) rfl dX7_readSlip_64 ?_
              refine lv_iload_n hx hb dX7_readSlip_67 rfl (lv_at hl 0 rfl) ?_
              refine lv_aload_n hx hb dX7_readSlip_68 rfl (lv_at hl 2 rfl) ?_
              refine S_getI (v := (G_56.1 5 9)) (C := RX7) (T := TX7) (N := 10) hx hb hg iX7 hown hK hW kd_5 rfl 9 (by decide) (hg (Cond.fieldLink RX7 99 "SlabWalk$Reader" "number" "I") m321) (fun _ h9 => h9) rfl rfl dX7_readSlip_69 ?_
              refine S_iast hx hb hK hW hS kd_26 (vin (by omega) (by omega)) dX7_readSlip_72 (fun G_61 H locs eG_61 hW hS => ?_)
              have hB_G_61 : Bd G_61 := hB_G_56.put (V := (G_56.1 5 9).toInt) (lo := 0) (hi := 9) eG_61 rfl rfl rfl (by omega) (by omega) (hB_G_56.2.put eG_61 rfl)
              have hF := hF.put eG_61 (Or.inl (by decide))
              refine lv_iload_n hx hb dX7_readSlip_73 rfl (lv_at hl 1 rfl) ?_
              refine lv_aload_n hx hb dX7_readSlip_74 rfl (lv_at hl 2 rfl) ?_
              refine S_getI (v := (G_56.1 5 9)) (C := RX7) (T := TX7) (N := 10) hx hb hg iX7 hown hK hW kd_5 rfl 9 (by decide) (hg (Cond.fieldLink RX7 99 "SlabWalk$Reader" "number" "I") m321) (fun _ h9 => h9) rfl ((gp_ne eG_61 (fun q => absurd q.1 (by decide))).trans (rfl)) dX7_readSlip_75 ?_
              refine lv_iadd hx hb dX7_readSlip_78 ?_
              refine lv_topi (fun y_62 ey_62 => ?_)
              have e_63 := tI_rng (G_56.1 5 9)
              have ty_62 : y_62.toInt = x_21.toInt + (G_56.1 5 9).toInt := xI_add rfl rfl ey_62 (by omega) (by omega)
              refine lv_istore_n (lv' := [(1, .int y_62), (2, .int x_20), (0, .ref (a 5))]) hx hb dX7_readSlip_79 rfl hl (by decide) rfl (fun ls hl => ?_)
              obtain ⟨y_64, ey_64⟩ : ∃ q, q = x_20 + 1 := ⟨_, rfl⟩
              have ty_64 : y_64.toInt = x_20.toInt + 1 := xI_add rfl rfl ey_64 (by omega) (by omega)
              refine lv_iinc (v := y_64) (lv' := [(2, .int y_64), (1, .int y_62), (0, .ref (a 5))]) hx hb dX7_readSlip_80 hl (k := 1) rfl (by rw [ey_64]; rfl) (by decide) rfl (fun ls hl => ?_)
              refine lv_goto (tgt := 30) hx hb dX7_readSlip_83 (by decide) ?_
              exact ih_18 (3 - y_64.toInt : Int).toNat (by omega) _ _ _ ⟨G_61, y_64, y_62, (Int.toNat_of_nonneg (by omega)), ⟨by omega, by omega⟩, ⟨by omega, by omega⟩, (by omega), hW, hB_G_61, hF, (((Fr.rf.call hq_17 (by decide) (by decide)).call hq_57 (by decide) (by decide)).put eG_61 (Or.inl (by decide))), hS, lv_sub hl [0, 1, 2] rfl⟩
            · have c_60 : r_55.toInt = 0 := xI_eq rfl rfl c_60
              refine lv_iconst (v := 0) hx hb dX7_readSlip_58 (by decide) ?_
              exact W.zret (v := 0) hx hb hr (by decide) (fun t ht _ => ⟨⟨0, G_56, rfl, ⟨hB_G_56, hF, ⟨by decide, by decide⟩⟩, wd_t ht hW⟩, hS.F ht⟩) hS.2.2 dX7_readSlip_59
    · have c_14 : r_9.toInt = 0 := xI_eq rfl rfl c_14
      refine lv_iconst (v := 0) hx hb dX7_readSlip_19 (by decide) ?_
      exact W.zret (v := 0) hx hb hr (by decide) (fun t ht _ => ⟨⟨0, G_10, rfl, ⟨hB_G_10, hF, ⟨by decide, by decide⟩⟩, wd_t ht hW⟩, hS.F ht⟩) hS.2.2 dX7_readSlip_20
  refine lv_if_ne (tgt := 12) hx hb dX7_readSlip_5 (by decide) (fun c_65 => ?_) (fun c_65 => ?_)
  · have c_65 : (G.1 5 6).toInt ≠ 0 := xI_ne rfl rfl c_65
    refine lv_iconst (v := 0) hx hb dX7_readSlip_12 (by decide) ?_
    have qc_66 : (0 : Int32).toInt = 0 := rfl
    exact hJ_6 0 _ _ _ ⟨G, ⟨by omega, by omega⟩, hW, hB_G, hF, Fr.rf, hS, lv_sub hl [0] rfl⟩
  · have c_65 : (G.1 5 6).toInt = 0 := xI_eq rfl rfl c_65
    refine lv_iconst (v := 1) hx hb dX7_readSlip_8 (by decide) ?_
    refine lv_goto (tgt := 13) hx hb dX7_readSlip_9 (by decide) ?_
    have qc_67 : (1 : Int32).toInt = 1 := rfl
    exact hJ_6 1 _ _ _ ⟨G, ⟨by omega, by omega⟩, hW, hB_G, hF, Fr.rf, hS, lv_sub hl [0] rfl⟩

set_option maxHeartbeats 4000000 in
set_option maxRecDepth 100000 in
theorem k_rHand_2 (l : Launch) (D : va_G) (k : KT) (A : Nat → Prop) (a : Nat → Nat) (z : SK) (G : GS)  (hv_5_5 : G.2.2 5 5 = 2) : Met l yX7_readHand (WS yX7_readHand cX7_readHand 1 (some .boolean)) ({ frames := 8, cells := 0, slots := 0, locals := 170 }) (va_Pc [.ref (a 5)] (cW D k A a z G)) (va_Qi (fun (r : Int32) (G1 : GS) => Bd G1 ∧ Fr [] [(2, 14), (2, 15), (3, 2), (3, 3), (3, 4), (3, 5), (3, 6), (3, 7), (3, 8), (5, 7), (5, 9)] G G1 ∧ (0 ≤ r.toInt ∧ r.toInt ≤ 1)) (fun (G1 : GS) t => Wd D k A a G1 t.heap) A) 0 0 A := by
  refine Met.ofW (cc := cX7_readHand) (maxL := 1) (ret := (some .boolean)) (by decide) rfl ?_
  intro p e s m args below meth c s₁ B hml hv
  obtain ⟨rfl, hW, hB_G, hK, hZ⟩ := hv
  have hx := B.exec
  have hb := B.bytes
  have hr := B.returns
  have hts := atoms_spec (ws := WS yX7_readHand cX7_readHand 1 (some .boolean)) B.pre
  have hgd : ∀ w ∈ gd, w ∈ WS yX7_readHand cX7_readHand 1 (some .boolean) := fun w h => List.mem_cons_of_mem _ h
  have hg : ∀ w ∈ gd, w.before _ s = true := fun w h => hts w (hgd w h)
  have hown : s.vm.findClass RX7 = some m.cls := findClass_of_methodNamed B.named
  have hS : va_S A s.heap s.heap [] := va_S.rf
  have hF : Fr [] [(2, 14), (2, 15), (3, 2), (3, 3), (3, 4), (3, 5), (3, 6), (3, 7), (3, 8), (5, 7), (5, 9)] G G := Fr.rf
  have hl := lv_entry ([.ref (a 5)]) (n := 1) (Nat.le_of_ble_eq_true rfl)
  rw [lg_entry_eq]
  generalize (lg_sl ([.ref (a 5)]) ++ List.replicate (1 - (lg_sl ([.ref (a 5)])).length) Slot.unset).toArray = ls at hl ⊢
  have hl : lv_has ls 1 [(0, .ref (a 5))] := hl
  refine lv_aload_n hx hb dX7_readHand_0 rfl (lv_at hl 0 rfl) ?_
  refine lv_aload_n hx hb dX7_readHand_1 rfl (lv_at hl 0 rfl) ?_
  have b_1 : 0 ≤ (G.1 5 7).toInt ∧ (G.1 5 7).toInt ≤ 1 := hB_G.i 5 7 rfl rfl
  refine S_getI (v := (G.1 5 7)) (C := RX7) (T := TX7) (N := 10) hx hb hg iX7 hown hK hW kd_5 rfl 7 (by decide) (hg (Cond.fieldLink RX7 52 "SlabWalk$Reader" "handTold" "Z") m319) (fun _ h9 => h9) rfl rfl dX7_readHand_2 ?_
  refine W.cut (σ := Int32) (pcJ := 13) (J := fun y H locs ls => ∃ (G_5 : GS), (0 ≤ y.toInt ∧ y.toInt ≤ 1) ∧ Wd D k A a G_5 H ∧ Bd G_5 ∧ Fr [] [(2, 14), (2, 15), (3, 2), (3, 3), (3, 4), (3, 5), (3, 6), (3, 7), (3, 8), (5, 7), (5, 9)] G G_5 ∧ Fr [] [] G G_5 ∧ va_S A s.heap H locs ∧ lv_has ls 1 [(0, .ref (a 5))]) (stJ := fun y => [.int y, .ref (a 5)]) ?_ (fun hJ_6 => ?_)
  · intro y H locs ls hI
    obtain ⟨w_3, hy⟩ : ∃ q, q = y := ⟨_, rfl⟩
    subst hy
    obtain ⟨G_5, f_8, hW, hB_G_5, hF, hq_7, hS, hl⟩ := hI
    refine S_calli (va_runV (As := [.int w_3]) (rest := []) ⟨hx, hb, hml, hown, hts⟩ (k_rFirst l D k A a z G_5 w_3 ⟨by omega, by omega⟩) (cwV 1 hts (gd_V hgd m773 m775 m9 m119 m776) rfl rfl rfl (by decide +kernel) ⟨Nat.le_of_ble_eq_true rfl, Nat.le_of_ble_eq_true rfl⟩) (pre_V hW hB_G_5 hK hZ hS kd_5 rfl) rfl rfl hl.1 rfl (lv_room (Nat.le_of_ble_eq_true rfl)) dX7_readHand_13 ⟨Nat.le_of_ble_eq_true rfl, Nat.le_of_ble_eq_true rfl⟩) hS (fun r_9 G_10 H locs hpo hW hS => ?_)
    obtain ⟨hB_G_10, hq_11, f_13, hp_12⟩ := hpo
    have hF := hF.call hq_11 (by decide) (by decide)
    refine lv_if_eq (tgt := 29) hx hb dX7_readHand_16 (by decide) (fun c_14 => ?_) (fun c_14 => ?_)
    · have c_14 : r_9.toInt = 0 := xI_eq rfl rfl c_14
      refine lv_iconst (v := 0) hx hb dX7_readHand_29 (by decide) ?_
      exact W.zret (v := 0) hx hb hr (by decide) (fun t ht _ => ⟨⟨0, G_10, rfl, ⟨hB_G_10, hF, ⟨by decide, by decide⟩⟩, wd_t ht hW⟩, hS.F ht⟩) hS.2.2 dX7_readHand_30
    · have c_14 : r_9.toInt ≠ 0 := xI_ne rfl rfl c_14
      refine lv_aload_n hx hb dX7_readHand_19 rfl (lv_at hl 0 rfl) ?_
      refine lv_iconst (v := 1) hx hb dX7_readHand_20 (by decide) ?_
      refine lv_bipush (v := 99) hx hb dX7_readHand_21 (by decide) ?_
      have qc_15 : (1 : Int32).toInt = 1 := rfl
      have qc_16 : (99 : Int32).toInt = 99 := rfl
      refine S_calli (va_runV (As := [.int 1, .int 99]) (rest := []) ⟨hx, hb, hml, hown, hts⟩ (k_rNum l D k A a z G_10 1 99 ) (cwV 2 hts (gd_V hgd m791 m793 m11 m119 m794) rfl rfl rfl (by decide +kernel) ⟨Nat.le_of_ble_eq_true rfl, Nat.le_of_ble_eq_true rfl⟩) (pre_V hW hB_G_10 hK hZ hS kd_5 rfl) rfl rfl hl.1 rfl (lv_room (Nat.le_of_ble_eq_true rfl)) dX7_readHand_23 ⟨Nat.le_of_ble_eq_true rfl, Nat.le_of_ble_eq_true rfl⟩) hS (fun r_17 G_18 H locs hpo hW hS => ?_)
      obtain ⟨hB_G_18, hq_19, f_21, hp_20⟩ := hpo
      have hF := hF.call hq_19 (by decide) (by decide)
      refine lv_if_ne (tgt := 31) hx hb dX7_readHand_26 (by decide) (fun c_22 => ?_) (fun c_22 => ?_)
      · have c_22 : r_17.toInt ≠ 0 := xI_ne rfl rfl c_22
        refine lv_aload_n hx hb dX7_readHand_31 rfl (lv_at hl 0 rfl) ?_
        refine lv_iconst (v := 1) hx hb dX7_readHand_32 (by decide) ?_
        refine S_putI (ty := .boolean) (C := RX7) (T := TX7) (N := 10) hx hb hg iX7 tyX7 tyX7_ok nmX7 hown hK hW hS kd_5 rfl 7 (by decide) (hg (Cond.fieldLink RX7 52 "SlabWalk$Reader" "handTold" "Z") m319) (fun _ h9 => h9) rfl (by decide +kernel) (by decide) rfl rfl dX7_readHand_33 (fun G_23 H locs eG_23 hW hS => ?_)
        have hB_G_23 : Bd G_23 := hB_G_18.put (V := 1) (lo := 0) (hi := 1) eG_23 rfl rfl rfl (by omega) (by omega) (hB_G_18.2.put eG_23 rfl)
        have hF := hF.put eG_23 (Or.inr (by decide))
        refine lv_aload_n hx hb dX7_readHand_36 rfl (lv_at hl 0 rfl) ?_
        refine S_getV (n := 2) (C := RX7) (T := TX7) (N := 10) hx hb hg iX7 hown hK hW kd_5 rfl 5 (by decide) (hg (Cond.fieldLink RX7 39 "SlabWalk$Reader" "paving" "LSlabWalk$Paving;") m317) (fun _ h9 => h9) rfl ((((congrFun (congrFun (congrArg (fun q => q.2.2) eG_23) 5) 5).trans ((hq_19.r 5 5 (by decide) (by decide)).trans ((hq_11.r 5 5 (by decide) (by decide)).trans (hq_7.r 5 5 (by decide) (by decide)))))).trans (hv_5_5)) dX7_readHand_37 ?_
        refine lv_aload_n hx hb dX7_readHand_40 rfl (lv_at hl 0 rfl) ?_
        refine S_getI (v := (G_18.1 5 9)) (C := RX7) (T := TX7) (N := 10) hx hb hg iX7 hown hK hW kd_5 rfl 9 (by decide) (hg (Cond.fieldLink RX7 99 "SlabWalk$Reader" "number" "I") m321) (fun _ h9 => h9) rfl (gp_ne eG_23 (by decide)) dX7_readHand_41 ?_
        refine S_putI (ty := .int) (C := RX6) (T := TX6) (N := 17) hx hb hg iX6 tyX6 tyX6_ok nmX6 hown hK hW hS kd_2 rfl 14 (by decide) (hg (Cond.fieldLink RX7 169 "SlabWalk$Paving" "hand" "I") m202) (fun _ h9 => h9) rfl (by decide +kernel) rfl rfl rfl dX7_readHand_44 (fun G_24 H locs eG_24 hW hS => ?_)
        have hB_G_24 : Bd G_24 := hB_G_23.put (V := (G_18.1 5 9).toInt) (lo := 0) (hi := 99) eG_24 rfl rfl rfl (by omega) (by omega) (hB_G_23.2.put eG_24 rfl)
        have hF := hF.put eG_24 (Or.inr (by decide))
        refine lv_aload_n hx hb dX7_readHand_47 rfl (lv_at hl 0 rfl) ?_
        refine S_getR (n := 3) (C := RX7) (T := TX7) (N := 10) hx hb hg iX7 hown hK hW kd_5 rfl 0 (by decide) (hg (Cond.fieldLink RX7 26 "SlabWalk$Reader" "tokens" "LSlabWalk$Tokens;") m311) (fun _ h9 => h9) rfl dX7_readHand_48 ?_
        refine lv_sipush (v := 137) hx hb dX7_readHand_51 (by decide) ?_
        refine S_calli (va_runV (As := [.int 137]) (rest := []) ⟨hx, hb, hml, hown, hts⟩ (k_tPass l D k A a z G_24 137 ) (cwV 1 hts (gd_V hgd m786 m787 m788 m120 m789) rfl rfl rfl (by decide +kernel) ⟨Nat.le_of_ble_eq_true rfl, Nat.le_of_ble_eq_true rfl⟩) (pre_V hW hB_G_24 hK hZ hS kd_3 rfl) rfl rfl hl.1 rfl (lv_room (Nat.le_of_ble_eq_true rfl)) dX7_readHand_54 ⟨Nat.le_of_ble_eq_true rfl, Nat.le_of_ble_eq_true rfl⟩) hS (fun r_25 G_26 H locs hpo hW hS => ?_)
        obtain ⟨hB_G_26, hq_27, f_29⟩ := hpo
        have hF := hF.call hq_27 (by decide) (by decide)
        refine lv_if_eq (tgt := 70) hx hb dX7_readHand_57 (by decide) (fun c_30 => ?_) (fun c_30 => ?_)
        · have c_30 : r_25.toInt = 0 := xI_eq rfl rfl c_30
          refine lv_iconst (v := 0) hx hb dX7_readHand_70 (by decide) ?_
          exact W.zret (v := 0) hx hb hr (by decide) (fun t ht _ => ⟨⟨0, G_26, rfl, ⟨hB_G_26, hF, ⟨by decide, by decide⟩⟩, wd_t ht hW⟩, hS.F ht⟩) hS.2.2 dX7_readHand_71
        · have c_30 : r_25.toInt ≠ 0 := xI_ne rfl rfl c_30
          refine lv_aload_n hx hb dX7_readHand_60 rfl (lv_at hl 0 rfl) ?_
          refine lv_iconst (v := 0) hx hb dX7_readHand_61 (by decide) ?_
          refine lv_bipush (v := 99) hx hb dX7_readHand_62 (by decide) ?_
          have qc_31 : (0 : Int32).toInt = 0 := rfl
          have qc_32 : (99 : Int32).toInt = 99 := rfl
          refine S_calli (va_runV (As := [.int 0, .int 99]) (rest := []) ⟨hx, hb, hml, hown, hts⟩ (k_rNum l D k A a z G_26 0 99 ) (cwV 2 hts (gd_V hgd m791 m793 m11 m119 m794) rfl rfl rfl (by decide +kernel) ⟨Nat.le_of_ble_eq_true rfl, Nat.le_of_ble_eq_true rfl⟩) (pre_V hW hB_G_26 hK hZ hS kd_5 rfl) rfl rfl hl.1 rfl (lv_room (Nat.le_of_ble_eq_true rfl)) dX7_readHand_64 ⟨Nat.le_of_ble_eq_true rfl, Nat.le_of_ble_eq_true rfl⟩) hS (fun r_33 G_34 H locs hpo hW hS => ?_)
          obtain ⟨hB_G_34, hq_35, f_37, hp_36⟩ := hpo
          have hF := hF.call hq_35 (by decide) (by decide)
          refine lv_if_ne (tgt := 72) hx hb dX7_readHand_67 (by decide) (fun c_38 => ?_) (fun c_38 => ?_)
          · have c_38 : r_33.toInt ≠ 0 := xI_ne rfl rfl c_38
            refine lv_aload_n hx hb dX7_readHand_72 rfl (lv_at hl 0 rfl) ?_
            refine S_getV (n := 2) (C := RX7) (T := TX7) (N := 10) hx hb hg iX7 hown hK hW kd_5 rfl 5 (by decide) (hg (Cond.fieldLink RX7 39 "SlabWalk$Reader" "paving" "LSlabWalk$Paving;") m317) (fun _ h9 => h9) rfl ((((hq_35.r 5 5 (by decide) (by decide)).trans ((hq_27.r 5 5 (by decide) (by decide)).trans ((congrFun (congrFun (congrArg (fun q => q.2.2) eG_24) 5) 5).trans ((congrFun (congrFun (congrArg (fun q => q.2.2) eG_23) 5) 5).trans ((hq_19.r 5 5 (by decide) (by decide)).trans ((hq_11.r 5 5 (by decide) (by decide)).trans (hq_7.r 5 5 (by decide) (by decide))))))))).trans (hv_5_5)) dX7_readHand_73 ?_
            refine lv_aload_n hx hb dX7_readHand_76 rfl (lv_at hl 0 rfl) ?_
            refine S_getI (v := (G_34.1 5 9)) (C := RX7) (T := TX7) (N := 10) hx hb hg iX7 hown hK hW kd_5 rfl 9 (by decide) (hg (Cond.fieldLink RX7 99 "SlabWalk$Reader" "number" "I") m321) (fun _ h9 => h9) rfl rfl dX7_readHand_77 ?_
            refine S_putI (ty := .int) (C := RX6) (T := TX6) (N := 17) hx hb hg iX6 tyX6 tyX6_ok nmX6 hown hK hW hS kd_2 rfl 15 (by decide) (hg (Cond.fieldLink RX7 172 "SlabWalk$Paving" "slack" "I") m205) (fun _ h9 => h9) rfl (by decide +kernel) rfl rfl rfl dX7_readHand_80 (fun G_39 H locs eG_39 hW hS => ?_)
            have hB_G_39 : Bd G_39 := hB_G_34.put (V := (G_34.1 5 9).toInt) (lo := 0) (hi := 99) eG_39 rfl rfl rfl (by omega) (by omega) (hB_G_34.2.put eG_39 rfl)
            have hF := hF.put eG_39 (Or.inr (by decide))
            refine lv_aload_n hx hb dX7_readHand_83 rfl (lv_at hl 0 rfl) ?_
            refine S_getR (n := 3) (C := RX7) (T := TX7) (N := 10) hx hb hg iX7 hown hK hW kd_5 rfl 0 (by decide) (hg (Cond.fieldLink RX7 26 "SlabWalk$Reader" "tokens" "LSlabWalk$Tokens;") m311) (fun _ h9 => h9) rfl dX7_readHand_84 ?_
            refine lv_bipush (v := 59) hx hb dX7_readHand_87 (by decide) ?_
            refine S_calli (va_runV (As := [.int 59]) (rest := []) ⟨hx, hb, hml, hown, hts⟩ (k_tPass l D k A a z G_39 59 ) (cwV 1 hts (gd_V hgd m786 m787 m788 m120 m789) rfl rfl rfl (by decide +kernel) ⟨Nat.le_of_ble_eq_true rfl, Nat.le_of_ble_eq_true rfl⟩) (pre_V hW hB_G_39 hK hZ hS kd_3 rfl) rfl rfl hl.1 rfl (lv_room (Nat.le_of_ble_eq_true rfl)) dX7_readHand_89 ⟨Nat.le_of_ble_eq_true rfl, Nat.le_of_ble_eq_true rfl⟩) hS (fun r_40 G_41 H locs hpo hW hS => ?_)
            obtain ⟨hB_G_41, hq_42, f_44⟩ := hpo
            have hF := hF.call hq_42 (by decide) (by decide)
            exact W.zret (v := r_40) hx hb hr (nar_z (by omega) (by omega)) (fun t ht _ => ⟨⟨r_40, G_41, rfl, ⟨hB_G_41, hF, ⟨by omega, by omega⟩⟩, wd_t ht hW⟩, hS.F ht⟩) hS.2.2 dX7_readHand_92
          · have c_38 : r_33.toInt = 0 := xI_eq rfl rfl c_38
            refine lv_iconst (v := 0) hx hb dX7_readHand_70 (by decide) ?_
            exact W.zret (v := 0) hx hb hr (by decide) (fun t ht _ => ⟨⟨0, G_34, rfl, ⟨hB_G_34, hF, ⟨by decide, by decide⟩⟩, wd_t ht hW⟩, hS.F ht⟩) hS.2.2 dX7_readHand_71
      · have c_22 : r_17.toInt = 0 := xI_eq rfl rfl c_22
        refine lv_iconst (v := 0) hx hb dX7_readHand_29 (by decide) ?_
        exact W.zret (v := 0) hx hb hr (by decide) (fun t ht _ => ⟨⟨0, G_18, rfl, ⟨hB_G_18, hF, ⟨by decide, by decide⟩⟩, wd_t ht hW⟩, hS.F ht⟩) hS.2.2 dX7_readHand_30
  refine lv_if_ne (tgt := 12) hx hb dX7_readHand_5 (by decide) (fun c_45 => ?_) (fun c_45 => ?_)
  · have c_45 : (G.1 5 7).toInt ≠ 0 := xI_ne rfl rfl c_45
    refine lv_iconst (v := 0) hx hb dX7_readHand_12 (by decide) ?_
    have qc_46 : (0 : Int32).toInt = 0 := rfl
    exact hJ_6 0 _ _ _ ⟨G, ⟨by omega, by omega⟩, hW, hB_G, hF, Fr.rf, hS, lv_sub hl [0] rfl⟩
  · have c_45 : (G.1 5 7).toInt = 0 := xI_eq rfl rfl c_45
    refine lv_iconst (v := 1) hx hb dX7_readHand_8 (by decide) ?_
    refine lv_goto (tgt := 13) hx hb dX7_readHand_9 (by decide) ?_
    have qc_47 : (1 : Int32).toInt = 1 := rfl
    exact hJ_6 1 _ _ _ ⟨G, ⟨by omega, by omega⟩, hW, hB_G, hF, Fr.rf, hS, lv_sub hl [0] rfl⟩

set_option maxHeartbeats 4000000 in
set_option maxRecDepth 100000 in
theorem k_rDraw_2 (l : Launch) (D : va_G) (k : KT) (A : Nat → Prop) (a : Nat → Nat) (z : SK) (G : GS)  (hv_5_5 : G.2.2 5 5 = 2) : Met l yX7_readDraw (WS yX7_readDraw cX7_readDraw 1 (some .boolean)) ({ frames := 8, cells := 0, slots := 0, locals := 170 }) (va_Pc [.ref (a 5)] (cW D k A a z G)) (va_Qi (fun (r : Int32) (G1 : GS) => Bd G1 ∧ Fr [] [(2, 16), (3, 2), (3, 3), (3, 4), (3, 5), (3, 6), (3, 7), (3, 8), (5, 8), (5, 9)] G G1 ∧ (0 ≤ r.toInt ∧ r.toInt ≤ 1)) (fun (G1 : GS) t => Wd D k A a G1 t.heap) A) 0 0 A := by
  refine Met.ofW (cc := cX7_readDraw) (maxL := 1) (ret := (some .boolean)) (by decide) rfl ?_
  intro p e s m args below meth c s₁ B hml hv
  obtain ⟨rfl, hW, hB_G, hK, hZ⟩ := hv
  have hx := B.exec
  have hb := B.bytes
  have hr := B.returns
  have hts := atoms_spec (ws := WS yX7_readDraw cX7_readDraw 1 (some .boolean)) B.pre
  have hgd : ∀ w ∈ gd, w ∈ WS yX7_readDraw cX7_readDraw 1 (some .boolean) := fun w h => List.mem_cons_of_mem _ h
  have hg : ∀ w ∈ gd, w.before _ s = true := fun w h => hts w (hgd w h)
  have hown : s.vm.findClass RX7 = some m.cls := findClass_of_methodNamed B.named
  have hS : va_S A s.heap s.heap [] := va_S.rf
  have hF : Fr [] [(2, 16), (3, 2), (3, 3), (3, 4), (3, 5), (3, 6), (3, 7), (3, 8), (5, 8), (5, 9)] G G := Fr.rf
  have hl := lv_entry ([.ref (a 5)]) (n := 1) (Nat.le_of_ble_eq_true rfl)
  rw [lg_entry_eq]
  generalize (lg_sl ([.ref (a 5)]) ++ List.replicate (1 - (lg_sl ([.ref (a 5)])).length) Slot.unset).toArray = ls at hl ⊢
  have hl : lv_has ls 1 [(0, .ref (a 5))] := hl
  refine lv_aload_n hx hb dX7_readDraw_0 rfl (lv_at hl 0 rfl) ?_
  refine lv_aload_n hx hb dX7_readDraw_1 rfl (lv_at hl 0 rfl) ?_
  have b_1 : 0 ≤ (G.1 5 8).toInt ∧ (G.1 5 8).toInt ≤ 1 := hB_G.i 5 8 rfl rfl
  refine S_getI (v := (G.1 5 8)) (C := RX7) (T := TX7) (N := 10) hx hb hg iX7 hown hK hW kd_5 rfl 8 (by decide) (hg (Cond.fieldLink RX7 55 "SlabWalk$Reader" "drawTold" "Z") m320) (fun _ h9 => h9) rfl rfl dX7_readDraw_2 ?_
  refine W.cut (σ := Int32) (pcJ := 13) (J := fun y H locs ls => ∃ (G_5 : GS), (0 ≤ y.toInt ∧ y.toInt ≤ 1) ∧ Wd D k A a G_5 H ∧ Bd G_5 ∧ Fr [] [(2, 16), (3, 2), (3, 3), (3, 4), (3, 5), (3, 6), (3, 7), (3, 8), (5, 8), (5, 9)] G G_5 ∧ Fr [] [] G G_5 ∧ va_S A s.heap H locs ∧ lv_has ls 1 [(0, .ref (a 5))]) (stJ := fun y => [.int y, .ref (a 5)]) ?_ (fun hJ_6 => ?_)
  · intro y H locs ls hI
    obtain ⟨w_3, hy⟩ : ∃ q, q = y := ⟨_, rfl⟩
    subst hy
    obtain ⟨G_5, f_8, hW, hB_G_5, hF, hq_7, hS, hl⟩ := hI
    refine S_calli (va_runV (As := [.int w_3]) (rest := []) ⟨hx, hb, hml, hown, hts⟩ (k_rFirst l D k A a z G_5 w_3 ⟨by omega, by omega⟩) (cwV 1 hts (gd_V hgd m773 m775 m9 m119 m776) rfl rfl rfl (by decide +kernel) ⟨Nat.le_of_ble_eq_true rfl, Nat.le_of_ble_eq_true rfl⟩) (pre_V hW hB_G_5 hK hZ hS kd_5 rfl) rfl rfl hl.1 rfl (lv_room (Nat.le_of_ble_eq_true rfl)) dX7_readDraw_13 ⟨Nat.le_of_ble_eq_true rfl, Nat.le_of_ble_eq_true rfl⟩) hS (fun r_9 G_10 H locs hpo hW hS => ?_)
    obtain ⟨hB_G_10, hq_11, f_13, hp_12⟩ := hpo
    have hF := hF.call hq_11 (by decide) (by decide)
    refine lv_if_eq (tgt := 30) hx hb dX7_readDraw_16 (by decide) (fun c_14 => ?_) (fun c_14 => ?_)
    · have c_14 : r_9.toInt = 0 := xI_eq rfl rfl c_14
      refine lv_iconst (v := 0) hx hb dX7_readDraw_30 (by decide) ?_
      exact W.zret (v := 0) hx hb hr (by decide) (fun t ht _ => ⟨⟨0, G_10, rfl, ⟨hB_G_10, hF, ⟨by decide, by decide⟩⟩, wd_t ht hW⟩, hS.F ht⟩) hS.2.2 dX7_readDraw_31
    · have c_14 : r_9.toInt ≠ 0 := xI_ne rfl rfl c_14
      refine lv_aload_n hx hb dX7_readDraw_19 rfl (lv_at hl 0 rfl) ?_
      refine lv_iconst (v := 0) hx hb dX7_readDraw_20 (by decide) ?_
      refine lv_sipush (v := 999) hx hb dX7_readDraw_21 (by decide) ?_
      have qc_15 : (0 : Int32).toInt = 0 := rfl
      have qc_16 : (999 : Int32).toInt = 999 := rfl
      refine S_calli (va_runV (As := [.int 0, .int 999]) (rest := []) ⟨hx, hb, hml, hown, hts⟩ (k_rNum l D k A a z G_10 0 999 ) (cwV 2 hts (gd_V hgd m791 m793 m11 m119 m794) rfl rfl rfl (by decide +kernel) ⟨Nat.le_of_ble_eq_true rfl, Nat.le_of_ble_eq_true rfl⟩) (pre_V hW hB_G_10 hK hZ hS kd_5 rfl) rfl rfl hl.1 rfl (lv_room (Nat.le_of_ble_eq_true rfl)) dX7_readDraw_24 ⟨Nat.le_of_ble_eq_true rfl, Nat.le_of_ble_eq_true rfl⟩) hS (fun r_17 G_18 H locs hpo hW hS => ?_)
      obtain ⟨hB_G_18, hq_19, f_21, hp_20⟩ := hpo
      have hF := hF.call hq_19 (by decide) (by decide)
      refine lv_if_ne (tgt := 32) hx hb dX7_readDraw_27 (by decide) (fun c_22 => ?_) (fun c_22 => ?_)
      · have c_22 : r_17.toInt ≠ 0 := xI_ne rfl rfl c_22
        refine lv_aload_n hx hb dX7_readDraw_32 rfl (lv_at hl 0 rfl) ?_
        refine lv_iconst (v := 1) hx hb dX7_readDraw_33 (by decide) ?_
        refine S_putI (ty := .boolean) (C := RX7) (T := TX7) (N := 10) hx hb hg iX7 tyX7 tyX7_ok nmX7 hown hK hW hS kd_5 rfl 8 (by decide) (hg (Cond.fieldLink RX7 55 "SlabWalk$Reader" "drawTold" "Z") m320) (fun _ h9 => h9) rfl (by decide +kernel) (by decide) rfl rfl dX7_readDraw_34 (fun G_23 H locs eG_23 hW hS => ?_)
        have hB_G_23 : Bd G_23 := hB_G_18.put (V := 1) (lo := 0) (hi := 1) eG_23 rfl rfl rfl (by omega) (by omega) (hB_G_18.2.put eG_23 rfl)
        have hF := hF.put eG_23 (Or.inr (by decide))
        refine lv_aload_n hx hb dX7_readDraw_37 rfl (lv_at hl 0 rfl) ?_
        refine S_getV (n := 2) (C := RX7) (T := TX7) (N := 10) hx hb hg iX7 hown hK hW kd_5 rfl 5 (by decide) (hg (Cond.fieldLink RX7 39 "SlabWalk$Reader" "paving" "LSlabWalk$Paving;") m317) (fun _ h9 => h9) rfl ((((congrFun (congrFun (congrArg (fun q => q.2.2) eG_23) 5) 5).trans ((hq_19.r 5 5 (by decide) (by decide)).trans ((hq_11.r 5 5 (by decide) (by decide)).trans (hq_7.r 5 5 (by decide) (by decide)))))).trans (hv_5_5)) dX7_readDraw_38 ?_
        refine lv_aload_n hx hb dX7_readDraw_41 rfl (lv_at hl 0 rfl) ?_
        refine S_getI (v := (G_18.1 5 9)) (C := RX7) (T := TX7) (N := 10) hx hb hg iX7 hown hK hW kd_5 rfl 9 (by decide) (hg (Cond.fieldLink RX7 99 "SlabWalk$Reader" "number" "I") m321) (fun _ h9 => h9) rfl (gp_ne eG_23 (by decide)) dX7_readDraw_42 ?_
        refine S_putI (ty := .int) (C := RX6) (T := TX6) (N := 17) hx hb hg iX6 tyX6 tyX6_ok nmX6 hown hK hW hS kd_2 rfl 16 (by decide) (hg (Cond.fieldLink RX7 175 "SlabWalk$Paving" "draw" "I") m208) (fun _ h9 => h9) rfl (by decide +kernel) rfl rfl rfl dX7_readDraw_45 (fun G_24 H locs eG_24 hW hS => ?_)
        have hB_G_24 : Bd G_24 := hB_G_23.put (V := (G_18.1 5 9).toInt) (lo := 0) (hi := 999) eG_24 rfl rfl rfl (by omega) (by omega) (hB_G_23.2.put eG_24 rfl)
        have hF := hF.put eG_24 (Or.inr (by decide))
        refine lv_aload_n hx hb dX7_readDraw_48 rfl (lv_at hl 0 rfl) ?_
        refine S_getR (n := 3) (C := RX7) (T := TX7) (N := 10) hx hb hg iX7 hown hK hW kd_5 rfl 0 (by decide) (hg (Cond.fieldLink RX7 26 "SlabWalk$Reader" "tokens" "LSlabWalk$Tokens;") m311) (fun _ h9 => h9) rfl dX7_readDraw_49 ?_
        refine lv_bipush (v := 59) hx hb dX7_readDraw_52 (by decide) ?_
        refine S_calli (va_runV (As := [.int 59]) (rest := []) ⟨hx, hb, hml, hown, hts⟩ (k_tPass l D k A a z G_24 59 ) (cwV 1 hts (gd_V hgd m786 m787 m788 m120 m789) rfl rfl rfl (by decide +kernel) ⟨Nat.le_of_ble_eq_true rfl, Nat.le_of_ble_eq_true rfl⟩) (pre_V hW hB_G_24 hK hZ hS kd_3 rfl) rfl rfl hl.1 rfl (lv_room (Nat.le_of_ble_eq_true rfl)) dX7_readDraw_54 ⟨Nat.le_of_ble_eq_true rfl, Nat.le_of_ble_eq_true rfl⟩) hS (fun r_25 G_26 H locs hpo hW hS => ?_)
        obtain ⟨hB_G_26, hq_27, f_29⟩ := hpo
        have hF := hF.call hq_27 (by decide) (by decide)
        exact W.zret (v := r_25) hx hb hr (nar_z (by omega) (by omega)) (fun t ht _ => ⟨⟨r_25, G_26, rfl, ⟨hB_G_26, hF, ⟨by omega, by omega⟩⟩, wd_t ht hW⟩, hS.F ht⟩) hS.2.2 dX7_readDraw_57
      · have c_22 : r_17.toInt = 0 := xI_eq rfl rfl c_22
        refine lv_iconst (v := 0) hx hb dX7_readDraw_30 (by decide) ?_
        exact W.zret (v := 0) hx hb hr (by decide) (fun t ht _ => ⟨⟨0, G_18, rfl, ⟨hB_G_18, hF, ⟨by decide, by decide⟩⟩, wd_t ht hW⟩, hS.F ht⟩) hS.2.2 dX7_readDraw_31
  refine lv_if_ne (tgt := 12) hx hb dX7_readDraw_5 (by decide) (fun c_30 => ?_) (fun c_30 => ?_)
  · have c_30 : (G.1 5 8).toInt ≠ 0 := xI_ne rfl rfl c_30
    refine lv_iconst (v := 0) hx hb dX7_readDraw_12 (by decide) ?_
    have qc_31 : (0 : Int32).toInt = 0 := rfl
    exact hJ_6 0 _ _ _ ⟨G, ⟨by omega, by omega⟩, hW, hB_G, hF, Fr.rf, hS, lv_sub hl [0] rfl⟩
  · have c_30 : (G.1 5 8).toInt = 0 := xI_eq rfl rfl c_30
    refine lv_iconst (v := 1) hx hb dX7_readDraw_8 (by decide) ?_
    refine lv_goto (tgt := 13) hx hb dX7_readDraw_9 (by decide) ?_
    have qc_32 : (1 : Int32).toInt = 1 := rfl
    exact hJ_6 1 _ _ _ ⟨G, ⟨by omega, by omega⟩, hW, hB_G, hF, Fr.rf, hS, lv_sub hl [0] rfl⟩

set_option maxHeartbeats 4000000 in
set_option maxRecDepth 100000 in
theorem k_rRead_2 (l : Launch) (D : va_G) (k : KT) (A : Nat → Prop) (a : Nat → Nat) (z : SK) (G : GS) (p0 : Int32) (ha_p0 : 0 ≤ p0.toInt ∧ p0.toInt ≤ 1600) : Met l yX7_read (WS yX7_read cX7_read 5 (some .boolean)) ({ frames := 100, cells := 0, slots := 0, locals := 2149 }) (va_Pc [.ref (a 5), .int p0, .ref (a 2)] (cW D k A a z G)) (va_Qi (fun (r : Int32) (G1 : GS) => Bd G1 ∧ Fr [20, 21, 22, 23, 24, 25, 26, 27, 28, 34, 35, 36] [(2, 9), (2, 10), (2, 11), (2, 12), (2, 13), (2, 14), (2, 15), (2, 16), (3, 1), (3, 2), (3, 3), (3, 4), (3, 5), (3, 6), (3, 7), (3, 8), (4, 1), (4, 2), (5, 5), (5, 6), (5, 7), (5, 8), (5, 9)] G G1 ∧ (0 ≤ r.toInt ∧ r.toInt ≤ 1)) (fun (G1 : GS) t => Wd D k A a G1 t.heap) A) 0 0 A := by
  refine Met.ofW (cc := cX7_read) (maxL := 5) (ret := (some .boolean)) (by decide) rfl ?_
  intro p e s m args below meth c s₁ B hml hv
  obtain ⟨rfl, hW, hB_G, hK, hZ⟩ := hv
  have hx := B.exec
  have hb := B.bytes
  have hr := B.returns
  have hts := atoms_spec (ws := WS yX7_read cX7_read 5 (some .boolean)) B.pre
  have hgd : ∀ w ∈ gd, w ∈ WS yX7_read cX7_read 5 (some .boolean) := fun w h => List.mem_cons_of_mem _ h
  have hg : ∀ w ∈ gd, w.before _ s = true := fun w h => hts w (hgd w h)
  have hown : s.vm.findClass RX7 = some m.cls := findClass_of_methodNamed B.named
  have hS : va_S A s.heap s.heap [] := va_S.rf
  have hF : Fr [20, 21, 22, 23, 24, 25, 26, 27, 28, 34, 35, 36] [(2, 9), (2, 10), (2, 11), (2, 12), (2, 13), (2, 14), (2, 15), (2, 16), (3, 1), (3, 2), (3, 3), (3, 4), (3, 5), (3, 6), (3, 7), (3, 8), (4, 1), (4, 2), (5, 5), (5, 6), (5, 7), (5, 8), (5, 9)] G G := Fr.rf
  have hl := lv_entry ([.ref (a 5), .int p0, .ref (a 2)]) (n := 5) (Nat.le_of_ble_eq_true rfl)
  rw [lg_entry_eq]
  generalize (lg_sl ([.ref (a 5), .int p0, .ref (a 2)]) ++ List.replicate (5 - (lg_sl ([.ref (a 5), .int p0, .ref (a 2)])).length) Slot.unset).toArray = ls at hl ⊢
  have hl : lv_has ls 5 [(0, .ref (a 5)), (1, .int p0), (2, .ref (a 2))] := hl
  refine lv_aload_n hx hb dX7_read_0 rfl (lv_at hl 0 rfl) ?_
  refine lv_aload_n hx hb dX7_read_1 rfl (lv_at hl 2 rfl) ?_
  refine S_putV (ty := .object "SlabWalk$Paving") (n := 2) (C := RX7) (T := TX7) (N := 10) hx hb hg iX7 tyX7 tyX7_ok nmX7 hown hK hW hS kd_5 rfl 5 (by decide) (hg (Cond.fieldLink RX7 39 "SlabWalk$Reader" "paving" "LSlabWalk$Paving;") m317) (fun _ h9 => h9) rfl (by decide +kernel) rfl rfl rfl dX7_read_2 (fun G_1 H locs eG_1 hW hS => ?_)
  have hB_G_1 : Bd G_1 := hB_G.putr eG_1 (by decide) (by decide)
  have hF := hF.putr eG_1 (Or.inr (by decide))
  refine lv_aload_n hx hb dX7_read_5 rfl (lv_at hl 0 rfl) ?_
  refine S_getV (n := 2) (C := RX7) (T := TX7) (N := 10) hx hb hg iX7 hown hK hW kd_5 rfl 5 (by decide) (hg (Cond.fieldLink RX7 39 "SlabWalk$Reader" "paving" "LSlabWalk$Paving;") m317) (fun _ h9 => h9) rfl (gp_re eG_1) dX7_read_6 ?_
  refine S_callv (va_runV (As := []) (rest := []) ⟨hx, hb, hml, hown, hts⟩ (k_empty_2 l D k A a z G_1  ) (cwV 0 hts (gd_V hgd m630 m153 m154 m118 m155) rfl rfl rfl (by decide +kernel) ⟨Nat.le_of_ble_eq_true rfl, Nat.le_of_ble_eq_true rfl⟩) (pre_V hW hB_G_1 hK hZ hS kd_2 rfl) rfl rfl hl.1 rfl (lv_room (Nat.le_of_ble_eq_true rfl)) dX7_read_9 ⟨Nat.le_of_ble_eq_true rfl, Nat.le_of_ble_eq_true rfl⟩) hS (fun G_3 H locs hpo hW hS => ?_)
  obtain ⟨hB_G_3, hq_4⟩ := hpo
  have hF := hF.call hq_4 (by decide) (by decide)
  refine lv_aload_n hx hb dX7_read_12 rfl (lv_at hl 0 rfl) ?_
  refine lv_iconst (v := 0) hx hb dX7_read_13 (by decide) ?_
  refine S_putI (ty := .boolean) (C := RX7) (T := TX7) (N := 10) hx hb hg iX7 tyX7 tyX7_ok nmX7 hown hK hW hS kd_5 rfl 6 (by decide) (hg (Cond.fieldLink RX7 48 "SlabWalk$Reader" "slipTold" "Z") m318) (fun _ h9 => h9) rfl (by decide +kernel) (by decide) rfl rfl dX7_read_14 (fun G_6 H locs eG_6 hW hS => ?_)
  have hB_G_6 : Bd G_6 := hB_G_3.put (V := 0) (lo := 0) (hi := 1) eG_6 rfl rfl rfl (by omega) (by omega) (hB_G_3.2.put eG_6 rfl)
  have hF := hF.put eG_6 (Or.inr (by decide))
  refine lv_aload_n hx hb dX7_read_17 rfl (lv_at hl 0 rfl) ?_
  refine lv_iconst (v := 0) hx hb dX7_read_18 (by decide) ?_
  refine S_putI (ty := .boolean) (C := RX7) (T := TX7) (N := 10) hx hb hg iX7 tyX7 tyX7_ok nmX7 hown hK hW hS kd_5 rfl 7 (by decide) (hg (Cond.fieldLink RX7 52 "SlabWalk$Reader" "handTold" "Z") m319) (fun _ h9 => h9) rfl (by decide +kernel) (by decide) rfl rfl dX7_read_19 (fun G_7 H locs eG_7 hW hS => ?_)
  have hB_G_7 : Bd G_7 := hB_G_6.put (V := 0) (lo := 0) (hi := 1) eG_7 rfl rfl rfl (by omega) (by omega) (hB_G_6.2.put eG_7 rfl)
  have hF := hF.put eG_7 (Or.inr (by decide))
  refine lv_aload_n hx hb dX7_read_22 rfl (lv_at hl 0 rfl) ?_
  refine lv_iconst (v := 0) hx hb dX7_read_23 (by decide) ?_
  refine S_putI (ty := .boolean) (C := RX7) (T := TX7) (N := 10) hx hb hg iX7 tyX7 tyX7_ok nmX7 hown hK hW hS kd_5 rfl 8 (by decide) (hg (Cond.fieldLink RX7 55 "SlabWalk$Reader" "drawTold" "Z") m320) (fun _ h9 => h9) rfl (by decide +kernel) (by decide) rfl rfl dX7_read_24 (fun G_8 H locs eG_8 hW hS => ?_)
  have hB_G_8 : Bd G_8 := hB_G_7.put (V := 0) (lo := 0) (hi := 1) eG_8 rfl rfl rfl (by omega) (by omega) (hB_G_7.2.put eG_8 rfl)
  have hF := hF.put eG_8 (Or.inr (by decide))
  refine lv_aload_n hx hb dX7_read_27 rfl (lv_at hl 0 rfl) ?_
  refine S_getR (n := 3) (C := RX7) (T := TX7) (N := 10) hx hb hg iX7 hown hK hW kd_5 rfl 0 (by decide) (hg (Cond.fieldLink RX7 26 "SlabWalk$Reader" "tokens" "LSlabWalk$Tokens;") m311) (fun _ h9 => h9) rfl dX7_read_28 ?_
  refine lv_iload_n hx hb dX7_read_31 rfl (lv_at hl 1 rfl) ?_
  refine S_callv (va_runV (As := [.int p0]) (rest := []) ⟨hx, hb, hml, hown, hts⟩ (k_tOpen l D k A a z G_8 p0 ⟨by omega, by omega⟩) (cwV 1 hts (gd_V hgd m631 m632 m633 m120 m634) rfl rfl rfl (by decide +kernel) ⟨Nat.le_of_ble_eq_true rfl, Nat.le_of_ble_eq_true rfl⟩) (pre_V hW hB_G_8 hK hZ hS kd_3 rfl) rfl rfl hl.1 rfl (lv_room (Nat.le_of_ble_eq_true rfl)) dX7_read_32 ⟨Nat.le_of_ble_eq_true rfl, Nat.le_of_ble_eq_true rfl⟩) hS (fun G_10 H locs hpo hW hS => ?_)
  obtain ⟨hB_G_10, hq_11⟩ := hpo
  have hF := hF.call hq_11 (by decide) (by decide)
  refine lv_iconst (v := 1) hx hb dX7_read_35 (by decide) ?_
  refine lv_istore_n (lv' := [(3, .int 1), (0, .ref (a 5)), (1, .int p0), (2, .ref (a 2))]) hx hb dX7_read_36 rfl hl (by decide) rfl (fun ls hl => ?_)
  refine lv_iconst (v := 0) hx hb dX7_read_37 (by decide) ?_
  refine lv_istore (lv' := [(4, .int 0), (3, .int 1), (0, .ref (a 5)), (1, .int p0), (2, .ref (a 2))]) hx hb dX7_read_38 hl (by decide) rfl (fun ls hl => ?_)
  have qc_19 : (0 : Int32).toInt = 0 := rfl
  have qc_20 : (1 : Int32).toInt = 1 := rfl
  refine loop_N (Inv := fun n H locs ls => ∃ (G_13 : GS) (x_17 : Int32) (x_18 : Int32), (n : Int) = 1600 - x_17.toInt ∧ (0 ≤ x_17.toInt ∧ x_17.toInt ≤ 1600) ∧ (0 ≤ x_18.toInt ∧ x_18.toInt ≤ 1) ∧ Wd D k A a G_13 H ∧ Bd G_13 ∧ Fr [20, 21, 22, 23, 24, 25, 26, 27, 28, 34, 35, 36] [(2, 9), (2, 10), (2, 11), (2, 12), (2, 13), (2, 14), (2, 15), (2, 16), (3, 1), (3, 2), (3, 3), (3, 4), (3, 5), (3, 6), (3, 7), (3, 8), (4, 1), (4, 2), (5, 5), (5, 6), (5, 7), (5, 8), (5, 9)] G G_13 ∧ Fr [20, 21, 22, 23, 24, 25, 26, 27, 28, 34, 35, 36] [(2, 9), (2, 10), (2, 11), (2, 12), (2, 13), (2, 14), (2, 15), (2, 16), (3, 2), (3, 3), (3, 4), (3, 5), (3, 6), (3, 7), (3, 8), (4, 1), (4, 2), (5, 6), (5, 7), (5, 8), (5, 9)] G_10 G_13 ∧ va_S A s.heap H locs ∧ lv_has ls 5 [(4, .int x_17), (3, .int x_18), (0, .ref (a 5))]) (fun n_16 H locs ls ih_15 hI => ?_) (1600 - 0 : Int).toNat ⟨G_10, 0, 1, (Int.toNat_of_nonneg (by omega)), ⟨by omega, by omega⟩, ⟨by omega, by omega⟩, hW, hB_G_10, hF, Fr.rf, hS, lv_sub hl [0, 1, 2] rfl⟩
  obtain ⟨G_13, x_17, x_18, hn_23, f_21, f_22, hW, hB_G_13, hF, hq_14, hS, hl⟩ := hI
  refine lv_iload_n hx hb dX7_read_40 rfl (lv_at hl 1 rfl) ?_
  refine lv_if_eq (tgt := 195) hx hb dX7_read_41 (by decide) (fun c_24 => ?_) (fun c_24 => ?_)
  · have c_24 : x_18.toInt = 0 := xI_eq rfl rfl c_24
    refine lv_iload_n hx hb dX7_read_195 rfl (lv_at hl 1 rfl) ?_
    exact W.zret (v := x_18) hx hb hr (nar_z (by omega) (by omega)) (fun t ht _ => ⟨⟨x_18, G_13, rfl, ⟨hB_G_13, hF, ⟨by omega, by omega⟩⟩, wd_t ht hW⟩, hS.F ht⟩) hS.2.2 dX7_read_196
  · have c_24 : x_18.toInt ≠ 0 := xI_ne rfl rfl c_24
    refine lv_iload hx hb dX7_read_44 (lv_at hl 0 rfl) ?_
    refine lv_sipush (v := 1600) hx hb dX7_read_46 (by decide) ?_
    refine lv_icmp_ge (tgt := 195) hx hb dX7_read_49 (by decide) (fun c_25 => ?_) (fun c_25 => ?_)
    · have c_25 : 1600 ≤ x_17.toInt := xI_le rfl rfl c_25
      refine lv_iload_n hx hb dX7_read_195 rfl (lv_at hl 1 rfl) ?_
      exact W.zret (v := x_18) hx hb hr (nar_z (by omega) (by omega)) (fun t ht _ => ⟨⟨x_18, G_13, rfl, ⟨hB_G_13, hF, ⟨by omega, by omega⟩⟩, wd_t ht hW⟩, hS.F ht⟩) hS.2.2 dX7_read_196
    · have c_25 : x_17.toInt < 1600 := xI_nle rfl rfl c_25
      refine lv_aload_n hx hb dX7_read_52 rfl (lv_at hl 2 rfl) ?_
      refine S_getR (n := 3) (C := RX7) (T := TX7) (N := 10) hx hb hg iX7 hown hK hW kd_5 rfl 0 (by decide) (hg (Cond.fieldLink RX7 26 "SlabWalk$Reader" "tokens" "LSlabWalk$Tokens;") m311) (fun _ h9 => h9) rfl dX7_read_53 ?_
      refine S_getI (v := (G_13.1 3 3)) (C := RX9) (T := TX9) (N := 9) hx hb hg iX9 hown hK hW kd_3 rfl 3 (by decide) (hg (Cond.fieldLink RX7 62 "SlabWalk$Tokens" "kind" "I") m261) (fun _ h9 => h9) rfl rfl dX7_read_56 ?_
      refine lv_sipush (v := 203) hx hb dX7_read_59 (by decide) ?_
      refine lv_icmp_eq (tgt := 195) hx hb dX7_read_62 (by decide) (fun c_26 => ?_) (fun c_26 => ?_)
      · have c_26 : (G_13.1 3 3).toInt = 203 := xI_eq rfl rfl c_26
        refine lv_iload_n hx hb dX7_read_195 rfl (lv_at hl 1 rfl) ?_
        exact W.zret (v := x_18) hx hb hr (nar_z (by omega) (by omega)) (fun t ht _ => ⟨⟨x_18, G_13, rfl, ⟨hB_G_13, hF, ⟨by omega, by omega⟩⟩, wd_t ht hW⟩, hS.F ht⟩) hS.2.2 dX7_read_196
      · have c_26 : (G_13.1 3 3).toInt ≠ 203 := xI_ne rfl rfl c_26
        refine lv_aload_n hx hb dX7_read_65 rfl (lv_at hl 2 rfl) ?_
        refine S_getR (n := 3) (C := RX7) (T := TX7) (N := 10) hx hb hg iX7 hown hK hW kd_5 rfl 0 (by decide) (hg (Cond.fieldLink RX7 26 "SlabWalk$Reader" "tokens" "LSlabWalk$Tokens;") m311) (fun _ h9 => h9) rfl dX7_read_66 ?_
        refine S_getI (v := (G_13.1 3 3)) (C := RX9) (T := TX9) (N := 9) hx hb hg iX9 hown hK hW kd_3 rfl 3 (by decide) (hg (Cond.fieldLink RX7 62 "SlabWalk$Tokens" "kind" "I") m261) (fun _ h9 => h9) rfl rfl dX7_read_69 ?_
        by_cases c_27 : (G_13.1 3 3) = 128
        · refine lv_tableIn (tgt := 132) hx hb dX7_read_72 (by rw [c_27]; decide) (by rw [c_27]; decide) (off := 60) (by rw [c_27]; decide) (by decide) ?_
          have c_27 : (G_13.1 3 3).toInt = 128 := xI_eq rfl rfl c_27
          refine lv_aload_n hx hb dX7_read_132 rfl (lv_at hl 2 rfl) ?_
          refine S_calli (va_runV (As := []) (rest := []) ⟨hx, hb, hml, hown, hts⟩ (k_rStreet_2 l D k A a z G_13  ((hq_14.r 5 5 (by decide) (by decide)).trans ((hq_11.r 5 5 (by decide) (by decide)).trans ((congrFun (congrFun (congrArg (fun q => q.2.2) eG_8) 5) 5).trans ((congrFun (congrFun (congrArg (fun q => q.2.2) eG_7) 5) 5).trans ((congrFun (congrFun (congrArg (fun q => q.2.2) eG_6) 5) 5).trans ((hq_4.r 5 5 (by decide) (by decide)).trans (gp_re eG_1)))))))) (cwV 0 hts (gd_V hgd m769 m771 m8 m119 m772) rfl rfl rfl (by decide +kernel) ⟨Nat.le_of_ble_eq_true rfl, Nat.le_of_ble_eq_true rfl⟩) (pre_V hW hB_G_13 hK hZ hS kd_5 rfl) rfl rfl hl.1 rfl (lv_room (Nat.le_of_ble_eq_true rfl)) dX7_read_133 ⟨Nat.le_of_ble_eq_true rfl, Nat.le_of_ble_eq_true rfl⟩) hS (fun r_28 G_29 H locs hpo hW hS => ?_)
          obtain ⟨hB_G_29, hq_30, f_32⟩ := hpo
          have hF := hF.call hq_30 (by decide) (by decide)
          refine lv_istore_n (lv' := [(3, .int r_28), (4, .int x_17), (0, .ref (a 5))]) hx hb dX7_read_136 rfl hl (by decide) rfl (fun ls hl => ?_)
          refine lv_goto (tgt := 189) hx hb dX7_read_137 (by decide) ?_
          obtain ⟨y_33, ey_33⟩ : ∃ q, q = x_17 + 1 := ⟨_, rfl⟩
          have ty_33 : y_33.toInt = x_17.toInt + 1 := xI_add rfl rfl ey_33 (by omega) (by omega)
          refine lv_iinc (v := y_33) (lv' := [(4, .int y_33), (3, .int r_28), (0, .ref (a 5))]) hx hb dX7_read_189 hl (k := 1) rfl (by rw [ey_33]; rfl) (by decide) rfl (fun ls hl => ?_)
          refine lv_goto (tgt := 40) hx hb dX7_read_192 (by decide) ?_
          exact ih_15 (1600 - y_33.toInt : Int).toNat (by omega) _ _ _ ⟨G_29, y_33, r_28, (Int.toNat_of_nonneg (by omega)), ⟨by omega, by omega⟩, ⟨by omega, by omega⟩, hW, hB_G_29, hF, ((Fr.rf.call hq_14 (by decide) (by decide)).call hq_30 (by decide) (by decide)), hS, lv_sub hl [0, 1, 2] rfl⟩
        by_cases c_34 : (G_13.1 3 3) = 129
        · refine lv_tableIn (tgt := 140) hx hb dX7_read_72 (by rw [c_34]; decide) (by rw [c_34]; decide) (off := 68) (by rw [c_34]; decide) (by decide) ?_
          have c_34 : (G_13.1 3 3).toInt = 129 := xI_eq rfl rfl c_34
          refine lv_aload_n hx hb dX7_read_140 rfl (lv_at hl 2 rfl) ?_
          refine S_calli (va_runV (As := []) (rest := []) ⟨hx, hb, hml, hown, hts⟩ (k_rWalker_2 l D k A a z G_13  ((hq_14.r 5 5 (by decide) (by decide)).trans ((hq_11.r 5 5 (by decide) (by decide)).trans ((congrFun (congrFun (congrArg (fun q => q.2.2) eG_8) 5) 5).trans ((congrFun (congrFun (congrArg (fun q => q.2.2) eG_7) 5) 5).trans ((congrFun (congrFun (congrArg (fun q => q.2.2) eG_6) 5) 5).trans ((hq_4.r 5 5 (by decide) (by decide)).trans (gp_re eG_1)))))))) (cwV 0 hts (gd_V hgd m809 m811 m14 m119 m812) rfl rfl rfl (by decide +kernel) ⟨Nat.le_of_ble_eq_true rfl, Nat.le_of_ble_eq_true rfl⟩) (pre_V hW hB_G_13 hK hZ hS kd_5 rfl) rfl rfl hl.1 rfl (lv_room (Nat.le_of_ble_eq_true rfl)) dX7_read_141 ⟨Nat.le_of_ble_eq_true rfl, Nat.le_of_ble_eq_true rfl⟩) hS (fun r_35 G_36 H locs hpo hW hS => ?_)
          obtain ⟨hB_G_36, hq_37, f_39⟩ := hpo
          have hF := hF.call hq_37 (by decide) (by decide)
          refine lv_istore_n (lv' := [(3, .int r_35), (4, .int x_17), (0, .ref (a 5))]) hx hb dX7_read_144 rfl hl (by decide) rfl (fun ls hl => ?_)
          refine lv_goto (tgt := 189) hx hb dX7_read_145 (by decide) ?_
          obtain ⟨y_40, ey_40⟩ : ∃ q, q = x_17 + 1 := ⟨_, rfl⟩
          have ty_40 : y_40.toInt = x_17.toInt + 1 := xI_add rfl rfl ey_40 (by omega) (by omega)
          refine lv_iinc (v := y_40) (lv' := [(4, .int y_40), (3, .int r_35), (0, .ref (a 5))]) hx hb dX7_read_189 hl (k := 1) rfl (by rw [ey_40]; rfl) (by decide) rfl (fun ls hl => ?_)
          refine lv_goto (tgt := 40) hx hb dX7_read_192 (by decide) ?_
          exact ih_15 (1600 - y_40.toInt : Int).toNat (by omega) _ _ _ ⟨G_36, y_40, r_35, (Int.toNat_of_nonneg (by omega)), ⟨by omega, by omega⟩, ⟨by omega, by omega⟩, hW, hB_G_36, hF, ((Fr.rf.call hq_14 (by decide) (by decide)).call hq_37 (by decide) (by decide)), hS, lv_sub hl [0, 1, 2] rfl⟩
        by_cases c_41 : (G_13.1 3 3) = 130
        · refine lv_tableIn (tgt := 180) hx hb dX7_read_72 (by rw [c_41]; decide) (by rw [c_41]; decide) (off := 108) (by rw [c_41]; decide) (by decide) ?_
          have c_41 : (G_13.1 3 3).toInt = 130 := xI_eq rfl rfl c_41
          refine lv_aload_n hx hb dX7_read_180 rfl (lv_at hl 2 rfl) ?_
          refine S_getR (n := 3) (C := RX7) (T := TX7) (N := 10) hx hb hg iX7 hown hK hW kd_5 rfl 0 (by decide) (hg (Cond.fieldLink RX7 26 "SlabWalk$Reader" "tokens" "LSlabWalk$Tokens;") m311) (fun _ h9 => h9) rfl dX7_read_181 ?_
          refine lv_iconst (v := 2) hx hb dX7_read_184 (by decide) ?_
          refine S_calli (va_runV (As := [.int 2]) (rest := []) ⟨hx, hb, hml, hown, hts⟩ (k_tRefuse l D k A a z G_13 2 ⟨by decide, by decide⟩) (cwV 1 hts (gd_V hgd m778 m779 m780 m120 m781) rfl rfl rfl (by decide +kernel) ⟨Nat.le_of_ble_eq_true rfl, Nat.le_of_ble_eq_true rfl⟩) (pre_V hW hB_G_13 hK hZ hS kd_3 rfl) rfl rfl hl.1 rfl (lv_room (Nat.le_of_ble_eq_true rfl)) dX7_read_185 ⟨Nat.le_of_ble_eq_true rfl, Nat.le_of_ble_eq_true rfl⟩) hS (fun r_42 G_43 H locs hpo hW hS => ?_)
          obtain ⟨hB_G_43, hq_44, f_46⟩ := hpo
          have hF := hF.call hq_44 (by decide) (by decide)
          refine lv_istore_n (lv' := [(3, .int r_42), (4, .int x_17), (0, .ref (a 5))]) hx hb dX7_read_188 rfl hl (by decide) rfl (fun ls hl => ?_)
          obtain ⟨y_47, ey_47⟩ : ∃ q, q = x_17 + 1 := ⟨_, rfl⟩
          have ty_47 : y_47.toInt = x_17.toInt + 1 := xI_add rfl rfl ey_47 (by omega) (by omega)
          refine lv_iinc (v := y_47) (lv' := [(4, .int y_47), (3, .int r_42), (0, .ref (a 5))]) hx hb dX7_read_189 hl (k := 1) rfl (by rw [ey_47]; rfl) (by decide) rfl (fun ls hl => ?_)
          refine lv_goto (tgt := 40) hx hb dX7_read_192 (by decide) ?_
          exact ih_15 (1600 - y_47.toInt : Int).toNat (by omega) _ _ _ ⟨G_43, y_47, r_42, (Int.toNat_of_nonneg (by omega)), ⟨by omega, by omega⟩, ⟨by omega, by omega⟩, hW, hB_G_43, hF, ((Fr.rf.call hq_14 (by decide) (by decide)).call hq_44 (by decide) (by decide)), hS, lv_sub hl [0, 1, 2] rfl⟩
        by_cases c_48 : (G_13.1 3 3) = 131
        · refine lv_tableIn (tgt := 180) hx hb dX7_read_72 (by rw [c_48]; decide) (by rw [c_48]; decide) (off := 108) (by rw [c_48]; decide) (by decide) ?_
          have c_48 : (G_13.1 3 3).toInt = 131 := xI_eq rfl rfl c_48
          refine lv_aload_n hx hb dX7_read_180 rfl (lv_at hl 2 rfl) ?_
          refine S_getR (n := 3) (C := RX7) (T := TX7) (N := 10) hx hb hg iX7 hown hK hW kd_5 rfl 0 (by decide) (hg (Cond.fieldLink RX7 26 "SlabWalk$Reader" "tokens" "LSlabWalk$Tokens;") m311) (fun _ h9 => h9) rfl dX7_read_181 ?_
          refine lv_iconst (v := 2) hx hb dX7_read_184 (by decide) ?_
          refine S_calli (va_runV (As := [.int 2]) (rest := []) ⟨hx, hb, hml, hown, hts⟩ (k_tRefuse l D k A a z G_13 2 ⟨by decide, by decide⟩) (cwV 1 hts (gd_V hgd m778 m779 m780 m120 m781) rfl rfl rfl (by decide +kernel) ⟨Nat.le_of_ble_eq_true rfl, Nat.le_of_ble_eq_true rfl⟩) (pre_V hW hB_G_13 hK hZ hS kd_3 rfl) rfl rfl hl.1 rfl (lv_room (Nat.le_of_ble_eq_true rfl)) dX7_read_185 ⟨Nat.le_of_ble_eq_true rfl, Nat.le_of_ble_eq_true rfl⟩) hS (fun r_49 G_50 H locs hpo hW hS => ?_)
          obtain ⟨hB_G_50, hq_51, f_53⟩ := hpo
          have hF := hF.call hq_51 (by decide) (by decide)
          refine lv_istore_n (lv' := [(3, .int r_49), (4, .int x_17), (0, .ref (a 5))]) hx hb dX7_read_188 rfl hl (by decide) rfl (fun ls hl => ?_)
          obtain ⟨y_54, ey_54⟩ : ∃ q, q = x_17 + 1 := ⟨_, rfl⟩
          have ty_54 : y_54.toInt = x_17.toInt + 1 := xI_add rfl rfl ey_54 (by omega) (by omega)
          refine lv_iinc (v := y_54) (lv' := [(4, .int y_54), (3, .int r_49), (0, .ref (a 5))]) hx hb dX7_read_189 hl (k := 1) rfl (by rw [ey_54]; rfl) (by decide) rfl (fun ls hl => ?_)
          refine lv_goto (tgt := 40) hx hb dX7_read_192 (by decide) ?_
          exact ih_15 (1600 - y_54.toInt : Int).toNat (by omega) _ _ _ ⟨G_50, y_54, r_49, (Int.toNat_of_nonneg (by omega)), ⟨by omega, by omega⟩, ⟨by omega, by omega⟩, hW, hB_G_50, hF, ((Fr.rf.call hq_14 (by decide) (by decide)).call hq_51 (by decide) (by decide)), hS, lv_sub hl [0, 1, 2] rfl⟩
        by_cases c_55 : (G_13.1 3 3) = 132
        · refine lv_tableIn (tgt := 180) hx hb dX7_read_72 (by rw [c_55]; decide) (by rw [c_55]; decide) (off := 108) (by rw [c_55]; decide) (by decide) ?_
          have c_55 : (G_13.1 3 3).toInt = 132 := xI_eq rfl rfl c_55
          refine lv_aload_n hx hb dX7_read_180 rfl (lv_at hl 2 rfl) ?_
          refine S_getR (n := 3) (C := RX7) (T := TX7) (N := 10) hx hb hg iX7 hown hK hW kd_5 rfl 0 (by decide) (hg (Cond.fieldLink RX7 26 "SlabWalk$Reader" "tokens" "LSlabWalk$Tokens;") m311) (fun _ h9 => h9) rfl dX7_read_181 ?_
          refine lv_iconst (v := 2) hx hb dX7_read_184 (by decide) ?_
          refine S_calli (va_runV (As := [.int 2]) (rest := []) ⟨hx, hb, hml, hown, hts⟩ (k_tRefuse l D k A a z G_13 2 ⟨by decide, by decide⟩) (cwV 1 hts (gd_V hgd m778 m779 m780 m120 m781) rfl rfl rfl (by decide +kernel) ⟨Nat.le_of_ble_eq_true rfl, Nat.le_of_ble_eq_true rfl⟩) (pre_V hW hB_G_13 hK hZ hS kd_3 rfl) rfl rfl hl.1 rfl (lv_room (Nat.le_of_ble_eq_true rfl)) dX7_read_185 ⟨Nat.le_of_ble_eq_true rfl, Nat.le_of_ble_eq_true rfl⟩) hS (fun r_56 G_57 H locs hpo hW hS => ?_)
          obtain ⟨hB_G_57, hq_58, f_60⟩ := hpo
          have hF := hF.call hq_58 (by decide) (by decide)
          refine lv_istore_n (lv' := [(3, .int r_56), (4, .int x_17), (0, .ref (a 5))]) hx hb dX7_read_188 rfl hl (by decide) rfl (fun ls hl => ?_)
          obtain ⟨y_61, ey_61⟩ : ∃ q, q = x_17 + 1 := ⟨_, rfl⟩
          have ty_61 : y_61.toInt = x_17.toInt + 1 := xI_add rfl rfl ey_61 (by omega) (by omega)
          refine lv_iinc (v := y_61) (lv' := [(4, .int y_61), (3, .int r_56), (0, .ref (a 5))]) hx hb dX7_read_189 hl (k := 1) rfl (by rw [ey_61]; rfl) (by decide) rfl (fun ls hl => ?_)
          refine lv_goto (tgt := 40) hx hb dX7_read_192 (by decide) ?_
          exact ih_15 (1600 - y_61.toInt : Int).toNat (by omega) _ _ _ ⟨G_57, y_61, r_56, (Int.toNat_of_nonneg (by omega)), ⟨by omega, by omega⟩, ⟨by omega, by omega⟩, hW, hB_G_57, hF, ((Fr.rf.call hq_14 (by decide) (by decide)).call hq_58 (by decide) (by decide)), hS, lv_sub hl [0, 1, 2] rfl⟩
        by_cases c_62 : (G_13.1 3 3) = 133
        · refine lv_tableIn (tgt := 180) hx hb dX7_read_72 (by rw [c_62]; decide) (by rw [c_62]; decide) (off := 108) (by rw [c_62]; decide) (by decide) ?_
          have c_62 : (G_13.1 3 3).toInt = 133 := xI_eq rfl rfl c_62
          refine lv_aload_n hx hb dX7_read_180 rfl (lv_at hl 2 rfl) ?_
          refine S_getR (n := 3) (C := RX7) (T := TX7) (N := 10) hx hb hg iX7 hown hK hW kd_5 rfl 0 (by decide) (hg (Cond.fieldLink RX7 26 "SlabWalk$Reader" "tokens" "LSlabWalk$Tokens;") m311) (fun _ h9 => h9) rfl dX7_read_181 ?_
          refine lv_iconst (v := 2) hx hb dX7_read_184 (by decide) ?_
          refine S_calli (va_runV (As := [.int 2]) (rest := []) ⟨hx, hb, hml, hown, hts⟩ (k_tRefuse l D k A a z G_13 2 ⟨by decide, by decide⟩) (cwV 1 hts (gd_V hgd m778 m779 m780 m120 m781) rfl rfl rfl (by decide +kernel) ⟨Nat.le_of_ble_eq_true rfl, Nat.le_of_ble_eq_true rfl⟩) (pre_V hW hB_G_13 hK hZ hS kd_3 rfl) rfl rfl hl.1 rfl (lv_room (Nat.le_of_ble_eq_true rfl)) dX7_read_185 ⟨Nat.le_of_ble_eq_true rfl, Nat.le_of_ble_eq_true rfl⟩) hS (fun r_63 G_64 H locs hpo hW hS => ?_)
          obtain ⟨hB_G_64, hq_65, f_67⟩ := hpo
          have hF := hF.call hq_65 (by decide) (by decide)
          refine lv_istore_n (lv' := [(3, .int r_63), (4, .int x_17), (0, .ref (a 5))]) hx hb dX7_read_188 rfl hl (by decide) rfl (fun ls hl => ?_)
          obtain ⟨y_68, ey_68⟩ : ∃ q, q = x_17 + 1 := ⟨_, rfl⟩
          have ty_68 : y_68.toInt = x_17.toInt + 1 := xI_add rfl rfl ey_68 (by omega) (by omega)
          refine lv_iinc (v := y_68) (lv' := [(4, .int y_68), (3, .int r_63), (0, .ref (a 5))]) hx hb dX7_read_189 hl (k := 1) rfl (by rw [ey_68]; rfl) (by decide) rfl (fun ls hl => ?_)
          refine lv_goto (tgt := 40) hx hb dX7_read_192 (by decide) ?_
          exact ih_15 (1600 - y_68.toInt : Int).toNat (by omega) _ _ _ ⟨G_64, y_68, r_63, (Int.toNat_of_nonneg (by omega)), ⟨by omega, by omega⟩, ⟨by omega, by omega⟩, hW, hB_G_64, hF, ((Fr.rf.call hq_14 (by decide) (by decide)).call hq_65 (by decide) (by decide)), hS, lv_sub hl [0, 1, 2] rfl⟩
        by_cases c_69 : (G_13.1 3 3) = 134
        · refine lv_tableIn (tgt := 148) hx hb dX7_read_72 (by rw [c_69]; decide) (by rw [c_69]; decide) (off := 76) (by rw [c_69]; decide) (by decide) ?_
          have c_69 : (G_13.1 3 3).toInt = 134 := xI_eq rfl rfl c_69
          refine lv_aload_n hx hb dX7_read_148 rfl (lv_at hl 2 rfl) ?_
          refine S_calli (va_runV (As := []) (rest := []) ⟨hx, hb, hml, hown, hts⟩ (k_rRule_2 l D k A a z G_13  ((hq_14.r 5 5 (by decide) (by decide)).trans ((hq_11.r 5 5 (by decide) (by decide)).trans ((congrFun (congrFun (congrArg (fun q => q.2.2) eG_8) 5) 5).trans ((congrFun (congrFun (congrArg (fun q => q.2.2) eG_7) 5) 5).trans ((congrFun (congrFun (congrArg (fun q => q.2.2) eG_6) 5) 5).trans ((hq_4.r 5 5 (by decide) (by decide)).trans (gp_re eG_1)))))))) (cwV 0 hts (gd_V hgd m813 m815 m15 m119 m816) rfl rfl rfl (by decide +kernel) ⟨Nat.le_of_ble_eq_true rfl, Nat.le_of_ble_eq_true rfl⟩) (pre_V hW hB_G_13 hK hZ hS kd_5 rfl) rfl rfl hl.1 rfl (lv_room (Nat.le_of_ble_eq_true rfl)) dX7_read_149 ⟨Nat.le_of_ble_eq_true rfl, Nat.le_of_ble_eq_true rfl⟩) hS (fun r_70 G_71 H locs hpo hW hS => ?_)
          obtain ⟨hB_G_71, hq_72, f_74⟩ := hpo
          have hF := hF.call hq_72 (by decide) (by decide)
          refine lv_istore_n (lv' := [(3, .int r_70), (4, .int x_17), (0, .ref (a 5))]) hx hb dX7_read_152 rfl hl (by decide) rfl (fun ls hl => ?_)
          refine lv_goto (tgt := 189) hx hb dX7_read_153 (by decide) ?_
          obtain ⟨y_75, ey_75⟩ : ∃ q, q = x_17 + 1 := ⟨_, rfl⟩
          have ty_75 : y_75.toInt = x_17.toInt + 1 := xI_add rfl rfl ey_75 (by omega) (by omega)
          refine lv_iinc (v := y_75) (lv' := [(4, .int y_75), (3, .int r_70), (0, .ref (a 5))]) hx hb dX7_read_189 hl (k := 1) rfl (by rw [ey_75]; rfl) (by decide) rfl (fun ls hl => ?_)
          refine lv_goto (tgt := 40) hx hb dX7_read_192 (by decide) ?_
          exact ih_15 (1600 - y_75.toInt : Int).toNat (by omega) _ _ _ ⟨G_71, y_75, r_70, (Int.toNat_of_nonneg (by omega)), ⟨by omega, by omega⟩, ⟨by omega, by omega⟩, hW, hB_G_71, hF, ((Fr.rf.call hq_14 (by decide) (by decide)).call hq_72 (by decide) (by decide)), hS, lv_sub hl [0, 1, 2] rfl⟩
        by_cases c_76 : (G_13.1 3 3) = 135
        · refine lv_tableIn (tgt := 156) hx hb dX7_read_72 (by rw [c_76]; decide) (by rw [c_76]; decide) (off := 84) (by rw [c_76]; decide) (by decide) ?_
          have c_76 : (G_13.1 3 3).toInt = 135 := xI_eq rfl rfl c_76
          refine lv_aload_n hx hb dX7_read_156 rfl (lv_at hl 2 rfl) ?_
          refine S_calli (va_runV (As := []) (rest := []) ⟨hx, hb, hml, hown, hts⟩ (k_rSlip_2 l D k A a z G_13  ((hq_14.r 5 5 (by decide) (by decide)).trans ((hq_11.r 5 5 (by decide) (by decide)).trans ((congrFun (congrFun (congrArg (fun q => q.2.2) eG_8) 5) 5).trans ((congrFun (congrFun (congrArg (fun q => q.2.2) eG_7) 5) 5).trans ((congrFun (congrFun (congrArg (fun q => q.2.2) eG_6) 5) 5).trans ((hq_4.r 5 5 (by decide) (by decide)).trans (gp_re eG_1)))))))) (cwV 0 hts (gd_V hgd m862 m864 m24 m119 m865) rfl rfl rfl (by decide +kernel) ⟨Nat.le_of_ble_eq_true rfl, Nat.le_of_ble_eq_true rfl⟩) (pre_V hW hB_G_13 hK hZ hS kd_5 rfl) rfl rfl hl.1 rfl (lv_room (Nat.le_of_ble_eq_true rfl)) dX7_read_157 ⟨Nat.le_of_ble_eq_true rfl, Nat.le_of_ble_eq_true rfl⟩) hS (fun r_77 G_78 H locs hpo hW hS => ?_)
          obtain ⟨hB_G_78, hq_79, f_81⟩ := hpo
          have hF := hF.call hq_79 (by decide) (by decide)
          refine lv_istore_n (lv' := [(3, .int r_77), (4, .int x_17), (0, .ref (a 5))]) hx hb dX7_read_160 rfl hl (by decide) rfl (fun ls hl => ?_)
          refine lv_goto (tgt := 189) hx hb dX7_read_161 (by decide) ?_
          obtain ⟨y_82, ey_82⟩ : ∃ q, q = x_17 + 1 := ⟨_, rfl⟩
          have ty_82 : y_82.toInt = x_17.toInt + 1 := xI_add rfl rfl ey_82 (by omega) (by omega)
          refine lv_iinc (v := y_82) (lv' := [(4, .int y_82), (3, .int r_77), (0, .ref (a 5))]) hx hb dX7_read_189 hl (k := 1) rfl (by rw [ey_82]; rfl) (by decide) rfl (fun ls hl => ?_)
          refine lv_goto (tgt := 40) hx hb dX7_read_192 (by decide) ?_
          exact ih_15 (1600 - y_82.toInt : Int).toNat (by omega) _ _ _ ⟨G_78, y_82, r_77, (Int.toNat_of_nonneg (by omega)), ⟨by omega, by omega⟩, ⟨by omega, by omega⟩, hW, hB_G_78, hF, ((Fr.rf.call hq_14 (by decide) (by decide)).call hq_79 (by decide) (by decide)), hS, lv_sub hl [0, 1, 2] rfl⟩
        by_cases c_83 : (G_13.1 3 3) = 136
        · refine lv_tableIn (tgt := 164) hx hb dX7_read_72 (by rw [c_83]; decide) (by rw [c_83]; decide) (off := 92) (by rw [c_83]; decide) (by decide) ?_
          have c_83 : (G_13.1 3 3).toInt = 136 := xI_eq rfl rfl c_83
          refine lv_aload_n hx hb dX7_read_164 rfl (lv_at hl 2 rfl) ?_
          refine S_calli (va_runV (As := []) (rest := []) ⟨hx, hb, hml, hown, hts⟩ (k_rHand_2 l D k A a z G_13  ((hq_14.r 5 5 (by decide) (by decide)).trans ((hq_11.r 5 5 (by decide) (by decide)).trans ((congrFun (congrFun (congrArg (fun q => q.2.2) eG_8) 5) 5).trans ((congrFun (congrFun (congrArg (fun q => q.2.2) eG_7) 5) 5).trans ((congrFun (congrFun (congrArg (fun q => q.2.2) eG_6) 5) 5).trans ((hq_4.r 5 5 (by decide) (by decide)).trans (gp_re eG_1)))))))) (cwV 0 hts (gd_V hgd m866 m868 m25 m119 m869) rfl rfl rfl (by decide +kernel) ⟨Nat.le_of_ble_eq_true rfl, Nat.le_of_ble_eq_true rfl⟩) (pre_V hW hB_G_13 hK hZ hS kd_5 rfl) rfl rfl hl.1 rfl (lv_room (Nat.le_of_ble_eq_true rfl)) dX7_read_165 ⟨Nat.le_of_ble_eq_true rfl, Nat.le_of_ble_eq_true rfl⟩) hS (fun r_84 G_85 H locs hpo hW hS => ?_)
          obtain ⟨hB_G_85, hq_86, f_88⟩ := hpo
          have hF := hF.call hq_86 (by decide) (by decide)
          refine lv_istore_n (lv' := [(3, .int r_84), (4, .int x_17), (0, .ref (a 5))]) hx hb dX7_read_168 rfl hl (by decide) rfl (fun ls hl => ?_)
          refine lv_goto (tgt := 189) hx hb dX7_read_169 (by decide) ?_
          obtain ⟨y_89, ey_89⟩ : ∃ q, q = x_17 + 1 := ⟨_, rfl⟩
          have ty_89 : y_89.toInt = x_17.toInt + 1 := xI_add rfl rfl ey_89 (by omega) (by omega)
          refine lv_iinc (v := y_89) (lv' := [(4, .int y_89), (3, .int r_84), (0, .ref (a 5))]) hx hb dX7_read_189 hl (k := 1) rfl (by rw [ey_89]; rfl) (by decide) rfl (fun ls hl => ?_)
          refine lv_goto (tgt := 40) hx hb dX7_read_192 (by decide) ?_
          exact ih_15 (1600 - y_89.toInt : Int).toNat (by omega) _ _ _ ⟨G_85, y_89, r_84, (Int.toNat_of_nonneg (by omega)), ⟨by omega, by omega⟩, ⟨by omega, by omega⟩, hW, hB_G_85, hF, ((Fr.rf.call hq_14 (by decide) (by decide)).call hq_86 (by decide) (by decide)), hS, lv_sub hl [0, 1, 2] rfl⟩
        by_cases c_90 : (G_13.1 3 3) = 137
        · refine lv_tableIn (tgt := 180) hx hb dX7_read_72 (by rw [c_90]; decide) (by rw [c_90]; decide) (off := 108) (by rw [c_90]; decide) (by decide) ?_
          have c_90 : (G_13.1 3 3).toInt = 137 := xI_eq rfl rfl c_90
          refine lv_aload_n hx hb dX7_read_180 rfl (lv_at hl 2 rfl) ?_
          refine S_getR (n := 3) (C := RX7) (T := TX7) (N := 10) hx hb hg iX7 hown hK hW kd_5 rfl 0 (by decide) (hg (Cond.fieldLink RX7 26 "SlabWalk$Reader" "tokens" "LSlabWalk$Tokens;") m311) (fun _ h9 => h9) rfl dX7_read_181 ?_
          refine lv_iconst (v := 2) hx hb dX7_read_184 (by decide) ?_
          refine S_calli (va_runV (As := [.int 2]) (rest := []) ⟨hx, hb, hml, hown, hts⟩ (k_tRefuse l D k A a z G_13 2 ⟨by decide, by decide⟩) (cwV 1 hts (gd_V hgd m778 m779 m780 m120 m781) rfl rfl rfl (by decide +kernel) ⟨Nat.le_of_ble_eq_true rfl, Nat.le_of_ble_eq_true rfl⟩) (pre_V hW hB_G_13 hK hZ hS kd_3 rfl) rfl rfl hl.1 rfl (lv_room (Nat.le_of_ble_eq_true rfl)) dX7_read_185 ⟨Nat.le_of_ble_eq_true rfl, Nat.le_of_ble_eq_true rfl⟩) hS (fun r_91 G_92 H locs hpo hW hS => ?_)
          obtain ⟨hB_G_92, hq_93, f_95⟩ := hpo
          have hF := hF.call hq_93 (by decide) (by decide)
          refine lv_istore_n (lv' := [(3, .int r_91), (4, .int x_17), (0, .ref (a 5))]) hx hb dX7_read_188 rfl hl (by decide) rfl (fun ls hl => ?_)
          obtain ⟨y_96, ey_96⟩ : ∃ q, q = x_17 + 1 := ⟨_, rfl⟩
          have ty_96 : y_96.toInt = x_17.toInt + 1 := xI_add rfl rfl ey_96 (by omega) (by omega)
          refine lv_iinc (v := y_96) (lv' := [(4, .int y_96), (3, .int r_91), (0, .ref (a 5))]) hx hb dX7_read_189 hl (k := 1) rfl (by rw [ey_96]; rfl) (by decide) rfl (fun ls hl => ?_)
          refine lv_goto (tgt := 40) hx hb dX7_read_192 (by decide) ?_
          exact ih_15 (1600 - y_96.toInt : Int).toNat (by omega) _ _ _ ⟨G_92, y_96, r_91, (Int.toNat_of_nonneg (by omega)), ⟨by omega, by omega⟩, ⟨by omega, by omega⟩, hW, hB_G_92, hF, ((Fr.rf.call hq_14 (by decide) (by decide)).call hq_93 (by decide) (by decide)), hS, lv_sub hl [0, 1, 2] rfl⟩
        by_cases c_97 : (G_13.1 3 3) = 138
        · refine lv_tableIn (tgt := 172) hx hb dX7_read_72 (by rw [c_97]; decide) (by rw [c_97]; decide) (off := 100) (by rw [c_97]; decide) (by decide) ?_
          have c_97 : (G_13.1 3 3).toInt = 138 := xI_eq rfl rfl c_97
          refine lv_aload_n hx hb dX7_read_172 rfl (lv_at hl 2 rfl) ?_
          refine S_calli (va_runV (As := []) (rest := []) ⟨hx, hb, hml, hown, hts⟩ (k_rDraw_2 l D k A a z G_13  ((hq_14.r 5 5 (by decide) (by decide)).trans ((hq_11.r 5 5 (by decide) (by decide)).trans ((congrFun (congrFun (congrArg (fun q => q.2.2) eG_8) 5) 5).trans ((congrFun (congrFun (congrArg (fun q => q.2.2) eG_7) 5) 5).trans ((congrFun (congrFun (congrArg (fun q => q.2.2) eG_6) 5) 5).trans ((hq_4.r 5 5 (by decide) (by decide)).trans (gp_re eG_1)))))))) (cwV 0 hts (gd_V hgd m870 m872 m26 m119 m873) rfl rfl rfl (by decide +kernel) ⟨Nat.le_of_ble_eq_true rfl, Nat.le_of_ble_eq_true rfl⟩) (pre_V hW hB_G_13 hK hZ hS kd_5 rfl) rfl rfl hl.1 rfl (lv_room (Nat.le_of_ble_eq_true rfl)) dX7_read_173 ⟨Nat.le_of_ble_eq_true rfl, Nat.le_of_ble_eq_true rfl⟩) hS (fun r_98 G_99 H locs hpo hW hS => ?_)
          obtain ⟨hB_G_99, hq_100, f_102⟩ := hpo
          have hF := hF.call hq_100 (by decide) (by decide)
          refine lv_istore_n (lv' := [(3, .int r_98), (4, .int x_17), (0, .ref (a 5))]) hx hb dX7_read_176 rfl hl (by decide) rfl (fun ls hl => ?_)
          refine lv_goto (tgt := 189) hx hb dX7_read_177 (by decide) ?_
          obtain ⟨y_103, ey_103⟩ : ∃ q, q = x_17 + 1 := ⟨_, rfl⟩
          have ty_103 : y_103.toInt = x_17.toInt + 1 := xI_add rfl rfl ey_103 (by omega) (by omega)
          refine lv_iinc (v := y_103) (lv' := [(4, .int y_103), (3, .int r_98), (0, .ref (a 5))]) hx hb dX7_read_189 hl (k := 1) rfl (by rw [ey_103]; rfl) (by decide) rfl (fun ls hl => ?_)
          refine lv_goto (tgt := 40) hx hb dX7_read_192 (by decide) ?_
          exact ih_15 (1600 - y_103.toInt : Int).toNat (by omega) _ _ _ ⟨G_99, y_103, r_98, (Int.toNat_of_nonneg (by omega)), ⟨by omega, by omega⟩, ⟨by omega, by omega⟩, hW, hB_G_99, hF, ((Fr.rf.call hq_14 (by decide) (by decide)).call hq_100 (by decide) (by decide)), hS, lv_sub hl [0, 1, 2] rfl⟩
        refine lv_tableOut (tgt := 180) hx hb dX7_read_72 (tb_out (lo := 128) (hi := 138) (by have c_27 := xI_ne (Y := 128) rfl rfl c_27; have c_34 := xI_ne (Y := 129) rfl rfl c_34; have c_41 := xI_ne (Y := 130) rfl rfl c_41; have c_48 := xI_ne (Y := 131) rfl rfl c_48; have c_55 := xI_ne (Y := 132) rfl rfl c_55; have c_62 := xI_ne (Y := 133) rfl rfl c_62; have c_69 := xI_ne (Y := 134) rfl rfl c_69; have c_76 := xI_ne (Y := 135) rfl rfl c_76; have c_83 := xI_ne (Y := 136) rfl rfl c_83; have c_90 := xI_ne (Y := 137) rfl rfl c_90; have c_97 := xI_ne (Y := 138) rfl rfl c_97; omega)) (by decide) ?_
        have c_27 := xI_ne (Y := 128) rfl rfl c_27
        have c_34 := xI_ne (Y := 129) rfl rfl c_34
        have c_41 := xI_ne (Y := 130) rfl rfl c_41
        have c_48 := xI_ne (Y := 131) rfl rfl c_48
        have c_55 := xI_ne (Y := 132) rfl rfl c_55
        have c_62 := xI_ne (Y := 133) rfl rfl c_62
        have c_69 := xI_ne (Y := 134) rfl rfl c_69
        have c_76 := xI_ne (Y := 135) rfl rfl c_76
        have c_83 := xI_ne (Y := 136) rfl rfl c_83
        have c_90 := xI_ne (Y := 137) rfl rfl c_90
        have c_97 := xI_ne (Y := 138) rfl rfl c_97
        refine lv_aload_n hx hb dX7_read_180 rfl (lv_at hl 2 rfl) ?_
        refine S_getR (n := 3) (C := RX7) (T := TX7) (N := 10) hx hb hg iX7 hown hK hW kd_5 rfl 0 (by decide) (hg (Cond.fieldLink RX7 26 "SlabWalk$Reader" "tokens" "LSlabWalk$Tokens;") m311) (fun _ h9 => h9) rfl dX7_read_181 ?_
        refine lv_iconst (v := 2) hx hb dX7_read_184 (by decide) ?_
        refine S_calli (va_runV (As := [.int 2]) (rest := []) ⟨hx, hb, hml, hown, hts⟩ (k_tRefuse l D k A a z G_13 2 ⟨by decide, by decide⟩) (cwV 1 hts (gd_V hgd m778 m779 m780 m120 m781) rfl rfl rfl (by decide +kernel) ⟨Nat.le_of_ble_eq_true rfl, Nat.le_of_ble_eq_true rfl⟩) (pre_V hW hB_G_13 hK hZ hS kd_3 rfl) rfl rfl hl.1 rfl (lv_room (Nat.le_of_ble_eq_true rfl)) dX7_read_185 ⟨Nat.le_of_ble_eq_true rfl, Nat.le_of_ble_eq_true rfl⟩) hS (fun r_104 G_105 H locs hpo hW hS => ?_)
        obtain ⟨hB_G_105, hq_106, f_108⟩ := hpo
        have hF := hF.call hq_106 (by decide) (by decide)
        refine lv_istore_n (lv' := [(3, .int r_104), (4, .int x_17), (0, .ref (a 5))]) hx hb dX7_read_188 rfl hl (by decide) rfl (fun ls hl => ?_)
        obtain ⟨y_109, ey_109⟩ : ∃ q, q = x_17 + 1 := ⟨_, rfl⟩
        have ty_109 : y_109.toInt = x_17.toInt + 1 := xI_add rfl rfl ey_109 (by omega) (by omega)
        refine lv_iinc (v := y_109) (lv' := [(4, .int y_109), (3, .int r_104), (0, .ref (a 5))]) hx hb dX7_read_189 hl (k := 1) rfl (by rw [ey_109]; rfl) (by decide) rfl (fun ls hl => ?_)
        refine lv_goto (tgt := 40) hx hb dX7_read_192 (by decide) ?_
        exact ih_15 (1600 - y_109.toInt : Int).toNat (by omega) _ _ _ ⟨G_105, y_109, r_104, (Int.toNat_of_nonneg (by omega)), ⟨by omega, by omega⟩, ⟨by omega, by omega⟩, hW, hB_G_105, hF, ((Fr.rf.call hq_14 (by decide) (by decide)).call hq_106 (by decide) (by decide)), hS, lv_sub hl [0, 1, 2] rfl⟩
