

set_option maxHeartbeats 4000000 in
set_option maxRecDepth 100000 in
theorem k_rSlab_2 (l : Launch) (D : va_G) (k : KT) (A : Nat → Prop) (a : Nat → Nat) (z : SK) (G : GS) (p0 : Int32) (p1 : Int32) (ha_p0 : 0 ≤ p0.toInt ∧ p0.toInt ≤ 1600) (ha_p1 : 0 ≤ p1.toInt ∧ p1.toInt ≤ 9) (hv_5_5 : G.2.2 5 5 = 2) (hs : (G.1 2 9).toInt < 3) : Met l yX7_readSlab (WS yX7_readSlab cX7_readSlab 9 (some .boolean)) ({ frames := 7, cells := 0, slots := 0, locals := 148 }) (va_Pc [.ref (a 5), .int p0, .int p1] (cW D k A a z G)) (va_Qi (fun (r : Int32) (G1 : GS) => P_rSlab_2 p0 p1 G r G1) (fun (G1 : GS) t => Wd D k A a G1 t.heap) A) 0 0 A := by
  refine Met.ofW (cc := cX7_readSlab) (maxL := 9) (ret := (some .boolean)) (by decide) rfl ?_
  intro p e s m args below meth c s₁ B hml hv
  obtain ⟨rfl, hW, hB_G, hK, hZ⟩ := hv
  have hx := B.exec
  have hb := B.bytes
  have hr := B.returns
  have hts := atoms_spec (ws := WS yX7_readSlab cX7_readSlab 9 (some .boolean)) B.pre
  have hgd : ∀ w ∈ gd, w ∈ WS yX7_readSlab cX7_readSlab 9 (some .boolean) := fun w h => List.mem_cons_of_mem _ h
  have hg : ∀ w ∈ gd, w.before _ s = true := fun w h => hts w (hgd w h)
  have hown : s.vm.findClass RX7 = some m.cls := findClass_of_methodNamed B.named
  have hS : va_S A s.heap s.heap [] := va_S.rf
  have hF : Fr [20, 21] [(3, 2), (3, 3), (3, 4), (3, 5), (3, 6), (3, 7), (3, 8), (5, 9)] G G := Fr.rf
  have hl := lv_entry ([.ref (a 5), .int p0, .int p1]) (n := 9) (Nat.le_of_ble_eq_true rfl)
  rw [lg_entry_eq]
  generalize (lg_sl ([.ref (a 5), .int p0, .int p1]) ++ List.replicate (9 - (lg_sl ([.ref (a 5), .int p0, .int p1])).length) Slot.unset).toArray = ls at hl ⊢
  have hl : lv_has ls 9 [(0, .ref (a 5)), (1, .int p0), (2, .int p1)] := hl
  refine lv_iload_n hx hb dX7_readSlab_0 rfl (lv_at hl 1 rfl) ?_
  refine W.cut (σ := Int32) (pcJ := 9) (J := fun y H locs ls => ∃ (G_4 : GS), (0 ≤ y.toInt ∧ y.toInt ≤ 9) ∧ Jn_k_rSlab_2_1 p0 p1 G y G_4 ∧ Wd D k A a G_4 H ∧ Bd G_4 ∧ Fr [20, 21] [(3, 2), (3, 3), (3, 4), (3, 5), (3, 6), (3, 7), (3, 8), (5, 9)] G G_4 ∧ Fr [] [] G G_4 ∧ va_S A s.heap H locs ∧ lv_has ls 9 [(0, .ref (a 5)), (1, .int p0)]) (stJ := fun y => [.int y]) ?_ (fun hJ_5 => ?_)
  · intro y H locs ls hI
    obtain ⟨w_3, hy⟩ : ∃ q, q = y := ⟨_, rfl⟩
    subst hy
    obtain ⟨G_4, f_8, hX_7, hW, hB_G_4, hF, hq_6, hS, hl⟩ := hI
    refine lv_istore_n (lv' := [(3, .int w_3), (0, .ref (a 5)), (1, .int p0)]) hx hb dX7_readSlab_9 rfl hl (lt_b rfl) rfl (fun ls hl => ?_)
    refine lv_sipush (v := 400) hx hb dX7_readSlab_10 (by decide) ?_
    refine lv_aload_n hx hb dX7_readSlab_13 rfl (lv_at hl 1 rfl) ?_
    refine S_getV (n := 2) (C := RX7) (T := TX7) (N := 10) hx hb hg iX7 hown hK hW kd_5 rfl 5 (lt_b rfl) (hg (Cond.fieldLink RX7 39 "SlabWalk$Reader" "paving" "LSlabWalk$Paving;") m317) (fun _ h9 => h9) rfl (((hq_6.r9 5 5 rfl rfl)).trans (hv_5_5)) dX7_readSlab_14 ?_
    refine S_getR (n := 20) (C := RX6) (T := TX6) (N := 17) hx hb hg iX6 hown hK hW kd_2 rfl 0 (lt_b rfl) (hg (Cond.fieldLink RX7 121 "SlabWalk$Paving" "length" "[I") m160) (fun _ h9 => h9) rfl dX7_readSlab_17 ?_
    refine lv_aload_n hx hb dX7_readSlab_20 rfl (lv_at hl 1 rfl) ?_
    refine S_getV (n := 2) (C := RX7) (T := TX7) (N := 10) hx hb hg iX7 hown hK hW kd_5 rfl 5 (lt_b rfl) (hg (Cond.fieldLink RX7 39 "SlabWalk$Reader" "paving" "LSlabWalk$Paving;") m317) (fun _ h9 => h9) rfl (((hq_6.r9 5 5 rfl rfl)).trans (hv_5_5)) dX7_readSlab_21 ?_
    have b_9 : 0 ≤ (G.1 2 9).toInt ∧ (G.1 2 9).toInt ≤ 3 := bd_2_9 hB_G
    refine S_getI (v := (G.1 2 9)) (C := RX6) (T := TX6) (N := 17) hx hb hg iX6 hown hK hW kd_2 rfl 9 (lt_b rfl) (hg (Cond.fieldLink RX7 104 "SlabWalk$Paving" "streets" "I") m188) (fun _ h9 => h9) rfl (hq_6.i9 2 9 rfl rfl) dX7_readSlab_24 ?_
    refine S_iald hx hb hK hW kd_20 (vin ((by first | exact b_9.1 | omega)) ((by first | exact ok_390 hs | omega))) dX7_readSlab_27 (fun y_10 ey_10 => ?_)
    have ty_10 : 0 ≤ y_10.toInt ∧ y_10.toInt ≤ 400 := bv_20 hB_G_4 ey_10
    refine lv_isub hx hb dX7_readSlab_28 ?_
    refine lv_topi (fun y_11 ey_11 => ?_)
    have ty_11 : y_11.toInt = 400 - y_10.toInt := xI_sub rfl rfl ey_11 ((by first | exact ok_401 ty_10.2 | omega)) ((by first | exact ok_402 ty_10.1 | omega))
    refine lv_iload_n hx hb dX7_readSlab_29 rfl (lv_at hl 0 rfl) ?_
    refine lv_isub hx hb dX7_readSlab_30 ?_
    refine lv_topi (fun y_12 ey_12 => ?_)
    have ty_12 : y_12.toInt = y_11.toInt - w_3.toInt := xI_sub rfl rfl ey_12 ((by first | exact ok_403 f_8.2 ty_10.2 ty_11 | omega)) ((by first | exact ok_404 f_8.1 ty_10.1 ty_11 | omega))
    refine lv_istore (lv' := [(4, .int y_12), (3, .int w_3), (0, .ref (a 5)), (1, .int p0)]) hx hb dX7_readSlab_31 hl (lt_b rfl) rfl (fun ls hl => ?_)
    refine lv_aload_n hx hb dX7_readSlab_33 rfl (lv_at hl 2 rfl) ?_
    refine ic_1 hx hb dX7_readSlab_34 ?_
    refine lv_bipush (v := 60) hx hb dX7_readSlab_35 (by decide) ?_
    refine lv_iload hx hb dX7_readSlab_37 (lv_at hl 0 rfl) ?_
    refine va_mmin hx hb (by rw [hml]; exact hl.1.symm) hown (hg (Cond.methodLink RX7 128 Lib.Math.min.name) m803) (hg (Cond.static Lib.Math.min.name) m636) (hg (Cond.initialized "java/lang/Math") m132) (hg (Cond.code Lib.Math.min.name Lib.Math.min.code 2 (some .int)) m637) (Nat.le_of_ble_eq_true rfl) (Nat.le_of_ble_eq_true rfl) (Nat.le_of_ble_eq_true rfl) (Nat.le_of_ble_eq_true rfl) dX7_readSlab_39 ?_
    refine lv_topi (fun y_13 ey_13 => ?_)
    have ty_13 := xI_min (X := 60) (Y := y_12.toInt) rfl rfl ey_13
    have qc_14 : (1 : Int32).toInt = 1 := rfl
    refine S_calli (va_runV (As := [.int 1, .int y_13]) (rest := []) ⟨hx, hb, hml, hown, hts⟩ (k_rIsNum l D k A a z G_4 1 y_13 ) (cwV 2 hts (gd_V hgd m795 m797 m12 m119 m798) rfl rfl rfl hd_X7_isNumber ⟨Nat.le_of_ble_eq_true rfl, Nat.le_of_ble_eq_true rfl⟩) (pre_W hW hB_G_4 hK hZ hS kd_5 rfl) rfl rfl hl.1 rfl (lv_room (Nat.le_of_ble_eq_true rfl)) dX7_readSlab_42 ⟨Nat.le_of_ble_eq_true rfl, Nat.le_of_ble_eq_true rfl⟩) hS (fun r_15 G_16 H locs hpo hW hS => ?_)
    have hX_19 : P_rIsNum 1 y_13 G_4 r_15 G_16 := hpo
    obtain ⟨hB_G_16, hq_17, f_20, hp_18, -⟩ := hpo
    have hF := hF.call9 hq_17 rfl rfl
    refine lv_if_ne (tgt := 50) hx hb dX7_readSlab_45 rfl (fun c_21 => ?_) (fun c_21 => ?_)
    · have c_21 : r_15.toInt ≠ 0 := xI_ne rfl rfl c_21
      refine lv_aload_n hx hb dX7_readSlab_50 rfl (lv_at hl 2 rfl) ?_
      refine S_getI (v := (G_16.1 5 9)) (C := RX7) (T := TX7) (N := 10) hx hb hg iX7 hown hK hW kd_5 rfl 9 (lt_b rfl) (hg (Cond.fieldLink RX7 99 "SlabWalk$Reader" "number" "I") m321) (fun _ h9 => h9) rfl rfl dX7_readSlab_51 ?_
      refine lv_istore (lv' := [(5, .int (G_16.1 5 9)), (4, .int y_12), (3, .int w_3), (0, .ref (a 5)), (1, .int p0)]) hx hb dX7_readSlab_54 hl (lt_b rfl) rfl (fun ls hl => ?_)
      refine ic_0 hx hb dX7_readSlab_56 ?_
      refine lv_istore (lv' := [(6, .int 0), (5, .int (G_16.1 5 9)), (4, .int y_12), (3, .int w_3), (0, .ref (a 5)), (1, .int p0)]) hx hb dX7_readSlab_57 hl (lt_b rfl) rfl (fun ls hl => ?_)
      refine lv_aload_n hx hb dX7_readSlab_59 rfl (lv_at hl 4 rfl) ?_
      refine S_getR (n := 3) (C := RX7) (T := TX7) (N := 10) hx hb hg iX7 hown hK hW kd_5 rfl 0 (lt_b rfl) (hg (Cond.fieldLink RX7 26 "SlabWalk$Reader" "tokens" "LSlabWalk$Tokens;") m311) (fun _ h9 => h9) rfl dX7_readSlab_60 ?_
      refine S_calli (va_runV (As := []) (rest := []) ⟨hx, hb, hml, hown, hts⟩ (k_tAdvance l D k A a z G_16  ) (cwV 0 hts (gd_V hgd m777 m639 m640 m120 m641) rfl rfl rfl hd_X9_advance ⟨Nat.le_of_ble_eq_true rfl, Nat.le_of_ble_eq_true rfl⟩) (pre_W hW hB_G_16 hK hZ hS kd_3 rfl) rfl rfl hl.1 rfl (lv_room (Nat.le_of_ble_eq_true rfl)) dX7_readSlab_63 ⟨Nat.le_of_ble_eq_true rfl, Nat.le_of_ble_eq_true rfl⟩) hS (fun r_22 G_23 H locs hpo hW hS => ?_)
      have hX_26 : P_tAdvance G_16 r_22 G_23 := hpo
      obtain ⟨hB_G_23, hq_24, f_27, -⟩ := hpo
      have hF := hF.call9 hq_24 rfl rfl
      refine lv_pop hx hb dX7_readSlab_66 rfl ?_
      refine ic_0 hx hb dX7_readSlab_67 ?_
      refine lv_istore (lv' := [(7, .int 0), (6, .int 0), (5, .int (G_16.1 5 9)), (4, .int y_12), (3, .int w_3), (0, .ref (a 5)), (1, .int p0)]) hx hb dX7_readSlab_68 hl (lt_b rfl) rfl (fun ls hl => ?_)
      have qc_35 : (0 : Int32).toInt = 0 := rfl
      refine loop_N (Inv := fun n H locs ls => ∃ (G_28 : GS) (x_32 : Int32) (x_33 : Int32), (n : Int) = 5 - x_32.toInt ∧ (0 ≤ x_32.toInt ∧ x_32.toInt ≤ 5) ∧ (0 ≤ x_33.toInt ∧ x_33.toInt ≤ 63) ∧ Rc (St_k_rSlab_2_2) (0, 0, G_23) (x_32, x_33, G_28) ∧ Wd D k A a G_28 H ∧ Bd G_28 ∧ Fr [20, 21] [(3, 2), (3, 3), (3, 4), (3, 5), (3, 6), (3, 7), (3, 8), (5, 9)] G G_28 ∧ Fr [] [(3, 2), (3, 3), (3, 4), (3, 5), (3, 6)] G_23 G_28 ∧ va_S A s.heap H locs ∧ lv_has ls 9 [(7, .int x_32), (6, .int x_33), (5, .int (G_16.1 5 9)), (3, .int w_3), (0, .ref (a 5)), (1, .int p0)]) (fun n_31 H locs ls ih_30 hI => ?_) (5 - 0 : Int).toNat ⟨G_23, 0, 0, (Int.toNat_of_nonneg ((by decide))), ⟨(by decide), (by decide)⟩, ⟨(by decide), (by decide)⟩, Rc.rf, hW, hB_G_23, hF, Fr.rf, hS, lv_sub hl [0, 1, 2, 4, 5, 6] rfl⟩
      obtain ⟨G_28, x_32, x_33, hn_38, f_36, f_37, hX_34, hW, hB_G_28, hF, hq_29, hS, hl⟩ := hI
      refine lv_iload hx hb dX7_readSlab_70 (lv_at hl 0 rfl) ?_
      refine ic_4 hx hb dX7_readSlab_72 ?_
      refine W.cut (σ := Unit) (pcJ := 155) (J := fun y H locs ls => ∃ (G_44 : GS), Jn_k_rSlab_2_3 x_32 G_28 G_44 ∧ Wd D k A a G_44 H ∧ Bd G_44 ∧ Fr [20, 21] [(3, 2), (3, 3), (3, 4), (3, 5), (3, 6), (3, 7), (3, 8), (5, 9)] G G_44 ∧ Fr [] [] G_28 G_44 ∧ va_S A s.heap H locs ∧ lv_has ls 9 [(6, .int x_33), (5, .int (G_16.1 5 9)), (3, .int w_3), (0, .ref (a 5)), (1, .int p0)]) (stJ := fun _ => []) ?_ (fun hJ_45 => ?_)
      · intro y H locs ls hI
        obtain ⟨G_44, hX_47, hW, hB_G_44, hF, hq_46, hS, hl⟩ := hI
        refine lv_iload_n hx hb dX7_readSlab_155 rfl (lv_at hl 4 rfl) ?_
        refine lv_if_le (tgt := 172) hx hb dX7_readSlab_156 rfl (fun c_48 => ?_) (fun c_48 => ?_)
        · have c_48 : p0.toInt ≤ 0 := xI_le rfl rfl c_48
          refine lv_aload_n hx hb dX7_readSlab_172 rfl (lv_at hl 3 rfl) ?_
          refine S_getV (n := 2) (C := RX7) (T := TX7) (N := 10) hx hb hg iX7 hown hK hW kd_5 rfl 5 (lt_b rfl) (hg (Cond.fieldLink RX7 39 "SlabWalk$Reader" "paving" "LSlabWalk$Paving;") m317) (fun _ h9 => h9) rfl ((((hq_46.r9 5 5 rfl rfl).trans ((hq_29.r9 5 5 rfl rfl).trans ((hq_24.r9 5 5 rfl rfl).trans ((hq_17.r9 5 5 rfl rfl).trans (hq_6.r9 5 5 rfl rfl)))))).trans (hv_5_5)) dX7_readSlab_173 ?_
          refine ic_0 hx hb dX7_readSlab_176 ?_
          refine lv_iload hx hb dX7_readSlab_177 (lv_at hl 0 rfl) ?_
          refine lv_iload_n hx hb dX7_readSlab_179 rfl (lv_at hl 4 rfl) ?_
          refine lv_iload hx hb dX7_readSlab_180 (lv_at hl 1 rfl) ?_
          refine S_callv (va_runV (As := [.int 0, .int x_33, .int p0, .int (G_16.1 5 9)]) (rest := []) ⟨hx, hb, hml, hown, hts⟩ (k_lay_2 l D k A a z G_44 0 x_33 p0 (G_16.1 5 9) ⟨(by first | exact ok_405 qc_14 f_20.1 f_20.2 hp_18 c_21 | omega), (by first | exact ok_406 ty_13 f_20.1 f_20.2 hp_18 c_21 | omega)⟩) (cwV 4 hts (gd_V hgd m804 m805 m806 m118 m807) rfl rfl rfl hd_X6_lay ⟨Nat.le_of_ble_eq_true rfl, Nat.le_of_ble_eq_true rfl⟩) (pre_W hW hB_G_44 hK hZ hS kd_2 rfl) rfl rfl hl.1 rfl (lv_room (Nat.le_of_ble_eq_true rfl)) dX7_readSlab_182 ⟨Nat.le_of_ble_eq_true rfl, Nat.le_of_ble_eq_true rfl⟩) hS (fun G_50 H locs hpo hW hS => ?_)
          have hX_53 : P_lay_2 0 x_33 p0 (G_16.1 5 9) G_44 G_50 := hpo
          obtain ⟨hB_G_50, hq_51, -⟩ := hpo
          have hF := hF.call9 hq_51 rfl rfl
          refine ic_1 hx hb dX7_readSlab_185 ?_
          exact W.zret (v := 1) hx hb hr (by decide) (fun t ht _ => ⟨⟨1, G_50, rfl, (P_rSlab_2_mk ⟨hB_G_50, hF, ⟨by decide, by decide⟩, ⟨w_3, G_4, hX_7, f_8, hB_G_4, hq_6, ⟨y_10, ey_10, ⟨y_11, ty_11, ⟨y_12, ty_12, ⟨y_13, ty_13, ⟨r_15, G_16, hX_19, (Or.inr ⟨c_21, ⟨r_22, G_23, hX_26, ⟨x_32, x_33, G_28, hX_34, f_36, f_37, hB_G_28, hq_29, (Or.inr ⟨G_44, hX_47, hB_G_44, hq_46, (Or.inl ⟨c_48, ⟨G_50, hX_53, ⟨rfl, rfl⟩⟩⟩)⟩)⟩⟩⟩)⟩⟩⟩⟩⟩⟩⟩), wd_t ht hW⟩, hS.F ht⟩) hS.2.2 dX7_readSlab_186
        · have c_48 : 0 < p0.toInt := xI_nle rfl rfl c_48
          refine lv_aload_n hx hb dX7_readSlab_159 rfl (lv_at hl 3 rfl) ?_
          refine S_getV (n := 2) (C := RX7) (T := TX7) (N := 10) hx hb hg iX7 hown hK hW kd_5 rfl 5 (lt_b rfl) (hg (Cond.fieldLink RX7 39 "SlabWalk$Reader" "paving" "LSlabWalk$Paving;") m317) (fun _ h9 => h9) rfl ((((hq_46.r9 5 5 rfl rfl).trans ((hq_29.r9 5 5 rfl rfl).trans ((hq_24.r9 5 5 rfl rfl).trans ((hq_17.r9 5 5 rfl rfl).trans (hq_6.r9 5 5 rfl rfl)))))).trans (hv_5_5)) dX7_readSlab_160 ?_
          refine ic_1 hx hb dX7_readSlab_163 ?_
          refine ic_0 hx hb dX7_readSlab_164 ?_
          refine lv_iload_n hx hb dX7_readSlab_165 rfl (lv_at hl 4 rfl) ?_
          refine ic_1 hx hb dX7_readSlab_166 ?_
          refine lv_isub hx hb dX7_readSlab_167 ?_
          refine lv_topi (fun y_54 ey_54 => ?_)
          have ty_54 : y_54.toInt = p0.toInt - 1 := xI_sub rfl rfl ey_54 ((by first | exact ok_137 c_48 | omega)) ((by first | exact ok_407 ha_p0.2 | omega))
          refine lv_iload_n hx hb dX7_readSlab_168 rfl (lv_at hl 2 rfl) ?_
          refine S_callv (va_runV (As := [.int 1, .int 0, .int y_54, .int w_3]) (rest := []) ⟨hx, hb, hml, hown, hts⟩ (k_lay_2 l D k A a z G_44 1 0 y_54 w_3 ⟨(by first | exact f_8.1 | omega), (by first | exact ok_408 f_8.2 | omega)⟩) (cwV 4 hts (gd_V hgd m804 m805 m806 m118 m807) rfl rfl rfl hd_X6_lay ⟨Nat.le_of_ble_eq_true rfl, Nat.le_of_ble_eq_true rfl⟩) (pre_W hW hB_G_44 hK hZ hS kd_2 rfl) rfl rfl hl.1 rfl (lv_room (Nat.le_of_ble_eq_true rfl)) dX7_readSlab_169 ⟨Nat.le_of_ble_eq_true rfl, Nat.le_of_ble_eq_true rfl⟩) hS (fun G_56 H locs hpo hW hS => ?_)
          have hX_59 : P_lay_2 1 0 y_54 w_3 G_44 G_56 := hpo
          obtain ⟨hB_G_56, hq_57, -⟩ := hpo
          have hF := hF.call9 hq_57 rfl rfl
          refine lv_aload_n hx hb dX7_readSlab_172 rfl (lv_at hl 3 rfl) ?_
          refine S_getV (n := 2) (C := RX7) (T := TX7) (N := 10) hx hb hg iX7 hown hK hW kd_5 rfl 5 (lt_b rfl) (hg (Cond.fieldLink RX7 39 "SlabWalk$Reader" "paving" "LSlabWalk$Paving;") m317) (fun _ h9 => h9) rfl ((((hq_57.r9 5 5 rfl rfl).trans ((hq_46.r9 5 5 rfl rfl).trans ((hq_29.r9 5 5 rfl rfl).trans ((hq_24.r9 5 5 rfl rfl).trans ((hq_17.r9 5 5 rfl rfl).trans (hq_6.r9 5 5 rfl rfl))))))).trans (hv_5_5)) dX7_readSlab_173 ?_
          refine ic_0 hx hb dX7_readSlab_176 ?_
          refine lv_iload hx hb dX7_readSlab_177 (lv_at hl 0 rfl) ?_
          refine lv_iload_n hx hb dX7_readSlab_179 rfl (lv_at hl 4 rfl) ?_
          refine lv_iload hx hb dX7_readSlab_180 (lv_at hl 1 rfl) ?_
          refine S_callv (va_runV (As := [.int 0, .int x_33, .int p0, .int (G_16.1 5 9)]) (rest := []) ⟨hx, hb, hml, hown, hts⟩ (k_lay_2 l D k A a z G_56 0 x_33 p0 (G_16.1 5 9) ⟨(by first | exact ok_405 qc_14 f_20.1 f_20.2 hp_18 c_21 | omega), (by first | exact ok_406 ty_13 f_20.1 f_20.2 hp_18 c_21 | omega)⟩) (cwV 4 hts (gd_V hgd m804 m805 m806 m118 m807) rfl rfl rfl hd_X6_lay ⟨Nat.le_of_ble_eq_true rfl, Nat.le_of_ble_eq_true rfl⟩) (pre_W hW hB_G_56 hK hZ hS kd_2 rfl) rfl rfl hl.1 rfl (lv_room (Nat.le_of_ble_eq_true rfl)) dX7_readSlab_182 ⟨Nat.le_of_ble_eq_true rfl, Nat.le_of_ble_eq_true rfl⟩) hS (fun G_61 H locs hpo hW hS => ?_)
          have hX_64 : P_lay_2 0 x_33 p0 (G_16.1 5 9) G_56 G_61 := hpo
          obtain ⟨hB_G_61, hq_62, -⟩ := hpo
          have hF := hF.call9 hq_62 rfl rfl
          refine ic_1 hx hb dX7_readSlab_185 ?_
          exact W.zret (v := 1) hx hb hr (by decide) (fun t ht _ => ⟨⟨1, G_61, rfl, (P_rSlab_2_mk ⟨hB_G_61, hF, ⟨by decide, by decide⟩, ⟨w_3, G_4, hX_7, f_8, hB_G_4, hq_6, ⟨y_10, ey_10, ⟨y_11, ty_11, ⟨y_12, ty_12, ⟨y_13, ty_13, ⟨r_15, G_16, hX_19, (Or.inr ⟨c_21, ⟨r_22, G_23, hX_26, ⟨x_32, x_33, G_28, hX_34, f_36, f_37, hB_G_28, hq_29, (Or.inr ⟨G_44, hX_47, hB_G_44, hq_46, (Or.inr ⟨c_48, ⟨y_54, ty_54, ⟨G_56, hX_59, ⟨G_61, hX_64, ⟨rfl, rfl⟩⟩⟩⟩⟩)⟩)⟩⟩⟩)⟩⟩⟩⟩⟩⟩⟩), wd_t ht hW⟩, hS.F ht⟩) hS.2.2 dX7_readSlab_186
      refine lv_icmp_gt (tgt := 155) hx hb dX7_readSlab_73 rfl (fun c_65 => ?_) (fun c_65 => ?_)
      · have c_65 : 4 < x_32.toInt := xI_lt rfl rfl c_65
        exact hJ_45 () _ _ _ ⟨G_28, (Jn_k_rSlab_2_3_mk (Or.inl ⟨c_65, rfl⟩)), hW, hB_G_28, hF, (Fr.rf (rs := []) (fs := [])), hS, lv_sub hl [1, 2, 3, 4, 5] rfl⟩
      · have c_65 : x_32.toInt ≤ 4 := xI_nlt rfl rfl c_65
        refine lv_aload_n hx hb dX7_readSlab_76 rfl (lv_at hl 4 rfl) ?_
        refine S_getR (n := 3) (C := RX7) (T := TX7) (N := 10) hx hb hg iX7 hown hK hW kd_5 rfl 0 (lt_b rfl) (hg (Cond.fieldLink RX7 26 "SlabWalk$Reader" "tokens" "LSlabWalk$Tokens;") m311) (fun _ h9 => h9) rfl dX7_readSlab_77 ?_
        refine S_getI (v := (G_28.1 3 3)) (C := RX9) (T := TX9) (N := 9) hx hb hg iX9 hown hK hW kd_3 rfl 3 (lt_b rfl) (hg (Cond.fieldLink RX7 62 "SlabWalk$Tokens" "kind" "I") m261) (fun _ h9 => h9) rfl rfl dX7_readSlab_80 ?_
        refine lv_sipush (v := 140) hx hb dX7_readSlab_83 (by decide) ?_
        refine lv_icmp_lt (tgt := 155) hx hb dX7_readSlab_86 rfl (fun c_66 => ?_) (fun c_66 => ?_)
        · have c_66 : (G_28.1 3 3).toInt < 140 := xI_lt rfl rfl c_66
          exact hJ_45 () _ _ _ ⟨G_28, (Jn_k_rSlab_2_3_mk (Or.inr ⟨c_65, (Or.inl ⟨c_66, rfl⟩)⟩)), hW, hB_G_28, hF, (Fr.rf (rs := []) (fs := [])), hS, lv_sub hl [1, 2, 3, 4, 5] rfl⟩
        · have c_66 : 140 ≤ (G_28.1 3 3).toInt := xI_nlt rfl rfl c_66
          refine lv_aload_n hx hb dX7_readSlab_89 rfl (lv_at hl 4 rfl) ?_
          refine S_getR (n := 3) (C := RX7) (T := TX7) (N := 10) hx hb hg iX7 hown hK hW kd_5 rfl 0 (lt_b rfl) (hg (Cond.fieldLink RX7 26 "SlabWalk$Reader" "tokens" "LSlabWalk$Tokens;") m311) (fun _ h9 => h9) rfl dX7_readSlab_90 ?_
          refine S_getI (v := (G_28.1 3 3)) (C := RX9) (T := TX9) (N := 9) hx hb hg iX9 hown hK hW kd_3 rfl 3 (lt_b rfl) (hg (Cond.fieldLink RX7 62 "SlabWalk$Tokens" "kind" "I") m261) (fun _ h9 => h9) rfl rfl dX7_readSlab_93 ?_
          refine lv_sipush (v := 143) hx hb dX7_readSlab_96 (by decide) ?_
          refine lv_icmp_gt (tgt := 155) hx hb dX7_readSlab_99 rfl (fun c_67 => ?_) (fun c_67 => ?_)
          · have c_67 : 143 < (G_28.1 3 3).toInt := xI_lt rfl rfl c_67
            exact hJ_45 () _ _ _ ⟨G_28, (Jn_k_rSlab_2_3_mk (Or.inr ⟨c_65, (Or.inr ⟨c_66, ⟨c_67, rfl⟩⟩)⟩)), hW, hB_G_28, hF, (Fr.rf (rs := []) (fs := [])), hS, lv_sub hl [1, 2, 3, 4, 5] rfl⟩
          · have c_67 : (G_28.1 3 3).toInt ≤ 143 := xI_nlt rfl rfl c_67
            refine ic_1 hx hb dX7_readSlab_102 ?_
            refine lv_aload_n hx hb dX7_readSlab_103 rfl (lv_at hl 4 rfl) ?_
            refine S_getR (n := 3) (C := RX7) (T := TX7) (N := 10) hx hb hg iX7 hown hK hW kd_5 rfl 0 (lt_b rfl) (hg (Cond.fieldLink RX7 26 "SlabWalk$Reader" "tokens" "LSlabWalk$Tokens;") m311) (fun _ h9 => h9) rfl dX7_readSlab_104 ?_
            refine S_getI (v := (G_28.1 3 3)) (C := RX9) (T := TX9) (N := 9) hx hb hg iX9 hown hK hW kd_3 rfl 3 (lt_b rfl) (hg (Cond.fieldLink RX7 62 "SlabWalk$Tokens" "kind" "I") m261) (fun _ h9 => h9) rfl rfl dX7_readSlab_107 ?_
            refine lv_sipush (v := 140) hx hb dX7_readSlab_110 (by decide) ?_
            refine lv_isub hx hb dX7_readSlab_113 ?_
            refine lv_topi (fun y_68 ey_68 => ?_)
            have ty_68 : y_68.toInt = (G_28.1 3 3).toInt - 140 := xI_sub rfl rfl ey_68 ((by first | exact ok_409 c_66 | omega)) ((by first | exact ok_410 c_67 | omega))
            refine lv_ishl hx hb dX7_readSlab_114 ?_
            refine lv_topi (fun y_69 ey_69 => ?_)
            have ty_69 := sh5 (Y := y_68.toInt) rfl ey_69 rfl (by first | (clear ha_p0 ha_p1 hs f_8 b_9 ty_10 ty_11 ty_12 ty_13 f_20 hp_18 c_21 f_27 hn_38 f_36 f_37 c_65; omega) | omega) (by first | (clear ha_p0 ha_p1 hs f_8 b_9 ty_10 ty_11 ty_12 ty_13 f_20 hp_18 c_21 f_27 hn_38 f_36 f_37 c_65; omega) | omega)
            refine lv_istore (lv' := [(8, .int y_69), (7, .int x_32), (6, .int x_33), (5, .int (G_16.1 5 9)), (3, .int w_3), (0, .ref (a 5)), (1, .int p0)]) hx hb dX7_readSlab_115 hl (lt_b rfl) rfl (fun ls hl => ?_)
            refine lv_iload hx hb dX7_readSlab_117 (lv_at hl 2 rfl) ?_
            refine lv_iload hx hb dX7_readSlab_119 (lv_at hl 0 rfl) ?_
            refine lv_iand hx hb dX7_readSlab_121 ?_
            refine lv_topi (fun y_70 ey_70 => ?_)
            refine lv_if_eq (tgt := 134) hx hb dX7_readSlab_122 rfl (fun c_71 => ?_) (fun c_71 => ?_)
            · have c_71 : y_70.toInt = 0 := xI_eq rfl rfl c_71
              refine lv_iload hx hb dX7_readSlab_134 (lv_at hl 2 rfl) ?_
              refine lv_iload hx hb dX7_readSlab_136 (lv_at hl 0 rfl) ?_
              refine lv_ior hx hb dX7_readSlab_138 ?_
              refine lv_topi (fun y_72 ey_72 => ?_)
              have ty_72 := or6 ey_72 ⟨by omega, by omega⟩ ⟨by omega, by omega⟩
              refine lv_istore (lv' := [(6, .int y_72), (8, .int y_69), (7, .int x_32), (5, .int (G_16.1 5 9)), (3, .int w_3), (0, .ref (a 5)), (1, .int p0)]) hx hb dX7_readSlab_139 hl (lt_b rfl) rfl (fun ls hl => ?_)
              refine lv_aload_n hx hb dX7_readSlab_141 rfl (lv_at hl 5 rfl) ?_
              refine S_getR (n := 3) (C := RX7) (T := TX7) (N := 10) hx hb hg iX7 hown hK hW kd_5 rfl 0 (lt_b rfl) (hg (Cond.fieldLink RX7 26 "SlabWalk$Reader" "tokens" "LSlabWalk$Tokens;") m311) (fun _ h9 => h9) rfl dX7_readSlab_142 ?_
              refine S_calli (va_runV (As := []) (rest := []) ⟨hx, hb, hml, hown, hts⟩ (k_tAdvance l D k A a z G_28  ) (cwV 0 hts (gd_V hgd m777 m639 m640 m120 m641) rfl rfl rfl hd_X9_advance ⟨Nat.le_of_ble_eq_true rfl, Nat.le_of_ble_eq_true rfl⟩) (pre_W hW hB_G_28 hK hZ hS kd_3 rfl) rfl rfl hl.1 rfl (lv_room (Nat.le_of_ble_eq_true rfl)) dX7_readSlab_145 ⟨Nat.le_of_ble_eq_true rfl, Nat.le_of_ble_eq_true rfl⟩) hS (fun r_73 G_74 H locs hpo hW hS => ?_)
              have hX_77 : P_tAdvance G_28 r_73 G_74 := hpo
              obtain ⟨hB_G_74, hq_75, f_78, -⟩ := hpo
              have hF := hF.call9 hq_75 rfl rfl
              refine lv_pop hx hb dX7_readSlab_148 rfl ?_
              obtain ⟨y_79, ey_79⟩ : ∃ q, q = x_32 + 1 := ⟨_, rfl⟩
              have ty_79 : y_79.toInt = x_32.toInt + 1 := xI_add rfl rfl ey_79 ((by first | exact ok_21 f_36.1 | omega)) ((by first | exact ok_144 f_36.2 | omega))
              refine lv_iinc (v := y_79) (lv' := [(7, .int y_79), (6, .int y_72), (8, .int y_69), (5, .int (G_16.1 5 9)), (3, .int w_3), (0, .ref (a 5)), (1, .int p0)]) hx hb dX7_readSlab_149 hl (k := 2) rfl (by rw [ey_79]; rfl) (lt_b rfl) rfl (fun ls hl => ?_)
              refine lv_goto (tgt := 70) hx hb dX7_readSlab_152 rfl ?_
              exact ih_30 (5 - y_79.toInt : Int).toNat ((by first | (clear ha_p0 ha_p1 hs f_8 b_9 ty_10 ty_11 ty_12 ty_13 f_20 hp_18 c_21 f_27 f_37 c_66 c_67 ty_68 ty_69 c_71 ty_72 f_78; omega) | omega)) _ _ _ ⟨G_74, y_79, y_72, (Int.toNat_of_nonneg ((by first | exact ok_411 f_36.2 c_65 ty_79 | omega))), ⟨(by first | exact ok_23 f_36.1 ty_79 | omega), (by first | exact ok_412 f_36.2 c_65 ty_79 | omega)⟩, ⟨(by first | exact ty_72.1 | omega), (by first | exact ty_72.2 | omega)⟩, (hX_34.st (St_k_rSlab_2_2_mk ⟨x_32, x_33, G_28, y_79, y_72, G_74, rfl, rfl, f_36, f_37, hB_G_28, ⟨c_65, ⟨c_66, ⟨c_67, ⟨y_68, ty_68, ⟨y_69, ey_69, ⟨y_70, ey_70, ⟨c_71, ⟨y_72, ey_72, ⟨r_73, G_74, hX_77, ⟨y_79, ty_79, ⟨rfl, rfl, rfl⟩⟩⟩⟩⟩⟩⟩⟩⟩⟩⟩⟩)), hW, hB_G_74, hF, (Fr.call9 (rs := []) (fs := [(3, 2), (3, 3), (3, 4), (3, 5), (3, 6)]) (Fr.call9 (rs := []) (fs := [(3, 2), (3, 3), (3, 4), (3, 5), (3, 6)]) Fr.rf hq_29 rfl rfl) hq_75 rfl rfl), hS, lv_sub hl [0, 1, 3, 4, 5, 6] rfl⟩
            · have c_71 : y_70.toInt ≠ 0 := xI_ne rfl rfl c_71
              refine lv_aload_n hx hb dX7_readSlab_125 rfl (lv_at hl 5 rfl) ?_
              refine S_getR (n := 3) (C := RX7) (T := TX7) (N := 10) hx hb hg iX7 hown hK hW kd_5 rfl 0 (lt_b rfl) (hg (Cond.fieldLink RX7 26 "SlabWalk$Reader" "tokens" "LSlabWalk$Tokens;") m311) (fun _ h9 => h9) rfl dX7_readSlab_126 ?_
              refine ic_2 hx hb dX7_readSlab_129 ?_
              refine S_calli (va_runV (As := [.int 2]) (rest := []) ⟨hx, hb, hml, hown, hts⟩ (k_tRefuse l D k A a z G_28 2 ⟨by decide, by decide⟩) (cwV 1 hts (gd_V hgd m778 m779 m780 m120 m781) rfl rfl rfl hd_X9_refuse ⟨Nat.le_of_ble_eq_true rfl, Nat.le_of_ble_eq_true rfl⟩) (pre_W hW hB_G_28 hK hZ hS kd_3 rfl) rfl rfl hl.1 rfl (lv_room (Nat.le_of_ble_eq_true rfl)) dX7_readSlab_130 ⟨Nat.le_of_ble_eq_true rfl, Nat.le_of_ble_eq_true rfl⟩) hS (fun r_80 G_81 H locs hpo hW hS => ?_)
              have hX_84 : P_tRefuse 2 G_28 r_80 G_81 := hpo
              obtain ⟨hB_G_81, hq_82, f_85, -⟩ := hpo
              have hF := hF.call9 hq_82 rfl rfl
              exact W.zret (v := r_80) hx hb hr (nar_z ((by first | exact f_85.1 | omega)) ((by first | exact ok_130 f_85.2 | omega))) (fun t ht _ => ⟨⟨r_80, G_81, rfl, (P_rSlab_2_mk ⟨hB_G_81, hF, ⟨(by first | exact f_85.1 | omega), (by first | exact ok_130 f_85.2 | omega)⟩, ⟨w_3, G_4, hX_7, f_8, hB_G_4, hq_6, ⟨y_10, ey_10, ⟨y_11, ty_11, ⟨y_12, ty_12, ⟨y_13, ty_13, ⟨r_15, G_16, hX_19, (Or.inr ⟨c_21, ⟨r_22, G_23, hX_26, ⟨x_32, x_33, G_28, hX_34, f_36, f_37, hB_G_28, hq_29, (Or.inl ⟨c_65, ⟨c_66, ⟨c_67, ⟨y_68, ty_68, ⟨y_69, ey_69, ⟨y_70, ey_70, ⟨c_71, ⟨r_80, G_81, hX_84, ⟨rfl, rfl⟩⟩⟩⟩⟩⟩⟩⟩⟩)⟩⟩⟩)⟩⟩⟩⟩⟩⟩⟩), wd_t ht hW⟩, hS.F ht⟩) hS.2.2 dX7_readSlab_133
    · have c_21 : r_15.toInt = 0 := xI_eq rfl rfl c_21
      refine ic_0 hx hb dX7_readSlab_48 ?_
      exact W.zret (v := 0) hx hb hr (by decide) (fun t ht _ => ⟨⟨0, G_16, rfl, (P_rSlab_2_mk ⟨hB_G_16, hF, ⟨by decide, by decide⟩, ⟨w_3, G_4, hX_7, f_8, hB_G_4, hq_6, ⟨y_10, ey_10, ⟨y_11, ty_11, ⟨y_12, ty_12, ⟨y_13, ty_13, ⟨r_15, G_16, hX_19, (Or.inl ⟨c_21, ⟨rfl, rfl⟩⟩)⟩⟩⟩⟩⟩⟩⟩), wd_t ht hW⟩, hS.F ht⟩) hS.2.2 dX7_readSlab_49
  refine lv_if_ne (tgt := 8) hx hb dX7_readSlab_1 rfl (fun c_86 => ?_) (fun c_86 => ?_)
  · have c_86 : p0.toInt ≠ 0 := xI_ne rfl rfl c_86
    refine lv_iload_n hx hb dX7_readSlab_8 rfl (lv_at hl 2 rfl) ?_
    exact hJ_5 p1 _ _ _ ⟨G, ⟨(by first | exact ha_p1.1 | omega), (by first | exact ha_p1.2 | omega)⟩, (Jn_k_rSlab_2_1_mk (Or.inr ⟨c_86, ⟨rfl, rfl⟩⟩)), hW, hB_G, hF, (Fr.rf (rs := []) (fs := [])), hS, lv_sub hl [0, 1] rfl⟩
  · have c_86 : p0.toInt = 0 := xI_eq rfl rfl c_86
    refine ic_0 hx hb dX7_readSlab_4 ?_
    refine lv_goto (tgt := 9) hx hb dX7_readSlab_5 rfl ?_
    have qc_87 : (0 : Int32).toInt = 0 := rfl
    exact hJ_5 0 _ _ _ ⟨G, ⟨(by decide), (by decide)⟩, (Jn_k_rSlab_2_1_mk (Or.inl ⟨c_86, ⟨rfl, rfl⟩⟩)), hW, hB_G, hF, (Fr.rf (rs := []) (fs := [])), hS, lv_sub hl [0, 1] rfl⟩

set_option maxHeartbeats 4000000 in
set_option maxRecDepth 100000 in
theorem k_rStreet_2 (l : Launch) (D : va_G) (k : KT) (A : Nat → Prop) (a : Nat → Nat) (z : SK) (G : GS)  (hv_5_5 : G.2.2 5 5 = 2) : Met l yX7_readStreet (WS yX7_readStreet cX7_readStreet 3 (some .boolean)) ({ frames := 8, cells := 0, slots := 0, locals := 176 }) (va_Pc [.ref (a 5)] (cW D k A a z G)) (va_Qi (fun (r : Int32) (G1 : GS) => P_rStreet_2 G r G1) (fun (G1 : GS) t => Wd D k A a G1 t.heap) A) 0 0 A := by
  refine Met.ofW (cc := cX7_readStreet) (maxL := 3) (ret := (some .boolean)) (by decide) rfl ?_
  intro p e s m args below meth c s₁ B hml hv
  obtain ⟨rfl, hW, hB_G, hK, hZ⟩ := hv
  have hx := B.exec
  have hb := B.bytes
  have hr := B.returns
  have hts := atoms_spec (ws := WS yX7_readStreet cX7_readStreet 3 (some .boolean)) B.pre
  have hgd : ∀ w ∈ gd, w ∈ WS yX7_readStreet cX7_readStreet 3 (some .boolean) := fun w h => List.mem_cons_of_mem _ h
  have hg : ∀ w ∈ gd, w.before _ s = true := fun w h => hts w (hgd w h)
  have hown : s.vm.findClass RX7 = some m.cls := findClass_of_methodNamed B.named
  have hS : va_S A s.heap s.heap [] := va_S.rf
  have hF : Fr [20, 21, 34] [(2, 9), (3, 2), (3, 3), (3, 4), (3, 5), (3, 6), (3, 7), (3, 8), (5, 9)] G G := Fr.rf
  have hl := lv_entry ([.ref (a 5)]) (n := 3) (Nat.le_of_ble_eq_true rfl)
  rw [lg_entry_eq]
  generalize (lg_sl ([.ref (a 5)]) ++ List.replicate (3 - (lg_sl ([.ref (a 5)])).length) Slot.unset).toArray = ls at hl ⊢
  have hl : lv_has ls 3 [(0, .ref (a 5))] := hl
  refine lv_aload_n hx hb dX7_readStreet_0 rfl (lv_at hl 0 rfl) ?_
  refine lv_aload_n hx hb dX7_readStreet_1 rfl (lv_at hl 0 rfl) ?_
  refine S_getV (n := 2) (C := RX7) (T := TX7) (N := 10) hx hb hg iX7 hown hK hW kd_5 rfl 5 (lt_b rfl) (hg (Cond.fieldLink RX7 39 "SlabWalk$Reader" "paving" "LSlabWalk$Paving;") m317) (fun _ h9 => h9) rfl hv_5_5 dX7_readStreet_2 ?_
  have b_1 : 0 ≤ (G.1 2 9).toInt ∧ (G.1 2 9).toInt ≤ 3 := bd_2_9 hB_G
  refine S_getI (v := (G.1 2 9)) (C := RX6) (T := TX6) (N := 17) hx hb hg iX6 hown hK hW kd_2 rfl 9 (lt_b rfl) (hg (Cond.fieldLink RX7 104 "SlabWalk$Paving" "streets" "I") m188) (fun _ h9 => h9) rfl rfl dX7_readStreet_5 ?_
  refine ic_3 hx hb dX7_readStreet_8 ?_
  refine W.cut (σ := Int32) (pcJ := 17) (J := fun y H locs ls => ∃ (G_5 : GS), (0 ≤ y.toInt ∧ y.toInt ≤ 1) ∧ (y.toInt = 0 ∨ (G_5.1 2 9).toInt < 3) ∧ Jn_k_rStreet_2_1 G y G_5 ∧ Wd D k A a G_5 H ∧ Bd G_5 ∧ Fr [20, 21, 34] [(2, 9), (3, 2), (3, 3), (3, 4), (3, 5), (3, 6), (3, 7), (3, 8), (5, 9)] G G_5 ∧ Fr [] [] G G_5 ∧ va_S A s.heap H locs ∧ lv_has ls 3 [(0, .ref (a 5))]) (stJ := fun y => [.int y, .ref (a 5)]) ?_ (fun hJ_6 => ?_)
  · intro y H locs ls hI
    obtain ⟨w_3, hy⟩ : ∃ q, q = y := ⟨_, rfl⟩
    subst hy
    obtain ⟨G_5, f_9, f_10, hX_8, hW, hB_G_5, hF, hq_7, hS, hl⟩ := hI
    have g_11 : (G_5.1 2 9).toInt = (G.1 2 9).toInt := (congrArg Int32.toInt (show G_5.1 2 9 = (G.1 2 9) from ((hq_7.i9 2 9 rfl rfl).trans (rfl))))
    refine S_calli (va_runV (As := [.int w_3]) (rest := []) ⟨hx, hb, hml, hown, hts⟩ (k_rFirst l D k A a z G_5 w_3 ⟨(by first | exact f_9.1 | omega), (by first | exact f_9.2 | omega)⟩) (cwV 1 hts (gd_V hgd m773 m775 m9 m119 m776) rfl rfl rfl hd_X7_passFirst ⟨Nat.le_of_ble_eq_true rfl, Nat.le_of_ble_eq_true rfl⟩) (pre_W hW hB_G_5 hK hZ hS kd_5 rfl) rfl rfl hl.1 rfl (lv_room (Nat.le_of_ble_eq_true rfl)) dX7_readStreet_17 ⟨Nat.le_of_ble_eq_true rfl, Nat.le_of_ble_eq_true rfl⟩) hS (fun r_12 G_13 H locs hpo hW hS => ?_)
    have hX_16 : P_rFirst w_3 G_5 r_12 G_13 := hpo
    obtain ⟨hB_G_13, hq_14, f_17, hp_15, -⟩ := hpo
    have hF := hF.call9 hq_14 rfl rfl
    refine lv_if_eq (tgt := 64) hx hb dX7_readStreet_20 rfl (fun c_18 => ?_) (fun c_18 => ?_)
    · have c_18 : r_12.toInt = 0 := xI_eq rfl rfl c_18
      refine ic_0 hx hb dX7_readStreet_64 ?_
      exact W.zret (v := 0) hx hb hr (by decide) (fun t ht _ => ⟨⟨0, G_13, rfl, (P_rStreet_2_mk ⟨hB_G_13, hF, ⟨by decide, by decide⟩, ⟨w_3, G_5, hX_8, f_9, f_10, hB_G_5, hq_7, ⟨r_12, G_13, hX_16, (Or.inl ⟨c_18, ⟨rfl, rfl⟩⟩)⟩⟩⟩), wd_t ht hW⟩, hS.F ht⟩) hS.2.2 dX7_readStreet_65
    · have c_18 : r_12.toInt ≠ 0 := xI_ne rfl rfl c_18
      refine lv_aload_n hx hb dX7_readStreet_23 rfl (lv_at hl 0 rfl) ?_
      refine lv_aload_n hx hb dX7_readStreet_24 rfl (lv_at hl 0 rfl) ?_
      refine S_getR (n := 34) (C := RX7) (T := TX7) (N := 10) hx hb hg iX7 hown hK hW kd_5 rfl 2 (lt_b rfl) (hg (Cond.fieldLink RX7 9 "SlabWalk$Reader" "streetNames" "[J") m314) (fun _ h9 => h9) rfl dX7_readStreet_25 ?_
      refine lv_aload_n hx hb dX7_readStreet_28 rfl (lv_at hl 0 rfl) ?_
      refine S_getV (n := 2) (C := RX7) (T := TX7) (N := 10) hx hb hg iX7 hown hK hW kd_5 rfl 5 (lt_b rfl) (hg (Cond.fieldLink RX7 39 "SlabWalk$Reader" "paving" "LSlabWalk$Paving;") m317) (fun _ h9 => h9) rfl ((((hq_14.r9 5 5 rfl rfl).trans (hq_7.r9 5 5 rfl rfl))).trans (hv_5_5)) dX7_readStreet_29 ?_
      refine S_getI (v := (G.1 2 9)) (C := RX6) (T := TX6) (N := 17) hx hb hg iX6 hown hK hW kd_2 rfl 9 (lt_b rfl) (hg (Cond.fieldLink RX7 104 "SlabWalk$Paving" "streets" "I") m188) (fun _ h9 => h9) rfl ((hq_14.i9 2 9 rfl rfl).trans ((hq_7.i9 2 9 rfl rfl).trans (rfl))) dX7_readStreet_32 ?_
      refine S_calli (va_runV (As := [.ref (a 34), .int (G.1 2 9)]) (rest := []) ⟨hx, hb, hml, hown, hts⟩ (k_rName_34 l D k A a z G_13 (G.1 2 9) ⟨(by first | exact b_1.1 | omega), (by first | exact ok_413 b_1.2 | omega)⟩) (cwV 2 hts (gd_V hgd m782 m784 m10 m119 m785) rfl rfl rfl hd_X7_passName ⟨Nat.le_of_ble_eq_true rfl, Nat.le_of_ble_eq_true rfl⟩) (pre_W hW hB_G_13 hK hZ hS kd_5 rfl) rfl rfl hl.1 rfl (lv_room (Nat.le_of_ble_eq_true rfl)) dX7_readStreet_35 ⟨Nat.le_of_ble_eq_true rfl, Nat.le_of_ble_eq_true rfl⟩) hS (fun r_19 G_20 H locs hpo hW hS => ?_)
      have hX_23 : P_rName_34 (G.1 2 9) G_13 r_19 G_20 := hpo
      obtain ⟨hB_G_20, hq_21, f_24, -⟩ := hpo
      have hF := hF.call9 hq_21 rfl rfl
      refine lv_if_eq (tgt := 64) hx hb dX7_readStreet_38 rfl (fun c_25 => ?_) (fun c_25 => ?_)
      · have c_25 : r_19.toInt = 0 := xI_eq rfl rfl c_25
        refine ic_0 hx hb dX7_readStreet_64 ?_
        exact W.zret (v := 0) hx hb hr (by decide) (fun t ht _ => ⟨⟨0, G_20, rfl, (P_rStreet_2_mk ⟨hB_G_20, hF, ⟨by decide, by decide⟩, ⟨w_3, G_5, hX_8, f_9, f_10, hB_G_5, hq_7, ⟨r_12, G_13, hX_16, (Or.inr ⟨c_18, ⟨r_19, G_20, hX_23, (Or.inl ⟨c_25, ⟨rfl, rfl⟩⟩)⟩⟩)⟩⟩⟩), wd_t ht hW⟩, hS.F ht⟩) hS.2.2 dX7_readStreet_65
      · have c_25 : r_19.toInt ≠ 0 := xI_ne rfl rfl c_25
        refine lv_aload_n hx hb dX7_readStreet_41 rfl (lv_at hl 0 rfl) ?_
        refine S_getR (n := 3) (C := RX7) (T := TX7) (N := 10) hx hb hg iX7 hown hK hW kd_5 rfl 0 (lt_b rfl) (hg (Cond.fieldLink RX7 26 "SlabWalk$Reader" "tokens" "LSlabWalk$Tokens;") m311) (fun _ h9 => h9) rfl dX7_readStreet_42 ?_
        refine lv_sipush (v := 139) hx hb dX7_readStreet_45 (by decide) ?_
        refine S_calli (va_runV (As := [.int 139]) (rest := []) ⟨hx, hb, hml, hown, hts⟩ (k_tPass l D k A a z G_20 139 ) (cwV 1 hts (gd_V hgd m786 m787 m788 m120 m789) rfl rfl rfl hd_X9_pass ⟨Nat.le_of_ble_eq_true rfl, Nat.le_of_ble_eq_true rfl⟩) (pre_W hW hB_G_20 hK hZ hS kd_3 rfl) rfl rfl hl.1 rfl (lv_room (Nat.le_of_ble_eq_true rfl)) dX7_readStreet_48 ⟨Nat.le_of_ble_eq_true rfl, Nat.le_of_ble_eq_true rfl⟩) hS (fun r_26 G_27 H locs hpo hW hS => ?_)
        have hX_30 : P_tPass 139 G_20 r_26 G_27 := hpo
        obtain ⟨hB_G_27, hq_28, f_31, -⟩ := hpo
        have hF := hF.call9 hq_28 rfl rfl
        refine lv_if_eq (tgt := 64) hx hb dX7_readStreet_51 rfl (fun c_32 => ?_) (fun c_32 => ?_)
        · have c_32 : r_26.toInt = 0 := xI_eq rfl rfl c_32
          refine ic_0 hx hb dX7_readStreet_64 ?_
          exact W.zret (v := 0) hx hb hr (by decide) (fun t ht _ => ⟨⟨0, G_27, rfl, (P_rStreet_2_mk ⟨hB_G_27, hF, ⟨by decide, by decide⟩, ⟨w_3, G_5, hX_8, f_9, f_10, hB_G_5, hq_7, ⟨r_12, G_13, hX_16, (Or.inr ⟨c_18, ⟨r_19, G_20, hX_23, (Or.inr ⟨c_25, ⟨r_26, G_27, hX_30, (Or.inl ⟨c_32, ⟨rfl, rfl⟩⟩)⟩⟩)⟩⟩)⟩⟩⟩), wd_t ht hW⟩, hS.F ht⟩) hS.2.2 dX7_readStreet_65
        · have c_32 : r_26.toInt ≠ 0 := xI_ne rfl rfl c_32
          refine lv_aload_n hx hb dX7_readStreet_54 rfl (lv_at hl 0 rfl) ?_
          refine ic_0 hx hb dX7_readStreet_55 ?_
          refine lv_bipush (v := 9) hx hb dX7_readStreet_56 (by decide) ?_
          have qc_33 : (0 : Int32).toInt = 0 := rfl
          have qc_34 : (9 : Int32).toInt = 9 := rfl
          refine S_calli (va_runV (As := [.int 0, .int 9]) (rest := []) ⟨hx, hb, hml, hown, hts⟩ (k_rNum l D k A a z G_27 0 9 ) (cwV 2 hts (gd_V hgd m791 m793 m11 m119 m794) rfl rfl rfl hd_X7_passNumber ⟨Nat.le_of_ble_eq_true rfl, Nat.le_of_ble_eq_true rfl⟩) (pre_W hW hB_G_27 hK hZ hS kd_5 rfl) rfl rfl hl.1 rfl (lv_room (Nat.le_of_ble_eq_true rfl)) dX7_readStreet_58 ⟨Nat.le_of_ble_eq_true rfl, Nat.le_of_ble_eq_true rfl⟩) hS (fun r_35 G_36 H locs hpo hW hS => ?_)
          have hX_39 : P_rNum 0 9 G_27 r_35 G_36 := hpo
          obtain ⟨hB_G_36, hq_37, f_40, hp_38, -⟩ := hpo
          have hF := hF.call9 hq_37 rfl rfl
          refine lv_if_ne (tgt := 66) hx hb dX7_readStreet_61 rfl (fun c_41 => ?_) (fun c_41 => ?_)
          · have c_41 : r_35.toInt ≠ 0 := xI_ne rfl rfl c_41
            refine lv_aload_n hx hb dX7_readStreet_66 rfl (lv_at hl 0 rfl) ?_
            refine S_getI (v := (G_36.1 5 9)) (C := RX7) (T := TX7) (N := 10) hx hb hg iX7 hown hK hW kd_5 rfl 9 (lt_b rfl) (hg (Cond.fieldLink RX7 99 "SlabWalk$Reader" "number" "I") m321) (fun _ h9 => h9) rfl rfl dX7_readStreet_67 ?_
            refine lv_istore_n (lv' := [(1, .int (G_36.1 5 9)), (0, .ref (a 5))]) hx hb dX7_readStreet_70 rfl hl (lt_b rfl) rfl (fun ls hl => ?_)
            refine lv_aload_n hx hb dX7_readStreet_71 rfl (lv_at hl 1 rfl) ?_
            refine S_getV (n := 2) (C := RX7) (T := TX7) (N := 10) hx hb hg iX7 hown hK hW kd_5 rfl 5 (lt_b rfl) (hg (Cond.fieldLink RX7 39 "SlabWalk$Reader" "paving" "LSlabWalk$Paving;") m317) (fun _ h9 => h9) rfl ((((hq_37.r9 5 5 rfl rfl).trans ((hq_28.r9 5 5 rfl rfl).trans ((hq_21.r9 5 5 rfl rfl).trans ((hq_14.r9 5 5 rfl rfl).trans (hq_7.r9 5 5 rfl rfl)))))).trans (hv_5_5)) dX7_readStreet_72 ?_
            refine S_getR (n := 20) (C := RX6) (T := TX6) (N := 17) hx hb hg iX6 hown hK hW kd_2 rfl 0 (lt_b rfl) (hg (Cond.fieldLink RX7 121 "SlabWalk$Paving" "length" "[I") m160) (fun _ h9 => h9) rfl dX7_readStreet_75 ?_
            refine lv_aload_n hx hb dX7_readStreet_78 rfl (lv_at hl 1 rfl) ?_
            refine S_getV (n := 2) (C := RX7) (T := TX7) (N := 10) hx hb hg iX7 hown hK hW kd_5 rfl 5 (lt_b rfl) (hg (Cond.fieldLink RX7 39 "SlabWalk$Reader" "paving" "LSlabWalk$Paving;") m317) (fun _ h9 => h9) rfl ((((hq_37.r9 5 5 rfl rfl).trans ((hq_28.r9 5 5 rfl rfl).trans ((hq_21.r9 5 5 rfl rfl).trans ((hq_14.r9 5 5 rfl rfl).trans (hq_7.r9 5 5 rfl rfl)))))).trans (hv_5_5)) dX7_readStreet_79 ?_
            refine S_getI (v := (G.1 2 9)) (C := RX6) (T := TX6) (N := 17) hx hb hg iX6 hown hK hW kd_2 rfl 9 (lt_b rfl) (hg (Cond.fieldLink RX7 104 "SlabWalk$Paving" "streets" "I") m188) (fun _ h9 => h9) rfl ((hq_37.i9 2 9 rfl rfl).trans ((hq_28.i9 2 9 rfl rfl).trans ((hq_21.i9 2 9 rfl rfl).trans ((hq_14.i9 2 9 rfl rfl).trans ((hq_7.i9 2 9 rfl rfl).trans (rfl)))))) dX7_readStreet_82 ?_
            refine ic_0 hx hb dX7_readStreet_85 ?_
            refine S_iast hx hb hK hW hS kd_20 (vin ((by first | exact b_1.1 | omega)) ((by first | (clear f_17 c_18 f_24 c_25 f_31 c_32 f_40 hp_38 c_41; omega) | omega))) dX7_readStreet_86 (fun G_42 H locs eG_42 hW hS => ?_)
            have hB_G_42 : Bd G_42 := hB_G_36.put (V := 0) (lo := 0) (hi := 400) eG_42 rfl rfl rfl (by decide) (by decide) (hB_G_36.2.put eG_42 rfl)
            have hF := hF.put eG_42 (Or.inl (by decide))
            refine ic_0 hx hb dX7_readStreet_87 ?_
            refine lv_istore_n (lv' := [(2, .int 0), (1, .int (G_36.1 5 9)), (0, .ref (a 5))]) hx hb dX7_readStreet_88 rfl hl (lt_b rfl) rfl (fun ls hl => ?_)
            have g_49 : (G_42.1 2 9).toInt = (G.1 2 9).toInt := (congrArg Int32.toInt (show G_42.1 2 9 = (G.1 2 9) from ((gp_ne eG_42 (fun q => absurd q.1 (Nat.ne_of_beq_eq_false rfl))).trans ((hq_37.i9 2 9 rfl rfl).trans ((hq_28.i9 2 9 rfl rfl).trans ((hq_21.i9 2 9 rfl rfl).trans ((hq_14.i9 2 9 rfl rfl).trans ((hq_7.i9 2 9 rfl rfl).trans (rfl)))))))))
            have qc_50 : (0 : Int32).toInt = 0 := rfl
            refine loop_N (Inv := fun n H locs ls => ∃ (G_43 : GS) (x_47 : Int32), (n : Int) = 1600 - x_47.toInt ∧ (0 ≤ x_47.toInt ∧ x_47.toInt ≤ 1600) ∧ ((G_43.1 2 9).toInt < 3) ∧ Rc (St_k_rStreet_2_2 G_36) (0, G_42) (x_47, G_43) ∧ Wd D k A a G_43 H ∧ Bd G_43 ∧ Fr [20, 21, 34] [(2, 9), (3, 2), (3, 3), (3, 4), (3, 5), (3, 6), (3, 7), (3, 8), (5, 9)] G G_43 ∧ Fr [20, 21] [(3, 2), (3, 3), (3, 4), (3, 5), (3, 6), (3, 7), (3, 8), (5, 9)] G_42 G_43 ∧ va_S A s.heap H locs ∧ lv_has ls 3 [(2, .int x_47), (1, .int (G_36.1 5 9)), (0, .ref (a 5))]) (fun n_46 H locs ls ih_45 hI => ?_) (1600 - 0 : Int).toNat ⟨G_42, 0, (Int.toNat_of_nonneg ((by decide))), ⟨(by decide), (by decide)⟩, ((by first | (clear f_17 c_18 f_24 c_25 f_31 c_32 f_40 hp_38 c_41; omega) | omega)), Rc.rf, hW, hB_G_42, hF, Fr.rf, hS, lv_sub hl [0, 1, 2] rfl⟩
            obtain ⟨G_43, x_47, hn_53, f_51, f_52, hX_48, hW, hB_G_43, hF, hq_44, hS, hl⟩ := hI
            have g_54 : (G_43.1 2 9).toInt = (G.1 2 9).toInt := (congrArg Int32.toInt (show G_43.1 2 9 = (G.1 2 9) from ((hq_44.i9 2 9 rfl rfl).trans ((gp_ne eG_42 (fun q => absurd q.1 (Nat.ne_of_beq_eq_false rfl))).trans ((hq_37.i9 2 9 rfl rfl).trans ((hq_28.i9 2 9 rfl rfl).trans ((hq_21.i9 2 9 rfl rfl).trans ((hq_14.i9 2 9 rfl rfl).trans ((hq_7.i9 2 9 rfl rfl).trans (rfl))))))))))
            refine lv_iload_n hx hb dX7_readStreet_89 rfl (lv_at hl 0 rfl) ?_
            refine lv_sipush (v := 1600) hx hb dX7_readStreet_90 (by decide) ?_
            refine W.cut (σ := Unit) (pcJ := 130) (J := fun y H locs ls => ∃ (G_56 : GS), Jn_k_rStreet_2_3 x_47 G_43 G_56 ∧ Wd D k A a G_56 H ∧ Bd G_56 ∧ Fr [20, 21, 34] [(2, 9), (3, 2), (3, 3), (3, 4), (3, 5), (3, 6), (3, 7), (3, 8), (5, 9)] G G_56 ∧ Fr [] [] G_43 G_56 ∧ va_S A s.heap H locs ∧ lv_has ls 3 [(0, .ref (a 5))]) (stJ := fun _ => []) ?_ (fun hJ_57 => ?_)
            · intro y H locs ls hI
              obtain ⟨G_56, hX_59, hW, hB_G_56, hF, hq_58, hS, hl⟩ := hI
              refine lv_aload_n hx hb dX7_readStreet_130 rfl (lv_at hl 0 rfl) ?_
              refine S_getR (n := 3) (C := RX7) (T := TX7) (N := 10) hx hb hg iX7 hown hK hW kd_5 rfl 0 (lt_b rfl) (hg (Cond.fieldLink RX7 26 "SlabWalk$Reader" "tokens" "LSlabWalk$Tokens;") m311) (fun _ h9 => h9) rfl dX7_readStreet_131 ?_
              refine lv_bipush (v := 59) hx hb dX7_readStreet_134 (by decide) ?_
              refine S_calli (va_runV (As := [.int 59]) (rest := []) ⟨hx, hb, hml, hown, hts⟩ (k_tPass l D k A a z G_56 59 ) (cwV 1 hts (gd_V hgd m786 m787 m788 m120 m789) rfl rfl rfl hd_X9_pass ⟨Nat.le_of_ble_eq_true rfl, Nat.le_of_ble_eq_true rfl⟩) (pre_W hW hB_G_56 hK hZ hS kd_3 rfl) rfl rfl hl.1 rfl (lv_room (Nat.le_of_ble_eq_true rfl)) dX7_readStreet_136 ⟨Nat.le_of_ble_eq_true rfl, Nat.le_of_ble_eq_true rfl⟩) hS (fun r_60 G_61 H locs hpo hW hS => ?_)
              have hX_64 : P_tPass 59 G_56 r_60 G_61 := hpo
              obtain ⟨hB_G_61, hq_62, f_65, -⟩ := hpo
              have hF := hF.call9 hq_62 rfl rfl
              refine lv_if_ne (tgt := 144) hx hb dX7_readStreet_139 rfl (fun c_66 => ?_) (fun c_66 => ?_)
              · have c_66 : r_60.toInt ≠ 0 := xI_ne rfl rfl c_66
                refine lv_aload_n hx hb dX7_readStreet_144 rfl (lv_at hl 0 rfl) ?_
                refine S_getV (n := 2) (C := RX7) (T := TX7) (N := 10) hx hb hg iX7 hown hK hW kd_5 rfl 5 (lt_b rfl) (hg (Cond.fieldLink RX7 39 "SlabWalk$Reader" "paving" "LSlabWalk$Paving;") m317) (fun _ h9 => h9) rfl ((((hq_62.r9 5 5 rfl rfl).trans ((hq_58.r9 5 5 rfl rfl).trans ((hq_44.r9 5 5 rfl rfl).trans ((congrFun (congrFun (congrArg (fun q => q.2.2) eG_42) 5) 5).trans ((hq_37.r9 5 5 rfl rfl).trans ((hq_28.r9 5 5 rfl rfl).trans ((hq_21.r9 5 5 rfl rfl).trans ((hq_14.r9 5 5 rfl rfl).trans (hq_7.r9 5 5 rfl rfl)))))))))).trans (hv_5_5)) dX7_readStreet_145 ?_
                refine lv_dup hx hb dX7_readStreet_148 rfl ?_
                refine S_getI (v := (G.1 2 9)) (C := RX6) (T := TX6) (N := 17) hx hb hg iX6 hown hK hW kd_2 rfl 9 (lt_b rfl) (hg (Cond.fieldLink RX7 104 "SlabWalk$Paving" "streets" "I") m188) (fun _ h9 => h9) rfl ((hq_62.i9 2 9 rfl rfl).trans ((hq_58.i9 2 9 rfl rfl).trans ((hq_44.i9 2 9 rfl rfl).trans ((gp_ne eG_42 (fun q => absurd q.1 (Nat.ne_of_beq_eq_false rfl))).trans ((hq_37.i9 2 9 rfl rfl).trans ((hq_28.i9 2 9 rfl rfl).trans ((hq_21.i9 2 9 rfl rfl).trans ((hq_14.i9 2 9 rfl rfl).trans ((hq_7.i9 2 9 rfl rfl).trans (rfl)))))))))) dX7_readStreet_149 ?_
                refine ic_1 hx hb dX7_readStreet_152 ?_
                refine lv_iadd hx hb dX7_readStreet_153 ?_
                refine lv_topi (fun y_67 ey_67 => ?_)
                have ty_67 : y_67.toInt = (G.1 2 9).toInt + 1 := xI_add rfl rfl ey_67 ((by first | exact ok_21 b_1.1 | omega)) ((by first | exact ok_43 b_1.2 | omega))
                refine S_putI (ty := .int) (C := RX6) (T := TX6) (N := 17) hx hb hg iX6 tyX6 tyX6_ok nmX6 hown hK hW hS kd_2 rfl 9 (lt_b rfl) (hg (Cond.fieldLink RX7 104 "SlabWalk$Paving" "streets" "I") m188) (fun _ h9 => h9) rfl (by decide +kernel) rfl rfl rfl dX7_readStreet_154 (fun G_68 H locs eG_68 hW hS => ?_)
                have hB_G_68 : Bd G_68 := hB_G_61.put (V := y_67.toInt) (lo := 0) (hi := 3) eG_68 rfl rfl rfl ((by first | exact ok_23 b_1.1 ty_67 | omega)) ((by first | exact ok_414 b_1.2 f_52 g_54 ty_67 | omega)) (hB_G_61.2.put eG_68 rfl)
                have hF := hF.put eG_68 (Or.inr (by decide))
                refine ic_1 hx hb dX7_readStreet_157 ?_
                exact W.zret (v := 1) hx hb hr (by decide) (fun t ht _ => ⟨⟨1, G_68, rfl, (P_rStreet_2_mk ⟨hB_G_68, hF, ⟨by decide, by decide⟩, ⟨w_3, G_5, hX_8, f_9, f_10, hB_G_5, hq_7, ⟨r_12, G_13, hX_16, (Or.inr ⟨c_18, ⟨r_19, G_20, hX_23, (Or.inr ⟨c_25, ⟨r_26, G_27, hX_30, (Or.inr ⟨c_32, ⟨r_35, G_36, hX_39, (Or.inr ⟨c_41, ⟨G_42, hB_G_42, (Fr.put (rs := [20]) (fs := []) Fr.rf eG_42 (Or.inl (by decide))), rw_ast eG_42, ⟨x_47, G_43, hX_48, f_51, f_52, hB_G_43, hq_44, (Or.inr ⟨G_56, hX_59, hB_G_56, hq_58, ⟨r_60, G_61, hX_64, (Or.inr ⟨c_66, ⟨y_67, ty_67, ⟨rfl, (Fr.put (rs := []) (fs := [(2, 9)]) Fr.rf eG_68 (Or.inr (by decide))), (gp_eq eG_68)⟩⟩⟩)⟩⟩)⟩⟩⟩)⟩⟩)⟩⟩)⟩⟩)⟩⟩⟩), wd_t ht hW⟩, hS.F ht⟩) hS.2.2 dX7_readStreet_158
              · have c_66 : r_60.toInt = 0 := xI_eq rfl rfl c_66
                refine ic_0 hx hb dX7_readStreet_142 ?_
                exact W.zret (v := 0) hx hb hr (by decide) (fun t ht _ => ⟨⟨0, G_61, rfl, (P_rStreet_2_mk ⟨hB_G_61, hF, ⟨by decide, by decide⟩, ⟨w_3, G_5, hX_8, f_9, f_10, hB_G_5, hq_7, ⟨r_12, G_13, hX_16, (Or.inr ⟨c_18, ⟨r_19, G_20, hX_23, (Or.inr ⟨c_25, ⟨r_26, G_27, hX_30, (Or.inr ⟨c_32, ⟨r_35, G_36, hX_39, (Or.inr ⟨c_41, ⟨G_42, hB_G_42, (Fr.put (rs := [20]) (fs := []) Fr.rf eG_42 (Or.inl (by decide))), rw_ast eG_42, ⟨x_47, G_43, hX_48, f_51, f_52, hB_G_43, hq_44, (Or.inr ⟨G_56, hX_59, hB_G_56, hq_58, ⟨r_60, G_61, hX_64, (Or.inl ⟨c_66, ⟨rfl, rfl⟩⟩)⟩⟩)⟩⟩⟩)⟩⟩)⟩⟩)⟩⟩)⟩⟩⟩), wd_t ht hW⟩, hS.F ht⟩) hS.2.2 dX7_readStreet_143
            refine lv_icmp_ge (tgt := 130) hx hb dX7_readStreet_93 rfl (fun c_69 => ?_) (fun c_69 => ?_)
            · have c_69 : 1600 ≤ x_47.toInt := xI_le rfl rfl c_69
              exact hJ_57 () _ _ _ ⟨G_43, (Jn_k_rStreet_2_3_mk (Or.inl ⟨c_69, rfl⟩)), hW, hB_G_43, hF, (Fr.rf (rs := []) (fs := [])), hS, lv_sub hl [2] rfl⟩
            · have c_69 : x_47.toInt < 1600 := xI_nle rfl rfl c_69
              refine lv_iload_n hx hb dX7_readStreet_96 rfl (lv_at hl 0 rfl) ?_
              refine lv_if_eq (tgt := 113) hx hb dX7_readStreet_97 rfl (fun c_70 => ?_) (fun c_70 => ?_)
              · have c_70 : x_47.toInt = 0 := xI_eq rfl rfl c_70
                refine lv_aload_n hx hb dX7_readStreet_113 rfl (lv_at hl 2 rfl) ?_
                refine lv_iload_n hx hb dX7_readStreet_114 rfl (lv_at hl 0 rfl) ?_
                refine lv_iload_n hx hb dX7_readStreet_115 rfl (lv_at hl 1 rfl) ?_
                have g_71 : (G_43.1 2 9).toInt = (G.1 2 9).toInt := (congrArg Int32.toInt (show G_43.1 2 9 = (G.1 2 9) from ((hq_44.i9 2 9 rfl rfl).trans ((gp_ne eG_42 (fun q => absurd q.1 (Nat.ne_of_beq_eq_false rfl))).trans ((hq_37.i9 2 9 rfl rfl).trans ((hq_28.i9 2 9 rfl rfl).trans ((hq_21.i9 2 9 rfl rfl).trans ((hq_14.i9 2 9 rfl rfl).trans ((hq_7.i9 2 9 rfl rfl).trans (rfl))))))))))
                refine S_calli (va_runV (As := [.int x_47, .int (G_36.1 5 9)]) (rest := []) ⟨hx, hb, hml, hown, hts⟩ (k_rSlab_2 l D k A a z G_43 x_47 (G_36.1 5 9) ⟨(by first | exact f_51.1 | omega), (by first | exact f_51.2 | omega)⟩ ⟨(by first | exact ok_415 qc_33 f_40.1 f_40.2 hp_38 c_41 | omega), (by first | exact ok_416 qc_34 f_40.1 f_40.2 hp_38 c_41 | omega)⟩ ((((hq_44.r9 5 5 rfl rfl).trans ((congrFun (congrFun (congrArg (fun q => q.2.2) eG_42) 5) 5).trans ((hq_37.r9 5 5 rfl rfl).trans ((hq_28.r9 5 5 rfl rfl).trans ((hq_21.r9 5 5 rfl rfl).trans ((hq_14.r9 5 5 rfl rfl).trans (hq_7.r9 5 5 rfl rfl)))))))).trans (hv_5_5)) ((by first | exact f_52 | omega))) (cwV 2 hts (gd_V hgd m799 m801 m13 m119 m802) rfl rfl rfl hd_X7_readSlab ⟨Nat.le_of_ble_eq_true rfl, Nat.le_of_ble_eq_true rfl⟩) (pre_W hW hB_G_43 hK hZ hS kd_5 rfl) rfl rfl hl.1 rfl (lv_room (Nat.le_of_ble_eq_true rfl)) dX7_readStreet_116 ⟨Nat.le_of_ble_eq_true rfl, Nat.le_of_ble_eq_true rfl⟩) hS (fun r_72 G_73 H locs hpo hW hS => ?_)
                have hX_76 : P_rSlab_2 x_47 (G_36.1 5 9) G_43 r_72 G_73 := hpo
                obtain ⟨hB_G_73, hq_74, f_77, -⟩ := hpo
                have hF := hF.call9 hq_74 rfl rfl
                refine lv_if_ne (tgt := 124) hx hb dX7_readStreet_119 rfl (fun c_78 => ?_) (fun c_78 => ?_)
                · have c_78 : r_72.toInt ≠ 0 := xI_ne rfl rfl c_78
                  obtain ⟨y_79, ey_79⟩ : ∃ q, q = x_47 + 1 := ⟨_, rfl⟩
                  have ty_79 : y_79.toInt = x_47.toInt + 1 := xI_add rfl rfl ey_79 ((by first | exact ok_21 f_51.1 | omega)) ((by first | exact ok_417 c_70 | omega))
                  refine lv_iinc (v := y_79) (lv' := [(2, .int y_79), (1, .int (G_36.1 5 9)), (0, .ref (a 5))]) hx hb dX7_readStreet_124 hl (k := 0) rfl (by rw [ey_79]; rfl) (lt_b rfl) rfl (fun ls hl => ?_)
                  refine lv_goto (tgt := 89) hx hb dX7_readStreet_127 rfl ?_
                  have g_80 : (G_73.1 2 9).toInt = (G.1 2 9).toInt := (congrArg Int32.toInt (show G_73.1 2 9 = (G.1 2 9) from ((hq_74.i9 2 9 rfl rfl).trans ((hq_44.i9 2 9 rfl rfl).trans ((gp_ne eG_42 (fun q => absurd q.1 (Nat.ne_of_beq_eq_false rfl))).trans ((hq_37.i9 2 9 rfl rfl).trans ((hq_28.i9 2 9 rfl rfl).trans ((hq_21.i9 2 9 rfl rfl).trans ((hq_14.i9 2 9 rfl rfl).trans ((hq_7.i9 2 9 rfl rfl).trans (rfl)))))))))))
                  exact ih_45 (1600 - y_79.toInt : Int).toNat ((by first | (clear b_1 f_9 f_10 g_11 f_17 hp_15 c_18 f_24 c_25 f_31 c_32 f_40 hp_38 c_41 g_49 f_52 g_54 g_71 f_77 c_78 g_80; omega) | omega)) _ _ _ ⟨G_73, y_79, (Int.toNat_of_nonneg ((by first | exact ok_418 c_70 ty_79 | omega))), ⟨(by first | exact ok_23 f_51.1 ty_79 | omega), (by first | exact ok_419 c_70 ty_79 | omega)⟩, ((by first | exact ok_420 b_1.2 f_52 g_54 g_80 | omega)), (hX_48.st (St_k_rStreet_2_2_mk ⟨x_47, G_43, y_79, G_73, rfl, rfl, f_51, f_52, hB_G_43, ⟨c_69, (Or.inl ⟨c_70, ⟨r_72, G_73, hX_76, ⟨c_78, ⟨y_79, ty_79, ⟨rfl, rfl⟩⟩⟩⟩⟩)⟩⟩)), hW, hB_G_73, hF, (Fr.call9 (rs := [20, 21]) (fs := [(3, 2), (3, 3), (3, 4), (3, 5), (3, 6), (3, 7), (3, 8), (5, 9)]) (Fr.call9 (rs := [20, 21]) (fs := [(3, 2), (3, 3), (3, 4), (3, 5), (3, 6), (3, 7), (3, 8), (5, 9)]) Fr.rf hq_44 rfl rfl) hq_74 rfl rfl), hS, lv_sub hl [0, 1, 2] rfl⟩
                · have c_78 : r_72.toInt = 0 := xI_eq rfl rfl c_78
                  refine ic_0 hx hb dX7_readStreet_122 ?_
                  exact W.zret (v := 0) hx hb hr (by decide) (fun t ht _ => ⟨⟨0, G_73, rfl, (P_rStreet_2_mk ⟨hB_G_73, hF, ⟨by decide, by decide⟩, ⟨w_3, G_5, hX_8, f_9, f_10, hB_G_5, hq_7, ⟨r_12, G_13, hX_16, (Or.inr ⟨c_18, ⟨r_19, G_20, hX_23, (Or.inr ⟨c_25, ⟨r_26, G_27, hX_30, (Or.inr ⟨c_32, ⟨r_35, G_36, hX_39, (Or.inr ⟨c_41, ⟨G_42, hB_G_42, (Fr.put (rs := [20]) (fs := []) Fr.rf eG_42 (Or.inl (by decide))), rw_ast eG_42, ⟨x_47, G_43, hX_48, f_51, f_52, hB_G_43, hq_44, (Or.inl ⟨c_69, (Or.inl ⟨c_70, ⟨r_72, G_73, hX_76, ⟨c_78, ⟨rfl, rfl⟩⟩⟩⟩)⟩)⟩⟩⟩)⟩⟩)⟩⟩)⟩⟩)⟩⟩⟩), wd_t ht hW⟩, hS.F ht⟩) hS.2.2 dX7_readStreet_123
              · have c_70 : x_47.toInt ≠ 0 := xI_ne rfl rfl c_70
                refine lv_aload_n hx hb dX7_readStreet_100 rfl (lv_at hl 2 rfl) ?_
                refine S_getR (n := 3) (C := RX7) (T := TX7) (N := 10) hx hb hg iX7 hown hK hW kd_5 rfl 0 (lt_b rfl) (hg (Cond.fieldLink RX7 26 "SlabWalk$Reader" "tokens" "LSlabWalk$Tokens;") m311) (fun _ h9 => h9) rfl dX7_readStreet_101 ?_
                refine S_getI (v := (G_43.1 3 3)) (C := RX9) (T := TX9) (N := 9) hx hb hg iX9 hown hK hW kd_3 rfl 3 (lt_b rfl) (hg (Cond.fieldLink RX7 62 "SlabWalk$Tokens" "kind" "I") m261) (fun _ h9 => h9) rfl rfl dX7_readStreet_104 ?_
                refine lv_sipush (v := 201) hx hb dX7_readStreet_107 (by decide) ?_
                refine lv_icmp_ne (tgt := 130) hx hb dX7_readStreet_110 rfl (fun c_81 => ?_) (fun c_81 => ?_)
                · have c_81 : (G_43.1 3 3).toInt ≠ 201 := xI_ne rfl rfl c_81
                  exact hJ_57 () _ _ _ ⟨G_43, (Jn_k_rStreet_2_3_mk (Or.inr ⟨c_69, ⟨c_70, ⟨c_81, rfl⟩⟩⟩)), hW, hB_G_43, hF, (Fr.rf (rs := []) (fs := [])), hS, lv_sub hl [2] rfl⟩
                · have c_81 : (G_43.1 3 3).toInt = 201 := xI_eq rfl rfl c_81
                  refine lv_aload_n hx hb dX7_readStreet_113 rfl (lv_at hl 2 rfl) ?_
                  refine lv_iload_n hx hb dX7_readStreet_114 rfl (lv_at hl 0 rfl) ?_
                  refine lv_iload_n hx hb dX7_readStreet_115 rfl (lv_at hl 1 rfl) ?_
                  have g_82 : (G_43.1 2 9).toInt = (G.1 2 9).toInt := (congrArg Int32.toInt (show G_43.1 2 9 = (G.1 2 9) from ((hq_44.i9 2 9 rfl rfl).trans ((gp_ne eG_42 (fun q => absurd q.1 (Nat.ne_of_beq_eq_false rfl))).trans ((hq_37.i9 2 9 rfl rfl).trans ((hq_28.i9 2 9 rfl rfl).trans ((hq_21.i9 2 9 rfl rfl).trans ((hq_14.i9 2 9 rfl rfl).trans ((hq_7.i9 2 9 rfl rfl).trans (rfl))))))))))
                  refine S_calli (va_runV (As := [.int x_47, .int (G_36.1 5 9)]) (rest := []) ⟨hx, hb, hml, hown, hts⟩ (k_rSlab_2 l D k A a z G_43 x_47 (G_36.1 5 9) ⟨(by first | exact f_51.1 | omega), (by first | exact f_51.2 | omega)⟩ ⟨(by first | exact ok_415 qc_33 f_40.1 f_40.2 hp_38 c_41 | omega), (by first | exact ok_416 qc_34 f_40.1 f_40.2 hp_38 c_41 | omega)⟩ ((((hq_44.r9 5 5 rfl rfl).trans ((congrFun (congrFun (congrArg (fun q => q.2.2) eG_42) 5) 5).trans ((hq_37.r9 5 5 rfl rfl).trans ((hq_28.r9 5 5 rfl rfl).trans ((hq_21.r9 5 5 rfl rfl).trans ((hq_14.r9 5 5 rfl rfl).trans (hq_7.r9 5 5 rfl rfl)))))))).trans (hv_5_5)) ((by first | exact f_52 | omega))) (cwV 2 hts (gd_V hgd m799 m801 m13 m119 m802) rfl rfl rfl hd_X7_readSlab ⟨Nat.le_of_ble_eq_true rfl, Nat.le_of_ble_eq_true rfl⟩) (pre_W hW hB_G_43 hK hZ hS kd_5 rfl) rfl rfl hl.1 rfl (lv_room (Nat.le_of_ble_eq_true rfl)) dX7_readStreet_116 ⟨Nat.le_of_ble_eq_true rfl, Nat.le_of_ble_eq_true rfl⟩) hS (fun r_83 G_84 H locs hpo hW hS => ?_)
                  have hX_87 : P_rSlab_2 x_47 (G_36.1 5 9) G_43 r_83 G_84 := hpo
                  obtain ⟨hB_G_84, hq_85, f_88, -⟩ := hpo
                  have hF := hF.call9 hq_85 rfl rfl
                  refine lv_if_ne (tgt := 124) hx hb dX7_readStreet_119 rfl (fun c_89 => ?_) (fun c_89 => ?_)
                  · have c_89 : r_83.toInt ≠ 0 := xI_ne rfl rfl c_89
                    obtain ⟨y_90, ey_90⟩ : ∃ q, q = x_47 + 1 := ⟨_, rfl⟩
                    have ty_90 : y_90.toInt = x_47.toInt + 1 := xI_add rfl rfl ey_90 ((by first | exact ok_21 f_51.1 | omega)) ((by first | exact ok_122 f_51.2 | omega))
                    refine lv_iinc (v := y_90) (lv' := [(2, .int y_90), (1, .int (G_36.1 5 9)), (0, .ref (a 5))]) hx hb dX7_readStreet_124 hl (k := 0) rfl (by rw [ey_90]; rfl) (lt_b rfl) rfl (fun ls hl => ?_)
                    refine lv_goto (tgt := 89) hx hb dX7_readStreet_127 rfl ?_
                    have g_91 : (G_84.1 2 9).toInt = (G.1 2 9).toInt := (congrArg Int32.toInt (show G_84.1 2 9 = (G.1 2 9) from ((hq_85.i9 2 9 rfl rfl).trans ((hq_44.i9 2 9 rfl rfl).trans ((gp_ne eG_42 (fun q => absurd q.1 (Nat.ne_of_beq_eq_false rfl))).trans ((hq_37.i9 2 9 rfl rfl).trans ((hq_28.i9 2 9 rfl rfl).trans ((hq_21.i9 2 9 rfl rfl).trans ((hq_14.i9 2 9 rfl rfl).trans ((hq_7.i9 2 9 rfl rfl).trans (rfl)))))))))))
                    exact ih_45 (1600 - y_90.toInt : Int).toNat ((by first | (clear b_1 f_9 f_10 g_11 f_17 hp_15 c_18 f_24 c_25 f_31 c_32 f_40 hp_38 c_41 g_49 f_52 g_54 c_81 g_82 f_88 c_89 g_91; omega) | omega)) _ _ _ ⟨G_84, y_90, (Int.toNat_of_nonneg ((by first | exact ok_388 f_51.2 c_69 ty_90 | omega))), ⟨(by first | exact ok_23 f_51.1 ty_90 | omega), (by first | exact ok_389 f_51.2 c_69 ty_90 | omega)⟩, ((by first | exact ok_420 b_1.2 f_52 g_54 g_91 | omega)), (hX_48.st (St_k_rStreet_2_2_mk ⟨x_47, G_43, y_90, G_84, rfl, rfl, f_51, f_52, hB_G_43, ⟨c_69, (Or.inr ⟨c_70, ⟨c_81, ⟨r_83, G_84, hX_87, ⟨c_89, ⟨y_90, ty_90, ⟨rfl, rfl⟩⟩⟩⟩⟩⟩)⟩⟩)), hW, hB_G_84, hF, (Fr.call9 (rs := [20, 21]) (fs := [(3, 2), (3, 3), (3, 4), (3, 5), (3, 6), (3, 7), (3, 8), (5, 9)]) (Fr.call9 (rs := [20, 21]) (fs := [(3, 2), (3, 3), (3, 4), (3, 5), (3, 6), (3, 7), (3, 8), (5, 9)]) Fr.rf hq_44 rfl rfl) hq_85 rfl rfl), hS, lv_sub hl [0, 1, 2] rfl⟩
                  · have c_89 : r_83.toInt = 0 := xI_eq rfl rfl c_89
                    refine ic_0 hx hb dX7_readStreet_122 ?_
                    exact W.zret (v := 0) hx hb hr (by decide) (fun t ht _ => ⟨⟨0, G_84, rfl, (P_rStreet_2_mk ⟨hB_G_84, hF, ⟨by decide, by decide⟩, ⟨w_3, G_5, hX_8, f_9, f_10, hB_G_5, hq_7, ⟨r_12, G_13, hX_16, (Or.inr ⟨c_18, ⟨r_19, G_20, hX_23, (Or.inr ⟨c_25, ⟨r_26, G_27, hX_30, (Or.inr ⟨c_32, ⟨r_35, G_36, hX_39, (Or.inr ⟨c_41, ⟨G_42, hB_G_42, (Fr.put (rs := [20]) (fs := []) Fr.rf eG_42 (Or.inl (by decide))), rw_ast eG_42, ⟨x_47, G_43, hX_48, f_51, f_52, hB_G_43, hq_44, (Or.inl ⟨c_69, (Or.inr ⟨c_70, ⟨c_81, ⟨r_83, G_84, hX_87, ⟨c_89, ⟨rfl, rfl⟩⟩⟩⟩⟩)⟩)⟩⟩⟩)⟩⟩)⟩⟩)⟩⟩)⟩⟩⟩), wd_t ht hW⟩, hS.F ht⟩) hS.2.2 dX7_readStreet_123
          · have c_41 : r_35.toInt = 0 := xI_eq rfl rfl c_41
            refine ic_0 hx hb dX7_readStreet_64 ?_
            exact W.zret (v := 0) hx hb hr (by decide) (fun t ht _ => ⟨⟨0, G_36, rfl, (P_rStreet_2_mk ⟨hB_G_36, hF, ⟨by decide, by decide⟩, ⟨w_3, G_5, hX_8, f_9, f_10, hB_G_5, hq_7, ⟨r_12, G_13, hX_16, (Or.inr ⟨c_18, ⟨r_19, G_20, hX_23, (Or.inr ⟨c_25, ⟨r_26, G_27, hX_30, (Or.inr ⟨c_32, ⟨r_35, G_36, hX_39, (Or.inl ⟨c_41, ⟨rfl, rfl⟩⟩)⟩⟩)⟩⟩)⟩⟩)⟩⟩⟩), wd_t ht hW⟩, hS.F ht⟩) hS.2.2 dX7_readStreet_65
  refine lv_icmp_ge (tgt := 16) hx hb dX7_readStreet_9 rfl (fun c_92 => ?_) (fun c_92 => ?_)
  · have c_92 : 3 ≤ (G.1 2 9).toInt := xI_le rfl rfl c_92
    refine ic_0 hx hb dX7_readStreet_16 ?_
    have qc_93 : (0 : Int32).toInt = 0 := rfl
    exact hJ_6 0 _ _ _ ⟨G, ⟨(by decide), (by decide)⟩, ((by first | exact ok_421 | omega)), (Jn_k_rStreet_2_1_mk (Or.inl ⟨c_92, ⟨rfl, rfl⟩⟩)), hW, hB_G, hF, (Fr.rf (rs := []) (fs := [])), hS, lv_sub hl [0] rfl⟩
  · have c_92 : (G.1 2 9).toInt < 3 := xI_nle rfl rfl c_92
    refine ic_1 hx hb dX7_readStreet_12 ?_
    refine lv_goto (tgt := 17) hx hb dX7_readStreet_13 rfl ?_
    have qc_94 : (1 : Int32).toInt = 1 := rfl
    exact hJ_6 1 _ _ _ ⟨G, ⟨(by decide), (by decide)⟩, ((by first | exact ok_422 b_1.2 c_92 | omega)), (Jn_k_rStreet_2_1_mk (Or.inr ⟨c_92, ⟨rfl, rfl⟩⟩)), hW, hB_G, hF, (Fr.rf (rs := []) (fs := [])), hS, lv_sub hl [0] rfl⟩

set_option maxHeartbeats 4000000 in
set_option maxRecDepth 100000 in
theorem k_rWalker_2 (l : Launch) (D : va_G) (k : KT) (A : Nat → Prop) (a : Nat → Nat) (z : SK) (G : GS)  (hv_5_5 : G.2.2 5 5 = 2) : Met l yX7_readWalker (WS yX7_readWalker cX7_readWalker 2 (some .boolean)) ({ frames := 8, cells := 0, slots := 0, locals := 171 }) (va_Pc [.ref (a 5)] (cW D k A a z G)) (va_Qi (fun (r : Int32) (G1 : GS) => P_rWalker_2 G r G1) (fun (G1 : GS) t => Wd D k A a G1 t.heap) A) 0 0 A := by
  refine Met.ofW (cc := cX7_readWalker) (maxL := 2) (ret := (some .boolean)) (by decide) rfl ?_
  intro p e s m args below meth c s₁ B hml hv
  obtain ⟨rfl, hW, hB_G, hK, hZ⟩ := hv
  have hx := B.exec
  have hb := B.bytes
  have hr := B.returns
  have hts := atoms_spec (ws := WS yX7_readWalker cX7_readWalker 2 (some .boolean)) B.pre
  have hgd : ∀ w ∈ gd, w ∈ WS yX7_readWalker cX7_readWalker 2 (some .boolean) := fun w h => List.mem_cons_of_mem _ h
  have hg : ∀ w ∈ gd, w.before _ s = true := fun w h => hts w (hgd w h)
  have hown : s.vm.findClass RX7 = some m.cls := findClass_of_methodNamed B.named
  have hS : va_S A s.heap s.heap [] := va_S.rf
  have hF : Fr [22, 23, 24, 25, 35] [(2, 10), (3, 2), (3, 3), (3, 4), (3, 5), (3, 6), (3, 7), (3, 8), (5, 9)] G G := Fr.rf
  have hl := lv_entry ([.ref (a 5)]) (n := 2) (Nat.le_of_ble_eq_true rfl)
  rw [lg_entry_eq]
  generalize (lg_sl ([.ref (a 5)]) ++ List.replicate (2 - (lg_sl ([.ref (a 5)])).length) Slot.unset).toArray = ls at hl ⊢
  have hl : lv_has ls 2 [(0, .ref (a 5))] := hl
  refine lv_aload_n hx hb dX7_readWalker_0 rfl (lv_at hl 0 rfl) ?_
  refine S_getV (n := 2) (C := RX7) (T := TX7) (N := 10) hx hb hg iX7 hown hK hW kd_5 rfl 5 (lt_b rfl) (hg (Cond.fieldLink RX7 39 "SlabWalk$Reader" "paving" "LSlabWalk$Paving;") m317) (fun _ h9 => h9) rfl hv_5_5 dX7_readWalker_1 ?_
  have b_1 : 0 ≤ (G.1 2 10).toInt ∧ (G.1 2 10).toInt ≤ 4 := bd_2_10 hB_G
  refine S_getI (v := (G.1 2 10)) (C := RX6) (T := TX6) (N := 17) hx hb hg iX6 hown hK hW kd_2 rfl 10 (lt_b rfl) (hg (Cond.fieldLink RX7 138 "SlabWalk$Paving" "walkers" "I") m190) (fun _ h9 => h9) rfl rfl dX7_readWalker_4 ?_
  refine lv_istore_n (lv' := [(1, .int (G.1 2 10)), (0, .ref (a 5))]) hx hb dX7_readWalker_7 rfl hl (lt_b rfl) rfl (fun ls hl => ?_)
  refine lv_aload_n hx hb dX7_readWalker_8 rfl (lv_at hl 1 rfl) ?_
  refine lv_iload_n hx hb dX7_readWalker_9 rfl (lv_at hl 0 rfl) ?_
  refine ic_4 hx hb dX7_readWalker_10 ?_
  refine W.cut (σ := Int32) (pcJ := 19) (J := fun y H locs ls => ∃ (G_6 : GS), (0 ≤ y.toInt ∧ y.toInt ≤ 1) ∧ (y.toInt = 0 ∨ (G.1 2 10).toInt < 4) ∧ Jn_k_rWalker_2_1 G y G_6 ∧ Wd D k A a G_6 H ∧ Bd G_6 ∧ Fr [22, 23, 24, 25, 35] [(2, 10), (3, 2), (3, 3), (3, 4), (3, 5), (3, 6), (3, 7), (3, 8), (5, 9)] G G_6 ∧ Fr [] [] G G_6 ∧ va_S A s.heap H locs ∧ lv_has ls 2 [(1, .int (G.1 2 10)), (0, .ref (a 5))]) (stJ := fun y => [.int y, .ref (a 5)]) ?_ (fun hJ_7 => ?_)
  · intro y H locs ls hI
    obtain ⟨w_4, hy⟩ : ∃ q, q = y := ⟨_, rfl⟩
    subst hy
    obtain ⟨G_6, f_10, f_11, hX_9, hW, hB_G_6, hF, hq_8, hS, hl⟩ := hI
    refine S_calli (va_runV (As := [.int w_4]) (rest := []) ⟨hx, hb, hml, hown, hts⟩ (k_rFirst l D k A a z G_6 w_4 ⟨(by first | exact f_10.1 | omega), (by first | exact f_10.2 | omega)⟩) (cwV 1 hts (gd_V hgd m773 m775 m9 m119 m776) rfl rfl rfl hd_X7_passFirst ⟨Nat.le_of_ble_eq_true rfl, Nat.le_of_ble_eq_true rfl⟩) (pre_W hW hB_G_6 hK hZ hS kd_5 rfl) rfl rfl hl.1 rfl (lv_room (Nat.le_of_ble_eq_true rfl)) dX7_readWalker_19 ⟨Nat.le_of_ble_eq_true rfl, Nat.le_of_ble_eq_true rfl⟩) hS (fun r_12 G_13 H locs hpo hW hS => ?_)
    have hX_16 : P_rFirst w_4 G_6 r_12 G_13 := hpo
    obtain ⟨hB_G_13, hq_14, f_17, hp_15, -⟩ := hpo
    have hF := hF.call9 hq_14 rfl rfl
    refine lv_if_eq (tgt := 60) hx hb dX7_readWalker_22 rfl (fun c_18 => ?_) (fun c_18 => ?_)
    · have c_18 : r_12.toInt = 0 := xI_eq rfl rfl c_18
      refine ic_0 hx hb dX7_readWalker_60 ?_
      exact W.zret (v := 0) hx hb hr (by decide) (fun t ht _ => ⟨⟨0, G_13, rfl, (P_rWalker_2_mk ⟨hB_G_13, hF, ⟨by decide, by decide⟩, ⟨w_4, G_6, hX_9, f_10, f_11, hB_G_6, hq_8, ⟨r_12, G_13, hX_16, (Or.inl ⟨c_18, ⟨rfl, rfl⟩⟩)⟩⟩⟩), wd_t ht hW⟩, hS.F ht⟩) hS.2.2 dX7_readWalker_61
    · have c_18 : r_12.toInt ≠ 0 := xI_ne rfl rfl c_18
      refine lv_aload_n hx hb dX7_readWalker_25 rfl (lv_at hl 1 rfl) ?_
      refine lv_aload_n hx hb dX7_readWalker_26 rfl (lv_at hl 1 rfl) ?_
      refine S_getR (n := 35) (C := RX7) (T := TX7) (N := 10) hx hb hg iX7 hown hK hW kd_5 rfl 3 (lt_b rfl) (hg (Cond.fieldLink RX7 15 "SlabWalk$Reader" "walkerNames" "[J") m315) (fun _ h9 => h9) rfl dX7_readWalker_27 ?_
      refine lv_iload_n hx hb dX7_readWalker_30 rfl (lv_at hl 0 rfl) ?_
      refine S_calli (va_runV (As := [.ref (a 35), .int (G.1 2 10)]) (rest := []) ⟨hx, hb, hml, hown, hts⟩ (k_rName_35 l D k A a z G_13 (G.1 2 10) ⟨(by first | exact b_1.1 | omega), (by first | exact ok_423 b_1.2 | omega)⟩) (cwV 2 hts (gd_V hgd m782 m784 m10 m119 m785) rfl rfl rfl hd_X7_passName ⟨Nat.le_of_ble_eq_true rfl, Nat.le_of_ble_eq_true rfl⟩) (pre_W hW hB_G_13 hK hZ hS kd_5 rfl) rfl rfl hl.1 rfl (lv_room (Nat.le_of_ble_eq_true rfl)) dX7_readWalker_31 ⟨Nat.le_of_ble_eq_true rfl, Nat.le_of_ble_eq_true rfl⟩) hS (fun r_19 G_20 H locs hpo hW hS => ?_)
      have hX_23 : P_rName_35 (G.1 2 10) G_13 r_19 G_20 := hpo
      obtain ⟨hB_G_20, hq_21, f_24, -⟩ := hpo
      have hF := hF.call9 hq_21 rfl rfl
      refine lv_if_eq (tgt := 60) hx hb dX7_readWalker_34 rfl (fun c_25 => ?_) (fun c_25 => ?_)
      · have c_25 : r_19.toInt = 0 := xI_eq rfl rfl c_25
        refine ic_0 hx hb dX7_readWalker_60 ?_
        exact W.zret (v := 0) hx hb hr (by decide) (fun t ht _ => ⟨⟨0, G_20, rfl, (P_rWalker_2_mk ⟨hB_G_20, hF, ⟨by decide, by decide⟩, ⟨w_4, G_6, hX_9, f_10, f_11, hB_G_6, hq_8, ⟨r_12, G_13, hX_16, (Or.inr ⟨c_18, ⟨r_19, G_20, hX_23, (Or.inl ⟨c_25, ⟨rfl, rfl⟩⟩)⟩⟩)⟩⟩⟩), wd_t ht hW⟩, hS.F ht⟩) hS.2.2 dX7_readWalker_61
      · have c_25 : r_19.toInt ≠ 0 := xI_ne rfl rfl c_25
        refine lv_aload_n hx hb dX7_readWalker_37 rfl (lv_at hl 1 rfl) ?_
        refine S_getR (n := 3) (C := RX7) (T := TX7) (N := 10) hx hb hg iX7 hown hK hW kd_5 rfl 0 (lt_b rfl) (hg (Cond.fieldLink RX7 26 "SlabWalk$Reader" "tokens" "LSlabWalk$Tokens;") m311) (fun _ h9 => h9) rfl dX7_readWalker_38 ?_
        refine lv_sipush (v := 130) hx hb dX7_readWalker_41 (by decide) ?_
        refine S_calli (va_runV (As := [.int 130]) (rest := []) ⟨hx, hb, hml, hown, hts⟩ (k_tPass l D k A a z G_20 130 ) (cwV 1 hts (gd_V hgd m786 m787 m788 m120 m789) rfl rfl rfl hd_X9_pass ⟨Nat.le_of_ble_eq_true rfl, Nat.le_of_ble_eq_true rfl⟩) (pre_W hW hB_G_20 hK hZ hS kd_3 rfl) rfl rfl hl.1 rfl (lv_room (Nat.le_of_ble_eq_true rfl)) dX7_readWalker_44 ⟨Nat.le_of_ble_eq_true rfl, Nat.le_of_ble_eq_true rfl⟩) hS (fun r_26 G_27 H locs hpo hW hS => ?_)
        have hX_30 : P_tPass 130 G_20 r_26 G_27 := hpo
        obtain ⟨hB_G_27, hq_28, f_31, -⟩ := hpo
        have hF := hF.call9 hq_28 rfl rfl
        refine lv_if_eq (tgt := 60) hx hb dX7_readWalker_47 rfl (fun c_32 => ?_) (fun c_32 => ?_)
        · have c_32 : r_26.toInt = 0 := xI_eq rfl rfl c_32
          refine ic_0 hx hb dX7_readWalker_60 ?_
          exact W.zret (v := 0) hx hb hr (by decide) (fun t ht _ => ⟨⟨0, G_27, rfl, (P_rWalker_2_mk ⟨hB_G_27, hF, ⟨by decide, by decide⟩, ⟨w_4, G_6, hX_9, f_10, f_11, hB_G_6, hq_8, ⟨r_12, G_13, hX_16, (Or.inr ⟨c_18, ⟨r_19, G_20, hX_23, (Or.inr ⟨c_25, ⟨r_26, G_27, hX_30, (Or.inl ⟨c_32, ⟨rfl, rfl⟩⟩)⟩⟩)⟩⟩)⟩⟩⟩), wd_t ht hW⟩, hS.F ht⟩) hS.2.2 dX7_readWalker_61
        · have c_32 : r_26.toInt ≠ 0 := xI_ne rfl rfl c_32
          refine lv_aload_n hx hb dX7_readWalker_50 rfl (lv_at hl 1 rfl) ?_
          refine ic_1 hx hb dX7_readWalker_51 ?_
          refine lv_bipush (v := 12) hx hb dX7_readWalker_52 (by decide) ?_
          have qc_33 : (1 : Int32).toInt = 1 := rfl
          have qc_34 : (12 : Int32).toInt = 12 := rfl
          refine S_calli (va_runV (As := [.int 1, .int 12]) (rest := []) ⟨hx, hb, hml, hown, hts⟩ (k_rNum l D k A a z G_27 1 12 ) (cwV 2 hts (gd_V hgd m791 m793 m11 m119 m794) rfl rfl rfl hd_X7_passNumber ⟨Nat.le_of_ble_eq_true rfl, Nat.le_of_ble_eq_true rfl⟩) (pre_W hW hB_G_27 hK hZ hS kd_5 rfl) rfl rfl hl.1 rfl (lv_room (Nat.le_of_ble_eq_true rfl)) dX7_readWalker_54 ⟨Nat.le_of_ble_eq_true rfl, Nat.le_of_ble_eq_true rfl⟩) hS (fun r_35 G_36 H locs hpo hW hS => ?_)
          have hX_39 : P_rNum 1 12 G_27 r_35 G_36 := hpo
          obtain ⟨hB_G_36, hq_37, f_40, hp_38, -⟩ := hpo
          have hF := hF.call9 hq_37 rfl rfl
          refine lv_if_ne (tgt := 62) hx hb dX7_readWalker_57 rfl (fun c_41 => ?_) (fun c_41 => ?_)
          · have c_41 : r_35.toInt ≠ 0 := xI_ne rfl rfl c_41
            refine lv_aload_n hx hb dX7_readWalker_62 rfl (lv_at hl 1 rfl) ?_
            refine S_getV (n := 2) (C := RX7) (T := TX7) (N := 10) hx hb hg iX7 hown hK hW kd_5 rfl 5 (lt_b rfl) (hg (Cond.fieldLink RX7 39 "SlabWalk$Reader" "paving" "LSlabWalk$Paving;") m317) (fun _ h9 => h9) rfl ((((hq_37.r9 5 5 rfl rfl).trans ((hq_28.r9 5 5 rfl rfl).trans ((hq_21.r9 5 5 rfl rfl).trans ((hq_14.r9 5 5 rfl rfl).trans (hq_8.r9 5 5 rfl rfl)))))).trans (hv_5_5)) dX7_readWalker_63 ?_
            refine S_getR (n := 22) (C := RX6) (T := TX6) (N := 17) hx hb hg iX6 hown hK hW kd_2 rfl 2 (lt_b rfl) (hg (Cond.fieldLink RX7 141 "SlabWalk$Paving" "foot" "[I") m165) (fun _ h9 => h9) rfl dX7_readWalker_66 ?_
            refine lv_iload_n hx hb dX7_readWalker_69 rfl (lv_at hl 0 rfl) ?_
            refine lv_aload_n hx hb dX7_readWalker_70 rfl (lv_at hl 1 rfl) ?_
            refine S_getI (v := (G_36.1 5 9)) (C := RX7) (T := TX7) (N := 10) hx hb hg iX7 hown hK hW kd_5 rfl 9 (lt_b rfl) (hg (Cond.fieldLink RX7 99 "SlabWalk$Reader" "number" "I") m321) (fun _ h9 => h9) rfl rfl dX7_readWalker_71 ?_
            refine S_iast hx hb hK hW hS kd_22 (vin ((by first | exact b_1.1 | omega)) ((by first | (clear f_17 c_18 f_24 c_25 f_31 c_32 f_40 hp_38 c_41; omega) | omega))) dX7_readWalker_74 (fun G_42 H locs eG_42 hW hS => ?_)
            have hB_G_42 : Bd G_42 := hB_G_36.put (V := (G_36.1 5 9).toInt) (lo := 0) (hi := 12) eG_42 rfl rfl rfl ((by first | exact ok_405 qc_33 f_40.1 f_40.2 hp_38 c_41 | omega)) ((by first | exact ok_424 qc_34 f_40.1 f_40.2 hp_38 c_41 | omega)) (hB_G_36.2.out (P := 2) eG_42 (by decide) (by decide) (by rw [show G_36.1 2 10 = (G.1 2 10) from ((hq_37.i9 2 10 rfl rfl).trans ((hq_28.i9 2 10 rfl rfl).trans ((hq_21.i9 2 10 rfl rfl).trans ((hq_14.i9 2 10 rfl rfl).trans ((hq_8.i9 2 10 rfl rfl).trans (rfl)))))), tN (by first | (clear f_17 c_18 f_24 c_25 f_31 c_32; omega) | omega)]; omega))
            have hF := hF.put eG_42 (Or.inl (by decide))
            refine lv_aload_n hx hb dX7_readWalker_75 rfl (lv_at hl 1 rfl) ?_
            refine S_getR (n := 3) (C := RX7) (T := TX7) (N := 10) hx hb hg iX7 hown hK hW kd_5 rfl 0 (lt_b rfl) (hg (Cond.fieldLink RX7 26 "SlabWalk$Reader" "tokens" "LSlabWalk$Tokens;") m311) (fun _ h9 => h9) rfl dX7_readWalker_76 ?_
            refine lv_sipush (v := 131) hx hb dX7_readWalker_79 (by decide) ?_
            refine S_calli (va_runV (As := [.int 131]) (rest := []) ⟨hx, hb, hml, hown, hts⟩ (k_tPass l D k A a z G_42 131 ) (cwV 1 hts (gd_V hgd m786 m787 m788 m120 m789) rfl rfl rfl hd_X9_pass ⟨Nat.le_of_ble_eq_true rfl, Nat.le_of_ble_eq_true rfl⟩) (pre_W hW hB_G_42 hK hZ hS kd_3 rfl) rfl rfl hl.1 rfl (lv_room (Nat.le_of_ble_eq_true rfl)) dX7_readWalker_82 ⟨Nat.le_of_ble_eq_true rfl, Nat.le_of_ble_eq_true rfl⟩) hS (fun r_43 G_44 H locs hpo hW hS => ?_)
            have hX_47 : P_tPass 131 G_42 r_43 G_44 := hpo
            obtain ⟨hB_G_44, hq_45, f_48, -⟩ := hpo
            have hF := hF.call9 hq_45 rfl rfl
            refine lv_if_eq (tgt := 98) hx hb dX7_readWalker_85 rfl (fun c_49 => ?_) (fun c_49 => ?_)
            · have c_49 : r_43.toInt = 0 := xI_eq rfl rfl c_49
              refine ic_0 hx hb dX7_readWalker_98 ?_
              exact W.zret (v := 0) hx hb hr (by decide) (fun t ht _ => ⟨⟨0, G_44, rfl, (P_rWalker_2_mk ⟨hB_G_44, hF, ⟨by decide, by decide⟩, ⟨w_4, G_6, hX_9, f_10, f_11, hB_G_6, hq_8, ⟨r_12, G_13, hX_16, (Or.inr ⟨c_18, ⟨r_19, G_20, hX_23, (Or.inr ⟨c_25, ⟨r_26, G_27, hX_30, (Or.inr ⟨c_32, ⟨r_35, G_36, hX_39, (Or.inr ⟨c_41, ⟨G_42, hB_G_42, (Fr.put (rs := [22]) (fs := []) Fr.rf eG_42 (Or.inl (by decide))), rw_ast eG_42, ⟨r_43, G_44, hX_47, (Or.inl ⟨c_49, ⟨rfl, rfl⟩⟩)⟩⟩⟩)⟩⟩)⟩⟩)⟩⟩)⟩⟩⟩), wd_t ht hW⟩, hS.F ht⟩) hS.2.2 dX7_readWalker_99
            · have c_49 : r_43.toInt ≠ 0 := xI_ne rfl rfl c_49
              refine lv_aload_n hx hb dX7_readWalker_88 rfl (lv_at hl 1 rfl) ?_
              refine ic_1 hx hb dX7_readWalker_89 ?_
              refine lv_bipush (v := 60) hx hb dX7_readWalker_90 (by decide) ?_
              have qc_50 : (1 : Int32).toInt = 1 := rfl
              have qc_51 : (60 : Int32).toInt = 60 := rfl
              refine S_calli (va_runV (As := [.int 1, .int 60]) (rest := []) ⟨hx, hb, hml, hown, hts⟩ (k_rNum l D k A a z G_44 1 60 ) (cwV 2 hts (gd_V hgd m791 m793 m11 m119 m794) rfl rfl rfl hd_X7_passNumber ⟨Nat.le_of_ble_eq_true rfl, Nat.le_of_ble_eq_true rfl⟩) (pre_W hW hB_G_44 hK hZ hS kd_5 rfl) rfl rfl hl.1 rfl (lv_room (Nat.le_of_ble_eq_true rfl)) dX7_readWalker_92 ⟨Nat.le_of_ble_eq_true rfl, Nat.le_of_ble_eq_true rfl⟩) hS (fun r_52 G_53 H locs hpo hW hS => ?_)
              have hX_56 : P_rNum 1 60 G_44 r_52 G_53 := hpo
              obtain ⟨hB_G_53, hq_54, f_57, hp_55, -⟩ := hpo
              have hF := hF.call9 hq_54 rfl rfl
              refine lv_if_ne (tgt := 100) hx hb dX7_readWalker_95 rfl (fun c_58 => ?_) (fun c_58 => ?_)
              · have c_58 : r_52.toInt ≠ 0 := xI_ne rfl rfl c_58
                refine lv_aload_n hx hb dX7_readWalker_100 rfl (lv_at hl 1 rfl) ?_
                refine S_getV (n := 2) (C := RX7) (T := TX7) (N := 10) hx hb hg iX7 hown hK hW kd_5 rfl 5 (lt_b rfl) (hg (Cond.fieldLink RX7 39 "SlabWalk$Reader" "paving" "LSlabWalk$Paving;") m317) (fun _ h9 => h9) rfl ((((hq_54.r9 5 5 rfl rfl).trans ((hq_45.r9 5 5 rfl rfl).trans ((congrFun (congrFun (congrArg (fun q => q.2.2) eG_42) 5) 5).trans ((hq_37.r9 5 5 rfl rfl).trans ((hq_28.r9 5 5 rfl rfl).trans ((hq_21.r9 5 5 rfl rfl).trans ((hq_14.r9 5 5 rfl rfl).trans (hq_8.r9 5 5 rfl rfl))))))))).trans (hv_5_5)) dX7_readWalker_101 ?_
                refine S_getR (n := 23) (C := RX6) (T := TX6) (N := 17) hx hb hg iX6 hown hK hW kd_2 rfl 3 (lt_b rfl) (hg (Cond.fieldLink RX7 144 "SlabWalk$Paving" "least" "[I") m168) (fun _ h9 => h9) rfl dX7_readWalker_104 ?_
                refine lv_iload_n hx hb dX7_readWalker_107 rfl (lv_at hl 0 rfl) ?_
                refine lv_aload_n hx hb dX7_readWalker_108 rfl (lv_at hl 1 rfl) ?_
                refine S_getI (v := (G_53.1 5 9)) (C := RX7) (T := TX7) (N := 10) hx hb hg iX7 hown hK hW kd_5 rfl 9 (lt_b rfl) (hg (Cond.fieldLink RX7 99 "SlabWalk$Reader" "number" "I") m321) (fun _ h9 => h9) rfl rfl dX7_readWalker_109 ?_
                refine S_iast hx hb hK hW hS kd_23 (vin ((by first | exact b_1.1 | omega)) ((by first | (clear f_17 c_18 f_24 c_25 f_31 c_32 f_40 hp_38 c_41 f_48 c_49 f_57 hp_55 c_58; omega) | omega))) dX7_readWalker_112 (fun G_59 H locs eG_59 hW hS => ?_)
                have hB_G_59 : Bd G_59 := hB_G_53.put (V := (G_53.1 5 9).toInt) (lo := 0) (hi := 60) eG_59 rfl rfl rfl ((by first | exact ok_405 qc_33 f_57.1 f_57.2 hp_55 c_58 | omega)) ((by first | exact ok_425 qc_51 f_57.1 f_57.2 hp_55 c_58 | omega)) (hB_G_53.2.out (P := 2) eG_59 (by decide) (by decide) (by rw [show G_53.1 2 10 = (G.1 2 10) from ((hq_54.i9 2 10 rfl rfl).trans ((hq_45.i9 2 10 rfl rfl).trans ((gp_ne eG_42 (fun q => absurd q.1 (Nat.ne_of_beq_eq_false rfl))).trans ((hq_37.i9 2 10 rfl rfl).trans ((hq_28.i9 2 10 rfl rfl).trans ((hq_21.i9 2 10 rfl rfl).trans ((hq_14.i9 2 10 rfl rfl).trans ((hq_8.i9 2 10 rfl rfl).trans (rfl))))))))), tN (by first | (clear f_17 c_18 f_24 c_25 f_31 c_32 f_48 c_49; omega) | omega)]; omega))
                have hF := hF.put eG_59 (Or.inl (by decide))
                refine lv_aload_n hx hb dX7_readWalker_113 rfl (lv_at hl 1 rfl) ?_
                refine S_getR (n := 3) (C := RX7) (T := TX7) (N := 10) hx hb hg iX7 hown hK hW kd_5 rfl 0 (lt_b rfl) (hg (Cond.fieldLink RX7 26 "SlabWalk$Reader" "tokens" "LSlabWalk$Tokens;") m311) (fun _ h9 => h9) rfl dX7_readWalker_114 ?_
                refine lv_sipush (v := 132) hx hb dX7_readWalker_117 (by decide) ?_
                refine S_calli (va_runV (As := [.int 132]) (rest := []) ⟨hx, hb, hml, hown, hts⟩ (k_tPass l D k A a z G_59 132 ) (cwV 1 hts (gd_V hgd m786 m787 m788 m120 m789) rfl rfl rfl hd_X9_pass ⟨Nat.le_of_ble_eq_true rfl, Nat.le_of_ble_eq_true rfl⟩) (pre_W hW hB_G_59 hK hZ hS kd_3 rfl) rfl rfl hl.1 rfl (lv_room (Nat.le_of_ble_eq_true rfl)) dX7_readWalker_120 ⟨Nat.le_of_ble_eq_true rfl, Nat.le_of_ble_eq_true rfl⟩) hS (fun r_60 G_61 H locs hpo hW hS => ?_)
                have hX_64 : P_tPass 132 G_59 r_60 G_61 := hpo
                obtain ⟨hB_G_61, hq_62, f_65, -⟩ := hpo
                have hF := hF.call9 hq_62 rfl rfl
                refine lv_if_eq (tgt := 144) hx hb dX7_readWalker_123 rfl (fun c_66 => ?_) (fun c_66 => ?_)
                · have c_66 : r_60.toInt = 0 := xI_eq rfl rfl c_66
                  refine ic_0 hx hb dX7_readWalker_144 ?_
                  exact W.zret (v := 0) hx hb hr (by decide) (fun t ht _ => ⟨⟨0, G_61, rfl, (P_rWalker_2_mk ⟨hB_G_61, hF, ⟨by decide, by decide⟩, ⟨w_4, G_6, hX_9, f_10, f_11, hB_G_6, hq_8, ⟨r_12, G_13, hX_16, (Or.inr ⟨c_18, ⟨r_19, G_20, hX_23, (Or.inr ⟨c_25, ⟨r_26, G_27, hX_30, (Or.inr ⟨c_32, ⟨r_35, G_36, hX_39, (Or.inr ⟨c_41, ⟨G_42, hB_G_42, (Fr.put (rs := [22]) (fs := []) Fr.rf eG_42 (Or.inl (by decide))), rw_ast eG_42, ⟨r_43, G_44, hX_47, (Or.inr ⟨c_49, ⟨r_52, G_53, hX_56, (Or.inr ⟨c_58, ⟨G_59, hB_G_59, (Fr.put (rs := [23]) (fs := []) Fr.rf eG_59 (Or.inl (by decide))), rw_ast eG_59, ⟨r_60, G_61, hX_64, (Or.inl ⟨c_66, ⟨rfl, rfl⟩⟩)⟩⟩⟩)⟩⟩)⟩⟩⟩)⟩⟩)⟩⟩)⟩⟩)⟩⟩⟩), wd_t ht hW⟩, hS.F ht⟩) hS.2.2 dX7_readWalker_145
                · have c_66 : r_60.toInt ≠ 0 := xI_ne rfl rfl c_66
                  refine lv_aload_n hx hb dX7_readWalker_126 rfl (lv_at hl 1 rfl) ?_
                  refine lv_aload_n hx hb dX7_readWalker_127 rfl (lv_at hl 1 rfl) ?_
                  refine S_getV (n := 2) (C := RX7) (T := TX7) (N := 10) hx hb hg iX7 hown hK hW kd_5 rfl 5 (lt_b rfl) (hg (Cond.fieldLink RX7 39 "SlabWalk$Reader" "paving" "LSlabWalk$Paving;") m317) (fun _ h9 => h9) rfl ((((hq_62.r9 5 5 rfl rfl).trans ((congrFun (congrFun (congrArg (fun q => q.2.2) eG_59) 5) 5).trans ((hq_54.r9 5 5 rfl rfl).trans ((hq_45.r9 5 5 rfl rfl).trans ((congrFun (congrFun (congrArg (fun q => q.2.2) eG_42) 5) 5).trans ((hq_37.r9 5 5 rfl rfl).trans ((hq_28.r9 5 5 rfl rfl).trans ((hq_21.r9 5 5 rfl rfl).trans ((hq_14.r9 5 5 rfl rfl).trans (hq_8.r9 5 5 rfl rfl))))))))))).trans (hv_5_5)) dX7_readWalker_128 ?_
                  refine S_getR (n := 23) (C := RX6) (T := TX6) (N := 17) hx hb hg iX6 hown hK hW kd_2 rfl 3 (lt_b rfl) (hg (Cond.fieldLink RX7 144 "SlabWalk$Paving" "least" "[I") m168) (fun _ h9 => h9) rfl dX7_readWalker_131 ?_
                  refine lv_iload_n hx hb dX7_readWalker_134 rfl (lv_at hl 0 rfl) ?_
                  refine S_iald hx hb hK hW kd_23 (vin ((by first | exact b_1.1 | omega)) ((by first | (clear f_17 c_18 f_24 c_25 f_31 c_32 f_40 hp_38 c_41 f_48 c_49 f_57 hp_55 c_58 f_65 c_66; omega) | omega))) dX7_readWalker_135 (fun y_67 ey_67 => ?_)
                  have ty_67 : 0 ≤ y_67.toInt ∧ y_67.toInt ≤ 60 := bv_23 hB_G_61 ey_67
                  refine lv_bipush (v := 60) hx hb dX7_readWalker_136 (by decide) ?_
                  have qc_68 : (60 : Int32).toInt = 60 := rfl
                  refine S_calli (va_runV (As := [.int y_67, .int 60]) (rest := []) ⟨hx, hb, hml, hown, hts⟩ (k_rNum l D k A a z G_61 y_67 60 ) (cwV 2 hts (gd_V hgd m791 m793 m11 m119 m794) rfl rfl rfl hd_X7_passNumber ⟨Nat.le_of_ble_eq_true rfl, Nat.le_of_ble_eq_true rfl⟩) (pre_W hW hB_G_61 hK hZ hS kd_5 rfl) rfl rfl hl.1 rfl (lv_room (Nat.le_of_ble_eq_true rfl)) dX7_readWalker_138 ⟨Nat.le_of_ble_eq_true rfl, Nat.le_of_ble_eq_true rfl⟩) hS (fun r_69 G_70 H locs hpo hW hS => ?_)
                  have hX_73 : P_rNum y_67 60 G_61 r_69 G_70 := hpo
                  obtain ⟨hB_G_70, hq_71, f_74, hp_72, -⟩ := hpo
                  have hF := hF.call9 hq_71 rfl rfl
                  refine lv_if_ne (tgt := 146) hx hb dX7_readWalker_141 rfl (fun c_75 => ?_) (fun c_75 => ?_)
                  · have c_75 : r_69.toInt ≠ 0 := xI_ne rfl rfl c_75
                    refine lv_aload_n hx hb dX7_readWalker_146 rfl (lv_at hl 1 rfl) ?_
                    refine S_getV (n := 2) (C := RX7) (T := TX7) (N := 10) hx hb hg iX7 hown hK hW kd_5 rfl 5 (lt_b rfl) (hg (Cond.fieldLink RX7 39 "SlabWalk$Reader" "paving" "LSlabWalk$Paving;") m317) (fun _ h9 => h9) rfl ((((hq_71.r9 5 5 rfl rfl).trans ((hq_62.r9 5 5 rfl rfl).trans ((congrFun (congrFun (congrArg (fun q => q.2.2) eG_59) 5) 5).trans ((hq_54.r9 5 5 rfl rfl).trans ((hq_45.r9 5 5 rfl rfl).trans ((congrFun (congrFun (congrArg (fun q => q.2.2) eG_42) 5) 5).trans ((hq_37.r9 5 5 rfl rfl).trans ((hq_28.r9 5 5 rfl rfl).trans ((hq_21.r9 5 5 rfl rfl).trans ((hq_14.r9 5 5 rfl rfl).trans (hq_8.r9 5 5 rfl rfl)))))))))))).trans (hv_5_5)) dX7_readWalker_147 ?_
                    refine S_getR (n := 24) (C := RX6) (T := TX6) (N := 17) hx hb hg iX6 hown hK hW kd_2 rfl 4 (lt_b rfl) (hg (Cond.fieldLink RX7 147 "SlabWalk$Paving" "most" "[I") m172) (fun _ h9 => h9) rfl dX7_readWalker_150 ?_
                    refine lv_iload_n hx hb dX7_readWalker_153 rfl (lv_at hl 0 rfl) ?_
                    refine lv_aload_n hx hb dX7_readWalker_154 rfl (lv_at hl 1 rfl) ?_
                    refine S_getI (v := (G_70.1 5 9)) (C := RX7) (T := TX7) (N := 10) hx hb hg iX7 hown hK hW kd_5 rfl 9 (lt_b rfl) (hg (Cond.fieldLink RX7 99 "SlabWalk$Reader" "number" "I") m321) (fun _ h9 => h9) rfl rfl dX7_readWalker_155 ?_
                    refine S_iast hx hb hK hW hS kd_24 (vin ((by first | exact b_1.1 | omega)) ((by first | (clear f_17 c_18 f_24 c_25 f_31 c_32 f_40 hp_38 c_41 f_48 c_49 f_57 hp_55 c_58 f_65 c_66 ty_67 f_74 hp_72 c_75; omega) | omega))) dX7_readWalker_158 (fun G_76 H locs eG_76 hW hS => ?_)
                    have hB_G_76 : Bd G_76 := hB_G_70.put (V := (G_70.1 5 9).toInt) (lo := 0) (hi := 60) eG_76 rfl rfl rfl ((by first | exact ok_426 ty_67.1 f_74.1 f_74.2 hp_72 c_75 | omega)) ((by first | exact ok_425 qc_51 f_74.1 f_74.2 hp_72 c_75 | omega)) (hB_G_70.2.out (P := 2) eG_76 (by decide) (by decide) (by rw [show G_70.1 2 10 = (G.1 2 10) from ((hq_71.i9 2 10 rfl rfl).trans ((hq_62.i9 2 10 rfl rfl).trans ((gp_ne eG_59 (fun q => absurd q.1 (Nat.ne_of_beq_eq_false rfl))).trans ((hq_54.i9 2 10 rfl rfl).trans ((hq_45.i9 2 10 rfl rfl).trans ((gp_ne eG_42 (fun q => absurd q.1 (Nat.ne_of_beq_eq_false rfl))).trans ((hq_37.i9 2 10 rfl rfl).trans ((hq_28.i9 2 10 rfl rfl).trans ((hq_21.i9 2 10 rfl rfl).trans ((hq_14.i9 2 10 rfl rfl).trans ((hq_8.i9 2 10 rfl rfl).trans (rfl)))))))))))), tN (by first | (clear f_17 c_18 f_24 c_25 f_31 c_32 f_48 c_49 f_65 c_66; omega) | omega)]; omega))
                    have hF := hF.put eG_76 (Or.inl (by decide))
                    refine lv_aload_n hx hb dX7_readWalker_159 rfl (lv_at hl 1 rfl) ?_
                    refine S_getR (n := 3) (C := RX7) (T := TX7) (N := 10) hx hb hg iX7 hown hK hW kd_5 rfl 0 (lt_b rfl) (hg (Cond.fieldLink RX7 26 "SlabWalk$Reader" "tokens" "LSlabWalk$Tokens;") m311) (fun _ h9 => h9) rfl dX7_readWalker_160 ?_
                    refine S_getI (v := (G_70.1 3 3)) (C := RX9) (T := TX9) (N := 9) hx hb hg iX9 hown hK hW kd_3 rfl 3 (lt_b rfl) (hg (Cond.fieldLink RX7 62 "SlabWalk$Tokens" "kind" "I") m261) (fun _ h9 => h9) rfl (gp_ne eG_76 (fun q => absurd q.1 (Nat.ne_of_beq_eq_false rfl))) dX7_readWalker_163 ?_
                    refine lv_sipush (v := 133) hx hb dX7_readWalker_166 (by decide) ?_
                    refine W.cut (σ := Unit) (pcJ := 207) (J := fun y H locs ls => ∃ (G_79 : GS), (0 ≤ (G_79.1 5 9).toInt ∧ (G_79.1 5 9).toInt ≤ 99) ∧ Jn_k_rWalker_2_2 G G_70 G_76 G_79 ∧ Wd D k A a G_79 H ∧ Bd G_79 ∧ Fr [22, 23, 24, 25, 35] [(2, 10), (3, 2), (3, 3), (3, 4), (3, 5), (3, 6), (3, 7), (3, 8), (5, 9)] G G_79 ∧ Fr [] [(3, 2), (3, 3), (3, 4), (3, 5), (3, 6), (3, 7), (3, 8), (5, 9)] G_76 G_79 ∧ va_S A s.heap H locs ∧ lv_has ls 2 [(1, .int (G.1 2 10)), (0, .ref (a 5))]) (stJ := fun _ => []) ?_ (fun hJ_80 => ?_)
                    · intro y H locs ls hI
                      obtain ⟨G_79, f_83, hX_82, hW, hB_G_79, hF, hq_81, hS, hl⟩ := hI
                      refine lv_aload_n hx hb dX7_readWalker_207 rfl (lv_at hl 1 rfl) ?_
                      refine S_getV (n := 2) (C := RX7) (T := TX7) (N := 10) hx hb hg iX7 hown hK hW kd_5 rfl 5 (lt_b rfl) (hg (Cond.fieldLink RX7 39 "SlabWalk$Reader" "paving" "LSlabWalk$Paving;") m317) (fun _ h9 => h9) rfl ((((hq_81.r9 5 5 rfl rfl).trans ((congrFun (congrFun (congrArg (fun q => q.2.2) eG_76) 5) 5).trans ((hq_71.r9 5 5 rfl rfl).trans ((hq_62.r9 5 5 rfl rfl).trans ((congrFun (congrFun (congrArg (fun q => q.2.2) eG_59) 5) 5).trans ((hq_54.r9 5 5 rfl rfl).trans ((hq_45.r9 5 5 rfl rfl).trans ((congrFun (congrFun (congrArg (fun q => q.2.2) eG_42) 5) 5).trans ((hq_37.r9 5 5 rfl rfl).trans ((hq_28.r9 5 5 rfl rfl).trans ((hq_21.r9 5 5 rfl rfl).trans ((hq_14.r9 5 5 rfl rfl).trans (hq_8.r9 5 5 rfl rfl)))))))))))))).trans (hv_5_5)) dX7_readWalker_208 ?_
                      refine S_getR (n := 25) (C := RX6) (T := TX6) (N := 17) hx hb hg iX6 hown hK hW kd_2 rfl 5 (lt_b rfl) (hg (Cond.fieldLink RX7 150 "SlabWalk$Paving" "leap" "[I") m176) (fun _ h9 => h9) rfl dX7_readWalker_211 ?_
                      refine lv_iload_n hx hb dX7_readWalker_214 rfl (lv_at hl 0 rfl) ?_
                      refine lv_aload_n hx hb dX7_readWalker_215 rfl (lv_at hl 1 rfl) ?_
                      refine S_getI (v := (G_79.1 5 9)) (C := RX7) (T := TX7) (N := 10) hx hb hg iX7 hown hK hW kd_5 rfl 9 (lt_b rfl) (hg (Cond.fieldLink RX7 99 "SlabWalk$Reader" "number" "I") m321) (fun _ h9 => h9) rfl rfl dX7_readWalker_216 ?_
                      refine S_iast hx hb hK hW hS kd_25 (vin ((by first | exact b_1.1 | omega)) ((by first | (clear f_17 c_18 f_24 c_25 f_31 c_32 f_40 hp_38 c_41 f_48 c_49 f_57 hp_55 c_58 f_65 c_66 ty_67 f_74 hp_72 c_75 f_83; omega) | omega))) dX7_readWalker_219 (fun G_84 H locs eG_84 hW hS => ?_)
                      have hB_G_84 : Bd G_84 := hB_G_79.put (V := (G_79.1 5 9).toInt) (lo := 0) (hi := 99) eG_84 rfl rfl rfl ((by first | exact f_83.1 | omega)) ((by first | exact f_83.2 | omega)) (hB_G_79.2.put eG_84 rfl)
                      have hF := hF.put eG_84 (Or.inl (by decide))
                      refine lv_aload_n hx hb dX7_readWalker_220 rfl (lv_at hl 1 rfl) ?_
                      refine S_getV (n := 2) (C := RX7) (T := TX7) (N := 10) hx hb hg iX7 hown hK hW kd_5 rfl 5 (lt_b rfl) (hg (Cond.fieldLink RX7 39 "SlabWalk$Reader" "paving" "LSlabWalk$Paving;") m317) (fun _ h9 => h9) rfl ((((congrFun (congrFun (congrArg (fun q => q.2.2) eG_84) 5) 5).trans ((hq_81.r9 5 5 rfl rfl).trans ((congrFun (congrFun (congrArg (fun q => q.2.2) eG_76) 5) 5).trans ((hq_71.r9 5 5 rfl rfl).trans ((hq_62.r9 5 5 rfl rfl).trans ((congrFun (congrFun (congrArg (fun q => q.2.2) eG_59) 5) 5).trans ((hq_54.r9 5 5 rfl rfl).trans ((hq_45.r9 5 5 rfl rfl).trans ((congrFun (congrFun (congrArg (fun q => q.2.2) eG_42) 5) 5).trans ((hq_37.r9 5 5 rfl rfl).trans ((hq_28.r9 5 5 rfl rfl).trans ((hq_21.r9 5 5 rfl rfl).trans ((hq_14.r9 5 5 rfl rfl).trans (hq_8.r9 5 5 rfl rfl))))))))))))))).trans (hv_5_5)) dX7_readWalker_221 ?_
                      refine lv_dup hx hb dX7_readWalker_224 rfl ?_
                      refine S_getI (v := (G.1 2 10)) (C := RX6) (T := TX6) (N := 17) hx hb hg iX6 hown hK hW kd_2 rfl 10 (lt_b rfl) (hg (Cond.fieldLink RX7 138 "SlabWalk$Paving" "walkers" "I") m190) (fun _ h9 => h9) rfl ((gp_ne eG_84 (fun q => absurd q.1 (Nat.ne_of_beq_eq_false rfl))).trans ((hq_81.i9 2 10 rfl rfl).trans ((gp_ne eG_76 (fun q => absurd q.1 (Nat.ne_of_beq_eq_false rfl))).trans ((hq_71.i9 2 10 rfl rfl).trans ((hq_62.i9 2 10 rfl rfl).trans ((gp_ne eG_59 (fun q => absurd q.1 (Nat.ne_of_beq_eq_false rfl))).trans ((hq_54.i9 2 10 rfl rfl).trans ((hq_45.i9 2 10 rfl rfl).trans ((gp_ne eG_42 (fun q => absurd q.1 (Nat.ne_of_beq_eq_false rfl))).trans ((hq_37.i9 2 10 rfl rfl).trans ((hq_28.i9 2 10 rfl rfl).trans ((hq_21.i9 2 10 rfl rfl).trans ((hq_14.i9 2 10 rfl rfl).trans ((hq_8.i9 2 10 rfl rfl).trans (rfl))))))))))))))) dX7_readWalker_225 ?_
                      refine ic_1 hx hb dX7_readWalker_228 ?_
                      refine lv_iadd hx hb dX7_readWalker_229 ?_
                      refine lv_topi (fun y_85 ey_85 => ?_)
                      have ty_85 : y_85.toInt = (G.1 2 10).toInt + 1 := xI_add rfl rfl ey_85 ((by first | exact ok_21 b_1.1 | omega)) ((by first | exact ok_427 b_1.2 | omega))
                      refine S_putI (ty := .int) (C := RX6) (T := TX6) (N := 17) hx hb hg iX6 tyX6 tyX6_ok nmX6 hown hK hW hS kd_2 rfl 10 (lt_b rfl) (hg (Cond.fieldLink RX7 138 "SlabWalk$Paving" "walkers" "I") m190) (fun _ h9 => h9) rfl (by decide +kernel) rfl rfl rfl dX7_readWalker_230 (fun G_86 H locs eG_86 hW hS => ?_)
                      have u_87 : (G_84.1 22 (G.1 2 10).toNatClampNeg).toInt = (G_36.1 5 9).toInt := by rw [show G_84.1 22 (G.1 2 10).toNatClampNeg = (G_36.1 5 9) from ((gp_ne eG_84 (fun q => absurd q.1 (Nat.ne_of_beq_eq_false rfl))).trans ((hq_81.ri9 22 rfl ((G.1 2 10).toNatClampNeg)).trans ((gp_ne eG_76 (fun q => absurd q.1 (Nat.ne_of_beq_eq_false rfl))).trans ((hq_71.ri9 22 rfl ((G.1 2 10).toNatClampNeg)).trans ((hq_62.ri9 22 rfl ((G.1 2 10).toNatClampNeg)).trans ((gp_ne eG_59 (fun q => absurd q.1 (Nat.ne_of_beq_eq_false rfl))).trans ((hq_54.ri9 22 rfl ((G.1 2 10).toNatClampNeg)).trans ((hq_45.ri9 22 rfl ((G.1 2 10).toNatClampNeg)).trans (gp_eq eG_42)))))))))]
                      have u_88 : (G_84.1 23 (G.1 2 10).toNatClampNeg).toInt = y_67.toInt := by rw [show G_84.1 23 (G.1 2 10).toNatClampNeg = y_67 from ((gp_ne eG_84 (fun q => absurd q.1 (Nat.ne_of_beq_eq_false rfl))).trans ((hq_81.ri9 23 rfl ((G.1 2 10).toNatClampNeg)).trans ((gp_ne eG_76 (fun q => absurd q.1 (Nat.ne_of_beq_eq_false rfl))).trans ((hq_71.ri9 23 rfl ((G.1 2 10).toNatClampNeg)).trans (ey_67.symm)))))]
                      have u_89 : (G_84.1 24 (G.1 2 10).toNatClampNeg).toInt = (G_70.1 5 9).toInt := by rw [show G_84.1 24 (G.1 2 10).toNatClampNeg = (G_70.1 5 9) from ((gp_ne eG_84 (fun q => absurd q.1 (Nat.ne_of_beq_eq_false rfl))).trans ((hq_81.ri9 24 rfl ((G.1 2 10).toNatClampNeg)).trans (gp_eq eG_76)))]
                      have hB_G_86 : Bd G_86 := hB_G_84.put (V := y_85.toInt) (lo := 0) (hi := 4) eG_86 rfl rfl rfl ((by first | exact ok_23 b_1.1 ty_85 | omega)) ((by first | (clear f_17 c_18 f_24 c_25 f_31 c_32 f_48 c_49 f_57 hp_55 c_58 f_65 c_66 f_83; omega) | omega)) (hB_G_84.2.walkers (P := 2) eG_86 (by decide) (inc_w (P := 2) (j := (G.1 2 10).toNatClampNeg) (fun h => hB_G_84.2.of2 h) (by rw [show G_84.1 2 10 = (G.1 2 10) from ((gp_ne eG_84 (fun q => absurd q.1 (Nat.ne_of_beq_eq_false rfl))).trans ((hq_81.i9 2 10 rfl rfl).trans ((gp_ne eG_76 (fun q => absurd q.1 (Nat.ne_of_beq_eq_false rfl))).trans ((hq_71.i9 2 10 rfl rfl).trans ((hq_62.i9 2 10 rfl rfl).trans ((gp_ne eG_59 (fun q => absurd q.1 (Nat.ne_of_beq_eq_false rfl))).trans ((hq_54.i9 2 10 rfl rfl).trans ((hq_45.i9 2 10 rfl rfl).trans ((gp_ne eG_42 (fun q => absurd q.1 (Nat.ne_of_beq_eq_false rfl))).trans ((hq_37.i9 2 10 rfl rfl).trans ((hq_28.i9 2 10 rfl rfl).trans ((hq_21.i9 2 10 rfl rfl).trans ((hq_14.i9 2 10 rfl rfl).trans ((hq_8.i9 2 10 rfl rfl).trans (rfl)))))))))))))))]; omega) (by rw [tN (by first | (clear f_17 c_18 f_24 c_25 f_31 c_32 f_48 c_49 f_65 c_66; omega) | omega), show G_84.1 2 10 = (G.1 2 10) from ((gp_ne eG_84 (fun q => absurd q.1 (Nat.ne_of_beq_eq_false rfl))).trans ((hq_81.i9 2 10 rfl rfl).trans ((gp_ne eG_76 (fun q => absurd q.1 (Nat.ne_of_beq_eq_false rfl))).trans ((hq_71.i9 2 10 rfl rfl).trans ((hq_62.i9 2 10 rfl rfl).trans ((gp_ne eG_59 (fun q => absurd q.1 (Nat.ne_of_beq_eq_false rfl))).trans ((hq_54.i9 2 10 rfl rfl).trans ((hq_45.i9 2 10 rfl rfl).trans ((gp_ne eG_42 (fun q => absurd q.1 (Nat.ne_of_beq_eq_false rfl))).trans ((hq_37.i9 2 10 rfl rfl).trans ((hq_28.i9 2 10 rfl rfl).trans ((hq_21.i9 2 10 rfl rfl).trans ((hq_14.i9 2 10 rfl rfl).trans ((hq_8.i9 2 10 rfl rfl).trans (rfl)))))))))))))))]) ⟨show 1 ≤ (G_84.1 22 (G.1 2 10).toNatClampNeg).toInt from by omega, show (G_84.1 23 (G.1 2 10).toNatClampNeg).toInt ≤ (G_84.1 24 (G.1 2 10).toNatClampNeg).toInt from by omega⟩))
                      have hF := hF.put eG_86 (Or.inr (by decide))
                      refine lv_aload_n hx hb dX7_readWalker_233 rfl (lv_at hl 1 rfl) ?_
                      refine S_getR (n := 3) (C := RX7) (T := TX7) (N := 10) hx hb hg iX7 hown hK hW kd_5 rfl 0 (lt_b rfl) (hg (Cond.fieldLink RX7 26 "SlabWalk$Reader" "tokens" "LSlabWalk$Tokens;") m311) (fun _ h9 => h9) rfl dX7_readWalker_234 ?_
                      refine lv_bipush (v := 59) hx hb dX7_readWalker_237 (by decide) ?_
                      refine S_calli (va_runV (As := [.int 59]) (rest := []) ⟨hx, hb, hml, hown, hts⟩ (k_tPass l D k A a z G_86 59 ) (cwV 1 hts (gd_V hgd m786 m787 m788 m120 m789) rfl rfl rfl hd_X9_pass ⟨Nat.le_of_ble_eq_true rfl, Nat.le_of_ble_eq_true rfl⟩) (pre_W hW hB_G_86 hK hZ hS kd_3 rfl) rfl rfl hl.1 rfl (lv_room (Nat.le_of_ble_eq_true rfl)) dX7_readWalker_239 ⟨Nat.le_of_ble_eq_true rfl, Nat.le_of_ble_eq_true rfl⟩) hS (fun r_90 G_91 H locs hpo hW hS => ?_)
                      have hX_94 : P_tPass 59 G_86 r_90 G_91 := hpo
                      obtain ⟨hB_G_91, hq_92, f_95, -⟩ := hpo
                      have hF := hF.call9 hq_92 rfl rfl
                      exact W.zret (v := r_90) hx hb hr (nar_z ((by first | exact f_95.1 | omega)) ((by first | exact f_95.2 | omega))) (fun t ht _ => ⟨⟨r_90, G_91, rfl, (P_rWalker_2_mk ⟨hB_G_91, hF, ⟨(by first | exact f_95.1 | omega), (by first | exact f_95.2 | omega)⟩, ⟨w_4, G_6, hX_9, f_10, f_11, hB_G_6, hq_8, ⟨r_12, G_13, hX_16, (Or.inr ⟨c_18, ⟨r_19, G_20, hX_23, (Or.inr ⟨c_25, ⟨r_26, G_27, hX_30, (Or.inr ⟨c_32, ⟨r_35, G_36, hX_39, (Or.inr ⟨c_41, ⟨G_42, hB_G_42, (Fr.put (rs := [22]) (fs := []) Fr.rf eG_42 (Or.inl (by decide))), rw_ast eG_42, ⟨r_43, G_44, hX_47, (Or.inr ⟨c_49, ⟨r_52, G_53, hX_56, (Or.inr ⟨c_58, ⟨G_59, hB_G_59, (Fr.put (rs := [23]) (fs := []) Fr.rf eG_59 (Or.inl (by decide))), rw_ast eG_59, ⟨r_60, G_61, hX_64, (Or.inr ⟨c_66, ⟨y_67, ey_67, ⟨r_69, G_70, hX_73, (Or.inr ⟨c_75, ⟨G_76, hB_G_76, (Fr.put (rs := [24]) (fs := []) Fr.rf eG_76 (Or.inl (by decide))), rw_ast eG_76, (Or.inr ⟨G_79, hX_82, f_83, hB_G_79, hq_81, ⟨y_85, ty_85, ⟨G_86, hB_G_86, (Fr.put (rs := [25]) (fs := [(2, 10)]) (Fr.put (rs := [25]) (fs := [(2, 10)]) Fr.rf eG_84 (Or.inl (by decide))) eG_86 (Or.inr (by decide))), (gp_eq eG_86), (rw_put eG_86 (by decide)).trans (rw_ast eG_84), ⟨r_90, G_91, hX_94, ⟨rfl, rfl⟩⟩⟩⟩⟩)⟩⟩)⟩⟩⟩)⟩⟩⟩)⟩⟩)⟩⟩⟩)⟩⟩)⟩⟩)⟩⟩)⟩⟩⟩), wd_t ht hW⟩, hS.F ht⟩) hS.2.2 dX7_readWalker_242
                    refine lv_icmp_ne (tgt := 207) hx hb dX7_readWalker_169 rfl (fun c_96 => ?_) (fun c_96 => ?_)
                    · have c_96 : (G_70.1 3 3).toInt ≠ 133 := xI_ne rfl rfl c_96
                      have g_97 : (G_76.1 5 9).toInt = (G_70.1 5 9).toInt := (congrArg Int32.toInt (show G_76.1 5 9 = (G_70.1 5 9) from ((gp_ne eG_76 (fun q => absurd q.1 (Nat.ne_of_beq_eq_false rfl))).trans (rfl))))
                      exact hJ_80 () _ _ _ ⟨G_76, ((by first | exact ⟨(by first | exact ok_428 ty_67.1 f_74.1 f_74.2 hp_72 c_75 g_97 | omega), (by first | exact ok_429 qc_51 f_74.1 f_74.2 hp_72 c_75 g_97 | omega)⟩ | omega)), (Jn_k_rWalker_2_2_mk (Or.inr ⟨c_96, rfl⟩)), hW, hB_G_76, hF, (Fr.rf (rs := []) (fs := [(3, 2), (3, 3), (3, 4), (3, 5), (3, 6), (3, 7), (3, 8), (5, 9)])), hS, lv_sub hl [0, 1] rfl⟩
                    · have c_96 : (G_70.1 3 3).toInt = 133 := xI_eq rfl rfl c_96
                      refine lv_aload_n hx hb dX7_readWalker_172 rfl (lv_at hl 1 rfl) ?_
                      refine S_getR (n := 3) (C := RX7) (T := TX7) (N := 10) hx hb hg iX7 hown hK hW kd_5 rfl 0 (lt_b rfl) (hg (Cond.fieldLink RX7 26 "SlabWalk$Reader" "tokens" "LSlabWalk$Tokens;") m311) (fun _ h9 => h9) rfl dX7_readWalker_173 ?_
                      refine lv_sipush (v := 133) hx hb dX7_readWalker_176 (by decide) ?_
                      refine S_calli (va_runV (As := [.int 133]) (rest := []) ⟨hx, hb, hml, hown, hts⟩ (k_tPass l D k A a z G_76 133 ) (cwV 1 hts (gd_V hgd m786 m787 m788 m120 m789) rfl rfl rfl hd_X9_pass ⟨Nat.le_of_ble_eq_true rfl, Nat.le_of_ble_eq_true rfl⟩) (pre_W hW hB_G_76 hK hZ hS kd_3 rfl) rfl rfl hl.1 rfl (lv_room (Nat.le_of_ble_eq_true rfl)) dX7_readWalker_179 ⟨Nat.le_of_ble_eq_true rfl, Nat.le_of_ble_eq_true rfl⟩) hS (fun r_98 G_99 H locs hpo hW hS => ?_)
                      have hX_102 : P_tPass 133 G_76 r_98 G_99 := hpo
                      obtain ⟨hB_G_99, hq_100, f_103, -⟩ := hpo
                      have hF := hF.call9 hq_100 rfl rfl
                      refine lv_if_eq (tgt := 205) hx hb dX7_readWalker_182 rfl (fun c_104 => ?_) (fun c_104 => ?_)
                      · have c_104 : r_98.toInt = 0 := xI_eq rfl rfl c_104
                        refine ic_0 hx hb dX7_readWalker_205 ?_
                        exact W.zret (v := 0) hx hb hr (by decide) (fun t ht _ => ⟨⟨0, G_99, rfl, (P_rWalker_2_mk ⟨hB_G_99, hF, ⟨by decide, by decide⟩, ⟨w_4, G_6, hX_9, f_10, f_11, hB_G_6, hq_8, ⟨r_12, G_13, hX_16, (Or.inr ⟨c_18, ⟨r_19, G_20, hX_23, (Or.inr ⟨c_25, ⟨r_26, G_27, hX_30, (Or.inr ⟨c_32, ⟨r_35, G_36, hX_39, (Or.inr ⟨c_41, ⟨G_42, hB_G_42, (Fr.put (rs := [22]) (fs := []) Fr.rf eG_42 (Or.inl (by decide))), rw_ast eG_42, ⟨r_43, G_44, hX_47, (Or.inr ⟨c_49, ⟨r_52, G_53, hX_56, (Or.inr ⟨c_58, ⟨G_59, hB_G_59, (Fr.put (rs := [23]) (fs := []) Fr.rf eG_59 (Or.inl (by decide))), rw_ast eG_59, ⟨r_60, G_61, hX_64, (Or.inr ⟨c_66, ⟨y_67, ey_67, ⟨r_69, G_70, hX_73, (Or.inr ⟨c_75, ⟨G_76, hB_G_76, (Fr.put (rs := [24]) (fs := []) Fr.rf eG_76 (Or.inl (by decide))), rw_ast eG_76, (Or.inl ⟨c_96, ⟨r_98, G_99, hX_102, (Or.inl ⟨c_104, ⟨rfl, rfl⟩⟩)⟩⟩)⟩⟩)⟩⟩⟩)⟩⟩⟩)⟩⟩)⟩⟩⟩)⟩⟩)⟩⟩)⟩⟩)⟩⟩⟩), wd_t ht hW⟩, hS.F ht⟩) hS.2.2 dX7_readWalker_206
                      · have c_104 : r_98.toInt ≠ 0 := xI_ne rfl rfl c_104
                        refine lv_aload_n hx hb dX7_readWalker_185 rfl (lv_at hl 1 rfl) ?_
                        refine lv_aload_n hx hb dX7_readWalker_186 rfl (lv_at hl 1 rfl) ?_
                        refine S_getV (n := 2) (C := RX7) (T := TX7) (N := 10) hx hb hg iX7 hown hK hW kd_5 rfl 5 (lt_b rfl) (hg (Cond.fieldLink RX7 39 "SlabWalk$Reader" "paving" "LSlabWalk$Paving;") m317) (fun _ h9 => h9) rfl ((((hq_100.r9 5 5 rfl rfl).trans ((congrFun (congrFun (congrArg (fun q => q.2.2) eG_76) 5) 5).trans ((hq_71.r9 5 5 rfl rfl).trans ((hq_62.r9 5 5 rfl rfl).trans ((congrFun (congrFun (congrArg (fun q => q.2.2) eG_59) 5) 5).trans ((hq_54.r9 5 5 rfl rfl).trans ((hq_45.r9 5 5 rfl rfl).trans ((congrFun (congrFun (congrArg (fun q => q.2.2) eG_42) 5) 5).trans ((hq_37.r9 5 5 rfl rfl).trans ((hq_28.r9 5 5 rfl rfl).trans ((hq_21.r9 5 5 rfl rfl).trans ((hq_14.r9 5 5 rfl rfl).trans (hq_8.r9 5 5 rfl rfl)))))))))))))).trans (hv_5_5)) dX7_readWalker_187 ?_
                        refine S_getR (n := 24) (C := RX6) (T := TX6) (N := 17) hx hb hg iX6 hown hK hW kd_2 rfl 4 (lt_b rfl) (hg (Cond.fieldLink RX7 147 "SlabWalk$Paving" "most" "[I") m172) (fun _ h9 => h9) rfl dX7_readWalker_190 ?_
                        refine lv_iload_n hx hb dX7_readWalker_193 rfl (lv_at hl 0 rfl) ?_
                        refine S_iald hx hb hK hW kd_24 (vin ((by first | exact b_1.1 | omega)) ((by first | (clear f_17 c_18 f_24 c_25 f_31 c_32 f_40 hp_38 c_41 f_48 c_49 f_57 hp_55 c_58 f_65 c_66 ty_67 f_74 hp_72 c_75 c_96 f_103 c_104; omega) | omega))) dX7_readWalker_194 (fun y_105 ey_105 => ?_)
                        have ty_105 : 0 ≤ y_105.toInt ∧ y_105.toInt ≤ 60 := bv_24 hB_G_99 ey_105
                        refine ic_1 hx hb dX7_readWalker_195 ?_
                        refine lv_iadd hx hb dX7_readWalker_196 ?_
                        refine lv_topi (fun y_106 ey_106 => ?_)
                        have ty_106 : y_106.toInt = y_105.toInt + 1 := xI_add rfl rfl ey_106 ((by first | exact ok_21 ty_105.1 | omega)) ((by first | exact ok_238 ty_105.2 | omega))
                        refine lv_bipush (v := 99) hx hb dX7_readWalker_197 (by decide) ?_
                        have qc_107 : (99 : Int32).toInt = 99 := rfl
                        refine S_calli (va_runV (As := [.int y_106, .int 99]) (rest := []) ⟨hx, hb, hml, hown, hts⟩ (k_rNum l D k A a z G_99 y_106 99 ) (cwV 2 hts (gd_V hgd m791 m793 m11 m119 m794) rfl rfl rfl hd_X7_passNumber ⟨Nat.le_of_ble_eq_true rfl, Nat.le_of_ble_eq_true rfl⟩) (pre_W hW hB_G_99 hK hZ hS kd_5 rfl) rfl rfl hl.1 rfl (lv_room (Nat.le_of_ble_eq_true rfl)) dX7_readWalker_199 ⟨Nat.le_of_ble_eq_true rfl, Nat.le_of_ble_eq_true rfl⟩) hS (fun r_108 G_109 H locs hpo hW hS => ?_)
                        have hX_112 : P_rNum y_106 99 G_99 r_108 G_109 := hpo
                        obtain ⟨hB_G_109, hq_110, f_113, hp_111, -⟩ := hpo
                        have hF := hF.call9 hq_110 rfl rfl
                        refine lv_if_ne (tgt := 207) hx hb dX7_readWalker_202 rfl (fun c_114 => ?_) (fun c_114 => ?_)
                        · have c_114 : r_108.toInt ≠ 0 := xI_ne rfl rfl c_114
                          exact hJ_80 () _ _ _ ⟨G_109, ((by first | exact ⟨(by first | exact ok_430 ty_105.1 ty_106 f_113.1 f_113.2 hp_111 c_114 | omega), (by first | exact ok_431 qc_107 f_113.1 f_113.2 hp_111 c_114 | omega)⟩ | omega)), (Jn_k_rWalker_2_2_mk (Or.inl ⟨c_96, ⟨r_98, G_99, hX_102, ⟨c_104, ⟨y_105, ey_105, ⟨y_106, ty_106, ⟨r_108, G_109, hX_112, ⟨c_114, rfl⟩⟩⟩⟩⟩⟩⟩)), hW, hB_G_109, hF, (Fr.call9 (rs := []) (fs := [(3, 2), (3, 3), (3, 4), (3, 5), (3, 6), (3, 7), (3, 8), (5, 9)]) (Fr.call9 (rs := []) (fs := [(3, 2), (3, 3), (3, 4), (3, 5), (3, 6), (3, 7), (3, 8), (5, 9)]) Fr.rf hq_100 rfl rfl) hq_110 rfl rfl), hS, lv_sub hl [0, 1] rfl⟩
                        · have c_114 : r_108.toInt = 0 := xI_eq rfl rfl c_114
                          refine ic_0 hx hb dX7_readWalker_205 ?_
                          exact W.zret (v := 0) hx hb hr (by decide) (fun t ht _ => ⟨⟨0, G_109, rfl, (P_rWalker_2_mk ⟨hB_G_109, hF, ⟨by decide, by decide⟩, ⟨w_4, G_6, hX_9, f_10, f_11, hB_G_6, hq_8, ⟨r_12, G_13, hX_16, (Or.inr ⟨c_18, ⟨r_19, G_20, hX_23, (Or.inr ⟨c_25, ⟨r_26, G_27, hX_30, (Or.inr ⟨c_32, ⟨r_35, G_36, hX_39, (Or.inr ⟨c_41, ⟨G_42, hB_G_42, (Fr.put (rs := [22]) (fs := []) Fr.rf eG_42 (Or.inl (by decide))), rw_ast eG_42, ⟨r_43, G_44, hX_47, (Or.inr ⟨c_49, ⟨r_52, G_53, hX_56, (Or.inr ⟨c_58, ⟨G_59, hB_G_59, (Fr.put (rs := [23]) (fs := []) Fr.rf eG_59 (Or.inl (by decide))), rw_ast eG_59, ⟨r_60, G_61, hX_64, (Or.inr ⟨c_66, ⟨y_67, ey_67, ⟨r_69, G_70, hX_73, (Or.inr ⟨c_75, ⟨G_76, hB_G_76, (Fr.put (rs := [24]) (fs := []) Fr.rf eG_76 (Or.inl (by decide))), rw_ast eG_76, (Or.inl ⟨c_96, ⟨r_98, G_99, hX_102, (Or.inr ⟨c_104, ⟨y_105, ey_105, ⟨y_106, ty_106, ⟨r_108, G_109, hX_112, ⟨c_114, ⟨rfl, rfl⟩⟩⟩⟩⟩⟩)⟩⟩)⟩⟩)⟩⟩⟩)⟩⟩⟩)⟩⟩)⟩⟩⟩)⟩⟩)⟩⟩)⟩⟩)⟩⟩⟩), wd_t ht hW⟩, hS.F ht⟩) hS.2.2 dX7_readWalker_206
                  · have c_75 : r_69.toInt = 0 := xI_eq rfl rfl c_75
                    refine ic_0 hx hb dX7_readWalker_144 ?_
                    exact W.zret (v := 0) hx hb hr (by decide) (fun t ht _ => ⟨⟨0, G_70, rfl, (P_rWalker_2_mk ⟨hB_G_70, hF, ⟨by decide, by decide⟩, ⟨w_4, G_6, hX_9, f_10, f_11, hB_G_6, hq_8, ⟨r_12, G_13, hX_16, (Or.inr ⟨c_18, ⟨r_19, G_20, hX_23, (Or.inr ⟨c_25, ⟨r_26, G_27, hX_30, (Or.inr ⟨c_32, ⟨r_35, G_36, hX_39, (Or.inr ⟨c_41, ⟨G_42, hB_G_42, (Fr.put (rs := [22]) (fs := []) Fr.rf eG_42 (Or.inl (by decide))), rw_ast eG_42, ⟨r_43, G_44, hX_47, (Or.inr ⟨c_49, ⟨r_52, G_53, hX_56, (Or.inr ⟨c_58, ⟨G_59, hB_G_59, (Fr.put (rs := [23]) (fs := []) Fr.rf eG_59 (Or.inl (by decide))), rw_ast eG_59, ⟨r_60, G_61, hX_64, (Or.inr ⟨c_66, ⟨y_67, ey_67, ⟨r_69, G_70, hX_73, (Or.inl ⟨c_75, ⟨rfl, rfl⟩⟩)⟩⟩⟩)⟩⟩⟩)⟩⟩)⟩⟩⟩)⟩⟩)⟩⟩)⟩⟩)⟩⟩⟩), wd_t ht hW⟩, hS.F ht⟩) hS.2.2 dX7_readWalker_145
              · have c_58 : r_52.toInt = 0 := xI_eq rfl rfl c_58
                refine ic_0 hx hb dX7_readWalker_98 ?_
                exact W.zret (v := 0) hx hb hr (by decide) (fun t ht _ => ⟨⟨0, G_53, rfl, (P_rWalker_2_mk ⟨hB_G_53, hF, ⟨by decide, by decide⟩, ⟨w_4, G_6, hX_9, f_10, f_11, hB_G_6, hq_8, ⟨r_12, G_13, hX_16, (Or.inr ⟨c_18, ⟨r_19, G_20, hX_23, (Or.inr ⟨c_25, ⟨r_26, G_27, hX_30, (Or.inr ⟨c_32, ⟨r_35, G_36, hX_39, (Or.inr ⟨c_41, ⟨G_42, hB_G_42, (Fr.put (rs := [22]) (fs := []) Fr.rf eG_42 (Or.inl (by decide))), rw_ast eG_42, ⟨r_43, G_44, hX_47, (Or.inr ⟨c_49, ⟨r_52, G_53, hX_56, (Or.inl ⟨c_58, ⟨rfl, rfl⟩⟩)⟩⟩)⟩⟩⟩)⟩⟩)⟩⟩)⟩⟩)⟩⟩⟩), wd_t ht hW⟩, hS.F ht⟩) hS.2.2 dX7_readWalker_99
          · have c_41 : r_35.toInt = 0 := xI_eq rfl rfl c_41
            refine ic_0 hx hb dX7_readWalker_60 ?_
            exact W.zret (v := 0) hx hb hr (by decide) (fun t ht _ => ⟨⟨0, G_36, rfl, (P_rWalker_2_mk ⟨hB_G_36, hF, ⟨by decide, by decide⟩, ⟨w_4, G_6, hX_9, f_10, f_11, hB_G_6, hq_8, ⟨r_12, G_13, hX_16, (Or.inr ⟨c_18, ⟨r_19, G_20, hX_23, (Or.inr ⟨c_25, ⟨r_26, G_27, hX_30, (Or.inr ⟨c_32, ⟨r_35, G_36, hX_39, (Or.inl ⟨c_41, ⟨rfl, rfl⟩⟩)⟩⟩)⟩⟩)⟩⟩)⟩⟩⟩), wd_t ht hW⟩, hS.F ht⟩) hS.2.2 dX7_readWalker_61
  refine lv_icmp_ge (tgt := 18) hx hb dX7_readWalker_11 rfl (fun c_115 => ?_) (fun c_115 => ?_)
  · have c_115 : 4 ≤ (G.1 2 10).toInt := xI_le rfl rfl c_115
    refine ic_0 hx hb dX7_readWalker_18 ?_
    have qc_116 : (0 : Int32).toInt = 0 := rfl
    exact hJ_7 0 _ _ _ ⟨G, ⟨(by decide), (by decide)⟩, ((by first | exact ok_432 | omega)), (Jn_k_rWalker_2_1_mk (Or.inl ⟨c_115, ⟨rfl, rfl⟩⟩)), hW, hB_G, hF, (Fr.rf (rs := []) (fs := [])), hS, lv_sub hl [0, 1] rfl⟩
  · have c_115 : (G.1 2 10).toInt < 4 := xI_nle rfl rfl c_115
    refine ic_1 hx hb dX7_readWalker_14 ?_
    refine lv_goto (tgt := 19) hx hb dX7_readWalker_15 rfl ?_
    have qc_117 : (1 : Int32).toInt = 1 := rfl
    exact hJ_7 1 _ _ _ ⟨G, ⟨(by decide), (by decide)⟩, ((by first | exact ok_433 b_1.2 c_115 | omega)), (Jn_k_rWalker_2_1_mk (Or.inr ⟨c_115, ⟨rfl, rfl⟩⟩)), hW, hB_G, hF, (Fr.rf (rs := []) (fs := [])), hS, lv_sub hl [0, 1] rfl⟩

set_option maxHeartbeats 4000000 in
set_option maxRecDepth 100000 in
theorem k_rRule_2 (l : Launch) (D : va_G) (k : KT) (A : Nat → Prop) (a : Nat → Nat) (z : SK) (G : GS)  (hv_5_5 : G.2.2 5 5 = 2) : Met l yX7_readRule (WS yX7_readRule cX7_readRule 1 (some .boolean)) ({ frames := 100, cells := 0, slots := 0, locals := 2150 }) (va_Pc [.ref (a 5)] (cW D k A a z G)) (va_Qi (fun (r : Int32) (G1 : GS) => P_rRule_2 G r G1) (fun (G1 : GS) t => Wd D k A a G1 t.heap) A) 0 0 A := by
  refine Met.ofW (cc := cX7_readRule) (maxL := 1) (ret := (some .boolean)) (by decide) rfl ?_
  intro p e s m args below meth c s₁ B hml hv
  obtain ⟨rfl, hW, hB_G, hK, hZ⟩ := hv
  have hx := B.exec
  have hb := B.bytes
  have hr := B.returns
  have hts := atoms_spec (ws := WS yX7_readRule cX7_readRule 1 (some .boolean)) B.pre
  have hgd : ∀ w ∈ gd, w ∈ WS yX7_readRule cX7_readRule 1 (some .boolean) := fun w h => List.mem_cons_of_mem _ h
  have hg : ∀ w ∈ gd, w.before _ s = true := fun w h => hts w (hgd w h)
  have hown : s.vm.findClass RX7 = some m.cls := findClass_of_methodNamed B.named
  have hS : va_S A s.heap s.heap [] := va_S.rf
  have hF : Fr [27, 28, 36] [(2, 11), (2, 12), (2, 13), (3, 2), (3, 3), (3, 4), (3, 5), (3, 6), (3, 7), (3, 8), (4, 1), (4, 2)] G G := Fr.rf
  have hl := lv_entry ([.ref (a 5)]) (n := 1) (Nat.le_of_ble_eq_true rfl)
  rw [lg_entry_eq]
  generalize (lg_sl ([.ref (a 5)]) ++ List.replicate (1 - (lg_sl ([.ref (a 5)])).length) Slot.unset).toArray = ls at hl ⊢
  have hl : lv_has ls 1 [(0, .ref (a 5))] := hl
  refine lv_aload_n hx hb dX7_readRule_0 rfl (lv_at hl 0 rfl) ?_
  refine lv_aload_n hx hb dX7_readRule_1 rfl (lv_at hl 0 rfl) ?_
  refine S_getV (n := 2) (C := RX7) (T := TX7) (N := 10) hx hb hg iX7 hown hK hW kd_5 rfl 5 (lt_b rfl) (hg (Cond.fieldLink RX7 39 "SlabWalk$Reader" "paving" "LSlabWalk$Paving;") m317) (fun _ h9 => h9) rfl hv_5_5 dX7_readRule_2 ?_
  have b_1 : 0 ≤ (G.1 2 11).toInt ∧ (G.1 2 11).toInt ≤ 6 := bd_2_11 hB_G
  refine S_getI (v := (G.1 2 11)) (C := RX6) (T := TX6) (N := 17) hx hb hg iX6 hown hK hW kd_2 rfl 11 (lt_b rfl) (hg (Cond.fieldLink RX7 153 "SlabWalk$Paving" "rules" "I") m194) (fun _ h9 => h9) rfl rfl dX7_readRule_5 ?_
  refine lv_bipush (v := 6) hx hb dX7_readRule_8 (by decide) ?_
  refine W.cut (σ := Int32) (pcJ := 18) (J := fun y H locs ls => ∃ (G_5 : GS), (0 ≤ y.toInt ∧ y.toInt ≤ 1) ∧ (y.toInt = 0 ∨ (G_5.1 2 11).toInt < 6) ∧ Jn_k_rRule_2_1 G y G_5 ∧ Wd D k A a G_5 H ∧ Bd G_5 ∧ Fr [27, 28, 36] [(2, 11), (2, 12), (2, 13), (3, 2), (3, 3), (3, 4), (3, 5), (3, 6), (3, 7), (3, 8), (4, 1), (4, 2)] G G_5 ∧ Fr [] [] G G_5 ∧ va_S A s.heap H locs ∧ lv_has ls 1 [(0, .ref (a 5))]) (stJ := fun y => [.int y, .ref (a 5)]) ?_ (fun hJ_6 => ?_)
  · intro y H locs ls hI
    obtain ⟨w_3, hy⟩ : ∃ q, q = y := ⟨_, rfl⟩
    subst hy
    obtain ⟨G_5, f_9, f_10, hX_8, hW, hB_G_5, hF, hq_7, hS, hl⟩ := hI
    have g_11 : (G_5.1 2 11).toInt = (G.1 2 11).toInt := (congrArg Int32.toInt (show G_5.1 2 11 = (G.1 2 11) from ((hq_7.i9 2 11 rfl rfl).trans (rfl))))
    refine S_calli (va_runV (As := [.int w_3]) (rest := []) ⟨hx, hb, hml, hown, hts⟩ (k_rFirst l D k A a z G_5 w_3 ⟨(by first | exact f_9.1 | omega), (by first | exact f_9.2 | omega)⟩) (cwV 1 hts (gd_V hgd m773 m775 m9 m119 m776) rfl rfl rfl hd_X7_passFirst ⟨Nat.le_of_ble_eq_true rfl, Nat.le_of_ble_eq_true rfl⟩) (pre_W hW hB_G_5 hK hZ hS kd_5 rfl) rfl rfl hl.1 rfl (lv_room (Nat.le_of_ble_eq_true rfl)) dX7_readRule_18 ⟨Nat.le_of_ble_eq_true rfl, Nat.le_of_ble_eq_true rfl⟩) hS (fun r_12 G_13 H locs hpo hW hS => ?_)
    have hX_16 : P_rFirst w_3 G_5 r_12 G_13 := hpo
    obtain ⟨hB_G_13, hq_14, f_17, hp_15, -⟩ := hpo
    have hF := hF.call9 hq_14 rfl rfl
    refine lv_if_eq (tgt := 42) hx hb dX7_readRule_21 rfl (fun c_18 => ?_) (fun c_18 => ?_)
    · have c_18 : r_12.toInt = 0 := xI_eq rfl rfl c_18
      refine ic_0 hx hb dX7_readRule_42 ?_
      exact W.zret (v := 0) hx hb hr (by decide) (fun t ht _ => ⟨⟨0, G_13, rfl, (P_rRule_2_mk ⟨hB_G_13, hF, ⟨by decide, by decide⟩, ⟨w_3, G_5, hX_8, f_9, f_10, hB_G_5, hq_7, ⟨r_12, G_13, hX_16, (Or.inl ⟨c_18, ⟨rfl, rfl⟩⟩)⟩⟩⟩), wd_t ht hW⟩, hS.F ht⟩) hS.2.2 dX7_readRule_43
    · have c_18 : r_12.toInt ≠ 0 := xI_ne rfl rfl c_18
      refine lv_aload_n hx hb dX7_readRule_24 rfl (lv_at hl 0 rfl) ?_
      refine lv_aload_n hx hb dX7_readRule_25 rfl (lv_at hl 0 rfl) ?_
      refine S_getR (n := 36) (C := RX7) (T := TX7) (N := 10) hx hb hg iX7 hown hK hW kd_5 rfl 4 (lt_b rfl) (hg (Cond.fieldLink RX7 18 "SlabWalk$Reader" "ruleNames" "[J") m316) (fun _ h9 => h9) rfl dX7_readRule_26 ?_
      refine lv_aload_n hx hb dX7_readRule_29 rfl (lv_at hl 0 rfl) ?_
      refine S_getV (n := 2) (C := RX7) (T := TX7) (N := 10) hx hb hg iX7 hown hK hW kd_5 rfl 5 (lt_b rfl) (hg (Cond.fieldLink RX7 39 "SlabWalk$Reader" "paving" "LSlabWalk$Paving;") m317) (fun _ h9 => h9) rfl ((((hq_14.r9 5 5 rfl rfl).trans (hq_7.r9 5 5 rfl rfl))).trans (hv_5_5)) dX7_readRule_30 ?_
      refine S_getI (v := (G.1 2 11)) (C := RX6) (T := TX6) (N := 17) hx hb hg iX6 hown hK hW kd_2 rfl 11 (lt_b rfl) (hg (Cond.fieldLink RX7 153 "SlabWalk$Paving" "rules" "I") m194) (fun _ h9 => h9) rfl ((hq_14.i9 2 11 rfl rfl).trans ((hq_7.i9 2 11 rfl rfl).trans (rfl))) dX7_readRule_33 ?_
      refine S_calli (va_runV (As := [.ref (a 36), .int (G.1 2 11)]) (rest := []) ⟨hx, hb, hml, hown, hts⟩ (k_rName_36 l D k A a z G_13 (G.1 2 11) ⟨(by first | exact b_1.1 | omega), (by first | exact b_1.2 | omega)⟩) (cwV 2 hts (gd_V hgd m782 m784 m10 m119 m785) rfl rfl rfl hd_X7_passName ⟨Nat.le_of_ble_eq_true rfl, Nat.le_of_ble_eq_true rfl⟩) (pre_W hW hB_G_13 hK hZ hS kd_5 rfl) rfl rfl hl.1 rfl (lv_room (Nat.le_of_ble_eq_true rfl)) dX7_readRule_36 ⟨Nat.le_of_ble_eq_true rfl, Nat.le_of_ble_eq_true rfl⟩) hS (fun r_19 G_20 H locs hpo hW hS => ?_)
      have hX_23 : P_rName_36 (G.1 2 11) G_13 r_19 G_20 := hpo
      obtain ⟨hB_G_20, hq_21, f_24, -⟩ := hpo
      have hF := hF.call9 hq_21 rfl rfl
      refine lv_if_ne (tgt := 44) hx hb dX7_readRule_39 rfl (fun c_25 => ?_) (fun c_25 => ?_)
      · have c_25 : r_19.toInt ≠ 0 := xI_ne rfl rfl c_25
        refine lv_aload_n hx hb dX7_readRule_44 rfl (lv_at hl 0 rfl) ?_
        refine S_getV (n := 2) (C := RX7) (T := TX7) (N := 10) hx hb hg iX7 hown hK hW kd_5 rfl 5 (lt_b rfl) (hg (Cond.fieldLink RX7 39 "SlabWalk$Reader" "paving" "LSlabWalk$Paving;") m317) (fun _ h9 => h9) rfl ((((hq_21.r9 5 5 rfl rfl).trans ((hq_14.r9 5 5 rfl rfl).trans (hq_7.r9 5 5 rfl rfl)))).trans (hv_5_5)) dX7_readRule_45 ?_
        refine S_getR (n := 28) (C := RX6) (T := TX6) (N := 17) hx hb hg iX6 hown hK hW kd_2 rfl 8 (lt_b rfl) (hg (Cond.fieldLink RX7 156 "SlabWalk$Paving" "codeEnd" "[I") m185) (fun _ h9 => h9) rfl dX7_readRule_48 ?_
        refine lv_aload_n hx hb dX7_readRule_51 rfl (lv_at hl 0 rfl) ?_
        refine S_getV (n := 2) (C := RX7) (T := TX7) (N := 10) hx hb hg iX7 hown hK hW kd_5 rfl 5 (lt_b rfl) (hg (Cond.fieldLink RX7 39 "SlabWalk$Reader" "paving" "LSlabWalk$Paving;") m317) (fun _ h9 => h9) rfl ((((hq_21.r9 5 5 rfl rfl).trans ((hq_14.r9 5 5 rfl rfl).trans (hq_7.r9 5 5 rfl rfl)))).trans (hv_5_5)) dX7_readRule_52 ?_
        refine S_getI (v := (G.1 2 11)) (C := RX6) (T := TX6) (N := 17) hx hb hg iX6 hown hK hW kd_2 rfl 11 (lt_b rfl) (hg (Cond.fieldLink RX7 153 "SlabWalk$Paving" "rules" "I") m194) (fun _ h9 => h9) rfl ((hq_21.i9 2 11 rfl rfl).trans ((hq_14.i9 2 11 rfl rfl).trans ((hq_7.i9 2 11 rfl rfl).trans (rfl)))) dX7_readRule_55 ?_
        refine lv_aload_n hx hb dX7_readRule_58 rfl (lv_at hl 0 rfl) ?_
        refine S_getV (n := 2) (C := RX7) (T := TX7) (N := 10) hx hb hg iX7 hown hK hW kd_5 rfl 5 (lt_b rfl) (hg (Cond.fieldLink RX7 39 "SlabWalk$Reader" "paving" "LSlabWalk$Paving;") m317) (fun _ h9 => h9) rfl ((((hq_21.r9 5 5 rfl rfl).trans ((hq_14.r9 5 5 rfl rfl).trans (hq_7.r9 5 5 rfl rfl)))).trans (hv_5_5)) dX7_readRule_59 ?_
        have b_26 : 0 ≤ (G.1 2 13).toInt ∧ (G.1 2 13).toInt ≤ 580 := bd_2_13 hB_G
        refine S_getI (v := (G.1 2 13)) (C := RX6) (T := TX6) (N := 17) hx hb hg iX6 hown hK hW kd_2 rfl 13 (lt_b rfl) (hg (Cond.fieldLink RX7 159 "SlabWalk$Paving" "coded" "I") m200) (fun _ h9 => h9) rfl ((hq_21.i9 2 13 rfl rfl).trans ((hq_14.i9 2 13 rfl rfl).trans (hq_7.i9 2 13 rfl rfl))) dX7_readRule_62 ?_
        refine S_iast hx hb hK hW hS kd_28 (vin ((by first | exact b_1.1 | omega)) ((by first | exact ok_434 b_1.2 | omega))) dX7_readRule_65 (fun G_27 H locs eG_27 hW hS => ?_)
        have hB_G_27 : Bd G_27 := hB_G_20.put (V := (G.1 2 13).toInt) (lo := 0) (hi := 580) eG_27 rfl rfl rfl ((by first | exact b_26.1 | omega)) ((by first | exact b_26.2 | omega)) (hB_G_20.2.put eG_27 rfl)
        have hF := hF.put eG_27 (Or.inl (by decide))
        refine lv_aload_n hx hb dX7_readRule_66 rfl (lv_at hl 0 rfl) ?_
        refine S_getR (n := 4) (C := RX7) (T := TX7) (N := 10) hx hb hg iX7 hown hK hW kd_5 rfl 1 (lt_b rfl) (hg (Cond.fieldLink RX7 35 "SlabWalk$Reader" "formulas" "LSlabWalk$Formulas;") m313) (fun _ h9 => h9) rfl dX7_readRule_67 ?_
        refine lv_aload_n hx hb dX7_readRule_70 rfl (lv_at hl 0 rfl) ?_
        refine S_getV (n := 2) (C := RX7) (T := TX7) (N := 10) hx hb hg iX7 hown hK hW kd_5 rfl 5 (lt_b rfl) (hg (Cond.fieldLink RX7 39 "SlabWalk$Reader" "paving" "LSlabWalk$Paving;") m317) (fun _ h9 => h9) rfl ((((congrFun (congrFun (congrArg (fun q => q.2.2) eG_27) 5) 5).trans ((hq_21.r9 5 5 rfl rfl).trans ((hq_14.r9 5 5 rfl rfl).trans (hq_7.r9 5 5 rfl rfl))))).trans (hv_5_5)) dX7_readRule_71 ?_
        refine S_calli (va_runV (As := [.ref (a 2)]) (rest := []) ⟨hx, hb, hml, hown, hts⟩ (k_fRead_2 l D k A a z G_27  ) (cwV 1 hts (gd_V hgd m817 m818 m819 m121 m820) rfl rfl rfl hd_X2_read ⟨Nat.le_of_ble_eq_true rfl, Nat.le_of_ble_eq_true rfl⟩) (pre_W hW hB_G_27 hK hZ hS kd_4 rfl) rfl rfl hl.1 rfl (lv_room (Nat.le_of_ble_eq_true rfl)) dX7_readRule_74 ⟨Nat.le_of_ble_eq_true rfl, Nat.le_of_ble_eq_true rfl⟩) hS (fun r_28 G_29 H locs hpo hW hS => ?_)
        have hX_32 : P_fRead_2 G_27 r_28 G_29 := hpo
        obtain ⟨hB_G_29, hq_30, f_33, -⟩ := hpo
        have hF := hF.call9 hq_30 rfl rfl
        refine lv_if_ne (tgt := 82) hx hb dX7_readRule_77 rfl (fun c_34 => ?_) (fun c_34 => ?_)
        · have c_34 : r_28.toInt ≠ 0 := xI_ne rfl rfl c_34
          refine lv_aload_n hx hb dX7_readRule_82 rfl (lv_at hl 0 rfl) ?_
          refine S_getV (n := 2) (C := RX7) (T := TX7) (N := 10) hx hb hg iX7 hown hK hW kd_5 rfl 5 (lt_b rfl) (hg (Cond.fieldLink RX7 39 "SlabWalk$Reader" "paving" "LSlabWalk$Paving;") m317) (fun _ h9 => h9) rfl ((((hq_30.r9 5 5 rfl rfl).trans ((congrFun (congrFun (congrArg (fun q => q.2.2) eG_27) 5) 5).trans ((hq_21.r9 5 5 rfl rfl).trans ((hq_14.r9 5 5 rfl rfl).trans (hq_7.r9 5 5 rfl rfl)))))).trans (hv_5_5)) dX7_readRule_83 ?_
          refine lv_dup hx hb dX7_readRule_86 rfl ?_
          refine S_getI (v := (G.1 2 11)) (C := RX6) (T := TX6) (N := 17) hx hb hg iX6 hown hK hW kd_2 rfl 11 (lt_b rfl) (hg (Cond.fieldLink RX7 153 "SlabWalk$Paving" "rules" "I") m194) (fun _ h9 => h9) rfl ((hq_30.i9 2 11 rfl rfl).trans ((gp_ne eG_27 (fun q => absurd q.1 (Nat.ne_of_beq_eq_false rfl))).trans ((hq_21.i9 2 11 rfl rfl).trans ((hq_14.i9 2 11 rfl rfl).trans ((hq_7.i9 2 11 rfl rfl).trans (rfl)))))) dX7_readRule_87 ?_
          refine ic_1 hx hb dX7_readRule_90 ?_
          refine lv_iadd hx hb dX7_readRule_91 ?_
          refine lv_topi (fun y_35 ey_35 => ?_)
          have ty_35 : y_35.toInt = (G.1 2 11).toInt + 1 := xI_add rfl rfl ey_35 ((by first | exact ok_21 b_1.1 | omega)) ((by first | exact ok_157 b_1.2 | omega))
          refine S_putI (ty := .int) (C := RX6) (T := TX6) (N := 17) hx hb hg iX6 tyX6 tyX6_ok nmX6 hown hK hW hS kd_2 rfl 11 (lt_b rfl) (hg (Cond.fieldLink RX7 153 "SlabWalk$Paving" "rules" "I") m194) (fun _ h9 => h9) rfl (by decide +kernel) rfl rfl rfl dX7_readRule_92 (fun G_36 H locs eG_36 hW hS => ?_)
          have hB_G_36 : Bd G_36 := hB_G_29.put (V := y_35.toInt) (lo := 0) (hi := 6) eG_36 rfl rfl rfl ((by first | exact ok_23 b_1.1 ty_35 | omega)) ((by first | (clear f_17 c_18 f_24 c_25 b_26 f_33 c_34; omega) | omega)) (hB_G_29.2.put eG_36 rfl)
          have hF := hF.put eG_36 (Or.inr (by decide))
          refine lv_aload_n hx hb dX7_readRule_95 rfl (lv_at hl 0 rfl) ?_
          refine S_getV (n := 2) (C := RX7) (T := TX7) (N := 10) hx hb hg iX7 hown hK hW kd_5 rfl 5 (lt_b rfl) (hg (Cond.fieldLink RX7 39 "SlabWalk$Reader" "paving" "LSlabWalk$Paving;") m317) (fun _ h9 => h9) rfl ((((congrFun (congrFun (congrArg (fun q => q.2.2) eG_36) 5) 5).trans ((hq_30.r9 5 5 rfl rfl).trans ((congrFun (congrFun (congrArg (fun q => q.2.2) eG_27) 5) 5).trans ((hq_21.r9 5 5 rfl rfl).trans ((hq_14.r9 5 5 rfl rfl).trans (hq_7.r9 5 5 rfl rfl))))))).trans (hv_5_5)) dX7_readRule_96 ?_
          refine S_getR (n := 28) (C := RX6) (T := TX6) (N := 17) hx hb hg iX6 hown hK hW kd_2 rfl 8 (lt_b rfl) (hg (Cond.fieldLink RX7 156 "SlabWalk$Paving" "codeEnd" "[I") m185) (fun _ h9 => h9) rfl dX7_readRule_99 ?_
          refine lv_aload_n hx hb dX7_readRule_102 rfl (lv_at hl 0 rfl) ?_
          refine S_getV (n := 2) (C := RX7) (T := TX7) (N := 10) hx hb hg iX7 hown hK hW kd_5 rfl 5 (lt_b rfl) (hg (Cond.fieldLink RX7 39 "SlabWalk$Reader" "paving" "LSlabWalk$Paving;") m317) (fun _ h9 => h9) rfl ((((congrFun (congrFun (congrArg (fun q => q.2.2) eG_36) 5) 5).trans ((hq_30.r9 5 5 rfl rfl).trans ((congrFun (congrFun (congrArg (fun q => q.2.2) eG_27) 5) 5).trans ((hq_21.r9 5 5 rfl rfl).trans ((hq_14.r9 5 5 rfl rfl).trans (hq_7.r9 5 5 rfl rfl))))))).trans (hv_5_5)) dX7_readRule_103 ?_
          refine S_getI (v := y_35) (C := RX6) (T := TX6) (N := 17) hx hb hg iX6 hown hK hW kd_2 rfl 11 (lt_b rfl) (hg (Cond.fieldLink RX7 153 "SlabWalk$Paving" "rules" "I") m194) (fun _ h9 => h9) rfl (gp_eq eG_36) dX7_readRule_106 ?_
          refine lv_aload_n hx hb dX7_readRule_109 rfl (lv_at hl 0 rfl) ?_
          refine S_getV (n := 2) (C := RX7) (T := TX7) (N := 10) hx hb hg iX7 hown hK hW kd_5 rfl 5 (lt_b rfl) (hg (Cond.fieldLink RX7 39 "SlabWalk$Reader" "paving" "LSlabWalk$Paving;") m317) (fun _ h9 => h9) rfl ((((congrFun (congrFun (congrArg (fun q => q.2.2) eG_36) 5) 5).trans ((hq_30.r9 5 5 rfl rfl).trans ((congrFun (congrFun (congrArg (fun q => q.2.2) eG_27) 5) 5).trans ((hq_21.r9 5 5 rfl rfl).trans ((hq_14.r9 5 5 rfl rfl).trans (hq_7.r9 5 5 rfl rfl))))))).trans (hv_5_5)) dX7_readRule_110 ?_
          have b_37 : 0 ≤ (G_29.1 2 13).toInt ∧ (G_29.1 2 13).toInt ≤ 580 := bd_2_13 hB_G_29
          refine S_getI (v := (G_29.1 2 13)) (C := RX6) (T := TX6) (N := 17) hx hb hg iX6 hown hK hW kd_2 rfl 13 (lt_b rfl) (hg (Cond.fieldLink RX7 159 "SlabWalk$Paving" "coded" "I") m200) (fun _ h9 => h9) rfl (gp_ne eG_36 (by decide)) dX7_readRule_113 ?_
          refine S_iast hx hb hK hW hS kd_28 (vin ((by first | exact ok_23 b_1.1 ty_35 | omega)) ((by first | (clear f_17 c_18 f_24 c_25 b_26 f_33 c_34 b_37; omega) | omega))) dX7_readRule_116 (fun G_38 H locs eG_38 hW hS => ?_)
          have hB_G_38 : Bd G_38 := hB_G_36.put (V := (G_29.1 2 13).toInt) (lo := 0) (hi := 580) eG_38 rfl rfl rfl ((by first | exact b_37.1 | omega)) ((by first | exact b_37.2 | omega)) (hB_G_36.2.put eG_38 rfl)
          have hF := hF.put eG_38 (Or.inl (by decide))
          refine lv_aload_n hx hb dX7_readRule_117 rfl (lv_at hl 0 rfl) ?_
          refine S_getR (n := 3) (C := RX7) (T := TX7) (N := 10) hx hb hg iX7 hown hK hW kd_5 rfl 0 (lt_b rfl) (hg (Cond.fieldLink RX7 26 "SlabWalk$Reader" "tokens" "LSlabWalk$Tokens;") m311) (fun _ h9 => h9) rfl dX7_readRule_118 ?_
          refine lv_bipush (v := 59) hx hb dX7_readRule_121 (by decide) ?_
          refine S_calli (va_runV (As := [.int 59]) (rest := []) ⟨hx, hb, hml, hown, hts⟩ (k_tPass l D k A a z G_38 59 ) (cwV 1 hts (gd_V hgd m786 m787 m788 m120 m789) rfl rfl rfl hd_X9_pass ⟨Nat.le_of_ble_eq_true rfl, Nat.le_of_ble_eq_true rfl⟩) (pre_W hW hB_G_38 hK hZ hS kd_3 rfl) rfl rfl hl.1 rfl (lv_room (Nat.le_of_ble_eq_true rfl)) dX7_readRule_123 ⟨Nat.le_of_ble_eq_true rfl, Nat.le_of_ble_eq_true rfl⟩) hS (fun r_39 G_40 H locs hpo hW hS => ?_)
          have hX_43 : P_tPass 59 G_38 r_39 G_40 := hpo
          obtain ⟨hB_G_40, hq_41, f_44, -⟩ := hpo
          have hF := hF.call9 hq_41 rfl rfl
          exact W.zret (v := r_39) hx hb hr (nar_z ((by first | exact f_44.1 | omega)) ((by first | exact f_44.2 | omega))) (fun t ht _ => ⟨⟨r_39, G_40, rfl, (P_rRule_2_mk ⟨hB_G_40, hF, ⟨(by first | exact f_44.1 | omega), (by first | exact f_44.2 | omega)⟩, ⟨w_3, G_5, hX_8, f_9, f_10, hB_G_5, hq_7, ⟨r_12, G_13, hX_16, (Or.inr ⟨c_18, ⟨r_19, G_20, hX_23, (Or.inr ⟨c_25, ⟨G_27, hB_G_27, (Fr.put (rs := [28]) (fs := []) Fr.rf eG_27 (Or.inl (by decide))), rw_ast eG_27, ⟨r_28, G_29, hX_32, (Or.inr ⟨c_34, ⟨y_35, ty_35, ⟨G_38, hB_G_38, (Fr.put (rs := [28]) (fs := [(2, 11)]) (Fr.put (rs := [28]) (fs := [(2, 11)]) Fr.rf eG_36 (Or.inr (by decide))) eG_38 (Or.inl (by decide))), ((gp_ne eG_38 (fun q => absurd q.1 (Nat.ne_of_beq_eq_false rfl))).trans (gp_eq eG_36)), (rw_ast eG_38).trans (congrArg (fun q => upd q (y_35.toNatClampNeg) (G_29.1 2 13)) (rw_put eG_36 (by decide))), ⟨r_39, G_40, hX_43, ⟨rfl, rfl⟩⟩⟩⟩⟩)⟩⟩⟩)⟩⟩)⟩⟩⟩), wd_t ht hW⟩, hS.F ht⟩) hS.2.2 dX7_readRule_126
        · have c_34 : r_28.toInt = 0 := xI_eq rfl rfl c_34
          refine ic_0 hx hb dX7_readRule_80 ?_
          exact W.zret (v := 0) hx hb hr (by decide) (fun t ht _ => ⟨⟨0, G_29, rfl, (P_rRule_2_mk ⟨hB_G_29, hF, ⟨by decide, by decide⟩, ⟨w_3, G_5, hX_8, f_9, f_10, hB_G_5, hq_7, ⟨r_12, G_13, hX_16, (Or.inr ⟨c_18, ⟨r_19, G_20, hX_23, (Or.inr ⟨c_25, ⟨G_27, hB_G_27, (Fr.put (rs := [28]) (fs := []) Fr.rf eG_27 (Or.inl (by decide))), rw_ast eG_27, ⟨r_28, G_29, hX_32, (Or.inl ⟨c_34, ⟨rfl, rfl⟩⟩)⟩⟩⟩)⟩⟩)⟩⟩⟩), wd_t ht hW⟩, hS.F ht⟩) hS.2.2 dX7_readRule_81
      · have c_25 : r_19.toInt = 0 := xI_eq rfl rfl c_25
        refine ic_0 hx hb dX7_readRule_42 ?_
        exact W.zret (v := 0) hx hb hr (by decide) (fun t ht _ => ⟨⟨0, G_20, rfl, (P_rRule_2_mk ⟨hB_G_20, hF, ⟨by decide, by decide⟩, ⟨w_3, G_5, hX_8, f_9, f_10, hB_G_5, hq_7, ⟨r_12, G_13, hX_16, (Or.inr ⟨c_18, ⟨r_19, G_20, hX_23, (Or.inl ⟨c_25, ⟨rfl, rfl⟩⟩)⟩⟩)⟩⟩⟩), wd_t ht hW⟩, hS.F ht⟩) hS.2.2 dX7_readRule_43
  refine lv_icmp_ge (tgt := 17) hx hb dX7_readRule_10 rfl (fun c_45 => ?_) (fun c_45 => ?_)
  · have c_45 : 6 ≤ (G.1 2 11).toInt := xI_le rfl rfl c_45
    refine ic_0 hx hb dX7_readRule_17 ?_
    have qc_46 : (0 : Int32).toInt = 0 := rfl
    exact hJ_6 0 _ _ _ ⟨G, ⟨(by decide), (by decide)⟩, ((by first | exact ok_435 | omega)), (Jn_k_rRule_2_1_mk (Or.inl ⟨c_45, ⟨rfl, rfl⟩⟩)), hW, hB_G, hF, (Fr.rf (rs := []) (fs := [])), hS, lv_sub hl [0] rfl⟩
  · have c_45 : (G.1 2 11).toInt < 6 := xI_nle rfl rfl c_45
    refine ic_1 hx hb dX7_readRule_13 ?_
    refine lv_goto (tgt := 18) hx hb dX7_readRule_14 rfl ?_
    have qc_47 : (1 : Int32).toInt = 1 := rfl
    exact hJ_6 1 _ _ _ ⟨G, ⟨(by decide), (by decide)⟩, ((by first | exact ok_436 b_1.2 c_45 | omega)), (Jn_k_rRule_2_1_mk (Or.inr ⟨c_45, ⟨rfl, rfl⟩⟩)), hW, hB_G, hF, (Fr.rf (rs := []) (fs := [])), hS, lv_sub hl [0] rfl⟩

set_option maxHeartbeats 4000000 in
set_option maxRecDepth 100000 in
theorem k_rSlip_2 (l : Launch) (D : va_G) (k : KT) (A : Nat → Prop) (a : Nat → Nat) (z : SK) (G : GS)  (hv_5_5 : G.2.2 5 5 = 2) : Met l yX7_readSlip (WS yX7_readSlip cX7_readSlip 3 (some .boolean)) ({ frames := 8, cells := 0, slots := 0, locals := 170 }) (va_Pc [.ref (a 5)] (cW D k A a z G)) (va_Qi (fun (r : Int32) (G1 : GS) => P_rSlip_2 G r G1) (fun (G1 : GS) t => Wd D k A a G1 t.heap) A) 0 0 A := by
  refine Met.ofW (cc := cX7_readSlip) (maxL := 3) (ret := (some .boolean)) (by decide) rfl ?_
  intro p e s m args below meth c s₁ B hml hv
  obtain ⟨rfl, hW, hB_G, hK, hZ⟩ := hv
  have hx := B.exec
  have hb := B.bytes
  have hr := B.returns
  have hts := atoms_spec (ws := WS yX7_readSlip cX7_readSlip 3 (some .boolean)) B.pre
  have hgd : ∀ w ∈ gd, w ∈ WS yX7_readSlip cX7_readSlip 3 (some .boolean) := fun w h => List.mem_cons_of_mem _ h
  have hg : ∀ w ∈ gd, w.before _ s = true := fun w h => hts w (hgd w h)
  have hown : s.vm.findClass RX7 = some m.cls := findClass_of_methodNamed B.named
  have hS : va_S A s.heap s.heap [] := va_S.rf
  have hF : Fr [26] [(3, 2), (3, 3), (3, 4), (3, 5), (3, 6), (3, 7), (3, 8), (5, 6), (5, 9)] G G := Fr.rf
  have hl := lv_entry ([.ref (a 5)]) (n := 3) (Nat.le_of_ble_eq_true rfl)
  rw [lg_entry_eq]
  generalize (lg_sl ([.ref (a 5)]) ++ List.replicate (3 - (lg_sl ([.ref (a 5)])).length) Slot.unset).toArray = ls at hl ⊢
  have hl : lv_has ls 3 [(0, .ref (a 5))] := hl
  refine lv_aload_n hx hb dX7_readSlip_0 rfl (lv_at hl 0 rfl) ?_
  refine lv_aload_n hx hb dX7_readSlip_1 rfl (lv_at hl 0 rfl) ?_
  have b_1 : 0 ≤ (G.1 5 6).toInt ∧ (G.1 5 6).toInt ≤ 1 := bd_5_6 hB_G
  refine S_getI (v := (G.1 5 6)) (C := RX7) (T := TX7) (N := 10) hx hb hg iX7 hown hK hW kd_5 rfl 6 (lt_b rfl) (hg (Cond.fieldLink RX7 48 "SlabWalk$Reader" "slipTold" "Z") m318) (fun _ h9 => h9) rfl rfl dX7_readSlip_2 ?_
  refine W.cut (σ := Int32) (pcJ := 13) (J := fun y H locs ls => ∃ (G_5 : GS), (0 ≤ y.toInt ∧ y.toInt ≤ 1) ∧ Jn_k_rSlip_2_1 G y G_5 ∧ Wd D k A a G_5 H ∧ Bd G_5 ∧ Fr [26] [(3, 2), (3, 3), (3, 4), (3, 5), (3, 6), (3, 7), (3, 8), (5, 6), (5, 9)] G G_5 ∧ Fr [] [] G G_5 ∧ va_S A s.heap H locs ∧ lv_has ls 3 [(0, .ref (a 5))]) (stJ := fun y => [.int y, .ref (a 5)]) ?_ (fun hJ_6 => ?_)
  · intro y H locs ls hI
    obtain ⟨w_3, hy⟩ : ∃ q, q = y := ⟨_, rfl⟩
    subst hy
    obtain ⟨G_5, f_9, hX_8, hW, hB_G_5, hF, hq_7, hS, hl⟩ := hI
    refine S_calli (va_runV (As := [.int w_3]) (rest := []) ⟨hx, hb, hml, hown, hts⟩ (k_rFirst l D k A a z G_5 w_3 ⟨(by first | exact f_9.1 | omega), (by first | exact f_9.2 | omega)⟩) (cwV 1 hts (gd_V hgd m773 m775 m9 m119 m776) rfl rfl rfl hd_X7_passFirst ⟨Nat.le_of_ble_eq_true rfl, Nat.le_of_ble_eq_true rfl⟩) (pre_W hW hB_G_5 hK hZ hS kd_5 rfl) rfl rfl hl.1 rfl (lv_room (Nat.le_of_ble_eq_true rfl)) dX7_readSlip_13 ⟨Nat.le_of_ble_eq_true rfl, Nat.le_of_ble_eq_true rfl⟩) hS (fun r_10 G_11 H locs hpo hW hS => ?_)
    have hX_14 : P_rFirst w_3 G_5 r_10 G_11 := hpo
    obtain ⟨hB_G_11, hq_12, f_15, hp_13, -⟩ := hpo
    have hF := hF.call9 hq_12 rfl rfl
    refine lv_if_ne (tgt := 21) hx hb dX7_readSlip_16 rfl (fun c_16 => ?_) (fun c_16 => ?_)
    · have c_16 : r_10.toInt ≠ 0 := xI_ne rfl rfl c_16
      refine lv_aload_n hx hb dX7_readSlip_21 rfl (lv_at hl 0 rfl) ?_
      refine ic_1 hx hb dX7_readSlip_22 ?_
      refine S_putI (ty := .boolean) (C := RX7) (T := TX7) (N := 10) hx hb hg iX7 tyX7 tyX7_ok nmX7 hown hK hW hS kd_5 rfl 6 (lt_b rfl) (hg (Cond.fieldLink RX7 48 "SlabWalk$Reader" "slipTold" "Z") m318) (fun _ h9 => h9) rfl (by decide +kernel) (by decide) rfl rfl dX7_readSlip_23 (fun G_17 H locs eG_17 hW hS => ?_)
      have hB_G_17 : Bd G_17 := hB_G_11.put (V := 1) (lo := 0) (hi := 1) eG_17 rfl rfl rfl (by decide) (by decide) (hB_G_11.2.put eG_17 rfl)
      have hF := hF.put eG_17 (Or.inr (by decide))
      refine ic_0 hx hb dX7_readSlip_26 ?_
      refine lv_istore_n (lv' := [(1, .int 0), (0, .ref (a 5))]) hx hb dX7_readSlip_27 rfl hl (lt_b rfl) rfl (fun ls hl => ?_)
      refine ic_0 hx hb dX7_readSlip_28 ?_
      refine lv_istore_n (lv' := [(2, .int 0), (1, .int 0), (0, .ref (a 5))]) hx hb dX7_readSlip_29 rfl hl (lt_b rfl) rfl (fun ls hl => ?_)
      have qc_25 : (0 : Int32).toInt = 0 := rfl
      refine loop_N (Inv := fun n H locs ls => ∃ (G_18 : GS) (x_22 : Int32) (x_23 : Int32), (n : Int) = 3 - x_22.toInt ∧ (0 ≤ x_22.toInt ∧ x_22.toInt ≤ 3) ∧ (0 ≤ x_23.toInt ∧ x_23.toInt ≤ 27) ∧ (x_23.toInt ≤ 9 * x_22.toInt) ∧ Rc (St_k_rSlip_2_2) (0, 0, G_17) (x_22, x_23, G_18) ∧ Wd D k A a G_18 H ∧ Bd G_18 ∧ Fr [26] [(3, 2), (3, 3), (3, 4), (3, 5), (3, 6), (3, 7), (3, 8), (5, 6), (5, 9)] G G_18 ∧ Fr [26] [(3, 2), (3, 3), (3, 4), (3, 5), (3, 6), (3, 7), (3, 8), (5, 9)] G_17 G_18 ∧ va_S A s.heap H locs ∧ lv_has ls 3 [(2, .int x_22), (1, .int x_23), (0, .ref (a 5))]) (fun n_21 H locs ls ih_20 hI => ?_) (3 - 0 : Int).toNat ⟨G_17, 0, 0, (Int.toNat_of_nonneg ((by decide))), ⟨(by decide), (by decide)⟩, ⟨(by decide), (by decide)⟩, ((by decide)), Rc.rf, hW, hB_G_17, hF, Fr.rf, hS, lv_sub hl [0, 1, 2] rfl⟩
      obtain ⟨G_18, x_22, x_23, hn_29, f_26, f_27, f_28, hX_24, hW, hB_G_18, hF, hq_19, hS, hl⟩ := hI
      refine lv_iload_n hx hb dX7_readSlip_30 rfl (lv_at hl 0 rfl) ?_
      refine ic_3 hx hb dX7_readSlip_31 ?_
      refine lv_icmp_ge (tgt := 86) hx hb dX7_readSlip_32 rfl (fun c_30 => ?_) (fun c_30 => ?_)
      · have c_30 : 3 ≤ x_22.toInt := xI_le rfl rfl c_30
        refine lv_aload_n hx hb dX7_readSlip_86 rfl (lv_at hl 2 rfl) ?_
        refine S_getR (n := 3) (C := RX7) (T := TX7) (N := 10) hx hb hg iX7 hown hK hW kd_5 rfl 0 (lt_b rfl) (hg (Cond.fieldLink RX7 26 "SlabWalk$Reader" "tokens" "LSlabWalk$Tokens;") m311) (fun _ h9 => h9) rfl dX7_readSlip_87 ?_
        refine lv_bipush (v := 59) hx hb dX7_readSlip_90 (by decide) ?_
        refine S_calli (va_runV (As := [.int 59]) (rest := []) ⟨hx, hb, hml, hown, hts⟩ (k_tPass l D k A a z G_18 59 ) (cwV 1 hts (gd_V hgd m786 m787 m788 m120 m789) rfl rfl rfl hd_X9_pass ⟨Nat.le_of_ble_eq_true rfl, Nat.le_of_ble_eq_true rfl⟩) (pre_W hW hB_G_18 hK hZ hS kd_3 rfl) rfl rfl hl.1 rfl (lv_room (Nat.le_of_ble_eq_true rfl)) dX7_readSlip_92 ⟨Nat.le_of_ble_eq_true rfl, Nat.le_of_ble_eq_true rfl⟩) hS (fun r_31 G_32 H locs hpo hW hS => ?_)
        have hX_35 : P_tPass 59 G_18 r_31 G_32 := hpo
        obtain ⟨hB_G_32, hq_33, f_36, -⟩ := hpo
        have hF := hF.call9 hq_33 rfl rfl
        exact W.zret (v := r_31) hx hb hr (nar_z ((by first | exact f_36.1 | omega)) ((by first | exact f_36.2 | omega))) (fun t ht _ => ⟨⟨r_31, G_32, rfl, (P_rSlip_2_mk ⟨hB_G_32, hF, ⟨(by first | exact f_36.1 | omega), (by first | exact f_36.2 | omega)⟩, ⟨w_3, G_5, hX_8, f_9, hB_G_5, hq_7, ⟨r_10, G_11, hX_14, (Or.inr ⟨c_16, ⟨G_17, hB_G_17, (Fr.put (rs := []) (fs := [(5, 6)]) Fr.rf eG_17 (Or.inr (by decide))), (gp_eq eG_17), ⟨x_22, x_23, G_18, hX_24, f_26, f_27, f_28, hB_G_18, hq_19, (Or.inl ⟨c_30, ⟨r_31, G_32, hX_35, ⟨rfl, rfl⟩⟩⟩)⟩⟩⟩)⟩⟩⟩), wd_t ht hW⟩, hS.F ht⟩) hS.2.2 dX7_readSlip_95
      · have c_30 : x_22.toInt < 3 := xI_nle rfl rfl c_30
        refine lv_aload_n hx hb dX7_readSlip_35 rfl (lv_at hl 2 rfl) ?_
        refine lv_iload_n hx hb dX7_readSlip_36 rfl (lv_at hl 0 rfl) ?_
        refine ic_2 hx hb dX7_readSlip_37 ?_
        refine W.cut (σ := Unit) (pcJ := 49) (J := fun y H locs ls => ∃ (G_41 : GS), Jn_k_rSlip_2_3 x_22 x_23 G_18 G_41 ∧ Wd D k A a G_41 H ∧ Bd G_41 ∧ Fr [26] [(3, 2), (3, 3), (3, 4), (3, 5), (3, 6), (3, 7), (3, 8), (5, 6), (5, 9)] G G_41 ∧ Fr [] [] G_18 G_41 ∧ va_S A s.heap H locs ∧ lv_has ls 3 [(2, .int x_22), (1, .int x_23), (0, .ref (a 5))]) (stJ := fun _ => [.ref (a 5)]) ?_ (fun hJ_42 => ?_)
        · intro y H locs ls hI
          obtain ⟨G_41, hX_44, hW, hB_G_41, hF, hq_43, hS, hl⟩ := hI
          refine ic_0 hx hb dX7_readSlip_49 ?_
          refine lv_bipush (v := 9) hx hb dX7_readSlip_50 (by decide) ?_
          have qc_45 : (0 : Int32).toInt = 0 := rfl
          have qc_46 : (9 : Int32).toInt = 9 := rfl
          refine S_calli (va_runV (As := [.int 0, .int 9]) (rest := []) ⟨hx, hb, hml, hown, hts⟩ (k_rNum l D k A a z G_41 0 9 ) (cwV 2 hts (gd_V hgd m791 m793 m11 m119 m794) rfl rfl rfl hd_X7_passNumber ⟨Nat.le_of_ble_eq_true rfl, Nat.le_of_ble_eq_true rfl⟩) (pre_W hW hB_G_41 hK hZ hS kd_5 rfl) rfl rfl hl.1 rfl (lv_room (Nat.le_of_ble_eq_true rfl)) dX7_readSlip_52 ⟨Nat.le_of_ble_eq_true rfl, Nat.le_of_ble_eq_true rfl⟩) hS (fun r_47 G_48 H locs hpo hW hS => ?_)
          have hX_51 : P_rNum 0 9 G_41 r_47 G_48 := hpo
          obtain ⟨hB_G_48, hq_49, f_52, hp_50, -⟩ := hpo
          have hF := hF.call9 hq_49 rfl rfl
          refine lv_if_ne (tgt := 60) hx hb dX7_readSlip_55 rfl (fun c_53 => ?_) (fun c_53 => ?_)
          · have c_53 : r_47.toInt ≠ 0 := xI_ne rfl rfl c_53
            refine lv_aload_n hx hb dX7_readSlip_60 rfl (lv_at hl 2 rfl) ?_
            refine S_getV (n := 2) (C := RX7) (T := TX7) (N := 10) hx hb hg iX7 hown hK hW kd_5 rfl 5 (lt_b rfl) (hg (Cond.fieldLink RX7 39 "SlabWalk$Reader" "paving" "LSlabWalk$Paving;") m317) (fun _ h9 => h9) rfl ((((hq_49.r9 5 5 rfl rfl).trans ((hq_43.r9 5 5 rfl rfl).trans ((hq_19.r9 5 5 rfl rfl).trans ((congrFun (congrFun (congrArg (fun q => q.2.2) eG_17) 5) 5).trans ((hq_12.r9 5 5 rfl rfl).trans (hq_7.r9 5 5 rfl rfl))))))).trans (hv_5_5)) dX7_readSlip_61 ?_
            refine S_getR (n := 26) (C := RX6) (T := TX6) (N := 17) hx hb hg iX6 hown hK hW kd_2 rfl 6 (lt_b rfl) (hg (Cond.fieldLink RX7 166 "SlabWalk$Paving" "slip" "[I") m179) (fun _ h9 => h9) rfl dX7_readSlip_64 ?_
            refine lv_iload_n hx hb dX7_readSlip_67 rfl (lv_at hl 0 rfl) ?_
            refine lv_aload_n hx hb dX7_readSlip_68 rfl (lv_at hl 2 rfl) ?_
            refine S_getI (v := (G_48.1 5 9)) (C := RX7) (T := TX7) (N := 10) hx hb hg iX7 hown hK hW kd_5 rfl 9 (lt_b rfl) (hg (Cond.fieldLink RX7 99 "SlabWalk$Reader" "number" "I") m321) (fun _ h9 => h9) rfl rfl dX7_readSlip_69 ?_
            refine S_iast hx hb hK hW hS kd_26 (vin ((by first | exact f_26.1 | omega)) ((by first | exact ok_390 c_30 | omega))) dX7_readSlip_72 (fun G_54 H locs eG_54 hW hS => ?_)
            have hB_G_54 : Bd G_54 := hB_G_48.put (V := (G_48.1 5 9).toInt) (lo := 0) (hi := 9) eG_54 rfl rfl rfl ((by first | exact ok_415 qc_25 f_52.1 f_52.2 hp_50 c_53 | omega)) ((by first | exact ok_416 qc_46 f_52.1 f_52.2 hp_50 c_53 | omega)) (hB_G_48.2.put eG_54 rfl)
            have hF := hF.put eG_54 (Or.inl (by decide))
            refine lv_iload_n hx hb dX7_readSlip_73 rfl (lv_at hl 1 rfl) ?_
            refine lv_aload_n hx hb dX7_readSlip_74 rfl (lv_at hl 2 rfl) ?_
            refine S_getI (v := (G_48.1 5 9)) (C := RX7) (T := TX7) (N := 10) hx hb hg iX7 hown hK hW kd_5 rfl 9 (lt_b rfl) (hg (Cond.fieldLink RX7 99 "SlabWalk$Reader" "number" "I") m321) (fun _ h9 => h9) rfl ((gp_ne eG_54 (fun q => absurd q.1 (Nat.ne_of_beq_eq_false rfl))).trans (rfl)) dX7_readSlip_75 ?_
            refine lv_iadd hx hb dX7_readSlip_78 ?_
            refine lv_topi (fun y_55 ey_55 => ?_)
            have ty_55 : y_55.toInt = x_23.toInt + (G_48.1 5 9).toInt := xI_add rfl rfl ey_55 ((by first | exact ok_437 qc_25 f_27.1 f_52.1 f_52.2 hp_50 c_53 | omega)) ((by first | exact ok_438 f_27.2 qc_46 f_52.1 f_52.2 hp_50 c_53 | omega))
            refine lv_istore_n (lv' := [(1, .int y_55), (2, .int x_22), (0, .ref (a 5))]) hx hb dX7_readSlip_79 rfl hl (lt_b rfl) rfl (fun ls hl => ?_)
            obtain ⟨y_56, ey_56⟩ : ∃ q, q = x_22 + 1 := ⟨_, rfl⟩
            have ty_56 : y_56.toInt = x_22.toInt + 1 := xI_add rfl rfl ey_56 ((by first | exact ok_439 f_27.1 f_28 | omega)) ((by first | exact ok_440 c_30 | omega))
            refine lv_iinc (v := y_56) (lv' := [(2, .int y_56), (1, .int y_55), (0, .ref (a 5))]) hx hb dX7_readSlip_80 hl (k := 1) rfl (by rw [ey_56]; rfl) (lt_b rfl) rfl (fun ls hl => ?_)
            refine lv_goto (tgt := 30) hx hb dX7_readSlip_83 rfl ?_
            exact ih_20 (3 - y_56.toInt : Int).toNat ((by first | (clear b_1 f_9 f_15 hp_13 c_16 f_52 c_53; omega) | omega)) _ _ _ ⟨G_54, y_56, y_55, (Int.toNat_of_nonneg ((by first | exact ok_441 c_30 ty_56 | omega))), ⟨(by first | exact ok_442 f_27.1 f_28 ty_56 | omega), (by first | exact ok_443 c_30 ty_56 | omega)⟩, ⟨(by first | exact ok_444 qc_25 f_27.1 f_52.1 f_52.2 hp_50 c_53 ty_55 | omega), (by first | exact ok_445 f_27.2 f_28 c_30 qc_46 f_52.1 f_52.2 hp_50 c_53 ty_55 | omega)⟩, ((by first | exact ok_446 f_28 qc_46 f_52.1 f_52.2 hp_50 c_53 ty_55 ty_56 | omega)), (hX_24.st (St_k_rSlip_2_2_mk ⟨x_22, x_23, G_18, y_56, y_55, G_54, rfl, rfl, f_26, f_27, f_28, hB_G_18, ⟨c_30, (Or.inr ⟨G_41, hX_44, hB_G_41, hq_43, ⟨r_47, G_48, hX_51, ⟨c_53, ⟨y_55, ty_55, ⟨y_56, ty_56, ⟨rfl, rfl, (Fr.put (rs := [26]) (fs := []) Fr.rf eG_54 (Or.inl (by decide))), rw_ast eG_54⟩⟩⟩⟩⟩⟩)⟩⟩)), hW, hB_G_54, hF, (Fr.put (rs := [26]) (fs := [(3, 2), (3, 3), (3, 4), (3, 5), (3, 6), (3, 7), (3, 8), (5, 9)]) (Fr.call9 (rs := [26]) (fs := [(3, 2), (3, 3), (3, 4), (3, 5), (3, 6), (3, 7), (3, 8), (5, 9)]) (Fr.call9 (rs := [26]) (fs := [(3, 2), (3, 3), (3, 4), (3, 5), (3, 6), (3, 7), (3, 8), (5, 9)]) (Fr.call9 (rs := [26]) (fs := [(3, 2), (3, 3), (3, 4), (3, 5), (3, 6), (3, 7), (3, 8), (5, 9)]) Fr.rf hq_19 rfl rfl) hq_43 rfl rfl) hq_49 rfl rfl) eG_54 (Or.inl (by decide))), hS, lv_sub hl [0, 1, 2] rfl⟩
          · have c_53 : r_47.toInt = 0 := xI_eq rfl rfl c_53
            refine ic_0 hx hb dX7_readSlip_58 ?_
            exact W.zret (v := 0) hx hb hr (by decide) (fun t ht _ => ⟨⟨0, G_48, rfl, (P_rSlip_2_mk ⟨hB_G_48, hF, ⟨by decide, by decide⟩, ⟨w_3, G_5, hX_8, f_9, hB_G_5, hq_7, ⟨r_10, G_11, hX_14, (Or.inr ⟨c_16, ⟨G_17, hB_G_17, (Fr.put (rs := []) (fs := [(5, 6)]) Fr.rf eG_17 (Or.inr (by decide))), (gp_eq eG_17), ⟨x_22, x_23, G_18, hX_24, f_26, f_27, f_28, hB_G_18, hq_19, (Or.inr ⟨c_30, (Or.inr ⟨G_41, hX_44, hB_G_41, hq_43, ⟨r_47, G_48, hX_51, ⟨c_53, ⟨rfl, rfl⟩⟩⟩⟩)⟩)⟩⟩⟩)⟩⟩⟩), wd_t ht hW⟩, hS.F ht⟩) hS.2.2 dX7_readSlip_59
        refine lv_icmp_ne (tgt := 49) hx hb dX7_readSlip_38 rfl (fun c_57 => ?_) (fun c_57 => ?_)
        · have c_57 : x_22.toInt ≠ 2 := xI_ne rfl rfl c_57
          exact hJ_42 () _ _ _ ⟨G_18, (Jn_k_rSlip_2_3_mk (Or.inr ⟨c_57, rfl⟩)), hW, hB_G_18, hF, (Fr.rf (rs := []) (fs := [])), hS, lv_sub hl [0, 1, 2] rfl⟩
        · have c_57 : x_22.toInt = 2 := xI_eq rfl rfl c_57
          refine lv_iload_n hx hb dX7_readSlip_41 rfl (lv_at hl 1 rfl) ?_
          refine lv_if_ne (tgt := 49) hx hb dX7_readSlip_42 rfl (fun c_58 => ?_) (fun c_58 => ?_)
          · have c_58 : x_23.toInt ≠ 0 := xI_ne rfl rfl c_58
            exact hJ_42 () _ _ _ ⟨G_18, (Jn_k_rSlip_2_3_mk (Or.inl ⟨c_57, ⟨c_58, rfl⟩⟩)), hW, hB_G_18, hF, (Fr.rf (rs := []) (fs := [])), hS, lv_sub hl [0, 1, 2] rfl⟩
          · have c_58 : x_23.toInt = 0 := xI_eq rfl rfl c_58
            refine ic_1 hx hb dX7_readSlip_45 ?_
            refine lv_goto (tgt := 50) hx hb dX7_readSlip_46 rfl ?_
            refine lv_bipush (v := 9) hx hb dX7_readSlip_50 (by decide) ?_
            have qc_59 : (1 : Int32).toInt = 1 := rfl
            have qc_60 : (9 : Int32).toInt = 9 := rfl
            refine S_calli (va_runV (As := [.int 1, .int 9]) (rest := []) ⟨hx, hb, hml, hown, hts⟩ (k_rNum l D k A a z G_18 1 9 ) (cwV 2 hts (gd_V hgd m791 m793 m11 m119 m794) rfl rfl rfl hd_X7_passNumber ⟨Nat.le_of_ble_eq_true rfl, Nat.le_of_ble_eq_true rfl⟩) (pre_W hW hB_G_18 hK hZ hS kd_5 rfl) rfl rfl hl.1 rfl (lv_room (Nat.le_of_ble_eq_true rfl)) dX7_readSlip_52 ⟨Nat.le_of_ble_eq_true rfl, Nat.le_of_ble_eq_true rfl⟩) hS (fun r_61 G_62 H locs hpo hW hS => ?_)
            have hX_65 : P_rNum 1 9 G_18 r_61 G_62 := hpo
            obtain ⟨hB_G_62, hq_63, f_66, hp_64, -⟩ := hpo
            have hF := hF.call9 hq_63 rfl rfl
            refine lv_if_ne (tgt := 60) hx hb dX7_readSlip_55 rfl (fun c_67 => ?_) (fun c_67 => ?_)
            · have c_67 : r_61.toInt ≠ 0 := xI_ne rfl rfl c_67
              refine lv_aload_n hx hb dX7_readSlip_60 rfl (lv_at hl 2 rfl) ?_
              refine S_getV (n := 2) (C := RX7) (T := TX7) (N := 10) hx hb hg iX7 hown hK hW kd_5 rfl 5 (lt_b rfl) (hg (Cond.fieldLink RX7 39 "SlabWalk$Reader" "paving" "LSlabWalk$Paving;") m317) (fun _ h9 => h9) rfl ((((hq_63.r9 5 5 rfl rfl).trans ((hq_19.r9 5 5 rfl rfl).trans ((congrFun (congrFun (congrArg (fun q => q.2.2) eG_17) 5) 5).trans ((hq_12.r9 5 5 rfl rfl).trans (hq_7.r9 5 5 rfl rfl)))))).trans (hv_5_5)) dX7_readSlip_61 ?_
              refine S_getR (n := 26) (C := RX6) (T := TX6) (N := 17) hx hb hg iX6 hown hK hW kd_2 rfl 6 (lt_b rfl) (hg (Cond.fieldLink RX7 166 "SlabWalk$Paving" "slip" "[I") m179) (fun _ h9 => h9) rfl dX7_readSlip_64 ?_
              refine lv_iload_n hx hb dX7_readSlip_67 rfl (lv_at hl 0 rfl) ?_
              refine lv_aload_n hx hb dX7_readSlip_68 rfl (lv_at hl 2 rfl) ?_
              refine S_getI (v := (G_62.1 5 9)) (C := RX7) (T := TX7) (N := 10) hx hb hg iX7 hown hK hW kd_5 rfl 9 (lt_b rfl) (hg (Cond.fieldLink RX7 99 "SlabWalk$Reader" "number" "I") m321) (fun _ h9 => h9) rfl rfl dX7_readSlip_69 ?_
              refine S_iast hx hb hK hW hS kd_26 (vin ((by first | exact f_26.1 | omega)) ((by first | exact ok_390 c_30 | omega))) dX7_readSlip_72 (fun G_68 H locs eG_68 hW hS => ?_)
              have hB_G_68 : Bd G_68 := hB_G_62.put (V := (G_62.1 5 9).toInt) (lo := 0) (hi := 9) eG_68 rfl rfl rfl ((by first | exact ok_405 qc_59 f_66.1 f_66.2 hp_64 c_67 | omega)) ((by first | exact ok_416 qc_60 f_66.1 f_66.2 hp_64 c_67 | omega)) (hB_G_62.2.put eG_68 rfl)
              have hF := hF.put eG_68 (Or.inl (by decide))
              refine lv_iload_n hx hb dX7_readSlip_73 rfl (lv_at hl 1 rfl) ?_
              refine lv_aload_n hx hb dX7_readSlip_74 rfl (lv_at hl 2 rfl) ?_
              refine S_getI (v := (G_62.1 5 9)) (C := RX7) (T := TX7) (N := 10) hx hb hg iX7 hown hK hW kd_5 rfl 9 (lt_b rfl) (hg (Cond.fieldLink RX7 99 "SlabWalk$Reader" "number" "I") m321) (fun _ h9 => h9) rfl ((gp_ne eG_68 (fun q => absurd q.1 (Nat.ne_of_beq_eq_false rfl))).trans (rfl)) dX7_readSlip_75 ?_
              refine lv_iadd hx hb dX7_readSlip_78 ?_
              refine lv_topi (fun y_69 ey_69 => ?_)
              have e_70 := tI_rng (G_62.1 5 9)
              have ty_69 : y_69.toInt = x_23.toInt + (G_62.1 5 9).toInt := xI_add rfl rfl ey_69 ((by first | exact ok_447 f_27.1 e_70.1 | omega)) ((by first | exact ok_448 c_58 e_70.2 | omega))
              refine lv_istore_n (lv' := [(1, .int y_69), (2, .int x_22), (0, .ref (a 5))]) hx hb dX7_readSlip_79 rfl hl (lt_b rfl) rfl (fun ls hl => ?_)
              obtain ⟨y_71, ey_71⟩ : ∃ q, q = x_22 + 1 := ⟨_, rfl⟩
              have ty_71 : y_71.toInt = x_22.toInt + 1 := xI_add rfl rfl ey_71 ((by first | exact ok_439 f_27.1 f_28 | omega)) ((by first | exact ok_440 c_30 | omega))
              refine lv_iinc (v := y_71) (lv' := [(2, .int y_71), (1, .int y_69), (0, .ref (a 5))]) hx hb dX7_readSlip_80 hl (k := 1) rfl (by rw [ey_71]; rfl) (lt_b rfl) rfl (fun ls hl => ?_)
              refine lv_goto (tgt := 30) hx hb dX7_readSlip_83 rfl ?_
              exact ih_20 (3 - y_71.toInt : Int).toNat ((by first | (clear b_1 f_9 f_15 hp_13 c_16 f_66 c_67; omega) | omega)) _ _ _ ⟨G_68, y_71, y_69, (Int.toNat_of_nonneg ((by first | exact ok_441 c_30 ty_71 | omega))), ⟨(by first | exact ok_442 f_27.1 f_28 ty_71 | omega), (by first | exact ok_443 c_30 ty_71 | omega)⟩, ⟨(by first | exact ok_449 f_27.1 qc_59 f_66.1 f_66.2 hp_64 c_67 ty_69 | omega), (by first | exact ok_450 c_58 qc_60 f_66.1 f_66.2 hp_64 c_67 ty_69 | omega)⟩, ((by first | exact ok_446 f_28 qc_60 f_66.1 f_66.2 hp_64 c_67 ty_69 ty_71 | omega)), (hX_24.st (St_k_rSlip_2_2_mk ⟨x_22, x_23, G_18, y_71, y_69, G_68, rfl, rfl, f_26, f_27, f_28, hB_G_18, ⟨c_30, (Or.inl ⟨c_57, ⟨c_58, ⟨r_61, G_62, hX_65, ⟨c_67, ⟨y_69, ty_69, ⟨y_71, ty_71, ⟨rfl, rfl, (Fr.put (rs := [26]) (fs := []) Fr.rf eG_68 (Or.inl (by decide))), rw_ast eG_68⟩⟩⟩⟩⟩⟩⟩)⟩⟩)), hW, hB_G_68, hF, (Fr.put (rs := [26]) (fs := [(3, 2), (3, 3), (3, 4), (3, 5), (3, 6), (3, 7), (3, 8), (5, 9)]) (Fr.call9 (rs := [26]) (fs := [(3, 2), (3, 3), (3, 4), (3, 5), (3, 6), (3, 7), (3, 8), (5, 9)]) (Fr.call9 (rs := [26]) (fs := [(3, 2), (3, 3), (3, 4), (3, 5), (3, 6), (3, 7), (3, 8), (5, 9)]) Fr.rf hq_19 rfl rfl) hq_63 rfl rfl) eG_68 (Or.inl (by decide))), hS, lv_sub hl [0, 1, 2] rfl⟩
            · have c_67 : r_61.toInt = 0 := xI_eq rfl rfl c_67
              refine ic_0 hx hb dX7_readSlip_58 ?_
              exact W.zret (v := 0) hx hb hr (by decide) (fun t ht _ => ⟨⟨0, G_62, rfl, (P_rSlip_2_mk ⟨hB_G_62, hF, ⟨by decide, by decide⟩, ⟨w_3, G_5, hX_8, f_9, hB_G_5, hq_7, ⟨r_10, G_11, hX_14, (Or.inr ⟨c_16, ⟨G_17, hB_G_17, (Fr.put (rs := []) (fs := [(5, 6)]) Fr.rf eG_17 (Or.inr (by decide))), (gp_eq eG_17), ⟨x_22, x_23, G_18, hX_24, f_26, f_27, f_28, hB_G_18, hq_19, (Or.inr ⟨c_30, (Or.inl ⟨c_57, ⟨c_58, ⟨r_61, G_62, hX_65, ⟨c_67, ⟨rfl, rfl⟩⟩⟩⟩⟩)⟩)⟩⟩⟩)⟩⟩⟩), wd_t ht hW⟩, hS.F ht⟩) hS.2.2 dX7_readSlip_59
    · have c_16 : r_10.toInt = 0 := xI_eq rfl rfl c_16
      refine ic_0 hx hb dX7_readSlip_19 ?_
      exact W.zret (v := 0) hx hb hr (by decide) (fun t ht _ => ⟨⟨0, G_11, rfl, (P_rSlip_2_mk ⟨hB_G_11, hF, ⟨by decide, by decide⟩, ⟨w_3, G_5, hX_8, f_9, hB_G_5, hq_7, ⟨r_10, G_11, hX_14, (Or.inl ⟨c_16, ⟨rfl, rfl⟩⟩)⟩⟩⟩), wd_t ht hW⟩, hS.F ht⟩) hS.2.2 dX7_readSlip_20
  refine lv_if_ne (tgt := 12) hx hb dX7_readSlip_5 rfl (fun c_72 => ?_) (fun c_72 => ?_)
  · have c_72 : (G.1 5 6).toInt ≠ 0 := xI_ne rfl rfl c_72
    refine ic_0 hx hb dX7_readSlip_12 ?_
    have qc_73 : (0 : Int32).toInt = 0 := rfl
    exact hJ_6 0 _ _ _ ⟨G, ⟨(by decide), (by decide)⟩, (Jn_k_rSlip_2_1_mk (Or.inr ⟨c_72, ⟨rfl, rfl⟩⟩)), hW, hB_G, hF, (Fr.rf (rs := []) (fs := [])), hS, lv_sub hl [0] rfl⟩
  · have c_72 : (G.1 5 6).toInt = 0 := xI_eq rfl rfl c_72
    refine ic_1 hx hb dX7_readSlip_8 ?_
    refine lv_goto (tgt := 13) hx hb dX7_readSlip_9 rfl ?_
    have qc_74 : (1 : Int32).toInt = 1 := rfl
    exact hJ_6 1 _ _ _ ⟨G, ⟨(by decide), (by decide)⟩, (Jn_k_rSlip_2_1_mk (Or.inl ⟨c_72, ⟨rfl, rfl⟩⟩)), hW, hB_G, hF, (Fr.rf (rs := []) (fs := [])), hS, lv_sub hl [0] rfl⟩

set_option maxHeartbeats 4000000 in
set_option maxRecDepth 100000 in
theorem k_rHand_2 (l : Launch) (D : va_G) (k : KT) (A : Nat → Prop) (a : Nat → Nat) (z : SK) (G : GS)  (hv_5_5 : G.2.2 5 5 = 2) : Met l yX7_readHand (WS yX7_readHand cX7_readHand 1 (some .boolean)) ({ frames := 8, cells := 0, slots := 0, locals := 170 }) (va_Pc [.ref (a 5)] (cW D k A a z G)) (va_Qi (fun (r : Int32) (G1 : GS) => P_rHand_2 G r G1) (fun (G1 : GS) t => Wd D k A a G1 t.heap) A) 0 0 A := by
  refine Met.ofW (cc := cX7_readHand) (maxL := 1) (ret := (some .boolean)) (by decide) rfl ?_
  intro p e s m args below meth c s₁ B hml hv
  obtain ⟨rfl, hW, hB_G, hK, hZ⟩ := hv
  have hx := B.exec
  have hb := B.bytes
  have hr := B.returns
  have hts := atoms_spec (ws := WS yX7_readHand cX7_readHand 1 (some .boolean)) B.pre
  have hgd : ∀ w ∈ gd, w ∈ WS yX7_readHand cX7_readHand 1 (some .boolean) := fun w h => List.mem_cons_of_mem _ h
  have hg : ∀ w ∈ gd, w.before _ s = true := fun w h => hts w (hgd w h)
  have hown : s.vm.findClass RX7 = some m.cls := findClass_of_methodNamed B.named
  have hS : va_S A s.heap s.heap [] := va_S.rf
  have hF : Fr [] [(2, 14), (2, 15), (3, 2), (3, 3), (3, 4), (3, 5), (3, 6), (3, 7), (3, 8), (5, 7), (5, 9)] G G := Fr.rf
  have hl := lv_entry ([.ref (a 5)]) (n := 1) (Nat.le_of_ble_eq_true rfl)
  rw [lg_entry_eq]
  generalize (lg_sl ([.ref (a 5)]) ++ List.replicate (1 - (lg_sl ([.ref (a 5)])).length) Slot.unset).toArray = ls at hl ⊢
  have hl : lv_has ls 1 [(0, .ref (a 5))] := hl
  refine lv_aload_n hx hb dX7_readHand_0 rfl (lv_at hl 0 rfl) ?_
  refine lv_aload_n hx hb dX7_readHand_1 rfl (lv_at hl 0 rfl) ?_
  have b_1 : 0 ≤ (G.1 5 7).toInt ∧ (G.1 5 7).toInt ≤ 1 := bd_5_7 hB_G
  refine S_getI (v := (G.1 5 7)) (C := RX7) (T := TX7) (N := 10) hx hb hg iX7 hown hK hW kd_5 rfl 7 (lt_b rfl) (hg (Cond.fieldLink RX7 52 "SlabWalk$Reader" "handTold" "Z") m319) (fun _ h9 => h9) rfl rfl dX7_readHand_2 ?_
  refine W.cut (σ := Int32) (pcJ := 13) (J := fun y H locs ls => ∃ (G_5 : GS), (0 ≤ y.toInt ∧ y.toInt ≤ 1) ∧ Jn_k_rHand_2_1 G y G_5 ∧ Wd D k A a G_5 H ∧ Bd G_5 ∧ Fr [] [(2, 14), (2, 15), (3, 2), (3, 3), (3, 4), (3, 5), (3, 6), (3, 7), (3, 8), (5, 7), (5, 9)] G G_5 ∧ Fr [] [] G G_5 ∧ va_S A s.heap H locs ∧ lv_has ls 1 [(0, .ref (a 5))]) (stJ := fun y => [.int y, .ref (a 5)]) ?_ (fun hJ_6 => ?_)
  · intro y H locs ls hI
    obtain ⟨w_3, hy⟩ : ∃ q, q = y := ⟨_, rfl⟩
    subst hy
    obtain ⟨G_5, f_9, hX_8, hW, hB_G_5, hF, hq_7, hS, hl⟩ := hI
    refine S_calli (va_runV (As := [.int w_3]) (rest := []) ⟨hx, hb, hml, hown, hts⟩ (k_rFirst l D k A a z G_5 w_3 ⟨(by first | exact f_9.1 | omega), (by first | exact f_9.2 | omega)⟩) (cwV 1 hts (gd_V hgd m773 m775 m9 m119 m776) rfl rfl rfl hd_X7_passFirst ⟨Nat.le_of_ble_eq_true rfl, Nat.le_of_ble_eq_true rfl⟩) (pre_W hW hB_G_5 hK hZ hS kd_5 rfl) rfl rfl hl.1 rfl (lv_room (Nat.le_of_ble_eq_true rfl)) dX7_readHand_13 ⟨Nat.le_of_ble_eq_true rfl, Nat.le_of_ble_eq_true rfl⟩) hS (fun r_10 G_11 H locs hpo hW hS => ?_)
    have hX_14 : P_rFirst w_3 G_5 r_10 G_11 := hpo
    obtain ⟨hB_G_11, hq_12, f_15, hp_13, -⟩ := hpo
    have hF := hF.call9 hq_12 rfl rfl
    refine lv_if_eq (tgt := 29) hx hb dX7_readHand_16 rfl (fun c_16 => ?_) (fun c_16 => ?_)
    · have c_16 : r_10.toInt = 0 := xI_eq rfl rfl c_16
      refine ic_0 hx hb dX7_readHand_29 ?_
      exact W.zret (v := 0) hx hb hr (by decide) (fun t ht _ => ⟨⟨0, G_11, rfl, (P_rHand_2_mk ⟨hB_G_11, hF, ⟨by decide, by decide⟩, ⟨w_3, G_5, hX_8, f_9, hB_G_5, hq_7, ⟨r_10, G_11, hX_14, (Or.inl ⟨c_16, ⟨rfl, rfl⟩⟩)⟩⟩⟩), wd_t ht hW⟩, hS.F ht⟩) hS.2.2 dX7_readHand_30
    · have c_16 : r_10.toInt ≠ 0 := xI_ne rfl rfl c_16
      refine lv_aload_n hx hb dX7_readHand_19 rfl (lv_at hl 0 rfl) ?_
      refine ic_1 hx hb dX7_readHand_20 ?_
      refine lv_bipush (v := 99) hx hb dX7_readHand_21 (by decide) ?_
      have qc_17 : (1 : Int32).toInt = 1 := rfl
      have qc_18 : (99 : Int32).toInt = 99 := rfl
      refine S_calli (va_runV (As := [.int 1, .int 99]) (rest := []) ⟨hx, hb, hml, hown, hts⟩ (k_rNum l D k A a z G_11 1 99 ) (cwV 2 hts (gd_V hgd m791 m793 m11 m119 m794) rfl rfl rfl hd_X7_passNumber ⟨Nat.le_of_ble_eq_true rfl, Nat.le_of_ble_eq_true rfl⟩) (pre_W hW hB_G_11 hK hZ hS kd_5 rfl) rfl rfl hl.1 rfl (lv_room (Nat.le_of_ble_eq_true rfl)) dX7_readHand_23 ⟨Nat.le_of_ble_eq_true rfl, Nat.le_of_ble_eq_true rfl⟩) hS (fun r_19 G_20 H locs hpo hW hS => ?_)
      have hX_23 : P_rNum 1 99 G_11 r_19 G_20 := hpo
      obtain ⟨hB_G_20, hq_21, f_24, hp_22, -⟩ := hpo
      have hF := hF.call9 hq_21 rfl rfl
      refine lv_if_ne (tgt := 31) hx hb dX7_readHand_26 rfl (fun c_25 => ?_) (fun c_25 => ?_)
      · have c_25 : r_19.toInt ≠ 0 := xI_ne rfl rfl c_25
        refine lv_aload_n hx hb dX7_readHand_31 rfl (lv_at hl 0 rfl) ?_
        refine ic_1 hx hb dX7_readHand_32 ?_
        refine S_putI (ty := .boolean) (C := RX7) (T := TX7) (N := 10) hx hb hg iX7 tyX7 tyX7_ok nmX7 hown hK hW hS kd_5 rfl 7 (lt_b rfl) (hg (Cond.fieldLink RX7 52 "SlabWalk$Reader" "handTold" "Z") m319) (fun _ h9 => h9) rfl (by decide +kernel) (by decide) rfl rfl dX7_readHand_33 (fun G_26 H locs eG_26 hW hS => ?_)
        have hB_G_26 : Bd G_26 := hB_G_20.put (V := 1) (lo := 0) (hi := 1) eG_26 rfl rfl rfl (by decide) (by decide) (hB_G_20.2.put eG_26 rfl)
        have hF := hF.put eG_26 (Or.inr (by decide))
        refine lv_aload_n hx hb dX7_readHand_36 rfl (lv_at hl 0 rfl) ?_
        refine S_getV (n := 2) (C := RX7) (T := TX7) (N := 10) hx hb hg iX7 hown hK hW kd_5 rfl 5 (lt_b rfl) (hg (Cond.fieldLink RX7 39 "SlabWalk$Reader" "paving" "LSlabWalk$Paving;") m317) (fun _ h9 => h9) rfl ((((congrFun (congrFun (congrArg (fun q => q.2.2) eG_26) 5) 5).trans ((hq_21.r9 5 5 rfl rfl).trans ((hq_12.r9 5 5 rfl rfl).trans (hq_7.r9 5 5 rfl rfl))))).trans (hv_5_5)) dX7_readHand_37 ?_
        refine lv_aload_n hx hb dX7_readHand_40 rfl (lv_at hl 0 rfl) ?_
        refine S_getI (v := (G_20.1 5 9)) (C := RX7) (T := TX7) (N := 10) hx hb hg iX7 hown hK hW kd_5 rfl 9 (lt_b rfl) (hg (Cond.fieldLink RX7 99 "SlabWalk$Reader" "number" "I") m321) (fun _ h9 => h9) rfl (gp_ne eG_26 (by decide)) dX7_readHand_41 ?_
        refine S_putI (ty := .int) (C := RX6) (T := TX6) (N := 17) hx hb hg iX6 tyX6 tyX6_ok nmX6 hown hK hW hS kd_2 rfl 14 (lt_b rfl) (hg (Cond.fieldLink RX7 169 "SlabWalk$Paving" "hand" "I") m202) (fun _ h9 => h9) rfl (by decide +kernel) rfl rfl rfl dX7_readHand_44 (fun G_27 H locs eG_27 hW hS => ?_)
        have hB_G_27 : Bd G_27 := hB_G_26.put (V := (G_20.1 5 9).toInt) (lo := 0) (hi := 99) eG_27 rfl rfl rfl ((by first | exact ok_405 qc_17 f_24.1 f_24.2 hp_22 c_25 | omega)) ((by first | exact ok_431 qc_18 f_24.1 f_24.2 hp_22 c_25 | omega)) (hB_G_26.2.put eG_27 rfl)
        have hF := hF.put eG_27 (Or.inr (by decide))
        refine lv_aload_n hx hb dX7_readHand_47 rfl (lv_at hl 0 rfl) ?_
        refine S_getR (n := 3) (C := RX7) (T := TX7) (N := 10) hx hb hg iX7 hown hK hW kd_5 rfl 0 (lt_b rfl) (hg (Cond.fieldLink RX7 26 "SlabWalk$Reader" "tokens" "LSlabWalk$Tokens;") m311) (fun _ h9 => h9) rfl dX7_readHand_48 ?_
        refine lv_sipush (v := 137) hx hb dX7_readHand_51 (by decide) ?_
        refine S_calli (va_runV (As := [.int 137]) (rest := []) ⟨hx, hb, hml, hown, hts⟩ (k_tPass l D k A a z G_27 137 ) (cwV 1 hts (gd_V hgd m786 m787 m788 m120 m789) rfl rfl rfl hd_X9_pass ⟨Nat.le_of_ble_eq_true rfl, Nat.le_of_ble_eq_true rfl⟩) (pre_W hW hB_G_27 hK hZ hS kd_3 rfl) rfl rfl hl.1 rfl (lv_room (Nat.le_of_ble_eq_true rfl)) dX7_readHand_54 ⟨Nat.le_of_ble_eq_true rfl, Nat.le_of_ble_eq_true rfl⟩) hS (fun r_28 G_29 H locs hpo hW hS => ?_)
        have hX_32 : P_tPass 137 G_27 r_28 G_29 := hpo
        obtain ⟨hB_G_29, hq_30, f_33, -⟩ := hpo
        have hF := hF.call9 hq_30 rfl rfl
        refine lv_if_eq (tgt := 70) hx hb dX7_readHand_57 rfl (fun c_34 => ?_) (fun c_34 => ?_)
        · have c_34 : r_28.toInt = 0 := xI_eq rfl rfl c_34
          refine ic_0 hx hb dX7_readHand_70 ?_
          exact W.zret (v := 0) hx hb hr (by decide) (fun t ht _ => ⟨⟨0, G_29, rfl, (P_rHand_2_mk ⟨hB_G_29, hF, ⟨by decide, by decide⟩, ⟨w_3, G_5, hX_8, f_9, hB_G_5, hq_7, ⟨r_10, G_11, hX_14, (Or.inr ⟨c_16, ⟨r_19, G_20, hX_23, (Or.inr ⟨c_25, ⟨G_27, hB_G_27, (Fr.put (rs := []) (fs := [(2, 14), (5, 7)]) (Fr.put (rs := []) (fs := [(2, 14), (5, 7)]) Fr.rf eG_26 (Or.inr (by decide))) eG_27 (Or.inr (by decide))), (gp_eq eG_27), ((gp_ne eG_27 (by decide)).trans (gp_eq eG_26)), ⟨r_28, G_29, hX_32, (Or.inl ⟨c_34, ⟨rfl, rfl⟩⟩)⟩⟩⟩)⟩⟩)⟩⟩⟩), wd_t ht hW⟩, hS.F ht⟩) hS.2.2 dX7_readHand_71
        · have c_34 : r_28.toInt ≠ 0 := xI_ne rfl rfl c_34
          refine lv_aload_n hx hb dX7_readHand_60 rfl (lv_at hl 0 rfl) ?_
          refine ic_0 hx hb dX7_readHand_61 ?_
          refine lv_bipush (v := 99) hx hb dX7_readHand_62 (by decide) ?_
          have qc_35 : (0 : Int32).toInt = 0 := rfl
          have qc_36 : (99 : Int32).toInt = 99 := rfl
          refine S_calli (va_runV (As := [.int 0, .int 99]) (rest := []) ⟨hx, hb, hml, hown, hts⟩ (k_rNum l D k A a z G_29 0 99 ) (cwV 2 hts (gd_V hgd m791 m793 m11 m119 m794) rfl rfl rfl hd_X7_passNumber ⟨Nat.le_of_ble_eq_true rfl, Nat.le_of_ble_eq_true rfl⟩) (pre_W hW hB_G_29 hK hZ hS kd_5 rfl) rfl rfl hl.1 rfl (lv_room (Nat.le_of_ble_eq_true rfl)) dX7_readHand_64 ⟨Nat.le_of_ble_eq_true rfl, Nat.le_of_ble_eq_true rfl⟩) hS (fun r_37 G_38 H locs hpo hW hS => ?_)
          have hX_41 : P_rNum 0 99 G_29 r_37 G_38 := hpo
          obtain ⟨hB_G_38, hq_39, f_42, hp_40, -⟩ := hpo
          have hF := hF.call9 hq_39 rfl rfl
          refine lv_if_ne (tgt := 72) hx hb dX7_readHand_67 rfl (fun c_43 => ?_) (fun c_43 => ?_)
          · have c_43 : r_37.toInt ≠ 0 := xI_ne rfl rfl c_43
            refine lv_aload_n hx hb dX7_readHand_72 rfl (lv_at hl 0 rfl) ?_
            refine S_getV (n := 2) (C := RX7) (T := TX7) (N := 10) hx hb hg iX7 hown hK hW kd_5 rfl 5 (lt_b rfl) (hg (Cond.fieldLink RX7 39 "SlabWalk$Reader" "paving" "LSlabWalk$Paving;") m317) (fun _ h9 => h9) rfl ((((hq_39.r9 5 5 rfl rfl).trans ((hq_30.r9 5 5 rfl rfl).trans ((congrFun (congrFun (congrArg (fun q => q.2.2) eG_27) 5) 5).trans ((congrFun (congrFun (congrArg (fun q => q.2.2) eG_26) 5) 5).trans ((hq_21.r9 5 5 rfl rfl).trans ((hq_12.r9 5 5 rfl rfl).trans (hq_7.r9 5 5 rfl rfl)))))))).trans (hv_5_5)) dX7_readHand_73 ?_
            refine lv_aload_n hx hb dX7_readHand_76 rfl (lv_at hl 0 rfl) ?_
            refine S_getI (v := (G_38.1 5 9)) (C := RX7) (T := TX7) (N := 10) hx hb hg iX7 hown hK hW kd_5 rfl 9 (lt_b rfl) (hg (Cond.fieldLink RX7 99 "SlabWalk$Reader" "number" "I") m321) (fun _ h9 => h9) rfl rfl dX7_readHand_77 ?_
            refine S_putI (ty := .int) (C := RX6) (T := TX6) (N := 17) hx hb hg iX6 tyX6 tyX6_ok nmX6 hown hK hW hS kd_2 rfl 15 (lt_b rfl) (hg (Cond.fieldLink RX7 172 "SlabWalk$Paving" "slack" "I") m205) (fun _ h9 => h9) rfl (by decide +kernel) rfl rfl rfl dX7_readHand_80 (fun G_44 H locs eG_44 hW hS => ?_)
            have hB_G_44 : Bd G_44 := hB_G_38.put (V := (G_38.1 5 9).toInt) (lo := 0) (hi := 99) eG_44 rfl rfl rfl ((by first | exact ok_415 qc_35 f_42.1 f_42.2 hp_40 c_43 | omega)) ((by first | exact ok_431 qc_18 f_42.1 f_42.2 hp_40 c_43 | omega)) (hB_G_38.2.put eG_44 rfl)
            have hF := hF.put eG_44 (Or.inr (by decide))
            refine lv_aload_n hx hb dX7_readHand_83 rfl (lv_at hl 0 rfl) ?_
            refine S_getR (n := 3) (C := RX7) (T := TX7) (N := 10) hx hb hg iX7 hown hK hW kd_5 rfl 0 (lt_b rfl) (hg (Cond.fieldLink RX7 26 "SlabWalk$Reader" "tokens" "LSlabWalk$Tokens;") m311) (fun _ h9 => h9) rfl dX7_readHand_84 ?_
            refine lv_bipush (v := 59) hx hb dX7_readHand_87 (by decide) ?_
            refine S_calli (va_runV (As := [.int 59]) (rest := []) ⟨hx, hb, hml, hown, hts⟩ (k_tPass l D k A a z G_44 59 ) (cwV 1 hts (gd_V hgd m786 m787 m788 m120 m789) rfl rfl rfl hd_X9_pass ⟨Nat.le_of_ble_eq_true rfl, Nat.le_of_ble_eq_true rfl⟩) (pre_W hW hB_G_44 hK hZ hS kd_3 rfl) rfl rfl hl.1 rfl (lv_room (Nat.le_of_ble_eq_true rfl)) dX7_readHand_89 ⟨Nat.le_of_ble_eq_true rfl, Nat.le_of_ble_eq_true rfl⟩) hS (fun r_45 G_46 H locs hpo hW hS => ?_)
            have hX_49 : P_tPass 59 G_44 r_45 G_46 := hpo
            obtain ⟨hB_G_46, hq_47, f_50, -⟩ := hpo
            have hF := hF.call9 hq_47 rfl rfl
            exact W.zret (v := r_45) hx hb hr (nar_z ((by first | exact f_50.1 | omega)) ((by first | exact f_50.2 | omega))) (fun t ht _ => ⟨⟨r_45, G_46, rfl, (P_rHand_2_mk ⟨hB_G_46, hF, ⟨(by first | exact f_50.1 | omega), (by first | exact f_50.2 | omega)⟩, ⟨w_3, G_5, hX_8, f_9, hB_G_5, hq_7, ⟨r_10, G_11, hX_14, (Or.inr ⟨c_16, ⟨r_19, G_20, hX_23, (Or.inr ⟨c_25, ⟨G_27, hB_G_27, (Fr.put (rs := []) (fs := [(2, 14), (5, 7)]) (Fr.put (rs := []) (fs := [(2, 14), (5, 7)]) Fr.rf eG_26 (Or.inr (by decide))) eG_27 (Or.inr (by decide))), (gp_eq eG_27), ((gp_ne eG_27 (by decide)).trans (gp_eq eG_26)), ⟨r_28, G_29, hX_32, (Or.inr ⟨c_34, ⟨r_37, G_38, hX_41, (Or.inr ⟨c_43, ⟨G_44, hB_G_44, (Fr.put (rs := []) (fs := [(2, 15)]) Fr.rf eG_44 (Or.inr (by decide))), (gp_eq eG_44), ⟨r_45, G_46, hX_49, ⟨rfl, rfl⟩⟩⟩⟩)⟩⟩)⟩⟩⟩)⟩⟩)⟩⟩⟩), wd_t ht hW⟩, hS.F ht⟩) hS.2.2 dX7_readHand_92
          · have c_43 : r_37.toInt = 0 := xI_eq rfl rfl c_43
            refine ic_0 hx hb dX7_readHand_70 ?_
            exact W.zret (v := 0) hx hb hr (by decide) (fun t ht _ => ⟨⟨0, G_38, rfl, (P_rHand_2_mk ⟨hB_G_38, hF, ⟨by decide, by decide⟩, ⟨w_3, G_5, hX_8, f_9, hB_G_5, hq_7, ⟨r_10, G_11, hX_14, (Or.inr ⟨c_16, ⟨r_19, G_20, hX_23, (Or.inr ⟨c_25, ⟨G_27, hB_G_27, (Fr.put (rs := []) (fs := [(2, 14), (5, 7)]) (Fr.put (rs := []) (fs := [(2, 14), (5, 7)]) Fr.rf eG_26 (Or.inr (by decide))) eG_27 (Or.inr (by decide))), (gp_eq eG_27), ((gp_ne eG_27 (by decide)).trans (gp_eq eG_26)), ⟨r_28, G_29, hX_32, (Or.inr ⟨c_34, ⟨r_37, G_38, hX_41, (Or.inl ⟨c_43, ⟨rfl, rfl⟩⟩)⟩⟩)⟩⟩⟩)⟩⟩)⟩⟩⟩), wd_t ht hW⟩, hS.F ht⟩) hS.2.2 dX7_readHand_71
      · have c_25 : r_19.toInt = 0 := xI_eq rfl rfl c_25
        refine ic_0 hx hb dX7_readHand_29 ?_
        exact W.zret (v := 0) hx hb hr (by decide) (fun t ht _ => ⟨⟨0, G_20, rfl, (P_rHand_2_mk ⟨hB_G_20, hF, ⟨by decide, by decide⟩, ⟨w_3, G_5, hX_8, f_9, hB_G_5, hq_7, ⟨r_10, G_11, hX_14, (Or.inr ⟨c_16, ⟨r_19, G_20, hX_23, (Or.inl ⟨c_25, ⟨rfl, rfl⟩⟩)⟩⟩)⟩⟩⟩), wd_t ht hW⟩, hS.F ht⟩) hS.2.2 dX7_readHand_30
  refine lv_if_ne (tgt := 12) hx hb dX7_readHand_5 rfl (fun c_51 => ?_) (fun c_51 => ?_)
  · have c_51 : (G.1 5 7).toInt ≠ 0 := xI_ne rfl rfl c_51
    refine ic_0 hx hb dX7_readHand_12 ?_
    have qc_52 : (0 : Int32).toInt = 0 := rfl
    exact hJ_6 0 _ _ _ ⟨G, ⟨(by decide), (by decide)⟩, (Jn_k_rHand_2_1_mk (Or.inr ⟨c_51, ⟨rfl, rfl⟩⟩)), hW, hB_G, hF, (Fr.rf (rs := []) (fs := [])), hS, lv_sub hl [0] rfl⟩
  · have c_51 : (G.1 5 7).toInt = 0 := xI_eq rfl rfl c_51
    refine ic_1 hx hb dX7_readHand_8 ?_
    refine lv_goto (tgt := 13) hx hb dX7_readHand_9 rfl ?_
    have qc_53 : (1 : Int32).toInt = 1 := rfl
    exact hJ_6 1 _ _ _ ⟨G, ⟨(by decide), (by decide)⟩, (Jn_k_rHand_2_1_mk (Or.inl ⟨c_51, ⟨rfl, rfl⟩⟩)), hW, hB_G, hF, (Fr.rf (rs := []) (fs := [])), hS, lv_sub hl [0] rfl⟩



set_option maxHeartbeats 4000000 in
set_option maxRecDepth 100000 in
theorem k_rDraw_2 (l : Launch) (D : va_G) (k : KT) (A : Nat → Prop) (a : Nat → Nat) (z : SK) (G : GS)  (hv_5_5 : G.2.2 5 5 = 2) : Met l yX7_readDraw (WS yX7_readDraw cX7_readDraw 1 (some .boolean)) ({ frames := 8, cells := 0, slots := 0, locals := 170 }) (va_Pc [.ref (a 5)] (cW D k A a z G)) (va_Qi (fun (r : Int32) (G1 : GS) => P_rDraw_2 G r G1) (fun (G1 : GS) t => Wd D k A a G1 t.heap) A) 0 0 A := by
  refine Met.ofW (cc := cX7_readDraw) (maxL := 1) (ret := (some .boolean)) (by decide) rfl ?_
  intro p e s m args below meth c s₁ B hml hv
  obtain ⟨rfl, hW, hB_G, hK, hZ⟩ := hv
  have hx := B.exec
  have hb := B.bytes
  have hr := B.returns
  have hts := atoms_spec (ws := WS yX7_readDraw cX7_readDraw 1 (some .boolean)) B.pre
  have hgd : ∀ w ∈ gd, w ∈ WS yX7_readDraw cX7_readDraw 1 (some .boolean) := fun w h => List.mem_cons_of_mem _ h
  have hg : ∀ w ∈ gd, w.before _ s = true := fun w h => hts w (hgd w h)
  have hown : s.vm.findClass RX7 = some m.cls := findClass_of_methodNamed B.named
  have hS : va_S A s.heap s.heap [] := va_S.rf
  have hF : Fr [] [(2, 16), (3, 2), (3, 3), (3, 4), (3, 5), (3, 6), (3, 7), (3, 8), (5, 8), (5, 9)] G G := Fr.rf
  have hl := lv_entry ([.ref (a 5)]) (n := 1) (Nat.le_of_ble_eq_true rfl)
  rw [lg_entry_eq]
  generalize (lg_sl ([.ref (a 5)]) ++ List.replicate (1 - (lg_sl ([.ref (a 5)])).length) Slot.unset).toArray = ls at hl ⊢
  have hl : lv_has ls 1 [(0, .ref (a 5))] := hl
  refine lv_aload_n hx hb dX7_readDraw_0 rfl (lv_at hl 0 rfl) ?_
  refine lv_aload_n hx hb dX7_readDraw_1 rfl (lv_at hl 0 rfl) ?_
  have b_1 : 0 ≤ (G.1 5 8).toInt ∧ (G.1 5 8).toInt ≤ 1 := bd_5_8 hB_G
  refine S_getI (v := (G.1 5 8)) (C := RX7) (T := TX7) (N := 10) hx hb hg iX7 hown hK hW kd_5 rfl 8 (lt_b rfl) (hg (Cond.fieldLink RX7 55 "SlabWalk$Reader" "drawTold" "Z") m320) (fun _ h9 => h9) rfl rfl dX7_readDraw_2 ?_
  refine W.cut (σ := Int32) (pcJ := 13) (J := fun y H locs ls => ∃ (G_5 : GS), (0 ≤ y.toInt ∧ y.toInt ≤ 1) ∧ Jn_k_rDraw_2_1 G y G_5 ∧ Wd D k A a G_5 H ∧ Bd G_5 ∧ Fr [] [(2, 16), (3, 2), (3, 3), (3, 4), (3, 5), (3, 6), (3, 7), (3, 8), (5, 8), (5, 9)] G G_5 ∧ Fr [] [] G G_5 ∧ va_S A s.heap H locs ∧ lv_has ls 1 [(0, .ref (a 5))]) (stJ := fun y => [.int y, .ref (a 5)]) ?_ (fun hJ_6 => ?_)
  · intro y H locs ls hI
    obtain ⟨w_3, hy⟩ : ∃ q, q = y := ⟨_, rfl⟩
    subst hy
    obtain ⟨G_5, f_9, hX_8, hW, hB_G_5, hF, hq_7, hS, hl⟩ := hI
    refine S_calli (va_runV (As := [.int w_3]) (rest := []) ⟨hx, hb, hml, hown, hts⟩ (k_rFirst l D k A a z G_5 w_3 ⟨(by first | exact f_9.1 | omega), (by first | exact f_9.2 | omega)⟩) (cwV 1 hts (gd_V hgd m773 m775 m9 m119 m776) rfl rfl rfl hd_X7_passFirst ⟨Nat.le_of_ble_eq_true rfl, Nat.le_of_ble_eq_true rfl⟩) (pre_W hW hB_G_5 hK hZ hS kd_5 rfl) rfl rfl hl.1 rfl (lv_room (Nat.le_of_ble_eq_true rfl)) dX7_readDraw_13 ⟨Nat.le_of_ble_eq_true rfl, Nat.le_of_ble_eq_true rfl⟩) hS (fun r_10 G_11 H locs hpo hW hS => ?_)
    have hX_14 : P_rFirst w_3 G_5 r_10 G_11 := hpo
    obtain ⟨hB_G_11, hq_12, f_15, hp_13, -⟩ := hpo
    have hF := hF.call9 hq_12 rfl rfl
    refine lv_if_eq (tgt := 30) hx hb dX7_readDraw_16 rfl (fun c_16 => ?_) (fun c_16 => ?_)
    · have c_16 : r_10.toInt = 0 := xI_eq rfl rfl c_16
      refine ic_0 hx hb dX7_readDraw_30 ?_
      exact W.zret (v := 0) hx hb hr (by decide) (fun t ht _ => ⟨⟨0, G_11, rfl, (P_rDraw_2_mk ⟨hB_G_11, hF, ⟨by decide, by decide⟩, ⟨w_3, G_5, hX_8, f_9, hB_G_5, hq_7, ⟨r_10, G_11, hX_14, (Or.inl ⟨c_16, ⟨rfl, rfl⟩⟩)⟩⟩⟩), wd_t ht hW⟩, hS.F ht⟩) hS.2.2 dX7_readDraw_31
    · have c_16 : r_10.toInt ≠ 0 := xI_ne rfl rfl c_16
      refine lv_aload_n hx hb dX7_readDraw_19 rfl (lv_at hl 0 rfl) ?_
      refine ic_0 hx hb dX7_readDraw_20 ?_
      refine lv_sipush (v := 999) hx hb dX7_readDraw_21 (by decide) ?_
      have qc_17 : (0 : Int32).toInt = 0 := rfl
      have qc_18 : (999 : Int32).toInt = 999 := rfl
      refine S_calli (va_runV (As := [.int 0, .int 999]) (rest := []) ⟨hx, hb, hml, hown, hts⟩ (k_rNum l D k A a z G_11 0 999 ) (cwV 2 hts (gd_V hgd m791 m793 m11 m119 m794) rfl rfl rfl hd_X7_passNumber ⟨Nat.le_of_ble_eq_true rfl, Nat.le_of_ble_eq_true rfl⟩) (pre_W hW hB_G_11 hK hZ hS kd_5 rfl) rfl rfl hl.1 rfl (lv_room (Nat.le_of_ble_eq_true rfl)) dX7_readDraw_24 ⟨Nat.le_of_ble_eq_true rfl, Nat.le_of_ble_eq_true rfl⟩) hS (fun r_19 G_20 H locs hpo hW hS => ?_)
      have hX_23 : P_rNum 0 999 G_11 r_19 G_20 := hpo
      obtain ⟨hB_G_20, hq_21, f_24, hp_22, -⟩ := hpo
      have hF := hF.call9 hq_21 rfl rfl
      refine lv_if_ne (tgt := 32) hx hb dX7_readDraw_27 rfl (fun c_25 => ?_) (fun c_25 => ?_)
      · have c_25 : r_19.toInt ≠ 0 := xI_ne rfl rfl c_25
        refine lv_aload_n hx hb dX7_readDraw_32 rfl (lv_at hl 0 rfl) ?_
        refine ic_1 hx hb dX7_readDraw_33 ?_
        refine S_putI (ty := .boolean) (C := RX7) (T := TX7) (N := 10) hx hb hg iX7 tyX7 tyX7_ok nmX7 hown hK hW hS kd_5 rfl 8 (lt_b rfl) (hg (Cond.fieldLink RX7 55 "SlabWalk$Reader" "drawTold" "Z") m320) (fun _ h9 => h9) rfl (by decide +kernel) (by decide) rfl rfl dX7_readDraw_34 (fun G_26 H locs eG_26 hW hS => ?_)
        have hB_G_26 : Bd G_26 := hB_G_20.put (V := 1) (lo := 0) (hi := 1) eG_26 rfl rfl rfl (by decide) (by decide) (hB_G_20.2.put eG_26 rfl)
        have hF := hF.put eG_26 (Or.inr (by decide))
        refine lv_aload_n hx hb dX7_readDraw_37 rfl (lv_at hl 0 rfl) ?_
        refine S_getV (n := 2) (C := RX7) (T := TX7) (N := 10) hx hb hg iX7 hown hK hW kd_5 rfl 5 (lt_b rfl) (hg (Cond.fieldLink RX7 39 "SlabWalk$Reader" "paving" "LSlabWalk$Paving;") m317) (fun _ h9 => h9) rfl ((((congrFun (congrFun (congrArg (fun q => q.2.2) eG_26) 5) 5).trans ((hq_21.r9 5 5 rfl rfl).trans ((hq_12.r9 5 5 rfl rfl).trans (hq_7.r9 5 5 rfl rfl))))).trans (hv_5_5)) dX7_readDraw_38 ?_
        refine lv_aload_n hx hb dX7_readDraw_41 rfl (lv_at hl 0 rfl) ?_
        refine S_getI (v := (G_20.1 5 9)) (C := RX7) (T := TX7) (N := 10) hx hb hg iX7 hown hK hW kd_5 rfl 9 (lt_b rfl) (hg (Cond.fieldLink RX7 99 "SlabWalk$Reader" "number" "I") m321) (fun _ h9 => h9) rfl (gp_ne eG_26 (by decide)) dX7_readDraw_42 ?_
        refine S_putI (ty := .int) (C := RX6) (T := TX6) (N := 17) hx hb hg iX6 tyX6 tyX6_ok nmX6 hown hK hW hS kd_2 rfl 16 (lt_b rfl) (hg (Cond.fieldLink RX7 175 "SlabWalk$Paving" "draw" "I") m208) (fun _ h9 => h9) rfl (by decide +kernel) rfl rfl rfl dX7_readDraw_45 (fun G_27 H locs eG_27 hW hS => ?_)
        have hB_G_27 : Bd G_27 := hB_G_26.put (V := (G_20.1 5 9).toInt) (lo := 0) (hi := 999) eG_27 rfl rfl rfl ((by first | exact ok_415 qc_17 f_24.1 f_24.2 hp_22 c_25 | omega)) ((by first | exact ok_451 qc_18 f_24.1 f_24.2 hp_22 c_25 | omega)) (hB_G_26.2.put eG_27 rfl)
        have hF := hF.put eG_27 (Or.inr (by decide))
        refine lv_aload_n hx hb dX7_readDraw_48 rfl (lv_at hl 0 rfl) ?_
        refine S_getR (n := 3) (C := RX7) (T := TX7) (N := 10) hx hb hg iX7 hown hK hW kd_5 rfl 0 (lt_b rfl) (hg (Cond.fieldLink RX7 26 "SlabWalk$Reader" "tokens" "LSlabWalk$Tokens;") m311) (fun _ h9 => h9) rfl dX7_readDraw_49 ?_
        refine lv_bipush (v := 59) hx hb dX7_readDraw_52 (by decide) ?_
        refine S_calli (va_runV (As := [.int 59]) (rest := []) ⟨hx, hb, hml, hown, hts⟩ (k_tPass l D k A a z G_27 59 ) (cwV 1 hts (gd_V hgd m786 m787 m788 m120 m789) rfl rfl rfl hd_X9_pass ⟨Nat.le_of_ble_eq_true rfl, Nat.le_of_ble_eq_true rfl⟩) (pre_W hW hB_G_27 hK hZ hS kd_3 rfl) rfl rfl hl.1 rfl (lv_room (Nat.le_of_ble_eq_true rfl)) dX7_readDraw_54 ⟨Nat.le_of_ble_eq_true rfl, Nat.le_of_ble_eq_true rfl⟩) hS (fun r_28 G_29 H locs hpo hW hS => ?_)
        have hX_32 : P_tPass 59 G_27 r_28 G_29 := hpo
        obtain ⟨hB_G_29, hq_30, f_33, -⟩ := hpo
        have hF := hF.call9 hq_30 rfl rfl
        exact W.zret (v := r_28) hx hb hr (nar_z ((by first | exact f_33.1 | omega)) ((by first | exact f_33.2 | omega))) (fun t ht _ => ⟨⟨r_28, G_29, rfl, (P_rDraw_2_mk ⟨hB_G_29, hF, ⟨(by first | exact f_33.1 | omega), (by first | exact f_33.2 | omega)⟩, ⟨w_3, G_5, hX_8, f_9, hB_G_5, hq_7, ⟨r_10, G_11, hX_14, (Or.inr ⟨c_16, ⟨r_19, G_20, hX_23, (Or.inr ⟨c_25, ⟨G_27, hB_G_27, (Fr.put (rs := []) (fs := [(2, 16), (5, 8)]) (Fr.put (rs := []) (fs := [(2, 16), (5, 8)]) Fr.rf eG_26 (Or.inr (by decide))) eG_27 (Or.inr (by decide))), (gp_eq eG_27), ((gp_ne eG_27 (by decide)).trans (gp_eq eG_26)), ⟨r_28, G_29, hX_32, ⟨rfl, rfl⟩⟩⟩⟩)⟩⟩)⟩⟩⟩), wd_t ht hW⟩, hS.F ht⟩) hS.2.2 dX7_readDraw_57
      · have c_25 : r_19.toInt = 0 := xI_eq rfl rfl c_25
        refine ic_0 hx hb dX7_readDraw_30 ?_
        exact W.zret (v := 0) hx hb hr (by decide) (fun t ht _ => ⟨⟨0, G_20, rfl, (P_rDraw_2_mk ⟨hB_G_20, hF, ⟨by decide, by decide⟩, ⟨w_3, G_5, hX_8, f_9, hB_G_5, hq_7, ⟨r_10, G_11, hX_14, (Or.inr ⟨c_16, ⟨r_19, G_20, hX_23, (Or.inl ⟨c_25, ⟨rfl, rfl⟩⟩)⟩⟩)⟩⟩⟩), wd_t ht hW⟩, hS.F ht⟩) hS.2.2 dX7_readDraw_31
  refine lv_if_ne (tgt := 12) hx hb dX7_readDraw_5 rfl (fun c_34 => ?_) (fun c_34 => ?_)
  · have c_34 : (G.1 5 8).toInt ≠ 0 := xI_ne rfl rfl c_34
    refine ic_0 hx hb dX7_readDraw_12 ?_
    have qc_35 : (0 : Int32).toInt = 0 := rfl
    exact hJ_6 0 _ _ _ ⟨G, ⟨(by decide), (by decide)⟩, (Jn_k_rDraw_2_1_mk (Or.inr ⟨c_34, ⟨rfl, rfl⟩⟩)), hW, hB_G, hF, (Fr.rf (rs := []) (fs := [])), hS, lv_sub hl [0] rfl⟩
  · have c_34 : (G.1 5 8).toInt = 0 := xI_eq rfl rfl c_34
    refine ic_1 hx hb dX7_readDraw_8 ?_
    refine lv_goto (tgt := 13) hx hb dX7_readDraw_9 rfl ?_
    have qc_36 : (1 : Int32).toInt = 1 := rfl
    exact hJ_6 1 _ _ _ ⟨G, ⟨(by decide), (by decide)⟩, (Jn_k_rDraw_2_1_mk (Or.inl ⟨c_34, ⟨rfl, rfl⟩⟩)), hW, hB_G, hF, (Fr.rf (rs := []) (fs := [])), hS, lv_sub hl [0] rfl⟩

set_option maxHeartbeats 4000000 in
set_option maxRecDepth 100000 in
theorem k_rRead_2 (l : Launch) (D : va_G) (k : KT) (A : Nat → Prop) (a : Nat → Nat) (z : SK) (G : GS) (p0 : Int32) (ha_p0 : 0 ≤ p0.toInt ∧ p0.toInt ≤ 1600) : Met l yX7_read (WS yX7_read cX7_read 5 (some .boolean)) ({ frames := 101, cells := 0, slots := 0, locals := 2170 }) (va_Pc [.ref (a 5), .int p0, .ref (a 2)] (cW D k A a z G)) (va_Qi (fun (r : Int32) (G1 : GS) => P_rRead_2 p0 G r G1) (fun (G1 : GS) t => Wd D k A a G1 t.heap) A) 0 0 A := by
  refine Met.ofW (cc := cX7_read) (maxL := 5) (ret := (some .boolean)) (by decide) rfl ?_
  intro p e s m args below meth c s₁ B hml hv
  obtain ⟨rfl, hW, hB_G, hK, hZ⟩ := hv
  have hx := B.exec
  have hb := B.bytes
  have hr := B.returns
  have hts := atoms_spec (ws := WS yX7_read cX7_read 5 (some .boolean)) B.pre
  have hgd : ∀ w ∈ gd, w ∈ WS yX7_read cX7_read 5 (some .boolean) := fun w h => List.mem_cons_of_mem _ h
  have hg : ∀ w ∈ gd, w.before _ s = true := fun w h => hts w (hgd w h)
  have hown : s.vm.findClass RX7 = some m.cls := findClass_of_methodNamed B.named
  have hS : va_S A s.heap s.heap [] := va_S.rf
  have hF : Fr [20, 21, 22, 23, 24, 25, 26, 27, 28, 34, 35, 36] [(2, 9), (2, 10), (2, 11), (2, 12), (2, 13), (2, 14), (2, 15), (2, 16), (3, 1), (3, 2), (3, 3), (3, 4), (3, 5), (3, 6), (3, 7), (3, 8), (4, 1), (4, 2), (5, 5), (5, 6), (5, 7), (5, 8), (5, 9)] G G := Fr.rf
  have hl := lv_entry ([.ref (a 5), .int p0, .ref (a 2)]) (n := 5) (Nat.le_of_ble_eq_true rfl)
  rw [lg_entry_eq]
  generalize (lg_sl ([.ref (a 5), .int p0, .ref (a 2)]) ++ List.replicate (5 - (lg_sl ([.ref (a 5), .int p0, .ref (a 2)])).length) Slot.unset).toArray = ls at hl ⊢
  have hl : lv_has ls 5 [(0, .ref (a 5)), (1, .int p0), (2, .ref (a 2))] := hl
  refine lv_aload_n hx hb dX7_read_0 rfl (lv_at hl 0 rfl) ?_
  refine lv_aload_n hx hb dX7_read_1 rfl (lv_at hl 2 rfl) ?_
  refine S_putV (ty := .object "SlabWalk$Paving") (n := 2) (C := RX7) (T := TX7) (N := 10) hx hb hg iX7 tyX7 tyX7_ok nmX7 hown hK hW hS kd_5 rfl 5 (lt_b rfl) (hg (Cond.fieldLink RX7 39 "SlabWalk$Reader" "paving" "LSlabWalk$Paving;") m317) (fun _ h9 => h9) rfl (by decide +kernel) rfl rfl rfl dX7_read_2 (fun G_1 H locs eG_1 hW hS => ?_)
  have hB_G_1 : Bd G_1 := hB_G.putr eG_1 (by decide) (by decide)
  have hF := hF.putr eG_1 (Or.inr (by decide))
  refine lv_aload_n hx hb dX7_read_5 rfl (lv_at hl 0 rfl) ?_
  refine S_getV (n := 2) (C := RX7) (T := TX7) (N := 10) hx hb hg iX7 hown hK hW kd_5 rfl 5 (lt_b rfl) (hg (Cond.fieldLink RX7 39 "SlabWalk$Reader" "paving" "LSlabWalk$Paving;") m317) (fun _ h9 => h9) rfl (gp_re eG_1) dX7_read_6 ?_
  refine S_callv (va_runV (As := []) (rest := []) ⟨hx, hb, hml, hown, hts⟩ (k_empty_2 l D k A a z G_1  ) (cwV 0 hts (gd_V hgd m630 m153 m154 m118 m155) rfl rfl rfl hd_X6_empty ⟨Nat.le_of_ble_eq_true rfl, Nat.le_of_ble_eq_true rfl⟩) (pre_W hW hB_G_1 hK hZ hS kd_2 rfl) rfl rfl hl.1 rfl (lv_room (Nat.le_of_ble_eq_true rfl)) dX7_read_9 ⟨Nat.le_of_ble_eq_true rfl, Nat.le_of_ble_eq_true rfl⟩) hS (fun G_3 H locs hpo hW hS => ?_)
  have hX_6 : P_empty_2 G_1 G_3 := hpo
  obtain ⟨hB_G_3, hq_4, -⟩ := hpo
  have hF := hF.call9 hq_4 rfl rfl
  refine lv_aload_n hx hb dX7_read_12 rfl (lv_at hl 0 rfl) ?_
  refine ic_0 hx hb dX7_read_13 ?_
  refine S_putI (ty := .boolean) (C := RX7) (T := TX7) (N := 10) hx hb hg iX7 tyX7 tyX7_ok nmX7 hown hK hW hS kd_5 rfl 6 (lt_b rfl) (hg (Cond.fieldLink RX7 48 "SlabWalk$Reader" "slipTold" "Z") m318) (fun _ h9 => h9) rfl (by decide +kernel) (by decide) rfl rfl dX7_read_14 (fun G_7 H locs eG_7 hW hS => ?_)
  have hB_G_7 : Bd G_7 := hB_G_3.put (V := 0) (lo := 0) (hi := 1) eG_7 rfl rfl rfl (by decide) (by decide) (hB_G_3.2.put eG_7 rfl)
  have hF := hF.put eG_7 (Or.inr (by decide))
  refine lv_aload_n hx hb dX7_read_17 rfl (lv_at hl 0 rfl) ?_
  refine ic_0 hx hb dX7_read_18 ?_
  refine S_putI (ty := .boolean) (C := RX7) (T := TX7) (N := 10) hx hb hg iX7 tyX7 tyX7_ok nmX7 hown hK hW hS kd_5 rfl 7 (lt_b rfl) (hg (Cond.fieldLink RX7 52 "SlabWalk$Reader" "handTold" "Z") m319) (fun _ h9 => h9) rfl (by decide +kernel) (by decide) rfl rfl dX7_read_19 (fun G_8 H locs eG_8 hW hS => ?_)
  have hB_G_8 : Bd G_8 := hB_G_7.put (V := 0) (lo := 0) (hi := 1) eG_8 rfl rfl rfl (by decide) (by decide) (hB_G_7.2.put eG_8 rfl)
  have hF := hF.put eG_8 (Or.inr (by decide))
  refine lv_aload_n hx hb dX7_read_22 rfl (lv_at hl 0 rfl) ?_
  refine ic_0 hx hb dX7_read_23 ?_
  refine S_putI (ty := .boolean) (C := RX7) (T := TX7) (N := 10) hx hb hg iX7 tyX7 tyX7_ok nmX7 hown hK hW hS kd_5 rfl 8 (lt_b rfl) (hg (Cond.fieldLink RX7 55 "SlabWalk$Reader" "drawTold" "Z") m320) (fun _ h9 => h9) rfl (by decide +kernel) (by decide) rfl rfl dX7_read_24 (fun G_9 H locs eG_9 hW hS => ?_)
  have hB_G_9 : Bd G_9 := hB_G_8.put (V := 0) (lo := 0) (hi := 1) eG_9 rfl rfl rfl (by decide) (by decide) (hB_G_8.2.put eG_9 rfl)
  have hF := hF.put eG_9 (Or.inr (by decide))
  refine lv_aload_n hx hb dX7_read_27 rfl (lv_at hl 0 rfl) ?_
  refine S_getR (n := 3) (C := RX7) (T := TX7) (N := 10) hx hb hg iX7 hown hK hW kd_5 rfl 0 (lt_b rfl) (hg (Cond.fieldLink RX7 26 "SlabWalk$Reader" "tokens" "LSlabWalk$Tokens;") m311) (fun _ h9 => h9) rfl dX7_read_28 ?_
  refine lv_iload_n hx hb dX7_read_31 rfl (lv_at hl 1 rfl) ?_
  refine S_callv (va_runV (As := [.int p0]) (rest := []) ⟨hx, hb, hml, hown, hts⟩ (k_tOpen l D k A a z G_9 p0 ⟨(by first | exact ha_p0.1 | omega), (by first | exact ha_p0.2 | omega)⟩) (cwV 1 hts (gd_V hgd m631 m632 m633 m120 m634) rfl rfl rfl hd_X9_open ⟨Nat.le_of_ble_eq_true rfl, Nat.le_of_ble_eq_true rfl⟩) (pre_W hW hB_G_9 hK hZ hS kd_3 rfl) rfl rfl hl.1 rfl (lv_room (Nat.le_of_ble_eq_true rfl)) dX7_read_32 ⟨Nat.le_of_ble_eq_true rfl, Nat.le_of_ble_eq_true rfl⟩) hS (fun G_11 H locs hpo hW hS => ?_)
  have hX_14 : P_tOpen p0 G_9 G_11 := hpo
  obtain ⟨hB_G_11, hq_12, -⟩ := hpo
  have hF := hF.call9 hq_12 rfl rfl
  refine ic_1 hx hb dX7_read_35 ?_
  refine lv_istore_n (lv' := [(3, .int 1), (0, .ref (a 5)), (1, .int p0), (2, .ref (a 2))]) hx hb dX7_read_36 rfl hl (lt_b rfl) rfl (fun ls hl => ?_)
  refine ic_0 hx hb dX7_read_37 ?_
  refine lv_istore (lv' := [(4, .int 0), (3, .int 1), (0, .ref (a 5)), (1, .int p0), (2, .ref (a 2))]) hx hb dX7_read_38 hl (lt_b rfl) rfl (fun ls hl => ?_)
  have qc_22 : (0 : Int32).toInt = 0 := rfl
  have qc_23 : (1 : Int32).toInt = 1 := rfl
  refine loop_N (Inv := fun n H locs ls => ∃ (G_15 : GS) (x_19 : Int32) (x_20 : Int32), (n : Int) = 1600 - x_19.toInt ∧ (0 ≤ x_19.toInt ∧ x_19.toInt ≤ 1600) ∧ (0 ≤ x_20.toInt ∧ x_20.toInt ≤ 1) ∧ Rc (St_k_rRead_2_1) (0, 1, G_11) (x_19, x_20, G_15) ∧ Wd D k A a G_15 H ∧ Bd G_15 ∧ Fr [20, 21, 22, 23, 24, 25, 26, 27, 28, 34, 35, 36] [(2, 9), (2, 10), (2, 11), (2, 12), (2, 13), (2, 14), (2, 15), (2, 16), (3, 1), (3, 2), (3, 3), (3, 4), (3, 5), (3, 6), (3, 7), (3, 8), (4, 1), (4, 2), (5, 5), (5, 6), (5, 7), (5, 8), (5, 9)] G G_15 ∧ Fr [20, 21, 22, 23, 24, 25, 26, 27, 28, 34, 35, 36] [(2, 9), (2, 10), (2, 11), (2, 12), (2, 13), (2, 14), (2, 15), (2, 16), (3, 2), (3, 3), (3, 4), (3, 5), (3, 6), (3, 7), (3, 8), (4, 1), (4, 2), (5, 6), (5, 7), (5, 8), (5, 9)] G_11 G_15 ∧ va_S A s.heap H locs ∧ lv_has ls 5 [(4, .int x_19), (3, .int x_20), (0, .ref (a 5))]) (fun n_18 H locs ls ih_17 hI => ?_) (1600 - 0 : Int).toNat ⟨G_11, 0, 1, (Int.toNat_of_nonneg ((by decide))), ⟨(by decide), (by decide)⟩, ⟨(by decide), (by decide)⟩, Rc.rf, hW, hB_G_11, hF, Fr.rf, hS, lv_sub hl [0, 1, 2] rfl⟩
  obtain ⟨G_15, x_19, x_20, hn_26, f_24, f_25, hX_21, hW, hB_G_15, hF, hq_16, hS, hl⟩ := hI
  refine lv_iload_n hx hb dX7_read_40 rfl (lv_at hl 1 rfl) ?_
  refine lv_if_eq (tgt := 195) hx hb dX7_read_41 rfl (fun c_27 => ?_) (fun c_27 => ?_)
  · have c_27 : x_20.toInt = 0 := xI_eq rfl rfl c_27
    refine lv_iload_n hx hb dX7_read_195 rfl (lv_at hl 1 rfl) ?_
    exact W.zret (v := x_20) hx hb hr (nar_z ((by first | exact f_25.1 | omega)) ((by first | exact f_25.2 | omega))) (fun t ht _ => ⟨⟨x_20, G_15, rfl, (P_rRead_2_mk ⟨hB_G_15, hF, ⟨(by first | exact f_25.1 | omega), (by first | exact f_25.2 | omega)⟩, ⟨G_1, hB_G_1, (Fr.putr (rs := []) (fs := [(5, 5)]) Fr.rf eG_1 (Or.inr (by decide))), (gp_re eG_1), ⟨G_3, hX_6, ⟨G_9, hB_G_9, (Fr.put (rs := []) (fs := [(5, 6), (5, 7), (5, 8)]) (Fr.put (rs := []) (fs := [(5, 6), (5, 7), (5, 8)]) (Fr.put (rs := []) (fs := [(5, 6), (5, 7), (5, 8)]) Fr.rf eG_7 (Or.inr (by decide))) eG_8 (Or.inr (by decide))) eG_9 (Or.inr (by decide))), ((gp_ne eG_9 (by decide)).trans ((gp_ne eG_8 (by decide)).trans (gp_eq eG_7))), ((gp_ne eG_9 (by decide)).trans (gp_eq eG_8)), (gp_eq eG_9), ⟨G_11, hX_14, ⟨x_19, x_20, G_15, hX_21, f_24, f_25, hB_G_15, hq_16, (Or.inl ⟨c_27, ⟨rfl, rfl⟩⟩)⟩⟩⟩⟩⟩⟩), wd_t ht hW⟩, hS.F ht⟩) hS.2.2 dX7_read_196
  · have c_27 : x_20.toInt ≠ 0 := xI_ne rfl rfl c_27
    refine lv_iload hx hb dX7_read_44 (lv_at hl 0 rfl) ?_
    refine lv_sipush (v := 1600) hx hb dX7_read_46 (by decide) ?_
    refine lv_icmp_ge (tgt := 195) hx hb dX7_read_49 rfl (fun c_28 => ?_) (fun c_28 => ?_)
    · have c_28 : 1600 ≤ x_19.toInt := xI_le rfl rfl c_28
      refine lv_iload_n hx hb dX7_read_195 rfl (lv_at hl 1 rfl) ?_
      exact W.zret (v := x_20) hx hb hr (nar_z ((by first | exact f_25.1 | omega)) ((by first | exact f_25.2 | omega))) (fun t ht _ => ⟨⟨x_20, G_15, rfl, (P_rRead_2_mk ⟨hB_G_15, hF, ⟨(by first | exact f_25.1 | omega), (by first | exact f_25.2 | omega)⟩, ⟨G_1, hB_G_1, (Fr.putr (rs := []) (fs := [(5, 5)]) Fr.rf eG_1 (Or.inr (by decide))), (gp_re eG_1), ⟨G_3, hX_6, ⟨G_9, hB_G_9, (Fr.put (rs := []) (fs := [(5, 6), (5, 7), (5, 8)]) (Fr.put (rs := []) (fs := [(5, 6), (5, 7), (5, 8)]) (Fr.put (rs := []) (fs := [(5, 6), (5, 7), (5, 8)]) Fr.rf eG_7 (Or.inr (by decide))) eG_8 (Or.inr (by decide))) eG_9 (Or.inr (by decide))), ((gp_ne eG_9 (by decide)).trans ((gp_ne eG_8 (by decide)).trans (gp_eq eG_7))), ((gp_ne eG_9 (by decide)).trans (gp_eq eG_8)), (gp_eq eG_9), ⟨G_11, hX_14, ⟨x_19, x_20, G_15, hX_21, f_24, f_25, hB_G_15, hq_16, (Or.inr ⟨c_27, (Or.inl ⟨c_28, ⟨rfl, rfl⟩⟩)⟩)⟩⟩⟩⟩⟩⟩), wd_t ht hW⟩, hS.F ht⟩) hS.2.2 dX7_read_196
    · have c_28 : x_19.toInt < 1600 := xI_nle rfl rfl c_28
      refine lv_aload_n hx hb dX7_read_52 rfl (lv_at hl 2 rfl) ?_
      refine S_getR (n := 3) (C := RX7) (T := TX7) (N := 10) hx hb hg iX7 hown hK hW kd_5 rfl 0 (lt_b rfl) (hg (Cond.fieldLink RX7 26 "SlabWalk$Reader" "tokens" "LSlabWalk$Tokens;") m311) (fun _ h9 => h9) rfl dX7_read_53 ?_
      refine S_getI (v := (G_15.1 3 3)) (C := RX9) (T := TX9) (N := 9) hx hb hg iX9 hown hK hW kd_3 rfl 3 (lt_b rfl) (hg (Cond.fieldLink RX7 62 "SlabWalk$Tokens" "kind" "I") m261) (fun _ h9 => h9) rfl rfl dX7_read_56 ?_
      refine lv_sipush (v := 203) hx hb dX7_read_59 (by decide) ?_
      refine lv_icmp_eq (tgt := 195) hx hb dX7_read_62 rfl (fun c_29 => ?_) (fun c_29 => ?_)
      · have c_29 : (G_15.1 3 3).toInt = 203 := xI_eq rfl rfl c_29
        refine lv_iload_n hx hb dX7_read_195 rfl (lv_at hl 1 rfl) ?_
        exact W.zret (v := x_20) hx hb hr (nar_z ((by first | exact f_25.1 | omega)) ((by first | exact f_25.2 | omega))) (fun t ht _ => ⟨⟨x_20, G_15, rfl, (P_rRead_2_mk ⟨hB_G_15, hF, ⟨(by first | exact f_25.1 | omega), (by first | exact f_25.2 | omega)⟩, ⟨G_1, hB_G_1, (Fr.putr (rs := []) (fs := [(5, 5)]) Fr.rf eG_1 (Or.inr (by decide))), (gp_re eG_1), ⟨G_3, hX_6, ⟨G_9, hB_G_9, (Fr.put (rs := []) (fs := [(5, 6), (5, 7), (5, 8)]) (Fr.put (rs := []) (fs := [(5, 6), (5, 7), (5, 8)]) (Fr.put (rs := []) (fs := [(5, 6), (5, 7), (5, 8)]) Fr.rf eG_7 (Or.inr (by decide))) eG_8 (Or.inr (by decide))) eG_9 (Or.inr (by decide))), ((gp_ne eG_9 (by decide)).trans ((gp_ne eG_8 (by decide)).trans (gp_eq eG_7))), ((gp_ne eG_9 (by decide)).trans (gp_eq eG_8)), (gp_eq eG_9), ⟨G_11, hX_14, ⟨x_19, x_20, G_15, hX_21, f_24, f_25, hB_G_15, hq_16, (Or.inr ⟨c_27, (Or.inr ⟨c_28, ⟨c_29, ⟨rfl, rfl⟩⟩⟩)⟩)⟩⟩⟩⟩⟩⟩), wd_t ht hW⟩, hS.F ht⟩) hS.2.2 dX7_read_196
      · have c_29 : (G_15.1 3 3).toInt ≠ 203 := xI_ne rfl rfl c_29
        refine lv_aload_n hx hb dX7_read_65 rfl (lv_at hl 2 rfl) ?_
        refine S_getR (n := 3) (C := RX7) (T := TX7) (N := 10) hx hb hg iX7 hown hK hW kd_5 rfl 0 (lt_b rfl) (hg (Cond.fieldLink RX7 26 "SlabWalk$Reader" "tokens" "LSlabWalk$Tokens;") m311) (fun _ h9 => h9) rfl dX7_read_66 ?_
        refine S_getI (v := (G_15.1 3 3)) (C := RX9) (T := TX9) (N := 9) hx hb hg iX9 hown hK hW kd_3 rfl 3 (lt_b rfl) (hg (Cond.fieldLink RX7 62 "SlabWalk$Tokens" "kind" "I") m261) (fun _ h9 => h9) rfl rfl dX7_read_69 ?_
        by_cases c_30 : (G_15.1 3 3) = 128
        · refine lv_tableIn (tgt := 132) hx hb dX7_read_72 (by rw [c_30]; decide) (by rw [c_30]; decide) (off := 60) (by rw [c_30]; decide) (by decide) ?_
          have c_30 : (G_15.1 3 3).toInt = 128 := xI_eq rfl rfl c_30
          refine lv_aload_n hx hb dX7_read_132 rfl (lv_at hl 2 rfl) ?_
          refine S_calli (va_runV (As := []) (rest := []) ⟨hx, hb, hml, hown, hts⟩ (k_rStreet_2 l D k A a z G_15  ((hq_16.r9 5 5 rfl rfl).trans ((hq_12.r9 5 5 rfl rfl).trans ((congrFun (congrFun (congrArg (fun q => q.2.2) eG_9) 5) 5).trans ((congrFun (congrFun (congrArg (fun q => q.2.2) eG_8) 5) 5).trans ((congrFun (congrFun (congrArg (fun q => q.2.2) eG_7) 5) 5).trans ((hq_4.r9 5 5 rfl rfl).trans (gp_re eG_1)))))))) (cwV 0 hts (gd_V hgd m769 m771 m8 m119 m772) rfl rfl rfl hd_X7_readStreet ⟨Nat.le_of_ble_eq_true rfl, Nat.le_of_ble_eq_true rfl⟩) (pre_W hW hB_G_15 hK hZ hS kd_5 rfl) rfl rfl hl.1 rfl (lv_room (Nat.le_of_ble_eq_true rfl)) dX7_read_133 ⟨Nat.le_of_ble_eq_true rfl, Nat.le_of_ble_eq_true rfl⟩) hS (fun r_31 G_32 H locs hpo hW hS => ?_)
          have hX_35 : P_rStreet_2 G_15 r_31 G_32 := hpo
          obtain ⟨hB_G_32, hq_33, f_36, -⟩ := hpo
          have hF := hF.call9 hq_33 rfl rfl
          refine lv_istore_n (lv' := [(3, .int r_31), (4, .int x_19), (0, .ref (a 5))]) hx hb dX7_read_136 rfl hl (lt_b rfl) rfl (fun ls hl => ?_)
          refine lv_goto (tgt := 189) hx hb dX7_read_137 rfl ?_
          obtain ⟨y_37, ey_37⟩ : ∃ q, q = x_19 + 1 := ⟨_, rfl⟩
          have ty_37 : y_37.toInt = x_19.toInt + 1 := xI_add rfl rfl ey_37 ((by first | exact ok_21 f_24.1 | omega)) ((by first | exact ok_122 f_24.2 | omega))
          refine lv_iinc (v := y_37) (lv' := [(4, .int y_37), (3, .int r_31), (0, .ref (a 5))]) hx hb dX7_read_189 hl (k := 1) rfl (by rw [ey_37]; rfl) (lt_b rfl) rfl (fun ls hl => ?_)
          refine lv_goto (tgt := 40) hx hb dX7_read_192 rfl ?_
          exact ih_17 (1600 - y_37.toInt : Int).toNat ((by first | (clear ha_p0 f_25 c_27 c_29 c_30 f_36; omega) | omega)) _ _ _ ⟨G_32, y_37, r_31, (Int.toNat_of_nonneg ((by first | exact ok_388 f_24.2 c_28 ty_37 | omega))), ⟨(by first | exact ok_23 f_24.1 ty_37 | omega), (by first | exact ok_389 f_24.2 c_28 ty_37 | omega)⟩, ⟨(by first | exact f_36.1 | omega), (by first | exact f_36.2 | omega)⟩, (hX_21.st (St_k_rRead_2_1_mk ⟨x_19, x_20, G_15, y_37, r_31, G_32, rfl, rfl, f_24, f_25, hB_G_15, ⟨c_27, ⟨c_28, ⟨c_29, (Or.inl ⟨c_30, ⟨r_31, G_32, hX_35, ⟨y_37, ty_37, ⟨rfl, rfl, rfl⟩⟩⟩⟩)⟩⟩⟩⟩)), hW, hB_G_32, hF, (Fr.call9 (rs := [20, 21, 22, 23, 24, 25, 26, 27, 28, 34, 35, 36]) (fs := [(2, 9), (2, 10), (2, 11), (2, 12), (2, 13), (2, 14), (2, 15), (2, 16), (3, 2), (3, 3), (3, 4), (3, 5), (3, 6), (3, 7), (3, 8), (4, 1), (4, 2), (5, 6), (5, 7), (5, 8), (5, 9)]) (Fr.call9 (rs := [20, 21, 22, 23, 24, 25, 26, 27, 28, 34, 35, 36]) (fs := [(2, 9), (2, 10), (2, 11), (2, 12), (2, 13), (2, 14), (2, 15), (2, 16), (3, 2), (3, 3), (3, 4), (3, 5), (3, 6), (3, 7), (3, 8), (4, 1), (4, 2), (5, 6), (5, 7), (5, 8), (5, 9)]) Fr.rf hq_16 rfl rfl) hq_33 rfl rfl), hS, lv_sub hl [0, 1, 2] rfl⟩
        by_cases c_38 : (G_15.1 3 3) = 129
        · refine lv_tableIn (tgt := 140) hx hb dX7_read_72 (by rw [c_38]; decide) (by rw [c_38]; decide) (off := 68) (by rw [c_38]; decide) (by decide) ?_
          have c_38 : (G_15.1 3 3).toInt = 129 := xI_eq rfl rfl c_38
          refine lv_aload_n hx hb dX7_read_140 rfl (lv_at hl 2 rfl) ?_
          refine S_calli (va_runV (As := []) (rest := []) ⟨hx, hb, hml, hown, hts⟩ (k_rWalker_2 l D k A a z G_15  ((hq_16.r9 5 5 rfl rfl).trans ((hq_12.r9 5 5 rfl rfl).trans ((congrFun (congrFun (congrArg (fun q => q.2.2) eG_9) 5) 5).trans ((congrFun (congrFun (congrArg (fun q => q.2.2) eG_8) 5) 5).trans ((congrFun (congrFun (congrArg (fun q => q.2.2) eG_7) 5) 5).trans ((hq_4.r9 5 5 rfl rfl).trans (gp_re eG_1)))))))) (cwV 0 hts (gd_V hgd m809 m811 m14 m119 m812) rfl rfl rfl hd_X7_readWalker ⟨Nat.le_of_ble_eq_true rfl, Nat.le_of_ble_eq_true rfl⟩) (pre_W hW hB_G_15 hK hZ hS kd_5 rfl) rfl rfl hl.1 rfl (lv_room (Nat.le_of_ble_eq_true rfl)) dX7_read_141 ⟨Nat.le_of_ble_eq_true rfl, Nat.le_of_ble_eq_true rfl⟩) hS (fun r_39 G_40 H locs hpo hW hS => ?_)
          have hX_43 : P_rWalker_2 G_15 r_39 G_40 := hpo
          obtain ⟨hB_G_40, hq_41, f_44, -⟩ := hpo
          have hF := hF.call9 hq_41 rfl rfl
          refine lv_istore_n (lv' := [(3, .int r_39), (4, .int x_19), (0, .ref (a 5))]) hx hb dX7_read_144 rfl hl (lt_b rfl) rfl (fun ls hl => ?_)
          refine lv_goto (tgt := 189) hx hb dX7_read_145 rfl ?_
          obtain ⟨y_45, ey_45⟩ : ∃ q, q = x_19 + 1 := ⟨_, rfl⟩
          have ty_45 : y_45.toInt = x_19.toInt + 1 := xI_add rfl rfl ey_45 ((by first | exact ok_21 f_24.1 | omega)) ((by first | exact ok_122 f_24.2 | omega))
          refine lv_iinc (v := y_45) (lv' := [(4, .int y_45), (3, .int r_39), (0, .ref (a 5))]) hx hb dX7_read_189 hl (k := 1) rfl (by rw [ey_45]; rfl) (lt_b rfl) rfl (fun ls hl => ?_)
          refine lv_goto (tgt := 40) hx hb dX7_read_192 rfl ?_
          exact ih_17 (1600 - y_45.toInt : Int).toNat ((by first | (clear ha_p0 f_25 c_27 c_29 c_38 f_44; omega) | omega)) _ _ _ ⟨G_40, y_45, r_39, (Int.toNat_of_nonneg ((by first | exact ok_388 f_24.2 c_28 ty_45 | omega))), ⟨(by first | exact ok_23 f_24.1 ty_45 | omega), (by first | exact ok_389 f_24.2 c_28 ty_45 | omega)⟩, ⟨(by first | exact f_44.1 | omega), (by first | exact f_44.2 | omega)⟩, (hX_21.st (St_k_rRead_2_1_mk ⟨x_19, x_20, G_15, y_45, r_39, G_40, rfl, rfl, f_24, f_25, hB_G_15, ⟨c_27, ⟨c_28, ⟨c_29, (Or.inr ⟨(xI_ne (Y := 128) rfl rfl c_30), (Or.inl ⟨c_38, ⟨r_39, G_40, hX_43, ⟨y_45, ty_45, ⟨rfl, rfl, rfl⟩⟩⟩⟩)⟩)⟩⟩⟩⟩)), hW, hB_G_40, hF, (Fr.call9 (rs := [20, 21, 22, 23, 24, 25, 26, 27, 28, 34, 35, 36]) (fs := [(2, 9), (2, 10), (2, 11), (2, 12), (2, 13), (2, 14), (2, 15), (2, 16), (3, 2), (3, 3), (3, 4), (3, 5), (3, 6), (3, 7), (3, 8), (4, 1), (4, 2), (5, 6), (5, 7), (5, 8), (5, 9)]) (Fr.call9 (rs := [20, 21, 22, 23, 24, 25, 26, 27, 28, 34, 35, 36]) (fs := [(2, 9), (2, 10), (2, 11), (2, 12), (2, 13), (2, 14), (2, 15), (2, 16), (3, 2), (3, 3), (3, 4), (3, 5), (3, 6), (3, 7), (3, 8), (4, 1), (4, 2), (5, 6), (5, 7), (5, 8), (5, 9)]) Fr.rf hq_16 rfl rfl) hq_41 rfl rfl), hS, lv_sub hl [0, 1, 2] rfl⟩
        by_cases c_46 : (G_15.1 3 3) = 130
        · refine lv_tableIn (tgt := 180) hx hb dX7_read_72 (by rw [c_46]; decide) (by rw [c_46]; decide) (off := 108) (by rw [c_46]; decide) (by decide) ?_
          have c_46 : (G_15.1 3 3).toInt = 130 := xI_eq rfl rfl c_46
          refine lv_aload_n hx hb dX7_read_180 rfl (lv_at hl 2 rfl) ?_
          refine S_getR (n := 3) (C := RX7) (T := TX7) (N := 10) hx hb hg iX7 hown hK hW kd_5 rfl 0 (lt_b rfl) (hg (Cond.fieldLink RX7 26 "SlabWalk$Reader" "tokens" "LSlabWalk$Tokens;") m311) (fun _ h9 => h9) rfl dX7_read_181 ?_
          refine ic_2 hx hb dX7_read_184 ?_
          refine S_calli (va_runV (As := [.int 2]) (rest := []) ⟨hx, hb, hml, hown, hts⟩ (k_tRefuse l D k A a z G_15 2 ⟨by decide, by decide⟩) (cwV 1 hts (gd_V hgd m778 m779 m780 m120 m781) rfl rfl rfl hd_X9_refuse ⟨Nat.le_of_ble_eq_true rfl, Nat.le_of_ble_eq_true rfl⟩) (pre_W hW hB_G_15 hK hZ hS kd_3 rfl) rfl rfl hl.1 rfl (lv_room (Nat.le_of_ble_eq_true rfl)) dX7_read_185 ⟨Nat.le_of_ble_eq_true rfl, Nat.le_of_ble_eq_true rfl⟩) hS (fun r_47 G_48 H locs hpo hW hS => ?_)
          have hX_51 : P_tRefuse 2 G_15 r_47 G_48 := hpo
          obtain ⟨hB_G_48, hq_49, f_52, -⟩ := hpo
          have hF := hF.call9 hq_49 rfl rfl
          refine lv_istore_n (lv' := [(3, .int r_47), (4, .int x_19), (0, .ref (a 5))]) hx hb dX7_read_188 rfl hl (lt_b rfl) rfl (fun ls hl => ?_)
          obtain ⟨y_53, ey_53⟩ : ∃ q, q = x_19 + 1 := ⟨_, rfl⟩
          have ty_53 : y_53.toInt = x_19.toInt + 1 := xI_add rfl rfl ey_53 ((by first | exact ok_21 f_24.1 | omega)) ((by first | exact ok_122 f_24.2 | omega))
          refine lv_iinc (v := y_53) (lv' := [(4, .int y_53), (3, .int r_47), (0, .ref (a 5))]) hx hb dX7_read_189 hl (k := 1) rfl (by rw [ey_53]; rfl) (lt_b rfl) rfl (fun ls hl => ?_)
          refine lv_goto (tgt := 40) hx hb dX7_read_192 rfl ?_
          exact ih_17 (1600 - y_53.toInt : Int).toNat ((by first | (clear ha_p0 f_25 c_27 c_29 c_46 f_52; omega) | omega)) _ _ _ ⟨G_48, y_53, r_47, (Int.toNat_of_nonneg ((by first | exact ok_388 f_24.2 c_28 ty_53 | omega))), ⟨(by first | exact ok_23 f_24.1 ty_53 | omega), (by first | exact ok_389 f_24.2 c_28 ty_53 | omega)⟩, ⟨(by first | exact f_52.1 | omega), (by first | exact ok_130 f_52.2 | omega)⟩, (hX_21.st (St_k_rRead_2_1_mk ⟨x_19, x_20, G_15, y_53, r_47, G_48, rfl, rfl, f_24, f_25, hB_G_15, ⟨c_27, ⟨c_28, ⟨c_29, (Or.inr ⟨(xI_ne (Y := 128) rfl rfl c_30), (Or.inr ⟨(xI_ne (Y := 129) rfl rfl c_38), (Or.inl ⟨c_46, ⟨r_47, G_48, hX_51, ⟨y_53, ty_53, ⟨rfl, rfl, rfl⟩⟩⟩⟩)⟩)⟩)⟩⟩⟩⟩)), hW, hB_G_48, hF, (Fr.call9 (rs := [20, 21, 22, 23, 24, 25, 26, 27, 28, 34, 35, 36]) (fs := [(2, 9), (2, 10), (2, 11), (2, 12), (2, 13), (2, 14), (2, 15), (2, 16), (3, 2), (3, 3), (3, 4), (3, 5), (3, 6), (3, 7), (3, 8), (4, 1), (4, 2), (5, 6), (5, 7), (5, 8), (5, 9)]) (Fr.call9 (rs := [20, 21, 22, 23, 24, 25, 26, 27, 28, 34, 35, 36]) (fs := [(2, 9), (2, 10), (2, 11), (2, 12), (2, 13), (2, 14), (2, 15), (2, 16), (3, 2), (3, 3), (3, 4), (3, 5), (3, 6), (3, 7), (3, 8), (4, 1), (4, 2), (5, 6), (5, 7), (5, 8), (5, 9)]) Fr.rf hq_16 rfl rfl) hq_49 rfl rfl), hS, lv_sub hl [0, 1, 2] rfl⟩
        by_cases c_54 : (G_15.1 3 3) = 131
        · refine lv_tableIn (tgt := 180) hx hb dX7_read_72 (by rw [c_54]; decide) (by rw [c_54]; decide) (off := 108) (by rw [c_54]; decide) (by decide) ?_
          have c_54 : (G_15.1 3 3).toInt = 131 := xI_eq rfl rfl c_54
          refine lv_aload_n hx hb dX7_read_180 rfl (lv_at hl 2 rfl) ?_
          refine S_getR (n := 3) (C := RX7) (T := TX7) (N := 10) hx hb hg iX7 hown hK hW kd_5 rfl 0 (lt_b rfl) (hg (Cond.fieldLink RX7 26 "SlabWalk$Reader" "tokens" "LSlabWalk$Tokens;") m311) (fun _ h9 => h9) rfl dX7_read_181 ?_
          refine ic_2 hx hb dX7_read_184 ?_
          refine S_calli (va_runV (As := [.int 2]) (rest := []) ⟨hx, hb, hml, hown, hts⟩ (k_tRefuse l D k A a z G_15 2 ⟨by decide, by decide⟩) (cwV 1 hts (gd_V hgd m778 m779 m780 m120 m781) rfl rfl rfl hd_X9_refuse ⟨Nat.le_of_ble_eq_true rfl, Nat.le_of_ble_eq_true rfl⟩) (pre_W hW hB_G_15 hK hZ hS kd_3 rfl) rfl rfl hl.1 rfl (lv_room (Nat.le_of_ble_eq_true rfl)) dX7_read_185 ⟨Nat.le_of_ble_eq_true rfl, Nat.le_of_ble_eq_true rfl⟩) hS (fun r_55 G_56 H locs hpo hW hS => ?_)
          have hX_59 : P_tRefuse 2 G_15 r_55 G_56 := hpo
          obtain ⟨hB_G_56, hq_57, f_60, -⟩ := hpo
          have hF := hF.call9 hq_57 rfl rfl
          refine lv_istore_n (lv' := [(3, .int r_55), (4, .int x_19), (0, .ref (a 5))]) hx hb dX7_read_188 rfl hl (lt_b rfl) rfl (fun ls hl => ?_)
          obtain ⟨y_61, ey_61⟩ : ∃ q, q = x_19 + 1 := ⟨_, rfl⟩
          have ty_61 : y_61.toInt = x_19.toInt + 1 := xI_add rfl rfl ey_61 ((by first | exact ok_21 f_24.1 | omega)) ((by first | exact ok_122 f_24.2 | omega))
          refine lv_iinc (v := y_61) (lv' := [(4, .int y_61), (3, .int r_55), (0, .ref (a 5))]) hx hb dX7_read_189 hl (k := 1) rfl (by rw [ey_61]; rfl) (lt_b rfl) rfl (fun ls hl => ?_)
          refine lv_goto (tgt := 40) hx hb dX7_read_192 rfl ?_
          exact ih_17 (1600 - y_61.toInt : Int).toNat ((by first | (clear ha_p0 f_25 c_27 c_29 c_54 f_60; omega) | omega)) _ _ _ ⟨G_56, y_61, r_55, (Int.toNat_of_nonneg ((by first | exact ok_388 f_24.2 c_28 ty_61 | omega))), ⟨(by first | exact ok_23 f_24.1 ty_61 | omega), (by first | exact ok_389 f_24.2 c_28 ty_61 | omega)⟩, ⟨(by first | exact f_60.1 | omega), (by first | exact ok_130 f_60.2 | omega)⟩, (hX_21.st (St_k_rRead_2_1_mk ⟨x_19, x_20, G_15, y_61, r_55, G_56, rfl, rfl, f_24, f_25, hB_G_15, ⟨c_27, ⟨c_28, ⟨c_29, (Or.inr ⟨(xI_ne (Y := 128) rfl rfl c_30), (Or.inr ⟨(xI_ne (Y := 129) rfl rfl c_38), (Or.inr ⟨(xI_ne (Y := 130) rfl rfl c_46), (Or.inl ⟨c_54, ⟨r_55, G_56, hX_59, ⟨y_61, ty_61, ⟨rfl, rfl, rfl⟩⟩⟩⟩)⟩)⟩)⟩)⟩⟩⟩⟩)), hW, hB_G_56, hF, (Fr.call9 (rs := [20, 21, 22, 23, 24, 25, 26, 27, 28, 34, 35, 36]) (fs := [(2, 9), (2, 10), (2, 11), (2, 12), (2, 13), (2, 14), (2, 15), (2, 16), (3, 2), (3, 3), (3, 4), (3, 5), (3, 6), (3, 7), (3, 8), (4, 1), (4, 2), (5, 6), (5, 7), (5, 8), (5, 9)]) (Fr.call9 (rs := [20, 21, 22, 23, 24, 25, 26, 27, 28, 34, 35, 36]) (fs := [(2, 9), (2, 10), (2, 11), (2, 12), (2, 13), (2, 14), (2, 15), (2, 16), (3, 2), (3, 3), (3, 4), (3, 5), (3, 6), (3, 7), (3, 8), (4, 1), (4, 2), (5, 6), (5, 7), (5, 8), (5, 9)]) Fr.rf hq_16 rfl rfl) hq_57 rfl rfl), hS, lv_sub hl [0, 1, 2] rfl⟩
        by_cases c_62 : (G_15.1 3 3) = 132
        · refine lv_tableIn (tgt := 180) hx hb dX7_read_72 (by rw [c_62]; decide) (by rw [c_62]; decide) (off := 108) (by rw [c_62]; decide) (by decide) ?_
          have c_62 : (G_15.1 3 3).toInt = 132 := xI_eq rfl rfl c_62
          refine lv_aload_n hx hb dX7_read_180 rfl (lv_at hl 2 rfl) ?_
          refine S_getR (n := 3) (C := RX7) (T := TX7) (N := 10) hx hb hg iX7 hown hK hW kd_5 rfl 0 (lt_b rfl) (hg (Cond.fieldLink RX7 26 "SlabWalk$Reader" "tokens" "LSlabWalk$Tokens;") m311) (fun _ h9 => h9) rfl dX7_read_181 ?_
          refine ic_2 hx hb dX7_read_184 ?_
          refine S_calli (va_runV (As := [.int 2]) (rest := []) ⟨hx, hb, hml, hown, hts⟩ (k_tRefuse l D k A a z G_15 2 ⟨by decide, by decide⟩) (cwV 1 hts (gd_V hgd m778 m779 m780 m120 m781) rfl rfl rfl hd_X9_refuse ⟨Nat.le_of_ble_eq_true rfl, Nat.le_of_ble_eq_true rfl⟩) (pre_W hW hB_G_15 hK hZ hS kd_3 rfl) rfl rfl hl.1 rfl (lv_room (Nat.le_of_ble_eq_true rfl)) dX7_read_185 ⟨Nat.le_of_ble_eq_true rfl, Nat.le_of_ble_eq_true rfl⟩) hS (fun r_63 G_64 H locs hpo hW hS => ?_)
          have hX_67 : P_tRefuse 2 G_15 r_63 G_64 := hpo
          obtain ⟨hB_G_64, hq_65, f_68, -⟩ := hpo
          have hF := hF.call9 hq_65 rfl rfl
          refine lv_istore_n (lv' := [(3, .int r_63), (4, .int x_19), (0, .ref (a 5))]) hx hb dX7_read_188 rfl hl (lt_b rfl) rfl (fun ls hl => ?_)
          obtain ⟨y_69, ey_69⟩ : ∃ q, q = x_19 + 1 := ⟨_, rfl⟩
          have ty_69 : y_69.toInt = x_19.toInt + 1 := xI_add rfl rfl ey_69 ((by first | exact ok_21 f_24.1 | omega)) ((by first | exact ok_122 f_24.2 | omega))
          refine lv_iinc (v := y_69) (lv' := [(4, .int y_69), (3, .int r_63), (0, .ref (a 5))]) hx hb dX7_read_189 hl (k := 1) rfl (by rw [ey_69]; rfl) (lt_b rfl) rfl (fun ls hl => ?_)
          refine lv_goto (tgt := 40) hx hb dX7_read_192 rfl ?_
          exact ih_17 (1600 - y_69.toInt : Int).toNat ((by first | (clear ha_p0 f_25 c_27 c_29 c_62 f_68; omega) | omega)) _ _ _ ⟨G_64, y_69, r_63, (Int.toNat_of_nonneg ((by first | exact ok_388 f_24.2 c_28 ty_69 | omega))), ⟨(by first | exact ok_23 f_24.1 ty_69 | omega), (by first | exact ok_389 f_24.2 c_28 ty_69 | omega)⟩, ⟨(by first | exact f_68.1 | omega), (by first | exact ok_130 f_68.2 | omega)⟩, (hX_21.st (St_k_rRead_2_1_mk ⟨x_19, x_20, G_15, y_69, r_63, G_64, rfl, rfl, f_24, f_25, hB_G_15, ⟨c_27, ⟨c_28, ⟨c_29, (Or.inr ⟨(xI_ne (Y := 128) rfl rfl c_30), (Or.inr ⟨(xI_ne (Y := 129) rfl rfl c_38), (Or.inr ⟨(xI_ne (Y := 130) rfl rfl c_46), (Or.inr ⟨(xI_ne (Y := 131) rfl rfl c_54), (Or.inl ⟨c_62, ⟨r_63, G_64, hX_67, ⟨y_69, ty_69, ⟨rfl, rfl, rfl⟩⟩⟩⟩)⟩)⟩)⟩)⟩)⟩⟩⟩⟩)), hW, hB_G_64, hF, (Fr.call9 (rs := [20, 21, 22, 23, 24, 25, 26, 27, 28, 34, 35, 36]) (fs := [(2, 9), (2, 10), (2, 11), (2, 12), (2, 13), (2, 14), (2, 15), (2, 16), (3, 2), (3, 3), (3, 4), (3, 5), (3, 6), (3, 7), (3, 8), (4, 1), (4, 2), (5, 6), (5, 7), (5, 8), (5, 9)]) (Fr.call9 (rs := [20, 21, 22, 23, 24, 25, 26, 27, 28, 34, 35, 36]) (fs := [(2, 9), (2, 10), (2, 11), (2, 12), (2, 13), (2, 14), (2, 15), (2, 16), (3, 2), (3, 3), (3, 4), (3, 5), (3, 6), (3, 7), (3, 8), (4, 1), (4, 2), (5, 6), (5, 7), (5, 8), (5, 9)]) Fr.rf hq_16 rfl rfl) hq_65 rfl rfl), hS, lv_sub hl [0, 1, 2] rfl⟩
        by_cases c_70 : (G_15.1 3 3) = 133
        · refine lv_tableIn (tgt := 180) hx hb dX7_read_72 (by rw [c_70]; decide) (by rw [c_70]; decide) (off := 108) (by rw [c_70]; decide) (by decide) ?_
          have c_70 : (G_15.1 3 3).toInt = 133 := xI_eq rfl rfl c_70
          refine lv_aload_n hx hb dX7_read_180 rfl (lv_at hl 2 rfl) ?_
          refine S_getR (n := 3) (C := RX7) (T := TX7) (N := 10) hx hb hg iX7 hown hK hW kd_5 rfl 0 (lt_b rfl) (hg (Cond.fieldLink RX7 26 "SlabWalk$Reader" "tokens" "LSlabWalk$Tokens;") m311) (fun _ h9 => h9) rfl dX7_read_181 ?_
          refine ic_2 hx hb dX7_read_184 ?_
          refine S_calli (va_runV (As := [.int 2]) (rest := []) ⟨hx, hb, hml, hown, hts⟩ (k_tRefuse l D k A a z G_15 2 ⟨by decide, by decide⟩) (cwV 1 hts (gd_V hgd m778 m779 m780 m120 m781) rfl rfl rfl hd_X9_refuse ⟨Nat.le_of_ble_eq_true rfl, Nat.le_of_ble_eq_true rfl⟩) (pre_W hW hB_G_15 hK hZ hS kd_3 rfl) rfl rfl hl.1 rfl (lv_room (Nat.le_of_ble_eq_true rfl)) dX7_read_185 ⟨Nat.le_of_ble_eq_true rfl, Nat.le_of_ble_eq_true rfl⟩) hS (fun r_71 G_72 H locs hpo hW hS => ?_)
          have hX_75 : P_tRefuse 2 G_15 r_71 G_72 := hpo
          obtain ⟨hB_G_72, hq_73, f_76, -⟩ := hpo
          have hF := hF.call9 hq_73 rfl rfl
          refine lv_istore_n (lv' := [(3, .int r_71), (4, .int x_19), (0, .ref (a 5))]) hx hb dX7_read_188 rfl hl (lt_b rfl) rfl (fun ls hl => ?_)
          obtain ⟨y_77, ey_77⟩ : ∃ q, q = x_19 + 1 := ⟨_, rfl⟩
          have ty_77 : y_77.toInt = x_19.toInt + 1 := xI_add rfl rfl ey_77 ((by first | exact ok_21 f_24.1 | omega)) ((by first | exact ok_122 f_24.2 | omega))
          refine lv_iinc (v := y_77) (lv' := [(4, .int y_77), (3, .int r_71), (0, .ref (a 5))]) hx hb dX7_read_189 hl (k := 1) rfl (by rw [ey_77]; rfl) (lt_b rfl) rfl (fun ls hl => ?_)
          refine lv_goto (tgt := 40) hx hb dX7_read_192 rfl ?_
          exact ih_17 (1600 - y_77.toInt : Int).toNat ((by first | (clear ha_p0 f_25 c_27 c_29 c_70 f_76; omega) | omega)) _ _ _ ⟨G_72, y_77, r_71, (Int.toNat_of_nonneg ((by first | exact ok_388 f_24.2 c_28 ty_77 | omega))), ⟨(by first | exact ok_23 f_24.1 ty_77 | omega), (by first | exact ok_389 f_24.2 c_28 ty_77 | omega)⟩, ⟨(by first | exact f_76.1 | omega), (by first | exact ok_130 f_76.2 | omega)⟩, (hX_21.st (St_k_rRead_2_1_mk ⟨x_19, x_20, G_15, y_77, r_71, G_72, rfl, rfl, f_24, f_25, hB_G_15, ⟨c_27, ⟨c_28, ⟨c_29, (Or.inr ⟨(xI_ne (Y := 128) rfl rfl c_30), (Or.inr ⟨(xI_ne (Y := 129) rfl rfl c_38), (Or.inr ⟨(xI_ne (Y := 130) rfl rfl c_46), (Or.inr ⟨(xI_ne (Y := 131) rfl rfl c_54), (Or.inr ⟨(xI_ne (Y := 132) rfl rfl c_62), (Or.inl ⟨c_70, ⟨r_71, G_72, hX_75, ⟨y_77, ty_77, ⟨rfl, rfl, rfl⟩⟩⟩⟩)⟩)⟩)⟩)⟩)⟩)⟩⟩⟩⟩)), hW, hB_G_72, hF, (Fr.call9 (rs := [20, 21, 22, 23, 24, 25, 26, 27, 28, 34, 35, 36]) (fs := [(2, 9), (2, 10), (2, 11), (2, 12), (2, 13), (2, 14), (2, 15), (2, 16), (3, 2), (3, 3), (3, 4), (3, 5), (3, 6), (3, 7), (3, 8), (4, 1), (4, 2), (5, 6), (5, 7), (5, 8), (5, 9)]) (Fr.call9 (rs := [20, 21, 22, 23, 24, 25, 26, 27, 28, 34, 35, 36]) (fs := [(2, 9), (2, 10), (2, 11), (2, 12), (2, 13), (2, 14), (2, 15), (2, 16), (3, 2), (3, 3), (3, 4), (3, 5), (3, 6), (3, 7), (3, 8), (4, 1), (4, 2), (5, 6), (5, 7), (5, 8), (5, 9)]) Fr.rf hq_16 rfl rfl) hq_73 rfl rfl), hS, lv_sub hl [0, 1, 2] rfl⟩
        by_cases c_78 : (G_15.1 3 3) = 134
        · refine lv_tableIn (tgt := 148) hx hb dX7_read_72 (by rw [c_78]; decide) (by rw [c_78]; decide) (off := 76) (by rw [c_78]; decide) (by decide) ?_
          have c_78 : (G_15.1 3 3).toInt = 134 := xI_eq rfl rfl c_78
          refine lv_aload_n hx hb dX7_read_148 rfl (lv_at hl 2 rfl) ?_
          refine S_calli (va_runV (As := []) (rest := []) ⟨hx, hb, hml, hown, hts⟩ (k_rRule_2 l D k A a z G_15  ((hq_16.r9 5 5 rfl rfl).trans ((hq_12.r9 5 5 rfl rfl).trans ((congrFun (congrFun (congrArg (fun q => q.2.2) eG_9) 5) 5).trans ((congrFun (congrFun (congrArg (fun q => q.2.2) eG_8) 5) 5).trans ((congrFun (congrFun (congrArg (fun q => q.2.2) eG_7) 5) 5).trans ((hq_4.r9 5 5 rfl rfl).trans (gp_re eG_1)))))))) (cwV 0 hts (gd_V hgd m813 m815 m15 m119 m816) rfl rfl rfl hd_X7_readRule ⟨Nat.le_of_ble_eq_true rfl, Nat.le_of_ble_eq_true rfl⟩) (pre_W hW hB_G_15 hK hZ hS kd_5 rfl) rfl rfl hl.1 rfl (lv_room (Nat.le_of_ble_eq_true rfl)) dX7_read_149 ⟨Nat.le_of_ble_eq_true rfl, Nat.le_of_ble_eq_true rfl⟩) hS (fun r_79 G_80 H locs hpo hW hS => ?_)
          have hX_83 : P_rRule_2 G_15 r_79 G_80 := hpo
          obtain ⟨hB_G_80, hq_81, f_84, -⟩ := hpo
          have hF := hF.call9 hq_81 rfl rfl
          refine lv_istore_n (lv' := [(3, .int r_79), (4, .int x_19), (0, .ref (a 5))]) hx hb dX7_read_152 rfl hl (lt_b rfl) rfl (fun ls hl => ?_)
          refine lv_goto (tgt := 189) hx hb dX7_read_153 rfl ?_
          obtain ⟨y_85, ey_85⟩ : ∃ q, q = x_19 + 1 := ⟨_, rfl⟩
          have ty_85 : y_85.toInt = x_19.toInt + 1 := xI_add rfl rfl ey_85 ((by first | exact ok_21 f_24.1 | omega)) ((by first | exact ok_122 f_24.2 | omega))
          refine lv_iinc (v := y_85) (lv' := [(4, .int y_85), (3, .int r_79), (0, .ref (a 5))]) hx hb dX7_read_189 hl (k := 1) rfl (by rw [ey_85]; rfl) (lt_b rfl) rfl (fun ls hl => ?_)
          refine lv_goto (tgt := 40) hx hb dX7_read_192 rfl ?_
          exact ih_17 (1600 - y_85.toInt : Int).toNat ((by first | (clear ha_p0 f_25 c_27 c_29 c_78 f_84; omega) | omega)) _ _ _ ⟨G_80, y_85, r_79, (Int.toNat_of_nonneg ((by first | exact ok_388 f_24.2 c_28 ty_85 | omega))), ⟨(by first | exact ok_23 f_24.1 ty_85 | omega), (by first | exact ok_389 f_24.2 c_28 ty_85 | omega)⟩, ⟨(by first | exact f_84.1 | omega), (by first | exact f_84.2 | omega)⟩, (hX_21.st (St_k_rRead_2_1_mk ⟨x_19, x_20, G_15, y_85, r_79, G_80, rfl, rfl, f_24, f_25, hB_G_15, ⟨c_27, ⟨c_28, ⟨c_29, (Or.inr ⟨(xI_ne (Y := 128) rfl rfl c_30), (Or.inr ⟨(xI_ne (Y := 129) rfl rfl c_38), (Or.inr ⟨(xI_ne (Y := 130) rfl rfl c_46), (Or.inr ⟨(xI_ne (Y := 131) rfl rfl c_54), (Or.inr ⟨(xI_ne (Y := 132) rfl rfl c_62), (Or.inr ⟨(xI_ne (Y := 133) rfl rfl c_70), (Or.inl ⟨c_78, ⟨r_79, G_80, hX_83, ⟨y_85, ty_85, ⟨rfl, rfl, rfl⟩⟩⟩⟩)⟩)⟩)⟩)⟩)⟩)⟩)⟩⟩⟩⟩)), hW, hB_G_80, hF, (Fr.call9 (rs := [20, 21, 22, 23, 24, 25, 26, 27, 28, 34, 35, 36]) (fs := [(2, 9), (2, 10), (2, 11), (2, 12), (2, 13), (2, 14), (2, 15), (2, 16), (3, 2), (3, 3), (3, 4), (3, 5), (3, 6), (3, 7), (3, 8), (4, 1), (4, 2), (5, 6), (5, 7), (5, 8), (5, 9)]) (Fr.call9 (rs := [20, 21, 22, 23, 24, 25, 26, 27, 28, 34, 35, 36]) (fs := [(2, 9), (2, 10), (2, 11), (2, 12), (2, 13), (2, 14), (2, 15), (2, 16), (3, 2), (3, 3), (3, 4), (3, 5), (3, 6), (3, 7), (3, 8), (4, 1), (4, 2), (5, 6), (5, 7), (5, 8), (5, 9)]) Fr.rf hq_16 rfl rfl) hq_81 rfl rfl), hS, lv_sub hl [0, 1, 2] rfl⟩
        by_cases c_86 : (G_15.1 3 3) = 135
        · refine lv_tableIn (tgt := 156) hx hb dX7_read_72 (by rw [c_86]; decide) (by rw [c_86]; decide) (off := 84) (by rw [c_86]; decide) (by decide) ?_
          have c_86 : (G_15.1 3 3).toInt = 135 := xI_eq rfl rfl c_86
          refine lv_aload_n hx hb dX7_read_156 rfl (lv_at hl 2 rfl) ?_
          refine S_calli (va_runV (As := []) (rest := []) ⟨hx, hb, hml, hown, hts⟩ (k_rSlip_2 l D k A a z G_15  ((hq_16.r9 5 5 rfl rfl).trans ((hq_12.r9 5 5 rfl rfl).trans ((congrFun (congrFun (congrArg (fun q => q.2.2) eG_9) 5) 5).trans ((congrFun (congrFun (congrArg (fun q => q.2.2) eG_8) 5) 5).trans ((congrFun (congrFun (congrArg (fun q => q.2.2) eG_7) 5) 5).trans ((hq_4.r9 5 5 rfl rfl).trans (gp_re eG_1)))))))) (cwV 0 hts (gd_V hgd m862 m864 m24 m119 m865) rfl rfl rfl hd_X7_readSlip ⟨Nat.le_of_ble_eq_true rfl, Nat.le_of_ble_eq_true rfl⟩) (pre_W hW hB_G_15 hK hZ hS kd_5 rfl) rfl rfl hl.1 rfl (lv_room (Nat.le_of_ble_eq_true rfl)) dX7_read_157 ⟨Nat.le_of_ble_eq_true rfl, Nat.le_of_ble_eq_true rfl⟩) hS (fun r_87 G_88 H locs hpo hW hS => ?_)
          have hX_91 : P_rSlip_2 G_15 r_87 G_88 := hpo
          obtain ⟨hB_G_88, hq_89, f_92, -⟩ := hpo
          have hF := hF.call9 hq_89 rfl rfl
          refine lv_istore_n (lv' := [(3, .int r_87), (4, .int x_19), (0, .ref (a 5))]) hx hb dX7_read_160 rfl hl (lt_b rfl) rfl (fun ls hl => ?_)
          refine lv_goto (tgt := 189) hx hb dX7_read_161 rfl ?_
          obtain ⟨y_93, ey_93⟩ : ∃ q, q = x_19 + 1 := ⟨_, rfl⟩
          have ty_93 : y_93.toInt = x_19.toInt + 1 := xI_add rfl rfl ey_93 ((by first | exact ok_21 f_24.1 | omega)) ((by first | exact ok_122 f_24.2 | omega))
          refine lv_iinc (v := y_93) (lv' := [(4, .int y_93), (3, .int r_87), (0, .ref (a 5))]) hx hb dX7_read_189 hl (k := 1) rfl (by rw [ey_93]; rfl) (lt_b rfl) rfl (fun ls hl => ?_)
          refine lv_goto (tgt := 40) hx hb dX7_read_192 rfl ?_
          exact ih_17 (1600 - y_93.toInt : Int).toNat ((by first | (clear ha_p0 f_25 c_27 c_29 c_86 f_92; omega) | omega)) _ _ _ ⟨G_88, y_93, r_87, (Int.toNat_of_nonneg ((by first | exact ok_388 f_24.2 c_28 ty_93 | omega))), ⟨(by first | exact ok_23 f_24.1 ty_93 | omega), (by first | exact ok_389 f_24.2 c_28 ty_93 | omega)⟩, ⟨(by first | exact f_92.1 | omega), (by first | exact f_92.2 | omega)⟩, (hX_21.st (St_k_rRead_2_1_mk ⟨x_19, x_20, G_15, y_93, r_87, G_88, rfl, rfl, f_24, f_25, hB_G_15, ⟨c_27, ⟨c_28, ⟨c_29, (Or.inr ⟨(xI_ne (Y := 128) rfl rfl c_30), (Or.inr ⟨(xI_ne (Y := 129) rfl rfl c_38), (Or.inr ⟨(xI_ne (Y := 130) rfl rfl c_46), (Or.inr ⟨(xI_ne (Y := 131) rfl rfl c_54), (Or.inr ⟨(xI_ne (Y := 132) rfl rfl c_62), (Or.inr ⟨(xI_ne (Y := 133) rfl rfl c_70), (Or.inr ⟨(xI_ne (Y := 134) rfl rfl c_78), (Or.inl ⟨c_86, ⟨r_87, G_88, hX_91, ⟨y_93, ty_93, ⟨rfl, rfl, rfl⟩⟩⟩⟩)⟩)⟩)⟩)⟩)⟩)⟩)⟩)⟩⟩⟩⟩)), hW, hB_G_88, hF, (Fr.call9 (rs := [20, 21, 22, 23, 24, 25, 26, 27, 28, 34, 35, 36]) (fs := [(2, 9), (2, 10), (2, 11), (2, 12), (2, 13), (2, 14), (2, 15), (2, 16), (3, 2), (3, 3), (3, 4), (3, 5), (3, 6), (3, 7), (3, 8), (4, 1), (4, 2), (5, 6), (5, 7), (5, 8), (5, 9)]) (Fr.call9 (rs := [20, 21, 22, 23, 24, 25, 26, 27, 28, 34, 35, 36]) (fs := [(2, 9), (2, 10), (2, 11), (2, 12), (2, 13), (2, 14), (2, 15), (2, 16), (3, 2), (3, 3), (3, 4), (3, 5), (3, 6), (3, 7), (3, 8), (4, 1), (4, 2), (5, 6), (5, 7), (5, 8), (5, 9)]) Fr.rf hq_16 rfl rfl) hq_89 rfl rfl), hS, lv_sub hl [0, 1, 2] rfl⟩
        by_cases c_94 : (G_15.1 3 3) = 136
        · refine lv_tableIn (tgt := 164) hx hb dX7_read_72 (by rw [c_94]; decide) (by rw [c_94]; decide) (off := 92) (by rw [c_94]; decide) (by decide) ?_
          have c_94 : (G_15.1 3 3).toInt = 136 := xI_eq rfl rfl c_94
          refine lv_aload_n hx hb dX7_read_164 rfl (lv_at hl 2 rfl) ?_
          refine S_calli (va_runV (As := []) (rest := []) ⟨hx, hb, hml, hown, hts⟩ (k_rHand_2 l D k A a z G_15  ((hq_16.r9 5 5 rfl rfl).trans ((hq_12.r9 5 5 rfl rfl).trans ((congrFun (congrFun (congrArg (fun q => q.2.2) eG_9) 5) 5).trans ((congrFun (congrFun (congrArg (fun q => q.2.2) eG_8) 5) 5).trans ((congrFun (congrFun (congrArg (fun q => q.2.2) eG_7) 5) 5).trans ((hq_4.r9 5 5 rfl rfl).trans (gp_re eG_1)))))))) (cwV 0 hts (gd_V hgd m866 m868 m25 m119 m869) rfl rfl rfl hd_X7_readHand ⟨Nat.le_of_ble_eq_true rfl, Nat.le_of_ble_eq_true rfl⟩) (pre_W hW hB_G_15 hK hZ hS kd_5 rfl) rfl rfl hl.1 rfl (lv_room (Nat.le_of_ble_eq_true rfl)) dX7_read_165 ⟨Nat.le_of_ble_eq_true rfl, Nat.le_of_ble_eq_true rfl⟩) hS (fun r_95 G_96 H locs hpo hW hS => ?_)
          have hX_99 : P_rHand_2 G_15 r_95 G_96 := hpo
          obtain ⟨hB_G_96, hq_97, f_100, -⟩ := hpo
          have hF := hF.call9 hq_97 rfl rfl
          refine lv_istore_n (lv' := [(3, .int r_95), (4, .int x_19), (0, .ref (a 5))]) hx hb dX7_read_168 rfl hl (lt_b rfl) rfl (fun ls hl => ?_)
          refine lv_goto (tgt := 189) hx hb dX7_read_169 rfl ?_
          obtain ⟨y_101, ey_101⟩ : ∃ q, q = x_19 + 1 := ⟨_, rfl⟩
          have ty_101 : y_101.toInt = x_19.toInt + 1 := xI_add rfl rfl ey_101 ((by first | exact ok_21 f_24.1 | omega)) ((by first | exact ok_122 f_24.2 | omega))
          refine lv_iinc (v := y_101) (lv' := [(4, .int y_101), (3, .int r_95), (0, .ref (a 5))]) hx hb dX7_read_189 hl (k := 1) rfl (by rw [ey_101]; rfl) (lt_b rfl) rfl (fun ls hl => ?_)
          refine lv_goto (tgt := 40) hx hb dX7_read_192 rfl ?_
          exact ih_17 (1600 - y_101.toInt : Int).toNat ((by first | (clear ha_p0 f_25 c_27 c_29 c_94 f_100; omega) | omega)) _ _ _ ⟨G_96, y_101, r_95, (Int.toNat_of_nonneg ((by first | exact ok_388 f_24.2 c_28 ty_101 | omega))), ⟨(by first | exact ok_23 f_24.1 ty_101 | omega), (by first | exact ok_389 f_24.2 c_28 ty_101 | omega)⟩, ⟨(by first | exact f_100.1 | omega), (by first | exact f_100.2 | omega)⟩, (hX_21.st (St_k_rRead_2_1_mk ⟨x_19, x_20, G_15, y_101, r_95, G_96, rfl, rfl, f_24, f_25, hB_G_15, ⟨c_27, ⟨c_28, ⟨c_29, (Or.inr ⟨(xI_ne (Y := 128) rfl rfl c_30), (Or.inr ⟨(xI_ne (Y := 129) rfl rfl c_38), (Or.inr ⟨(xI_ne (Y := 130) rfl rfl c_46), (Or.inr ⟨(xI_ne (Y := 131) rfl rfl c_54), (Or.inr ⟨(xI_ne (Y := 132) rfl rfl c_62), (Or.inr ⟨(xI_ne (Y := 133) rfl rfl c_70), (Or.inr ⟨(xI_ne (Y := 134) rfl rfl c_78), (Or.inr ⟨(xI_ne (Y := 135) rfl rfl c_86), (Or.inl ⟨c_94, ⟨r_95, G_96, hX_99, ⟨y_101, ty_101, ⟨rfl, rfl, rfl⟩⟩⟩⟩)⟩)⟩)⟩)⟩)⟩)⟩)⟩)⟩)⟩⟩⟩⟩)), hW, hB_G_96, hF, (Fr.call9 (rs := [20, 21, 22, 23, 24, 25, 26, 27, 28, 34, 35, 36]) (fs := [(2, 9), (2, 10), (2, 11), (2, 12), (2, 13), (2, 14), (2, 15), (2, 16), (3, 2), (3, 3), (3, 4), (3, 5), (3, 6), (3, 7), (3, 8), (4, 1), (4, 2), (5, 6), (5, 7), (5, 8), (5, 9)]) (Fr.call9 (rs := [20, 21, 22, 23, 24, 25, 26, 27, 28, 34, 35, 36]) (fs := [(2, 9), (2, 10), (2, 11), (2, 12), (2, 13), (2, 14), (2, 15), (2, 16), (3, 2), (3, 3), (3, 4), (3, 5), (3, 6), (3, 7), (3, 8), (4, 1), (4, 2), (5, 6), (5, 7), (5, 8), (5, 9)]) Fr.rf hq_16 rfl rfl) hq_97 rfl rfl), hS, lv_sub hl [0, 1, 2] rfl⟩
        by_cases c_102 : (G_15.1 3 3) = 137
        · refine lv_tableIn (tgt := 180) hx hb dX7_read_72 (by rw [c_102]; decide) (by rw [c_102]; decide) (off := 108) (by rw [c_102]; decide) (by decide) ?_
          have c_102 : (G_15.1 3 3).toInt = 137 := xI_eq rfl rfl c_102
          refine lv_aload_n hx hb dX7_read_180 rfl (lv_at hl 2 rfl) ?_
          refine S_getR (n := 3) (C := RX7) (T := TX7) (N := 10) hx hb hg iX7 hown hK hW kd_5 rfl 0 (lt_b rfl) (hg (Cond.fieldLink RX7 26 "SlabWalk$Reader" "tokens" "LSlabWalk$Tokens;") m311) (fun _ h9 => h9) rfl dX7_read_181 ?_
          refine ic_2 hx hb dX7_read_184 ?_
          refine S_calli (va_runV (As := [.int 2]) (rest := []) ⟨hx, hb, hml, hown, hts⟩ (k_tRefuse l D k A a z G_15 2 ⟨by decide, by decide⟩) (cwV 1 hts (gd_V hgd m778 m779 m780 m120 m781) rfl rfl rfl hd_X9_refuse ⟨Nat.le_of_ble_eq_true rfl, Nat.le_of_ble_eq_true rfl⟩) (pre_W hW hB_G_15 hK hZ hS kd_3 rfl) rfl rfl hl.1 rfl (lv_room (Nat.le_of_ble_eq_true rfl)) dX7_read_185 ⟨Nat.le_of_ble_eq_true rfl, Nat.le_of_ble_eq_true rfl⟩) hS (fun r_103 G_104 H locs hpo hW hS => ?_)
          have hX_107 : P_tRefuse 2 G_15 r_103 G_104 := hpo
          obtain ⟨hB_G_104, hq_105, f_108, -⟩ := hpo
          have hF := hF.call9 hq_105 rfl rfl
          refine lv_istore_n (lv' := [(3, .int r_103), (4, .int x_19), (0, .ref (a 5))]) hx hb dX7_read_188 rfl hl (lt_b rfl) rfl (fun ls hl => ?_)
          obtain ⟨y_109, ey_109⟩ : ∃ q, q = x_19 + 1 := ⟨_, rfl⟩
          have ty_109 : y_109.toInt = x_19.toInt + 1 := xI_add rfl rfl ey_109 ((by first | exact ok_21 f_24.1 | omega)) ((by first | exact ok_122 f_24.2 | omega))
          refine lv_iinc (v := y_109) (lv' := [(4, .int y_109), (3, .int r_103), (0, .ref (a 5))]) hx hb dX7_read_189 hl (k := 1) rfl (by rw [ey_109]; rfl) (lt_b rfl) rfl (fun ls hl => ?_)
          refine lv_goto (tgt := 40) hx hb dX7_read_192 rfl ?_
          exact ih_17 (1600 - y_109.toInt : Int).toNat ((by first | (clear ha_p0 f_25 c_27 c_29 c_102 f_108; omega) | omega)) _ _ _ ⟨G_104, y_109, r_103, (Int.toNat_of_nonneg ((by first | exact ok_388 f_24.2 c_28 ty_109 | omega))), ⟨(by first | exact ok_23 f_24.1 ty_109 | omega), (by first | exact ok_389 f_24.2 c_28 ty_109 | omega)⟩, ⟨(by first | exact f_108.1 | omega), (by first | exact ok_130 f_108.2 | omega)⟩, (hX_21.st (St_k_rRead_2_1_mk ⟨x_19, x_20, G_15, y_109, r_103, G_104, rfl, rfl, f_24, f_25, hB_G_15, ⟨c_27, ⟨c_28, ⟨c_29, (Or.inr ⟨(xI_ne (Y := 128) rfl rfl c_30), (Or.inr ⟨(xI_ne (Y := 129) rfl rfl c_38), (Or.inr ⟨(xI_ne (Y := 130) rfl rfl c_46), (Or.inr ⟨(xI_ne (Y := 131) rfl rfl c_54), (Or.inr ⟨(xI_ne (Y := 132) rfl rfl c_62), (Or.inr ⟨(xI_ne (Y := 133) rfl rfl c_70), (Or.inr ⟨(xI_ne (Y := 134) rfl rfl c_78), (Or.inr ⟨(xI_ne (Y := 135) rfl rfl c_86), (Or.inr ⟨(xI_ne (Y := 136) rfl rfl c_94), (Or.inl ⟨c_102, ⟨r_103, G_104, hX_107, ⟨y_109, ty_109, ⟨rfl, rfl, rfl⟩⟩⟩⟩)⟩)⟩)⟩)⟩)⟩)⟩)⟩)⟩)⟩)⟩⟩⟩⟩)), hW, hB_G_104, hF, (Fr.call9 (rs := [20, 21, 22, 23, 24, 25, 26, 27, 28, 34, 35, 36]) (fs := [(2, 9), (2, 10), (2, 11), (2, 12), (2, 13), (2, 14), (2, 15), (2, 16), (3, 2), (3, 3), (3, 4), (3, 5), (3, 6), (3, 7), (3, 8), (4, 1), (4, 2), (5, 6), (5, 7), (5, 8), (5, 9)]) (Fr.call9 (rs := [20, 21, 22, 23, 24, 25, 26, 27, 28, 34, 35, 36]) (fs := [(2, 9), (2, 10), (2, 11), (2, 12), (2, 13), (2, 14), (2, 15), (2, 16), (3, 2), (3, 3), (3, 4), (3, 5), (3, 6), (3, 7), (3, 8), (4, 1), (4, 2), (5, 6), (5, 7), (5, 8), (5, 9)]) Fr.rf hq_16 rfl rfl) hq_105 rfl rfl), hS, lv_sub hl [0, 1, 2] rfl⟩
        by_cases c_110 : (G_15.1 3 3) = 138
        · refine lv_tableIn (tgt := 172) hx hb dX7_read_72 (by rw [c_110]; decide) (by rw [c_110]; decide) (off := 100) (by rw [c_110]; decide) (by decide) ?_
          have c_110 : (G_15.1 3 3).toInt = 138 := xI_eq rfl rfl c_110
          refine lv_aload_n hx hb dX7_read_172 rfl (lv_at hl 2 rfl) ?_
          refine S_calli (va_runV (As := []) (rest := []) ⟨hx, hb, hml, hown, hts⟩ (k_rDraw_2 l D k A a z G_15  ((hq_16.r9 5 5 rfl rfl).trans ((hq_12.r9 5 5 rfl rfl).trans ((congrFun (congrFun (congrArg (fun q => q.2.2) eG_9) 5) 5).trans ((congrFun (congrFun (congrArg (fun q => q.2.2) eG_8) 5) 5).trans ((congrFun (congrFun (congrArg (fun q => q.2.2) eG_7) 5) 5).trans ((hq_4.r9 5 5 rfl rfl).trans (gp_re eG_1)))))))) (cwV 0 hts (gd_V hgd m870 m872 m26 m119 m873) rfl rfl rfl hd_X7_readDraw ⟨Nat.le_of_ble_eq_true rfl, Nat.le_of_ble_eq_true rfl⟩) (pre_W hW hB_G_15 hK hZ hS kd_5 rfl) rfl rfl hl.1 rfl (lv_room (Nat.le_of_ble_eq_true rfl)) dX7_read_173 ⟨Nat.le_of_ble_eq_true rfl, Nat.le_of_ble_eq_true rfl⟩) hS (fun r_111 G_112 H locs hpo hW hS => ?_)
          have hX_115 : P_rDraw_2 G_15 r_111 G_112 := hpo
          obtain ⟨hB_G_112, hq_113, f_116, -⟩ := hpo
          have hF := hF.call9 hq_113 rfl rfl
          refine lv_istore_n (lv' := [(3, .int r_111), (4, .int x_19), (0, .ref (a 5))]) hx hb dX7_read_176 rfl hl (lt_b rfl) rfl (fun ls hl => ?_)
          refine lv_goto (tgt := 189) hx hb dX7_read_177 rfl ?_
          obtain ⟨y_117, ey_117⟩ : ∃ q, q = x_19 + 1 := ⟨_, rfl⟩
          have ty_117 : y_117.toInt = x_19.toInt + 1 := xI_add rfl rfl ey_117 ((by first | exact ok_21 f_24.1 | omega)) ((by first | exact ok_122 f_24.2 | omega))
          refine lv_iinc (v := y_117) (lv' := [(4, .int y_117), (3, .int r_111), (0, .ref (a 5))]) hx hb dX7_read_189 hl (k := 1) rfl (by rw [ey_117]; rfl) (lt_b rfl) rfl (fun ls hl => ?_)
          refine lv_goto (tgt := 40) hx hb dX7_read_192 rfl ?_
          exact ih_17 (1600 - y_117.toInt : Int).toNat ((by first | (clear ha_p0 f_25 c_27 c_29 c_110 f_116; omega) | omega)) _ _ _ ⟨G_112, y_117, r_111, (Int.toNat_of_nonneg ((by first | exact ok_388 f_24.2 c_28 ty_117 | omega))), ⟨(by first | exact ok_23 f_24.1 ty_117 | omega), (by first | exact ok_389 f_24.2 c_28 ty_117 | omega)⟩, ⟨(by first | exact f_116.1 | omega), (by first | exact f_116.2 | omega)⟩, (hX_21.st (St_k_rRead_2_1_mk ⟨x_19, x_20, G_15, y_117, r_111, G_112, rfl, rfl, f_24, f_25, hB_G_15, ⟨c_27, ⟨c_28, ⟨c_29, (Or.inr ⟨(xI_ne (Y := 128) rfl rfl c_30), (Or.inr ⟨(xI_ne (Y := 129) rfl rfl c_38), (Or.inr ⟨(xI_ne (Y := 130) rfl rfl c_46), (Or.inr ⟨(xI_ne (Y := 131) rfl rfl c_54), (Or.inr ⟨(xI_ne (Y := 132) rfl rfl c_62), (Or.inr ⟨(xI_ne (Y := 133) rfl rfl c_70), (Or.inr ⟨(xI_ne (Y := 134) rfl rfl c_78), (Or.inr ⟨(xI_ne (Y := 135) rfl rfl c_86), (Or.inr ⟨(xI_ne (Y := 136) rfl rfl c_94), (Or.inr ⟨(xI_ne (Y := 137) rfl rfl c_102), (Or.inl ⟨c_110, ⟨r_111, G_112, hX_115, ⟨y_117, ty_117, ⟨rfl, rfl, rfl⟩⟩⟩⟩)⟩)⟩)⟩)⟩)⟩)⟩)⟩)⟩)⟩)⟩)⟩⟩⟩⟩)), hW, hB_G_112, hF, (Fr.call9 (rs := [20, 21, 22, 23, 24, 25, 26, 27, 28, 34, 35, 36]) (fs := [(2, 9), (2, 10), (2, 11), (2, 12), (2, 13), (2, 14), (2, 15), (2, 16), (3, 2), (3, 3), (3, 4), (3, 5), (3, 6), (3, 7), (3, 8), (4, 1), (4, 2), (5, 6), (5, 7), (5, 8), (5, 9)]) (Fr.call9 (rs := [20, 21, 22, 23, 24, 25, 26, 27, 28, 34, 35, 36]) (fs := [(2, 9), (2, 10), (2, 11), (2, 12), (2, 13), (2, 14), (2, 15), (2, 16), (3, 2), (3, 3), (3, 4), (3, 5), (3, 6), (3, 7), (3, 8), (4, 1), (4, 2), (5, 6), (5, 7), (5, 8), (5, 9)]) Fr.rf hq_16 rfl rfl) hq_113 rfl rfl), hS, lv_sub hl [0, 1, 2] rfl⟩
        refine lv_tableOut (tgt := 180) hx hb dX7_read_72 (tb_out (lo := 128) (hi := 138) (by have c_30 := xI_ne (Y := 128) rfl rfl c_30; have c_38 := xI_ne (Y := 129) rfl rfl c_38; have c_46 := xI_ne (Y := 130) rfl rfl c_46; have c_54 := xI_ne (Y := 131) rfl rfl c_54; have c_62 := xI_ne (Y := 132) rfl rfl c_62; have c_70 := xI_ne (Y := 133) rfl rfl c_70; have c_78 := xI_ne (Y := 134) rfl rfl c_78; have c_86 := xI_ne (Y := 135) rfl rfl c_86; have c_94 := xI_ne (Y := 136) rfl rfl c_94; have c_102 := xI_ne (Y := 137) rfl rfl c_102; have c_110 := xI_ne (Y := 138) rfl rfl c_110; omega)) (by decide) ?_
        have c_30 := xI_ne (Y := 128) rfl rfl c_30
        have c_38 := xI_ne (Y := 129) rfl rfl c_38
        have c_46 := xI_ne (Y := 130) rfl rfl c_46
        have c_54 := xI_ne (Y := 131) rfl rfl c_54
        have c_62 := xI_ne (Y := 132) rfl rfl c_62
        have c_70 := xI_ne (Y := 133) rfl rfl c_70
        have c_78 := xI_ne (Y := 134) rfl rfl c_78
        have c_86 := xI_ne (Y := 135) rfl rfl c_86
        have c_94 := xI_ne (Y := 136) rfl rfl c_94
        have c_102 := xI_ne (Y := 137) rfl rfl c_102
        have c_110 := xI_ne (Y := 138) rfl rfl c_110
        refine lv_aload_n hx hb dX7_read_180 rfl (lv_at hl 2 rfl) ?_
        refine S_getR (n := 3) (C := RX7) (T := TX7) (N := 10) hx hb hg iX7 hown hK hW kd_5 rfl 0 (lt_b rfl) (hg (Cond.fieldLink RX7 26 "SlabWalk$Reader" "tokens" "LSlabWalk$Tokens;") m311) (fun _ h9 => h9) rfl dX7_read_181 ?_
        refine ic_2 hx hb dX7_read_184 ?_
        refine S_calli (va_runV (As := [.int 2]) (rest := []) ⟨hx, hb, hml, hown, hts⟩ (k_tRefuse l D k A a z G_15 2 ⟨by decide, by decide⟩) (cwV 1 hts (gd_V hgd m778 m779 m780 m120 m781) rfl rfl rfl hd_X9_refuse ⟨Nat.le_of_ble_eq_true rfl, Nat.le_of_ble_eq_true rfl⟩) (pre_W hW hB_G_15 hK hZ hS kd_3 rfl) rfl rfl hl.1 rfl (lv_room (Nat.le_of_ble_eq_true rfl)) dX7_read_185 ⟨Nat.le_of_ble_eq_true rfl, Nat.le_of_ble_eq_true rfl⟩) hS (fun r_118 G_119 H locs hpo hW hS => ?_)
        have hX_122 : P_tRefuse 2 G_15 r_118 G_119 := hpo
        obtain ⟨hB_G_119, hq_120, f_123, -⟩ := hpo
        have hF := hF.call9 hq_120 rfl rfl
        refine lv_istore_n (lv' := [(3, .int r_118), (4, .int x_19), (0, .ref (a 5))]) hx hb dX7_read_188 rfl hl (lt_b rfl) rfl (fun ls hl => ?_)
        obtain ⟨y_124, ey_124⟩ : ∃ q, q = x_19 + 1 := ⟨_, rfl⟩
        have ty_124 : y_124.toInt = x_19.toInt + 1 := xI_add rfl rfl ey_124 ((by first | exact ok_21 f_24.1 | omega)) ((by first | exact ok_122 f_24.2 | omega))
        refine lv_iinc (v := y_124) (lv' := [(4, .int y_124), (3, .int r_118), (0, .ref (a 5))]) hx hb dX7_read_189 hl (k := 1) rfl (by rw [ey_124]; rfl) (lt_b rfl) rfl (fun ls hl => ?_)
        refine lv_goto (tgt := 40) hx hb dX7_read_192 rfl ?_
        exact ih_17 (1600 - y_124.toInt : Int).toNat ((by first | (clear ha_p0 f_25 c_27 c_29 f_123; omega) | omega)) _ _ _ ⟨G_119, y_124, r_118, (Int.toNat_of_nonneg ((by first | exact ok_388 f_24.2 c_28 ty_124 | omega))), ⟨(by first | exact ok_23 f_24.1 ty_124 | omega), (by first | exact ok_389 f_24.2 c_28 ty_124 | omega)⟩, ⟨(by first | exact f_123.1 | omega), (by first | exact ok_130 f_123.2 | omega)⟩, (hX_21.st (St_k_rRead_2_1_mk ⟨x_19, x_20, G_15, y_124, r_118, G_119, rfl, rfl, f_24, f_25, hB_G_15, ⟨c_27, ⟨c_28, ⟨c_29, (Or.inr ⟨c_30, (Or.inr ⟨c_38, (Or.inr ⟨c_46, (Or.inr ⟨c_54, (Or.inr ⟨c_62, (Or.inr ⟨c_70, (Or.inr ⟨c_78, (Or.inr ⟨c_86, (Or.inr ⟨c_94, (Or.inr ⟨c_102, (Or.inr ⟨c_110, ⟨r_118, G_119, hX_122, ⟨y_124, ty_124, ⟨rfl, rfl, rfl⟩⟩⟩⟩)⟩)⟩)⟩)⟩)⟩)⟩)⟩)⟩)⟩)⟩)⟩⟩⟩⟩)), hW, hB_G_119, hF, (Fr.call9 (rs := [20, 21, 22, 23, 24, 25, 26, 27, 28, 34, 35, 36]) (fs := [(2, 9), (2, 10), (2, 11), (2, 12), (2, 13), (2, 14), (2, 15), (2, 16), (3, 2), (3, 3), (3, 4), (3, 5), (3, 6), (3, 7), (3, 8), (4, 1), (4, 2), (5, 6), (5, 7), (5, 8), (5, 9)]) (Fr.call9 (rs := [20, 21, 22, 23, 24, 25, 26, 27, 28, 34, 35, 36]) (fs := [(2, 9), (2, 10), (2, 11), (2, 12), (2, 13), (2, 14), (2, 15), (2, 16), (3, 2), (3, 3), (3, 4), (3, 5), (3, 6), (3, 7), (3, 8), (4, 1), (4, 2), (5, 6), (5, 7), (5, 8), (5, 9)]) Fr.rf hq_16 rfl rfl) hq_120 rfl rfl), hS, lv_sub hl [0, 1, 2] rfl⟩

theorem m493 : Cond.fieldLink RX11 246 "SlabWalk$Earnest" "now" "[I" ∈ gd := gdc_2_8 9 rfl gw_fieldLink
theorem m572 : Cond.fieldLink RX11 19 "SlabWalk" "tape" "[B" ∈ gd := gdc_2_13 8 rfl gw_fieldLink
theorem m578 : Cond.fieldLink RX11 65 "SlabWalk" "earnest" "LSlabWalk$Earnest;" ∈ gd := gdc_2_13 14 rfl gw_fieldLink
theorem m580 : Cond.fieldLink RX11 76 "SlabWalk" "lying" "[I" ∈ gd := gdc_2_14 0 rfl gw_fieldLink
theorem m581 : Cond.fieldLink RX11 83 "SlabWalk" "taped" "I" ∈ gd := gdc_2_14 1 rfl gw_fieldLink
theorem m582 : Cond.fieldLink RX11 150 "SlabWalk" "lie" "I" ∈ gd := gdc_2_14 2 rfl gw_fieldLink
noncomputable def rbX11_commonDivisor_0 : List (Nat × List Nat) := [(0, [3]), (1, [54, 4]), (3, [21, 4]), (5, [17, 0, 200]), (8, [162, 0, 25]), (11, [32]), (12, [9]), (13, [148]), (14, [153, 0, 19]), (17, [30]), (18, [32]), (19, [113]), (20, [55, 5]), (22, [32]), (23, [63]), (24, [22, 5]), (26, [65]), (27, [132, 4, 1]), (30, [167, 255, 229]), (33, [30]), (34, [173])]
theorem rcX11_commonDivisor_0 : dgo (lb cX11_commonDivisor) 0 rbX11_commonDivisor_0 = true := by decide +kernel
theorem dX11_commonDivisor_0 : decode cX11_commonDivisor 0 = .ok (.iconst 0, 1) := dk_3 (dw rcX11_commonDivisor_0 0 rfl)
theorem dX11_commonDivisor_1 : decode cX11_commonDivisor 1 = .ok (.istore 4, 2) := dk_54 (dw rcX11_commonDivisor_0 1 rfl)
theorem dX11_commonDivisor_3 : decode cX11_commonDivisor 3 = .ok (.iload 4, 2) := dk_21 (dw rcX11_commonDivisor_0 2 rfl)
theorem dX11_commonDivisor_5 : decode cX11_commonDivisor 5 = .ok (.sipush 200, 3) := dk_17 (dw rcX11_commonDivisor_0 3 rfl) rfl
theorem dX11_commonDivisor_8 : decode cX11_commonDivisor 8 = .ok (.if_icmp .ge 25, 3) := dk_162 (dw rcX11_commonDivisor_0 4 rfl) rfl
theorem dX11_commonDivisor_11 : decode cX11_commonDivisor 11 = .ok (.lload_n 2, 1) := dk_32 (dw rcX11_commonDivisor_0 5 rfl)
theorem dX11_commonDivisor_12 : decode cX11_commonDivisor 12 = .ok (.lconst 0, 1) := dk_9 (dw rcX11_commonDivisor_0 6 rfl)
theorem dX11_commonDivisor_13 : decode cX11_commonDivisor 13 = .ok (.lcmp, 1) := dk_148 (dw rcX11_commonDivisor_0 7 rfl)
theorem dX11_commonDivisor_14 : decode cX11_commonDivisor 14 = .ok (.ifCond .eq 19, 3) := dk_153 (dw rcX11_commonDivisor_0 8 rfl) rfl
theorem dX11_commonDivisor_17 : decode cX11_commonDivisor 17 = .ok (.lload_n 0, 1) := dk_30 (dw rcX11_commonDivisor_0 9 rfl)
theorem dX11_commonDivisor_18 : decode cX11_commonDivisor 18 = .ok (.lload_n 2, 1) := dk_32 (dw rcX11_commonDivisor_0 10 rfl)
theorem dX11_commonDivisor_19 : decode cX11_commonDivisor 19 = .ok (.lrem, 1) := dk_113 (dw rcX11_commonDivisor_0 11 rfl)
theorem dX11_commonDivisor_20 : decode cX11_commonDivisor 20 = .ok (.lstore 5, 2) := dk_55 (dw rcX11_commonDivisor_0 12 rfl)
theorem dX11_commonDivisor_22 : decode cX11_commonDivisor 22 = .ok (.lload_n 2, 1) := dk_32 (dw rcX11_commonDivisor_0 13 rfl)
theorem dX11_commonDivisor_23 : decode cX11_commonDivisor 23 = .ok (.lstore_n 0, 1) := dk_63 (dw rcX11_commonDivisor_0 14 rfl)
theorem dX11_commonDivisor_24 : decode cX11_commonDivisor 24 = .ok (.lload 5, 2) := dk_22 (dw rcX11_commonDivisor_0 15 rfl)
theorem dX11_commonDivisor_26 : decode cX11_commonDivisor 26 = .ok (.lstore_n 2, 1) := dk_65 (dw rcX11_commonDivisor_0 16 rfl)
theorem dX11_commonDivisor_27 : decode cX11_commonDivisor 27 = .ok (.iinc 4 1, 3) := dk_132 (dw rcX11_commonDivisor_0 17 rfl) rfl
theorem dX11_commonDivisor_30 : decode cX11_commonDivisor 30 = .ok (.goto (-27), 3) := dk_167 (dw rcX11_commonDivisor_0 18 rfl) rfl
theorem dX11_commonDivisor_33 : decode cX11_commonDivisor 33 = .ok (.lload_n 0, 1) := dk_30 (dw rcX11_commonDivisor_0 19 rfl)
theorem dX11_commonDivisor_34 : decode cX11_commonDivisor 34 = .ok (.lreturn, 1) := dk_173 (dw rcX11_commonDivisor_0 20 rfl)
noncomputable def rbX11_layDown_0 : List (Nat × List Nat) := [(0, [42]), (1, [180, 0, 150]), (4, [17, 1, 144]), (7, [162, 0, 20]), (10, [42]), (11, [180, 0, 76]), (14, [42]), (15, [89]), (16, [180, 0, 150]), (19, [90]), (20, [4]), (21, [96]), (22, [181, 0, 150]), (25, [27]), (26, [79]), (27, [177])]
theorem rcX11_layDown_0 : dgo (lb cX11_layDown) 0 rbX11_layDown_0 = true := by decide +kernel
theorem dX11_layDown_0 : decode cX11_layDown 0 = .ok (.aload_n 0, 1) := dk_42 (dw rcX11_layDown_0 0 rfl)
theorem dX11_layDown_1 : decode cX11_layDown 1 = .ok (.getfield 150, 3) := dk_180 (dw rcX11_layDown_0 1 rfl) rfl
theorem dX11_layDown_4 : decode cX11_layDown 4 = .ok (.sipush 400, 3) := dk_17 (dw rcX11_layDown_0 2 rfl) rfl
theorem dX11_layDown_7 : decode cX11_layDown 7 = .ok (.if_icmp .ge 20, 3) := dk_162 (dw rcX11_layDown_0 3 rfl) rfl
theorem dX11_layDown_10 : decode cX11_layDown 10 = .ok (.aload_n 0, 1) := dk_42 (dw rcX11_layDown_0 4 rfl)
theorem dX11_layDown_11 : decode cX11_layDown 11 = .ok (.getfield 76, 3) := dk_180 (dw rcX11_layDown_0 5 rfl) rfl
theorem dX11_layDown_14 : decode cX11_layDown 14 = .ok (.aload_n 0, 1) := dk_42 (dw rcX11_layDown_0 6 rfl)
theorem dX11_layDown_15 : decode cX11_layDown 15 = .ok (.dup, 1) := dk_89 (dw rcX11_layDown_0 7 rfl)
theorem dX11_layDown_16 : decode cX11_layDown 16 = .ok (.getfield 150, 3) := dk_180 (dw rcX11_layDown_0 8 rfl) rfl
theorem dX11_layDown_19 : decode cX11_layDown 19 = .ok (.dup_x1, 1) := dk_90 (dw rcX11_layDown_0 9 rfl)
theorem dX11_layDown_20 : decode cX11_layDown 20 = .ok (.iconst 1, 1) := dk_4 (dw rcX11_layDown_0 10 rfl)
theorem dX11_layDown_21 : decode cX11_layDown 21 = .ok (.iadd, 1) := dk_96 (dw rcX11_layDown_0 11 rfl)
theorem dX11_layDown_22 : decode cX11_layDown 22 = .ok (.putfield 150, 3) := dk_181 (dw rcX11_layDown_0 12 rfl) rfl
theorem dX11_layDown_25 : decode cX11_layDown 25 = .ok (.iload_n 1, 1) := dk_27 (dw rcX11_layDown_0 13 rfl)
theorem dX11_layDown_26 : decode cX11_layDown 26 = .ok (.iastore, 1) := dk_79 (dw rcX11_layDown_0 14 rfl)
theorem dX11_layDown_27 : decode cX11_layDown 27 = .ok (.return_, 1) := dk_177 (dw rcX11_layDown_0 15 rfl)
noncomputable def rbX11_putOnTape_0 : List (Nat × List Nat) := [(0, [16, 24]), (2, [61]), (3, [28]), (4, [155, 0, 39]), (7, [42]), (8, [180, 0, 83]), (11, [17, 6, 64]), (14, [162, 0, 23]), (17, [42]), (18, [180, 0, 19]), (21, [42]), (22, [89]), (23, [180, 0, 83]), (26, [90]), (27, [4]), (28, [96]), (29, [181, 0, 83]), (32, [27]), (33, [28]), (34, [122]), (35, [145]), (36, [84]), (37, [132, 2, 248]), (40, [167, 255, 219])]
theorem rcX11_putOnTape_0 : dgo (lb cX11_putOnTape) 0 rbX11_putOnTape_0 = true := by decide +kernel
theorem dX11_putOnTape_0 : decode cX11_putOnTape 0 = .ok (.bipush 24, 2) := dk_16 (dw rcX11_putOnTape_0 0 rfl) rfl
theorem dX11_putOnTape_2 : decode cX11_putOnTape 2 = .ok (.istore_n 2, 1) := dk_61 (dw rcX11_putOnTape_0 1 rfl)
theorem dX11_putOnTape_3 : decode cX11_putOnTape 3 = .ok (.iload_n 2, 1) := dk_28 (dw rcX11_putOnTape_0 2 rfl)
theorem dX11_putOnTape_4 : decode cX11_putOnTape 4 = .ok (.ifCond .lt 39, 3) := dk_155 (dw rcX11_putOnTape_0 3 rfl) rfl
theorem dX11_putOnTape_7 : decode cX11_putOnTape 7 = .ok (.aload_n 0, 1) := dk_42 (dw rcX11_putOnTape_0 4 rfl)
theorem dX11_putOnTape_8 : decode cX11_putOnTape 8 = .ok (.getfield 83, 3) := dk_180 (dw rcX11_putOnTape_0 5 rfl) rfl
theorem dX11_putOnTape_11 : decode cX11_putOnTape 11 = .ok (.sipush 1600, 3) := dk_17 (dw rcX11_putOnTape_0 6 rfl) rfl
theorem dX11_putOnTape_14 : decode cX11_putOnTape 14 = .ok (.if_icmp .ge 23, 3) := dk_162 (dw rcX11_putOnTape_0 7 rfl) rfl
theorem dX11_putOnTape_17 : decode cX11_putOnTape 17 = .ok (.aload_n 0, 1) := dk_42 (dw rcX11_putOnTape_0 8 rfl)
theorem dX11_putOnTape_18 : decode cX11_putOnTape 18 = .ok (.getfield 19, 3) := dk_180 (dw rcX11_putOnTape_0 9 rfl) rfl
theorem dX11_putOnTape_21 : decode cX11_putOnTape 21 = .ok (.aload_n 0, 1) := dk_42 (dw rcX11_putOnTape_0 10 rfl)
theorem dX11_putOnTape_22 : decode cX11_putOnTape 22 = .ok (.dup, 1) := dk_89 (dw rcX11_putOnTape_0 11 rfl)
theorem dX11_putOnTape_23 : decode cX11_putOnTape 23 = .ok (.getfield 83, 3) := dk_180 (dw rcX11_putOnTape_0 12 rfl) rfl
theorem dX11_putOnTape_26 : decode cX11_putOnTape 26 = .ok (.dup_x1, 1) := dk_90 (dw rcX11_putOnTape_0 13 rfl)
theorem dX11_putOnTape_27 : decode cX11_putOnTape 27 = .ok (.iconst 1, 1) := dk_4 (dw rcX11_putOnTape_0 14 rfl)
theorem dX11_putOnTape_28 : decode cX11_putOnTape 28 = .ok (.iadd, 1) := dk_96 (dw rcX11_putOnTape_0 15 rfl)
theorem dX11_putOnTape_29 : decode cX11_putOnTape 29 = .ok (.putfield 83, 3) := dk_181 (dw rcX11_putOnTape_0 16 rfl) rfl
theorem dX11_putOnTape_32 : decode cX11_putOnTape 32 = .ok (.iload_n 1, 1) := dk_27 (dw rcX11_putOnTape_0 17 rfl)
theorem dX11_putOnTape_33 : decode cX11_putOnTape 33 = .ok (.iload_n 2, 1) := dk_28 (dw rcX11_putOnTape_0 18 rfl)
theorem dX11_putOnTape_34 : decode cX11_putOnTape 34 = .ok (.ishr, 1) := dk_122 (dw rcX11_putOnTape_0 19 rfl)
theorem dX11_putOnTape_35 : decode cX11_putOnTape 35 = .ok (.i2b, 1) := dk_145 (dw rcX11_putOnTape_0 20 rfl)
theorem dX11_putOnTape_36 : decode cX11_putOnTape 36 = .ok (.bastore, 1) := dk_84 (dw rcX11_putOnTape_0 21 rfl)
theorem dX11_putOnTape_37 : decode cX11_putOnTape 37 = .ok (.iinc 2 (-8), 3) := dk_132 (dw rcX11_putOnTape_0 22 rfl) rfl
theorem dX11_putOnTape_40 : decode cX11_putOnTape 40 = .ok (.goto (-37), 3) := dk_167 (dw rcX11_putOnTape_0 23 rfl) rfl
theorem dX11_putOnTape_43 : decode cX11_putOnTape 43 = .ok (.return_, 1) := dq_of (by decide +kernel)
noncomputable def rbX11_today_0 : List (Nat × List Nat) := [(0, [42]), (1, [180, 0, 65]), (4, [180, 0, 246]), (7, [16, 6]), (9, [46]), (10, [172])]
theorem rcX11_today_0 : dgo (lb cX11_today) 0 rbX11_today_0 = true := by decide +kernel
theorem dX11_today_0 : decode cX11_today 0 = .ok (.aload_n 0, 1) := dk_42 (dw rcX11_today_0 0 rfl)
theorem dX11_today_1 : decode cX11_today 1 = .ok (.getfield 65, 3) := dk_180 (dw rcX11_today_0 1 rfl) rfl
theorem dX11_today_4 : decode cX11_today 4 = .ok (.getfield 246, 3) := dk_180 (dw rcX11_today_0 2 rfl) rfl
theorem dX11_today_7 : decode cX11_today 7 = .ok (.bipush 6, 2) := dk_16 (dw rcX11_today_0 3 rfl) rfl
theorem dX11_today_9 : decode cX11_today 9 = .ok (.iaload, 1) := dk_46 (dw rcX11_today_0 4 rfl)
theorem dX11_today_10 : decode cX11_today 10 = .ok (.ireturn, 1) := dk_172 (dw rcX11_today_0 5 rfl)
set_option maxHeartbeats 4000000 in
set_option maxRecDepth 100000 in
theorem k_lLookB_1 (l : Launch) (D : va_G) (k : KT) (A : Nat → Prop) (a : Nat → Nat) (z : SK) (G : GS)   : Met l yX3_lookAt (WS yX3_lookAt cX3_lookAt 2 none) ({ frames := 1, cells := 0, slots := 0, locals := 23 }) (va_Pc [.ref (a 6), .ref (a 1)] (cW D k A a z G)) (va_Qv (fun (G1 : GS) => P_lLookB_1 G G1) (fun (G1 : GS) t => Wd D k A a G1 t.heap) A) 0 0 A := by
  refine Met.ofW (cc := cX3_lookAt) (maxL := 2) (ret := none) (by decide) rfl ?_
  intro p e s m args below meth c s₁ B hml hv
  obtain ⟨rfl, hW, hB_G, hK, hZ⟩ := hv
  have hx := B.exec
  have hb := B.bytes
  have hr := B.returns
  have hts := atoms_spec (ws := WS yX3_lookAt cX3_lookAt 2 none) B.pre
  have hgd : ∀ w ∈ gd, w ∈ WS yX3_lookAt cX3_lookAt 2 none := fun w h => List.mem_cons_of_mem _ h
  have hg : ∀ w ∈ gd, w.before _ s = true := fun w h => hts w (hgd w h)
  have hown : s.vm.findClass RX3 = some m.cls := findClass_of_methodNamed B.named
  have hS : va_S A s.heap s.heap [] := va_S.rf
  have hF : Fr [38] [(6, 4)] G G := Fr.rf
  have hl := lv_entry ([.ref (a 6), .ref (a 1)]) (n := 2) (Nat.le_of_ble_eq_true rfl)
  rw [lg_entry_eq]
  generalize (lg_sl ([.ref (a 6), .ref (a 1)]) ++ List.replicate (2 - (lg_sl ([.ref (a 6), .ref (a 1)])).length) Slot.unset).toArray = ls at hl ⊢
  have hl : lv_has ls 2 [(0, .ref (a 6)), (1, .ref (a 1))] := hl
  refine lv_aload_n hx hb dX3_lookAt_0 rfl (lv_at hl 0 rfl) ?_
  refine lv_aload_n hx hb dX3_lookAt_1 rfl (lv_at hl 1 rfl) ?_
  refine S_putV (ty := .object "SlabWalk$Paving") (n := 1) (C := RX3) (T := TX3) (N := 5) hx hb hg iX3 tyX3 tyX3_ok nmX3 hown hK hW hS kd_6 rfl 4 (lt_b rfl) (hg (Cond.fieldLink RX3 21 "SlabWalk$Lines" "paving" "LSlabWalk$Paving;") m353) (fun _ h9 => h9) rfl (by decide +kernel) rfl rfl rfl dX3_lookAt_2 (fun G_1 H locs eG_1 hW hS => ?_)
  have hB_G_1 : Bd G_1 := hB_G.putr eG_1 (by decide) (by decide)
  have hF := hF.putr eG_1 (Or.inr (by decide))
  refine lv_aload_n hx hb dX3_lookAt_5 rfl (lv_at hl 0 rfl) ?_
  refine S_getR (n := 38) (C := RX3) (T := TX3) (N := 5) hx hb hg iX3 hown hK hW kd_6 rfl 1 (lt_b rfl) (hg (Cond.fieldLink RX3 15 "SlabWalk$Lines" "foundOn" "[I") m350) (fun _ h9 => h9) rfl dX3_lookAt_6 ?_
  refine ic_m1 hx hb dX3_lookAt_9 ?_
  refine S_callv (va_runS (As := [.ref (a 38), .int (-1)]) (rest := []) ⟨hx, hb, hml, hown, hts⟩ (k_fill_38 l D k A a z G_1 (-1) ) (va_cwS 2 hts (gd_S hgd m555 m556 m129 m557) rfl rfl rfl hd_J7_fill_53178.2 ⟨Nat.le_of_ble_eq_true rfl, Nat.le_of_ble_eq_true rfl⟩) (pre_S hW hB_G_1 hK hZ hS) rfl rfl hl.1 rfl (lv_room (Nat.le_of_ble_eq_true rfl)) dX3_lookAt_10 ⟨Nat.le_of_ble_eq_true rfl, Nat.le_of_ble_eq_true rfl⟩) hS (fun G_3 H locs hpo hW hS => ?_)
  have hX_6 : P_fill_38 (-1) G_1 G_3 := hpo
  obtain ⟨hB_G_3, hq_4, -⟩ := hpo
  have hF := hF.call9 hq_4 rfl rfl
  exact W.vret hx hb hr (fun t ht _ => ⟨⟨G_3, rfl, (P_lLookB_1_mk ⟨hB_G_3, hF, ((hq_4.r9 6 4 rfl rfl).trans (gp_re eG_1)), ⟨G_1, hB_G_1, (Fr.putr (rs := []) (fs := [(6, 4)]) Fr.rf eG_1 (Or.inr (by decide))), (gp_re eG_1), ⟨G_3, hX_6, rfl⟩⟩⟩), wd_t ht hW⟩, hS.F ht⟩) hS.2.2 dX3_lookAt_13

set_option maxHeartbeats 4000000 in
set_option maxRecDepth 100000 in
theorem k_lLookB_2 (l : Launch) (D : va_G) (k : KT) (A : Nat → Prop) (a : Nat → Nat) (z : SK) (G : GS)   : Met l yX3_lookAt (WS yX3_lookAt cX3_lookAt 2 none) ({ frames := 1, cells := 0, slots := 0, locals := 23 }) (va_Pc [.ref (a 6), .ref (a 2)] (cW D k A a z G)) (va_Qv (fun (G1 : GS) => P_lLookB_2 G G1) (fun (G1 : GS) t => Wd D k A a G1 t.heap) A) 0 0 A := by
  refine Met.ofW (cc := cX3_lookAt) (maxL := 2) (ret := none) (by decide) rfl ?_
  intro p e s m args below meth c s₁ B hml hv
  obtain ⟨rfl, hW, hB_G, hK, hZ⟩ := hv
  have hx := B.exec
  have hb := B.bytes
  have hr := B.returns
  have hts := atoms_spec (ws := WS yX3_lookAt cX3_lookAt 2 none) B.pre
  have hgd : ∀ w ∈ gd, w ∈ WS yX3_lookAt cX3_lookAt 2 none := fun w h => List.mem_cons_of_mem _ h
  have hg : ∀ w ∈ gd, w.before _ s = true := fun w h => hts w (hgd w h)
  have hown : s.vm.findClass RX3 = some m.cls := findClass_of_methodNamed B.named
  have hS : va_S A s.heap s.heap [] := va_S.rf
  have hF : Fr [38] [(6, 4)] G G := Fr.rf
  have hl := lv_entry ([.ref (a 6), .ref (a 2)]) (n := 2) (Nat.le_of_ble_eq_true rfl)
  rw [lg_entry_eq]
  generalize (lg_sl ([.ref (a 6), .ref (a 2)]) ++ List.replicate (2 - (lg_sl ([.ref (a 6), .ref (a 2)])).length) Slot.unset).toArray = ls at hl ⊢
  have hl : lv_has ls 2 [(0, .ref (a 6)), (1, .ref (a 2))] := hl
  refine lv_aload_n hx hb dX3_lookAt_0 rfl (lv_at hl 0 rfl) ?_
  refine lv_aload_n hx hb dX3_lookAt_1 rfl (lv_at hl 1 rfl) ?_
  refine S_putV (ty := .object "SlabWalk$Paving") (n := 2) (C := RX3) (T := TX3) (N := 5) hx hb hg iX3 tyX3 tyX3_ok nmX3 hown hK hW hS kd_6 rfl 4 (lt_b rfl) (hg (Cond.fieldLink RX3 21 "SlabWalk$Lines" "paving" "LSlabWalk$Paving;") m353) (fun _ h9 => h9) rfl (by decide +kernel) rfl rfl rfl dX3_lookAt_2 (fun G_1 H locs eG_1 hW hS => ?_)
  have hB_G_1 : Bd G_1 := hB_G.putr eG_1 (by decide) (by decide)
  have hF := hF.putr eG_1 (Or.inr (by decide))
  refine lv_aload_n hx hb dX3_lookAt_5 rfl (lv_at hl 0 rfl) ?_
  refine S_getR (n := 38) (C := RX3) (T := TX3) (N := 5) hx hb hg iX3 hown hK hW kd_6 rfl 1 (lt_b rfl) (hg (Cond.fieldLink RX3 15 "SlabWalk$Lines" "foundOn" "[I") m350) (fun _ h9 => h9) rfl dX3_lookAt_6 ?_
  refine ic_m1 hx hb dX3_lookAt_9 ?_
  refine S_callv (va_runS (As := [.ref (a 38), .int (-1)]) (rest := []) ⟨hx, hb, hml, hown, hts⟩ (k_fill_38 l D k A a z G_1 (-1) ) (va_cwS 2 hts (gd_S hgd m555 m556 m129 m557) rfl rfl rfl hd_J7_fill_53178.2 ⟨Nat.le_of_ble_eq_true rfl, Nat.le_of_ble_eq_true rfl⟩) (pre_S hW hB_G_1 hK hZ hS) rfl rfl hl.1 rfl (lv_room (Nat.le_of_ble_eq_true rfl)) dX3_lookAt_10 ⟨Nat.le_of_ble_eq_true rfl, Nat.le_of_ble_eq_true rfl⟩) hS (fun G_3 H locs hpo hW hS => ?_)
  have hX_6 : P_fill_38 (-1) G_1 G_3 := hpo
  obtain ⟨hB_G_3, hq_4, -⟩ := hpo
  have hF := hF.call9 hq_4 rfl rfl
  exact W.vret hx hb hr (fun t ht _ => ⟨⟨G_3, rfl, (P_lLookB_2_mk ⟨hB_G_3, hF, ((hq_4.r9 6 4 rfl rfl).trans (gp_re eG_1)), ⟨G_1, hB_G_1, (Fr.putr (rs := []) (fs := [(6, 4)]) Fr.rf eG_1 (Or.inr (by decide))), (gp_re eG_1), ⟨G_3, hX_6, rfl⟩⟩⟩), wd_t ht hW⟩, hS.F ht⟩) hS.2.2 dX3_lookAt_13

set_option maxHeartbeats 4000000 in
set_option maxRecDepth 100000 in
theorem k_gcd (l : Launch) (D : va_G) (k : KT) (A : Nat → Prop) (a : Nat → Nat) (z : SK) (G : GS) (p0 : Int64) (p1 : Int64)  : Met l yX11_commonDivisor (WS yX11_commonDivisor cX11_commonDivisor 7 (some .long)) ({ frames := 0, cells := 0, slots := 0, locals := 0 }) (va_Pc [.long p0, .long p1] (cW D k A a z G)) (va_Ql (fun (r : Int64) (G1 : GS) => P_gcd p0 p1 G r G1) (fun (G1 : GS) t => Wd D k A a G1 t.heap) A) 0 0 A := by
  refine Met.ofW (cc := cX11_commonDivisor) (maxL := 7) (ret := (some .long)) (by decide) rfl ?_
  intro p e s m args below meth c s₁ B hml hv
  obtain ⟨rfl, hW, hB_G, hK, hZ⟩ := hv
  have hx := B.exec
  have hb := B.bytes
  have hr := B.returns
  have hts := atoms_spec (ws := WS yX11_commonDivisor cX11_commonDivisor 7 (some .long)) B.pre
  have hgd : ∀ w ∈ gd, w ∈ WS yX11_commonDivisor cX11_commonDivisor 7 (some .long) := fun w h => List.mem_cons_of_mem _ h
  have hg : ∀ w ∈ gd, w.before _ s = true := fun w h => hts w (hgd w h)
  have hown : s.vm.findClass RX11 = some m.cls := findClass_of_methodNamed B.named
  have hS : va_S A s.heap s.heap [] := va_S.rf
  have hF : Fr [] [] G G := Fr.rf
  have hl := lv_entry ([.long p0, .long p1]) (n := 7) (Nat.le_of_ble_eq_true rfl)
  rw [lg_entry_eq]
  generalize (lg_sl ([.long p0, .long p1]) ++ List.replicate (7 - (lg_sl ([.long p0, .long p1])).length) Slot.unset).toArray = ls at hl ⊢
  have hl : lv_has ls 7 [(0, .long p0), (2, .long p1)] := hl
  refine ic_0 hx hb dX11_commonDivisor_0 ?_
  refine lv_istore (lv' := [(4, .int 0), (0, .long p0), (2, .long p1)]) hx hb dX11_commonDivisor_1 hl (lt_b rfl) rfl (fun ls hl => ?_)
  have qc_9 : (0 : Int32).toInt = 0 := rfl
  refine loop_N (Inv := fun n H locs ls => ∃ (G_1 : GS) (x_5 : Int32) (x_6 : Int64) (x_7 : Int64), (n : Int) = 200 - x_5.toInt ∧ (0 ≤ x_5.toInt ∧ x_5.toInt ≤ 200) ∧ Rc (St_k_gcd_1) (0, p0, p1, G) (x_5, x_6, x_7, G_1) ∧ Wd D k A a G_1 H ∧ Bd G_1 ∧ Fr [] [] G G_1 ∧ Fr [] [] G G_1 ∧ va_S A s.heap H locs ∧ lv_has ls 7 [(4, .int x_5), (0, .long x_6), (2, .long x_7)]) (fun n_4 H locs ls ih_3 hI => ?_) (200 - 0 : Int).toNat ⟨G, 0, p0, p1, (Int.toNat_of_nonneg ((by decide))), ⟨(by decide), (by decide)⟩, Rc.rf, hW, hB_G, hF, Fr.rf, hS, lv_sub hl [0, 1, 2] rfl⟩
  obtain ⟨G_1, x_5, x_6, x_7, hn_11, f_10, hX_8, hW, hB_G_1, hF, hq_2, hS, hl⟩ := hI
  refine lv_iload hx hb dX11_commonDivisor_3 (lv_at hl 0 rfl) ?_
  refine lv_sipush (v := 200) hx hb dX11_commonDivisor_5 (by decide) ?_
  refine lv_icmp_ge (tgt := 33) hx hb dX11_commonDivisor_8 rfl (fun c_12 => ?_) (fun c_12 => ?_)
  · have c_12 : 200 ≤ x_5.toInt := xI_le rfl rfl c_12
    refine lv_lload_n hx hb dX11_commonDivisor_33 rfl (lv_at hl 1 rfl) ?_
    exact W.lret (v := x_6) hx hb hr (fun t ht _ => ⟨⟨x_6, G_1, rfl, (P_gcd_mk ⟨hB_G_1, hF, ⟨x_5, x_6, x_7, G_1, hX_8, f_10, hB_G_1, hq_2, (Or.inl ⟨c_12, ⟨rfl, rfl⟩⟩)⟩⟩), wd_t ht hW⟩, hS.F ht⟩) hS.2.2 dX11_commonDivisor_34
  · have c_12 : x_5.toInt < 200 := xI_nle rfl rfl c_12
    refine lv_lload_n hx hb dX11_commonDivisor_11 rfl (lv_at hl 2 rfl) ?_
    refine lv_lconst (v := 0) hx hb dX11_commonDivisor_12 (by decide) ?_
    refine W.lcmp hx hb dX11_commonDivisor_13 ?_
    refine lv_topi (fun y_13 ey_13 => ?_)
    have ty_13 := lcmp_rng ey_13
    refine lv_if_eq (tgt := 33) hx hb dX11_commonDivisor_14 rfl (fun c_14 => ?_) (fun c_14 => ?_)
    · have c_14 : y_13.toInt = 0 := xI_eq rfl rfl c_14
      refine lv_lload_n hx hb dX11_commonDivisor_33 rfl (lv_at hl 1 rfl) ?_
      exact W.lret (v := x_6) hx hb hr (fun t ht _ => ⟨⟨x_6, G_1, rfl, (P_gcd_mk ⟨hB_G_1, hF, ⟨x_5, x_6, x_7, G_1, hX_8, f_10, hB_G_1, hq_2, (Or.inr ⟨c_12, ⟨y_13, ey_13, ⟨c_14, ⟨rfl, rfl⟩⟩⟩⟩)⟩⟩), wd_t ht hW⟩, hS.F ht⟩) hS.2.2 dX11_commonDivisor_34
    · have c_14 : y_13.toInt ≠ 0 := xI_ne rfl rfl c_14
      refine lv_lload_n hx hb dX11_commonDivisor_17 rfl (lv_at hl 1 rfl) ?_
      refine lv_lload_n hx hb dX11_commonDivisor_18 rfl (lv_at hl 2 rfl) ?_
      refine lv_lrem hx hb dX11_commonDivisor_19 (lc_ne ey_13 (by omega)) ?_
      refine lv_topl (fun y_15 ey_15 => ?_)
      refine lv_lstore (lv' := [(5, .long y_15), (4, .int x_5), (0, .long x_6), (2, .long x_7)]) hx hb dX11_commonDivisor_20 hl (lt_b rfl) rfl (fun ls hl => ?_)
      refine lv_lload_n hx hb dX11_commonDivisor_22 rfl (lv_at hl 3 rfl) ?_
      refine lv_lstore_n (lv' := [(0, .long x_7), (5, .long y_15), (4, .int x_5), (2, .long x_7)]) hx hb dX11_commonDivisor_23 rfl hl (lt_b rfl) rfl (fun ls hl => ?_)
      refine lv_lload hx hb dX11_commonDivisor_24 (lv_at hl 1 rfl) ?_
      refine lv_lstore_n (lv' := [(2, .long y_15), (0, .long x_7), (5, .long y_15), (4, .int x_5)]) hx hb dX11_commonDivisor_26 rfl hl (lt_b rfl) rfl (fun ls hl => ?_)
      obtain ⟨y_16, ey_16⟩ : ∃ q, q = x_5 + 1 := ⟨_, rfl⟩
      have ty_16 : y_16.toInt = x_5.toInt + 1 := xI_add rfl rfl ey_16 ((by first | exact ok_21 f_10.1 | omega)) ((by first | exact ok_452 f_10.2 | omega))
      refine lv_iinc (v := y_16) (lv' := [(4, .int y_16), (2, .long y_15), (0, .long x_7), (5, .long y_15)]) hx hb dX11_commonDivisor_27 hl (k := 3) rfl (by rw [ey_16]; rfl) (lt_b rfl) rfl (fun ls hl => ?_)
      refine lv_goto (tgt := 3) hx hb dX11_commonDivisor_30 rfl ?_
      exact ih_3 (200 - y_16.toInt : Int).toNat (by omega) _ _ _ ⟨G_1, y_16, x_7, y_15, (Int.toNat_of_nonneg ((by first | exact ok_453 f_10.2 c_12 ty_16 | omega))), ⟨(by first | exact ok_23 f_10.1 ty_16 | omega), (by first | exact ok_454 f_10.2 c_12 ty_16 | omega)⟩, (hX_8.st (St_k_gcd_1_mk ⟨x_5, x_6, x_7, G_1, y_16, x_7, y_15, G_1, rfl, rfl, f_10, hB_G_1, ⟨c_12, ⟨y_13, ey_13, ⟨c_14, ⟨y_15, ey_15, ⟨y_16, ty_16, ⟨rfl, rfl, rfl, rfl⟩⟩⟩⟩⟩⟩⟩)), hW, hB_G_1, hF, (Fr.call9 (rs := []) (fs := []) Fr.rf hq_2 rfl rfl), hS, lv_sub hl [0, 2, 1] rfl⟩

set_option maxHeartbeats 4000000 in
set_option maxRecDepth 100000 in
theorem k_wToday (l : Launch) (D : va_G) (k : KT) (A : Nat → Prop) (a : Nat → Nat) (z : SK) (G : GS)   : Met l yX11_today (WS yX11_today cX11_today 1 (some .int)) ({ frames := 0, cells := 0, slots := 0, locals := 0 }) (va_Pc [.ref (a 0)] (cW D k A a z G)) (va_Qi (fun (r : Int32) (G1 : GS) => P_wToday G r G1) (fun (G1 : GS) t => Wd D k A a G1 t.heap) A) 0 0 A := by
  refine Met.ofW (cc := cX11_today) (maxL := 1) (ret := (some .int)) (by decide) rfl ?_
  intro p e s m args below meth c s₁ B hml hv
  obtain ⟨rfl, hW, hB_G, hK, hZ⟩ := hv
  have hx := B.exec
  have hb := B.bytes
  have hr := B.returns
  have hts := atoms_spec (ws := WS yX11_today cX11_today 1 (some .int)) B.pre
  have hgd : ∀ w ∈ gd, w ∈ WS yX11_today cX11_today 1 (some .int) := fun w h => List.mem_cons_of_mem _ h
  have hg : ∀ w ∈ gd, w.before _ s = true := fun w h => hts w (hgd w h)
  have hown : s.vm.findClass RX11 = some m.cls := findClass_of_methodNamed B.named
  have hS : va_S A s.heap s.heap [] := va_S.rf
  have hF : Fr [] [] G G := Fr.rf
  have hl := lv_entry ([.ref (a 0)]) (n := 1) (Nat.le_of_ble_eq_true rfl)
  rw [lg_entry_eq]
  generalize (lg_sl ([.ref (a 0)]) ++ List.replicate (1 - (lg_sl ([.ref (a 0)])).length) Slot.unset).toArray = ls at hl ⊢
  have hl : lv_has ls 1 [(0, .ref (a 0))] := hl
  refine lv_aload_n hx hb dX11_today_0 rfl (lv_at hl 0 rfl) ?_
  refine S_getR (n := 30) (C := RX11) (T := TX11) (N := 13) hx hb hg iX11 hown hK hW kd_0 rfl 8 (lt_b rfl) (hg (Cond.fieldLink RX11 65 "SlabWalk" "earnest" "LSlabWalk$Earnest;") m578) (fun _ h9 => h9) rfl dX11_today_1 ?_
  refine S_getR (n := 58) (C := RX1) (T := TX1) (N := 6) hx hb hg iX1 hown hK hW kd_30 rfl 0 (lt_b rfl) (hg (Cond.fieldLink RX11 246 "SlabWalk$Earnest" "now" "[I") m493) (fun _ h9 => h9) rfl dX11_today_4 ?_
  refine lv_bipush (v := 6) hx hb dX11_today_7 (by decide) ?_
  refine S_iald hx hb hK hW kd_58 (vin (by decide) (by decide)) dX11_today_9 (fun y_1 ey_1 => ?_)
  exact W.iret (v := y_1) hx hb hr (fun t ht _ => ⟨⟨y_1, G, rfl, (P_wToday_mk ⟨hB_G, hF, ⟨y_1, ey_1, ⟨rfl, rfl⟩⟩⟩), wd_t ht hW⟩, hS.F ht⟩) hS.2.2 dX11_today_10

set_option maxHeartbeats 4000000 in
set_option maxRecDepth 100000 in
theorem k_wLay (l : Launch) (D : va_G) (k : KT) (A : Nat → Prop) (a : Nat → Nat) (z : SK) (G : GS) (p0 : Int32)  : Met l yX11_layDown (WS yX11_layDown cX11_layDown 2 none) ({ frames := 0, cells := 0, slots := 0, locals := 0 }) (va_Pc [.ref (a 0), .int p0] (cW D k A a z G)) (va_Qv (fun (G1 : GS) => P_wLay p0 G G1) (fun (G1 : GS) t => Wd D k A a G1 t.heap) A) 0 0 A := by
  refine Met.ofW (cc := cX11_layDown) (maxL := 2) (ret := none) (by decide) rfl ?_
  intro p e s m args below meth c s₁ B hml hv
  obtain ⟨rfl, hW, hB_G, hK, hZ⟩ := hv
  have hx := B.exec
  have hb := B.bytes
  have hr := B.returns
  have hts := atoms_spec (ws := WS yX11_layDown cX11_layDown 2 none) B.pre
  have hgd : ∀ w ∈ gd, w ∈ WS yX11_layDown cX11_layDown 2 none := fun w h => List.mem_cons_of_mem _ h
  have hg : ∀ w ∈ gd, w.before _ s = true := fun w h => hts w (hgd w h)
  have hown : s.vm.findClass RX11 = some m.cls := findClass_of_methodNamed B.named
  have hS : va_S A s.heap s.heap [] := va_S.rf
  have hF : Fr [33] [(0, 12)] G G := Fr.rf
  have hl := lv_entry ([.ref (a 0), .int p0]) (n := 2) (Nat.le_of_ble_eq_true rfl)
  rw [lg_entry_eq]
  generalize (lg_sl ([.ref (a 0), .int p0]) ++ List.replicate (2 - (lg_sl ([.ref (a 0), .int p0])).length) Slot.unset).toArray = ls at hl ⊢
  have hl : lv_has ls 2 [(0, .ref (a 0)), (1, .int p0)] := hl
  refine lv_aload_n hx hb dX11_layDown_0 rfl (lv_at hl 0 rfl) ?_
  have b_1 : 0 ≤ (G.1 0 12).toInt ∧ (G.1 0 12).toInt ≤ 400 := bd_0_12 hB_G
  refine S_getI (v := (G.1 0 12)) (C := RX11) (T := TX11) (N := 13) hx hb hg iX11 hown hK hW kd_0 rfl 12 (lt_b rfl) (hg (Cond.fieldLink RX11 150 "SlabWalk" "lie" "I") m582) (fun _ h9 => h9) rfl rfl dX11_layDown_1 ?_
  refine lv_sipush (v := 400) hx hb dX11_layDown_4 (by decide) ?_
  refine lv_icmp_ge (tgt := 27) hx hb dX11_layDown_7 rfl (fun c_2 => ?_) (fun c_2 => ?_)
  · have c_2 : 400 ≤ (G.1 0 12).toInt := xI_le rfl rfl c_2
    exact W.vret hx hb hr (fun t ht _ => ⟨⟨G, rfl, (P_wLay_mk ⟨hB_G, hF, (Or.inl ⟨c_2, rfl⟩)⟩), wd_t ht hW⟩, hS.F ht⟩) hS.2.2 dX11_layDown_27
  · have c_2 : (G.1 0 12).toInt < 400 := xI_nle rfl rfl c_2
    refine lv_aload_n hx hb dX11_layDown_10 rfl (lv_at hl 0 rfl) ?_
    refine S_getR (n := 33) (C := RX11) (T := TX11) (N := 13) hx hb hg iX11 hown hK hW kd_0 rfl 10 (lt_b rfl) (hg (Cond.fieldLink RX11 76 "SlabWalk" "lying" "[I") m580) (fun _ h9 => h9) rfl dX11_layDown_11 ?_
    refine lv_aload_n hx hb dX11_layDown_14 rfl (lv_at hl 0 rfl) ?_
    refine lv_dup hx hb dX11_layDown_15 rfl ?_
    refine S_getI (v := (G.1 0 12)) (C := RX11) (T := TX11) (N := 13) hx hb hg iX11 hown hK hW kd_0 rfl 12 (lt_b rfl) (hg (Cond.fieldLink RX11 150 "SlabWalk" "lie" "I") m582) (fun _ h9 => h9) rfl rfl dX11_layDown_16 ?_
    refine lv_dup_x1 hx hb dX11_layDown_19 rfl rfl ?_
    refine ic_1 hx hb dX11_layDown_20 ?_
    refine lv_iadd hx hb dX11_layDown_21 ?_
    refine lv_topi (fun y_3 ey_3 => ?_)
    have ty_3 : y_3.toInt = (G.1 0 12).toInt + 1 := xI_add rfl rfl ey_3 ((by first | exact ok_21 b_1.1 | omega)) ((by first | exact ok_40 b_1.2 | omega))
    refine S_putI (ty := .int) (C := RX11) (T := TX11) (N := 13) hx hb hg iX11 tyX11 tyX11_ok nmX11 hown hK hW hS kd_0 rfl 12 (lt_b rfl) (hg (Cond.fieldLink RX11 150 "SlabWalk" "lie" "I") m582) (fun _ h9 => h9) rfl (by decide +kernel) rfl rfl rfl dX11_layDown_22 (fun G_4 H locs eG_4 hW hS => ?_)
    have hB_G_4 : Bd G_4 := hB_G.put (V := y_3.toInt) (lo := 0) (hi := 400) eG_4 rfl rfl rfl ((by first | exact ok_23 b_1.1 ty_3 | omega)) ((by first | exact ok_55 b_1.2 c_2 ty_3 | omega)) (hB_G.2.put eG_4 rfl)
    have hF := hF.put eG_4 (Or.inr (by decide))
    refine lv_iload_n hx hb dX11_layDown_25 rfl (lv_at hl 1 rfl) ?_
    refine S_iast hx hb hK hW hS kd_33 (vin ((by first | exact b_1.1 | omega)) ((by first | exact ok_54 b_1.2 c_2 | omega))) dX11_layDown_26 (fun G_5 H locs eG_5 hW hS => ?_)
    have hB_G_5 : Bd G_5 := hB_G_4.put (lo := (-2147483648)) (hi := 2147483647) eG_5 rfl rfl rfl (tI_rng _).1 (tI_rng _).2 (hB_G_4.2.put eG_5 rfl)
    have hF := hF.put eG_5 (Or.inl (by decide))
    exact W.vret hx hb hr (fun t ht _ => ⟨⟨G_5, rfl, (P_wLay_mk ⟨hB_G_5, hF, (Or.inr ⟨c_2, ⟨y_3, ty_3, ⟨(Fr.put (rs := [33]) (fs := [(0, 12)]) (Fr.put (rs := [33]) (fs := [(0, 12)]) Fr.rf eG_4 (Or.inr (by decide))) eG_5 (Or.inl (by decide))), ((gp_ne eG_5 (fun q => absurd q.1 (Nat.ne_of_beq_eq_false rfl))).trans (gp_eq eG_4)), (rw_ast eG_5).trans (congrArg (fun q => upd q ((G.1 0 12).toNatClampNeg) p0) (rw_put eG_4 (by decide)))⟩⟩⟩)⟩), wd_t ht hW⟩, hS.F ht⟩) hS.2.2 dX11_layDown_27

set_option maxHeartbeats 4000000 in
set_option maxRecDepth 100000 in
theorem k_wTape (l : Launch) (D : va_G) (k : KT) (A : Nat → Prop) (a : Nat → Nat) (z : SK) (G : GS) (p0 : Int32)  : Met l yX11_putOnTape (WS yX11_putOnTape cX11_putOnTape 3 none) ({ frames := 0, cells := 0, slots := 0, locals := 0 }) (va_Pc [.ref (a 0), .int p0] (cW D k A a z G)) (va_Qv (fun (G1 : GS) => P_wTape p0 G G1) (fun (G1 : GS) t => Wd D k A a G1 t.heap) A) 0 0 A := by
  refine Met.ofW (cc := cX11_putOnTape) (maxL := 3) (ret := none) (by decide) rfl ?_
  intro p e s m args below meth c s₁ B hml hv
  obtain ⟨rfl, hW, hB_G, hK, hZ⟩ := hv
  have hx := B.exec
  have hb := B.bytes
  have hr := B.returns
  have hts := atoms_spec (ws := WS yX11_putOnTape cX11_putOnTape 3 none) B.pre
  have hgd : ∀ w ∈ gd, w ∈ WS yX11_putOnTape cX11_putOnTape 3 none := fun w h => List.mem_cons_of_mem _ h
  have hg : ∀ w ∈ gd, w.before _ s = true := fun w h => hts w (hgd w h)
  have hown : s.vm.findClass RX11 = some m.cls := findClass_of_methodNamed B.named
  have hS : va_S A s.heap s.heap [] := va_S.rf
  have hF : Fr [32] [(0, 11)] G G := Fr.rf
  have hl := lv_entry ([.ref (a 0), .int p0]) (n := 3) (Nat.le_of_ble_eq_true rfl)
  rw [lg_entry_eq]
  generalize (lg_sl ([.ref (a 0), .int p0]) ++ List.replicate (3 - (lg_sl ([.ref (a 0), .int p0])).length) Slot.unset).toArray = ls at hl ⊢
  have hl : lv_has ls 3 [(0, .ref (a 0)), (1, .int p0)] := hl
  refine lv_bipush (v := 24) hx hb dX11_putOnTape_0 (by decide) ?_
  refine lv_istore_n (lv' := [(2, .int 24), (0, .ref (a 0)), (1, .int p0)]) hx hb dX11_putOnTape_2 rfl hl (lt_b rfl) rfl (fun ls hl => ?_)
  have qc_7 : (24 : Int32).toInt = 24 := rfl
  refine loop_N (Inv := fun n H locs ls => ∃ (G_1 : GS) (x_5 : Int32), (n : Int) = x_5.toInt - (-8) ∧ ((-8) ≤ x_5.toInt ∧ x_5.toInt ≤ 24) ∧ Rc (St_k_wTape_1 p0) (24, G) (x_5, G_1) ∧ Wd D k A a G_1 H ∧ Bd G_1 ∧ Fr [32] [(0, 11)] G G_1 ∧ Fr [32] [(0, 11)] G G_1 ∧ va_S A s.heap H locs ∧ lv_has ls 3 [(2, .int x_5), (0, .ref (a 0)), (1, .int p0)]) (fun n_4 H locs ls ih_3 hI => ?_) (24 - (-8) : Int).toNat ⟨G, 24, (Int.toNat_of_nonneg ((by decide))), ⟨(by decide), (by decide)⟩, Rc.rf, hW, hB_G, hF, Fr.rf, hS, lv_sub hl [0, 1, 2] rfl⟩
  obtain ⟨G_1, x_5, hn_9, f_8, hX_6, hW, hB_G_1, hF, hq_2, hS, hl⟩ := hI
  refine lv_iload_n hx hb dX11_putOnTape_3 rfl (lv_at hl 0 rfl) ?_
  refine lv_if_lt (tgt := 43) hx hb dX11_putOnTape_4 rfl (fun c_10 => ?_) (fun c_10 => ?_)
  · have c_10 : x_5.toInt < 0 := xI_lt rfl rfl c_10
    exact W.vret hx hb hr (fun t ht _ => ⟨⟨G_1, rfl, (P_wTape_mk ⟨hB_G_1, hF, ⟨x_5, G_1, hX_6, f_8, hB_G_1, hq_2, ⟨c_10, rfl⟩⟩⟩), wd_t ht hW⟩, hS.F ht⟩) hS.2.2 dX11_putOnTape_43
  · have c_10 : 0 ≤ x_5.toInt := xI_nlt rfl rfl c_10
    refine lv_aload_n hx hb dX11_putOnTape_7 rfl (lv_at hl 1 rfl) ?_
    have b_11 : 0 ≤ (G_1.1 0 11).toInt ∧ (G_1.1 0 11).toInt ≤ 1600 := bd_0_11 hB_G_1
    refine S_getI (v := (G_1.1 0 11)) (C := RX11) (T := TX11) (N := 13) hx hb hg iX11 hown hK hW kd_0 rfl 11 (lt_b rfl) (hg (Cond.fieldLink RX11 83 "SlabWalk" "taped" "I") m581) (fun _ h9 => h9) rfl rfl dX11_putOnTape_8 ?_
    refine lv_sipush (v := 1600) hx hb dX11_putOnTape_11 (by decide) ?_
    refine lv_icmp_ge (tgt := 37) hx hb dX11_putOnTape_14 rfl (fun c_12 => ?_) (fun c_12 => ?_)
    · have c_12 : 1600 ≤ (G_1.1 0 11).toInt := xI_le rfl rfl c_12
      obtain ⟨y_13, ey_13⟩ : ∃ q, q = x_5 + (-8) := ⟨_, rfl⟩
      have ty_13 : y_13.toInt = x_5.toInt + (-8) := xI_add rfl rfl ey_13 ((by first | exact ok_455 c_10 | omega)) ((by first | exact ok_456 f_8.2 | omega))
      refine lv_iinc (v := y_13) (lv' := [(2, .int y_13), (0, .ref (a 0)), (1, .int p0)]) hx hb dX11_putOnTape_37 hl (k := 0) rfl (by rw [ey_13]; rfl) (lt_b rfl) rfl (fun ls hl => ?_)
      refine lv_goto (tgt := 3) hx hb dX11_putOnTape_40 rfl ?_
      exact ih_3 (y_13.toInt - (-8) : Int).toNat (by omega) _ _ _ ⟨G_1, y_13, (Int.toNat_of_nonneg ((by first | exact ok_457 c_10 ty_13 | omega))), ⟨(by first | exact ok_458 c_10 ty_13 | omega), (by first | exact ok_459 f_8.2 ty_13 | omega)⟩, (hX_6.st (St_k_wTape_1_mk ⟨x_5, G_1, y_13, G_1, rfl, rfl, f_8, hB_G_1, ⟨c_10, (Or.inl ⟨c_12, ⟨y_13, ty_13, ⟨rfl, rfl⟩⟩⟩)⟩⟩)), hW, hB_G_1, hF, (Fr.call9 (rs := [32]) (fs := [(0, 11)]) Fr.rf hq_2 rfl rfl), hS, lv_sub hl [0, 1, 2] rfl⟩
    · have c_12 : (G_1.1 0 11).toInt < 1600 := xI_nle rfl rfl c_12
      refine lv_aload_n hx hb dX11_putOnTape_17 rfl (lv_at hl 1 rfl) ?_
      refine S_getR (n := 32) (C := RX11) (T := TX11) (N := 13) hx hb hg iX11 hown hK hW kd_0 rfl 2 (lt_b rfl) (hg (Cond.fieldLink RX11 19 "SlabWalk" "tape" "[B") m572) (fun _ h9 => h9) rfl dX11_putOnTape_18 ?_
      refine lv_aload_n hx hb dX11_putOnTape_21 rfl (lv_at hl 1 rfl) ?_
      refine lv_dup hx hb dX11_putOnTape_22 rfl ?_
      refine S_getI (v := (G_1.1 0 11)) (C := RX11) (T := TX11) (N := 13) hx hb hg iX11 hown hK hW kd_0 rfl 11 (lt_b rfl) (hg (Cond.fieldLink RX11 83 "SlabWalk" "taped" "I") m581) (fun _ h9 => h9) rfl rfl dX11_putOnTape_23 ?_
      refine lv_dup_x1 hx hb dX11_putOnTape_26 rfl rfl ?_
      refine ic_1 hx hb dX11_putOnTape_27 ?_
      refine lv_iadd hx hb dX11_putOnTape_28 ?_
      refine lv_topi (fun y_14 ey_14 => ?_)
      have ty_14 : y_14.toInt = (G_1.1 0 11).toInt + 1 := xI_add rfl rfl ey_14 ((by first | exact ok_21 b_11.1 | omega)) ((by first | exact ok_122 b_11.2 | omega))
      refine S_putI (ty := .int) (C := RX11) (T := TX11) (N := 13) hx hb hg iX11 tyX11 tyX11_ok nmX11 hown hK hW hS kd_0 rfl 11 (lt_b rfl) (hg (Cond.fieldLink RX11 83 "SlabWalk" "taped" "I") m581) (fun _ h9 => h9) rfl (by decide +kernel) rfl rfl rfl dX11_putOnTape_29 (fun G_15 H locs eG_15 hW hS => ?_)
      have hB_G_15 : Bd G_15 := hB_G_1.put (V := y_14.toInt) (lo := 0) (hi := 1600) eG_15 rfl rfl rfl ((by first | exact ok_23 b_11.1 ty_14 | omega)) ((by first | exact ok_389 b_11.2 c_12 ty_14 | omega)) (hB_G_1.2.put eG_15 rfl)
      have hF := hF.put eG_15 (Or.inr (by decide))
      refine lv_iload_n hx hb dX11_putOnTape_32 rfl (lv_at hl 2 rfl) ?_
      refine lv_iload_n hx hb dX11_putOnTape_33 rfl (lv_at hl 0 rfl) ?_
      refine lv_ishr hx hb dX11_putOnTape_34 ?_
      refine lv_topi (fun y_16 ey_16 => ?_)
      refine lv_i2b hx hb dX11_putOnTape_35 rfl ?_
      refine lv_topi (fun y_17 ey_17 => ?_)
      refine S_bast hx hb hK hW hS kd_32 (vin ((by first | exact b_11.1 | omega)) ((by first | exact ok_460 b_11.2 c_12 | omega))) dX11_putOnTape_36 (fun G_18 H locs eG_18 hW hS => ?_)
      have hB_G_18 : Bd G_18 := hB_G_15.put (lo := (-128)) (hi := 127) eG_18 rfl rfl rfl nz_byte.1 nz_byte.2 (hB_G_15.2.put eG_18 rfl)
      have hF := hF.put eG_18 (Or.inl (by decide))
      obtain ⟨y_19, ey_19⟩ : ∃ q, q = x_5 + (-8) := ⟨_, rfl⟩
      have ty_19 : y_19.toInt = x_5.toInt + (-8) := xI_add rfl rfl ey_19 ((by first | exact ok_455 c_10 | omega)) ((by first | exact ok_456 f_8.2 | omega))
      refine lv_iinc (v := y_19) (lv' := [(2, .int y_19), (0, .ref (a 0)), (1, .int p0)]) hx hb dX11_putOnTape_37 hl (k := 0) rfl (by rw [ey_19]; rfl) (lt_b rfl) rfl (fun ls hl => ?_)
      refine lv_goto (tgt := 3) hx hb dX11_putOnTape_40 rfl ?_
      exact ih_3 (y_19.toInt - (-8) : Int).toNat ((by first | (clear b_11 c_12 ty_14; omega) | omega)) _ _ _ ⟨G_18, y_19, (Int.toNat_of_nonneg ((by first | exact ok_457 c_10 ty_19 | omega))), ⟨(by first | exact ok_458 c_10 ty_19 | omega), (by first | exact ok_459 f_8.2 ty_19 | omega)⟩, (hX_6.st (St_k_wTape_1_mk ⟨x_5, G_1, y_19, G_18, rfl, rfl, f_8, hB_G_1, ⟨c_10, (Or.inr ⟨c_12, ⟨y_14, ty_14, ⟨y_16, ey_16, ⟨y_17, ey_17, ⟨y_19, ty_19, ⟨rfl, (Fr.put (rs := [32]) (fs := [(0, 11)]) (Fr.put (rs := [32]) (fs := [(0, 11)]) Fr.rf eG_15 (Or.inr (by decide))) eG_18 (Or.inl (by decide))), ((gp_ne eG_18 (fun q => absurd q.1 (Nat.ne_of_beq_eq_false rfl))).trans (gp_eq eG_15)), (rw_ast eG_18).trans (congrArg (fun q => upd q ((G_1.1 0 11).toNatClampNeg) (vp_nar .byte y_17)) (rw_put eG_15 (by decide)))⟩⟩⟩⟩⟩⟩)⟩⟩)), hW, hB_G_18, hF, (Fr.put (rs := [32]) (fs := [(0, 11)]) (Fr.put (rs := [32]) (fs := [(0, 11)]) (Fr.call9 (rs := [32]) (fs := [(0, 11)]) Fr.rf hq_2 rfl rfl) eG_15 (Or.inr (by decide))) eG_18 (Or.inl (by decide))), hS, lv_sub hl [0, 1, 2] rfl⟩

theorem m27 : Cond.selects RX11 yX11_today yX11_today ∈ gd := gds_2 11 rfl
theorem m31 : Cond.selects RX11 yX11_canAsk yX11_canAsk ∈ gd := gds_2 15 rfl
theorem m42 : Cond.selects RX11 yX11_leavesWay yX11_leavesWay ∈ gd := gds_3 10 rfl
theorem m46 : Cond.selects RX11 yX11_isLawfulSight yX11_isLawfulSight ∈ gd := gds_3 14 rfl
theorem m117 : Cond.initialized RX11 ∈ gd := gdc_1_0 1 rfl gw_initialized
theorem m128 : Cond.initialized RX8 ∈ gd := gdc_1_0 12 rfl gw_initialized
theorem m169 : Cond.fieldLink RX11 331 "SlabWalk$Paving" "least" "[I" ∈ gd := gdc_1_3 5 rfl gw_fieldLink
theorem m173 : Cond.fieldLink RX11 237 "SlabWalk$Paving" "most" "[I" ∈ gd := gdc_1_3 9 rfl gw_fieldLink
theorem m177 : Cond.fieldLink RX11 333 "SlabWalk$Paving" "leap" "[I" ∈ gd := gdc_1_3 13 rfl gw_fieldLink
theorem m195 : Cond.fieldLink RX11 228 "SlabWalk$Paving" "rules" "I" ∈ gd := gdc_1_4 15 rfl gw_fieldLink
theorem m209 : Cond.fieldLink RX11 323 "SlabWalk$Paving" "draw" "I" ∈ gd := gdc_1_5 13 rfl gw_fieldLink
theorem m444 : Cond.fieldLink RX11 347 "SlabWalk$Trails" "winning" "[I" ∈ gd := gdc_2_5 8 rfl gw_fieldLink
theorem m446 : Cond.fieldLink RX11 353 "SlabWalk$Trails" "leaving" "[Z" ∈ gd := gdc_2_5 10 rfl gw_fieldLink
theorem m521 : Cond.fieldLink RX11 365 "SlabWalk$Sights" "walker" "[I" ∈ gd := gdc_2_10 5 rfl gw_fieldLink
theorem m523 : Cond.fieldLink RX11 362 "SlabWalk$Sights" "street" "[I" ∈ gd := gdc_2_10 7 rfl gw_fieldLink
theorem m525 : Cond.fieldLink RX11 359 "SlabWalk$Sights" "heel" "[I" ∈ gd := gdc_2_10 9 rfl gw_fieldLink
theorem m529 : Cond.fieldLink RX11 285 "SlabWalk$Sights" "count" "I" ∈ gd := gdc_2_10 13 rfl gw_fieldLink
theorem m551 : Cond.methodLink RX11 320 yX3_lookAt ∈ gd := gdc_2_12 3 rfl gw_methodLink
theorem m552 : Cond.instanceMethod yX3_lookAt ∈ gd := gdc_2_12 4 rfl gw_instanceMethod
theorem m553 : Cond.selects RX3 yX3_lookAt yX3_lookAt ∈ gd := gdc_2_12 5 rfl gw_selects
theorem m554 : Cond.code yX3_lookAt cX3_lookAt 2 none ∈ gd := gdc_2_12 6 rfl gw_code
theorem m558 : Cond.methodLink RX11 326 yX1_startAnew ∈ gd := gdc_2_12 10 rfl gw_methodLink
theorem m559 : Cond.instanceMethod yX1_startAnew ∈ gd := gdc_2_12 11 rfl gw_instanceMethod
theorem m560 : Cond.selects RX1 yX1_startAnew yX1_startAnew ∈ gd := gdc_2_12 12 rfl gw_selects
theorem m561 : Cond.code yX1_startAnew cX1_startAnew 2 none ∈ gd := gdc_2_12 13 rfl gw_code
theorem m570 : Cond.fieldLink RX11 10 "SlabWalk" "paving" "LSlabWalk$Paving;" ∈ gd := gdc_2_13 6 rfl gw_fieldLink
theorem m574 : Cond.fieldLink RX11 37 "SlabWalk" "lines" "LSlabWalk$Lines;" ∈ gd := gdc_2_13 10 rfl gw_fieldLink
theorem m575 : Cond.fieldLink RX11 44 "SlabWalk" "course" "LSlabWalk$Course;" ∈ gd := gdc_2_13 11 rfl gw_fieldLink
theorem m576 : Cond.fieldLink RX11 51 "SlabWalk" "trails" "LSlabWalk$Trails;" ∈ gd := gdc_2_13 12 rfl gw_fieldLink
theorem m579 : Cond.fieldLink RX11 72 "SlabWalk" "sights" "LSlabWalk$Sights;" ∈ gd := gdc_2_13 15 rfl gw_fieldLink
theorem m902 : Cond.methodLink RX11 121 yX6_hasStreet ∈ gd := gdc_4_4 2 rfl gw_methodLink
theorem m907 : Cond.methodLink RX11 128 yX6_hasSet ∈ gd := gdc_4_4 7 rfl gw_methodLink
theorem m908 : Cond.instanceMethod yX6_hasSet ∈ gd := gdc_4_4 8 rfl gw_instanceMethod
theorem m909 : Cond.selects RX6 yX6_hasSet yX6_hasSet ∈ gd := gdc_4_4 9 rfl gw_selects
theorem m910 : Cond.code yX6_hasSet cX6_hasSet 2 (some .boolean) ∈ gd := gdc_4_4 10 rfl gw_code
theorem m911 : Cond.methodLink RX11 131 yX11_today ∈ gd := gdc_4_4 11 rfl gw_methodLink
theorem m913 : Cond.instanceMethod yX11_today ∈ gd := gdc_4_4 13 rfl gw_instanceMethod
theorem m914 : Cond.code yX11_today cX11_today 1 (some .int) ∈ gd := gdc_4_4 14 rfl gw_code
theorem m915 : Cond.methodLink RX11 135 yX3_findFor ∈ gd := gdc_4_4 15 rfl gw_methodLink
theorem m916 : Cond.instanceMethod yX3_findFor ∈ gd := gdc_4_5 0 rfl gw_instanceMethod
theorem m917 : Cond.selects RX3 yX3_findFor yX3_findFor ∈ gd := gdc_4_5 1 rfl gw_selects
theorem m918 : Cond.code yX3_findFor cX3_findFor 7 none ∈ gd := gdc_4_5 2 rfl gw_code
theorem m953 : Cond.methodLink RX11 143 yX11_canAsk ∈ gd := gdc_4_7 5 rfl gw_methodLink
theorem m955 : Cond.instanceMethod yX11_canAsk ∈ gd := gdc_4_7 7 rfl gw_instanceMethod
theorem m956 : Cond.code yX11_canAsk cX11_canAsk 4 (some .boolean) ∈ gd := gdc_4_7 8 rfl gw_code
theorem m957 : Cond.methodLink RX11 328 yX6_hasWalker ∈ gd := gdc_4_7 9 rfl gw_methodLink
theorem m961 : Cond.methodLink RX11 146 yX3_isLawful ∈ gd := gdc_4_7 13 rfl gw_methodLink
theorem m962 : Cond.instanceMethod yX3_isLawful ∈ gd := gdc_4_7 14 rfl gw_instanceMethod
theorem m963 : Cond.selects RX3 yX3_isLawful yX3_isLawful ∈ gd := gdc_4_7 15 rfl gw_selects
theorem m964 : Cond.code yX3_isLawful cX3_isLawful 6 (some .boolean) ∈ gd := gdc_4_8 0 rfl gw_code
theorem m979 : Cond.methodLink RX11 336 yX0_lookAt ∈ gd := gdc_4_8 15 rfl gw_methodLink
theorem m980 : Cond.instanceMethod yX0_lookAt ∈ gd := gdc_4_9 0 rfl gw_instanceMethod
theorem m981 : Cond.selects RX0 yX0_lookAt yX0_lookAt ∈ gd := gdc_4_9 1 rfl gw_selects
theorem m982 : Cond.code yX0_lookAt cX0_lookAt 4 none ∈ gd := gdc_4_9 2 rfl gw_code
theorem m984 : Cond.methodLink RX11 339 yX0_findLawful ∈ gd := gdc_4_9 4 rfl gw_methodLink
theorem m985 : Cond.instanceMethod yX0_findLawful ∈ gd := gdc_4_9 5 rfl gw_instanceMethod
theorem m986 : Cond.selects RX0 yX0_findLawful yX0_findLawful ∈ gd := gdc_4_9 6 rfl gw_selects
theorem m987 : Cond.code yX0_findLawful cX0_findLawful 6 none ∈ gd := gdc_4_9 7 rfl gw_code
theorem m1121 : Cond.methodLink RX11 234 yX6_stands ∈ gd := gdc_5_2 13 rfl gw_methodLink
theorem m1150 : Cond.methodLink RX11 350 yX10_winningFrom ∈ gd := gdc_5_4 10 rfl gw_methodLink
theorem m1151 : Cond.instanceMethod yX10_winningFrom ∈ gd := gdc_5_4 11 rfl gw_instanceMethod
theorem m1152 : Cond.selects RX10 yX10_winningFrom yX10_winningFrom ∈ gd := gdc_5_4 12 rfl gw_selects
theorem m1153 : Cond.code yX10_winningFrom cX10_winningFrom 5 (some .int) ∈ gd := gdc_5_4 13 rfl gw_code
theorem m1154 : Cond.methodLink RX11 231 yX11_leavesWay ∈ gd := gdc_5_4 14 rfl gw_methodLink
theorem m1156 : Cond.instanceMethod yX11_leavesWay ∈ gd := gdc_5_5 0 rfl gw_instanceMethod
theorem m1157 : Cond.code yX11_leavesWay cX11_leavesWay 3 (some .boolean) ∈ gd := gdc_5_5 1 rfl gw_code
theorem m1158 : Cond.methodLink RX11 343 yX10_isThereWay ∈ gd := gdc_5_5 2 rfl gw_methodLink
theorem m1159 : Cond.instanceMethod yX10_isThereWay ∈ gd := gdc_5_5 3 rfl gw_instanceMethod
theorem m1160 : Cond.selects RX10 yX10_isThereWay yX10_isThereWay ∈ gd := gdc_5_5 4 rfl gw_selects
theorem m1161 : Cond.code yX10_isThereWay cX10_isThereWay 8 (some .boolean) ∈ gd := gdc_5_5 5 rfl gw_code
theorem m1271 : Cond.methodLink RX11 288 yX8_counts ∈ gd := gdc_5_12 3 rfl gw_methodLink
theorem m1272 : Cond.instanceMethod yX8_counts ∈ gd := gdc_5_12 4 rfl gw_instanceMethod
theorem m1273 : Cond.selects RX8 yX8_counts yX8_counts ∈ gd := gdc_5_12 5 rfl gw_selects
theorem m1274 : Cond.code yX8_counts cX8_counts 3 (some .boolean) ∈ gd := gdc_5_12 6 rfl gw_code
theorem m1275 : Cond.methodLink RX11 356 yX11_isLawfulSight ∈ gd := gdc_5_12 7 rfl gw_methodLink
theorem m1277 : Cond.instanceMethod yX11_isLawfulSight ∈ gd := gdc_5_12 9 rfl gw_instanceMethod
theorem m1278 : Cond.code yX11_isLawfulSight cX11_isLawfulSight 5 (some .boolean) ∈ gd := gdc_5_12 10 rfl gw_code
noncomputable def rbX11_canAsk_0 : List (Nat × List Nat) := [(0, [42]), (1, [180, 0, 10]), (4, [27]), (5, [182, 1, 72]), (8, [153, 0, 29]), (11, [42]), (12, [180, 0, 10]), (15, [28]), (16, [182, 0, 121]), (19, [153, 0, 18]), (22, [42]), (23, [180, 0, 10]), (26, [29]), (27, [182, 0, 128]), (30, [153, 0, 7]), (33, [4]), (34, [167, 0, 4]), (37, [3]), (38, [172])]
theorem rcX11_canAsk_0 : dgo (lb cX11_canAsk) 0 rbX11_canAsk_0 = true := by decide +kernel
theorem dX11_canAsk_0 : decode cX11_canAsk 0 = .ok (.aload_n 0, 1) := dk_42 (dw rcX11_canAsk_0 0 rfl)
theorem dX11_canAsk_1 : decode cX11_canAsk 1 = .ok (.getfield 10, 3) := dk_180 (dw rcX11_canAsk_0 1 rfl) rfl
theorem dX11_canAsk_4 : decode cX11_canAsk 4 = .ok (.iload_n 1, 1) := dk_27 (dw rcX11_canAsk_0 2 rfl)
theorem dX11_canAsk_5 : decode cX11_canAsk 5 = .ok (.invokevirtual 328, 3) := dk_182 (dw rcX11_canAsk_0 3 rfl) rfl
theorem dX11_canAsk_8 : decode cX11_canAsk 8 = .ok (.ifCond .eq 29, 3) := dk_153 (dw rcX11_canAsk_0 4 rfl) rfl
theorem dX11_canAsk_11 : decode cX11_canAsk 11 = .ok (.aload_n 0, 1) := dk_42 (dw rcX11_canAsk_0 5 rfl)
theorem dX11_canAsk_12 : decode cX11_canAsk 12 = .ok (.getfield 10, 3) := dk_180 (dw rcX11_canAsk_0 6 rfl) rfl
theorem dX11_canAsk_15 : decode cX11_canAsk 15 = .ok (.iload_n 2, 1) := dk_28 (dw rcX11_canAsk_0 7 rfl)
theorem dX11_canAsk_16 : decode cX11_canAsk 16 = .ok (.invokevirtual 121, 3) := dk_182 (dw rcX11_canAsk_0 8 rfl) rfl
theorem dX11_canAsk_19 : decode cX11_canAsk 19 = .ok (.ifCond .eq 18, 3) := dk_153 (dw rcX11_canAsk_0 9 rfl) rfl
theorem dX11_canAsk_22 : decode cX11_canAsk 22 = .ok (.aload_n 0, 1) := dk_42 (dw rcX11_canAsk_0 10 rfl)
theorem dX11_canAsk_23 : decode cX11_canAsk 23 = .ok (.getfield 10, 3) := dk_180 (dw rcX11_canAsk_0 11 rfl) rfl
theorem dX11_canAsk_26 : decode cX11_canAsk 26 = .ok (.iload_n 3, 1) := dk_29 (dw rcX11_canAsk_0 12 rfl)
theorem dX11_canAsk_27 : decode cX11_canAsk 27 = .ok (.invokevirtual 128, 3) := dk_182 (dw rcX11_canAsk_0 13 rfl) rfl
theorem dX11_canAsk_30 : decode cX11_canAsk 30 = .ok (.ifCond .eq 7, 3) := dk_153 (dw rcX11_canAsk_0 14 rfl) rfl
theorem dX11_canAsk_33 : decode cX11_canAsk 33 = .ok (.iconst 1, 1) := dk_4 (dw rcX11_canAsk_0 15 rfl)
theorem dX11_canAsk_34 : decode cX11_canAsk 34 = .ok (.goto 4, 3) := dk_167 (dw rcX11_canAsk_0 16 rfl) rfl
theorem dX11_canAsk_37 : decode cX11_canAsk 37 = .ok (.iconst 0, 1) := dk_3 (dw rcX11_canAsk_0 17 rfl)
theorem dX11_canAsk_38 : decode cX11_canAsk 38 = .ok (.ireturn, 1) := dk_172 (dw rcX11_canAsk_0 18 rfl)
noncomputable def rbX11_canBeBrave_0 : List (Nat × List Nat) := [(0, [42]), (1, [27]), (2, [28]), (3, [29]), (4, [182, 0, 143]), (7, [153, 0, 34]), (10, [42]), (11, [180, 0, 10]), (14, [27]), (15, [28]), (16, [21, 4]), (18, [182, 0, 234]), (21, [153, 0, 20]), (24, [21, 5]), (26, [4]), (27, [161, 0, 14]), (30, [21, 5]), (32, [16, 8]), (34, [163, 0, 7]), (37, [4]), (38, [167, 0, 4]), (41, [3]), (42, [172])]
theorem rcX11_canBeBrave_0 : dgo (lb cX11_canBeBrave) 0 rbX11_canBeBrave_0 = true := by decide +kernel
theorem dX11_canBeBrave_0 : decode cX11_canBeBrave 0 = .ok (.aload_n 0, 1) := dk_42 (dw rcX11_canBeBrave_0 0 rfl)
theorem dX11_canBeBrave_1 : decode cX11_canBeBrave 1 = .ok (.iload_n 1, 1) := dk_27 (dw rcX11_canBeBrave_0 1 rfl)
theorem dX11_canBeBrave_2 : decode cX11_canBeBrave 2 = .ok (.iload_n 2, 1) := dk_28 (dw rcX11_canBeBrave_0 2 rfl)
theorem dX11_canBeBrave_3 : decode cX11_canBeBrave 3 = .ok (.iload_n 3, 1) := dk_29 (dw rcX11_canBeBrave_0 3 rfl)
theorem dX11_canBeBrave_4 : decode cX11_canBeBrave 4 = .ok (.invokevirtual 143, 3) := dk_182 (dw rcX11_canBeBrave_0 4 rfl) rfl
theorem dX11_canBeBrave_7 : decode cX11_canBeBrave 7 = .ok (.ifCond .eq 34, 3) := dk_153 (dw rcX11_canBeBrave_0 5 rfl) rfl
theorem dX11_canBeBrave_10 : decode cX11_canBeBrave 10 = .ok (.aload_n 0, 1) := dk_42 (dw rcX11_canBeBrave_0 6 rfl)
theorem dX11_canBeBrave_11 : decode cX11_canBeBrave 11 = .ok (.getfield 10, 3) := dk_180 (dw rcX11_canBeBrave_0 7 rfl) rfl
theorem dX11_canBeBrave_14 : decode cX11_canBeBrave 14 = .ok (.iload_n 1, 1) := dk_27 (dw rcX11_canBeBrave_0 8 rfl)
theorem dX11_canBeBrave_15 : decode cX11_canBeBrave 15 = .ok (.iload_n 2, 1) := dk_28 (dw rcX11_canBeBrave_0 9 rfl)
theorem dX11_canBeBrave_16 : decode cX11_canBeBrave 16 = .ok (.iload 4, 2) := dk_21 (dw rcX11_canBeBrave_0 10 rfl)
theorem dX11_canBeBrave_18 : decode cX11_canBeBrave 18 = .ok (.invokevirtual 234, 3) := dk_182 (dw rcX11_canBeBrave_0 11 rfl) rfl
theorem dX11_canBeBrave_21 : decode cX11_canBeBrave 21 = .ok (.ifCond .eq 20, 3) := dk_153 (dw rcX11_canBeBrave_0 12 rfl) rfl
theorem dX11_canBeBrave_24 : decode cX11_canBeBrave 24 = .ok (.iload 5, 2) := dk_21 (dw rcX11_canBeBrave_0 13 rfl)
theorem dX11_canBeBrave_26 : decode cX11_canBeBrave 26 = .ok (.iconst 1, 1) := dk_4 (dw rcX11_canBeBrave_0 14 rfl)
theorem dX11_canBeBrave_27 : decode cX11_canBeBrave 27 = .ok (.if_icmp .lt 14, 3) := dk_161 (dw rcX11_canBeBrave_0 15 rfl) rfl
theorem dX11_canBeBrave_30 : decode cX11_canBeBrave 30 = .ok (.iload 5, 2) := dk_21 (dw rcX11_canBeBrave_0 16 rfl)
theorem dX11_canBeBrave_32 : decode cX11_canBeBrave 32 = .ok (.bipush 8, 2) := dk_16 (dw rcX11_canBeBrave_0 17 rfl) rfl
theorem dX11_canBeBrave_34 : decode cX11_canBeBrave 34 = .ok (.if_icmp .gt 7, 3) := dk_163 (dw rcX11_canBeBrave_0 18 rfl) rfl
theorem dX11_canBeBrave_37 : decode cX11_canBeBrave 37 = .ok (.iconst 1, 1) := dk_4 (dw rcX11_canBeBrave_0 19 rfl)
theorem dX11_canBeBrave_38 : decode cX11_canBeBrave 38 = .ok (.goto 4, 3) := dk_167 (dw rcX11_canBeBrave_0 20 rfl) rfl
theorem dX11_canBeBrave_41 : decode cX11_canBeBrave 41 = .ok (.iconst 0, 1) := dk_3 (dw rcX11_canBeBrave_0 21 rfl)
theorem dX11_canBeBrave_42 : decode cX11_canBeBrave 42 = .ok (.ireturn, 1) := dk_172 (dw rcX11_canBeBrave_0 22 rfl)
noncomputable def rbX11_canGo_0 : List (Nat × List Nat) := [(0, [42]), (1, [180, 0, 65]), (4, [180, 0, 246]), (7, [3]), (8, [46]), (9, [61]), (10, [42]), (11, [180, 0, 10]), (14, [28]), (15, [182, 1, 72]), (18, [153, 0, 29]), (21, [42]), (22, [180, 0, 65]), (25, [180, 0, 246]), (28, [7]), (29, [46]), (30, [4]), (31, [160, 0, 16]), (34, [27]), (35, [42]), (36, [180, 0, 10]), (39, [180, 1, 75]), (42, [28]), (43, [46])]
theorem rcX11_canGo_0 : dgo (lb cX11_canGo) 0 rbX11_canGo_0 = true := by decide +kernel
theorem dX11_canGo_0 : decode cX11_canGo 0 = .ok (.aload_n 0, 1) := dk_42 (dw rcX11_canGo_0 0 rfl)
theorem dX11_canGo_1 : decode cX11_canGo 1 = .ok (.getfield 65, 3) := dk_180 (dw rcX11_canGo_0 1 rfl) rfl
theorem dX11_canGo_4 : decode cX11_canGo 4 = .ok (.getfield 246, 3) := dk_180 (dw rcX11_canGo_0 2 rfl) rfl
theorem dX11_canGo_7 : decode cX11_canGo 7 = .ok (.iconst 0, 1) := dk_3 (dw rcX11_canGo_0 3 rfl)
theorem dX11_canGo_8 : decode cX11_canGo 8 = .ok (.iaload, 1) := dk_46 (dw rcX11_canGo_0 4 rfl)
theorem dX11_canGo_9 : decode cX11_canGo 9 = .ok (.istore_n 2, 1) := dk_61 (dw rcX11_canGo_0 5 rfl)
theorem dX11_canGo_10 : decode cX11_canGo 10 = .ok (.aload_n 0, 1) := dk_42 (dw rcX11_canGo_0 6 rfl)
theorem dX11_canGo_11 : decode cX11_canGo 11 = .ok (.getfield 10, 3) := dk_180 (dw rcX11_canGo_0 7 rfl) rfl
theorem dX11_canGo_14 : decode cX11_canGo 14 = .ok (.iload_n 2, 1) := dk_28 (dw rcX11_canGo_0 8 rfl)
theorem dX11_canGo_15 : decode cX11_canGo 15 = .ok (.invokevirtual 328, 3) := dk_182 (dw rcX11_canGo_0 9 rfl) rfl
theorem dX11_canGo_18 : decode cX11_canGo 18 = .ok (.ifCond .eq 29, 3) := dk_153 (dw rcX11_canGo_0 10 rfl) rfl
theorem dX11_canGo_21 : decode cX11_canGo 21 = .ok (.aload_n 0, 1) := dk_42 (dw rcX11_canGo_0 11 rfl)
theorem dX11_canGo_22 : decode cX11_canGo 22 = .ok (.getfield 65, 3) := dk_180 (dw rcX11_canGo_0 12 rfl) rfl
theorem dX11_canGo_25 : decode cX11_canGo 25 = .ok (.getfield 246, 3) := dk_180 (dw rcX11_canGo_0 13 rfl) rfl
theorem dX11_canGo_28 : decode cX11_canGo 28 = .ok (.iconst 4, 1) := dk_7 (dw rcX11_canGo_0 14 rfl)
theorem dX11_canGo_29 : decode cX11_canGo 29 = .ok (.iaload, 1) := dk_46 (dw rcX11_canGo_0 15 rfl)
theorem dX11_canGo_30 : decode cX11_canGo 30 = .ok (.iconst 1, 1) := dk_4 (dw rcX11_canGo_0 16 rfl)
theorem dX11_canGo_31 : decode cX11_canGo 31 = .ok (.if_icmp .ne 16, 3) := dk_160 (dw rcX11_canGo_0 17 rfl) rfl
theorem dX11_canGo_34 : decode cX11_canGo 34 = .ok (.iload_n 1, 1) := dk_27 (dw rcX11_canGo_0 18 rfl)
theorem dX11_canGo_35 : decode cX11_canGo 35 = .ok (.aload_n 0, 1) := dk_42 (dw rcX11_canGo_0 19 rfl)
theorem dX11_canGo_36 : decode cX11_canGo 36 = .ok (.getfield 10, 3) := dk_180 (dw rcX11_canGo_0 20 rfl) rfl
theorem dX11_canGo_39 : decode cX11_canGo 39 = .ok (.getfield 331, 3) := dk_180 (dw rcX11_canGo_0 21 rfl) rfl
theorem dX11_canGo_42 : decode cX11_canGo 42 = .ok (.iload_n 2, 1) := dk_28 (dw rcX11_canGo_0 22 rfl)
theorem dX11_canGo_43 : decode cX11_canGo 43 = .ok (.iaload, 1) := dk_46 (dw rcX11_canGo_0 23 rfl)
noncomputable def rbX11_canGo_44 : List (Nat × List Nat) := [(44, [162, 0, 5]), (47, [3]), (48, [172]), (49, [42]), (50, [180, 0, 65]), (53, [180, 0, 246]), (56, [8]), (57, [46]), (58, [4]), (59, [160, 0, 7]), (62, [4]), (63, [167, 0, 4]), (66, [3]), (67, [62]), (68, [27]), (69, [29]), (70, [153, 0, 15]), (73, [42]), (74, [180, 0, 10]), (77, [180, 0, 237]), (80, [28]), (81, [46]), (82, [167, 0, 12]), (85, [42])]
theorem rcX11_canGo_44 : dgo (lb cX11_canGo) 0 rbX11_canGo_44 = true := by decide +kernel
theorem dX11_canGo_44 : decode cX11_canGo 44 = .ok (.if_icmp .ge 5, 3) := dk_162 (dw rcX11_canGo_44 0 rfl) rfl
theorem dX11_canGo_47 : decode cX11_canGo 47 = .ok (.iconst 0, 1) := dk_3 (dw rcX11_canGo_44 1 rfl)
theorem dX11_canGo_48 : decode cX11_canGo 48 = .ok (.ireturn, 1) := dk_172 (dw rcX11_canGo_44 2 rfl)
theorem dX11_canGo_49 : decode cX11_canGo 49 = .ok (.aload_n 0, 1) := dk_42 (dw rcX11_canGo_44 3 rfl)
theorem dX11_canGo_50 : decode cX11_canGo 50 = .ok (.getfield 65, 3) := dk_180 (dw rcX11_canGo_44 4 rfl) rfl
theorem dX11_canGo_53 : decode cX11_canGo 53 = .ok (.getfield 246, 3) := dk_180 (dw rcX11_canGo_44 5 rfl) rfl
theorem dX11_canGo_56 : decode cX11_canGo 56 = .ok (.iconst 5, 1) := dk_8 (dw rcX11_canGo_44 6 rfl)
theorem dX11_canGo_57 : decode cX11_canGo 57 = .ok (.iaload, 1) := dk_46 (dw rcX11_canGo_44 7 rfl)
theorem dX11_canGo_58 : decode cX11_canGo 58 = .ok (.iconst 1, 1) := dk_4 (dw rcX11_canGo_44 8 rfl)
theorem dX11_canGo_59 : decode cX11_canGo 59 = .ok (.if_icmp .ne 7, 3) := dk_160 (dw rcX11_canGo_44 9 rfl) rfl
theorem dX11_canGo_62 : decode cX11_canGo 62 = .ok (.iconst 1, 1) := dk_4 (dw rcX11_canGo_44 10 rfl)
theorem dX11_canGo_63 : decode cX11_canGo 63 = .ok (.goto 4, 3) := dk_167 (dw rcX11_canGo_44 11 rfl) rfl
theorem dX11_canGo_66 : decode cX11_canGo 66 = .ok (.iconst 0, 1) := dk_3 (dw rcX11_canGo_44 12 rfl)
theorem dX11_canGo_67 : decode cX11_canGo 67 = .ok (.istore_n 3, 1) := dk_62 (dw rcX11_canGo_44 13 rfl)
theorem dX11_canGo_68 : decode cX11_canGo 68 = .ok (.iload_n 1, 1) := dk_27 (dw rcX11_canGo_44 14 rfl)
theorem dX11_canGo_69 : decode cX11_canGo 69 = .ok (.iload_n 3, 1) := dk_29 (dw rcX11_canGo_44 15 rfl)
theorem dX11_canGo_70 : decode cX11_canGo 70 = .ok (.ifCond .eq 15, 3) := dk_153 (dw rcX11_canGo_44 16 rfl) rfl
theorem dX11_canGo_73 : decode cX11_canGo 73 = .ok (.aload_n 0, 1) := dk_42 (dw rcX11_canGo_44 17 rfl)
theorem dX11_canGo_74 : decode cX11_canGo 74 = .ok (.getfield 10, 3) := dk_180 (dw rcX11_canGo_44 18 rfl) rfl
theorem dX11_canGo_77 : decode cX11_canGo 77 = .ok (.getfield 237, 3) := dk_180 (dw rcX11_canGo_44 19 rfl) rfl
theorem dX11_canGo_80 : decode cX11_canGo 80 = .ok (.iload_n 2, 1) := dk_28 (dw rcX11_canGo_44 20 rfl)
theorem dX11_canGo_81 : decode cX11_canGo 81 = .ok (.iaload, 1) := dk_46 (dw rcX11_canGo_44 21 rfl)
theorem dX11_canGo_82 : decode cX11_canGo 82 = .ok (.goto 12, 3) := dk_167 (dw rcX11_canGo_44 22 rfl) rfl
theorem dX11_canGo_85 : decode cX11_canGo 85 = .ok (.aload_n 0, 1) := dk_42 (dw rcX11_canGo_44 23 rfl)
noncomputable def rbX11_canGo_86 : List (Nat × List Nat) := [(86, [180, 0, 10]), (89, [180, 1, 77]), (92, [28]), (93, [46]), (94, [163, 0, 7]), (97, [4]), (98, [167, 0, 4]), (101, [3]), (102, [172])]
theorem rcX11_canGo_86 : dgo (lb cX11_canGo) 0 rbX11_canGo_86 = true := by decide +kernel
theorem dX11_canGo_86 : decode cX11_canGo 86 = .ok (.getfield 10, 3) := dk_180 (dw rcX11_canGo_86 0 rfl) rfl
theorem dX11_canGo_89 : decode cX11_canGo 89 = .ok (.getfield 333, 3) := dk_180 (dw rcX11_canGo_86 1 rfl) rfl
theorem dX11_canGo_92 : decode cX11_canGo 92 = .ok (.iload_n 2, 1) := dk_28 (dw rcX11_canGo_86 2 rfl)
theorem dX11_canGo_93 : decode cX11_canGo 93 = .ok (.iaload, 1) := dk_46 (dw rcX11_canGo_86 3 rfl)
theorem dX11_canGo_94 : decode cX11_canGo 94 = .ok (.if_icmp .gt 7, 3) := dk_163 (dw rcX11_canGo_86 4 rfl) rfl
theorem dX11_canGo_97 : decode cX11_canGo 97 = .ok (.iconst 1, 1) := dk_4 (dw rcX11_canGo_86 5 rfl)
theorem dX11_canGo_98 : decode cX11_canGo 98 = .ok (.goto 4, 3) := dk_167 (dw rcX11_canGo_86 6 rfl) rfl
theorem dX11_canGo_101 : decode cX11_canGo 101 = .ok (.iconst 0, 1) := dk_3 (dw rcX11_canGo_86 7 rfl)
theorem dX11_canGo_102 : decode cX11_canGo 102 = .ok (.ireturn, 1) := dk_172 (dw rcX11_canGo_86 8 rfl)
noncomputable def rbX11_fitsAll_0 : List (Nat × List Nat) := [(0, [3]), (1, [62]), (2, [29]), (3, [42]), (4, [180, 0, 72]), (7, [180, 1, 29]), (10, [162, 0, 33]), (13, [42]), (14, [180, 0, 72]), (17, [29]), (18, [28]), (19, [182, 1, 32]), (22, [153, 0, 15]), (25, [42]), (26, [29]), (27, [27]), (28, [3]), (29, [182, 1, 100]), (32, [154, 0, 5]), (35, [3]), (36, [172]), (37, [132, 3, 1]), (40, [167, 255, 218]), (43, [4])]
theorem rcX11_fitsAll_0 : dgo (lb cX11_fitsAll) 0 rbX11_fitsAll_0 = true := by decide +kernel
theorem dX11_fitsAll_0 : decode cX11_fitsAll 0 = .ok (.iconst 0, 1) := dk_3 (dw rcX11_fitsAll_0 0 rfl)
theorem dX11_fitsAll_1 : decode cX11_fitsAll 1 = .ok (.istore_n 3, 1) := dk_62 (dw rcX11_fitsAll_0 1 rfl)
theorem dX11_fitsAll_2 : decode cX11_fitsAll 2 = .ok (.iload_n 3, 1) := dk_29 (dw rcX11_fitsAll_0 2 rfl)
theorem dX11_fitsAll_3 : decode cX11_fitsAll 3 = .ok (.aload_n 0, 1) := dk_42 (dw rcX11_fitsAll_0 3 rfl)
theorem dX11_fitsAll_4 : decode cX11_fitsAll 4 = .ok (.getfield 72, 3) := dk_180 (dw rcX11_fitsAll_0 4 rfl) rfl
theorem dX11_fitsAll_7 : decode cX11_fitsAll 7 = .ok (.getfield 285, 3) := dk_180 (dw rcX11_fitsAll_0 5 rfl) rfl
theorem dX11_fitsAll_10 : decode cX11_fitsAll 10 = .ok (.if_icmp .ge 33, 3) := dk_162 (dw rcX11_fitsAll_0 6 rfl) rfl
theorem dX11_fitsAll_13 : decode cX11_fitsAll 13 = .ok (.aload_n 0, 1) := dk_42 (dw rcX11_fitsAll_0 7 rfl)
theorem dX11_fitsAll_14 : decode cX11_fitsAll 14 = .ok (.getfield 72, 3) := dk_180 (dw rcX11_fitsAll_0 8 rfl) rfl
theorem dX11_fitsAll_17 : decode cX11_fitsAll 17 = .ok (.iload_n 3, 1) := dk_29 (dw rcX11_fitsAll_0 9 rfl)
theorem dX11_fitsAll_18 : decode cX11_fitsAll 18 = .ok (.iload_n 2, 1) := dk_28 (dw rcX11_fitsAll_0 10 rfl)
theorem dX11_fitsAll_19 : decode cX11_fitsAll 19 = .ok (.invokevirtual 288, 3) := dk_182 (dw rcX11_fitsAll_0 11 rfl) rfl
theorem dX11_fitsAll_22 : decode cX11_fitsAll 22 = .ok (.ifCond .eq 15, 3) := dk_153 (dw rcX11_fitsAll_0 12 rfl) rfl
theorem dX11_fitsAll_25 : decode cX11_fitsAll 25 = .ok (.aload_n 0, 1) := dk_42 (dw rcX11_fitsAll_0 13 rfl)
theorem dX11_fitsAll_26 : decode cX11_fitsAll 26 = .ok (.iload_n 3, 1) := dk_29 (dw rcX11_fitsAll_0 14 rfl)
theorem dX11_fitsAll_27 : decode cX11_fitsAll 27 = .ok (.iload_n 1, 1) := dk_27 (dw rcX11_fitsAll_0 15 rfl)
theorem dX11_fitsAll_28 : decode cX11_fitsAll 28 = .ok (.iconst 0, 1) := dk_3 (dw rcX11_fitsAll_0 16 rfl)
theorem dX11_fitsAll_29 : decode cX11_fitsAll 29 = .ok (.invokevirtual 356, 3) := dk_182 (dw rcX11_fitsAll_0 17 rfl) rfl
theorem dX11_fitsAll_32 : decode cX11_fitsAll 32 = .ok (.ifCond .ne 5, 3) := dk_154 (dw rcX11_fitsAll_0 18 rfl) rfl
theorem dX11_fitsAll_35 : decode cX11_fitsAll 35 = .ok (.iconst 0, 1) := dk_3 (dw rcX11_fitsAll_0 19 rfl)
theorem dX11_fitsAll_36 : decode cX11_fitsAll 36 = .ok (.ireturn, 1) := dk_172 (dw rcX11_fitsAll_0 20 rfl)
theorem dX11_fitsAll_37 : decode cX11_fitsAll 37 = .ok (.iinc 3 1, 3) := dk_132 (dw rcX11_fitsAll_0 21 rfl) rfl
theorem dX11_fitsAll_40 : decode cX11_fitsAll 40 = .ok (.goto (-38), 3) := dk_167 (dw rcX11_fitsAll_0 22 rfl) rfl
theorem dX11_fitsAll_43 : decode cX11_fitsAll 43 = .ok (.iconst 1, 1) := dk_4 (dw rcX11_fitsAll_0 23 rfl)
theorem dX11_fitsAll_44 : decode cX11_fitsAll 44 = .ok (.ireturn, 1) := dq_of (by decide +kernel)
noncomputable def rbX11_heelsNear_0 : List (Nat × List Nat) := [(0, [3]), (1, [54, 4]), (3, [16, 253]), (5, [54, 5]), (7, [21, 5]), (9, [6]), (10, [163, 0, 67]), (13, [42]), (14, [180, 0, 10]), (17, [42]), (18, [180, 0, 72]), (21, [180, 1, 109]), (24, [27]), (25, [46]), (26, [42]), (27, [180, 0, 72]), (30, [180, 1, 106]), (33, [27]), (34, [46]), (35, [42]), (36, [180, 0, 72]), (39, [180, 1, 103]), (42, [27]), (43, [46])]
theorem rcX11_heelsNear_0 : dgo (lb cX11_heelsNear) 0 rbX11_heelsNear_0 = true := by decide +kernel
theorem dX11_heelsNear_0 : decode cX11_heelsNear 0 = .ok (.iconst 0, 1) := dk_3 (dw rcX11_heelsNear_0 0 rfl)
theorem dX11_heelsNear_1 : decode cX11_heelsNear 1 = .ok (.istore 4, 2) := dk_54 (dw rcX11_heelsNear_0 1 rfl)
theorem dX11_heelsNear_3 : decode cX11_heelsNear 3 = .ok (.bipush (-3), 2) := dk_16 (dw rcX11_heelsNear_0 2 rfl) rfl
theorem dX11_heelsNear_5 : decode cX11_heelsNear 5 = .ok (.istore 5, 2) := dk_54 (dw rcX11_heelsNear_0 3 rfl)
theorem dX11_heelsNear_7 : decode cX11_heelsNear 7 = .ok (.iload 5, 2) := dk_21 (dw rcX11_heelsNear_0 4 rfl)
theorem dX11_heelsNear_9 : decode cX11_heelsNear 9 = .ok (.iconst 3, 1) := dk_6 (dw rcX11_heelsNear_0 5 rfl)
theorem dX11_heelsNear_10 : decode cX11_heelsNear 10 = .ok (.if_icmp .gt 67, 3) := dk_163 (dw rcX11_heelsNear_0 6 rfl) rfl
theorem dX11_heelsNear_13 : decode cX11_heelsNear 13 = .ok (.aload_n 0, 1) := dk_42 (dw rcX11_heelsNear_0 7 rfl)
theorem dX11_heelsNear_14 : decode cX11_heelsNear 14 = .ok (.getfield 10, 3) := dk_180 (dw rcX11_heelsNear_0 8 rfl) rfl
theorem dX11_heelsNear_17 : decode cX11_heelsNear 17 = .ok (.aload_n 0, 1) := dk_42 (dw rcX11_heelsNear_0 9 rfl)
theorem dX11_heelsNear_18 : decode cX11_heelsNear 18 = .ok (.getfield 72, 3) := dk_180 (dw rcX11_heelsNear_0 10 rfl) rfl
theorem dX11_heelsNear_21 : decode cX11_heelsNear 21 = .ok (.getfield 365, 3) := dk_180 (dw rcX11_heelsNear_0 11 rfl) rfl
theorem dX11_heelsNear_24 : decode cX11_heelsNear 24 = .ok (.iload_n 1, 1) := dk_27 (dw rcX11_heelsNear_0 12 rfl)
theorem dX11_heelsNear_25 : decode cX11_heelsNear 25 = .ok (.iaload, 1) := dk_46 (dw rcX11_heelsNear_0 13 rfl)
theorem dX11_heelsNear_26 : decode cX11_heelsNear 26 = .ok (.aload_n 0, 1) := dk_42 (dw rcX11_heelsNear_0 14 rfl)
theorem dX11_heelsNear_27 : decode cX11_heelsNear 27 = .ok (.getfield 72, 3) := dk_180 (dw rcX11_heelsNear_0 15 rfl) rfl
theorem dX11_heelsNear_30 : decode cX11_heelsNear 30 = .ok (.getfield 362, 3) := dk_180 (dw rcX11_heelsNear_0 16 rfl) rfl
theorem dX11_heelsNear_33 : decode cX11_heelsNear 33 = .ok (.iload_n 1, 1) := dk_27 (dw rcX11_heelsNear_0 17 rfl)
theorem dX11_heelsNear_34 : decode cX11_heelsNear 34 = .ok (.iaload, 1) := dk_46 (dw rcX11_heelsNear_0 18 rfl)
theorem dX11_heelsNear_35 : decode cX11_heelsNear 35 = .ok (.aload_n 0, 1) := dk_42 (dw rcX11_heelsNear_0 19 rfl)
theorem dX11_heelsNear_36 : decode cX11_heelsNear 36 = .ok (.getfield 72, 3) := dk_180 (dw rcX11_heelsNear_0 20 rfl) rfl
theorem dX11_heelsNear_39 : decode cX11_heelsNear 39 = .ok (.getfield 359, 3) := dk_180 (dw rcX11_heelsNear_0 21 rfl) rfl
theorem dX11_heelsNear_42 : decode cX11_heelsNear 42 = .ok (.iload_n 1, 1) := dk_27 (dw rcX11_heelsNear_0 22 rfl)
theorem dX11_heelsNear_43 : decode cX11_heelsNear 43 = .ok (.iaload, 1) := dk_46 (dw rcX11_heelsNear_0 23 rfl)
noncomputable def rbX11_heelsNear_44 : List (Nat × List Nat) := [(44, [21, 5]), (46, [96]), (47, [182, 0, 234]), (50, [153, 0, 21]), (53, [29]), (54, [153, 0, 14]), (57, [42]), (58, [27]), (59, [28]), (60, [21, 5]), (62, [182, 1, 100]), (65, [153, 0, 6]), (68, [132, 4, 1]), (71, [132, 5, 1]), (74, [167, 255, 189]), (77, [21, 4]), (79, [172])]
theorem rcX11_heelsNear_44 : dgo (lb cX11_heelsNear) 0 rbX11_heelsNear_44 = true := by decide +kernel
theorem dX11_heelsNear_44 : decode cX11_heelsNear 44 = .ok (.iload 5, 2) := dk_21 (dw rcX11_heelsNear_44 0 rfl)
theorem dX11_heelsNear_46 : decode cX11_heelsNear 46 = .ok (.iadd, 1) := dk_96 (dw rcX11_heelsNear_44 1 rfl)
theorem dX11_heelsNear_47 : decode cX11_heelsNear 47 = .ok (.invokevirtual 234, 3) := dk_182 (dw rcX11_heelsNear_44 2 rfl) rfl
theorem dX11_heelsNear_50 : decode cX11_heelsNear 50 = .ok (.ifCond .eq 21, 3) := dk_153 (dw rcX11_heelsNear_44 3 rfl) rfl
theorem dX11_heelsNear_53 : decode cX11_heelsNear 53 = .ok (.iload_n 3, 1) := dk_29 (dw rcX11_heelsNear_44 4 rfl)
theorem dX11_heelsNear_54 : decode cX11_heelsNear 54 = .ok (.ifCond .eq 14, 3) := dk_153 (dw rcX11_heelsNear_44 5 rfl) rfl
theorem dX11_heelsNear_57 : decode cX11_heelsNear 57 = .ok (.aload_n 0, 1) := dk_42 (dw rcX11_heelsNear_44 6 rfl)
theorem dX11_heelsNear_58 : decode cX11_heelsNear 58 = .ok (.iload_n 1, 1) := dk_27 (dw rcX11_heelsNear_44 7 rfl)
theorem dX11_heelsNear_59 : decode cX11_heelsNear 59 = .ok (.iload_n 2, 1) := dk_28 (dw rcX11_heelsNear_44 8 rfl)
theorem dX11_heelsNear_60 : decode cX11_heelsNear 60 = .ok (.iload 5, 2) := dk_21 (dw rcX11_heelsNear_44 9 rfl)
theorem dX11_heelsNear_62 : decode cX11_heelsNear 62 = .ok (.invokevirtual 356, 3) := dk_182 (dw rcX11_heelsNear_44 10 rfl) rfl
theorem dX11_heelsNear_65 : decode cX11_heelsNear 65 = .ok (.ifCond .eq 6, 3) := dk_153 (dw rcX11_heelsNear_44 11 rfl) rfl
theorem dX11_heelsNear_68 : decode cX11_heelsNear 68 = .ok (.iinc 4 1, 3) := dk_132 (dw rcX11_heelsNear_44 12 rfl) rfl
theorem dX11_heelsNear_71 : decode cX11_heelsNear 71 = .ok (.iinc 5 1, 3) := dk_132 (dw rcX11_heelsNear_44 13 rfl) rfl
theorem dX11_heelsNear_74 : decode cX11_heelsNear 74 = .ok (.goto (-67), 3) := dk_167 (dw rcX11_heelsNear_44 14 rfl) rfl
theorem dX11_heelsNear_77 : decode cX11_heelsNear 77 = .ok (.iload 4, 2) := dk_21 (dw rcX11_heelsNear_44 15 rfl)
theorem dX11_heelsNear_79 : decode cX11_heelsNear 79 = .ok (.ireturn, 1) := dk_172 (dw rcX11_heelsNear_44 16 rfl)
noncomputable def rbX11_isLawfulNow_0 : List (Nat × List Nat) := [(0, [42]), (1, [180, 0, 65]), (4, [180, 0, 246]), (7, [76]), (8, [43]), (9, [4]), (10, [46]), (11, [61]), (12, [42]), (13, [180, 0, 37]), (16, [28]), (17, [42]), (18, [182, 0, 131]), (21, [182, 0, 135]), (24, [43]), (25, [16, 9]), (27, [46]), (28, [4]), (29, [159, 0, 24]), (32, [42]), (33, [180, 0, 37]), (36, [43]), (37, [3]), (38, [46])]
theorem rcX11_isLawfulNow_0 : dgo (lb cX11_isLawfulNow) 0 rbX11_isLawfulNow_0 = true := by decide +kernel
theorem dX11_isLawfulNow_0 : decode cX11_isLawfulNow 0 = .ok (.aload_n 0, 1) := dk_42 (dw rcX11_isLawfulNow_0 0 rfl)
theorem dX11_isLawfulNow_1 : decode cX11_isLawfulNow 1 = .ok (.getfield 65, 3) := dk_180 (dw rcX11_isLawfulNow_0 1 rfl) rfl
theorem dX11_isLawfulNow_4 : decode cX11_isLawfulNow 4 = .ok (.getfield 246, 3) := dk_180 (dw rcX11_isLawfulNow_0 2 rfl) rfl
theorem dX11_isLawfulNow_7 : decode cX11_isLawfulNow 7 = .ok (.astore_n 1, 1) := dk_76 (dw rcX11_isLawfulNow_0 3 rfl)
theorem dX11_isLawfulNow_8 : decode cX11_isLawfulNow 8 = .ok (.aload_n 1, 1) := dk_43 (dw rcX11_isLawfulNow_0 4 rfl)
theorem dX11_isLawfulNow_9 : decode cX11_isLawfulNow 9 = .ok (.iconst 1, 1) := dk_4 (dw rcX11_isLawfulNow_0 5 rfl)
theorem dX11_isLawfulNow_10 : decode cX11_isLawfulNow 10 = .ok (.iaload, 1) := dk_46 (dw rcX11_isLawfulNow_0 6 rfl)
theorem dX11_isLawfulNow_11 : decode cX11_isLawfulNow 11 = .ok (.istore_n 2, 1) := dk_61 (dw rcX11_isLawfulNow_0 7 rfl)
theorem dX11_isLawfulNow_12 : decode cX11_isLawfulNow 12 = .ok (.aload_n 0, 1) := dk_42 (dw rcX11_isLawfulNow_0 8 rfl)
theorem dX11_isLawfulNow_13 : decode cX11_isLawfulNow 13 = .ok (.getfield 37, 3) := dk_180 (dw rcX11_isLawfulNow_0 9 rfl) rfl
theorem dX11_isLawfulNow_16 : decode cX11_isLawfulNow 16 = .ok (.iload_n 2, 1) := dk_28 (dw rcX11_isLawfulNow_0 10 rfl)
theorem dX11_isLawfulNow_17 : decode cX11_isLawfulNow 17 = .ok (.aload_n 0, 1) := dk_42 (dw rcX11_isLawfulNow_0 11 rfl)
theorem dX11_isLawfulNow_18 : decode cX11_isLawfulNow 18 = .ok (.invokevirtual 131, 3) := dk_182 (dw rcX11_isLawfulNow_0 12 rfl) rfl
theorem dX11_isLawfulNow_21 : decode cX11_isLawfulNow 21 = .ok (.invokevirtual 135, 3) := dk_182 (dw rcX11_isLawfulNow_0 13 rfl) rfl
theorem dX11_isLawfulNow_24 : decode cX11_isLawfulNow 24 = .ok (.aload_n 1, 1) := dk_43 (dw rcX11_isLawfulNow_0 14 rfl)
theorem dX11_isLawfulNow_25 : decode cX11_isLawfulNow 25 = .ok (.bipush 9, 2) := dk_16 (dw rcX11_isLawfulNow_0 15 rfl) rfl
theorem dX11_isLawfulNow_27 : decode cX11_isLawfulNow 27 = .ok (.iaload, 1) := dk_46 (dw rcX11_isLawfulNow_0 16 rfl)
theorem dX11_isLawfulNow_28 : decode cX11_isLawfulNow 28 = .ok (.iconst 1, 1) := dk_4 (dw rcX11_isLawfulNow_0 17 rfl)
theorem dX11_isLawfulNow_29 : decode cX11_isLawfulNow 29 = .ok (.if_icmp .eq 24, 3) := dk_159 (dw rcX11_isLawfulNow_0 18 rfl) rfl
theorem dX11_isLawfulNow_32 : decode cX11_isLawfulNow 32 = .ok (.aload_n 0, 1) := dk_42 (dw rcX11_isLawfulNow_0 19 rfl)
theorem dX11_isLawfulNow_33 : decode cX11_isLawfulNow 33 = .ok (.getfield 37, 3) := dk_180 (dw rcX11_isLawfulNow_0 20 rfl) rfl
theorem dX11_isLawfulNow_36 : decode cX11_isLawfulNow 36 = .ok (.aload_n 1, 1) := dk_43 (dw rcX11_isLawfulNow_0 21 rfl)
theorem dX11_isLawfulNow_37 : decode cX11_isLawfulNow 37 = .ok (.iconst 0, 1) := dk_3 (dw rcX11_isLawfulNow_0 22 rfl)
theorem dX11_isLawfulNow_38 : decode cX11_isLawfulNow 38 = .ok (.iaload, 1) := dk_46 (dw rcX11_isLawfulNow_0 23 rfl)
noncomputable def rbX11_isLawfulNow_39 : List (Nat × List Nat) := [(39, [28]), (40, [43]), (41, [16, 8]), (43, [46]), (44, [43]), (45, [5]), (46, [46]), (47, [182, 0, 146]), (50, [153, 0, 7]), (53, [4]), (54, [167, 0, 4]), (57, [3]), (58, [172])]
theorem rcX11_isLawfulNow_39 : dgo (lb cX11_isLawfulNow) 0 rbX11_isLawfulNow_39 = true := by decide +kernel
theorem dX11_isLawfulNow_39 : decode cX11_isLawfulNow 39 = .ok (.iload_n 2, 1) := dk_28 (dw rcX11_isLawfulNow_39 0 rfl)
theorem dX11_isLawfulNow_40 : decode cX11_isLawfulNow 40 = .ok (.aload_n 1, 1) := dk_43 (dw rcX11_isLawfulNow_39 1 rfl)
theorem dX11_isLawfulNow_41 : decode cX11_isLawfulNow 41 = .ok (.bipush 8, 2) := dk_16 (dw rcX11_isLawfulNow_39 2 rfl) rfl
theorem dX11_isLawfulNow_43 : decode cX11_isLawfulNow 43 = .ok (.iaload, 1) := dk_46 (dw rcX11_isLawfulNow_39 3 rfl)
theorem dX11_isLawfulNow_44 : decode cX11_isLawfulNow 44 = .ok (.aload_n 1, 1) := dk_43 (dw rcX11_isLawfulNow_39 4 rfl)
theorem dX11_isLawfulNow_45 : decode cX11_isLawfulNow 45 = .ok (.iconst 2, 1) := dk_5 (dw rcX11_isLawfulNow_39 5 rfl)
theorem dX11_isLawfulNow_46 : decode cX11_isLawfulNow 46 = .ok (.iaload, 1) := dk_46 (dw rcX11_isLawfulNow_39 6 rfl)
theorem dX11_isLawfulNow_47 : decode cX11_isLawfulNow 47 = .ok (.invokevirtual 146, 3) := dk_182 (dw rcX11_isLawfulNow_39 7 rfl) rfl
theorem dX11_isLawfulNow_50 : decode cX11_isLawfulNow 50 = .ok (.ifCond .eq 7, 3) := dk_153 (dw rcX11_isLawfulNow_39 8 rfl) rfl
theorem dX11_isLawfulNow_53 : decode cX11_isLawfulNow 53 = .ok (.iconst 1, 1) := dk_4 (dw rcX11_isLawfulNow_39 9 rfl)
theorem dX11_isLawfulNow_54 : decode cX11_isLawfulNow 54 = .ok (.goto 4, 3) := dk_167 (dw rcX11_isLawfulNow_39 10 rfl) rfl
theorem dX11_isLawfulNow_57 : decode cX11_isLawfulNow 57 = .ok (.iconst 0, 1) := dk_3 (dw rcX11_isLawfulNow_39 11 rfl)
theorem dX11_isLawfulNow_58 : decode cX11_isLawfulNow 58 = .ok (.ireturn, 1) := dk_172 (dw rcX11_isLawfulNow_39 12 rfl)
noncomputable def rbX11_isLawfulSight_0 : List (Nat × List Nat) := [(0, [42]), (1, [180, 0, 72]), (4, [180, 1, 103]), (7, [27]), (8, [46]), (9, [29]), (10, [96]), (11, [54, 4]), (13, [42]), (14, [180, 0, 37]), (17, [42]), (18, [180, 0, 72]), (21, [180, 1, 106]), (24, [27]), (25, [46]), (26, [42]), (27, [182, 0, 131]), (30, [182, 0, 135]), (33, [42]), (34, [180, 0, 37]), (37, [42]), (38, [180, 0, 72]), (41, [180, 1, 109]), (44, [27])]
theorem rcX11_isLawfulSight_0 : dgo (lb cX11_isLawfulSight) 0 rbX11_isLawfulSight_0 = true := by decide +kernel
theorem dX11_isLawfulSight_0 : decode cX11_isLawfulSight 0 = .ok (.aload_n 0, 1) := dk_42 (dw rcX11_isLawfulSight_0 0 rfl)
theorem dX11_isLawfulSight_1 : decode cX11_isLawfulSight 1 = .ok (.getfield 72, 3) := dk_180 (dw rcX11_isLawfulSight_0 1 rfl) rfl
theorem dX11_isLawfulSight_4 : decode cX11_isLawfulSight 4 = .ok (.getfield 359, 3) := dk_180 (dw rcX11_isLawfulSight_0 2 rfl) rfl
theorem dX11_isLawfulSight_7 : decode cX11_isLawfulSight 7 = .ok (.iload_n 1, 1) := dk_27 (dw rcX11_isLawfulSight_0 3 rfl)
theorem dX11_isLawfulSight_8 : decode cX11_isLawfulSight 8 = .ok (.iaload, 1) := dk_46 (dw rcX11_isLawfulSight_0 4 rfl)
theorem dX11_isLawfulSight_9 : decode cX11_isLawfulSight 9 = .ok (.iload_n 3, 1) := dk_29 (dw rcX11_isLawfulSight_0 5 rfl)
theorem dX11_isLawfulSight_10 : decode cX11_isLawfulSight 10 = .ok (.iadd, 1) := dk_96 (dw rcX11_isLawfulSight_0 6 rfl)
theorem dX11_isLawfulSight_11 : decode cX11_isLawfulSight 11 = .ok (.istore 4, 2) := dk_54 (dw rcX11_isLawfulSight_0 7 rfl)
theorem dX11_isLawfulSight_13 : decode cX11_isLawfulSight 13 = .ok (.aload_n 0, 1) := dk_42 (dw rcX11_isLawfulSight_0 8 rfl)
theorem dX11_isLawfulSight_14 : decode cX11_isLawfulSight 14 = .ok (.getfield 37, 3) := dk_180 (dw rcX11_isLawfulSight_0 9 rfl) rfl
theorem dX11_isLawfulSight_17 : decode cX11_isLawfulSight 17 = .ok (.aload_n 0, 1) := dk_42 (dw rcX11_isLawfulSight_0 10 rfl)
theorem dX11_isLawfulSight_18 : decode cX11_isLawfulSight 18 = .ok (.getfield 72, 3) := dk_180 (dw rcX11_isLawfulSight_0 11 rfl) rfl
theorem dX11_isLawfulSight_21 : decode cX11_isLawfulSight 21 = .ok (.getfield 362, 3) := dk_180 (dw rcX11_isLawfulSight_0 12 rfl) rfl
theorem dX11_isLawfulSight_24 : decode cX11_isLawfulSight 24 = .ok (.iload_n 1, 1) := dk_27 (dw rcX11_isLawfulSight_0 13 rfl)
theorem dX11_isLawfulSight_25 : decode cX11_isLawfulSight 25 = .ok (.iaload, 1) := dk_46 (dw rcX11_isLawfulSight_0 14 rfl)
theorem dX11_isLawfulSight_26 : decode cX11_isLawfulSight 26 = .ok (.aload_n 0, 1) := dk_42 (dw rcX11_isLawfulSight_0 15 rfl)
theorem dX11_isLawfulSight_27 : decode cX11_isLawfulSight 27 = .ok (.invokevirtual 131, 3) := dk_182 (dw rcX11_isLawfulSight_0 16 rfl) rfl
theorem dX11_isLawfulSight_30 : decode cX11_isLawfulSight 30 = .ok (.invokevirtual 135, 3) := dk_182 (dw rcX11_isLawfulSight_0 17 rfl) rfl
theorem dX11_isLawfulSight_33 : decode cX11_isLawfulSight 33 = .ok (.aload_n 0, 1) := dk_42 (dw rcX11_isLawfulSight_0 18 rfl)
theorem dX11_isLawfulSight_34 : decode cX11_isLawfulSight 34 = .ok (.getfield 37, 3) := dk_180 (dw rcX11_isLawfulSight_0 19 rfl) rfl
theorem dX11_isLawfulSight_37 : decode cX11_isLawfulSight 37 = .ok (.aload_n 0, 1) := dk_42 (dw rcX11_isLawfulSight_0 20 rfl)
theorem dX11_isLawfulSight_38 : decode cX11_isLawfulSight 38 = .ok (.getfield 72, 3) := dk_180 (dw rcX11_isLawfulSight_0 21 rfl) rfl
theorem dX11_isLawfulSight_41 : decode cX11_isLawfulSight 41 = .ok (.getfield 365, 3) := dk_180 (dw rcX11_isLawfulSight_0 22 rfl) rfl
theorem dX11_isLawfulSight_44 : decode cX11_isLawfulSight 44 = .ok (.iload_n 1, 1) := dk_27 (dw rcX11_isLawfulSight_0 23 rfl)
noncomputable def rbX11_isLawfulSight_45 : List (Nat × List Nat) := [(45, [46]), (46, [42]), (47, [180, 0, 72]), (50, [180, 1, 106]), (53, [27]), (54, [46]), (55, [4]), (56, [28]), (57, [120]), (58, [21, 4]), (60, [182, 0, 146]), (63, [172])]
theorem rcX11_isLawfulSight_45 : dgo (lb cX11_isLawfulSight) 0 rbX11_isLawfulSight_45 = true := by decide +kernel
theorem dX11_isLawfulSight_45 : decode cX11_isLawfulSight 45 = .ok (.iaload, 1) := dk_46 (dw rcX11_isLawfulSight_45 0 rfl)
theorem dX11_isLawfulSight_46 : decode cX11_isLawfulSight 46 = .ok (.aload_n 0, 1) := dk_42 (dw rcX11_isLawfulSight_45 1 rfl)
theorem dX11_isLawfulSight_47 : decode cX11_isLawfulSight 47 = .ok (.getfield 72, 3) := dk_180 (dw rcX11_isLawfulSight_45 2 rfl) rfl
theorem dX11_isLawfulSight_50 : decode cX11_isLawfulSight 50 = .ok (.getfield 362, 3) := dk_180 (dw rcX11_isLawfulSight_45 3 rfl) rfl
theorem dX11_isLawfulSight_53 : decode cX11_isLawfulSight 53 = .ok (.iload_n 1, 1) := dk_27 (dw rcX11_isLawfulSight_45 4 rfl)
theorem dX11_isLawfulSight_54 : decode cX11_isLawfulSight 54 = .ok (.iaload, 1) := dk_46 (dw rcX11_isLawfulSight_45 5 rfl)
theorem dX11_isLawfulSight_55 : decode cX11_isLawfulSight 55 = .ok (.iconst 1, 1) := dk_4 (dw rcX11_isLawfulSight_45 6 rfl)
theorem dX11_isLawfulSight_56 : decode cX11_isLawfulSight 56 = .ok (.iload_n 2, 1) := dk_28 (dw rcX11_isLawfulSight_45 7 rfl)
theorem dX11_isLawfulSight_57 : decode cX11_isLawfulSight 57 = .ok (.ishl, 1) := dk_120 (dw rcX11_isLawfulSight_45 8 rfl)
theorem dX11_isLawfulSight_58 : decode cX11_isLawfulSight 58 = .ok (.iload 4, 2) := dk_21 (dw rcX11_isLawfulSight_45 9 rfl)
theorem dX11_isLawfulSight_60 : decode cX11_isLawfulSight 60 = .ok (.invokevirtual 146, 3) := dk_182 (dw rcX11_isLawfulSight_45 10 rfl) rfl
theorem dX11_isLawfulSight_63 : decode cX11_isLawfulSight 63 = .ok (.ireturn, 1) := dk_172 (dw rcX11_isLawfulSight_45 11 rfl)
noncomputable def rbX11_leavesWay_0 : List (Nat × List Nat) := [(0, [42]), (1, [180, 0, 44]), (4, [42]), (5, [180, 0, 37]), (8, [27]), (9, [28]), (10, [182, 1, 83]), (13, [42]), (14, [180, 0, 51]), (17, [42]), (18, [180, 0, 44]), (21, [182, 1, 87]), (24, [172])]
theorem rcX11_leavesWay_0 : dgo (lb cX11_leavesWay) 0 rbX11_leavesWay_0 = true := by decide +kernel
theorem dX11_leavesWay_0 : decode cX11_leavesWay 0 = .ok (.aload_n 0, 1) := dk_42 (dw rcX11_leavesWay_0 0 rfl)
theorem dX11_leavesWay_1 : decode cX11_leavesWay 1 = .ok (.getfield 44, 3) := dk_180 (dw rcX11_leavesWay_0 1 rfl) rfl
theorem dX11_leavesWay_4 : decode cX11_leavesWay 4 = .ok (.aload_n 0, 1) := dk_42 (dw rcX11_leavesWay_0 2 rfl)
theorem dX11_leavesWay_5 : decode cX11_leavesWay 5 = .ok (.getfield 37, 3) := dk_180 (dw rcX11_leavesWay_0 3 rfl) rfl
theorem dX11_leavesWay_8 : decode cX11_leavesWay 8 = .ok (.iload_n 1, 1) := dk_27 (dw rcX11_leavesWay_0 4 rfl)
theorem dX11_leavesWay_9 : decode cX11_leavesWay 9 = .ok (.iload_n 2, 1) := dk_28 (dw rcX11_leavesWay_0 5 rfl)
theorem dX11_leavesWay_10 : decode cX11_leavesWay 10 = .ok (.invokevirtual 339, 3) := dk_182 (dw rcX11_leavesWay_0 6 rfl) rfl
theorem dX11_leavesWay_13 : decode cX11_leavesWay 13 = .ok (.aload_n 0, 1) := dk_42 (dw rcX11_leavesWay_0 7 rfl)
theorem dX11_leavesWay_14 : decode cX11_leavesWay 14 = .ok (.getfield 51, 3) := dk_180 (dw rcX11_leavesWay_0 8 rfl) rfl
theorem dX11_leavesWay_17 : decode cX11_leavesWay 17 = .ok (.aload_n 0, 1) := dk_42 (dw rcX11_leavesWay_0 9 rfl)
theorem dX11_leavesWay_18 : decode cX11_leavesWay 18 = .ok (.getfield 44, 3) := dk_180 (dw rcX11_leavesWay_0 10 rfl) rfl
theorem dX11_leavesWay_21 : decode cX11_leavesWay 21 = .ok (.invokevirtual 343, 3) := dk_182 (dw rcX11_leavesWay_0 11 rfl) rfl
theorem dX11_leavesWay_24 : decode cX11_leavesWay 24 = .ok (.ireturn, 1) := dk_172 (dw rcX11_leavesWay_0 12 rfl)
noncomputable def rbX11_prepare_0 : List (Nat × List Nat) := [(0, [42]), (1, [180, 0, 37]), (4, [28]), (5, [42]), (6, [182, 0, 131]), (9, [182, 0, 135]), (12, [42]), (13, [180, 0, 44]), (16, [42]), (17, [180, 0, 10]), (20, [27]), (21, [28]), (22, [182, 1, 80]), (25, [42]), (26, [180, 0, 44]), (29, [42]), (30, [180, 0, 37]), (33, [28]), (34, [29]), (35, [182, 1, 83]), (38, [177])]
theorem rcX11_prepare_0 : dgo (lb cX11_prepare) 0 rbX11_prepare_0 = true := by decide +kernel
theorem dX11_prepare_0 : decode cX11_prepare 0 = .ok (.aload_n 0, 1) := dk_42 (dw rcX11_prepare_0 0 rfl)
theorem dX11_prepare_1 : decode cX11_prepare 1 = .ok (.getfield 37, 3) := dk_180 (dw rcX11_prepare_0 1 rfl) rfl
theorem dX11_prepare_4 : decode cX11_prepare 4 = .ok (.iload_n 2, 1) := dk_28 (dw rcX11_prepare_0 2 rfl)
theorem dX11_prepare_5 : decode cX11_prepare 5 = .ok (.aload_n 0, 1) := dk_42 (dw rcX11_prepare_0 3 rfl)
theorem dX11_prepare_6 : decode cX11_prepare 6 = .ok (.invokevirtual 131, 3) := dk_182 (dw rcX11_prepare_0 4 rfl) rfl
theorem dX11_prepare_9 : decode cX11_prepare 9 = .ok (.invokevirtual 135, 3) := dk_182 (dw rcX11_prepare_0 5 rfl) rfl
theorem dX11_prepare_12 : decode cX11_prepare 12 = .ok (.aload_n 0, 1) := dk_42 (dw rcX11_prepare_0 6 rfl)
theorem dX11_prepare_13 : decode cX11_prepare 13 = .ok (.getfield 44, 3) := dk_180 (dw rcX11_prepare_0 7 rfl) rfl
theorem dX11_prepare_16 : decode cX11_prepare 16 = .ok (.aload_n 0, 1) := dk_42 (dw rcX11_prepare_0 8 rfl)
theorem dX11_prepare_17 : decode cX11_prepare 17 = .ok (.getfield 10, 3) := dk_180 (dw rcX11_prepare_0 9 rfl) rfl
theorem dX11_prepare_20 : decode cX11_prepare 20 = .ok (.iload_n 1, 1) := dk_27 (dw rcX11_prepare_0 10 rfl)
theorem dX11_prepare_21 : decode cX11_prepare 21 = .ok (.iload_n 2, 1) := dk_28 (dw rcX11_prepare_0 11 rfl)
theorem dX11_prepare_22 : decode cX11_prepare 22 = .ok (.invokevirtual 336, 3) := dk_182 (dw rcX11_prepare_0 12 rfl) rfl
theorem dX11_prepare_25 : decode cX11_prepare 25 = .ok (.aload_n 0, 1) := dk_42 (dw rcX11_prepare_0 13 rfl)
theorem dX11_prepare_26 : decode cX11_prepare 26 = .ok (.getfield 44, 3) := dk_180 (dw rcX11_prepare_0 14 rfl) rfl
theorem dX11_prepare_29 : decode cX11_prepare 29 = .ok (.aload_n 0, 1) := dk_42 (dw rcX11_prepare_0 15 rfl)
theorem dX11_prepare_30 : decode cX11_prepare 30 = .ok (.getfield 37, 3) := dk_180 (dw rcX11_prepare_0 16 rfl) rfl
theorem dX11_prepare_33 : decode cX11_prepare 33 = .ok (.iload_n 2, 1) := dk_28 (dw rcX11_prepare_0 17 rfl)
theorem dX11_prepare_34 : decode cX11_prepare 34 = .ok (.iload_n 3, 1) := dk_29 (dw rcX11_prepare_0 18 rfl)
theorem dX11_prepare_35 : decode cX11_prepare 35 = .ok (.invokevirtual 339, 3) := dk_182 (dw rcX11_prepare_0 19 rfl) rfl
theorem dX11_prepare_38 : decode cX11_prepare 38 = .ok (.return_, 1) := dk_177 (dw rcX11_prepare_0 20 rfl)
noncomputable def rbX11_startAnew_0 : List (Nat × List Nat) := [(0, [42]), (1, [180, 0, 37]), (4, [42]), (5, [180, 0, 10]), (8, [182, 1, 64]), (11, [42]), (12, [180, 0, 65]), (15, [42]), (16, [180, 0, 10]), (19, [180, 1, 67]), (22, [182, 1, 70]), (25, [42]), (26, [180, 0, 72]), (29, [3]), (30, [181, 1, 29]), (33, [42]), (34, [3]), (35, [181, 0, 150]), (38, [177])]
theorem rcX11_startAnew_0 : dgo (lb cX11_startAnew) 0 rbX11_startAnew_0 = true := by decide +kernel
theorem dX11_startAnew_0 : decode cX11_startAnew 0 = .ok (.aload_n 0, 1) := dk_42 (dw rcX11_startAnew_0 0 rfl)
theorem dX11_startAnew_1 : decode cX11_startAnew 1 = .ok (.getfield 37, 3) := dk_180 (dw rcX11_startAnew_0 1 rfl) rfl
theorem dX11_startAnew_4 : decode cX11_startAnew 4 = .ok (.aload_n 0, 1) := dk_42 (dw rcX11_startAnew_0 2 rfl)
theorem dX11_startAnew_5 : decode cX11_startAnew 5 = .ok (.getfield 10, 3) := dk_180 (dw rcX11_startAnew_0 3 rfl) rfl
theorem dX11_startAnew_8 : decode cX11_startAnew 8 = .ok (.invokevirtual 320, 3) := dk_182 (dw rcX11_startAnew_0 4 rfl) rfl
theorem dX11_startAnew_11 : decode cX11_startAnew 11 = .ok (.aload_n 0, 1) := dk_42 (dw rcX11_startAnew_0 5 rfl)
theorem dX11_startAnew_12 : decode cX11_startAnew 12 = .ok (.getfield 65, 3) := dk_180 (dw rcX11_startAnew_0 6 rfl) rfl
theorem dX11_startAnew_15 : decode cX11_startAnew 15 = .ok (.aload_n 0, 1) := dk_42 (dw rcX11_startAnew_0 7 rfl)
theorem dX11_startAnew_16 : decode cX11_startAnew 16 = .ok (.getfield 10, 3) := dk_180 (dw rcX11_startAnew_0 8 rfl) rfl
theorem dX11_startAnew_19 : decode cX11_startAnew 19 = .ok (.getfield 323, 3) := dk_180 (dw rcX11_startAnew_0 9 rfl) rfl
theorem dX11_startAnew_22 : decode cX11_startAnew 22 = .ok (.invokevirtual 326, 3) := dk_182 (dw rcX11_startAnew_0 10 rfl) rfl
theorem dX11_startAnew_25 : decode cX11_startAnew 25 = .ok (.aload_n 0, 1) := dk_42 (dw rcX11_startAnew_0 11 rfl)
theorem dX11_startAnew_26 : decode cX11_startAnew 26 = .ok (.getfield 72, 3) := dk_180 (dw rcX11_startAnew_0 12 rfl) rfl
theorem dX11_startAnew_29 : decode cX11_startAnew 29 = .ok (.iconst 0, 1) := dk_3 (dw rcX11_startAnew_0 13 rfl)
theorem dX11_startAnew_30 : decode cX11_startAnew 30 = .ok (.putfield 285, 3) := dk_181 (dw rcX11_startAnew_0 14 rfl) rfl
theorem dX11_startAnew_33 : decode cX11_startAnew 33 = .ok (.aload_n 0, 1) := dk_42 (dw rcX11_startAnew_0 15 rfl)
theorem dX11_startAnew_34 : decode cX11_startAnew 34 = .ok (.iconst 0, 1) := dk_3 (dw rcX11_startAnew_0 16 rfl)
theorem dX11_startAnew_35 : decode cX11_startAnew 35 = .ok (.putfield 150, 3) := dk_181 (dw rcX11_startAnew_0 17 rfl) rfl
theorem dX11_startAnew_38 : decode cX11_startAnew 38 = .ok (.return_, 1) := dk_177 (dw rcX11_startAnew_0 18 rfl)
noncomputable def rbX11_winningRule_0 : List (Nat × List Nat) := [(0, [4]), (1, [42]), (2, [180, 0, 10]), (5, [180, 0, 228]), (8, [120]), (9, [4]), (10, [100]), (11, [62]), (12, [29]), (13, [54, 4]), (15, [21, 4]), (17, [28]), (18, [161, 0, 54]), (21, [21, 4]), (23, [28]), (24, [126]), (25, [28]), (26, [160, 0, 40]), (29, [42]), (30, [180, 0, 51]), (33, [180, 1, 91]), (36, [21, 4]), (38, [42]), (39, [180, 0, 51])]
theorem rcX11_winningRule_0 : dgo (lb cX11_winningRule) 0 rbX11_winningRule_0 = true := by decide +kernel
theorem dX11_winningRule_0 : decode cX11_winningRule 0 = .ok (.iconst 1, 1) := dk_4 (dw rcX11_winningRule_0 0 rfl)
theorem dX11_winningRule_1 : decode cX11_winningRule 1 = .ok (.aload_n 0, 1) := dk_42 (dw rcX11_winningRule_0 1 rfl)
theorem dX11_winningRule_2 : decode cX11_winningRule 2 = .ok (.getfield 10, 3) := dk_180 (dw rcX11_winningRule_0 2 rfl) rfl
theorem dX11_winningRule_5 : decode cX11_winningRule 5 = .ok (.getfield 228, 3) := dk_180 (dw rcX11_winningRule_0 3 rfl) rfl
theorem dX11_winningRule_8 : decode cX11_winningRule 8 = .ok (.ishl, 1) := dk_120 (dw rcX11_winningRule_0 4 rfl)
theorem dX11_winningRule_9 : decode cX11_winningRule 9 = .ok (.iconst 1, 1) := dk_4 (dw rcX11_winningRule_0 5 rfl)
theorem dX11_winningRule_10 : decode cX11_winningRule 10 = .ok (.isub, 1) := dk_100 (dw rcX11_winningRule_0 6 rfl)
theorem dX11_winningRule_11 : decode cX11_winningRule 11 = .ok (.istore_n 3, 1) := dk_62 (dw rcX11_winningRule_0 7 rfl)
theorem dX11_winningRule_12 : decode cX11_winningRule 12 = .ok (.iload_n 3, 1) := dk_29 (dw rcX11_winningRule_0 8 rfl)
theorem dX11_winningRule_13 : decode cX11_winningRule 13 = .ok (.istore 4, 2) := dk_54 (dw rcX11_winningRule_0 9 rfl)
theorem dX11_winningRule_15 : decode cX11_winningRule 15 = .ok (.iload 4, 2) := dk_21 (dw rcX11_winningRule_0 10 rfl)
theorem dX11_winningRule_17 : decode cX11_winningRule 17 = .ok (.iload_n 2, 1) := dk_28 (dw rcX11_winningRule_0 11 rfl)
theorem dX11_winningRule_18 : decode cX11_winningRule 18 = .ok (.if_icmp .lt 54, 3) := dk_161 (dw rcX11_winningRule_0 12 rfl) rfl
theorem dX11_winningRule_21 : decode cX11_winningRule 21 = .ok (.iload 4, 2) := dk_21 (dw rcX11_winningRule_0 13 rfl)
theorem dX11_winningRule_23 : decode cX11_winningRule 23 = .ok (.iload_n 2, 1) := dk_28 (dw rcX11_winningRule_0 14 rfl)
theorem dX11_winningRule_24 : decode cX11_winningRule 24 = .ok (.iand, 1) := dk_126 (dw rcX11_winningRule_0 15 rfl)
theorem dX11_winningRule_25 : decode cX11_winningRule 25 = .ok (.iload_n 2, 1) := dk_28 (dw rcX11_winningRule_0 16 rfl)
theorem dX11_winningRule_26 : decode cX11_winningRule 26 = .ok (.if_icmp .ne 40, 3) := dk_160 (dw rcX11_winningRule_0 17 rfl) rfl
theorem dX11_winningRule_29 : decode cX11_winningRule 29 = .ok (.aload_n 0, 1) := dk_42 (dw rcX11_winningRule_0 18 rfl)
theorem dX11_winningRule_30 : decode cX11_winningRule 30 = .ok (.getfield 51, 3) := dk_180 (dw rcX11_winningRule_0 19 rfl) rfl
theorem dX11_winningRule_33 : decode cX11_winningRule 33 = .ok (.getfield 347, 3) := dk_180 (dw rcX11_winningRule_0 20 rfl) rfl
theorem dX11_winningRule_36 : decode cX11_winningRule 36 = .ok (.iload 4, 2) := dk_21 (dw rcX11_winningRule_0 21 rfl)
theorem dX11_winningRule_38 : decode cX11_winningRule 38 = .ok (.aload_n 0, 1) := dk_42 (dw rcX11_winningRule_0 22 rfl)
theorem dX11_winningRule_39 : decode cX11_winningRule 39 = .ok (.getfield 51, 3) := dk_180 (dw rcX11_winningRule_0 23 rfl) rfl
noncomputable def rbX11_winningRule_42 : List (Nat × List Nat) := [(42, [21, 4]), (44, [29]), (45, [182, 1, 94]), (48, [79]), (49, [42]), (50, [180, 0, 51]), (53, [180, 1, 97]), (56, [21, 4]), (58, [42]), (59, [27]), (60, [21, 4]), (62, [182, 0, 231]), (65, [84]), (66, [132, 4, 255]), (69, [167, 255, 202]), (72, [42]), (73, [180, 0, 51]), (76, [180, 1, 91]), (79, [28]), (80, [46]), (81, [172])]
theorem rcX11_winningRule_42 : dgo (lb cX11_winningRule) 0 rbX11_winningRule_42 = true := by decide +kernel
theorem dX11_winningRule_42 : decode cX11_winningRule 42 = .ok (.iload 4, 2) := dk_21 (dw rcX11_winningRule_42 0 rfl)
theorem dX11_winningRule_44 : decode cX11_winningRule 44 = .ok (.iload_n 3, 1) := dk_29 (dw rcX11_winningRule_42 1 rfl)
theorem dX11_winningRule_45 : decode cX11_winningRule 45 = .ok (.invokevirtual 350, 3) := dk_182 (dw rcX11_winningRule_42 2 rfl) rfl
theorem dX11_winningRule_48 : decode cX11_winningRule 48 = .ok (.iastore, 1) := dk_79 (dw rcX11_winningRule_42 3 rfl)
theorem dX11_winningRule_49 : decode cX11_winningRule 49 = .ok (.aload_n 0, 1) := dk_42 (dw rcX11_winningRule_42 4 rfl)
theorem dX11_winningRule_50 : decode cX11_winningRule 50 = .ok (.getfield 51, 3) := dk_180 (dw rcX11_winningRule_42 5 rfl) rfl
theorem dX11_winningRule_53 : decode cX11_winningRule 53 = .ok (.getfield 353, 3) := dk_180 (dw rcX11_winningRule_42 6 rfl) rfl
theorem dX11_winningRule_56 : decode cX11_winningRule 56 = .ok (.iload 4, 2) := dk_21 (dw rcX11_winningRule_42 7 rfl)
theorem dX11_winningRule_58 : decode cX11_winningRule 58 = .ok (.aload_n 0, 1) := dk_42 (dw rcX11_winningRule_42 8 rfl)
theorem dX11_winningRule_59 : decode cX11_winningRule 59 = .ok (.iload_n 1, 1) := dk_27 (dw rcX11_winningRule_42 9 rfl)
theorem dX11_winningRule_60 : decode cX11_winningRule 60 = .ok (.iload 4, 2) := dk_21 (dw rcX11_winningRule_42 10 rfl)
theorem dX11_winningRule_62 : decode cX11_winningRule 62 = .ok (.invokevirtual 231, 3) := dk_182 (dw rcX11_winningRule_42 11 rfl) rfl
theorem dX11_winningRule_65 : decode cX11_winningRule 65 = .ok (.bastore, 1) := dk_84 (dw rcX11_winningRule_42 12 rfl)
theorem dX11_winningRule_66 : decode cX11_winningRule 66 = .ok (.iinc 4 (-1), 3) := dk_132 (dw rcX11_winningRule_42 13 rfl) rfl
theorem dX11_winningRule_69 : decode cX11_winningRule 69 = .ok (.goto (-54), 3) := dk_167 (dw rcX11_winningRule_42 14 rfl) rfl
theorem dX11_winningRule_72 : decode cX11_winningRule 72 = .ok (.aload_n 0, 1) := dk_42 (dw rcX11_winningRule_42 15 rfl)
theorem dX11_winningRule_73 : decode cX11_winningRule 73 = .ok (.getfield 51, 3) := dk_180 (dw rcX11_winningRule_42 16 rfl) rfl
theorem dX11_winningRule_76 : decode cX11_winningRule 76 = .ok (.getfield 347, 3) := dk_180 (dw rcX11_winningRule_42 17 rfl) rfl
theorem dX11_winningRule_79 : decode cX11_winningRule 79 = .ok (.iload_n 2, 1) := dk_28 (dw rcX11_winningRule_42 18 rfl)
theorem dX11_winningRule_80 : decode cX11_winningRule 80 = .ok (.iaload, 1) := dk_46 (dw rcX11_winningRule_42 19 rfl)
theorem dX11_winningRule_81 : decode cX11_winningRule 81 = .ok (.ireturn, 1) := dk_172 (dw rcX11_winningRule_42 20 rfl)
set_option maxHeartbeats 4000000 in
set_option maxRecDepth 100000 in
theorem k_wStart_1 (l : Launch) (D : va_G) (k : KT) (A : Nat → Prop) (a : Nat → Nat) (z : SK) (G : GS)  (hv_0_0 : G.2.2 0 0 = 1) : Met l yX11_startAnew (WS yX11_startAnew cX11_startAnew 1 none) ({ frames := 3, cells := 0, slots := 0, locals := 81 }) (va_Pc [.ref (a 0)] (cW D k A a z G)) (va_Qv (fun (G1 : GS) => P_wStart_1 G G1) (fun (G1 : GS) t => Wd D k A a G1 t.heap) A) 0 0 A := by
  refine Met.ofW (cc := cX11_startAnew) (maxL := 1) (ret := none) (by decide) rfl ?_
  intro p e s m args below meth c s₁ B hml hv
  obtain ⟨rfl, hW, hB_G, hK, hZ⟩ := hv
  have hx := B.exec
  have hb := B.bytes
  have hr := B.returns
  have hts := atoms_spec (ws := WS yX11_startAnew cX11_startAnew 1 none) B.pre
  have hgd : ∀ w ∈ gd, w ∈ WS yX11_startAnew cX11_startAnew 1 none := fun w h => List.mem_cons_of_mem _ h
  have hg : ∀ w ∈ gd, w.before _ s = true := fun w h => hts w (hgd w h)
  have hown : s.vm.findClass RX11 = some m.cls := findClass_of_methodNamed B.named
  have hS : va_S A s.heap s.heap [] := va_S.rf
  have hF : Fr [38, 58, 59] [(0, 12), (6, 4), (30, 3), (30, 4), (30, 5), (31, 5)] G G := Fr.rf
  have hl := lv_entry ([.ref (a 0)]) (n := 1) (Nat.le_of_ble_eq_true rfl)
  rw [lg_entry_eq]
  generalize (lg_sl ([.ref (a 0)]) ++ List.replicate (1 - (lg_sl ([.ref (a 0)])).length) Slot.unset).toArray = ls at hl ⊢
  have hl : lv_has ls 1 [(0, .ref (a 0))] := hl
  refine lv_aload_n hx hb dX11_startAnew_0 rfl (lv_at hl 0 rfl) ?_
  refine S_getR (n := 6) (C := RX11) (T := TX11) (N := 13) hx hb hg iX11 hown hK hW kd_0 rfl 4 (lt_b rfl) (hg (Cond.fieldLink RX11 37 "SlabWalk" "lines" "LSlabWalk$Lines;") m574) (fun _ h9 => h9) rfl dX11_startAnew_1 ?_
  refine lv_aload_n hx hb dX11_startAnew_4 rfl (lv_at hl 0 rfl) ?_
  refine S_getV (n := 1) (C := RX11) (T := TX11) (N := 13) hx hb hg iX11 hown hK hW kd_0 rfl 0 (lt_b rfl) (hg (Cond.fieldLink RX11 10 "SlabWalk" "paving" "LSlabWalk$Paving;") m570) (fun _ h9 => h9) rfl hv_0_0 dX11_startAnew_5 ?_
  refine S_callv (va_runV (As := [.ref (a 1)]) (rest := []) ⟨hx, hb, hml, hown, hts⟩ (k_lLookB_1 l D k A a z G  ) (cwV 1 hts (gd_V hgd m551 m552 m553 m122 m554) rfl rfl rfl hd_X3_lookAt ⟨Nat.le_of_ble_eq_true rfl, Nat.le_of_ble_eq_true rfl⟩) (pre_W hW hB_G hK hZ hS kd_6 rfl) rfl rfl hl.1 rfl (lv_room (Nat.le_of_ble_eq_true rfl)) dX11_startAnew_8 ⟨Nat.le_of_ble_eq_true rfl, Nat.le_of_ble_eq_true rfl⟩) hS (fun G_2 H locs hpo hW hS => ?_)
  have hX_5 : P_lLookB_1 G G_2 := hpo
  obtain ⟨hB_G_2, hq_3, hp_4, -⟩ := hpo
  have hF := hF.call9 hq_3 rfl rfl
  refine lv_aload_n hx hb dX11_startAnew_11 rfl (lv_at hl 0 rfl) ?_
  refine S_getR (n := 30) (C := RX11) (T := TX11) (N := 13) hx hb hg iX11 hown hK hW kd_0 rfl 8 (lt_b rfl) (hg (Cond.fieldLink RX11 65 "SlabWalk" "earnest" "LSlabWalk$Earnest;") m578) (fun _ h9 => h9) rfl dX11_startAnew_12 ?_
  refine lv_aload_n hx hb dX11_startAnew_15 rfl (lv_at hl 0 rfl) ?_
  refine S_getV (n := 1) (C := RX11) (T := TX11) (N := 13) hx hb hg iX11 hown hK hW kd_0 rfl 0 (lt_b rfl) (hg (Cond.fieldLink RX11 10 "SlabWalk" "paving" "LSlabWalk$Paving;") m570) (fun _ h9 => h9) rfl (((hq_3.r9 0 0 rfl rfl)).trans (hv_0_0)) dX11_startAnew_16 ?_
  have b_6 : 0 ≤ (G.1 1 16).toInt ∧ (G.1 1 16).toInt ≤ 999 := bd_1_16 hB_G
  refine S_getI (v := (G.1 1 16)) (C := RX6) (T := TX6) (N := 17) hx hb hg iX6 hown hK hW kd_1 rfl 16 (lt_b rfl) (hg (Cond.fieldLink RX11 323 "SlabWalk$Paving" "draw" "I") m209) (fun _ h9 => h9) rfl (hq_3.i9 1 16 rfl rfl) dX11_startAnew_19 ?_
  refine S_callv (va_runV (As := [.int (G.1 1 16)]) (rest := []) ⟨hx, hb, hml, hown, hts⟩ (k_eStart l D k A a z G_2 (G.1 1 16) ) (cwV 1 hts (gd_V hgd m558 m559 m560 m127 m561) rfl rfl rfl hd_X1_startAnew ⟨Nat.le_of_ble_eq_true rfl, Nat.le_of_ble_eq_true rfl⟩) (pre_W hW hB_G_2 hK hZ hS kd_30 rfl) rfl rfl hl.1 rfl (lv_room (Nat.le_of_ble_eq_true rfl)) dX11_startAnew_22 ⟨Nat.le_of_ble_eq_true rfl, Nat.le_of_ble_eq_true rfl⟩) hS (fun G_8 H locs hpo hW hS => ?_)
  have hX_11 : P_eStart (G.1 1 16) G_2 G_8 := hpo
  obtain ⟨hB_G_8, hq_9, hp_10, -⟩ := hpo
  have hF := hF.call9 hq_9 rfl rfl
  refine lv_aload_n hx hb dX11_startAnew_25 rfl (lv_at hl 0 rfl) ?_
  refine S_getR (n := 31) (C := RX11) (T := TX11) (N := 13) hx hb hg iX11 hown hK hW kd_0 rfl 9 (lt_b rfl) (hg (Cond.fieldLink RX11 72 "SlabWalk" "sights" "LSlabWalk$Sights;") m579) (fun _ h9 => h9) rfl dX11_startAnew_26 ?_
  refine ic_0 hx hb dX11_startAnew_29 ?_
  refine S_putI (ty := .int) (C := RX8) (T := TX8) (N := 7) hx hb hg iX8 tyX8 tyX8_ok nmX8 hown hK hW hS kd_31 rfl 5 (lt_b rfl) (hg (Cond.fieldLink RX11 285 "SlabWalk$Sights" "count" "I") m529) (fun _ h9 => h9) rfl (by decide +kernel) rfl rfl rfl dX11_startAnew_30 (fun G_12 H locs eG_12 hW hS => ?_)
  have hB_G_12 : Bd G_12 := hB_G_8.put (V := 0) (lo := 0) (hi := 20) eG_12 rfl rfl rfl (by decide) (by decide) (hB_G_8.2.put eG_12 rfl)
  have hF := hF.put eG_12 (Or.inr (by decide))
  refine lv_aload_n hx hb dX11_startAnew_33 rfl (lv_at hl 0 rfl) ?_
  refine ic_0 hx hb dX11_startAnew_34 ?_
  refine S_putI (ty := .int) (C := RX11) (T := TX11) (N := 13) hx hb hg iX11 tyX11 tyX11_ok nmX11 hown hK hW hS kd_0 rfl 12 (lt_b rfl) (hg (Cond.fieldLink RX11 150 "SlabWalk" "lie" "I") m582) (fun _ h9 => h9) rfl (by decide +kernel) rfl rfl rfl dX11_startAnew_35 (fun G_13 H locs eG_13 hW hS => ?_)
  have hB_G_13 : Bd G_13 := hB_G_12.put (V := 0) (lo := 0) (hi := 400) eG_13 rfl rfl rfl (by decide) (by decide) (hB_G_12.2.put eG_13 rfl)
  have hF := hF.put eG_13 (Or.inr (by decide))
  have b_14 : 0 ≤ (G_8.1 30 4).toInt ∧ (G_8.1 30 4).toInt ≤ 40 := bd_30_4 hB_G_8
  have g_15 : (G_13.1 30 4).toInt = (G_8.1 30 4).toInt := (congrArg Int32.toInt (show G_13.1 30 4 = (G_8.1 30 4) from ((gp_ne eG_13 (by decide)).trans (gp_ne eG_12 (by decide)))))
  have b_16 : 0 ≤ (G_8.1 30 5).toInt ∧ (G_8.1 30 5).toInt ≤ 40 := bd_30_5 hB_G_8
  have g_17 : (G_13.1 30 5).toInt = (G_8.1 30 5).toInt := (congrArg Int32.toInt (show G_13.1 30 5 = (G_8.1 30 5) from ((gp_ne eG_13 (by decide)).trans (gp_ne eG_12 (by decide)))))
  exact W.vret hx hb hr (fun t ht _ => ⟨⟨G_13, rfl, (P_wStart_1_mk ⟨hB_G_13, hF, (⟨by omega, (((congrFun (congrFun (congrArg (fun q => q.2.2) eG_13) 6) 4).trans ((congrFun (congrFun (congrArg (fun q => q.2.2) eG_12) 6) 4).trans (hq_9.r9 6 4 rfl rfl)))).trans hp_4⟩), ⟨G_2, hX_5, ⟨G_8, hX_11, ⟨(Fr.put (rs := []) (fs := [(0, 12), (31, 5)]) (Fr.put (rs := []) (fs := [(0, 12), (31, 5)]) Fr.rf eG_12 (Or.inr (by decide))) eG_13 (Or.inr (by decide))), (gp_eq eG_13), ((gp_ne eG_13 (by decide)).trans (gp_eq eG_12))⟩⟩⟩⟩), wd_t ht hW⟩, hS.F ht⟩) hS.2.2 dX11_startAnew_38

set_option maxHeartbeats 4000000 in
set_option maxRecDepth 100000 in
theorem k_wAsk_1 (l : Launch) (D : va_G) (k : KT) (A : Nat → Prop) (a : Nat → Nat) (z : SK) (G : GS) (p0 : Int32) (p1 : Int32) (p2 : Int32) (hv_0_0 : G.2.2 0 0 = 1) (hv_0_1 : G.2.2 0 1 = 2) (hv_6_4 : G.2.2 6 4 = 1) : Met l yX11_canAsk (WS yX11_canAsk cX11_canAsk 4 (some .boolean)) ({ frames := 1, cells := 0, slots := 0, locals := 21 }) (va_Pc [.ref (a 0), .int p0, .int p1, .int p2] (cW D k A a z G)) (va_Qi (fun (r : Int32) (G1 : GS) => P_wAsk_1 p0 p1 p2 G r G1) (fun (G1 : GS) t => Wd D k A a G1 t.heap) A) 0 0 A := by
  refine Met.ofW (cc := cX11_canAsk) (maxL := 4) (ret := (some .boolean)) (by decide) rfl ?_
  intro p e s m args below meth c s₁ B hml hv
  obtain ⟨rfl, hW, hB_G, hK, hZ⟩ := hv
  have hx := B.exec
  have hb := B.bytes
  have hr := B.returns
  have hts := atoms_spec (ws := WS yX11_canAsk cX11_canAsk 4 (some .boolean)) B.pre
  have hgd : ∀ w ∈ gd, w ∈ WS yX11_canAsk cX11_canAsk 4 (some .boolean) := fun w h => List.mem_cons_of_mem _ h
  have hg : ∀ w ∈ gd, w.before _ s = true := fun w h => hts w (hgd w h)
  have hown : s.vm.findClass RX11 = some m.cls := findClass_of_methodNamed B.named
  have hS : va_S A s.heap s.heap [] := va_S.rf
  have hF : Fr [] [] G G := Fr.rf
  have hl := lv_entry ([.ref (a 0), .int p0, .int p1, .int p2]) (n := 4) (Nat.le_of_ble_eq_true rfl)
  rw [lg_entry_eq]
  generalize (lg_sl ([.ref (a 0), .int p0, .int p1, .int p2]) ++ List.replicate (4 - (lg_sl ([.ref (a 0), .int p0, .int p1, .int p2])).length) Slot.unset).toArray = ls at hl ⊢
  have hl : lv_has ls 4 [(0, .ref (a 0)), (1, .int p0), (2, .int p1), (3, .int p2)] := hl
  refine lv_aload_n hx hb dX11_canAsk_0 rfl (lv_at hl 0 rfl) ?_
  refine S_getV (n := 1) (C := RX11) (T := TX11) (N := 13) hx hb hg iX11 hown hK hW kd_0 rfl 0 (lt_b rfl) (hg (Cond.fieldLink RX11 10 "SlabWalk" "paving" "LSlabWalk$Paving;") m570) (fun _ h9 => h9) rfl hv_0_0 dX11_canAsk_1 ?_
  refine lv_iload_n hx hb dX11_canAsk_4 rfl (lv_at hl 1 rfl) ?_
  refine S_calli (va_runV (As := [.int p0]) (rest := []) ⟨hx, hb, hml, hown, hts⟩ (k_hasWalker_1 l D k A a z G p0 ) (cwV 1 hts (gd_V hgd m957 m958 m959 m118 m960) rfl rfl rfl hd_X6_hasWalker ⟨Nat.le_of_ble_eq_true rfl, Nat.le_of_ble_eq_true rfl⟩) (pre_W hW hB_G hK hZ hS kd_1 rfl) rfl rfl hl.1 rfl (lv_room (Nat.le_of_ble_eq_true rfl)) dX11_canAsk_5 ⟨Nat.le_of_ble_eq_true rfl, Nat.le_of_ble_eq_true rfl⟩) hS (fun r_1 G_2 H locs hpo hW hS => ?_)
  have hX_5 : P_hasWalker_1 p0 G r_1 G_2 := hpo
  obtain ⟨hB_G_2, hq_3, f_6, hp_4, -⟩ := hpo
  have hF := hF.call9 hq_3 rfl rfl
  refine lv_if_eq (tgt := 37) hx hb dX11_canAsk_8 rfl (fun c_7 => ?_) (fun c_7 => ?_)
  · have c_7 : r_1.toInt = 0 := xI_eq rfl rfl c_7
    refine ic_0 hx hb dX11_canAsk_37 ?_
    exact W.zret (v := 0) hx hb hr (by decide) (fun t ht _ => ⟨⟨0, G_2, rfl, (P_wAsk_1_mk ⟨hB_G_2, hF, ⟨by decide, by decide⟩, (by have hq : (0 : Int32).toInt = 0 := rfl; (try dsimp only); omega), ⟨r_1, G_2, hX_5, (Or.inl ⟨c_7, ⟨rfl, rfl⟩⟩)⟩⟩), wd_t ht hW⟩, hS.F ht⟩) hS.2.2 dX11_canAsk_38
  · have c_7 : r_1.toInt ≠ 0 := xI_ne rfl rfl c_7
    refine lv_aload_n hx hb dX11_canAsk_11 rfl (lv_at hl 0 rfl) ?_
    refine S_getV (n := 1) (C := RX11) (T := TX11) (N := 13) hx hb hg iX11 hown hK hW kd_0 rfl 0 (lt_b rfl) (hg (Cond.fieldLink RX11 10 "SlabWalk" "paving" "LSlabWalk$Paving;") m570) (fun _ h9 => h9) rfl (((hq_3.r9 0 0 rfl rfl)).trans (hv_0_0)) dX11_canAsk_12 ?_
    refine lv_iload_n hx hb dX11_canAsk_15 rfl (lv_at hl 2 rfl) ?_
    have b_8 : 0 ≤ (G.1 1 9).toInt ∧ (G.1 1 9).toInt ≤ 3 := bd_1_9 hB_G
    have g_9 : (G_2.1 1 9).toInt = (G.1 1 9).toInt := (congrArg Int32.toInt (show G_2.1 1 9 = (G.1 1 9) from (hq_3.i9 1 9 rfl rfl)))
    refine S_calli (va_runV (As := [.int p1]) (rest := []) ⟨hx, hb, hml, hown, hts⟩ (k_hasStreet_1 l D k A a z G_2 p1 ) (cwV 1 hts (gd_V hgd m902 m887 m888 m118 m889) rfl rfl rfl hd_X6_hasStreet ⟨Nat.le_of_ble_eq_true rfl, Nat.le_of_ble_eq_true rfl⟩) (pre_W hW hB_G_2 hK hZ hS kd_1 rfl) rfl rfl hl.1 rfl (lv_room (Nat.le_of_ble_eq_true rfl)) dX11_canAsk_16 ⟨Nat.le_of_ble_eq_true rfl, Nat.le_of_ble_eq_true rfl⟩) hS (fun r_10 G_11 H locs hpo hW hS => ?_)
    have hX_14 : P_hasStreet_1 p1 G_2 r_10 G_11 := hpo
    obtain ⟨hB_G_11, hq_12, f_15, hp_13, -⟩ := hpo
    have hF := hF.call9 hq_12 rfl rfl
    refine lv_if_eq (tgt := 37) hx hb dX11_canAsk_19 rfl (fun c_16 => ?_) (fun c_16 => ?_)
    · have c_16 : r_10.toInt = 0 := xI_eq rfl rfl c_16
      refine ic_0 hx hb dX11_canAsk_37 ?_
      exact W.zret (v := 0) hx hb hr (by decide) (fun t ht _ => ⟨⟨0, G_11, rfl, (P_wAsk_1_mk ⟨hB_G_11, hF, ⟨by decide, by decide⟩, (by have hq : (0 : Int32).toInt = 0 := rfl; (try dsimp only); omega), ⟨r_1, G_2, hX_5, (Or.inr ⟨c_7, ⟨r_10, G_11, hX_14, (Or.inl ⟨c_16, ⟨rfl, rfl⟩⟩)⟩⟩)⟩⟩), wd_t ht hW⟩, hS.F ht⟩) hS.2.2 dX11_canAsk_38
    · have c_16 : r_10.toInt ≠ 0 := xI_ne rfl rfl c_16
      refine lv_aload_n hx hb dX11_canAsk_22 rfl (lv_at hl 0 rfl) ?_
      refine S_getV (n := 1) (C := RX11) (T := TX11) (N := 13) hx hb hg iX11 hown hK hW kd_0 rfl 0 (lt_b rfl) (hg (Cond.fieldLink RX11 10 "SlabWalk" "paving" "LSlabWalk$Paving;") m570) (fun _ h9 => h9) rfl ((((hq_12.r9 0 0 rfl rfl).trans (hq_3.r9 0 0 rfl rfl))).trans (hv_0_0)) dX11_canAsk_23 ?_
      refine lv_iload_n hx hb dX11_canAsk_26 rfl (lv_at hl 3 rfl) ?_
      refine S_calli (va_runV (As := [.int p2]) (rest := []) ⟨hx, hb, hml, hown, hts⟩ (k_hasSet_1 l D k A a z G_11 p2 ) (cwV 1 hts (gd_V hgd m907 m908 m909 m118 m910) rfl rfl rfl hd_X6_hasSet ⟨Nat.le_of_ble_eq_true rfl, Nat.le_of_ble_eq_true rfl⟩) (pre_W hW hB_G_11 hK hZ hS kd_1 rfl) rfl rfl hl.1 rfl (lv_room (Nat.le_of_ble_eq_true rfl)) dX11_canAsk_27 ⟨Nat.le_of_ble_eq_true rfl, Nat.le_of_ble_eq_true rfl⟩) hS (fun r_17 G_18 H locs hpo hW hS => ?_)
      have hX_21 : P_hasSet_1 p2 G_11 r_17 G_18 := hpo
      obtain ⟨hB_G_18, hq_19, f_22, hp_20, -⟩ := hpo
      have hF := hF.call9 hq_19 rfl rfl
      refine lv_if_eq (tgt := 37) hx hb dX11_canAsk_30 rfl (fun c_23 => ?_) (fun c_23 => ?_)
      · have c_23 : r_17.toInt = 0 := xI_eq rfl rfl c_23
        refine ic_0 hx hb dX11_canAsk_37 ?_
        exact W.zret (v := 0) hx hb hr (by decide) (fun t ht _ => ⟨⟨0, G_18, rfl, (P_wAsk_1_mk ⟨hB_G_18, hF, ⟨by decide, by decide⟩, (by have hq : (0 : Int32).toInt = 0 := rfl; (try dsimp only); omega), ⟨r_1, G_2, hX_5, (Or.inr ⟨c_7, ⟨r_10, G_11, hX_14, (Or.inr ⟨c_16, ⟨r_17, G_18, hX_21, (Or.inl ⟨c_23, ⟨rfl, rfl⟩⟩)⟩⟩)⟩⟩)⟩⟩), wd_t ht hW⟩, hS.F ht⟩) hS.2.2 dX11_canAsk_38
      · have c_23 : r_17.toInt ≠ 0 := xI_ne rfl rfl c_23
        refine ic_1 hx hb dX11_canAsk_33 ?_
        refine lv_goto (tgt := 38) hx hb dX11_canAsk_34 rfl ?_
        exact W.zret (v := 1) hx hb hr (by decide) (fun t ht _ => ⟨⟨1, G_18, rfl, (P_wAsk_1_mk ⟨hB_G_18, hF, ⟨by decide, by decide⟩, (by have hq : (1 : Int32).toInt = 1 := rfl; (try dsimp only); omega), ⟨r_1, G_2, hX_5, (Or.inr ⟨c_7, ⟨r_10, G_11, hX_14, (Or.inr ⟨c_16, ⟨r_17, G_18, hX_21, (Or.inr ⟨c_23, ⟨rfl, rfl⟩⟩)⟩⟩)⟩⟩)⟩⟩), wd_t ht hW⟩, hS.F ht⟩) hS.2.2 dX11_canAsk_38

set_option maxHeartbeats 4000000 in
set_option maxRecDepth 100000 in
theorem k_wBrave_1 (l : Launch) (D : va_G) (k : KT) (A : Nat → Prop) (a : Nat → Nat) (z : SK) (G : GS) (p0 : Int32) (p1 : Int32) (p2 : Int32) (p3 : Int32) (p4 : Int32) (hv_0_0 : G.2.2 0 0 = 1) (hv_0_1 : G.2.2 0 1 = 2) (hv_6_4 : G.2.2 6 4 = 1) : Met l yX11_canBeBrave (WS yX11_canBeBrave cX11_canBeBrave 6 (some .boolean)) ({ frames := 2, cells := 0, slots := 0, locals := 44 }) (va_Pc [.ref (a 0), .int p0, .int p1, .int p2, .int p3, .int p4] (cW D k A a z G)) (va_Qi (fun (r : Int32) (G1 : GS) => P_wBrave_1 p0 p1 p2 p3 p4 G r G1) (fun (G1 : GS) t => Wd D k A a G1 t.heap) A) 0 0 A := by
  refine Met.ofW (cc := cX11_canBeBrave) (maxL := 6) (ret := (some .boolean)) (by decide) rfl ?_
  intro p e s m args below meth c s₁ B hml hv
  obtain ⟨rfl, hW, hB_G, hK, hZ⟩ := hv
  have hx := B.exec
  have hb := B.bytes
  have hr := B.returns
  have hts := atoms_spec (ws := WS yX11_canBeBrave cX11_canBeBrave 6 (some .boolean)) B.pre
  have hgd : ∀ w ∈ gd, w ∈ WS yX11_canBeBrave cX11_canBeBrave 6 (some .boolean) := fun w h => List.mem_cons_of_mem _ h
  have hg : ∀ w ∈ gd, w.before _ s = true := fun w h => hts w (hgd w h)
  have hown : s.vm.findClass RX11 = some m.cls := findClass_of_methodNamed B.named
  have hS : va_S A s.heap s.heap [] := va_S.rf
  have hF : Fr [] [] G G := Fr.rf
  have hl := lv_entry ([.ref (a 0), .int p0, .int p1, .int p2, .int p3, .int p4]) (n := 6) (Nat.le_of_ble_eq_true rfl)
  rw [lg_entry_eq]
  generalize (lg_sl ([.ref (a 0), .int p0, .int p1, .int p2, .int p3, .int p4]) ++ List.replicate (6 - (lg_sl ([.ref (a 0), .int p0, .int p1, .int p2, .int p3, .int p4])).length) Slot.unset).toArray = ls at hl ⊢
  have hl : lv_has ls 6 [(0, .ref (a 0)), (1, .int p0), (2, .int p1), (3, .int p2), (4, .int p3), (5, .int p4)] := hl
  refine lv_aload_n hx hb dX11_canBeBrave_0 rfl (lv_at hl 0 rfl) ?_
  refine lv_iload_n hx hb dX11_canBeBrave_1 rfl (lv_at hl 1 rfl) ?_
  refine lv_iload_n hx hb dX11_canBeBrave_2 rfl (lv_at hl 2 rfl) ?_
  refine lv_iload_n hx hb dX11_canBeBrave_3 rfl (lv_at hl 3 rfl) ?_
  refine S_calli (va_runV (As := [.int p0, .int p1, .int p2]) (rest := []) ⟨hx, hb, hml, hown, hts⟩ (k_wAsk_1 l D k A a z G p0 p1 p2 hv_0_0 hv_0_1 hv_6_4) (cwV 3 hts (gd_V hgd m953 m955 m31 m117 m956) rfl rfl rfl hd_X11_canAsk ⟨Nat.le_of_ble_eq_true rfl, Nat.le_of_ble_eq_true rfl⟩) (pre_W hW hB_G hK hZ hS kd_0 rfl) rfl rfl hl.1 rfl (lv_room (Nat.le_of_ble_eq_true rfl)) dX11_canBeBrave_4 ⟨Nat.le_of_ble_eq_true rfl, Nat.le_of_ble_eq_true rfl⟩) hS (fun r_1 G_2 H locs hpo hW hS => ?_)
  have hX_5 : P_wAsk_1 p0 p1 p2 G r_1 G_2 := hpo
  obtain ⟨hB_G_2, hq_3, f_6, hp_4, -⟩ := hpo
  have hF := hF.call9 hq_3 rfl rfl
  refine lv_if_eq (tgt := 41) hx hb dX11_canBeBrave_7 rfl (fun c_7 => ?_) (fun c_7 => ?_)
  · have c_7 : r_1.toInt = 0 := xI_eq rfl rfl c_7
    refine ic_0 hx hb dX11_canBeBrave_41 ?_
    exact W.zret (v := 0) hx hb hr (by decide) (fun t ht _ => ⟨⟨0, G_2, rfl, (P_wBrave_1_mk ⟨hB_G_2, hF, ⟨by decide, by decide⟩, (by have hq : (0 : Int32).toInt = 0 := rfl; (try dsimp only); omega), ⟨r_1, G_2, hX_5, (Or.inl ⟨c_7, ⟨rfl, rfl⟩⟩)⟩⟩), wd_t ht hW⟩, hS.F ht⟩) hS.2.2 dX11_canBeBrave_42
  · have c_7 : r_1.toInt ≠ 0 := xI_ne rfl rfl c_7
    refine lv_aload_n hx hb dX11_canBeBrave_10 rfl (lv_at hl 0 rfl) ?_
    refine S_getV (n := 1) (C := RX11) (T := TX11) (N := 13) hx hb hg iX11 hown hK hW kd_0 rfl 0 (lt_b rfl) (hg (Cond.fieldLink RX11 10 "SlabWalk" "paving" "LSlabWalk$Paving;") m570) (fun _ h9 => h9) rfl (((hq_3.r9 0 0 rfl rfl)).trans (hv_0_0)) dX11_canBeBrave_11 ?_
    refine lv_iload_n hx hb dX11_canBeBrave_14 rfl (lv_at hl 1 rfl) ?_
    refine lv_iload_n hx hb dX11_canBeBrave_15 rfl (lv_at hl 2 rfl) ?_
    refine lv_iload hx hb dX11_canBeBrave_16 (lv_at hl 4 rfl) ?_
    have b_8 : 0 ≤ (G.1 1 10).toInt ∧ (G.1 1 10).toInt ≤ 4 := bd_1_10 hB_G
    have g_9 : (G_2.1 1 10).toInt = (G.1 1 10).toInt := (congrArg Int32.toInt (show G_2.1 1 10 = (G.1 1 10) from (hq_3.i9 1 10 rfl rfl)))
    refine S_calli (va_runV (As := [.int p0, .int p1, .int p3]) (rest := []) ⟨hx, hb, hml, hown, hts⟩ (k_stands_1 l D k A a z G_2 p0 p1 p3 ) (cwV 3 hts (gd_V hgd m1121 m966 m967 m118 m968) rfl rfl rfl hd_X6_stands ⟨Nat.le_of_ble_eq_true rfl, Nat.le_of_ble_eq_true rfl⟩) (pre_W hW hB_G_2 hK hZ hS kd_1 rfl) rfl rfl hl.1 rfl (lv_room (Nat.le_of_ble_eq_true rfl)) dX11_canBeBrave_18 ⟨Nat.le_of_ble_eq_true rfl, Nat.le_of_ble_eq_true rfl⟩) hS (fun r_10 G_11 H locs hpo hW hS => ?_)
    have hX_14 : P_stands_1 p0 p1 p3 G_2 r_10 G_11 := hpo
    obtain ⟨hB_G_11, hq_12, f_15, hp_13, -⟩ := hpo
    have hF := hF.call9 hq_12 rfl rfl
    refine lv_if_eq (tgt := 41) hx hb dX11_canBeBrave_21 rfl (fun c_16 => ?_) (fun c_16 => ?_)
    · have c_16 : r_10.toInt = 0 := xI_eq rfl rfl c_16
      refine ic_0 hx hb dX11_canBeBrave_41 ?_
      exact W.zret (v := 0) hx hb hr (by decide) (fun t ht _ => ⟨⟨0, G_11, rfl, (P_wBrave_1_mk ⟨hB_G_11, hF, ⟨by decide, by decide⟩, (by have hq : (0 : Int32).toInt = 0 := rfl; (try dsimp only); omega), ⟨r_1, G_2, hX_5, (Or.inr ⟨c_7, ⟨r_10, G_11, hX_14, (Or.inl ⟨c_16, ⟨rfl, rfl⟩⟩)⟩⟩)⟩⟩), wd_t ht hW⟩, hS.F ht⟩) hS.2.2 dX11_canBeBrave_42
    · have c_16 : r_10.toInt ≠ 0 := xI_ne rfl rfl c_16
      refine lv_iload hx hb dX11_canBeBrave_24 (lv_at hl 5 rfl) ?_
      refine ic_1 hx hb dX11_canBeBrave_26 ?_
      refine lv_icmp_lt (tgt := 41) hx hb dX11_canBeBrave_27 rfl (fun c_17 => ?_) (fun c_17 => ?_)
      · have c_17 : p4.toInt < 1 := xI_lt rfl rfl c_17
        refine ic_0 hx hb dX11_canBeBrave_41 ?_
        exact W.zret (v := 0) hx hb hr (by decide) (fun t ht _ => ⟨⟨0, G_11, rfl, (P_wBrave_1_mk ⟨hB_G_11, hF, ⟨by decide, by decide⟩, (by have hq : (0 : Int32).toInt = 0 := rfl; (try dsimp only); omega), ⟨r_1, G_2, hX_5, (Or.inr ⟨c_7, ⟨r_10, G_11, hX_14, (Or.inr ⟨c_16, (Or.inl ⟨c_17, ⟨rfl, rfl⟩⟩)⟩)⟩⟩)⟩⟩), wd_t ht hW⟩, hS.F ht⟩) hS.2.2 dX11_canBeBrave_42
      · have c_17 : 1 ≤ p4.toInt := xI_nlt rfl rfl c_17
        refine lv_iload hx hb dX11_canBeBrave_30 (lv_at hl 5 rfl) ?_
        refine lv_bipush (v := 8) hx hb dX11_canBeBrave_32 (by decide) ?_
        refine lv_icmp_gt (tgt := 41) hx hb dX11_canBeBrave_34 rfl (fun c_18 => ?_) (fun c_18 => ?_)
        · have c_18 : 8 < p4.toInt := xI_lt rfl rfl c_18
          refine ic_0 hx hb dX11_canBeBrave_41 ?_
          exact W.zret (v := 0) hx hb hr (by decide) (fun t ht _ => ⟨⟨0, G_11, rfl, (P_wBrave_1_mk ⟨hB_G_11, hF, ⟨by decide, by decide⟩, (by have hq : (0 : Int32).toInt = 0 := rfl; (try dsimp only); omega), ⟨r_1, G_2, hX_5, (Or.inr ⟨c_7, ⟨r_10, G_11, hX_14, (Or.inr ⟨c_16, (Or.inr ⟨c_17, (Or.inl ⟨c_18, ⟨rfl, rfl⟩⟩)⟩)⟩)⟩⟩)⟩⟩), wd_t ht hW⟩, hS.F ht⟩) hS.2.2 dX11_canBeBrave_42
        · have c_18 : p4.toInt ≤ 8 := xI_nlt rfl rfl c_18
          refine ic_1 hx hb dX11_canBeBrave_37 ?_
          refine lv_goto (tgt := 42) hx hb dX11_canBeBrave_38 rfl ?_
          exact W.zret (v := 1) hx hb hr (by decide) (fun t ht _ => ⟨⟨1, G_11, rfl, (P_wBrave_1_mk ⟨hB_G_11, hF, ⟨by decide, by decide⟩, (by have hq : (1 : Int32).toInt = 1 := rfl; (try dsimp only); omega), ⟨r_1, G_2, hX_5, (Or.inr ⟨c_7, ⟨r_10, G_11, hX_14, (Or.inr ⟨c_16, (Or.inr ⟨c_17, (Or.inr ⟨c_18, ⟨rfl, rfl⟩⟩)⟩)⟩)⟩⟩)⟩⟩), wd_t ht hW⟩, hS.F ht⟩) hS.2.2 dX11_canBeBrave_42

set_option maxHeartbeats 4000000 in
set_option maxRecDepth 100000 in
theorem k_wGo_1 (l : Launch) (D : va_G) (k : KT) (A : Nat → Prop) (a : Nat → Nat) (z : SK) (G : GS) (p0 : Int32) (hv_0_0 : G.2.2 0 0 = 1) (hv_0_1 : G.2.2 0 1 = 2) (hv_6_4 : G.2.2 6 4 = 1) : Met l yX11_canGo (WS yX11_canGo cX11_canGo 4 (some .boolean)) ({ frames := 1, cells := 0, slots := 0, locals := 21 }) (va_Pc [.ref (a 0), .int p0] (cW D k A a z G)) (va_Qi (fun (r : Int32) (G1 : GS) => P_wGo_1 p0 G r G1) (fun (G1 : GS) t => Wd D k A a G1 t.heap) A) 0 0 A := by
  refine Met.ofW (cc := cX11_canGo) (maxL := 4) (ret := (some .boolean)) (by decide) rfl ?_
  intro p e s m args below meth c s₁ B hml hv
  obtain ⟨rfl, hW, hB_G, hK, hZ⟩ := hv
  have hx := B.exec
  have hb := B.bytes
  have hr := B.returns
  have hts := atoms_spec (ws := WS yX11_canGo cX11_canGo 4 (some .boolean)) B.pre
  have hgd : ∀ w ∈ gd, w ∈ WS yX11_canGo cX11_canGo 4 (some .boolean) := fun w h => List.mem_cons_of_mem _ h
  have hg : ∀ w ∈ gd, w.before _ s = true := fun w h => hts w (hgd w h)
  have hown : s.vm.findClass RX11 = some m.cls := findClass_of_methodNamed B.named
  have hS : va_S A s.heap s.heap [] := va_S.rf
  have hF : Fr [] [] G G := Fr.rf
  have hl := lv_entry ([.ref (a 0), .int p0]) (n := 4) (Nat.le_of_ble_eq_true rfl)
  rw [lg_entry_eq]
  generalize (lg_sl ([.ref (a 0), .int p0]) ++ List.replicate (4 - (lg_sl ([.ref (a 0), .int p0])).length) Slot.unset).toArray = ls at hl ⊢
  have hl : lv_has ls 4 [(0, .ref (a 0)), (1, .int p0)] := hl
  refine lv_aload_n hx hb dX11_canGo_0 rfl (lv_at hl 0 rfl) ?_
  refine S_getR (n := 30) (C := RX11) (T := TX11) (N := 13) hx hb hg iX11 hown hK hW kd_0 rfl 8 (lt_b rfl) (hg (Cond.fieldLink RX11 65 "SlabWalk" "earnest" "LSlabWalk$Earnest;") m578) (fun _ h9 => h9) rfl dX11_canGo_1 ?_
  refine S_getR (n := 58) (C := RX1) (T := TX1) (N := 6) hx hb hg iX1 hown hK hW kd_30 rfl 0 (lt_b rfl) (hg (Cond.fieldLink RX11 246 "SlabWalk$Earnest" "now" "[I") m493) (fun _ h9 => h9) rfl dX11_canGo_4 ?_
  refine ic_0 hx hb dX11_canGo_7 ?_
  refine S_iald hx hb hK hW kd_58 (vin (by decide) (by decide)) dX11_canGo_8 (fun y_1 ey_1 => ?_)
  have u_2 : y_1.toInt = (G.1 58 0).toInt := congrArg Int32.toInt (ey_1)
  refine lv_istore_n (lv' := [(2, .int y_1), (0, .ref (a 0)), (1, .int p0)]) hx hb dX11_canGo_9 rfl hl (lt_b rfl) rfl (fun ls hl => ?_)
  refine lv_aload_n hx hb dX11_canGo_10 rfl (lv_at hl 1 rfl) ?_
  refine S_getV (n := 1) (C := RX11) (T := TX11) (N := 13) hx hb hg iX11 hown hK hW kd_0 rfl 0 (lt_b rfl) (hg (Cond.fieldLink RX11 10 "SlabWalk" "paving" "LSlabWalk$Paving;") m570) (fun _ h9 => h9) rfl hv_0_0 dX11_canGo_11 ?_
  refine lv_iload_n hx hb dX11_canGo_14 rfl (lv_at hl 0 rfl) ?_
  refine S_calli (va_runV (As := [.int y_1]) (rest := []) ⟨hx, hb, hml, hown, hts⟩ (k_hasWalker_1 l D k A a z G y_1 ) (cwV 1 hts (gd_V hgd m957 m958 m959 m118 m960) rfl rfl rfl hd_X6_hasWalker ⟨Nat.le_of_ble_eq_true rfl, Nat.le_of_ble_eq_true rfl⟩) (pre_W hW hB_G hK hZ hS kd_1 rfl) rfl rfl hl.1 rfl (lv_room (Nat.le_of_ble_eq_true rfl)) dX11_canGo_15 ⟨Nat.le_of_ble_eq_true rfl, Nat.le_of_ble_eq_true rfl⟩) hS (fun r_3 G_4 H locs hpo hW hS => ?_)
  have hX_7 : P_hasWalker_1 y_1 G r_3 G_4 := hpo
  obtain ⟨hB_G_4, hq_5, f_8, hp_6, -⟩ := hpo
  have hF := hF.call9 hq_5 rfl rfl
  refine lv_if_eq (tgt := 47) hx hb dX11_canGo_18 rfl (fun c_9 => ?_) (fun c_9 => ?_)
  · have c_9 : r_3.toInt = 0 := xI_eq rfl rfl c_9
    refine ic_0 hx hb dX11_canGo_47 ?_
    exact W.zret (v := 0) hx hb hr (by decide) (fun t ht _ => ⟨⟨0, G_4, rfl, (P_wGo_1_mk ⟨hB_G_4, hF, ⟨by decide, by decide⟩, (by have hq : (0 : Int32).toInt = 0 := rfl; (try dsimp only); omega), ⟨y_1, ey_1, ⟨r_3, G_4, hX_7, (Or.inl ⟨c_9, ⟨rfl, rfl⟩⟩)⟩⟩⟩), wd_t ht hW⟩, hS.F ht⟩) hS.2.2 dX11_canGo_48
  · have c_9 : r_3.toInt ≠ 0 := xI_ne rfl rfl c_9
    refine lv_aload_n hx hb dX11_canGo_21 rfl (lv_at hl 1 rfl) ?_
    refine S_getR (n := 30) (C := RX11) (T := TX11) (N := 13) hx hb hg iX11 hown hK hW kd_0 rfl 8 (lt_b rfl) (hg (Cond.fieldLink RX11 65 "SlabWalk" "earnest" "LSlabWalk$Earnest;") m578) (fun _ h9 => h9) rfl dX11_canGo_22 ?_
    refine S_getR (n := 58) (C := RX1) (T := TX1) (N := 6) hx hb hg iX1 hown hK hW kd_30 rfl 0 (lt_b rfl) (hg (Cond.fieldLink RX11 246 "SlabWalk$Earnest" "now" "[I") m493) (fun _ h9 => h9) rfl dX11_canGo_25 ?_
    refine ic_4 hx hb dX11_canGo_28 ?_
    refine S_iald hx hb hK hW kd_58 (vin (by decide) (by decide)) dX11_canGo_29 (fun y_10 ey_10 => ?_)
    refine ic_1 hx hb dX11_canGo_30 ?_
    refine lv_icmp_ne (tgt := 47) hx hb dX11_canGo_31 rfl (fun c_11 => ?_) (fun c_11 => ?_)
    · have c_11 : y_10.toInt ≠ 1 := xI_ne rfl rfl c_11
      refine ic_0 hx hb dX11_canGo_47 ?_
      exact W.zret (v := 0) hx hb hr (by decide) (fun t ht _ => ⟨⟨0, G_4, rfl, (P_wGo_1_mk ⟨hB_G_4, hF, ⟨by decide, by decide⟩, (by have hq : (0 : Int32).toInt = 0 := rfl; (try dsimp only); omega), ⟨y_1, ey_1, ⟨r_3, G_4, hX_7, (Or.inr ⟨c_9, ⟨y_10, ey_10, (Or.inr ⟨c_11, ⟨rfl, rfl⟩⟩)⟩⟩)⟩⟩⟩), wd_t ht hW⟩, hS.F ht⟩) hS.2.2 dX11_canGo_48
    · have c_11 : y_10.toInt = 1 := xI_eq rfl rfl c_11
      refine lv_iload_n hx hb dX11_canGo_34 rfl (lv_at hl 2 rfl) ?_
      refine lv_aload_n hx hb dX11_canGo_35 rfl (lv_at hl 1 rfl) ?_
      refine S_getV (n := 1) (C := RX11) (T := TX11) (N := 13) hx hb hg iX11 hown hK hW kd_0 rfl 0 (lt_b rfl) (hg (Cond.fieldLink RX11 10 "SlabWalk" "paving" "LSlabWalk$Paving;") m570) (fun _ h9 => h9) rfl (((hq_5.r9 0 0 rfl rfl)).trans (hv_0_0)) dX11_canGo_36 ?_
      refine S_getR (n := 13) (C := RX6) (T := TX6) (N := 17) hx hb hg iX6 hown hK hW kd_1 rfl 3 (lt_b rfl) (hg (Cond.fieldLink RX11 331 "SlabWalk$Paving" "least" "[I") m169) (fun _ h9 => h9) rfl dX11_canGo_39 ?_
      refine lv_iload_n hx hb dX11_canGo_42 rfl (lv_at hl 0 rfl) ?_
      refine S_iald hx hb hK hW kd_13 (vin ((by first | exact ok_5 f_8.1 f_8.2 hp_6 c_9 | omega)) ((by first | exact ok_6 f_8.1 f_8.2 hp_6 c_9 | omega))) dX11_canGo_43 (fun y_12 ey_12 => ?_)
      have ty_12 : 0 ≤ y_12.toInt ∧ y_12.toInt ≤ 60 := bv_13 hB_G_4 ey_12
      refine lv_icmp_ge (tgt := 49) hx hb dX11_canGo_44 rfl (fun c_13 => ?_) (fun c_13 => ?_)
      · have c_13 : y_12.toInt ≤ p0.toInt := xI_le rfl rfl c_13
        refine lv_aload_n hx hb dX11_canGo_49 rfl (lv_at hl 1 rfl) ?_
        refine S_getR (n := 30) (C := RX11) (T := TX11) (N := 13) hx hb hg iX11 hown hK hW kd_0 rfl 8 (lt_b rfl) (hg (Cond.fieldLink RX11 65 "SlabWalk" "earnest" "LSlabWalk$Earnest;") m578) (fun _ h9 => h9) rfl dX11_canGo_50 ?_
        refine S_getR (n := 58) (C := RX1) (T := TX1) (N := 6) hx hb hg iX1 hown hK hW kd_30 rfl 0 (lt_b rfl) (hg (Cond.fieldLink RX11 246 "SlabWalk$Earnest" "now" "[I") m493) (fun _ h9 => h9) rfl dX11_canGo_53 ?_
        refine ic_5 hx hb dX11_canGo_56 ?_
        refine S_iald hx hb hK hW kd_58 (vin (by decide) (by decide)) dX11_canGo_57 (fun y_14 ey_14 => ?_)
        refine ic_1 hx hb dX11_canGo_58 ?_
        refine W.cut (σ := Int32) (pcJ := 67) (J := fun y H locs ls => ∃ (G_19 : GS), (0 ≤ y.toInt ∧ y.toInt ≤ 1) ∧ Jn_k_wGo_1_1 y_14 G_4 y G_19 ∧ Wd D k A a G_19 H ∧ Bd G_19 ∧ Fr [] [] G G_19 ∧ Fr [] [] G_4 G_19 ∧ va_S A s.heap H locs ∧ lv_has ls 4 [(2, .int y_1), (0, .ref (a 0)), (1, .int p0)]) (stJ := fun y => [.int y]) ?_ (fun hJ_20 => ?_)
        · intro y H locs ls hI
          obtain ⟨w_18, hy⟩ : ∃ q, q = y := ⟨_, rfl⟩
          subst hy
          obtain ⟨G_19, f_23, hX_22, hW, hB_G_19, hF, hq_21, hS, hl⟩ := hI
          refine lv_istore_n (lv' := [(3, .int w_18), (2, .int y_1), (0, .ref (a 0)), (1, .int p0)]) hx hb dX11_canGo_67 rfl hl (lt_b rfl) rfl (fun ls hl => ?_)
          refine lv_iload_n hx hb dX11_canGo_68 rfl (lv_at hl 3 rfl) ?_
          refine lv_iload_n hx hb dX11_canGo_69 rfl (lv_at hl 0 rfl) ?_
          refine lv_if_eq (tgt := 85) hx hb dX11_canGo_70 rfl (fun c_24 => ?_) (fun c_24 => ?_)
          · have c_24 : w_18.toInt = 0 := xI_eq rfl rfl c_24
            refine lv_aload_n hx hb dX11_canGo_85 rfl (lv_at hl 2 rfl) ?_
            refine S_getV (n := 1) (C := RX11) (T := TX11) (N := 13) hx hb hg iX11 hown hK hW kd_0 rfl 0 (lt_b rfl) (hg (Cond.fieldLink RX11 10 "SlabWalk" "paving" "LSlabWalk$Paving;") m570) (fun _ h9 => h9) rfl ((((hq_21.r9 0 0 rfl rfl).trans (hq_5.r9 0 0 rfl rfl))).trans (hv_0_0)) dX11_canGo_86 ?_
            refine S_getR (n := 15) (C := RX6) (T := TX6) (N := 17) hx hb hg iX6 hown hK hW kd_1 rfl 5 (lt_b rfl) (hg (Cond.fieldLink RX11 333 "SlabWalk$Paving" "leap" "[I") m177) (fun _ h9 => h9) rfl dX11_canGo_89 ?_
            refine lv_iload_n hx hb dX11_canGo_92 rfl (lv_at hl 1 rfl) ?_
            refine S_iald hx hb hK hW kd_15 (vin ((by first | exact ok_5 f_8.1 f_8.2 hp_6 c_9 | omega)) ((by first | exact ok_6 f_8.1 f_8.2 hp_6 c_9 | omega))) dX11_canGo_93 (fun y_25 ey_25 => ?_)
            have ty_25 : 0 ≤ y_25.toInt ∧ y_25.toInt ≤ 99 := bv_15 hB_G_19 ey_25
            refine lv_icmp_gt (tgt := 101) hx hb dX11_canGo_94 rfl (fun c_26 => ?_) (fun c_26 => ?_)
            · have c_26 : y_25.toInt < p0.toInt := xI_lt rfl rfl c_26
              refine ic_0 hx hb dX11_canGo_101 ?_
              exact W.zret (v := 0) hx hb hr (by decide) (fun t ht _ => ⟨⟨0, G_19, rfl, (P_wGo_1_mk ⟨hB_G_19, hF, ⟨by decide, by decide⟩, (by have hq : (0 : Int32).toInt = 0 := rfl; (try dsimp only); omega), ⟨y_1, ey_1, ⟨r_3, G_4, hX_7, (Or.inr ⟨c_9, ⟨y_10, ey_10, (Or.inl ⟨c_11, ⟨y_12, ey_12, (Or.inl ⟨c_13, ⟨y_14, ey_14, ⟨w_18, G_19, hX_22, f_23, hB_G_19, hq_21, (Or.inl ⟨c_24, ⟨y_25, ey_25, (Or.inl ⟨c_26, ⟨rfl, rfl⟩⟩)⟩⟩)⟩⟩⟩)⟩⟩)⟩⟩)⟩⟩⟩), wd_t ht hW⟩, hS.F ht⟩) hS.2.2 dX11_canGo_102
            · have c_26 : p0.toInt ≤ y_25.toInt := xI_nlt rfl rfl c_26
              refine ic_1 hx hb dX11_canGo_97 ?_
              refine lv_goto (tgt := 102) hx hb dX11_canGo_98 rfl ?_
              exact W.zret (v := 1) hx hb hr (by decide) (fun t ht _ => ⟨⟨1, G_19, rfl, (P_wGo_1_mk ⟨hB_G_19, hF, ⟨by decide, by decide⟩, (by have hq : (1 : Int32).toInt = 1 := rfl; (try dsimp only); omega), ⟨y_1, ey_1, ⟨r_3, G_4, hX_7, (Or.inr ⟨c_9, ⟨y_10, ey_10, (Or.inl ⟨c_11, ⟨y_12, ey_12, (Or.inl ⟨c_13, ⟨y_14, ey_14, ⟨w_18, G_19, hX_22, f_23, hB_G_19, hq_21, (Or.inl ⟨c_24, ⟨y_25, ey_25, (Or.inr ⟨c_26, ⟨rfl, rfl⟩⟩)⟩⟩)⟩⟩⟩)⟩⟩)⟩⟩)⟩⟩⟩), wd_t ht hW⟩, hS.F ht⟩) hS.2.2 dX11_canGo_102
          · have c_24 : w_18.toInt ≠ 0 := xI_ne rfl rfl c_24
            refine lv_aload_n hx hb dX11_canGo_73 rfl (lv_at hl 2 rfl) ?_
            refine S_getV (n := 1) (C := RX11) (T := TX11) (N := 13) hx hb hg iX11 hown hK hW kd_0 rfl 0 (lt_b rfl) (hg (Cond.fieldLink RX11 10 "SlabWalk" "paving" "LSlabWalk$Paving;") m570) (fun _ h9 => h9) rfl ((((hq_21.r9 0 0 rfl rfl).trans (hq_5.r9 0 0 rfl rfl))).trans (hv_0_0)) dX11_canGo_74 ?_
            refine S_getR (n := 14) (C := RX6) (T := TX6) (N := 17) hx hb hg iX6 hown hK hW kd_1 rfl 4 (lt_b rfl) (hg (Cond.fieldLink RX11 237 "SlabWalk$Paving" "most" "[I") m173) (fun _ h9 => h9) rfl dX11_canGo_77 ?_
            refine lv_iload_n hx hb dX11_canGo_80 rfl (lv_at hl 1 rfl) ?_
            refine S_iald hx hb hK hW kd_14 (vin ((by first | exact ok_5 f_8.1 f_8.2 hp_6 c_9 | omega)) ((by first | exact ok_6 f_8.1 f_8.2 hp_6 c_9 | omega))) dX11_canGo_81 (fun y_27 ey_27 => ?_)
            have ty_27 : 0 ≤ y_27.toInt ∧ y_27.toInt ≤ 60 := bv_14 hB_G_19 ey_27
            refine lv_goto (tgt := 94) hx hb dX11_canGo_82 rfl ?_
            refine lv_icmp_gt (tgt := 101) hx hb dX11_canGo_94 rfl (fun c_28 => ?_) (fun c_28 => ?_)
            · have c_28 : y_27.toInt < p0.toInt := xI_lt rfl rfl c_28
              refine ic_0 hx hb dX11_canGo_101 ?_
              exact W.zret (v := 0) hx hb hr (by decide) (fun t ht _ => ⟨⟨0, G_19, rfl, (P_wGo_1_mk ⟨hB_G_19, hF, ⟨by decide, by decide⟩, (by have hq : (0 : Int32).toInt = 0 := rfl; (try dsimp only); omega), ⟨y_1, ey_1, ⟨r_3, G_4, hX_7, (Or.inr ⟨c_9, ⟨y_10, ey_10, (Or.inl ⟨c_11, ⟨y_12, ey_12, (Or.inl ⟨c_13, ⟨y_14, ey_14, ⟨w_18, G_19, hX_22, f_23, hB_G_19, hq_21, (Or.inr ⟨c_24, ⟨y_27, ey_27, (Or.inl ⟨c_28, ⟨rfl, rfl⟩⟩)⟩⟩)⟩⟩⟩)⟩⟩)⟩⟩)⟩⟩⟩), wd_t ht hW⟩, hS.F ht⟩) hS.2.2 dX11_canGo_102
            · have c_28 : p0.toInt ≤ y_27.toInt := xI_nlt rfl rfl c_28
              refine ic_1 hx hb dX11_canGo_97 ?_
              refine lv_goto (tgt := 102) hx hb dX11_canGo_98 rfl ?_
              exact W.zret (v := 1) hx hb hr (by decide) (fun t ht _ => ⟨⟨1, G_19, rfl, (P_wGo_1_mk ⟨hB_G_19, hF, ⟨by decide, by decide⟩, (by have hq : (1 : Int32).toInt = 1 := rfl; (try dsimp only); omega), ⟨y_1, ey_1, ⟨r_3, G_4, hX_7, (Or.inr ⟨c_9, ⟨y_10, ey_10, (Or.inl ⟨c_11, ⟨y_12, ey_12, (Or.inl ⟨c_13, ⟨y_14, ey_14, ⟨w_18, G_19, hX_22, f_23, hB_G_19, hq_21, (Or.inr ⟨c_24, ⟨y_27, ey_27, (Or.inr ⟨c_28, ⟨rfl, rfl⟩⟩)⟩⟩)⟩⟩⟩)⟩⟩)⟩⟩)⟩⟩⟩), wd_t ht hW⟩, hS.F ht⟩) hS.2.2 dX11_canGo_102
        refine lv_icmp_ne (tgt := 66) hx hb dX11_canGo_59 rfl (fun c_29 => ?_) (fun c_29 => ?_)
        · have c_29 : y_14.toInt ≠ 1 := xI_ne rfl rfl c_29
          refine ic_0 hx hb dX11_canGo_66 ?_
          have qc_30 : (0 : Int32).toInt = 0 := rfl
          exact hJ_20 0 _ _ _ ⟨G_4, ⟨(by decide), (by decide)⟩, (Jn_k_wGo_1_1_mk (Or.inr ⟨c_29, ⟨rfl, rfl⟩⟩)), hW, hB_G_4, hF, (Fr.rf (rs := []) (fs := [])), hS, lv_sub hl [0, 1, 2] rfl⟩
        · have c_29 : y_14.toInt = 1 := xI_eq rfl rfl c_29
          refine ic_1 hx hb dX11_canGo_62 ?_
          refine lv_goto (tgt := 67) hx hb dX11_canGo_63 rfl ?_
          have qc_31 : (1 : Int32).toInt = 1 := rfl
          exact hJ_20 1 _ _ _ ⟨G_4, ⟨(by decide), (by decide)⟩, (Jn_k_wGo_1_1_mk (Or.inl ⟨c_29, ⟨rfl, rfl⟩⟩)), hW, hB_G_4, hF, (Fr.rf (rs := []) (fs := [])), hS, lv_sub hl [0, 1, 2] rfl⟩
      · have c_13 : p0.toInt < y_12.toInt := xI_nle rfl rfl c_13
        refine ic_0 hx hb dX11_canGo_47 ?_
        exact W.zret (v := 0) hx hb hr (by decide) (fun t ht _ => ⟨⟨0, G_4, rfl, (P_wGo_1_mk ⟨hB_G_4, hF, ⟨by decide, by decide⟩, (by have hq : (0 : Int32).toInt = 0 := rfl; (try dsimp only); omega), ⟨y_1, ey_1, ⟨r_3, G_4, hX_7, (Or.inr ⟨c_9, ⟨y_10, ey_10, (Or.inl ⟨c_11, ⟨y_12, ey_12, (Or.inr ⟨c_13, ⟨rfl, rfl⟩⟩)⟩⟩)⟩⟩)⟩⟩⟩), wd_t ht hW⟩, hS.F ht⟩) hS.2.2 dX11_canGo_48

set_option maxHeartbeats 4000000 in
set_option maxRecDepth 100000 in
theorem k_wLawful_1 (l : Launch) (D : va_G) (k : KT) (A : Nat → Prop) (a : Nat → Nat) (z : SK) (G : GS)  (hv_0_0 : G.2.2 0 0 = 1) (hv_0_1 : G.2.2 0 1 = 2) (hv_6_4 : G.2.2 6 4 = 1) : Met l yX11_isLawfulNow (WS yX11_isLawfulNow cX11_isLawfulNow 3 (some .boolean)) ({ frames := 4, cells := 0, slots := 0, locals := 96 }) (va_Pc [.ref (a 0)] (cW D k A a z G)) (va_Qi (fun (r : Int32) (G1 : GS) => P_wLawful_1 G r G1) (fun (G1 : GS) t => Wd D k A a G1 t.heap) A) 0 0 A := by
  refine Met.ofW (cc := cX11_isLawfulNow) (maxL := 3) (ret := (some .boolean)) (by decide) rfl ?_
  intro p e s m args below meth c s₁ B hml hv
  obtain ⟨rfl, hW, hB_G, hK, hZ⟩ := hv
  have hx := B.exec
  have hb := B.bytes
  have hr := B.returns
  have hts := atoms_spec (ws := WS yX11_isLawfulNow cX11_isLawfulNow 3 (some .boolean)) B.pre
  have hgd : ∀ w ∈ gd, w ∈ WS yX11_isLawfulNow cX11_isLawfulNow 3 (some .boolean) := fun w h => List.mem_cons_of_mem _ h
  have hg : ∀ w ∈ gd, w.before _ s = true := fun w h => hts w (hgd w h)
  have hown : s.vm.findClass RX11 = some m.cls := findClass_of_methodNamed B.named
  have hS : va_S A s.heap s.heap [] := va_S.rf
  have hF : Fr [37, 38, 39] [(6, 3)] G G := Fr.rf
  have hl := lv_entry ([.ref (a 0)]) (n := 3) (Nat.le_of_ble_eq_true rfl)
  rw [lg_entry_eq]
  generalize (lg_sl ([.ref (a 0)]) ++ List.replicate (3 - (lg_sl ([.ref (a 0)])).length) Slot.unset).toArray = ls at hl ⊢
  have hl : lv_has ls 3 [(0, .ref (a 0))] := hl
  refine lv_aload_n hx hb dX11_isLawfulNow_0 rfl (lv_at hl 0 rfl) ?_
  refine S_getR (n := 30) (C := RX11) (T := TX11) (N := 13) hx hb hg iX11 hown hK hW kd_0 rfl 8 (lt_b rfl) (hg (Cond.fieldLink RX11 65 "SlabWalk" "earnest" "LSlabWalk$Earnest;") m578) (fun _ h9 => h9) rfl dX11_isLawfulNow_1 ?_
  refine S_getR (n := 58) (C := RX1) (T := TX1) (N := 6) hx hb hg iX1 hown hK hW kd_30 rfl 0 (lt_b rfl) (hg (Cond.fieldLink RX11 246 "SlabWalk$Earnest" "now" "[I") m493) (fun _ h9 => h9) rfl dX11_isLawfulNow_4 ?_
  refine lv_astore_n (lv' := [(1, .ref (a 58)), (0, .ref (a 0))]) hx hb dX11_isLawfulNow_7 rfl hl (lt_b rfl) rfl (fun ls hl => ?_)
  refine lv_aload_n hx hb dX11_isLawfulNow_8 rfl (lv_at hl 0 rfl) ?_
  refine ic_1 hx hb dX11_isLawfulNow_9 ?_
  refine S_iald hx hb hK hW kd_58 (vin (by decide) (by decide)) dX11_isLawfulNow_10 (fun y_1 ey_1 => ?_)
  refine lv_istore_n (lv' := [(2, .int y_1), (1, .ref (a 58)), (0, .ref (a 0))]) hx hb dX11_isLawfulNow_11 rfl hl (lt_b rfl) rfl (fun ls hl => ?_)
  refine lv_aload_n hx hb dX11_isLawfulNow_12 rfl (lv_at hl 2 rfl) ?_
  refine S_getR (n := 6) (C := RX11) (T := TX11) (N := 13) hx hb hg iX11 hown hK hW kd_0 rfl 4 (lt_b rfl) (hg (Cond.fieldLink RX11 37 "SlabWalk" "lines" "LSlabWalk$Lines;") m574) (fun _ h9 => h9) rfl dX11_isLawfulNow_13 ?_
  refine lv_iload_n hx hb dX11_isLawfulNow_16 rfl (lv_at hl 0 rfl) ?_
  refine lv_aload_n hx hb dX11_isLawfulNow_17 rfl (lv_at hl 2 rfl) ?_
  refine S_calli (va_runV (As := []) (rest := [.int y_1, .ref (a 6)]) ⟨hx, hb, hml, hown, hts⟩ (k_wToday l D k A a z G  ) (cwV 0 hts (gd_V hgd m911 m913 m27 m117 m914) rfl rfl rfl hd_X11_today ⟨Nat.le_of_ble_eq_true rfl, Nat.le_of_ble_eq_true rfl⟩) (pre_W hW hB_G hK hZ hS kd_0 rfl) rfl rfl hl.1 rfl (lv_room (Nat.le_of_ble_eq_true rfl)) dX11_isLawfulNow_18 ⟨Nat.le_of_ble_eq_true rfl, Nat.le_of_ble_eq_true rfl⟩) hS (fun r_2 G_3 H locs hpo hW hS => ?_)
  have hX_6 : P_wToday G r_2 G_3 := hpo
  obtain ⟨hB_G_3, hq_4, -⟩ := hpo
  have hF := hF.call9 hq_4 rfl rfl
  refine S_callv (va_runV (As := [.int y_1, .int r_2]) (rest := []) ⟨hx, hb, hml, hown, hts⟩ (k_lFind_1 l D k A a z G_3 y_1 r_2 (((hq_4.r9 6 4 rfl rfl)).trans (hv_6_4))) (cwV 2 hts (gd_V hgd m915 m916 m917 m122 m918) rfl rfl rfl hd_X3_findFor ⟨Nat.le_of_ble_eq_true rfl, Nat.le_of_ble_eq_true rfl⟩) (pre_W hW hB_G_3 hK hZ hS kd_6 rfl) rfl rfl hl.1 rfl (lv_room (Nat.le_of_ble_eq_true rfl)) dX11_isLawfulNow_21 ⟨Nat.le_of_ble_eq_true rfl, Nat.le_of_ble_eq_true rfl⟩) hS (fun G_8 H locs hpo hW hS => ?_)
  have hX_11 : P_lFind_1 y_1 r_2 G_3 G_8 := hpo
  obtain ⟨hB_G_8, hq_9, -⟩ := hpo
  have hF := hF.call9 hq_9 rfl rfl
  refine lv_aload_n hx hb dX11_isLawfulNow_24 rfl (lv_at hl 1 rfl) ?_
  refine lv_bipush (v := 9) hx hb dX11_isLawfulNow_25 (by decide) ?_
  refine S_iald hx hb hK hW kd_58 (vin (by decide) (by decide)) dX11_isLawfulNow_27 (fun y_12 ey_12 => ?_)
  refine ic_1 hx hb dX11_isLawfulNow_28 ?_
  refine lv_icmp_eq (tgt := 53) hx hb dX11_isLawfulNow_29 rfl (fun c_13 => ?_) (fun c_13 => ?_)
  · have c_13 : y_12.toInt = 1 := xI_eq rfl rfl c_13
    refine ic_1 hx hb dX11_isLawfulNow_53 ?_
    refine lv_goto (tgt := 58) hx hb dX11_isLawfulNow_54 rfl ?_
    exact W.zret (v := 1) hx hb hr (by decide) (fun t ht _ => ⟨⟨1, G_8, rfl, (P_wLawful_1_mk ⟨hB_G_8, hF, ⟨by decide, by decide⟩, ⟨y_1, ey_1, ⟨r_2, G_3, hX_6, ⟨G_8, hX_11, ⟨y_12, ey_12, (Or.inl ⟨c_13, ⟨rfl, rfl⟩⟩)⟩⟩⟩⟩⟩), wd_t ht hW⟩, hS.F ht⟩) hS.2.2 dX11_isLawfulNow_58
  · have c_13 : y_12.toInt ≠ 1 := xI_ne rfl rfl c_13
    refine lv_aload_n hx hb dX11_isLawfulNow_32 rfl (lv_at hl 2 rfl) ?_
    refine S_getR (n := 6) (C := RX11) (T := TX11) (N := 13) hx hb hg iX11 hown hK hW kd_0 rfl 4 (lt_b rfl) (hg (Cond.fieldLink RX11 37 "SlabWalk" "lines" "LSlabWalk$Lines;") m574) (fun _ h9 => h9) rfl dX11_isLawfulNow_33 ?_
    refine lv_aload_n hx hb dX11_isLawfulNow_36 rfl (lv_at hl 1 rfl) ?_
    refine ic_0 hx hb dX11_isLawfulNow_37 ?_
    refine S_iald hx hb hK hW kd_58 (vin (by decide) (by decide)) dX11_isLawfulNow_38 (fun y_14 ey_14 => ?_)
    refine lv_iload_n hx hb dX11_isLawfulNow_39 rfl (lv_at hl 0 rfl) ?_
    refine lv_aload_n hx hb dX11_isLawfulNow_40 rfl (lv_at hl 1 rfl) ?_
    refine lv_bipush (v := 8) hx hb dX11_isLawfulNow_41 (by decide) ?_
    refine S_iald hx hb hK hW kd_58 (vin (by decide) (by decide)) dX11_isLawfulNow_43 (fun y_15 ey_15 => ?_)
    refine lv_aload_n hx hb dX11_isLawfulNow_44 rfl (lv_at hl 1 rfl) ?_
    refine ic_2 hx hb dX11_isLawfulNow_45 ?_
    refine S_iald hx hb hK hW kd_58 (vin (by decide) (by decide)) dX11_isLawfulNow_46 (fun y_16 ey_16 => ?_)
    refine S_calli (va_runV (As := [.int y_14, .int y_1, .int y_15, .int y_16]) (rest := []) ⟨hx, hb, hml, hown, hts⟩ (k_lIsLawful_1 l D k A a z G_8 y_14 y_1 y_15 y_16 ((((hq_9.r9 6 4 rfl rfl).trans (hq_4.r9 6 4 rfl rfl))).trans (hv_6_4))) (cwV 4 hts (gd_V hgd m961 m962 m963 m122 m964) rfl rfl rfl hd_X3_isLawful ⟨Nat.le_of_ble_eq_true rfl, Nat.le_of_ble_eq_true rfl⟩) (pre_W hW hB_G_8 hK hZ hS kd_6 rfl) rfl rfl hl.1 rfl (lv_room (Nat.le_of_ble_eq_true rfl)) dX11_isLawfulNow_47 ⟨Nat.le_of_ble_eq_true rfl, Nat.le_of_ble_eq_true rfl⟩) hS (fun r_17 G_18 H locs hpo hW hS => ?_)
    have hX_21 : P_lIsLawful_1 y_14 y_1 y_15 y_16 G_8 r_17 G_18 := hpo
    obtain ⟨hB_G_18, hq_19, f_22, -⟩ := hpo
    have hF := hF.call9 hq_19 rfl rfl
    refine lv_if_eq (tgt := 57) hx hb dX11_isLawfulNow_50 rfl (fun c_23 => ?_) (fun c_23 => ?_)
    · have c_23 : r_17.toInt = 0 := xI_eq rfl rfl c_23
      refine ic_0 hx hb dX11_isLawfulNow_57 ?_
      exact W.zret (v := 0) hx hb hr (by decide) (fun t ht _ => ⟨⟨0, G_18, rfl, (P_wLawful_1_mk ⟨hB_G_18, hF, ⟨by decide, by decide⟩, ⟨y_1, ey_1, ⟨r_2, G_3, hX_6, ⟨G_8, hX_11, ⟨y_12, ey_12, (Or.inr ⟨c_13, ⟨y_14, ey_14, ⟨y_15, ey_15, ⟨y_16, ey_16, ⟨r_17, G_18, hX_21, (Or.inl ⟨c_23, ⟨rfl, rfl⟩⟩)⟩⟩⟩⟩⟩)⟩⟩⟩⟩⟩), wd_t ht hW⟩, hS.F ht⟩) hS.2.2 dX11_isLawfulNow_58
    · have c_23 : r_17.toInt ≠ 0 := xI_ne rfl rfl c_23
      refine ic_1 hx hb dX11_isLawfulNow_53 ?_
      refine lv_goto (tgt := 58) hx hb dX11_isLawfulNow_54 rfl ?_
      exact W.zret (v := 1) hx hb hr (by decide) (fun t ht _ => ⟨⟨1, G_18, rfl, (P_wLawful_1_mk ⟨hB_G_18, hF, ⟨by decide, by decide⟩, ⟨y_1, ey_1, ⟨r_2, G_3, hX_6, ⟨G_8, hX_11, ⟨y_12, ey_12, (Or.inr ⟨c_13, ⟨y_14, ey_14, ⟨y_15, ey_15, ⟨y_16, ey_16, ⟨r_17, G_18, hX_21, (Or.inr ⟨c_23, ⟨rfl, rfl⟩⟩)⟩⟩⟩⟩⟩)⟩⟩⟩⟩⟩), wd_t ht hW⟩, hS.F ht⟩) hS.2.2 dX11_isLawfulNow_58

set_option maxHeartbeats 4000000 in
set_option maxRecDepth 100000 in
theorem k_wPrep_1 (l : Launch) (D : va_G) (k : KT) (A : Nat → Prop) (a : Nat → Nat) (z : SK) (G : GS) (p0 : Int32) (p1 : Int32) (p2 : Int32) (ha_p0 : 0 ≤ p0.toInt ∧ p0.toInt ≤ 3) (ha_p1 : 0 ≤ p1.toInt ∧ p1.toInt ≤ 2) (hv_0_0 : G.2.2 0 0 = 1) (hv_0_1 : G.2.2 0 1 = 2) (hv_6_4 : G.2.2 6 4 = 1) (hw : p0.toInt < (G.1 1 10).toInt) : Met l yX11_prepare (WS yX11_prepare cX11_prepare 4 none) ({ frames := 4, cells := 0, slots := 0, locals := 96 }) (va_Pc [.ref (a 0), .int p0, .int p1, .int p2] (cW D k A a z G)) (va_Qv (fun (G1 : GS) => P_wPrep_1 p0 p1 p2 G G1) (fun (G1 : GS) t => Wd D k A a G1 t.heap) A) 0 0 A := by
  refine Met.ofW (cc := cX11_prepare) (maxL := 4) (ret := none) (by decide) rfl ?_
  intro p e s m args below meth c s₁ B hml hv
  obtain ⟨rfl, hW, hB_G, hK, hZ⟩ := hv
  have hx := B.exec
  have hb := B.bytes
  have hr := B.returns
  have hts := atoms_spec (ws := WS yX11_prepare cX11_prepare 4 none) B.pre
  have hgd : ∀ w ∈ gd, w ∈ WS yX11_prepare cX11_prepare 4 none := fun w h => List.mem_cons_of_mem _ h
  have hg : ∀ w ∈ gd, w.before _ s = true := fun w h => hts w (hgd w h)
  have hown : s.vm.findClass RX11 = some m.cls := findClass_of_methodNamed B.named
  have hS : va_S A s.heap s.heap [] := va_S.rf
  have hF : Fr [37, 38, 39, 40] [(6, 3), (7, 1), (7, 2), (7, 3), (7, 4), (7, 5), (7, 6), (7, 7)] G G := Fr.rf
  have hl := lv_entry ([.ref (a 0), .int p0, .int p1, .int p2]) (n := 4) (Nat.le_of_ble_eq_true rfl)
  rw [lg_entry_eq]
  generalize (lg_sl ([.ref (a 0), .int p0, .int p1, .int p2]) ++ List.replicate (4 - (lg_sl ([.ref (a 0), .int p0, .int p1, .int p2])).length) Slot.unset).toArray = ls at hl ⊢
  have hl : lv_has ls 4 [(0, .ref (a 0)), (1, .int p0), (2, .int p1), (3, .int p2)] := hl
  refine lv_aload_n hx hb dX11_prepare_0 rfl (lv_at hl 0 rfl) ?_
  refine S_getR (n := 6) (C := RX11) (T := TX11) (N := 13) hx hb hg iX11 hown hK hW kd_0 rfl 4 (lt_b rfl) (hg (Cond.fieldLink RX11 37 "SlabWalk" "lines" "LSlabWalk$Lines;") m574) (fun _ h9 => h9) rfl dX11_prepare_1 ?_
  refine lv_iload_n hx hb dX11_prepare_4 rfl (lv_at hl 2 rfl) ?_
  refine lv_aload_n hx hb dX11_prepare_5 rfl (lv_at hl 0 rfl) ?_
  refine S_calli (va_runV (As := []) (rest := [.int p1, .ref (a 6)]) ⟨hx, hb, hml, hown, hts⟩ (k_wToday l D k A a z G  ) (cwV 0 hts (gd_V hgd m911 m913 m27 m117 m914) rfl rfl rfl hd_X11_today ⟨Nat.le_of_ble_eq_true rfl, Nat.le_of_ble_eq_true rfl⟩) (pre_W hW hB_G hK hZ hS kd_0 rfl) rfl rfl hl.1 rfl (lv_room (Nat.le_of_ble_eq_true rfl)) dX11_prepare_6 ⟨Nat.le_of_ble_eq_true rfl, Nat.le_of_ble_eq_true rfl⟩) hS (fun r_1 G_2 H locs hpo hW hS => ?_)
  have hX_5 : P_wToday G r_1 G_2 := hpo
  obtain ⟨hB_G_2, hq_3, -⟩ := hpo
  have hF := hF.call9 hq_3 rfl rfl
  refine S_callv (va_runV (As := [.int p1, .int r_1]) (rest := []) ⟨hx, hb, hml, hown, hts⟩ (k_lFind_1 l D k A a z G_2 p1 r_1 (((hq_3.r9 6 4 rfl rfl)).trans (hv_6_4))) (cwV 2 hts (gd_V hgd m915 m916 m917 m122 m918) rfl rfl rfl hd_X3_findFor ⟨Nat.le_of_ble_eq_true rfl, Nat.le_of_ble_eq_true rfl⟩) (pre_W hW hB_G_2 hK hZ hS kd_6 rfl) rfl rfl hl.1 rfl (lv_room (Nat.le_of_ble_eq_true rfl)) dX11_prepare_9 ⟨Nat.le_of_ble_eq_true rfl, Nat.le_of_ble_eq_true rfl⟩) hS (fun G_7 H locs hpo hW hS => ?_)
  have hX_10 : P_lFind_1 p1 r_1 G_2 G_7 := hpo
  obtain ⟨hB_G_7, hq_8, -⟩ := hpo
  have hF := hF.call9 hq_8 rfl rfl
  refine lv_aload_n hx hb dX11_prepare_12 rfl (lv_at hl 0 rfl) ?_
  refine S_getR (n := 7) (C := RX11) (T := TX11) (N := 13) hx hb hg iX11 hown hK hW kd_0 rfl 5 (lt_b rfl) (hg (Cond.fieldLink RX11 44 "SlabWalk" "course" "LSlabWalk$Course;") m575) (fun _ h9 => h9) rfl dX11_prepare_13 ?_
  refine lv_aload_n hx hb dX11_prepare_16 rfl (lv_at hl 0 rfl) ?_
  refine S_getV (n := 1) (C := RX11) (T := TX11) (N := 13) hx hb hg iX11 hown hK hW kd_0 rfl 0 (lt_b rfl) (hg (Cond.fieldLink RX11 10 "SlabWalk" "paving" "LSlabWalk$Paving;") m570) (fun _ h9 => h9) rfl ((((hq_8.r9 0 0 rfl rfl).trans (hq_3.r9 0 0 rfl rfl))).trans (hv_0_0)) dX11_prepare_17 ?_
  refine lv_iload_n hx hb dX11_prepare_20 rfl (lv_at hl 1 rfl) ?_
  refine lv_iload_n hx hb dX11_prepare_21 rfl (lv_at hl 2 rfl) ?_
  have b_11 : 0 ≤ (G.1 1 10).toInt ∧ (G.1 1 10).toInt ≤ 4 := bd_1_10 hB_G
  have g_12 : (G_7.1 1 10).toInt = (G.1 1 10).toInt := (congrArg Int32.toInt (show G_7.1 1 10 = (G.1 1 10) from ((hq_8.i9 1 10 rfl rfl).trans (hq_3.i9 1 10 rfl rfl))))
  refine S_callv (va_runV (As := [.ref (a 1), .int p0, .int p1]) (rest := []) ⟨hx, hb, hml, hown, hts⟩ (k_cLook_1 l D k A a z G_7 p0 p1 ⟨(by first | exact ha_p0.1 | omega), (by first | exact ha_p0.2 | omega)⟩ ⟨(by first | exact ha_p1.1 | omega), (by first | exact ha_p1.2 | omega)⟩ ((by first | exact ok_461 hw g_12 | omega))) (cwV 3 hts (gd_V hgd m979 m980 m981 m123 m982) rfl rfl rfl hd_X0_lookAt ⟨Nat.le_of_ble_eq_true rfl, Nat.le_of_ble_eq_true rfl⟩) (pre_W hW hB_G_7 hK hZ hS kd_7 rfl) rfl rfl hl.1 rfl (lv_room (Nat.le_of_ble_eq_true rfl)) dX11_prepare_22 ⟨Nat.le_of_ble_eq_true rfl, Nat.le_of_ble_eq_true rfl⟩) hS (fun G_14 H locs hpo hW hS => ?_)
  have hX_17 : P_cLook_1 p0 p1 G_7 G_14 := hpo
  obtain ⟨hB_G_14, hq_15, hp_16, -⟩ := hpo
  have hF := hF.call9 hq_15 rfl rfl
  refine lv_aload_n hx hb dX11_prepare_25 rfl (lv_at hl 0 rfl) ?_
  refine S_getR (n := 7) (C := RX11) (T := TX11) (N := 13) hx hb hg iX11 hown hK hW kd_0 rfl 5 (lt_b rfl) (hg (Cond.fieldLink RX11 44 "SlabWalk" "course" "LSlabWalk$Course;") m575) (fun _ h9 => h9) rfl dX11_prepare_26 ?_
  refine lv_aload_n hx hb dX11_prepare_29 rfl (lv_at hl 0 rfl) ?_
  refine S_getR (n := 6) (C := RX11) (T := TX11) (N := 13) hx hb hg iX11 hown hK hW kd_0 rfl 4 (lt_b rfl) (hg (Cond.fieldLink RX11 37 "SlabWalk" "lines" "LSlabWalk$Lines;") m574) (fun _ h9 => h9) rfl dX11_prepare_30 ?_
  refine lv_iload_n hx hb dX11_prepare_33 rfl (lv_at hl 2 rfl) ?_
  refine lv_iload_n hx hb dX11_prepare_34 rfl (lv_at hl 3 rfl) ?_
  refine S_callv (va_runV (As := [.ref (a 6), .int p1, .int p2]) (rest := []) ⟨hx, hb, hml, hown, hts⟩ (k_cFind_1 l D k A a z G_14 p1 p2 ((((hq_15.r9 6 4 rfl rfl).trans ((hq_8.r9 6 4 rfl rfl).trans (hq_3.r9 6 4 rfl rfl)))).trans (hv_6_4))) (cwV 3 hts (gd_V hgd m984 m985 m986 m123 m987) rfl rfl rfl hd_X0_findLawful ⟨Nat.le_of_ble_eq_true rfl, Nat.le_of_ble_eq_true rfl⟩) (pre_W hW hB_G_14 hK hZ hS kd_7 rfl) rfl rfl hl.1 rfl (lv_room (Nat.le_of_ble_eq_true rfl)) dX11_prepare_35 ⟨Nat.le_of_ble_eq_true rfl, Nat.le_of_ble_eq_true rfl⟩) hS (fun G_19 H locs hpo hW hS => ?_)
  have hX_22 : P_cFind_1 p1 p2 G_14 G_19 := hpo
  obtain ⟨hB_G_19, hq_20, -⟩ := hpo
  have hF := hF.call9 hq_20 rfl rfl
  have b_23 : 0 ≤ (G_14.1 7 3).toInt ∧ (G_14.1 7 3).toInt ≤ 60 := bd_7_3 hB_G_14
  have g_24 : (G_19.1 7 3).toInt = (G_14.1 7 3).toInt := (congrArg Int32.toInt (show G_19.1 7 3 = (G_14.1 7 3) from (hq_20.i9 7 3 rfl rfl)))
  have b_25 : 0 ≤ (G_14.1 7 4).toInt ∧ (G_14.1 7 4).toInt ≤ 60 := bd_7_4 hB_G_14
  have g_26 : (G_19.1 7 4).toInt = (G_14.1 7 4).toInt := (congrArg Int32.toInt (show G_19.1 7 4 = (G_14.1 7 4) from (hq_20.i9 7 4 rfl rfl)))
  have b_27 : (-1) ≤ (G_14.1 7 6).toInt ∧ (G_14.1 7 6).toInt ≤ 400 := bd_7_6 hB_G_14
  have g_28 : (G_19.1 7 6).toInt = (G_14.1 7 6).toInt := (congrArg Int32.toInt (show G_19.1 7 6 = (G_14.1 7 6) from (hq_20.i9 7 6 rfl rfl)))
  have b_29 : 0 ≤ (G_14.1 7 7).toInt ∧ (G_14.1 7 7).toInt ≤ 400 := bd_7_7 hB_G_14
  have g_30 : (G_19.1 7 7).toInt = (G_14.1 7 7).toInt := (congrArg Int32.toInt (show G_19.1 7 7 = (G_14.1 7 7) from (hq_20.i9 7 7 rfl rfl)))
  exact W.vret hx hb hr (fun t ht _ => ⟨⟨G_19, rfl, (P_wPrep_1_mk ⟨hB_G_19, hF, ((by first | exact ⟨(by first | exact ok_235 hp_16.1 g_28 | omega), ⟨(by first | exact ok_185 hp_16.2.1 g_24 g_26 | omega), (by first | exact ok_236 hp_16.2.2 g_26 g_28 g_30 | omega)⟩⟩ | omega)), ⟨r_1, G_2, hX_5, ⟨G_7, hX_10, ⟨G_14, hX_17, ⟨G_19, hX_22, rfl⟩⟩⟩⟩⟩), wd_t ht hW⟩, hS.F ht⟩) hS.2.2 dX11_prepare_38

set_option maxHeartbeats 4000000 in
set_option maxRecDepth 100000 in
theorem k_wLeaves_1 (l : Launch) (D : va_G) (k : KT) (A : Nat → Prop) (a : Nat → Nat) (z : SK) (G : GS) (p0 : Int32) (p1 : Int32) (hv_0_0 : G.2.2 0 0 = 1) (hv_0_1 : G.2.2 0 1 = 2) (hv_6_4 : G.2.2 6 4 = 1) (hci : (G.1 7 6).toInt ≤ 399 ∧ (G.1 7 3).toInt ≤ (G.1 7 4).toInt ∧ ((G.1 7 7).toInt ≤ 0 ∨ (G.1 7 7).toInt + (G.1 7 4).toInt ≤ (G.1 7 6).toInt + 1)) : Met l yX11_leavesWay (WS yX11_leavesWay cX11_leavesWay 3 (some .boolean)) ({ frames := 4, cells := 0, slots := 0, locals := 91 }) (va_Pc [.ref (a 0), .int p0, .int p1] (cW D k A a z G)) (va_Qi (fun (r : Int32) (G1 : GS) => P_wLeaves_1 p0 p1 G r G1) (fun (G1 : GS) t => Wd D k A a G1 t.heap) A) 0 0 A := by
  refine Met.ofW (cc := cX11_leavesWay) (maxL := 3) (ret := (some .boolean)) (by decide) rfl ?_
  intro p e s m args below meth c s₁ B hml hv
  obtain ⟨rfl, hW, hB_G, hK, hZ⟩ := hv
  have hx := B.exec
  have hb := B.bytes
  have hr := B.returns
  have hts := atoms_spec (ws := WS yX11_leavesWay cX11_leavesWay 3 (some .boolean)) B.pre
  have hgd : ∀ w ∈ gd, w ∈ WS yX11_leavesWay cX11_leavesWay 3 (some .boolean) := fun w h => List.mem_cons_of_mem _ h
  have hg : ∀ w ∈ gd, w.before _ s = true := fun w h => hts w (hgd w h)
  have hown : s.vm.findClass RX11 = some m.cls := findClass_of_methodNamed B.named
  have hS : va_S A s.heap s.heap [] := va_S.rf
  have hF : Fr [40, 42, 43] [] G G := Fr.rf
  have hl := lv_entry ([.ref (a 0), .int p0, .int p1]) (n := 3) (Nat.le_of_ble_eq_true rfl)
  rw [lg_entry_eq]
  generalize (lg_sl ([.ref (a 0), .int p0, .int p1]) ++ List.replicate (3 - (lg_sl ([.ref (a 0), .int p0, .int p1])).length) Slot.unset).toArray = ls at hl ⊢
  have hl : lv_has ls 3 [(0, .ref (a 0)), (1, .int p0), (2, .int p1)] := hl
  have b_1 : (-1) ≤ (G.1 7 6).toInt ∧ (G.1 7 6).toInt ≤ 400 := bd_7_6 hB_G
  refine lv_aload_n hx hb dX11_leavesWay_0 rfl (lv_at hl 0 rfl) ?_
  refine S_getR (n := 7) (C := RX11) (T := TX11) (N := 13) hx hb hg iX11 hown hK hW kd_0 rfl 5 (lt_b rfl) (hg (Cond.fieldLink RX11 44 "SlabWalk" "course" "LSlabWalk$Course;") m575) (fun _ h9 => h9) rfl dX11_leavesWay_1 ?_
  refine lv_aload_n hx hb dX11_leavesWay_4 rfl (lv_at hl 0 rfl) ?_
  refine S_getR (n := 6) (C := RX11) (T := TX11) (N := 13) hx hb hg iX11 hown hK hW kd_0 rfl 4 (lt_b rfl) (hg (Cond.fieldLink RX11 37 "SlabWalk" "lines" "LSlabWalk$Lines;") m574) (fun _ h9 => h9) rfl dX11_leavesWay_5 ?_
  refine lv_iload_n hx hb dX11_leavesWay_8 rfl (lv_at hl 1 rfl) ?_
  refine lv_iload_n hx hb dX11_leavesWay_9 rfl (lv_at hl 2 rfl) ?_
  refine S_callv (va_runV (As := [.ref (a 6), .int p0, .int p1]) (rest := []) ⟨hx, hb, hml, hown, hts⟩ (k_cFind_1 l D k A a z G p0 p1 hv_6_4) (cwV 3 hts (gd_V hgd m984 m985 m986 m123 m987) rfl rfl rfl hd_X0_findLawful ⟨Nat.le_of_ble_eq_true rfl, Nat.le_of_ble_eq_true rfl⟩) (pre_W hW hB_G hK hZ hS kd_7 rfl) rfl rfl hl.1 rfl (lv_room (Nat.le_of_ble_eq_true rfl)) dX11_leavesWay_10 ⟨Nat.le_of_ble_eq_true rfl, Nat.le_of_ble_eq_true rfl⟩) hS (fun G_3 H locs hpo hW hS => ?_)
  have hX_6 : P_cFind_1 p0 p1 G G_3 := hpo
  obtain ⟨hB_G_3, hq_4, -⟩ := hpo
  have hF := hF.call9 hq_4 rfl rfl
  refine lv_aload_n hx hb dX11_leavesWay_13 rfl (lv_at hl 0 rfl) ?_
  refine S_getR (n := 8) (C := RX11) (T := TX11) (N := 13) hx hb hg iX11 hown hK hW kd_0 rfl 6 (lt_b rfl) (hg (Cond.fieldLink RX11 51 "SlabWalk" "trails" "LSlabWalk$Trails;") m576) (fun _ h9 => h9) rfl dX11_leavesWay_14 ?_
  refine lv_aload_n hx hb dX11_leavesWay_17 rfl (lv_at hl 0 rfl) ?_
  refine S_getR (n := 7) (C := RX11) (T := TX11) (N := 13) hx hb hg iX11 hown hK hW kd_0 rfl 5 (lt_b rfl) (hg (Cond.fieldLink RX11 44 "SlabWalk" "course" "LSlabWalk$Course;") m575) (fun _ h9 => h9) rfl dX11_leavesWay_18 ?_
  have b_7 : 0 ≤ (G.1 7 3).toInt ∧ (G.1 7 3).toInt ≤ 60 := bd_7_3 hB_G
  have g_8 : (G_3.1 7 3).toInt = (G.1 7 3).toInt := (congrArg Int32.toInt (show G_3.1 7 3 = (G.1 7 3) from (hq_4.i9 7 3 rfl rfl)))
  have b_9 : 0 ≤ (G.1 7 4).toInt ∧ (G.1 7 4).toInt ≤ 60 := bd_7_4 hB_G
  have g_10 : (G_3.1 7 4).toInt = (G.1 7 4).toInt := (congrArg Int32.toInt (show G_3.1 7 4 = (G.1 7 4) from (hq_4.i9 7 4 rfl rfl)))
  have g_11 : (G_3.1 7 6).toInt = (G.1 7 6).toInt := (congrArg Int32.toInt (show G_3.1 7 6 = (G.1 7 6) from ((hq_4.i9 7 6 rfl rfl).trans (rfl))))
  have b_12 : 0 ≤ (G.1 7 7).toInt ∧ (G.1 7 7).toInt ≤ 400 := bd_7_7 hB_G
  have g_13 : (G_3.1 7 7).toInt = (G.1 7 7).toInt := (congrArg Int32.toInt (show G_3.1 7 7 = (G.1 7 7) from (hq_4.i9 7 7 rfl rfl)))
  refine S_calli (va_runV (As := [.ref (a 7)]) (rest := []) ⟨hx, hb, hml, hown, hts⟩ (k_tThere l D k A a z G_3  ((by first | exact ⟨(by first | exact ok_235 hci.1 g_11 | omega), ⟨(by first | exact ok_185 hci.2.1 g_8 g_10 | omega), (by first | exact ok_236 hci.2.2 g_10 g_11 g_13 | omega)⟩⟩ | omega))) (cwV 1 hts (gd_V hgd m1158 m1159 m1160 m124 m1161) rfl rfl rfl hd_X10_isThereWay ⟨Nat.le_of_ble_eq_true rfl, Nat.le_of_ble_eq_true rfl⟩) (pre_W hW hB_G_3 hK hZ hS kd_8 rfl) rfl rfl hl.1 rfl (lv_room (Nat.le_of_ble_eq_true rfl)) dX11_leavesWay_21 ⟨Nat.le_of_ble_eq_true rfl, Nat.le_of_ble_eq_true rfl⟩) hS (fun r_14 G_15 H locs hpo hW hS => ?_)
  have hX_18 : P_tThere G_3 r_14 G_15 := hpo
  obtain ⟨hB_G_15, hq_16, f_19, -⟩ := hpo
  have hF := hF.call9 hq_16 rfl rfl
  have g_20 : (G_15.1 7 3).toInt = (G.1 7 3).toInt := (congrArg Int32.toInt (show G_15.1 7 3 = (G.1 7 3) from ((hq_16.i9 7 3 rfl rfl).trans ((hq_4.i9 7 3 rfl rfl).trans (rfl)))))
  have g_21 : (G_15.1 7 4).toInt = (G.1 7 4).toInt := (congrArg Int32.toInt (show G_15.1 7 4 = (G.1 7 4) from ((hq_16.i9 7 4 rfl rfl).trans ((hq_4.i9 7 4 rfl rfl).trans (rfl)))))
  have g_22 : (G_15.1 7 6).toInt = (G.1 7 6).toInt := (congrArg Int32.toInt (show G_15.1 7 6 = (G.1 7 6) from ((hq_16.i9 7 6 rfl rfl).trans ((hq_4.i9 7 6 rfl rfl).trans (rfl)))))
  have g_23 : (G_15.1 7 7).toInt = (G.1 7 7).toInt := (congrArg Int32.toInt (show G_15.1 7 7 = (G.1 7 7) from ((hq_16.i9 7 7 rfl rfl).trans ((hq_4.i9 7 7 rfl rfl).trans (rfl)))))
  exact W.zret (v := r_14) hx hb hr (nar_z ((by first | exact f_19.1 | omega)) ((by first | exact f_19.2 | omega))) (fun t ht _ => ⟨⟨r_14, G_15, rfl, (P_wLeaves_1_mk ⟨hB_G_15, hF, ⟨(by first | exact f_19.1 | omega), (by first | exact f_19.2 | omega)⟩, ((by first | exact ⟨(by first | exact ok_235 hci.1 g_22 | omega), ⟨(by first | exact ok_185 hci.2.1 g_20 g_21 | omega), (by first | exact ok_236 hci.2.2 g_21 g_22 g_23 | omega)⟩⟩ | omega)), ⟨G_3, hX_6, ⟨r_14, G_15, hX_18, ⟨rfl, rfl⟩⟩⟩⟩), wd_t ht hW⟩, hS.F ht⟩) hS.2.2 dX11_leavesWay_24

set_option maxHeartbeats 4000000 in
set_option maxRecDepth 100000 in
theorem k_wWin_1 (l : Launch) (D : va_G) (k : KT) (A : Nat → Prop) (a : Nat → Nat) (z : SK) (G : GS) (p0 : Int32) (p1 : Int32) (ha_p1 : 0 ≤ p1.toInt ∧ p1.toInt ≤ 63) (hv_0_0 : G.2.2 0 0 = 1) (hv_0_1 : G.2.2 0 1 = 2) (hv_6_4 : G.2.2 6 4 = 1) (hci : (G.1 7 6).toInt ≤ 399 ∧ (G.1 7 3).toInt ≤ (G.1 7 4).toInt ∧ ((G.1 7 7).toInt ≤ 0 ∨ (G.1 7 7).toInt + (G.1 7 4).toInt ≤ (G.1 7 6).toInt + 1)) : Met l yX11_winningRule (WS yX11_winningRule cX11_winningRule 5 (some .int)) ({ frames := 5, cells := 0, slots := 0, locals := 113 }) (va_Pc [.ref (a 0), .int p0, .int p1] (cW D k A a z G)) (va_Qi (fun (r : Int32) (G1 : GS) => P_wWin_1 p0 p1 G r G1) (fun (G1 : GS) t => Wd D k A a G1 t.heap) A) 0 0 A := by
  refine Met.ofW (cc := cX11_winningRule) (maxL := 5) (ret := (some .int)) (by decide) rfl ?_
  intro p e s m args below meth c s₁ B hml hv
  obtain ⟨rfl, hW, hB_G, hK, hZ⟩ := hv
  have hx := B.exec
  have hb := B.bytes
  have hr := B.returns
  have hts := atoms_spec (ws := WS yX11_winningRule cX11_winningRule 5 (some .int)) B.pre
  have hgd : ∀ w ∈ gd, w ∈ WS yX11_winningRule cX11_winningRule 5 (some .int) := fun w h => List.mem_cons_of_mem _ h
  have hg : ∀ w ∈ gd, w.before _ s = true := fun w h => hts w (hgd w h)
  have hown : s.vm.findClass RX11 = some m.cls := findClass_of_methodNamed B.named
  have hS : va_S A s.heap s.heap [] := va_S.rf
  have hF : Fr [40, 42, 43, 46, 47] [] G G := Fr.rf
  have hl := lv_entry ([.ref (a 0), .int p0, .int p1]) (n := 5) (Nat.le_of_ble_eq_true rfl)
  rw [lg_entry_eq]
  generalize (lg_sl ([.ref (a 0), .int p0, .int p1]) ++ List.replicate (5 - (lg_sl ([.ref (a 0), .int p0, .int p1])).length) Slot.unset).toArray = ls at hl ⊢
  have hl : lv_has ls 5 [(0, .ref (a 0)), (1, .int p0), (2, .int p1)] := hl
  have b_1 : (-1) ≤ (G.1 7 6).toInt ∧ (G.1 7 6).toInt ≤ 400 := bd_7_6 hB_G
  refine ic_1 hx hb dX11_winningRule_0 ?_
  refine lv_aload_n hx hb dX11_winningRule_1 rfl (lv_at hl 0 rfl) ?_
  refine S_getV (n := 1) (C := RX11) (T := TX11) (N := 13) hx hb hg iX11 hown hK hW kd_0 rfl 0 (lt_b rfl) (hg (Cond.fieldLink RX11 10 "SlabWalk" "paving" "LSlabWalk$Paving;") m570) (fun _ h9 => h9) rfl hv_0_0 dX11_winningRule_2 ?_
  have b_2 : 0 ≤ (G.1 1 11).toInt ∧ (G.1 1 11).toInt ≤ 6 := bd_1_11 hB_G
  refine S_getI (v := (G.1 1 11)) (C := RX6) (T := TX6) (N := 17) hx hb hg iX6 hown hK hW kd_1 rfl 11 (lt_b rfl) (hg (Cond.fieldLink RX11 228 "SlabWalk$Paving" "rules" "I") m195) (fun _ h9 => h9) rfl rfl dX11_winningRule_5 ?_
  refine lv_ishl hx hb dX11_winningRule_8 ?_
  refine lv_topi (fun y_3 ey_3 => ?_)
  have ty_3 := sh6 (Y := (G.1 1 11).toInt) rfl ey_3 rfl (by first | (clear ha_p1 hci b_1; omega) | omega) (by first | (clear ha_p1 hci b_1; omega) | omega)
  refine ic_1 hx hb dX11_winningRule_9 ?_
  refine lv_isub hx hb dX11_winningRule_10 ?_
  refine lv_topi (fun y_4 ey_4 => ?_)
  have ty_4 : y_4.toInt = y_3.toInt - 1 := xI_sub rfl rfl ey_4 ((by first | exact ok_275 ty_3.1 | omega)) ((by first | exact ok_462 ty_3.2 | omega))
  refine lv_istore_n (lv' := [(3, .int y_4), (0, .ref (a 0)), (1, .int p0), (2, .int p1)]) hx hb dX11_winningRule_11 rfl hl (lt_b rfl) rfl (fun ls hl => ?_)
  refine lv_iload_n hx hb dX11_winningRule_12 rfl (lv_at hl 0 rfl) ?_
  refine lv_istore (lv' := [(4, .int y_4), (3, .int y_4), (0, .ref (a 0)), (1, .int p0), (2, .int p1)]) hx hb dX11_winningRule_13 hl (lt_b rfl) rfl (fun ls hl => ?_)
  refine loop_N (Inv := fun n H locs ls => ∃ (G_5 : GS) (x_9 : Int32), (n : Int) = x_9.toInt - (-1) ∧ ((-1) ≤ x_9.toInt ∧ x_9.toInt ≤ 63) ∧ Rc (St_k_wWin_1_1 p0 p1 y_4) (y_4, G) (x_9, G_5) ∧ Wd D k A a G_5 H ∧ Bd G_5 ∧ Fr [40, 42, 43, 46, 47] [] G G_5 ∧ Fr [40, 42, 43, 46, 47] [] G G_5 ∧ va_S A s.heap H locs ∧ lv_has ls 5 [(4, .int x_9), (3, .int y_4), (0, .ref (a 0)), (1, .int p0), (2, .int p1)]) (fun n_8 H locs ls ih_7 hI => ?_) (y_4.toInt - (-1) : Int).toNat ⟨G, y_4, (Int.toNat_of_nonneg ((by first | exact ok_463 ty_3.1 ty_4 | omega))), ⟨(by first | exact ok_464 ty_3.1 ty_4 | omega), (by first | exact ok_465 ty_3.2 ty_4 | omega)⟩, Rc.rf, hW, hB_G, hF, Fr.rf, hS, lv_sub hl [0, 1, 2, 3, 4] rfl⟩
  obtain ⟨G_5, x_9, hn_12, f_11, hX_10, hW, hB_G_5, hF, hq_6, hS, hl⟩ := hI
  refine lv_iload hx hb dX11_winningRule_15 (lv_at hl 0 rfl) ?_
  refine lv_iload_n hx hb dX11_winningRule_17 rfl (lv_at hl 4 rfl) ?_
  refine lv_icmp_lt (tgt := 72) hx hb dX11_winningRule_18 rfl (fun c_13 => ?_) (fun c_13 => ?_)
  · have c_13 : x_9.toInt < p1.toInt := xI_lt rfl rfl c_13
    refine lv_aload_n hx hb dX11_winningRule_72 rfl (lv_at hl 2 rfl) ?_
    refine S_getR (n := 8) (C := RX11) (T := TX11) (N := 13) hx hb hg iX11 hown hK hW kd_0 rfl 6 (lt_b rfl) (hg (Cond.fieldLink RX11 51 "SlabWalk" "trails" "LSlabWalk$Trails;") m576) (fun _ h9 => h9) rfl dX11_winningRule_73 ?_
    refine S_getR (n := 46) (C := RX10) (T := TX10) (N := 5) hx hb hg iX10 hown hK hW kd_8 rfl 3 (lt_b rfl) (hg (Cond.fieldLink RX11 347 "SlabWalk$Trails" "winning" "[I") m444) (fun _ h9 => h9) rfl dX11_winningRule_76 ?_
    refine lv_iload_n hx hb dX11_winningRule_79 rfl (lv_at hl 4 rfl) ?_
    refine S_iald hx hb hK hW kd_46 (vin ((by first | exact ha_p1.1 | omega)) ((by first | exact ok_380 ha_p1.2 | omega))) dX11_winningRule_80 (fun y_14 ey_14 => ?_)
    exact W.iret (v := y_14) hx hb hr (fun t ht _ => ⟨⟨y_14, G_5, rfl, (P_wWin_1_mk ⟨hB_G_5, hF, ⟨y_3, ey_3, ⟨y_4, ty_4, ⟨x_9, G_5, hX_10, f_11, hB_G_5, hq_6, ⟨c_13, ⟨y_14, ey_14, ⟨rfl, rfl⟩⟩⟩⟩⟩⟩⟩), wd_t ht hW⟩, hS.F ht⟩) hS.2.2 dX11_winningRule_81
  · have c_13 : p1.toInt ≤ x_9.toInt := xI_nlt rfl rfl c_13
    refine lv_iload hx hb dX11_winningRule_21 (lv_at hl 0 rfl) ?_
    refine lv_iload_n hx hb dX11_winningRule_23 rfl (lv_at hl 4 rfl) ?_
    refine lv_iand hx hb dX11_winningRule_24 ?_
    refine lv_topi (fun y_15 ey_15 => ?_)
    refine lv_iload_n hx hb dX11_winningRule_25 rfl (lv_at hl 4 rfl) ?_
    refine lv_icmp_ne (tgt := 66) hx hb dX11_winningRule_26 rfl (fun c_16 => ?_) (fun c_16 => ?_)
    · have c_16 : y_15.toInt ≠ p1.toInt := xI_ne rfl rfl c_16
      obtain ⟨y_17, ey_17⟩ : ∃ q, q = x_9 + (-1) := ⟨_, rfl⟩
      have ty_17 : y_17.toInt = x_9.toInt + (-1) := xI_add rfl rfl ey_17 ((by first | exact ok_466 f_11.1 | omega)) ((by first | exact ok_467 f_11.2 | omega))
      refine lv_iinc (v := y_17) (lv' := [(4, .int y_17), (3, .int y_4), (0, .ref (a 0)), (1, .int p0), (2, .int p1)]) hx hb dX11_winningRule_66 hl (k := 0) rfl (by rw [ey_17]; rfl) (lt_b rfl) rfl (fun ls hl => ?_)
      refine lv_goto (tgt := 15) hx hb dX11_winningRule_69 rfl ?_
      exact ih_7 (y_17.toInt - (-1) : Int).toNat ((by first | (clear hci b_1 b_2 ty_3 ty_4; omega) | omega)) _ _ _ ⟨G_5, y_17, (Int.toNat_of_nonneg ((by first | exact ok_468 ha_p1.1 f_11.1 c_13 ty_17 | omega))), ⟨(by first | exact ok_469 ha_p1.1 f_11.1 c_13 ty_17 | omega), (by first | exact ok_470 f_11.2 ty_17 | omega)⟩, (hX_10.st (St_k_wWin_1_1_mk ⟨x_9, G_5, y_17, G_5, rfl, rfl, f_11, hB_G_5, ⟨c_13, ⟨y_15, ey_15, (Or.inr ⟨c_16, ⟨y_17, ty_17, ⟨rfl, rfl⟩⟩⟩)⟩⟩⟩)), hW, hB_G_5, hF, (Fr.call9 (rs := [40, 42, 43, 46, 47]) (fs := []) Fr.rf hq_6 rfl rfl), hS, lv_sub hl [0, 1, 2, 3, 4] rfl⟩
    · have c_16 : y_15.toInt = p1.toInt := xI_eq rfl rfl c_16
      refine lv_aload_n hx hb dX11_winningRule_29 rfl (lv_at hl 2 rfl) ?_
      refine S_getR (n := 8) (C := RX11) (T := TX11) (N := 13) hx hb hg iX11 hown hK hW kd_0 rfl 6 (lt_b rfl) (hg (Cond.fieldLink RX11 51 "SlabWalk" "trails" "LSlabWalk$Trails;") m576) (fun _ h9 => h9) rfl dX11_winningRule_30 ?_
      refine S_getR (n := 46) (C := RX10) (T := TX10) (N := 5) hx hb hg iX10 hown hK hW kd_8 rfl 3 (lt_b rfl) (hg (Cond.fieldLink RX11 347 "SlabWalk$Trails" "winning" "[I") m444) (fun _ h9 => h9) rfl dX11_winningRule_33 ?_
      refine lv_iload hx hb dX11_winningRule_36 (lv_at hl 0 rfl) ?_
      refine lv_aload_n hx hb dX11_winningRule_38 rfl (lv_at hl 2 rfl) ?_
      refine S_getR (n := 8) (C := RX11) (T := TX11) (N := 13) hx hb hg iX11 hown hK hW kd_0 rfl 6 (lt_b rfl) (hg (Cond.fieldLink RX11 51 "SlabWalk" "trails" "LSlabWalk$Trails;") m576) (fun _ h9 => h9) rfl dX11_winningRule_39 ?_
      refine lv_iload hx hb dX11_winningRule_42 (lv_at hl 0 rfl) ?_
      refine lv_iload_n hx hb dX11_winningRule_44 rfl (lv_at hl 1 rfl) ?_
      refine S_calli (va_runV (As := [.int x_9, .int y_4]) (rest := [.int x_9, .ref (a 46)]) ⟨hx, hb, hml, hown, hts⟩ (k_tWin l D k A a z G_5 x_9 y_4 ⟨(by first | exact ok_471 ha_p1.1 f_11.1 c_13 | omega), (by first | exact f_11.2 | omega)⟩ ⟨(by first | exact ok_277 ty_3.1 ty_4 | omega), (by first | exact ok_465 ty_3.2 ty_4 | omega)⟩) (cwV 2 hts (gd_V hgd m1150 m1151 m1152 m124 m1153) rfl rfl rfl hd_X10_winningFrom ⟨Nat.le_of_ble_eq_true rfl, Nat.le_of_ble_eq_true rfl⟩) (pre_W hW hB_G_5 hK hZ hS kd_8 rfl) rfl rfl hl.1 rfl (lv_room (Nat.le_of_ble_eq_true rfl)) dX11_winningRule_45 ⟨Nat.le_of_ble_eq_true rfl, Nat.le_of_ble_eq_true rfl⟩) hS (fun r_18 G_19 H locs hpo hW hS => ?_)
      have hX_22 : P_tWin x_9 y_4 G_5 r_18 G_19 := hpo
      obtain ⟨hB_G_19, hq_20, -⟩ := hpo
      have hF := hF.call9 hq_20 rfl rfl
      refine S_iast hx hb hK hW hS kd_46 (vin ((by first | exact ok_471 ha_p1.1 f_11.1 c_13 | omega)) ((by first | exact ok_380 f_11.2 | omega))) dX11_winningRule_48 (fun G_23 H locs eG_23 hW hS => ?_)
      have hB_G_23 : Bd G_23 := hB_G_19.put (lo := (-2147483648)) (hi := 2147483647) eG_23 rfl rfl rfl (tI_rng _).1 (tI_rng _).2 (hB_G_19.2.put eG_23 rfl)
      have hF := hF.put eG_23 (Or.inl (by decide))
      refine lv_aload_n hx hb dX11_winningRule_49 rfl (lv_at hl 2 rfl) ?_
      refine S_getR (n := 8) (C := RX11) (T := TX11) (N := 13) hx hb hg iX11 hown hK hW kd_0 rfl 6 (lt_b rfl) (hg (Cond.fieldLink RX11 51 "SlabWalk" "trails" "LSlabWalk$Trails;") m576) (fun _ h9 => h9) rfl dX11_winningRule_50 ?_
      refine S_getR (n := 47) (C := RX10) (T := TX10) (N := 5) hx hb hg iX10 hown hK hW kd_8 rfl 4 (lt_b rfl) (hg (Cond.fieldLink RX11 353 "SlabWalk$Trails" "leaving" "[Z") m446) (fun _ h9 => h9) rfl dX11_winningRule_53 ?_
      refine lv_iload hx hb dX11_winningRule_56 (lv_at hl 0 rfl) ?_
      refine lv_aload_n hx hb dX11_winningRule_58 rfl (lv_at hl 2 rfl) ?_
      refine lv_iload_n hx hb dX11_winningRule_59 rfl (lv_at hl 3 rfl) ?_
      refine lv_iload hx hb dX11_winningRule_60 (lv_at hl 0 rfl) ?_
      have b_24 : 0 ≤ (G.1 7 3).toInt ∧ (G.1 7 3).toInt ≤ 60 := bd_7_3 hB_G
      have g_25 : (G_23.1 7 3).toInt = (G.1 7 3).toInt := (congrArg Int32.toInt (show G_23.1 7 3 = (G.1 7 3) from ((gp_ne eG_23 (fun q => absurd q.1 (Nat.ne_of_beq_eq_false rfl))).trans ((hq_20.i9 7 3 rfl rfl).trans (hq_6.i9 7 3 rfl rfl)))))
      have b_26 : 0 ≤ (G.1 7 4).toInt ∧ (G.1 7 4).toInt ≤ 60 := bd_7_4 hB_G
      have g_27 : (G_23.1 7 4).toInt = (G.1 7 4).toInt := (congrArg Int32.toInt (show G_23.1 7 4 = (G.1 7 4) from ((gp_ne eG_23 (fun q => absurd q.1 (Nat.ne_of_beq_eq_false rfl))).trans ((hq_20.i9 7 4 rfl rfl).trans (hq_6.i9 7 4 rfl rfl)))))
      have g_28 : (G_23.1 7 6).toInt = (G.1 7 6).toInt := (congrArg Int32.toInt (show G_23.1 7 6 = (G.1 7 6) from ((gp_ne eG_23 (fun q => absurd q.1 (Nat.ne_of_beq_eq_false rfl))).trans ((hq_20.i9 7 6 rfl rfl).trans ((hq_6.i9 7 6 rfl rfl).trans (rfl))))))
      have b_29 : 0 ≤ (G.1 7 7).toInt ∧ (G.1 7 7).toInt ≤ 400 := bd_7_7 hB_G
      have g_30 : (G_23.1 7 7).toInt = (G.1 7 7).toInt := (congrArg Int32.toInt (show G_23.1 7 7 = (G.1 7 7) from ((gp_ne eG_23 (fun q => absurd q.1 (Nat.ne_of_beq_eq_false rfl))).trans ((hq_20.i9 7 7 rfl rfl).trans (hq_6.i9 7 7 rfl rfl)))))
      refine S_calli (va_runV (As := [.int p0, .int x_9]) (rest := [.int x_9, .ref (a 47)]) ⟨hx, hb, hml, hown, hts⟩ (k_wLeaves_1 l D k A a z G_23 p0 x_9 ((((congrFun (congrFun (congrArg (fun q => q.2.2) eG_23) 0) 0).trans ((hq_20.r9 0 0 rfl rfl).trans (hq_6.r9 0 0 rfl rfl)))).trans (hv_0_0)) ((((congrFun (congrFun (congrArg (fun q => q.2.2) eG_23) 0) 1).trans ((hq_20.r9 0 1 rfl rfl).trans (hq_6.r9 0 1 rfl rfl)))).trans (hv_0_1)) ((((congrFun (congrFun (congrArg (fun q => q.2.2) eG_23) 6) 4).trans ((hq_20.r9 6 4 rfl rfl).trans (hq_6.r9 6 4 rfl rfl)))).trans (hv_6_4)) ((by first | exact ⟨(by first | exact ok_235 hci.1 g_28 | omega), ⟨(by first | exact ok_185 hci.2.1 g_25 g_27 | omega), (by first | exact ok_236 hci.2.2 g_27 g_28 g_30 | omega)⟩⟩ | omega))) (cwV 2 hts (gd_V hgd m1154 m1156 m42 m117 m1157) rfl rfl rfl hd_X11_leavesWay ⟨Nat.le_of_ble_eq_true rfl, Nat.le_of_ble_eq_true rfl⟩) (pre_W hW hB_G_23 hK hZ hS kd_0 rfl) rfl rfl hl.1 rfl (lv_room (Nat.le_of_ble_eq_true rfl)) dX11_winningRule_62 ⟨Nat.le_of_ble_eq_true rfl, Nat.le_of_ble_eq_true rfl⟩) hS (fun r_31 G_32 H locs hpo hW hS => ?_)
      have hX_35 : P_wLeaves_1 p0 x_9 G_23 r_31 G_32 := hpo
      obtain ⟨hB_G_32, hq_33, f_36, hp_34, -⟩ := hpo
      have hF := hF.call9 hq_33 rfl rfl
      refine S_zast hx hb hK hW hS kd_47 (vin ((by first | exact ok_471 ha_p1.1 f_11.1 c_13 | omega)) ((by first | exact ok_380 f_11.2 | omega))) dX11_winningRule_65 (fun G_37 H locs eG_37 hW hS => ?_)
      have hB_G_37 : Bd G_37 := hB_G_32.put (lo := 0) (hi := 1) eG_37 rfl rfl rfl nz_bool.1 nz_bool.2 (hB_G_32.2.put eG_37 rfl)
      have hF := hF.put eG_37 (Or.inl (by decide))
      obtain ⟨y_38, ey_38⟩ : ∃ q, q = x_9 + (-1) := ⟨_, rfl⟩
      have ty_38 : y_38.toInt = x_9.toInt + (-1) := xI_add rfl rfl ey_38 ((by first | exact ok_466 f_11.1 | omega)) ((by first | exact ok_467 f_11.2 | omega))
      refine lv_iinc (v := y_38) (lv' := [(4, .int y_38), (3, .int y_4), (0, .ref (a 0)), (1, .int p0), (2, .int p1)]) hx hb dX11_winningRule_66 hl (k := 0) rfl (by rw [ey_38]; rfl) (lt_b rfl) rfl (fun ls hl => ?_)
      refine lv_goto (tgt := 15) hx hb dX11_winningRule_69 rfl ?_
      exact ih_7 (y_38.toInt - (-1) : Int).toNat ((by first | (clear hci b_1 b_2 ty_3 ty_4 b_24 g_25 b_26 g_27 g_28 b_29 g_30 f_36 hp_34; omega) | omega)) _ _ _ ⟨G_37, y_38, (Int.toNat_of_nonneg ((by first | exact ok_468 ha_p1.1 f_11.1 c_13 ty_38 | omega))), ⟨(by first | exact ok_469 ha_p1.1 f_11.1 c_13 ty_38 | omega), (by first | exact ok_470 f_11.2 ty_38 | omega)⟩, (hX_10.st (St_k_wWin_1_1_mk ⟨x_9, G_5, y_38, G_37, rfl, rfl, f_11, hB_G_5, ⟨c_13, ⟨y_15, ey_15, (Or.inl ⟨c_16, ⟨r_18, G_19, hX_22, ⟨G_23, hB_G_23, (Fr.put (rs := [46]) (fs := []) Fr.rf eG_23 (Or.inl (by decide))), rw_ast eG_23, ⟨r_31, G_32, hX_35, ⟨y_38, ty_38, ⟨rfl, (Fr.put (rs := [47]) (fs := []) Fr.rf eG_37 (Or.inl (by decide))), rw_ast eG_37⟩⟩⟩⟩⟩⟩)⟩⟩⟩)), hW, hB_G_37, hF, (Fr.put (rs := [40, 42, 43, 46, 47]) (fs := []) (Fr.call9 (rs := [40, 42, 43, 46, 47]) (fs := []) (Fr.put (rs := [40, 42, 43, 46, 47]) (fs := []) (Fr.call9 (rs := [40, 42, 43, 46, 47]) (fs := []) (Fr.call9 (rs := [40, 42, 43, 46, 47]) (fs := []) Fr.rf hq_6 rfl rfl) hq_20 rfl rfl) eG_23 (Or.inl (by decide))) hq_33 rfl rfl) eG_37 (Or.inl (by decide))), hS, lv_sub hl [0, 1, 2, 3, 4] rfl⟩

set_option maxHeartbeats 4000000 in
set_option maxRecDepth 100000 in
theorem k_wLSight_1 (l : Launch) (D : va_G) (k : KT) (A : Nat → Prop) (a : Nat → Nat) (z : SK) (G : GS) (p0 : Int32) (p1 : Int32) (p2 : Int32) (ha_p0 : 0 ≤ p0.toInt ∧ p0.toInt ≤ 19) (ha_p2 : -3 ≤ p2.toInt ∧ p2.toInt ≤ 3) (hv_0_0 : G.2.2 0 0 = 1) (hv_0_1 : G.2.2 0 1 = 2) (hv_6_4 : G.2.2 6 4 = 1) : Met l yX11_isLawfulSight (WS yX11_isLawfulSight cX11_isLawfulSight 5 (some .boolean)) ({ frames := 4, cells := 0, slots := 0, locals := 96 }) (va_Pc [.ref (a 0), .int p0, .int p1, .int p2] (cW D k A a z G)) (va_Qi (fun (r : Int32) (G1 : GS) => P_wLSight_1 p0 p1 p2 G r G1) (fun (G1 : GS) t => Wd D k A a G1 t.heap) A) 0 0 A := by
  refine Met.ofW (cc := cX11_isLawfulSight) (maxL := 5) (ret := (some .boolean)) (by decide) rfl ?_
  intro p e s m args below meth c s₁ B hml hv
  obtain ⟨rfl, hW, hB_G, hK, hZ⟩ := hv
  have hx := B.exec
  have hb := B.bytes
  have hr := B.returns
  have hts := atoms_spec (ws := WS yX11_isLawfulSight cX11_isLawfulSight 5 (some .boolean)) B.pre
  have hgd : ∀ w ∈ gd, w ∈ WS yX11_isLawfulSight cX11_isLawfulSight 5 (some .boolean) := fun w h => List.mem_cons_of_mem _ h
  have hg : ∀ w ∈ gd, w.before _ s = true := fun w h => hts w (hgd w h)
  have hown : s.vm.findClass RX11 = some m.cls := findClass_of_methodNamed B.named
  have hS : va_S A s.heap s.heap [] := va_S.rf
  have hF : Fr [37, 38, 39] [(6, 3)] G G := Fr.rf
  have hl := lv_entry ([.ref (a 0), .int p0, .int p1, .int p2]) (n := 5) (Nat.le_of_ble_eq_true rfl)
  rw [lg_entry_eq]
  generalize (lg_sl ([.ref (a 0), .int p0, .int p1, .int p2]) ++ List.replicate (5 - (lg_sl ([.ref (a 0), .int p0, .int p1, .int p2])).length) Slot.unset).toArray = ls at hl ⊢
  have hl : lv_has ls 5 [(0, .ref (a 0)), (1, .int p0), (2, .int p1), (3, .int p2)] := hl
  refine lv_aload_n hx hb dX11_isLawfulSight_0 rfl (lv_at hl 0 rfl) ?_
  refine S_getR (n := 31) (C := RX11) (T := TX11) (N := 13) hx hb hg iX11 hown hK hW kd_0 rfl 9 (lt_b rfl) (hg (Cond.fieldLink RX11 72 "SlabWalk" "sights" "LSlabWalk$Sights;") m579) (fun _ h9 => h9) rfl dX11_isLawfulSight_1 ?_
  refine S_getR (n := 63) (C := RX8) (T := TX8) (N := 7) hx hb hg iX8 hown hK hW kd_31 rfl 2 (lt_b rfl) (hg (Cond.fieldLink RX11 359 "SlabWalk$Sights" "heel" "[I") m525) (fun _ h9 => h9) rfl dX11_isLawfulSight_4 ?_
  refine lv_iload_n hx hb dX11_isLawfulSight_7 rfl (lv_at hl 1 rfl) ?_
  refine S_iald hx hb hK hW kd_63 (vin ((by first | exact ha_p0.1 | omega)) ((by first | exact ok_199 ha_p0.2 | omega))) dX11_isLawfulSight_8 (fun y_1 ey_1 => ?_)
  refine lv_iload_n hx hb dX11_isLawfulSight_9 rfl (lv_at hl 3 rfl) ?_
  refine lv_iadd hx hb dX11_isLawfulSight_10 ?_
  refine lv_topi (fun y_2 ey_2 => ?_)
  refine lv_istore (lv' := [(4, .int y_2), (0, .ref (a 0)), (1, .int p0), (2, .int p1), (3, .int p2)]) hx hb dX11_isLawfulSight_11 hl (lt_b rfl) rfl (fun ls hl => ?_)
  refine lv_aload_n hx hb dX11_isLawfulSight_13 rfl (lv_at hl 1 rfl) ?_
  refine S_getR (n := 6) (C := RX11) (T := TX11) (N := 13) hx hb hg iX11 hown hK hW kd_0 rfl 4 (lt_b rfl) (hg (Cond.fieldLink RX11 37 "SlabWalk" "lines" "LSlabWalk$Lines;") m574) (fun _ h9 => h9) rfl dX11_isLawfulSight_14 ?_
  refine lv_aload_n hx hb dX11_isLawfulSight_17 rfl (lv_at hl 1 rfl) ?_
  refine S_getR (n := 31) (C := RX11) (T := TX11) (N := 13) hx hb hg iX11 hown hK hW kd_0 rfl 9 (lt_b rfl) (hg (Cond.fieldLink RX11 72 "SlabWalk" "sights" "LSlabWalk$Sights;") m579) (fun _ h9 => h9) rfl dX11_isLawfulSight_18 ?_
  refine S_getR (n := 62) (C := RX8) (T := TX8) (N := 7) hx hb hg iX8 hown hK hW kd_31 rfl 1 (lt_b rfl) (hg (Cond.fieldLink RX11 362 "SlabWalk$Sights" "street" "[I") m523) (fun _ h9 => h9) rfl dX11_isLawfulSight_21 ?_
  refine lv_iload_n hx hb dX11_isLawfulSight_24 rfl (lv_at hl 2 rfl) ?_
  refine S_iald hx hb hK hW kd_62 (vin ((by first | exact ha_p0.1 | omega)) ((by first | exact ok_199 ha_p0.2 | omega))) dX11_isLawfulSight_25 (fun y_3 ey_3 => ?_)
  refine lv_aload_n hx hb dX11_isLawfulSight_26 rfl (lv_at hl 1 rfl) ?_
  refine S_calli (va_runV (As := []) (rest := [.int y_3, .ref (a 6)]) ⟨hx, hb, hml, hown, hts⟩ (k_wToday l D k A a z G  ) (cwV 0 hts (gd_V hgd m911 m913 m27 m117 m914) rfl rfl rfl hd_X11_today ⟨Nat.le_of_ble_eq_true rfl, Nat.le_of_ble_eq_true rfl⟩) (pre_W hW hB_G hK hZ hS kd_0 rfl) rfl rfl hl.1 rfl (lv_room (Nat.le_of_ble_eq_true rfl)) dX11_isLawfulSight_27 ⟨Nat.le_of_ble_eq_true rfl, Nat.le_of_ble_eq_true rfl⟩) hS (fun r_4 G_5 H locs hpo hW hS => ?_)
  have hX_8 : P_wToday G r_4 G_5 := hpo
  obtain ⟨hB_G_5, hq_6, -⟩ := hpo
  have hF := hF.call9 hq_6 rfl rfl
  refine S_callv (va_runV (As := [.int y_3, .int r_4]) (rest := []) ⟨hx, hb, hml, hown, hts⟩ (k_lFind_1 l D k A a z G_5 y_3 r_4 (((hq_6.r9 6 4 rfl rfl)).trans (hv_6_4))) (cwV 2 hts (gd_V hgd m915 m916 m917 m122 m918) rfl rfl rfl hd_X3_findFor ⟨Nat.le_of_ble_eq_true rfl, Nat.le_of_ble_eq_true rfl⟩) (pre_W hW hB_G_5 hK hZ hS kd_6 rfl) rfl rfl hl.1 rfl (lv_room (Nat.le_of_ble_eq_true rfl)) dX11_isLawfulSight_30 ⟨Nat.le_of_ble_eq_true rfl, Nat.le_of_ble_eq_true rfl⟩) hS (fun G_10 H locs hpo hW hS => ?_)
  have hX_13 : P_lFind_1 y_3 r_4 G_5 G_10 := hpo
  obtain ⟨hB_G_10, hq_11, -⟩ := hpo
  have hF := hF.call9 hq_11 rfl rfl
  refine lv_aload_n hx hb dX11_isLawfulSight_33 rfl (lv_at hl 1 rfl) ?_
  refine S_getR (n := 6) (C := RX11) (T := TX11) (N := 13) hx hb hg iX11 hown hK hW kd_0 rfl 4 (lt_b rfl) (hg (Cond.fieldLink RX11 37 "SlabWalk" "lines" "LSlabWalk$Lines;") m574) (fun _ h9 => h9) rfl dX11_isLawfulSight_34 ?_
  refine lv_aload_n hx hb dX11_isLawfulSight_37 rfl (lv_at hl 1 rfl) ?_
  refine S_getR (n := 31) (C := RX11) (T := TX11) (N := 13) hx hb hg iX11 hown hK hW kd_0 rfl 9 (lt_b rfl) (hg (Cond.fieldLink RX11 72 "SlabWalk" "sights" "LSlabWalk$Sights;") m579) (fun _ h9 => h9) rfl dX11_isLawfulSight_38 ?_
  refine S_getR (n := 61) (C := RX8) (T := TX8) (N := 7) hx hb hg iX8 hown hK hW kd_31 rfl 0 (lt_b rfl) (hg (Cond.fieldLink RX11 365 "SlabWalk$Sights" "walker" "[I") m521) (fun _ h9 => h9) rfl dX11_isLawfulSight_41 ?_
  refine lv_iload_n hx hb dX11_isLawfulSight_44 rfl (lv_at hl 2 rfl) ?_
  refine S_iald hx hb hK hW kd_61 (vin ((by first | exact ha_p0.1 | omega)) ((by first | exact ok_199 ha_p0.2 | omega))) dX11_isLawfulSight_45 (fun y_14 ey_14 => ?_)
  refine lv_aload_n hx hb dX11_isLawfulSight_46 rfl (lv_at hl 1 rfl) ?_
  refine S_getR (n := 31) (C := RX11) (T := TX11) (N := 13) hx hb hg iX11 hown hK hW kd_0 rfl 9 (lt_b rfl) (hg (Cond.fieldLink RX11 72 "SlabWalk" "sights" "LSlabWalk$Sights;") m579) (fun _ h9 => h9) rfl dX11_isLawfulSight_47 ?_
  refine S_getR (n := 62) (C := RX8) (T := TX8) (N := 7) hx hb hg iX8 hown hK hW kd_31 rfl 1 (lt_b rfl) (hg (Cond.fieldLink RX11 362 "SlabWalk$Sights" "street" "[I") m523) (fun _ h9 => h9) rfl dX11_isLawfulSight_50 ?_
  refine lv_iload_n hx hb dX11_isLawfulSight_53 rfl (lv_at hl 2 rfl) ?_
  refine S_iald hx hb hK hW kd_62 (vin ((by first | exact ha_p0.1 | omega)) ((by first | exact ok_199 ha_p0.2 | omega))) dX11_isLawfulSight_54 (fun y_15 ey_15 => ?_)
  refine ic_1 hx hb dX11_isLawfulSight_55 ?_
  refine lv_iload_n hx hb dX11_isLawfulSight_56 rfl (lv_at hl 3 rfl) ?_
  refine lv_ishl hx hb dX11_isLawfulSight_57 ?_
  refine lv_topi (fun y_16 ey_16 => ?_)
  refine lv_iload hx hb dX11_isLawfulSight_58 (lv_at hl 0 rfl) ?_
  refine S_calli (va_runV (As := [.int y_14, .int y_15, .int y_16, .int y_2]) (rest := []) ⟨hx, hb, hml, hown, hts⟩ (k_lIsLawful_1 l D k A a z G_10 y_14 y_15 y_16 y_2 ((((hq_11.r9 6 4 rfl rfl).trans (hq_6.r9 6 4 rfl rfl))).trans (hv_6_4))) (cwV 4 hts (gd_V hgd m961 m962 m963 m122 m964) rfl rfl rfl hd_X3_isLawful ⟨Nat.le_of_ble_eq_true rfl, Nat.le_of_ble_eq_true rfl⟩) (pre_W hW hB_G_10 hK hZ hS kd_6 rfl) rfl rfl hl.1 rfl (lv_room (Nat.le_of_ble_eq_true rfl)) dX11_isLawfulSight_60 ⟨Nat.le_of_ble_eq_true rfl, Nat.le_of_ble_eq_true rfl⟩) hS (fun r_17 G_18 H locs hpo hW hS => ?_)
  have hX_21 : P_lIsLawful_1 y_14 y_15 y_16 y_2 G_10 r_17 G_18 := hpo
  obtain ⟨hB_G_18, hq_19, f_22, -⟩ := hpo
  have hF := hF.call9 hq_19 rfl rfl
  exact W.zret (v := r_17) hx hb hr (nar_z ((by first | exact f_22.1 | omega)) ((by first | exact f_22.2 | omega))) (fun t ht _ => ⟨⟨r_17, G_18, rfl, (P_wLSight_1_mk ⟨hB_G_18, hF, ⟨(by first | exact f_22.1 | omega), (by first | exact f_22.2 | omega)⟩, ⟨y_1, ey_1, ⟨y_2, ey_2, ⟨y_3, ey_3, ⟨r_4, G_5, hX_8, ⟨G_10, hX_13, ⟨y_14, ey_14, ⟨y_15, ey_15, ⟨y_16, ey_16, ⟨r_17, G_18, hX_21, ⟨rfl, rfl⟩⟩⟩⟩⟩⟩⟩⟩⟩⟩⟩), wd_t ht hW⟩, hS.F ht⟩) hS.2.2 dX11_isLawfulSight_63

set_option maxHeartbeats 4000000 in
set_option maxRecDepth 100000 in
theorem k_wFitsAll_1 (l : Launch) (D : va_G) (k : KT) (A : Nat → Prop) (a : Nat → Nat) (z : SK) (G : GS) (p0 : Int32) (p1 : Int32) (hv_0_0 : G.2.2 0 0 = 1) (hv_0_1 : G.2.2 0 1 = 2) (hv_6_4 : G.2.2 6 4 = 1) : Met l yX11_fitsAll (WS yX11_fitsAll cX11_fitsAll 4 (some .boolean)) ({ frames := 5, cells := 0, slots := 0, locals := 120 }) (va_Pc [.ref (a 0), .int p0, .int p1] (cW D k A a z G)) (va_Qi (fun (r : Int32) (G1 : GS) => P_wFitsAll_1 p0 p1 G r G1) (fun (G1 : GS) t => Wd D k A a G1 t.heap) A) 0 0 A := by
  refine Met.ofW (cc := cX11_fitsAll) (maxL := 4) (ret := (some .boolean)) (by decide) rfl ?_
  intro p e s m args below meth c s₁ B hml hv
  obtain ⟨rfl, hW, hB_G, hK, hZ⟩ := hv
  have hx := B.exec
  have hb := B.bytes
  have hr := B.returns
  have hts := atoms_spec (ws := WS yX11_fitsAll cX11_fitsAll 4 (some .boolean)) B.pre
  have hgd : ∀ w ∈ gd, w ∈ WS yX11_fitsAll cX11_fitsAll 4 (some .boolean) := fun w h => List.mem_cons_of_mem _ h
  have hg : ∀ w ∈ gd, w.before _ s = true := fun w h => hts w (hgd w h)
  have hown : s.vm.findClass RX11 = some m.cls := findClass_of_methodNamed B.named
  have hS : va_S A s.heap s.heap [] := va_S.rf
  have hF : Fr [37, 38, 39] [(6, 3)] G G := Fr.rf
  have hl := lv_entry ([.ref (a 0), .int p0, .int p1]) (n := 4) (Nat.le_of_ble_eq_true rfl)
  rw [lg_entry_eq]
  generalize (lg_sl ([.ref (a 0), .int p0, .int p1]) ++ List.replicate (4 - (lg_sl ([.ref (a 0), .int p0, .int p1])).length) Slot.unset).toArray = ls at hl ⊢
  have hl : lv_has ls 4 [(0, .ref (a 0)), (1, .int p0), (2, .int p1)] := hl
  refine ic_0 hx hb dX11_fitsAll_0 ?_
  refine lv_istore_n (lv' := [(3, .int 0), (0, .ref (a 0)), (1, .int p0), (2, .int p1)]) hx hb dX11_fitsAll_1 rfl hl (lt_b rfl) rfl (fun ls hl => ?_)
  have qc_7 : (0 : Int32).toInt = 0 := rfl
  refine loop_N (Inv := fun n H locs ls => ∃ (G_1 : GS) (x_5 : Int32), (n : Int) = 20 - x_5.toInt ∧ (0 ≤ x_5.toInt ∧ x_5.toInt ≤ 20) ∧ Rc (St_k_wFitsAll_1_1 p0 p1 G) (0, G) (x_5, G_1) ∧ Wd D k A a G_1 H ∧ Bd G_1 ∧ Fr [37, 38, 39] [(6, 3)] G G_1 ∧ Fr [37, 38, 39] [(6, 3)] G G_1 ∧ va_S A s.heap H locs ∧ lv_has ls 4 [(3, .int x_5), (0, .ref (a 0)), (1, .int p0), (2, .int p1)]) (fun n_4 H locs ls ih_3 hI => ?_) (20 - 0 : Int).toNat ⟨G, 0, (Int.toNat_of_nonneg ((by decide))), ⟨(by decide), (by decide)⟩, Rc.rf, hW, hB_G, hF, Fr.rf, hS, lv_sub hl [0, 1, 2, 3] rfl⟩
  obtain ⟨G_1, x_5, hn_9, f_8, hX_6, hW, hB_G_1, hF, hq_2, hS, hl⟩ := hI
  refine lv_iload_n hx hb dX11_fitsAll_2 rfl (lv_at hl 0 rfl) ?_
  refine lv_aload_n hx hb dX11_fitsAll_3 rfl (lv_at hl 1 rfl) ?_
  refine S_getR (n := 31) (C := RX11) (T := TX11) (N := 13) hx hb hg iX11 hown hK hW kd_0 rfl 9 (lt_b rfl) (hg (Cond.fieldLink RX11 72 "SlabWalk" "sights" "LSlabWalk$Sights;") m579) (fun _ h9 => h9) rfl dX11_fitsAll_4 ?_
  have b_10 : 0 ≤ (G.1 31 5).toInt ∧ (G.1 31 5).toInt ≤ 20 := bd_31_5 hB_G
  refine S_getI (v := (G.1 31 5)) (C := RX8) (T := TX8) (N := 7) hx hb hg iX8 hown hK hW kd_31 rfl 5 (lt_b rfl) (hg (Cond.fieldLink RX11 285 "SlabWalk$Sights" "count" "I") m529) (fun _ h9 => h9) rfl (hq_2.i9 31 5 rfl rfl) dX11_fitsAll_7 ?_
  refine lv_icmp_ge (tgt := 43) hx hb dX11_fitsAll_10 rfl (fun c_11 => ?_) (fun c_11 => ?_)
  · have c_11 : (G.1 31 5).toInt ≤ x_5.toInt := xI_le rfl rfl c_11
    refine ic_1 hx hb dX11_fitsAll_43 ?_
    exact W.zret (v := 1) hx hb hr (by decide) (fun t ht _ => ⟨⟨1, G_1, rfl, (P_wFitsAll_1_mk ⟨hB_G_1, hF, ⟨by decide, by decide⟩, ⟨x_5, G_1, hX_6, f_8, hB_G_1, hq_2, (Or.inl ⟨c_11, ⟨rfl, rfl⟩⟩)⟩⟩), wd_t ht hW⟩, hS.F ht⟩) hS.2.2 dX11_fitsAll_44
  · have c_11 : x_5.toInt < (G.1 31 5).toInt := xI_nle rfl rfl c_11
    refine lv_aload_n hx hb dX11_fitsAll_13 rfl (lv_at hl 1 rfl) ?_
    refine S_getR (n := 31) (C := RX11) (T := TX11) (N := 13) hx hb hg iX11 hown hK hW kd_0 rfl 9 (lt_b rfl) (hg (Cond.fieldLink RX11 72 "SlabWalk" "sights" "LSlabWalk$Sights;") m579) (fun _ h9 => h9) rfl dX11_fitsAll_14 ?_
    refine lv_iload_n hx hb dX11_fitsAll_17 rfl (lv_at hl 0 rfl) ?_
    refine lv_iload_n hx hb dX11_fitsAll_18 rfl (lv_at hl 3 rfl) ?_
    refine S_calli (va_runV (As := [.int x_5, .int p1]) (rest := []) ⟨hx, hb, hml, hown, hts⟩ (k_sCounts l D k A a z G_1 x_5 p1 ⟨(by first | exact f_8.1 | omega), (by first | exact ok_472 f_8.2 b_10.2 c_11 | omega)⟩) (cwV 2 hts (gd_V hgd m1271 m1272 m1273 m128 m1274) rfl rfl rfl hd_X8_counts ⟨Nat.le_of_ble_eq_true rfl, Nat.le_of_ble_eq_true rfl⟩) (pre_W hW hB_G_1 hK hZ hS kd_31 rfl) rfl rfl hl.1 rfl (lv_room (Nat.le_of_ble_eq_true rfl)) dX11_fitsAll_19 ⟨Nat.le_of_ble_eq_true rfl, Nat.le_of_ble_eq_true rfl⟩) hS (fun r_12 G_13 H locs hpo hW hS => ?_)
    have hX_16 : P_sCounts x_5 p1 G_1 r_12 G_13 := hpo
    obtain ⟨hB_G_13, hq_14, f_17, -⟩ := hpo
    have hF := hF.call9 hq_14 rfl rfl
    refine lv_if_eq (tgt := 37) hx hb dX11_fitsAll_22 rfl (fun c_18 => ?_) (fun c_18 => ?_)
    · have c_18 : r_12.toInt = 0 := xI_eq rfl rfl c_18
      obtain ⟨y_19, ey_19⟩ : ∃ q, q = x_5 + 1 := ⟨_, rfl⟩
      have ty_19 : y_19.toInt = x_5.toInt + 1 := xI_add rfl rfl ey_19 ((by first | exact ok_21 f_8.1 | omega)) ((by first | exact ok_196 f_8.2 | omega))
      refine lv_iinc (v := y_19) (lv' := [(3, .int y_19), (0, .ref (a 0)), (1, .int p0), (2, .int p1)]) hx hb dX11_fitsAll_37 hl (k := 0) rfl (by rw [ey_19]; rfl) (lt_b rfl) rfl (fun ls hl => ?_)
      refine lv_goto (tgt := 2) hx hb dX11_fitsAll_40 rfl ?_
      exact ih_3 (20 - y_19.toInt : Int).toNat (by omega) _ _ _ ⟨G_13, y_19, (Int.toNat_of_nonneg ((by first | exact ok_473 f_8.2 b_10.2 c_11 ty_19 | omega))), ⟨(by first | exact ok_23 f_8.1 ty_19 | omega), (by first | exact ok_474 f_8.2 b_10.2 c_11 ty_19 | omega)⟩, (hX_6.st (St_k_wFitsAll_1_1_mk ⟨x_5, G_1, y_19, G_13, rfl, rfl, f_8, hB_G_1, ⟨c_11, ⟨r_12, G_13, hX_16, (Or.inl ⟨c_18, ⟨y_19, ty_19, ⟨rfl, rfl⟩⟩⟩)⟩⟩⟩)), hW, hB_G_13, hF, (Fr.call9 (rs := [37, 38, 39]) (fs := [(6, 3)]) (Fr.call9 (rs := [37, 38, 39]) (fs := [(6, 3)]) Fr.rf hq_2 rfl rfl) hq_14 rfl rfl), hS, lv_sub hl [0, 1, 2, 3] rfl⟩
    · have c_18 : r_12.toInt ≠ 0 := xI_ne rfl rfl c_18
      refine lv_aload_n hx hb dX11_fitsAll_25 rfl (lv_at hl 1 rfl) ?_
      refine lv_iload_n hx hb dX11_fitsAll_26 rfl (lv_at hl 0 rfl) ?_
      refine lv_iload_n hx hb dX11_fitsAll_27 rfl (lv_at hl 2 rfl) ?_
      refine ic_0 hx hb dX11_fitsAll_28 ?_
      refine S_calli (va_runV (As := [.int x_5, .int p0, .int 0]) (rest := []) ⟨hx, hb, hml, hown, hts⟩ (k_wLSight_1 l D k A a z G_13 x_5 p0 0 ⟨(by first | exact f_8.1 | omega), (by first | exact ok_472 f_8.2 b_10.2 c_11 | omega)⟩ ⟨by decide, by decide⟩ ((((hq_14.r9 0 0 rfl rfl).trans (hq_2.r9 0 0 rfl rfl))).trans (hv_0_0)) ((((hq_14.r9 0 1 rfl rfl).trans (hq_2.r9 0 1 rfl rfl))).trans (hv_0_1)) ((((hq_14.r9 6 4 rfl rfl).trans (hq_2.r9 6 4 rfl rfl))).trans (hv_6_4))) (cwV 3 hts (gd_V hgd m1275 m1277 m46 m117 m1278) rfl rfl rfl hd_X11_isLawfulSight ⟨Nat.le_of_ble_eq_true rfl, Nat.le_of_ble_eq_true rfl⟩) (pre_W hW hB_G_13 hK hZ hS kd_0 rfl) rfl rfl hl.1 rfl (lv_room (Nat.le_of_ble_eq_true rfl)) dX11_fitsAll_29 ⟨Nat.le_of_ble_eq_true rfl, Nat.le_of_ble_eq_true rfl⟩) hS (fun r_20 G_21 H locs hpo hW hS => ?_)
      have hX_24 : P_wLSight_1 x_5 p0 0 G_13 r_20 G_21 := hpo
      obtain ⟨hB_G_21, hq_22, f_25, -⟩ := hpo
      have hF := hF.call9 hq_22 rfl rfl
      refine lv_if_ne (tgt := 37) hx hb dX11_fitsAll_32 rfl (fun c_26 => ?_) (fun c_26 => ?_)
      · have c_26 : r_20.toInt ≠ 0 := xI_ne rfl rfl c_26
        obtain ⟨y_27, ey_27⟩ : ∃ q, q = x_5 + 1 := ⟨_, rfl⟩
        have ty_27 : y_27.toInt = x_5.toInt + 1 := xI_add rfl rfl ey_27 ((by first | exact ok_21 f_8.1 | omega)) ((by first | exact ok_196 f_8.2 | omega))
        refine lv_iinc (v := y_27) (lv' := [(3, .int y_27), (0, .ref (a 0)), (1, .int p0), (2, .int p1)]) hx hb dX11_fitsAll_37 hl (k := 0) rfl (by rw [ey_27]; rfl) (lt_b rfl) rfl (fun ls hl => ?_)
        refine lv_goto (tgt := 2) hx hb dX11_fitsAll_40 rfl ?_
        exact ih_3 (20 - y_27.toInt : Int).toNat ((by first | (clear f_17 c_18 f_25 c_26; omega) | omega)) _ _ _ ⟨G_21, y_27, (Int.toNat_of_nonneg ((by first | exact ok_473 f_8.2 b_10.2 c_11 ty_27 | omega))), ⟨(by first | exact ok_23 f_8.1 ty_27 | omega), (by first | exact ok_474 f_8.2 b_10.2 c_11 ty_27 | omega)⟩, (hX_6.st (St_k_wFitsAll_1_1_mk ⟨x_5, G_1, y_27, G_21, rfl, rfl, f_8, hB_G_1, ⟨c_11, ⟨r_12, G_13, hX_16, (Or.inr ⟨c_18, ⟨r_20, G_21, hX_24, ⟨c_26, ⟨y_27, ty_27, ⟨rfl, rfl⟩⟩⟩⟩⟩)⟩⟩⟩)), hW, hB_G_21, hF, (Fr.call9 (rs := [37, 38, 39]) (fs := [(6, 3)]) (Fr.call9 (rs := [37, 38, 39]) (fs := [(6, 3)]) (Fr.call9 (rs := [37, 38, 39]) (fs := [(6, 3)]) Fr.rf hq_2 rfl rfl) hq_14 rfl rfl) hq_22 rfl rfl), hS, lv_sub hl [0, 1, 2, 3] rfl⟩
      · have c_26 : r_20.toInt = 0 := xI_eq rfl rfl c_26
        refine ic_0 hx hb dX11_fitsAll_35 ?_
        exact W.zret (v := 0) hx hb hr (by decide) (fun t ht _ => ⟨⟨0, G_21, rfl, (P_wFitsAll_1_mk ⟨hB_G_21, hF, ⟨by decide, by decide⟩, ⟨x_5, G_1, hX_6, f_8, hB_G_1, hq_2, (Or.inr ⟨c_11, ⟨r_12, G_13, hX_16, ⟨c_18, ⟨r_20, G_21, hX_24, ⟨c_26, ⟨rfl, rfl⟩⟩⟩⟩⟩⟩)⟩⟩), wd_t ht hW⟩, hS.F ht⟩) hS.2.2 dX11_fitsAll_36

set_option maxHeartbeats 4000000 in
set_option maxRecDepth 100000 in
theorem k_wNear_1 (l : Launch) (D : va_G) (k : KT) (A : Nat → Prop) (a : Nat → Nat) (z : SK) (G : GS) (p0 : Int32) (p1 : Int32) (p2 : Int32) (ha_p0 : 0 ≤ p0.toInt ∧ p0.toInt ≤ 19) (ha_p2 : 0 ≤ p2.toInt ∧ p2.toInt ≤ 1) (hv_0_0 : G.2.2 0 0 = 1) (hv_0_1 : G.2.2 0 1 = 2) (hv_6_4 : G.2.2 6 4 = 1) : Met l yX11_heelsNear (WS yX11_heelsNear cX11_heelsNear 6 (some .int)) ({ frames := 5, cells := 0, slots := 0, locals := 120 }) (va_Pc [.ref (a 0), .int p0, .int p1, .int p2] (cW D k A a z G)) (va_Qi (fun (r : Int32) (G1 : GS) => P_wNear_1 p0 p1 p2 G r G1) (fun (G1 : GS) t => Wd D k A a G1 t.heap) A) 0 0 A := by
  refine Met.ofW (cc := cX11_heelsNear) (maxL := 6) (ret := (some .int)) (by decide) rfl ?_
  intro p e s m args below meth c s₁ B hml hv
  obtain ⟨rfl, hW, hB_G, hK, hZ⟩ := hv
  have hx := B.exec
  have hb := B.bytes
  have hr := B.returns
  have hts := atoms_spec (ws := WS yX11_heelsNear cX11_heelsNear 6 (some .int)) B.pre
  have hgd : ∀ w ∈ gd, w ∈ WS yX11_heelsNear cX11_heelsNear 6 (some .int) := fun w h => List.mem_cons_of_mem _ h
  have hg : ∀ w ∈ gd, w.before _ s = true := fun w h => hts w (hgd w h)
  have hown : s.vm.findClass RX11 = some m.cls := findClass_of_methodNamed B.named
  have hS : va_S A s.heap s.heap [] := va_S.rf
  have hF : Fr [37, 38, 39] [(6, 3)] G G := Fr.rf
  have hl := lv_entry ([.ref (a 0), .int p0, .int p1, .int p2]) (n := 6) (Nat.le_of_ble_eq_true rfl)
  rw [lg_entry_eq]
  generalize (lg_sl ([.ref (a 0), .int p0, .int p1, .int p2]) ++ List.replicate (6 - (lg_sl ([.ref (a 0), .int p0, .int p1, .int p2])).length) Slot.unset).toArray = ls at hl ⊢
  have hl : lv_has ls 6 [(0, .ref (a 0)), (1, .int p0), (2, .int p1), (3, .int p2)] := hl
  refine ic_0 hx hb dX11_heelsNear_0 ?_
  refine lv_istore (lv' := [(4, .int 0), (0, .ref (a 0)), (1, .int p0), (2, .int p1), (3, .int p2)]) hx hb dX11_heelsNear_1 hl (lt_b rfl) rfl (fun ls hl => ?_)
  refine lv_bipush (v := (-3)) hx hb dX11_heelsNear_3 (by decide) ?_
  refine lv_istore (lv' := [(5, .int (-3)), (4, .int 0), (0, .ref (a 0)), (1, .int p0), (2, .int p1), (3, .int p2)]) hx hb dX11_heelsNear_5 hl (lt_b rfl) rfl (fun ls hl => ?_)
  have qc_8 : ((-3) : Int32).toInt = (-3) := rfl
  have qc_9 : (0 : Int32).toInt = 0 := rfl
  refine loop_N (Inv := fun n H locs ls => ∃ (G_1 : GS) (x_5 : Int32) (x_6 : Int32), (n : Int) = 4 - x_5.toInt ∧ ((-3) ≤ x_5.toInt ∧ x_5.toInt ≤ 4) ∧ Rc (St_k_wNear_1_1 p0 p1 p2) ((-3), 0, G) (x_5, x_6, G_1) ∧ Wd D k A a G_1 H ∧ Bd G_1 ∧ Fr [37, 38, 39] [(6, 3)] G G_1 ∧ Fr [37, 38, 39] [(6, 3)] G G_1 ∧ va_S A s.heap H locs ∧ lv_has ls 6 [(5, .int x_5), (4, .int x_6), (0, .ref (a 0)), (1, .int p0), (2, .int p1), (3, .int p2)]) (fun n_4 H locs ls ih_3 hI => ?_) (4 - (-3) : Int).toNat ⟨G, (-3), 0, (Int.toNat_of_nonneg ((by decide))), ⟨(by decide), (by decide)⟩, Rc.rf, hW, hB_G, hF, Fr.rf, hS, lv_sub hl [0, 1, 2, 3, 4, 5] rfl⟩
  obtain ⟨G_1, x_5, x_6, hn_11, f_10, hX_7, hW, hB_G_1, hF, hq_2, hS, hl⟩ := hI
  refine lv_iload hx hb dX11_heelsNear_7 (lv_at hl 0 rfl) ?_
  refine ic_3 hx hb dX11_heelsNear_9 ?_
  refine lv_icmp_gt (tgt := 77) hx hb dX11_heelsNear_10 rfl (fun c_12 => ?_) (fun c_12 => ?_)
  · have c_12 : 3 < x_5.toInt := xI_lt rfl rfl c_12
    refine lv_iload hx hb dX11_heelsNear_77 (lv_at hl 1 rfl) ?_
    exact W.iret (v := x_6) hx hb hr (fun t ht _ => ⟨⟨x_6, G_1, rfl, (P_wNear_1_mk ⟨hB_G_1, hF, ⟨x_5, x_6, G_1, hX_7, f_10, hB_G_1, hq_2, ⟨c_12, ⟨rfl, rfl⟩⟩⟩⟩), wd_t ht hW⟩, hS.F ht⟩) hS.2.2 dX11_heelsNear_79
  · have c_12 : x_5.toInt ≤ 3 := xI_nlt rfl rfl c_12
    refine lv_aload_n hx hb dX11_heelsNear_13 rfl (lv_at hl 2 rfl) ?_
    refine S_getV (n := 1) (C := RX11) (T := TX11) (N := 13) hx hb hg iX11 hown hK hW kd_0 rfl 0 (lt_b rfl) (hg (Cond.fieldLink RX11 10 "SlabWalk" "paving" "LSlabWalk$Paving;") m570) (fun _ h9 => h9) rfl (((hq_2.r9 0 0 rfl rfl)).trans (hv_0_0)) dX11_heelsNear_14 ?_
    refine lv_aload_n hx hb dX11_heelsNear_17 rfl (lv_at hl 2 rfl) ?_
    refine S_getR (n := 31) (C := RX11) (T := TX11) (N := 13) hx hb hg iX11 hown hK hW kd_0 rfl 9 (lt_b rfl) (hg (Cond.fieldLink RX11 72 "SlabWalk" "sights" "LSlabWalk$Sights;") m579) (fun _ h9 => h9) rfl dX11_heelsNear_18 ?_
    refine S_getR (n := 61) (C := RX8) (T := TX8) (N := 7) hx hb hg iX8 hown hK hW kd_31 rfl 0 (lt_b rfl) (hg (Cond.fieldLink RX11 365 "SlabWalk$Sights" "walker" "[I") m521) (fun _ h9 => h9) rfl dX11_heelsNear_21 ?_
    refine lv_iload_n hx hb dX11_heelsNear_24 rfl (lv_at hl 3 rfl) ?_
    refine S_iald hx hb hK hW kd_61 (vin ((by first | exact ha_p0.1 | omega)) ((by first | exact ok_199 ha_p0.2 | omega))) dX11_heelsNear_25 (fun y_13 ey_13 => ?_)
    refine lv_aload_n hx hb dX11_heelsNear_26 rfl (lv_at hl 2 rfl) ?_
    refine S_getR (n := 31) (C := RX11) (T := TX11) (N := 13) hx hb hg iX11 hown hK hW kd_0 rfl 9 (lt_b rfl) (hg (Cond.fieldLink RX11 72 "SlabWalk" "sights" "LSlabWalk$Sights;") m579) (fun _ h9 => h9) rfl dX11_heelsNear_27 ?_
    refine S_getR (n := 62) (C := RX8) (T := TX8) (N := 7) hx hb hg iX8 hown hK hW kd_31 rfl 1 (lt_b rfl) (hg (Cond.fieldLink RX11 362 "SlabWalk$Sights" "street" "[I") m523) (fun _ h9 => h9) rfl dX11_heelsNear_30 ?_
    refine lv_iload_n hx hb dX11_heelsNear_33 rfl (lv_at hl 3 rfl) ?_
    refine S_iald hx hb hK hW kd_62 (vin ((by first | exact ha_p0.1 | omega)) ((by first | exact ok_199 ha_p0.2 | omega))) dX11_heelsNear_34 (fun y_14 ey_14 => ?_)
    refine lv_aload_n hx hb dX11_heelsNear_35 rfl (lv_at hl 2 rfl) ?_
    refine S_getR (n := 31) (C := RX11) (T := TX11) (N := 13) hx hb hg iX11 hown hK hW kd_0 rfl 9 (lt_b rfl) (hg (Cond.fieldLink RX11 72 "SlabWalk" "sights" "LSlabWalk$Sights;") m579) (fun _ h9 => h9) rfl dX11_heelsNear_36 ?_
    refine S_getR (n := 63) (C := RX8) (T := TX8) (N := 7) hx hb hg iX8 hown hK hW kd_31 rfl 2 (lt_b rfl) (hg (Cond.fieldLink RX11 359 "SlabWalk$Sights" "heel" "[I") m525) (fun _ h9 => h9) rfl dX11_heelsNear_39 ?_
    refine lv_iload_n hx hb dX11_heelsNear_42 rfl (lv_at hl 3 rfl) ?_
    refine S_iald hx hb hK hW kd_63 (vin ((by first | exact ha_p0.1 | omega)) ((by first | exact ok_199 ha_p0.2 | omega))) dX11_heelsNear_43 (fun y_15 ey_15 => ?_)
    refine lv_iload hx hb dX11_heelsNear_44 (lv_at hl 0 rfl) ?_
    refine lv_iadd hx hb dX11_heelsNear_46 ?_
    refine lv_topi (fun y_16 ey_16 => ?_)
    have b_17 : 0 ≤ (G.1 1 10).toInt ∧ (G.1 1 10).toInt ≤ 4 := bd_1_10 hB_G
    have g_18 : (G_1.1 1 10).toInt = (G.1 1 10).toInt := (congrArg Int32.toInt (show G_1.1 1 10 = (G.1 1 10) from (hq_2.i9 1 10 rfl rfl)))
    refine S_calli (va_runV (As := [.int y_13, .int y_14, .int y_16]) (rest := []) ⟨hx, hb, hml, hown, hts⟩ (k_stands_1 l D k A a z G_1 y_13 y_14 y_16 ) (cwV 3 hts (gd_V hgd m1121 m966 m967 m118 m968) rfl rfl rfl hd_X6_stands ⟨Nat.le_of_ble_eq_true rfl, Nat.le_of_ble_eq_true rfl⟩) (pre_W hW hB_G_1 hK hZ hS kd_1 rfl) rfl rfl hl.1 rfl (lv_room (Nat.le_of_ble_eq_true rfl)) dX11_heelsNear_47 ⟨Nat.le_of_ble_eq_true rfl, Nat.le_of_ble_eq_true rfl⟩) hS (fun r_19 G_20 H locs hpo hW hS => ?_)
    have hX_23 : P_stands_1 y_13 y_14 y_16 G_1 r_19 G_20 := hpo
    obtain ⟨hB_G_20, hq_21, f_24, hp_22, -⟩ := hpo
    have hF := hF.call9 hq_21 rfl rfl
    refine lv_if_eq (tgt := 71) hx hb dX11_heelsNear_50 rfl (fun c_25 => ?_) (fun c_25 => ?_)
    · have c_25 : r_19.toInt = 0 := xI_eq rfl rfl c_25
      obtain ⟨y_26, ey_26⟩ : ∃ q, q = x_5 + 1 := ⟨_, rfl⟩
      have ty_26 : y_26.toInt = x_5.toInt + 1 := xI_add rfl rfl ey_26 ((by first | exact ok_475 f_10.1 | omega)) ((by first | exact ok_427 f_10.2 | omega))
      refine lv_iinc (v := y_26) (lv' := [(5, .int y_26), (4, .int x_6), (0, .ref (a 0)), (1, .int p0), (2, .int p1), (3, .int p2)]) hx hb dX11_heelsNear_71 hl (k := 0) rfl (by rw [ey_26]; rfl) (lt_b rfl) rfl (fun ls hl => ?_)
      refine lv_goto (tgt := 7) hx hb dX11_heelsNear_74 rfl ?_
      exact ih_3 (4 - y_26.toInt : Int).toNat ((by first | (clear ha_p0 ha_p2 b_17 g_18 f_24 hp_22 c_25; omega) | omega)) _ _ _ ⟨G_20, y_26, x_6, (Int.toNat_of_nonneg ((by first | exact ok_476 f_10.2 c_12 ty_26 | omega))), ⟨(by first | exact ok_477 f_10.1 ty_26 | omega), (by first | exact ok_478 f_10.2 c_12 ty_26 | omega)⟩, (hX_7.st (St_k_wNear_1_1_mk ⟨x_5, x_6, G_1, y_26, x_6, G_20, rfl, rfl, f_10, hB_G_1, ⟨c_12, ⟨y_13, ey_13, ⟨y_14, ey_14, ⟨y_15, ey_15, ⟨y_16, ey_16, ⟨r_19, G_20, hX_23, (Or.inl ⟨c_25, ⟨y_26, ty_26, ⟨rfl, rfl, rfl⟩⟩⟩)⟩⟩⟩⟩⟩⟩⟩)), hW, hB_G_20, hF, (Fr.call9 (rs := [37, 38, 39]) (fs := [(6, 3)]) (Fr.call9 (rs := [37, 38, 39]) (fs := [(6, 3)]) Fr.rf hq_2 rfl rfl) hq_21 rfl rfl), hS, lv_sub hl [0, 1, 2, 3, 4, 5] rfl⟩
    · have c_25 : r_19.toInt ≠ 0 := xI_ne rfl rfl c_25
      refine lv_iload_n hx hb dX11_heelsNear_53 rfl (lv_at hl 5 rfl) ?_
      refine lv_if_eq (tgt := 68) hx hb dX11_heelsNear_54 rfl (fun c_27 => ?_) (fun c_27 => ?_)
      · have c_27 : p2.toInt = 0 := xI_eq rfl rfl c_27
        obtain ⟨y_28, ey_28⟩ : ∃ q, q = x_6 + 1 := ⟨_, rfl⟩
        refine lv_iinc (v := y_28) (lv' := [(4, .int y_28), (5, .int x_5), (0, .ref (a 0)), (1, .int p0), (2, .int p1), (3, .int p2)]) hx hb dX11_heelsNear_68 hl (k := 1) rfl (by rw [ey_28]; rfl) (lt_b rfl) rfl (fun ls hl => ?_)
        obtain ⟨y_29, ey_29⟩ : ∃ q, q = x_5 + 1 := ⟨_, rfl⟩
        have ty_29 : y_29.toInt = x_5.toInt + 1 := xI_add rfl rfl ey_29 ((by first | exact ok_475 f_10.1 | omega)) ((by first | exact ok_427 f_10.2 | omega))
        refine lv_iinc (v := y_29) (lv' := [(5, .int y_29), (4, .int y_28), (0, .ref (a 0)), (1, .int p0), (2, .int p1), (3, .int p2)]) hx hb dX11_heelsNear_71 hl (k := 1) rfl (by rw [ey_29]; rfl) (lt_b rfl) rfl (fun ls hl => ?_)
        refine lv_goto (tgt := 7) hx hb dX11_heelsNear_74 rfl ?_
        exact ih_3 (4 - y_29.toInt : Int).toNat ((by first | (clear ha_p0 ha_p2 b_17 g_18 f_24 hp_22 c_25 c_27; omega) | omega)) _ _ _ ⟨G_20, y_29, y_28, (Int.toNat_of_nonneg ((by first | exact ok_476 f_10.2 c_12 ty_29 | omega))), ⟨(by first | exact ok_477 f_10.1 ty_29 | omega), (by first | exact ok_478 f_10.2 c_12 ty_29 | omega)⟩, (hX_7.st (St_k_wNear_1_1_mk ⟨x_5, x_6, G_1, y_29, y_28, G_20, rfl, rfl, f_10, hB_G_1, ⟨c_12, ⟨y_13, ey_13, ⟨y_14, ey_14, ⟨y_15, ey_15, ⟨y_16, ey_16, ⟨r_19, G_20, hX_23, (Or.inr ⟨c_25, (Or.inl ⟨c_27, ⟨y_28, ey_28, ⟨y_29, ty_29, ⟨rfl, rfl, rfl⟩⟩⟩⟩)⟩)⟩⟩⟩⟩⟩⟩⟩)), hW, hB_G_20, hF, (Fr.call9 (rs := [37, 38, 39]) (fs := [(6, 3)]) (Fr.call9 (rs := [37, 38, 39]) (fs := [(6, 3)]) Fr.rf hq_2 rfl rfl) hq_21 rfl rfl), hS, lv_sub hl [0, 1, 2, 3, 4, 5] rfl⟩
      · have c_27 : p2.toInt ≠ 0 := xI_ne rfl rfl c_27
        refine lv_aload_n hx hb dX11_heelsNear_57 rfl (lv_at hl 2 rfl) ?_
        refine lv_iload_n hx hb dX11_heelsNear_58 rfl (lv_at hl 3 rfl) ?_
        refine lv_iload_n hx hb dX11_heelsNear_59 rfl (lv_at hl 4 rfl) ?_
        refine lv_iload hx hb dX11_heelsNear_60 (lv_at hl 0 rfl) ?_
        refine S_calli (va_runV (As := [.int p0, .int p1, .int x_5]) (rest := []) ⟨hx, hb, hml, hown, hts⟩ (k_wLSight_1 l D k A a z G_20 p0 p1 x_5 ⟨(by first | exact ha_p0.1 | omega), (by first | exact ha_p0.2 | omega)⟩ ⟨(by first | exact f_10.1 | omega), (by first | exact c_12 | omega)⟩ ((((hq_21.r9 0 0 rfl rfl).trans (hq_2.r9 0 0 rfl rfl))).trans (hv_0_0)) ((((hq_21.r9 0 1 rfl rfl).trans (hq_2.r9 0 1 rfl rfl))).trans (hv_0_1)) ((((hq_21.r9 6 4 rfl rfl).trans (hq_2.r9 6 4 rfl rfl))).trans (hv_6_4))) (cwV 3 hts (gd_V hgd m1275 m1277 m46 m117 m1278) rfl rfl rfl hd_X11_isLawfulSight ⟨Nat.le_of_ble_eq_true rfl, Nat.le_of_ble_eq_true rfl⟩) (pre_W hW hB_G_20 hK hZ hS kd_0 rfl) rfl rfl hl.1 rfl (lv_room (Nat.le_of_ble_eq_true rfl)) dX11_heelsNear_62 ⟨Nat.le_of_ble_eq_true rfl, Nat.le_of_ble_eq_true rfl⟩) hS (fun r_30 G_31 H locs hpo hW hS => ?_)
        have hX_34 : P_wLSight_1 p0 p1 x_5 G_20 r_30 G_31 := hpo
        obtain ⟨hB_G_31, hq_32, f_35, -⟩ := hpo
        have hF := hF.call9 hq_32 rfl rfl
        refine lv_if_eq (tgt := 71) hx hb dX11_heelsNear_65 rfl (fun c_36 => ?_) (fun c_36 => ?_)
        · have c_36 : r_30.toInt = 0 := xI_eq rfl rfl c_36
          obtain ⟨y_37, ey_37⟩ : ∃ q, q = x_5 + 1 := ⟨_, rfl⟩
          have ty_37 : y_37.toInt = x_5.toInt + 1 := xI_add rfl rfl ey_37 ((by first | exact ok_475 f_10.1 | omega)) ((by first | exact ok_427 f_10.2 | omega))
          refine lv_iinc (v := y_37) (lv' := [(5, .int y_37), (4, .int x_6), (0, .ref (a 0)), (1, .int p0), (2, .int p1), (3, .int p2)]) hx hb dX11_heelsNear_71 hl (k := 0) rfl (by rw [ey_37]; rfl) (lt_b rfl) rfl (fun ls hl => ?_)
          refine lv_goto (tgt := 7) hx hb dX11_heelsNear_74 rfl ?_
          exact ih_3 (4 - y_37.toInt : Int).toNat ((by first | (clear ha_p0 ha_p2 b_17 g_18 f_24 hp_22 c_25 c_27 f_35 c_36; omega) | omega)) _ _ _ ⟨G_31, y_37, x_6, (Int.toNat_of_nonneg ((by first | exact ok_476 f_10.2 c_12 ty_37 | omega))), ⟨(by first | exact ok_477 f_10.1 ty_37 | omega), (by first | exact ok_478 f_10.2 c_12 ty_37 | omega)⟩, (hX_7.st (St_k_wNear_1_1_mk ⟨x_5, x_6, G_1, y_37, x_6, G_31, rfl, rfl, f_10, hB_G_1, ⟨c_12, ⟨y_13, ey_13, ⟨y_14, ey_14, ⟨y_15, ey_15, ⟨y_16, ey_16, ⟨r_19, G_20, hX_23, (Or.inr ⟨c_25, (Or.inr ⟨c_27, ⟨r_30, G_31, hX_34, (Or.inl ⟨c_36, ⟨y_37, ty_37, ⟨rfl, rfl, rfl⟩⟩⟩)⟩⟩)⟩)⟩⟩⟩⟩⟩⟩⟩)), hW, hB_G_31, hF, (Fr.call9 (rs := [37, 38, 39]) (fs := [(6, 3)]) (Fr.call9 (rs := [37, 38, 39]) (fs := [(6, 3)]) (Fr.call9 (rs := [37, 38, 39]) (fs := [(6, 3)]) Fr.rf hq_2 rfl rfl) hq_21 rfl rfl) hq_32 rfl rfl), hS, lv_sub hl [0, 1, 2, 3, 4, 5] rfl⟩
        · have c_36 : r_30.toInt ≠ 0 := xI_ne rfl rfl c_36
          obtain ⟨y_38, ey_38⟩ : ∃ q, q = x_6 + 1 := ⟨_, rfl⟩
          refine lv_iinc (v := y_38) (lv' := [(4, .int y_38), (5, .int x_5), (0, .ref (a 0)), (1, .int p0), (2, .int p1), (3, .int p2)]) hx hb dX11_heelsNear_68 hl (k := 1) rfl (by rw [ey_38]; rfl) (lt_b rfl) rfl (fun ls hl => ?_)
          obtain ⟨y_39, ey_39⟩ : ∃ q, q = x_5 + 1 := ⟨_, rfl⟩
          have ty_39 : y_39.toInt = x_5.toInt + 1 := xI_add rfl rfl ey_39 ((by first | exact ok_475 f_10.1 | omega)) ((by first | exact ok_427 f_10.2 | omega))
          refine lv_iinc (v := y_39) (lv' := [(5, .int y_39), (4, .int y_38), (0, .ref (a 0)), (1, .int p0), (2, .int p1), (3, .int p2)]) hx hb dX11_heelsNear_71 hl (k := 1) rfl (by rw [ey_39]; rfl) (lt_b rfl) rfl (fun ls hl => ?_)
          refine lv_goto (tgt := 7) hx hb dX11_heelsNear_74 rfl ?_
          exact ih_3 (4 - y_39.toInt : Int).toNat ((by first | (clear ha_p0 ha_p2 b_17 g_18 f_24 hp_22 c_25 c_27 f_35 c_36; omega) | omega)) _ _ _ ⟨G_31, y_39, y_38, (Int.toNat_of_nonneg ((by first | exact ok_476 f_10.2 c_12 ty_39 | omega))), ⟨(by first | exact ok_477 f_10.1 ty_39 | omega), (by first | exact ok_478 f_10.2 c_12 ty_39 | omega)⟩, (hX_7.st (St_k_wNear_1_1_mk ⟨x_5, x_6, G_1, y_39, y_38, G_31, rfl, rfl, f_10, hB_G_1, ⟨c_12, ⟨y_13, ey_13, ⟨y_14, ey_14, ⟨y_15, ey_15, ⟨y_16, ey_16, ⟨r_19, G_20, hX_23, (Or.inr ⟨c_25, (Or.inr ⟨c_27, ⟨r_30, G_31, hX_34, (Or.inr ⟨c_36, ⟨y_38, ey_38, ⟨y_39, ty_39, ⟨rfl, rfl, rfl⟩⟩⟩⟩)⟩⟩)⟩)⟩⟩⟩⟩⟩⟩⟩)), hW, hB_G_31, hF, (Fr.call9 (rs := [37, 38, 39]) (fs := [(6, 3)]) (Fr.call9 (rs := [37, 38, 39]) (fs := [(6, 3)]) (Fr.call9 (rs := [37, 38, 39]) (fs := [(6, 3)]) Fr.rf hq_2 rfl rfl) hq_21 rfl rfl) hq_32 rfl rfl), hS, lv_sub hl [0, 1, 2, 3, 4, 5] rfl⟩
