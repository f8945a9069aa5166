

set_option maxHeartbeats 4000000 in
set_option maxRecDepth 100000 in
theorem k_mempty_19 (l : Launch) (D : va_G) (k : KT) (A : Nat → Prop) (a : Nat → Nat) (z : SK) (G : GS)   : Met l yX4_empty (WS yX4_empty cX4_empty 1 none) ({ frames := 0, cells := 0, slots := 0, locals := 0 }) (va_Pc [.ref (a 19)] (cW D k A a z G)) (va_Qv (fun (G1 : GS) => P_mempty_19 G G1) (fun (G1 : GS) t => Wd D k A a G1 t.heap) A) 0 0 A := by
  refine Met.ofW (cc := cX4_empty) (maxL := 1) (ret := none) (by decide) rfl ?_
  intro p e s m args below meth c s₁ B hml hv
  obtain ⟨rfl, hW, hB_G, hK, hZ⟩ := hv
  have hx := B.exec
  have hb := B.bytes
  have hr := B.returns
  have hts := atoms_spec (ws := WS yX4_empty cX4_empty 1 none) B.pre
  have hgd : ∀ w ∈ gd, w ∈ WS yX4_empty cX4_empty 1 none := fun w h => List.mem_cons_of_mem _ h
  have hg : ∀ w ∈ gd, w.before _ s = true := fun w h => hts w (hgd w h)
  have hown : s.vm.findClass RX4 = some m.cls := findClass_of_methodNamed B.named
  have hS : va_S A s.heap s.heap [] := va_S.rf
  have hF : Fr [] [(19, 2), (19, 3)] G G := Fr.rf
  have hl := lv_entry ([.ref (a 19)]) (n := 1) (Nat.le_of_ble_eq_true rfl)
  rw [lg_entry_eq]
  generalize (lg_sl ([.ref (a 19)]) ++ List.replicate (1 - (lg_sl ([.ref (a 19)])).length) Slot.unset).toArray = ls at hl ⊢
  have hl : lv_has ls 1 [(0, .ref (a 19))] := hl
  refine lv_aload_n hx hb dX4_empty_0 rfl (lv_at hl 0 rfl) ?_
  refine ic_0 hx hb dX4_empty_1 ?_
  refine S_putI (ty := .int) (C := RX4) (T := TX4) (N := 4) hx hb hg iX4 tyX4 tyX4_ok nmX4 hown hK hW hS kd_19 rfl 2 (lt_b rfl) (hg (Cond.fieldLink RX4 18 "SlabWalk$Minima" "head" "I") m429) (fun _ h9 => h9) rfl (by decide +kernel) rfl rfl rfl dX4_empty_2 (fun G_1 H locs eG_1 hW hS => ?_)
  have hB_G_1 : Bd G_1 := hB_G.put (V := 0) (lo := 0) (hi := 400) eG_1 rfl rfl rfl (by decide) (by decide) (hB_G.2.put eG_1 rfl)
  have hF := hF.put eG_1 (Or.inr (by decide))
  refine lv_aload_n hx hb dX4_empty_5 rfl (lv_at hl 0 rfl) ?_
  refine ic_0 hx hb dX4_empty_6 ?_
  refine S_putI (ty := .int) (C := RX4) (T := TX4) (N := 4) hx hb hg iX4 tyX4 tyX4_ok nmX4 hown hK hW hS kd_19 rfl 3 (lt_b rfl) (hg (Cond.fieldLink RX4 22 "SlabWalk$Minima" "tail" "I") m430) (fun _ h9 => h9) rfl (by decide +kernel) rfl rfl rfl dX4_empty_7 (fun G_2 H locs eG_2 hW hS => ?_)
  have hB_G_2 : Bd G_2 := hB_G_1.put (V := 0) (lo := 0) (hi := 400) eG_2 rfl rfl rfl (by decide) (by decide) (hB_G_1.2.put eG_2 rfl)
  have hF := hF.put eG_2 (Or.inr (by decide))
  exact W.vret hx hb hr (fun t ht _ => ⟨⟨G_2, rfl, (P_mempty_19_mk ⟨hB_G_2, hF, ⟨(Fr.put (rs := []) (fs := [(19, 2), (19, 3)]) (Fr.put (rs := []) (fs := [(19, 2), (19, 3)]) Fr.rf eG_1 (Or.inr (by decide))) eG_2 (Or.inr (by decide))), ((gp_ne eG_2 (by decide)).trans (gp_eq eG_1)), (gp_eq eG_2)⟩⟩), wd_t ht hW⟩, hS.F ht⟩) hS.2.2 dX4_empty_10

set_option maxHeartbeats 4000000 in
set_option maxRecDepth 100000 in
theorem k_madd_19 (l : Launch) (D : va_G) (k : KT) (A : Nat → Prop) (a : Nat → Nat) (z : SK) (G : GS) (p0 : Int32) (p1 : Int32)  : Met l yX4_add (WS yX4_add cX4_add 3 none) ({ frames := 0, cells := 0, slots := 0, locals := 0 }) (va_Pc [.ref (a 19), .int p0, .int p1] (cW D k A a z G)) (va_Qv (fun (G1 : GS) => P_madd_19 p0 p1 G G1) (fun (G1 : GS) t => Wd D k A a G1 t.heap) A) 0 0 A := by
  refine Met.ofW (cc := cX4_add) (maxL := 3) (ret := none) (by decide) rfl ?_
  intro p e s m args below meth c s₁ B hml hv
  obtain ⟨rfl, hW, hB_G, hK, hZ⟩ := hv
  have hx := B.exec
  have hb := B.bytes
  have hr := B.returns
  have hts := atoms_spec (ws := WS yX4_add cX4_add 3 none) B.pre
  have hgd : ∀ w ∈ gd, w ∈ WS yX4_add cX4_add 3 none := fun w h => List.mem_cons_of_mem _ h
  have hg : ∀ w ∈ gd, w.before _ s = true := fun w h => hts w (hgd w h)
  have hown : s.vm.findClass RX4 = some m.cls := findClass_of_methodNamed B.named
  have hS : va_S A s.heap s.heap [] := va_S.rf
  have hF : Fr [50, 51] [(19, 3)] G G := Fr.rf
  have hl := lv_entry ([.ref (a 19), .int p0, .int p1]) (n := 3) (Nat.le_of_ble_eq_true rfl)
  rw [lg_entry_eq]
  generalize (lg_sl ([.ref (a 19), .int p0, .int p1]) ++ List.replicate (3 - (lg_sl ([.ref (a 19), .int p0, .int p1])).length) Slot.unset).toArray = ls at hl ⊢
  have hl : lv_has ls 3 [(0, .ref (a 19)), (1, .int p0), (2, .int p1)] := hl
  have b_6 : 0 ≤ (G.1 19 3).toInt ∧ (G.1 19 3).toInt ≤ 400 := bd_19_3 hB_G
  refine loop_N (Inv := fun n H locs ls => ∃ (G_1 : GS), (n : Int) = (G_1.1 19 3).toInt ∧ Rc (St_k_madd_19_1 p1 G) G G_1 ∧ Wd D k A a G_1 H ∧ Bd G_1 ∧ Fr [50, 51] [(19, 3)] G G_1 ∧ Fr [] [(19, 3)] G G_1 ∧ va_S A s.heap H locs ∧ lv_has ls 3 [(0, .ref (a 19)), (1, .int p0), (2, .int p1)]) (fun n_4 H locs ls ih_3 hI => ?_) ((G.1 19 3).toInt : Int).toNat ⟨G, (Int.toNat_of_nonneg (by omega)), Rc.rf, hW, hB_G, hF, Fr.rf, hS, lv_sub hl [0, 1, 2] rfl⟩
  obtain ⟨G_1, hn_7, hX_5, hW, hB_G_1, hF, hq_2, hS, hl⟩ := hI
  refine lv_aload_n hx hb dX4_add_0 rfl (lv_at hl 0 rfl) ?_
  have b_8 : 0 ≤ (G_1.1 19 3).toInt ∧ (G_1.1 19 3).toInt ≤ 400 := bd_19_3 hB_G_1
  refine S_getI (v := (G_1.1 19 3)) (C := RX4) (T := TX4) (N := 4) hx hb hg iX4 hown hK hW kd_19 rfl 3 (lt_b rfl) (hg (Cond.fieldLink RX4 22 "SlabWalk$Minima" "tail" "I") m430) (fun _ h9 => h9) rfl rfl dX4_add_1 ?_
  refine lv_aload_n hx hb dX4_add_4 rfl (lv_at hl 0 rfl) ?_
  have b_9 : 0 ≤ (G.1 19 2).toInt ∧ (G.1 19 2).toInt ≤ 400 := bd_19_2 hB_G
  refine S_getI (v := (G.1 19 2)) (C := RX4) (T := TX4) (N := 4) hx hb hg iX4 hown hK hW kd_19 rfl 2 (lt_b rfl) (hg (Cond.fieldLink RX4 18 "SlabWalk$Minima" "head" "I") m429) (fun _ h9 => h9) rfl (hq_2.i9 19 2 rfl rfl) dX4_add_5 ?_
  refine W.cut (σ := Unit) (pcJ := 39) (J := fun y H locs ls => ∃ (G_13 : GS), Jn_k_madd_19_2 p1 G G_1 G_13 ∧ Wd D k A a G_13 H ∧ Bd G_13 ∧ Fr [50, 51] [(19, 3)] G G_13 ∧ Fr [] [] G_1 G_13 ∧ va_S A s.heap H locs ∧ lv_has ls 3 [(0, .ref (a 19)), (1, .int p0), (2, .int p1)]) (stJ := fun _ => []) ?_ (fun hJ_14 => ?_)
  · intro y H locs ls hI
    obtain ⟨G_13, hX_16, hW, hB_G_13, hF, hq_15, hS, hl⟩ := hI
    refine lv_aload_n hx hb dX4_add_39 rfl (lv_at hl 0 rfl) ?_
    refine S_getI (v := (G_1.1 19 3)) (C := RX4) (T := TX4) (N := 4) hx hb hg iX4 hown hK hW kd_19 rfl 3 (lt_b rfl) (hg (Cond.fieldLink RX4 22 "SlabWalk$Minima" "tail" "I") m430) (fun _ h9 => h9) rfl ((hq_15.i9 19 3 rfl rfl).trans (rfl)) dX4_add_40 ?_
    refine lv_sipush (v := 400) hx hb dX4_add_43 (by decide) ?_
    refine lv_icmp_ge (tgt := 76) hx hb dX4_add_46 rfl (fun c_17 => ?_) (fun c_17 => ?_)
    · have c_17 : 400 ≤ (G_1.1 19 3).toInt := xI_le rfl rfl c_17
      exact W.vret hx hb hr (fun t ht _ => ⟨⟨G_13, rfl, (P_madd_19_mk ⟨hB_G_13, hF, ⟨G_1, hX_5, hB_G_1, hq_2, ⟨G_13, hX_16, hB_G_13, hq_15, (Or.inl ⟨c_17, rfl⟩)⟩⟩⟩), wd_t ht hW⟩, hS.F ht⟩) hS.2.2 dX4_add_76
    · have c_17 : (G_1.1 19 3).toInt < 400 := xI_nle rfl rfl c_17
      refine lv_aload_n hx hb dX4_add_49 rfl (lv_at hl 0 rfl) ?_
      refine S_getR (n := 50) (C := RX4) (T := TX4) (N := 4) hx hb hg iX4 hown hK hW kd_19 rfl 0 (lt_b rfl) (hg (Cond.fieldLink RX4 9 "SlabWalk$Minima" "keys" "[I") m427) (fun _ h9 => h9) rfl dX4_add_50 ?_
      refine lv_aload_n hx hb dX4_add_53 rfl (lv_at hl 0 rfl) ?_
      refine S_getI (v := (G_1.1 19 3)) (C := RX4) (T := TX4) (N := 4) hx hb hg iX4 hown hK hW kd_19 rfl 3 (lt_b rfl) (hg (Cond.fieldLink RX4 22 "SlabWalk$Minima" "tail" "I") m430) (fun _ h9 => h9) rfl ((hq_15.i9 19 3 rfl rfl).trans (rfl)) dX4_add_54 ?_
      refine lv_iload_n hx hb dX4_add_57 rfl (lv_at hl 1 rfl) ?_
      refine S_iast hx hb hK hW hS kd_50 (vin ((by first | (clear b_6 hn_7 b_9; omega) | omega)) ((by first | (clear b_6 hn_7 b_9; omega) | omega))) dX4_add_58 (fun G_18 H locs eG_18 hW hS => ?_)
      have hB_G_18 : Bd G_18 := hB_G_13.put (lo := (-2147483648)) (hi := 2147483647) eG_18 rfl rfl rfl (tI_rng _).1 (tI_rng _).2 (hB_G_13.2.put eG_18 rfl)
      have hF := hF.put eG_18 (Or.inl (by decide))
      refine lv_aload_n hx hb dX4_add_59 rfl (lv_at hl 0 rfl) ?_
      refine S_getR (n := 51) (C := RX4) (T := TX4) (N := 4) hx hb hg iX4 hown hK hW kd_19 rfl 1 (lt_b rfl) (hg (Cond.fieldLink RX4 15 "SlabWalk$Minima" "values" "[I") m428) (fun _ h9 => h9) rfl dX4_add_60 ?_
      refine lv_aload_n hx hb dX4_add_63 rfl (lv_at hl 0 rfl) ?_
      refine lv_dup hx hb dX4_add_64 rfl ?_
      refine S_getI (v := (G_1.1 19 3)) (C := RX4) (T := TX4) (N := 4) hx hb hg iX4 hown hK hW kd_19 rfl 3 (lt_b rfl) (hg (Cond.fieldLink RX4 22 "SlabWalk$Minima" "tail" "I") m430) (fun _ h9 => h9) rfl ((gp_ne eG_18 (fun q => absurd q.1 (Nat.ne_of_beq_eq_false rfl))).trans ((hq_15.i9 19 3 rfl rfl).trans (rfl))) dX4_add_65 ?_
      refine lv_dup_x1 hx hb dX4_add_68 rfl rfl ?_
      refine ic_1 hx hb dX4_add_69 ?_
      refine lv_iadd hx hb dX4_add_70 ?_
      refine lv_topi (fun y_19 ey_19 => ?_)
      have ty_19 : y_19.toInt = (G_1.1 19 3).toInt + 1 := xI_add rfl rfl ey_19 ((by first | (clear b_6 hn_7 b_9; omega) | omega)) ((by first | (clear b_6 hn_7 b_9; omega) | omega))
      refine S_putI (ty := .int) (C := RX4) (T := TX4) (N := 4) hx hb hg iX4 tyX4 tyX4_ok nmX4 hown hK hW hS kd_19 rfl 3 (lt_b rfl) (hg (Cond.fieldLink RX4 22 "SlabWalk$Minima" "tail" "I") m430) (fun _ h9 => h9) rfl (by decide +kernel) rfl rfl rfl dX4_add_71 (fun G_20 H locs eG_20 hW hS => ?_)
      have hB_G_20 : Bd G_20 := hB_G_18.put (V := y_19.toInt) (lo := 0) (hi := 400) eG_20 rfl rfl rfl ((by first | (clear b_6 hn_7 b_9; omega) | omega)) ((by first | (clear b_6 hn_7 b_9; omega) | omega)) (hB_G_18.2.put eG_20 rfl)
      have hF := hF.put eG_20 (Or.inr (by decide))
      refine lv_iload_n hx hb dX4_add_74 rfl (lv_at hl 2 rfl) ?_
      refine S_iast hx hb hK hW hS kd_51 (vin ((by first | (clear b_6 hn_7 b_9; omega) | omega)) ((by first | (clear b_6 hn_7 b_9; omega) | omega))) dX4_add_75 (fun G_21 H locs eG_21 hW hS => ?_)
      have hB_G_21 : Bd G_21 := hB_G_20.put (lo := (-2147483648)) (hi := 2147483647) eG_21 rfl rfl rfl (tI_rng _).1 (tI_rng _).2 (hB_G_20.2.put eG_21 rfl)
      have hF := hF.put eG_21 (Or.inl (by decide))
      exact W.vret hx hb hr (fun t ht _ => ⟨⟨G_21, rfl, (P_madd_19_mk ⟨hB_G_21, hF, ⟨G_1, hX_5, hB_G_1, hq_2, ⟨G_13, hX_16, hB_G_13, hq_15, (Or.inr ⟨c_17, ⟨y_19, ty_19, ⟨(Fr.put (rs := [50, 51]) (fs := [(19, 3)]) (Fr.put (rs := [50, 51]) (fs := [(19, 3)]) (Fr.put (rs := [50, 51]) (fs := [(19, 3)]) Fr.rf eG_18 (Or.inl (by decide))) eG_20 (Or.inr (by decide))) eG_21 (Or.inl (by decide))), ((gp_ne eG_21 (fun q => absurd q.1 (Nat.ne_of_beq_eq_false rfl))).trans (gp_eq eG_20)), (rw_put eG_21 (by decide)).trans ((rw_put eG_20 (by decide)).trans (rw_ast eG_18)), (rw_ast eG_21).trans (congrArg (fun q => upd q ((G_1.1 19 3).toNatClampNeg) p1) ((rw_put eG_20 (by decide)).trans (rw_put eG_18 (by decide))))⟩⟩⟩)⟩⟩⟩), wd_t ht hW⟩, hS.F ht⟩) hS.2.2 dX4_add_76
  refine lv_icmp_le (tgt := 39) hx hb dX4_add_8 rfl (fun c_22 => ?_) (fun c_22 => ?_)
  · have c_22 : (G_1.1 19 3).toInt ≤ (G.1 19 2).toInt := xI_le rfl rfl c_22
    exact hJ_14 () _ _ _ ⟨G_1, (Jn_k_madd_19_2_mk (Or.inl ⟨c_22, rfl⟩)), hW, hB_G_1, hF, (Fr.rf (rs := []) (fs := [])), hS, lv_sub hl [0, 1, 2] rfl⟩
  · have c_22 : (G.1 19 2).toInt < (G_1.1 19 3).toInt := xI_nle rfl rfl c_22
    refine lv_aload_n hx hb dX4_add_11 rfl (lv_at hl 0 rfl) ?_
    refine S_getR (n := 51) (C := RX4) (T := TX4) (N := 4) hx hb hg iX4 hown hK hW kd_19 rfl 1 (lt_b rfl) (hg (Cond.fieldLink RX4 15 "SlabWalk$Minima" "values" "[I") m428) (fun _ h9 => h9) rfl dX4_add_12 ?_
    refine lv_aload_n hx hb dX4_add_15 rfl (lv_at hl 0 rfl) ?_
    refine S_getI (v := (G_1.1 19 3)) (C := RX4) (T := TX4) (N := 4) hx hb hg iX4 hown hK hW kd_19 rfl 3 (lt_b rfl) (hg (Cond.fieldLink RX4 22 "SlabWalk$Minima" "tail" "I") m430) (fun _ h9 => h9) rfl rfl dX4_add_16 ?_
    refine ic_1 hx hb dX4_add_19 ?_
    refine lv_isub hx hb dX4_add_20 ?_
    refine lv_topi (fun y_23 ey_23 => ?_)
    have ty_23 : y_23.toInt = (G_1.1 19 3).toInt - 1 := xI_sub rfl rfl ey_23 (by omega) (by omega)
    refine S_iald hx hb hK hW kd_51 (vin (by omega) (by omega)) dX4_add_21 (fun y_24 ey_24 => ?_)
    refine lv_iload_n hx hb dX4_add_22 rfl (lv_at hl 2 rfl) ?_
    refine lv_icmp_lt (tgt := 39) hx hb dX4_add_23 rfl (fun c_25 => ?_) (fun c_25 => ?_)
    · have c_25 : y_24.toInt < p1.toInt := xI_lt rfl rfl c_25
      exact hJ_14 () _ _ _ ⟨G_1, (Jn_k_madd_19_2_mk (Or.inr ⟨c_22, ⟨y_23, ty_23, ⟨y_24, ey_24, ⟨c_25, rfl⟩⟩⟩⟩)), hW, hB_G_1, hF, (Fr.rf (rs := []) (fs := [])), hS, lv_sub hl [0, 1, 2] rfl⟩
    · have c_25 : p1.toInt ≤ y_24.toInt := xI_nlt rfl rfl c_25
      refine lv_aload_n hx hb dX4_add_26 rfl (lv_at hl 0 rfl) ?_
      refine lv_dup hx hb dX4_add_27 rfl ?_
      refine S_getI (v := (G_1.1 19 3)) (C := RX4) (T := TX4) (N := 4) hx hb hg iX4 hown hK hW kd_19 rfl 3 (lt_b rfl) (hg (Cond.fieldLink RX4 22 "SlabWalk$Minima" "tail" "I") m430) (fun _ h9 => h9) rfl rfl dX4_add_28 ?_
      refine ic_1 hx hb dX4_add_31 ?_
      refine lv_isub hx hb dX4_add_32 ?_
      refine lv_topi (fun y_26 ey_26 => ?_)
      have ty_26 : y_26.toInt = (G_1.1 19 3).toInt - 1 := xI_sub rfl rfl ey_26 ((by first | (clear b_6 hn_7 c_25; omega) | omega)) ((by first | (clear b_6 hn_7 c_25; omega) | omega))
      refine S_putI (ty := .int) (C := RX4) (T := TX4) (N := 4) hx hb hg iX4 tyX4 tyX4_ok nmX4 hown hK hW hS kd_19 rfl 3 (lt_b rfl) (hg (Cond.fieldLink RX4 22 "SlabWalk$Minima" "tail" "I") m430) (fun _ h9 => h9) rfl (by decide +kernel) rfl rfl rfl dX4_add_33 (fun G_27 H locs eG_27 hW hS => ?_)
      have hB_G_27 : Bd G_27 := hB_G_1.put (V := y_26.toInt) (lo := 0) (hi := 400) eG_27 rfl rfl rfl ((by first | (clear b_6 hn_7 c_25; omega) | omega)) ((by first | (clear b_6 hn_7 c_25; omega) | omega)) (hB_G_1.2.put eG_27 rfl)
      have hF := hF.put eG_27 (Or.inr (by decide))
      refine lv_goto (tgt := 0) hx hb dX4_add_36 rfl ?_
      have g_28 : (G_27.1 19 3).toInt = y_26.toInt := (congrArg Int32.toInt (show G_27.1 19 3 = y_26 from (gp_eq eG_27)))
      exact ih_3 ((G_27.1 19 3).toInt : Int).toNat (by omega) _ _ _ ⟨G_27, (Int.toNat_of_nonneg ((by first | (clear b_6 hn_7 c_25; omega) | omega))), (hX_5.st (St_k_madd_19_1_mk ⟨G_1, G_27, rfl, rfl, hB_G_1, ⟨c_22, ⟨y_23, ty_23, ⟨y_24, ey_24, ⟨c_25, ⟨y_26, ty_26, ⟨(Fr.put (rs := []) (fs := [(19, 3)]) Fr.rf eG_27 (Or.inr (by decide))), (gp_eq eG_27)⟩⟩⟩⟩⟩⟩⟩)), hW, hB_G_27, hF, (Fr.put (rs := []) (fs := [(19, 3)]) (Fr.call9 (rs := []) (fs := [(19, 3)]) Fr.rf hq_2 rfl rfl) eG_27 (Or.inr (by decide))), hS, lv_sub hl [0, 1, 2] rfl⟩

set_option maxHeartbeats 4000000 in
set_option maxRecDepth 100000 in
theorem k_mleast_19 (l : Launch) (D : va_G) (k : KT) (A : Nat → Prop) (a : Nat → Nat) (z : SK) (G : GS) (p0 : Int32)  : Met l yX4_leastFrom (WS yX4_leastFrom cX4_leastFrom 2 (some .int)) ({ frames := 0, cells := 0, slots := 0, locals := 0 }) (va_Pc [.ref (a 19), .int p0] (cW D k A a z G)) (va_Qi (fun (r : Int32) (G1 : GS) => P_mleast_19 p0 G r G1) (fun (G1 : GS) t => Wd D k A a G1 t.heap) A) 0 0 A := by
  refine Met.ofW (cc := cX4_leastFrom) (maxL := 2) (ret := (some .int)) (by decide) rfl ?_
  intro p e s m args below meth c s₁ B hml hv
  obtain ⟨rfl, hW, hB_G, hK, hZ⟩ := hv
  have hx := B.exec
  have hb := B.bytes
  have hr := B.returns
  have hts := atoms_spec (ws := WS yX4_leastFrom cX4_leastFrom 2 (some .int)) B.pre
  have hgd : ∀ w ∈ gd, w ∈ WS yX4_leastFrom cX4_leastFrom 2 (some .int) := fun w h => List.mem_cons_of_mem _ h
  have hg : ∀ w ∈ gd, w.before _ s = true := fun w h => hts w (hgd w h)
  have hown : s.vm.findClass RX4 = some m.cls := findClass_of_methodNamed B.named
  have hS : va_S A s.heap s.heap [] := va_S.rf
  have hF : Fr [] [(19, 2)] G G := Fr.rf
  have hl := lv_entry ([.ref (a 19), .int p0]) (n := 2) (Nat.le_of_ble_eq_true rfl)
  rw [lg_entry_eq]
  generalize (lg_sl ([.ref (a 19), .int p0]) ++ List.replicate (2 - (lg_sl ([.ref (a 19), .int p0])).length) Slot.unset).toArray = ls at hl ⊢
  have hl : lv_has ls 2 [(0, .ref (a 19)), (1, .int p0)] := hl
  have b_6 : 0 ≤ (G.1 19 2).toInt ∧ (G.1 19 2).toInt ≤ 400 := bd_19_2 hB_G
  refine loop_N (Inv := fun n H locs ls => ∃ (G_1 : GS), (n : Int) = 400 - (G_1.1 19 2).toInt ∧ Rc (St_k_mleast_19_1 p0 G) G G_1 ∧ Wd D k A a G_1 H ∧ Bd G_1 ∧ Fr [] [(19, 2)] G G_1 ∧ Fr [] [(19, 2)] G G_1 ∧ va_S A s.heap H locs ∧ lv_has ls 2 [(0, .ref (a 19)), (1, .int p0)]) (fun n_4 H locs ls ih_3 hI => ?_) (400 - (G.1 19 2).toInt : Int).toNat ⟨G, (Int.toNat_of_nonneg (by omega)), Rc.rf, hW, hB_G, hF, Fr.rf, hS, lv_sub hl [0, 1] rfl⟩
  obtain ⟨G_1, hn_7, hX_5, hW, hB_G_1, hF, hq_2, hS, hl⟩ := hI
  refine lv_aload_n hx hb dX4_leastFrom_0 rfl (lv_at hl 0 rfl) ?_
  have b_8 : 0 ≤ (G_1.1 19 2).toInt ∧ (G_1.1 19 2).toInt ≤ 400 := bd_19_2 hB_G_1
  refine S_getI (v := (G_1.1 19 2)) (C := RX4) (T := TX4) (N := 4) hx hb hg iX4 hown hK hW kd_19 rfl 2 (lt_b rfl) (hg (Cond.fieldLink RX4 18 "SlabWalk$Minima" "head" "I") m429) (fun _ h9 => h9) rfl rfl dX4_leastFrom_1 ?_
  refine lv_aload_n hx hb dX4_leastFrom_4 rfl (lv_at hl 0 rfl) ?_
  have b_9 : 0 ≤ (G.1 19 3).toInt ∧ (G.1 19 3).toInt ≤ 400 := bd_19_3 hB_G
  refine S_getI (v := (G.1 19 3)) (C := RX4) (T := TX4) (N := 4) hx hb hg iX4 hown hK hW kd_19 rfl 3 (lt_b rfl) (hg (Cond.fieldLink RX4 22 "SlabWalk$Minima" "tail" "I") m430) (fun _ h9 => h9) rfl (hq_2.i9 19 3 rfl rfl) dX4_leastFrom_5 ?_
  refine lv_icmp_ge (tgt := 37) hx hb dX4_leastFrom_8 rfl (fun c_10 => ?_) (fun c_10 => ?_)
  · have c_10 : (G.1 19 3).toInt ≤ (G_1.1 19 2).toInt := xI_le rfl rfl c_10
    refine lv_aload_n hx hb dX4_leastFrom_37 rfl (lv_at hl 0 rfl) ?_
    refine S_getI (v := (G_1.1 19 2)) (C := RX4) (T := TX4) (N := 4) hx hb hg iX4 hown hK hW kd_19 rfl 2 (lt_b rfl) (hg (Cond.fieldLink RX4 18 "SlabWalk$Minima" "head" "I") m429) (fun _ h9 => h9) rfl rfl dX4_leastFrom_38 ?_
    refine lv_aload_n hx hb dX4_leastFrom_41 rfl (lv_at hl 0 rfl) ?_
    refine S_getI (v := (G.1 19 3)) (C := RX4) (T := TX4) (N := 4) hx hb hg iX4 hown hK hW kd_19 rfl 3 (lt_b rfl) (hg (Cond.fieldLink RX4 22 "SlabWalk$Minima" "tail" "I") m430) (fun _ h9 => h9) rfl ((hq_2.i9 19 3 rfl rfl).trans (rfl)) dX4_leastFrom_42 ?_
    refine lv_icmp_ge (tgt := 60) hx hb dX4_leastFrom_45 rfl (fun c_11 => ?_) (fun c_11 => ?_)
    · have c_11 : (G.1 19 3).toInt ≤ (G_1.1 19 2).toInt := xI_le rfl rfl c_11
      refine lv_ldc (v := 1000000) hx hb hown (hg (Cond.constant RX4 27 1000000) m1112) dX4_leastFrom_60 ?_
      exact W.iret (v := 1000000) hx hb hr (fun t ht _ => ⟨⟨1000000, G_1, rfl, (P_mleast_19_mk ⟨hB_G_1, hF, ⟨G_1, hX_5, hB_G_1, hq_2, (Or.inl ⟨c_10, (Or.inl ⟨c_11, ⟨rfl, rfl⟩⟩)⟩)⟩⟩), wd_t ht hW⟩, hS.F ht⟩) hS.2.2 dX4_leastFrom_62
    · have c_11 : (G_1.1 19 2).toInt < (G.1 19 3).toInt := xI_nle rfl rfl c_11
      refine lv_aload_n hx hb dX4_leastFrom_48 rfl (lv_at hl 0 rfl) ?_
      refine S_getR (n := 51) (C := RX4) (T := TX4) (N := 4) hx hb hg iX4 hown hK hW kd_19 rfl 1 (lt_b rfl) (hg (Cond.fieldLink RX4 15 "SlabWalk$Minima" "values" "[I") m428) (fun _ h9 => h9) rfl dX4_leastFrom_49 ?_
      refine lv_aload_n hx hb dX4_leastFrom_52 rfl (lv_at hl 0 rfl) ?_
      refine S_getI (v := (G_1.1 19 2)) (C := RX4) (T := TX4) (N := 4) hx hb hg iX4 hown hK hW kd_19 rfl 2 (lt_b rfl) (hg (Cond.fieldLink RX4 18 "SlabWalk$Minima" "head" "I") m429) (fun _ h9 => h9) rfl rfl dX4_leastFrom_53 ?_
      refine S_iald hx hb hK hW kd_51 (vin (by omega) (by omega)) dX4_leastFrom_56 (fun y_12 ey_12 => ?_)
      refine lv_goto (tgt := 62) hx hb dX4_leastFrom_57 rfl ?_
      exact W.iret (v := y_12) hx hb hr (fun t ht _ => ⟨⟨y_12, G_1, rfl, (P_mleast_19_mk ⟨hB_G_1, hF, ⟨G_1, hX_5, hB_G_1, hq_2, (Or.inl ⟨c_10, (Or.inr ⟨c_11, ⟨y_12, ey_12, ⟨rfl, rfl⟩⟩⟩)⟩)⟩⟩), wd_t ht hW⟩, hS.F ht⟩) hS.2.2 dX4_leastFrom_62
  · have c_10 : (G_1.1 19 2).toInt < (G.1 19 3).toInt := xI_nle rfl rfl c_10
    refine lv_aload_n hx hb dX4_leastFrom_11 rfl (lv_at hl 0 rfl) ?_
    refine S_getR (n := 50) (C := RX4) (T := TX4) (N := 4) hx hb hg iX4 hown hK hW kd_19 rfl 0 (lt_b rfl) (hg (Cond.fieldLink RX4 9 "SlabWalk$Minima" "keys" "[I") m427) (fun _ h9 => h9) rfl dX4_leastFrom_12 ?_
    refine lv_aload_n hx hb dX4_leastFrom_15 rfl (lv_at hl 0 rfl) ?_
    refine S_getI (v := (G_1.1 19 2)) (C := RX4) (T := TX4) (N := 4) hx hb hg iX4 hown hK hW kd_19 rfl 2 (lt_b rfl) (hg (Cond.fieldLink RX4 18 "SlabWalk$Minima" "head" "I") m429) (fun _ h9 => h9) rfl rfl dX4_leastFrom_16 ?_
    refine S_iald hx hb hK hW kd_50 (vin (by omega) (by omega)) dX4_leastFrom_19 (fun y_13 ey_13 => ?_)
    refine lv_iload_n hx hb dX4_leastFrom_20 rfl (lv_at hl 1 rfl) ?_
    refine lv_icmp_ge (tgt := 37) hx hb dX4_leastFrom_21 rfl (fun c_14 => ?_) (fun c_14 => ?_)
    · have c_14 : p0.toInt ≤ y_13.toInt := xI_le rfl rfl c_14
      refine lv_aload_n hx hb dX4_leastFrom_37 rfl (lv_at hl 0 rfl) ?_
      refine S_getI (v := (G_1.1 19 2)) (C := RX4) (T := TX4) (N := 4) hx hb hg iX4 hown hK hW kd_19 rfl 2 (lt_b rfl) (hg (Cond.fieldLink RX4 18 "SlabWalk$Minima" "head" "I") m429) (fun _ h9 => h9) rfl rfl dX4_leastFrom_38 ?_
      refine lv_aload_n hx hb dX4_leastFrom_41 rfl (lv_at hl 0 rfl) ?_
      refine S_getI (v := (G.1 19 3)) (C := RX4) (T := TX4) (N := 4) hx hb hg iX4 hown hK hW kd_19 rfl 3 (lt_b rfl) (hg (Cond.fieldLink RX4 22 "SlabWalk$Minima" "tail" "I") m430) (fun _ h9 => h9) rfl ((hq_2.i9 19 3 rfl rfl).trans (rfl)) dX4_leastFrom_42 ?_
      refine lv_icmp_ge (tgt := 60) hx hb dX4_leastFrom_45 rfl (fun c_15 => ?_) (fun c_15 => ?_)
      · have c_15 : (G.1 19 3).toInt ≤ (G_1.1 19 2).toInt := xI_le rfl rfl c_15
        refine lv_ldc (v := 1000000) hx hb hown (hg (Cond.constant RX4 27 1000000) m1112) dX4_leastFrom_60 ?_
        exact W.iret (v := 1000000) hx hb hr (fun t ht _ => ⟨⟨1000000, G_1, rfl, (P_mleast_19_mk ⟨hB_G_1, hF, ⟨G_1, hX_5, hB_G_1, hq_2, (Or.inr ⟨c_10, ⟨y_13, ey_13, ⟨c_14, (Or.inl ⟨c_15, ⟨rfl, rfl⟩⟩)⟩⟩⟩)⟩⟩), wd_t ht hW⟩, hS.F ht⟩) hS.2.2 dX4_leastFrom_62
      · have c_15 : (G_1.1 19 2).toInt < (G.1 19 3).toInt := xI_nle rfl rfl c_15
        refine lv_aload_n hx hb dX4_leastFrom_48 rfl (lv_at hl 0 rfl) ?_
        refine S_getR (n := 51) (C := RX4) (T := TX4) (N := 4) hx hb hg iX4 hown hK hW kd_19 rfl 1 (lt_b rfl) (hg (Cond.fieldLink RX4 15 "SlabWalk$Minima" "values" "[I") m428) (fun _ h9 => h9) rfl dX4_leastFrom_49 ?_
        refine lv_aload_n hx hb dX4_leastFrom_52 rfl (lv_at hl 0 rfl) ?_
        refine S_getI (v := (G_1.1 19 2)) (C := RX4) (T := TX4) (N := 4) hx hb hg iX4 hown hK hW kd_19 rfl 2 (lt_b rfl) (hg (Cond.fieldLink RX4 18 "SlabWalk$Minima" "head" "I") m429) (fun _ h9 => h9) rfl rfl dX4_leastFrom_53 ?_
        refine S_iald hx hb hK hW kd_51 (vin ((by first | (clear b_6 hn_7 c_14; omega) | omega)) ((by first | (clear b_6 hn_7 c_14; omega) | omega))) dX4_leastFrom_56 (fun y_16 ey_16 => ?_)
        refine lv_goto (tgt := 62) hx hb dX4_leastFrom_57 rfl ?_
        exact W.iret (v := y_16) hx hb hr (fun t ht _ => ⟨⟨y_16, G_1, rfl, (P_mleast_19_mk ⟨hB_G_1, hF, ⟨G_1, hX_5, hB_G_1, hq_2, (Or.inr ⟨c_10, ⟨y_13, ey_13, ⟨c_14, (Or.inr ⟨c_15, ⟨y_16, ey_16, ⟨rfl, rfl⟩⟩⟩)⟩⟩⟩)⟩⟩), wd_t ht hW⟩, hS.F ht⟩) hS.2.2 dX4_leastFrom_62
    · have c_14 : y_13.toInt < p0.toInt := xI_nle rfl rfl c_14
      refine lv_aload_n hx hb dX4_leastFrom_24 rfl (lv_at hl 0 rfl) ?_
      refine lv_dup hx hb dX4_leastFrom_25 rfl ?_
      refine S_getI (v := (G_1.1 19 2)) (C := RX4) (T := TX4) (N := 4) hx hb hg iX4 hown hK hW kd_19 rfl 2 (lt_b rfl) (hg (Cond.fieldLink RX4 18 "SlabWalk$Minima" "head" "I") m429) (fun _ h9 => h9) rfl rfl dX4_leastFrom_26 ?_
      refine ic_1 hx hb dX4_leastFrom_29 ?_
      refine lv_iadd hx hb dX4_leastFrom_30 ?_
      refine lv_topi (fun y_17 ey_17 => ?_)
      have ty_17 : y_17.toInt = (G_1.1 19 2).toInt + 1 := xI_add rfl rfl ey_17 ((by first | (clear b_6 hn_7 c_14; omega) | omega)) ((by first | (clear b_6 hn_7 c_14; omega) | omega))
      refine S_putI (ty := .int) (C := RX4) (T := TX4) (N := 4) hx hb hg iX4 tyX4 tyX4_ok nmX4 hown hK hW hS kd_19 rfl 2 (lt_b rfl) (hg (Cond.fieldLink RX4 18 "SlabWalk$Minima" "head" "I") m429) (fun _ h9 => h9) rfl (by decide +kernel) rfl rfl rfl dX4_leastFrom_31 (fun G_18 H locs eG_18 hW hS => ?_)
      have hB_G_18 : Bd G_18 := hB_G_1.put (V := y_17.toInt) (lo := 0) (hi := 400) eG_18 rfl rfl rfl ((by first | (clear b_6 hn_7 c_14; omega) | omega)) ((by first | (clear b_6 hn_7 c_14; omega) | omega)) (hB_G_1.2.put eG_18 rfl)
      have hF := hF.put eG_18 (Or.inr (by decide))
      refine lv_goto (tgt := 0) hx hb dX4_leastFrom_34 rfl ?_
      have g_19 : (G_18.1 19 2).toInt = y_17.toInt := (congrArg Int32.toInt (show G_18.1 19 2 = y_17 from (gp_eq eG_18)))
      exact ih_3 (400 - (G_18.1 19 2).toInt : Int).toNat (by omega) _ _ _ ⟨G_18, (Int.toNat_of_nonneg ((by first | (clear b_6 hn_7 c_14; omega) | omega))), (hX_5.st (St_k_mleast_19_1_mk ⟨G_1, G_18, rfl, rfl, hB_G_1, ⟨c_10, ⟨y_13, ey_13, ⟨c_14, ⟨y_17, ty_17, ⟨(Fr.put (rs := []) (fs := [(19, 2)]) Fr.rf eG_18 (Or.inr (by decide))), (gp_eq eG_18)⟩⟩⟩⟩⟩⟩)), hW, hB_G_18, hF, (Fr.put (rs := []) (fs := [(19, 2)]) (Fr.call9 (rs := []) (fs := [(19, 2)]) Fr.rf hq_2 rfl rfl) eG_18 (Or.inr (by decide))), hS, lv_sub hl [0, 1] rfl⟩
