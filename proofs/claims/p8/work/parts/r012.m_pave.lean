theorem m1339 : Cond.fieldLink RX12 45 "SlabWalkModel" "nMarks" "[I" ∈ gd := gdc_6_1 7 rfl gw_fieldLink
theorem m1340 : Cond.fieldLink RX12 48 "SlabWalkModel" "nNths" "[I" ∈ gd := gdc_6_1 8 rfl gw_fieldLink
theorem m1341 : Cond.fieldLink RX12 51 "SlabWalkModel" "nInches" "[I" ∈ gd := gdc_6_1 9 rfl gw_fieldLink
theorem m1342 : Cond.fieldLink RX12 54 "SlabWalkModel" "nLongs" "[I" ∈ gd := gdc_6_1 10 rfl gw_fieldLink
theorem m1343 : Cond.fieldLink RX12 57 "SlabWalkModel" "nLength" "[I" ∈ gd := gdc_6_1 11 rfl gw_fieldLink
theorem m1359 : Cond.fieldLink RX12 359 "SlabWalkModel" "nStreets" "I" ∈ gd := gdc_6_2 11 rfl gw_fieldLink
def rbX12_pave_0 : List (Nat × List Nat) := [(0, [3]), (1, [54, 4]), (3, [21, 4]), (5, [29]), (6, [162, 0, 75]), (9, [17, 1, 144]), (12, [42]), (13, [180, 1, 103]), (16, [104]), (17, [42]), (18, [180, 0, 57]), (21, [42]), (22, [180, 1, 103]), (25, [46]), (26, [96]), (27, [54, 5]), (29, [42]), (30, [180, 0, 45]), (33, [21, 5]), (35, [27]), (36, [79]), (37, [42]), (38, [180, 0, 48]), (41, [21, 5])]
theorem rcX12_pave_0 : dgo (lb cX12_pave) 0 rbX12_pave_0 = true := by decide +kernel
theorem dX12_pave_0 : decode cX12_pave 0 = .ok (.iconst 0, 1) := dk_3 (dw rcX12_pave_0 0 rfl)
theorem dX12_pave_1 : decode cX12_pave 1 = .ok (.istore 4, 2) := dk_54 (dw rcX12_pave_0 1 rfl)
theorem dX12_pave_3 : decode cX12_pave 3 = .ok (.iload 4, 2) := dk_21 (dw rcX12_pave_0 2 rfl)
theorem dX12_pave_5 : decode cX12_pave 5 = .ok (.iload_n 3, 1) := dk_29 (dw rcX12_pave_0 3 rfl)
theorem dX12_pave_6 : decode cX12_pave 6 = .ok (.if_icmp .ge 75, 3) := dk_162 (dw rcX12_pave_0 4 rfl) rfl
theorem dX12_pave_9 : decode cX12_pave 9 = .ok (.sipush 400, 3) := dk_17 (dw rcX12_pave_0 5 rfl) rfl
theorem dX12_pave_12 : decode cX12_pave 12 = .ok (.aload_n 0, 1) := dk_42 (dw rcX12_pave_0 6 rfl)
theorem dX12_pave_13 : decode cX12_pave 13 = .ok (.getfield 359, 3) := dk_180 (dw rcX12_pave_0 7 rfl) rfl
theorem dX12_pave_16 : decode cX12_pave 16 = .ok (.imul, 1) := dk_104 (dw rcX12_pave_0 8 rfl)
theorem dX12_pave_17 : decode cX12_pave 17 = .ok (.aload_n 0, 1) := dk_42 (dw rcX12_pave_0 9 rfl)
theorem dX12_pave_18 : decode cX12_pave 18 = .ok (.getfield 57, 3) := dk_180 (dw rcX12_pave_0 10 rfl) rfl
theorem dX12_pave_21 : decode cX12_pave 21 = .ok (.aload_n 0, 1) := dk_42 (dw rcX12_pave_0 11 rfl)
theorem dX12_pave_22 : decode cX12_pave 22 = .ok (.getfield 359, 3) := dk_180 (dw rcX12_pave_0 12 rfl) rfl
theorem dX12_pave_25 : decode cX12_pave 25 = .ok (.iaload, 1) := dk_46 (dw rcX12_pave_0 13 rfl)
theorem dX12_pave_26 : decode cX12_pave 26 = .ok (.iadd, 1) := dk_96 (dw rcX12_pave_0 14 rfl)
theorem dX12_pave_27 : decode cX12_pave 27 = .ok (.istore 5, 2) := dk_54 (dw rcX12_pave_0 15 rfl)
theorem dX12_pave_29 : decode cX12_pave 29 = .ok (.aload_n 0, 1) := dk_42 (dw rcX12_pave_0 16 rfl)
theorem dX12_pave_30 : decode cX12_pave 30 = .ok (.getfield 45, 3) := dk_180 (dw rcX12_pave_0 17 rfl) rfl
theorem dX12_pave_33 : decode cX12_pave 33 = .ok (.iload 5, 2) := dk_21 (dw rcX12_pave_0 18 rfl)
theorem dX12_pave_35 : decode cX12_pave 35 = .ok (.iload_n 1, 1) := dk_27 (dw rcX12_pave_0 19 rfl)
theorem dX12_pave_36 : decode cX12_pave 36 = .ok (.iastore, 1) := dk_79 (dw rcX12_pave_0 20 rfl)
theorem dX12_pave_37 : decode cX12_pave 37 = .ok (.aload_n 0, 1) := dk_42 (dw rcX12_pave_0 21 rfl)
theorem dX12_pave_38 : decode cX12_pave 38 = .ok (.getfield 48, 3) := dk_180 (dw rcX12_pave_0 22 rfl) rfl
theorem dX12_pave_41 : decode cX12_pave 41 = .ok (.iload 5, 2) := dk_21 (dw rcX12_pave_0 23 rfl)
def rbX12_pave_43 : List (Nat × List Nat) := [(43, [28]), (44, [79]), (45, [42]), (46, [180, 0, 51]), (49, [21, 5]), (51, [21, 4]), (53, [79]), (54, [42]), (55, [180, 0, 54]), (58, [21, 5]), (60, [29]), (61, [79]), (62, [42]), (63, [180, 0, 57]), (66, [42]), (67, [180, 1, 103]), (70, [92]), (71, [46]), (72, [4]), (73, [96]), (74, [79]), (75, [132, 4, 1]), (78, [167, 255, 181]), (81, [177])]
theorem rcX12_pave_43 : dgo (lb cX12_pave) 0 rbX12_pave_43 = true := by decide +kernel
theorem dX12_pave_43 : decode cX12_pave 43 = .ok (.iload_n 2, 1) := dk_28 (dw rcX12_pave_43 0 rfl)
theorem dX12_pave_44 : decode cX12_pave 44 = .ok (.iastore, 1) := dk_79 (dw rcX12_pave_43 1 rfl)
theorem dX12_pave_45 : decode cX12_pave 45 = .ok (.aload_n 0, 1) := dk_42 (dw rcX12_pave_43 2 rfl)
theorem dX12_pave_46 : decode cX12_pave 46 = .ok (.getfield 51, 3) := dk_180 (dw rcX12_pave_43 3 rfl) rfl
theorem dX12_pave_49 : decode cX12_pave 49 = .ok (.iload 5, 2) := dk_21 (dw rcX12_pave_43 4 rfl)
theorem dX12_pave_51 : decode cX12_pave 51 = .ok (.iload 4, 2) := dk_21 (dw rcX12_pave_43 5 rfl)
theorem dX12_pave_53 : decode cX12_pave 53 = .ok (.iastore, 1) := dk_79 (dw rcX12_pave_43 6 rfl)
theorem dX12_pave_54 : decode cX12_pave 54 = .ok (.aload_n 0, 1) := dk_42 (dw rcX12_pave_43 7 rfl)
theorem dX12_pave_55 : decode cX12_pave 55 = .ok (.getfield 54, 3) := dk_180 (dw rcX12_pave_43 8 rfl) rfl
theorem dX12_pave_58 : decode cX12_pave 58 = .ok (.iload 5, 2) := dk_21 (dw rcX12_pave_43 9 rfl)
theorem dX12_pave_60 : decode cX12_pave 60 = .ok (.iload_n 3, 1) := dk_29 (dw rcX12_pave_43 10 rfl)
theorem dX12_pave_61 : decode cX12_pave 61 = .ok (.iastore, 1) := dk_79 (dw rcX12_pave_43 11 rfl)
theorem dX12_pave_62 : decode cX12_pave 62 = .ok (.aload_n 0, 1) := dk_42 (dw rcX12_pave_43 12 rfl)
theorem dX12_pave_63 : decode cX12_pave 63 = .ok (.getfield 57, 3) := dk_180 (dw rcX12_pave_43 13 rfl) rfl
theorem dX12_pave_66 : decode cX12_pave 66 = .ok (.aload_n 0, 1) := dk_42 (dw rcX12_pave_43 14 rfl)
theorem dX12_pave_67 : decode cX12_pave 67 = .ok (.getfield 359, 3) := dk_180 (dw rcX12_pave_43 15 rfl) rfl
theorem dX12_pave_70 : decode cX12_pave 70 = .ok (.dup2, 1) := dk_92 (dw rcX12_pave_43 16 rfl)
theorem dX12_pave_71 : decode cX12_pave 71 = .ok (.iaload, 1) := dk_46 (dw rcX12_pave_43 17 rfl)
theorem dX12_pave_72 : decode cX12_pave 72 = .ok (.iconst 1, 1) := dk_4 (dw rcX12_pave_43 18 rfl)
theorem dX12_pave_73 : decode cX12_pave 73 = .ok (.iadd, 1) := dk_96 (dw rcX12_pave_43 19 rfl)
theorem dX12_pave_74 : decode cX12_pave 74 = .ok (.iastore, 1) := dk_79 (dw rcX12_pave_43 20 rfl)
theorem dX12_pave_75 : decode cX12_pave 75 = .ok (.iinc 4 1, 3) := dk_132 (dw rcX12_pave_43 21 rfl) rfl
theorem dX12_pave_78 : decode cX12_pave 78 = .ok (.goto (-75), 3) := dk_167 (dw rcX12_pave_43 22 rfl) rfl
theorem dX12_pave_81 : decode cX12_pave 81 = .ok (.return_, 1) := dk_177 (dw rcX12_pave_43 23 rfl)
set_option maxHeartbeats 4000000 in
set_option maxRecDepth 100000 in
theorem n_pave (l : Launch) (D : va_G) (k : KT) (A : Nat → Prop) (a : Nat → Nat) (z : SK) (G : GS) (p0 : Int32) (p1 : Int32) (p2 : Int32) (j0 : Nat) (hj0 : (G.1 66 45).toNatClampNeg = j0) (ha_p2 : 0 ≤ p2.toInt ∧ p2.toInt ≤ 60) (hs : (G.1 66 45).toInt < 3) (hle : (G.1 81 j0).toInt + p2.toInt ≤ 400) : Met l yX12_pave (WS yX12_pave cX12_pave 6 none) ({ frames := 0, cells := 0, slots := 0, locals := 0 }) (va_Pc [.ref (a 66), .int p0, .int p1, .int p2] (cW D k A a z G)) (va_Qv (fun (G1 : GS) => Q_pave p0 p1 p2 j0 G G1) (fun (G1 : GS) t => Wd D k A a G1 t.heap) A) 0 0 A := by
  refine Met.ofW (cc := cX12_pave) (maxL := 6) (ret := none) (by decide) rfl ?_
  intro p e s m args below meth c s₁ B hml hv
  obtain ⟨rfl, hW, hB_G, hK, hZ⟩ := hv
  have hx := B.exec
  have hb := B.bytes
  have hr := B.returns
  have hts := atoms_spec (ws := WS yX12_pave cX12_pave 6 none) B.pre
  have hgd : ∀ w ∈ gd, w ∈ WS yX12_pave cX12_pave 6 none := fun w h => List.mem_cons_of_mem _ h
  have hg : ∀ w ∈ gd, w.before _ s = true := fun w h => hts w (hgd w h)
  have hown : s.vm.findClass RX12 = some m.cls := findClass_of_methodNamed B.named
  have hS : va_S A s.heap s.heap [] := va_S.rf
  have hF : Fr [77, 78, 79, 80, 81] [] G G := Fr.rf
  have hl := lv_entry ([.ref (a 66), .int p0, .int p1, .int p2]) (n := 6) (Nat.le_of_ble_eq_true rfl)
  rw [lg_entry_eq]
  generalize (lg_sl ([.ref (a 66), .int p0, .int p1, .int p2]) ++ List.replicate (6 - (lg_sl ([.ref (a 66), .int p0, .int p1, .int p2])).length) Slot.unset).toArray = ls at hl ⊢
  have hl : lv_has ls 6 [(0, .ref (a 66)), (1, .int p0), (2, .int p1), (3, .int p2)] := hl
  subst hj0
  refine ic_0 hx hb dX12_pave_0 ?_
  refine lv_istore (lv' := [(4, .int 0), (0, .ref (a 66)), (1, .int p0), (2, .int p1), (3, .int p2)]) hx hb dX12_pave_1 hl (lt_b rfl) rfl (fun ls hl => ?_)
  have b_7 : 0 ≤ (G.1 66 45).toInt ∧ (G.1 66 45).toInt ≤ 3 := bd_66_45 hB_G
  have qc_8 : (0 : Int32).toInt = 0 := rfl
  refine loop_N (Inv := fun n H locs ls => ∃ (G_1 : GS) (x_5 : Int32), (n : Int) = 60 - x_5.toInt ∧ (0 ≤ x_5.toInt ∧ x_5.toInt ≤ 60) ∧ ((G_1.1 81 (G.1 66 45).toNatClampNeg).toInt = (G.1 81 (G.1 66 45).toNatClampNeg).toInt + x_5.toInt) ∧ (x_5.toInt ≤ p2.toInt) ∧ Rc (St_n_pave_1 p0 p1 p2 G) (0, G) (x_5, G_1) ∧ Wd D k A a G_1 H ∧ Bd G_1 ∧ Fr [77, 78, 79, 80, 81] [] G G_1 ∧ Fr [77, 78, 79, 80, 81] [] G G_1 ∧ va_S A s.heap H locs ∧ lv_has ls 6 [(4, .int x_5), (0, .ref (a 66)), (1, .int p0), (2, .int p1), (3, .int p2)]) (fun n_4 H locs ls ih_3 hI => ?_) (60 - 0 : Int).toNat ⟨G, 0, (Int.toNat_of_nonneg ((by first | (clear ha_p2 hs hle b_7; omega) | omega))), ⟨(by first | (clear ha_p2 hs hle b_7; omega) | omega), (by first | (clear ha_p2 hs hle b_7; omega) | omega)⟩, (by omega), (by omega), Rc.rf, hW, hB_G, hF, Fr.rf, hS, lv_sub hl [0, 1, 2, 3, 4] rfl⟩
  obtain ⟨G_1, x_5, hn_12, f_9, f_10, f_11, hX_6, hW, hB_G_1, hF, hq_2, hS, hl⟩ := hI
  refine lv_iload hx hb dX12_pave_3 (lv_at hl 0 rfl) ?_
  refine lv_iload_n hx hb dX12_pave_5 rfl (lv_at hl 4 rfl) ?_
  refine lv_icmp_ge (tgt := 81) hx hb dX12_pave_6 rfl (fun c_13 => ?_) (fun c_13 => ?_)
  · have c_13 : p2.toInt ≤ x_5.toInt := xI_le rfl rfl c_13
    exact W.vret hx hb hr (fun t ht _ => ⟨⟨G_1, rfl, (Q_pave_mk ⟨hB_G_1, hF, (by omega), ⟨x_5, G_1, hX_6, f_9, f_10, f_11, hB_G_1, hq_2, ⟨c_13, rfl⟩⟩⟩), wd_t ht hW⟩, hS.F ht⟩) hS.2.2 dX12_pave_81
  · have c_13 : x_5.toInt < p2.toInt := xI_nle rfl rfl c_13
    refine lv_sipush (v := 400) hx hb dX12_pave_9 (by decide) ?_
    refine lv_aload_n hx hb dX12_pave_12 rfl (lv_at hl 1 rfl) ?_
    refine S_getI (v := (G.1 66 45)) (C := RX12) (T := TX12) (N := 89) hx hb hg iX12 hown hK hW kd_66 rfl 45 (lt_b rfl) (hg (Cond.fieldLink RX12 359 "SlabWalkModel" "nStreets" "I") m1359) (fun _ h9 => h9) rfl ((hq_2.i9 66 45 rfl rfl).trans (rfl)) dX12_pave_13 ?_
    refine lv_imul hx hb dX12_pave_16 ?_
    refine lv_topi (fun y_14 ey_14 => ?_)
    have ty_14 : y_14.toInt = 400 * (G.1 66 45).toInt := xI_mul rfl rfl ey_14 (by omega) (by omega)
    refine lv_aload_n hx hb dX12_pave_17 rfl (lv_at hl 1 rfl) ?_
    refine S_getR (n := 81) (C := RX12) (T := TX12) (N := 89) hx hb hg iX12 hown hK hW kd_66 rfl 29 (lt_b rfl) (hg (Cond.fieldLink RX12 57 "SlabWalkModel" "nLength" "[I") m1343) (fun _ h9 => h9) rfl dX12_pave_18 ?_
    refine lv_aload_n hx hb dX12_pave_21 rfl (lv_at hl 1 rfl) ?_
    refine S_getI (v := (G.1 66 45)) (C := RX12) (T := TX12) (N := 89) hx hb hg iX12 hown hK hW kd_66 rfl 45 (lt_b rfl) (hg (Cond.fieldLink RX12 359 "SlabWalkModel" "nStreets" "I") m1359) (fun _ h9 => h9) rfl ((hq_2.i9 66 45 rfl rfl).trans (rfl)) dX12_pave_22 ?_
    refine S_iald hx hb hK hW kd_81 (vin (by omega) (by omega)) dX12_pave_25 (fun y_15 ey_15 => ?_)
    have ty_15 : 0 ≤ y_15.toInt ∧ y_15.toInt ≤ 400 := bv_81 hB_G_1 ey_15
    have u_16 : y_15.toInt = (G_1.1 81 (G.1 66 45).toNatClampNeg).toInt := congrArg Int32.toInt (ey_15)
    refine lv_iadd hx hb dX12_pave_26 ?_
    refine lv_topi (fun y_17 ey_17 => ?_)
    have ty_17 : y_17.toInt = y_14.toInt + y_15.toInt := xI_add rfl rfl ey_17 (by omega) (by omega)
    refine lv_istore (lv' := [(5, .int y_17), (4, .int x_5), (0, .ref (a 66)), (1, .int p0), (2, .int p1), (3, .int p2)]) hx hb dX12_pave_27 hl (lt_b rfl) rfl (fun ls hl => ?_)
    refine lv_aload_n hx hb dX12_pave_29 rfl (lv_at hl 2 rfl) ?_
    refine S_getR (n := 77) (C := RX12) (T := TX12) (N := 89) hx hb hg iX12 hown hK hW kd_66 rfl 25 (lt_b rfl) (hg (Cond.fieldLink RX12 45 "SlabWalkModel" "nMarks" "[I") m1339) (fun _ h9 => h9) rfl dX12_pave_30 ?_
    refine lv_iload hx hb dX12_pave_33 (lv_at hl 0 rfl) ?_
    refine lv_iload_n hx hb dX12_pave_35 rfl (lv_at hl 3 rfl) ?_
    refine S_iast hx hb hK hW hS kd_77 (vin (by omega) (by omega)) dX12_pave_36 (fun G_18 H locs eG_18 hW hS => ?_)
    have hB_G_18 : Bd G_18 := hB_G_1.put (lo := (-2147483648)) (hi := 2147483647) eG_18 rfl rfl rfl (tI_rng _).1 (tI_rng _).2 (hB_G_1.2.put eG_18 rfl)
    have hF := hF.put eG_18 (Or.inl (by decide))
    refine lv_aload_n hx hb dX12_pave_37 rfl (lv_at hl 2 rfl) ?_
    refine S_getR (n := 78) (C := RX12) (T := TX12) (N := 89) hx hb hg iX12 hown hK hW kd_66 rfl 26 (lt_b rfl) (hg (Cond.fieldLink RX12 48 "SlabWalkModel" "nNths" "[I") m1340) (fun _ h9 => h9) rfl dX12_pave_38 ?_
    refine lv_iload hx hb dX12_pave_41 (lv_at hl 0 rfl) ?_
    refine lv_iload_n hx hb dX12_pave_43 rfl (lv_at hl 4 rfl) ?_
    refine S_iast hx hb hK hW hS kd_78 (vin (by omega) (by omega)) dX12_pave_44 (fun G_19 H locs eG_19 hW hS => ?_)
    have hB_G_19 : Bd G_19 := hB_G_18.put (lo := (-2147483648)) (hi := 2147483647) eG_19 rfl rfl rfl (tI_rng _).1 (tI_rng _).2 (hB_G_18.2.put eG_19 rfl)
    have hF := hF.put eG_19 (Or.inl (by decide))
    refine lv_aload_n hx hb dX12_pave_45 rfl (lv_at hl 2 rfl) ?_
    refine S_getR (n := 79) (C := RX12) (T := TX12) (N := 89) hx hb hg iX12 hown hK hW kd_66 rfl 27 (lt_b rfl) (hg (Cond.fieldLink RX12 51 "SlabWalkModel" "nInches" "[I") m1341) (fun _ h9 => h9) rfl dX12_pave_46 ?_
    refine lv_iload hx hb dX12_pave_49 (lv_at hl 0 rfl) ?_
    refine lv_iload hx hb dX12_pave_51 (lv_at hl 1 rfl) ?_
    refine S_iast hx hb hK hW hS kd_79 (vin (by omega) (by omega)) dX12_pave_53 (fun G_20 H locs eG_20 hW hS => ?_)
    have hB_G_20 : Bd G_20 := hB_G_19.put (lo := (-2147483648)) (hi := 2147483647) eG_20 rfl rfl rfl (tI_rng _).1 (tI_rng _).2 (hB_G_19.2.put eG_20 rfl)
    have hF := hF.put eG_20 (Or.inl (by decide))
    refine lv_aload_n hx hb dX12_pave_54 rfl (lv_at hl 2 rfl) ?_
    refine S_getR (n := 80) (C := RX12) (T := TX12) (N := 89) hx hb hg iX12 hown hK hW kd_66 rfl 28 (lt_b rfl) (hg (Cond.fieldLink RX12 54 "SlabWalkModel" "nLongs" "[I") m1342) (fun _ h9 => h9) rfl dX12_pave_55 ?_
    refine lv_iload hx hb dX12_pave_58 (lv_at hl 0 rfl) ?_
    refine lv_iload_n hx hb dX12_pave_60 rfl (lv_at hl 5 rfl) ?_
    refine S_iast hx hb hK hW hS kd_80 (vin (by omega) (by omega)) dX12_pave_61 (fun G_21 H locs eG_21 hW hS => ?_)
    have hB_G_21 : Bd G_21 := hB_G_20.put (lo := (-2147483648)) (hi := 2147483647) eG_21 rfl rfl rfl (tI_rng _).1 (tI_rng _).2 (hB_G_20.2.put eG_21 rfl)
    have hF := hF.put eG_21 (Or.inl (by decide))
    refine lv_aload_n hx hb dX12_pave_62 rfl (lv_at hl 2 rfl) ?_
    refine S_getR (n := 81) (C := RX12) (T := TX12) (N := 89) hx hb hg iX12 hown hK hW kd_66 rfl 29 (lt_b rfl) (hg (Cond.fieldLink RX12 57 "SlabWalkModel" "nLength" "[I") m1343) (fun _ h9 => h9) rfl dX12_pave_63 ?_
    refine lv_aload_n hx hb dX12_pave_66 rfl (lv_at hl 2 rfl) ?_
    refine S_getI (v := (G.1 66 45)) (C := RX12) (T := TX12) (N := 89) hx hb hg iX12 hown hK hW kd_66 rfl 45 (lt_b rfl) (hg (Cond.fieldLink RX12 359 "SlabWalkModel" "nStreets" "I") m1359) (fun _ h9 => h9) rfl ((gp_ne eG_21 (fun q => absurd q.1 (Nat.ne_of_beq_eq_false rfl))).trans ((gp_ne eG_20 (fun q => absurd q.1 (Nat.ne_of_beq_eq_false rfl))).trans ((gp_ne eG_19 (fun q => absurd q.1 (Nat.ne_of_beq_eq_false rfl))).trans ((gp_ne eG_18 (fun q => absurd q.1 (Nat.ne_of_beq_eq_false rfl))).trans ((hq_2.i9 66 45 rfl rfl).trans (rfl)))))) dX12_pave_67 ?_
    refine lv_dup2_11 hx hb dX12_pave_70 rfl rfl ?_
    refine S_iald hx hb hK hW kd_81 (vin (by omega) (by omega)) dX12_pave_71 (fun y_22 ey_22 => ?_)
    have ty_22 : 0 ≤ y_22.toInt ∧ y_22.toInt ≤ 400 := bv_81 hB_G_21 ey_22
    have u_23 : y_22.toInt = y_15.toInt := congrArg Int32.toInt (ey_22.trans (((gp_ne eG_21 (fun q => absurd q.1 (Nat.ne_of_beq_eq_false rfl))).trans ((gp_ne eG_20 (fun q => absurd q.1 (Nat.ne_of_beq_eq_false rfl))).trans ((gp_ne eG_19 (fun q => absurd q.1 (Nat.ne_of_beq_eq_false rfl))).trans ((gp_ne eG_18 (fun q => absurd q.1 (Nat.ne_of_beq_eq_false rfl))).trans (ey_15.symm)))))))
    refine ic_1 hx hb dX12_pave_72 ?_
    refine lv_iadd hx hb dX12_pave_73 ?_
    refine lv_topi (fun y_24 ey_24 => ?_)
    have ty_24 : y_24.toInt = y_22.toInt + 1 := xI_add rfl rfl ey_24 (by omega) (by omega)
    refine S_iast hx hb hK hW hS kd_81 (vin (by omega) (by omega)) dX12_pave_74 (fun G_25 H locs eG_25 hW hS => ?_)
    have hB_G_25 : Bd G_25 := hB_G_21.put (V := y_24.toInt) (lo := 0) (hi := 400) eG_25 rfl rfl rfl (by omega) (by omega) (hB_G_21.2.put eG_25 rfl)
    have hF := hF.put eG_25 (Or.inl (by decide))
    obtain ⟨y_26, ey_26⟩ : ∃ q, q = x_5 + 1 := ⟨_, rfl⟩
    have ty_26 : y_26.toInt = x_5.toInt + 1 := xI_add rfl rfl ey_26 (by omega) (by omega)
    refine lv_iinc (v := y_26) (lv' := [(4, .int y_26), (5, .int y_17), (0, .ref (a 66)), (1, .int p0), (2, .int p1), (3, .int p2)]) hx hb dX12_pave_75 hl (k := 1) rfl (by rw [ey_26]; rfl) (lt_b rfl) rfl (fun ls hl => ?_)
    refine lv_goto (tgt := 3) hx hb dX12_pave_78 rfl ?_
    have g_27 : (G_25.1 81 (G.1 66 45).toNatClampNeg).toInt = y_24.toInt := by rw [show G_25.1 81 (G.1 66 45).toNatClampNeg = y_24 from (gp_eq eG_25)]
    exact ih_3 (60 - y_26.toInt : Int).toNat (by omega) _ _ _ ⟨G_25, y_26, (Int.toNat_of_nonneg (by omega)), ⟨by omega, by omega⟩, (by omega), (by omega), (hX_6.st (St_n_pave_1_mk ⟨x_5, G_1, y_26, G_25, rfl, rfl, f_9, f_10, f_11, hB_G_1, ⟨c_13, ⟨y_14, ty_14, ⟨y_15, ey_15, ⟨y_17, ty_17, ⟨y_22, ey_22.trans (congrFun ((rw_put eG_21 (by decide)).trans ((rw_put eG_20 (by decide)).trans ((rw_put eG_19 (by decide)).trans (rw_put eG_18 (by decide))))) _), ⟨y_24, ty_24, ⟨y_26, ty_26, ⟨rfl, (Fr.put (rs := [77, 78, 79, 80, 81]) (fs := []) (Fr.put (rs := [77, 78, 79, 80, 81]) (fs := []) (Fr.put (rs := [77, 78, 79, 80, 81]) (fs := []) (Fr.put (rs := [77, 78, 79, 80, 81]) (fs := []) (Fr.put (rs := [77, 78, 79, 80, 81]) (fs := []) Fr.rf eG_18 (Or.inl (by decide))) eG_19 (Or.inl (by decide))) eG_20 (Or.inl (by decide))) eG_21 (Or.inl (by decide))) eG_25 (Or.inl (by decide))), (rw_put eG_25 (by decide)).trans ((rw_put eG_21 (by decide)).trans ((rw_put eG_20 (by decide)).trans ((rw_put eG_19 (by decide)).trans (rw_ast eG_18)))), (rw_put eG_25 (by decide)).trans ((rw_put eG_21 (by decide)).trans ((rw_put eG_20 (by decide)).trans ((rw_ast eG_19).trans (congrArg (fun q => upd q (y_17.toNatClampNeg) p1) (rw_put eG_18 (by decide)))))), (rw_put eG_25 (by decide)).trans ((rw_put eG_21 (by decide)).trans ((rw_ast eG_20).trans (congrArg (fun q => upd q (y_17.toNatClampNeg) x_5) ((rw_put eG_19 (by decide)).trans (rw_put eG_18 (by decide)))))), (rw_put eG_25 (by decide)).trans ((rw_ast eG_21).trans (congrArg (fun q => upd q (y_17.toNatClampNeg) p2) ((rw_put eG_20 (by decide)).trans ((rw_put eG_19 (by decide)).trans (rw_put eG_18 (by decide)))))), (rw_ast eG_25).trans (congrArg (fun q => upd q ((G.1 66 45).toNatClampNeg) y_24) ((rw_put eG_21 (by decide)).trans ((rw_put eG_20 (by decide)).trans ((rw_put eG_19 (by decide)).trans (rw_put eG_18 (by decide))))))⟩⟩⟩⟩⟩⟩⟩⟩⟩)), hW, hB_G_25, hF, (Fr.put (rs := [77, 78, 79, 80, 81]) (fs := []) (Fr.put (rs := [77, 78, 79, 80, 81]) (fs := []) (Fr.put (rs := [77, 78, 79, 80, 81]) (fs := []) (Fr.put (rs := [77, 78, 79, 80, 81]) (fs := []) (Fr.put (rs := [77, 78, 79, 80, 81]) (fs := []) (Fr.call9 (rs := [77, 78, 79, 80, 81]) (fs := []) Fr.rf hq_2 rfl rfl) eG_18 (Or.inl (by decide))) eG_19 (Or.inl (by decide))) eG_20 (Or.inl (by decide))) eG_21 (Or.inl (by decide))) eG_25 (Or.inl (by decide))), hS, lv_sub hl [0, 2, 3, 4, 5] rfl⟩
