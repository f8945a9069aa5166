theorem m1401 : Cond.fieldLink RX12 172 "SlabWalkModel" "hasBox" "[Z" ∈ gd := gdc_6_5 5 rfl gw_fieldLink
theorem m1402 : Cond.fieldLink RX12 175 "SlabWalkModel" "boxes" "[I" ∈ gd := gdc_6_5 6 rfl gw_fieldLink
theorem m2070 : Cond.methodLink RX12 603 yX12_isBox ∈ gd := gdc_9_2 2 rfl gw_methodLink
theorem m2071 : Cond.static yX12_isBox ∈ gd := gdc_9_2 3 rfl gw_static
theorem m2072 : Cond.code yX12_isBox cX12_isBox 1 (some .boolean) ∈ gd := gdc_9_2 4 rfl gw_code
def rbX12_back_0 : List (Nat × List Nat) := [(0, [27]), (1, [184, 2, 91]), (4, [153, 0, 12]), (7, [42]), (8, [180, 0, 172]), (11, [27]), (12, [51]), (13, [154, 0, 5]), (16, [2]), (17, [172]), (18, [3]), (19, [61]), (20, [28]), (21, [16, 10]), (23, [162, 0, 26]), (26, [42]), (27, [180, 0, 151]), (30, [28]), (31, [42]), (32, [180, 0, 175]), (35, [16, 16]), (37, [27]), (38, [104]), (39, [28])]
theorem rcX12_back_0 : dgo (lb cX12_back) 0 rbX12_back_0 = true := by decide +kernel
theorem dX12_back_0 : decode cX12_back 0 = .ok (.iload_n 1, 1) := dk_27 (dw rcX12_back_0 0 rfl)
theorem dX12_back_1 : decode cX12_back 1 = .ok (.invokestatic 603, 3) := dk_184 (dw rcX12_back_0 1 rfl) rfl
theorem dX12_back_4 : decode cX12_back 4 = .ok (.ifCond .eq 12, 3) := dk_153 (dw rcX12_back_0 2 rfl) rfl
theorem dX12_back_7 : decode cX12_back 7 = .ok (.aload_n 0, 1) := dk_42 (dw rcX12_back_0 3 rfl)
theorem dX12_back_8 : decode cX12_back 8 = .ok (.getfield 172, 3) := dk_180 (dw rcX12_back_0 4 rfl) rfl
theorem dX12_back_11 : decode cX12_back 11 = .ok (.iload_n 1, 1) := dk_27 (dw rcX12_back_0 5 rfl)
theorem dX12_back_12 : decode cX12_back 12 = .ok (.baload, 1) := dk_51 (dw rcX12_back_0 6 rfl)
theorem dX12_back_13 : decode cX12_back 13 = .ok (.ifCond .ne 5, 3) := dk_154 (dw rcX12_back_0 7 rfl) rfl
theorem dX12_back_16 : decode cX12_back 16 = .ok (.iconst (-1), 1) := dk_2 (dw rcX12_back_0 8 rfl)
theorem dX12_back_17 : decode cX12_back 17 = .ok (.ireturn, 1) := dk_172 (dw rcX12_back_0 9 rfl)
theorem dX12_back_18 : decode cX12_back 18 = .ok (.iconst 0, 1) := dk_3 (dw rcX12_back_0 10 rfl)
theorem dX12_back_19 : decode cX12_back 19 = .ok (.istore_n 2, 1) := dk_61 (dw rcX12_back_0 11 rfl)
theorem dX12_back_20 : decode cX12_back 20 = .ok (.iload_n 2, 1) := dk_28 (dw rcX12_back_0 12 rfl)
theorem dX12_back_21 : decode cX12_back 21 = .ok (.bipush 10, 2) := dk_16 (dw rcX12_back_0 13 rfl) rfl
theorem dX12_back_23 : decode cX12_back 23 = .ok (.if_icmp .ge 26, 3) := dk_162 (dw rcX12_back_0 14 rfl) rfl
theorem dX12_back_26 : decode cX12_back 26 = .ok (.aload_n 0, 1) := dk_42 (dw rcX12_back_0 15 rfl)
theorem dX12_back_27 : decode cX12_back 27 = .ok (.getfield 151, 3) := dk_180 (dw rcX12_back_0 16 rfl) rfl
theorem dX12_back_30 : decode cX12_back 30 = .ok (.iload_n 2, 1) := dk_28 (dw rcX12_back_0 17 rfl)
theorem dX12_back_31 : decode cX12_back 31 = .ok (.aload_n 0, 1) := dk_42 (dw rcX12_back_0 18 rfl)
theorem dX12_back_32 : decode cX12_back 32 = .ok (.getfield 175, 3) := dk_180 (dw rcX12_back_0 19 rfl) rfl
theorem dX12_back_35 : decode cX12_back 35 = .ok (.bipush 16, 2) := dk_16 (dw rcX12_back_0 20 rfl) rfl
theorem dX12_back_37 : decode cX12_back 37 = .ok (.iload_n 1, 1) := dk_27 (dw rcX12_back_0 21 rfl)
theorem dX12_back_38 : decode cX12_back 38 = .ok (.imul, 1) := dk_104 (dw rcX12_back_0 22 rfl)
theorem dX12_back_39 : decode cX12_back 39 = .ok (.iload_n 2, 1) := dk_28 (dw rcX12_back_0 23 rfl)
def rbX12_back_40 : List (Nat × List Nat) := [(40, [96]), (41, [46]), (42, [79]), (43, [132, 2, 1]), (46, [167, 255, 230]), (49, [42]), (50, [3]), (51, [181, 1, 181]), (54, [42]), (55, [3]), (56, [181, 1, 184]), (59, [42]), (60, [180, 0, 151]), (63, [16, 6]), (65, [46]), (66, [172])]
theorem rcX12_back_40 : dgo (lb cX12_back) 0 rbX12_back_40 = true := by decide +kernel
theorem dX12_back_40 : decode cX12_back 40 = .ok (.iadd, 1) := dk_96 (dw rcX12_back_40 0 rfl)
theorem dX12_back_41 : decode cX12_back 41 = .ok (.iaload, 1) := dk_46 (dw rcX12_back_40 1 rfl)
theorem dX12_back_42 : decode cX12_back 42 = .ok (.iastore, 1) := dk_79 (dw rcX12_back_40 2 rfl)
theorem dX12_back_43 : decode cX12_back 43 = .ok (.iinc 2 1, 3) := dk_132 (dw rcX12_back_40 3 rfl) rfl
theorem dX12_back_46 : decode cX12_back 46 = .ok (.goto (-26), 3) := dk_167 (dw rcX12_back_40 4 rfl) rfl
theorem dX12_back_49 : decode cX12_back 49 = .ok (.aload_n 0, 1) := dk_42 (dw rcX12_back_40 5 rfl)
theorem dX12_back_50 : decode cX12_back 50 = .ok (.iconst 0, 1) := dk_3 (dw rcX12_back_40 6 rfl)
theorem dX12_back_51 : decode cX12_back 51 = .ok (.putfield 437, 3) := dk_181 (dw rcX12_back_40 7 rfl) rfl
theorem dX12_back_54 : decode cX12_back 54 = .ok (.aload_n 0, 1) := dk_42 (dw rcX12_back_40 8 rfl)
theorem dX12_back_55 : decode cX12_back 55 = .ok (.iconst 0, 1) := dk_3 (dw rcX12_back_40 9 rfl)
theorem dX12_back_56 : decode cX12_back 56 = .ok (.putfield 440, 3) := dk_181 (dw rcX12_back_40 10 rfl) rfl
theorem dX12_back_59 : decode cX12_back 59 = .ok (.aload_n 0, 1) := dk_42 (dw rcX12_back_40 11 rfl)
theorem dX12_back_60 : decode cX12_back 60 = .ok (.getfield 151, 3) := dk_180 (dw rcX12_back_40 12 rfl) rfl
theorem dX12_back_63 : decode cX12_back 63 = .ok (.bipush 6, 2) := dk_16 (dw rcX12_back_40 13 rfl) rfl
theorem dX12_back_65 : decode cX12_back 65 = .ok (.iaload, 1) := dk_46 (dw rcX12_back_40 14 rfl)
theorem dX12_back_66 : decode cX12_back 66 = .ok (.ireturn, 1) := dk_172 (dw rcX12_back_40 15 rfl)
def rbX12_image_0 : List (Nat × List Nat) := [(0, [27]), (1, [184, 2, 91]), (4, [154, 0, 5]), (7, [2]), (8, [172]), (9, [42]), (10, [180, 0, 172]), (13, [27]), (14, [4]), (15, [84]), (16, [3]), (17, [61]), (18, [28]), (19, [16, 10]), (21, [162, 0, 26]), (24, [42]), (25, [180, 0, 175]), (28, [16, 16]), (30, [27]), (31, [104]), (32, [28]), (33, [96]), (34, [42]), (35, [180, 0, 151])]
theorem rcX12_image_0 : dgo (lb cX12_image) 0 rbX12_image_0 = true := by decide +kernel
theorem dX12_image_0 : decode cX12_image 0 = .ok (.iload_n 1, 1) := dk_27 (dw rcX12_image_0 0 rfl)
theorem dX12_image_1 : decode cX12_image 1 = .ok (.invokestatic 603, 3) := dk_184 (dw rcX12_image_0 1 rfl) rfl
theorem dX12_image_4 : decode cX12_image 4 = .ok (.ifCond .ne 5, 3) := dk_154 (dw rcX12_image_0 2 rfl) rfl
theorem dX12_image_7 : decode cX12_image 7 = .ok (.iconst (-1), 1) := dk_2 (dw rcX12_image_0 3 rfl)
theorem dX12_image_8 : decode cX12_image 8 = .ok (.ireturn, 1) := dk_172 (dw rcX12_image_0 4 rfl)
theorem dX12_image_9 : decode cX12_image 9 = .ok (.aload_n 0, 1) := dk_42 (dw rcX12_image_0 5 rfl)
theorem dX12_image_10 : decode cX12_image 10 = .ok (.getfield 172, 3) := dk_180 (dw rcX12_image_0 6 rfl) rfl
theorem dX12_image_13 : decode cX12_image 13 = .ok (.iload_n 1, 1) := dk_27 (dw rcX12_image_0 7 rfl)
theorem dX12_image_14 : decode cX12_image 14 = .ok (.iconst 1, 1) := dk_4 (dw rcX12_image_0 8 rfl)
theorem dX12_image_15 : decode cX12_image 15 = .ok (.bastore, 1) := dk_84 (dw rcX12_image_0 9 rfl)
theorem dX12_image_16 : decode cX12_image 16 = .ok (.iconst 0, 1) := dk_3 (dw rcX12_image_0 10 rfl)
theorem dX12_image_17 : decode cX12_image 17 = .ok (.istore_n 2, 1) := dk_61 (dw rcX12_image_0 11 rfl)
theorem dX12_image_18 : decode cX12_image 18 = .ok (.iload_n 2, 1) := dk_28 (dw rcX12_image_0 12 rfl)
theorem dX12_image_19 : decode cX12_image 19 = .ok (.bipush 10, 2) := dk_16 (dw rcX12_image_0 13 rfl) rfl
theorem dX12_image_21 : decode cX12_image 21 = .ok (.if_icmp .ge 26, 3) := dk_162 (dw rcX12_image_0 14 rfl) rfl
theorem dX12_image_24 : decode cX12_image 24 = .ok (.aload_n 0, 1) := dk_42 (dw rcX12_image_0 15 rfl)
theorem dX12_image_25 : decode cX12_image 25 = .ok (.getfield 175, 3) := dk_180 (dw rcX12_image_0 16 rfl) rfl
theorem dX12_image_28 : decode cX12_image 28 = .ok (.bipush 16, 2) := dk_16 (dw rcX12_image_0 17 rfl) rfl
theorem dX12_image_30 : decode cX12_image 30 = .ok (.iload_n 1, 1) := dk_27 (dw rcX12_image_0 18 rfl)
theorem dX12_image_31 : decode cX12_image 31 = .ok (.imul, 1) := dk_104 (dw rcX12_image_0 19 rfl)
theorem dX12_image_32 : decode cX12_image 32 = .ok (.iload_n 2, 1) := dk_28 (dw rcX12_image_0 20 rfl)
theorem dX12_image_33 : decode cX12_image 33 = .ok (.iadd, 1) := dk_96 (dw rcX12_image_0 21 rfl)
theorem dX12_image_34 : decode cX12_image 34 = .ok (.aload_n 0, 1) := dk_42 (dw rcX12_image_0 22 rfl)
theorem dX12_image_35 : decode cX12_image 35 = .ok (.getfield 151, 3) := dk_180 (dw rcX12_image_0 23 rfl) rfl
def rbX12_image_38 : List (Nat × List Nat) := [(38, [28]), (39, [46]), (40, [79]), (41, [132, 2, 1]), (44, [167, 255, 230]), (47, [42]), (48, [180, 0, 151]), (51, [16, 6]), (53, [46]), (54, [172])]
theorem rcX12_image_38 : dgo (lb cX12_image) 0 rbX12_image_38 = true := by decide +kernel
theorem dX12_image_38 : decode cX12_image 38 = .ok (.iload_n 2, 1) := dk_28 (dw rcX12_image_38 0 rfl)
theorem dX12_image_39 : decode cX12_image 39 = .ok (.iaload, 1) := dk_46 (dw rcX12_image_38 1 rfl)
theorem dX12_image_40 : decode cX12_image 40 = .ok (.iastore, 1) := dk_79 (dw rcX12_image_38 2 rfl)
theorem dX12_image_41 : decode cX12_image 41 = .ok (.iinc 2 1, 3) := dk_132 (dw rcX12_image_38 3 rfl) rfl
theorem dX12_image_44 : decode cX12_image 44 = .ok (.goto (-26), 3) := dk_167 (dw rcX12_image_38 4 rfl) rfl
theorem dX12_image_47 : decode cX12_image 47 = .ok (.aload_n 0, 1) := dk_42 (dw rcX12_image_38 5 rfl)
theorem dX12_image_48 : decode cX12_image 48 = .ok (.getfield 151, 3) := dk_180 (dw rcX12_image_38 6 rfl) rfl
theorem dX12_image_51 : decode cX12_image 51 = .ok (.bipush 6, 2) := dk_16 (dw rcX12_image_38 7 rfl) rfl
theorem dX12_image_53 : decode cX12_image 53 = .ok (.iaload, 1) := dk_46 (dw rcX12_image_38 8 rfl)
theorem dX12_image_54 : decode cX12_image 54 = .ok (.ireturn, 1) := dk_172 (dw rcX12_image_38 9 rfl)
set_option maxHeartbeats 4000000 in
set_option maxRecDepth 100000 in
theorem n_image (l : Launch) (D : va_G) (k : KT) (A : Nat → Prop) (a : Nat → Nat) (z : SK) (G : GS) (p0 : Int32) (hac : (G.1 66 78).toInt + (G.1 66 79).toInt ≤ 40) : Met l yX12_image (WS yX12_image cX12_image 3 (some .int)) ({ frames := 1, cells := 0, slots := 0, locals := 20 }) (va_Pc [.ref (a 66), .int p0] (cW D k A a z G)) (va_Qi (fun (r : Int32) (G1 : GS) => Q_image p0 G r G1) (fun (G1 : GS) t => Wd D k A a G1 t.heap) A) 0 0 A := by
  refine Met.ofW (cc := cX12_image) (maxL := 3) (ret := (some .int)) (by decide) rfl ?_
  intro p e s m args below meth c s₁ B hml hv
  obtain ⟨rfl, hW, hB_G, hK, hZ⟩ := hv
  have hx := B.exec
  have hb := B.bytes
  have hr := B.returns
  have hts := atoms_spec (ws := WS yX12_image cX12_image 3 (some .int)) B.pre
  have hgd : ∀ w ∈ gd, w ∈ WS yX12_image cX12_image 3 (some .int) := fun w h => List.mem_cons_of_mem _ h
  have hg : ∀ w ∈ gd, w.before _ s = true := fun w h => hts w (hgd w h)
  have hown : s.vm.findClass RX12 = some m.cls := findClass_of_methodNamed B.named
  have hS : va_S A s.heap s.heap [] := va_S.rf
  have hF : Fr [117, 118] [] G G := Fr.rf
  have hl := lv_entry ([.ref (a 66), .int p0]) (n := 3) (Nat.le_of_ble_eq_true rfl)
  rw [lg_entry_eq]
  generalize (lg_sl ([.ref (a 66), .int p0]) ++ List.replicate (3 - (lg_sl ([.ref (a 66), .int p0])).length) Slot.unset).toArray = ls at hl ⊢
  have hl : lv_has ls 3 [(0, .ref (a 66)), (1, .int p0)] := hl
  refine lv_iload_n hx hb dX12_image_0 rfl (lv_at hl 1 rfl) ?_
  refine S_calli (va_runS (As := [.int p0]) (rest := []) ⟨hx, hb, hml, hown, hts⟩ (n_isBox l D k A a z G p0 ) (va_cwS 1 hts (gd_S hgd m2070 m2071 m131 m2072) rfl rfl rfl hd_X12_isBox.2 ⟨Nat.le_of_ble_eq_true rfl, Nat.le_of_ble_eq_true rfl⟩) (pre_S hW hB_G hK hZ hS) rfl rfl hl.1 rfl (lv_room (Nat.le_of_ble_eq_true rfl)) dX12_image_1 ⟨Nat.le_of_ble_eq_true rfl, Nat.le_of_ble_eq_true rfl⟩) hS (fun r_1 G_2 H locs hpo hW hS => ?_)
  have hX_5 : Q_isBox p0 G r_1 G_2 := hpo
  obtain ⟨hB_G_2, hq_3, f_6, hp_4, -⟩ := hpo
  have hF := hF.call9 hq_3 rfl rfl
  refine lv_if_ne (tgt := 9) hx hb dX12_image_4 rfl (fun c_7 => ?_) (fun c_7 => ?_)
  · have c_7 : r_1.toInt ≠ 0 := xI_ne rfl rfl c_7
    refine lv_aload_n hx hb dX12_image_9 rfl (lv_at hl 0 rfl) ?_
    refine S_getR (n := 117) (C := RX12) (T := TX12) (N := 89) hx hb hg iX12 hown hK hW kd_66 rfl 87 (lt_b rfl) (hg (Cond.fieldLink RX12 172 "SlabWalkModel" "hasBox" "[Z") m1401) (fun _ h9 => h9) rfl dX12_image_10 ?_
    refine lv_iload_n hx hb dX12_image_13 rfl (lv_at hl 1 rfl) ?_
    refine ic_1 hx hb dX12_image_14 ?_
    refine S_zast hx hb hK hW hS kd_117 (vin (by omega) (by omega)) dX12_image_15 (fun G_8 H locs eG_8 hW hS => ?_)
    have hB_G_8 : Bd G_8 := hB_G_2.put (lo := 0) (hi := 1) eG_8 rfl rfl rfl nz_bool.1 nz_bool.2 (hB_G_2.2.put eG_8 rfl)
    have hF := hF.put eG_8 (Or.inl (by decide))
    refine ic_0 hx hb dX12_image_16 ?_
    refine lv_istore_n (lv' := [(2, .int 0), (0, .ref (a 66)), (1, .int p0)]) hx hb dX12_image_17 rfl hl (lt_b rfl) rfl (fun ls hl => ?_)
    have qc_15 : (0 : Int32).toInt = 0 := rfl
    refine loop_N (Inv := fun n H locs ls => ∃ (G_9 : GS) (x_13 : Int32), (n : Int) = 10 - x_13.toInt ∧ (0 ≤ x_13.toInt ∧ x_13.toInt ≤ 10) ∧ Rc (St_n_image_1 p0) (0, G_8) (x_13, G_9) ∧ Wd D k A a G_9 H ∧ Bd G_9 ∧ Fr [117, 118] [] G G_9 ∧ Fr [118] [] G_8 G_9 ∧ va_S A s.heap H locs ∧ lv_has ls 3 [(2, .int x_13), (0, .ref (a 66)), (1, .int p0)]) (fun n_12 H locs ls ih_11 hI => ?_) (10 - 0 : Int).toNat ⟨G_8, 0, (Int.toNat_of_nonneg ((by first | (clear hac f_6 hp_4 c_7; omega) | omega))), ⟨(by first | (clear hac f_6 hp_4 c_7; omega) | omega), (by first | (clear hac f_6 hp_4 c_7; omega) | omega)⟩, Rc.rf, hW, hB_G_8, hF, Fr.rf, hS, lv_sub hl [0, 1, 2] rfl⟩
    obtain ⟨G_9, x_13, hn_17, f_16, hX_14, hW, hB_G_9, hF, hq_10, hS, hl⟩ := hI
    refine lv_iload_n hx hb dX12_image_18 rfl (lv_at hl 0 rfl) ?_
    refine lv_bipush (v := 10) hx hb dX12_image_19 (by decide) ?_
    refine lv_icmp_ge (tgt := 47) hx hb dX12_image_21 rfl (fun c_18 => ?_) (fun c_18 => ?_)
    · have c_18 : 10 ≤ x_13.toInt := xI_le rfl rfl c_18
      refine lv_aload_n hx hb dX12_image_47 rfl (lv_at hl 1 rfl) ?_
      refine S_getR (n := 110) (C := RX12) (T := TX12) (N := 89) hx hb hg iX12 hown hK hW kd_66 rfl 76 (lt_b rfl) (hg (Cond.fieldLink RX12 151 "SlabWalkModel" "now" "[I") m1390) (fun _ h9 => h9) rfl dX12_image_48 ?_
      refine lv_bipush (v := 6) hx hb dX12_image_51 (by decide) ?_
      refine S_iald hx hb hK hW kd_110 (vin (by decide) (by decide)) dX12_image_53 (fun y_19 ey_19 => ?_)
      have b_20 : 0 ≤ (G.1 66 78).toInt ∧ (G.1 66 78).toInt ≤ 40 := bd_66_78 hB_G
      have g_21 : (G_9.1 66 78).toInt = (G.1 66 78).toInt := (congrArg Int32.toInt (show G_9.1 66 78 = (G.1 66 78) from ((hq_10.i9 66 78 rfl rfl).trans ((gp_ne eG_8 (fun q => absurd q.1 (Nat.ne_of_beq_eq_false rfl))).trans (hq_3.i9 66 78 rfl rfl)))))
      have b_22 : 0 ≤ (G.1 66 79).toInt ∧ (G.1 66 79).toInt ≤ 40 := bd_66_79 hB_G
      have g_23 : (G_9.1 66 79).toInt = (G.1 66 79).toInt := (congrArg Int32.toInt (show G_9.1 66 79 = (G.1 66 79) from ((hq_10.i9 66 79 rfl rfl).trans ((gp_ne eG_8 (fun q => absurd q.1 (Nat.ne_of_beq_eq_false rfl))).trans (hq_3.i9 66 79 rfl rfl)))))
      exact W.iret (v := y_19) hx hb hr (fun t ht _ => ⟨⟨y_19, G_9, rfl, (Q_image_mk ⟨hB_G_9, hF, ((by first | (clear f_6 hp_4 c_7 hn_17 f_16 c_18; omega) | omega)), ⟨r_1, G_2, hX_5, (Or.inr ⟨c_7, ⟨G_8, hB_G_8, (Fr.put (rs := [117]) (fs := []) Fr.rf eG_8 (Or.inl (by decide))), rw_ast eG_8, ⟨x_13, G_9, hX_14, f_16, hB_G_9, hq_10, ⟨c_18, ⟨y_19, ey_19, ⟨rfl, rfl⟩⟩⟩⟩⟩⟩)⟩⟩), wd_t ht hW⟩, hS.F ht⟩) hS.2.2 dX12_image_54
    · have c_18 : x_13.toInt < 10 := xI_nle rfl rfl c_18
      refine lv_aload_n hx hb dX12_image_24 rfl (lv_at hl 1 rfl) ?_
      refine S_getR (n := 118) (C := RX12) (T := TX12) (N := 89) hx hb hg iX12 hown hK hW kd_66 rfl 88 (lt_b rfl) (hg (Cond.fieldLink RX12 175 "SlabWalkModel" "boxes" "[I") m1402) (fun _ h9 => h9) rfl dX12_image_25 ?_
      refine lv_bipush (v := 16) hx hb dX12_image_28 (by decide) ?_
      refine lv_iload_n hx hb dX12_image_30 rfl (lv_at hl 2 rfl) ?_
      refine lv_imul hx hb dX12_image_31 ?_
      refine lv_topi (fun y_24 ey_24 => ?_)
      have ty_24 : y_24.toInt = 16 * p0.toInt := xI_mul rfl rfl ey_24 ((by first | (clear hac hn_17 f_16 c_18; omega) | omega)) ((by first | (clear hac hn_17 f_16 c_18; omega) | omega))
      refine lv_iload_n hx hb dX12_image_32 rfl (lv_at hl 0 rfl) ?_
      refine lv_iadd hx hb dX12_image_33 ?_
      refine lv_topi (fun y_25 ey_25 => ?_)
      have ty_25 : y_25.toInt = y_24.toInt + x_13.toInt := xI_add rfl rfl ey_25 (by omega) (by omega)
      refine lv_aload_n hx hb dX12_image_34 rfl (lv_at hl 1 rfl) ?_
      refine S_getR (n := 110) (C := RX12) (T := TX12) (N := 89) hx hb hg iX12 hown hK hW kd_66 rfl 76 (lt_b rfl) (hg (Cond.fieldLink RX12 151 "SlabWalkModel" "now" "[I") m1390) (fun _ h9 => h9) rfl dX12_image_35 ?_
      refine lv_iload_n hx hb dX12_image_38 rfl (lv_at hl 0 rfl) ?_
      refine S_iald hx hb hK hW kd_110 (vin (by omega) (by omega)) dX12_image_39 (fun y_26 ey_26 => ?_)
      have ty_26 := hB_G_9.now 110 (by decide) ey_26 (by omega)
      refine S_iast hx hb hK hW hS kd_118 (vin (by omega) (by omega)) dX12_image_40 (fun G_27 H locs eG_27 hW hS => ?_)
      have hB_G_27 : Bd G_27 := hB_G_9.putNow 118 (by decide) eG_27 (by omega) (by omega) (by omega) rfl
      have hF := hF.put eG_27 (Or.inl (by decide))
      obtain ⟨y_28, ey_28⟩ : ∃ q, q = x_13 + 1 := ⟨_, rfl⟩
      have ty_28 : y_28.toInt = x_13.toInt + 1 := xI_add rfl rfl ey_28 (by omega) (by omega)
      refine lv_iinc (v := y_28) (lv' := [(2, .int y_28), (0, .ref (a 66)), (1, .int p0)]) hx hb dX12_image_41 hl (k := 0) rfl (by rw [ey_28]; rfl) (lt_b rfl) rfl (fun ls hl => ?_)
      refine lv_goto (tgt := 18) hx hb dX12_image_44 rfl ?_
      exact ih_11 (10 - y_28.toInt : Int).toNat (by omega) _ _ _ ⟨G_27, y_28, (Int.toNat_of_nonneg (by omega)), ⟨by omega, by omega⟩, (hX_14.st (St_n_image_1_mk ⟨x_13, G_9, y_28, G_27, rfl, rfl, f_16, hB_G_9, ⟨c_18, ⟨y_24, ty_24, ⟨y_25, ty_25, ⟨y_26, ey_26, ⟨y_28, ty_28, ⟨rfl, (Fr.put (rs := [118]) (fs := []) Fr.rf eG_27 (Or.inl (by decide))), rw_ast eG_27⟩⟩⟩⟩⟩⟩⟩)), hW, hB_G_27, hF, (Fr.put (rs := [118]) (fs := []) (Fr.call9 (rs := [118]) (fs := []) Fr.rf hq_10 rfl rfl) eG_27 (Or.inl (by decide))), hS, lv_sub hl [0, 1, 2] rfl⟩
  · have c_7 : r_1.toInt = 0 := xI_eq rfl rfl c_7
    refine ic_m1 hx hb dX12_image_7 ?_
    have b_29 : 0 ≤ (G.1 66 78).toInt ∧ (G.1 66 78).toInt ≤ 40 := bd_66_78 hB_G
    have g_30 : (G_2.1 66 78).toInt = (G.1 66 78).toInt := (congrArg Int32.toInt (show G_2.1 66 78 = (G.1 66 78) from (hq_3.i9 66 78 rfl rfl)))
    have b_31 : 0 ≤ (G.1 66 79).toInt ∧ (G.1 66 79).toInt ≤ 40 := bd_66_79 hB_G
    have g_32 : (G_2.1 66 79).toInt = (G.1 66 79).toInt := (congrArg Int32.toInt (show G_2.1 66 79 = (G.1 66 79) from (hq_3.i9 66 79 rfl rfl)))
    exact W.iret (v := (-1)) hx hb hr (fun t ht _ => ⟨⟨(-1), G_2, rfl, (Q_image_mk ⟨hB_G_2, hF, (by have hq : ((-1) : Int32).toInt = (-1) := rfl; (try dsimp only); omega), ⟨r_1, G_2, hX_5, (Or.inl ⟨c_7, ⟨rfl, rfl⟩⟩)⟩⟩), wd_t ht hW⟩, hS.F ht⟩) hS.2.2 dX12_image_8

set_option maxHeartbeats 4000000 in
set_option maxRecDepth 100000 in
theorem n_back (l : Launch) (D : va_G) (k : KT) (A : Nat → Prop) (a : Nat → Nat) (z : SK) (G : GS) (p0 : Int32) (hac : (G.1 66 78).toInt + (G.1 66 79).toInt ≤ 40) : Met l yX12_back (WS yX12_back cX12_back 3 (some .int)) ({ frames := 1, cells := 0, slots := 0, locals := 20 }) (va_Pc [.ref (a 66), .int p0] (cW D k A a z G)) (va_Qi (fun (r : Int32) (G1 : GS) => Q_back p0 G r G1) (fun (G1 : GS) t => Wd D k A a G1 t.heap) A) 0 0 A := by
  refine Met.ofW (cc := cX12_back) (maxL := 3) (ret := (some .int)) (by decide) rfl ?_
  intro p e s m args below meth c s₁ B hml hv
  obtain ⟨rfl, hW, hB_G, hK, hZ⟩ := hv
  have hx := B.exec
  have hb := B.bytes
  have hr := B.returns
  have hts := atoms_spec (ws := WS yX12_back cX12_back 3 (some .int)) B.pre
  have hgd : ∀ w ∈ gd, w ∈ WS yX12_back cX12_back 3 (some .int) := fun w h => List.mem_cons_of_mem _ h
  have hg : ∀ w ∈ gd, w.before _ s = true := fun w h => hts w (hgd w h)
  have hown : s.vm.findClass RX12 = some m.cls := findClass_of_methodNamed B.named
  have hS : va_S A s.heap s.heap [] := va_S.rf
  have hF : Fr [110] [(66, 78), (66, 79)] G G := Fr.rf
  have hl := lv_entry ([.ref (a 66), .int p0]) (n := 3) (Nat.le_of_ble_eq_true rfl)
  rw [lg_entry_eq]
  generalize (lg_sl ([.ref (a 66), .int p0]) ++ List.replicate (3 - (lg_sl ([.ref (a 66), .int p0])).length) Slot.unset).toArray = ls at hl ⊢
  have hl : lv_has ls 3 [(0, .ref (a 66)), (1, .int p0)] := hl
  refine lv_iload_n hx hb dX12_back_0 rfl (lv_at hl 1 rfl) ?_
  refine S_calli (va_runS (As := [.int p0]) (rest := []) ⟨hx, hb, hml, hown, hts⟩ (n_isBox l D k A a z G p0 ) (va_cwS 1 hts (gd_S hgd m2070 m2071 m131 m2072) rfl rfl rfl hd_X12_isBox.2 ⟨Nat.le_of_ble_eq_true rfl, Nat.le_of_ble_eq_true rfl⟩) (pre_S hW hB_G hK hZ hS) rfl rfl hl.1 rfl (lv_room (Nat.le_of_ble_eq_true rfl)) dX12_back_1 ⟨Nat.le_of_ble_eq_true rfl, Nat.le_of_ble_eq_true rfl⟩) hS (fun r_1 G_2 H locs hpo hW hS => ?_)
  have hX_5 : Q_isBox p0 G r_1 G_2 := hpo
  obtain ⟨hB_G_2, hq_3, f_6, hp_4, -⟩ := hpo
  have hF := hF.call9 hq_3 rfl rfl
  refine lv_if_eq (tgt := 16) hx hb dX12_back_4 rfl (fun c_7 => ?_) (fun c_7 => ?_)
  · have c_7 : r_1.toInt = 0 := xI_eq rfl rfl c_7
    refine ic_m1 hx hb dX12_back_16 ?_
    have b_8 : 0 ≤ (G.1 66 78).toInt ∧ (G.1 66 78).toInt ≤ 40 := bd_66_78 hB_G
    have g_9 : (G_2.1 66 78).toInt = (G.1 66 78).toInt := (congrArg Int32.toInt (show G_2.1 66 78 = (G.1 66 78) from (hq_3.i9 66 78 rfl rfl)))
    have b_10 : 0 ≤ (G.1 66 79).toInt ∧ (G.1 66 79).toInt ≤ 40 := bd_66_79 hB_G
    have g_11 : (G_2.1 66 79).toInt = (G.1 66 79).toInt := (congrArg Int32.toInt (show G_2.1 66 79 = (G.1 66 79) from (hq_3.i9 66 79 rfl rfl)))
    exact W.iret (v := (-1)) hx hb hr (fun t ht _ => ⟨⟨(-1), G_2, rfl, (Q_back_mk ⟨hB_G_2, hF, (by have hq : ((-1) : Int32).toInt = (-1) := rfl; (try dsimp only); omega), ⟨r_1, G_2, hX_5, (Or.inl ⟨c_7, ⟨rfl, rfl⟩⟩)⟩⟩), wd_t ht hW⟩, hS.F ht⟩) hS.2.2 dX12_back_17
  · have c_7 : r_1.toInt ≠ 0 := xI_ne rfl rfl c_7
    refine lv_aload_n hx hb dX12_back_7 rfl (lv_at hl 0 rfl) ?_
    refine S_getR (n := 117) (C := RX12) (T := TX12) (N := 89) hx hb hg iX12 hown hK hW kd_66 rfl 87 (lt_b rfl) (hg (Cond.fieldLink RX12 172 "SlabWalkModel" "hasBox" "[Z") m1401) (fun _ h9 => h9) rfl dX12_back_8 ?_
    refine lv_iload_n hx hb dX12_back_11 rfl (lv_at hl 1 rfl) ?_
    refine S_zald hx hb hK hW kd_117 (vin (by omega) (by omega)) dX12_back_12 (fun y_12 ey_12 => ?_)
    have ty_12 : 0 ≤ y_12.toInt ∧ y_12.toInt ≤ 1 := bv_117 hB_G_2 ey_12
    refine lv_if_ne (tgt := 18) hx hb dX12_back_13 rfl (fun c_13 => ?_) (fun c_13 => ?_)
    · have c_13 : y_12.toInt ≠ 0 := xI_ne rfl rfl c_13
      refine ic_0 hx hb dX12_back_18 ?_
      refine lv_istore_n (lv' := [(2, .int 0), (0, .ref (a 66)), (1, .int p0)]) hx hb dX12_back_19 rfl hl (lt_b rfl) rfl (fun ls hl => ?_)
      have qc_20 : (0 : Int32).toInt = 0 := rfl
      refine loop_N (Inv := fun n H locs ls => ∃ (G_14 : GS) (x_18 : Int32), (n : Int) = 10 - x_18.toInt ∧ (0 ≤ x_18.toInt ∧ x_18.toInt ≤ 10) ∧ Rc (St_n_back_1 p0) (0, G_2) (x_18, G_14) ∧ Wd D k A a G_14 H ∧ Bd G_14 ∧ Fr [110] [(66, 78), (66, 79)] G G_14 ∧ Fr [110] [] G_2 G_14 ∧ va_S A s.heap H locs ∧ lv_has ls 3 [(2, .int x_18), (0, .ref (a 66)), (1, .int p0)]) (fun n_17 H locs ls ih_16 hI => ?_) (10 - 0 : Int).toNat ⟨G_2, 0, (Int.toNat_of_nonneg ((by first | (clear hac f_6 hp_4 c_7 ty_12 c_13; omega) | omega))), ⟨(by first | (clear hac f_6 hp_4 c_7 ty_12 c_13; omega) | omega), (by first | (clear hac f_6 hp_4 c_7 ty_12 c_13; omega) | omega)⟩, Rc.rf, hW, hB_G_2, hF, Fr.rf, hS, lv_sub hl [0, 1, 2] rfl⟩
      obtain ⟨G_14, x_18, hn_22, f_21, hX_19, hW, hB_G_14, hF, hq_15, hS, hl⟩ := hI
      refine lv_iload_n hx hb dX12_back_20 rfl (lv_at hl 0 rfl) ?_
      refine lv_bipush (v := 10) hx hb dX12_back_21 (by decide) ?_
      refine lv_icmp_ge (tgt := 49) hx hb dX12_back_23 rfl (fun c_23 => ?_) (fun c_23 => ?_)
      · have c_23 : 10 ≤ x_18.toInt := xI_le rfl rfl c_23
        refine lv_aload_n hx hb dX12_back_49 rfl (lv_at hl 1 rfl) ?_
        refine ic_0 hx hb dX12_back_50 ?_
        refine S_putI (ty := .int) (C := RX12) (T := TX12) (N := 89) hx hb hg iX12 tyX12 tyX12_ok nmX12 hown hK hW hS kd_66 rfl 78 (lt_b rfl) (hg (Cond.fieldLink RX12 437 "SlabWalkModel" "acts" "I") m1392) (fun _ h9 => h9) rfl (by decide +kernel) rfl rfl rfl dX12_back_51 (fun G_24 H locs eG_24 hW hS => ?_)
        have hB_G_24 : Bd G_24 := hB_G_14.put (V := 0) (lo := 0) (hi := 40) eG_24 rfl rfl rfl (by decide) (by decide) (hB_G_14.2.put eG_24 rfl)
        have hF := hF.put eG_24 (Or.inr (by decide))
        refine lv_aload_n hx hb dX12_back_54 rfl (lv_at hl 1 rfl) ?_
        refine ic_0 hx hb dX12_back_55 ?_
        refine S_putI (ty := .int) (C := RX12) (T := TX12) (N := 89) hx hb hg iX12 tyX12 tyX12_ok nmX12 hown hK hW hS kd_66 rfl 79 (lt_b rfl) (hg (Cond.fieldLink RX12 440 "SlabWalkModel" "undone" "I") m1393) (fun _ h9 => h9) rfl (by decide +kernel) rfl rfl rfl dX12_back_56 (fun G_25 H locs eG_25 hW hS => ?_)
        have hB_G_25 : Bd G_25 := hB_G_24.put (V := 0) (lo := 0) (hi := 40) eG_25 rfl rfl rfl (by decide) (by decide) (hB_G_24.2.put eG_25 rfl)
        have hF := hF.put eG_25 (Or.inr (by decide))
        refine lv_aload_n hx hb dX12_back_59 rfl (lv_at hl 1 rfl) ?_
        refine S_getR (n := 110) (C := RX12) (T := TX12) (N := 89) hx hb hg iX12 hown hK hW kd_66 rfl 76 (lt_b rfl) (hg (Cond.fieldLink RX12 151 "SlabWalkModel" "now" "[I") m1390) (fun _ h9 => h9) rfl dX12_back_60 ?_
        refine lv_bipush (v := 6) hx hb dX12_back_63 (by decide) ?_
        refine S_iald hx hb hK hW kd_110 (vin (by decide) (by decide)) dX12_back_65 (fun y_26 ey_26 => ?_)
        have g_27 : (G_25.1 66 78).toInt = 0 := (congrArg Int32.toInt (show G_25.1 66 78 = 0 from ((gp_ne eG_25 (by decide)).trans (gp_eq eG_24)))).trans rfl
        have g_28 : (G_25.1 66 79).toInt = 0 := (congrArg Int32.toInt (show G_25.1 66 79 = 0 from (gp_eq eG_25))).trans rfl
        exact W.iret (v := y_26) hx hb hr (fun t ht _ => ⟨⟨y_26, G_25, rfl, (Q_back_mk ⟨hB_G_25, hF, ((by first | (clear hac f_6 hp_4 c_7 ty_12 c_13 hn_22 f_21 c_23; omega) | omega)), ⟨r_1, G_2, hX_5, (Or.inr ⟨c_7, ⟨y_12, ey_12, (Or.inr ⟨c_13, ⟨x_18, G_14, hX_19, f_21, hB_G_14, hq_15, ⟨c_23, ⟨y_26, ey_26.trans (congrFun ((rw_put eG_25 (by decide)).trans (rw_put eG_24 (by decide))) _), ⟨rfl, (Fr.put (rs := []) (fs := [(66, 78), (66, 79)]) (Fr.put (rs := []) (fs := [(66, 78), (66, 79)]) Fr.rf eG_24 (Or.inr (by decide))) eG_25 (Or.inr (by decide))), ((gp_ne eG_25 (by decide)).trans (gp_eq eG_24)), (gp_eq eG_25)⟩⟩⟩⟩⟩)⟩⟩)⟩⟩), wd_t ht hW⟩, hS.F ht⟩) hS.2.2 dX12_back_66
      · have c_23 : x_18.toInt < 10 := xI_nle rfl rfl c_23
        refine lv_aload_n hx hb dX12_back_26 rfl (lv_at hl 1 rfl) ?_
        refine S_getR (n := 110) (C := RX12) (T := TX12) (N := 89) hx hb hg iX12 hown hK hW kd_66 rfl 76 (lt_b rfl) (hg (Cond.fieldLink RX12 151 "SlabWalkModel" "now" "[I") m1390) (fun _ h9 => h9) rfl dX12_back_27 ?_
        refine lv_iload_n hx hb dX12_back_30 rfl (lv_at hl 0 rfl) ?_
        refine lv_aload_n hx hb dX12_back_31 rfl (lv_at hl 1 rfl) ?_
        refine S_getR (n := 118) (C := RX12) (T := TX12) (N := 89) hx hb hg iX12 hown hK hW kd_66 rfl 88 (lt_b rfl) (hg (Cond.fieldLink RX12 175 "SlabWalkModel" "boxes" "[I") m1402) (fun _ h9 => h9) rfl dX12_back_32 ?_
        refine lv_bipush (v := 16) hx hb dX12_back_35 (by decide) ?_
        refine lv_iload_n hx hb dX12_back_37 rfl (lv_at hl 2 rfl) ?_
        refine lv_imul hx hb dX12_back_38 ?_
        refine lv_topi (fun y_29 ey_29 => ?_)
        have ty_29 : y_29.toInt = 16 * p0.toInt := xI_mul rfl rfl ey_29 ((by first | (clear hac ty_12 c_13 hn_22 f_21 c_23; omega) | omega)) ((by first | (clear hac ty_12 c_13 hn_22 f_21 c_23; omega) | omega))
        refine lv_iload_n hx hb dX12_back_39 rfl (lv_at hl 0 rfl) ?_
        refine lv_iadd hx hb dX12_back_40 ?_
        refine lv_topi (fun y_30 ey_30 => ?_)
        have ty_30 : y_30.toInt = y_29.toInt + x_18.toInt := xI_add rfl rfl ey_30 ((by first | (clear hac ty_12 c_13 hn_22; omega) | omega)) ((by first | (clear hac ty_12 c_13 hn_22; omega) | omega))
        refine S_iald hx hb hK hW kd_118 (vin ((by first | (clear hac ty_12 c_13 hn_22; omega) | omega)) ((by first | (clear hac ty_12 c_13 hn_22; omega) | omega))) dX12_back_41 (fun y_31 ey_31 => ?_)
        have ty_31 := hB_G_14.now 118 (by decide) ey_31 (by omega)
        refine S_iast hx hb hK hW hS kd_110 (vin ((by first | (clear hac ty_12 c_13 hn_22; omega) | omega)) ((by first | (clear hac ty_12 c_13 hn_22; omega) | omega))) dX12_back_42 (fun G_32 H locs eG_32 hW hS => ?_)
        have hB_G_32 : Bd G_32 := hB_G_14.putNow 110 (by decide) eG_32 (by omega) (by omega) (by omega) rfl
        have hF := hF.put eG_32 (Or.inl (by decide))
        obtain ⟨y_33, ey_33⟩ : ∃ q, q = x_18 + 1 := ⟨_, rfl⟩
        have ty_33 : y_33.toInt = x_18.toInt + 1 := xI_add rfl rfl ey_33 ((by first | (clear hac ty_12 c_13 hn_22; omega) | omega)) ((by first | (clear hac ty_12 c_13 hn_22; omega) | omega))
        refine lv_iinc (v := y_33) (lv' := [(2, .int y_33), (0, .ref (a 66)), (1, .int p0)]) hx hb dX12_back_43 hl (k := 0) rfl (by rw [ey_33]; rfl) (lt_b rfl) rfl (fun ls hl => ?_)
        refine lv_goto (tgt := 20) hx hb dX12_back_46 rfl ?_
        exact ih_16 (10 - y_33.toInt : Int).toNat ((by first | (clear hac ty_12 c_13; omega) | omega)) _ _ _ ⟨G_32, y_33, (Int.toNat_of_nonneg ((by first | (clear hac ty_12 c_13 hn_22; omega) | omega))), ⟨(by first | (clear hac ty_12 c_13 hn_22; omega) | omega), (by first | (clear hac ty_12 c_13 hn_22; omega) | omega)⟩, (hX_19.st (St_n_back_1_mk ⟨x_18, G_14, y_33, G_32, rfl, rfl, f_21, hB_G_14, ⟨c_23, ⟨y_29, ty_29, ⟨y_30, ty_30, ⟨y_31, ey_31, ⟨y_33, ty_33, ⟨rfl, (Fr.put (rs := [110]) (fs := []) Fr.rf eG_32 (Or.inl (by decide))), rw_ast eG_32⟩⟩⟩⟩⟩⟩⟩)), hW, hB_G_32, hF, (Fr.put (rs := [110]) (fs := []) (Fr.call9 (rs := [110]) (fs := []) Fr.rf hq_15 rfl rfl) eG_32 (Or.inl (by decide))), hS, lv_sub hl [0, 1, 2] rfl⟩
    · have c_13 : y_12.toInt = 0 := xI_eq rfl rfl c_13
      refine ic_m1 hx hb dX12_back_16 ?_
      have b_34 : 0 ≤ (G.1 66 78).toInt ∧ (G.1 66 78).toInt ≤ 40 := bd_66_78 hB_G
      have g_35 : (G_2.1 66 78).toInt = (G.1 66 78).toInt := (congrArg Int32.toInt (show G_2.1 66 78 = (G.1 66 78) from (hq_3.i9 66 78 rfl rfl)))
      have b_36 : 0 ≤ (G.1 66 79).toInt ∧ (G.1 66 79).toInt ≤ 40 := bd_66_79 hB_G
      have g_37 : (G_2.1 66 79).toInt = (G.1 66 79).toInt := (congrArg Int32.toInt (show G_2.1 66 79 = (G.1 66 79) from (hq_3.i9 66 79 rfl rfl)))
      exact W.iret (v := (-1)) hx hb hr (fun t ht _ => ⟨⟨(-1), G_2, rfl, (Q_back_mk ⟨hB_G_2, hF, (by have hq : ((-1) : Int32).toInt = (-1) := rfl; (try dsimp only); omega), ⟨r_1, G_2, hX_5, (Or.inr ⟨c_7, ⟨y_12, ey_12, (Or.inl ⟨c_13, ⟨rfl, rfl⟩⟩)⟩⟩)⟩⟩), wd_t ht hW⟩, hS.F ht⟩) hS.2.2 dX12_back_17
