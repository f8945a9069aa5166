theorem m115 : Cond.selects RX12 yX12_counts yX12_counts ∈ gd := gds_8 3 rfl
theorem m1394 : Cond.fieldLink RX12 157 "SlabWalkModel" "sightWho" "[I" ∈ gd := gdc_6_4 14 rfl gw_fieldLink
theorem m1395 : Cond.fieldLink RX12 160 "SlabWalkModel" "sightWhere" "[I" ∈ gd := gdc_6_4 15 rfl gw_fieldLink
theorem m1396 : Cond.fieldLink RX12 163 "SlabWalkModel" "sightHeel" "[I" ∈ gd := gdc_6_5 0 rfl gw_fieldLink
theorem m2055 : Cond.methodLink RX12 596 yX12_counts ∈ gd := gdc_9_1 3 rfl gw_methodLink
theorem m2057 : Cond.instanceMethod yX12_counts ∈ gd := gdc_9_1 5 rfl gw_instanceMethod
theorem m2058 : Cond.code yX12_counts cX12_counts 3 (some .boolean) ∈ gd := gdc_9_1 6 rfl gw_code
def rbX12_fits_0 : List (Nat × List Nat) := [(0, [3]), (1, [61]), (2, [3]), (3, [62]), (4, [29]), (5, [42]), (6, [180, 1, 175]), (9, [162, 0, 98]), (12, [4]), (13, [54, 4]), (15, [3]), (16, [54, 5]), (18, [21, 5]), (20, [42]), (21, [180, 1, 187]), (24, [162, 0, 62]), (27, [21, 4]), (29, [153, 0, 57]), (32, [42]), (33, [21, 5]), (35, [27]), (36, [182, 2, 84]), (39, [154, 0, 6]), (42, [167, 0, 38])]
theorem rcX12_fits_0 : dgo (lb cX12_fits) 0 rbX12_fits_0 = true := by decide +kernel
theorem dX12_fits_0 : decode cX12_fits 0 = .ok (.iconst 0, 1) := dk_3 (dw rcX12_fits_0 0 rfl)
theorem dX12_fits_1 : decode cX12_fits 1 = .ok (.istore_n 2, 1) := dk_61 (dw rcX12_fits_0 1 rfl)
theorem dX12_fits_2 : decode cX12_fits 2 = .ok (.iconst 0, 1) := dk_3 (dw rcX12_fits_0 2 rfl)
theorem dX12_fits_3 : decode cX12_fits 3 = .ok (.istore_n 3, 1) := dk_62 (dw rcX12_fits_0 3 rfl)
theorem dX12_fits_4 : decode cX12_fits 4 = .ok (.iload_n 3, 1) := dk_29 (dw rcX12_fits_0 4 rfl)
theorem dX12_fits_5 : decode cX12_fits 5 = .ok (.aload_n 0, 1) := dk_42 (dw rcX12_fits_0 5 rfl)
theorem dX12_fits_6 : decode cX12_fits 6 = .ok (.getfield 431, 3) := dk_180 (dw rcX12_fits_0 6 rfl) rfl
theorem dX12_fits_9 : decode cX12_fits 9 = .ok (.if_icmp .ge 98, 3) := dk_162 (dw rcX12_fits_0 7 rfl) rfl
theorem dX12_fits_12 : decode cX12_fits 12 = .ok (.iconst 1, 1) := dk_4 (dw rcX12_fits_0 8 rfl)
theorem dX12_fits_13 : decode cX12_fits 13 = .ok (.istore 4, 2) := dk_54 (dw rcX12_fits_0 9 rfl)
theorem dX12_fits_15 : decode cX12_fits 15 = .ok (.iconst 0, 1) := dk_3 (dw rcX12_fits_0 10 rfl)
theorem dX12_fits_16 : decode cX12_fits 16 = .ok (.istore 5, 2) := dk_54 (dw rcX12_fits_0 11 rfl)
theorem dX12_fits_18 : decode cX12_fits 18 = .ok (.iload 5, 2) := dk_21 (dw rcX12_fits_0 12 rfl)
theorem dX12_fits_20 : decode cX12_fits 20 = .ok (.aload_n 0, 1) := dk_42 (dw rcX12_fits_0 13 rfl)
theorem dX12_fits_21 : decode cX12_fits 21 = .ok (.getfield 443, 3) := dk_180 (dw rcX12_fits_0 14 rfl) rfl
theorem dX12_fits_24 : decode cX12_fits 24 = .ok (.if_icmp .ge 62, 3) := dk_162 (dw rcX12_fits_0 15 rfl) rfl
theorem dX12_fits_27 : decode cX12_fits 27 = .ok (.iload 4, 2) := dk_21 (dw rcX12_fits_0 16 rfl)
theorem dX12_fits_29 : decode cX12_fits 29 = .ok (.ifCond .eq 57, 3) := dk_153 (dw rcX12_fits_0 17 rfl) rfl
theorem dX12_fits_32 : decode cX12_fits 32 = .ok (.aload_n 0, 1) := dk_42 (dw rcX12_fits_0 18 rfl)
theorem dX12_fits_33 : decode cX12_fits 33 = .ok (.iload 5, 2) := dk_21 (dw rcX12_fits_0 19 rfl)
theorem dX12_fits_35 : decode cX12_fits 35 = .ok (.iload_n 1, 1) := dk_27 (dw rcX12_fits_0 20 rfl)
theorem dX12_fits_36 : decode cX12_fits 36 = .ok (.invokevirtual 596, 3) := dk_182 (dw rcX12_fits_0 21 rfl) rfl
theorem dX12_fits_39 : decode cX12_fits 39 = .ok (.ifCond .ne 6, 3) := dk_154 (dw rcX12_fits_0 22 rfl) rfl
theorem dX12_fits_42 : decode cX12_fits 42 = .ok (.goto 38, 3) := dk_167 (dw rcX12_fits_0 23 rfl) rfl
def rbX12_fits_45 : List (Nat × List Nat) := [(45, [42]), (46, [42]), (47, [180, 0, 157]), (50, [21, 5]), (52, [46]), (53, [42]), (54, [180, 0, 160]), (57, [21, 5]), (59, [46]), (60, [4]), (61, [29]), (62, [120]), (63, [182, 1, 237]), (66, [42]), (67, [180, 0, 115]), (70, [42]), (71, [180, 0, 163]), (74, [21, 5]), (76, [46]), (77, [51]), (78, [54, 4]), (80, [132, 5, 1]), (83, [167, 255, 191]), (86, [28])]
theorem rcX12_fits_45 : dgo (lb cX12_fits) 0 rbX12_fits_45 = true := by decide +kernel
theorem dX12_fits_45 : decode cX12_fits 45 = .ok (.aload_n 0, 1) := dk_42 (dw rcX12_fits_45 0 rfl)
theorem dX12_fits_46 : decode cX12_fits 46 = .ok (.aload_n 0, 1) := dk_42 (dw rcX12_fits_45 1 rfl)
theorem dX12_fits_47 : decode cX12_fits 47 = .ok (.getfield 157, 3) := dk_180 (dw rcX12_fits_45 2 rfl) rfl
theorem dX12_fits_50 : decode cX12_fits 50 = .ok (.iload 5, 2) := dk_21 (dw rcX12_fits_45 3 rfl)
theorem dX12_fits_52 : decode cX12_fits 52 = .ok (.iaload, 1) := dk_46 (dw rcX12_fits_45 4 rfl)
theorem dX12_fits_53 : decode cX12_fits 53 = .ok (.aload_n 0, 1) := dk_42 (dw rcX12_fits_45 5 rfl)
theorem dX12_fits_54 : decode cX12_fits 54 = .ok (.getfield 160, 3) := dk_180 (dw rcX12_fits_45 6 rfl) rfl
theorem dX12_fits_57 : decode cX12_fits 57 = .ok (.iload 5, 2) := dk_21 (dw rcX12_fits_45 7 rfl)
theorem dX12_fits_59 : decode cX12_fits 59 = .ok (.iaload, 1) := dk_46 (dw rcX12_fits_45 8 rfl)
theorem dX12_fits_60 : decode cX12_fits 60 = .ok (.iconst 1, 1) := dk_4 (dw rcX12_fits_45 9 rfl)
theorem dX12_fits_61 : decode cX12_fits 61 = .ok (.iload_n 3, 1) := dk_29 (dw rcX12_fits_45 10 rfl)
theorem dX12_fits_62 : decode cX12_fits 62 = .ok (.ishl, 1) := dk_120 (dw rcX12_fits_45 11 rfl)
theorem dX12_fits_63 : decode cX12_fits 63 = .ok (.invokevirtual 493, 3) := dk_182 (dw rcX12_fits_45 12 rfl) rfl
theorem dX12_fits_66 : decode cX12_fits 66 = .ok (.aload_n 0, 1) := dk_42 (dw rcX12_fits_45 13 rfl)
theorem dX12_fits_67 : decode cX12_fits 67 = .ok (.getfield 115, 3) := dk_180 (dw rcX12_fits_45 14 rfl) rfl
theorem dX12_fits_70 : decode cX12_fits 70 = .ok (.aload_n 0, 1) := dk_42 (dw rcX12_fits_45 15 rfl)
theorem dX12_fits_71 : decode cX12_fits 71 = .ok (.getfield 163, 3) := dk_180 (dw rcX12_fits_45 16 rfl) rfl
theorem dX12_fits_74 : decode cX12_fits 74 = .ok (.iload 5, 2) := dk_21 (dw rcX12_fits_45 17 rfl)
theorem dX12_fits_76 : decode cX12_fits 76 = .ok (.iaload, 1) := dk_46 (dw rcX12_fits_45 18 rfl)
theorem dX12_fits_77 : decode cX12_fits 77 = .ok (.baload, 1) := dk_51 (dw rcX12_fits_45 19 rfl)
theorem dX12_fits_78 : decode cX12_fits 78 = .ok (.istore 4, 2) := dk_54 (dw rcX12_fits_45 20 rfl)
theorem dX12_fits_80 : decode cX12_fits 80 = .ok (.iinc 5 1, 3) := dk_132 (dw rcX12_fits_45 21 rfl) rfl
theorem dX12_fits_83 : decode cX12_fits 83 = .ok (.goto (-65), 3) := dk_167 (dw rcX12_fits_45 22 rfl) rfl
theorem dX12_fits_86 : decode cX12_fits 86 = .ok (.iload_n 2, 1) := dk_28 (dw rcX12_fits_45 23 rfl)
def rbX12_fits_87 : List (Nat × List Nat) := [(87, [21, 4]), (89, [153, 0, 9]), (92, [4]), (93, [29]), (94, [120]), (95, [167, 0, 4]), (98, [3]), (99, [128]), (100, [61]), (101, [132, 3, 1]), (104, [167, 255, 156]), (107, [28]), (108, [172])]
theorem rcX12_fits_87 : dgo (lb cX12_fits) 0 rbX12_fits_87 = true := by decide +kernel
theorem dX12_fits_87 : decode cX12_fits 87 = .ok (.iload 4, 2) := dk_21 (dw rcX12_fits_87 0 rfl)
theorem dX12_fits_89 : decode cX12_fits 89 = .ok (.ifCond .eq 9, 3) := dk_153 (dw rcX12_fits_87 1 rfl) rfl
theorem dX12_fits_92 : decode cX12_fits 92 = .ok (.iconst 1, 1) := dk_4 (dw rcX12_fits_87 2 rfl)
theorem dX12_fits_93 : decode cX12_fits 93 = .ok (.iload_n 3, 1) := dk_29 (dw rcX12_fits_87 3 rfl)
theorem dX12_fits_94 : decode cX12_fits 94 = .ok (.ishl, 1) := dk_120 (dw rcX12_fits_87 4 rfl)
theorem dX12_fits_95 : decode cX12_fits 95 = .ok (.goto 4, 3) := dk_167 (dw rcX12_fits_87 5 rfl) rfl
theorem dX12_fits_98 : decode cX12_fits 98 = .ok (.iconst 0, 1) := dk_3 (dw rcX12_fits_87 6 rfl)
theorem dX12_fits_99 : decode cX12_fits 99 = .ok (.ior, 1) := dk_128 (dw rcX12_fits_87 7 rfl)
theorem dX12_fits_100 : decode cX12_fits 100 = .ok (.istore_n 2, 1) := dk_61 (dw rcX12_fits_87 8 rfl)
theorem dX12_fits_101 : decode cX12_fits 101 = .ok (.iinc 3 1, 3) := dk_132 (dw rcX12_fits_87 9 rfl) rfl
theorem dX12_fits_104 : decode cX12_fits 104 = .ok (.goto (-100), 3) := dk_167 (dw rcX12_fits_87 10 rfl) rfl
theorem dX12_fits_107 : decode cX12_fits 107 = .ok (.iload_n 2, 1) := dk_28 (dw rcX12_fits_87 11 rfl)
theorem dX12_fits_108 : decode cX12_fits 108 = .ok (.ireturn, 1) := dk_172 (dw rcX12_fits_87 12 rfl)
set_option maxHeartbeats 4000000 in
set_option maxRecDepth 100000 in
theorem n_fits (l : Launch) (D : va_G) (k : KT) (A : Nat → Prop) (a : Nat → Nat) (z : SK) (G : GS) (p0 : Int32) (hP9 : gP G = 1) : Met l yX12_fits (WS yX12_fits cX12_fits 6 (some .int)) ({ frames := 5, cells := 0, slots := 0, locals := 117 }) (va_Pc [.ref (a 66), .int p0] (cW D k A a z G)) (va_Qi (fun (r : Int32) (G1 : GS) => Q_fits p0 G r G1) (fun (G1 : GS) t => Wd D k A a G1 t.heap) A) 0 0 A := by
  refine Met.ofW (cc := cX12_fits) (maxL := 6) (ret := (some .int)) (by decide) rfl ?_
  intro p e s m args below meth c s₁ B hml hv
  obtain ⟨rfl, hW, hB_G, hK, hZ⟩ := hv
  have hx := B.exec
  have hb := B.bytes
  have hr := B.returns
  have hts := atoms_spec (ws := WS yX12_fits cX12_fits 6 (some .int)) B.pre
  have hgd : ∀ w ∈ gd, w ∈ WS yX12_fits cX12_fits 6 (some .int) := fun w h => List.mem_cons_of_mem _ h
  have hg : ∀ w ∈ gd, w.before _ s = true := fun w h => hts w (hgd w h)
  have hown : s.vm.findClass RX12 = some m.cls := findClass_of_methodNamed B.named
  have hS : va_S A s.heap s.heap [] := va_S.rf
  have hF : Fr [76, 97, 98] [(66, 59), (66, 60), (66, 61), (66, 62), (66, 63)] G G := Fr.rf
  have hl := lv_entry ([.ref (a 66), .int p0]) (n := 6) (Nat.le_of_ble_eq_true rfl)
  rw [lg_entry_eq]
  generalize (lg_sl ([.ref (a 66), .int p0]) ++ List.replicate (6 - (lg_sl ([.ref (a 66), .int p0])).length) Slot.unset).toArray = ls at hl ⊢
  have hl : lv_has ls 6 [(0, .ref (a 66)), (1, .int p0)] := hl
  refine ic_0 hx hb dX12_fits_0 ?_
  refine lv_istore_n (lv' := [(2, .int 0), (0, .ref (a 66)), (1, .int p0)]) hx hb dX12_fits_1 rfl hl (lt_b rfl) rfl (fun ls hl => ?_)
  refine ic_0 hx hb dX12_fits_2 ?_
  refine lv_istore_n (lv' := [(3, .int 0), (2, .int 0), (0, .ref (a 66)), (1, .int p0)]) hx hb dX12_fits_3 rfl hl (lt_b rfl) rfl (fun ls hl => ?_)
  have qc_8 : (0 : Int32).toInt = 0 := rfl
  refine loop_N (Inv := fun n H locs ls => ∃ (G_1 : GS) (x_5 : Int32) (x_6 : Int32), (n : Int) = 6 - x_5.toInt ∧ (0 ≤ x_5.toInt ∧ x_5.toInt ≤ 6) ∧ (0 ≤ x_6.toInt ∧ x_6.toInt ≤ 63) ∧ Rc (St_n_fits_1 p0 G) (0, 0, G) (x_5, x_6, G_1) ∧ Wd D k A a G_1 H ∧ Bd G_1 ∧ Fr [76, 97, 98] [(66, 59), (66, 60), (66, 61), (66, 62), (66, 63)] G G_1 ∧ Fr [76, 97, 98] [(66, 59), (66, 60), (66, 61), (66, 62), (66, 63)] G G_1 ∧ va_S A s.heap H locs ∧ lv_has ls 6 [(3, .int x_5), (2, .int x_6), (0, .ref (a 66)), (1, .int p0)]) (fun n_4 H locs ls ih_3 hI => ?_) (6 - 0 : Int).toNat ⟨G, 0, 0, (Int.toNat_of_nonneg (by omega)), ⟨by omega, by omega⟩, ⟨by omega, by omega⟩, Rc.rf, hW, hB_G, hF, Fr.rf, hS, lv_sub hl [0, 1, 2, 3] rfl⟩
  obtain ⟨G_1, x_5, x_6, hn_11, f_9, f_10, hX_7, hW, hB_G_1, hF, hq_2, hS, hl⟩ := hI
  refine lv_iload_n hx hb dX12_fits_4 rfl (lv_at hl 0 rfl) ?_
  refine lv_aload_n hx hb dX12_fits_5 rfl (lv_at hl 2 rfl) ?_
  have b_12 : 0 ≤ (G.1 66 54).toInt ∧ (G.1 66 54).toInt ≤ 6 := bd_66_54 hB_G
  refine S_getI (v := (G.1 66 54)) (C := RX12) (T := TX12) (N := 89) hx hb hg iX12 hown hK hW kd_66 rfl 54 (lt_b rfl) (hg (Cond.fieldLink RX12 431 "SlabWalkModel" "rules" "I") m1368) (fun _ h9 => h9) rfl (hq_2.i9 66 54 rfl rfl) dX12_fits_6 ?_
  refine lv_icmp_ge (tgt := 107) hx hb dX12_fits_9 rfl (fun c_13 => ?_) (fun c_13 => ?_)
  · have c_13 : (G.1 66 54).toInt ≤ x_5.toInt := xI_le rfl rfl c_13
    refine lv_iload_n hx hb dX12_fits_107 rfl (lv_at hl 1 rfl) ?_
    exact W.iret (v := x_6) hx hb hr (fun t ht _ => ⟨⟨x_6, G_1, rfl, (Q_fits_mk ⟨hB_G_1, hF, ⟨x_5, x_6, G_1, hX_7, f_9, f_10, hB_G_1, hq_2, ⟨c_13, ⟨rfl, rfl⟩⟩⟩⟩), wd_t ht hW⟩, hS.F ht⟩) hS.2.2 dX12_fits_108
  · have c_13 : x_5.toInt < (G.1 66 54).toInt := xI_nle rfl rfl c_13
    refine ic_1 hx hb dX12_fits_12 ?_
    refine lv_istore (lv' := [(4, .int 1), (3, .int x_5), (2, .int x_6), (0, .ref (a 66)), (1, .int p0)]) hx hb dX12_fits_13 hl (lt_b rfl) rfl (fun ls hl => ?_)
    refine ic_0 hx hb dX12_fits_15 ?_
    refine lv_istore (lv' := [(5, .int 0), (4, .int 1), (3, .int x_5), (2, .int x_6), (0, .ref (a 66)), (1, .int p0)]) hx hb dX12_fits_16 hl (lt_b rfl) rfl (fun ls hl => ?_)
    have qc_21 : (0 : Int32).toInt = 0 := rfl
    have qc_22 : (1 : Int32).toInt = 1 := rfl
    refine loop_N (Inv := fun n H locs ls => ∃ (G_14 : GS) (x_18 : Int32) (x_19 : Int32), (n : Int) = 20 - x_18.toInt ∧ (0 ≤ x_18.toInt ∧ x_18.toInt ≤ 20) ∧ (0 ≤ x_19.toInt ∧ x_19.toInt ≤ 1) ∧ Rc (St_n_fits_2 p0 x_5 G) (0, 1, G_1) (x_18, x_19, G_14) ∧ Wd D k A a G_14 H ∧ Bd G_14 ∧ Fr [76, 97, 98] [(66, 59), (66, 60), (66, 61), (66, 62), (66, 63)] G G_14 ∧ Fr [76, 97, 98] [(66, 59), (66, 60), (66, 61), (66, 62), (66, 63)] G_1 G_14 ∧ va_S A s.heap H locs ∧ lv_has ls 6 [(5, .int x_18), (4, .int x_19), (3, .int x_5), (2, .int x_6), (0, .ref (a 66)), (1, .int p0)]) (fun n_17 H locs ls ih_16 hI => ?_) (20 - 0 : Int).toNat ⟨G_1, 0, 1, (Int.toNat_of_nonneg ((by first | (clear hP9 hn_11 f_9 f_10 b_12 c_13; omega) | omega))), ⟨(by first | (clear hP9 hn_11 f_9 f_10 b_12 c_13; omega) | omega), (by first | (clear hP9 hn_11 f_9 f_10 b_12 c_13; omega) | omega)⟩, ⟨(by first | (clear hP9 hn_11 f_9 f_10 b_12 c_13; omega) | omega), (by first | (clear hP9 hn_11 f_9 f_10 b_12 c_13; omega) | omega)⟩, Rc.rf, hW, hB_G_1, hF, Fr.rf, hS, lv_sub hl [0, 1, 2, 3, 4, 5] rfl⟩
    obtain ⟨G_14, x_18, x_19, hn_25, f_23, f_24, hX_20, hW, hB_G_14, hF, hq_15, hS, hl⟩ := hI
    refine lv_iload hx hb dX12_fits_18 (lv_at hl 0 rfl) ?_
    refine lv_aload_n hx hb dX12_fits_20 rfl (lv_at hl 4 rfl) ?_
    have b_26 : 0 ≤ (G.1 66 85).toInt ∧ (G.1 66 85).toInt ≤ 20 := bd_66_85 hB_G
    refine S_getI (v := (G.1 66 85)) (C := RX12) (T := TX12) (N := 89) hx hb hg iX12 hown hK hW kd_66 rfl 85 (lt_b rfl) (hg (Cond.fieldLink RX12 443 "SlabWalkModel" "sights" "I") m1399) (fun _ h9 => h9) rfl ((hq_15.i9 66 85 rfl rfl).trans (hq_2.i9 66 85 rfl rfl)) dX12_fits_21 ?_
    refine lv_icmp_ge (tgt := 86) hx hb dX12_fits_24 rfl (fun c_27 => ?_) (fun c_27 => ?_)
    · have c_27 : (G.1 66 85).toInt ≤ x_18.toInt := xI_le rfl rfl c_27
      refine lv_iload_n hx hb dX12_fits_86 rfl (lv_at hl 3 rfl) ?_
      refine lv_iload hx hb dX12_fits_87 (lv_at hl 1 rfl) ?_
      refine lv_if_eq (tgt := 98) hx hb dX12_fits_89 rfl (fun c_28 => ?_) (fun c_28 => ?_)
      · have c_28 : x_19.toInt = 0 := xI_eq rfl rfl c_28
        refine ic_0 hx hb dX12_fits_98 ?_
        refine lv_ior hx hb dX12_fits_99 ?_
        refine lv_topi (fun y_29 ey_29 => ?_)
        have ty_29 := or6 ey_29 ⟨by omega, by omega⟩ ⟨by omega, by omega⟩
        refine lv_istore_n (lv' := [(2, .int y_29), (5, .int x_18), (4, .int x_19), (3, .int x_5), (0, .ref (a 66)), (1, .int p0)]) hx hb dX12_fits_100 rfl hl (lt_b rfl) rfl (fun ls hl => ?_)
        obtain ⟨y_30, ey_30⟩ : ∃ q, q = x_5 + 1 := ⟨_, rfl⟩
        have ty_30 : y_30.toInt = x_5.toInt + 1 := xI_add rfl rfl ey_30 ((by first | (clear hP9 hn_11 f_10 hn_25 f_23 f_24 b_26 c_27 c_28; omega) | omega)) ((by first | (clear hP9 hn_11 f_10 hn_25 f_23 f_24 b_26 c_27 c_28; omega) | omega))
        refine lv_iinc (v := y_30) (lv' := [(3, .int y_30), (2, .int y_29), (5, .int x_18), (4, .int x_19), (0, .ref (a 66)), (1, .int p0)]) hx hb dX12_fits_101 hl (k := 3) rfl (by rw [ey_30]; rfl) (lt_b rfl) rfl (fun ls hl => ?_)
        refine lv_goto (tgt := 4) hx hb dX12_fits_104 rfl ?_
        exact ih_3 (6 - y_30.toInt : Int).toNat ((by first | (clear hP9 f_10 hn_25 f_23 f_24 b_26 c_27 c_28; omega) | omega)) _ _ _ ⟨G_14, y_30, y_29, (Int.toNat_of_nonneg ((by first | (clear hP9 hn_11 f_10 hn_25 f_23 f_24 b_26 c_27 c_28; omega) | omega))), ⟨(by first | (clear hP9 hn_11 f_10 hn_25 f_23 f_24 b_26 c_27 c_28; omega) | omega), (by first | (clear hP9 hn_11 f_10 hn_25 f_23 f_24 b_26 c_27 c_28; omega) | omega)⟩, ⟨(by first | (clear hP9 hn_11 f_9 f_10 b_12 c_13 hn_25 f_23 f_24 b_26 c_27 c_28 ty_30; omega) | omega), (by first | (clear hP9 hn_11 f_9 f_10 b_12 c_13 hn_25 f_23 f_24 b_26 c_27 c_28 ty_30; omega) | omega)⟩, (hX_7.st (St_n_fits_1_mk ⟨x_5, x_6, G_1, y_30, y_29, G_14, rfl, rfl, f_9, f_10, hB_G_1, ⟨c_13, ⟨x_18, x_19, G_14, hX_20, f_23, f_24, hB_G_14, hq_15, (Or.inl ⟨c_27, (Or.inl ⟨c_28, ⟨y_29, ey_29, ⟨y_30, ty_30, ⟨rfl, rfl, rfl⟩⟩⟩⟩)⟩)⟩⟩⟩)), hW, hB_G_14, hF, (Fr.call9 (rs := [76, 97, 98]) (fs := [(66, 59), (66, 60), (66, 61), (66, 62), (66, 63)]) (Fr.call9 (rs := [76, 97, 98]) (fs := [(66, 59), (66, 60), (66, 61), (66, 62), (66, 63)]) Fr.rf hq_2 rfl rfl) hq_15 rfl rfl), hS, lv_sub hl [0, 1, 4, 5] rfl⟩
      · have c_28 : x_19.toInt ≠ 0 := xI_ne rfl rfl c_28
        refine ic_1 hx hb dX12_fits_92 ?_
        refine lv_iload_n hx hb dX12_fits_93 rfl (lv_at hl 2 rfl) ?_
        refine lv_ishl hx hb dX12_fits_94 ?_
        refine lv_topi (fun y_31 ey_31 => ?_)
        have ty_31 := sh5 (Y := x_5.toInt) rfl ey_31 rfl (by omega) (by omega)
        refine lv_goto (tgt := 99) hx hb dX12_fits_95 rfl ?_
        refine lv_ior hx hb dX12_fits_99 ?_
        refine lv_topi (fun y_32 ey_32 => ?_)
        have ty_32 := or6 ey_32 ⟨by omega, by omega⟩ ⟨by omega, by omega⟩
        refine lv_istore_n (lv' := [(2, .int y_32), (5, .int x_18), (4, .int x_19), (3, .int x_5), (0, .ref (a 66)), (1, .int p0)]) hx hb dX12_fits_100 rfl hl (lt_b rfl) rfl (fun ls hl => ?_)
        obtain ⟨y_33, ey_33⟩ : ∃ q, q = x_5 + 1 := ⟨_, rfl⟩
        have ty_33 : y_33.toInt = x_5.toInt + 1 := xI_add rfl rfl ey_33 ((by first | (clear hP9 hn_11 f_10 hn_25 f_23 f_24 b_26 c_27 c_28; omega) | omega)) ((by first | (clear hP9 hn_11 f_10 hn_25 f_23 f_24 b_26 c_27 c_28; omega) | omega))
        refine lv_iinc (v := y_33) (lv' := [(3, .int y_33), (2, .int y_32), (5, .int x_18), (4, .int x_19), (0, .ref (a 66)), (1, .int p0)]) hx hb dX12_fits_101 hl (k := 3) rfl (by rw [ey_33]; rfl) (lt_b rfl) rfl (fun ls hl => ?_)
        refine lv_goto (tgt := 4) hx hb dX12_fits_104 rfl ?_
        exact ih_3 (6 - y_33.toInt : Int).toNat ((by first | (clear hP9 f_10 hn_25 f_23 f_24 b_26 c_27 c_28; omega) | omega)) _ _ _ ⟨G_14, y_33, y_32, (Int.toNat_of_nonneg ((by first | (clear hP9 hn_11 f_10 hn_25 f_23 f_24 b_26 c_27 c_28; omega) | omega))), ⟨(by first | (clear hP9 hn_11 f_10 hn_25 f_23 f_24 b_26 c_27 c_28; omega) | omega), (by first | (clear hP9 hn_11 f_10 hn_25 f_23 f_24 b_26 c_27 c_28; omega) | omega)⟩, ⟨(by first | (clear hP9 hn_11 f_9 f_10 b_12 c_13 hn_25 f_23 f_24 b_26 c_27 c_28 ty_33; omega) | omega), (by first | (clear hP9 hn_11 f_9 f_10 b_12 c_13 hn_25 f_23 f_24 b_26 c_27 c_28 ty_33; omega) | omega)⟩, (hX_7.st (St_n_fits_1_mk ⟨x_5, x_6, G_1, y_33, y_32, G_14, rfl, rfl, f_9, f_10, hB_G_1, ⟨c_13, ⟨x_18, x_19, G_14, hX_20, f_23, f_24, hB_G_14, hq_15, (Or.inl ⟨c_27, (Or.inr ⟨c_28, ⟨y_31, ey_31, ⟨y_32, ey_32, ⟨y_33, ty_33, ⟨rfl, rfl, rfl⟩⟩⟩⟩⟩)⟩)⟩⟩⟩)), hW, hB_G_14, hF, (Fr.call9 (rs := [76, 97, 98]) (fs := [(66, 59), (66, 60), (66, 61), (66, 62), (66, 63)]) (Fr.call9 (rs := [76, 97, 98]) (fs := [(66, 59), (66, 60), (66, 61), (66, 62), (66, 63)]) Fr.rf hq_2 rfl rfl) hq_15 rfl rfl), hS, lv_sub hl [0, 1, 4, 5] rfl⟩
    · have c_27 : x_18.toInt < (G.1 66 85).toInt := xI_nle rfl rfl c_27
      refine lv_iload hx hb dX12_fits_27 (lv_at hl 1 rfl) ?_
      refine lv_if_eq (tgt := 86) hx hb dX12_fits_29 rfl (fun c_34 => ?_) (fun c_34 => ?_)
      · have c_34 : x_19.toInt = 0 := xI_eq rfl rfl c_34
        refine lv_iload_n hx hb dX12_fits_86 rfl (lv_at hl 3 rfl) ?_
        refine lv_iload hx hb dX12_fits_87 (lv_at hl 1 rfl) ?_
        refine lv_if_eq (tgt := 98) hx hb dX12_fits_89 rfl (fun c_35 => ?_) (fun c_35 => ?_)
        · have c_35 : x_19.toInt = 0 := xI_eq rfl rfl c_35
          refine ic_0 hx hb dX12_fits_98 ?_
          refine lv_ior hx hb dX12_fits_99 ?_
          refine lv_topi (fun y_36 ey_36 => ?_)
          have ty_36 := or6 ey_36 ⟨by omega, by omega⟩ ⟨by omega, by omega⟩
          refine lv_istore_n (lv' := [(2, .int y_36), (5, .int x_18), (4, .int x_19), (3, .int x_5), (0, .ref (a 66)), (1, .int p0)]) hx hb dX12_fits_100 rfl hl (lt_b rfl) rfl (fun ls hl => ?_)
          obtain ⟨y_37, ey_37⟩ : ∃ q, q = x_5 + 1 := ⟨_, rfl⟩
          have ty_37 : y_37.toInt = x_5.toInt + 1 := xI_add rfl rfl ey_37 ((by first | (clear hP9 hn_11 f_10 hn_25 f_23 f_24 b_26 c_27 c_34 c_35; omega) | omega)) ((by first | (clear hP9 hn_11 f_10 hn_25 f_23 f_24 b_26 c_27 c_34 c_35; omega) | omega))
          refine lv_iinc (v := y_37) (lv' := [(3, .int y_37), (2, .int y_36), (5, .int x_18), (4, .int x_19), (0, .ref (a 66)), (1, .int p0)]) hx hb dX12_fits_101 hl (k := 3) rfl (by rw [ey_37]; rfl) (lt_b rfl) rfl (fun ls hl => ?_)
          refine lv_goto (tgt := 4) hx hb dX12_fits_104 rfl ?_
          exact ih_3 (6 - y_37.toInt : Int).toNat ((by first | (clear hP9 f_10 hn_25 f_23 f_24 b_26 c_27 c_34 c_35; omega) | omega)) _ _ _ ⟨G_14, y_37, y_36, (Int.toNat_of_nonneg ((by first | (clear hP9 hn_11 f_10 hn_25 f_23 f_24 b_26 c_27 c_34 c_35; omega) | omega))), ⟨(by first | (clear hP9 hn_11 f_10 hn_25 f_23 f_24 b_26 c_27 c_34 c_35; omega) | omega), (by first | (clear hP9 hn_11 f_10 hn_25 f_23 f_24 b_26 c_27 c_34 c_35; omega) | omega)⟩, ⟨(by first | (clear hP9 hn_11 f_9 f_10 b_12 c_13 hn_25 f_23 f_24 b_26 c_27 c_34 c_35 ty_37; omega) | omega), (by first | (clear hP9 hn_11 f_9 f_10 b_12 c_13 hn_25 f_23 f_24 b_26 c_27 c_34 c_35 ty_37; omega) | omega)⟩, (hX_7.st (St_n_fits_1_mk ⟨x_5, x_6, G_1, y_37, y_36, G_14, rfl, rfl, f_9, f_10, hB_G_1, ⟨c_13, ⟨x_18, x_19, G_14, hX_20, f_23, f_24, hB_G_14, hq_15, (Or.inr ⟨c_27, ⟨c_34, ⟨y_36, ey_36, ⟨y_37, ty_37, ⟨rfl, rfl, rfl⟩⟩⟩⟩⟩)⟩⟩⟩)), hW, hB_G_14, hF, (Fr.call9 (rs := [76, 97, 98]) (fs := [(66, 59), (66, 60), (66, 61), (66, 62), (66, 63)]) (Fr.call9 (rs := [76, 97, 98]) (fs := [(66, 59), (66, 60), (66, 61), (66, 62), (66, 63)]) Fr.rf hq_2 rfl rfl) hq_15 rfl rfl), hS, lv_sub hl [0, 1, 4, 5] rfl⟩
        · have c_35 : x_19.toInt ≠ 0 := xI_ne rfl rfl c_35
          exfalso; first | (clear hP9 hn_11 f_9 f_10 b_12 c_13 hn_25 f_23 b_26 c_27; omega) | omega
      · have c_34 : x_19.toInt ≠ 0 := xI_ne rfl rfl c_34
        refine lv_aload_n hx hb dX12_fits_32 rfl (lv_at hl 4 rfl) ?_
        refine lv_iload hx hb dX12_fits_33 (lv_at hl 0 rfl) ?_
        refine lv_iload_n hx hb dX12_fits_35 rfl (lv_at hl 5 rfl) ?_
        refine S_calli (va_runV (As := [.int x_18, .int p0]) (rest := []) ⟨hx, hb, hml, hown, hts⟩ (n_counts l D k A a z G_14 x_18 p0 ⟨(by first | (clear hP9 hn_11 f_9 f_10 b_12 c_13 hn_25 f_24 c_34; omega) | omega), (by first | (clear hP9 hn_11 f_9 f_10 b_12 c_13 hn_25 f_24 c_34; omega) | omega)⟩) (cwV 2 hts (gd_V hgd m2055 m2057 m115 m131 m2058) rfl rfl rfl hd_X12_counts ⟨Nat.le_of_ble_eq_true rfl, Nat.le_of_ble_eq_true rfl⟩) (pre_W hW hB_G_14 hK hZ hS kd_66 rfl) rfl rfl hl.1 rfl (lv_room (Nat.le_of_ble_eq_true rfl)) dX12_fits_36 ⟨Nat.le_of_ble_eq_true rfl, Nat.le_of_ble_eq_true rfl⟩) hS (fun r_38 G_39 H locs hpo hW hS => ?_)
        have hX_42 : Q_counts x_18 p0 G_14 r_38 G_39 := hpo
        obtain ⟨hB_G_39, hq_40, f_43, -⟩ := hpo
        have hF := hF.call9 hq_40 rfl rfl
        refine lv_if_ne (tgt := 45) hx hb dX12_fits_39 rfl (fun c_44 => ?_) (fun c_44 => ?_)
        · have c_44 : r_38.toInt ≠ 0 := xI_ne rfl rfl c_44
          refine lv_aload_n hx hb dX12_fits_45 rfl (lv_at hl 4 rfl) ?_
          refine lv_aload_n hx hb dX12_fits_46 rfl (lv_at hl 4 rfl) ?_
          refine S_getR (n := 112) (C := RX12) (T := TX12) (N := 89) hx hb hg iX12 hown hK hW kd_66 rfl 80 (lt_b rfl) (hg (Cond.fieldLink RX12 157 "SlabWalkModel" "sightWho" "[I") m1394) (fun _ h9 => h9) rfl dX12_fits_47 ?_
          refine lv_iload hx hb dX12_fits_50 (lv_at hl 0 rfl) ?_
          refine S_iald hx hb hK hW kd_112 (vin ((by first | (clear hP9 hn_11 f_9 f_10 b_12 c_13 hn_25 f_24 c_34 f_43 c_44; omega) | omega)) ((by first | (clear hP9 hn_11 f_9 f_10 b_12 c_13 hn_25 f_24 c_34 f_43 c_44; omega) | omega))) dX12_fits_52 (fun y_45 ey_45 => ?_)
          have ty_45 : 0 ≤ y_45.toInt ∧ y_45.toInt ≤ 3 := bv_112 hB_G_39 ey_45
          refine lv_aload_n hx hb dX12_fits_53 rfl (lv_at hl 4 rfl) ?_
          refine S_getR (n := 113) (C := RX12) (T := TX12) (N := 89) hx hb hg iX12 hown hK hW kd_66 rfl 81 (lt_b rfl) (hg (Cond.fieldLink RX12 160 "SlabWalkModel" "sightWhere" "[I") m1395) (fun _ h9 => h9) rfl dX12_fits_54 ?_
          refine lv_iload hx hb dX12_fits_57 (lv_at hl 0 rfl) ?_
          refine S_iald hx hb hK hW kd_113 (vin ((by first | (clear hP9 hn_11 f_9 f_10 b_12 c_13 hn_25 f_24 c_34 f_43 c_44 ty_45; omega) | omega)) ((by first | (clear hP9 hn_11 f_9 f_10 b_12 c_13 hn_25 f_24 c_34 f_43 c_44 ty_45; omega) | omega))) dX12_fits_59 (fun y_46 ey_46 => ?_)
          have ty_46 : 0 ≤ y_46.toInt ∧ y_46.toInt ≤ 2 := bv_113 hB_G_39 ey_46
          refine ic_1 hx hb dX12_fits_60 ?_
          refine lv_iload_n hx hb dX12_fits_61 rfl (lv_at hl 2 rfl) ?_
          refine lv_ishl hx hb dX12_fits_62 ?_
          refine lv_topi (fun y_47 ey_47 => ?_)
          have ty_47 := sh5 (Y := x_5.toInt) rfl ey_47 rfl (by omega) (by omega)
          have fr_48 : Fr [76, 97, 98] [(66, 59), (66, 60), (66, 61), (66, 62), (66, 63)] G G_39 := (Fr.call9 (rs := [76, 97, 98]) (fs := [(66, 59), (66, 60), (66, 61), (66, 62), (66, 63)]) (Fr.call9 (rs := [76, 97, 98]) (fs := [(66, 59), (66, 60), (66, 61), (66, 62), (66, 63)]) (Fr.call9 (rs := [76, 97, 98]) (fs := [(66, 59), (66, 60), (66, 61), (66, 62), (66, 63)]) Fr.rf hq_2 rfl rfl) hq_15 rfl rfl) hq_40 rfl rfl)
          have g_49 : gP G_39 = gP G := gP_fr fr_48 (gr_q rfl) (gf_q rfl)
          refine S_callv (va_runV (As := [.int y_45, .int y_46, .int y_47]) (rest := []) ⟨hx, hb, hml, hown, hts⟩ (n_layStreet l D k A a z G_39 y_45 y_46 y_47 ⟨(by first | (clear hP9 hn_11 f_9 f_10 b_12 c_13 hn_25 f_23 f_24 b_26 c_27 c_34 f_43 c_44 ty_46 g_49; omega) | omega), (by first | (clear hP9 hn_11 f_9 f_10 b_12 c_13 hn_25 f_23 f_24 b_26 c_27 c_34 f_43 c_44 ty_46 g_49; omega) | omega)⟩ ⟨(by first | (clear hP9 hn_11 f_9 f_10 b_12 c_13 hn_25 f_23 f_24 b_26 c_27 c_34 f_43 c_44 ty_45 g_49; omega) | omega), (by first | (clear hP9 hn_11 f_9 f_10 b_12 c_13 hn_25 f_23 f_24 b_26 c_27 c_34 f_43 c_44 ty_45 g_49; omega) | omega)⟩ ((by first | (clear hn_11 f_9 f_10 b_12 c_13 hn_25 f_23 f_24 b_26 c_27 c_34 f_43 c_44 ty_45 ty_46; omega) | omega))) (cwV 3 hts (gd_V hgd m1834 m1836 m91 m131 m1837) rfl rfl rfl hd_X12_layStreet ⟨Nat.le_of_ble_eq_true rfl, Nat.le_of_ble_eq_true rfl⟩) (pre_W hW hB_G_39 hK hZ hS kd_66 rfl) rfl rfl hl.1 rfl (lv_room (Nat.le_of_ble_eq_true rfl)) dX12_fits_63 ⟨Nat.le_of_ble_eq_true rfl, Nat.le_of_ble_eq_true rfl⟩) hS (fun G_51 H locs hpo hW hS => ?_)
          have hX_54 : Q_layStreet y_45 y_46 y_47 G_39 G_51 := hpo
          obtain ⟨hB_G_51, hq_52, ⟨d_1, d_2, d_3, d_4, d_5, d_6⟩, -⟩ := hpo
          have hF := hF.call9 hq_52 rfl rfl
          refine lv_aload_n hx hb dX12_fits_66 rfl (lv_at hl 4 rfl) ?_
          refine S_getR (n := 98) (C := RX12) (T := TX12) (N := 89) hx hb hg iX12 hown hK hW kd_66 rfl 58 (lt_b rfl) (hg (Cond.fieldLink RX12 115 "SlabWalkModel" "lawful" "[Z") m1372) (fun _ h9 => h9) rfl dX12_fits_67 ?_
          refine lv_aload_n hx hb dX12_fits_70 rfl (lv_at hl 4 rfl) ?_
          refine S_getR (n := 114) (C := RX12) (T := TX12) (N := 89) hx hb hg iX12 hown hK hW kd_66 rfl 82 (lt_b rfl) (hg (Cond.fieldLink RX12 163 "SlabWalkModel" "sightHeel" "[I") m1396) (fun _ h9 => h9) rfl dX12_fits_71 ?_
          refine lv_iload hx hb dX12_fits_74 (lv_at hl 0 rfl) ?_
          refine S_iald hx hb hK hW kd_114 (vin ((by first | (clear hP9 hn_11 f_9 f_10 b_12 c_13 hn_25 f_24 c_34 f_43 c_44 ty_45 ty_46 g_49 d_1 d_2 d_3 d_4 d_5 d_6; omega) | omega)) ((by first | (clear hP9 hn_11 f_9 f_10 b_12 c_13 hn_25 f_24 c_34 f_43 c_44 ty_45 ty_46 g_49 d_1 d_2 d_3 d_4 d_5 d_6; omega) | omega))) dX12_fits_76 (fun y_55 ey_55 => ?_)
          have ty_55 : 0 ≤ y_55.toInt ∧ y_55.toInt ≤ 399 := bv_114 hB_G_51 ey_55
          refine S_zald hx hb hK hW kd_98 (vin ((by first | (clear hP9 hn_11 f_9 f_10 b_12 c_13 hn_25 f_23 f_24 b_26 c_27 c_34 f_43 c_44 ty_45 ty_46 g_49 d_1 d_2 d_3 d_4 d_5 d_6; omega) | omega)) ((by first | (clear hP9 hn_11 f_9 f_10 b_12 c_13 hn_25 f_23 f_24 b_26 c_27 c_34 f_43 c_44 ty_45 ty_46 g_49 d_1 d_2 d_3 d_4 d_5 d_6; omega) | omega))) dX12_fits_77 (fun y_56 ey_56 => ?_)
          have ty_56 := hB_G_51.law ey_56
          refine lv_istore (lv' := [(4, .int y_56), (5, .int x_18), (3, .int x_5), (2, .int x_6), (0, .ref (a 66)), (1, .int p0)]) hx hb dX12_fits_78 hl (lt_b rfl) rfl (fun ls hl => ?_)
          obtain ⟨y_57, ey_57⟩ : ∃ q, q = x_18 + 1 := ⟨_, rfl⟩
          have ty_57 : y_57.toInt = x_18.toInt + 1 := xI_add rfl rfl ey_57 ((by first | (clear hP9 hn_11 f_9 f_10 b_12 c_13 hn_25 f_24 c_34 f_43 c_44 ty_45 ty_46 g_49 d_1 d_2 d_3 d_4 d_5 d_6 ty_55; omega) | omega)) ((by first | (clear hP9 hn_11 f_9 f_10 b_12 c_13 hn_25 f_24 c_34 f_43 c_44 ty_45 ty_46 g_49 d_1 d_2 d_3 d_4 d_5 d_6 ty_55; omega) | omega))
          refine lv_iinc (v := y_57) (lv' := [(5, .int y_57), (4, .int y_56), (3, .int x_5), (2, .int x_6), (0, .ref (a 66)), (1, .int p0)]) hx hb dX12_fits_80 hl (k := 1) rfl (by rw [ey_57]; rfl) (lt_b rfl) rfl (fun ls hl => ?_)
          refine lv_goto (tgt := 18) hx hb dX12_fits_83 rfl ?_
          exact ih_16 (20 - y_57.toInt : Int).toNat ((by first | (clear hP9 hn_11 f_9 f_10 b_12 c_13 f_24 c_34 f_43 c_44 ty_45 ty_46 g_49 d_1 d_2 d_3 d_4 d_5 d_6 ty_55; omega) | omega)) _ _ _ ⟨G_51, y_57, y_56, (Int.toNat_of_nonneg ((by first | (clear hP9 hn_11 f_9 f_10 b_12 c_13 hn_25 f_24 c_34 f_43 c_44 ty_45 ty_46 g_49 d_1 d_2 d_3 d_4 d_5 d_6 ty_55; omega) | omega))), ⟨(by first | (clear hP9 hn_11 f_9 f_10 b_12 c_13 hn_25 f_24 c_34 f_43 c_44 ty_45 ty_46 g_49 d_1 d_2 d_3 d_4 d_5 d_6 ty_55; omega) | omega), (by first | (clear hP9 hn_11 f_9 f_10 b_12 c_13 hn_25 f_24 c_34 f_43 c_44 ty_45 ty_46 g_49 d_1 d_2 d_3 d_4 d_5 d_6 ty_55; omega) | omega)⟩, ⟨(by first | (clear hP9 hn_11 f_9 f_10 b_12 c_13 hn_25 f_23 f_24 b_26 c_27 c_34 f_43 c_44 ty_45 ty_46 g_49 d_1 d_2 d_3 d_4 d_5 d_6 ty_55 ty_57; omega) | omega), (by first | (clear hP9 hn_11 f_9 f_10 b_12 c_13 hn_25 f_23 f_24 b_26 c_27 c_34 f_43 c_44 ty_45 ty_46 g_49 d_1 d_2 d_3 d_4 d_5 d_6 ty_55 ty_57; omega) | omega)⟩, (hX_20.st (St_n_fits_2_mk ⟨x_18, x_19, G_14, y_57, y_56, G_51, rfl, rfl, f_23, f_24, hB_G_14, ⟨c_27, ⟨c_34, ⟨r_38, G_39, hX_42, (Or.inr ⟨c_44, ⟨y_45, ey_45, ⟨y_46, ey_46, ⟨y_47, ey_47, ⟨G_51, hX_54, ⟨y_55, ey_55, ⟨y_56, ey_56, ⟨y_57, ty_57, ⟨rfl, rfl, rfl⟩⟩⟩⟩⟩⟩⟩⟩⟩)⟩⟩⟩⟩)), hW, hB_G_51, hF, (Fr.call9 (rs := [76, 97, 98]) (fs := [(66, 59), (66, 60), (66, 61), (66, 62), (66, 63)]) (Fr.call9 (rs := [76, 97, 98]) (fs := [(66, 59), (66, 60), (66, 61), (66, 62), (66, 63)]) (Fr.call9 (rs := [76, 97, 98]) (fs := [(66, 59), (66, 60), (66, 61), (66, 62), (66, 63)]) Fr.rf hq_15 rfl rfl) hq_40 rfl rfl) hq_52 rfl rfl), hS, lv_sub hl [0, 1, 2, 3, 4, 5] rfl⟩
        · have c_44 : r_38.toInt = 0 := xI_eq rfl rfl c_44
          refine lv_goto (tgt := 80) hx hb dX12_fits_42 rfl ?_
          obtain ⟨y_58, ey_58⟩ : ∃ q, q = x_18 + 1 := ⟨_, rfl⟩
          have ty_58 : y_58.toInt = x_18.toInt + 1 := xI_add rfl rfl ey_58 ((by first | (clear hP9 hn_11 f_9 f_10 b_12 c_13 hn_25 f_24 c_34 f_43 c_44; omega) | omega)) ((by first | (clear hP9 hn_11 f_9 f_10 b_12 c_13 hn_25 f_24 c_34 f_43 c_44; omega) | omega))
          refine lv_iinc (v := y_58) (lv' := [(5, .int y_58), (4, .int x_19), (3, .int x_5), (2, .int x_6), (0, .ref (a 66)), (1, .int p0)]) hx hb dX12_fits_80 hl (k := 0) rfl (by rw [ey_58]; rfl) (lt_b rfl) rfl (fun ls hl => ?_)
          refine lv_goto (tgt := 18) hx hb dX12_fits_83 rfl ?_
          exact ih_16 (20 - y_58.toInt : Int).toNat ((by first | (clear hP9 hn_11 f_9 f_10 b_12 c_13 f_24 c_34 f_43 c_44; omega) | omega)) _ _ _ ⟨G_39, y_58, x_19, (Int.toNat_of_nonneg ((by first | (clear hP9 hn_11 f_9 f_10 b_12 c_13 hn_25 f_24 c_34 f_43 c_44; omega) | omega))), ⟨(by first | (clear hP9 hn_11 f_9 f_10 b_12 c_13 hn_25 f_24 c_34 f_43 c_44; omega) | omega), (by first | (clear hP9 hn_11 f_9 f_10 b_12 c_13 hn_25 f_24 c_34 f_43 c_44; omega) | omega)⟩, ⟨(by first | (clear hP9 hn_11 f_9 f_10 b_12 c_13 hn_25 f_23 b_26 c_27 f_43 c_44 ty_58; omega) | omega), (by first | (clear hP9 hn_11 f_9 f_10 b_12 c_13 hn_25 f_23 b_26 c_27 f_43 c_44 ty_58; omega) | omega)⟩, (hX_20.st (St_n_fits_2_mk ⟨x_18, x_19, G_14, y_58, x_19, G_39, rfl, rfl, f_23, f_24, hB_G_14, ⟨c_27, ⟨c_34, ⟨r_38, G_39, hX_42, (Or.inl ⟨c_44, ⟨y_58, ty_58, ⟨rfl, rfl, rfl⟩⟩⟩)⟩⟩⟩⟩)), hW, hB_G_39, hF, (Fr.call9 (rs := [76, 97, 98]) (fs := [(66, 59), (66, 60), (66, 61), (66, 62), (66, 63)]) (Fr.call9 (rs := [76, 97, 98]) (fs := [(66, 59), (66, 60), (66, 61), (66, 62), (66, 63)]) Fr.rf hq_15 rfl rfl) hq_40 rfl rfl), hS, lv_sub hl [0, 1, 2, 3, 4, 5] rfl⟩
