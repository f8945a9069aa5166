theorem m1386 : Cond.fieldLink RX12 139 "SlabWalkModel" "odds" "[J" ∈ gd := gdc_6_4 6 rfl gw_fieldLink
def rbX12_oddsBy_0 : List (Nat × List Nat) := [(0, [9]), (1, [55, 6]), (3, [3]), (4, [54, 8]), (6, [21, 8]), (8, [6]), (9, [162, 0, 76]), (12, [27]), (13, [28]), (14, [96]), (15, [21, 8]), (17, [96]), (18, [4]), (19, [100]), (20, [54, 9]), (22, [22, 6]), (24, [42]), (25, [180, 0, 102]), (28, [21, 8]), (30, [46]), (31, [133]), (32, [42]), (33, [21, 9]), (35, [182, 1, 228])]
theorem rcX12_oddsBy_0 : dgo (lb cX12_oddsBy) 0 rbX12_oddsBy_0 = true := by decide +kernel
theorem dX12_oddsBy_0 : decode cX12_oddsBy 0 = .ok (.lconst 0, 1) := dk_9 (dw rcX12_oddsBy_0 0 rfl)
theorem dX12_oddsBy_1 : decode cX12_oddsBy 1 = .ok (.lstore 6, 2) := dk_55 (dw rcX12_oddsBy_0 1 rfl)
theorem dX12_oddsBy_3 : decode cX12_oddsBy 3 = .ok (.iconst 0, 1) := dk_3 (dw rcX12_oddsBy_0 2 rfl)
theorem dX12_oddsBy_4 : decode cX12_oddsBy 4 = .ok (.istore 8, 2) := dk_54 (dw rcX12_oddsBy_0 3 rfl)
theorem dX12_oddsBy_6 : decode cX12_oddsBy 6 = .ok (.iload 8, 2) := dk_21 (dw rcX12_oddsBy_0 4 rfl)
theorem dX12_oddsBy_8 : decode cX12_oddsBy 8 = .ok (.iconst 3, 1) := dk_6 (dw rcX12_oddsBy_0 5 rfl)
theorem dX12_oddsBy_9 : decode cX12_oddsBy 9 = .ok (.if_icmp .ge 76, 3) := dk_162 (dw rcX12_oddsBy_0 6 rfl) rfl
theorem dX12_oddsBy_12 : decode cX12_oddsBy 12 = .ok (.iload_n 1, 1) := dk_27 (dw rcX12_oddsBy_0 7 rfl)
theorem dX12_oddsBy_13 : decode cX12_oddsBy 13 = .ok (.iload_n 2, 1) := dk_28 (dw rcX12_oddsBy_0 8 rfl)
theorem dX12_oddsBy_14 : decode cX12_oddsBy 14 = .ok (.iadd, 1) := dk_96 (dw rcX12_oddsBy_0 9 rfl)
theorem dX12_oddsBy_15 : decode cX12_oddsBy 15 = .ok (.iload 8, 2) := dk_21 (dw rcX12_oddsBy_0 10 rfl)
theorem dX12_oddsBy_17 : decode cX12_oddsBy 17 = .ok (.iadd, 1) := dk_96 (dw rcX12_oddsBy_0 11 rfl)
theorem dX12_oddsBy_18 : decode cX12_oddsBy 18 = .ok (.iconst 1, 1) := dk_4 (dw rcX12_oddsBy_0 12 rfl)
theorem dX12_oddsBy_19 : decode cX12_oddsBy 19 = .ok (.isub, 1) := dk_100 (dw rcX12_oddsBy_0 13 rfl)
theorem dX12_oddsBy_20 : decode cX12_oddsBy 20 = .ok (.istore 9, 2) := dk_54 (dw rcX12_oddsBy_0 14 rfl)
theorem dX12_oddsBy_22 : decode cX12_oddsBy 22 = .ok (.lload 6, 2) := dk_22 (dw rcX12_oddsBy_0 15 rfl)
theorem dX12_oddsBy_24 : decode cX12_oddsBy 24 = .ok (.aload_n 0, 1) := dk_42 (dw rcX12_oddsBy_0 16 rfl)
theorem dX12_oddsBy_25 : decode cX12_oddsBy 25 = .ok (.getfield 102, 3) := dk_180 (dw rcX12_oddsBy_0 17 rfl) rfl
theorem dX12_oddsBy_28 : decode cX12_oddsBy 28 = .ok (.iload 8, 2) := dk_21 (dw rcX12_oddsBy_0 18 rfl)
theorem dX12_oddsBy_30 : decode cX12_oddsBy 30 = .ok (.iaload, 1) := dk_46 (dw rcX12_oddsBy_0 19 rfl)
theorem dX12_oddsBy_31 : decode cX12_oddsBy 31 = .ok (.i2l, 1) := dk_133 (dw rcX12_oddsBy_0 20 rfl)
theorem dX12_oddsBy_32 : decode cX12_oddsBy 32 = .ok (.aload_n 0, 1) := dk_42 (dw rcX12_oddsBy_0 21 rfl)
theorem dX12_oddsBy_33 : decode cX12_oddsBy 33 = .ok (.iload 9, 2) := dk_21 (dw rcX12_oddsBy_0 22 rfl)
theorem dX12_oddsBy_35 : decode cX12_oddsBy 35 = .ok (.invokevirtual 484, 3) := dk_182 (dw rcX12_oddsBy_0 23 rfl) rfl
def rbX12_oddsBy_38 : List (Nat × List Nat) := [(38, [154, 0, 8]), (41, [22, 4]), (43, [167, 0, 32]), (46, [42]), (47, [180, 0, 115]), (50, [21, 9]), (52, [51]), (53, [153, 0, 21]), (56, [42]), (57, [180, 0, 139]), (60, [17, 2, 0]), (63, [29]), (64, [4]), (65, [100]), (66, [104]), (67, [21, 9]), (69, [96]), (70, [47]), (71, [167, 0, 4]), (74, [9]), (75, [105]), (76, [97]), (77, [55, 6]), (79, [132, 8, 1])]
theorem rcX12_oddsBy_38 : dgo (lb cX12_oddsBy) 0 rbX12_oddsBy_38 = true := by decide +kernel
theorem dX12_oddsBy_38 : decode cX12_oddsBy 38 = .ok (.ifCond .ne 8, 3) := dk_154 (dw rcX12_oddsBy_38 0 rfl) rfl
theorem dX12_oddsBy_41 : decode cX12_oddsBy 41 = .ok (.lload 4, 2) := dk_22 (dw rcX12_oddsBy_38 1 rfl)
theorem dX12_oddsBy_43 : decode cX12_oddsBy 43 = .ok (.goto 32, 3) := dk_167 (dw rcX12_oddsBy_38 2 rfl) rfl
theorem dX12_oddsBy_46 : decode cX12_oddsBy 46 = .ok (.aload_n 0, 1) := dk_42 (dw rcX12_oddsBy_38 3 rfl)
theorem dX12_oddsBy_47 : decode cX12_oddsBy 47 = .ok (.getfield 115, 3) := dk_180 (dw rcX12_oddsBy_38 4 rfl) rfl
theorem dX12_oddsBy_50 : decode cX12_oddsBy 50 = .ok (.iload 9, 2) := dk_21 (dw rcX12_oddsBy_38 5 rfl)
theorem dX12_oddsBy_52 : decode cX12_oddsBy 52 = .ok (.baload, 1) := dk_51 (dw rcX12_oddsBy_38 6 rfl)
theorem dX12_oddsBy_53 : decode cX12_oddsBy 53 = .ok (.ifCond .eq 21, 3) := dk_153 (dw rcX12_oddsBy_38 7 rfl) rfl
theorem dX12_oddsBy_56 : decode cX12_oddsBy 56 = .ok (.aload_n 0, 1) := dk_42 (dw rcX12_oddsBy_38 8 rfl)
theorem dX12_oddsBy_57 : decode cX12_oddsBy 57 = .ok (.getfield 139, 3) := dk_180 (dw rcX12_oddsBy_38 9 rfl) rfl
theorem dX12_oddsBy_60 : decode cX12_oddsBy 60 = .ok (.sipush 512, 3) := dk_17 (dw rcX12_oddsBy_38 10 rfl) rfl
theorem dX12_oddsBy_63 : decode cX12_oddsBy 63 = .ok (.iload_n 3, 1) := dk_29 (dw rcX12_oddsBy_38 11 rfl)
theorem dX12_oddsBy_64 : decode cX12_oddsBy 64 = .ok (.iconst 1, 1) := dk_4 (dw rcX12_oddsBy_38 12 rfl)
theorem dX12_oddsBy_65 : decode cX12_oddsBy 65 = .ok (.isub, 1) := dk_100 (dw rcX12_oddsBy_38 13 rfl)
theorem dX12_oddsBy_66 : decode cX12_oddsBy 66 = .ok (.imul, 1) := dk_104 (dw rcX12_oddsBy_38 14 rfl)
theorem dX12_oddsBy_67 : decode cX12_oddsBy 67 = .ok (.iload 9, 2) := dk_21 (dw rcX12_oddsBy_38 15 rfl)
theorem dX12_oddsBy_69 : decode cX12_oddsBy 69 = .ok (.iadd, 1) := dk_96 (dw rcX12_oddsBy_38 16 rfl)
theorem dX12_oddsBy_70 : decode cX12_oddsBy 70 = .ok (.laload, 1) := dk_47 (dw rcX12_oddsBy_38 17 rfl)
theorem dX12_oddsBy_71 : decode cX12_oddsBy 71 = .ok (.goto 4, 3) := dk_167 (dw rcX12_oddsBy_38 18 rfl) rfl
theorem dX12_oddsBy_74 : decode cX12_oddsBy 74 = .ok (.lconst 0, 1) := dk_9 (dw rcX12_oddsBy_38 19 rfl)
theorem dX12_oddsBy_75 : decode cX12_oddsBy 75 = .ok (.lmul, 1) := dk_105 (dw rcX12_oddsBy_38 20 rfl)
theorem dX12_oddsBy_76 : decode cX12_oddsBy 76 = .ok (.ladd, 1) := dk_97 (dw rcX12_oddsBy_38 21 rfl)
theorem dX12_oddsBy_77 : decode cX12_oddsBy 77 = .ok (.lstore 6, 2) := dk_55 (dw rcX12_oddsBy_38 22 rfl)
theorem dX12_oddsBy_79 : decode cX12_oddsBy 79 = .ok (.iinc 8 1, 3) := dk_132 (dw rcX12_oddsBy_38 23 rfl) rfl
def rbX12_oddsBy_82 : List (Nat × List Nat) := [(82, [167, 255, 180]), (85, [22, 6]), (87, [173])]
theorem rcX12_oddsBy_82 : dgo (lb cX12_oddsBy) 0 rbX12_oddsBy_82 = true := by decide +kernel
theorem dX12_oddsBy_82 : decode cX12_oddsBy 82 = .ok (.goto (-76), 3) := dk_167 (dw rcX12_oddsBy_82 0 rfl) rfl
theorem dX12_oddsBy_85 : decode cX12_oddsBy 85 = .ok (.lload 6, 2) := dk_22 (dw rcX12_oddsBy_82 1 rfl)
theorem dX12_oddsBy_87 : decode cX12_oddsBy 87 = .ok (.lreturn, 1) := dk_173 (dw rcX12_oddsBy_82 2 rfl)
def rbX12_rest_0 : List (Nat × List Nat) := [(0, [10]), (1, [65]), (2, [3]), (3, [54, 4]), (5, [21, 4]), (7, [27]), (8, [162, 0, 17]), (11, [32]), (12, [42]), (13, [182, 2, 41]), (16, [133]), (17, [105]), (18, [65]), (19, [132, 4, 1]), (22, [167, 255, 239]), (25, [32]), (26, [173])]
theorem rcX12_rest_0 : dgo (lb cX12_rest) 0 rbX12_rest_0 = true := by decide +kernel
theorem dX12_rest_0 : decode cX12_rest 0 = .ok (.lconst 1, 1) := dk_10 (dw rcX12_rest_0 0 rfl)
theorem dX12_rest_1 : decode cX12_rest 1 = .ok (.lstore_n 2, 1) := dk_65 (dw rcX12_rest_0 1 rfl)
theorem dX12_rest_2 : decode cX12_rest 2 = .ok (.iconst 0, 1) := dk_3 (dw rcX12_rest_0 2 rfl)
theorem dX12_rest_3 : decode cX12_rest 3 = .ok (.istore 4, 2) := dk_54 (dw rcX12_rest_0 3 rfl)
theorem dX12_rest_5 : decode cX12_rest 5 = .ok (.iload 4, 2) := dk_21 (dw rcX12_rest_0 4 rfl)
theorem dX12_rest_7 : decode cX12_rest 7 = .ok (.iload_n 1, 1) := dk_27 (dw rcX12_rest_0 5 rfl)
theorem dX12_rest_8 : decode cX12_rest 8 = .ok (.if_icmp .ge 17, 3) := dk_162 (dw rcX12_rest_0 6 rfl) rfl
theorem dX12_rest_11 : decode cX12_rest 11 = .ok (.lload_n 2, 1) := dk_32 (dw rcX12_rest_0 7 rfl)
theorem dX12_rest_12 : decode cX12_rest 12 = .ok (.aload_n 0, 1) := dk_42 (dw rcX12_rest_0 8 rfl)
theorem dX12_rest_13 : decode cX12_rest 13 = .ok (.invokevirtual 553, 3) := dk_182 (dw rcX12_rest_0 9 rfl) rfl
theorem dX12_rest_16 : decode cX12_rest 16 = .ok (.i2l, 1) := dk_133 (dw rcX12_rest_0 10 rfl)
theorem dX12_rest_17 : decode cX12_rest 17 = .ok (.lmul, 1) := dk_105 (dw rcX12_rest_0 11 rfl)
theorem dX12_rest_18 : decode cX12_rest 18 = .ok (.lstore_n 2, 1) := dk_65 (dw rcX12_rest_0 12 rfl)
theorem dX12_rest_19 : decode cX12_rest 19 = .ok (.iinc 4 1, 3) := dk_132 (dw rcX12_rest_0 13 rfl) rfl
theorem dX12_rest_22 : decode cX12_rest 22 = .ok (.goto (-17), 3) := dk_167 (dw rcX12_rest_0 14 rfl) rfl
theorem dX12_rest_25 : decode cX12_rest 25 = .ok (.lload_n 2, 1) := dk_32 (dw rcX12_rest_0 15 rfl)
theorem dX12_rest_26 : decode cX12_rest 26 = .ok (.lreturn, 1) := dk_173 (dw rcX12_rest_0 16 rfl)
set_option maxHeartbeats 4000000 in
set_option maxRecDepth 100000 in
theorem n_oddsBy (l : Launch) (D : va_G) (k : KT) (A : Nat → Prop) (a : Nat → Nat) (z : SK) (G : GS) (p0 : Int32) (p1 : Int32) (p2 : Int32) (p3 : Int64) (ha_p0 : 0 ≤ p0.toInt ∧ p0.toInt ≤ 399) (ha_p1 : 0 ≤ p1.toInt ∧ p1.toInt ≤ 60) (ha_p2 : 1 ≤ p2.toInt ∧ p2.toInt ≤ 8) : Met l yX12_oddsBy (WS yX12_oddsBy cX12_oddsBy 10 (some .long)) ({ frames := 1, cells := 0, slots := 0, locals := 21 }) (va_Pc [.ref (a 66), .int p0, .int p1, .int p2, .long p3] (cW D k A a z G)) (va_Ql (fun (r : Int64) (G1 : GS) => Q_oddsBy p0 p1 p2 p3 G r G1) (fun (G1 : GS) t => Wd D k A a G1 t.heap) A) 0 0 A := by
  refine Met.ofW (cc := cX12_oddsBy) (maxL := 10) (ret := (some .long)) (by decide) rfl ?_
  intro p e s m args below meth c s₁ B hml hv
  obtain ⟨rfl, hW, hB_G, hK, hZ⟩ := hv
  have hx := B.exec
  have hb := B.bytes
  have hr := B.returns
  have hts := atoms_spec (ws := WS yX12_oddsBy cX12_oddsBy 10 (some .long)) B.pre
  have hgd : ∀ w ∈ gd, w ∈ WS yX12_oddsBy cX12_oddsBy 10 (some .long) := fun w h => List.mem_cons_of_mem _ h
  have hg : ∀ w ∈ gd, w.before _ s = true := fun w h => hts w (hgd w h)
  have hown : s.vm.findClass RX12 = some m.cls := findClass_of_methodNamed B.named
  have hS : va_S A s.heap s.heap [] := va_S.rf
  have hF : Fr [] [] G G := Fr.rf
  have hl := lv_entry ([.ref (a 66), .int p0, .int p1, .int p2, .long p3]) (n := 10) (Nat.le_of_ble_eq_true rfl)
  rw [lg_entry_eq]
  generalize (lg_sl ([.ref (a 66), .int p0, .int p1, .int p2, .long p3]) ++ List.replicate (10 - (lg_sl ([.ref (a 66), .int p0, .int p1, .int p2, .long p3])).length) Slot.unset).toArray = ls at hl ⊢
  have hl : lv_has ls 10 [(0, .ref (a 66)), (1, .int p0), (2, .int p1), (3, .int p2), (4, .long p3)] := hl
  refine lv_lconst (v := 0) hx hb dX12_oddsBy_0 (by decide) ?_
  refine lv_lstore (lv' := [(6, .long 0), (0, .ref (a 66)), (1, .int p0), (2, .int p1), (3, .int p2), (4, .long p3)]) hx hb dX12_oddsBy_1 hl (lt_b rfl) rfl (fun ls hl => ?_)
  have ho_1 : (0 : Int64) = oS (G.1 96) (G.1 98) (G.2.1 106) (G.1 66 59).toInt (G.1 66 60).toInt (p0.toInt + p1.toInt) p2.toInt p3 ((0 : Int32).toInt).toNat := rfl
  refine ic_0 hx hb dX12_oddsBy_3 ?_
  refine lv_istore (lv' := [(8, .int 0), (6, .long 0), (0, .ref (a 66)), (1, .int p0), (2, .int p1), (3, .int p2), (4, .long p3)]) hx hb dX12_oddsBy_4 hl (lt_b rfl) rfl (fun ls hl => ?_)
  have b_9 : 0 ≤ (G.1 66 59).toInt ∧ (G.1 66 59).toInt ≤ 400 := bd_66_59 hB_G
  have b_10 : 0 ≤ (G.1 66 60).toInt ∧ (G.1 66 60).toInt ≤ 12 := bd_66_60 hB_G
  have qc_11 : (0 : Int32).toInt = 0 := rfl
  refine loop_N (Inv := fun n H locs ls => ∃ (G_2 : GS) (x_6 : Int32) (x_7 : Int64), (n : Int) = 3 - x_6.toInt ∧ (0 ≤ x_6.toInt ∧ x_6.toInt ≤ 3) ∧ (x_7 = oS (G.1 96) (G.1 98) (G.2.1 106) (G.1 66 59).toInt (G.1 66 60).toInt (p0.toInt + p1.toInt) p2.toInt p3 (x_6.toInt).toNat) ∧ Rc (St_n_oddsBy_1 p0 p1 p2 p3 G) (0, 0, G) (x_6, x_7, G_2) ∧ Wd D k A a G_2 H ∧ Bd G_2 ∧ Fr [] [] G G_2 ∧ Fr [] [] G G_2 ∧ va_S A s.heap H locs ∧ lv_has ls 10 [(8, .int x_6), (6, .long x_7), (0, .ref (a 66)), (1, .int p0), (2, .int p1), (3, .int p2), (4, .long p3)]) (fun n_5 H locs ls ih_4 hI => ?_) (3 - 0 : Int).toNat ⟨G, 0, 0, (Int.toNat_of_nonneg ((by first | (clear ha_p0 ha_p1 ha_p2 ho_1 b_9 b_10; omega) | omega))), ⟨(by first | (clear ha_p0 ha_p1 ha_p2 ho_1 b_9 b_10; omega) | omega), (by first | (clear ha_p0 ha_p1 ha_p2 ho_1 b_9 b_10; omega) | omega)⟩, (by assumption), Rc.rf, hW, hB_G, hF, Fr.rf, hS, lv_sub hl [0, 1, 2, 3, 4, 5, 6] rfl⟩
  obtain ⟨G_2, x_6, x_7, hn_14, f_12, f_13, hX_8, hW, hB_G_2, hF, hq_3, hS, hl⟩ := hI
  refine lv_iload hx hb dX12_oddsBy_6 (lv_at hl 0 rfl) ?_
  refine ic_3 hx hb dX12_oddsBy_8 ?_
  refine lv_icmp_ge (tgt := 85) hx hb dX12_oddsBy_9 rfl (fun c_15 => ?_) (fun c_15 => ?_)
  · have c_15 : 3 ≤ x_6.toInt := xI_le rfl rfl c_15
    refine lv_lload hx hb dX12_oddsBy_85 (lv_at hl 1 rfl) ?_
    exact W.lret (v := x_7) hx hb hr (fun t ht _ => ⟨⟨x_7, G_2, rfl, (Q_oddsBy_mk ⟨hB_G_2, hF, (show x_7 = oS (G.1 96) (G.1 98) (G.2.1 106) (G.1 66 59).toInt (G.1 66 60).toInt (p0.toInt + p1.toInt) p2.toInt p3 3 from by have h : x_7 = oS (G.1 96) (G.1 98) (G.2.1 106) (G.1 66 59).toInt (G.1 66 60).toInt (p0.toInt + p1.toInt) p2.toInt p3 (x_6.toInt).toNat := (by assumption); rw [show x_6.toInt = 3 from by omega] at h; exact h), ⟨x_6, x_7, G_2, hX_8, f_12, f_13, hB_G_2, hq_3, ⟨c_15, ⟨rfl, rfl⟩⟩⟩⟩), wd_t ht hW⟩, hS.F ht⟩) hS.2.2 dX12_oddsBy_87
  · have c_15 : x_6.toInt < 3 := xI_nle rfl rfl c_15
    refine lv_iload_n hx hb dX12_oddsBy_12 rfl (lv_at hl 3 rfl) ?_
    refine lv_iload_n hx hb dX12_oddsBy_13 rfl (lv_at hl 4 rfl) ?_
    refine lv_iadd hx hb dX12_oddsBy_14 ?_
    refine lv_topi (fun y_16 ey_16 => ?_)
    have ty_16 : y_16.toInt = p0.toInt + p1.toInt := xI_add rfl rfl ey_16 (by omega) (by omega)
    refine lv_iload hx hb dX12_oddsBy_15 (lv_at hl 0 rfl) ?_
    refine lv_iadd hx hb dX12_oddsBy_17 ?_
    refine lv_topi (fun y_17 ey_17 => ?_)
    have ty_17 : y_17.toInt = y_16.toInt + x_6.toInt := xI_add rfl rfl ey_17 (by omega) (by omega)
    refine ic_1 hx hb dX12_oddsBy_18 ?_
    refine lv_isub hx hb dX12_oddsBy_19 ?_
    refine lv_topi (fun y_18 ey_18 => ?_)
    have ty_18 : y_18.toInt = y_17.toInt - 1 := xI_sub rfl rfl ey_18 (by omega) (by omega)
    refine lv_istore (lv' := [(9, .int y_18), (8, .int x_6), (6, .long x_7), (0, .ref (a 66)), (1, .int p0), (2, .int p1), (3, .int p2), (4, .long p3)]) hx hb dX12_oddsBy_20 hl (lt_b rfl) rfl (fun ls hl => ?_)
    refine lv_lload hx hb dX12_oddsBy_22 (lv_at hl 2 rfl) ?_
    refine lv_aload_n hx hb dX12_oddsBy_24 rfl (lv_at hl 3 rfl) ?_
    refine S_getR (n := 96) (C := RX12) (T := TX12) (N := 89) hx hb hg iX12 hown hK hW kd_66 rfl 44 (lt_b rfl) (hg (Cond.fieldLink RX12 102 "SlabWalkModel" "slips" "[I") m1358) (fun _ h9 => h9) rfl dX12_oddsBy_25 ?_
    refine lv_iload hx hb dX12_oddsBy_28 (lv_at hl 1 rfl) ?_
    refine S_iald hx hb hK hW kd_96 (vin (by omega) (by omega)) dX12_oddsBy_30 (fun y_19 ey_19 => ?_)
    have ty_19 : 0 ≤ y_19.toInt ∧ y_19.toInt ≤ 9 := bv_96 hB_G_2 ey_19
    have u_20 : y_19.toInt = (G.1 96 x_6.toNatClampNeg).toInt := congrArg Int32.toInt (ey_19.trans ((hq_3.ri9 96 rfl x_6.toNatClampNeg)))
    refine lv_i2l hx hb dX12_oddsBy_31 rfl ?_
    refine lv_topl (fun y_21 ey_21 => ?_)
    refine lv_aload_n hx hb dX12_oddsBy_32 rfl (lv_at hl 3 rfl) ?_
    refine lv_iload hx hb dX12_oddsBy_33 (lv_at hl 0 rfl) ?_
    have g_22 : (G_2.1 66 59).toInt = (G.1 66 59).toInt := (congrArg Int32.toInt (show G_2.1 66 59 = (G.1 66 59) from ((hq_3.i9 66 59 rfl rfl).trans (rfl))))
    have g_23 : (G_2.1 66 60).toInt = (G.1 66 60).toInt := (congrArg Int32.toInt (show G_2.1 66 60 = (G.1 66 60) from ((hq_3.i9 66 60 rfl rfl).trans (rfl))))
    refine S_calli (va_runV (As := [.int y_18]) (rest := [.long y_21, .long x_7]) ⟨hx, hb, hml, hown, hts⟩ (n_stands1 l D k A a z G_2 y_18 ) (cwV 1 hts (gd_V hgd m1838 m1840 m92 m131 m1841) rfl rfl rfl hd_X12_doesStand ⟨Nat.le_of_ble_eq_true rfl, Nat.le_of_ble_eq_true rfl⟩) (pre_W hW hB_G_2 hK hZ hS kd_66 rfl) rfl rfl hl.1 rfl (lv_room (Nat.le_of_ble_eq_true rfl)) dX12_oddsBy_35 ⟨Nat.le_of_ble_eq_true rfl, Nat.le_of_ble_eq_true rfl⟩) hS (fun r_24 G_25 H locs hpo hW hS => ?_)
    have hX_28 : Q_stands1 y_18 G_2 r_24 G_25 := hpo
    obtain ⟨hB_G_25, hq_26, f_29, ⟨d_1, d_2⟩, -⟩ := hpo
    have hF := hF.call9 hq_26 rfl rfl
    refine lv_if_ne (tgt := 46) hx hb dX12_oddsBy_38 rfl (fun c_30 => ?_) (fun c_30 => ?_)
    · have c_30 : r_24.toInt ≠ 0 := xI_ne rfl rfl c_30
      refine lv_aload_n hx hb dX12_oddsBy_46 rfl (lv_at hl 3 rfl) ?_
      refine S_getR (n := 98) (C := RX12) (T := TX12) (N := 89) hx hb hg iX12 hown hK hW kd_66 rfl 58 (lt_b rfl) (hg (Cond.fieldLink RX12 115 "SlabWalkModel" "lawful" "[Z") m1372) (fun _ h9 => h9) rfl dX12_oddsBy_47 ?_
      refine lv_iload hx hb dX12_oddsBy_50 (lv_at hl 0 rfl) ?_
      refine S_zald hx hb hK hW kd_98 (vin (by omega) (by omega)) dX12_oddsBy_52 (fun y_31 ey_31 => ?_)
      have ty_31 := hB_G_25.law ey_31
      have u_32 : y_31.toInt = (G.1 98 y_18.toNatClampNeg).toInt := congrArg Int32.toInt (ey_31.trans (((hq_26.ri9 98 rfl y_18.toNatClampNeg).trans (hq_3.ri9 98 rfl y_18.toNatClampNeg))))
      refine lv_if_eq (tgt := 74) hx hb dX12_oddsBy_53 rfl (fun c_33 => ?_) (fun c_33 => ?_)
      · have c_33 : y_31.toInt = 0 := xI_eq rfl rfl c_33
        refine lv_lconst (v := 0) hx hb dX12_oddsBy_74 (by decide) ?_
        have ht_ : (0 : Int64) = tv (G.1 98) (G.2.1 106) (G.1 66 59).toInt (G.1 66 60).toInt (p0.toInt + p1.toInt + x_6.toInt - 1) p2.toInt p3 := tv_no (x := y_18) (y := y_31) (by omega) (by omega) (by omega) (by omega)
        refine lv_lmul hx hb dX12_oddsBy_75 ?_
        refine lv_topl (fun y_34 ey_34 => ?_)
        refine lv_ladd hx hb dX12_oddsBy_76 ?_
        refine lv_topl (fun y_35 ey_35 => ?_)
        refine lv_lstore (lv' := [(6, .long y_35), (9, .int y_18), (8, .int x_6), (0, .ref (a 66)), (1, .int p0), (2, .int p1), (3, .int p2), (4, .long p3)]) hx hb dX12_oddsBy_77 hl (lt_b rfl) rfl (fun ls hl => ?_)
        obtain ⟨y_36, ey_36⟩ : ∃ q, q = x_6 + 1 := ⟨_, rfl⟩
        have ty_36 : y_36.toInt = x_6.toInt + 1 := xI_add rfl rfl ey_36 (by omega) (by omega)
        refine lv_iinc (v := y_36) (lv' := [(8, .int y_36), (6, .long y_35), (9, .int y_18), (0, .ref (a 66)), (1, .int p0), (2, .int p1), (3, .int p2), (4, .long p3)]) hx hb dX12_oddsBy_79 hl (k := 2) rfl (by rw [ey_36]; rfl) (lt_b rfl) rfl (fun ls hl => ?_)
        have ho_37 : y_35 = oS (G.1 96) (G.1 98) (G.2.1 106) (G.1 66 59).toInt (G.1 66 60).toInt (p0.toInt + p1.toInt) p2.toInt p3 (y_36.toInt).toNat := oS_step (k := x_6) (by assumption) (by omega) (y := y_19) (by omega) ey_21 ey_34 ey_35 ht_ (by omega)
        refine lv_goto (tgt := 6) hx hb dX12_oddsBy_82 rfl ?_
        exact ih_4 (3 - y_36.toInt : Int).toNat (by omega) _ _ _ ⟨G_25, y_36, y_35, (Int.toNat_of_nonneg (by omega)), ⟨by omega, by omega⟩, (by assumption), (hX_8.st (St_n_oddsBy_1_mk ⟨x_6, x_7, G_2, y_36, y_35, G_25, rfl, rfl, f_12, f_13, hB_G_2, ⟨c_15, ⟨y_16, ty_16, ⟨y_17, ty_17, ⟨y_18, ty_18, ⟨y_19, ey_19, ⟨y_21, ey_21, ⟨r_24, G_25, hX_28, (Or.inr ⟨c_30, ⟨y_31, ey_31, (Or.inl ⟨c_33, ⟨y_34, ey_34, ⟨y_35, ey_35, ⟨y_36, ty_36, ⟨rfl, rfl, rfl⟩⟩⟩⟩⟩)⟩⟩)⟩⟩⟩⟩⟩⟩⟩⟩)), hW, hB_G_25, hF, (Fr.call9 (rs := []) (fs := []) (Fr.call9 (rs := []) (fs := []) Fr.rf hq_3 rfl rfl) hq_26 rfl rfl), hS, lv_sub hl [0, 1, 3, 4, 5, 6, 7] rfl⟩
      · have c_33 : y_31.toInt ≠ 0 := xI_ne rfl rfl c_33
        refine lv_aload_n hx hb dX12_oddsBy_56 rfl (lv_at hl 3 rfl) ?_
        refine S_getR (n := 106) (C := RX12) (T := TX12) (N := 89) hx hb hg iX12 hown hK hW kd_66 rfl 72 (lt_b rfl) (hg (Cond.fieldLink RX12 139 "SlabWalkModel" "odds" "[J") m1386) (fun _ h9 => h9) rfl dX12_oddsBy_57 ?_
        refine lv_sipush (v := 512) hx hb dX12_oddsBy_60 (by decide) ?_
        refine lv_iload_n hx hb dX12_oddsBy_63 rfl (lv_at hl 6 rfl) ?_
        refine ic_1 hx hb dX12_oddsBy_64 ?_
        refine lv_isub hx hb dX12_oddsBy_65 ?_
        refine lv_topi (fun y_38 ey_38 => ?_)
        have ty_38 : y_38.toInt = p2.toInt - 1 := xI_sub rfl rfl ey_38 (by omega) (by omega)
        refine lv_imul hx hb dX12_oddsBy_66 ?_
        refine lv_topi (fun y_39 ey_39 => ?_)
        have ty_39 : y_39.toInt = 512 * y_38.toInt := xI_mul rfl rfl ey_39 (by omega) (by omega)
        refine lv_iload hx hb dX12_oddsBy_67 (lv_at hl 0 rfl) ?_
        refine lv_iadd hx hb dX12_oddsBy_69 ?_
        refine lv_topi (fun y_40 ey_40 => ?_)
        have ty_40 : y_40.toInt = y_39.toInt + y_18.toInt := xI_add rfl rfl ey_40 (by omega) (by omega)
        refine S_lald hx hb hK hW kd_106 (vin (by omega) (by omega)) dX12_oddsBy_70 (fun y_41 ey_41 => ?_)
        refine lv_goto (tgt := 75) hx hb dX12_oddsBy_71 rfl ?_
        have ht_ : y_41 = tv (G.1 98) (G.2.1 106) (G.1 66 59).toInt (G.1 66 60).toInt (p0.toInt + p1.toInt + x_6.toInt - 1) p2.toInt p3 := tv_law (x := y_18) (y := y_31) (by omega) (by omega) (by omega) (by omega) (v := y_40) (by omega) (ey_41.trans (congrFun (show G_25.2.1 106 = G.2.1 106 from (Fr.rowsl (rs := []) (fs := []) (i := 106) (Fr.call9 (rs := []) (fs := []) (Fr.call9 (rs := []) (fs := []) Fr.rf hq_3 rfl rfl) hq_26 rfl rfl) (by decide))) _))
        refine lv_lmul hx hb dX12_oddsBy_75 ?_
        refine lv_topl (fun y_42 ey_42 => ?_)
        refine lv_ladd hx hb dX12_oddsBy_76 ?_
        refine lv_topl (fun y_43 ey_43 => ?_)
        refine lv_lstore (lv' := [(6, .long y_43), (9, .int y_18), (8, .int x_6), (0, .ref (a 66)), (1, .int p0), (2, .int p1), (3, .int p2), (4, .long p3)]) hx hb dX12_oddsBy_77 hl (lt_b rfl) rfl (fun ls hl => ?_)
        obtain ⟨y_44, ey_44⟩ : ∃ q, q = x_6 + 1 := ⟨_, rfl⟩
        have ty_44 : y_44.toInt = x_6.toInt + 1 := xI_add rfl rfl ey_44 (by omega) (by omega)
        refine lv_iinc (v := y_44) (lv' := [(8, .int y_44), (6, .long y_43), (9, .int y_18), (0, .ref (a 66)), (1, .int p0), (2, .int p1), (3, .int p2), (4, .long p3)]) hx hb dX12_oddsBy_79 hl (k := 2) rfl (by rw [ey_44]; rfl) (lt_b rfl) rfl (fun ls hl => ?_)
        have ho_45 : y_43 = oS (G.1 96) (G.1 98) (G.2.1 106) (G.1 66 59).toInt (G.1 66 60).toInt (p0.toInt + p1.toInt) p2.toInt p3 (y_44.toInt).toNat := oS_step (k := x_6) (by assumption) (by omega) (y := y_19) (by omega) ey_21 ey_42 ey_43 ht_ (by omega)
        refine lv_goto (tgt := 6) hx hb dX12_oddsBy_82 rfl ?_
        exact ih_4 (3 - y_44.toInt : Int).toNat (by omega) _ _ _ ⟨G_25, y_44, y_43, (Int.toNat_of_nonneg (by omega)), ⟨by omega, by omega⟩, (by assumption), (hX_8.st (St_n_oddsBy_1_mk ⟨x_6, x_7, G_2, y_44, y_43, G_25, rfl, rfl, f_12, f_13, hB_G_2, ⟨c_15, ⟨y_16, ty_16, ⟨y_17, ty_17, ⟨y_18, ty_18, ⟨y_19, ey_19, ⟨y_21, ey_21, ⟨r_24, G_25, hX_28, (Or.inr ⟨c_30, ⟨y_31, ey_31, (Or.inr ⟨c_33, ⟨y_38, ty_38, ⟨y_39, ty_39, ⟨y_40, ty_40, ⟨y_41, ey_41, ⟨y_42, ey_42, ⟨y_43, ey_43, ⟨y_44, ty_44, ⟨rfl, rfl, rfl⟩⟩⟩⟩⟩⟩⟩⟩⟩)⟩⟩)⟩⟩⟩⟩⟩⟩⟩⟩)), hW, hB_G_25, hF, (Fr.call9 (rs := []) (fs := []) (Fr.call9 (rs := []) (fs := []) Fr.rf hq_3 rfl rfl) hq_26 rfl rfl), hS, lv_sub hl [0, 1, 3, 4, 5, 6, 7] rfl⟩
    · have c_30 : r_24.toInt = 0 := xI_eq rfl rfl c_30
      refine lv_lload hx hb dX12_oddsBy_41 (lv_at hl 7 rfl) ?_
      refine lv_goto (tgt := 75) hx hb dX12_oddsBy_43 rfl ?_
      have ht_ : p3 = tv (G.1 98) (G.2.1 106) (G.1 66 59).toInt (G.1 66 60).toInt (p0.toInt + p1.toInt + x_6.toInt - 1) p2.toInt p3 := tv_out (by omega)
      refine lv_lmul hx hb dX12_oddsBy_75 ?_
      refine lv_topl (fun y_46 ey_46 => ?_)
      refine lv_ladd hx hb dX12_oddsBy_76 ?_
      refine lv_topl (fun y_47 ey_47 => ?_)
      refine lv_lstore (lv' := [(6, .long y_47), (9, .int y_18), (8, .int x_6), (0, .ref (a 66)), (1, .int p0), (2, .int p1), (3, .int p2), (4, .long p3)]) hx hb dX12_oddsBy_77 hl (lt_b rfl) rfl (fun ls hl => ?_)
      obtain ⟨y_48, ey_48⟩ : ∃ q, q = x_6 + 1 := ⟨_, rfl⟩
      have ty_48 : y_48.toInt = x_6.toInt + 1 := xI_add rfl rfl ey_48 (by omega) (by omega)
      refine lv_iinc (v := y_48) (lv' := [(8, .int y_48), (6, .long y_47), (9, .int y_18), (0, .ref (a 66)), (1, .int p0), (2, .int p1), (3, .int p2), (4, .long p3)]) hx hb dX12_oddsBy_79 hl (k := 2) rfl (by rw [ey_48]; rfl) (lt_b rfl) rfl (fun ls hl => ?_)
      have ho_49 : y_47 = oS (G.1 96) (G.1 98) (G.2.1 106) (G.1 66 59).toInt (G.1 66 60).toInt (p0.toInt + p1.toInt) p2.toInt p3 (y_48.toInt).toNat := oS_step (k := x_6) (by assumption) (by omega) (y := y_19) (by omega) ey_21 ey_46 ey_47 ht_ (by omega)
      refine lv_goto (tgt := 6) hx hb dX12_oddsBy_82 rfl ?_
      exact ih_4 (3 - y_48.toInt : Int).toNat (by omega) _ _ _ ⟨G_25, y_48, y_47, (Int.toNat_of_nonneg (by omega)), ⟨by omega, by omega⟩, (by assumption), (hX_8.st (St_n_oddsBy_1_mk ⟨x_6, x_7, G_2, y_48, y_47, G_25, rfl, rfl, f_12, f_13, hB_G_2, ⟨c_15, ⟨y_16, ty_16, ⟨y_17, ty_17, ⟨y_18, ty_18, ⟨y_19, ey_19, ⟨y_21, ey_21, ⟨r_24, G_25, hX_28, (Or.inl ⟨c_30, ⟨y_46, ey_46, ⟨y_47, ey_47, ⟨y_48, ty_48, ⟨rfl, rfl, rfl⟩⟩⟩⟩⟩)⟩⟩⟩⟩⟩⟩⟩⟩)), hW, hB_G_25, hF, (Fr.call9 (rs := []) (fs := []) (Fr.call9 (rs := []) (fs := []) Fr.rf hq_3 rfl rfl) hq_26 rfl rfl), hS, lv_sub hl [0, 1, 3, 4, 5, 6, 7] rfl⟩

set_option maxHeartbeats 4000000 in
set_option maxRecDepth 100000 in
theorem n_rest (l : Launch) (D : va_G) (k : KT) (A : Nat → Prop) (a : Nat → Nat) (z : SK) (G : GS) (p0 : Int32) (ha_p0 : 0 ≤ p0.toInt ∧ p0.toInt ≤ 7) : Met l yX12_rest (WS yX12_rest cX12_rest 5 (some .long)) ({ frames := 1, cells := 0, slots := 0, locals := 20 }) (va_Pc [.ref (a 66), .int p0] (cW D k A a z G)) (va_Ql (fun (r : Int64) (G1 : GS) => Q_rest p0 G r G1) (fun (G1 : GS) t => Wd D k A a G1 t.heap) A) 0 0 A := by
  refine Met.ofW (cc := cX12_rest) (maxL := 5) (ret := (some .long)) (by decide) rfl ?_
  intro p e s m args below meth c s₁ B hml hv
  obtain ⟨rfl, hW, hB_G, hK, hZ⟩ := hv
  have hx := B.exec
  have hb := B.bytes
  have hr := B.returns
  have hts := atoms_spec (ws := WS yX12_rest cX12_rest 5 (some .long)) B.pre
  have hgd : ∀ w ∈ gd, w ∈ WS yX12_rest cX12_rest 5 (some .long) := fun w h => List.mem_cons_of_mem _ h
  have hg : ∀ w ∈ gd, w.before _ s = true := fun w h => hts w (hgd w h)
  have hown : s.vm.findClass RX12 = some m.cls := findClass_of_methodNamed B.named
  have hS : va_S A s.heap s.heap [] := va_S.rf
  have hF : Fr [] [] G G := Fr.rf
  have hl := lv_entry ([.ref (a 66), .int p0]) (n := 5) (Nat.le_of_ble_eq_true rfl)
  rw [lg_entry_eq]
  generalize (lg_sl ([.ref (a 66), .int p0]) ++ List.replicate (5 - (lg_sl ([.ref (a 66), .int p0])).length) Slot.unset).toArray = ls at hl ⊢
  have hl : lv_has ls 5 [(0, .ref (a 66)), (1, .int p0)] := hl
  refine lv_lconst (v := 1) hx hb dX12_rest_0 (by decide) ?_
  refine lv_lstore_n (lv' := [(2, .long 1), (0, .ref (a 66)), (1, .int p0)]) hx hb dX12_rest_1 rfl hl (lt_b rfl) rfl (fun ls hl => ?_)
  have ho_1 : (1 : Int64) = rS (aS G).toInt64 ((0 : Int32).toInt).toNat := rfl
  refine ic_0 hx hb dX12_rest_2 ?_
  refine lv_istore (lv' := [(4, .int 0), (2, .long 1), (0, .ref (a 66)), (1, .int p0)]) hx hb dX12_rest_3 hl (lt_b rfl) rfl (fun ls hl => ?_)
  have qc_9 : (0 : Int32).toInt = 0 := rfl
  refine loop_N (Inv := fun n H locs ls => ∃ (G_2 : GS) (x_6 : Int32) (x_7 : Int64), (n : Int) = 7 - x_6.toInt ∧ (0 ≤ x_6.toInt ∧ x_6.toInt ≤ 7) ∧ (x_7 = rS (aS G).toInt64 (x_6.toInt).toNat) ∧ (x_6.toInt ≤ p0.toInt) ∧ Rc (St_n_rest_1 p0 G) (0, 1, G) (x_6, x_7, G_2) ∧ Wd D k A a G_2 H ∧ Bd G_2 ∧ Fr [] [] G G_2 ∧ Fr [] [] G G_2 ∧ va_S A s.heap H locs ∧ lv_has ls 5 [(4, .int x_6), (2, .long x_7), (0, .ref (a 66)), (1, .int p0)]) (fun n_5 H locs ls ih_4 hI => ?_) (7 - 0 : Int).toNat ⟨G, 0, 1, (Int.toNat_of_nonneg (by omega)), ⟨by omega, by omega⟩, (by assumption), (by omega), Rc.rf, hW, hB_G, hF, Fr.rf, hS, lv_sub hl [0, 1, 2, 3] rfl⟩
  obtain ⟨G_2, x_6, x_7, hn_13, f_10, f_11, f_12, hX_8, hW, hB_G_2, hF, hq_3, hS, hl⟩ := hI
  refine lv_iload hx hb dX12_rest_5 (lv_at hl 0 rfl) ?_
  refine lv_iload_n hx hb dX12_rest_7 rfl (lv_at hl 3 rfl) ?_
  refine lv_icmp_ge (tgt := 25) hx hb dX12_rest_8 rfl (fun c_14 => ?_) (fun c_14 => ?_)
  · have c_14 : p0.toInt ≤ x_6.toInt := xI_le rfl rfl c_14
    refine lv_lload_n hx hb dX12_rest_25 rfl (lv_at hl 1 rfl) ?_
    exact W.lret (v := x_7) hx hb hr (fun t ht _ => ⟨⟨x_7, G_2, rfl, (Q_rest_mk ⟨hB_G_2, hF, (show x_7 = rS (aS G).toInt64 p0.toInt.toNat from by have h : x_7 = rS (aS G).toInt64 (x_6.toInt).toNat := (by assumption); rw [show x_6.toInt = p0.toInt from by omega] at h; exact h), ⟨x_6, x_7, G_2, hX_8, f_10, f_11, f_12, hB_G_2, hq_3, ⟨c_14, ⟨rfl, rfl⟩⟩⟩⟩), wd_t ht hW⟩, hS.F ht⟩) hS.2.2 dX12_rest_26
  · have c_14 : x_6.toInt < p0.toInt := xI_nle rfl rfl c_14
    refine lv_lload_n hx hb dX12_rest_11 rfl (lv_at hl 1 rfl) ?_
    refine lv_aload_n hx hb dX12_rest_12 rfl (lv_at hl 2 rfl) ?_
    have b_15 : 0 ≤ (G.1 96 0).toInt ∧ (G.1 96 0).toInt ≤ 9 := bd_96_0 hB_G
    have g_16 : (G_2.1 96 0).toInt = (G.1 96 0).toInt := (congrArg Int32.toInt (show G_2.1 96 0 = (G.1 96 0) from (hq_3.i9 96 0 rfl rfl)))
    have b_17 : 0 ≤ (G.1 96 1).toInt ∧ (G.1 96 1).toInt ≤ 9 := bd_96_1 hB_G
    have g_18 : (G_2.1 96 1).toInt = (G.1 96 1).toInt := (congrArg Int32.toInt (show G_2.1 96 1 = (G.1 96 1) from (hq_3.i9 96 1 rfl rfl)))
    have b_19 : 0 ≤ (G.1 96 2).toInt ∧ (G.1 96 2).toInt ≤ 9 := bd_96_2 hB_G
    have g_20 : (G_2.1 96 2).toInt = (G.1 96 2).toInt := (congrArg Int32.toInt (show G_2.1 96 2 = (G.1 96 2) from (hq_3.i9 96 2 rfl rfl)))
    refine S_calli (va_runV (As := []) (rest := [.long x_7]) ⟨hx, hb, hml, hown, hts⟩ (n_allSlips l D k A a z G_2  ) (cwV 0 hts (gd_V hgd m1955 m1957 m106 m131 m1958) rfl rfl rfl hd_X12_allSlips ⟨Nat.le_of_ble_eq_true rfl, Nat.le_of_ble_eq_true rfl⟩) (pre_W hW hB_G_2 hK hZ hS kd_66 rfl) rfl rfl hl.1 rfl (lv_room (Nat.le_of_ble_eq_true rfl)) dX12_rest_13 ⟨Nat.le_of_ble_eq_true rfl, Nat.le_of_ble_eq_true rfl⟩) hS (fun r_21 G_22 H locs hpo hW hS => ?_)
    have hX_25 : Q_allSlips G_2 r_21 G_22 := hpo
    obtain ⟨hB_G_22, hq_23, f_26, hp_24, -⟩ := hpo
    have hF := hF.call9 hq_23 rfl rfl
    have g_27 : (G_2.1 96 0).toInt = (G.1 96 0).toInt := (congrArg Int32.toInt (show G_2.1 96 0 = (G.1 96 0) from ((hq_3.i9 96 0 rfl rfl).trans (rfl))))
    have g_28 : (G_2.1 96 1).toInt = (G.1 96 1).toInt := (congrArg Int32.toInt (show G_2.1 96 1 = (G.1 96 1) from ((hq_3.i9 96 1 rfl rfl).trans (rfl))))
    have g_29 : (G_2.1 96 2).toInt = (G.1 96 2).toInt := (congrArg Int32.toInt (show G_2.1 96 2 = (G.1 96 2) from ((hq_3.i9 96 2 rfl rfl).trans (rfl))))
    have hra_ := aS_eq (G := G) (r := r_21) (by omega)
    refine lv_i2l hx hb dX12_rest_16 rfl ?_
    refine lv_topl (fun y_30 ey_30 => ?_)
    refine lv_lmul hx hb dX12_rest_17 ?_
    refine lv_topl (fun y_31 ey_31 => ?_)
    refine lv_lstore_n (lv' := [(2, .long y_31), (4, .int x_6), (0, .ref (a 66)), (1, .int p0)]) hx hb dX12_rest_18 rfl hl (lt_b rfl) rfl (fun ls hl => ?_)
    obtain ⟨y_32, ey_32⟩ : ∃ q, q = x_6 + 1 := ⟨_, rfl⟩
    have ty_32 : y_32.toInt = x_6.toInt + 1 := xI_add rfl rfl ey_32 ((by first | (clear hn_13 b_15 g_16 b_17 g_18 b_19 g_20 f_26 hp_24 g_27 g_28 g_29; omega) | omega)) ((by first | (clear hn_13 b_15 g_16 b_17 g_18 b_19 g_20 f_26 hp_24 g_27 g_28 g_29; omega) | omega))
    refine lv_iinc (v := y_32) (lv' := [(4, .int y_32), (2, .long y_31), (0, .ref (a 66)), (1, .int p0)]) hx hb dX12_rest_19 hl (k := 1) rfl (by rw [ey_32]; rfl) (lt_b rfl) rfl (fun ls hl => ?_)
    have ho_33 : y_31 = rS (aS G).toInt64 (y_32.toInt).toNat := rS_step (n := 0) (k := x_6) (r := r_21) (by assumption) (by omega) ey_30 ey_31 (by rw [hra_]) (by omega)
    refine lv_goto (tgt := 5) hx hb dX12_rest_22 rfl ?_
    exact ih_4 (7 - y_32.toInt : Int).toNat ((by first | (clear b_15 g_16 b_17 g_18 b_19 g_20 f_26 hp_24 g_27 g_28 g_29; omega) | omega)) _ _ _ ⟨G_22, y_32, y_31, (Int.toNat_of_nonneg ((by first | (clear hn_13 b_15 g_16 b_17 g_18 b_19 g_20 f_26 hp_24 g_27 g_28 g_29; omega) | omega))), ⟨(by first | (clear hn_13 b_15 g_16 b_17 g_18 b_19 g_20 f_26 hp_24 g_27 g_28 g_29; omega) | omega), (by first | (clear hn_13 b_15 g_16 b_17 g_18 b_19 g_20 f_26 hp_24 g_27 g_28 g_29; omega) | omega)⟩, (by assumption), ((by first | (clear hn_13 b_15 g_16 b_17 g_18 b_19 g_20 f_26 hp_24 g_27 g_28 g_29; omega) | omega)), (hX_8.st (St_n_rest_1_mk ⟨x_6, x_7, G_2, y_32, y_31, G_22, rfl, rfl, f_10, f_11, f_12, hB_G_2, ⟨c_14, ⟨r_21, G_22, hX_25, ⟨y_30, ey_30, ⟨y_31, ey_31, ⟨y_32, ty_32, ⟨rfl, rfl, rfl⟩⟩⟩⟩⟩⟩⟩)), hW, hB_G_22, hF, (Fr.call9 (rs := []) (fs := []) (Fr.call9 (rs := []) (fs := []) Fr.rf hq_3 rfl rfl) hq_23 rfl rfl), hS, lv_sub hl [0, 1, 2, 3] rfl⟩
