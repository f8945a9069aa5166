theorem m105 : Cond.selects RX12 yX12_rest yX12_rest ∈ gd := gd_mem 105 (by decide +kernel) (by decide +kernel)
theorem m107 : Cond.selects RX12 yX12_oddsBy yX12_oddsBy ∈ gd := gd_mem 107 (by decide +kernel) (by decide +kernel)
theorem m1386 : Cond.fieldLink RX12 139 "SlabWalkModel" "odds" "[J" ∈ gd := gd_mem 1386 (by decide +kernel) (by decide +kernel)
theorem m1951 : Cond.methodLink RX12 556 yX12_rest ∈ gd := gd_mem 1951 (by decide +kernel) (by decide +kernel)
theorem m1953 : Cond.instanceMethod yX12_rest ∈ gd := gd_mem 1953 (by decide +kernel) (by decide +kernel)
theorem m1954 : Cond.code yX12_rest cX12_rest 5 (some .long) ∈ gd := gd_mem 1954 (by decide +kernel) (by decide +kernel)
theorem m1959 : Cond.methodLink RX12 560 yX12_oddsBy ∈ gd := gd_mem 1959 (by decide +kernel) (by decide +kernel)
theorem m1961 : Cond.instanceMethod yX12_oddsBy ∈ gd := gd_mem 1961 (by decide +kernel) (by decide +kernel)
theorem m1962 : Cond.code yX12_oddsBy cX12_oddsBy 10 (some .long) ∈ gd := gd_mem 1962 (by decide +kernel) (by decide +kernel)
theorem dX12_bestOdds_0 : decode cX12_bestOdds 0 = .ok (.lconst 0, 1) := by decide +kernel
theorem dX12_bestOdds_1 : decode cX12_bestOdds 1 = .ok (.lstore_n 3, 1) := by decide +kernel
theorem dX12_bestOdds_2 : decode cX12_bestOdds 2 = .ok (.aload_n 0, 1) := by decide +kernel
theorem dX12_bestOdds_3 : decode cX12_bestOdds 3 = .ok (.getfield 475, 3) := by decide +kernel
theorem dX12_bestOdds_6 : decode cX12_bestOdds 6 = .ok (.istore 5, 2) := by decide +kernel
theorem dX12_bestOdds_8 : decode cX12_bestOdds 8 = .ok (.iload 5, 2) := by decide +kernel
theorem dX12_bestOdds_10 : decode cX12_bestOdds 10 = .ok (.aload_n 0, 1) := by decide +kernel
theorem dX12_bestOdds_11 : decode cX12_bestOdds 11 = .ok (.getfield 478, 3) := by decide +kernel
theorem dX12_bestOdds_14 : decode cX12_bestOdds 14 = .ok (.if_icmp .gt 40, 3) := by decide +kernel
theorem dX12_bestOdds_17 : decode cX12_bestOdds 17 = .ok (.aload_n 0, 1) := by decide +kernel
theorem dX12_bestOdds_18 : decode cX12_bestOdds 18 = .ok (.iload_n 1, 1) := by decide +kernel
theorem dX12_bestOdds_19 : decode cX12_bestOdds 19 = .ok (.iload 5, 2) := by decide +kernel
theorem dX12_bestOdds_21 : decode cX12_bestOdds 21 = .ok (.iload_n 2, 1) := by decide +kernel
theorem dX12_bestOdds_22 : decode cX12_bestOdds 22 = .ok (.aload_n 0, 1) := by decide +kernel
theorem dX12_bestOdds_23 : decode cX12_bestOdds 23 = .ok (.iload_n 2, 1) := by decide +kernel
theorem dX12_bestOdds_24 : decode cX12_bestOdds 24 = .ok (.iconst 1, 1) := by decide +kernel
theorem dX12_bestOdds_25 : decode cX12_bestOdds 25 = .ok (.isub, 1) := by decide +kernel
theorem dX12_bestOdds_26 : decode cX12_bestOdds 26 = .ok (.invokevirtual 556, 3) := by decide +kernel
theorem dX12_bestOdds_29 : decode cX12_bestOdds 29 = .ok (.invokevirtual 560, 3) := by decide +kernel
theorem dX12_bestOdds_32 : decode cX12_bestOdds 32 = .ok (.lstore 6, 2) := by decide +kernel
theorem dX12_bestOdds_34 : decode cX12_bestOdds 34 = .ok (.lload 6, 2) := by decide +kernel
theorem dX12_bestOdds_36 : decode cX12_bestOdds 36 = .ok (.lload_n 3, 1) := by decide +kernel
theorem dX12_bestOdds_37 : decode cX12_bestOdds 37 = .ok (.lcmp, 1) := by decide +kernel
theorem dX12_bestOdds_38 : decode cX12_bestOdds 38 = .ok (.ifCond .le 8, 3) := by decide +kernel
theorem dX12_bestOdds_41 : decode cX12_bestOdds 41 = .ok (.lload 6, 2) := by decide +kernel
theorem dX12_bestOdds_43 : decode cX12_bestOdds 43 = .ok (.goto 4, 3) := by decide +kernel
theorem dX12_bestOdds_46 : decode cX12_bestOdds 46 = .ok (.lload_n 3, 1) := by decide +kernel
theorem dX12_bestOdds_47 : decode cX12_bestOdds 47 = .ok (.lstore_n 3, 1) := by decide +kernel
theorem dX12_bestOdds_48 : decode cX12_bestOdds 48 = .ok (.iinc 5 1, 3) := by decide +kernel
theorem dX12_bestOdds_51 : decode cX12_bestOdds 51 = .ok (.goto (-43), 3) := by decide +kernel
theorem dX12_bestOdds_54 : decode cX12_bestOdds 54 = .ok (.lload_n 3, 1) := by decide +kernel
theorem dX12_bestOdds_55 : decode cX12_bestOdds 55 = .ok (.lreturn, 1) := by decide +kernel
theorem dX12_oddsBy_0 : decode cX12_oddsBy 0 = .ok (.lconst 0, 1) := by decide +kernel
theorem dX12_oddsBy_1 : decode cX12_oddsBy 1 = .ok (.lstore 6, 2) := by decide +kernel
theorem dX12_oddsBy_3 : decode cX12_oddsBy 3 = .ok (.iconst 0, 1) := by decide +kernel
theorem dX12_oddsBy_4 : decode cX12_oddsBy 4 = .ok (.istore 8, 2) := by decide +kernel
theorem dX12_oddsBy_6 : decode cX12_oddsBy 6 = .ok (.iload 8, 2) := by decide +kernel
theorem dX12_oddsBy_8 : decode cX12_oddsBy 8 = .ok (.iconst 3, 1) := by decide +kernel
theorem dX12_oddsBy_9 : decode cX12_oddsBy 9 = .ok (.if_icmp .ge 76, 3) := by decide +kernel
theorem dX12_oddsBy_12 : decode cX12_oddsBy 12 = .ok (.iload_n 1, 1) := by decide +kernel
theorem dX12_oddsBy_13 : decode cX12_oddsBy 13 = .ok (.iload_n 2, 1) := by decide +kernel
theorem dX12_oddsBy_14 : decode cX12_oddsBy 14 = .ok (.iadd, 1) := by decide +kernel
theorem dX12_oddsBy_15 : decode cX12_oddsBy 15 = .ok (.iload 8, 2) := by decide +kernel
theorem dX12_oddsBy_17 : decode cX12_oddsBy 17 = .ok (.iadd, 1) := by decide +kernel
theorem dX12_oddsBy_18 : decode cX12_oddsBy 18 = .ok (.iconst 1, 1) := by decide +kernel
theorem dX12_oddsBy_19 : decode cX12_oddsBy 19 = .ok (.isub, 1) := by decide +kernel
theorem dX12_oddsBy_20 : decode cX12_oddsBy 20 = .ok (.istore 9, 2) := by decide +kernel
theorem dX12_oddsBy_22 : decode cX12_oddsBy 22 = .ok (.lload 6, 2) := by decide +kernel
theorem dX12_oddsBy_24 : decode cX12_oddsBy 24 = .ok (.aload_n 0, 1) := by decide +kernel
theorem dX12_oddsBy_25 : decode cX12_oddsBy 25 = .ok (.getfield 102, 3) := by decide +kernel
theorem dX12_oddsBy_28 : decode cX12_oddsBy 28 = .ok (.iload 8, 2) := by decide +kernel
theorem dX12_oddsBy_30 : decode cX12_oddsBy 30 = .ok (.iaload, 1) := by decide +kernel
theorem dX12_oddsBy_31 : decode cX12_oddsBy 31 = .ok (.i2l, 1) := by decide +kernel
theorem dX12_oddsBy_32 : decode cX12_oddsBy 32 = .ok (.aload_n 0, 1) := by decide +kernel
theorem dX12_oddsBy_33 : decode cX12_oddsBy 33 = .ok (.iload 9, 2) := by decide +kernel
theorem dX12_oddsBy_35 : decode cX12_oddsBy 35 = .ok (.invokevirtual 484, 3) := by decide +kernel
theorem dX12_oddsBy_38 : decode cX12_oddsBy 38 = .ok (.ifCond .ne 8, 3) := by decide +kernel
theorem dX12_oddsBy_41 : decode cX12_oddsBy 41 = .ok (.lload 4, 2) := by decide +kernel
theorem dX12_oddsBy_43 : decode cX12_oddsBy 43 = .ok (.goto 32, 3) := by decide +kernel
theorem dX12_oddsBy_46 : decode cX12_oddsBy 46 = .ok (.aload_n 0, 1) := by decide +kernel
theorem dX12_oddsBy_47 : decode cX12_oddsBy 47 = .ok (.getfield 115, 3) := by decide +kernel
theorem dX12_oddsBy_50 : decode cX12_oddsBy 50 = .ok (.iload 9, 2) := by decide +kernel
theorem dX12_oddsBy_52 : decode cX12_oddsBy 52 = .ok (.baload, 1) := by decide +kernel
theorem dX12_oddsBy_53 : decode cX12_oddsBy 53 = .ok (.ifCond .eq 21, 3) := by decide +kernel
theorem dX12_oddsBy_56 : decode cX12_oddsBy 56 = .ok (.aload_n 0, 1) := by decide +kernel
theorem dX12_oddsBy_57 : decode cX12_oddsBy 57 = .ok (.getfield 139, 3) := by decide +kernel
theorem dX12_oddsBy_60 : decode cX12_oddsBy 60 = .ok (.sipush 512, 3) := by decide +kernel
theorem dX12_oddsBy_63 : decode cX12_oddsBy 63 = .ok (.iload_n 3, 1) := by decide +kernel
theorem dX12_oddsBy_64 : decode cX12_oddsBy 64 = .ok (.iconst 1, 1) := by decide +kernel
theorem dX12_oddsBy_65 : decode cX12_oddsBy 65 = .ok (.isub, 1) := by decide +kernel
theorem dX12_oddsBy_66 : decode cX12_oddsBy 66 = .ok (.imul, 1) := by decide +kernel
theorem dX12_oddsBy_67 : decode cX12_oddsBy 67 = .ok (.iload 9, 2) := by decide +kernel
theorem dX12_oddsBy_69 : decode cX12_oddsBy 69 = .ok (.iadd, 1) := by decide +kernel
theorem dX12_oddsBy_70 : decode cX12_oddsBy 70 = .ok (.laload, 1) := by decide +kernel
theorem dX12_oddsBy_71 : decode cX12_oddsBy 71 = .ok (.goto 4, 3) := by decide +kernel
theorem dX12_oddsBy_74 : decode cX12_oddsBy 74 = .ok (.lconst 0, 1) := by decide +kernel
theorem dX12_oddsBy_75 : decode cX12_oddsBy 75 = .ok (.lmul, 1) := by decide +kernel
theorem dX12_oddsBy_76 : decode cX12_oddsBy 76 = .ok (.ladd, 1) := by decide +kernel
theorem dX12_oddsBy_77 : decode cX12_oddsBy 77 = .ok (.lstore 6, 2) := by decide +kernel
theorem dX12_oddsBy_79 : decode cX12_oddsBy 79 = .ok (.iinc 8 1, 3) := by decide +kernel
theorem dX12_oddsBy_82 : decode cX12_oddsBy 82 = .ok (.goto (-76), 3) := by decide +kernel
theorem dX12_oddsBy_85 : decode cX12_oddsBy 85 = .ok (.lload 6, 2) := by decide +kernel
theorem dX12_oddsBy_87 : decode cX12_oddsBy 87 = .ok (.lreturn, 1) := by decide +kernel
set_option maxHeartbeats 4000000 in
set_option maxRecDepth 100000 in
theorem n_oddsBy (l : Launch) (D : va_G) (k : KT) (A : Nat → Prop) (a : Nat → Nat) (z : SK) (G : GS) (p0 : Int32) (p1 : Int32) (p2 : Int32) (p3 : Int64) (ha_p0 : 0 ≤ p0.toInt ∧ p0.toInt ≤ 399) (ha_p1 : 0 ≤ p1.toInt ∧ p1.toInt ≤ 60) (ha_p2 : 1 ≤ p2.toInt ∧ p2.toInt ≤ 8) : Met l yX12_oddsBy (WS yX12_oddsBy cX12_oddsBy 10 (some .long)) ({ frames := 1, cells := 0, slots := 0, locals := 21 }) (va_Pc [.ref (a 66), .int p0, .int p1, .int p2, .long p3] (cW D k A a z G)) (va_Ql (fun (r : Int64) (G1 : GS) => Bd G1 ∧ Fr [] [] G G1) (fun (G1 : GS) t => Wd D k A a G1 t.heap) A) 0 0 A := by
  refine Met.ofW (cc := cX12_oddsBy) (maxL := 10) (ret := (some .long)) (by decide) rfl ?_
  intro p e s m args below meth c s₁ B hml hv
  obtain ⟨rfl, hW, hB_G, hK, hZ⟩ := hv
  have hx := B.exec
  have hb := B.bytes
  have hr := B.returns
  have hts := atoms_spec (ws := WS yX12_oddsBy cX12_oddsBy 10 (some .long)) B.pre
  have hgd : ∀ w ∈ gd, w ∈ WS yX12_oddsBy cX12_oddsBy 10 (some .long) := fun w h => List.mem_cons_of_mem _ h
  have hg : ∀ w ∈ gd, w.before _ s = true := fun w h => hts w (hgd w h)
  have hown : s.vm.findClass RX12 = some m.cls := findClass_of_methodNamed B.named
  have hS : va_S A s.heap s.heap [] := va_S.rf
  have hF : Fr [] [] G G := Fr.rf
  have hl := lv_entry ([.ref (a 66), .int p0, .int p1, .int p2, .long p3]) (n := 10) (Nat.le_of_ble_eq_true rfl)
  rw [lg_entry_eq]
  generalize (lg_sl ([.ref (a 66), .int p0, .int p1, .int p2, .long p3]) ++ List.replicate (10 - (lg_sl ([.ref (a 66), .int p0, .int p1, .int p2, .long p3])).length) Slot.unset).toArray = ls at hl ⊢
  have hl : lv_has ls 10 [(0, .ref (a 66)), (1, .int p0), (2, .int p1), (3, .int p2), (4, .long p3)] := hl
  refine lv_lconst (v := 0) hx hb dX12_oddsBy_0 (by decide) ?_
  refine lv_lstore (lv' := [(6, .long 0), (0, .ref (a 66)), (1, .int p0), (2, .int p1), (3, .int p2), (4, .long p3)]) hx hb dX12_oddsBy_1 hl (by decide) rfl (fun ls hl => ?_)
  refine lv_iconst (v := 0) hx hb dX12_oddsBy_3 (by decide) ?_
  refine lv_istore (lv' := [(8, .int 0), (6, .long 0), (0, .ref (a 66)), (1, .int p0), (2, .int p1), (3, .int p2), (4, .long p3)]) hx hb dX12_oddsBy_4 hl (by decide) rfl (fun ls hl => ?_)
  have qc_7 : (0 : Int32).toInt = 0 := rfl
  refine loop_N (Inv := fun n H locs ls => ∃ (G_1 : GS) (x_5 : Int32) (x_6 : Int64), (n : Int) = 3 - x_5.toInt ∧ (0 ≤ x_5.toInt ∧ x_5.toInt ≤ 3) ∧ Wd D k A a G_1 H ∧ Bd G_1 ∧ Fr [] [] G G_1 ∧ Fr [] [] G G_1 ∧ va_S A s.heap H locs ∧ lv_has ls 10 [(8, .int x_5), (6, .long x_6), (0, .ref (a 66)), (1, .int p0), (2, .int p1), (3, .int p2), (4, .long p3)]) (fun n_4 H locs ls ih_3 hI => ?_) (3 - 0 : Int).toNat ⟨G, 0, 0, (Int.toNat_of_nonneg (by omega)), ⟨by omega, by omega⟩, hW, hB_G, hF, Fr.rf, hS, lv_sub hl [0, 1, 2, 3, 4, 5, 6] rfl⟩
  obtain ⟨G_1, x_5, x_6, hn_9, f_8, hW, hB_G_1, hF, hq_2, hS, hl⟩ := hI
  refine lv_iload hx hb dX12_oddsBy_6 (lv_at hl 0 rfl) ?_
  refine lv_iconst (v := 3) hx hb dX12_oddsBy_8 (by decide) ?_
  refine lv_icmp_ge (tgt := 85) hx hb dX12_oddsBy_9 (by decide) (fun c_10 => ?_) (fun c_10 => ?_)
  · have c_10 : 3 ≤ x_5.toInt := xI_le rfl rfl c_10
    refine lv_lload hx hb dX12_oddsBy_85 (lv_at hl 1 rfl) ?_
    exact W.lret (v := x_6) hx hb hr (fun t ht _ => ⟨⟨x_6, G_1, rfl, ⟨hB_G_1, hF⟩, wd_t ht hW⟩, hS.F ht⟩) hS.2.2 dX12_oddsBy_87
  · have c_10 : x_5.toInt < 3 := xI_nle rfl rfl c_10
    refine lv_iload_n hx hb dX12_oddsBy_12 rfl (lv_at hl 3 rfl) ?_
    refine lv_iload_n hx hb dX12_oddsBy_13 rfl (lv_at hl 4 rfl) ?_
    refine lv_iadd hx hb dX12_oddsBy_14 ?_
    refine lv_topi (fun y_11 ey_11 => ?_)
    have ty_11 : y_11.toInt = p0.toInt + p1.toInt := xI_add rfl rfl ey_11 (by omega) (by omega)
    refine lv_iload hx hb dX12_oddsBy_15 (lv_at hl 0 rfl) ?_
    refine lv_iadd hx hb dX12_oddsBy_17 ?_
    refine lv_topi (fun y_12 ey_12 => ?_)
    have ty_12 : y_12.toInt = y_11.toInt + x_5.toInt := xI_add rfl rfl ey_12 (by omega) (by omega)
    refine lv_iconst (v := 1) hx hb dX12_oddsBy_18 (by decide) ?_
    refine lv_isub hx hb dX12_oddsBy_19 ?_
    refine lv_topi (fun y_13 ey_13 => ?_)
    have ty_13 : y_13.toInt = y_12.toInt - 1 := xI_sub rfl rfl ey_13 (by omega) (by omega)
    refine lv_istore (lv' := [(9, .int y_13), (8, .int x_5), (6, .long x_6), (0, .ref (a 66)), (1, .int p0), (2, .int p1), (3, .int p2), (4, .long p3)]) hx hb dX12_oddsBy_20 hl (by decide) rfl (fun ls hl => ?_)
    refine lv_lload hx hb dX12_oddsBy_22 (lv_at hl 2 rfl) ?_
    refine lv_aload_n hx hb dX12_oddsBy_24 rfl (lv_at hl 3 rfl) ?_
    refine S_getR (n := 96) (C := RX12) (T := TX12) (N := 89) hx hb hg iX12 hown hK hW kd_66 rfl 44 (by decide) (hg (Cond.fieldLink RX12 102 "SlabWalkModel" "slips" "[I") m1358) (fun _ h9 => h9) rfl dX12_oddsBy_25 ?_
    refine lv_iload hx hb dX12_oddsBy_28 (lv_at hl 1 rfl) ?_
    refine S_iald hx hb hK hW kd_96 (vin (by omega) (by omega)) dX12_oddsBy_30 (fun y_14 ey_14 => ?_)
    have ty_14 : 0 ≤ y_14.toInt ∧ y_14.toInt ≤ 9 := hB_G_1.v ey_14 rfl rfl
    refine lv_i2l hx hb dX12_oddsBy_31 rfl ?_
    refine lv_topl (fun y_15 ey_15 => ?_)
    refine lv_aload_n hx hb dX12_oddsBy_32 rfl (lv_at hl 3 rfl) ?_
    refine lv_iload hx hb dX12_oddsBy_33 (lv_at hl 0 rfl) ?_
    have b_16 : 0 ≤ (G.1 66 59).toInt ∧ (G.1 66 59).toInt ≤ 400 := hB_G.i 66 59 rfl rfl
    have g_17 : (G_1.1 66 59).toInt = (G.1 66 59).toInt := by rw [show G_1.1 66 59 = (G.1 66 59) from (hq_2.i 66 59 (by decide) (by decide))]
    have b_18 : 0 ≤ (G.1 66 60).toInt ∧ (G.1 66 60).toInt ≤ 12 := hB_G.i 66 60 rfl rfl
    have g_19 : (G_1.1 66 60).toInt = (G.1 66 60).toInt := by rw [show G_1.1 66 60 = (G.1 66 60) from (hq_2.i 66 60 (by decide) (by decide))]
    refine S_calli (va_runV (As := [.int y_13]) (rest := [.long y_15, .long x_6]) ⟨hx, hb, hml, hown, hts⟩ (n_stands1 l D k A a z G_1 y_13 ) (cwV 1 hts (gd_V hgd m1838 m1840 m92 m131 m1841) rfl rfl rfl (by decide +kernel) ⟨Nat.le_of_ble_eq_true rfl, Nat.le_of_ble_eq_true rfl⟩) (pre_V hW hB_G_1 hK hZ hS kd_66 rfl) rfl rfl hl.1 rfl (lv_room (Nat.le_of_ble_eq_true rfl)) dX12_oddsBy_35 ⟨Nat.le_of_ble_eq_true rfl, Nat.le_of_ble_eq_true rfl⟩) hS (fun r_20 G_21 H locs hpo hW hS => ?_)
    obtain ⟨hB_G_21, hq_22, f_24, hp_23⟩ := hpo
    have hF := hF.call hq_22 (by decide) (by decide)
    refine lv_if_ne (tgt := 46) hx hb dX12_oddsBy_38 (by decide) (fun c_25 => ?_) (fun c_25 => ?_)
    · have c_25 : r_20.toInt ≠ 0 := xI_ne rfl rfl c_25
      refine lv_aload_n hx hb dX12_oddsBy_46 rfl (lv_at hl 3 rfl) ?_
      refine S_getR (n := 98) (C := RX12) (T := TX12) (N := 89) hx hb hg iX12 hown hK hW kd_66 rfl 58 (by decide) (hg (Cond.fieldLink RX12 115 "SlabWalkModel" "lawful" "[Z") m1372) (fun _ h9 => h9) rfl dX12_oddsBy_47 ?_
      refine lv_iload hx hb dX12_oddsBy_50 (lv_at hl 0 rfl) ?_
      refine S_zald hx hb hK hW kd_98 (vin (by omega) (by omega)) dX12_oddsBy_52 (fun y_26 ey_26 => ?_)
      have ty_26 := hB_G_21.law ey_26
      refine lv_if_eq (tgt := 74) hx hb dX12_oddsBy_53 (by decide) (fun c_27 => ?_) (fun c_27 => ?_)
      · have c_27 : y_26.toInt = 0 := xI_eq rfl rfl c_27
        refine lv_lconst (v := 0) hx hb dX12_oddsBy_74 (by decide) ?_
        refine lv_lmul hx hb dX12_oddsBy_75 ?_
        refine lv_topl (fun y_28 ey_28 => ?_)
        refine lv_ladd hx hb dX12_oddsBy_76 ?_
        refine lv_topl (fun y_29 ey_29 => ?_)
        refine lv_lstore (lv' := [(6, .long y_29), (9, .int y_13), (8, .int x_5), (0, .ref (a 66)), (1, .int p0), (2, .int p1), (3, .int p2), (4, .long p3)]) hx hb dX12_oddsBy_77 hl (by decide) rfl (fun ls hl => ?_)
        obtain ⟨y_30, ey_30⟩ : ∃ q, q = x_5 + 1 := ⟨_, rfl⟩
        have ty_30 : y_30.toInt = x_5.toInt + 1 := xI_add rfl rfl ey_30 (by omega) (by omega)
        refine lv_iinc (v := y_30) (lv' := [(8, .int y_30), (6, .long y_29), (9, .int y_13), (0, .ref (a 66)), (1, .int p0), (2, .int p1), (3, .int p2), (4, .long p3)]) hx hb dX12_oddsBy_79 hl (k := 2) rfl (by rw [ey_30]; rfl) (by decide) rfl (fun ls hl => ?_)
        refine lv_goto (tgt := 6) hx hb dX12_oddsBy_82 (by decide) ?_
        exact ih_3 (3 - y_30.toInt : Int).toNat (by omega) _ _ _ ⟨G_21, y_30, y_29, (Int.toNat_of_nonneg (by omega)), ⟨by omega, by omega⟩, hW, hB_G_21, hF, ((Fr.rf.call hq_2 (by decide) (by decide)).call hq_22 (by decide) (by decide)), hS, lv_sub hl [0, 1, 3, 4, 5, 6, 7] rfl⟩
      · have c_27 : y_26.toInt ≠ 0 := xI_ne rfl rfl c_27
        refine lv_aload_n hx hb dX12_oddsBy_56 rfl (lv_at hl 3 rfl) ?_
        refine S_getR (n := 106) (C := RX12) (T := TX12) (N := 89) hx hb hg iX12 hown hK hW kd_66 rfl 72 (by decide) (hg (Cond.fieldLink RX12 139 "SlabWalkModel" "odds" "[J") m1386) (fun _ h9 => h9) rfl dX12_oddsBy_57 ?_
        refine lv_sipush (v := 512) hx hb dX12_oddsBy_60 (by decide) ?_
        refine lv_iload_n hx hb dX12_oddsBy_63 rfl (lv_at hl 6 rfl) ?_
        refine lv_iconst (v := 1) hx hb dX12_oddsBy_64 (by decide) ?_
        refine lv_isub hx hb dX12_oddsBy_65 ?_
        refine lv_topi (fun y_31 ey_31 => ?_)
        have ty_31 : y_31.toInt = p2.toInt - 1 := xI_sub rfl rfl ey_31 (by omega) (by omega)
        refine lv_imul hx hb dX12_oddsBy_66 ?_
        refine lv_topi (fun y_32 ey_32 => ?_)
        have ty_32 : y_32.toInt = 512 * y_31.toInt := xI_mul rfl rfl ey_32 (by omega) (by omega)
        refine lv_iload hx hb dX12_oddsBy_67 (lv_at hl 0 rfl) ?_
        refine lv_iadd hx hb dX12_oddsBy_69 ?_
        refine lv_topi (fun y_33 ey_33 => ?_)
        have ty_33 : y_33.toInt = y_32.toInt + y_13.toInt := xI_add rfl rfl ey_33 (by omega) (by omega)
        refine S_lald hx hb hK hW kd_106 (vin (by omega) (by omega)) dX12_oddsBy_70 (fun y_34 ey_34 => ?_)
        refine lv_goto (tgt := 75) hx hb dX12_oddsBy_71 (by decide) ?_
        refine lv_lmul hx hb dX12_oddsBy_75 ?_
        refine lv_topl (fun y_35 ey_35 => ?_)
        refine lv_ladd hx hb dX12_oddsBy_76 ?_
        refine lv_topl (fun y_36 ey_36 => ?_)
        refine lv_lstore (lv' := [(6, .long y_36), (9, .int y_13), (8, .int x_5), (0, .ref (a 66)), (1, .int p0), (2, .int p1), (3, .int p2), (4, .long p3)]) hx hb dX12_oddsBy_77 hl (by decide) rfl (fun ls hl => ?_)
        obtain ⟨y_37, ey_37⟩ : ∃ q, q = x_5 + 1 := ⟨_, rfl⟩
        have ty_37 : y_37.toInt = x_5.toInt + 1 := xI_add rfl rfl ey_37 (by omega) (by omega)
        refine lv_iinc (v := y_37) (lv' := [(8, .int y_37), (6, .long y_36), (9, .int y_13), (0, .ref (a 66)), (1, .int p0), (2, .int p1), (3, .int p2), (4, .long p3)]) hx hb dX12_oddsBy_79 hl (k := 2) rfl (by rw [ey_37]; rfl) (by decide) rfl (fun ls hl => ?_)
        refine lv_goto (tgt := 6) hx hb dX12_oddsBy_82 (by decide) ?_
        exact ih_3 (3 - y_37.toInt : Int).toNat (by omega) _ _ _ ⟨G_21, y_37, y_36, (Int.toNat_of_nonneg (by omega)), ⟨by omega, by omega⟩, hW, hB_G_21, hF, ((Fr.rf.call hq_2 (by decide) (by decide)).call hq_22 (by decide) (by decide)), hS, lv_sub hl [0, 1, 3, 4, 5, 6, 7] rfl⟩
    · have c_25 : r_20.toInt = 0 := xI_eq rfl rfl c_25
      refine lv_lload hx hb dX12_oddsBy_41 (lv_at hl 7 rfl) ?_
      refine lv_goto (tgt := 75) hx hb dX12_oddsBy_43 (by decide) ?_
      refine lv_lmul hx hb dX12_oddsBy_75 ?_
      refine lv_topl (fun y_38 ey_38 => ?_)
      refine lv_ladd hx hb dX12_oddsBy_76 ?_
      refine lv_topl (fun y_39 ey_39 => ?_)
      refine lv_lstore (lv' := [(6, .long y_39), (9, .int y_13), (8, .int x_5), (0, .ref (a 66)), (1, .int p0), (2, .int p1), (3, .int p2), (4, .long p3)]) hx hb dX12_oddsBy_77 hl (by decide) rfl (fun ls hl => ?_)
      obtain ⟨y_40, ey_40⟩ : ∃ q, q = x_5 + 1 := ⟨_, rfl⟩
      have ty_40 : y_40.toInt = x_5.toInt + 1 := xI_add rfl rfl ey_40 (by omega) (by omega)
      refine lv_iinc (v := y_40) (lv' := [(8, .int y_40), (6, .long y_39), (9, .int y_13), (0, .ref (a 66)), (1, .int p0), (2, .int p1), (3, .int p2), (4, .long p3)]) hx hb dX12_oddsBy_79 hl (k := 2) rfl (by rw [ey_40]; rfl) (by decide) rfl (fun ls hl => ?_)
      refine lv_goto (tgt := 6) hx hb dX12_oddsBy_82 (by decide) ?_
      exact ih_3 (3 - y_40.toInt : Int).toNat (by omega) _ _ _ ⟨G_21, y_40, y_39, (Int.toNat_of_nonneg (by omega)), ⟨by omega, by omega⟩, hW, hB_G_21, hF, ((Fr.rf.call hq_2 (by decide) (by decide)).call hq_22 (by decide) (by decide)), hS, lv_sub hl [0, 1, 3, 4, 5, 6, 7] rfl⟩

set_option maxHeartbeats 4000000 in
set_option maxRecDepth 100000 in
theorem n_bestOdds (l : Launch) (D : va_G) (k : KT) (A : Nat → Prop) (a : Nat → Nat) (z : SK) (G : GS) (p0 : Int32) (p1 : Int32) (ha_p0 : 0 ≤ p0.toInt ∧ p0.toInt ≤ 399) (ha_p1 : 1 ≤ p1.toInt ∧ p1.toInt ≤ 8) : Met l yX12_bestOdds (WS yX12_bestOdds cX12_bestOdds 8 (some .long)) ({ frames := 2, cells := 0, slots := 0, locals := 50 }) (va_Pc [.ref (a 66), .int p0, .int p1] (cW D k A a z G)) (va_Ql (fun (r : Int64) (G1 : GS) => Bd G1 ∧ Fr [] [] G G1) (fun (G1 : GS) t => Wd D k A a G1 t.heap) A) 0 0 A := by
  refine Met.ofW (cc := cX12_bestOdds) (maxL := 8) (ret := (some .long)) (by decide) rfl ?_
  intro p e s m args below meth c s₁ B hml hv
  obtain ⟨rfl, hW, hB_G, hK, hZ⟩ := hv
  have hx := B.exec
  have hb := B.bytes
  have hr := B.returns
  have hts := atoms_spec (ws := WS yX12_bestOdds cX12_bestOdds 8 (some .long)) B.pre
  have hgd : ∀ w ∈ gd, w ∈ WS yX12_bestOdds cX12_bestOdds 8 (some .long) := fun w h => List.mem_cons_of_mem _ h
  have hg : ∀ w ∈ gd, w.before _ s = true := fun w h => hts w (hgd w h)
  have hown : s.vm.findClass RX12 = some m.cls := findClass_of_methodNamed B.named
  have hS : va_S A s.heap s.heap [] := va_S.rf
  have hF : Fr [] [] G G := Fr.rf
  have hl := lv_entry ([.ref (a 66), .int p0, .int p1]) (n := 8) (Nat.le_of_ble_eq_true rfl)
  rw [lg_entry_eq]
  generalize (lg_sl ([.ref (a 66), .int p0, .int p1]) ++ List.replicate (8 - (lg_sl ([.ref (a 66), .int p0, .int p1])).length) Slot.unset).toArray = ls at hl ⊢
  have hl : lv_has ls 8 [(0, .ref (a 66)), (1, .int p0), (2, .int p1)] := hl
  refine lv_lconst (v := 0) hx hb dX12_bestOdds_0 (by decide) ?_
  refine lv_lstore_n (lv' := [(3, .long 0), (0, .ref (a 66)), (1, .int p0), (2, .int p1)]) hx hb dX12_bestOdds_1 rfl hl (by decide) rfl (fun ls hl => ?_)
  refine lv_aload_n hx hb dX12_bestOdds_2 rfl (lv_at hl 1 rfl) ?_
  have b_1 : 0 ≤ (G.1 66 61).toInt ∧ (G.1 66 61).toInt ≤ 60 := hB_G.i 66 61 rfl rfl
  refine S_getI (v := (G.1 66 61)) (C := RX12) (T := TX12) (N := 89) hx hb hg iX12 hown hK hW kd_66 rfl 61 (by decide) (hg (Cond.fieldLink RX12 475 "SlabWalkModel" "least" "I") m1375) (fun _ h9 => h9) rfl rfl dX12_bestOdds_3 ?_
  refine lv_istore (lv' := [(5, .int (G.1 66 61)), (3, .long 0), (0, .ref (a 66)), (1, .int p0), (2, .int p1)]) hx hb dX12_bestOdds_6 hl (by decide) rfl (fun ls hl => ?_)
  refine loop_N (Inv := fun n H locs ls => ∃ (G_2 : GS) (x_6 : Int32) (x_7 : Int64), (n : Int) = 61 - x_6.toInt ∧ (0 ≤ x_6.toInt ∧ x_6.toInt ≤ 61) ∧ Wd D k A a G_2 H ∧ Bd G_2 ∧ Fr [] [] G G_2 ∧ Fr [] [] G G_2 ∧ va_S A s.heap H locs ∧ lv_has ls 8 [(5, .int x_6), (3, .long x_7), (0, .ref (a 66)), (1, .int p0), (2, .int p1)]) (fun n_5 H locs ls ih_4 hI => ?_) (61 - (G.1 66 61).toInt : Int).toNat ⟨G, (G.1 66 61), 0, (Int.toNat_of_nonneg (by omega)), ⟨by omega, by omega⟩, hW, hB_G, hF, Fr.rf, hS, lv_sub hl [0, 1, 2, 3, 4] rfl⟩
  obtain ⟨G_2, x_6, x_7, hn_9, f_8, hW, hB_G_2, hF, hq_3, hS, hl⟩ := hI
  refine lv_iload hx hb dX12_bestOdds_8 (lv_at hl 0 rfl) ?_
  refine lv_aload_n hx hb dX12_bestOdds_10 rfl (lv_at hl 2 rfl) ?_
  have b_10 : 0 ≤ (G.1 66 62).toInt ∧ (G.1 66 62).toInt ≤ 60 := hB_G.i 66 62 rfl rfl
  refine S_getI (v := (G.1 66 62)) (C := RX12) (T := TX12) (N := 89) hx hb hg iX12 hown hK hW kd_66 rfl 62 (by decide) (hg (Cond.fieldLink RX12 478 "SlabWalkModel" "most" "I") m1376) (fun _ h9 => h9) rfl (hq_3.i 66 62 (by decide) (by decide)) dX12_bestOdds_11 ?_
  refine lv_icmp_gt (tgt := 54) hx hb dX12_bestOdds_14 (by decide) (fun c_11 => ?_) (fun c_11 => ?_)
  · have c_11 : (G.1 66 62).toInt < x_6.toInt := xI_lt rfl rfl c_11
    refine lv_lload_n hx hb dX12_bestOdds_54 rfl (lv_at hl 1 rfl) ?_
    exact W.lret (v := x_7) hx hb hr (fun t ht _ => ⟨⟨x_7, G_2, rfl, ⟨hB_G_2, hF⟩, wd_t ht hW⟩, hS.F ht⟩) hS.2.2 dX12_bestOdds_55
  · have c_11 : x_6.toInt ≤ (G.1 66 62).toInt := xI_nlt rfl rfl c_11
    refine lv_aload_n hx hb dX12_bestOdds_17 rfl (lv_at hl 2 rfl) ?_
    refine lv_iload_n hx hb dX12_bestOdds_18 rfl (lv_at hl 3 rfl) ?_
    refine lv_iload hx hb dX12_bestOdds_19 (lv_at hl 0 rfl) ?_
    refine lv_iload_n hx hb dX12_bestOdds_21 rfl (lv_at hl 4 rfl) ?_
    refine lv_aload_n hx hb dX12_bestOdds_22 rfl (lv_at hl 2 rfl) ?_
    refine lv_iload_n hx hb dX12_bestOdds_23 rfl (lv_at hl 4 rfl) ?_
    refine lv_iconst (v := 1) hx hb dX12_bestOdds_24 (by decide) ?_
    refine lv_isub hx hb dX12_bestOdds_25 ?_
    refine lv_topi (fun y_12 ey_12 => ?_)
    have ty_12 : y_12.toInt = p1.toInt - 1 := xI_sub rfl rfl ey_12 (by omega) (by omega)
    refine S_calll (va_runV (As := [.int y_12]) (rest := [.int p1, .int x_6, .int p0, .ref (a 66)]) ⟨hx, hb, hml, hown, hts⟩ (n_rest l D k A a z G_2 y_12 ⟨by omega, by omega⟩) (cwV 1 hts (gd_V hgd m1951 m1953 m105 m131 m1954) rfl rfl rfl (by decide +kernel) ⟨Nat.le_of_ble_eq_true rfl, Nat.le_of_ble_eq_true rfl⟩) (pre_V hW hB_G_2 hK hZ hS kd_66 rfl) rfl rfl hl.1 rfl (lv_room (Nat.le_of_ble_eq_true rfl)) dX12_bestOdds_26 ⟨Nat.le_of_ble_eq_true rfl, Nat.le_of_ble_eq_true rfl⟩) hS (fun r_13 G_14 H locs hpo hW hS => ?_)
    obtain ⟨hB_G_14, hq_15⟩ := hpo
    have hF := hF.call hq_15 (by decide) (by decide)
    refine S_calll (va_runV (As := [.int p0, .int x_6, .int p1, .long r_13]) (rest := []) ⟨hx, hb, hml, hown, hts⟩ (n_oddsBy l D k A a z G_14 p0 x_6 p1 r_13 ⟨by omega, by omega⟩ ⟨by omega, by omega⟩ ⟨by omega, by omega⟩) (cwV 4 hts (gd_V hgd m1959 m1961 m107 m131 m1962) rfl rfl rfl (by decide +kernel) ⟨Nat.le_of_ble_eq_true rfl, Nat.le_of_ble_eq_true rfl⟩) (pre_V hW hB_G_14 hK hZ hS kd_66 rfl) rfl rfl hl.1 rfl (lv_room (Nat.le_of_ble_eq_true rfl)) dX12_bestOdds_29 ⟨Nat.le_of_ble_eq_true rfl, Nat.le_of_ble_eq_true rfl⟩) hS (fun r_17 G_18 H locs hpo hW hS => ?_)
    obtain ⟨hB_G_18, hq_19⟩ := hpo
    have hF := hF.call hq_19 (by decide) (by decide)
    refine lv_lstore (lv' := [(6, .long r_17), (5, .int x_6), (3, .long x_7), (0, .ref (a 66)), (1, .int p0), (2, .int p1)]) hx hb dX12_bestOdds_32 hl (by decide) rfl (fun ls hl => ?_)
    refine lv_lload hx hb dX12_bestOdds_34 (lv_at hl 0 rfl) ?_
    refine lv_lload_n hx hb dX12_bestOdds_36 rfl (lv_at hl 2 rfl) ?_
    refine W.lcmp hx hb dX12_bestOdds_37 ?_
    refine lv_topi (fun y_21 ey_21 => ?_)
    have ty_21 := lcmp_rng ey_21
    refine lv_if_le (tgt := 46) hx hb dX12_bestOdds_38 (by decide) (fun c_22 => ?_) (fun c_22 => ?_)
    · have c_22 : y_21.toInt ≤ 0 := xI_le rfl rfl c_22
      refine lv_lload_n hx hb dX12_bestOdds_46 rfl (lv_at hl 2 rfl) ?_
      refine lv_lstore_n (lv' := [(3, .long x_7), (6, .long r_17), (5, .int x_6), (0, .ref (a 66)), (1, .int p0), (2, .int p1)]) hx hb dX12_bestOdds_47 rfl hl (by decide) rfl (fun ls hl => ?_)
      obtain ⟨y_23, ey_23⟩ : ∃ q, q = x_6 + 1 := ⟨_, rfl⟩
      have ty_23 : y_23.toInt = x_6.toInt + 1 := xI_add rfl rfl ey_23 (by omega) (by omega)
      refine lv_iinc (v := y_23) (lv' := [(5, .int y_23), (3, .long x_7), (6, .long r_17), (0, .ref (a 66)), (1, .int p0), (2, .int p1)]) hx hb dX12_bestOdds_48 hl (k := 2) rfl (by rw [ey_23]; rfl) (by decide) rfl (fun ls hl => ?_)
      refine lv_goto (tgt := 8) hx hb dX12_bestOdds_51 (by decide) ?_
      exact ih_4 (61 - y_23.toInt : Int).toNat (by omega) _ _ _ ⟨G_18, y_23, x_7, (Int.toNat_of_nonneg (by omega)), ⟨by omega, by omega⟩, hW, hB_G_18, hF, (((Fr.rf.call hq_3 (by decide) (by decide)).call hq_15 (by decide) (by decide)).call hq_19 (by decide) (by decide)), hS, lv_sub hl [0, 1, 3, 4, 5] rfl⟩
    · have c_22 : 0 < y_21.toInt := xI_nle rfl rfl c_22
      refine lv_lload hx hb dX12_bestOdds_41 (lv_at hl 0 rfl) ?_
      refine lv_goto (tgt := 47) hx hb dX12_bestOdds_43 (by decide) ?_
      refine lv_lstore_n (lv' := [(3, .long r_17), (6, .long r_17), (5, .int x_6), (0, .ref (a 66)), (1, .int p0), (2, .int p1)]) hx hb dX12_bestOdds_47 rfl hl (by decide) rfl (fun ls hl => ?_)
      obtain ⟨y_24, ey_24⟩ : ∃ q, q = x_6 + 1 := ⟨_, rfl⟩
      have ty_24 : y_24.toInt = x_6.toInt + 1 := xI_add rfl rfl ey_24 (by omega) (by omega)
      refine lv_iinc (v := y_24) (lv' := [(5, .int y_24), (3, .long r_17), (6, .long r_17), (0, .ref (a 66)), (1, .int p0), (2, .int p1)]) hx hb dX12_bestOdds_48 hl (k := 2) rfl (by rw [ey_24]; rfl) (by decide) rfl (fun ls hl => ?_)
      refine lv_goto (tgt := 8) hx hb dX12_bestOdds_51 (by decide) ?_
      exact ih_4 (61 - y_24.toInt : Int).toNat (by omega) _ _ _ ⟨G_18, y_24, r_17, (Int.toNat_of_nonneg (by omega)), ⟨by omega, by omega⟩, hW, hB_G_18, hF, (((Fr.rf.call hq_3 (by decide) (by decide)).call hq_15 (by decide) (by decide)).call hq_19 (by decide) (by decide)), hS, lv_sub hl [0, 1, 3, 4, 5] rfl⟩
