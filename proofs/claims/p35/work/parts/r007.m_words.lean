theorem m56 : Cond.selects RX12 yX12_isName yX12_isName ∈ gd := gd_mem 56 (by decide +kernel) (by decide +kernel)
theorem m61 : Cond.selects RX12 yX12_want yX12_want ∈ gd := gd_mem 61 (by decide +kernel) (by decide +kernel)
theorem m62 : Cond.selects RX12 yX12_toldNumber yX12_toldNumber ∈ gd := gd_mem 62 (by decide +kernel) (by decide +kernel)
theorem m1324 : Cond.fieldLink RX12 17 "SlabWalkModel" "nName" "[J" ∈ gd := gd_mem 1324 (by decide +kernel) (by decide +kernel)
theorem m1636 : Cond.methodLink RX12 293 yX12_isName ∈ gd := gd_mem 1636 (by decide +kernel) (by decide +kernel)
theorem m1638 : Cond.instanceMethod yX12_isName ∈ gd := gd_mem 1638 (by decide +kernel) (by decide +kernel)
theorem m1639 : Cond.code yX12_isName cX12_isName 1 (some .boolean) ∈ gd := gd_mem 1639 (by decide +kernel) (by decide +kernel)
theorem m1678 : Cond.methodLink RX12 285 yX12_want ∈ gd := gd_mem 1678 (by decide +kernel) (by decide +kernel)
theorem m1680 : Cond.instanceMethod yX12_want ∈ gd := gd_mem 1680 (by decide +kernel) (by decide +kernel)
theorem m1681 : Cond.code yX12_want cX12_want 3 none ∈ gd := gd_mem 1681 (by decide +kernel) (by decide +kernel)
theorem m1682 : Cond.methodLink RX12 289 yX12_toldNumber ∈ gd := gd_mem 1682 (by decide +kernel) (by decide +kernel)
theorem m1684 : Cond.instanceMethod yX12_toldNumber ∈ gd := gd_mem 1684 (by decide +kernel) (by decide +kernel)
theorem m1685 : Cond.code yX12_toldNumber cX12_toldNumber 4 (some .int) ∈ gd := gd_mem 1685 (by decide +kernel) (by decide +kernel)
theorem dX12_newName_0 : decode cX12_newName 0 = .ok (.aload_n 0, 1) := by decide +kernel
theorem dX12_newName_1 : decode cX12_newName 1 = .ok (.invokevirtual 279, 3) := by decide +kernel
theorem dX12_newName_4 : decode cX12_newName 4 = .ok (.aload_n 0, 1) := by decide +kernel
theorem dX12_newName_5 : decode cX12_newName 5 = .ok (.invokevirtual 293, 3) := by decide +kernel
theorem dX12_newName_8 : decode cX12_newName 8 = .ok (.ifCond .ne 8, 3) := by decide +kernel
theorem dX12_newName_11 : decode cX12_newName 11 = .ok (.aload_n 0, 1) := by decide +kernel
theorem dX12_newName_12 : decode cX12_newName 12 = .ok (.iconst 2, 1) := by decide +kernel
theorem dX12_newName_13 : decode cX12_newName 13 = .ok (.invokevirtual 282, 3) := by decide +kernel
theorem dX12_newName_16 : decode cX12_newName 16 = .ok (.iconst 0, 1) := by decide +kernel
theorem dX12_newName_17 : decode cX12_newName 17 = .ok (.istore_n 3, 1) := by decide +kernel
theorem dX12_newName_18 : decode cX12_newName 18 = .ok (.iload_n 3, 1) := by decide +kernel
theorem dX12_newName_19 : decode cX12_newName 19 = .ok (.iload_n 2, 1) := by decide +kernel
theorem dX12_newName_20 : decode cX12_newName 20 = .ok (.if_icmp .ge 37, 3) := by decide +kernel
theorem dX12_newName_23 : decode cX12_newName 23 = .ok (.aload_n 0, 1) := by decide +kernel
theorem dX12_newName_24 : decode cX12_newName 24 = .ok (.getfield 218, 3) := by decide +kernel
theorem dX12_newName_27 : decode cX12_newName 27 = .ok (.ifCond .ne 24, 3) := by decide +kernel
theorem dX12_newName_30 : decode cX12_newName 30 = .ok (.aload_n 0, 1) := by decide +kernel
theorem dX12_newName_31 : decode cX12_newName 31 = .ok (.getfield 17, 3) := by decide +kernel
theorem dX12_newName_34 : decode cX12_newName 34 = .ok (.iload_n 1, 1) := by decide +kernel
theorem dX12_newName_35 : decode cX12_newName 35 = .ok (.iload_n 3, 1) := by decide +kernel
theorem dX12_newName_36 : decode cX12_newName 36 = .ok (.iadd, 1) := by decide +kernel
theorem dX12_newName_37 : decode cX12_newName 37 = .ok (.laload, 1) := by decide +kernel
theorem dX12_newName_38 : decode cX12_newName 38 = .ok (.aload_n 0, 1) := by decide +kernel
theorem dX12_newName_39 : decode cX12_newName 39 = .ok (.getfield 198, 3) := by decide +kernel
theorem dX12_newName_42 : decode cX12_newName 42 = .ok (.lcmp, 1) := by decide +kernel
theorem dX12_newName_43 : decode cX12_newName 43 = .ok (.ifCond .ne 8, 3) := by decide +kernel
theorem dX12_newName_46 : decode cX12_newName 46 = .ok (.aload_n 0, 1) := by decide +kernel
theorem dX12_newName_47 : decode cX12_newName 47 = .ok (.iconst 3, 1) := by decide +kernel
theorem dX12_newName_48 : decode cX12_newName 48 = .ok (.invokevirtual 282, 3) := by decide +kernel
theorem dX12_newName_51 : decode cX12_newName 51 = .ok (.iinc 3 1, 3) := by decide +kernel
theorem dX12_newName_54 : decode cX12_newName 54 = .ok (.goto (-36), 3) := by decide +kernel
theorem dX12_newName_57 : decode cX12_newName 57 = .ok (.aload_n 0, 1) := by decide +kernel
theorem dX12_newName_58 : decode cX12_newName 58 = .ok (.getfield 218, 3) := by decide +kernel
theorem dX12_newName_61 : decode cX12_newName 61 = .ok (.ifCond .le 4, 3) := by decide +kernel
theorem dX12_newName_64 : decode cX12_newName 64 = .ok (.return_, 1) := by decide +kernel
theorem dX12_newName_65 : decode cX12_newName 65 = .ok (.aload_n 0, 1) := by decide +kernel
theorem dX12_newName_66 : decode cX12_newName 66 = .ok (.getfield 17, 3) := by decide +kernel
theorem dX12_newName_69 : decode cX12_newName 69 = .ok (.iload_n 1, 1) := by decide +kernel
theorem dX12_newName_70 : decode cX12_newName 70 = .ok (.iload_n 2, 1) := by decide +kernel
theorem dX12_newName_71 : decode cX12_newName 71 = .ok (.iadd, 1) := by decide +kernel
theorem dX12_newName_72 : decode cX12_newName 72 = .ok (.aload_n 0, 1) := by decide +kernel
theorem dX12_newName_73 : decode cX12_newName 73 = .ok (.getfield 198, 3) := by decide +kernel
theorem dX12_newName_76 : decode cX12_newName 76 = .ok (.lastore, 1) := by decide +kernel
theorem dX12_newName_77 : decode cX12_newName 77 = .ok (.aload_n 0, 1) := by decide +kernel
theorem dX12_newName_78 : decode cX12_newName 78 = .ok (.invokevirtual 279, 3) := by decide +kernel
theorem dX12_newName_81 : decode cX12_newName 81 = .ok (.return_, 1) := by decide +kernel
theorem dX12_told_0 : decode cX12_told 0 = .ok (.aload_n 0, 1) := by decide +kernel
theorem dX12_told_1 : decode cX12_told 1 = .ok (.lload_n 1, 1) := by decide +kernel
theorem dX12_told_2 : decode cX12_told 2 = .ok (.invokevirtual 285, 3) := by decide +kernel
theorem dX12_told_5 : decode cX12_told 5 = .ok (.aload_n 0, 1) := by decide +kernel
theorem dX12_told_6 : decode cX12_told 6 = .ok (.iload_n 3, 1) := by decide +kernel
theorem dX12_told_7 : decode cX12_told 7 = .ok (.iload 4, 2) := by decide +kernel
theorem dX12_told_9 : decode cX12_told 9 = .ok (.invokevirtual 289, 3) := by decide +kernel
theorem dX12_told_12 : decode cX12_told 12 = .ok (.ireturn, 1) := by decide +kernel
theorem dX12_toldNumber_0 : decode cX12_toldNumber 0 = .ok (.aload_n 0, 1) := by decide +kernel
theorem dX12_toldNumber_1 : decode cX12_toldNumber 1 = .ok (.getfield 218, 3) := by decide +kernel
theorem dX12_toldNumber_4 : decode cX12_toldNumber 4 = .ok (.ifCond .le 5, 3) := by decide +kernel
theorem dX12_toldNumber_7 : decode cX12_toldNumber 7 = .ok (.iconst 0, 1) := by decide +kernel
theorem dX12_toldNumber_8 : decode cX12_toldNumber 8 = .ok (.ireturn, 1) := by decide +kernel
theorem dX12_toldNumber_9 : decode cX12_toldNumber 9 = .ok (.aload_n 0, 1) := by decide +kernel
theorem dX12_toldNumber_10 : decode cX12_toldNumber 10 = .ok (.getfield 205, 3) := by decide +kernel
theorem dX12_toldNumber_13 : decode cX12_toldNumber 13 = .ok (.iconst 2, 1) := by decide +kernel
theorem dX12_toldNumber_14 : decode cX12_toldNumber 14 = .ok (.if_icmp .eq 11, 3) := by decide +kernel
theorem dX12_toldNumber_17 : decode cX12_toldNumber 17 = .ok (.aload_n 0, 1) := by decide +kernel
theorem dX12_toldNumber_18 : decode cX12_toldNumber 18 = .ok (.iconst 2, 1) := by decide +kernel
theorem dX12_toldNumber_19 : decode cX12_toldNumber 19 = .ok (.invokevirtual 282, 3) := by decide +kernel
theorem dX12_toldNumber_22 : decode cX12_toldNumber 22 = .ok (.goto 24, 3) := by decide +kernel
theorem dX12_toldNumber_25 : decode cX12_toldNumber 25 = .ok (.aload_n 0, 1) := by decide +kernel
theorem dX12_toldNumber_26 : decode cX12_toldNumber 26 = .ok (.getfield 202, 3) := by decide +kernel
theorem dX12_toldNumber_29 : decode cX12_toldNumber 29 = .ok (.iload_n 1, 1) := by decide +kernel
theorem dX12_toldNumber_30 : decode cX12_toldNumber 30 = .ok (.if_icmp .lt 11, 3) := by decide +kernel
theorem dX12_toldNumber_33 : decode cX12_toldNumber 33 = .ok (.aload_n 0, 1) := by decide +kernel
theorem dX12_toldNumber_34 : decode cX12_toldNumber 34 = .ok (.getfield 202, 3) := by decide +kernel
theorem dX12_toldNumber_37 : decode cX12_toldNumber 37 = .ok (.iload_n 2, 1) := by decide +kernel
theorem dX12_toldNumber_38 : decode cX12_toldNumber 38 = .ok (.if_icmp .le 8, 3) := by decide +kernel
theorem dX12_toldNumber_41 : decode cX12_toldNumber 41 = .ok (.aload_n 0, 1) := by decide +kernel
theorem dX12_toldNumber_42 : decode cX12_toldNumber 42 = .ok (.iconst 4, 1) := by decide +kernel
theorem dX12_toldNumber_43 : decode cX12_toldNumber 43 = .ok (.invokevirtual 282, 3) := by decide +kernel
theorem dX12_toldNumber_46 : decode cX12_toldNumber 46 = .ok (.aload_n 0, 1) := by decide +kernel
theorem dX12_toldNumber_47 : decode cX12_toldNumber 47 = .ok (.getfield 202, 3) := by decide +kernel
theorem dX12_toldNumber_50 : decode cX12_toldNumber 50 = .ok (.istore_n 3, 1) := by decide +kernel
theorem dX12_toldNumber_51 : decode cX12_toldNumber 51 = .ok (.aload_n 0, 1) := by decide +kernel
theorem dX12_toldNumber_52 : decode cX12_toldNumber 52 = .ok (.getfield 218, 3) := by decide +kernel
theorem dX12_toldNumber_55 : decode cX12_toldNumber 55 = .ok (.ifCond .ne 7, 3) := by decide +kernel
theorem dX12_toldNumber_58 : decode cX12_toldNumber 58 = .ok (.aload_n 0, 1) := by decide +kernel
theorem dX12_toldNumber_59 : decode cX12_toldNumber 59 = .ok (.invokevirtual 279, 3) := by decide +kernel
theorem dX12_toldNumber_62 : decode cX12_toldNumber 62 = .ok (.iload_n 3, 1) := by decide +kernel
theorem dX12_toldNumber_63 : decode cX12_toldNumber 63 = .ok (.ireturn, 1) := by decide +kernel
set_option maxHeartbeats 4000000 in
set_option maxRecDepth 100000 in
theorem n_told (l : Launch) (D : va_G) (k : KT) (A : Nat → Prop) (a : Nat → Nat) (z : SK) (G : GS) (p0 : Int32) (p1 : Int32)  : Met l yX12_toldNumber (WS yX12_toldNumber cX12_toldNumber 4 (some .int)) ({ frames := 2, cells := 0, slots := 0, locals := 43 }) (va_Pc [.ref (a 66), .int p0, .int p1] (cW D k A a z G)) (va_Qi (fun (r : Int32) (G1 : GS) => Bd G1 ∧ Fr [] [(66, 2), (66, 3), (66, 4), (66, 6), (66, 7), (66, 8), (66, 9)] G G1 ∧ ((G.1 66 4).toInt ≤ (G1.1 66 4).toInt ∧ ((G1.1 66 4).toInt = (G.1 66 4).toInt → (G1.1 66 6).toInt = (G.1 66 6).toInt ∨ (G1.1 66 6).toInt ≤ 3) ∧ (1 ≤ (G.1 66 2).toInt → 1 ≤ (G1.1 66 2).toInt) ∧ ((G1.1 66 2).toInt = 0 → p0.toInt ≤ r.toInt ∧ r.toInt ≤ p1.toInt))) (fun (G1 : GS) t => Wd D k A a G1 t.heap) A) 0 0 A := by
  refine Met.ofW (cc := cX12_toldNumber) (maxL := 4) (ret := (some .int)) (by decide) rfl ?_
  intro p e s m args below meth c s₁ B hml hv
  obtain ⟨rfl, hW, hB_G, hK, hZ⟩ := hv
  have hx := B.exec
  have hb := B.bytes
  have hr := B.returns
  have hts := atoms_spec (ws := WS yX12_toldNumber cX12_toldNumber 4 (some .int)) B.pre
  have hgd : ∀ w ∈ gd, w ∈ WS yX12_toldNumber cX12_toldNumber 4 (some .int) := fun w h => List.mem_cons_of_mem _ h
  have hg : ∀ w ∈ gd, w.before _ s = true := fun w h => hts w (hgd w h)
  have hown : s.vm.findClass RX12 = some m.cls := findClass_of_methodNamed B.named
  have hS : va_S A s.heap s.heap [] := va_S.rf
  have hF : Fr [] [(66, 2), (66, 3), (66, 4), (66, 6), (66, 7), (66, 8), (66, 9)] G G := Fr.rf
  have hl := lv_entry ([.ref (a 66), .int p0, .int p1]) (n := 4) (Nat.le_of_ble_eq_true rfl)
  rw [lg_entry_eq]
  generalize (lg_sl ([.ref (a 66), .int p0, .int p1]) ++ List.replicate (4 - (lg_sl ([.ref (a 66), .int p0, .int p1])).length) Slot.unset).toArray = ls at hl ⊢
  have hl : lv_has ls 4 [(0, .ref (a 66)), (1, .int p0), (2, .int p1)] := hl
  refine lv_aload_n hx hb dX12_toldNumber_0 rfl (lv_at hl 0 rfl) ?_
  have b_1 : 0 ≤ (G.1 66 2).toInt ∧ (G.1 66 2).toInt ≤ 4 := hB_G.i 66 2 rfl rfl
  refine S_getI (v := (G.1 66 2)) (C := RX12) (T := TX12) (N := 89) hx hb hg iX12 hown hK hW kd_66 rfl 2 (by decide) (hg (Cond.fieldLink RX12 218 "SlabWalkModel" "fault" "I") m1316) (fun _ h9 => h9) rfl rfl dX12_toldNumber_1 ?_
  refine lv_if_le (tgt := 9) hx hb dX12_toldNumber_4 (by decide) (fun c_2 => ?_) (fun c_2 => ?_)
  · have c_2 : (G.1 66 2).toInt ≤ 0 := xI_le rfl rfl c_2
    refine lv_aload_n hx hb dX12_toldNumber_9 rfl (lv_at hl 0 rfl) ?_
    refine S_getI (v := (G.1 66 6)) (C := RX12) (T := TX12) (N := 89) hx hb hg iX12 hown hK hW kd_66 rfl 6 (by decide) (hg (Cond.fieldLink RX12 205 "SlabWalkModel" "sort" "I") m1320) (fun _ h9 => h9) rfl rfl dX12_toldNumber_10 ?_
    refine lv_iconst (v := 2) hx hb dX12_toldNumber_13 (by decide) ?_
    refine lv_icmp_eq (tgt := 25) hx hb dX12_toldNumber_14 (by decide) (fun c_3 => ?_) (fun c_3 => ?_)
    · have c_3 : (G.1 66 6).toInt = 2 := xI_eq rfl rfl c_3
      refine lv_aload_n hx hb dX12_toldNumber_25 rfl (lv_at hl 0 rfl) ?_
      refine S_getI (v := (G.1 66 8)) (C := RX12) (T := TX12) (N := 89) hx hb hg iX12 hown hK hW kd_66 rfl 8 (by decide) (hg (Cond.fieldLink RX12 202 "SlabWalkModel" "number" "I") m1322) (fun _ h9 => h9) rfl rfl dX12_toldNumber_26 ?_
      refine lv_iload_n hx hb dX12_toldNumber_29 rfl (lv_at hl 1 rfl) ?_
      refine lv_icmp_lt (tgt := 41) hx hb dX12_toldNumber_30 (by decide) (fun c_4 => ?_) (fun c_4 => ?_)
      · have c_4 : (G.1 66 8).toInt < p0.toInt := xI_lt rfl rfl c_4
        refine lv_aload_n hx hb dX12_toldNumber_41 rfl (lv_at hl 0 rfl) ?_
        refine lv_iconst (v := 4) hx hb dX12_toldNumber_42 (by decide) ?_
        have qc_5 : (4 : Int32).toInt = 4 := rfl
        refine S_callv (va_runV (As := [.int 4]) (rest := []) ⟨hx, hb, hml, hown, hts⟩ (n_wrong l D k A a z G 4 ⟨by decide, by decide⟩) (cwV 1 hts (gd_V hgd m1670 m1672 m59 m131 m1673) rfl rfl rfl (by decide +kernel) ⟨Nat.le_of_ble_eq_true rfl, Nat.le_of_ble_eq_true rfl⟩) (pre_V hW hB_G hK hZ hS kd_66 rfl) rfl rfl hl.1 rfl (lv_room (Nat.le_of_ble_eq_true rfl)) dX12_toldNumber_43 ⟨Nat.le_of_ble_eq_true rfl, Nat.le_of_ble_eq_true rfl⟩) hS (fun G_7 H locs hpo hW hS => ?_)
        obtain ⟨hB_G_7, hq_8, hp_9⟩ := hpo
        have hF := hF.call hq_8 (by decide) (by decide)
        refine lv_aload_n hx hb dX12_toldNumber_46 rfl (lv_at hl 0 rfl) ?_
        refine S_getI (v := (G.1 66 8)) (C := RX12) (T := TX12) (N := 89) hx hb hg iX12 hown hK hW kd_66 rfl 8 (by decide) (hg (Cond.fieldLink RX12 202 "SlabWalkModel" "number" "I") m1322) (fun _ h9 => h9) rfl ((hq_8.i 66 8 (by decide) (by decide)).trans (rfl)) dX12_toldNumber_47 ?_
        refine lv_istore_n (lv' := [(3, .int (G.1 66 8)), (0, .ref (a 66)), (1, .int p0), (2, .int p1)]) hx hb dX12_toldNumber_50 rfl hl (by decide) rfl (fun ls hl => ?_)
        refine lv_aload_n hx hb dX12_toldNumber_51 rfl (lv_at hl 1 rfl) ?_
        have b_10 : 0 ≤ (G_7.1 66 2).toInt ∧ (G_7.1 66 2).toInt ≤ 4 := hB_G_7.i 66 2 rfl rfl
        refine S_getI (v := (G_7.1 66 2)) (C := RX12) (T := TX12) (N := 89) hx hb hg iX12 hown hK hW kd_66 rfl 2 (by decide) (hg (Cond.fieldLink RX12 218 "SlabWalkModel" "fault" "I") m1316) (fun _ h9 => h9) rfl rfl dX12_toldNumber_52 ?_
        refine lv_if_ne (tgt := 62) hx hb dX12_toldNumber_55 (by decide) (fun c_11 => ?_) (fun c_11 => ?_)
        · have c_11 : (G_7.1 66 2).toInt ≠ 0 := xI_ne rfl rfl c_11
          refine lv_iload_n hx hb dX12_toldNumber_62 rfl (lv_at hl 0 rfl) ?_
          have b_12 : 0 ≤ (G.1 66 4).toInt ∧ (G.1 66 4).toInt ≤ 1600 := hB_G.i 66 4 rfl rfl
          have g_13 : (G_7.1 66 4).toInt = (G.1 66 4).toInt := by rw [show G_7.1 66 4 = (G.1 66 4) from (hq_8.i 66 4 (by decide) (by decide))]
          have g_14 : (G_7.1 66 6).toInt = (G.1 66 6).toInt := by rw [show G_7.1 66 6 = (G.1 66 6) from ((hq_8.i 66 6 (by decide) (by decide)).trans (rfl))]
          exact W.iret (v := (G.1 66 8)) hx hb hr (fun t ht _ => ⟨⟨(G.1 66 8), G_7, rfl, ⟨hB_G_7, hF, (by omega)⟩, wd_t ht hW⟩, hS.F ht⟩) hS.2.2 dX12_toldNumber_63
        · have c_11 : (G_7.1 66 2).toInt = 0 := xI_eq rfl rfl c_11
          refine lv_aload_n hx hb dX12_toldNumber_58 rfl (lv_at hl 1 rfl) ?_
          have b_15 : 0 ≤ (G.1 66 4).toInt ∧ (G.1 66 4).toInt ≤ 1600 := hB_G.i 66 4 rfl rfl
          have g_16 : (G_7.1 66 4).toInt = (G.1 66 4).toInt := by rw [show G_7.1 66 4 = (G.1 66 4) from (hq_8.i 66 4 (by decide) (by decide))]
          have g_17 : (G_7.1 66 6).toInt = (G.1 66 6).toInt := by rw [show G_7.1 66 6 = (G.1 66 6) from ((hq_8.i 66 6 (by decide) (by decide)).trans (rfl))]
          refine S_callv (va_runV (As := []) (rest := []) ⟨hx, hb, hml, hown, hts⟩ (n_token l D k A a z G_7  ) (cwV 0 hts (gd_V hgd m1602 m1604 m50 m131 m1605) rfl rfl rfl (by decide +kernel) ⟨Nat.le_of_ble_eq_true rfl, Nat.le_of_ble_eq_true rfl⟩) (pre_V hW hB_G_7 hK hZ hS kd_66 rfl) rfl rfl hl.1 rfl (lv_room (Nat.le_of_ble_eq_true rfl)) dX12_toldNumber_59 ⟨Nat.le_of_ble_eq_true rfl, Nat.le_of_ble_eq_true rfl⟩) hS (fun G_19 H locs hpo hW hS => ?_)
          obtain ⟨hB_G_19, hq_20, hp_21⟩ := hpo
          have hF := hF.call hq_20 (by decide) (by decide)
          refine lv_iload_n hx hb dX12_toldNumber_62 rfl (lv_at hl 0 rfl) ?_
          have g_22 : (G_19.1 66 2).toInt = (G_7.1 66 2).toInt := by rw [show G_19.1 66 2 = (G_7.1 66 2) from ((hq_20.i 66 2 (by decide) (by decide)).trans (rfl))]
          have b_23 : 0 ≤ (G_19.1 66 4).toInt ∧ (G_19.1 66 4).toInt ≤ 1600 := hB_G_19.i 66 4 rfl rfl
          exact W.iret (v := (G.1 66 8)) hx hb hr (fun t ht _ => ⟨⟨(G.1 66 8), G_19, rfl, ⟨hB_G_19, hF, (by omega)⟩, wd_t ht hW⟩, hS.F ht⟩) hS.2.2 dX12_toldNumber_63
      · have c_4 : p0.toInt ≤ (G.1 66 8).toInt := xI_nlt rfl rfl c_4
        refine lv_aload_n hx hb dX12_toldNumber_33 rfl (lv_at hl 0 rfl) ?_
        refine S_getI (v := (G.1 66 8)) (C := RX12) (T := TX12) (N := 89) hx hb hg iX12 hown hK hW kd_66 rfl 8 (by decide) (hg (Cond.fieldLink RX12 202 "SlabWalkModel" "number" "I") m1322) (fun _ h9 => h9) rfl rfl dX12_toldNumber_34 ?_
        refine lv_iload_n hx hb dX12_toldNumber_37 rfl (lv_at hl 2 rfl) ?_
        refine lv_icmp_le (tgt := 46) hx hb dX12_toldNumber_38 (by decide) (fun c_24 => ?_) (fun c_24 => ?_)
        · have c_24 : (G.1 66 8).toInt ≤ p1.toInt := xI_le rfl rfl c_24
          refine lv_aload_n hx hb dX12_toldNumber_46 rfl (lv_at hl 0 rfl) ?_
          refine S_getI (v := (G.1 66 8)) (C := RX12) (T := TX12) (N := 89) hx hb hg iX12 hown hK hW kd_66 rfl 8 (by decide) (hg (Cond.fieldLink RX12 202 "SlabWalkModel" "number" "I") m1322) (fun _ h9 => h9) rfl rfl dX12_toldNumber_47 ?_
          refine lv_istore_n (lv' := [(3, .int (G.1 66 8)), (0, .ref (a 66)), (1, .int p0), (2, .int p1)]) hx hb dX12_toldNumber_50 rfl hl (by decide) rfl (fun ls hl => ?_)
          refine lv_aload_n hx hb dX12_toldNumber_51 rfl (lv_at hl 1 rfl) ?_
          refine S_getI (v := (G.1 66 2)) (C := RX12) (T := TX12) (N := 89) hx hb hg iX12 hown hK hW kd_66 rfl 2 (by decide) (hg (Cond.fieldLink RX12 218 "SlabWalkModel" "fault" "I") m1316) (fun _ h9 => h9) rfl rfl dX12_toldNumber_52 ?_
          refine lv_if_ne (tgt := 62) hx hb dX12_toldNumber_55 (by decide) (fun c_25 => ?_) (fun c_25 => ?_)
          · have c_25 : (G.1 66 2).toInt ≠ 0 := xI_ne rfl rfl c_25
            exfalso; omega
          · have c_25 : (G.1 66 2).toInt = 0 := xI_eq rfl rfl c_25
            refine lv_aload_n hx hb dX12_toldNumber_58 rfl (lv_at hl 1 rfl) ?_
            refine S_callv (va_runV (As := []) (rest := []) ⟨hx, hb, hml, hown, hts⟩ (n_token l D k A a z G  ) (cwV 0 hts (gd_V hgd m1602 m1604 m50 m131 m1605) rfl rfl rfl (by decide +kernel) ⟨Nat.le_of_ble_eq_true rfl, Nat.le_of_ble_eq_true rfl⟩) (pre_V hW hB_G hK hZ hS kd_66 rfl) rfl rfl hl.1 rfl (lv_room (Nat.le_of_ble_eq_true rfl)) dX12_toldNumber_59 ⟨Nat.le_of_ble_eq_true rfl, Nat.le_of_ble_eq_true rfl⟩) hS (fun G_27 H locs hpo hW hS => ?_)
            obtain ⟨hB_G_27, hq_28, hp_29⟩ := hpo
            have hF := hF.call hq_28 (by decide) (by decide)
            refine lv_iload_n hx hb dX12_toldNumber_62 rfl (lv_at hl 0 rfl) ?_
            have g_30 : (G_27.1 66 2).toInt = (G.1 66 2).toInt := by rw [show G_27.1 66 2 = (G.1 66 2) from ((hq_28.i 66 2 (by decide) (by decide)).trans (rfl))]
            have b_31 : 0 ≤ (G_27.1 66 4).toInt ∧ (G_27.1 66 4).toInt ≤ 1600 := hB_G_27.i 66 4 rfl rfl
            exact W.iret (v := (G.1 66 8)) hx hb hr (fun t ht _ => ⟨⟨(G.1 66 8), G_27, rfl, ⟨hB_G_27, hF, (by omega)⟩, wd_t ht hW⟩, hS.F ht⟩) hS.2.2 dX12_toldNumber_63
        · have c_24 : p1.toInt < (G.1 66 8).toInt := xI_nle rfl rfl c_24
          refine lv_aload_n hx hb dX12_toldNumber_41 rfl (lv_at hl 0 rfl) ?_
          refine lv_iconst (v := 4) hx hb dX12_toldNumber_42 (by decide) ?_
          have qc_32 : (4 : Int32).toInt = 4 := rfl
          refine S_callv (va_runV (As := [.int 4]) (rest := []) ⟨hx, hb, hml, hown, hts⟩ (n_wrong l D k A a z G 4 ⟨by decide, by decide⟩) (cwV 1 hts (gd_V hgd m1670 m1672 m59 m131 m1673) rfl rfl rfl (by decide +kernel) ⟨Nat.le_of_ble_eq_true rfl, Nat.le_of_ble_eq_true rfl⟩) (pre_V hW hB_G hK hZ hS kd_66 rfl) rfl rfl hl.1 rfl (lv_room (Nat.le_of_ble_eq_true rfl)) dX12_toldNumber_43 ⟨Nat.le_of_ble_eq_true rfl, Nat.le_of_ble_eq_true rfl⟩) hS (fun G_34 H locs hpo hW hS => ?_)
          obtain ⟨hB_G_34, hq_35, hp_36⟩ := hpo
          have hF := hF.call hq_35 (by decide) (by decide)
          refine lv_aload_n hx hb dX12_toldNumber_46 rfl (lv_at hl 0 rfl) ?_
          refine S_getI (v := (G.1 66 8)) (C := RX12) (T := TX12) (N := 89) hx hb hg iX12 hown hK hW kd_66 rfl 8 (by decide) (hg (Cond.fieldLink RX12 202 "SlabWalkModel" "number" "I") m1322) (fun _ h9 => h9) rfl ((hq_35.i 66 8 (by decide) (by decide)).trans (rfl)) dX12_toldNumber_47 ?_
          refine lv_istore_n (lv' := [(3, .int (G.1 66 8)), (0, .ref (a 66)), (1, .int p0), (2, .int p1)]) hx hb dX12_toldNumber_50 rfl hl (by decide) rfl (fun ls hl => ?_)
          refine lv_aload_n hx hb dX12_toldNumber_51 rfl (lv_at hl 1 rfl) ?_
          have b_37 : 0 ≤ (G_34.1 66 2).toInt ∧ (G_34.1 66 2).toInt ≤ 4 := hB_G_34.i 66 2 rfl rfl
          refine S_getI (v := (G_34.1 66 2)) (C := RX12) (T := TX12) (N := 89) hx hb hg iX12 hown hK hW kd_66 rfl 2 (by decide) (hg (Cond.fieldLink RX12 218 "SlabWalkModel" "fault" "I") m1316) (fun _ h9 => h9) rfl rfl dX12_toldNumber_52 ?_
          refine lv_if_ne (tgt := 62) hx hb dX12_toldNumber_55 (by decide) (fun c_38 => ?_) (fun c_38 => ?_)
          · have c_38 : (G_34.1 66 2).toInt ≠ 0 := xI_ne rfl rfl c_38
            refine lv_iload_n hx hb dX12_toldNumber_62 rfl (lv_at hl 0 rfl) ?_
            have b_39 : 0 ≤ (G.1 66 4).toInt ∧ (G.1 66 4).toInt ≤ 1600 := hB_G.i 66 4 rfl rfl
            have g_40 : (G_34.1 66 4).toInt = (G.1 66 4).toInt := by rw [show G_34.1 66 4 = (G.1 66 4) from (hq_35.i 66 4 (by decide) (by decide))]
            have g_41 : (G_34.1 66 6).toInt = (G.1 66 6).toInt := by rw [show G_34.1 66 6 = (G.1 66 6) from ((hq_35.i 66 6 (by decide) (by decide)).trans (rfl))]
            exact W.iret (v := (G.1 66 8)) hx hb hr (fun t ht _ => ⟨⟨(G.1 66 8), G_34, rfl, ⟨hB_G_34, hF, (by omega)⟩, wd_t ht hW⟩, hS.F ht⟩) hS.2.2 dX12_toldNumber_63
          · have c_38 : (G_34.1 66 2).toInt = 0 := xI_eq rfl rfl c_38
            refine lv_aload_n hx hb dX12_toldNumber_58 rfl (lv_at hl 1 rfl) ?_
            have b_42 : 0 ≤ (G.1 66 4).toInt ∧ (G.1 66 4).toInt ≤ 1600 := hB_G.i 66 4 rfl rfl
            have g_43 : (G_34.1 66 4).toInt = (G.1 66 4).toInt := by rw [show G_34.1 66 4 = (G.1 66 4) from (hq_35.i 66 4 (by decide) (by decide))]
            have g_44 : (G_34.1 66 6).toInt = (G.1 66 6).toInt := by rw [show G_34.1 66 6 = (G.1 66 6) from ((hq_35.i 66 6 (by decide) (by decide)).trans (rfl))]
            refine S_callv (va_runV (As := []) (rest := []) ⟨hx, hb, hml, hown, hts⟩ (n_token l D k A a z G_34  ) (cwV 0 hts (gd_V hgd m1602 m1604 m50 m131 m1605) rfl rfl rfl (by decide +kernel) ⟨Nat.le_of_ble_eq_true rfl, Nat.le_of_ble_eq_true rfl⟩) (pre_V hW hB_G_34 hK hZ hS kd_66 rfl) rfl rfl hl.1 rfl (lv_room (Nat.le_of_ble_eq_true rfl)) dX12_toldNumber_59 ⟨Nat.le_of_ble_eq_true rfl, Nat.le_of_ble_eq_true rfl⟩) hS (fun G_46 H locs hpo hW hS => ?_)
            obtain ⟨hB_G_46, hq_47, hp_48⟩ := hpo
            have hF := hF.call hq_47 (by decide) (by decide)
            refine lv_iload_n hx hb dX12_toldNumber_62 rfl (lv_at hl 0 rfl) ?_
            have g_49 : (G_46.1 66 2).toInt = (G_34.1 66 2).toInt := by rw [show G_46.1 66 2 = (G_34.1 66 2) from ((hq_47.i 66 2 (by decide) (by decide)).trans (rfl))]
            have b_50 : 0 ≤ (G_46.1 66 4).toInt ∧ (G_46.1 66 4).toInt ≤ 1600 := hB_G_46.i 66 4 rfl rfl
            exact W.iret (v := (G.1 66 8)) hx hb hr (fun t ht _ => ⟨⟨(G.1 66 8), G_46, rfl, ⟨hB_G_46, hF, (by omega)⟩, wd_t ht hW⟩, hS.F ht⟩) hS.2.2 dX12_toldNumber_63
    · have c_3 : (G.1 66 6).toInt ≠ 2 := xI_ne rfl rfl c_3
      refine lv_aload_n hx hb dX12_toldNumber_17 rfl (lv_at hl 0 rfl) ?_
      refine lv_iconst (v := 2) hx hb dX12_toldNumber_18 (by decide) ?_
      have qc_51 : (2 : Int32).toInt = 2 := rfl
      refine S_callv (va_runV (As := [.int 2]) (rest := []) ⟨hx, hb, hml, hown, hts⟩ (n_wrong l D k A a z G 2 ⟨by decide, by decide⟩) (cwV 1 hts (gd_V hgd m1670 m1672 m59 m131 m1673) rfl rfl rfl (by decide +kernel) ⟨Nat.le_of_ble_eq_true rfl, Nat.le_of_ble_eq_true rfl⟩) (pre_V hW hB_G hK hZ hS kd_66 rfl) rfl rfl hl.1 rfl (lv_room (Nat.le_of_ble_eq_true rfl)) dX12_toldNumber_19 ⟨Nat.le_of_ble_eq_true rfl, Nat.le_of_ble_eq_true rfl⟩) hS (fun G_53 H locs hpo hW hS => ?_)
      obtain ⟨hB_G_53, hq_54, hp_55⟩ := hpo
      have hF := hF.call hq_54 (by decide) (by decide)
      refine lv_goto (tgt := 46) hx hb dX12_toldNumber_22 (by decide) ?_
      refine lv_aload_n hx hb dX12_toldNumber_46 rfl (lv_at hl 0 rfl) ?_
      refine S_getI (v := (G.1 66 8)) (C := RX12) (T := TX12) (N := 89) hx hb hg iX12 hown hK hW kd_66 rfl 8 (by decide) (hg (Cond.fieldLink RX12 202 "SlabWalkModel" "number" "I") m1322) (fun _ h9 => h9) rfl (hq_54.i 66 8 (by decide) (by decide)) dX12_toldNumber_47 ?_
      refine lv_istore_n (lv' := [(3, .int (G.1 66 8)), (0, .ref (a 66)), (1, .int p0), (2, .int p1)]) hx hb dX12_toldNumber_50 rfl hl (by decide) rfl (fun ls hl => ?_)
      refine lv_aload_n hx hb dX12_toldNumber_51 rfl (lv_at hl 1 rfl) ?_
      have b_56 : 0 ≤ (G_53.1 66 2).toInt ∧ (G_53.1 66 2).toInt ≤ 4 := hB_G_53.i 66 2 rfl rfl
      refine S_getI (v := (G_53.1 66 2)) (C := RX12) (T := TX12) (N := 89) hx hb hg iX12 hown hK hW kd_66 rfl 2 (by decide) (hg (Cond.fieldLink RX12 218 "SlabWalkModel" "fault" "I") m1316) (fun _ h9 => h9) rfl rfl dX12_toldNumber_52 ?_
      refine lv_if_ne (tgt := 62) hx hb dX12_toldNumber_55 (by decide) (fun c_57 => ?_) (fun c_57 => ?_)
      · have c_57 : (G_53.1 66 2).toInt ≠ 0 := xI_ne rfl rfl c_57
        refine lv_iload_n hx hb dX12_toldNumber_62 rfl (lv_at hl 0 rfl) ?_
        have b_58 : 0 ≤ (G.1 66 4).toInt ∧ (G.1 66 4).toInt ≤ 1600 := hB_G.i 66 4 rfl rfl
        have g_59 : (G_53.1 66 4).toInt = (G.1 66 4).toInt := by rw [show G_53.1 66 4 = (G.1 66 4) from (hq_54.i 66 4 (by decide) (by decide))]
        have g_60 : (G_53.1 66 6).toInt = (G.1 66 6).toInt := by rw [show G_53.1 66 6 = (G.1 66 6) from ((hq_54.i 66 6 (by decide) (by decide)).trans (rfl))]
        exact W.iret (v := (G.1 66 8)) hx hb hr (fun t ht _ => ⟨⟨(G.1 66 8), G_53, rfl, ⟨hB_G_53, hF, (by omega)⟩, wd_t ht hW⟩, hS.F ht⟩) hS.2.2 dX12_toldNumber_63
      · have c_57 : (G_53.1 66 2).toInt = 0 := xI_eq rfl rfl c_57
        refine lv_aload_n hx hb dX12_toldNumber_58 rfl (lv_at hl 1 rfl) ?_
        have b_61 : 0 ≤ (G.1 66 4).toInt ∧ (G.1 66 4).toInt ≤ 1600 := hB_G.i 66 4 rfl rfl
        have g_62 : (G_53.1 66 4).toInt = (G.1 66 4).toInt := by rw [show G_53.1 66 4 = (G.1 66 4) from (hq_54.i 66 4 (by decide) (by decide))]
        have g_63 : (G_53.1 66 6).toInt = (G.1 66 6).toInt := by rw [show G_53.1 66 6 = (G.1 66 6) from ((hq_54.i 66 6 (by decide) (by decide)).trans (rfl))]
        refine S_callv (va_runV (As := []) (rest := []) ⟨hx, hb, hml, hown, hts⟩ (n_token l D k A a z G_53  ) (cwV 0 hts (gd_V hgd m1602 m1604 m50 m131 m1605) rfl rfl rfl (by decide +kernel) ⟨Nat.le_of_ble_eq_true rfl, Nat.le_of_ble_eq_true rfl⟩) (pre_V hW hB_G_53 hK hZ hS kd_66 rfl) rfl rfl hl.1 rfl (lv_room (Nat.le_of_ble_eq_true rfl)) dX12_toldNumber_59 ⟨Nat.le_of_ble_eq_true rfl, Nat.le_of_ble_eq_true rfl⟩) hS (fun G_65 H locs hpo hW hS => ?_)
        obtain ⟨hB_G_65, hq_66, hp_67⟩ := hpo
        have hF := hF.call hq_66 (by decide) (by decide)
        refine lv_iload_n hx hb dX12_toldNumber_62 rfl (lv_at hl 0 rfl) ?_
        have g_68 : (G_65.1 66 2).toInt = (G_53.1 66 2).toInt := by rw [show G_65.1 66 2 = (G_53.1 66 2) from ((hq_66.i 66 2 (by decide) (by decide)).trans (rfl))]
        have b_69 : 0 ≤ (G_65.1 66 4).toInt ∧ (G_65.1 66 4).toInt ≤ 1600 := hB_G_65.i 66 4 rfl rfl
        exact W.iret (v := (G.1 66 8)) hx hb hr (fun t ht _ => ⟨⟨(G.1 66 8), G_65, rfl, ⟨hB_G_65, hF, (by omega)⟩, wd_t ht hW⟩, hS.F ht⟩) hS.2.2 dX12_toldNumber_63
  · have c_2 : 0 < (G.1 66 2).toInt := xI_nle rfl rfl c_2
    refine lv_iconst (v := 0) hx hb dX12_toldNumber_7 (by decide) ?_
    have b_70 : 0 ≤ (G.1 66 4).toInt ∧ (G.1 66 4).toInt ≤ 1600 := hB_G.i 66 4 rfl rfl
    exact W.iret (v := 0) hx hb hr (fun t ht _ => ⟨⟨0, G, rfl, ⟨hB_G, hF, (by have hq : (0 : Int32).toInt = 0 := rfl; (try dsimp only); omega)⟩, wd_t ht hW⟩, hS.F ht⟩) hS.2.2 dX12_toldNumber_8

set_option maxHeartbeats 4000000 in
set_option maxRecDepth 100000 in
theorem n_told2 (l : Launch) (D : va_G) (k : KT) (A : Nat → Prop) (a : Nat → Nat) (z : SK) (G : GS) (p0 : Int64) (p1 : Int32) (p2 : Int32)  : Met l yX12_told (WS yX12_told cX12_told 5 (some .int)) ({ frames := 3, cells := 0, slots := 0, locals := 66 }) (va_Pc [.ref (a 66), .long p0, .int p1, .int p2] (cW D k A a z G)) (va_Qi (fun (r : Int32) (G1 : GS) => Bd G1 ∧ Fr [] [(66, 2), (66, 3), (66, 4), (66, 6), (66, 7), (66, 8), (66, 9)] G G1 ∧ ((G.1 66 4).toInt ≤ (G1.1 66 4).toInt ∧ ((G1.1 66 4).toInt = (G.1 66 4).toInt → (G1.1 66 6).toInt = (G.1 66 6).toInt ∨ (G1.1 66 6).toInt ≤ 3) ∧ (1 ≤ (G.1 66 2).toInt → 1 ≤ (G1.1 66 2).toInt) ∧ ((G1.1 66 2).toInt = 0 → p1.toInt ≤ r.toInt ∧ r.toInt ≤ p2.toInt))) (fun (G1 : GS) t => Wd D k A a G1 t.heap) A) 0 0 A := by
  refine Met.ofW (cc := cX12_told) (maxL := 5) (ret := (some .int)) (by decide) rfl ?_
  intro p e s m args below meth c s₁ B hml hv
  obtain ⟨rfl, hW, hB_G, hK, hZ⟩ := hv
  have hx := B.exec
  have hb := B.bytes
  have hr := B.returns
  have hts := atoms_spec (ws := WS yX12_told cX12_told 5 (some .int)) B.pre
  have hgd : ∀ w ∈ gd, w ∈ WS yX12_told cX12_told 5 (some .int) := fun w h => List.mem_cons_of_mem _ h
  have hg : ∀ w ∈ gd, w.before _ s = true := fun w h => hts w (hgd w h)
  have hown : s.vm.findClass RX12 = some m.cls := findClass_of_methodNamed B.named
  have hS : va_S A s.heap s.heap [] := va_S.rf
  have hF : Fr [] [(66, 2), (66, 3), (66, 4), (66, 6), (66, 7), (66, 8), (66, 9)] G G := Fr.rf
  have hl := lv_entry ([.ref (a 66), .long p0, .int p1, .int p2]) (n := 5) (Nat.le_of_ble_eq_true rfl)
  rw [lg_entry_eq]
  generalize (lg_sl ([.ref (a 66), .long p0, .int p1, .int p2]) ++ List.replicate (5 - (lg_sl ([.ref (a 66), .long p0, .int p1, .int p2])).length) Slot.unset).toArray = ls at hl ⊢
  have hl : lv_has ls 5 [(0, .ref (a 66)), (1, .long p0), (3, .int p1), (4, .int p2)] := hl
  refine lv_aload_n hx hb dX12_told_0 rfl (lv_at hl 0 rfl) ?_
  refine lv_lload_n hx hb dX12_told_1 rfl (lv_at hl 1 rfl) ?_
  refine S_callv (va_runV (As := [.long p0]) (rest := []) ⟨hx, hb, hml, hown, hts⟩ (n_want l D k A a z G p0 ) (cwV 1 hts (gd_V hgd m1678 m1680 m61 m131 m1681) rfl rfl rfl (by decide +kernel) ⟨Nat.le_of_ble_eq_true rfl, Nat.le_of_ble_eq_true rfl⟩) (pre_V hW hB_G hK hZ hS kd_66 rfl) rfl rfl hl.1 rfl (lv_room (Nat.le_of_ble_eq_true rfl)) dX12_told_2 ⟨Nat.le_of_ble_eq_true rfl, Nat.le_of_ble_eq_true rfl⟩) hS (fun G_2 H locs hpo hW hS => ?_)
  obtain ⟨hB_G_2, hq_3, hp_4⟩ := hpo
  have hF := hF.call hq_3 (by decide) (by decide)
  refine lv_aload_n hx hb dX12_told_5 rfl (lv_at hl 0 rfl) ?_
  refine lv_iload_n hx hb dX12_told_6 rfl (lv_at hl 2 rfl) ?_
  refine lv_iload hx hb dX12_told_7 (lv_at hl 3 rfl) ?_
  have b_5 : 0 ≤ (G_2.1 66 2).toInt ∧ (G_2.1 66 2).toInt ≤ 4 := hB_G_2.i 66 2 rfl rfl
  have b_6 : 0 ≤ (G_2.1 66 4).toInt ∧ (G_2.1 66 4).toInt ≤ 1600 := hB_G_2.i 66 4 rfl rfl
  refine S_calli (va_runV (As := [.int p1, .int p2]) (rest := []) ⟨hx, hb, hml, hown, hts⟩ (n_told l D k A a z G_2 p1 p2 ) (cwV 2 hts (gd_V hgd m1682 m1684 m62 m131 m1685) rfl rfl rfl (by decide +kernel) ⟨Nat.le_of_ble_eq_true rfl, Nat.le_of_ble_eq_true rfl⟩) (pre_V hW hB_G_2 hK hZ hS kd_66 rfl) rfl rfl hl.1 rfl (lv_room (Nat.le_of_ble_eq_true rfl)) dX12_told_9 ⟨Nat.le_of_ble_eq_true rfl, Nat.le_of_ble_eq_true rfl⟩) hS (fun r_7 G_8 H locs hpo hW hS => ?_)
  obtain ⟨hB_G_8, hq_9, hp_10⟩ := hpo
  have hF := hF.call hq_9 (by decide) (by decide)
  have b_11 : 0 ≤ (G_8.1 66 2).toInt ∧ (G_8.1 66 2).toInt ≤ 4 := hB_G_8.i 66 2 rfl rfl
  have b_12 : 0 ≤ (G_8.1 66 4).toInt ∧ (G_8.1 66 4).toInt ≤ 1600 := hB_G_8.i 66 4 rfl rfl
  exact W.iret (v := r_7) hx hb hr (fun t ht _ => ⟨⟨r_7, G_8, rfl, ⟨hB_G_8, hF, (by omega)⟩, wd_t ht hW⟩, hS.F ht⟩) hS.2.2 dX12_told_12

set_option maxHeartbeats 4000000 in
set_option maxRecDepth 100000 in
theorem n_newName (l : Launch) (D : va_G) (k : KT) (A : Nat → Prop) (a : Nat → Nat) (z : SK) (G : GS) (p0 : Int32) (p1 : Int32) (ha_p0 : 0 ≤ p0.toInt ∧ p0.toInt ≤ 7) (ha_p1 : 0 ≤ p1.toInt ∧ p1.toInt ≤ 6) : Met l yX12_newName (WS yX12_newName cX12_newName 4 none) ({ frames := 3, cells := 0, slots := 0, locals := 60 }) (va_Pc [.ref (a 66), .int p0, .int p1] (cW D k A a z G)) (va_Qv (fun (G1 : GS) => Bd G1 ∧ Fr [68] [(66, 2), (66, 3), (66, 4), (66, 6), (66, 7), (66, 8), (66, 9)] G G1 ∧ ((G.1 66 4).toInt ≤ (G1.1 66 4).toInt ∧ ((G1.1 66 4).toInt = (G.1 66 4).toInt → (G1.1 66 6).toInt = (G.1 66 6).toInt ∨ (G1.1 66 6).toInt ≤ 3) ∧ (1 ≤ (G.1 66 2).toInt → 1 ≤ (G1.1 66 2).toInt))) (fun (G1 : GS) t => Wd D k A a G1 t.heap) A) 0 0 A := by
  refine Met.ofW (cc := cX12_newName) (maxL := 4) (ret := none) (by decide) rfl ?_
  intro p e s m args below meth c s₁ B hml hv
  obtain ⟨rfl, hW, hB_G, hK, hZ⟩ := hv
  have hx := B.exec
  have hb := B.bytes
  have hr := B.returns
  have hts := atoms_spec (ws := WS yX12_newName cX12_newName 4 none) B.pre
  have hgd : ∀ w ∈ gd, w ∈ WS yX12_newName cX12_newName 4 none := fun w h => List.mem_cons_of_mem _ h
  have hg : ∀ w ∈ gd, w.before _ s = true := fun w h => hts w (hgd w h)
  have hown : s.vm.findClass RX12 = some m.cls := findClass_of_methodNamed B.named
  have hS : va_S A s.heap s.heap [] := va_S.rf
  have hF : Fr [68] [(66, 2), (66, 3), (66, 4), (66, 6), (66, 7), (66, 8), (66, 9)] G G := Fr.rf
  have hl := lv_entry ([.ref (a 66), .int p0, .int p1]) (n := 4) (Nat.le_of_ble_eq_true rfl)
  rw [lg_entry_eq]
  generalize (lg_sl ([.ref (a 66), .int p0, .int p1]) ++ List.replicate (4 - (lg_sl ([.ref (a 66), .int p0, .int p1])).length) Slot.unset).toArray = ls at hl ⊢
  have hl : lv_has ls 4 [(0, .ref (a 66)), (1, .int p0), (2, .int p1)] := hl
  refine lv_aload_n hx hb dX12_newName_0 rfl (lv_at hl 0 rfl) ?_
  refine S_callv (va_runV (As := []) (rest := []) ⟨hx, hb, hml, hown, hts⟩ (n_token l D k A a z G  ) (cwV 0 hts (gd_V hgd m1602 m1604 m50 m131 m1605) rfl rfl rfl (by decide +kernel) ⟨Nat.le_of_ble_eq_true rfl, Nat.le_of_ble_eq_true rfl⟩) (pre_V hW hB_G hK hZ hS kd_66 rfl) rfl rfl hl.1 rfl (lv_room (Nat.le_of_ble_eq_true rfl)) dX12_newName_1 ⟨Nat.le_of_ble_eq_true rfl, Nat.le_of_ble_eq_true rfl⟩) hS (fun G_2 H locs hpo hW hS => ?_)
  obtain ⟨hB_G_2, hq_3, hp_4⟩ := hpo
  have hF := hF.call hq_3 (by decide) (by decide)
  refine lv_aload_n hx hb dX12_newName_4 rfl (lv_at hl 0 rfl) ?_
  refine S_calli (va_runV (As := []) (rest := []) ⟨hx, hb, hml, hown, hts⟩ (n_isName l D k A a z G_2  ) (cwV 0 hts (gd_V hgd m1636 m1638 m56 m131 m1639) rfl rfl rfl (by decide +kernel) ⟨Nat.le_of_ble_eq_true rfl, Nat.le_of_ble_eq_true rfl⟩) (pre_V hW hB_G_2 hK hZ hS kd_66 rfl) rfl rfl hl.1 rfl (lv_room (Nat.le_of_ble_eq_true rfl)) dX12_newName_5 ⟨Nat.le_of_ble_eq_true rfl, Nat.le_of_ble_eq_true rfl⟩) hS (fun r_5 G_6 H locs hpo hW hS => ?_)
  obtain ⟨hB_G_6, hq_7, f_9⟩ := hpo
  have hF := hF.call hq_7 (by decide) (by decide)
  refine W.cut (σ := Unit) (pcJ := 16) (J := fun y H locs ls => ∃ (G_13 : GS), (1 ≤ (G.1 66 2).toInt → 1 ≤ (G_13.1 66 2).toInt) ∧ Wd D k A a G_13 H ∧ Bd G_13 ∧ Fr [68] [(66, 2), (66, 3), (66, 4), (66, 6), (66, 7), (66, 8), (66, 9)] G G_13 ∧ Fr [] [(66, 2), (66, 3)] G_6 G_13 ∧ va_S A s.heap H locs ∧ lv_has ls 4 [(0, .ref (a 66)), (1, .int p0), (2, .int p1)]) (stJ := fun _ => []) ?_ (fun hJ_14 => ?_)
  · intro y H locs ls hI
    obtain ⟨G_13, f_16, hW, hB_G_13, hF, hq_15, hS, hl⟩ := hI
    have b_17 : 0 ≤ (G_13.1 66 2).toInt ∧ (G_13.1 66 2).toInt ≤ 4 := hB_G_13.i 66 2 rfl rfl
    refine lv_iconst (v := 0) hx hb dX12_newName_16 (by decide) ?_
    refine lv_istore_n (lv' := [(3, .int 0), (0, .ref (a 66)), (1, .int p0), (2, .int p1)]) hx hb dX12_newName_17 rfl hl (by decide) rfl (fun ls hl => ?_)
    have qc_23 : (0 : Int32).toInt = 0 := rfl
    refine loop_N (Inv := fun n H locs ls => ∃ (G_18 : GS) (x_22 : Int32), (n : Int) = 6 - x_22.toInt ∧ (0 ≤ x_22.toInt ∧ x_22.toInt ≤ 6) ∧ (1 ≤ (G.1 66 2).toInt → 1 ≤ (G_18.1 66 2).toInt) ∧ Wd D k A a G_18 H ∧ Bd G_18 ∧ Fr [68] [(66, 2), (66, 3), (66, 4), (66, 6), (66, 7), (66, 8), (66, 9)] G G_18 ∧ Fr [] [(66, 2), (66, 3)] G_13 G_18 ∧ va_S A s.heap H locs ∧ lv_has ls 4 [(3, .int x_22), (0, .ref (a 66)), (1, .int p0), (2, .int p1)]) (fun n_21 H locs ls ih_20 hI => ?_) (6 - 0 : Int).toNat ⟨G_13, 0, (Int.toNat_of_nonneg (by omega)), ⟨by omega, by omega⟩, (by omega), hW, hB_G_13, hF, Fr.rf, hS, lv_sub hl [0, 1, 2, 3] rfl⟩
    obtain ⟨G_18, x_22, hn_26, f_24, f_25, hW, hB_G_18, hF, hq_19, hS, hl⟩ := hI
    have b_27 : 0 ≤ (G_18.1 66 2).toInt ∧ (G_18.1 66 2).toInt ≤ 4 := hB_G_18.i 66 2 rfl rfl
    refine lv_iload_n hx hb dX12_newName_18 rfl (lv_at hl 0 rfl) ?_
    refine lv_iload_n hx hb dX12_newName_19 rfl (lv_at hl 3 rfl) ?_
    refine lv_icmp_ge (tgt := 57) hx hb dX12_newName_20 (by decide) (fun c_28 => ?_) (fun c_28 => ?_)
    · have c_28 : p1.toInt ≤ x_22.toInt := xI_le rfl rfl c_28
      refine lv_aload_n hx hb dX12_newName_57 rfl (lv_at hl 1 rfl) ?_
      refine S_getI (v := (G_18.1 66 2)) (C := RX12) (T := TX12) (N := 89) hx hb hg iX12 hown hK hW kd_66 rfl 2 (by decide) (hg (Cond.fieldLink RX12 218 "SlabWalkModel" "fault" "I") m1316) (fun _ h9 => h9) rfl rfl dX12_newName_58 ?_
      refine lv_if_le (tgt := 65) hx hb dX12_newName_61 (by decide) (fun c_29 => ?_) (fun c_29 => ?_)
      · have c_29 : (G_18.1 66 2).toInt ≤ 0 := xI_le rfl rfl c_29
        refine lv_aload_n hx hb dX12_newName_65 rfl (lv_at hl 1 rfl) ?_
        refine S_getR (n := 68) (C := RX12) (T := TX12) (N := 89) hx hb hg iX12 hown hK hW kd_66 rfl 10 (by decide) (hg (Cond.fieldLink RX12 17 "SlabWalkModel" "nName" "[J") m1324) (fun _ h9 => h9) rfl dX12_newName_66 ?_
        refine lv_iload_n hx hb dX12_newName_69 rfl (lv_at hl 2 rfl) ?_
        refine lv_iload_n hx hb dX12_newName_70 rfl (lv_at hl 3 rfl) ?_
        refine lv_iadd hx hb dX12_newName_71 ?_
        refine lv_topi (fun y_30 ey_30 => ?_)
        have ty_30 : y_30.toInt = p0.toInt + p1.toInt := xI_add rfl rfl ey_30 (by omega) (by omega)
        refine lv_aload_n hx hb dX12_newName_72 rfl (lv_at hl 1 rfl) ?_
        obtain ⟨y_31, ey_31⟩ : ∃ q, G_18.2.1 66 9 = q := ⟨_, rfl⟩
        refine S_getL (v := y_31) (C := RX12) (T := TX12) (N := 89) hx hb hg iX12 hown hK hW kd_66 rfl 9 (by decide) (hg (Cond.fieldLink RX12 198 "SlabWalkModel" "word" "J") m1323) (fun _ h9 => h9) rfl ey_31 dX12_newName_73 ?_
        refine S_last hx hb hK hW hS kd_68 (vin (by omega) (by omega)) dX12_newName_76 (fun G_32 H locs eG_32 hW hS => ?_)
        have hB_G_32 : Bd G_32 := hB_G_18.putl eG_32
        have hF := hF.putl eG_32 (Or.inl (by decide))
        refine lv_aload_n hx hb dX12_newName_77 rfl (lv_at hl 1 rfl) ?_
        have b_33 : 0 ≤ (G_2.1 66 4).toInt ∧ (G_2.1 66 4).toInt ≤ 1600 := hB_G_2.i 66 4 rfl rfl
        have g_34 : (G_32.1 66 4).toInt = (G_2.1 66 4).toInt := by rw [show G_32.1 66 4 = (G_2.1 66 4) from ((congrFun (congrFun (gp_l eG_32).1 66) 4).trans ((hq_19.i 66 4 (by decide) (by decide)).trans ((hq_15.i 66 4 (by decide) (by decide)).trans (hq_7.i 66 4 (by decide) (by decide)))))]
        have g_35 : (G_32.1 66 6).toInt = (G_2.1 66 6).toInt := by rw [show G_32.1 66 6 = (G_2.1 66 6) from ((congrFun (congrFun (gp_l eG_32).1 66) 6).trans ((hq_19.i 66 6 (by decide) (by decide)).trans ((hq_15.i 66 6 (by decide) (by decide)).trans (hq_7.i 66 6 (by decide) (by decide)))))]
        refine S_callv (va_runV (As := []) (rest := []) ⟨hx, hb, hml, hown, hts⟩ (n_token l D k A a z G_32  ) (cwV 0 hts (gd_V hgd m1602 m1604 m50 m131 m1605) rfl rfl rfl (by decide +kernel) ⟨Nat.le_of_ble_eq_true rfl, Nat.le_of_ble_eq_true rfl⟩) (pre_V hW hB_G_32 hK hZ hS kd_66 rfl) rfl rfl hl.1 rfl (lv_room (Nat.le_of_ble_eq_true rfl)) dX12_newName_78 ⟨Nat.le_of_ble_eq_true rfl, Nat.le_of_ble_eq_true rfl⟩) hS (fun G_37 H locs hpo hW hS => ?_)
        obtain ⟨hB_G_37, hq_38, hp_39⟩ := hpo
        have hF := hF.call hq_38 (by decide) (by decide)
        have g_40 : (G_37.1 66 2).toInt = (G_18.1 66 2).toInt := by rw [show G_37.1 66 2 = (G_18.1 66 2) from ((hq_38.i 66 2 (by decide) (by decide)).trans ((congrFun (congrFun (gp_l eG_32).1 66) 2).trans (rfl)))]
        have b_41 : 0 ≤ (G_37.1 66 4).toInt ∧ (G_37.1 66 4).toInt ≤ 1600 := hB_G_37.i 66 4 rfl rfl
        exact W.vret hx hb hr (fun t ht _ => ⟨⟨G_37, rfl, ⟨hB_G_37, hF, (by omega)⟩, wd_t ht hW⟩, hS.F ht⟩) hS.2.2 dX12_newName_81
      · have c_29 : 0 < (G_18.1 66 2).toInt := xI_nle rfl rfl c_29
        have b_42 : 0 ≤ (G_2.1 66 4).toInt ∧ (G_2.1 66 4).toInt ≤ 1600 := hB_G_2.i 66 4 rfl rfl
        have g_43 : (G_18.1 66 4).toInt = (G_2.1 66 4).toInt := by rw [show G_18.1 66 4 = (G_2.1 66 4) from ((hq_19.i 66 4 (by decide) (by decide)).trans ((hq_15.i 66 4 (by decide) (by decide)).trans (hq_7.i 66 4 (by decide) (by decide))))]
        have g_44 : (G_18.1 66 6).toInt = (G_2.1 66 6).toInt := by rw [show G_18.1 66 6 = (G_2.1 66 6) from ((hq_19.i 66 6 (by decide) (by decide)).trans ((hq_15.i 66 6 (by decide) (by decide)).trans (hq_7.i 66 6 (by decide) (by decide))))]
        exact W.vret hx hb hr (fun t ht _ => ⟨⟨G_18, rfl, ⟨hB_G_18, hF, (by omega)⟩, wd_t ht hW⟩, hS.F ht⟩) hS.2.2 dX12_newName_64
    · have c_28 : x_22.toInt < p1.toInt := xI_nle rfl rfl c_28
      refine lv_aload_n hx hb dX12_newName_23 rfl (lv_at hl 1 rfl) ?_
      refine S_getI (v := (G_18.1 66 2)) (C := RX12) (T := TX12) (N := 89) hx hb hg iX12 hown hK hW kd_66 rfl 2 (by decide) (hg (Cond.fieldLink RX12 218 "SlabWalkModel" "fault" "I") m1316) (fun _ h9 => h9) rfl rfl dX12_newName_24 ?_
      refine lv_if_ne (tgt := 51) hx hb dX12_newName_27 (by decide) (fun c_45 => ?_) (fun c_45 => ?_)
      · have c_45 : (G_18.1 66 2).toInt ≠ 0 := xI_ne rfl rfl c_45
        obtain ⟨y_46, ey_46⟩ : ∃ q, q = x_22 + 1 := ⟨_, rfl⟩
        have ty_46 : y_46.toInt = x_22.toInt + 1 := xI_add rfl rfl ey_46 (by omega) (by omega)
        refine lv_iinc (v := y_46) (lv' := [(3, .int y_46), (0, .ref (a 66)), (1, .int p0), (2, .int p1)]) hx hb dX12_newName_51 hl (k := 0) rfl (by rw [ey_46]; rfl) (by decide) rfl (fun ls hl => ?_)
        refine lv_goto (tgt := 18) hx hb dX12_newName_54 (by decide) ?_
        exact ih_20 (6 - y_46.toInt : Int).toNat (by omega) _ _ _ ⟨G_18, y_46, (Int.toNat_of_nonneg (by omega)), ⟨by omega, by omega⟩, (by omega), hW, hB_G_18, hF, (Fr.rf.call hq_19 (by decide) (by decide)), hS, lv_sub hl [0, 1, 2, 3] rfl⟩
      · have c_45 : (G_18.1 66 2).toInt = 0 := xI_eq rfl rfl c_45
        refine lv_aload_n hx hb dX12_newName_30 rfl (lv_at hl 1 rfl) ?_
        refine S_getR (n := 68) (C := RX12) (T := TX12) (N := 89) hx hb hg iX12 hown hK hW kd_66 rfl 10 (by decide) (hg (Cond.fieldLink RX12 17 "SlabWalkModel" "nName" "[J") m1324) (fun _ h9 => h9) rfl dX12_newName_31 ?_
        refine lv_iload_n hx hb dX12_newName_34 rfl (lv_at hl 2 rfl) ?_
        refine lv_iload_n hx hb dX12_newName_35 rfl (lv_at hl 0 rfl) ?_
        refine lv_iadd hx hb dX12_newName_36 ?_
        refine lv_topi (fun y_47 ey_47 => ?_)
        have ty_47 : y_47.toInt = p0.toInt + x_22.toInt := xI_add rfl rfl ey_47 (by omega) (by omega)
        refine S_lald hx hb hK hW kd_68 (vin (by omega) (by omega)) dX12_newName_37 (fun y_48 ey_48 => ?_)
        refine lv_aload_n hx hb dX12_newName_38 rfl (lv_at hl 1 rfl) ?_
        obtain ⟨y_49, ey_49⟩ : ∃ q, G_18.2.1 66 9 = q := ⟨_, rfl⟩
        refine S_getL (v := y_49) (C := RX12) (T := TX12) (N := 89) hx hb hg iX12 hown hK hW kd_66 rfl 9 (by decide) (hg (Cond.fieldLink RX12 198 "SlabWalkModel" "word" "J") m1323) (fun _ h9 => h9) rfl ey_49 dX12_newName_39 ?_
        refine W.lcmp hx hb dX12_newName_42 ?_
        refine lv_topi (fun y_50 ey_50 => ?_)
        have ty_50 := lcmp_rng ey_50
        refine lv_if_ne (tgt := 51) hx hb dX12_newName_43 (by decide) (fun c_51 => ?_) (fun c_51 => ?_)
        · have c_51 : y_50.toInt ≠ 0 := xI_ne rfl rfl c_51
          obtain ⟨y_52, ey_52⟩ : ∃ q, q = x_22 + 1 := ⟨_, rfl⟩
          have ty_52 : y_52.toInt = x_22.toInt + 1 := xI_add rfl rfl ey_52 (by omega) (by omega)
          refine lv_iinc (v := y_52) (lv' := [(3, .int y_52), (0, .ref (a 66)), (1, .int p0), (2, .int p1)]) hx hb dX12_newName_51 hl (k := 0) rfl (by rw [ey_52]; rfl) (by decide) rfl (fun ls hl => ?_)
          refine lv_goto (tgt := 18) hx hb dX12_newName_54 (by decide) ?_
          exact ih_20 (6 - y_52.toInt : Int).toNat (by omega) _ _ _ ⟨G_18, y_52, (Int.toNat_of_nonneg (by omega)), ⟨by omega, by omega⟩, (by omega), hW, hB_G_18, hF, (Fr.rf.call hq_19 (by decide) (by decide)), hS, lv_sub hl [0, 1, 2, 3] rfl⟩
        · have c_51 : y_50.toInt = 0 := xI_eq rfl rfl c_51
          refine lv_aload_n hx hb dX12_newName_46 rfl (lv_at hl 1 rfl) ?_
          refine lv_iconst (v := 3) hx hb dX12_newName_47 (by decide) ?_
          have qc_53 : (3 : Int32).toInt = 3 := rfl
          refine S_callv (va_runV (As := [.int 3]) (rest := []) ⟨hx, hb, hml, hown, hts⟩ (n_wrong l D k A a z G_18 3 ⟨by decide, by decide⟩) (cwV 1 hts (gd_V hgd m1670 m1672 m59 m131 m1673) rfl rfl rfl (by decide +kernel) ⟨Nat.le_of_ble_eq_true rfl, Nat.le_of_ble_eq_true rfl⟩) (pre_V hW hB_G_18 hK hZ hS kd_66 rfl) rfl rfl hl.1 rfl (lv_room (Nat.le_of_ble_eq_true rfl)) dX12_newName_48 ⟨Nat.le_of_ble_eq_true rfl, Nat.le_of_ble_eq_true rfl⟩) hS (fun G_55 H locs hpo hW hS => ?_)
          obtain ⟨hB_G_55, hq_56, hp_57⟩ := hpo
          have hF := hF.call hq_56 (by decide) (by decide)
          obtain ⟨y_58, ey_58⟩ : ∃ q, q = x_22 + 1 := ⟨_, rfl⟩
          have ty_58 : y_58.toInt = x_22.toInt + 1 := xI_add rfl rfl ey_58 (by omega) (by omega)
          refine lv_iinc (v := y_58) (lv' := [(3, .int y_58), (0, .ref (a 66)), (1, .int p0), (2, .int p1)]) hx hb dX12_newName_51 hl (k := 0) rfl (by rw [ey_58]; rfl) (by decide) rfl (fun ls hl => ?_)
          refine lv_goto (tgt := 18) hx hb dX12_newName_54 (by decide) ?_
          have b_59 : 0 ≤ (G_55.1 66 2).toInt ∧ (G_55.1 66 2).toInt ≤ 4 := hB_G_55.i 66 2 rfl rfl
          exact ih_20 (6 - y_58.toInt : Int).toNat (by omega) _ _ _ ⟨G_55, y_58, (Int.toNat_of_nonneg (by omega)), ⟨by omega, by omega⟩, (by omega), hW, hB_G_55, hF, ((Fr.rf.call hq_19 (by decide) (by decide)).call hq_56 (by decide) (by decide)), hS, lv_sub hl [0, 1, 2, 3] rfl⟩
  refine lv_if_ne (tgt := 16) hx hb dX12_newName_8 (by decide) (fun c_60 => ?_) (fun c_60 => ?_)
  · have c_60 : r_5.toInt ≠ 0 := xI_ne rfl rfl c_60
    have b_61 : 0 ≤ (G.1 66 2).toInt ∧ (G.1 66 2).toInt ≤ 4 := hB_G.i 66 2 rfl rfl
    have g_62 : (G_6.1 66 2).toInt = (G.1 66 2).toInt := by rw [show G_6.1 66 2 = (G.1 66 2) from ((hq_7.i 66 2 (by decide) (by decide)).trans (hq_3.i 66 2 (by decide) (by decide)))]
    exact hJ_14 () _ _ _ ⟨G_6, (by omega), hW, hB_G_6, hF, Fr.rf, hS, lv_sub hl [0, 1, 2] rfl⟩
  · have c_60 : r_5.toInt = 0 := xI_eq rfl rfl c_60
    refine lv_aload_n hx hb dX12_newName_11 rfl (lv_at hl 0 rfl) ?_
    refine lv_iconst (v := 2) hx hb dX12_newName_12 (by decide) ?_
    have qc_63 : (2 : Int32).toInt = 2 := rfl
    refine S_callv (va_runV (As := [.int 2]) (rest := []) ⟨hx, hb, hml, hown, hts⟩ (n_wrong l D k A a z G_6 2 ⟨by decide, by decide⟩) (cwV 1 hts (gd_V hgd m1670 m1672 m59 m131 m1673) rfl rfl rfl (by decide +kernel) ⟨Nat.le_of_ble_eq_true rfl, Nat.le_of_ble_eq_true rfl⟩) (pre_V hW hB_G_6 hK hZ hS kd_66 rfl) rfl rfl hl.1 rfl (lv_room (Nat.le_of_ble_eq_true rfl)) dX12_newName_13 ⟨Nat.le_of_ble_eq_true rfl, Nat.le_of_ble_eq_true rfl⟩) hS (fun G_65 H locs hpo hW hS => ?_)
    obtain ⟨hB_G_65, hq_66, hp_67⟩ := hpo
    have hF := hF.call hq_66 (by decide) (by decide)
    have b_68 : 0 ≤ (G_65.1 66 2).toInt ∧ (G_65.1 66 2).toInt ≤ 4 := hB_G_65.i 66 2 rfl rfl
    exact hJ_14 () _ _ _ ⟨G_65, (by omega), hW, hB_G_65, hF, (Fr.rf.call hq_66 (by decide) (by decide)), hS, lv_sub hl [0, 1, 2] rfl⟩
