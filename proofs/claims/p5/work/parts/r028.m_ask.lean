theorem m115 : Cond.selects RX12 yX12_counts yX12_counts ∈ gd := gd_mem 115 (by decide +kernel) (by decide +kernel)
theorem m1394 : Cond.fieldLink RX12 157 "SlabWalkModel" "sightWho" "[I" ∈ gd := gd_mem 1394 (by decide +kernel) (by decide +kernel)
theorem m1395 : Cond.fieldLink RX12 160 "SlabWalkModel" "sightWhere" "[I" ∈ gd := gd_mem 1395 (by decide +kernel) (by decide +kernel)
theorem m1396 : Cond.fieldLink RX12 163 "SlabWalkModel" "sightHeel" "[I" ∈ gd := gd_mem 1396 (by decide +kernel) (by decide +kernel)
theorem m2055 : Cond.methodLink RX12 596 yX12_counts ∈ gd := gd_mem 2055 (by decide +kernel) (by decide +kernel)
theorem m2057 : Cond.instanceMethod yX12_counts ∈ gd := gd_mem 2057 (by decide +kernel) (by decide +kernel)
theorem m2058 : Cond.code yX12_counts cX12_counts 3 (some .boolean) ∈ gd := gd_mem 2058 (by decide +kernel) (by decide +kernel)
theorem dX12_fits_0 : decode cX12_fits 0 = .ok (.iconst 0, 1) := by decide +kernel
theorem dX12_fits_1 : decode cX12_fits 1 = .ok (.istore_n 2, 1) := by decide +kernel
theorem dX12_fits_2 : decode cX12_fits 2 = .ok (.iconst 0, 1) := by decide +kernel
theorem dX12_fits_3 : decode cX12_fits 3 = .ok (.istore_n 3, 1) := by decide +kernel
theorem dX12_fits_4 : decode cX12_fits 4 = .ok (.iload_n 3, 1) := by decide +kernel
theorem dX12_fits_5 : decode cX12_fits 5 = .ok (.aload_n 0, 1) := by decide +kernel
theorem dX12_fits_6 : decode cX12_fits 6 = .ok (.getfield 431, 3) := by decide +kernel
theorem dX12_fits_9 : decode cX12_fits 9 = .ok (.if_icmp .ge 98, 3) := by decide +kernel
theorem dX12_fits_12 : decode cX12_fits 12 = .ok (.iconst 1, 1) := by decide +kernel
theorem dX12_fits_13 : decode cX12_fits 13 = .ok (.istore 4, 2) := by decide +kernel
theorem dX12_fits_15 : decode cX12_fits 15 = .ok (.iconst 0, 1) := by decide +kernel
theorem dX12_fits_16 : decode cX12_fits 16 = .ok (.istore 5, 2) := by decide +kernel
theorem dX12_fits_18 : decode cX12_fits 18 = .ok (.iload 5, 2) := by decide +kernel
theorem dX12_fits_20 : decode cX12_fits 20 = .ok (.aload_n 0, 1) := by decide +kernel
theorem dX12_fits_21 : decode cX12_fits 21 = .ok (.getfield 443, 3) := by decide +kernel
theorem dX12_fits_24 : decode cX12_fits 24 = .ok (.if_icmp .ge 62, 3) := by decide +kernel
theorem dX12_fits_27 : decode cX12_fits 27 = .ok (.iload 4, 2) := by decide +kernel
theorem dX12_fits_29 : decode cX12_fits 29 = .ok (.ifCond .eq 57, 3) := by decide +kernel
theorem dX12_fits_32 : decode cX12_fits 32 = .ok (.aload_n 0, 1) := by decide +kernel
theorem dX12_fits_33 : decode cX12_fits 33 = .ok (.iload 5, 2) := by decide +kernel
theorem dX12_fits_35 : decode cX12_fits 35 = .ok (.iload_n 1, 1) := by decide +kernel
theorem dX12_fits_36 : decode cX12_fits 36 = .ok (.invokevirtual 596, 3) := by decide +kernel
theorem dX12_fits_39 : decode cX12_fits 39 = .ok (.ifCond .ne 6, 3) := by decide +kernel
theorem dX12_fits_42 : decode cX12_fits 42 = .ok (.goto 38, 3) := by decide +kernel
theorem dX12_fits_45 : decode cX12_fits 45 = .ok (.aload_n 0, 1) := by decide +kernel
theorem dX12_fits_46 : decode cX12_fits 46 = .ok (.aload_n 0, 1) := by decide +kernel
theorem dX12_fits_47 : decode cX12_fits 47 = .ok (.getfield 157, 3) := by decide +kernel
theorem dX12_fits_50 : decode cX12_fits 50 = .ok (.iload 5, 2) := by decide +kernel
theorem dX12_fits_52 : decode cX12_fits 52 = .ok (.iaload, 1) := by decide +kernel
theorem dX12_fits_53 : decode cX12_fits 53 = .ok (.aload_n 0, 1) := by decide +kernel
theorem dX12_fits_54 : decode cX12_fits 54 = .ok (.getfield 160, 3) := by decide +kernel
theorem dX12_fits_57 : decode cX12_fits 57 = .ok (.iload 5, 2) := by decide +kernel
theorem dX12_fits_59 : decode cX12_fits 59 = .ok (.iaload, 1) := by decide +kernel
theorem dX12_fits_60 : decode cX12_fits 60 = .ok (.iconst 1, 1) := by decide +kernel
theorem dX12_fits_61 : decode cX12_fits 61 = .ok (.iload_n 3, 1) := by decide +kernel
theorem dX12_fits_62 : decode cX12_fits 62 = .ok (.ishl, 1) := by decide +kernel
theorem dX12_fits_63 : decode cX12_fits 63 = .ok (.invokevirtual 493, 3) := by decide +kernel
theorem dX12_fits_66 : decode cX12_fits 66 = .ok (.aload_n 0, 1) := by decide +kernel
theorem dX12_fits_67 : decode cX12_fits 67 = .ok (.getfield 115, 3) := by decide +kernel
theorem dX12_fits_70 : decode cX12_fits 70 = .ok (.aload_n 0, 1) := by decide +kernel
theorem dX12_fits_71 : decode cX12_fits 71 = .ok (.getfield 163, 3) := by decide +kernel
theorem dX12_fits_74 : decode cX12_fits 74 = .ok (.iload 5, 2) := by decide +kernel
theorem dX12_fits_76 : decode cX12_fits 76 = .ok (.iaload, 1) := by decide +kernel
theorem dX12_fits_77 : decode cX12_fits 77 = .ok (.baload, 1) := by decide +kernel
theorem dX12_fits_78 : decode cX12_fits 78 = .ok (.istore 4, 2) := by decide +kernel
theorem dX12_fits_80 : decode cX12_fits 80 = .ok (.iinc 5 1, 3) := by decide +kernel
theorem dX12_fits_83 : decode cX12_fits 83 = .ok (.goto (-65), 3) := by decide +kernel
theorem dX12_fits_86 : decode cX12_fits 86 = .ok (.iload_n 2, 1) := by decide +kernel
theorem dX12_fits_87 : decode cX12_fits 87 = .ok (.iload 4, 2) := by decide +kernel
theorem dX12_fits_89 : decode cX12_fits 89 = .ok (.ifCond .eq 9, 3) := by decide +kernel
theorem dX12_fits_92 : decode cX12_fits 92 = .ok (.iconst 1, 1) := by decide +kernel
theorem dX12_fits_93 : decode cX12_fits 93 = .ok (.iload_n 3, 1) := by decide +kernel
theorem dX12_fits_94 : decode cX12_fits 94 = .ok (.ishl, 1) := by decide +kernel
theorem dX12_fits_95 : decode cX12_fits 95 = .ok (.goto 4, 3) := by decide +kernel
theorem dX12_fits_98 : decode cX12_fits 98 = .ok (.iconst 0, 1) := by decide +kernel
theorem dX12_fits_99 : decode cX12_fits 99 = .ok (.ior, 1) := by decide +kernel
theorem dX12_fits_100 : decode cX12_fits 100 = .ok (.istore_n 2, 1) := by decide +kernel
theorem dX12_fits_101 : decode cX12_fits 101 = .ok (.iinc 3 1, 3) := by decide +kernel
theorem dX12_fits_104 : decode cX12_fits 104 = .ok (.goto (-100), 3) := by decide +kernel
theorem dX12_fits_107 : decode cX12_fits 107 = .ok (.iload_n 2, 1) := by decide +kernel
theorem dX12_fits_108 : decode cX12_fits 108 = .ok (.ireturn, 1) := by decide +kernel
set_option maxHeartbeats 4000000 in
set_option maxRecDepth 100000 in
theorem n_fits (l : Launch) (D : va_G) (k : KT) (A : Nat → Prop) (a : Nat → Nat) (z : SK) (G : GS) (p0 : Int32) (hP9 : gP G = 1) : Met l yX12_fits (WS yX12_fits cX12_fits 6 (some .int)) ({ frames := 5, cells := 0, slots := 0, locals := 117 }) (va_Pc [.ref (a 66), .int p0] (cW D k A a z G)) (va_Qi (fun (r : Int32) (G1 : GS) => Bd G1 ∧ Fr [76, 97, 98] [(66, 59), (66, 60), (66, 61), (66, 62), (66, 63)] G G1) (fun (G1 : GS) t => Wd D k A a G1 t.heap) A) 0 0 A := by
  refine Met.ofW (cc := cX12_fits) (maxL := 6) (ret := (some .int)) (by decide) rfl ?_
  intro p e s m args below meth c s₁ B hml hv
  obtain ⟨rfl, hW, hB_G, hK, hZ⟩ := hv
  have hx := B.exec
  have hb := B.bytes
  have hr := B.returns
  have hts := atoms_spec (ws := WS yX12_fits cX12_fits 6 (some .int)) B.pre
  have hgd : ∀ w ∈ gd, w ∈ WS yX12_fits cX12_fits 6 (some .int) := fun w h => List.mem_cons_of_mem _ h
  have hg : ∀ w ∈ gd, w.before _ s = true := fun w h => hts w (hgd w h)
  have hown : s.vm.findClass RX12 = some m.cls := findClass_of_methodNamed B.named
  have hS : va_S A s.heap s.heap [] := va_S.rf
  have hF : Fr [76, 97, 98] [(66, 59), (66, 60), (66, 61), (66, 62), (66, 63)] G G := Fr.rf
  have hl := lv_entry ([.ref (a 66), .int p0]) (n := 6) (Nat.le_of_ble_eq_true rfl)
  rw [lg_entry_eq]
  generalize (lg_sl ([.ref (a 66), .int p0]) ++ List.replicate (6 - (lg_sl ([.ref (a 66), .int p0])).length) Slot.unset).toArray = ls at hl ⊢
  have hl : lv_has ls 6 [(0, .ref (a 66)), (1, .int p0)] := hl
  refine lv_iconst (v := 0) hx hb dX12_fits_0 (by decide) ?_
  refine lv_istore_n (lv' := [(2, .int 0), (0, .ref (a 66)), (1, .int p0)]) hx hb dX12_fits_1 rfl hl (by decide) rfl (fun ls hl => ?_)
  refine lv_iconst (v := 0) hx hb dX12_fits_2 (by decide) ?_
  refine lv_istore_n (lv' := [(3, .int 0), (2, .int 0), (0, .ref (a 66)), (1, .int p0)]) hx hb dX12_fits_3 rfl hl (by decide) rfl (fun ls hl => ?_)
  have qc_7 : (0 : Int32).toInt = 0 := rfl
  refine loop_N (Inv := fun n H locs ls => ∃ (G_1 : GS) (x_5 : Int32) (x_6 : Int32), (n : Int) = 6 - x_5.toInt ∧ (0 ≤ x_5.toInt ∧ x_5.toInt ≤ 6) ∧ (0 ≤ x_6.toInt ∧ x_6.toInt ≤ 63) ∧ Wd D k A a G_1 H ∧ Bd G_1 ∧ Fr [76, 97, 98] [(66, 59), (66, 60), (66, 61), (66, 62), (66, 63)] G G_1 ∧ Fr [76, 97, 98] [(66, 59), (66, 60), (66, 61), (66, 62), (66, 63)] G G_1 ∧ va_S A s.heap H locs ∧ lv_has ls 6 [(3, .int x_5), (2, .int x_6), (0, .ref (a 66)), (1, .int p0)]) (fun n_4 H locs ls ih_3 hI => ?_) (6 - 0 : Int).toNat ⟨G, 0, 0, (Int.toNat_of_nonneg (by omega)), ⟨by omega, by omega⟩, ⟨by omega, by omega⟩, hW, hB_G, hF, Fr.rf, hS, lv_sub hl [0, 1, 2, 3] rfl⟩
  obtain ⟨G_1, x_5, x_6, hn_10, f_8, f_9, hW, hB_G_1, hF, hq_2, hS, hl⟩ := hI
  refine lv_iload_n hx hb dX12_fits_4 rfl (lv_at hl 0 rfl) ?_
  refine lv_aload_n hx hb dX12_fits_5 rfl (lv_at hl 2 rfl) ?_
  have b_11 : 0 ≤ (G.1 66 54).toInt ∧ (G.1 66 54).toInt ≤ 6 := hB_G.i 66 54 rfl rfl
  refine S_getI (v := (G.1 66 54)) (C := RX12) (T := TX12) (N := 89) hx hb hg iX12 hown hK hW kd_66 rfl 54 (by decide) (hg (Cond.fieldLink RX12 431 "SlabWalkModel" "rules" "I") m1368) (fun _ h9 => h9) rfl (hq_2.i 66 54 (by decide) (by decide)) dX12_fits_6 ?_
  refine lv_icmp_ge (tgt := 107) hx hb dX12_fits_9 (by decide) (fun c_12 => ?_) (fun c_12 => ?_)
  · have c_12 : (G.1 66 54).toInt ≤ x_5.toInt := xI_le rfl rfl c_12
    refine lv_iload_n hx hb dX12_fits_107 rfl (lv_at hl 1 rfl) ?_
    exact W.iret (v := x_6) hx hb hr (fun t ht _ => ⟨⟨x_6, G_1, rfl, ⟨hB_G_1, hF⟩, wd_t ht hW⟩, hS.F ht⟩) hS.2.2 dX12_fits_108
  · have c_12 : x_5.toInt < (G.1 66 54).toInt := xI_nle rfl rfl c_12
    refine lv_iconst (v := 1) hx hb dX12_fits_12 (by decide) ?_
    refine lv_istore (lv' := [(4, .int 1), (3, .int x_5), (2, .int x_6), (0, .ref (a 66)), (1, .int p0)]) hx hb dX12_fits_13 hl (by decide) rfl (fun ls hl => ?_)
    refine lv_iconst (v := 0) hx hb dX12_fits_15 (by decide) ?_
    refine lv_istore (lv' := [(5, .int 0), (4, .int 1), (3, .int x_5), (2, .int x_6), (0, .ref (a 66)), (1, .int p0)]) hx hb dX12_fits_16 hl (by decide) rfl (fun ls hl => ?_)
    have qc_19 : (0 : Int32).toInt = 0 := rfl
    have qc_20 : (1 : Int32).toInt = 1 := rfl
    refine loop_N (Inv := fun n H locs ls => ∃ (G_13 : GS) (x_17 : Int32) (x_18 : Int32), (n : Int) = 20 - x_17.toInt ∧ (0 ≤ x_17.toInt ∧ x_17.toInt ≤ 20) ∧ (0 ≤ x_18.toInt ∧ x_18.toInt ≤ 1) ∧ Wd D k A a G_13 H ∧ Bd G_13 ∧ Fr [76, 97, 98] [(66, 59), (66, 60), (66, 61), (66, 62), (66, 63)] G G_13 ∧ Fr [76, 97, 98] [(66, 59), (66, 60), (66, 61), (66, 62), (66, 63)] G_1 G_13 ∧ va_S A s.heap H locs ∧ lv_has ls 6 [(5, .int x_17), (4, .int x_18), (3, .int x_5), (2, .int x_6), (0, .ref (a 66)), (1, .int p0)]) (fun n_16 H locs ls ih_15 hI => ?_) (20 - 0 : Int).toNat ⟨G_1, 0, 1, (Int.toNat_of_nonneg (by omega)), ⟨by omega, by omega⟩, ⟨by omega, by omega⟩, hW, hB_G_1, hF, Fr.rf, hS, lv_sub hl [0, 1, 2, 3, 4, 5] rfl⟩
    obtain ⟨G_13, x_17, x_18, hn_23, f_21, f_22, hW, hB_G_13, hF, hq_14, hS, hl⟩ := hI
    refine lv_iload hx hb dX12_fits_18 (lv_at hl 0 rfl) ?_
    refine lv_aload_n hx hb dX12_fits_20 rfl (lv_at hl 4 rfl) ?_
    have b_24 : 0 ≤ (G.1 66 85).toInt ∧ (G.1 66 85).toInt ≤ 20 := hB_G.i 66 85 rfl rfl
    refine S_getI (v := (G.1 66 85)) (C := RX12) (T := TX12) (N := 89) hx hb hg iX12 hown hK hW kd_66 rfl 85 (by decide) (hg (Cond.fieldLink RX12 443 "SlabWalkModel" "sights" "I") m1399) (fun _ h9 => h9) rfl ((hq_14.i 66 85 (by decide) (by decide)).trans (hq_2.i 66 85 (by decide) (by decide))) dX12_fits_21 ?_
    refine lv_icmp_ge (tgt := 86) hx hb dX12_fits_24 (by decide) (fun c_25 => ?_) (fun c_25 => ?_)
    · have c_25 : (G.1 66 85).toInt ≤ x_17.toInt := xI_le rfl rfl c_25
      refine lv_iload_n hx hb dX12_fits_86 rfl (lv_at hl 3 rfl) ?_
      refine lv_iload hx hb dX12_fits_87 (lv_at hl 1 rfl) ?_
      refine lv_if_eq (tgt := 98) hx hb dX12_fits_89 (by decide) (fun c_26 => ?_) (fun c_26 => ?_)
      · have c_26 : x_18.toInt = 0 := xI_eq rfl rfl c_26
        refine lv_iconst (v := 0) hx hb dX12_fits_98 (by decide) ?_
        refine lv_ior hx hb dX12_fits_99 ?_
        refine lv_topi (fun y_27 ey_27 => ?_)
        have ty_27 := or6 ey_27 ⟨by omega, by omega⟩ ⟨by omega, by omega⟩
        refine lv_istore_n (lv' := [(2, .int y_27), (5, .int x_17), (4, .int x_18), (3, .int x_5), (0, .ref (a 66)), (1, .int p0)]) hx hb dX12_fits_100 rfl hl (by decide) rfl (fun ls hl => ?_)
        obtain ⟨y_28, ey_28⟩ : ∃ q, q = x_5 + 1 := ⟨_, rfl⟩
        have ty_28 : y_28.toInt = x_5.toInt + 1 := xI_add rfl rfl ey_28 (by omega) (by omega)
        refine lv_iinc (v := y_28) (lv' := [(3, .int y_28), (2, .int y_27), (5, .int x_17), (4, .int x_18), (0, .ref (a 66)), (1, .int p0)]) hx hb dX12_fits_101 hl (k := 3) rfl (by rw [ey_28]; rfl) (by decide) rfl (fun ls hl => ?_)
        refine lv_goto (tgt := 4) hx hb dX12_fits_104 (by decide) ?_
        exact ih_3 (6 - y_28.toInt : Int).toNat (by omega) _ _ _ ⟨G_13, y_28, y_27, (Int.toNat_of_nonneg (by omega)), ⟨by omega, by omega⟩, ⟨by omega, by omega⟩, hW, hB_G_13, hF, ((Fr.rf.call hq_2 (by decide) (by decide)).call hq_14 (by decide) (by decide)), hS, lv_sub hl [0, 1, 4, 5] rfl⟩
      · have c_26 : x_18.toInt ≠ 0 := xI_ne rfl rfl c_26
        refine lv_iconst (v := 1) hx hb dX12_fits_92 (by decide) ?_
        refine lv_iload_n hx hb dX12_fits_93 rfl (lv_at hl 2 rfl) ?_
        refine lv_ishl hx hb dX12_fits_94 ?_
        refine lv_topi (fun y_29 ey_29 => ?_)
        have ty_29 := sh5 (Y := x_5.toInt) rfl ey_29 rfl (by omega) (by omega)
        refine lv_goto (tgt := 99) hx hb dX12_fits_95 (by decide) ?_
        refine lv_ior hx hb dX12_fits_99 ?_
        refine lv_topi (fun y_30 ey_30 => ?_)
        have ty_30 := or6 ey_30 ⟨by omega, by omega⟩ ⟨by omega, by omega⟩
        refine lv_istore_n (lv' := [(2, .int y_30), (5, .int x_17), (4, .int x_18), (3, .int x_5), (0, .ref (a 66)), (1, .int p0)]) hx hb dX12_fits_100 rfl hl (by decide) rfl (fun ls hl => ?_)
        obtain ⟨y_31, ey_31⟩ : ∃ q, q = x_5 + 1 := ⟨_, rfl⟩
        have ty_31 : y_31.toInt = x_5.toInt + 1 := xI_add rfl rfl ey_31 (by omega) (by omega)
        refine lv_iinc (v := y_31) (lv' := [(3, .int y_31), (2, .int y_30), (5, .int x_17), (4, .int x_18), (0, .ref (a 66)), (1, .int p0)]) hx hb dX12_fits_101 hl (k := 3) rfl (by rw [ey_31]; rfl) (by decide) rfl (fun ls hl => ?_)
        refine lv_goto (tgt := 4) hx hb dX12_fits_104 (by decide) ?_
        exact ih_3 (6 - y_31.toInt : Int).toNat (by omega) _ _ _ ⟨G_13, y_31, y_30, (Int.toNat_of_nonneg (by omega)), ⟨by omega, by omega⟩, ⟨by omega, by omega⟩, hW, hB_G_13, hF, ((Fr.rf.call hq_2 (by decide) (by decide)).call hq_14 (by decide) (by decide)), hS, lv_sub hl [0, 1, 4, 5] rfl⟩
    · have c_25 : x_17.toInt < (G.1 66 85).toInt := xI_nle rfl rfl c_25
      refine lv_iload hx hb dX12_fits_27 (lv_at hl 1 rfl) ?_
      refine lv_if_eq (tgt := 86) hx hb dX12_fits_29 (by decide) (fun c_32 => ?_) (fun c_32 => ?_)
      · have c_32 : x_18.toInt = 0 := xI_eq rfl rfl c_32
        refine lv_iload_n hx hb dX12_fits_86 rfl (lv_at hl 3 rfl) ?_
        refine lv_iload hx hb dX12_fits_87 (lv_at hl 1 rfl) ?_
        refine lv_if_eq (tgt := 98) hx hb dX12_fits_89 (by decide) (fun c_33 => ?_) (fun c_33 => ?_)
        · have c_33 : x_18.toInt = 0 := xI_eq rfl rfl c_33
          refine lv_iconst (v := 0) hx hb dX12_fits_98 (by decide) ?_
          refine lv_ior hx hb dX12_fits_99 ?_
          refine lv_topi (fun y_34 ey_34 => ?_)
          have ty_34 := or6 ey_34 ⟨by omega, by omega⟩ ⟨by omega, by omega⟩
          refine lv_istore_n (lv' := [(2, .int y_34), (5, .int x_17), (4, .int x_18), (3, .int x_5), (0, .ref (a 66)), (1, .int p0)]) hx hb dX12_fits_100 rfl hl (by decide) rfl (fun ls hl => ?_)
          obtain ⟨y_35, ey_35⟩ : ∃ q, q = x_5 + 1 := ⟨_, rfl⟩
          have ty_35 : y_35.toInt = x_5.toInt + 1 := xI_add rfl rfl ey_35 (by omega) (by omega)
          refine lv_iinc (v := y_35) (lv' := [(3, .int y_35), (2, .int y_34), (5, .int x_17), (4, .int x_18), (0, .ref (a 66)), (1, .int p0)]) hx hb dX12_fits_101 hl (k := 3) rfl (by rw [ey_35]; rfl) (by decide) rfl (fun ls hl => ?_)
          refine lv_goto (tgt := 4) hx hb dX12_fits_104 (by decide) ?_
          exact ih_3 (6 - y_35.toInt : Int).toNat (by omega) _ _ _ ⟨G_13, y_35, y_34, (Int.toNat_of_nonneg (by omega)), ⟨by omega, by omega⟩, ⟨by omega, by omega⟩, hW, hB_G_13, hF, ((Fr.rf.call hq_2 (by decide) (by decide)).call hq_14 (by decide) (by decide)), hS, lv_sub hl [0, 1, 4, 5] rfl⟩
        · have c_33 : x_18.toInt ≠ 0 := xI_ne rfl rfl c_33
          exfalso; omega
      · have c_32 : x_18.toInt ≠ 0 := xI_ne rfl rfl c_32
        refine lv_aload_n hx hb dX12_fits_32 rfl (lv_at hl 4 rfl) ?_
        refine lv_iload hx hb dX12_fits_33 (lv_at hl 0 rfl) ?_
        refine lv_iload_n hx hb dX12_fits_35 rfl (lv_at hl 5 rfl) ?_
        refine S_calli (va_runV (As := [.int x_17, .int p0]) (rest := []) ⟨hx, hb, hml, hown, hts⟩ (n_counts l D k A a z G_13 x_17 p0 ⟨by omega, by omega⟩) (cwV 2 hts (gd_V hgd m2055 m2057 m115 m131 m2058) rfl rfl rfl (by decide +kernel) ⟨Nat.le_of_ble_eq_true rfl, Nat.le_of_ble_eq_true rfl⟩) (pre_V hW hB_G_13 hK hZ hS kd_66 rfl) rfl rfl hl.1 rfl (lv_room (Nat.le_of_ble_eq_true rfl)) dX12_fits_36 ⟨Nat.le_of_ble_eq_true rfl, Nat.le_of_ble_eq_true rfl⟩) hS (fun r_36 G_37 H locs hpo hW hS => ?_)
        obtain ⟨hB_G_37, hq_38, f_40⟩ := hpo
        have hF := hF.call hq_38 (by decide) (by decide)
        refine lv_if_ne (tgt := 45) hx hb dX12_fits_39 (by decide) (fun c_41 => ?_) (fun c_41 => ?_)
        · have c_41 : r_36.toInt ≠ 0 := xI_ne rfl rfl c_41
          refine lv_aload_n hx hb dX12_fits_45 rfl (lv_at hl 4 rfl) ?_
          refine lv_aload_n hx hb dX12_fits_46 rfl (lv_at hl 4 rfl) ?_
          refine S_getR (n := 112) (C := RX12) (T := TX12) (N := 89) hx hb hg iX12 hown hK hW kd_66 rfl 80 (by decide) (hg (Cond.fieldLink RX12 157 "SlabWalkModel" "sightWho" "[I") m1394) (fun _ h9 => h9) rfl dX12_fits_47 ?_
          refine lv_iload hx hb dX12_fits_50 (lv_at hl 0 rfl) ?_
          refine S_iald hx hb hK hW kd_112 (vin (by omega) (by omega)) dX12_fits_52 (fun y_42 ey_42 => ?_)
          have ty_42 : 0 ≤ y_42.toInt ∧ y_42.toInt ≤ 3 := hB_G_37.v ey_42 rfl rfl
          refine lv_aload_n hx hb dX12_fits_53 rfl (lv_at hl 4 rfl) ?_
          refine S_getR (n := 113) (C := RX12) (T := TX12) (N := 89) hx hb hg iX12 hown hK hW kd_66 rfl 81 (by decide) (hg (Cond.fieldLink RX12 160 "SlabWalkModel" "sightWhere" "[I") m1395) (fun _ h9 => h9) rfl dX12_fits_54 ?_
          refine lv_iload hx hb dX12_fits_57 (lv_at hl 0 rfl) ?_
          refine S_iald hx hb hK hW kd_113 (vin (by omega) (by omega)) dX12_fits_59 (fun y_43 ey_43 => ?_)
          have ty_43 : 0 ≤ y_43.toInt ∧ y_43.toInt ≤ 2 := hB_G_37.v ey_43 rfl rfl
          refine lv_iconst (v := 1) hx hb dX12_fits_60 (by decide) ?_
          refine lv_iload_n hx hb dX12_fits_61 rfl (lv_at hl 2 rfl) ?_
          refine lv_ishl hx hb dX12_fits_62 ?_
          refine lv_topi (fun y_44 ey_44 => ?_)
          have ty_44 := sh5 (Y := x_5.toInt) rfl ey_44 rfl (by omega) (by omega)
          have g_45 : gP G_37 = gP G := gP_fr (rs := [76, 97, 98]) (fs := [(66, 59), (66, 60), (66, 61), (66, 62), (66, 63)]) (((Fr.rf.call hq_2 (by decide) (by decide)).call hq_14 (by decide) (by decide)).call hq_38 (by decide) (by decide)) (by decide) (by decide)
          refine S_callv (va_runV (As := [.int y_42, .int y_43, .int y_44]) (rest := []) ⟨hx, hb, hml, hown, hts⟩ (n_layStreet l D k A a z G_37 y_42 y_43 y_44 ⟨by omega, by omega⟩ ⟨by omega, by omega⟩ (by omega)) (cwV 3 hts (gd_V hgd m1834 m1836 m91 m131 m1837) rfl rfl rfl (by decide +kernel) ⟨Nat.le_of_ble_eq_true rfl, Nat.le_of_ble_eq_true rfl⟩) (pre_V hW hB_G_37 hK hZ hS kd_66 rfl) rfl rfl hl.1 rfl (lv_room (Nat.le_of_ble_eq_true rfl)) dX12_fits_63 ⟨Nat.le_of_ble_eq_true rfl, Nat.le_of_ble_eq_true rfl⟩) hS (fun G_47 H locs hpo hW hS => ?_)
          obtain ⟨hB_G_47, hq_48, hp_49⟩ := hpo
          have hF := hF.call hq_48 (by decide) (by decide)
          refine lv_aload_n hx hb dX12_fits_66 rfl (lv_at hl 4 rfl) ?_
          refine S_getR (n := 98) (C := RX12) (T := TX12) (N := 89) hx hb hg iX12 hown hK hW kd_66 rfl 58 (by decide) (hg (Cond.fieldLink RX12 115 "SlabWalkModel" "lawful" "[Z") m1372) (fun _ h9 => h9) rfl dX12_fits_67 ?_
          refine lv_aload_n hx hb dX12_fits_70 rfl (lv_at hl 4 rfl) ?_
          refine S_getR (n := 114) (C := RX12) (T := TX12) (N := 89) hx hb hg iX12 hown hK hW kd_66 rfl 82 (by decide) (hg (Cond.fieldLink RX12 163 "SlabWalkModel" "sightHeel" "[I") m1396) (fun _ h9 => h9) rfl dX12_fits_71 ?_
          refine lv_iload hx hb dX12_fits_74 (lv_at hl 0 rfl) ?_
          refine S_iald hx hb hK hW kd_114 (vin (by omega) (by omega)) dX12_fits_76 (fun y_50 ey_50 => ?_)
          have ty_50 : 0 ≤ y_50.toInt ∧ y_50.toInt ≤ 399 := hB_G_47.v ey_50 rfl rfl
          refine S_zald hx hb hK hW kd_98 (vin (by omega) (by omega)) dX12_fits_77 (fun y_51 ey_51 => ?_)
          have ty_51 := hB_G_47.law ey_51
          refine lv_istore (lv' := [(4, .int y_51), (5, .int x_17), (3, .int x_5), (2, .int x_6), (0, .ref (a 66)), (1, .int p0)]) hx hb dX12_fits_78 hl (by decide) rfl (fun ls hl => ?_)
          obtain ⟨y_52, ey_52⟩ : ∃ q, q = x_17 + 1 := ⟨_, rfl⟩
          have ty_52 : y_52.toInt = x_17.toInt + 1 := xI_add rfl rfl ey_52 (by omega) (by omega)
          refine lv_iinc (v := y_52) (lv' := [(5, .int y_52), (4, .int y_51), (3, .int x_5), (2, .int x_6), (0, .ref (a 66)), (1, .int p0)]) hx hb dX12_fits_80 hl (k := 1) rfl (by rw [ey_52]; rfl) (by decide) rfl (fun ls hl => ?_)
          refine lv_goto (tgt := 18) hx hb dX12_fits_83 (by decide) ?_
          exact ih_15 (20 - y_52.toInt : Int).toNat (by omega) _ _ _ ⟨G_47, y_52, y_51, (Int.toNat_of_nonneg (by omega)), ⟨by omega, by omega⟩, ⟨by omega, by omega⟩, hW, hB_G_47, hF, (((Fr.rf.call hq_14 (by decide) (by decide)).call hq_38 (by decide) (by decide)).call hq_48 (by decide) (by decide)), hS, lv_sub hl [0, 1, 2, 3, 4, 5] rfl⟩
        · have c_41 : r_36.toInt = 0 := xI_eq rfl rfl c_41
          refine lv_goto (tgt := 80) hx hb dX12_fits_42 (by decide) ?_
          obtain ⟨y_53, ey_53⟩ : ∃ q, q = x_17 + 1 := ⟨_, rfl⟩
          have ty_53 : y_53.toInt = x_17.toInt + 1 := xI_add rfl rfl ey_53 (by omega) (by omega)
          refine lv_iinc (v := y_53) (lv' := [(5, .int y_53), (4, .int x_18), (3, .int x_5), (2, .int x_6), (0, .ref (a 66)), (1, .int p0)]) hx hb dX12_fits_80 hl (k := 0) rfl (by rw [ey_53]; rfl) (by decide) rfl (fun ls hl => ?_)
          refine lv_goto (tgt := 18) hx hb dX12_fits_83 (by decide) ?_
          exact ih_15 (20 - y_53.toInt : Int).toNat (by omega) _ _ _ ⟨G_37, y_53, x_18, (Int.toNat_of_nonneg (by omega)), ⟨by omega, by omega⟩, ⟨by omega, by omega⟩, hW, hB_G_37, hF, ((Fr.rf.call hq_14 (by decide) (by decide)).call hq_38 (by decide) (by decide)), hS, lv_sub hl [0, 1, 2, 3, 4, 5] rfl⟩
