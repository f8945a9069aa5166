theorem m64 : Cond.selects RX12 yX12_wrongAt yX12_wrongAt ∈ gd := gd_mem 64 (by decide +kernel) (by decide +kernel)
theorem m65 : Cond.selects RX12 yX12_pave yX12_pave ∈ gd := gd_mem 65 (by decide +kernel) (by decide +kernel)
theorem m1690 : Cond.methodLink RX12 362 yX12_wrongAt ∈ gd := gd_mem 1690 (by decide +kernel) (by decide +kernel)
theorem m1692 : Cond.instanceMethod yX12_wrongAt ∈ gd := gd_mem 1692 (by decide +kernel) (by decide +kernel)
theorem m1693 : Cond.code yX12_wrongAt cX12_wrongAt 3 none ∈ gd := gd_mem 1693 (by decide +kernel) (by decide +kernel)
theorem m1694 : Cond.methodLink RX12 365 yX12_pave ∈ gd := gd_mem 1694 (by decide +kernel) (by decide +kernel)
theorem m1696 : Cond.instanceMethod yX12_pave ∈ gd := gd_mem 1696 (by decide +kernel) (by decide +kernel)
theorem m1697 : Cond.code yX12_pave cX12_pave 6 none ∈ gd := gd_mem 1697 (by decide +kernel) (by decide +kernel)
theorem dX12_readSlab_0 : decode cX12_readSlab 0 = .ok (.aload_n 0, 1) := by decide +kernel
theorem dX12_readSlab_1 : decode cX12_readSlab 1 = .ok (.getfield 195, 3) := by decide +kernel
theorem dX12_readSlab_4 : decode cX12_readSlab 4 = .ok (.istore_n 3, 1) := by decide +kernel
theorem dX12_readSlab_5 : decode cX12_readSlab 5 = .ok (.aload_n 0, 1) := by decide +kernel
theorem dX12_readSlab_6 : decode cX12_readSlab 6 = .ok (.iconst 1, 1) := by decide +kernel
theorem dX12_readSlab_7 : decode cX12_readSlab 7 = .ok (.bipush 60, 2) := by decide +kernel
theorem dX12_readSlab_9 : decode cX12_readSlab 9 = .ok (.invokevirtual 289, 3) := by decide +kernel
theorem dX12_readSlab_12 : decode cX12_readSlab 12 = .ok (.istore 4, 2) := by decide +kernel
theorem dX12_readSlab_14 : decode cX12_readSlab 14 = .ok (.iload_n 2, 1) := by decide +kernel
theorem dX12_readSlab_15 : decode cX12_readSlab 15 = .ok (.ifCond .ne 7, 3) := by decide +kernel
theorem dX12_readSlab_18 : decode cX12_readSlab 18 = .ok (.iconst 0, 1) := by decide +kernel
theorem dX12_readSlab_19 : decode cX12_readSlab 19 = .ok (.goto 4, 3) := by decide +kernel
theorem dX12_readSlab_22 : decode cX12_readSlab 22 = .ok (.iload_n 1, 1) := by decide +kernel
theorem dX12_readSlab_23 : decode cX12_readSlab 23 = .ok (.istore 5, 2) := by decide +kernel
theorem dX12_readSlab_25 : decode cX12_readSlab 25 = .ok (.aload_n 0, 1) := by decide +kernel
theorem dX12_readSlab_26 : decode cX12_readSlab 26 = .ok (.getfield 218, 3) := by decide +kernel
theorem dX12_readSlab_29 : decode cX12_readSlab 29 = .ok (.ifCond .ne 30, 3) := by decide +kernel
theorem dX12_readSlab_32 : decode cX12_readSlab 32 = .ok (.aload_n 0, 1) := by decide +kernel
theorem dX12_readSlab_33 : decode cX12_readSlab 33 = .ok (.getfield 57, 3) := by decide +kernel
theorem dX12_readSlab_36 : decode cX12_readSlab 36 = .ok (.aload_n 0, 1) := by decide +kernel
theorem dX12_readSlab_37 : decode cX12_readSlab 37 = .ok (.getfield 359, 3) := by decide +kernel
theorem dX12_readSlab_40 : decode cX12_readSlab 40 = .ok (.iaload, 1) := by decide +kernel
theorem dX12_readSlab_41 : decode cX12_readSlab 41 = .ok (.iload 5, 2) := by decide +kernel
theorem dX12_readSlab_43 : decode cX12_readSlab 43 = .ok (.iadd, 1) := by decide +kernel
theorem dX12_readSlab_44 : decode cX12_readSlab 44 = .ok (.iload 4, 2) := by decide +kernel
theorem dX12_readSlab_46 : decode cX12_readSlab 46 = .ok (.iadd, 1) := by decide +kernel
theorem dX12_readSlab_47 : decode cX12_readSlab 47 = .ok (.sipush 400, 3) := by decide +kernel
theorem dX12_readSlab_50 : decode cX12_readSlab 50 = .ok (.if_icmp .le 9, 3) := by decide +kernel
theorem dX12_readSlab_53 : decode cX12_readSlab 53 = .ok (.aload_n 0, 1) := by decide +kernel
theorem dX12_readSlab_54 : decode cX12_readSlab 54 = .ok (.iconst 4, 1) := by decide +kernel
theorem dX12_readSlab_55 : decode cX12_readSlab 55 = .ok (.iload_n 3, 1) := by decide +kernel
theorem dX12_readSlab_56 : decode cX12_readSlab 56 = .ok (.invokevirtual 362, 3) := by decide +kernel
theorem dX12_readSlab_59 : decode cX12_readSlab 59 = .ok (.iconst 0, 1) := by decide +kernel
theorem dX12_readSlab_60 : decode cX12_readSlab 60 = .ok (.istore 6, 2) := by decide +kernel
theorem dX12_readSlab_62 : decode cX12_readSlab 62 = .ok (.iconst 1, 1) := by decide +kernel
theorem dX12_readSlab_63 : decode cX12_readSlab 63 = .ok (.istore 7, 2) := by decide +kernel
theorem dX12_readSlab_65 : decode cX12_readSlab 65 = .ok (.iload 7, 2) := by decide +kernel
theorem dX12_readSlab_67 : decode cX12_readSlab 67 = .ok (.ifCond .eq 83, 3) := by decide +kernel
theorem dX12_readSlab_70 : decode cX12_readSlab 70 = .ok (.aload_n 0, 1) := by decide +kernel
theorem dX12_readSlab_71 : decode cX12_readSlab 71 = .ok (.getfield 218, 3) := by decide +kernel
theorem dX12_readSlab_74 : decode cX12_readSlab 74 = .ok (.ifCond .ne 76, 3) := by decide +kernel
theorem dX12_readSlab_77 : decode cX12_readSlab 77 = .ok (.aload_n 0, 1) := by decide +kernel
theorem dX12_readSlab_78 : decode cX12_readSlab 78 = .ok (.getfield 205, 3) := by decide +kernel
theorem dX12_readSlab_81 : decode cX12_readSlab 81 = .ok (.iconst 1, 1) := by decide +kernel
theorem dX12_readSlab_82 : decode cX12_readSlab 82 = .ok (.if_icmp .ne 14, 3) := by decide +kernel
theorem dX12_readSlab_85 : decode cX12_readSlab 85 = .ok (.aload_n 0, 1) := by decide +kernel
theorem dX12_readSlab_86 : decode cX12_readSlab 86 = .ok (.invokevirtual 245, 3) := by decide +kernel
theorem dX12_readSlab_89 : decode cX12_readSlab 89 = .ok (.ifCond .le 7, 3) := by decide +kernel
theorem dX12_readSlab_92 : decode cX12_readSlab 92 = .ok (.iconst 1, 1) := by decide +kernel
theorem dX12_readSlab_93 : decode cX12_readSlab 93 = .ok (.goto 4, 3) := by decide +kernel
theorem dX12_readSlab_96 : decode cX12_readSlab 96 = .ok (.iconst 0, 1) := by decide +kernel
theorem dX12_readSlab_97 : decode cX12_readSlab 97 = .ok (.istore 7, 2) := by decide +kernel
theorem dX12_readSlab_99 : decode cX12_readSlab 99 = .ok (.iload 7, 2) := by decide +kernel
theorem dX12_readSlab_101 : decode cX12_readSlab 101 = .ok (.ifCond .eq 18, 3) := by decide +kernel
theorem dX12_readSlab_104 : decode cX12_readSlab 104 = .ok (.iload 6, 2) := by decide +kernel
theorem dX12_readSlab_106 : decode cX12_readSlab 106 = .ok (.aload_n 0, 1) := by decide +kernel
theorem dX12_readSlab_107 : decode cX12_readSlab 107 = .ok (.invokevirtual 245, 3) := by decide +kernel
theorem dX12_readSlab_110 : decode cX12_readSlab 110 = .ok (.iand, 1) := by decide +kernel
theorem dX12_readSlab_111 : decode cX12_readSlab 111 = .ok (.ifCond .eq 8, 3) := by decide +kernel
theorem dX12_readSlab_114 : decode cX12_readSlab 114 = .ok (.aload_n 0, 1) := by decide +kernel
theorem dX12_readSlab_115 : decode cX12_readSlab 115 = .ok (.iconst 2, 1) := by decide +kernel
theorem dX12_readSlab_116 : decode cX12_readSlab 116 = .ok (.invokevirtual 282, 3) := by decide +kernel
theorem dX12_readSlab_119 : decode cX12_readSlab 119 = .ok (.iload 7, 2) := by decide +kernel
theorem dX12_readSlab_121 : decode cX12_readSlab 121 = .ok (.ifCond .eq (-56), 3) := by decide +kernel
theorem dX12_readSlab_124 : decode cX12_readSlab 124 = .ok (.aload_n 0, 1) := by decide +kernel
theorem dX12_readSlab_125 : decode cX12_readSlab 125 = .ok (.getfield 218, 3) := by decide +kernel
theorem dX12_readSlab_128 : decode cX12_readSlab 128 = .ok (.ifCond .le 6, 3) := by decide +kernel
theorem dX12_readSlab_131 : decode cX12_readSlab 131 = .ok (.goto (-66), 3) := by decide +kernel
theorem dX12_readSlab_134 : decode cX12_readSlab 134 = .ok (.iload 6, 2) := by decide +kernel
theorem dX12_readSlab_136 : decode cX12_readSlab 136 = .ok (.aload_n 0, 1) := by decide +kernel
theorem dX12_readSlab_137 : decode cX12_readSlab 137 = .ok (.invokevirtual 245, 3) := by decide +kernel
theorem dX12_readSlab_140 : decode cX12_readSlab 140 = .ok (.ior, 1) := by decide +kernel
theorem dX12_readSlab_141 : decode cX12_readSlab 141 = .ok (.istore 6, 2) := by decide +kernel
theorem dX12_readSlab_143 : decode cX12_readSlab 143 = .ok (.aload_n 0, 1) := by decide +kernel
theorem dX12_readSlab_144 : decode cX12_readSlab 144 = .ok (.invokevirtual 279, 3) := by decide +kernel
theorem dX12_readSlab_147 : decode cX12_readSlab 147 = .ok (.goto (-82), 3) := by decide +kernel
theorem dX12_readSlab_150 : decode cX12_readSlab 150 = .ok (.aload_n 0, 1) := by decide +kernel
theorem dX12_readSlab_151 : decode cX12_readSlab 151 = .ok (.getfield 218, 3) := by decide +kernel
theorem dX12_readSlab_154 : decode cX12_readSlab 154 = .ok (.ifCond .le 4, 3) := by decide +kernel
theorem dX12_readSlab_157 : decode cX12_readSlab 157 = .ok (.return_, 1) := by decide +kernel
theorem dX12_readSlab_158 : decode cX12_readSlab 158 = .ok (.aload_n 0, 1) := by decide +kernel
theorem dX12_readSlab_159 : decode cX12_readSlab 159 = .ok (.iconst (-1), 1) := by decide +kernel
theorem dX12_readSlab_160 : decode cX12_readSlab 160 = .ok (.iload_n 2, 1) := by decide +kernel
theorem dX12_readSlab_161 : decode cX12_readSlab 161 = .ok (.iconst 1, 1) := by decide +kernel
theorem dX12_readSlab_162 : decode cX12_readSlab 162 = .ok (.isub, 1) := by decide +kernel
theorem dX12_readSlab_163 : decode cX12_readSlab 163 = .ok (.iload 5, 2) := by decide +kernel
theorem dX12_readSlab_165 : decode cX12_readSlab 165 = .ok (.invokevirtual 365, 3) := by decide +kernel
theorem dX12_readSlab_168 : decode cX12_readSlab 168 = .ok (.aload_n 0, 1) := by decide +kernel
theorem dX12_readSlab_169 : decode cX12_readSlab 169 = .ok (.iload 6, 2) := by decide +kernel
theorem dX12_readSlab_171 : decode cX12_readSlab 171 = .ok (.iload_n 2, 1) := by decide +kernel
theorem dX12_readSlab_172 : decode cX12_readSlab 172 = .ok (.iload 4, 2) := by decide +kernel
theorem dX12_readSlab_174 : decode cX12_readSlab 174 = .ok (.invokevirtual 365, 3) := by decide +kernel
theorem dX12_readSlab_177 : decode cX12_readSlab 177 = .ok (.return_, 1) := by decide +kernel
set_option maxHeartbeats 4000000 in
set_option maxRecDepth 100000 in
theorem n_readSlab (l : Launch) (D : va_G) (k : KT) (A : Nat → Prop) (a : Nat → Nat) (z : SK) (G : GS) (p0 : Int32) (p1 : Int32) (j0 : Nat) (hj0 : (G.1 66 45).toNatClampNeg = j0) (ha_p0 : 0 ≤ p0.toInt ∧ p0.toInt ≤ 9) (hnf : (G.1 66 2).toInt = 0) (hs : (G.1 66 45).toInt < 3) : Met l yX12_readSlab (WS yX12_readSlab cX12_readSlab 8 none) ({ frames := 3, cells := 0, slots := 0, locals := 66 }) (va_Pc [.ref (a 66), .int p0, .int p1] (cW D k A a z G)) (va_Qv (fun (G1 : GS) => Bd G1 ∧ Fr [77, 78, 79, 80, 81] [(66, 2), (66, 3), (66, 4), (66, 6), (66, 7), (66, 8), (66, 9)] G G1 ∧ ((G.1 66 4).toInt ≤ (G1.1 66 4).toInt ∧ ((G1.1 66 4).toInt = (G.1 66 4).toInt → (G1.1 66 6).toInt = (G.1 66 6).toInt ∨ (G1.1 66 6).toInt ≤ 3) ∧ (G.1 81 j0).toInt ≤ (G1.1 81 j0).toInt ∧ (G1.1 81 j0).toInt ≤ 400 ∧ ((G1.1 66 2).toInt = 0 → (G.1 81 j0).toInt + 1 ≤ (G1.1 81 j0).toInt))) (fun (G1 : GS) t => Wd D k A a G1 t.heap) A) 0 0 A := by
  refine Met.ofW (cc := cX12_readSlab) (maxL := 8) (ret := none) (by decide) rfl ?_
  intro p e s m args below meth c s₁ B hml hv
  obtain ⟨rfl, hW, hB_G, hK, hZ⟩ := hv
  have hx := B.exec
  have hb := B.bytes
  have hr := B.returns
  have hts := atoms_spec (ws := WS yX12_readSlab cX12_readSlab 8 none) B.pre
  have hgd : ∀ w ∈ gd, w ∈ WS yX12_readSlab cX12_readSlab 8 none := fun w h => List.mem_cons_of_mem _ h
  have hg : ∀ w ∈ gd, w.before _ s = true := fun w h => hts w (hgd w h)
  have hown : s.vm.findClass RX12 = some m.cls := findClass_of_methodNamed B.named
  have hS : va_S A s.heap s.heap [] := va_S.rf
  have hF : Fr [77, 78, 79, 80, 81] [(66, 2), (66, 3), (66, 4), (66, 6), (66, 7), (66, 8), (66, 9)] G G := Fr.rf
  have hl := lv_entry ([.ref (a 66), .int p0, .int p1]) (n := 8) (Nat.le_of_ble_eq_true rfl)
  rw [lg_entry_eq]
  generalize (lg_sl ([.ref (a 66), .int p0, .int p1]) ++ List.replicate (8 - (lg_sl ([.ref (a 66), .int p0, .int p1])).length) Slot.unset).toArray = ls at hl ⊢
  have hl : lv_has ls 8 [(0, .ref (a 66)), (1, .int p0), (2, .int p1)] := hl
  subst hj0
  have b_1 : 0 ≤ (G.1 81 (G.1 66 45).toNatClampNeg).toInt ∧ (G.1 81 (G.1 66 45).toNatClampNeg).toInt ≤ 400 := hB_G.i 81 _ rfl rfl
  refine lv_aload_n hx hb dX12_readSlab_0 rfl (lv_at hl 0 rfl) ?_
  have b_2 : 0 ≤ (G.1 66 7).toInt ∧ (G.1 66 7).toInt ≤ 1600 := hB_G.i 66 7 rfl rfl
  refine S_getI (v := (G.1 66 7)) (C := RX12) (T := TX12) (N := 89) hx hb hg iX12 hown hK hW kd_66 rfl 7 (by decide) (hg (Cond.fieldLink RX12 195 "SlabWalkModel" "place" "I") m1321) (fun _ h9 => h9) rfl rfl dX12_readSlab_1 ?_
  refine lv_istore_n (lv' := [(3, .int (G.1 66 7)), (0, .ref (a 66)), (1, .int p0), (2, .int p1)]) hx hb dX12_readSlab_4 rfl hl (by decide) rfl (fun ls hl => ?_)
  refine lv_aload_n hx hb dX12_readSlab_5 rfl (lv_at hl 1 rfl) ?_
  refine lv_iconst (v := 1) hx hb dX12_readSlab_6 (by decide) ?_
  refine lv_bipush (v := 60) hx hb dX12_readSlab_7 (by decide) ?_
  have qc_3 : (1 : Int32).toInt = 1 := rfl
  have qc_4 : (60 : Int32).toInt = 60 := rfl
  refine S_calli (va_runV (As := [.int 1, .int 60]) (rest := []) ⟨hx, hb, hml, hown, hts⟩ (n_told l D k A a z G 1 60 ) (cwV 2 hts (gd_V hgd m1682 m1684 m62 m131 m1685) rfl rfl rfl (by decide +kernel) ⟨Nat.le_of_ble_eq_true rfl, Nat.le_of_ble_eq_true rfl⟩) (pre_V hW hB_G hK hZ hS kd_66 rfl) rfl rfl hl.1 rfl (lv_room (Nat.le_of_ble_eq_true rfl)) dX12_readSlab_9 ⟨Nat.le_of_ble_eq_true rfl, Nat.le_of_ble_eq_true rfl⟩) hS (fun r_5 G_6 H locs hpo hW hS => ?_)
  obtain ⟨hB_G_6, hq_7, hp_8⟩ := hpo
  have hF := hF.call hq_7 (by decide) (by decide)
  refine lv_istore (lv' := [(4, .int r_5), (3, .int (G.1 66 7)), (0, .ref (a 66)), (1, .int p0), (2, .int p1)]) hx hb dX12_readSlab_12 hl (by decide) rfl (fun ls hl => ?_)
  refine lv_iload_n hx hb dX12_readSlab_14 rfl (lv_at hl 4 rfl) ?_
  refine W.cut (σ := Int32) (pcJ := 23) (J := fun y H locs ls => ∃ (G_14 : GS), (0 ≤ y.toInt ∧ y.toInt ≤ 9) ∧ Wd D k A a G_14 H ∧ Bd G_14 ∧ Fr [77, 78, 79, 80, 81] [(66, 2), (66, 3), (66, 4), (66, 6), (66, 7), (66, 8), (66, 9)] G G_14 ∧ Fr [] [] G_6 G_14 ∧ va_S A s.heap H locs ∧ lv_has ls 8 [(4, .int r_5), (3, .int (G.1 66 7)), (0, .ref (a 66)), (2, .int p1)]) (stJ := fun y => [.int y]) ?_ (fun hJ_15 => ?_)
  · intro y H locs ls hI
    obtain ⟨w_13, hy⟩ : ∃ q, q = y := ⟨_, rfl⟩
    subst hy
    obtain ⟨G_14, f_17, hW, hB_G_14, hF, hq_16, hS, hl⟩ := hI
    refine lv_istore (lv' := [(5, .int w_13), (4, .int r_5), (3, .int (G.1 66 7)), (0, .ref (a 66)), (2, .int p1)]) hx hb dX12_readSlab_23 hl (by decide) rfl (fun ls hl => ?_)
    refine lv_aload_n hx hb dX12_readSlab_25 rfl (lv_at hl 3 rfl) ?_
    have b_18 : 0 ≤ (G_6.1 66 2).toInt ∧ (G_6.1 66 2).toInt ≤ 4 := hB_G_6.i 66 2 rfl rfl
    refine S_getI (v := (G_6.1 66 2)) (C := RX12) (T := TX12) (N := 89) hx hb hg iX12 hown hK hW kd_66 rfl 2 (by decide) (hg (Cond.fieldLink RX12 218 "SlabWalkModel" "fault" "I") m1316) (fun _ h9 => h9) rfl (hq_16.i 66 2 (by decide) (by decide)) dX12_readSlab_26 ?_
    refine W.cut (σ := Unit) (pcJ := 59) (J := fun y H locs ls => ∃ (G_23 : GS), (1 ≤ (G_23.1 66 2).toInt ∨ (1 ≤ r_5.toInt ∧ r_5.toInt ≤ 60 ∧ (G_23.1 81 (G.1 66 45).toNatClampNeg).toInt + w_13.toInt + r_5.toInt ≤ 400)) ∧ Wd D k A a G_23 H ∧ Bd G_23 ∧ Fr [77, 78, 79, 80, 81] [(66, 2), (66, 3), (66, 4), (66, 6), (66, 7), (66, 8), (66, 9)] G G_23 ∧ Fr [] [(66, 2), (66, 3)] G_14 G_23 ∧ va_S A s.heap H locs ∧ lv_has ls 8 [(5, .int w_13), (4, .int r_5), (0, .ref (a 66)), (2, .int p1)]) (stJ := fun _ => []) ?_ (fun hJ_24 => ?_)
    · intro y H locs ls hI
      obtain ⟨G_23, f_26, hW, hB_G_23, hF, hq_25, hS, hl⟩ := hI
      have g_27 : (G_23.1 81 (G.1 66 45).toNatClampNeg).toInt = (G.1 81 (G.1 66 45).toNatClampNeg).toInt := by rw [show G_23.1 81 (G.1 66 45).toNatClampNeg = (G.1 81 (G.1 66 45).toNatClampNeg) from ((hq_25.ri 81 (by decide) (by decide) ((G.1 66 45).toNatClampNeg)).trans ((hq_16.ri 81 (by decide) (by decide) ((G.1 66 45).toNatClampNeg)).trans (hq_7.ri 81 (by decide) (by decide) ((G.1 66 45).toNatClampNeg))))]
      have b_28 : 0 ≤ (G_23.1 66 2).toInt ∧ (G_23.1 66 2).toInt ≤ 4 := hB_G_23.i 66 2 rfl rfl
      refine lv_iconst (v := 0) hx hb dX12_readSlab_59 (by decide) ?_
      refine lv_istore (lv' := [(6, .int 0), (5, .int w_13), (4, .int r_5), (0, .ref (a 66)), (2, .int p1)]) hx hb dX12_readSlab_60 hl (by decide) rfl (fun ls hl => ?_)
      refine lv_iconst (v := 1) hx hb dX12_readSlab_62 (by decide) ?_
      refine lv_istore (lv' := [(7, .int 1), (6, .int 0), (5, .int w_13), (4, .int r_5), (0, .ref (a 66)), (2, .int p1)]) hx hb dX12_readSlab_63 hl (by decide) rfl (fun ls hl => ?_)
      have g_35 : (G_23.1 81 (G.1 66 45).toNatClampNeg).toInt = (G.1 81 (G.1 66 45).toNatClampNeg).toInt := by rw [show G_23.1 81 (G.1 66 45).toNatClampNeg = (G.1 81 (G.1 66 45).toNatClampNeg) from ((hq_25.ri 81 (by decide) (by decide) ((G.1 66 45).toNatClampNeg)).trans ((hq_16.ri 81 (by decide) (by decide) ((G.1 66 45).toNatClampNeg)).trans (hq_7.ri 81 (by decide) (by decide) ((G.1 66 45).toNatClampNeg))))]
      have b_36 : 0 ≤ (G_6.1 66 4).toInt ∧ (G_6.1 66 4).toInt ≤ 1600 := hB_G_6.i 66 4 rfl rfl
      have g_37 : (G_23.1 66 4).toInt = (G_6.1 66 4).toInt := by rw [show G_23.1 66 4 = (G_6.1 66 4) from ((hq_25.i 66 4 (by decide) (by decide)).trans (hq_16.i 66 4 (by decide) (by decide)))]
      have g_38 : (G_23.1 66 6).toInt = (G_6.1 66 6).toInt := by rw [show G_23.1 66 6 = (G_6.1 66 6) from ((hq_25.i 66 6 (by decide) (by decide)).trans (hq_16.i 66 6 (by decide) (by decide)))]
      have qc_39 : (0 : Int32).toInt = 0 := rfl
      have qc_40 : (1 : Int32).toInt = 1 := rfl
      refine loop_N (Inv := fun n H locs ls => ∃ (G_29 : GS) (x_33 : Int32) (x_34 : Int32), (n : Int) = 20 - x_34.toInt + x_33.toInt - (G_29.1 66 2).toInt ∧ (0 ≤ x_33.toInt ∧ x_33.toInt ≤ 1) ∧ (0 ≤ x_34.toInt ∧ x_34.toInt ≤ 15) ∧ (1 ≤ (G_29.1 66 2).toInt ∨ (1 ≤ r_5.toInt ∧ r_5.toInt ≤ 60 ∧ (G_29.1 81 (G.1 66 45).toNatClampNeg).toInt + w_13.toInt + r_5.toInt ≤ 400)) ∧ ((G.1 66 4).toInt ≤ (G_29.1 66 4).toInt ∧ ((G_29.1 66 4).toInt = (G.1 66 4).toInt → (G_29.1 66 6).toInt = (G.1 66 6).toInt ∨ (G_29.1 66 6).toInt ≤ 3)) ∧ Wd D k A a G_29 H ∧ Bd G_29 ∧ Fr [77, 78, 79, 80, 81] [(66, 2), (66, 3), (66, 4), (66, 6), (66, 7), (66, 8), (66, 9)] G G_29 ∧ Fr [] [(66, 2), (66, 3), (66, 4), (66, 6), (66, 7), (66, 8), (66, 9)] G_23 G_29 ∧ va_S A s.heap H locs ∧ lv_has ls 8 [(7, .int x_33), (6, .int x_34), (5, .int w_13), (4, .int r_5), (0, .ref (a 66)), (2, .int p1)]) (fun n_32 H locs ls ih_31 hI => ?_) (20 - 0 + 1 - (G_23.1 66 2).toInt : Int).toNat ⟨G_23, 1, 0, (Int.toNat_of_nonneg (by omega)), ⟨by omega, by omega⟩, ⟨by omega, by omega⟩, (by omega), (by omega), hW, hB_G_23, hF, Fr.rf, hS, lv_sub hl [0, 1, 2, 3, 4, 5] rfl⟩
      obtain ⟨G_29, x_33, x_34, hn_45, f_41, f_42, f_43, f_44, hW, hB_G_29, hF, hq_30, hS, hl⟩ := hI
      have g_46 : (G_29.1 81 (G.1 66 45).toNatClampNeg).toInt = (G.1 81 (G.1 66 45).toNatClampNeg).toInt := by rw [show G_29.1 81 (G.1 66 45).toNatClampNeg = (G.1 81 (G.1 66 45).toNatClampNeg) from ((hq_30.ri 81 (by decide) (by decide) ((G.1 66 45).toNatClampNeg)).trans ((hq_25.ri 81 (by decide) (by decide) ((G.1 66 45).toNatClampNeg)).trans ((hq_16.ri 81 (by decide) (by decide) ((G.1 66 45).toNatClampNeg)).trans (hq_7.ri 81 (by decide) (by decide) ((G.1 66 45).toNatClampNeg)))))]
      have b_47 : 0 ≤ (G_29.1 66 2).toInt ∧ (G_29.1 66 2).toInt ≤ 4 := hB_G_29.i 66 2 rfl rfl
      have b_48 : 0 ≤ (G_29.1 66 4).toInt ∧ (G_29.1 66 4).toInt ≤ 1600 := hB_G_29.i 66 4 rfl rfl
      refine lv_iload hx hb dX12_readSlab_65 (lv_at hl 0 rfl) ?_
      refine W.cut (σ := Unit) (pcJ := 150) (J := fun y H locs ls => ∃ (G_54 : GS), Wd D k A a G_54 H ∧ Bd G_54 ∧ Fr [77, 78, 79, 80, 81] [(66, 2), (66, 3), (66, 4), (66, 6), (66, 7), (66, 8), (66, 9)] G G_54 ∧ Fr [] [] G_29 G_54 ∧ va_S A s.heap H locs ∧ lv_has ls 8 [(6, .int x_34), (5, .int w_13), (4, .int r_5), (0, .ref (a 66)), (2, .int p1)]) (stJ := fun _ => []) ?_ (fun hJ_55 => ?_)
      · intro y H locs ls hI
        obtain ⟨G_54, hW, hB_G_54, hF, hq_56, hS, hl⟩ := hI
        refine lv_aload_n hx hb dX12_readSlab_150 rfl (lv_at hl 3 rfl) ?_
        refine S_getI (v := (G_29.1 66 2)) (C := RX12) (T := TX12) (N := 89) hx hb hg iX12 hown hK hW kd_66 rfl 2 (by decide) (hg (Cond.fieldLink RX12 218 "SlabWalkModel" "fault" "I") m1316) (fun _ h9 => h9) rfl ((hq_56.i 66 2 (by decide) (by decide)).trans (rfl)) dX12_readSlab_151 ?_
        refine lv_if_le (tgt := 158) hx hb dX12_readSlab_154 (by decide) (fun c_57 => ?_) (fun c_57 => ?_)
        · have c_57 : (G_29.1 66 2).toInt ≤ 0 := xI_le rfl rfl c_57
          refine lv_aload_n hx hb dX12_readSlab_158 rfl (lv_at hl 3 rfl) ?_
          refine lv_iconst (v := (-1)) hx hb dX12_readSlab_159 (by decide) ?_
          refine lv_iload_n hx hb dX12_readSlab_160 rfl (lv_at hl 4 rfl) ?_
          refine lv_iconst (v := 1) hx hb dX12_readSlab_161 (by decide) ?_
          refine lv_isub hx hb dX12_readSlab_162 ?_
          refine lv_topi (fun y_58 ey_58 => ?_)
          refine lv_iload hx hb dX12_readSlab_163 (lv_at hl 1 rfl) ?_
          have b_59 : 0 ≤ (G.1 66 45).toInt ∧ (G.1 66 45).toInt ≤ 3 := hB_G.i 66 45 rfl rfl
          have g_60 : (G_54.1 66 45).toInt = (G.1 66 45).toInt := by rw [show G_54.1 66 45 = (G.1 66 45) from ((hq_56.i 66 45 (by decide) (by decide)).trans ((hq_30.i 66 45 (by decide) (by decide)).trans ((hq_25.i 66 45 (by decide) (by decide)).trans ((hq_16.i 66 45 (by decide) (by decide)).trans ((hq_7.i 66 45 (by decide) (by decide)).trans (rfl))))))]
          have g_61 : (G_54.1 81 (G.1 66 45).toNatClampNeg).toInt = (G.1 81 (G.1 66 45).toNatClampNeg).toInt := by rw [show G_54.1 81 (G.1 66 45).toNatClampNeg = (G.1 81 (G.1 66 45).toNatClampNeg) from ((hq_56.ri 81 (by decide) (by decide) ((G.1 66 45).toNatClampNeg)).trans ((hq_30.ri 81 (by decide) (by decide) ((G.1 66 45).toNatClampNeg)).trans ((hq_25.ri 81 (by decide) (by decide) ((G.1 66 45).toNatClampNeg)).trans ((hq_16.ri 81 (by decide) (by decide) ((G.1 66 45).toNatClampNeg)).trans (hq_7.ri 81 (by decide) (by decide) ((G.1 66 45).toNatClampNeg))))))]
          have qc_62 : ((-1) : Int32).toInt = (-1) := rfl
          have g_63 : (G_54.1 81 (G.1 66 45).toNatClampNeg).toInt = (G.1 81 (G.1 66 45).toNatClampNeg).toInt := by rw [show G_54.1 81 (G.1 66 45).toNatClampNeg = (G.1 81 (G.1 66 45).toNatClampNeg) from ((hq_56.ri 81 (by decide) (by decide) ((G.1 66 45).toNatClampNeg)).trans ((hq_30.ri 81 (by decide) (by decide) ((G.1 66 45).toNatClampNeg)).trans ((hq_25.ri 81 (by decide) (by decide) ((G.1 66 45).toNatClampNeg)).trans ((hq_16.ri 81 (by decide) (by decide) ((G.1 66 45).toNatClampNeg)).trans (hq_7.ri 81 (by decide) (by decide) ((G.1 66 45).toNatClampNeg))))))]
          refine S_callv (va_runV (As := [.int (-1), .int y_58, .int w_13]) (rest := []) ⟨hx, hb, hml, hown, hts⟩ (n_pave l D k A a z G_54 (-1) y_58 w_13 ((G.1 66 45).toNatClampNeg) (show (G_54.1 66 45).toNatClampNeg = (G.1 66 45).toNatClampNeg from congrArg Int32.toNatClampNeg (((hq_56.i 66 45 (by decide) (by decide)).trans ((hq_30.i 66 45 (by decide) (by decide)).trans ((hq_25.i 66 45 (by decide) (by decide)).trans ((hq_16.i 66 45 (by decide) (by decide)).trans (hq_7.i 66 45 (by decide) (by decide)))))))) ⟨by omega, by omega⟩ (by omega) (by omega)) (cwV 3 hts (gd_V hgd m1694 m1696 m65 m131 m1697) rfl rfl rfl (by decide +kernel) ⟨Nat.le_of_ble_eq_true rfl, Nat.le_of_ble_eq_true rfl⟩) (pre_V hW hB_G_54 hK hZ hS kd_66 rfl) rfl rfl hl.1 rfl (lv_room (Nat.le_of_ble_eq_true rfl)) dX12_readSlab_165 ⟨Nat.le_of_ble_eq_true rfl, Nat.le_of_ble_eq_true rfl⟩) hS (fun G_65 H locs hpo hW hS => ?_)
          obtain ⟨hB_G_65, hq_66, hp_67⟩ := hpo
          have hF := hF.call hq_66 (by decide) (by decide)
          refine lv_aload_n hx hb dX12_readSlab_168 rfl (lv_at hl 3 rfl) ?_
          refine lv_iload hx hb dX12_readSlab_169 (lv_at hl 0 rfl) ?_
          refine lv_iload_n hx hb dX12_readSlab_171 rfl (lv_at hl 4 rfl) ?_
          refine lv_iload hx hb dX12_readSlab_172 (lv_at hl 2 rfl) ?_
          have g_68 : (G_65.1 66 45).toInt = (G.1 66 45).toInt := by rw [show G_65.1 66 45 = (G.1 66 45) from ((hq_66.i 66 45 (by decide) (by decide)).trans ((hq_56.i 66 45 (by decide) (by decide)).trans ((hq_30.i 66 45 (by decide) (by decide)).trans ((hq_25.i 66 45 (by decide) (by decide)).trans ((hq_16.i 66 45 (by decide) (by decide)).trans ((hq_7.i 66 45 (by decide) (by decide)).trans (rfl)))))))]
          refine S_callv (va_runV (As := [.int x_34, .int p1, .int r_5]) (rest := []) ⟨hx, hb, hml, hown, hts⟩ (n_pave l D k A a z G_65 x_34 p1 r_5 ((G.1 66 45).toNatClampNeg) (show (G_65.1 66 45).toNatClampNeg = (G.1 66 45).toNatClampNeg from congrArg Int32.toNatClampNeg (((hq_66.i 66 45 (by decide) (by decide)).trans ((hq_56.i 66 45 (by decide) (by decide)).trans ((hq_30.i 66 45 (by decide) (by decide)).trans ((hq_25.i 66 45 (by decide) (by decide)).trans ((hq_16.i 66 45 (by decide) (by decide)).trans ((hq_7.i 66 45 (by decide) (by decide)).trans (rfl))))))))) ⟨by omega, by omega⟩ (by omega) (by omega)) (cwV 3 hts (gd_V hgd m1694 m1696 m65 m131 m1697) rfl rfl rfl (by decide +kernel) ⟨Nat.le_of_ble_eq_true rfl, Nat.le_of_ble_eq_true rfl⟩) (pre_V hW hB_G_65 hK hZ hS kd_66 rfl) rfl rfl hl.1 rfl (lv_room (Nat.le_of_ble_eq_true rfl)) dX12_readSlab_174 ⟨Nat.le_of_ble_eq_true rfl, Nat.le_of_ble_eq_true rfl⟩) hS (fun G_70 H locs hpo hW hS => ?_)
          obtain ⟨hB_G_70, hq_71, hp_72⟩ := hpo
          have hF := hF.call hq_71 (by decide) (by decide)
          have g_73 : (G_70.1 66 2).toInt = (G_29.1 66 2).toInt := by rw [show G_70.1 66 2 = (G_29.1 66 2) from ((hq_71.i 66 2 (by decide) (by decide)).trans ((hq_66.i 66 2 (by decide) (by decide)).trans ((hq_56.i 66 2 (by decide) (by decide)).trans (rfl))))]
          have g_74 : (G_70.1 66 4).toInt = (G_29.1 66 4).toInt := by rw [show G_70.1 66 4 = (G_29.1 66 4) from ((hq_71.i 66 4 (by decide) (by decide)).trans ((hq_66.i 66 4 (by decide) (by decide)).trans ((hq_56.i 66 4 (by decide) (by decide)).trans (rfl))))]
          have g_75 : (G_70.1 66 6).toInt = (G_29.1 66 6).toInt := by rw [show G_70.1 66 6 = (G_29.1 66 6) from ((hq_71.i 66 6 (by decide) (by decide)).trans ((hq_66.i 66 6 (by decide) (by decide)).trans ((hq_56.i 66 6 (by decide) (by decide)).trans (rfl))))]
          exact W.vret hx hb hr (fun t ht _ => ⟨⟨G_70, rfl, ⟨hB_G_70, hF, (by omega)⟩, wd_t ht hW⟩, hS.F ht⟩) hS.2.2 dX12_readSlab_177
        · have c_57 : 0 < (G_29.1 66 2).toInt := xI_nle rfl rfl c_57
          have g_76 : (G_54.1 81 (G.1 66 45).toNatClampNeg).toInt = (G.1 81 (G.1 66 45).toNatClampNeg).toInt := by rw [show G_54.1 81 (G.1 66 45).toNatClampNeg = (G.1 81 (G.1 66 45).toNatClampNeg) from ((hq_56.ri 81 (by decide) (by decide) ((G.1 66 45).toNatClampNeg)).trans ((hq_30.ri 81 (by decide) (by decide) ((G.1 66 45).toNatClampNeg)).trans ((hq_25.ri 81 (by decide) (by decide) ((G.1 66 45).toNatClampNeg)).trans ((hq_16.ri 81 (by decide) (by decide) ((G.1 66 45).toNatClampNeg)).trans (hq_7.ri 81 (by decide) (by decide) ((G.1 66 45).toNatClampNeg))))))]
          have g_77 : (G_54.1 66 2).toInt = (G_29.1 66 2).toInt := by rw [show G_54.1 66 2 = (G_29.1 66 2) from ((hq_56.i 66 2 (by decide) (by decide)).trans (rfl))]
          have g_78 : (G_54.1 66 4).toInt = (G_29.1 66 4).toInt := by rw [show G_54.1 66 4 = (G_29.1 66 4) from ((hq_56.i 66 4 (by decide) (by decide)).trans (rfl))]
          have g_79 : (G_54.1 66 6).toInt = (G_29.1 66 6).toInt := by rw [show G_54.1 66 6 = (G_29.1 66 6) from ((hq_56.i 66 6 (by decide) (by decide)).trans (rfl))]
          exact W.vret hx hb hr (fun t ht _ => ⟨⟨G_54, rfl, ⟨hB_G_54, hF, (by omega)⟩, wd_t ht hW⟩, hS.F ht⟩) hS.2.2 dX12_readSlab_157
      refine lv_if_eq (tgt := 150) hx hb dX12_readSlab_67 (by decide) (fun c_80 => ?_) (fun c_80 => ?_)
      · have c_80 : x_33.toInt = 0 := xI_eq rfl rfl c_80
        exact hJ_55 () _ _ _ ⟨G_29, hW, hB_G_29, hF, Fr.rf, hS, lv_sub hl [1, 2, 3, 4, 5] rfl⟩
      · have c_80 : x_33.toInt ≠ 0 := xI_ne rfl rfl c_80
        refine lv_aload_n hx hb dX12_readSlab_70 rfl (lv_at hl 4 rfl) ?_
        refine S_getI (v := (G_29.1 66 2)) (C := RX12) (T := TX12) (N := 89) hx hb hg iX12 hown hK hW kd_66 rfl 2 (by decide) (hg (Cond.fieldLink RX12 218 "SlabWalkModel" "fault" "I") m1316) (fun _ h9 => h9) rfl rfl dX12_readSlab_71 ?_
        refine lv_if_ne (tgt := 150) hx hb dX12_readSlab_74 (by decide) (fun c_81 => ?_) (fun c_81 => ?_)
        · have c_81 : (G_29.1 66 2).toInt ≠ 0 := xI_ne rfl rfl c_81
          exact hJ_55 () _ _ _ ⟨G_29, hW, hB_G_29, hF, Fr.rf, hS, lv_sub hl [1, 2, 3, 4, 5] rfl⟩
        · have c_81 : (G_29.1 66 2).toInt = 0 := xI_eq rfl rfl c_81
          refine lv_aload_n hx hb dX12_readSlab_77 rfl (lv_at hl 4 rfl) ?_
          refine S_getI (v := (G_29.1 66 6)) (C := RX12) (T := TX12) (N := 89) hx hb hg iX12 hown hK hW kd_66 rfl 6 (by decide) (hg (Cond.fieldLink RX12 205 "SlabWalkModel" "sort" "I") m1320) (fun _ h9 => h9) rfl rfl dX12_readSlab_78 ?_
          refine lv_iconst (v := 1) hx hb dX12_readSlab_81 (by decide) ?_
          refine W.cut (σ := Unit) (pcJ := 96) (J := fun y H locs ls => ∃ (G_87 : GS), Wd D k A a G_87 H ∧ Bd G_87 ∧ Fr [77, 78, 79, 80, 81] [(66, 2), (66, 3), (66, 4), (66, 6), (66, 7), (66, 8), (66, 9)] G G_87 ∧ Fr [] [] G_29 G_87 ∧ va_S A s.heap H locs ∧ lv_has ls 8 [(6, .int x_34), (5, .int w_13), (4, .int r_5), (0, .ref (a 66)), (2, .int p1)]) (stJ := fun _ => []) ?_ (fun hJ_88 => ?_)
          · intro y H locs ls hI
            obtain ⟨G_87, hW, hB_G_87, hF, hq_89, hS, hl⟩ := hI
            refine lv_iconst (v := 0) hx hb dX12_readSlab_96 (by decide) ?_
            refine lv_istore (lv' := [(7, .int 0), (6, .int x_34), (5, .int w_13), (4, .int r_5), (0, .ref (a 66)), (2, .int p1)]) hx hb dX12_readSlab_97 hl (by decide) rfl (fun ls hl => ?_)
            refine lv_iload hx hb dX12_readSlab_99 (lv_at hl 0 rfl) ?_
            refine lv_if_eq (tgt := 119) hx hb dX12_readSlab_101 (by decide) (fun c_90 => ?_) (fun c_90 => ?_)
            · have c_90 : (0 : Int) = (0 : Int) := xI_eq rfl rfl c_90
              refine lv_iload hx hb dX12_readSlab_119 (lv_at hl 0 rfl) ?_
              refine lv_if_eq (tgt := 65) hx hb dX12_readSlab_121 (by decide) (fun c_91 => ?_) (fun c_91 => ?_)
              · have c_91 : (0 : Int) = (0 : Int) := xI_eq rfl rfl c_91
                have g_92 : (G_87.1 66 2).toInt = (G_29.1 66 2).toInt := by rw [show G_87.1 66 2 = (G_29.1 66 2) from ((hq_89.i 66 2 (by decide) (by decide)).trans (rfl))]
                have g_93 : (G_87.1 81 (G.1 66 45).toNatClampNeg).toInt = (G.1 81 (G.1 66 45).toNatClampNeg).toInt := by rw [show G_87.1 81 (G.1 66 45).toNatClampNeg = (G.1 81 (G.1 66 45).toNatClampNeg) from ((hq_89.ri 81 (by decide) (by decide) ((G.1 66 45).toNatClampNeg)).trans ((hq_30.ri 81 (by decide) (by decide) ((G.1 66 45).toNatClampNeg)).trans ((hq_25.ri 81 (by decide) (by decide) ((G.1 66 45).toNatClampNeg)).trans ((hq_16.ri 81 (by decide) (by decide) ((G.1 66 45).toNatClampNeg)).trans (hq_7.ri 81 (by decide) (by decide) ((G.1 66 45).toNatClampNeg))))))]
                have g_94 : (G_87.1 66 2).toInt = (G_29.1 66 2).toInt := by rw [show G_87.1 66 2 = (G_29.1 66 2) from ((hq_89.i 66 2 (by decide) (by decide)).trans (rfl))]
                have g_95 : (G_87.1 66 4).toInt = (G_29.1 66 4).toInt := by rw [show G_87.1 66 4 = (G_29.1 66 4) from ((hq_89.i 66 4 (by decide) (by decide)).trans (rfl))]
                have g_96 : (G_87.1 66 6).toInt = (G_29.1 66 6).toInt := by rw [show G_87.1 66 6 = (G_29.1 66 6) from ((hq_89.i 66 6 (by decide) (by decide)).trans (rfl))]
                have qc_97 : (0 : Int32).toInt = 0 := rfl
                exact ih_31 (20 - x_34.toInt + 0 - (G_87.1 66 2).toInt : Int).toNat (by omega) _ _ _ ⟨G_87, 0, x_34, (Int.toNat_of_nonneg (by omega)), ⟨by omega, by omega⟩, ⟨by omega, by omega⟩, (by omega), (by omega), hW, hB_G_87, hF, ((Fr.rf.call hq_30 (by decide) (by decide)).call hq_89 (by decide) (by decide)), hS, lv_sub hl [0, 1, 2, 3, 4, 5] rfl⟩
              · have c_91 : (0 : Int) ≠ (0 : Int) := xI_ne rfl rfl c_91
                exfalso; omega
            · have c_90 : (0 : Int) ≠ (0 : Int) := xI_ne rfl rfl c_90
              exfalso; omega
          refine lv_icmp_ne (tgt := 96) hx hb dX12_readSlab_82 (by decide) (fun c_98 => ?_) (fun c_98 => ?_)
          · have c_98 : (G_29.1 66 6).toInt ≠ 1 := xI_ne rfl rfl c_98
            exact hJ_88 () _ _ _ ⟨G_29, hW, hB_G_29, hF, Fr.rf, hS, lv_sub hl [1, 2, 3, 4, 5] rfl⟩
          · have c_98 : (G_29.1 66 6).toInt = 1 := xI_eq rfl rfl c_98
            refine lv_aload_n hx hb dX12_readSlab_85 rfl (lv_at hl 4 rfl) ?_
            refine S_calli (va_runV (As := []) (rest := []) ⟨hx, hb, hml, hown, hts⟩ (n_mark l D k A a z G_29  ) (cwV 0 hts (gd_V hgd m1655 m1657 m58 m131 m1658) rfl rfl rfl (by decide +kernel) ⟨Nat.le_of_ble_eq_true rfl, Nat.le_of_ble_eq_true rfl⟩) (pre_V hW hB_G_29 hK hZ hS kd_66 rfl) rfl rfl hl.1 rfl (lv_room (Nat.le_of_ble_eq_true rfl)) dX12_readSlab_86 ⟨Nat.le_of_ble_eq_true rfl, Nat.le_of_ble_eq_true rfl⟩) hS (fun r_99 G_100 H locs hpo hW hS => ?_)
            obtain ⟨hB_G_100, hq_101, f_103, hp_102⟩ := hpo
            have hF := hF.call hq_101 (by decide) (by decide)
            have u_104 : mkW (G_29.2.1 66 9) = mkW (G_29.2.1 66 9) := congrArg mkW (rfl)
            have u_105 := mkW_v (G_29.2.1 66 9)
            refine lv_if_le (tgt := 96) hx hb dX12_readSlab_89 (by decide) (fun c_106 => ?_) (fun c_106 => ?_)
            · have c_106 : r_99.toInt ≤ 0 := xI_le rfl rfl c_106
              exact hJ_88 () _ _ _ ⟨G_100, hW, hB_G_100, hF, (Fr.rf.call hq_101 (by decide) (by decide)), hS, lv_sub hl [1, 2, 3, 4, 5] rfl⟩
            · have c_106 : 0 < r_99.toInt := xI_nle rfl rfl c_106
              refine lv_iconst (v := 1) hx hb dX12_readSlab_92 (by decide) ?_
              refine lv_goto (tgt := 97) hx hb dX12_readSlab_93 (by decide) ?_
              refine lv_istore (lv' := [(7, .int 1), (6, .int x_34), (5, .int w_13), (4, .int r_5), (0, .ref (a 66)), (2, .int p1)]) hx hb dX12_readSlab_97 hl (by decide) rfl (fun ls hl => ?_)
              refine lv_iload hx hb dX12_readSlab_99 (lv_at hl 0 rfl) ?_
              refine lv_if_eq (tgt := 119) hx hb dX12_readSlab_101 (by decide) (fun c_107 => ?_) (fun c_107 => ?_)
              · have c_107 : (1 : Int) = (0 : Int) := xI_eq rfl rfl c_107
                exfalso; omega
              · have c_107 : (1 : Int) ≠ (0 : Int) := xI_ne rfl rfl c_107
                refine lv_iload hx hb dX12_readSlab_104 (lv_at hl 1 rfl) ?_
                refine lv_aload_n hx hb dX12_readSlab_106 rfl (lv_at hl 4 rfl) ?_
                refine S_calli (va_runV (As := []) (rest := [.int x_34]) ⟨hx, hb, hml, hown, hts⟩ (n_mark l D k A a z G_100  ) (cwV 0 hts (gd_V hgd m1655 m1657 m58 m131 m1658) rfl rfl rfl (by decide +kernel) ⟨Nat.le_of_ble_eq_true rfl, Nat.le_of_ble_eq_true rfl⟩) (pre_V hW hB_G_100 hK hZ hS kd_66 rfl) rfl rfl hl.1 rfl (lv_room (Nat.le_of_ble_eq_true rfl)) dX12_readSlab_107 ⟨Nat.le_of_ble_eq_true rfl, Nat.le_of_ble_eq_true rfl⟩) hS (fun r_108 G_109 H locs hpo hW hS => ?_)
                obtain ⟨hB_G_109, hq_110, f_112, hp_111⟩ := hpo
                have hF := hF.call hq_110 (by decide) (by decide)
                have u_113 : mkW (G_100.2.1 66 9) = mkW (G_29.2.1 66 9) := congrArg mkW ((hq_101.l 66 9 (by decide) (by decide)))
                have u_114 := mkW_v (G_29.2.1 66 9)
                refine lv_iand hx hb dX12_readSlab_110 ?_
                refine lv_topi (fun y_115 ey_115 => ?_)
                refine lv_if_eq (tgt := 119) hx hb dX12_readSlab_111 (by decide) (fun c_116 => ?_) (fun c_116 => ?_)
                · have c_116 : y_115.toInt = 0 := xI_eq rfl rfl c_116
                  refine lv_iload hx hb dX12_readSlab_119 (lv_at hl 0 rfl) ?_
                  refine lv_if_eq (tgt := 65) hx hb dX12_readSlab_121 (by decide) (fun c_117 => ?_) (fun c_117 => ?_)
                  · have c_117 : (1 : Int) = (0 : Int) := xI_eq rfl rfl c_117
                    exfalso; omega
                  · have c_117 : (1 : Int) ≠ (0 : Int) := xI_ne rfl rfl c_117
                    refine lv_aload_n hx hb dX12_readSlab_124 rfl (lv_at hl 4 rfl) ?_
                    refine S_getI (v := (G_29.1 66 2)) (C := RX12) (T := TX12) (N := 89) hx hb hg iX12 hown hK hW kd_66 rfl 2 (by decide) (hg (Cond.fieldLink RX12 218 "SlabWalkModel" "fault" "I") m1316) (fun _ h9 => h9) rfl ((hq_110.i 66 2 (by decide) (by decide)).trans ((hq_101.i 66 2 (by decide) (by decide)).trans (rfl))) dX12_readSlab_125 ?_
                    refine lv_if_le (tgt := 134) hx hb dX12_readSlab_128 (by decide) (fun c_118 => ?_) (fun c_118 => ?_)
                    · have c_118 : (G_29.1 66 2).toInt ≤ 0 := xI_le rfl rfl c_118
                      refine lv_iload hx hb dX12_readSlab_134 (lv_at hl 1 rfl) ?_
                      refine lv_aload_n hx hb dX12_readSlab_136 rfl (lv_at hl 4 rfl) ?_
                      refine S_calli (va_runV (As := []) (rest := [.int x_34]) ⟨hx, hb, hml, hown, hts⟩ (n_mark l D k A a z G_109  ) (cwV 0 hts (gd_V hgd m1655 m1657 m58 m131 m1658) rfl rfl rfl (by decide +kernel) ⟨Nat.le_of_ble_eq_true rfl, Nat.le_of_ble_eq_true rfl⟩) (pre_V hW hB_G_109 hK hZ hS kd_66 rfl) rfl rfl hl.1 rfl (lv_room (Nat.le_of_ble_eq_true rfl)) dX12_readSlab_137 ⟨Nat.le_of_ble_eq_true rfl, Nat.le_of_ble_eq_true rfl⟩) hS (fun r_119 G_120 H locs hpo hW hS => ?_)
                      obtain ⟨hB_G_120, hq_121, f_123, hp_122⟩ := hpo
                      have hF := hF.call hq_121 (by decide) (by decide)
                      have u_124 : mkW (G_109.2.1 66 9) = mkW (G_29.2.1 66 9) := congrArg mkW (((hq_110.l 66 9 (by decide) (by decide)).trans (hq_101.l 66 9 (by decide) (by decide))))
                      have u_125 := mkW_v (G_29.2.1 66 9)
                      refine lv_ior hx hb dX12_readSlab_140 ?_
                      refine lv_topi (fun y_126 ey_126 => ?_)
                      have ty_126 := or6 ey_126 ⟨by omega, by omega⟩ ⟨by omega, by omega⟩
                      have u_127 := orM (x := x_34) (y := r_119) (z := y_126) (w := y_115) (by omega) (by omega) (by omega) (ey_115.trans (congrArg (fun q => x_34 &&& q) (Int32.toInt_inj.mp (show r_108.toInt = r_119.toInt by omega)))) (by omega) ey_126
                      refine lv_istore (lv' := [(6, .int y_126), (7, .int 1), (5, .int w_13), (4, .int r_5), (0, .ref (a 66)), (2, .int p1)]) hx hb dX12_readSlab_141 hl (by decide) rfl (fun ls hl => ?_)
                      refine lv_aload_n hx hb dX12_readSlab_143 rfl (lv_at hl 4 rfl) ?_
                      have g_128 : (G_120.1 66 4).toInt = (G_29.1 66 4).toInt := by rw [show G_120.1 66 4 = (G_29.1 66 4) from ((hq_121.i 66 4 (by decide) (by decide)).trans ((hq_110.i 66 4 (by decide) (by decide)).trans ((hq_101.i 66 4 (by decide) (by decide)).trans (rfl))))]
                      have g_129 : (G_120.1 66 6).toInt = (G_29.1 66 6).toInt := by rw [show G_120.1 66 6 = (G_29.1 66 6) from ((hq_121.i 66 6 (by decide) (by decide)).trans ((hq_110.i 66 6 (by decide) (by decide)).trans ((hq_101.i 66 6 (by decide) (by decide)).trans (rfl))))]
                      refine S_callv (va_runV (As := []) (rest := []) ⟨hx, hb, hml, hown, hts⟩ (n_token l D k A a z G_120  ) (cwV 0 hts (gd_V hgd m1602 m1604 m50 m131 m1605) rfl rfl rfl (by decide +kernel) ⟨Nat.le_of_ble_eq_true rfl, Nat.le_of_ble_eq_true rfl⟩) (pre_V hW hB_G_120 hK hZ hS kd_66 rfl) rfl rfl hl.1 rfl (lv_room (Nat.le_of_ble_eq_true rfl)) dX12_readSlab_144 ⟨Nat.le_of_ble_eq_true rfl, Nat.le_of_ble_eq_true rfl⟩) hS (fun G_131 H locs hpo hW hS => ?_)
                      obtain ⟨hB_G_131, hq_132, hp_133⟩ := hpo
                      have hF := hF.call hq_132 (by decide) (by decide)
                      refine lv_goto (tgt := 65) hx hb dX12_readSlab_147 (by decide) ?_
                      have g_134 : (G_131.1 66 2).toInt = (G_29.1 66 2).toInt := by rw [show G_131.1 66 2 = (G_29.1 66 2) from ((hq_132.i 66 2 (by decide) (by decide)).trans ((hq_121.i 66 2 (by decide) (by decide)).trans ((hq_110.i 66 2 (by decide) (by decide)).trans ((hq_101.i 66 2 (by decide) (by decide)).trans (rfl)))))]
                      have g_135 : (G_131.1 81 (G.1 66 45).toNatClampNeg).toInt = (G.1 81 (G.1 66 45).toNatClampNeg).toInt := by rw [show G_131.1 81 (G.1 66 45).toNatClampNeg = (G.1 81 (G.1 66 45).toNatClampNeg) from ((hq_132.ri 81 (by decide) (by decide) ((G.1 66 45).toNatClampNeg)).trans ((hq_121.ri 81 (by decide) (by decide) ((G.1 66 45).toNatClampNeg)).trans ((hq_110.ri 81 (by decide) (by decide) ((G.1 66 45).toNatClampNeg)).trans ((hq_101.ri 81 (by decide) (by decide) ((G.1 66 45).toNatClampNeg)).trans ((hq_30.ri 81 (by decide) (by decide) ((G.1 66 45).toNatClampNeg)).trans ((hq_25.ri 81 (by decide) (by decide) ((G.1 66 45).toNatClampNeg)).trans ((hq_16.ri 81 (by decide) (by decide) ((G.1 66 45).toNatClampNeg)).trans (hq_7.ri 81 (by decide) (by decide) ((G.1 66 45).toNatClampNeg)))))))))]
                      have g_136 : (G_131.1 66 2).toInt = (G_29.1 66 2).toInt := by rw [show G_131.1 66 2 = (G_29.1 66 2) from ((hq_132.i 66 2 (by decide) (by decide)).trans ((hq_121.i 66 2 (by decide) (by decide)).trans ((hq_110.i 66 2 (by decide) (by decide)).trans ((hq_101.i 66 2 (by decide) (by decide)).trans (rfl)))))]
                      have b_137 : 0 ≤ (G_131.1 66 4).toInt ∧ (G_131.1 66 4).toInt ≤ 1600 := hB_G_131.i 66 4 rfl rfl
                      have qc_138 : (1 : Int32).toInt = 1 := rfl
                      exact ih_31 (20 - y_126.toInt + 1 - (G_131.1 66 2).toInt : Int).toNat (by omega) _ _ _ ⟨G_131, 1, y_126, (Int.toNat_of_nonneg (by omega)), ⟨by omega, by omega⟩, ⟨by omega, by omega⟩, (by omega), (by omega), hW, hB_G_131, hF, (((((Fr.rf.call hq_30 (by decide) (by decide)).call hq_101 (by decide) (by decide)).call hq_110 (by decide) (by decide)).call hq_121 (by decide) (by decide)).call hq_132 (by decide) (by decide)), hS, lv_sub hl [1, 0, 2, 3, 4, 5] rfl⟩
                    · have c_118 : 0 < (G_29.1 66 2).toInt := xI_nle rfl rfl c_118
                      exfalso; omega
                · have c_116 : y_115.toInt ≠ 0 := xI_ne rfl rfl c_116
                  refine lv_aload_n hx hb dX12_readSlab_114 rfl (lv_at hl 4 rfl) ?_
                  refine lv_iconst (v := 2) hx hb dX12_readSlab_115 (by decide) ?_
                  have qc_139 : (2 : Int32).toInt = 2 := rfl
                  refine S_callv (va_runV (As := [.int 2]) (rest := []) ⟨hx, hb, hml, hown, hts⟩ (n_wrong l D k A a z G_109 2 ⟨by decide, by decide⟩) (cwV 1 hts (gd_V hgd m1670 m1672 m59 m131 m1673) rfl rfl rfl (by decide +kernel) ⟨Nat.le_of_ble_eq_true rfl, Nat.le_of_ble_eq_true rfl⟩) (pre_V hW hB_G_109 hK hZ hS kd_66 rfl) rfl rfl hl.1 rfl (lv_room (Nat.le_of_ble_eq_true rfl)) dX12_readSlab_116 ⟨Nat.le_of_ble_eq_true rfl, Nat.le_of_ble_eq_true rfl⟩) hS (fun G_141 H locs hpo hW hS => ?_)
                  obtain ⟨hB_G_141, hq_142, hp_143⟩ := hpo
                  have hF := hF.call hq_142 (by decide) (by decide)
                  refine lv_iload hx hb dX12_readSlab_119 (lv_at hl 0 rfl) ?_
                  refine lv_if_eq (tgt := 65) hx hb dX12_readSlab_121 (by decide) (fun c_144 => ?_) (fun c_144 => ?_)
                  · have c_144 : (1 : Int) = (0 : Int) := xI_eq rfl rfl c_144
                    exfalso; omega
                  · have c_144 : (1 : Int) ≠ (0 : Int) := xI_ne rfl rfl c_144
                    refine lv_aload_n hx hb dX12_readSlab_124 rfl (lv_at hl 4 rfl) ?_
                    have b_145 : 0 ≤ (G_141.1 66 2).toInt ∧ (G_141.1 66 2).toInt ≤ 4 := hB_G_141.i 66 2 rfl rfl
                    refine S_getI (v := (G_141.1 66 2)) (C := RX12) (T := TX12) (N := 89) hx hb hg iX12 hown hK hW kd_66 rfl 2 (by decide) (hg (Cond.fieldLink RX12 218 "SlabWalkModel" "fault" "I") m1316) (fun _ h9 => h9) rfl rfl dX12_readSlab_125 ?_
                    refine lv_if_le (tgt := 134) hx hb dX12_readSlab_128 (by decide) (fun c_146 => ?_) (fun c_146 => ?_)
                    · have c_146 : (G_141.1 66 2).toInt ≤ 0 := xI_le rfl rfl c_146
                      refine lv_iload hx hb dX12_readSlab_134 (lv_at hl 1 rfl) ?_
                      refine lv_aload_n hx hb dX12_readSlab_136 rfl (lv_at hl 4 rfl) ?_
                      refine S_calli (va_runV (As := []) (rest := [.int x_34]) ⟨hx, hb, hml, hown, hts⟩ (n_mark l D k A a z G_141  ) (cwV 0 hts (gd_V hgd m1655 m1657 m58 m131 m1658) rfl rfl rfl (by decide +kernel) ⟨Nat.le_of_ble_eq_true rfl, Nat.le_of_ble_eq_true rfl⟩) (pre_V hW hB_G_141 hK hZ hS kd_66 rfl) rfl rfl hl.1 rfl (lv_room (Nat.le_of_ble_eq_true rfl)) dX12_readSlab_137 ⟨Nat.le_of_ble_eq_true rfl, Nat.le_of_ble_eq_true rfl⟩) hS (fun r_147 G_148 H locs hpo hW hS => ?_)
                      obtain ⟨hB_G_148, hq_149, f_151, hp_150⟩ := hpo
                      have hF := hF.call hq_149 (by decide) (by decide)
                      have u_152 : mkW (G_141.2.1 66 9) = mkW (G_29.2.1 66 9) := congrArg mkW (((hq_142.l 66 9 (by decide) (by decide)).trans ((hq_110.l 66 9 (by decide) (by decide)).trans (hq_101.l 66 9 (by decide) (by decide)))))
                      have u_153 := mkW_v (G_29.2.1 66 9)
                      refine lv_ior hx hb dX12_readSlab_140 ?_
                      refine lv_topi (fun y_154 ey_154 => ?_)
                      have ty_154 := or6 ey_154 ⟨by omega, by omega⟩ ⟨by omega, by omega⟩
                      have u_155 := orM (x := x_34) (y := r_147) (z := y_154) (w := y_115) (by omega) (by omega) (by omega) (ey_115.trans (congrArg (fun q => x_34 &&& q) (Int32.toInt_inj.mp (show r_108.toInt = r_147.toInt by omega)))) (by omega) ey_154
                      refine lv_istore (lv' := [(6, .int y_154), (7, .int 1), (5, .int w_13), (4, .int r_5), (0, .ref (a 66)), (2, .int p1)]) hx hb dX12_readSlab_141 hl (by decide) rfl (fun ls hl => ?_)
                      refine lv_aload_n hx hb dX12_readSlab_143 rfl (lv_at hl 4 rfl) ?_
                      have g_156 : (G_148.1 66 4).toInt = (G_29.1 66 4).toInt := by rw [show G_148.1 66 4 = (G_29.1 66 4) from ((hq_149.i 66 4 (by decide) (by decide)).trans ((hq_142.i 66 4 (by decide) (by decide)).trans ((hq_110.i 66 4 (by decide) (by decide)).trans ((hq_101.i 66 4 (by decide) (by decide)).trans (rfl)))))]
                      have g_157 : (G_148.1 66 6).toInt = (G_29.1 66 6).toInt := by rw [show G_148.1 66 6 = (G_29.1 66 6) from ((hq_149.i 66 6 (by decide) (by decide)).trans ((hq_142.i 66 6 (by decide) (by decide)).trans ((hq_110.i 66 6 (by decide) (by decide)).trans ((hq_101.i 66 6 (by decide) (by decide)).trans (rfl)))))]
                      refine S_callv (va_runV (As := []) (rest := []) ⟨hx, hb, hml, hown, hts⟩ (n_token l D k A a z G_148  ) (cwV 0 hts (gd_V hgd m1602 m1604 m50 m131 m1605) rfl rfl rfl (by decide +kernel) ⟨Nat.le_of_ble_eq_true rfl, Nat.le_of_ble_eq_true rfl⟩) (pre_V hW hB_G_148 hK hZ hS kd_66 rfl) rfl rfl hl.1 rfl (lv_room (Nat.le_of_ble_eq_true rfl)) dX12_readSlab_144 ⟨Nat.le_of_ble_eq_true rfl, Nat.le_of_ble_eq_true rfl⟩) hS (fun G_159 H locs hpo hW hS => ?_)
                      obtain ⟨hB_G_159, hq_160, hp_161⟩ := hpo
                      have hF := hF.call hq_160 (by decide) (by decide)
                      refine lv_goto (tgt := 65) hx hb dX12_readSlab_147 (by decide) ?_
                      have g_162 : (G_159.1 66 2).toInt = (G_141.1 66 2).toInt := by rw [show G_159.1 66 2 = (G_141.1 66 2) from ((hq_160.i 66 2 (by decide) (by decide)).trans ((hq_149.i 66 2 (by decide) (by decide)).trans (rfl)))]
                      have g_163 : (G_159.1 81 (G.1 66 45).toNatClampNeg).toInt = (G.1 81 (G.1 66 45).toNatClampNeg).toInt := by rw [show G_159.1 81 (G.1 66 45).toNatClampNeg = (G.1 81 (G.1 66 45).toNatClampNeg) from ((hq_160.ri 81 (by decide) (by decide) ((G.1 66 45).toNatClampNeg)).trans ((hq_149.ri 81 (by decide) (by decide) ((G.1 66 45).toNatClampNeg)).trans ((hq_142.ri 81 (by decide) (by decide) ((G.1 66 45).toNatClampNeg)).trans ((hq_110.ri 81 (by decide) (by decide) ((G.1 66 45).toNatClampNeg)).trans ((hq_101.ri 81 (by decide) (by decide) ((G.1 66 45).toNatClampNeg)).trans ((hq_30.ri 81 (by decide) (by decide) ((G.1 66 45).toNatClampNeg)).trans ((hq_25.ri 81 (by decide) (by decide) ((G.1 66 45).toNatClampNeg)).trans ((hq_16.ri 81 (by decide) (by decide) ((G.1 66 45).toNatClampNeg)).trans (hq_7.ri 81 (by decide) (by decide) ((G.1 66 45).toNatClampNeg))))))))))]
                      have g_164 : (G_159.1 66 2).toInt = (G_141.1 66 2).toInt := by rw [show G_159.1 66 2 = (G_141.1 66 2) from ((hq_160.i 66 2 (by decide) (by decide)).trans ((hq_149.i 66 2 (by decide) (by decide)).trans (rfl)))]
                      have b_165 : 0 ≤ (G_159.1 66 4).toInt ∧ (G_159.1 66 4).toInt ≤ 1600 := hB_G_159.i 66 4 rfl rfl
                      have qc_166 : (1 : Int32).toInt = 1 := rfl
                      exact ih_31 (20 - y_154.toInt + 1 - (G_159.1 66 2).toInt : Int).toNat (by omega) _ _ _ ⟨G_159, 1, y_154, (Int.toNat_of_nonneg (by omega)), ⟨by omega, by omega⟩, ⟨by omega, by omega⟩, (by omega), (by omega), hW, hB_G_159, hF, ((((((Fr.rf.call hq_30 (by decide) (by decide)).call hq_101 (by decide) (by decide)).call hq_110 (by decide) (by decide)).call hq_142 (by decide) (by decide)).call hq_149 (by decide) (by decide)).call hq_160 (by decide) (by decide)), hS, lv_sub hl [1, 0, 2, 3, 4, 5] rfl⟩
                    · have c_146 : 0 < (G_141.1 66 2).toInt := xI_nle rfl rfl c_146
                      refine lv_goto (tgt := 65) hx hb dX12_readSlab_131 (by decide) ?_
                      have g_167 : (G_141.1 81 (G.1 66 45).toNatClampNeg).toInt = (G.1 81 (G.1 66 45).toNatClampNeg).toInt := by rw [show G_141.1 81 (G.1 66 45).toNatClampNeg = (G.1 81 (G.1 66 45).toNatClampNeg) from ((hq_142.ri 81 (by decide) (by decide) ((G.1 66 45).toNatClampNeg)).trans ((hq_110.ri 81 (by decide) (by decide) ((G.1 66 45).toNatClampNeg)).trans ((hq_101.ri 81 (by decide) (by decide) ((G.1 66 45).toNatClampNeg)).trans ((hq_30.ri 81 (by decide) (by decide) ((G.1 66 45).toNatClampNeg)).trans ((hq_25.ri 81 (by decide) (by decide) ((G.1 66 45).toNatClampNeg)).trans ((hq_16.ri 81 (by decide) (by decide) ((G.1 66 45).toNatClampNeg)).trans (hq_7.ri 81 (by decide) (by decide) ((G.1 66 45).toNatClampNeg))))))))]
                      have g_168 : (G_141.1 66 4).toInt = (G_29.1 66 4).toInt := by rw [show G_141.1 66 4 = (G_29.1 66 4) from ((hq_142.i 66 4 (by decide) (by decide)).trans ((hq_110.i 66 4 (by decide) (by decide)).trans ((hq_101.i 66 4 (by decide) (by decide)).trans (rfl))))]
                      have g_169 : (G_141.1 66 6).toInt = (G_29.1 66 6).toInt := by rw [show G_141.1 66 6 = (G_29.1 66 6) from ((hq_142.i 66 6 (by decide) (by decide)).trans ((hq_110.i 66 6 (by decide) (by decide)).trans ((hq_101.i 66 6 (by decide) (by decide)).trans (rfl))))]
                      have qc_170 : (1 : Int32).toInt = 1 := rfl
                      exact ih_31 (20 - x_34.toInt + 1 - (G_141.1 66 2).toInt : Int).toNat (by omega) _ _ _ ⟨G_141, 1, x_34, (Int.toNat_of_nonneg (by omega)), ⟨by omega, by omega⟩, ⟨by omega, by omega⟩, (by omega), (by omega), hW, hB_G_141, hF, ((((Fr.rf.call hq_30 (by decide) (by decide)).call hq_101 (by decide) (by decide)).call hq_110 (by decide) (by decide)).call hq_142 (by decide) (by decide)), hS, lv_sub hl [0, 1, 2, 3, 4, 5] rfl⟩
    refine lv_if_ne (tgt := 59) hx hb dX12_readSlab_29 (by decide) (fun c_171 => ?_) (fun c_171 => ?_)
    · have c_171 : (G_6.1 66 2).toInt ≠ 0 := xI_ne rfl rfl c_171
      have g_172 : (G_14.1 81 (G.1 66 45).toNatClampNeg).toInt = (G.1 81 (G.1 66 45).toNatClampNeg).toInt := by rw [show G_14.1 81 (G.1 66 45).toNatClampNeg = (G.1 81 (G.1 66 45).toNatClampNeg) from ((hq_16.ri 81 (by decide) (by decide) ((G.1 66 45).toNatClampNeg)).trans (hq_7.ri 81 (by decide) (by decide) ((G.1 66 45).toNatClampNeg)))]
      have g_173 : (G_14.1 66 2).toInt = (G_6.1 66 2).toInt := by rw [show G_14.1 66 2 = (G_6.1 66 2) from ((hq_16.i 66 2 (by decide) (by decide)).trans (rfl))]
      exact hJ_24 () _ _ _ ⟨G_14, (by omega), hW, hB_G_14, hF, Fr.rf, hS, lv_sub hl [0, 1, 3, 4] rfl⟩
    · have c_171 : (G_6.1 66 2).toInt = 0 := xI_eq rfl rfl c_171
      refine lv_aload_n hx hb dX12_readSlab_32 rfl (lv_at hl 3 rfl) ?_
      refine S_getR (n := 81) (C := RX12) (T := TX12) (N := 89) hx hb hg iX12 hown hK hW kd_66 rfl 29 (by decide) (hg (Cond.fieldLink RX12 57 "SlabWalkModel" "nLength" "[I") m1343) (fun _ h9 => h9) rfl dX12_readSlab_33 ?_
      refine lv_aload_n hx hb dX12_readSlab_36 rfl (lv_at hl 3 rfl) ?_
      have b_174 : 0 ≤ (G.1 66 45).toInt ∧ (G.1 66 45).toInt ≤ 3 := hB_G.i 66 45 rfl rfl
      refine S_getI (v := (G.1 66 45)) (C := RX12) (T := TX12) (N := 89) hx hb hg iX12 hown hK hW kd_66 rfl 45 (by decide) (hg (Cond.fieldLink RX12 359 "SlabWalkModel" "nStreets" "I") m1359) (fun _ h9 => h9) rfl ((hq_16.i 66 45 (by decide) (by decide)).trans (hq_7.i 66 45 (by decide) (by decide))) dX12_readSlab_37 ?_
      refine S_iald hx hb hK hW kd_81 (vin (by omega) (by omega)) dX12_readSlab_40 (fun y_175 ey_175 => ?_)
      have ty_175 : 0 ≤ y_175.toInt ∧ y_175.toInt ≤ 400 := hB_G_14.v ey_175 rfl rfl
      have u_176 : y_175.toInt = (G.1 81 (G.1 66 45).toNatClampNeg).toInt := congrArg Int32.toInt (ey_175.trans (((hq_16.ri 81 (by decide) (by decide) ((G.1 66 45).toNatClampNeg)).trans (hq_7.ri 81 (by decide) (by decide) ((G.1 66 45).toNatClampNeg)))))
      refine lv_iload hx hb dX12_readSlab_41 (lv_at hl 0 rfl) ?_
      refine lv_iadd hx hb dX12_readSlab_43 ?_
      refine lv_topi (fun y_177 ey_177 => ?_)
      have ty_177 : y_177.toInt = y_175.toInt + w_13.toInt := xI_add rfl rfl ey_177 (by omega) (by omega)
      refine lv_iload hx hb dX12_readSlab_44 (lv_at hl 1 rfl) ?_
      refine lv_iadd hx hb dX12_readSlab_46 ?_
      refine lv_topi (fun y_178 ey_178 => ?_)
      have ty_178 : y_178.toInt = y_177.toInt + r_5.toInt := xI_add rfl rfl ey_178 (by omega) (by omega)
      refine lv_sipush (v := 400) hx hb dX12_readSlab_47 (by decide) ?_
      refine lv_icmp_le (tgt := 59) hx hb dX12_readSlab_50 (by decide) (fun c_179 => ?_) (fun c_179 => ?_)
      · have c_179 : y_178.toInt ≤ 400 := xI_le rfl rfl c_179
        have g_180 : (G_14.1 81 (G.1 66 45).toNatClampNeg).toInt = y_175.toInt := by rw [show G_14.1 81 (G.1 66 45).toNatClampNeg = y_175 from ey_175.symm]
        have g_181 : (G_14.1 66 2).toInt = (G_6.1 66 2).toInt := by rw [show G_14.1 66 2 = (G_6.1 66 2) from ((hq_16.i 66 2 (by decide) (by decide)).trans (rfl))]
        exact hJ_24 () _ _ _ ⟨G_14, (by omega), hW, hB_G_14, hF, Fr.rf, hS, lv_sub hl [0, 1, 3, 4] rfl⟩
      · have c_179 : 400 < y_178.toInt := xI_nle rfl rfl c_179
        refine lv_aload_n hx hb dX12_readSlab_53 rfl (lv_at hl 3 rfl) ?_
        refine lv_iconst (v := 4) hx hb dX12_readSlab_54 (by decide) ?_
        refine lv_iload_n hx hb dX12_readSlab_55 rfl (lv_at hl 2 rfl) ?_
        have qc_182 : (4 : Int32).toInt = 4 := rfl
        refine S_callv (va_runV (As := [.int 4, .int (G.1 66 7)]) (rest := []) ⟨hx, hb, hml, hown, hts⟩ (n_wrongAt l D k A a z G_14 4 (G.1 66 7) ⟨by decide, by decide⟩ ⟨by omega, by omega⟩) (cwV 2 hts (gd_V hgd m1690 m1692 m64 m131 m1693) rfl rfl rfl (by decide +kernel) ⟨Nat.le_of_ble_eq_true rfl, Nat.le_of_ble_eq_true rfl⟩) (pre_V hW hB_G_14 hK hZ hS kd_66 rfl) rfl rfl hl.1 rfl (lv_room (Nat.le_of_ble_eq_true rfl)) dX12_readSlab_56 ⟨Nat.le_of_ble_eq_true rfl, Nat.le_of_ble_eq_true rfl⟩) hS (fun G_184 H locs hpo hW hS => ?_)
        obtain ⟨hB_G_184, hq_185, hp_186⟩ := hpo
        have hF := hF.call hq_185 (by decide) (by decide)
        have g_187 : (G_184.1 81 (G.1 66 45).toNatClampNeg).toInt = y_175.toInt := by rw [show G_184.1 81 (G.1 66 45).toNatClampNeg = y_175 from ((hq_185.ri 81 (by decide) (by decide) ((G.1 66 45).toNatClampNeg)).trans (ey_175.symm))]
        have b_188 : 0 ≤ (G_184.1 66 2).toInt ∧ (G_184.1 66 2).toInt ≤ 4 := hB_G_184.i 66 2 rfl rfl
        exact hJ_24 () _ _ _ ⟨G_184, (by omega), hW, hB_G_184, hF, (Fr.rf.call hq_185 (by decide) (by decide)), hS, lv_sub hl [0, 1, 3, 4] rfl⟩
  refine lv_if_ne (tgt := 22) hx hb dX12_readSlab_15 (by decide) (fun c_189 => ?_) (fun c_189 => ?_)
  · have c_189 : p1.toInt ≠ 0 := xI_ne rfl rfl c_189
    refine lv_iload_n hx hb dX12_readSlab_22 rfl (lv_at hl 3 rfl) ?_
    exact hJ_15 p0 _ _ _ ⟨G_6, ⟨by omega, by omega⟩, hW, hB_G_6, hF, Fr.rf, hS, lv_sub hl [0, 1, 2, 4] rfl⟩
  · have c_189 : p1.toInt = 0 := xI_eq rfl rfl c_189
    refine lv_iconst (v := 0) hx hb dX12_readSlab_18 (by decide) ?_
    refine lv_goto (tgt := 23) hx hb dX12_readSlab_19 (by decide) ?_
    have qc_190 : (0 : Int32).toInt = 0 := rfl
    exact hJ_15 0 _ _ _ ⟨G_6, ⟨by omega, by omega⟩, hW, hB_G_6, hF, Fr.rf, hS, lv_sub hl [0, 1, 2, 4] rfl⟩
