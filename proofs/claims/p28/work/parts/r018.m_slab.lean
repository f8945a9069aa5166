theorem m64 : Cond.selects RX12 yX12_wrongAt yX12_wrongAt ∈ gd := gds_5 0 rfl
theorem m65 : Cond.selects RX12 yX12_pave yX12_pave ∈ gd := gds_5 1 rfl
theorem m1690 : Cond.methodLink RX12 362 yX12_wrongAt ∈ gd := gdc_7_8 6 rfl gw_methodLink
theorem m1692 : Cond.instanceMethod yX12_wrongAt ∈ gd := gdc_7_8 8 rfl gw_instanceMethod
theorem m1693 : Cond.code yX12_wrongAt cX12_wrongAt 3 none ∈ gd := gdc_7_8 9 rfl gw_code
theorem m1694 : Cond.methodLink RX12 365 yX12_pave ∈ gd := gdc_7_8 10 rfl gw_methodLink
theorem m1696 : Cond.instanceMethod yX12_pave ∈ gd := gdc_7_8 12 rfl gw_instanceMethod
theorem m1697 : Cond.code yX12_pave cX12_pave 6 none ∈ gd := gdc_7_8 13 rfl gw_code
noncomputable def rbX12_readSlab_0 : List (Nat × List Nat) := [(0, [42]), (1, [180, 0, 195]), (4, [62]), (5, [42]), (6, [4]), (7, [16, 60]), (9, [182, 1, 33]), (12, [54, 4]), (14, [28]), (15, [154, 0, 7]), (18, [3]), (19, [167, 0, 4]), (22, [27]), (23, [54, 5]), (25, [42]), (26, [180, 0, 218]), (29, [154, 0, 30]), (32, [42]), (33, [180, 0, 57]), (36, [42]), (37, [180, 1, 103]), (40, [46]), (41, [21, 5]), (43, [96])]
theorem rcX12_readSlab_0 : dgo (lb cX12_readSlab) 0 rbX12_readSlab_0 = true := by decide +kernel
theorem dX12_readSlab_0 : decode cX12_readSlab 0 = .ok (.aload_n 0, 1) := dk_42 (dw rcX12_readSlab_0 0 rfl)
theorem dX12_readSlab_1 : decode cX12_readSlab 1 = .ok (.getfield 195, 3) := dk_180 (dw rcX12_readSlab_0 1 rfl) rfl
theorem dX12_readSlab_4 : decode cX12_readSlab 4 = .ok (.istore_n 3, 1) := dk_62 (dw rcX12_readSlab_0 2 rfl)
theorem dX12_readSlab_5 : decode cX12_readSlab 5 = .ok (.aload_n 0, 1) := dk_42 (dw rcX12_readSlab_0 3 rfl)
theorem dX12_readSlab_6 : decode cX12_readSlab 6 = .ok (.iconst 1, 1) := dk_4 (dw rcX12_readSlab_0 4 rfl)
theorem dX12_readSlab_7 : decode cX12_readSlab 7 = .ok (.bipush 60, 2) := dk_16 (dw rcX12_readSlab_0 5 rfl) rfl
theorem dX12_readSlab_9 : decode cX12_readSlab 9 = .ok (.invokevirtual 289, 3) := dk_182 (dw rcX12_readSlab_0 6 rfl) rfl
theorem dX12_readSlab_12 : decode cX12_readSlab 12 = .ok (.istore 4, 2) := dk_54 (dw rcX12_readSlab_0 7 rfl)
theorem dX12_readSlab_14 : decode cX12_readSlab 14 = .ok (.iload_n 2, 1) := dk_28 (dw rcX12_readSlab_0 8 rfl)
theorem dX12_readSlab_15 : decode cX12_readSlab 15 = .ok (.ifCond .ne 7, 3) := dk_154 (dw rcX12_readSlab_0 9 rfl) rfl
theorem dX12_readSlab_18 : decode cX12_readSlab 18 = .ok (.iconst 0, 1) := dk_3 (dw rcX12_readSlab_0 10 rfl)
theorem dX12_readSlab_19 : decode cX12_readSlab 19 = .ok (.goto 4, 3) := dk_167 (dw rcX12_readSlab_0 11 rfl) rfl
theorem dX12_readSlab_22 : decode cX12_readSlab 22 = .ok (.iload_n 1, 1) := dk_27 (dw rcX12_readSlab_0 12 rfl)
theorem dX12_readSlab_23 : decode cX12_readSlab 23 = .ok (.istore 5, 2) := dk_54 (dw rcX12_readSlab_0 13 rfl)
theorem dX12_readSlab_25 : decode cX12_readSlab 25 = .ok (.aload_n 0, 1) := dk_42 (dw rcX12_readSlab_0 14 rfl)
theorem dX12_readSlab_26 : decode cX12_readSlab 26 = .ok (.getfield 218, 3) := dk_180 (dw rcX12_readSlab_0 15 rfl) rfl
theorem dX12_readSlab_29 : decode cX12_readSlab 29 = .ok (.ifCond .ne 30, 3) := dk_154 (dw rcX12_readSlab_0 16 rfl) rfl
theorem dX12_readSlab_32 : decode cX12_readSlab 32 = .ok (.aload_n 0, 1) := dk_42 (dw rcX12_readSlab_0 17 rfl)
theorem dX12_readSlab_33 : decode cX12_readSlab 33 = .ok (.getfield 57, 3) := dk_180 (dw rcX12_readSlab_0 18 rfl) rfl
theorem dX12_readSlab_36 : decode cX12_readSlab 36 = .ok (.aload_n 0, 1) := dk_42 (dw rcX12_readSlab_0 19 rfl)
theorem dX12_readSlab_37 : decode cX12_readSlab 37 = .ok (.getfield 359, 3) := dk_180 (dw rcX12_readSlab_0 20 rfl) rfl
theorem dX12_readSlab_40 : decode cX12_readSlab 40 = .ok (.iaload, 1) := dk_46 (dw rcX12_readSlab_0 21 rfl)
theorem dX12_readSlab_41 : decode cX12_readSlab 41 = .ok (.iload 5, 2) := dk_21 (dw rcX12_readSlab_0 22 rfl)
theorem dX12_readSlab_43 : decode cX12_readSlab 43 = .ok (.iadd, 1) := dk_96 (dw rcX12_readSlab_0 23 rfl)
noncomputable def rbX12_readSlab_44 : List (Nat × List Nat) := [(44, [21, 4]), (46, [96]), (47, [17, 1, 144]), (50, [164, 0, 9]), (53, [42]), (54, [7]), (55, [29]), (56, [182, 1, 106]), (59, [3]), (60, [54, 6]), (62, [4]), (63, [54, 7]), (65, [21, 7]), (67, [153, 0, 83]), (70, [42]), (71, [180, 0, 218]), (74, [154, 0, 76]), (77, [42]), (78, [180, 0, 205]), (81, [4]), (82, [160, 0, 14]), (85, [42]), (86, [182, 0, 245]), (89, [158, 0, 7])]
theorem rcX12_readSlab_44 : dgo (lb cX12_readSlab) 0 rbX12_readSlab_44 = true := by decide +kernel
theorem dX12_readSlab_44 : decode cX12_readSlab 44 = .ok (.iload 4, 2) := dk_21 (dw rcX12_readSlab_44 0 rfl)
theorem dX12_readSlab_46 : decode cX12_readSlab 46 = .ok (.iadd, 1) := dk_96 (dw rcX12_readSlab_44 1 rfl)
theorem dX12_readSlab_47 : decode cX12_readSlab 47 = .ok (.sipush 400, 3) := dk_17 (dw rcX12_readSlab_44 2 rfl) rfl
theorem dX12_readSlab_50 : decode cX12_readSlab 50 = .ok (.if_icmp .le 9, 3) := dk_164 (dw rcX12_readSlab_44 3 rfl) rfl
theorem dX12_readSlab_53 : decode cX12_readSlab 53 = .ok (.aload_n 0, 1) := dk_42 (dw rcX12_readSlab_44 4 rfl)
theorem dX12_readSlab_54 : decode cX12_readSlab 54 = .ok (.iconst 4, 1) := dk_7 (dw rcX12_readSlab_44 5 rfl)
theorem dX12_readSlab_55 : decode cX12_readSlab 55 = .ok (.iload_n 3, 1) := dk_29 (dw rcX12_readSlab_44 6 rfl)
theorem dX12_readSlab_56 : decode cX12_readSlab 56 = .ok (.invokevirtual 362, 3) := dk_182 (dw rcX12_readSlab_44 7 rfl) rfl
theorem dX12_readSlab_59 : decode cX12_readSlab 59 = .ok (.iconst 0, 1) := dk_3 (dw rcX12_readSlab_44 8 rfl)
theorem dX12_readSlab_60 : decode cX12_readSlab 60 = .ok (.istore 6, 2) := dk_54 (dw rcX12_readSlab_44 9 rfl)
theorem dX12_readSlab_62 : decode cX12_readSlab 62 = .ok (.iconst 1, 1) := dk_4 (dw rcX12_readSlab_44 10 rfl)
theorem dX12_readSlab_63 : decode cX12_readSlab 63 = .ok (.istore 7, 2) := dk_54 (dw rcX12_readSlab_44 11 rfl)
theorem dX12_readSlab_65 : decode cX12_readSlab 65 = .ok (.iload 7, 2) := dk_21 (dw rcX12_readSlab_44 12 rfl)
theorem dX12_readSlab_67 : decode cX12_readSlab 67 = .ok (.ifCond .eq 83, 3) := dk_153 (dw rcX12_readSlab_44 13 rfl) rfl
theorem dX12_readSlab_70 : decode cX12_readSlab 70 = .ok (.aload_n 0, 1) := dk_42 (dw rcX12_readSlab_44 14 rfl)
theorem dX12_readSlab_71 : decode cX12_readSlab 71 = .ok (.getfield 218, 3) := dk_180 (dw rcX12_readSlab_44 15 rfl) rfl
theorem dX12_readSlab_74 : decode cX12_readSlab 74 = .ok (.ifCond .ne 76, 3) := dk_154 (dw rcX12_readSlab_44 16 rfl) rfl
theorem dX12_readSlab_77 : decode cX12_readSlab 77 = .ok (.aload_n 0, 1) := dk_42 (dw rcX12_readSlab_44 17 rfl)
theorem dX12_readSlab_78 : decode cX12_readSlab 78 = .ok (.getfield 205, 3) := dk_180 (dw rcX12_readSlab_44 18 rfl) rfl
theorem dX12_readSlab_81 : decode cX12_readSlab 81 = .ok (.iconst 1, 1) := dk_4 (dw rcX12_readSlab_44 19 rfl)
theorem dX12_readSlab_82 : decode cX12_readSlab 82 = .ok (.if_icmp .ne 14, 3) := dk_160 (dw rcX12_readSlab_44 20 rfl) rfl
theorem dX12_readSlab_85 : decode cX12_readSlab 85 = .ok (.aload_n 0, 1) := dk_42 (dw rcX12_readSlab_44 21 rfl)
theorem dX12_readSlab_86 : decode cX12_readSlab 86 = .ok (.invokevirtual 245, 3) := dk_182 (dw rcX12_readSlab_44 22 rfl) rfl
theorem dX12_readSlab_89 : decode cX12_readSlab 89 = .ok (.ifCond .le 7, 3) := dk_158 (dw rcX12_readSlab_44 23 rfl) rfl
noncomputable def rbX12_readSlab_92 : List (Nat × List Nat) := [(92, [4]), (93, [167, 0, 4]), (96, [3]), (97, [54, 7]), (99, [21, 7]), (101, [153, 0, 18]), (104, [21, 6]), (106, [42]), (107, [182, 0, 245]), (110, [126]), (111, [153, 0, 8]), (114, [42]), (115, [5]), (116, [182, 1, 26]), (119, [21, 7]), (121, [153, 255, 200]), (124, [42]), (125, [180, 0, 218]), (128, [158, 0, 6]), (131, [167, 255, 190]), (134, [21, 6]), (136, [42]), (137, [182, 0, 245]), (140, [128])]
theorem rcX12_readSlab_92 : dgo (lb cX12_readSlab) 0 rbX12_readSlab_92 = true := by decide +kernel
theorem dX12_readSlab_92 : decode cX12_readSlab 92 = .ok (.iconst 1, 1) := dk_4 (dw rcX12_readSlab_92 0 rfl)
theorem dX12_readSlab_93 : decode cX12_readSlab 93 = .ok (.goto 4, 3) := dk_167 (dw rcX12_readSlab_92 1 rfl) rfl
theorem dX12_readSlab_96 : decode cX12_readSlab 96 = .ok (.iconst 0, 1) := dk_3 (dw rcX12_readSlab_92 2 rfl)
theorem dX12_readSlab_97 : decode cX12_readSlab 97 = .ok (.istore 7, 2) := dk_54 (dw rcX12_readSlab_92 3 rfl)
theorem dX12_readSlab_99 : decode cX12_readSlab 99 = .ok (.iload 7, 2) := dk_21 (dw rcX12_readSlab_92 4 rfl)
theorem dX12_readSlab_101 : decode cX12_readSlab 101 = .ok (.ifCond .eq 18, 3) := dk_153 (dw rcX12_readSlab_92 5 rfl) rfl
theorem dX12_readSlab_104 : decode cX12_readSlab 104 = .ok (.iload 6, 2) := dk_21 (dw rcX12_readSlab_92 6 rfl)
theorem dX12_readSlab_106 : decode cX12_readSlab 106 = .ok (.aload_n 0, 1) := dk_42 (dw rcX12_readSlab_92 7 rfl)
theorem dX12_readSlab_107 : decode cX12_readSlab 107 = .ok (.invokevirtual 245, 3) := dk_182 (dw rcX12_readSlab_92 8 rfl) rfl
theorem dX12_readSlab_110 : decode cX12_readSlab 110 = .ok (.iand, 1) := dk_126 (dw rcX12_readSlab_92 9 rfl)
theorem dX12_readSlab_111 : decode cX12_readSlab 111 = .ok (.ifCond .eq 8, 3) := dk_153 (dw rcX12_readSlab_92 10 rfl) rfl
theorem dX12_readSlab_114 : decode cX12_readSlab 114 = .ok (.aload_n 0, 1) := dk_42 (dw rcX12_readSlab_92 11 rfl)
theorem dX12_readSlab_115 : decode cX12_readSlab 115 = .ok (.iconst 2, 1) := dk_5 (dw rcX12_readSlab_92 12 rfl)
theorem dX12_readSlab_116 : decode cX12_readSlab 116 = .ok (.invokevirtual 282, 3) := dk_182 (dw rcX12_readSlab_92 13 rfl) rfl
theorem dX12_readSlab_119 : decode cX12_readSlab 119 = .ok (.iload 7, 2) := dk_21 (dw rcX12_readSlab_92 14 rfl)
theorem dX12_readSlab_121 : decode cX12_readSlab 121 = .ok (.ifCond .eq (-56), 3) := dk_153 (dw rcX12_readSlab_92 15 rfl) rfl
theorem dX12_readSlab_124 : decode cX12_readSlab 124 = .ok (.aload_n 0, 1) := dk_42 (dw rcX12_readSlab_92 16 rfl)
theorem dX12_readSlab_125 : decode cX12_readSlab 125 = .ok (.getfield 218, 3) := dk_180 (dw rcX12_readSlab_92 17 rfl) rfl
theorem dX12_readSlab_128 : decode cX12_readSlab 128 = .ok (.ifCond .le 6, 3) := dk_158 (dw rcX12_readSlab_92 18 rfl) rfl
theorem dX12_readSlab_131 : decode cX12_readSlab 131 = .ok (.goto (-66), 3) := dk_167 (dw rcX12_readSlab_92 19 rfl) rfl
theorem dX12_readSlab_134 : decode cX12_readSlab 134 = .ok (.iload 6, 2) := dk_21 (dw rcX12_readSlab_92 20 rfl)
theorem dX12_readSlab_136 : decode cX12_readSlab 136 = .ok (.aload_n 0, 1) := dk_42 (dw rcX12_readSlab_92 21 rfl)
theorem dX12_readSlab_137 : decode cX12_readSlab 137 = .ok (.invokevirtual 245, 3) := dk_182 (dw rcX12_readSlab_92 22 rfl) rfl
theorem dX12_readSlab_140 : decode cX12_readSlab 140 = .ok (.ior, 1) := dk_128 (dw rcX12_readSlab_92 23 rfl)
noncomputable def rbX12_readSlab_141 : List (Nat × List Nat) := [(141, [54, 6]), (143, [42]), (144, [182, 1, 23]), (147, [167, 255, 174]), (150, [42]), (151, [180, 0, 218]), (154, [158, 0, 4]), (157, [177]), (158, [42]), (159, [2]), (160, [28]), (161, [4]), (162, [100]), (163, [21, 5]), (165, [182, 1, 109]), (168, [42]), (169, [21, 6]), (171, [28]), (172, [21, 4]), (174, [182, 1, 109]), (177, [177])]
theorem rcX12_readSlab_141 : dgo (lb cX12_readSlab) 0 rbX12_readSlab_141 = true := by decide +kernel
theorem dX12_readSlab_141 : decode cX12_readSlab 141 = .ok (.istore 6, 2) := dk_54 (dw rcX12_readSlab_141 0 rfl)
theorem dX12_readSlab_143 : decode cX12_readSlab 143 = .ok (.aload_n 0, 1) := dk_42 (dw rcX12_readSlab_141 1 rfl)
theorem dX12_readSlab_144 : decode cX12_readSlab 144 = .ok (.invokevirtual 279, 3) := dk_182 (dw rcX12_readSlab_141 2 rfl) rfl
theorem dX12_readSlab_147 : decode cX12_readSlab 147 = .ok (.goto (-82), 3) := dk_167 (dw rcX12_readSlab_141 3 rfl) rfl
theorem dX12_readSlab_150 : decode cX12_readSlab 150 = .ok (.aload_n 0, 1) := dk_42 (dw rcX12_readSlab_141 4 rfl)
theorem dX12_readSlab_151 : decode cX12_readSlab 151 = .ok (.getfield 218, 3) := dk_180 (dw rcX12_readSlab_141 5 rfl) rfl
theorem dX12_readSlab_154 : decode cX12_readSlab 154 = .ok (.ifCond .le 4, 3) := dk_158 (dw rcX12_readSlab_141 6 rfl) rfl
theorem dX12_readSlab_157 : decode cX12_readSlab 157 = .ok (.return_, 1) := dk_177 (dw rcX12_readSlab_141 7 rfl)
theorem dX12_readSlab_158 : decode cX12_readSlab 158 = .ok (.aload_n 0, 1) := dk_42 (dw rcX12_readSlab_141 8 rfl)
theorem dX12_readSlab_159 : decode cX12_readSlab 159 = .ok (.iconst (-1), 1) := dk_2 (dw rcX12_readSlab_141 9 rfl)
theorem dX12_readSlab_160 : decode cX12_readSlab 160 = .ok (.iload_n 2, 1) := dk_28 (dw rcX12_readSlab_141 10 rfl)
theorem dX12_readSlab_161 : decode cX12_readSlab 161 = .ok (.iconst 1, 1) := dk_4 (dw rcX12_readSlab_141 11 rfl)
theorem dX12_readSlab_162 : decode cX12_readSlab 162 = .ok (.isub, 1) := dk_100 (dw rcX12_readSlab_141 12 rfl)
theorem dX12_readSlab_163 : decode cX12_readSlab 163 = .ok (.iload 5, 2) := dk_21 (dw rcX12_readSlab_141 13 rfl)
theorem dX12_readSlab_165 : decode cX12_readSlab 165 = .ok (.invokevirtual 365, 3) := dk_182 (dw rcX12_readSlab_141 14 rfl) rfl
theorem dX12_readSlab_168 : decode cX12_readSlab 168 = .ok (.aload_n 0, 1) := dk_42 (dw rcX12_readSlab_141 15 rfl)
theorem dX12_readSlab_169 : decode cX12_readSlab 169 = .ok (.iload 6, 2) := dk_21 (dw rcX12_readSlab_141 16 rfl)
theorem dX12_readSlab_171 : decode cX12_readSlab 171 = .ok (.iload_n 2, 1) := dk_28 (dw rcX12_readSlab_141 17 rfl)
theorem dX12_readSlab_172 : decode cX12_readSlab 172 = .ok (.iload 4, 2) := dk_21 (dw rcX12_readSlab_141 18 rfl)
theorem dX12_readSlab_174 : decode cX12_readSlab 174 = .ok (.invokevirtual 365, 3) := dk_182 (dw rcX12_readSlab_141 19 rfl) rfl
theorem dX12_readSlab_177 : decode cX12_readSlab 177 = .ok (.return_, 1) := dk_177 (dw rcX12_readSlab_141 20 rfl)
set_option maxHeartbeats 4000000 in
set_option maxRecDepth 100000 in
theorem n_readSlab (l : Launch) (D : va_G) (k : KT) (A : Nat → Prop) (a : Nat → Nat) (z : SK) (G : GS) (p0 : Int32) (p1 : Int32) (j0 : Nat) (hj0 : (G.1 66 45).toNatClampNeg = j0) (ha_p0 : 0 ≤ p0.toInt ∧ p0.toInt ≤ 9) (hnf : (G.1 66 2).toInt = 0) (hs : (G.1 66 45).toInt < 3) : Met l yX12_readSlab (WS yX12_readSlab cX12_readSlab 8 none) ({ frames := 3, cells := 0, slots := 0, locals := 66 }) (va_Pc [.ref (a 66), .int p0, .int p1] (cW D k A a z G)) (va_Qv (fun (G1 : GS) => Q_readSlab p0 p1 j0 G G1) (fun (G1 : GS) t => Wd D k A a G1 t.heap) A) 0 0 A := by
  refine Met.ofW (cc := cX12_readSlab) (maxL := 8) (ret := none) (by decide) rfl ?_
  intro p e s m args below meth c s₁ B hml hv
  obtain ⟨rfl, hW, hB_G, hK, hZ⟩ := hv
  have hx := B.exec
  have hb := B.bytes
  have hr := B.returns
  have hts := atoms_spec (ws := WS yX12_readSlab cX12_readSlab 8 none) B.pre
  have hgd : ∀ w ∈ gd, w ∈ WS yX12_readSlab cX12_readSlab 8 none := fun w h => List.mem_cons_of_mem _ h
  have hg : ∀ w ∈ gd, w.before _ s = true := fun w h => hts w (hgd w h)
  have hown : s.vm.findClass RX12 = some m.cls := findClass_of_methodNamed B.named
  have hS : va_S A s.heap s.heap [] := va_S.rf
  have hF : Fr [77, 78, 79, 80, 81] [(66, 2), (66, 3), (66, 4), (66, 6), (66, 7), (66, 8), (66, 9)] G G := Fr.rf
  have hl := lv_entry ([.ref (a 66), .int p0, .int p1]) (n := 8) (Nat.le_of_ble_eq_true rfl)
  rw [lg_entry_eq]
  generalize (lg_sl ([.ref (a 66), .int p0, .int p1]) ++ List.replicate (8 - (lg_sl ([.ref (a 66), .int p0, .int p1])).length) Slot.unset).toArray = ls at hl ⊢
  have hl : lv_has ls 8 [(0, .ref (a 66)), (1, .int p0), (2, .int p1)] := hl
  subst hj0
  have b_1 : 0 ≤ (G.1 81 (G.1 66 45).toNatClampNeg).toInt ∧ (G.1 81 (G.1 66 45).toNatClampNeg).toInt ≤ 400 := hB_G.i 81 _ rfl rfl
  refine lv_aload_n hx hb dX12_readSlab_0 rfl (lv_at hl 0 rfl) ?_
  have b_2 : 0 ≤ (G.1 66 7).toInt ∧ (G.1 66 7).toInt ≤ 1600 := bd_66_7 hB_G
  refine S_getI (v := (G.1 66 7)) (C := RX12) (T := TX12) (N := 89) hx hb hg iX12 hown hK hW kd_66 rfl 7 (lt_b rfl) (hg (Cond.fieldLink RX12 195 "SlabWalkModel" "place" "I") m1321) (fun _ h9 => h9) rfl rfl dX12_readSlab_1 ?_
  refine lv_istore_n (lv' := [(3, .int (G.1 66 7)), (0, .ref (a 66)), (1, .int p0), (2, .int p1)]) hx hb dX12_readSlab_4 rfl hl (lt_b rfl) rfl (fun ls hl => ?_)
  refine lv_aload_n hx hb dX12_readSlab_5 rfl (lv_at hl 1 rfl) ?_
  refine ic_1 hx hb dX12_readSlab_6 ?_
  refine lv_bipush (v := 60) hx hb dX12_readSlab_7 (by decide) ?_
  have qc_3 : (1 : Int32).toInt = 1 := rfl
  have qc_4 : (60 : Int32).toInt = 60 := rfl
  refine S_calli (va_runV (As := [.int 1, .int 60]) (rest := []) ⟨hx, hb, hml, hown, hts⟩ (n_told l D k A a z G 1 60 ) (cwV 2 hts (gd_V hgd m1682 m1684 m62 m131 m1685) rfl rfl rfl hd_X12_toldNumber ⟨Nat.le_of_ble_eq_true rfl, Nat.le_of_ble_eq_true rfl⟩) (pre_W hW hB_G hK hZ hS kd_66 rfl) rfl rfl hl.1 rfl (lv_room (Nat.le_of_ble_eq_true rfl)) dX12_readSlab_9 ⟨Nat.le_of_ble_eq_true rfl, Nat.le_of_ble_eq_true rfl⟩) hS (fun r_5 G_6 H locs hpo hW hS => ?_)
  have hX_9 : Q_told 1 60 G r_5 G_6 := hpo
  obtain ⟨hB_G_6, hq_7, ⟨d_1, d_2, d_3, d_4⟩, -⟩ := hpo
  have hF := hF.call9 hq_7 rfl rfl
  refine lv_istore (lv' := [(4, .int r_5), (3, .int (G.1 66 7)), (0, .ref (a 66)), (1, .int p0), (2, .int p1)]) hx hb dX12_readSlab_12 hl (lt_b rfl) rfl (fun ls hl => ?_)
  refine lv_iload_n hx hb dX12_readSlab_14 rfl (lv_at hl 4 rfl) ?_
  refine W.cut (σ := Int32) (pcJ := 23) (J := fun y H locs ls => ∃ (G_15 : GS), (0 ≤ y.toInt ∧ y.toInt ≤ 9) ∧ Jn_n_readSlab_1 p0 p1 G_6 y G_15 ∧ Wd D k A a G_15 H ∧ Bd G_15 ∧ Fr [77, 78, 79, 80, 81] [(66, 2), (66, 3), (66, 4), (66, 6), (66, 7), (66, 8), (66, 9)] G G_15 ∧ Fr [] [] G_6 G_15 ∧ va_S A s.heap H locs ∧ lv_has ls 8 [(4, .int r_5), (3, .int (G.1 66 7)), (0, .ref (a 66)), (2, .int p1)]) (stJ := fun y => [.int y]) ?_ (fun hJ_16 => ?_)
  · intro y H locs ls hI
    obtain ⟨w_14, hy⟩ : ∃ q, q = y := ⟨_, rfl⟩
    subst hy
    obtain ⟨G_15, f_19, hX_18, hW, hB_G_15, hF, hq_17, hS, hl⟩ := hI
    refine lv_istore (lv' := [(5, .int w_14), (4, .int r_5), (3, .int (G.1 66 7)), (0, .ref (a 66)), (2, .int p1)]) hx hb dX12_readSlab_23 hl (lt_b rfl) rfl (fun ls hl => ?_)
    refine lv_aload_n hx hb dX12_readSlab_25 rfl (lv_at hl 3 rfl) ?_
    have b_20 : 0 ≤ (G_6.1 66 2).toInt ∧ (G_6.1 66 2).toInt ≤ 4 := bd_66_2 hB_G_6
    refine S_getI (v := (G_6.1 66 2)) (C := RX12) (T := TX12) (N := 89) hx hb hg iX12 hown hK hW kd_66 rfl 2 (lt_b rfl) (hg (Cond.fieldLink RX12 218 "SlabWalkModel" "fault" "I") m1316) (fun _ h9 => h9) rfl (hq_17.i9 66 2 rfl rfl) dX12_readSlab_26 ?_
    refine W.cut (σ := Unit) (pcJ := 59) (J := fun y H locs ls => ∃ (G_25 : GS), (1 ≤ (G_25.1 66 2).toInt ∨ (1 ≤ r_5.toInt ∧ r_5.toInt ≤ 60 ∧ (G_25.1 81 (G.1 66 45).toNatClampNeg).toInt + w_14.toInt + r_5.toInt ≤ 400)) ∧ Jn_n_readSlab_2 r_5 w_14 G G_6 G_15 G_25 ∧ Wd D k A a G_25 H ∧ Bd G_25 ∧ Fr [77, 78, 79, 80, 81] [(66, 2), (66, 3), (66, 4), (66, 6), (66, 7), (66, 8), (66, 9)] G G_25 ∧ Fr [] [(66, 2), (66, 3)] G_15 G_25 ∧ va_S A s.heap H locs ∧ lv_has ls 8 [(5, .int w_14), (4, .int r_5), (0, .ref (a 66)), (2, .int p1)]) (stJ := fun _ => []) ?_ (fun hJ_26 => ?_)
    · intro y H locs ls hI
      obtain ⟨G_25, f_29, hX_28, hW, hB_G_25, hF, hq_27, hS, hl⟩ := hI
      have g_30 : (G_25.1 81 (G.1 66 45).toNatClampNeg).toInt = (G.1 81 (G.1 66 45).toNatClampNeg).toInt := by rw [show G_25.1 81 (G.1 66 45).toNatClampNeg = (G.1 81 (G.1 66 45).toNatClampNeg) from ((hq_27.ri9 81 rfl ((G.1 66 45).toNatClampNeg)).trans ((hq_17.ri9 81 rfl ((G.1 66 45).toNatClampNeg)).trans (hq_7.ri9 81 rfl ((G.1 66 45).toNatClampNeg))))]
      have b_31 : 0 ≤ (G_25.1 66 2).toInt ∧ (G_25.1 66 2).toInt ≤ 4 := bd_66_2 hB_G_25
      refine ic_0 hx hb dX12_readSlab_59 ?_
      refine lv_istore (lv' := [(6, .int 0), (5, .int w_14), (4, .int r_5), (0, .ref (a 66)), (2, .int p1)]) hx hb dX12_readSlab_60 hl (lt_b rfl) rfl (fun ls hl => ?_)
      refine ic_1 hx hb dX12_readSlab_62 ?_
      refine lv_istore (lv' := [(7, .int 1), (6, .int 0), (5, .int w_14), (4, .int r_5), (0, .ref (a 66)), (2, .int p1)]) hx hb dX12_readSlab_63 hl (lt_b rfl) rfl (fun ls hl => ?_)
      have g_39 : (G_25.1 81 (G.1 66 45).toNatClampNeg).toInt = (G.1 81 (G.1 66 45).toNatClampNeg).toInt := by rw [show G_25.1 81 (G.1 66 45).toNatClampNeg = (G.1 81 (G.1 66 45).toNatClampNeg) from ((hq_27.ri9 81 rfl ((G.1 66 45).toNatClampNeg)).trans ((hq_17.ri9 81 rfl ((G.1 66 45).toNatClampNeg)).trans (hq_7.ri9 81 rfl ((G.1 66 45).toNatClampNeg))))]
      have b_40 : 0 ≤ (G_6.1 66 4).toInt ∧ (G_6.1 66 4).toInt ≤ 1600 := bd_66_4 hB_G_6
      have g_41 : (G_25.1 66 4).toInt = (G_6.1 66 4).toInt := (congrArg Int32.toInt (show G_25.1 66 4 = (G_6.1 66 4) from ((hq_27.i9 66 4 rfl rfl).trans (hq_17.i9 66 4 rfl rfl))))
      have g_42 : (G_25.1 66 6).toInt = (G_6.1 66 6).toInt := (congrArg Int32.toInt (show G_25.1 66 6 = (G_6.1 66 6) from ((hq_27.i9 66 6 rfl rfl).trans (hq_17.i9 66 6 rfl rfl))))
      have qc_43 : (0 : Int32).toInt = 0 := rfl
      have qc_44 : (1 : Int32).toInt = 1 := rfl
      refine loop_N (Inv := fun n H locs ls => ∃ (G_32 : GS) (x_36 : Int32) (x_37 : Int32), (n : Int) = 20 - x_37.toInt + x_36.toInt - (G_32.1 66 2).toInt ∧ (0 ≤ x_36.toInt ∧ x_36.toInt ≤ 1) ∧ (0 ≤ x_37.toInt ∧ x_37.toInt ≤ 15) ∧ (1 ≤ (G_32.1 66 2).toInt ∨ (1 ≤ r_5.toInt ∧ r_5.toInt ≤ 60 ∧ (G_32.1 81 (G.1 66 45).toNatClampNeg).toInt + w_14.toInt + r_5.toInt ≤ 400)) ∧ ((G.1 66 4).toInt ≤ (G_32.1 66 4).toInt ∧ ((G_32.1 66 4).toInt = (G.1 66 4).toInt → (G_32.1 66 6).toInt = (G.1 66 6).toInt ∨ (G_32.1 66 6).toInt ≤ 3)) ∧ Rc (St_n_readSlab_3 r_5 w_14 G) (1, 0, G_25) (x_36, x_37, G_32) ∧ Wd D k A a G_32 H ∧ Bd G_32 ∧ Fr [77, 78, 79, 80, 81] [(66, 2), (66, 3), (66, 4), (66, 6), (66, 7), (66, 8), (66, 9)] G G_32 ∧ Fr [] [(66, 2), (66, 3), (66, 4), (66, 6), (66, 7), (66, 8), (66, 9)] G_25 G_32 ∧ va_S A s.heap H locs ∧ lv_has ls 8 [(7, .int x_36), (6, .int x_37), (5, .int w_14), (4, .int r_5), (0, .ref (a 66)), (2, .int p1)]) (fun n_35 H locs ls ih_34 hI => ?_) (20 - 0 + 1 - (G_25.1 66 2).toInt : Int).toNat ⟨G_25, 1, 0, (Int.toNat_of_nonneg ((by first | exact ok_947 b_31.2 | omega))), ⟨(by decide), (by decide)⟩, ⟨(by decide), (by decide)⟩, ((by first | exact f_29 | omega)), ((by first | exact ⟨(by first | exact ok_347 d_1 g_41 | omega), (fun h9 => by have q0_ := d_2 (by first | (clear ha_p0 hnf hs b_1 b_2 d_2 d_3 d_4 f_19 b_20 f_29 g_30 b_31 g_39 g_42; omega) | omega); (first | (clear ha_p0 hnf hs b_1 b_2 d_1 d_2 d_3 d_4 f_19 b_20 f_29 g_30 b_31 g_39 b_40 g_41; omega) | omega))⟩ | omega)), Rc.rf, hW, hB_G_25, hF, Fr.rf, hS, lv_sub hl [0, 1, 2, 3, 4, 5] rfl⟩
      obtain ⟨G_32, x_36, x_37, hn_49, f_45, f_46, f_47, f_48, hX_38, hW, hB_G_32, hF, hq_33, hS, hl⟩ := hI
      have d_5 := f_48.1
      have d_6 := f_48.2
      have g_50 : (G_32.1 81 (G.1 66 45).toNatClampNeg).toInt = (G.1 81 (G.1 66 45).toNatClampNeg).toInt := by rw [show G_32.1 81 (G.1 66 45).toNatClampNeg = (G.1 81 (G.1 66 45).toNatClampNeg) from ((hq_33.ri9 81 rfl ((G.1 66 45).toNatClampNeg)).trans ((hq_27.ri9 81 rfl ((G.1 66 45).toNatClampNeg)).trans ((hq_17.ri9 81 rfl ((G.1 66 45).toNatClampNeg)).trans (hq_7.ri9 81 rfl ((G.1 66 45).toNatClampNeg)))))]
      have b_51 : 0 ≤ (G_32.1 66 2).toInt ∧ (G_32.1 66 2).toInt ≤ 4 := bd_66_2 hB_G_32
      have b_52 : 0 ≤ (G_32.1 66 4).toInt ∧ (G_32.1 66 4).toInt ≤ 1600 := bd_66_4 hB_G_32
      refine lv_iload hx hb dX12_readSlab_65 (lv_at hl 0 rfl) ?_
      refine W.cut (σ := Unit) (pcJ := 150) (J := fun y H locs ls => ∃ (G_58 : GS), Jn_n_readSlab_4 x_36 G_32 G_58 ∧ Wd D k A a G_58 H ∧ Bd G_58 ∧ Fr [77, 78, 79, 80, 81] [(66, 2), (66, 3), (66, 4), (66, 6), (66, 7), (66, 8), (66, 9)] G G_58 ∧ Fr [] [] G_32 G_58 ∧ va_S A s.heap H locs ∧ lv_has ls 8 [(6, .int x_37), (5, .int w_14), (4, .int r_5), (0, .ref (a 66)), (2, .int p1)]) (stJ := fun _ => []) ?_ (fun hJ_59 => ?_)
      · intro y H locs ls hI
        obtain ⟨G_58, hX_61, hW, hB_G_58, hF, hq_60, hS, hl⟩ := hI
        refine lv_aload_n hx hb dX12_readSlab_150 rfl (lv_at hl 3 rfl) ?_
        refine S_getI (v := (G_32.1 66 2)) (C := RX12) (T := TX12) (N := 89) hx hb hg iX12 hown hK hW kd_66 rfl 2 (lt_b rfl) (hg (Cond.fieldLink RX12 218 "SlabWalkModel" "fault" "I") m1316) (fun _ h9 => h9) rfl ((hq_60.i9 66 2 rfl rfl).trans (rfl)) dX12_readSlab_151 ?_
        refine lv_if_le (tgt := 158) hx hb dX12_readSlab_154 rfl (fun c_62 => ?_) (fun c_62 => ?_)
        · have c_62 : (G_32.1 66 2).toInt ≤ 0 := xI_le rfl rfl c_62
          refine lv_aload_n hx hb dX12_readSlab_158 rfl (lv_at hl 3 rfl) ?_
          refine ic_m1 hx hb dX12_readSlab_159 ?_
          refine lv_iload_n hx hb dX12_readSlab_160 rfl (lv_at hl 4 rfl) ?_
          refine ic_1 hx hb dX12_readSlab_161 ?_
          refine lv_isub hx hb dX12_readSlab_162 ?_
          refine lv_topi (fun y_63 ey_63 => ?_)
          refine lv_iload hx hb dX12_readSlab_163 (lv_at hl 1 rfl) ?_
          have b_64 : 0 ≤ (G.1 66 45).toInt ∧ (G.1 66 45).toInt ≤ 3 := bd_66_45 hB_G
          have g_65 : (G_58.1 66 45).toInt = (G.1 66 45).toInt := (congrArg Int32.toInt (show G_58.1 66 45 = (G.1 66 45) from ((hq_60.i9 66 45 rfl rfl).trans ((hq_33.i9 66 45 rfl rfl).trans ((hq_27.i9 66 45 rfl rfl).trans ((hq_17.i9 66 45 rfl rfl).trans ((hq_7.i9 66 45 rfl rfl).trans (rfl))))))))
          have g_66 : (G_58.1 81 (G.1 66 45).toNatClampNeg).toInt = (G.1 81 (G.1 66 45).toNatClampNeg).toInt := by rw [show G_58.1 81 (G.1 66 45).toNatClampNeg = (G.1 81 (G.1 66 45).toNatClampNeg) from ((hq_60.ri9 81 rfl ((G.1 66 45).toNatClampNeg)).trans ((hq_33.ri9 81 rfl ((G.1 66 45).toNatClampNeg)).trans ((hq_27.ri9 81 rfl ((G.1 66 45).toNatClampNeg)).trans ((hq_17.ri9 81 rfl ((G.1 66 45).toNatClampNeg)).trans (hq_7.ri9 81 rfl ((G.1 66 45).toNatClampNeg))))))]
          have qc_67 : ((-1) : Int32).toInt = (-1) := rfl
          have g_68 : (G_58.1 81 (G.1 66 45).toNatClampNeg).toInt = (G.1 81 (G.1 66 45).toNatClampNeg).toInt := by rw [show G_58.1 81 (G.1 66 45).toNatClampNeg = (G.1 81 (G.1 66 45).toNatClampNeg) from ((hq_60.ri9 81 rfl ((G.1 66 45).toNatClampNeg)).trans ((hq_33.ri9 81 rfl ((G.1 66 45).toNatClampNeg)).trans ((hq_27.ri9 81 rfl ((G.1 66 45).toNatClampNeg)).trans ((hq_17.ri9 81 rfl ((G.1 66 45).toNatClampNeg)).trans (hq_7.ri9 81 rfl ((G.1 66 45).toNatClampNeg))))))]
          refine S_callv (va_runV (As := [.int (-1), .int y_63, .int w_14]) (rest := []) ⟨hx, hb, hml, hown, hts⟩ (n_pave l D k A a z G_58 (-1) y_63 w_14 ((G.1 66 45).toNatClampNeg) (show (G_58.1 66 45).toNatClampNeg = (G.1 66 45).toNatClampNeg from congrArg Int32.toNatClampNeg (((hq_60.i9 66 45 rfl rfl).trans ((hq_33.i9 66 45 rfl rfl).trans ((hq_27.i9 66 45 rfl rfl).trans ((hq_17.i9 66 45 rfl rfl).trans (hq_7.i9 66 45 rfl rfl))))))) ⟨(by first | exact f_19.1 | omega), (by first | exact ok_408 f_19.2 | omega)⟩ ((by first | exact ok_948 hs g_65 | omega)) ((by first | (clear ha_p0 hnf b_2 d_1 d_2 d_3 b_20 b_40 g_41 g_42 hn_49 f_45 f_46 f_48 d_5 d_6 b_52; omega) | omega))) (cwV 3 hts (gd_V hgd m1694 m1696 m65 m131 m1697) rfl rfl rfl hd_X12_pave ⟨Nat.le_of_ble_eq_true rfl, Nat.le_of_ble_eq_true rfl⟩) (pre_W hW hB_G_58 hK hZ hS kd_66 rfl) rfl rfl hl.1 rfl (lv_room (Nat.le_of_ble_eq_true rfl)) dX12_readSlab_165 ⟨Nat.le_of_ble_eq_true rfl, Nat.le_of_ble_eq_true rfl⟩) hS (fun G_70 H locs hpo hW hS => ?_)
          have hX_73 : Q_pave (-1) y_63 w_14 ((G.1 66 45).toNatClampNeg) G_58 G_70 := hpo
          obtain ⟨hB_G_70, hq_71, hp_72, -⟩ := hpo
          have hF := hF.call9 hq_71 rfl rfl
          refine lv_aload_n hx hb dX12_readSlab_168 rfl (lv_at hl 3 rfl) ?_
          refine lv_iload hx hb dX12_readSlab_169 (lv_at hl 0 rfl) ?_
          refine lv_iload_n hx hb dX12_readSlab_171 rfl (lv_at hl 4 rfl) ?_
          refine lv_iload hx hb dX12_readSlab_172 (lv_at hl 2 rfl) ?_
          have g_74 : (G_70.1 66 45).toInt = (G.1 66 45).toInt := (congrArg Int32.toInt (show G_70.1 66 45 = (G.1 66 45) from ((hq_71.i9 66 45 rfl rfl).trans ((hq_60.i9 66 45 rfl rfl).trans ((hq_33.i9 66 45 rfl rfl).trans ((hq_27.i9 66 45 rfl rfl).trans ((hq_17.i9 66 45 rfl rfl).trans ((hq_7.i9 66 45 rfl rfl).trans (rfl)))))))))
          refine S_callv (va_runV (As := [.int x_37, .int p1, .int r_5]) (rest := []) ⟨hx, hb, hml, hown, hts⟩ (n_pave l D k A a z G_70 x_37 p1 r_5 ((G.1 66 45).toNatClampNeg) (show (G_70.1 66 45).toNatClampNeg = (G.1 66 45).toNatClampNeg from congrArg Int32.toNatClampNeg (((hq_71.i9 66 45 rfl rfl).trans ((hq_60.i9 66 45 rfl rfl).trans ((hq_33.i9 66 45 rfl rfl).trans ((hq_27.i9 66 45 rfl rfl).trans ((hq_17.i9 66 45 rfl rfl).trans ((hq_7.i9 66 45 rfl rfl).trans (rfl))))))))) ⟨(by first | (clear ha_p0 b_2 d_1 d_2 b_40 g_41 g_42 hn_49 f_45 f_46 f_48 d_5 d_6 b_52; omega) | omega), (by first | (clear ha_p0 b_2 d_1 d_2 b_40 g_41 g_42 hn_49 f_45 f_46 f_48 d_5 d_6 b_52; omega) | omega)⟩ ((by first | exact ok_948 hs g_74 | omega)) ((by first | (clear ha_p0 b_2 d_1 d_2 b_40 g_41 g_42 hn_49 f_45 f_46 f_48 d_5 d_6 b_52; omega) | omega))) (cwV 3 hts (gd_V hgd m1694 m1696 m65 m131 m1697) rfl rfl rfl hd_X12_pave ⟨Nat.le_of_ble_eq_true rfl, Nat.le_of_ble_eq_true rfl⟩) (pre_W hW hB_G_70 hK hZ hS kd_66 rfl) rfl rfl hl.1 rfl (lv_room (Nat.le_of_ble_eq_true rfl)) dX12_readSlab_174 ⟨Nat.le_of_ble_eq_true rfl, Nat.le_of_ble_eq_true rfl⟩) hS (fun G_76 H locs hpo hW hS => ?_)
          have hX_79 : Q_pave x_37 p1 r_5 ((G.1 66 45).toNatClampNeg) G_70 G_76 := hpo
          obtain ⟨hB_G_76, hq_77, hp_78, -⟩ := hpo
          have hF := hF.call9 hq_77 rfl rfl
          have g_80 : (G_76.1 66 2).toInt = (G_32.1 66 2).toInt := (congrArg Int32.toInt (show G_76.1 66 2 = (G_32.1 66 2) from ((hq_77.i9 66 2 rfl rfl).trans ((hq_71.i9 66 2 rfl rfl).trans ((hq_60.i9 66 2 rfl rfl).trans (rfl))))))
          have g_81 : (G_76.1 66 4).toInt = (G_32.1 66 4).toInt := (congrArg Int32.toInt (show G_76.1 66 4 = (G_32.1 66 4) from ((hq_77.i9 66 4 rfl rfl).trans ((hq_71.i9 66 4 rfl rfl).trans ((hq_60.i9 66 4 rfl rfl).trans (rfl))))))
          have g_82 : (G_76.1 66 6).toInt = (G_32.1 66 6).toInt := (congrArg Int32.toInt (show G_76.1 66 6 = (G_32.1 66 6) from ((hq_77.i9 66 6 rfl rfl).trans ((hq_71.i9 66 6 rfl rfl).trans ((hq_60.i9 66 6 rfl rfl).trans (rfl))))))
          exact W.vret hx hb hr (fun t ht _ => ⟨⟨G_76, rfl, (Q_readSlab_mk ⟨hB_G_76, hF, ((by first | exact ⟨(by first | exact ok_347 f_48.1 g_81 | omega), ⟨(fun h9 => by have q0_ := d_6 (by first | (clear ha_p0 hnf hs b_1 b_2 d_2 d_3 d_4 f_19 b_20 f_29 g_30 b_31 g_39 g_42 hn_49 f_45 f_46 f_47 f_48 d_6 g_50 b_51 c_62 b_64 g_65 g_66 g_68 hp_72 g_74 hp_78 g_80 g_82; omega) | omega); (first | (clear ha_p0 hnf hs b_1 b_2 d_1 d_2 d_3 d_4 f_19 b_20 f_29 g_30 b_31 g_39 b_40 g_41 g_42 hn_49 f_45 f_46 f_47 f_48 d_5 d_6 g_50 b_51 b_52 c_62 b_64 g_65 g_66 g_68 hp_72 g_74 hp_78 g_80 g_81; omega) | omega)), ⟨((by first | (clear ha_p0 b_2 d_1 d_2 b_40 g_41 g_42 hn_49 f_45 f_46 f_48 d_5 d_6 b_52 g_81 g_82; omega) | omega)), ⟨((by first | (clear ha_p0 b_2 d_1 d_2 b_40 g_41 g_42 hn_49 f_45 f_46 f_48 d_5 d_6 b_52 g_81 g_82; omega) | omega)), (fun h9 => ((by first | (clear ha_p0 b_2 d_1 d_2 b_40 g_41 g_42 hn_49 f_45 f_46 f_48 d_5 d_6 b_52 g_81 g_82; omega) | omega)))⟩⟩⟩⟩ | omega)), ⟨r_5, G_6, hX_9, ⟨w_14, G_15, hX_18, f_19, hB_G_15, hq_17, ⟨G_25, hX_28, f_29, hB_G_25, hq_27, ⟨x_36, x_37, G_32, hX_38, f_45, f_46, f_47, f_48, hB_G_32, hq_33, ⟨G_58, hX_61, hB_G_58, hq_60, (Or.inl ⟨c_62, ⟨y_63, ey_63, ⟨G_70, hX_73, ⟨G_76, hX_79, rfl⟩⟩⟩⟩)⟩⟩⟩⟩⟩⟩), wd_t ht hW⟩, hS.F ht⟩) hS.2.2 dX12_readSlab_177
        · have c_62 : 0 < (G_32.1 66 2).toInt := xI_nle rfl rfl c_62
          have g_83 : (G_58.1 81 (G.1 66 45).toNatClampNeg).toInt = (G.1 81 (G.1 66 45).toNatClampNeg).toInt := by rw [show G_58.1 81 (G.1 66 45).toNatClampNeg = (G.1 81 (G.1 66 45).toNatClampNeg) from ((hq_60.ri9 81 rfl ((G.1 66 45).toNatClampNeg)).trans ((hq_33.ri9 81 rfl ((G.1 66 45).toNatClampNeg)).trans ((hq_27.ri9 81 rfl ((G.1 66 45).toNatClampNeg)).trans ((hq_17.ri9 81 rfl ((G.1 66 45).toNatClampNeg)).trans (hq_7.ri9 81 rfl ((G.1 66 45).toNatClampNeg))))))]
          have g_84 : (G_58.1 66 2).toInt = (G_32.1 66 2).toInt := (congrArg Int32.toInt (show G_58.1 66 2 = (G_32.1 66 2) from ((hq_60.i9 66 2 rfl rfl).trans (rfl))))
          have g_85 : (G_58.1 66 4).toInt = (G_32.1 66 4).toInt := (congrArg Int32.toInt (show G_58.1 66 4 = (G_32.1 66 4) from ((hq_60.i9 66 4 rfl rfl).trans (rfl))))
          have g_86 : (G_58.1 66 6).toInt = (G_32.1 66 6).toInt := (congrArg Int32.toInt (show G_58.1 66 6 = (G_32.1 66 6) from ((hq_60.i9 66 6 rfl rfl).trans (rfl))))
          exact W.vret hx hb hr (fun t ht _ => ⟨⟨G_58, rfl, (Q_readSlab_mk ⟨hB_G_58, hF, ((by first | exact ⟨(by first | exact ok_347 f_48.1 g_85 | omega), ⟨(fun h9 => by have q0_ := d_6 (by first | (clear ha_p0 hnf hs b_1 b_2 d_2 d_3 d_4 f_19 b_20 f_29 g_30 b_31 g_39 g_42 hn_49 f_45 f_46 f_47 f_48 d_6 g_50 b_51 c_62 g_83 g_84 g_86; omega) | omega); (first | (clear ha_p0 hnf hs b_1 b_2 d_1 d_2 d_3 d_4 f_19 b_20 f_29 g_30 b_31 g_39 b_40 g_41 g_42 hn_49 f_45 f_46 f_47 f_48 d_5 d_6 g_50 b_51 b_52 c_62 g_83 g_84 g_85; omega) | omega)), ⟨(by first | exact ok_622 g_83 | omega), ⟨(by first | exact ok_949 b_1.2 g_83 | omega), (fun h9 => ((by first | (clear ha_p0 hnf b_2 d_1 d_2 d_3 b_20 b_40 g_41 g_42 hn_49 f_45 f_46 f_48 d_5 d_6 b_52 g_85 g_86; omega) | omega)))⟩⟩⟩⟩ | omega)), ⟨r_5, G_6, hX_9, ⟨w_14, G_15, hX_18, f_19, hB_G_15, hq_17, ⟨G_25, hX_28, f_29, hB_G_25, hq_27, ⟨x_36, x_37, G_32, hX_38, f_45, f_46, f_47, f_48, hB_G_32, hq_33, ⟨G_58, hX_61, hB_G_58, hq_60, (Or.inr ⟨c_62, rfl⟩)⟩⟩⟩⟩⟩⟩), wd_t ht hW⟩, hS.F ht⟩) hS.2.2 dX12_readSlab_157
      refine lv_if_eq (tgt := 150) hx hb dX12_readSlab_67 rfl (fun c_87 => ?_) (fun c_87 => ?_)
      · have c_87 : x_36.toInt = 0 := xI_eq rfl rfl c_87
        exact hJ_59 () _ _ _ ⟨G_32, (Jn_n_readSlab_4_mk (Or.inl ⟨c_87, rfl⟩)), hW, hB_G_32, hF, (Fr.rf (rs := []) (fs := [])), hS, lv_sub hl [1, 2, 3, 4, 5] rfl⟩
      · have c_87 : x_36.toInt ≠ 0 := xI_ne rfl rfl c_87
        refine lv_aload_n hx hb dX12_readSlab_70 rfl (lv_at hl 4 rfl) ?_
        refine S_getI (v := (G_32.1 66 2)) (C := RX12) (T := TX12) (N := 89) hx hb hg iX12 hown hK hW kd_66 rfl 2 (lt_b rfl) (hg (Cond.fieldLink RX12 218 "SlabWalkModel" "fault" "I") m1316) (fun _ h9 => h9) rfl rfl dX12_readSlab_71 ?_
        refine lv_if_ne (tgt := 150) hx hb dX12_readSlab_74 rfl (fun c_88 => ?_) (fun c_88 => ?_)
        · have c_88 : (G_32.1 66 2).toInt ≠ 0 := xI_ne rfl rfl c_88
          exact hJ_59 () _ _ _ ⟨G_32, (Jn_n_readSlab_4_mk (Or.inr ⟨c_87, ⟨c_88, rfl⟩⟩)), hW, hB_G_32, hF, (Fr.rf (rs := []) (fs := [])), hS, lv_sub hl [1, 2, 3, 4, 5] rfl⟩
        · have c_88 : (G_32.1 66 2).toInt = 0 := xI_eq rfl rfl c_88
          refine lv_aload_n hx hb dX12_readSlab_77 rfl (lv_at hl 4 rfl) ?_
          refine S_getI (v := (G_32.1 66 6)) (C := RX12) (T := TX12) (N := 89) hx hb hg iX12 hown hK hW kd_66 rfl 6 (lt_b rfl) (hg (Cond.fieldLink RX12 205 "SlabWalkModel" "sort" "I") m1320) (fun _ h9 => h9) rfl rfl dX12_readSlab_78 ?_
          refine ic_1 hx hb dX12_readSlab_81 ?_
          refine W.cut (σ := Unit) (pcJ := 96) (J := fun y H locs ls => ∃ (G_94 : GS), Jn_n_readSlab_5 G_32 G_94 ∧ Wd D k A a G_94 H ∧ Bd G_94 ∧ Fr [77, 78, 79, 80, 81] [(66, 2), (66, 3), (66, 4), (66, 6), (66, 7), (66, 8), (66, 9)] G G_94 ∧ Fr [] [] G_32 G_94 ∧ va_S A s.heap H locs ∧ lv_has ls 8 [(6, .int x_37), (5, .int w_14), (4, .int r_5), (0, .ref (a 66)), (2, .int p1)]) (stJ := fun _ => []) ?_ (fun hJ_95 => ?_)
          · intro y H locs ls hI
            obtain ⟨G_94, hX_97, hW, hB_G_94, hF, hq_96, hS, hl⟩ := hI
            refine ic_0 hx hb dX12_readSlab_96 ?_
            refine lv_istore (lv' := [(7, .int 0), (6, .int x_37), (5, .int w_14), (4, .int r_5), (0, .ref (a 66)), (2, .int p1)]) hx hb dX12_readSlab_97 hl (lt_b rfl) rfl (fun ls hl => ?_)
            refine lv_iload hx hb dX12_readSlab_99 (lv_at hl 0 rfl) ?_
            refine lv_if_eq (tgt := 119) hx hb dX12_readSlab_101 rfl (fun c_98 => ?_) (fun c_98 => ?_)
            · have c_98 : (0 : Int) = (0 : Int) := xI_eq rfl rfl c_98
              refine lv_iload hx hb dX12_readSlab_119 (lv_at hl 0 rfl) ?_
              refine lv_if_eq (tgt := 65) hx hb dX12_readSlab_121 rfl (fun c_99 => ?_) (fun c_99 => ?_)
              · have c_99 : (0 : Int) = (0 : Int) := xI_eq rfl rfl c_99
                have g_100 : (G_94.1 66 2).toInt = (G_32.1 66 2).toInt := (congrArg Int32.toInt (show G_94.1 66 2 = (G_32.1 66 2) from ((hq_96.i9 66 2 rfl rfl).trans (rfl))))
                have g_101 : (G_94.1 81 (G.1 66 45).toNatClampNeg).toInt = (G.1 81 (G.1 66 45).toNatClampNeg).toInt := by rw [show G_94.1 81 (G.1 66 45).toNatClampNeg = (G.1 81 (G.1 66 45).toNatClampNeg) from ((hq_96.ri9 81 rfl ((G.1 66 45).toNatClampNeg)).trans ((hq_33.ri9 81 rfl ((G.1 66 45).toNatClampNeg)).trans ((hq_27.ri9 81 rfl ((G.1 66 45).toNatClampNeg)).trans ((hq_17.ri9 81 rfl ((G.1 66 45).toNatClampNeg)).trans (hq_7.ri9 81 rfl ((G.1 66 45).toNatClampNeg))))))]
                have g_102 : (G_94.1 66 2).toInt = (G_32.1 66 2).toInt := (congrArg Int32.toInt (show G_94.1 66 2 = (G_32.1 66 2) from ((hq_96.i9 66 2 rfl rfl).trans (rfl))))
                have g_103 : (G_94.1 66 4).toInt = (G_32.1 66 4).toInt := (congrArg Int32.toInt (show G_94.1 66 4 = (G_32.1 66 4) from ((hq_96.i9 66 4 rfl rfl).trans (rfl))))
                have g_104 : (G_94.1 66 6).toInt = (G_32.1 66 6).toInt := (congrArg Int32.toInt (show G_94.1 66 6 = (G_32.1 66 6) from ((hq_96.i9 66 6 rfl rfl).trans (rfl))))
                have qc_105 : (0 : Int32).toInt = 0 := rfl
                exact ih_34 (20 - x_37.toInt + 0 - (G_94.1 66 2).toInt : Int).toNat ((by first | (clear ha_p0 hnf b_2 d_1 d_2 d_3 b_20 b_31 b_40 g_41 g_42 f_48 d_5 d_6 b_52 g_103 g_104; omega) | omega)) _ _ _ ⟨G_94, 0, x_37, (Int.toNat_of_nonneg ((by first | exact ok_950 f_46.2 c_88 g_100 | omega))), ⟨(by decide), (by decide)⟩, ⟨(by first | exact f_46.1 | omega), (by first | exact f_46.2 | omega)⟩, ((by first | exact ok_951 f_47 g_50 b_51.1 g_100 g_101 | omega)), ((by first | exact ⟨(by first | exact ok_347 f_48.1 g_103 | omega), (fun h9 => by have q0_ := d_6 (by first | (clear ha_p0 hnf hs b_1 b_2 d_2 d_3 d_4 f_19 b_20 f_29 g_30 b_31 g_39 g_42 hn_49 f_45 f_46 f_47 f_48 d_6 g_50 b_51 c_87 c_88 g_100 g_101 g_102 g_104; omega) | omega); (first | (clear ha_p0 hnf hs b_1 b_2 d_1 d_2 d_3 d_4 f_19 b_20 f_29 g_30 b_31 g_39 b_40 g_41 g_42 hn_49 f_45 f_46 f_47 f_48 d_5 d_6 g_50 b_51 b_52 c_87 c_88 g_100 g_101 g_102 g_103; omega) | omega))⟩ | omega)), (hX_38.st (St_n_readSlab_3_mk ⟨x_36, x_37, G_32, 0, x_37, G_94, rfl, rfl, f_45, f_46, f_47, f_48, hB_G_32, ⟨c_87, ⟨c_88, (Or.inr ⟨G_94, hX_97, hB_G_94, hq_96, ⟨rfl, rfl, rfl⟩⟩)⟩⟩⟩)), hW, hB_G_94, hF, (Fr.call9 (rs := []) (fs := [(66, 2), (66, 3), (66, 4), (66, 6), (66, 7), (66, 8), (66, 9)]) (Fr.call9 (rs := []) (fs := [(66, 2), (66, 3), (66, 4), (66, 6), (66, 7), (66, 8), (66, 9)]) Fr.rf hq_33 rfl rfl) hq_96 rfl rfl), hS, lv_sub hl [0, 1, 2, 3, 4, 5] rfl⟩
              · have c_99 : (0 : Int) ≠ (0 : Int) := xI_ne rfl rfl c_99
                exfalso; first | exact ok_69 c_99 | omega
            · have c_98 : (0 : Int) ≠ (0 : Int) := xI_ne rfl rfl c_98
              exfalso; first | exact ok_69 c_98 | omega
          refine lv_icmp_ne (tgt := 96) hx hb dX12_readSlab_82 rfl (fun c_106 => ?_) (fun c_106 => ?_)
          · have c_106 : (G_32.1 66 6).toInt ≠ 1 := xI_ne rfl rfl c_106
            exact hJ_95 () _ _ _ ⟨G_32, (Jn_n_readSlab_5_mk (Or.inr ⟨c_106, rfl⟩)), hW, hB_G_32, hF, (Fr.rf (rs := []) (fs := [])), hS, lv_sub hl [1, 2, 3, 4, 5] rfl⟩
          · have c_106 : (G_32.1 66 6).toInt = 1 := xI_eq rfl rfl c_106
            refine lv_aload_n hx hb dX12_readSlab_85 rfl (lv_at hl 4 rfl) ?_
            refine S_calli (va_runV (As := []) (rest := []) ⟨hx, hb, hml, hown, hts⟩ (n_mark l D k A a z G_32  ) (cwV 0 hts (gd_V hgd m1655 m1657 m58 m131 m1658) rfl rfl rfl hd_X12_mark ⟨Nat.le_of_ble_eq_true rfl, Nat.le_of_ble_eq_true rfl⟩) (pre_W hW hB_G_32 hK hZ hS kd_66 rfl) rfl rfl hl.1 rfl (lv_room (Nat.le_of_ble_eq_true rfl)) dX12_readSlab_86 ⟨Nat.le_of_ble_eq_true rfl, Nat.le_of_ble_eq_true rfl⟩) hS (fun r_107 G_108 H locs hpo hW hS => ?_)
            have hX_111 : Q_mark G_32 r_107 G_108 := hpo
            obtain ⟨hB_G_108, hq_109, f_112, hp_110, -⟩ := hpo
            have hF := hF.call9 hq_109 rfl rfl
            have u_113 : mkW (G_32.2.1 66 9) = mkW (G_32.2.1 66 9) := congrArg mkW (rfl)
            have u_114 := mkW_v (G_32.2.1 66 9)
            refine lv_if_le (tgt := 96) hx hb dX12_readSlab_89 rfl (fun c_115 => ?_) (fun c_115 => ?_)
            · have c_115 : r_107.toInt ≤ 0 := xI_le rfl rfl c_115
              exact hJ_95 () _ _ _ ⟨G_108, (Jn_n_readSlab_5_mk (Or.inl ⟨c_106, ⟨r_107, G_108, hX_111, ⟨c_115, rfl⟩⟩⟩)), hW, hB_G_108, hF, (Fr.call9 (rs := []) (fs := []) Fr.rf hq_109 rfl rfl), hS, lv_sub hl [1, 2, 3, 4, 5] rfl⟩
            · have c_115 : 0 < r_107.toInt := xI_nle rfl rfl c_115
              refine ic_1 hx hb dX12_readSlab_92 ?_
              refine lv_goto (tgt := 97) hx hb dX12_readSlab_93 rfl ?_
              refine lv_istore (lv' := [(7, .int 1), (6, .int x_37), (5, .int w_14), (4, .int r_5), (0, .ref (a 66)), (2, .int p1)]) hx hb dX12_readSlab_97 hl (lt_b rfl) rfl (fun ls hl => ?_)
              refine lv_iload hx hb dX12_readSlab_99 (lv_at hl 0 rfl) ?_
              refine lv_if_eq (tgt := 119) hx hb dX12_readSlab_101 rfl (fun c_116 => ?_) (fun c_116 => ?_)
              · have c_116 : (1 : Int) = (0 : Int) := xI_eq rfl rfl c_116
                exfalso; first | exact ok_68 c_116 | omega
              · have c_116 : (1 : Int) ≠ (0 : Int) := xI_ne rfl rfl c_116
                refine lv_iload hx hb dX12_readSlab_104 (lv_at hl 1 rfl) ?_
                refine lv_aload_n hx hb dX12_readSlab_106 rfl (lv_at hl 4 rfl) ?_
                refine S_calli (va_runV (As := []) (rest := [.int x_37]) ⟨hx, hb, hml, hown, hts⟩ (n_mark l D k A a z G_108  ) (cwV 0 hts (gd_V hgd m1655 m1657 m58 m131 m1658) rfl rfl rfl hd_X12_mark ⟨Nat.le_of_ble_eq_true rfl, Nat.le_of_ble_eq_true rfl⟩) (pre_W hW hB_G_108 hK hZ hS kd_66 rfl) rfl rfl hl.1 rfl (lv_room (Nat.le_of_ble_eq_true rfl)) dX12_readSlab_107 ⟨Nat.le_of_ble_eq_true rfl, Nat.le_of_ble_eq_true rfl⟩) hS (fun r_117 G_118 H locs hpo hW hS => ?_)
                have hX_121 : Q_mark G_108 r_117 G_118 := hpo
                obtain ⟨hB_G_118, hq_119, f_122, hp_120, -⟩ := hpo
                have hF := hF.call9 hq_119 rfl rfl
                have u_123 : mkW (G_108.2.1 66 9) = mkW (G_32.2.1 66 9) := congrArg mkW ((hq_109.l9 66 9 rfl rfl))
                have u_124 := mkW_v (G_32.2.1 66 9)
                refine lv_iand hx hb dX12_readSlab_110 ?_
                refine lv_topi (fun y_125 ey_125 => ?_)
                refine lv_if_eq (tgt := 119) hx hb dX12_readSlab_111 rfl (fun c_126 => ?_) (fun c_126 => ?_)
                · have c_126 : y_125.toInt = 0 := xI_eq rfl rfl c_126
                  refine lv_iload hx hb dX12_readSlab_119 (lv_at hl 0 rfl) ?_
                  refine lv_if_eq (tgt := 65) hx hb dX12_readSlab_121 rfl (fun c_127 => ?_) (fun c_127 => ?_)
                  · have c_127 : (1 : Int) = (0 : Int) := xI_eq rfl rfl c_127
                    exfalso; first | exact ok_68 c_127 | omega
                  · have c_127 : (1 : Int) ≠ (0 : Int) := xI_ne rfl rfl c_127
                    refine lv_aload_n hx hb dX12_readSlab_124 rfl (lv_at hl 4 rfl) ?_
                    refine S_getI (v := (G_32.1 66 2)) (C := RX12) (T := TX12) (N := 89) hx hb hg iX12 hown hK hW kd_66 rfl 2 (lt_b rfl) (hg (Cond.fieldLink RX12 218 "SlabWalkModel" "fault" "I") m1316) (fun _ h9 => h9) rfl ((hq_119.i9 66 2 rfl rfl).trans ((hq_109.i9 66 2 rfl rfl).trans (rfl))) dX12_readSlab_125 ?_
                    refine lv_if_le (tgt := 134) hx hb dX12_readSlab_128 rfl (fun c_128 => ?_) (fun c_128 => ?_)
                    · have c_128 : (G_32.1 66 2).toInt ≤ 0 := xI_le rfl rfl c_128
                      refine lv_iload hx hb dX12_readSlab_134 (lv_at hl 1 rfl) ?_
                      refine lv_aload_n hx hb dX12_readSlab_136 rfl (lv_at hl 4 rfl) ?_
                      refine S_calli (va_runV (As := []) (rest := [.int x_37]) ⟨hx, hb, hml, hown, hts⟩ (n_mark l D k A a z G_118  ) (cwV 0 hts (gd_V hgd m1655 m1657 m58 m131 m1658) rfl rfl rfl hd_X12_mark ⟨Nat.le_of_ble_eq_true rfl, Nat.le_of_ble_eq_true rfl⟩) (pre_W hW hB_G_118 hK hZ hS kd_66 rfl) rfl rfl hl.1 rfl (lv_room (Nat.le_of_ble_eq_true rfl)) dX12_readSlab_137 ⟨Nat.le_of_ble_eq_true rfl, Nat.le_of_ble_eq_true rfl⟩) hS (fun r_129 G_130 H locs hpo hW hS => ?_)
                      have hX_133 : Q_mark G_118 r_129 G_130 := hpo
                      obtain ⟨hB_G_130, hq_131, f_134, hp_132, -⟩ := hpo
                      have hF := hF.call9 hq_131 rfl rfl
                      have u_135 : mkW (G_118.2.1 66 9) = mkW (G_32.2.1 66 9) := congrArg mkW (((hq_119.l9 66 9 rfl rfl).trans (hq_109.l9 66 9 rfl rfl)))
                      have u_136 := mkW_v (G_32.2.1 66 9)
                      refine lv_ior hx hb dX12_readSlab_140 ?_
                      refine lv_topi (fun y_137 ey_137 => ?_)
                      have ty_137 := or6 ey_137 ⟨by omega, by omega⟩ ⟨by omega, by omega⟩
                      have u_138 := orM (x := x_37) (y := r_129) (z := y_137) (w := y_125) (by first | (clear ha_p0 hnf hs b_1 b_2 d_1 d_2 d_3 d_4 f_19 b_20 f_29 g_30 b_31 g_39 b_40 g_41 g_42 hn_49 f_45 f_47 f_48 d_5 d_6 g_50 b_51 b_52 c_87 c_88 c_106 f_112 hp_110 u_114 c_115 u_124 c_128 u_136; omega) | omega) (by first | (clear ha_p0 hnf hs b_1 b_2 d_1 d_2 d_3 d_4 f_19 b_20 f_29 g_30 b_31 g_39 b_40 g_41 g_42 hn_49 f_45 f_47 f_48 d_5 d_6 g_50 b_51 b_52 c_87 c_88 c_106 f_112 hp_110 u_114 c_115 u_124 c_128 u_136; omega) | omega) (by first | (clear ha_p0 hnf hs b_1 b_2 d_1 d_2 d_3 d_4 f_19 b_20 f_29 g_30 b_31 g_39 b_40 g_41 g_42 hn_49 f_45 f_47 f_48 d_5 d_6 g_50 b_51 b_52 c_87 c_88 c_106 f_112 hp_110 u_114 c_115 u_124 c_128 u_136; omega) | omega) (ey_125.trans (congrArg (fun q => x_37 &&& q) (Int32.toInt_inj.mp (show r_117.toInt = r_129.toInt by omega)))) (by first | (clear ha_p0 hnf hs b_1 b_2 d_1 d_2 d_3 d_4 f_19 b_20 f_29 g_30 b_31 g_39 b_40 g_41 g_42 hn_49 f_45 f_47 f_48 d_5 d_6 g_50 b_51 b_52 c_87 c_88 c_106 f_112 hp_110 u_114 c_115 u_124 c_128 u_136; omega) | omega) ey_137
                      refine lv_istore (lv' := [(6, .int y_137), (7, .int 1), (5, .int w_14), (4, .int r_5), (0, .ref (a 66)), (2, .int p1)]) hx hb dX12_readSlab_141 hl (lt_b rfl) rfl (fun ls hl => ?_)
                      refine lv_aload_n hx hb dX12_readSlab_143 rfl (lv_at hl 4 rfl) ?_
                      have g_139 : (G_130.1 66 4).toInt = (G_32.1 66 4).toInt := (congrArg Int32.toInt (show G_130.1 66 4 = (G_32.1 66 4) from ((hq_131.i9 66 4 rfl rfl).trans ((hq_119.i9 66 4 rfl rfl).trans ((hq_109.i9 66 4 rfl rfl).trans (rfl))))))
                      have g_140 : (G_130.1 66 6).toInt = (G_32.1 66 6).toInt := (congrArg Int32.toInt (show G_130.1 66 6 = (G_32.1 66 6) from ((hq_131.i9 66 6 rfl rfl).trans ((hq_119.i9 66 6 rfl rfl).trans ((hq_109.i9 66 6 rfl rfl).trans (rfl))))))
                      refine S_callv (va_runV (As := []) (rest := []) ⟨hx, hb, hml, hown, hts⟩ (n_token l D k A a z G_130  ) (cwV 0 hts (gd_V hgd m1602 m1604 m50 m131 m1605) rfl rfl rfl hd_X12_token ⟨Nat.le_of_ble_eq_true rfl, Nat.le_of_ble_eq_true rfl⟩) (pre_W hW hB_G_130 hK hZ hS kd_66 rfl) rfl rfl hl.1 rfl (lv_room (Nat.le_of_ble_eq_true rfl)) dX12_readSlab_144 ⟨Nat.le_of_ble_eq_true rfl, Nat.le_of_ble_eq_true rfl⟩) hS (fun G_142 H locs hpo hW hS => ?_)
                      have hX_145 : Q_token G_130 G_142 := hpo
                      obtain ⟨hB_G_142, hq_143, ⟨d_7, d_8⟩, -⟩ := hpo
                      have hF := hF.call9 hq_143 rfl rfl
                      refine lv_goto (tgt := 65) hx hb dX12_readSlab_147 rfl ?_
                      have g_146 : (G_142.1 66 2).toInt = (G_32.1 66 2).toInt := (congrArg Int32.toInt (show G_142.1 66 2 = (G_32.1 66 2) from ((hq_143.i9 66 2 rfl rfl).trans ((hq_131.i9 66 2 rfl rfl).trans ((hq_119.i9 66 2 rfl rfl).trans ((hq_109.i9 66 2 rfl rfl).trans (rfl)))))))
                      have g_147 : (G_142.1 81 (G.1 66 45).toNatClampNeg).toInt = (G.1 81 (G.1 66 45).toNatClampNeg).toInt := by rw [show G_142.1 81 (G.1 66 45).toNatClampNeg = (G.1 81 (G.1 66 45).toNatClampNeg) from ((hq_143.ri9 81 rfl ((G.1 66 45).toNatClampNeg)).trans ((hq_131.ri9 81 rfl ((G.1 66 45).toNatClampNeg)).trans ((hq_119.ri9 81 rfl ((G.1 66 45).toNatClampNeg)).trans ((hq_109.ri9 81 rfl ((G.1 66 45).toNatClampNeg)).trans ((hq_33.ri9 81 rfl ((G.1 66 45).toNatClampNeg)).trans ((hq_27.ri9 81 rfl ((G.1 66 45).toNatClampNeg)).trans ((hq_17.ri9 81 rfl ((G.1 66 45).toNatClampNeg)).trans (hq_7.ri9 81 rfl ((G.1 66 45).toNatClampNeg)))))))))]
                      have g_148 : (G_142.1 66 2).toInt = (G_32.1 66 2).toInt := (congrArg Int32.toInt (show G_142.1 66 2 = (G_32.1 66 2) from ((hq_143.i9 66 2 rfl rfl).trans ((hq_131.i9 66 2 rfl rfl).trans ((hq_119.i9 66 2 rfl rfl).trans ((hq_109.i9 66 2 rfl rfl).trans (rfl)))))))
                      have b_149 : 0 ≤ (G_142.1 66 4).toInt ∧ (G_142.1 66 4).toInt ≤ 1600 := bd_66_4 hB_G_142
                      have qc_150 : (1 : Int32).toInt = 1 := rfl
                      exact ih_34 (20 - y_137.toInt + 1 - (G_142.1 66 2).toInt : Int).toNat ((by first | (clear ha_p0 hnf b_2 d_1 d_2 d_3 b_20 b_31 b_40 g_41 g_42 f_48 d_5 d_6 b_52 c_106 f_112 hp_110 u_114 c_115 u_124 u_136 g_139 g_140 d_7 d_8 b_149; omega) | omega)) _ _ _ ⟨G_142, 1, y_137, (Int.toNat_of_nonneg ((by first | (clear ha_p0 hnf b_2 d_1 d_2 d_3 b_20 b_31 b_40 g_41 g_42 hn_49 f_45 f_48 d_5 d_6 b_52 c_87 c_106 f_112 hp_110 u_114 c_115 u_124 u_136 g_139 g_140 d_7 d_8 b_149; omega) | omega))), ⟨(by decide), (by decide)⟩, ⟨(by first | exact ty_137.1 | omega), (by first | (clear ha_p0 hnf hs b_1 b_2 d_1 d_2 d_3 d_4 f_19 b_20 f_29 g_30 b_31 g_39 b_40 g_41 g_42 hn_49 f_45 f_47 f_48 d_5 d_6 g_50 b_51 b_52 c_87 c_88 c_106 f_112 hp_110 u_114 c_115 u_124 c_128 u_136 g_139 g_140 d_7 d_8 g_146 g_147 g_148 b_149; omega) | omega)⟩, ((by first | exact ok_951 f_47 g_50 b_51.1 g_146 g_147 | omega)), ((by first | exact ⟨(by first | exact ok_630 f_48.1 g_139 d_7 | omega), (fun h9 => by have q0_ := d_6 (by first | (clear ha_p0 hnf hs b_1 b_2 d_2 d_3 d_4 f_19 b_20 f_29 g_30 b_31 g_39 g_42 hn_49 f_45 f_46 f_47 f_48 d_6 g_50 b_51 c_87 c_88 c_106 f_112 hp_110 u_114 c_115 c_116 f_122 hp_120 u_124 c_126 c_127 c_128 f_134 hp_132 u_136 ty_137 u_138 g_140 d_8 g_146 g_147 g_148; omega) | omega); have q1_ := d_8 (by first | (clear ha_p0 hnf hs b_1 b_2 d_2 d_3 d_4 f_19 b_20 f_29 g_30 b_31 g_39 g_42 hn_49 f_45 f_46 f_47 f_48 d_6 g_50 b_51 c_87 c_88 c_106 f_112 hp_110 u_114 c_115 c_116 f_122 hp_120 u_124 c_126 c_127 c_128 f_134 hp_132 u_136 ty_137 u_138 g_140 d_8 g_146 g_147 g_148; omega) | omega); (first | (clear ha_p0 hnf hs b_1 b_2 d_1 d_2 d_3 d_4 f_19 b_20 f_29 g_30 b_31 g_39 b_40 g_41 g_42 hn_49 f_45 f_46 f_47 f_48 d_5 d_6 g_50 b_51 b_52 c_87 c_88 f_112 hp_110 u_114 c_115 c_116 f_122 hp_120 u_124 c_126 c_127 c_128 f_134 hp_132 u_136 ty_137 u_138 g_139 d_7 d_8 g_146 g_147 g_148 b_149; omega) | omega))⟩ | omega)), (hX_38.st (St_n_readSlab_3_mk ⟨x_36, x_37, G_32, 1, y_137, G_142, rfl, rfl, f_45, f_46, f_47, f_48, hB_G_32, ⟨c_87, ⟨c_88, (Or.inl ⟨c_106, ⟨r_107, G_108, hX_111, ⟨c_115, ⟨r_117, G_118, hX_121, ⟨y_125, ey_125, (Or.inl ⟨c_126, ⟨r_129, G_130, hX_133, ⟨y_137, ey_137, ⟨G_142, hX_145, ⟨rfl, rfl, rfl⟩⟩⟩⟩⟩)⟩⟩⟩⟩⟩)⟩⟩⟩)), hW, hB_G_142, hF, (Fr.call9 (rs := []) (fs := [(66, 2), (66, 3), (66, 4), (66, 6), (66, 7), (66, 8), (66, 9)]) (Fr.call9 (rs := []) (fs := [(66, 2), (66, 3), (66, 4), (66, 6), (66, 7), (66, 8), (66, 9)]) (Fr.call9 (rs := []) (fs := [(66, 2), (66, 3), (66, 4), (66, 6), (66, 7), (66, 8), (66, 9)]) (Fr.call9 (rs := []) (fs := [(66, 2), (66, 3), (66, 4), (66, 6), (66, 7), (66, 8), (66, 9)]) (Fr.call9 (rs := []) (fs := [(66, 2), (66, 3), (66, 4), (66, 6), (66, 7), (66, 8), (66, 9)]) Fr.rf hq_33 rfl rfl) hq_109 rfl rfl) hq_119 rfl rfl) hq_131 rfl rfl) hq_143 rfl rfl), hS, lv_sub hl [1, 0, 2, 3, 4, 5] rfl⟩
                    · have c_128 : 0 < (G_32.1 66 2).toInt := xI_nle rfl rfl c_128
                      exfalso; first | exact ok_952 c_88 c_128 | omega
                · have c_126 : y_125.toInt ≠ 0 := xI_ne rfl rfl c_126
                  refine lv_aload_n hx hb dX12_readSlab_114 rfl (lv_at hl 4 rfl) ?_
                  refine ic_2 hx hb dX12_readSlab_115 ?_
                  have qc_151 : (2 : Int32).toInt = 2 := rfl
                  refine S_callv (va_runV (As := [.int 2]) (rest := []) ⟨hx, hb, hml, hown, hts⟩ (n_wrong l D k A a z G_118 2 ⟨by decide, by decide⟩) (cwV 1 hts (gd_V hgd m1670 m1672 m59 m131 m1673) rfl rfl rfl hd_X12_wrong ⟨Nat.le_of_ble_eq_true rfl, Nat.le_of_ble_eq_true rfl⟩) (pre_W hW hB_G_118 hK hZ hS kd_66 rfl) rfl rfl hl.1 rfl (lv_room (Nat.le_of_ble_eq_true rfl)) dX12_readSlab_116 ⟨Nat.le_of_ble_eq_true rfl, Nat.le_of_ble_eq_true rfl⟩) hS (fun G_153 H locs hpo hW hS => ?_)
                  have hX_156 : Q_wrong 2 G_118 G_153 := hpo
                  obtain ⟨hB_G_153, hq_154, hp_155, -⟩ := hpo
                  have hF := hF.call9 hq_154 rfl rfl
                  refine lv_iload hx hb dX12_readSlab_119 (lv_at hl 0 rfl) ?_
                  refine lv_if_eq (tgt := 65) hx hb dX12_readSlab_121 rfl (fun c_157 => ?_) (fun c_157 => ?_)
                  · have c_157 : (1 : Int) = (0 : Int) := xI_eq rfl rfl c_157
                    exfalso; first | exact ok_68 c_157 | omega
                  · have c_157 : (1 : Int) ≠ (0 : Int) := xI_ne rfl rfl c_157
                    refine lv_aload_n hx hb dX12_readSlab_124 rfl (lv_at hl 4 rfl) ?_
                    have b_158 : 0 ≤ (G_153.1 66 2).toInt ∧ (G_153.1 66 2).toInt ≤ 4 := bd_66_2 hB_G_153
                    refine S_getI (v := (G_153.1 66 2)) (C := RX12) (T := TX12) (N := 89) hx hb hg iX12 hown hK hW kd_66 rfl 2 (lt_b rfl) (hg (Cond.fieldLink RX12 218 "SlabWalkModel" "fault" "I") m1316) (fun _ h9 => h9) rfl rfl dX12_readSlab_125 ?_
                    refine lv_if_le (tgt := 134) hx hb dX12_readSlab_128 rfl (fun c_159 => ?_) (fun c_159 => ?_)
                    · have c_159 : (G_153.1 66 2).toInt ≤ 0 := xI_le rfl rfl c_159
                      refine lv_iload hx hb dX12_readSlab_134 (lv_at hl 1 rfl) ?_
                      refine lv_aload_n hx hb dX12_readSlab_136 rfl (lv_at hl 4 rfl) ?_
                      refine S_calli (va_runV (As := []) (rest := [.int x_37]) ⟨hx, hb, hml, hown, hts⟩ (n_mark l D k A a z G_153  ) (cwV 0 hts (gd_V hgd m1655 m1657 m58 m131 m1658) rfl rfl rfl hd_X12_mark ⟨Nat.le_of_ble_eq_true rfl, Nat.le_of_ble_eq_true rfl⟩) (pre_W hW hB_G_153 hK hZ hS kd_66 rfl) rfl rfl hl.1 rfl (lv_room (Nat.le_of_ble_eq_true rfl)) dX12_readSlab_137 ⟨Nat.le_of_ble_eq_true rfl, Nat.le_of_ble_eq_true rfl⟩) hS (fun r_160 G_161 H locs hpo hW hS => ?_)
                      have hX_164 : Q_mark G_153 r_160 G_161 := hpo
                      obtain ⟨hB_G_161, hq_162, f_165, hp_163, -⟩ := hpo
                      have hF := hF.call9 hq_162 rfl rfl
                      have u_166 : mkW (G_153.2.1 66 9) = mkW (G_32.2.1 66 9) := congrArg mkW (((hq_154.l9 66 9 rfl rfl).trans ((hq_119.l9 66 9 rfl rfl).trans (hq_109.l9 66 9 rfl rfl))))
                      have u_167 := mkW_v (G_32.2.1 66 9)
                      refine lv_ior hx hb dX12_readSlab_140 ?_
                      refine lv_topi (fun y_168 ey_168 => ?_)
                      have ty_168 := or6 ey_168 ⟨by omega, by omega⟩ ⟨by omega, by omega⟩
                      have u_169 := orM (x := x_37) (y := r_160) (z := y_168) (w := y_125) (by first | (clear ha_p0 hnf hs b_1 b_2 d_1 d_2 d_3 d_4 f_19 b_20 f_29 g_30 b_31 g_39 b_40 g_41 g_42 hn_49 f_45 f_47 f_48 d_5 d_6 g_50 b_51 b_52 c_87 c_88 c_106 f_112 hp_110 u_114 c_115 u_124 hp_155 b_158 c_159 u_167; omega) | omega) (by first | (clear ha_p0 hnf hs b_1 b_2 d_1 d_2 d_3 d_4 f_19 b_20 f_29 g_30 b_31 g_39 b_40 g_41 g_42 hn_49 f_45 f_47 f_48 d_5 d_6 g_50 b_51 b_52 c_87 c_88 c_106 f_112 hp_110 u_114 c_115 u_124 hp_155 b_158 c_159 u_167; omega) | omega) (by first | (clear ha_p0 hnf hs b_1 b_2 d_1 d_2 d_3 d_4 f_19 b_20 f_29 g_30 b_31 g_39 b_40 g_41 g_42 hn_49 f_45 f_47 f_48 d_5 d_6 g_50 b_51 b_52 c_87 c_88 c_106 f_112 hp_110 u_114 c_115 u_124 hp_155 b_158 c_159 u_167; omega) | omega) (ey_125.trans (congrArg (fun q => x_37 &&& q) (Int32.toInt_inj.mp (show r_117.toInt = r_160.toInt by omega)))) (by first | (clear ha_p0 hnf hs b_1 b_2 d_1 d_2 d_3 d_4 f_19 b_20 f_29 g_30 b_31 g_39 b_40 g_41 g_42 hn_49 f_45 f_47 f_48 d_5 d_6 g_50 b_51 b_52 c_87 c_88 c_106 f_112 hp_110 u_114 c_115 u_124 hp_155 b_158 c_159 u_167; omega) | omega) ey_168
                      refine lv_istore (lv' := [(6, .int y_168), (7, .int 1), (5, .int w_14), (4, .int r_5), (0, .ref (a 66)), (2, .int p1)]) hx hb dX12_readSlab_141 hl (lt_b rfl) rfl (fun ls hl => ?_)
                      refine lv_aload_n hx hb dX12_readSlab_143 rfl (lv_at hl 4 rfl) ?_
                      have g_170 : (G_161.1 66 4).toInt = (G_32.1 66 4).toInt := (congrArg Int32.toInt (show G_161.1 66 4 = (G_32.1 66 4) from ((hq_162.i9 66 4 rfl rfl).trans ((hq_154.i9 66 4 rfl rfl).trans ((hq_119.i9 66 4 rfl rfl).trans ((hq_109.i9 66 4 rfl rfl).trans (rfl)))))))
                      have g_171 : (G_161.1 66 6).toInt = (G_32.1 66 6).toInt := (congrArg Int32.toInt (show G_161.1 66 6 = (G_32.1 66 6) from ((hq_162.i9 66 6 rfl rfl).trans ((hq_154.i9 66 6 rfl rfl).trans ((hq_119.i9 66 6 rfl rfl).trans ((hq_109.i9 66 6 rfl rfl).trans (rfl)))))))
                      refine S_callv (va_runV (As := []) (rest := []) ⟨hx, hb, hml, hown, hts⟩ (n_token l D k A a z G_161  ) (cwV 0 hts (gd_V hgd m1602 m1604 m50 m131 m1605) rfl rfl rfl hd_X12_token ⟨Nat.le_of_ble_eq_true rfl, Nat.le_of_ble_eq_true rfl⟩) (pre_W hW hB_G_161 hK hZ hS kd_66 rfl) rfl rfl hl.1 rfl (lv_room (Nat.le_of_ble_eq_true rfl)) dX12_readSlab_144 ⟨Nat.le_of_ble_eq_true rfl, Nat.le_of_ble_eq_true rfl⟩) hS (fun G_173 H locs hpo hW hS => ?_)
                      have hX_176 : Q_token G_161 G_173 := hpo
                      obtain ⟨hB_G_173, hq_174, ⟨d_9, d_10⟩, -⟩ := hpo
                      have hF := hF.call9 hq_174 rfl rfl
                      refine lv_goto (tgt := 65) hx hb dX12_readSlab_147 rfl ?_
                      have g_177 : (G_173.1 66 2).toInt = (G_153.1 66 2).toInt := (congrArg Int32.toInt (show G_173.1 66 2 = (G_153.1 66 2) from ((hq_174.i9 66 2 rfl rfl).trans ((hq_162.i9 66 2 rfl rfl).trans (rfl)))))
                      have g_178 : (G_173.1 81 (G.1 66 45).toNatClampNeg).toInt = (G.1 81 (G.1 66 45).toNatClampNeg).toInt := by rw [show G_173.1 81 (G.1 66 45).toNatClampNeg = (G.1 81 (G.1 66 45).toNatClampNeg) from ((hq_174.ri9 81 rfl ((G.1 66 45).toNatClampNeg)).trans ((hq_162.ri9 81 rfl ((G.1 66 45).toNatClampNeg)).trans ((hq_154.ri9 81 rfl ((G.1 66 45).toNatClampNeg)).trans ((hq_119.ri9 81 rfl ((G.1 66 45).toNatClampNeg)).trans ((hq_109.ri9 81 rfl ((G.1 66 45).toNatClampNeg)).trans ((hq_33.ri9 81 rfl ((G.1 66 45).toNatClampNeg)).trans ((hq_27.ri9 81 rfl ((G.1 66 45).toNatClampNeg)).trans ((hq_17.ri9 81 rfl ((G.1 66 45).toNatClampNeg)).trans (hq_7.ri9 81 rfl ((G.1 66 45).toNatClampNeg))))))))))]
                      have g_179 : (G_173.1 66 2).toInt = (G_153.1 66 2).toInt := (congrArg Int32.toInt (show G_173.1 66 2 = (G_153.1 66 2) from ((hq_174.i9 66 2 rfl rfl).trans ((hq_162.i9 66 2 rfl rfl).trans (rfl)))))
                      have b_180 : 0 ≤ (G_173.1 66 4).toInt ∧ (G_173.1 66 4).toInt ≤ 1600 := bd_66_4 hB_G_173
                      have qc_181 : (1 : Int32).toInt = 1 := rfl
                      exact ih_34 (20 - y_168.toInt + 1 - (G_173.1 66 2).toInt : Int).toNat ((by first | (clear ha_p0 hnf b_2 d_1 d_2 d_3 b_20 b_31 b_40 g_41 g_42 f_48 d_5 d_6 b_52 c_106 f_112 hp_110 u_114 c_115 u_124 u_167 g_170 g_171 d_9 d_10 b_180; omega) | omega)) _ _ _ ⟨G_173, 1, y_168, (Int.toNat_of_nonneg ((by first | exact ok_953 hp_155 c_159 ty_168.2 g_177 | omega))), ⟨(by decide), (by decide)⟩, ⟨(by first | exact ty_168.1 | omega), (by first | (clear ha_p0 hnf hs b_1 b_2 d_1 d_2 d_3 d_4 f_19 b_20 f_29 g_30 b_31 g_39 b_40 g_41 g_42 hn_49 f_45 f_47 f_48 d_5 d_6 g_50 b_51 b_52 c_87 c_88 c_106 f_112 hp_110 u_114 c_115 u_124 hp_155 b_158 c_159 u_167 g_170 g_171 d_9 d_10 g_177 g_178 g_179 b_180; omega) | omega)⟩, ((by first | exact ok_954 hp_155 g_177 | omega)), ((by first | exact ⟨(by first | exact ok_630 f_48.1 g_170 d_9 | omega), (fun h9 => by have q0_ := d_6 (by first | (clear ha_p0 hnf hs b_1 b_2 d_2 d_3 d_4 f_19 b_20 f_29 g_30 b_31 g_39 g_42 hn_49 f_45 f_46 f_47 f_48 d_6 g_50 b_51 c_87 c_88 c_106 f_112 hp_110 u_114 c_115 c_116 f_122 hp_120 u_124 c_126 hp_155 c_157 b_158 c_159 f_165 hp_163 u_167 ty_168 u_169 g_171 d_10 g_177 g_178 g_179; omega) | omega); have q1_ := d_10 (by first | (clear ha_p0 hnf hs b_1 b_2 d_2 d_3 d_4 f_19 b_20 f_29 g_30 b_31 g_39 g_42 hn_49 f_45 f_46 f_47 f_48 d_6 g_50 b_51 c_87 c_88 c_106 f_112 hp_110 u_114 c_115 c_116 f_122 hp_120 u_124 c_126 hp_155 c_157 b_158 c_159 f_165 hp_163 u_167 ty_168 u_169 g_171 d_10 g_177 g_178 g_179; omega) | omega); (first | (clear ha_p0 hnf hs b_1 b_2 d_1 d_2 d_3 d_4 f_19 b_20 f_29 g_30 b_31 g_39 b_40 g_41 g_42 hn_49 f_45 f_46 f_47 f_48 d_5 d_6 g_50 b_51 b_52 c_87 c_88 f_112 hp_110 u_114 c_115 c_116 f_122 hp_120 u_124 c_126 hp_155 c_157 b_158 c_159 f_165 hp_163 u_167 ty_168 u_169 g_170 d_9 d_10 g_177 g_178 g_179 b_180; omega) | omega))⟩ | omega)), (hX_38.st (St_n_readSlab_3_mk ⟨x_36, x_37, G_32, 1, y_168, G_173, rfl, rfl, f_45, f_46, f_47, f_48, hB_G_32, ⟨c_87, ⟨c_88, (Or.inl ⟨c_106, ⟨r_107, G_108, hX_111, ⟨c_115, ⟨r_117, G_118, hX_121, ⟨y_125, ey_125, (Or.inr ⟨c_126, ⟨G_153, hX_156, (Or.inl ⟨c_159, ⟨r_160, G_161, hX_164, ⟨y_168, ey_168, ⟨G_173, hX_176, ⟨rfl, rfl, rfl⟩⟩⟩⟩⟩)⟩⟩)⟩⟩⟩⟩⟩)⟩⟩⟩)), hW, hB_G_173, hF, (Fr.call9 (rs := []) (fs := [(66, 2), (66, 3), (66, 4), (66, 6), (66, 7), (66, 8), (66, 9)]) (Fr.call9 (rs := []) (fs := [(66, 2), (66, 3), (66, 4), (66, 6), (66, 7), (66, 8), (66, 9)]) (Fr.call9 (rs := []) (fs := [(66, 2), (66, 3), (66, 4), (66, 6), (66, 7), (66, 8), (66, 9)]) (Fr.call9 (rs := []) (fs := [(66, 2), (66, 3), (66, 4), (66, 6), (66, 7), (66, 8), (66, 9)]) (Fr.call9 (rs := []) (fs := [(66, 2), (66, 3), (66, 4), (66, 6), (66, 7), (66, 8), (66, 9)]) (Fr.call9 (rs := []) (fs := [(66, 2), (66, 3), (66, 4), (66, 6), (66, 7), (66, 8), (66, 9)]) Fr.rf hq_33 rfl rfl) hq_109 rfl rfl) hq_119 rfl rfl) hq_154 rfl rfl) hq_162 rfl rfl) hq_174 rfl rfl), hS, lv_sub hl [1, 0, 2, 3, 4, 5] rfl⟩
                    · have c_159 : 0 < (G_153.1 66 2).toInt := xI_nle rfl rfl c_159
                      refine lv_goto (tgt := 65) hx hb dX12_readSlab_131 rfl ?_
                      have g_182 : (G_153.1 81 (G.1 66 45).toNatClampNeg).toInt = (G.1 81 (G.1 66 45).toNatClampNeg).toInt := by rw [show G_153.1 81 (G.1 66 45).toNatClampNeg = (G.1 81 (G.1 66 45).toNatClampNeg) from ((hq_154.ri9 81 rfl ((G.1 66 45).toNatClampNeg)).trans ((hq_119.ri9 81 rfl ((G.1 66 45).toNatClampNeg)).trans ((hq_109.ri9 81 rfl ((G.1 66 45).toNatClampNeg)).trans ((hq_33.ri9 81 rfl ((G.1 66 45).toNatClampNeg)).trans ((hq_27.ri9 81 rfl ((G.1 66 45).toNatClampNeg)).trans ((hq_17.ri9 81 rfl ((G.1 66 45).toNatClampNeg)).trans (hq_7.ri9 81 rfl ((G.1 66 45).toNatClampNeg))))))))]
                      have g_183 : (G_153.1 66 4).toInt = (G_32.1 66 4).toInt := (congrArg Int32.toInt (show G_153.1 66 4 = (G_32.1 66 4) from ((hq_154.i9 66 4 rfl rfl).trans ((hq_119.i9 66 4 rfl rfl).trans ((hq_109.i9 66 4 rfl rfl).trans (rfl))))))
                      have g_184 : (G_153.1 66 6).toInt = (G_32.1 66 6).toInt := (congrArg Int32.toInt (show G_153.1 66 6 = (G_32.1 66 6) from ((hq_154.i9 66 6 rfl rfl).trans ((hq_119.i9 66 6 rfl rfl).trans ((hq_109.i9 66 6 rfl rfl).trans (rfl))))))
                      have qc_185 : (1 : Int32).toInt = 1 := rfl
                      exact ih_34 (20 - x_37.toInt + 1 - (G_153.1 66 2).toInt : Int).toNat ((by first | (clear ha_p0 hnf b_2 d_1 d_2 d_3 b_20 b_31 b_40 g_41 g_42 f_48 d_5 d_6 b_52 c_106 f_112 hp_110 u_114 c_115 f_122 hp_120 u_124 c_126 g_183 g_184; omega) | omega)) _ _ _ ⟨G_153, 1, x_37, (Int.toNat_of_nonneg ((by first | exact ok_955 f_46.2 b_158.2 | omega))), ⟨(by decide), (by decide)⟩, ⟨(by first | exact f_46.1 | omega), (by first | exact f_46.2 | omega)⟩, ((by first | exact ok_956 hp_155 | omega)), ((by first | exact ⟨(by first | exact ok_347 f_48.1 g_183 | omega), (fun h9 => by have q0_ := d_6 (by first | (clear ha_p0 hnf hs b_1 b_2 d_2 d_3 d_4 f_19 b_20 f_29 g_30 b_31 g_39 g_42 hn_49 f_45 f_46 f_47 f_48 d_6 g_50 b_51 c_87 c_88 c_106 f_112 hp_110 u_114 c_115 c_116 f_122 hp_120 u_124 c_126 hp_155 c_157 b_158 c_159 g_182 g_184; omega) | omega); (first | (clear ha_p0 hnf hs b_1 b_2 d_1 d_2 d_3 d_4 f_19 b_20 f_29 g_30 b_31 g_39 b_40 g_41 g_42 hn_49 f_45 f_46 f_47 f_48 d_5 d_6 g_50 b_51 b_52 c_87 c_88 f_112 hp_110 u_114 c_115 c_116 f_122 hp_120 u_124 c_126 hp_155 c_157 b_158 c_159 g_182 g_183; omega) | omega))⟩ | omega)), (hX_38.st (St_n_readSlab_3_mk ⟨x_36, x_37, G_32, 1, x_37, G_153, rfl, rfl, f_45, f_46, f_47, f_48, hB_G_32, ⟨c_87, ⟨c_88, (Or.inl ⟨c_106, ⟨r_107, G_108, hX_111, ⟨c_115, ⟨r_117, G_118, hX_121, ⟨y_125, ey_125, (Or.inr ⟨c_126, ⟨G_153, hX_156, (Or.inr ⟨c_159, ⟨rfl, rfl, rfl⟩⟩)⟩⟩)⟩⟩⟩⟩⟩)⟩⟩⟩)), hW, hB_G_153, hF, (Fr.call9 (rs := []) (fs := [(66, 2), (66, 3), (66, 4), (66, 6), (66, 7), (66, 8), (66, 9)]) (Fr.call9 (rs := []) (fs := [(66, 2), (66, 3), (66, 4), (66, 6), (66, 7), (66, 8), (66, 9)]) (Fr.call9 (rs := []) (fs := [(66, 2), (66, 3), (66, 4), (66, 6), (66, 7), (66, 8), (66, 9)]) (Fr.call9 (rs := []) (fs := [(66, 2), (66, 3), (66, 4), (66, 6), (66, 7), (66, 8), (66, 9)]) Fr.rf hq_33 rfl rfl) hq_109 rfl rfl) hq_119 rfl rfl) hq_154 rfl rfl), hS, lv_sub hl [0, 1, 2, 3, 4, 5] rfl⟩
    refine lv_if_ne (tgt := 59) hx hb dX12_readSlab_29 rfl (fun c_186 => ?_) (fun c_186 => ?_)
    · have c_186 : (G_6.1 66 2).toInt ≠ 0 := xI_ne rfl rfl c_186
      have g_187 : (G_15.1 81 (G.1 66 45).toNatClampNeg).toInt = (G.1 81 (G.1 66 45).toNatClampNeg).toInt := by rw [show G_15.1 81 (G.1 66 45).toNatClampNeg = (G.1 81 (G.1 66 45).toNatClampNeg) from ((hq_17.ri9 81 rfl ((G.1 66 45).toNatClampNeg)).trans (hq_7.ri9 81 rfl ((G.1 66 45).toNatClampNeg)))]
      have g_188 : (G_15.1 66 2).toInt = (G_6.1 66 2).toInt := (congrArg Int32.toInt (show G_15.1 66 2 = (G_6.1 66 2) from ((hq_17.i9 66 2 rfl rfl).trans (rfl))))
      exact hJ_26 () _ _ _ ⟨G_15, ((by first | exact ok_957 b_20.1 c_186 g_188 | omega)), (Jn_n_readSlab_2_mk (Or.inr ⟨c_186, rfl⟩)), hW, hB_G_15, hF, (Fr.rf (rs := []) (fs := [(66, 2), (66, 3)])), hS, lv_sub hl [0, 1, 3, 4] rfl⟩
    · have c_186 : (G_6.1 66 2).toInt = 0 := xI_eq rfl rfl c_186
      have d_11 := d_4 c_186
      refine lv_aload_n hx hb dX12_readSlab_32 rfl (lv_at hl 3 rfl) ?_
      refine S_getR (n := 81) (C := RX12) (T := TX12) (N := 89) hx hb hg iX12 hown hK hW kd_66 rfl 29 (lt_b rfl) (hg (Cond.fieldLink RX12 57 "SlabWalkModel" "nLength" "[I") m1343) (fun _ h9 => h9) rfl dX12_readSlab_33 ?_
      refine lv_aload_n hx hb dX12_readSlab_36 rfl (lv_at hl 3 rfl) ?_
      have b_189 : 0 ≤ (G.1 66 45).toInt ∧ (G.1 66 45).toInt ≤ 3 := bd_66_45 hB_G
      refine S_getI (v := (G.1 66 45)) (C := RX12) (T := TX12) (N := 89) hx hb hg iX12 hown hK hW kd_66 rfl 45 (lt_b rfl) (hg (Cond.fieldLink RX12 359 "SlabWalkModel" "nStreets" "I") m1359) (fun _ h9 => h9) rfl ((hq_17.i9 66 45 rfl rfl).trans (hq_7.i9 66 45 rfl rfl)) dX12_readSlab_37 ?_
      refine S_iald hx hb hK hW kd_81 (vin ((by first | exact b_189.1 | omega)) ((by first | exact ok_390 hs | omega))) dX12_readSlab_40 (fun y_190 ey_190 => ?_)
      have ty_190 : 0 ≤ y_190.toInt ∧ y_190.toInt ≤ 400 := bv_81 hB_G_15 ey_190
      have u_191 : y_190.toInt = (G.1 81 (G.1 66 45).toNatClampNeg).toInt := congrArg Int32.toInt (ey_190.trans (((hq_17.ri9 81 rfl ((G.1 66 45).toNatClampNeg)).trans (hq_7.ri9 81 rfl ((G.1 66 45).toNatClampNeg)))))
      refine lv_iload hx hb dX12_readSlab_41 (lv_at hl 0 rfl) ?_
      refine lv_iadd hx hb dX12_readSlab_43 ?_
      refine lv_topi (fun y_192 ey_192 => ?_)
      have ty_192 : y_192.toInt = y_190.toInt + w_14.toInt := xI_add rfl rfl ey_192 ((by first | exact ok_27 f_19.1 ty_190.1 | omega)) ((by first | exact ok_958 f_19.2 ty_190.2 | omega))
      refine lv_iload hx hb dX12_readSlab_44 (lv_at hl 1 rfl) ?_
      refine lv_iadd hx hb dX12_readSlab_46 ?_
      refine lv_topi (fun y_193 ey_193 => ?_)
      have ty_193 : y_193.toInt = y_192.toInt + r_5.toInt := xI_add rfl rfl ey_193 ((by first | exact ok_959 qc_3 f_19.1 d_11.1 ty_190.1 ty_192 | omega)) ((by first | exact ok_960 qc_4 f_19.2 d_11.2 ty_190.2 ty_192 | omega))
      refine lv_sipush (v := 400) hx hb dX12_readSlab_47 (by decide) ?_
      refine lv_icmp_le (tgt := 59) hx hb dX12_readSlab_50 rfl (fun c_194 => ?_) (fun c_194 => ?_)
      · have c_194 : y_193.toInt ≤ 400 := xI_le rfl rfl c_194
        have g_195 : (G_15.1 81 (G.1 66 45).toNatClampNeg).toInt = y_190.toInt := by rw [show G_15.1 81 (G.1 66 45).toNatClampNeg = y_190 from ey_190.symm]
        have g_196 : (G_15.1 66 2).toInt = (G_6.1 66 2).toInt := (congrArg Int32.toInt (show G_15.1 66 2 = (G_6.1 66 2) from ((hq_17.i9 66 2 rfl rfl).trans (rfl))))
        exact hJ_26 () _ _ _ ⟨G_15, ((by first | exact ok_961 qc_3 qc_4 d_11.1 d_11.2 ty_192 ty_193 c_194 g_195 | omega)), (Jn_n_readSlab_2_mk (Or.inl ⟨c_186, ⟨y_190, ey_190, ⟨y_192, ty_192, ⟨y_193, ty_193, (Or.inl ⟨c_194, rfl⟩)⟩⟩⟩⟩)), hW, hB_G_15, hF, (Fr.rf (rs := []) (fs := [(66, 2), (66, 3)])), hS, lv_sub hl [0, 1, 3, 4] rfl⟩
      · have c_194 : 400 < y_193.toInt := xI_nle rfl rfl c_194
        refine lv_aload_n hx hb dX12_readSlab_53 rfl (lv_at hl 3 rfl) ?_
        refine ic_4 hx hb dX12_readSlab_54 ?_
        refine lv_iload_n hx hb dX12_readSlab_55 rfl (lv_at hl 2 rfl) ?_
        have qc_197 : (4 : Int32).toInt = 4 := rfl
        refine S_callv (va_runV (As := [.int 4, .int (G.1 66 7)]) (rest := []) ⟨hx, hb, hml, hown, hts⟩ (n_wrongAt l D k A a z G_15 4 (G.1 66 7) ⟨by decide, by decide⟩ ⟨(by first | exact ok_67 b_2.1 | omega), (by first | exact b_2.2 | omega)⟩) (cwV 2 hts (gd_V hgd m1690 m1692 m64 m131 m1693) rfl rfl rfl hd_X12_wrongAt ⟨Nat.le_of_ble_eq_true rfl, Nat.le_of_ble_eq_true rfl⟩) (pre_W hW hB_G_15 hK hZ hS kd_66 rfl) rfl rfl hl.1 rfl (lv_room (Nat.le_of_ble_eq_true rfl)) dX12_readSlab_56 ⟨Nat.le_of_ble_eq_true rfl, Nat.le_of_ble_eq_true rfl⟩) hS (fun G_199 H locs hpo hW hS => ?_)
        have hX_202 : Q_wrongAt 4 (G.1 66 7) G_15 G_199 := hpo
        obtain ⟨hB_G_199, hq_200, hp_201, -⟩ := hpo
        have hF := hF.call9 hq_200 rfl rfl
        have g_203 : (G_199.1 81 (G.1 66 45).toNatClampNeg).toInt = y_190.toInt := by rw [show G_199.1 81 (G.1 66 45).toNatClampNeg = y_190 from ((hq_200.ri9 81 rfl ((G.1 66 45).toNatClampNeg)).trans (ey_190.symm))]
        have b_204 : 0 ≤ (G_199.1 66 2).toInt ∧ (G_199.1 66 2).toInt ≤ 4 := bd_66_2 hB_G_199
        exact hJ_26 () _ _ _ ⟨G_199, ((by first | exact ok_956 hp_201 | omega)), (Jn_n_readSlab_2_mk (Or.inl ⟨c_186, ⟨y_190, ey_190, ⟨y_192, ty_192, ⟨y_193, ty_193, (Or.inr ⟨c_194, ⟨G_199, hX_202, rfl⟩⟩)⟩⟩⟩⟩)), hW, hB_G_199, hF, (Fr.call9 (rs := []) (fs := [(66, 2), (66, 3)]) Fr.rf hq_200 rfl rfl), hS, lv_sub hl [0, 1, 3, 4] rfl⟩
  refine lv_if_ne (tgt := 22) hx hb dX12_readSlab_15 rfl (fun c_205 => ?_) (fun c_205 => ?_)
  · have c_205 : p1.toInt ≠ 0 := xI_ne rfl rfl c_205
    refine lv_iload_n hx hb dX12_readSlab_22 rfl (lv_at hl 3 rfl) ?_
    exact hJ_16 p0 _ _ _ ⟨G_6, ⟨(by first | exact ha_p0.1 | omega), (by first | exact ha_p0.2 | omega)⟩, (Jn_n_readSlab_1_mk (Or.inr ⟨c_205, ⟨rfl, rfl⟩⟩)), hW, hB_G_6, hF, (Fr.rf (rs := []) (fs := [])), hS, lv_sub hl [0, 1, 2, 4] rfl⟩
  · have c_205 : p1.toInt = 0 := xI_eq rfl rfl c_205
    refine ic_0 hx hb dX12_readSlab_18 ?_
    refine lv_goto (tgt := 23) hx hb dX12_readSlab_19 rfl ?_
    have qc_206 : (0 : Int32).toInt = 0 := rfl
    exact hJ_16 0 _ _ _ ⟨G_6, ⟨(by decide), (by decide)⟩, (Jn_n_readSlab_1_mk (Or.inl ⟨c_205, ⟨rfl, rfl⟩⟩)), hW, hB_G_6, hF, (Fr.rf (rs := []) (fs := [])), hS, lv_sub hl [0, 1, 2, 4] rfl⟩

theorem m55 : Cond.selects RX12 yX12_newName yX12_newName ∈ gd := gds_4 7 rfl
theorem m60 : Cond.selects RX12 yX12_told yX12_told ∈ gd := gds_4 12 rfl
theorem m63 : Cond.selects RX12 yX12_readSlab yX12_readSlab ∈ gd := gds_4 15 rfl
theorem m67 : Cond.selects RX12 yX12_takes yX12_takes ∈ gd := gds_5 3 rfl
theorem m1344 : Cond.fieldLink RX12 60 "SlabWalkModel" "nFoot" "[I" ∈ gd := gdc_6_1 12 rfl gw_fieldLink
theorem m1345 : Cond.fieldLink RX12 63 "SlabWalkModel" "nLeast" "[I" ∈ gd := gdc_6_1 13 rfl gw_fieldLink
theorem m1346 : Cond.fieldLink RX12 66 "SlabWalkModel" "nMost" "[I" ∈ gd := gdc_6_1 14 rfl gw_fieldLink
theorem m1347 : Cond.fieldLink RX12 69 "SlabWalkModel" "nLeap" "[I" ∈ gd := gdc_6_1 15 rfl gw_fieldLink
theorem m1360 : Cond.fieldLink RX12 379 "SlabWalkModel" "nWalkers" "I" ∈ gd := gdc_6_2 12 rfl gw_fieldLink
theorem m1632 : Cond.methodLink RX12 369 yX12_newName ∈ gd := gdc_7_4 12 rfl gw_methodLink
theorem m1634 : Cond.instanceMethod yX12_newName ∈ gd := gdc_7_4 14 rfl gw_instanceMethod
theorem m1635 : Cond.code yX12_newName cX12_newName 4 none ∈ gd := gdc_7_4 15 rfl gw_code
theorem m1674 : Cond.methodLink RX12 372 yX12_told ∈ gd := gdc_7_7 6 rfl gw_methodLink
theorem m1676 : Cond.instanceMethod yX12_told ∈ gd := gdc_7_7 8 rfl gw_instanceMethod
theorem m1677 : Cond.code yX12_told cX12_told 5 (some .int) ∈ gd := gdc_7_7 9 rfl gw_code
theorem m1686 : Cond.methodLink RX12 376 yX12_readSlab ∈ gd := gdc_7_8 2 rfl gw_methodLink
theorem m1688 : Cond.instanceMethod yX12_readSlab ∈ gd := gdc_7_8 4 rfl gw_instanceMethod
theorem m1689 : Cond.code yX12_readSlab cX12_readSlab 8 none ∈ gd := gdc_7_8 5 rfl gw_code
theorem m1702 : Cond.methodLink RX12 382 yX12_takes ∈ gd := gdc_7_9 2 rfl gw_methodLink
theorem m1704 : Cond.instanceMethod yX12_takes ∈ gd := gdc_7_9 4 rfl gw_instanceMethod
theorem m1705 : Cond.code yX12_takes cX12_takes 4 (some .boolean) ∈ gd := gdc_7_9 5 rfl gw_code
noncomputable def rbX12_readStreet_0 : List (Nat × List Nat) := [(0, [42]), (1, [3]), (2, [42]), (3, [180, 1, 103]), (6, [182, 1, 113]), (9, [42]), (10, [20, 0, 223]), (13, [3]), (14, [16, 9]), (16, [182, 1, 116]), (19, [60]), (20, [42]), (21, [180, 0, 218]), (24, [158, 0, 4]), (27, [177]), (28, [42]), (29, [180, 0, 57]), (32, [42]), (33, [180, 1, 103]), (36, [3]), (37, [79]), (38, [3]), (39, [61]), (40, [42])]
theorem rcX12_readStreet_0 : dgo (lb cX12_readStreet) 0 rbX12_readStreet_0 = true := by decide +kernel
theorem dX12_readStreet_0 : decode cX12_readStreet 0 = .ok (.aload_n 0, 1) := dk_42 (dw rcX12_readStreet_0 0 rfl)
theorem dX12_readStreet_1 : decode cX12_readStreet 1 = .ok (.iconst 0, 1) := dk_3 (dw rcX12_readStreet_0 1 rfl)
theorem dX12_readStreet_2 : decode cX12_readStreet 2 = .ok (.aload_n 0, 1) := dk_42 (dw rcX12_readStreet_0 2 rfl)
theorem dX12_readStreet_3 : decode cX12_readStreet 3 = .ok (.getfield 359, 3) := dk_180 (dw rcX12_readStreet_0 3 rfl) rfl
theorem dX12_readStreet_6 : decode cX12_readStreet 6 = .ok (.invokevirtual 369, 3) := dk_182 (dw rcX12_readStreet_0 4 rfl) rfl
theorem dX12_readStreet_9 : decode cX12_readStreet 9 = .ok (.aload_n 0, 1) := dk_42 (dw rcX12_readStreet_0 5 rfl)
theorem dX12_readStreet_10 : decode cX12_readStreet 10 = .ok (.ldc2_w 223, 3) := dk_20 (dw rcX12_readStreet_0 6 rfl) rfl
theorem dX12_readStreet_13 : decode cX12_readStreet 13 = .ok (.iconst 0, 1) := dk_3 (dw rcX12_readStreet_0 7 rfl)
theorem dX12_readStreet_14 : decode cX12_readStreet 14 = .ok (.bipush 9, 2) := dk_16 (dw rcX12_readStreet_0 8 rfl) rfl
theorem dX12_readStreet_16 : decode cX12_readStreet 16 = .ok (.invokevirtual 372, 3) := dk_182 (dw rcX12_readStreet_0 9 rfl) rfl
theorem dX12_readStreet_19 : decode cX12_readStreet 19 = .ok (.istore_n 1, 1) := dk_60 (dw rcX12_readStreet_0 10 rfl)
theorem dX12_readStreet_20 : decode cX12_readStreet 20 = .ok (.aload_n 0, 1) := dk_42 (dw rcX12_readStreet_0 11 rfl)
theorem dX12_readStreet_21 : decode cX12_readStreet 21 = .ok (.getfield 218, 3) := dk_180 (dw rcX12_readStreet_0 12 rfl) rfl
theorem dX12_readStreet_24 : decode cX12_readStreet 24 = .ok (.ifCond .le 4, 3) := dk_158 (dw rcX12_readStreet_0 13 rfl) rfl
theorem dX12_readStreet_27 : decode cX12_readStreet 27 = .ok (.return_, 1) := dk_177 (dw rcX12_readStreet_0 14 rfl)
theorem dX12_readStreet_28 : decode cX12_readStreet 28 = .ok (.aload_n 0, 1) := dk_42 (dw rcX12_readStreet_0 15 rfl)
theorem dX12_readStreet_29 : decode cX12_readStreet 29 = .ok (.getfield 57, 3) := dk_180 (dw rcX12_readStreet_0 16 rfl) rfl
theorem dX12_readStreet_32 : decode cX12_readStreet 32 = .ok (.aload_n 0, 1) := dk_42 (dw rcX12_readStreet_0 17 rfl)
theorem dX12_readStreet_33 : decode cX12_readStreet 33 = .ok (.getfield 359, 3) := dk_180 (dw rcX12_readStreet_0 18 rfl) rfl
theorem dX12_readStreet_36 : decode cX12_readStreet 36 = .ok (.iconst 0, 1) := dk_3 (dw rcX12_readStreet_0 19 rfl)
theorem dX12_readStreet_37 : decode cX12_readStreet 37 = .ok (.iastore, 1) := dk_79 (dw rcX12_readStreet_0 20 rfl)
theorem dX12_readStreet_38 : decode cX12_readStreet 38 = .ok (.iconst 0, 1) := dk_3 (dw rcX12_readStreet_0 21 rfl)
theorem dX12_readStreet_39 : decode cX12_readStreet 39 = .ok (.istore_n 2, 1) := dk_61 (dw rcX12_readStreet_0 22 rfl)
theorem dX12_readStreet_40 : decode cX12_readStreet 40 = .ok (.aload_n 0, 1) := dk_42 (dw rcX12_readStreet_0 23 rfl)
noncomputable def rbX12_readStreet_41 : List (Nat × List Nat) := [(41, [180, 0, 218]), (44, [154, 0, 27]), (47, [28]), (48, [153, 0, 11]), (51, [42]), (52, [180, 0, 205]), (55, [5]), (56, [160, 0, 15]), (59, [42]), (60, [27]), (61, [28]), (62, [182, 1, 120]), (65, [132, 2, 1]), (68, [167, 255, 228]), (71, [42]), (72, [180, 0, 218]), (75, [154, 0, 13]), (78, [42]), (79, [89]), (80, [180, 1, 103]), (83, [4]), (84, [96]), (85, [181, 1, 103]), (88, [177])]
theorem rcX12_readStreet_41 : dgo (lb cX12_readStreet) 0 rbX12_readStreet_41 = true := by decide +kernel
theorem dX12_readStreet_41 : decode cX12_readStreet 41 = .ok (.getfield 218, 3) := dk_180 (dw rcX12_readStreet_41 0 rfl) rfl
theorem dX12_readStreet_44 : decode cX12_readStreet 44 = .ok (.ifCond .ne 27, 3) := dk_154 (dw rcX12_readStreet_41 1 rfl) rfl
theorem dX12_readStreet_47 : decode cX12_readStreet 47 = .ok (.iload_n 2, 1) := dk_28 (dw rcX12_readStreet_41 2 rfl)
theorem dX12_readStreet_48 : decode cX12_readStreet 48 = .ok (.ifCond .eq 11, 3) := dk_153 (dw rcX12_readStreet_41 3 rfl) rfl
theorem dX12_readStreet_51 : decode cX12_readStreet 51 = .ok (.aload_n 0, 1) := dk_42 (dw rcX12_readStreet_41 4 rfl)
theorem dX12_readStreet_52 : decode cX12_readStreet 52 = .ok (.getfield 205, 3) := dk_180 (dw rcX12_readStreet_41 5 rfl) rfl
theorem dX12_readStreet_55 : decode cX12_readStreet 55 = .ok (.iconst 2, 1) := dk_5 (dw rcX12_readStreet_41 6 rfl)
theorem dX12_readStreet_56 : decode cX12_readStreet 56 = .ok (.if_icmp .ne 15, 3) := dk_160 (dw rcX12_readStreet_41 7 rfl) rfl
theorem dX12_readStreet_59 : decode cX12_readStreet 59 = .ok (.aload_n 0, 1) := dk_42 (dw rcX12_readStreet_41 8 rfl)
theorem dX12_readStreet_60 : decode cX12_readStreet 60 = .ok (.iload_n 1, 1) := dk_27 (dw rcX12_readStreet_41 9 rfl)
theorem dX12_readStreet_61 : decode cX12_readStreet 61 = .ok (.iload_n 2, 1) := dk_28 (dw rcX12_readStreet_41 10 rfl)
theorem dX12_readStreet_62 : decode cX12_readStreet 62 = .ok (.invokevirtual 376, 3) := dk_182 (dw rcX12_readStreet_41 11 rfl) rfl
theorem dX12_readStreet_65 : decode cX12_readStreet 65 = .ok (.iinc 2 1, 3) := dk_132 (dw rcX12_readStreet_41 12 rfl) rfl
theorem dX12_readStreet_68 : decode cX12_readStreet 68 = .ok (.goto (-28), 3) := dk_167 (dw rcX12_readStreet_41 13 rfl) rfl
theorem dX12_readStreet_71 : decode cX12_readStreet 71 = .ok (.aload_n 0, 1) := dk_42 (dw rcX12_readStreet_41 14 rfl)
theorem dX12_readStreet_72 : decode cX12_readStreet 72 = .ok (.getfield 218, 3) := dk_180 (dw rcX12_readStreet_41 15 rfl) rfl
theorem dX12_readStreet_75 : decode cX12_readStreet 75 = .ok (.ifCond .ne 13, 3) := dk_154 (dw rcX12_readStreet_41 16 rfl) rfl
theorem dX12_readStreet_78 : decode cX12_readStreet 78 = .ok (.aload_n 0, 1) := dk_42 (dw rcX12_readStreet_41 17 rfl)
theorem dX12_readStreet_79 : decode cX12_readStreet 79 = .ok (.dup, 1) := dk_89 (dw rcX12_readStreet_41 18 rfl)
theorem dX12_readStreet_80 : decode cX12_readStreet 80 = .ok (.getfield 359, 3) := dk_180 (dw rcX12_readStreet_41 19 rfl) rfl
theorem dX12_readStreet_83 : decode cX12_readStreet 83 = .ok (.iconst 1, 1) := dk_4 (dw rcX12_readStreet_41 20 rfl)
theorem dX12_readStreet_84 : decode cX12_readStreet 84 = .ok (.iadd, 1) := dk_96 (dw rcX12_readStreet_41 21 rfl)
theorem dX12_readStreet_85 : decode cX12_readStreet 85 = .ok (.putfield 359, 3) := dk_181 (dw rcX12_readStreet_41 22 rfl) rfl
theorem dX12_readStreet_88 : decode cX12_readStreet 88 = .ok (.return_, 1) := dk_177 (dw rcX12_readStreet_41 23 rfl)
noncomputable def rbX12_readWalker_0 : List (Nat × List Nat) := [(0, [42]), (1, [6]), (2, [42]), (3, [180, 1, 123]), (6, [182, 1, 113]), (9, [42]), (10, [180, 1, 123]), (13, [60]), (14, [42]), (15, [180, 0, 60]), (18, [27]), (19, [42]), (20, [20, 0, 227]), (23, [4]), (24, [16, 12]), (26, [182, 1, 116]), (29, [79]), (30, [42]), (31, [180, 0, 63]), (34, [27]), (35, [42]), (36, [20, 0, 229]), (39, [4]), (40, [16, 60])]
theorem rcX12_readWalker_0 : dgo (lb cX12_readWalker) 0 rbX12_readWalker_0 = true := by decide +kernel
theorem dX12_readWalker_0 : decode cX12_readWalker 0 = .ok (.aload_n 0, 1) := dk_42 (dw rcX12_readWalker_0 0 rfl)
theorem dX12_readWalker_1 : decode cX12_readWalker 1 = .ok (.iconst 3, 1) := dk_6 (dw rcX12_readWalker_0 1 rfl)
theorem dX12_readWalker_2 : decode cX12_readWalker 2 = .ok (.aload_n 0, 1) := dk_42 (dw rcX12_readWalker_0 2 rfl)
theorem dX12_readWalker_3 : decode cX12_readWalker 3 = .ok (.getfield 379, 3) := dk_180 (dw rcX12_readWalker_0 3 rfl) rfl
theorem dX12_readWalker_6 : decode cX12_readWalker 6 = .ok (.invokevirtual 369, 3) := dk_182 (dw rcX12_readWalker_0 4 rfl) rfl
theorem dX12_readWalker_9 : decode cX12_readWalker 9 = .ok (.aload_n 0, 1) := dk_42 (dw rcX12_readWalker_0 5 rfl)
theorem dX12_readWalker_10 : decode cX12_readWalker 10 = .ok (.getfield 379, 3) := dk_180 (dw rcX12_readWalker_0 6 rfl) rfl
theorem dX12_readWalker_13 : decode cX12_readWalker 13 = .ok (.istore_n 1, 1) := dk_60 (dw rcX12_readWalker_0 7 rfl)
theorem dX12_readWalker_14 : decode cX12_readWalker 14 = .ok (.aload_n 0, 1) := dk_42 (dw rcX12_readWalker_0 8 rfl)
theorem dX12_readWalker_15 : decode cX12_readWalker 15 = .ok (.getfield 60, 3) := dk_180 (dw rcX12_readWalker_0 9 rfl) rfl
theorem dX12_readWalker_18 : decode cX12_readWalker 18 = .ok (.iload_n 1, 1) := dk_27 (dw rcX12_readWalker_0 10 rfl)
theorem dX12_readWalker_19 : decode cX12_readWalker 19 = .ok (.aload_n 0, 1) := dk_42 (dw rcX12_readWalker_0 11 rfl)
theorem dX12_readWalker_20 : decode cX12_readWalker 20 = .ok (.ldc2_w 227, 3) := dk_20 (dw rcX12_readWalker_0 12 rfl) rfl
theorem dX12_readWalker_23 : decode cX12_readWalker 23 = .ok (.iconst 1, 1) := dk_4 (dw rcX12_readWalker_0 13 rfl)
theorem dX12_readWalker_24 : decode cX12_readWalker 24 = .ok (.bipush 12, 2) := dk_16 (dw rcX12_readWalker_0 14 rfl) rfl
theorem dX12_readWalker_26 : decode cX12_readWalker 26 = .ok (.invokevirtual 372, 3) := dk_182 (dw rcX12_readWalker_0 15 rfl) rfl
theorem dX12_readWalker_29 : decode cX12_readWalker 29 = .ok (.iastore, 1) := dk_79 (dw rcX12_readWalker_0 16 rfl)
theorem dX12_readWalker_30 : decode cX12_readWalker 30 = .ok (.aload_n 0, 1) := dk_42 (dw rcX12_readWalker_0 17 rfl)
theorem dX12_readWalker_31 : decode cX12_readWalker 31 = .ok (.getfield 63, 3) := dk_180 (dw rcX12_readWalker_0 18 rfl) rfl
theorem dX12_readWalker_34 : decode cX12_readWalker 34 = .ok (.iload_n 1, 1) := dk_27 (dw rcX12_readWalker_0 19 rfl)
theorem dX12_readWalker_35 : decode cX12_readWalker 35 = .ok (.aload_n 0, 1) := dk_42 (dw rcX12_readWalker_0 20 rfl)
theorem dX12_readWalker_36 : decode cX12_readWalker 36 = .ok (.ldc2_w 229, 3) := dk_20 (dw rcX12_readWalker_0 21 rfl) rfl
theorem dX12_readWalker_39 : decode cX12_readWalker 39 = .ok (.iconst 1, 1) := dk_4 (dw rcX12_readWalker_0 22 rfl)
theorem dX12_readWalker_40 : decode cX12_readWalker 40 = .ok (.bipush 60, 2) := dk_16 (dw rcX12_readWalker_0 23 rfl) rfl
noncomputable def rbX12_readWalker_42 : List (Nat × List Nat) := [(42, [182, 1, 116]), (45, [79]), (46, [42]), (47, [180, 0, 66]), (50, [27]), (51, [42]), (52, [20, 0, 231]), (55, [42]), (56, [180, 0, 63]), (59, [27]), (60, [46]), (61, [16, 60]), (63, [182, 1, 116]), (66, [79]), (67, [42]), (68, [180, 0, 69]), (71, [27]), (72, [42]), (73, [180, 0, 66]), (76, [27]), (77, [46]), (78, [79]), (79, [42]), (80, [20, 0, 233])]
theorem rcX12_readWalker_42 : dgo (lb cX12_readWalker) 0 rbX12_readWalker_42 = true := by decide +kernel
theorem dX12_readWalker_42 : decode cX12_readWalker 42 = .ok (.invokevirtual 372, 3) := dk_182 (dw rcX12_readWalker_42 0 rfl) rfl
theorem dX12_readWalker_45 : decode cX12_readWalker 45 = .ok (.iastore, 1) := dk_79 (dw rcX12_readWalker_42 1 rfl)
theorem dX12_readWalker_46 : decode cX12_readWalker 46 = .ok (.aload_n 0, 1) := dk_42 (dw rcX12_readWalker_42 2 rfl)
theorem dX12_readWalker_47 : decode cX12_readWalker 47 = .ok (.getfield 66, 3) := dk_180 (dw rcX12_readWalker_42 3 rfl) rfl
theorem dX12_readWalker_50 : decode cX12_readWalker 50 = .ok (.iload_n 1, 1) := dk_27 (dw rcX12_readWalker_42 4 rfl)
theorem dX12_readWalker_51 : decode cX12_readWalker 51 = .ok (.aload_n 0, 1) := dk_42 (dw rcX12_readWalker_42 5 rfl)
theorem dX12_readWalker_52 : decode cX12_readWalker 52 = .ok (.ldc2_w 231, 3) := dk_20 (dw rcX12_readWalker_42 6 rfl) rfl
theorem dX12_readWalker_55 : decode cX12_readWalker 55 = .ok (.aload_n 0, 1) := dk_42 (dw rcX12_readWalker_42 7 rfl)
theorem dX12_readWalker_56 : decode cX12_readWalker 56 = .ok (.getfield 63, 3) := dk_180 (dw rcX12_readWalker_42 8 rfl) rfl
theorem dX12_readWalker_59 : decode cX12_readWalker 59 = .ok (.iload_n 1, 1) := dk_27 (dw rcX12_readWalker_42 9 rfl)
theorem dX12_readWalker_60 : decode cX12_readWalker 60 = .ok (.iaload, 1) := dk_46 (dw rcX12_readWalker_42 10 rfl)
theorem dX12_readWalker_61 : decode cX12_readWalker 61 = .ok (.bipush 60, 2) := dk_16 (dw rcX12_readWalker_42 11 rfl) rfl
theorem dX12_readWalker_63 : decode cX12_readWalker 63 = .ok (.invokevirtual 372, 3) := dk_182 (dw rcX12_readWalker_42 12 rfl) rfl
theorem dX12_readWalker_66 : decode cX12_readWalker 66 = .ok (.iastore, 1) := dk_79 (dw rcX12_readWalker_42 13 rfl)
theorem dX12_readWalker_67 : decode cX12_readWalker 67 = .ok (.aload_n 0, 1) := dk_42 (dw rcX12_readWalker_42 14 rfl)
theorem dX12_readWalker_68 : decode cX12_readWalker 68 = .ok (.getfield 69, 3) := dk_180 (dw rcX12_readWalker_42 15 rfl) rfl
theorem dX12_readWalker_71 : decode cX12_readWalker 71 = .ok (.iload_n 1, 1) := dk_27 (dw rcX12_readWalker_42 16 rfl)
theorem dX12_readWalker_72 : decode cX12_readWalker 72 = .ok (.aload_n 0, 1) := dk_42 (dw rcX12_readWalker_42 17 rfl)
theorem dX12_readWalker_73 : decode cX12_readWalker 73 = .ok (.getfield 66, 3) := dk_180 (dw rcX12_readWalker_42 18 rfl) rfl
theorem dX12_readWalker_76 : decode cX12_readWalker 76 = .ok (.iload_n 1, 1) := dk_27 (dw rcX12_readWalker_42 19 rfl)
theorem dX12_readWalker_77 : decode cX12_readWalker 77 = .ok (.iaload, 1) := dk_46 (dw rcX12_readWalker_42 20 rfl)
theorem dX12_readWalker_78 : decode cX12_readWalker 78 = .ok (.iastore, 1) := dk_79 (dw rcX12_readWalker_42 21 rfl)
theorem dX12_readWalker_79 : decode cX12_readWalker 79 = .ok (.aload_n 0, 1) := dk_42 (dw rcX12_readWalker_42 22 rfl)
theorem dX12_readWalker_80 : decode cX12_readWalker 80 = .ok (.ldc2_w 233, 3) := dk_20 (dw rcX12_readWalker_42 23 rfl) rfl
noncomputable def rbX12_readWalker_83 : List (Nat × List Nat) := [(83, [182, 1, 126]), (86, [153, 0, 23]), (89, [42]), (90, [180, 0, 69]), (93, [27]), (94, [42]), (95, [42]), (96, [180, 0, 66]), (99, [27]), (100, [46]), (101, [4]), (102, [96]), (103, [16, 99]), (105, [182, 1, 33]), (108, [79]), (109, [42]), (110, [180, 0, 218]), (113, [154, 0, 13]), (116, [42]), (117, [89]), (118, [180, 1, 123]), (121, [4]), (122, [96]), (123, [181, 1, 123])]
theorem rcX12_readWalker_83 : dgo (lb cX12_readWalker) 0 rbX12_readWalker_83 = true := by decide +kernel
theorem dX12_readWalker_83 : decode cX12_readWalker 83 = .ok (.invokevirtual 382, 3) := dk_182 (dw rcX12_readWalker_83 0 rfl) rfl
theorem dX12_readWalker_86 : decode cX12_readWalker 86 = .ok (.ifCond .eq 23, 3) := dk_153 (dw rcX12_readWalker_83 1 rfl) rfl
theorem dX12_readWalker_89 : decode cX12_readWalker 89 = .ok (.aload_n 0, 1) := dk_42 (dw rcX12_readWalker_83 2 rfl)
theorem dX12_readWalker_90 : decode cX12_readWalker 90 = .ok (.getfield 69, 3) := dk_180 (dw rcX12_readWalker_83 3 rfl) rfl
theorem dX12_readWalker_93 : decode cX12_readWalker 93 = .ok (.iload_n 1, 1) := dk_27 (dw rcX12_readWalker_83 4 rfl)
theorem dX12_readWalker_94 : decode cX12_readWalker 94 = .ok (.aload_n 0, 1) := dk_42 (dw rcX12_readWalker_83 5 rfl)
theorem dX12_readWalker_95 : decode cX12_readWalker 95 = .ok (.aload_n 0, 1) := dk_42 (dw rcX12_readWalker_83 6 rfl)
theorem dX12_readWalker_96 : decode cX12_readWalker 96 = .ok (.getfield 66, 3) := dk_180 (dw rcX12_readWalker_83 7 rfl) rfl
theorem dX12_readWalker_99 : decode cX12_readWalker 99 = .ok (.iload_n 1, 1) := dk_27 (dw rcX12_readWalker_83 8 rfl)
theorem dX12_readWalker_100 : decode cX12_readWalker 100 = .ok (.iaload, 1) := dk_46 (dw rcX12_readWalker_83 9 rfl)
theorem dX12_readWalker_101 : decode cX12_readWalker 101 = .ok (.iconst 1, 1) := dk_4 (dw rcX12_readWalker_83 10 rfl)
theorem dX12_readWalker_102 : decode cX12_readWalker 102 = .ok (.iadd, 1) := dk_96 (dw rcX12_readWalker_83 11 rfl)
theorem dX12_readWalker_103 : decode cX12_readWalker 103 = .ok (.bipush 99, 2) := dk_16 (dw rcX12_readWalker_83 12 rfl) rfl
theorem dX12_readWalker_105 : decode cX12_readWalker 105 = .ok (.invokevirtual 289, 3) := dk_182 (dw rcX12_readWalker_83 13 rfl) rfl
theorem dX12_readWalker_108 : decode cX12_readWalker 108 = .ok (.iastore, 1) := dk_79 (dw rcX12_readWalker_83 14 rfl)
theorem dX12_readWalker_109 : decode cX12_readWalker 109 = .ok (.aload_n 0, 1) := dk_42 (dw rcX12_readWalker_83 15 rfl)
theorem dX12_readWalker_110 : decode cX12_readWalker 110 = .ok (.getfield 218, 3) := dk_180 (dw rcX12_readWalker_83 16 rfl) rfl
theorem dX12_readWalker_113 : decode cX12_readWalker 113 = .ok (.ifCond .ne 13, 3) := dk_154 (dw rcX12_readWalker_83 17 rfl) rfl
theorem dX12_readWalker_116 : decode cX12_readWalker 116 = .ok (.aload_n 0, 1) := dk_42 (dw rcX12_readWalker_83 18 rfl)
theorem dX12_readWalker_117 : decode cX12_readWalker 117 = .ok (.dup, 1) := dk_89 (dw rcX12_readWalker_83 19 rfl)
theorem dX12_readWalker_118 : decode cX12_readWalker 118 = .ok (.getfield 379, 3) := dk_180 (dw rcX12_readWalker_83 20 rfl) rfl
theorem dX12_readWalker_121 : decode cX12_readWalker 121 = .ok (.iconst 1, 1) := dk_4 (dw rcX12_readWalker_83 21 rfl)
theorem dX12_readWalker_122 : decode cX12_readWalker 122 = .ok (.iadd, 1) := dk_96 (dw rcX12_readWalker_83 22 rfl)
theorem dX12_readWalker_123 : decode cX12_readWalker 123 = .ok (.putfield 379, 3) := dk_181 (dw rcX12_readWalker_83 23 rfl) rfl
theorem dX12_readWalker_126 : decode cX12_readWalker 126 = .ok (.return_, 1) := dq_of (by decide +kernel)
set_option maxHeartbeats 4000000 in
set_option maxRecDepth 100000 in
theorem n_readStreet (l : Launch) (D : va_G) (k : KT) (A : Nat → Prop) (a : Nat → Nat) (z : SK) (G : GS)  (hnf : (G.1 66 2).toInt = 0) (hs : (G.1 66 45).toInt < 3) : Met l yX12_readStreet (WS yX12_readStreet cX12_readStreet 3 none) ({ frames := 4, cells := 0, slots := 0, locals := 93 }) (va_Pc [.ref (a 66)] (cW D k A a z G)) (va_Qv (fun (G1 : GS) => Q_readStreet G G1) (fun (G1 : GS) t => Wd D k A a G1 t.heap) A) 0 0 A := by
  refine Met.ofW (cc := cX12_readStreet) (maxL := 3) (ret := none) (by decide) rfl ?_
  intro p e s m args below meth c s₁ B hml hv
  obtain ⟨rfl, hW, hB_G, hK, hZ⟩ := hv
  have hx := B.exec
  have hb := B.bytes
  have hr := B.returns
  have hts := atoms_spec (ws := WS yX12_readStreet cX12_readStreet 3 none) B.pre
  have hgd : ∀ w ∈ gd, w ∈ WS yX12_readStreet cX12_readStreet 3 none := fun w h => List.mem_cons_of_mem _ h
  have hg : ∀ w ∈ gd, w.before _ s = true := fun w h => hts w (hgd w h)
  have hown : s.vm.findClass RX12 = some m.cls := findClass_of_methodNamed B.named
  have hS : va_S A s.heap s.heap [] := va_S.rf
  have hF : Fr [68, 77, 78, 79, 80, 81] [(66, 2), (66, 3), (66, 4), (66, 6), (66, 7), (66, 8), (66, 9), (66, 45)] G G := Fr.rf
  have hl := lv_entry ([.ref (a 66)]) (n := 3) (Nat.le_of_ble_eq_true rfl)
  rw [lg_entry_eq]
  generalize (lg_sl ([.ref (a 66)]) ++ List.replicate (3 - (lg_sl ([.ref (a 66)])).length) Slot.unset).toArray = ls at hl ⊢
  have hl : lv_has ls 3 [(0, .ref (a 66))] := hl
  refine lv_aload_n hx hb dX12_readStreet_0 rfl (lv_at hl 0 rfl) ?_
  refine ic_0 hx hb dX12_readStreet_1 ?_
  refine lv_aload_n hx hb dX12_readStreet_2 rfl (lv_at hl 0 rfl) ?_
  have b_1 : 0 ≤ (G.1 66 45).toInt ∧ (G.1 66 45).toInt ≤ 3 := bd_66_45 hB_G
  refine S_getI (v := (G.1 66 45)) (C := RX12) (T := TX12) (N := 89) hx hb hg iX12 hown hK hW kd_66 rfl 45 (lt_b rfl) (hg (Cond.fieldLink RX12 359 "SlabWalkModel" "nStreets" "I") m1359) (fun _ h9 => h9) rfl rfl dX12_readStreet_3 ?_
  have qc_2 : (0 : Int32).toInt = 0 := rfl
  refine S_callv (va_runV (As := [.int 0, .int (G.1 66 45)]) (rest := []) ⟨hx, hb, hml, hown, hts⟩ (n_newName l D k A a z G 0 (G.1 66 45) ⟨by decide, by decide⟩ ⟨(by first | exact b_1.1 | omega), (by first | exact ok_962 hs | omega)⟩) (cwV 2 hts (gd_V hgd m1632 m1634 m55 m131 m1635) rfl rfl rfl hd_X12_newName ⟨Nat.le_of_ble_eq_true rfl, Nat.le_of_ble_eq_true rfl⟩) (pre_W hW hB_G hK hZ hS kd_66 rfl) rfl rfl hl.1 rfl (lv_room (Nat.le_of_ble_eq_true rfl)) dX12_readStreet_6 ⟨Nat.le_of_ble_eq_true rfl, Nat.le_of_ble_eq_true rfl⟩) hS (fun G_4 H locs hpo hW hS => ?_)
  have hX_7 : Q_newName 0 (G.1 66 45) G G_4 := hpo
  obtain ⟨hB_G_4, hq_5, ⟨d_1, d_2, d_3⟩, -⟩ := hpo
  have hF := hF.call9 hq_5 rfl rfl
  refine lv_aload_n hx hb dX12_readStreet_9 rfl (lv_at hl 0 rfl) ?_
  refine lv_ldc2 (v := 457135713908) hx hb hown (hg (Cond.constantLong RX12 223 457135713908) m1644) dX12_readStreet_10 ?_
  refine ic_0 hx hb dX12_readStreet_13 ?_
  refine lv_bipush (v := 9) hx hb dX12_readStreet_14 (by decide) ?_
  have qc_8 : (0 : Int32).toInt = 0 := rfl
  have qc_9 : (9 : Int32).toInt = 9 := rfl
  have b_10 : 0 ≤ (G_4.1 66 2).toInt ∧ (G_4.1 66 2).toInt ≤ 4 := bd_66_2 hB_G_4
  have b_11 : 0 ≤ (G_4.1 66 4).toInt ∧ (G_4.1 66 4).toInt ≤ 1600 := bd_66_4 hB_G_4
  refine S_calli (va_runV (As := [.long 457135713908, .int 0, .int 9]) (rest := []) ⟨hx, hb, hml, hown, hts⟩ (n_told2 l D k A a z G_4 457135713908 0 9 ) (cwV 3 hts (gd_V hgd m1674 m1676 m60 m131 m1677) rfl rfl rfl hd_X12_told ⟨Nat.le_of_ble_eq_true rfl, Nat.le_of_ble_eq_true rfl⟩) (pre_W hW hB_G_4 hK hZ hS kd_66 rfl) rfl rfl hl.1 rfl (lv_room (Nat.le_of_ble_eq_true rfl)) dX12_readStreet_16 ⟨Nat.le_of_ble_eq_true rfl, Nat.le_of_ble_eq_true rfl⟩) hS (fun r_12 G_13 H locs hpo hW hS => ?_)
  have hX_16 : Q_told2 457135713908 0 9 G_4 r_12 G_13 := hpo
  obtain ⟨hB_G_13, hq_14, ⟨d_4, d_5, d_6, d_7⟩, -⟩ := hpo
  have hF := hF.call9 hq_14 rfl rfl
  refine lv_istore_n (lv' := [(1, .int r_12), (0, .ref (a 66))]) hx hb dX12_readStreet_19 rfl hl (lt_b rfl) rfl (fun ls hl => ?_)
  refine lv_aload_n hx hb dX12_readStreet_20 rfl (lv_at hl 1 rfl) ?_
  have b_17 : 0 ≤ (G_13.1 66 2).toInt ∧ (G_13.1 66 2).toInt ≤ 4 := bd_66_2 hB_G_13
  refine S_getI (v := (G_13.1 66 2)) (C := RX12) (T := TX12) (N := 89) hx hb hg iX12 hown hK hW kd_66 rfl 2 (lt_b rfl) (hg (Cond.fieldLink RX12 218 "SlabWalkModel" "fault" "I") m1316) (fun _ h9 => h9) rfl rfl dX12_readStreet_21 ?_
  refine lv_if_le (tgt := 28) hx hb dX12_readStreet_24 rfl (fun c_18 => ?_) (fun c_18 => ?_)
  · have c_18 : (G_13.1 66 2).toInt ≤ 0 := xI_le rfl rfl c_18
    refine lv_aload_n hx hb dX12_readStreet_28 rfl (lv_at hl 1 rfl) ?_
    refine S_getR (n := 81) (C := RX12) (T := TX12) (N := 89) hx hb hg iX12 hown hK hW kd_66 rfl 29 (lt_b rfl) (hg (Cond.fieldLink RX12 57 "SlabWalkModel" "nLength" "[I") m1343) (fun _ h9 => h9) rfl dX12_readStreet_29 ?_
    refine lv_aload_n hx hb dX12_readStreet_32 rfl (lv_at hl 1 rfl) ?_
    refine S_getI (v := (G.1 66 45)) (C := RX12) (T := TX12) (N := 89) hx hb hg iX12 hown hK hW kd_66 rfl 45 (lt_b rfl) (hg (Cond.fieldLink RX12 359 "SlabWalkModel" "nStreets" "I") m1359) (fun _ h9 => h9) rfl ((hq_14.i9 66 45 rfl rfl).trans ((hq_5.i9 66 45 rfl rfl).trans (rfl))) dX12_readStreet_33 ?_
    refine ic_0 hx hb dX12_readStreet_36 ?_
    refine S_iast hx hb hK hW hS kd_81 (vin ((by first | exact b_1.1 | omega)) ((by first | exact ok_390 hs | omega))) dX12_readStreet_37 (fun G_19 H locs eG_19 hW hS => ?_)
    have hB_G_19 : Bd G_19 := hB_G_13.put (V := 0) (lo := 0) (hi := 400) eG_19 rfl rfl rfl (by decide) (by decide) (hB_G_13.2.put eG_19 rfl)
    have hF := hF.put eG_19 (Or.inl (by decide))
    refine ic_0 hx hb dX12_readStreet_38 ?_
    refine lv_istore_n (lv' := [(2, .int 0), (1, .int r_12), (0, .ref (a 66))]) hx hb dX12_readStreet_39 rfl hl (lt_b rfl) rfl (fun ls hl => ?_)
    have g_26 : (G_19.1 81 (G.1 66 45).toNatClampNeg).toInt = 0 := by rw [show G_19.1 81 (G.1 66 45).toNatClampNeg = 0 from (gp_eq eG_19)]; rfl
    have g_27 : (G_19.1 66 2).toInt = (G_13.1 66 2).toInt := (congrArg Int32.toInt (show G_19.1 66 2 = (G_13.1 66 2) from ((gp_ne eG_19 (fun q => absurd q.1 (Nat.ne_of_beq_eq_false rfl))).trans (rfl))))
    have b_28 : 0 ≤ (G_13.1 66 4).toInt ∧ (G_13.1 66 4).toInt ≤ 1600 := bd_66_4 hB_G_13
    have g_29 : (G_19.1 66 4).toInt = (G_13.1 66 4).toInt := (congrArg Int32.toInt (show G_19.1 66 4 = (G_13.1 66 4) from (gp_ne eG_19 (fun q => absurd q.1 (Nat.ne_of_beq_eq_false rfl)))))
    have g_30 : (G_19.1 66 6).toInt = (G_13.1 66 6).toInt := (congrArg Int32.toInt (show G_19.1 66 6 = (G_13.1 66 6) from (gp_ne eG_19 (fun q => absurd q.1 (Nat.ne_of_beq_eq_false rfl)))))
    have g_31 : (G_19.1 81 (G.1 66 45).toNatClampNeg).toInt = 0 := by rw [show G_19.1 81 (G.1 66 45).toNatClampNeg = 0 from (gp_eq eG_19)]; rfl
    have qc_32 : (0 : Int32).toInt = 0 := rfl
    refine loop_N (Inv := fun n H locs ls => ∃ (G_20 : GS) (x_24 : Int32), (n : Int) = 5 * (400 - (G_20.1 81 (G.1 66 45).toNatClampNeg).toInt) + (4 - (G_20.1 66 2).toInt) ∧ ((G.1 66 4).toInt ≤ (G_20.1 66 4).toInt ∧ ((G_20.1 66 4).toInt = (G.1 66 4).toInt → (G_20.1 66 6).toInt = (G.1 66 6).toInt ∨ (G_20.1 66 6).toInt ≤ 3)) ∧ (0 ≤ (G_20.1 81 (G.1 66 45).toNatClampNeg).toInt ∧ (G_20.1 81 (G.1 66 45).toNatClampNeg).toInt ≤ 400) ∧ Rc (St_n_readStreet_1 r_12 G) (0, G_19) (x_24, G_20) ∧ Wd D k A a G_20 H ∧ Bd G_20 ∧ Fr [68, 77, 78, 79, 80, 81] [(66, 2), (66, 3), (66, 4), (66, 6), (66, 7), (66, 8), (66, 9), (66, 45)] G G_20 ∧ Fr [77, 78, 79, 80, 81] [(66, 2), (66, 3), (66, 4), (66, 6), (66, 7), (66, 8), (66, 9)] G_19 G_20 ∧ va_S A s.heap H locs ∧ lv_has ls 3 [(2, .int x_24), (1, .int r_12), (0, .ref (a 66))]) (fun n_23 H locs ls ih_22 hI => ?_) (5 * (400 - (G_19.1 81 (G.1 66 45).toNatClampNeg).toInt) + (4 - (G_19.1 66 2).toInt) : Int).toNat ⟨G_19, 0, (Int.toNat_of_nonneg ((by first | exact ok_963 c_18 g_26 g_27 | omega))), ((by first | exact ⟨(by first | exact ok_964 d_1 d_4 g_29 | omega), (fun h9 => by have q0_ := d_2 (by first | (clear hnf hs b_1 d_2 d_3 b_10 d_5 d_6 d_7 b_17 c_18 g_26 g_27 g_30 g_31; omega) | omega); have q1_ := d_5 (by first | (clear hnf hs b_1 d_2 d_3 b_10 d_5 d_6 d_7 b_17 c_18 g_26 g_27 g_30 g_31; omega) | omega); (first | (clear hnf hs b_1 d_1 d_2 d_3 b_10 b_11 d_4 d_5 d_6 d_7 b_17 c_18 g_26 g_27 b_28 g_29 g_31; omega) | omega))⟩ | omega)), ((by first | exact ⟨(by first | exact ok_965 g_26 | omega), (by first | exact ok_966 g_26 | omega)⟩ | omega)), Rc.rf, hW, hB_G_19, hF, Fr.rf, hS, lv_sub hl [0, 1, 2] rfl⟩
    obtain ⟨G_20, x_24, hn_35, f_33, f_34, hX_25, hW, hB_G_20, hF, hq_21, hS, hl⟩ := hI
    have d_8 := f_33.1
    have d_9 := f_33.2
    have b_36 : 0 ≤ (G_20.1 66 4).toInt ∧ (G_20.1 66 4).toInt ≤ 1600 := bd_66_4 hB_G_20
    refine lv_aload_n hx hb dX12_readStreet_40 rfl (lv_at hl 2 rfl) ?_
    have b_37 : 0 ≤ (G_20.1 66 2).toInt ∧ (G_20.1 66 2).toInt ≤ 4 := bd_66_2 hB_G_20
    refine S_getI (v := (G_20.1 66 2)) (C := RX12) (T := TX12) (N := 89) hx hb hg iX12 hown hK hW kd_66 rfl 2 (lt_b rfl) (hg (Cond.fieldLink RX12 218 "SlabWalkModel" "fault" "I") m1316) (fun _ h9 => h9) rfl rfl dX12_readStreet_41 ?_
    refine lv_if_ne (tgt := 71) hx hb dX12_readStreet_44 rfl (fun c_38 => ?_) (fun c_38 => ?_)
    · have c_38 : (G_20.1 66 2).toInt ≠ 0 := xI_ne rfl rfl c_38
      refine lv_aload_n hx hb dX12_readStreet_71 rfl (lv_at hl 2 rfl) ?_
      refine S_getI (v := (G_20.1 66 2)) (C := RX12) (T := TX12) (N := 89) hx hb hg iX12 hown hK hW kd_66 rfl 2 (lt_b rfl) (hg (Cond.fieldLink RX12 218 "SlabWalkModel" "fault" "I") m1316) (fun _ h9 => h9) rfl rfl dX12_readStreet_72 ?_
      refine lv_if_ne (tgt := 88) hx hb dX12_readStreet_75 rfl (fun c_39 => ?_) (fun c_39 => ?_)
      · have c_39 : (G_20.1 66 2).toInt ≠ 0 := xI_ne rfl rfl c_39
        exact W.vret hx hb hr (fun t ht _ => ⟨⟨G_20, rfl, (Q_readStreet_mk ⟨hB_G_20, hF, ((by first | exact ⟨(by first | exact d_8 | omega), (fun h9 => by have q0_ := d_9 (by first | (clear hnf hs b_1 d_2 d_3 b_10 d_5 d_6 d_7 b_17 c_18 g_26 g_27 b_28 g_30 g_31 hn_35 f_33 f_34 d_9 b_37 c_38 c_39; omega) | omega); (first | (clear hnf hs b_1 d_1 d_2 d_3 b_10 b_11 d_4 d_5 d_6 d_7 b_17 c_18 g_26 g_27 b_28 g_29 g_30 g_31 hn_35 f_33 f_34 d_8 d_9 b_36 b_37 c_38 c_39; omega) | omega))⟩ | omega)), ⟨G_4, hX_7, ⟨r_12, G_13, hX_16, (Or.inl ⟨c_18, ⟨G_19, hB_G_19, (Fr.put (rs := [81]) (fs := []) Fr.rf eG_19 (Or.inl (by decide))), rw_ast eG_19, ⟨x_24, G_20, hX_25, f_33, f_34, hB_G_20, hq_21, (Or.inr ⟨c_38, rfl⟩)⟩⟩⟩)⟩⟩⟩), wd_t ht hW⟩, hS.F ht⟩) hS.2.2 dX12_readStreet_88
      · have c_39 : (G_20.1 66 2).toInt = 0 := xI_eq rfl rfl c_39
        exfalso; first | exact ok_923 b_37.1 c_38 c_39 | omega
    · have c_38 : (G_20.1 66 2).toInt = 0 := xI_eq rfl rfl c_38
      refine lv_iload_n hx hb dX12_readStreet_47 rfl (lv_at hl 0 rfl) ?_
      refine lv_if_eq (tgt := 59) hx hb dX12_readStreet_48 rfl (fun c_40 => ?_) (fun c_40 => ?_)
      · have c_40 : x_24.toInt = 0 := xI_eq rfl rfl c_40
        refine lv_aload_n hx hb dX12_readStreet_59 rfl (lv_at hl 2 rfl) ?_
        refine lv_iload_n hx hb dX12_readStreet_60 rfl (lv_at hl 1 rfl) ?_
        refine lv_iload_n hx hb dX12_readStreet_61 rfl (lv_at hl 0 rfl) ?_
        have g_41 : (G_20.1 66 45).toInt = (G.1 66 45).toInt := (congrArg Int32.toInt (show G_20.1 66 45 = (G.1 66 45) from ((hq_21.i9 66 45 rfl rfl).trans ((gp_ne eG_19 (fun q => absurd q.1 (Nat.ne_of_beq_eq_false rfl))).trans ((hq_14.i9 66 45 rfl rfl).trans ((hq_5.i9 66 45 rfl rfl).trans (rfl)))))))
        refine S_callv (va_runV (As := [.int r_12, .int x_24]) (rest := []) ⟨hx, hb, hml, hown, hts⟩ (n_readSlab l D k A a z G_20 r_12 x_24 ((G.1 66 45).toNatClampNeg) (show (G_20.1 66 45).toNatClampNeg = (G.1 66 45).toNatClampNeg from congrArg Int32.toNatClampNeg (((hq_21.i9 66 45 rfl rfl).trans ((gp_ne eG_19 (fun q => absurd q.1 (Nat.ne_of_beq_eq_false rfl))).trans ((hq_14.i9 66 45 rfl rfl).trans ((hq_5.i9 66 45 rfl rfl).trans (rfl))))))) ⟨(by first | exact ok_967 qc_2 d_7 b_17.1 c_18 | omega), (by first | exact ok_968 qc_9 d_7 b_17.1 c_18 | omega)⟩ ((by first | exact c_38 | omega)) ((by first | exact ok_948 hs g_41 | omega))) (cwV 2 hts (gd_V hgd m1686 m1688 m63 m131 m1689) rfl rfl rfl hd_X12_readSlab ⟨Nat.le_of_ble_eq_true rfl, Nat.le_of_ble_eq_true rfl⟩) (pre_W hW hB_G_20 hK hZ hS kd_66 rfl) rfl rfl hl.1 rfl (lv_room (Nat.le_of_ble_eq_true rfl)) dX12_readStreet_62 ⟨Nat.le_of_ble_eq_true rfl, Nat.le_of_ble_eq_true rfl⟩) hS (fun G_43 H locs hpo hW hS => ?_)
        have hX_46 : Q_readSlab r_12 x_24 ((G.1 66 45).toNatClampNeg) G_20 G_43 := hpo
        obtain ⟨hB_G_43, hq_44, ⟨d_10, d_11, d_12, d_13, d_14⟩, -⟩ := hpo
        have hF := hF.call9 hq_44 rfl rfl
        obtain ⟨y_47, ey_47⟩ : ∃ q, q = x_24 + 1 := ⟨_, rfl⟩
        have ty_47 : y_47.toInt = x_24.toInt + 1 := xI_add rfl rfl ey_47 ((by first | exact ok_969 c_40 | omega)) ((by first | exact ok_417 c_40 | omega))
        refine lv_iinc (v := y_47) (lv' := [(2, .int y_47), (1, .int r_12), (0, .ref (a 66))]) hx hb dX12_readStreet_65 hl (k := 0) rfl (by rw [ey_47]; rfl) (lt_b rfl) rfl (fun ls hl => ?_)
        refine lv_goto (tgt := 40) hx hb dX12_readStreet_68 rfl ?_
        have b_48 : 0 ≤ (G_43.1 66 2).toInt ∧ (G_43.1 66 2).toInt ≤ 4 := bd_66_2 hB_G_43
        have b_49 : 0 ≤ (G_43.1 66 4).toInt ∧ (G_43.1 66 4).toInt ≤ 1600 := bd_66_4 hB_G_43
        exact ih_22 (5 * (400 - (G_43.1 81 (G.1 66 45).toNatClampNeg).toInt) + (4 - (G_43.1 66 2).toInt) : Int).toNat ((by first | (clear hnf d_1 d_2 d_3 b_10 b_11 d_4 d_5 d_6 d_7 b_17 c_18 g_27 b_28 g_29 g_30 f_33 d_8 d_9 b_36 c_40 d_10 d_11 ty_47 b_49; omega) | omega)) _ _ _ ⟨G_43, y_47, (Int.toNat_of_nonneg ((by first | (clear hnf d_1 d_2 d_3 b_10 b_11 d_4 d_5 d_6 d_7 b_17 c_18 g_27 b_28 g_29 g_30 hn_35 f_33 d_8 d_9 b_36 b_37 c_38 c_40 d_10 d_11 ty_47 b_49; omega) | omega))), ((by first | exact ⟨(by first | exact ok_624 f_33.1 d_10 | omega), (fun h9 => by have q0_ := d_9 (by first | (clear hnf hs b_1 d_2 d_3 b_10 d_5 d_6 d_7 b_17 c_18 g_26 g_27 b_28 g_30 g_31 hn_35 f_33 f_34 d_9 b_37 c_38 c_40 g_41 d_11 d_12 d_13 d_14 ty_47 b_48; omega) | omega); have q1_ := d_11 (by first | (clear hnf hs b_1 d_2 d_3 b_10 d_5 d_6 d_7 b_17 c_18 g_26 g_27 b_28 g_30 g_31 hn_35 f_33 f_34 d_9 b_37 c_38 c_40 g_41 d_11 d_12 d_13 d_14 ty_47 b_48; omega) | omega); (first | (clear hnf hs b_1 d_1 d_2 d_3 b_10 b_11 d_4 d_5 d_6 d_7 b_17 c_18 g_26 g_27 b_28 g_29 g_30 g_31 hn_35 f_33 f_34 d_8 d_9 b_36 b_37 c_38 c_40 g_41 d_10 d_11 d_12 d_13 d_14 ty_47 b_48 b_49; omega) | omega))⟩ | omega)), ((by first | exact ⟨((by first | (clear hnf d_1 d_2 d_3 b_10 b_11 d_4 d_5 d_6 d_7 b_17 c_18 g_27 b_28 g_29 g_30 hn_35 f_33 d_8 d_9 b_36 b_37 c_38 c_40 d_10 d_11 ty_47 b_49; omega) | omega)), ((by first | (clear hnf d_1 d_2 d_3 b_10 b_11 d_4 d_5 d_6 d_7 b_17 c_18 g_27 b_28 g_29 g_30 hn_35 f_33 d_8 d_9 b_36 b_37 c_38 c_40 d_10 d_11 ty_47 b_49; omega) | omega))⟩ | omega)), (hX_25.st (St_n_readStreet_1_mk ⟨x_24, G_20, y_47, G_43, rfl, rfl, f_33, f_34, hB_G_20, ⟨c_38, (Or.inl ⟨c_40, ⟨G_43, hX_46, ⟨y_47, ty_47, ⟨rfl, rfl⟩⟩⟩⟩)⟩⟩)), hW, hB_G_43, hF, (Fr.call9 (rs := [77, 78, 79, 80, 81]) (fs := [(66, 2), (66, 3), (66, 4), (66, 6), (66, 7), (66, 8), (66, 9)]) (Fr.call9 (rs := [77, 78, 79, 80, 81]) (fs := [(66, 2), (66, 3), (66, 4), (66, 6), (66, 7), (66, 8), (66, 9)]) Fr.rf hq_21 rfl rfl) hq_44 rfl rfl), hS, lv_sub hl [0, 1, 2] rfl⟩
      · have c_40 : x_24.toInt ≠ 0 := xI_ne rfl rfl c_40
        refine lv_aload_n hx hb dX12_readStreet_51 rfl (lv_at hl 2 rfl) ?_
        refine S_getI (v := (G_20.1 66 6)) (C := RX12) (T := TX12) (N := 89) hx hb hg iX12 hown hK hW kd_66 rfl 6 (lt_b rfl) (hg (Cond.fieldLink RX12 205 "SlabWalkModel" "sort" "I") m1320) (fun _ h9 => h9) rfl rfl dX12_readStreet_52 ?_
        refine ic_2 hx hb dX12_readStreet_55 ?_
        refine lv_icmp_ne (tgt := 71) hx hb dX12_readStreet_56 rfl (fun c_50 => ?_) (fun c_50 => ?_)
        · have c_50 : (G_20.1 66 6).toInt ≠ 2 := xI_ne rfl rfl c_50
          refine lv_aload_n hx hb dX12_readStreet_71 rfl (lv_at hl 2 rfl) ?_
          refine S_getI (v := (G_20.1 66 2)) (C := RX12) (T := TX12) (N := 89) hx hb hg iX12 hown hK hW kd_66 rfl 2 (lt_b rfl) (hg (Cond.fieldLink RX12 218 "SlabWalkModel" "fault" "I") m1316) (fun _ h9 => h9) rfl rfl dX12_readStreet_72 ?_
          refine lv_if_ne (tgt := 88) hx hb dX12_readStreet_75 rfl (fun c_51 => ?_) (fun c_51 => ?_)
          · have c_51 : (G_20.1 66 2).toInt ≠ 0 := xI_ne rfl rfl c_51
            exfalso; first | exact ok_924 b_37.1 c_38 c_51 | omega
          · have c_51 : (G_20.1 66 2).toInt = 0 := xI_eq rfl rfl c_51
            refine lv_aload_n hx hb dX12_readStreet_78 rfl (lv_at hl 2 rfl) ?_
            refine lv_dup hx hb dX12_readStreet_79 rfl ?_
            refine S_getI (v := (G.1 66 45)) (C := RX12) (T := TX12) (N := 89) hx hb hg iX12 hown hK hW kd_66 rfl 45 (lt_b rfl) (hg (Cond.fieldLink RX12 359 "SlabWalkModel" "nStreets" "I") m1359) (fun _ h9 => h9) rfl ((hq_21.i9 66 45 rfl rfl).trans ((gp_ne eG_19 (fun q => absurd q.1 (Nat.ne_of_beq_eq_false rfl))).trans ((hq_14.i9 66 45 rfl rfl).trans ((hq_5.i9 66 45 rfl rfl).trans (rfl))))) dX12_readStreet_80 ?_
            refine ic_1 hx hb dX12_readStreet_83 ?_
            refine lv_iadd hx hb dX12_readStreet_84 ?_
            refine lv_topi (fun y_52 ey_52 => ?_)
            have ty_52 : y_52.toInt = (G.1 66 45).toInt + 1 := xI_add rfl rfl ey_52 ((by first | exact ok_21 b_1.1 | omega)) ((by first | exact ok_440 hs | omega))
            refine S_putI (ty := .int) (C := RX12) (T := TX12) (N := 89) hx hb hg iX12 tyX12 tyX12_ok nmX12 hown hK hW hS kd_66 rfl 45 (lt_b rfl) (hg (Cond.fieldLink RX12 359 "SlabWalkModel" "nStreets" "I") m1359) (fun _ h9 => h9) rfl (by decide +kernel) rfl rfl rfl dX12_readStreet_85 (fun G_53 H locs eG_53 hW hS => ?_)
            have hB_G_53 : Bd G_53 := hB_G_20.put (V := y_52.toInt) (lo := 0) (hi := 3) eG_53 rfl rfl rfl ((by first | exact ok_23 b_1.1 ty_52 | omega)) ((by first | exact ok_443 hs ty_52 | omega)) (hB_G_20.2.put eG_53 rfl)
            have hF := hF.put eG_53 (Or.inr (by decide))
            have g_54 : (G_53.1 66 4).toInt = (G_20.1 66 4).toInt := (congrArg Int32.toInt (show G_53.1 66 4 = (G_20.1 66 4) from ((gp_ne eG_53 (by decide)).trans (rfl))))
            have g_55 : (G_53.1 66 6).toInt = (G_20.1 66 6).toInt := (congrArg Int32.toInt (show G_53.1 66 6 = (G_20.1 66 6) from ((gp_ne eG_53 (by decide)).trans (rfl))))
            exact W.vret hx hb hr (fun t ht _ => ⟨⟨G_53, rfl, (Q_readStreet_mk ⟨hB_G_53, hF, ((by first | exact ⟨(by first | exact ok_347 f_33.1 g_54 | omega), (fun h9 => by have q0_ := d_9 (by first | (clear hnf hs b_1 d_2 d_3 b_10 d_5 d_6 d_7 b_17 c_18 g_26 g_27 b_28 g_30 g_31 hn_35 f_33 f_34 d_9 b_37 c_38 c_40 c_50 c_51 ty_52 g_55; omega) | omega); (first | (clear hnf hs b_1 d_1 d_2 d_3 b_10 b_11 d_4 d_5 d_6 d_7 b_17 c_18 g_26 g_27 b_28 g_29 g_30 g_31 hn_35 f_33 f_34 d_8 d_9 b_36 b_37 c_38 c_40 c_50 c_51 ty_52 g_54; omega) | omega))⟩ | omega)), ⟨G_4, hX_7, ⟨r_12, G_13, hX_16, (Or.inl ⟨c_18, ⟨G_19, hB_G_19, (Fr.put (rs := [81]) (fs := []) Fr.rf eG_19 (Or.inl (by decide))), rw_ast eG_19, ⟨x_24, G_20, hX_25, f_33, f_34, hB_G_20, hq_21, (Or.inl ⟨c_38, ⟨c_40, ⟨c_50, ⟨y_52, ty_52, ⟨(Fr.put (rs := []) (fs := [(66, 45)]) Fr.rf eG_53 (Or.inr (by decide))), (gp_eq eG_53)⟩⟩⟩⟩⟩)⟩⟩⟩)⟩⟩⟩), wd_t ht hW⟩, hS.F ht⟩) hS.2.2 dX12_readStreet_88
        · have c_50 : (G_20.1 66 6).toInt = 2 := xI_eq rfl rfl c_50
          refine lv_aload_n hx hb dX12_readStreet_59 rfl (lv_at hl 2 rfl) ?_
          refine lv_iload_n hx hb dX12_readStreet_60 rfl (lv_at hl 1 rfl) ?_
          refine lv_iload_n hx hb dX12_readStreet_61 rfl (lv_at hl 0 rfl) ?_
          have g_56 : (G_20.1 66 45).toInt = (G.1 66 45).toInt := (congrArg Int32.toInt (show G_20.1 66 45 = (G.1 66 45) from ((hq_21.i9 66 45 rfl rfl).trans ((gp_ne eG_19 (fun q => absurd q.1 (Nat.ne_of_beq_eq_false rfl))).trans ((hq_14.i9 66 45 rfl rfl).trans ((hq_5.i9 66 45 rfl rfl).trans (rfl)))))))
          refine S_callv (va_runV (As := [.int r_12, .int x_24]) (rest := []) ⟨hx, hb, hml, hown, hts⟩ (n_readSlab l D k A a z G_20 r_12 x_24 ((G.1 66 45).toNatClampNeg) (show (G_20.1 66 45).toNatClampNeg = (G.1 66 45).toNatClampNeg from congrArg Int32.toNatClampNeg (((hq_21.i9 66 45 rfl rfl).trans ((gp_ne eG_19 (fun q => absurd q.1 (Nat.ne_of_beq_eq_false rfl))).trans ((hq_14.i9 66 45 rfl rfl).trans ((hq_5.i9 66 45 rfl rfl).trans (rfl))))))) ⟨(by first | exact ok_967 qc_2 d_7 b_17.1 c_18 | omega), (by first | exact ok_968 qc_9 d_7 b_17.1 c_18 | omega)⟩ ((by first | exact c_38 | omega)) ((by first | exact ok_948 hs g_56 | omega))) (cwV 2 hts (gd_V hgd m1686 m1688 m63 m131 m1689) rfl rfl rfl hd_X12_readSlab ⟨Nat.le_of_ble_eq_true rfl, Nat.le_of_ble_eq_true rfl⟩) (pre_W hW hB_G_20 hK hZ hS kd_66 rfl) rfl rfl hl.1 rfl (lv_room (Nat.le_of_ble_eq_true rfl)) dX12_readStreet_62 ⟨Nat.le_of_ble_eq_true rfl, Nat.le_of_ble_eq_true rfl⟩) hS (fun G_58 H locs hpo hW hS => ?_)
          have hX_61 : Q_readSlab r_12 x_24 ((G.1 66 45).toNatClampNeg) G_20 G_58 := hpo
          obtain ⟨hB_G_58, hq_59, ⟨d_15, d_16, d_17, d_18, d_19⟩, -⟩ := hpo
          have hF := hF.call9 hq_59 rfl rfl
          obtain ⟨y_62, ey_62⟩ : ∃ q, q = x_24 + 1 := ⟨_, rfl⟩
          refine lv_iinc (v := y_62) (lv' := [(2, .int y_62), (1, .int r_12), (0, .ref (a 66))]) hx hb dX12_readStreet_65 hl (k := 0) rfl (by rw [ey_62]; rfl) (lt_b rfl) rfl (fun ls hl => ?_)
          refine lv_goto (tgt := 40) hx hb dX12_readStreet_68 rfl ?_
          have b_63 : 0 ≤ (G_58.1 66 2).toInt ∧ (G_58.1 66 2).toInt ≤ 4 := bd_66_2 hB_G_58
          have b_64 : 0 ≤ (G_58.1 66 4).toInt ∧ (G_58.1 66 4).toInt ≤ 1600 := bd_66_4 hB_G_58
          exact ih_22 (5 * (400 - (G_58.1 81 (G.1 66 45).toNatClampNeg).toInt) + (4 - (G_58.1 66 2).toInt) : Int).toNat ((by first | (clear hnf d_1 d_2 d_3 b_10 b_11 d_4 d_5 d_6 d_7 b_17 c_18 g_27 b_28 g_29 g_30 f_33 d_8 d_9 b_36 c_40 c_50 d_15 d_16 b_64; omega) | omega)) _ _ _ ⟨G_58, y_62, (Int.toNat_of_nonneg ((by first | (clear hnf d_1 d_2 d_3 b_10 b_11 d_4 d_5 d_6 d_7 b_17 c_18 g_27 b_28 g_29 g_30 hn_35 f_33 d_8 d_9 b_36 b_37 c_38 c_40 c_50 d_15 d_16 b_64; omega) | omega))), ((by first | exact ⟨(by first | exact ok_624 f_33.1 d_15 | omega), (fun h9 => by have q0_ := d_9 (by first | (clear hnf hs b_1 d_2 d_3 b_10 d_5 d_6 d_7 b_17 c_18 g_26 g_27 b_28 g_30 g_31 hn_35 f_33 f_34 d_9 b_37 c_38 c_40 c_50 g_56 d_16 d_17 d_18 d_19 b_63; omega) | omega); have q1_ := d_16 (by first | (clear hnf hs b_1 d_2 d_3 b_10 d_5 d_6 d_7 b_17 c_18 g_26 g_27 b_28 g_30 g_31 hn_35 f_33 f_34 d_9 b_37 c_38 c_40 c_50 g_56 d_16 d_17 d_18 d_19 b_63; omega) | omega); (first | (clear hnf hs b_1 d_1 d_2 d_3 b_10 b_11 d_4 d_5 d_6 d_7 b_17 c_18 g_26 g_27 b_28 g_29 g_30 g_31 hn_35 f_33 f_34 d_8 d_9 b_36 b_37 c_38 c_40 g_56 d_15 d_16 d_17 d_18 d_19 b_63 b_64; omega) | omega))⟩ | omega)), ((by first | exact ⟨((by first | (clear hnf d_1 d_2 d_3 b_10 b_11 d_4 d_5 d_6 d_7 b_17 c_18 g_27 b_28 g_29 g_30 hn_35 f_33 d_8 d_9 b_36 b_37 c_38 c_40 c_50 d_15 d_16 b_64; omega) | omega)), ((by first | (clear hnf d_1 d_2 d_3 b_10 b_11 d_4 d_5 d_6 d_7 b_17 c_18 g_27 b_28 g_29 g_30 hn_35 f_33 d_8 d_9 b_36 b_37 c_38 c_40 c_50 d_15 d_16 b_64; omega) | omega))⟩ | omega)), (hX_25.st (St_n_readStreet_1_mk ⟨x_24, G_20, y_62, G_58, rfl, rfl, f_33, f_34, hB_G_20, ⟨c_38, (Or.inr ⟨c_40, ⟨c_50, ⟨G_58, hX_61, ⟨y_62, ey_62, ⟨rfl, rfl⟩⟩⟩⟩⟩)⟩⟩)), hW, hB_G_58, hF, (Fr.call9 (rs := [77, 78, 79, 80, 81]) (fs := [(66, 2), (66, 3), (66, 4), (66, 6), (66, 7), (66, 8), (66, 9)]) (Fr.call9 (rs := [77, 78, 79, 80, 81]) (fs := [(66, 2), (66, 3), (66, 4), (66, 6), (66, 7), (66, 8), (66, 9)]) Fr.rf hq_21 rfl rfl) hq_59 rfl rfl), hS, lv_sub hl [0, 1, 2] rfl⟩
  · have c_18 : 0 < (G_13.1 66 2).toInt := xI_nle rfl rfl c_18
    have b_65 : 0 ≤ (G_13.1 66 4).toInt ∧ (G_13.1 66 4).toInt ≤ 1600 := bd_66_4 hB_G_13
    exact W.vret hx hb hr (fun t ht _ => ⟨⟨G_13, rfl, (Q_readStreet_mk ⟨hB_G_13, hF, ((by first | exact ⟨(by first | exact ok_624 d_1 d_4 | omega), (fun h9 => by have q0_ := d_2 (by first | (clear hnf hs b_1 d_2 d_3 b_10 d_5 d_6 d_7 b_17 c_18; omega) | omega); have q1_ := d_5 (by first | (clear hnf hs b_1 d_2 d_3 b_10 d_5 d_6 d_7 b_17 c_18; omega) | omega); (first | (clear hnf hs b_1 d_1 d_2 d_3 b_10 b_11 d_4 d_5 d_6 d_7 b_17 c_18 b_65; omega) | omega))⟩ | omega)), ⟨G_4, hX_7, ⟨r_12, G_13, hX_16, (Or.inr ⟨c_18, rfl⟩)⟩⟩⟩), wd_t ht hW⟩, hS.F ht⟩) hS.2.2 dX12_readStreet_27

set_option maxHeartbeats 4000000 in
set_option maxRecDepth 100000 in
theorem n_readWalker (l : Launch) (D : va_G) (k : KT) (A : Nat → Prop) (a : Nat → Nat) (z : SK) (G : GS)  (hnf : (G.1 66 2).toInt = 0) (hw4 : (G.1 66 46).toInt < 4) (hN9 : gN G = 1) : Met l yX12_readWalker (WS yX12_readWalker cX12_readWalker 2 none) ({ frames := 4, cells := 0, slots := 0, locals := 90 }) (va_Pc [.ref (a 66)] (cW D k A a z G)) (va_Qv (fun (G1 : GS) => Q_readWalker G G1) (fun (G1 : GS) t => Wd D k A a G1 t.heap) A) 0 0 A := by
  refine Met.ofW (cc := cX12_readWalker) (maxL := 2) (ret := none) (by decide) rfl ?_
  intro p e s m args below meth c s₁ B hml hv
  obtain ⟨rfl, hW, hB_G, hK, hZ⟩ := hv
  have hx := B.exec
  have hb := B.bytes
  have hr := B.returns
  have hts := atoms_spec (ws := WS yX12_readWalker cX12_readWalker 2 none) B.pre
  have hgd : ∀ w ∈ gd, w ∈ WS yX12_readWalker cX12_readWalker 2 none := fun w h => List.mem_cons_of_mem _ h
  have hg : ∀ w ∈ gd, w.before _ s = true := fun w h => hts w (hgd w h)
  have hown : s.vm.findClass RX12 = some m.cls := findClass_of_methodNamed B.named
  have hS : va_S A s.heap s.heap [] := va_S.rf
  have hF : Fr [68, 82, 83, 84, 85] [(66, 2), (66, 3), (66, 4), (66, 6), (66, 7), (66, 8), (66, 9), (66, 46)] G G := Fr.rf
  have hl := lv_entry ([.ref (a 66)]) (n := 2) (Nat.le_of_ble_eq_true rfl)
  rw [lg_entry_eq]
  generalize (lg_sl ([.ref (a 66)]) ++ List.replicate (2 - (lg_sl ([.ref (a 66)])).length) Slot.unset).toArray = ls at hl ⊢
  have hl : lv_has ls 2 [(0, .ref (a 66))] := hl
  refine lv_aload_n hx hb dX12_readWalker_0 rfl (lv_at hl 0 rfl) ?_
  refine ic_3 hx hb dX12_readWalker_1 ?_
  refine lv_aload_n hx hb dX12_readWalker_2 rfl (lv_at hl 0 rfl) ?_
  have b_1 : 0 ≤ (G.1 66 46).toInt ∧ (G.1 66 46).toInt ≤ 4 := bd_66_46 hB_G
  refine S_getI (v := (G.1 66 46)) (C := RX12) (T := TX12) (N := 89) hx hb hg iX12 hown hK hW kd_66 rfl 46 (lt_b rfl) (hg (Cond.fieldLink RX12 379 "SlabWalkModel" "nWalkers" "I") m1360) (fun _ h9 => h9) rfl rfl dX12_readWalker_3 ?_
  have qc_2 : (3 : Int32).toInt = 3 := rfl
  refine S_callv (va_runV (As := [.int 3, .int (G.1 66 46)]) (rest := []) ⟨hx, hb, hml, hown, hts⟩ (n_newName l D k A a z G 3 (G.1 66 46) ⟨by decide, by decide⟩ ⟨(by first | exact b_1.1 | omega), (by first | exact ok_970 hw4 | omega)⟩) (cwV 2 hts (gd_V hgd m1632 m1634 m55 m131 m1635) rfl rfl rfl hd_X12_newName ⟨Nat.le_of_ble_eq_true rfl, Nat.le_of_ble_eq_true rfl⟩) (pre_W hW hB_G hK hZ hS kd_66 rfl) rfl rfl hl.1 rfl (lv_room (Nat.le_of_ble_eq_true rfl)) dX12_readWalker_6 ⟨Nat.le_of_ble_eq_true rfl, Nat.le_of_ble_eq_true rfl⟩) hS (fun G_4 H locs hpo hW hS => ?_)
  have hX_7 : Q_newName 3 (G.1 66 46) G G_4 := hpo
  obtain ⟨hB_G_4, hq_5, ⟨d_1, d_2, d_3⟩, -⟩ := hpo
  have hF := hF.call9 hq_5 rfl rfl
  refine lv_aload_n hx hb dX12_readWalker_9 rfl (lv_at hl 0 rfl) ?_
  refine S_getI (v := (G.1 66 46)) (C := RX12) (T := TX12) (N := 89) hx hb hg iX12 hown hK hW kd_66 rfl 46 (lt_b rfl) (hg (Cond.fieldLink RX12 379 "SlabWalkModel" "nWalkers" "I") m1360) (fun _ h9 => h9) rfl ((hq_5.i9 66 46 rfl rfl).trans (rfl)) dX12_readWalker_10 ?_
  refine lv_istore_n (lv' := [(1, .int (G.1 66 46)), (0, .ref (a 66))]) hx hb dX12_readWalker_13 rfl hl (lt_b rfl) rfl (fun ls hl => ?_)
  refine lv_aload_n hx hb dX12_readWalker_14 rfl (lv_at hl 1 rfl) ?_
  refine S_getR (n := 82) (C := RX12) (T := TX12) (N := 89) hx hb hg iX12 hown hK hW kd_66 rfl 30 (lt_b rfl) (hg (Cond.fieldLink RX12 60 "SlabWalkModel" "nFoot" "[I") m1344) (fun _ h9 => h9) rfl dX12_readWalker_15 ?_
  refine lv_iload_n hx hb dX12_readWalker_18 rfl (lv_at hl 0 rfl) ?_
  refine lv_aload_n hx hb dX12_readWalker_19 rfl (lv_at hl 1 rfl) ?_
  refine lv_ldc2 (v := 1718579060) hx hb hown (hg (Cond.constantLong RX12 227 1718579060) m1646) dX12_readWalker_20 ?_
  refine ic_1 hx hb dX12_readWalker_23 ?_
  refine lv_bipush (v := 12) hx hb dX12_readWalker_24 (by decide) ?_
  have qc_8 : (1 : Int32).toInt = 1 := rfl
  have qc_9 : (12 : Int32).toInt = 12 := rfl
  have b_10 : 0 ≤ (G_4.1 66 2).toInt ∧ (G_4.1 66 2).toInt ≤ 4 := bd_66_2 hB_G_4
  have b_11 : 0 ≤ (G_4.1 66 4).toInt ∧ (G_4.1 66 4).toInt ≤ 1600 := bd_66_4 hB_G_4
  refine S_calli (va_runV (As := [.long 1718579060, .int 1, .int 12]) (rest := [.int (G.1 66 46), .ref (a 82)]) ⟨hx, hb, hml, hown, hts⟩ (n_told2 l D k A a z G_4 1718579060 1 12 ) (cwV 3 hts (gd_V hgd m1674 m1676 m60 m131 m1677) rfl rfl rfl hd_X12_told ⟨Nat.le_of_ble_eq_true rfl, Nat.le_of_ble_eq_true rfl⟩) (pre_W hW hB_G_4 hK hZ hS kd_66 rfl) rfl rfl hl.1 rfl (lv_room (Nat.le_of_ble_eq_true rfl)) dX12_readWalker_26 ⟨Nat.le_of_ble_eq_true rfl, Nat.le_of_ble_eq_true rfl⟩) hS (fun r_12 G_13 H locs hpo hW hS => ?_)
  have hX_16 : Q_told2 1718579060 1 12 G_4 r_12 G_13 := hpo
  obtain ⟨hB_G_13, hq_14, ⟨d_4, d_5, d_6, d_7⟩, -⟩ := hpo
  have hF := hF.call9 hq_14 rfl rfl
  refine S_iast hx hb hK hW hS kd_82 (vin ((by first | exact b_1.1 | omega)) ((by first | exact ok_971 hw4 | omega))) dX12_readWalker_29 (fun G_17 H locs eG_17 hW hS => ?_)
  have hB_G_17 : Bd G_17 := hB_G_13.put (lo := (-2147483648)) (hi := 2147483647) eG_17 rfl rfl rfl (tI_rng _).1 (tI_rng _).2 (hB_G_13.2.put eG_17 rfl)
  have hF := hF.put eG_17 (Or.inl (by decide))
  refine lv_aload_n hx hb dX12_readWalker_30 rfl (lv_at hl 1 rfl) ?_
  refine S_getR (n := 83) (C := RX12) (T := TX12) (N := 89) hx hb hg iX12 hown hK hW kd_66 rfl 31 (lt_b rfl) (hg (Cond.fieldLink RX12 63 "SlabWalkModel" "nLeast" "[I") m1345) (fun _ h9 => h9) rfl dX12_readWalker_31 ?_
  refine lv_iload_n hx hb dX12_readWalker_34 rfl (lv_at hl 0 rfl) ?_
  refine lv_aload_n hx hb dX12_readWalker_35 rfl (lv_at hl 1 rfl) ?_
  refine lv_ldc2 (v := 1937007984) hx hb hown (hg (Cond.constantLong RX12 229 1937007984) m1647) dX12_readWalker_36 ?_
  refine ic_1 hx hb dX12_readWalker_39 ?_
  refine lv_bipush (v := 60) hx hb dX12_readWalker_40 (by decide) ?_
  have qc_18 : (1 : Int32).toInt = 1 := rfl
  have qc_19 : (60 : Int32).toInt = 60 := rfl
  have b_20 : 0 ≤ (G_13.1 66 2).toInt ∧ (G_13.1 66 2).toInt ≤ 4 := bd_66_2 hB_G_13
  have g_21 : (G_17.1 66 2).toInt = (G_13.1 66 2).toInt := (congrArg Int32.toInt (show G_17.1 66 2 = (G_13.1 66 2) from (gp_ne eG_17 (fun q => absurd q.1 (Nat.ne_of_beq_eq_false rfl)))))
  have b_22 : 0 ≤ (G_13.1 66 4).toInt ∧ (G_13.1 66 4).toInt ≤ 1600 := bd_66_4 hB_G_13
  have g_23 : (G_17.1 66 4).toInt = (G_13.1 66 4).toInt := (congrArg Int32.toInt (show G_17.1 66 4 = (G_13.1 66 4) from (gp_ne eG_17 (fun q => absurd q.1 (Nat.ne_of_beq_eq_false rfl)))))
  have g_24 : (G_17.1 66 6).toInt = (G_13.1 66 6).toInt := (congrArg Int32.toInt (show G_17.1 66 6 = (G_13.1 66 6) from (gp_ne eG_17 (fun q => absurd q.1 (Nat.ne_of_beq_eq_false rfl)))))
  refine S_calli (va_runV (As := [.long 1937007984, .int 1, .int 60]) (rest := [.int (G.1 66 46), .ref (a 83)]) ⟨hx, hb, hml, hown, hts⟩ (n_told2 l D k A a z G_17 1937007984 1 60 ) (cwV 3 hts (gd_V hgd m1674 m1676 m60 m131 m1677) rfl rfl rfl hd_X12_told ⟨Nat.le_of_ble_eq_true rfl, Nat.le_of_ble_eq_true rfl⟩) (pre_W hW hB_G_17 hK hZ hS kd_66 rfl) rfl rfl hl.1 rfl (lv_room (Nat.le_of_ble_eq_true rfl)) dX12_readWalker_42 ⟨Nat.le_of_ble_eq_true rfl, Nat.le_of_ble_eq_true rfl⟩) hS (fun r_25 G_26 H locs hpo hW hS => ?_)
  have hX_29 : Q_told2 1937007984 1 60 G_17 r_25 G_26 := hpo
  obtain ⟨hB_G_26, hq_27, ⟨d_8, d_9, d_10, d_11⟩, -⟩ := hpo
  have hF := hF.call9 hq_27 rfl rfl
  refine S_iast hx hb hK hW hS kd_83 (vin ((by first | exact b_1.1 | omega)) ((by first | exact ok_971 hw4 | omega))) dX12_readWalker_45 (fun G_30 H locs eG_30 hW hS => ?_)
  have hB_G_30 : Bd G_30 := hB_G_26.put (lo := (-2147483648)) (hi := 2147483647) eG_30 rfl rfl rfl (tI_rng _).1 (tI_rng _).2 (hB_G_26.2.put eG_30 rfl)
  have hF := hF.put eG_30 (Or.inl (by decide))
  refine lv_aload_n hx hb dX12_readWalker_46 rfl (lv_at hl 1 rfl) ?_
  refine S_getR (n := 84) (C := RX12) (T := TX12) (N := 89) hx hb hg iX12 hown hK hW kd_66 rfl 32 (lt_b rfl) (hg (Cond.fieldLink RX12 66 "SlabWalkModel" "nMost" "[I") m1346) (fun _ h9 => h9) rfl dX12_readWalker_47 ?_
  refine lv_iload_n hx hb dX12_readWalker_50 rfl (lv_at hl 0 rfl) ?_
  refine lv_aload_n hx hb dX12_readWalker_51 rfl (lv_at hl 1 rfl) ?_
  refine lv_ldc2 (v := 29807) hx hb hown (hg (Cond.constantLong RX12 231 29807) m1648) dX12_readWalker_52 ?_
  refine lv_aload_n hx hb dX12_readWalker_55 rfl (lv_at hl 1 rfl) ?_
  refine S_getR (n := 83) (C := RX12) (T := TX12) (N := 89) hx hb hg iX12 hown hK hW kd_66 rfl 31 (lt_b rfl) (hg (Cond.fieldLink RX12 63 "SlabWalkModel" "nLeast" "[I") m1345) (fun _ h9 => h9) rfl dX12_readWalker_56 ?_
  refine lv_iload_n hx hb dX12_readWalker_59 rfl (lv_at hl 0 rfl) ?_
  refine S_iald hx hb hK hW kd_83 (vin ((by first | exact b_1.1 | omega)) ((by first | exact ok_971 hw4 | omega))) dX12_readWalker_60 (fun y_31 ey_31 => ?_)
  have u_32 : y_31.toInt = r_25.toInt := congrArg Int32.toInt (ey_31.trans ((gp_eq eG_30)))
  refine lv_bipush (v := 60) hx hb dX12_readWalker_61 (by decide) ?_
  have qc_33 : (60 : Int32).toInt = 60 := rfl
  have b_34 : 0 ≤ (G_26.1 66 2).toInt ∧ (G_26.1 66 2).toInt ≤ 4 := bd_66_2 hB_G_26
  have g_35 : (G_30.1 66 2).toInt = (G_26.1 66 2).toInt := (congrArg Int32.toInt (show G_30.1 66 2 = (G_26.1 66 2) from (gp_ne eG_30 (fun q => absurd q.1 (Nat.ne_of_beq_eq_false rfl)))))
  have b_36 : 0 ≤ (G_26.1 66 4).toInt ∧ (G_26.1 66 4).toInt ≤ 1600 := bd_66_4 hB_G_26
  have g_37 : (G_30.1 66 4).toInt = (G_26.1 66 4).toInt := (congrArg Int32.toInt (show G_30.1 66 4 = (G_26.1 66 4) from (gp_ne eG_30 (fun q => absurd q.1 (Nat.ne_of_beq_eq_false rfl)))))
  have g_38 : (G_30.1 66 6).toInt = (G_26.1 66 6).toInt := (congrArg Int32.toInt (show G_30.1 66 6 = (G_26.1 66 6) from (gp_ne eG_30 (fun q => absurd q.1 (Nat.ne_of_beq_eq_false rfl)))))
  refine S_calli (va_runV (As := [.long 29807, .int y_31, .int 60]) (rest := [.int (G.1 66 46), .ref (a 84)]) ⟨hx, hb, hml, hown, hts⟩ (n_told2 l D k A a z G_30 29807 y_31 60 ) (cwV 3 hts (gd_V hgd m1674 m1676 m60 m131 m1677) rfl rfl rfl hd_X12_told ⟨Nat.le_of_ble_eq_true rfl, Nat.le_of_ble_eq_true rfl⟩) (pre_W hW hB_G_30 hK hZ hS kd_66 rfl) rfl rfl hl.1 rfl (lv_room (Nat.le_of_ble_eq_true rfl)) dX12_readWalker_63 ⟨Nat.le_of_ble_eq_true rfl, Nat.le_of_ble_eq_true rfl⟩) hS (fun r_39 G_40 H locs hpo hW hS => ?_)
  have hX_43 : Q_told2 29807 y_31 60 G_30 r_39 G_40 := hpo
  obtain ⟨hB_G_40, hq_41, ⟨d_12, d_13, d_14, d_15⟩, -⟩ := hpo
  have hF := hF.call9 hq_41 rfl rfl
  refine S_iast hx hb hK hW hS kd_84 (vin ((by first | exact b_1.1 | omega)) ((by first | exact ok_971 hw4 | omega))) dX12_readWalker_66 (fun G_44 H locs eG_44 hW hS => ?_)
  have hB_G_44 : Bd G_44 := hB_G_40.put (lo := (-2147483648)) (hi := 2147483647) eG_44 rfl rfl rfl (tI_rng _).1 (tI_rng _).2 (hB_G_40.2.put eG_44 rfl)
  have hF := hF.put eG_44 (Or.inl (by decide))
  refine lv_aload_n hx hb dX12_readWalker_67 rfl (lv_at hl 1 rfl) ?_
  refine S_getR (n := 85) (C := RX12) (T := TX12) (N := 89) hx hb hg iX12 hown hK hW kd_66 rfl 33 (lt_b rfl) (hg (Cond.fieldLink RX12 69 "SlabWalkModel" "nLeap" "[I") m1347) (fun _ h9 => h9) rfl dX12_readWalker_68 ?_
  refine lv_iload_n hx hb dX12_readWalker_71 rfl (lv_at hl 0 rfl) ?_
  refine lv_aload_n hx hb dX12_readWalker_72 rfl (lv_at hl 1 rfl) ?_
  refine S_getR (n := 84) (C := RX12) (T := TX12) (N := 89) hx hb hg iX12 hown hK hW kd_66 rfl 32 (lt_b rfl) (hg (Cond.fieldLink RX12 66 "SlabWalkModel" "nMost" "[I") m1346) (fun _ h9 => h9) rfl dX12_readWalker_73 ?_
  refine lv_iload_n hx hb dX12_readWalker_76 rfl (lv_at hl 0 rfl) ?_
  refine S_iald hx hb hK hW kd_84 (vin ((by first | exact b_1.1 | omega)) ((by first | exact ok_971 hw4 | omega))) dX12_readWalker_77 (fun y_45 ey_45 => ?_)
  have u_46 : y_45.toInt = r_39.toInt := congrArg Int32.toInt (ey_45.trans ((gp_eq eG_44)))
  refine S_iast hx hb hK hW hS kd_85 (vin ((by first | exact b_1.1 | omega)) ((by first | exact ok_971 hw4 | omega))) dX12_readWalker_78 (fun G_47 H locs eG_47 hW hS => ?_)
  have hB_G_47 : Bd G_47 := hB_G_44.put (lo := (-2147483648)) (hi := 2147483647) eG_47 rfl rfl rfl (tI_rng _).1 (tI_rng _).2 (hB_G_44.2.put eG_47 rfl)
  have hF := hF.put eG_47 (Or.inl (by decide))
  refine lv_aload_n hx hb dX12_readWalker_79 rfl (lv_at hl 1 rfl) ?_
  refine lv_ldc2 (v := 1818583408) hx hb hown (hg (Cond.constantLong RX12 233 1818583408) m1649) dX12_readWalker_80 ?_
  have b_48 : 0 ≤ (G_40.1 66 4).toInt ∧ (G_40.1 66 4).toInt ≤ 1600 := bd_66_4 hB_G_40
  have g_49 : (G_47.1 66 4).toInt = (G_40.1 66 4).toInt := (congrArg Int32.toInt (show G_47.1 66 4 = (G_40.1 66 4) from ((gp_ne eG_47 (fun q => absurd q.1 (Nat.ne_of_beq_eq_false rfl))).trans (gp_ne eG_44 (fun q => absurd q.1 (Nat.ne_of_beq_eq_false rfl))))))
  have g_50 : (G_47.1 66 6).toInt = (G_40.1 66 6).toInt := (congrArg Int32.toInt (show G_47.1 66 6 = (G_40.1 66 6) from ((gp_ne eG_47 (fun q => absurd q.1 (Nat.ne_of_beq_eq_false rfl))).trans (gp_ne eG_44 (fun q => absurd q.1 (Nat.ne_of_beq_eq_false rfl))))))
  refine S_calli (va_runV (As := [.long 1818583408]) (rest := []) ⟨hx, hb, hml, hown, hts⟩ (n_takes l D k A a z G_47 1818583408 ) (cwV 1 hts (gd_V hgd m1702 m1704 m67 m131 m1705) rfl rfl rfl hd_X12_takes ⟨Nat.le_of_ble_eq_true rfl, Nat.le_of_ble_eq_true rfl⟩) (pre_W hW hB_G_47 hK hZ hS kd_66 rfl) rfl rfl hl.1 rfl (lv_room (Nat.le_of_ble_eq_true rfl)) dX12_readWalker_83 ⟨Nat.le_of_ble_eq_true rfl, Nat.le_of_ble_eq_true rfl⟩) hS (fun r_51 G_52 H locs hpo hW hS => ?_)
  have hX_55 : Q_takes 1818583408 G_47 r_51 G_52 := hpo
  obtain ⟨hB_G_52, hq_53, f_56, ⟨d_16, d_17⟩, -⟩ := hpo
  have hF := hF.call9 hq_53 rfl rfl
  refine lv_if_eq (tgt := 109) hx hb dX12_readWalker_86 rfl (fun c_57 => ?_) (fun c_57 => ?_)
  · have c_57 : r_51.toInt = 0 := xI_eq rfl rfl c_57
    refine lv_aload_n hx hb dX12_readWalker_109 rfl (lv_at hl 1 rfl) ?_
    have b_58 : 0 ≤ (G_40.1 66 2).toInt ∧ (G_40.1 66 2).toInt ≤ 4 := bd_66_2 hB_G_40
    refine S_getI (v := (G_40.1 66 2)) (C := RX12) (T := TX12) (N := 89) hx hb hg iX12 hown hK hW kd_66 rfl 2 (lt_b rfl) (hg (Cond.fieldLink RX12 218 "SlabWalkModel" "fault" "I") m1316) (fun _ h9 => h9) rfl ((hq_53.i9 66 2 rfl rfl).trans ((gp_ne eG_47 (fun q => absurd q.1 (Nat.ne_of_beq_eq_false rfl))).trans (gp_ne eG_44 (fun q => absurd q.1 (Nat.ne_of_beq_eq_false rfl))))) dX12_readWalker_110 ?_
    refine lv_if_ne (tgt := 126) hx hb dX12_readWalker_113 rfl (fun c_59 => ?_) (fun c_59 => ?_)
    · have c_59 : (G_40.1 66 2).toInt ≠ 0 := xI_ne rfl rfl c_59
      have fr_60 : Fr [] [(66, 4), (66, 6), (66, 7), (66, 8), (66, 9)] G_47 G_52 := (Fr.call9 (rs := []) (fs := [(66, 4), (66, 6), (66, 7), (66, 8), (66, 9)]) Fr.rf hq_53 rfl rfl)
      have g_61 : gN G_52 = gN G_47 := gN_fr fr_60 (gr_q rfl) (gf_q rfl)
      have g_62 : (G_52.1 66 2).toInt = (G_40.1 66 2).toInt := (congrArg Int32.toInt (show G_52.1 66 2 = (G_40.1 66 2) from ((hq_53.i9 66 2 rfl rfl).trans ((gp_ne eG_47 (fun q => absurd q.1 (Nat.ne_of_beq_eq_false rfl))).trans ((gp_ne eG_44 (fun q => absurd q.1 (Nat.ne_of_beq_eq_false rfl))).trans (rfl))))))
      have b_63 : 0 ≤ (G_52.1 66 4).toInt ∧ (G_52.1 66 4).toInt ≤ 1600 := bd_66_4 hB_G_52
      exact W.vret hx hb hr (fun t ht _ => ⟨⟨G_52, rfl, (Q_readWalker_mk ⟨hB_G_52, hF, ((by first | exact ⟨(by first | exact ok_972 d_1 b_11.2 d_4 g_23 d_8 g_37 d_12 g_49 d_16 b_63.1 | omega), ⟨(fun h9 => by have q0_ := d_2 (by first | (clear hnf hw4 hN9 b_1 d_2 d_3 b_10 d_5 d_6 d_7 b_20 g_21 g_24 d_9 d_10 d_11 u_32 b_34 g_35 g_38 d_13 d_14 d_15 u_46 g_50 f_56 d_17 c_57 b_58 c_59 g_61 g_62; omega) | omega); have q1_ := d_5 (by first | (clear hnf hw4 hN9 b_1 d_2 d_3 b_10 d_5 d_6 d_7 b_20 g_21 g_24 d_9 d_10 d_11 u_32 b_34 g_35 g_38 d_13 d_14 d_15 u_46 g_50 f_56 d_17 c_57 b_58 c_59 g_61 g_62; omega) | omega); have q2_ := d_9 (by first | (clear hnf hw4 hN9 b_1 d_2 d_3 b_10 d_5 d_6 d_7 b_20 g_21 g_24 d_9 d_10 d_11 u_32 b_34 g_35 g_38 d_13 d_14 d_15 u_46 g_50 f_56 d_17 c_57 b_58 c_59 g_61 g_62; omega) | omega); have r1_ : (G_13.1 66 6).toInt = (G.1 66 6).toInt ∨ (G_13.1 66 6).toInt ≤ 3 := (by (first | (clear hnf hw4 hN9 b_1 d_1 d_2 d_3 b_10 b_11 d_4 d_5 d_6 d_7 b_20 g_21 b_22 g_23 d_8 d_9 d_10 d_11 u_32 b_34 g_35 b_36 g_37 d_12 d_13 d_14 d_15 u_46 b_48 g_49 f_56 d_16 d_17 c_57 b_58 c_59 g_61 g_62 b_63; omega) | omega)); clear q1_ q0_; have q3_ := d_13 (by first | (clear hnf hw4 hN9 b_1 d_2 d_3 b_10 d_5 d_6 d_7 b_20 g_21 g_24 d_9 d_10 d_11 u_32 b_34 g_35 g_38 d_13 d_14 d_15 u_46 g_50 f_56 d_17 c_57 b_58 c_59 g_61 g_62; omega) | omega); have r2_ : (G_26.1 66 6).toInt = (G.1 66 6).toInt ∨ (G_26.1 66 6).toInt ≤ 3 := (by (first | (clear hnf hw4 hN9 b_1 d_1 d_2 d_3 b_10 b_11 d_4 d_5 d_6 d_7 b_20 g_21 b_22 g_23 d_8 d_9 d_10 d_11 u_32 b_34 g_35 b_36 g_37 d_12 d_13 d_14 d_15 u_46 b_48 g_49 f_56 d_16 d_17 c_57 b_58 c_59 g_61 g_62 b_63; omega) | omega)); clear q2_ r1_; have q4_ := d_17 (by first | (clear hnf hw4 hN9 b_1 d_2 d_3 b_10 d_5 d_6 d_7 b_20 g_21 g_24 d_9 d_10 d_11 u_32 b_34 g_35 g_38 d_13 d_14 d_15 u_46 g_50 f_56 d_17 c_57 b_58 c_59 g_61 g_62; omega) | omega); have r3_ : (G_40.1 66 6).toInt = (G.1 66 6).toInt ∨ (G_40.1 66 6).toInt ≤ 3 := (by (first | (clear hnf hw4 hN9 b_1 d_1 d_2 d_3 b_10 b_11 d_4 d_5 d_6 d_7 b_20 g_21 b_22 g_23 d_8 d_9 d_10 d_11 u_32 b_34 g_35 b_36 g_37 d_12 d_13 d_14 d_15 u_46 b_48 g_49 f_56 d_16 d_17 c_57 b_58 c_59 g_61 g_62 b_63; omega) | omega)); clear q3_ r2_; (first | (clear hnf hw4 hN9 b_1 d_1 d_2 d_3 b_10 b_11 d_4 d_5 d_6 d_7 b_20 g_21 b_22 g_23 d_8 d_9 d_10 d_11 u_32 b_34 g_35 b_36 g_37 d_12 d_13 d_14 d_15 u_46 b_48 g_49 f_56 d_16 d_17 c_57 b_58 c_59 g_61 g_62 b_63; omega) | omega)), (fun h9 => ((by first | (clear hnf hw4 hN9 b_1 d_1 d_2 d_3 b_10 b_11 d_4 d_5 d_6 d_7 b_20 b_22 g_23 g_24 d_8 d_9 b_36 g_37 g_38 d_12 d_13 d_15 b_48 g_49 g_50 f_56 d_16 d_17 c_57 b_63; omega) | omega)))⟩⟩ | omega)), ⟨G_4, hX_7, ⟨r_12, G_13, hX_16, ⟨G_17, hB_G_17, (Fr.put (rs := [82]) (fs := []) Fr.rf eG_17 (Or.inl (by decide))), rw_ast eG_17, ⟨r_25, G_26, hX_29, ⟨y_31, ey_31.trans (congrFun (rw_ast eG_30) _), ⟨G_30, hB_G_30, (Fr.put (rs := [83]) (fs := []) Fr.rf eG_30 (Or.inl (by decide))), rw_ast eG_30, ⟨r_39, G_40, hX_43, ⟨y_45, ey_45.trans (congrFun (rw_ast eG_44) _), ⟨G_47, hB_G_47, (Fr.put (rs := [84, 85]) (fs := []) (Fr.put (rs := [84, 85]) (fs := []) Fr.rf eG_44 (Or.inl (by decide))) eG_47 (Or.inl (by decide))), (rw_put eG_47 (by decide)).trans (rw_ast eG_44), (rw_ast eG_47).trans (congrArg (fun q => upd q ((G.1 66 46).toNatClampNeg) y_45) (rw_put eG_44 (by decide))), ⟨r_51, G_52, hX_55, (Or.inl ⟨c_57, (Or.inr ⟨c_59, rfl⟩)⟩)⟩⟩⟩⟩⟩⟩⟩⟩⟩⟩⟩), wd_t ht hW⟩, hS.F ht⟩) hS.2.2 dX12_readWalker_126
    · have c_59 : (G_40.1 66 2).toInt = 0 := xI_eq rfl rfl c_59
      have d_18 := d_15 c_59
      refine lv_aload_n hx hb dX12_readWalker_116 rfl (lv_at hl 1 rfl) ?_
      refine lv_dup hx hb dX12_readWalker_117 rfl ?_
      refine S_getI (v := (G.1 66 46)) (C := RX12) (T := TX12) (N := 89) hx hb hg iX12 hown hK hW kd_66 rfl 46 (lt_b rfl) (hg (Cond.fieldLink RX12 379 "SlabWalkModel" "nWalkers" "I") m1360) (fun _ h9 => h9) rfl ((hq_53.i9 66 46 rfl rfl).trans ((gp_ne eG_47 (fun q => absurd q.1 (Nat.ne_of_beq_eq_false rfl))).trans ((gp_ne eG_44 (fun q => absurd q.1 (Nat.ne_of_beq_eq_false rfl))).trans ((hq_41.i9 66 46 rfl rfl).trans ((gp_ne eG_30 (fun q => absurd q.1 (Nat.ne_of_beq_eq_false rfl))).trans ((hq_27.i9 66 46 rfl rfl).trans ((gp_ne eG_17 (fun q => absurd q.1 (Nat.ne_of_beq_eq_false rfl))).trans ((hq_14.i9 66 46 rfl rfl).trans ((hq_5.i9 66 46 rfl rfl).trans (rfl)))))))))) dX12_readWalker_118 ?_
      refine ic_1 hx hb dX12_readWalker_121 ?_
      refine lv_iadd hx hb dX12_readWalker_122 ?_
      refine lv_topi (fun y_64 ey_64 => ?_)
      have ty_64 : y_64.toInt = (G.1 66 46).toInt + 1 := xI_add rfl rfl ey_64 ((by first | exact ok_21 b_1.1 | omega)) ((by first | exact ok_594 hw4 | omega))
      refine S_putI (ty := .int) (C := RX12) (T := TX12) (N := 89) hx hb hg iX12 tyX12 tyX12_ok nmX12 hown hK hW hS kd_66 rfl 46 (lt_b rfl) (hg (Cond.fieldLink RX12 379 "SlabWalkModel" "nWalkers" "I") m1360) (fun _ h9 => h9) rfl (by decide +kernel) rfl rfl rfl dX12_readWalker_123 (fun G_65 H locs eG_65 hW hS => ?_)
      have hB_G_65 : Bd G_65 := hB_G_52.put (V := y_64.toInt) (lo := 0) (hi := 4) eG_65 rfl rfl rfl ((by first | exact ok_23 b_1.1 ty_64 | omega)) ((by first | exact ok_973 hw4 ty_64 | omega)) (hB_G_52.2.put eG_65 rfl)
      have hF := hF.put eG_65 (Or.inr (by decide))
      have u_66 : gN G_65 = 1 := walk_gh (G := G) (x := (G.1 66 46)) hN9 (by first | (clear hnf hN9 d_1 d_2 d_3 b_10 b_11 d_4 d_5 b_22 g_23 g_24 d_8 d_9 b_36 g_37 g_38 d_12 d_13 d_15 b_48 g_49 g_50 f_56 d_16 d_17 c_57; omega) | omega) (by first | (clear hnf hN9 d_1 d_2 d_3 b_10 b_11 d_4 d_5 b_22 g_23 g_24 d_8 d_9 b_36 g_37 g_38 d_12 d_13 d_15 b_48 g_49 g_50 f_56 d_16 d_17 c_57; omega) | omega) (gp_eq eG_65) (by first | (clear hnf hN9 d_1 d_2 d_3 b_10 b_11 d_4 d_5 b_22 g_23 g_24 d_8 d_9 b_36 g_37 g_38 d_12 d_13 d_15 b_48 g_49 g_50 f_56 d_16 d_17 c_57; omega) | omega) (fun j hj => ((gp_ne eG_65 (fun q => absurd q.1 (Nat.ne_of_beq_eq_false rfl))).trans ((hq_53.ri9 82 rfl j).trans ((gp_ne eG_47 (fun q => absurd q.1 (Nat.ne_of_beq_eq_false rfl))).trans ((gp_ne eG_44 (fun q => absurd q.1 (Nat.ne_of_beq_eq_false rfl))).trans ((hq_41.ri9 82 rfl j).trans ((gp_ne eG_30 (fun q => absurd q.1 (Nat.ne_of_beq_eq_false rfl))).trans ((hq_27.ri9 82 rfl j).trans ((gp_ne eG_17 (fun q => hj q.2)).trans ((hq_14.ri9 82 rfl j).trans (hq_5.ri9 82 rfl j))))))))))) (fun j hj => ((gp_ne eG_65 (fun q => absurd q.1 (Nat.ne_of_beq_eq_false rfl))).trans ((hq_53.ri9 83 rfl j).trans ((gp_ne eG_47 (fun q => absurd q.1 (Nat.ne_of_beq_eq_false rfl))).trans ((gp_ne eG_44 (fun q => absurd q.1 (Nat.ne_of_beq_eq_false rfl))).trans ((hq_41.ri9 83 rfl j).trans ((gp_ne eG_30 (fun q => hj q.2)).trans ((hq_27.ri9 83 rfl j).trans ((gp_ne eG_17 (fun q => absurd q.1 (Nat.ne_of_beq_eq_false rfl))).trans ((hq_14.ri9 83 rfl j).trans (hq_5.ri9 83 rfl j))))))))))) (fun j hj => ((gp_ne eG_65 (fun q => absurd q.1 (Nat.ne_of_beq_eq_false rfl))).trans ((hq_53.ri9 84 rfl j).trans ((gp_ne eG_47 (fun q => absurd q.1 (Nat.ne_of_beq_eq_false rfl))).trans ((gp_ne eG_44 (fun q => hj q.2)).trans ((hq_41.ri9 84 rfl j).trans ((gp_ne eG_30 (fun q => absurd q.1 (Nat.ne_of_beq_eq_false rfl))).trans ((hq_27.ri9 84 rfl j).trans ((gp_ne eG_17 (fun q => absurd q.1 (Nat.ne_of_beq_eq_false rfl))).trans ((hq_14.ri9 84 rfl j).trans (hq_5.ri9 84 rfl j))))))))))) (fun j hj => ((gp_ne eG_65 (fun q => absurd q.1 (Nat.ne_of_beq_eq_false rfl))).trans ((hq_53.ri9 85 rfl j).trans ((gp_ne eG_47 (fun q => hj q.2)).trans ((gp_ne eG_44 (fun q => absurd q.1 (Nat.ne_of_beq_eq_false rfl))).trans ((hq_41.ri9 85 rfl j).trans ((gp_ne eG_30 (fun q => absurd q.1 (Nat.ne_of_beq_eq_false rfl))).trans ((hq_27.ri9 85 rfl j).trans ((gp_ne eG_17 (fun q => absurd q.1 (Nat.ne_of_beq_eq_false rfl))).trans ((hq_14.ri9 85 rfl j).trans (hq_5.ri9 85 rfl j))))))))))) ((gp_ne eG_65 (fun q => absurd q.1 (Nat.ne_of_beq_eq_false rfl))).trans ((hq_53.ri9 82 rfl ((G.1 66 46).toNatClampNeg)).trans ((gp_ne eG_47 (fun q => absurd q.1 (Nat.ne_of_beq_eq_false rfl))).trans ((gp_ne eG_44 (fun q => absurd q.1 (Nat.ne_of_beq_eq_false rfl))).trans ((hq_41.ri9 82 rfl ((G.1 66 46).toNatClampNeg)).trans ((gp_ne eG_30 (fun q => absurd q.1 (Nat.ne_of_beq_eq_false rfl))).trans ((hq_27.ri9 82 rfl ((G.1 66 46).toNatClampNeg)).trans (gp_eq eG_17)))))))) ((gp_ne eG_65 (fun q => absurd q.1 (Nat.ne_of_beq_eq_false rfl))).trans ((hq_53.ri9 83 rfl ((G.1 66 46).toNatClampNeg)).trans ((gp_ne eG_47 (fun q => absurd q.1 (Nat.ne_of_beq_eq_false rfl))).trans ((gp_ne eG_44 (fun q => absurd q.1 (Nat.ne_of_beq_eq_false rfl))).trans ((hq_41.ri9 83 rfl ((G.1 66 46).toNatClampNeg)).trans (ey_31.symm)))))) ((gp_ne eG_65 (fun q => absurd q.1 (Nat.ne_of_beq_eq_false rfl))).trans ((hq_53.ri9 84 rfl ((G.1 66 46).toNatClampNeg)).trans ((gp_ne eG_47 (fun q => absurd q.1 (Nat.ne_of_beq_eq_false rfl))).trans (ey_45.symm)))) ((gp_ne eG_65 (fun q => absurd q.1 (Nat.ne_of_beq_eq_false rfl))).trans ((hq_53.ri9 85 rfl ((G.1 66 46).toNatClampNeg)).trans (gp_eq eG_47))) (f := r_12) (l := y_31) (m := y_45) (p := y_45) ⟨by omega, by omega, by omega, by omega, by omega, by omega, by omega⟩
      have g_67 : (G_65.1 66 2).toInt = (G_40.1 66 2).toInt := (congrArg Int32.toInt (show G_65.1 66 2 = (G_40.1 66 2) from ((gp_ne eG_65 (by decide)).trans ((hq_53.i9 66 2 rfl rfl).trans ((gp_ne eG_47 (fun q => absurd q.1 (Nat.ne_of_beq_eq_false rfl))).trans ((gp_ne eG_44 (fun q => absurd q.1 (Nat.ne_of_beq_eq_false rfl))).trans (rfl)))))))
      have b_68 : 0 ≤ (G_52.1 66 4).toInt ∧ (G_52.1 66 4).toInt ≤ 1600 := bd_66_4 hB_G_52
      have g_69 : (G_65.1 66 4).toInt = (G_52.1 66 4).toInt := (congrArg Int32.toInt (show G_65.1 66 4 = (G_52.1 66 4) from (gp_ne eG_65 (by decide))))
      have g_70 : (G_65.1 66 6).toInt = (G_52.1 66 6).toInt := (congrArg Int32.toInt (show G_65.1 66 6 = (G_52.1 66 6) from (gp_ne eG_65 (by decide))))
      exact W.vret hx hb hr (fun t ht _ => ⟨⟨G_65, rfl, (Q_readWalker_mk ⟨hB_G_65, hF, ((by first | exact ⟨(by first | exact ok_974 d_1 b_11.2 d_4 g_23 d_8 g_37 d_12 g_49 d_16 b_68.1 g_69 | omega), ⟨(fun h9 => by have q0_ := d_2 (by first | (clear hnf hw4 hN9 b_1 d_2 d_3 b_10 d_5 d_6 d_7 b_20 g_21 g_24 d_9 d_10 d_11 u_32 b_34 g_35 g_38 d_13 d_14 d_15 u_46 g_50 f_56 d_17 c_57 b_58 c_59 d_18 ty_64 u_66 g_67 g_70; omega) | omega); have q1_ := d_5 (by first | (clear hnf hw4 hN9 b_1 d_2 d_3 b_10 d_5 d_6 d_7 b_20 g_21 g_24 d_9 d_10 d_11 u_32 b_34 g_35 g_38 d_13 d_14 d_15 u_46 g_50 f_56 d_17 c_57 b_58 c_59 d_18 ty_64 u_66 g_67 g_70; omega) | omega); have q2_ := d_9 (by first | (clear hnf hw4 hN9 b_1 d_2 d_3 b_10 d_5 d_6 d_7 b_20 g_21 g_24 d_9 d_10 d_11 u_32 b_34 g_35 g_38 d_13 d_14 d_15 u_46 g_50 f_56 d_17 c_57 b_58 c_59 d_18 ty_64 u_66 g_67 g_70; omega) | omega); have r1_ : (G_13.1 66 6).toInt = (G.1 66 6).toInt ∨ (G_13.1 66 6).toInt ≤ 3 := (by (first | (clear hnf hw4 hN9 b_1 d_1 d_2 d_3 b_10 b_11 d_4 d_5 d_6 d_7 b_20 g_21 b_22 g_23 d_8 d_9 d_10 d_11 u_32 b_34 g_35 b_36 g_37 d_12 d_13 d_14 d_15 u_46 b_48 g_49 f_56 d_16 d_17 c_57 b_58 c_59 d_18 ty_64 u_66 g_67 b_68 g_69; omega) | omega)); clear q1_ q0_; have q3_ := d_13 (by first | (clear hnf hw4 hN9 b_1 d_2 d_3 b_10 d_5 d_6 d_7 b_20 g_21 g_24 d_9 d_10 d_11 u_32 b_34 g_35 g_38 d_13 d_14 d_15 u_46 g_50 f_56 d_17 c_57 b_58 c_59 d_18 ty_64 u_66 g_67 g_70; omega) | omega); have r2_ : (G_26.1 66 6).toInt = (G.1 66 6).toInt ∨ (G_26.1 66 6).toInt ≤ 3 := (by (first | (clear hnf hw4 hN9 b_1 d_1 d_2 d_3 b_10 b_11 d_4 d_5 d_6 d_7 b_20 g_21 b_22 g_23 d_8 d_9 d_10 d_11 u_32 b_34 g_35 b_36 g_37 d_12 d_13 d_14 d_15 u_46 b_48 g_49 f_56 d_16 d_17 c_57 b_58 c_59 d_18 ty_64 u_66 g_67 b_68 g_69; omega) | omega)); clear q2_ r1_; have q4_ := d_17 (by first | (clear hnf hw4 hN9 b_1 d_2 d_3 b_10 d_5 d_6 d_7 b_20 g_21 g_24 d_9 d_10 d_11 u_32 b_34 g_35 g_38 d_13 d_14 d_15 u_46 g_50 f_56 d_17 c_57 b_58 c_59 d_18 ty_64 u_66 g_67 g_70; omega) | omega); have r3_ : (G_40.1 66 6).toInt = (G.1 66 6).toInt ∨ (G_40.1 66 6).toInt ≤ 3 := (by (first | (clear hnf hw4 hN9 b_1 d_1 d_2 d_3 b_10 b_11 d_4 d_5 d_6 d_7 b_20 g_21 b_22 g_23 d_8 d_9 d_10 d_11 u_32 b_34 g_35 b_36 g_37 d_12 d_13 d_14 d_15 u_46 b_48 g_49 f_56 d_16 d_17 c_57 b_58 c_59 d_18 ty_64 u_66 g_67 b_68 g_69; omega) | omega)); clear q3_ r2_; (first | (clear hnf hw4 hN9 b_1 d_1 d_2 d_3 b_10 b_11 d_4 d_5 d_6 d_7 b_20 g_21 b_22 g_23 d_8 d_9 d_10 d_11 u_32 b_34 g_35 b_36 g_37 d_12 d_13 d_14 d_15 u_46 b_48 g_49 f_56 d_16 d_17 c_57 b_58 c_59 d_18 ty_64 u_66 g_67 b_68 g_69; omega) | omega)), (fun h9 => (by first | exact u_66 | omega))⟩⟩ | omega)), ⟨G_4, hX_7, ⟨r_12, G_13, hX_16, ⟨G_17, hB_G_17, (Fr.put (rs := [82]) (fs := []) Fr.rf eG_17 (Or.inl (by decide))), rw_ast eG_17, ⟨r_25, G_26, hX_29, ⟨y_31, ey_31.trans (congrFun (rw_ast eG_30) _), ⟨G_30, hB_G_30, (Fr.put (rs := [83]) (fs := []) Fr.rf eG_30 (Or.inl (by decide))), rw_ast eG_30, ⟨r_39, G_40, hX_43, ⟨y_45, ey_45.trans (congrFun (rw_ast eG_44) _), ⟨G_47, hB_G_47, (Fr.put (rs := [84, 85]) (fs := []) (Fr.put (rs := [84, 85]) (fs := []) Fr.rf eG_44 (Or.inl (by decide))) eG_47 (Or.inl (by decide))), (rw_put eG_47 (by decide)).trans (rw_ast eG_44), (rw_ast eG_47).trans (congrArg (fun q => upd q ((G.1 66 46).toNatClampNeg) y_45) (rw_put eG_44 (by decide))), ⟨r_51, G_52, hX_55, (Or.inl ⟨c_57, (Or.inl ⟨c_59, ⟨y_64, ty_64, ⟨(Fr.put (rs := []) (fs := [(66, 46)]) Fr.rf eG_65 (Or.inr (by decide))), (gp_eq eG_65)⟩⟩⟩)⟩)⟩⟩⟩⟩⟩⟩⟩⟩⟩⟩⟩), wd_t ht hW⟩, hS.F ht⟩) hS.2.2 dX12_readWalker_126
  · have c_57 : r_51.toInt ≠ 0 := xI_ne rfl rfl c_57
    refine lv_aload_n hx hb dX12_readWalker_89 rfl (lv_at hl 1 rfl) ?_
    refine S_getR (n := 85) (C := RX12) (T := TX12) (N := 89) hx hb hg iX12 hown hK hW kd_66 rfl 33 (lt_b rfl) (hg (Cond.fieldLink RX12 69 "SlabWalkModel" "nLeap" "[I") m1347) (fun _ h9 => h9) rfl dX12_readWalker_90 ?_
    refine lv_iload_n hx hb dX12_readWalker_93 rfl (lv_at hl 0 rfl) ?_
    refine lv_aload_n hx hb dX12_readWalker_94 rfl (lv_at hl 1 rfl) ?_
    refine lv_aload_n hx hb dX12_readWalker_95 rfl (lv_at hl 1 rfl) ?_
    refine S_getR (n := 84) (C := RX12) (T := TX12) (N := 89) hx hb hg iX12 hown hK hW kd_66 rfl 32 (lt_b rfl) (hg (Cond.fieldLink RX12 66 "SlabWalkModel" "nMost" "[I") m1346) (fun _ h9 => h9) rfl dX12_readWalker_96 ?_
    refine lv_iload_n hx hb dX12_readWalker_99 rfl (lv_at hl 0 rfl) ?_
    refine S_iald hx hb hK hW kd_84 (vin ((by first | exact b_1.1 | omega)) ((by first | exact ok_971 hw4 | omega))) dX12_readWalker_100 (fun y_71 ey_71 => ?_)
    have u_72 : y_71.toInt = y_45.toInt := congrArg Int32.toInt (ey_71.trans (((hq_53.ri9 84 rfl ((G.1 66 46).toNatClampNeg)).trans ((gp_ne eG_47 (fun q => absurd q.1 (Nat.ne_of_beq_eq_false rfl))).trans (ey_45.symm)))))
    refine ic_1 hx hb dX12_readWalker_101 ?_
    refine lv_iadd hx hb dX12_readWalker_102 ?_
    refine lv_topi (fun y_73 ey_73 => ?_)
    have u_74 := xI_addC ey_73
    refine lv_bipush (v := 99) hx hb dX12_readWalker_103 (by decide) ?_
    have qc_75 : (99 : Int32).toInt = 99 := rfl
    have b_76 : 0 ≤ (G_40.1 66 2).toInt ∧ (G_40.1 66 2).toInt ≤ 4 := bd_66_2 hB_G_40
    have g_77 : (G_52.1 66 2).toInt = (G_40.1 66 2).toInt := (congrArg Int32.toInt (show G_52.1 66 2 = (G_40.1 66 2) from ((hq_53.i9 66 2 rfl rfl).trans ((gp_ne eG_47 (fun q => absurd q.1 (Nat.ne_of_beq_eq_false rfl))).trans (gp_ne eG_44 (fun q => absurd q.1 (Nat.ne_of_beq_eq_false rfl)))))))
    have b_78 : 0 ≤ (G_52.1 66 4).toInt ∧ (G_52.1 66 4).toInt ≤ 1600 := bd_66_4 hB_G_52
    refine S_calli (va_runV (As := [.int y_73, .int 99]) (rest := [.int (G.1 66 46), .ref (a 85)]) ⟨hx, hb, hml, hown, hts⟩ (n_told l D k A a z G_52 y_73 99 ) (cwV 2 hts (gd_V hgd m1682 m1684 m62 m131 m1685) rfl rfl rfl hd_X12_toldNumber ⟨Nat.le_of_ble_eq_true rfl, Nat.le_of_ble_eq_true rfl⟩) (pre_W hW hB_G_52 hK hZ hS kd_66 rfl) rfl rfl hl.1 rfl (lv_room (Nat.le_of_ble_eq_true rfl)) dX12_readWalker_105 ⟨Nat.le_of_ble_eq_true rfl, Nat.le_of_ble_eq_true rfl⟩) hS (fun r_79 G_80 H locs hpo hW hS => ?_)
    have hX_83 : Q_told y_73 99 G_52 r_79 G_80 := hpo
    obtain ⟨hB_G_80, hq_81, ⟨d_19, d_20, d_21, d_22⟩, -⟩ := hpo
    have hF := hF.call9 hq_81 rfl rfl
    refine S_iast hx hb hK hW hS kd_85 (vin ((by first | exact b_1.1 | omega)) ((by first | exact ok_971 hw4 | omega))) dX12_readWalker_108 (fun G_84 H locs eG_84 hW hS => ?_)
    have hB_G_84 : Bd G_84 := hB_G_80.put (lo := (-2147483648)) (hi := 2147483647) eG_84 rfl rfl rfl (tI_rng _).1 (tI_rng _).2 (hB_G_80.2.put eG_84 rfl)
    have hF := hF.put eG_84 (Or.inl (by decide))
    refine lv_aload_n hx hb dX12_readWalker_109 rfl (lv_at hl 1 rfl) ?_
    have b_85 : 0 ≤ (G_80.1 66 2).toInt ∧ (G_80.1 66 2).toInt ≤ 4 := bd_66_2 hB_G_80
    refine S_getI (v := (G_80.1 66 2)) (C := RX12) (T := TX12) (N := 89) hx hb hg iX12 hown hK hW kd_66 rfl 2 (lt_b rfl) (hg (Cond.fieldLink RX12 218 "SlabWalkModel" "fault" "I") m1316) (fun _ h9 => h9) rfl (gp_ne eG_84 (fun q => absurd q.1 (Nat.ne_of_beq_eq_false rfl))) dX12_readWalker_110 ?_
    refine lv_if_ne (tgt := 126) hx hb dX12_readWalker_113 rfl (fun c_86 => ?_) (fun c_86 => ?_)
    · have c_86 : (G_80.1 66 2).toInt ≠ 0 := xI_ne rfl rfl c_86
      have g_87 : (G_84.1 66 2).toInt = (G_80.1 66 2).toInt := (congrArg Int32.toInt (show G_84.1 66 2 = (G_80.1 66 2) from ((gp_ne eG_84 (fun q => absurd q.1 (Nat.ne_of_beq_eq_false rfl))).trans (rfl))))
      have b_88 : 0 ≤ (G_80.1 66 4).toInt ∧ (G_80.1 66 4).toInt ≤ 1600 := bd_66_4 hB_G_80
      have g_89 : (G_84.1 66 4).toInt = (G_80.1 66 4).toInt := (congrArg Int32.toInt (show G_84.1 66 4 = (G_80.1 66 4) from (gp_ne eG_84 (fun q => absurd q.1 (Nat.ne_of_beq_eq_false rfl)))))
      have g_90 : (G_84.1 66 6).toInt = (G_80.1 66 6).toInt := (congrArg Int32.toInt (show G_84.1 66 6 = (G_80.1 66 6) from (gp_ne eG_84 (fun q => absurd q.1 (Nat.ne_of_beq_eq_false rfl)))))
      exact W.vret hx hb hr (fun t ht _ => ⟨⟨G_84, rfl, (Q_readWalker_mk ⟨hB_G_84, hF, ((by first | exact ⟨(by first | exact ok_975 d_1 b_11.2 d_4 g_23 d_8 g_37 d_12 g_49 d_16 d_19 b_88.1 g_89 | omega), ⟨(fun h9 => by have q0_ := d_2 (by first | (clear hnf hw4 hN9 b_1 d_2 d_3 b_10 d_5 d_6 d_7 b_20 g_21 g_24 d_9 d_10 d_11 u_32 b_34 g_35 g_38 d_13 d_14 d_15 u_46 g_50 f_56 d_17 c_57 u_72 u_74 b_76 g_77 d_20 d_21 d_22 b_85 c_86 g_87 g_90; omega) | omega); have q1_ := d_5 (by first | (clear hnf hw4 hN9 b_1 d_2 d_3 b_10 d_5 d_6 d_7 b_20 g_21 g_24 d_9 d_10 d_11 u_32 b_34 g_35 g_38 d_13 d_14 d_15 u_46 g_50 f_56 d_17 c_57 u_72 u_74 b_76 g_77 d_20 d_21 d_22 b_85 c_86 g_87 g_90; omega) | omega); have q2_ := d_9 (by first | (clear hnf hw4 hN9 b_1 d_2 d_3 b_10 d_5 d_6 d_7 b_20 g_21 g_24 d_9 d_10 d_11 u_32 b_34 g_35 g_38 d_13 d_14 d_15 u_46 g_50 f_56 d_17 c_57 u_72 u_74 b_76 g_77 d_20 d_21 d_22 b_85 c_86 g_87 g_90; omega) | omega); have r1_ : (G_13.1 66 6).toInt = (G.1 66 6).toInt ∨ (G_13.1 66 6).toInt ≤ 3 := (by (first | (clear hnf hw4 hN9 b_1 d_1 d_2 d_3 b_10 b_11 d_4 d_5 d_6 d_7 b_20 g_21 b_22 g_23 d_8 d_9 d_10 d_11 u_32 b_34 g_35 b_36 g_37 d_12 d_13 d_14 d_15 u_46 b_48 g_49 f_56 d_16 d_17 c_57 u_72 u_74 b_76 g_77 b_78 d_19 d_20 d_21 d_22 b_85 c_86 g_87 b_88 g_89; omega) | omega)); clear q1_ q0_; have q3_ := d_13 (by first | (clear hnf hw4 hN9 b_1 d_2 d_3 b_10 d_5 d_6 d_7 b_20 g_21 g_24 d_9 d_10 d_11 u_32 b_34 g_35 g_38 d_13 d_14 d_15 u_46 g_50 f_56 d_17 c_57 u_72 u_74 b_76 g_77 d_20 d_21 d_22 b_85 c_86 g_87 g_90; omega) | omega); have r2_ : (G_26.1 66 6).toInt = (G.1 66 6).toInt ∨ (G_26.1 66 6).toInt ≤ 3 := (by (first | (clear hnf hw4 hN9 b_1 d_1 d_2 d_3 b_10 b_11 d_4 d_5 d_6 d_7 b_20 g_21 b_22 g_23 d_8 d_9 d_10 d_11 u_32 b_34 g_35 b_36 g_37 d_12 d_13 d_14 d_15 u_46 b_48 g_49 f_56 d_16 d_17 c_57 u_72 u_74 b_76 g_77 b_78 d_19 d_20 d_21 d_22 b_85 c_86 g_87 b_88 g_89; omega) | omega)); clear q2_ r1_; have q4_ := d_17 (by first | (clear hnf hw4 hN9 b_1 d_2 d_3 b_10 d_5 d_6 d_7 b_20 g_21 g_24 d_9 d_10 d_11 u_32 b_34 g_35 g_38 d_13 d_14 d_15 u_46 g_50 f_56 d_17 c_57 u_72 u_74 b_76 g_77 d_20 d_21 d_22 b_85 c_86 g_87 g_90; omega) | omega); have r3_ : (G_40.1 66 6).toInt = (G.1 66 6).toInt ∨ (G_40.1 66 6).toInt ≤ 3 := (by (first | (clear hnf hw4 hN9 b_1 d_1 d_2 d_3 b_10 b_11 d_4 d_5 d_6 d_7 b_20 g_21 b_22 g_23 d_8 d_9 d_10 d_11 u_32 b_34 g_35 b_36 g_37 d_12 d_13 d_14 d_15 u_46 b_48 g_49 f_56 d_16 d_17 c_57 u_72 u_74 b_76 g_77 b_78 d_19 d_20 d_21 d_22 b_85 c_86 g_87 b_88 g_89; omega) | omega)); clear q3_ r2_; have q5_ := d_20 (by first | (clear hnf hw4 hN9 b_1 d_2 d_3 b_10 d_5 d_6 d_7 b_20 g_21 g_24 d_9 d_10 d_11 u_32 b_34 g_35 g_38 d_13 d_14 d_15 u_46 g_50 f_56 d_17 c_57 u_72 u_74 b_76 g_77 d_20 d_21 d_22 b_85 c_86 g_87 g_90; omega) | omega); have r4_ : (G_52.1 66 6).toInt = (G.1 66 6).toInt ∨ (G_52.1 66 6).toInt ≤ 3 := (by (first | (clear hnf hw4 hN9 b_1 d_1 d_2 d_3 b_10 b_11 d_4 d_5 d_6 d_7 b_20 g_21 b_22 g_23 d_8 d_9 d_10 d_11 u_32 b_34 g_35 b_36 g_37 d_12 d_13 d_14 d_15 u_46 b_48 g_49 f_56 d_16 d_17 c_57 u_72 u_74 b_76 g_77 b_78 d_19 d_20 d_21 d_22 b_85 c_86 g_87 b_88 g_89; omega) | omega)); clear q4_ r3_; (first | (clear hnf hw4 hN9 b_1 d_1 d_2 d_3 b_10 b_11 d_4 d_5 d_6 d_7 b_20 g_21 b_22 g_23 d_8 d_9 d_10 d_11 u_32 b_34 g_35 b_36 g_37 d_12 d_13 d_14 d_15 u_46 b_48 g_49 f_56 d_16 d_17 c_57 u_72 u_74 b_76 g_77 b_78 d_19 d_20 d_21 d_22 b_85 c_86 g_87 b_88 g_89; omega) | omega)), (fun h9 => ((by first | (clear hnf hw4 hN9 b_1 d_1 d_2 d_3 b_10 b_11 d_4 d_5 d_6 d_7 b_20 g_21 b_22 g_23 g_24 d_8 d_9 d_10 d_11 b_34 b_36 g_37 g_38 d_12 d_13 b_48 g_49 g_50 f_56 d_16 d_17 c_57 b_78 d_19 d_20 d_22 b_88 g_89 g_90; omega) | omega)))⟩⟩ | omega)), ⟨G_4, hX_7, ⟨r_12, G_13, hX_16, ⟨G_17, hB_G_17, (Fr.put (rs := [82]) (fs := []) Fr.rf eG_17 (Or.inl (by decide))), rw_ast eG_17, ⟨r_25, G_26, hX_29, ⟨y_31, ey_31.trans (congrFun (rw_ast eG_30) _), ⟨G_30, hB_G_30, (Fr.put (rs := [83]) (fs := []) Fr.rf eG_30 (Or.inl (by decide))), rw_ast eG_30, ⟨r_39, G_40, hX_43, ⟨y_45, ey_45.trans (congrFun (rw_ast eG_44) _), ⟨G_47, hB_G_47, (Fr.put (rs := [84, 85]) (fs := []) (Fr.put (rs := [84, 85]) (fs := []) Fr.rf eG_44 (Or.inl (by decide))) eG_47 (Or.inl (by decide))), (rw_put eG_47 (by decide)).trans (rw_ast eG_44), (rw_ast eG_47).trans (congrArg (fun q => upd q ((G.1 66 46).toNatClampNeg) y_45) (rw_put eG_44 (by decide))), ⟨r_51, G_52, hX_55, (Or.inr ⟨c_57, ⟨y_71, ey_71, ⟨y_73, ey_73, ⟨r_79, G_80, hX_83, (Or.inr ⟨c_86, ⟨(Fr.put (rs := [85]) (fs := []) Fr.rf eG_84 (Or.inl (by decide))), rw_ast eG_84⟩⟩)⟩⟩⟩⟩)⟩⟩⟩⟩⟩⟩⟩⟩⟩⟩⟩), wd_t ht hW⟩, hS.F ht⟩) hS.2.2 dX12_readWalker_126
    · have c_86 : (G_80.1 66 2).toInt = 0 := xI_eq rfl rfl c_86
      have d_23 := d_22 c_86
      refine lv_aload_n hx hb dX12_readWalker_116 rfl (lv_at hl 1 rfl) ?_
      refine lv_dup hx hb dX12_readWalker_117 rfl ?_
      refine S_getI (v := (G.1 66 46)) (C := RX12) (T := TX12) (N := 89) hx hb hg iX12 hown hK hW kd_66 rfl 46 (lt_b rfl) (hg (Cond.fieldLink RX12 379 "SlabWalkModel" "nWalkers" "I") m1360) (fun _ h9 => h9) rfl ((gp_ne eG_84 (fun q => absurd q.1 (Nat.ne_of_beq_eq_false rfl))).trans ((hq_81.i9 66 46 rfl rfl).trans ((hq_53.i9 66 46 rfl rfl).trans ((gp_ne eG_47 (fun q => absurd q.1 (Nat.ne_of_beq_eq_false rfl))).trans ((gp_ne eG_44 (fun q => absurd q.1 (Nat.ne_of_beq_eq_false rfl))).trans ((hq_41.i9 66 46 rfl rfl).trans ((gp_ne eG_30 (fun q => absurd q.1 (Nat.ne_of_beq_eq_false rfl))).trans ((hq_27.i9 66 46 rfl rfl).trans ((gp_ne eG_17 (fun q => absurd q.1 (Nat.ne_of_beq_eq_false rfl))).trans ((hq_14.i9 66 46 rfl rfl).trans ((hq_5.i9 66 46 rfl rfl).trans (rfl)))))))))))) dX12_readWalker_118 ?_
      refine ic_1 hx hb dX12_readWalker_121 ?_
      refine lv_iadd hx hb dX12_readWalker_122 ?_
      refine lv_topi (fun y_91 ey_91 => ?_)
      have ty_91 : y_91.toInt = (G.1 66 46).toInt + 1 := xI_add rfl rfl ey_91 ((by first | exact ok_21 b_1.1 | omega)) ((by first | exact ok_594 hw4 | omega))
      refine S_putI (ty := .int) (C := RX12) (T := TX12) (N := 89) hx hb hg iX12 tyX12 tyX12_ok nmX12 hown hK hW hS kd_66 rfl 46 (lt_b rfl) (hg (Cond.fieldLink RX12 379 "SlabWalkModel" "nWalkers" "I") m1360) (fun _ h9 => h9) rfl (by decide +kernel) rfl rfl rfl dX12_readWalker_123 (fun G_92 H locs eG_92 hW hS => ?_)
      have hB_G_92 : Bd G_92 := hB_G_84.put (V := y_91.toInt) (lo := 0) (hi := 4) eG_92 rfl rfl rfl ((by first | exact ok_23 b_1.1 ty_91 | omega)) ((by first | exact ok_973 hw4 ty_91 | omega)) (hB_G_84.2.put eG_92 rfl)
      have hF := hF.put eG_92 (Or.inr (by decide))
      have u_93 : gN G_92 = 1 := walk_gh (G := G) (x := (G.1 66 46)) hN9 (by first | (clear hnf hN9 d_1 d_2 d_3 b_10 b_11 d_4 d_5 b_22 g_23 g_24 d_8 d_9 b_36 g_37 g_38 d_12 d_13 b_48 g_49 g_50 f_56 d_16 d_17 c_57 b_78 d_19 d_20 d_22; omega) | omega) (by first | (clear hnf hN9 d_1 d_2 d_3 b_10 b_11 d_4 d_5 b_22 g_23 g_24 d_8 d_9 b_36 g_37 g_38 d_12 d_13 b_48 g_49 g_50 f_56 d_16 d_17 c_57 b_78 d_19 d_20 d_22; omega) | omega) (gp_eq eG_92) (by first | (clear hnf hN9 d_1 d_2 d_3 b_10 b_11 d_4 d_5 b_22 g_23 g_24 d_8 d_9 b_36 g_37 g_38 d_12 d_13 b_48 g_49 g_50 f_56 d_16 d_17 c_57 b_78 d_19 d_20 d_22; omega) | omega) (fun j hj => ((gp_ne eG_92 (fun q => absurd q.1 (Nat.ne_of_beq_eq_false rfl))).trans ((gp_ne eG_84 (fun q => absurd q.1 (Nat.ne_of_beq_eq_false rfl))).trans ((hq_81.ri9 82 rfl j).trans ((hq_53.ri9 82 rfl j).trans ((gp_ne eG_47 (fun q => absurd q.1 (Nat.ne_of_beq_eq_false rfl))).trans ((gp_ne eG_44 (fun q => absurd q.1 (Nat.ne_of_beq_eq_false rfl))).trans ((hq_41.ri9 82 rfl j).trans ((gp_ne eG_30 (fun q => absurd q.1 (Nat.ne_of_beq_eq_false rfl))).trans ((hq_27.ri9 82 rfl j).trans ((gp_ne eG_17 (fun q => hj q.2)).trans ((hq_14.ri9 82 rfl j).trans (hq_5.ri9 82 rfl j))))))))))))) (fun j hj => ((gp_ne eG_92 (fun q => absurd q.1 (Nat.ne_of_beq_eq_false rfl))).trans ((gp_ne eG_84 (fun q => absurd q.1 (Nat.ne_of_beq_eq_false rfl))).trans ((hq_81.ri9 83 rfl j).trans ((hq_53.ri9 83 rfl j).trans ((gp_ne eG_47 (fun q => absurd q.1 (Nat.ne_of_beq_eq_false rfl))).trans ((gp_ne eG_44 (fun q => absurd q.1 (Nat.ne_of_beq_eq_false rfl))).trans ((hq_41.ri9 83 rfl j).trans ((gp_ne eG_30 (fun q => hj q.2)).trans ((hq_27.ri9 83 rfl j).trans ((gp_ne eG_17 (fun q => absurd q.1 (Nat.ne_of_beq_eq_false rfl))).trans ((hq_14.ri9 83 rfl j).trans (hq_5.ri9 83 rfl j))))))))))))) (fun j hj => ((gp_ne eG_92 (fun q => absurd q.1 (Nat.ne_of_beq_eq_false rfl))).trans ((gp_ne eG_84 (fun q => absurd q.1 (Nat.ne_of_beq_eq_false rfl))).trans ((hq_81.ri9 84 rfl j).trans ((hq_53.ri9 84 rfl j).trans ((gp_ne eG_47 (fun q => absurd q.1 (Nat.ne_of_beq_eq_false rfl))).trans ((gp_ne eG_44 (fun q => hj q.2)).trans ((hq_41.ri9 84 rfl j).trans ((gp_ne eG_30 (fun q => absurd q.1 (Nat.ne_of_beq_eq_false rfl))).trans ((hq_27.ri9 84 rfl j).trans ((gp_ne eG_17 (fun q => absurd q.1 (Nat.ne_of_beq_eq_false rfl))).trans ((hq_14.ri9 84 rfl j).trans (hq_5.ri9 84 rfl j))))))))))))) (fun j hj => ((gp_ne eG_92 (fun q => absurd q.1 (Nat.ne_of_beq_eq_false rfl))).trans ((gp_ne eG_84 (fun q => hj q.2)).trans ((hq_81.ri9 85 rfl j).trans ((hq_53.ri9 85 rfl j).trans ((gp_ne eG_47 (fun q => hj q.2)).trans ((gp_ne eG_44 (fun q => absurd q.1 (Nat.ne_of_beq_eq_false rfl))).trans ((hq_41.ri9 85 rfl j).trans ((gp_ne eG_30 (fun q => absurd q.1 (Nat.ne_of_beq_eq_false rfl))).trans ((hq_27.ri9 85 rfl j).trans ((gp_ne eG_17 (fun q => absurd q.1 (Nat.ne_of_beq_eq_false rfl))).trans ((hq_14.ri9 85 rfl j).trans (hq_5.ri9 85 rfl j))))))))))))) ((gp_ne eG_92 (fun q => absurd q.1 (Nat.ne_of_beq_eq_false rfl))).trans ((gp_ne eG_84 (fun q => absurd q.1 (Nat.ne_of_beq_eq_false rfl))).trans ((hq_81.ri9 82 rfl ((G.1 66 46).toNatClampNeg)).trans ((hq_53.ri9 82 rfl ((G.1 66 46).toNatClampNeg)).trans ((gp_ne eG_47 (fun q => absurd q.1 (Nat.ne_of_beq_eq_false rfl))).trans ((gp_ne eG_44 (fun q => absurd q.1 (Nat.ne_of_beq_eq_false rfl))).trans ((hq_41.ri9 82 rfl ((G.1 66 46).toNatClampNeg)).trans ((gp_ne eG_30 (fun q => absurd q.1 (Nat.ne_of_beq_eq_false rfl))).trans ((hq_27.ri9 82 rfl ((G.1 66 46).toNatClampNeg)).trans (gp_eq eG_17)))))))))) ((gp_ne eG_92 (fun q => absurd q.1 (Nat.ne_of_beq_eq_false rfl))).trans ((gp_ne eG_84 (fun q => absurd q.1 (Nat.ne_of_beq_eq_false rfl))).trans ((hq_81.ri9 83 rfl ((G.1 66 46).toNatClampNeg)).trans ((hq_53.ri9 83 rfl ((G.1 66 46).toNatClampNeg)).trans ((gp_ne eG_47 (fun q => absurd q.1 (Nat.ne_of_beq_eq_false rfl))).trans ((gp_ne eG_44 (fun q => absurd q.1 (Nat.ne_of_beq_eq_false rfl))).trans ((hq_41.ri9 83 rfl ((G.1 66 46).toNatClampNeg)).trans (ey_31.symm)))))))) ((gp_ne eG_92 (fun q => absurd q.1 (Nat.ne_of_beq_eq_false rfl))).trans ((gp_ne eG_84 (fun q => absurd q.1 (Nat.ne_of_beq_eq_false rfl))).trans ((hq_81.ri9 84 rfl ((G.1 66 46).toNatClampNeg)).trans (ey_71.symm)))) ((gp_ne eG_92 (fun q => absurd q.1 (Nat.ne_of_beq_eq_false rfl))).trans (gp_eq eG_84)) (f := r_12) (l := y_31) (m := y_71) (p := r_79) ⟨by omega, by omega, by omega, by omega, by omega, by omega, by omega⟩
      have g_94 : (G_92.1 66 2).toInt = (G_80.1 66 2).toInt := (congrArg Int32.toInt (show G_92.1 66 2 = (G_80.1 66 2) from ((gp_ne eG_92 (by decide)).trans ((gp_ne eG_84 (fun q => absurd q.1 (Nat.ne_of_beq_eq_false rfl))).trans (rfl)))))
      have b_95 : 0 ≤ (G_80.1 66 4).toInt ∧ (G_80.1 66 4).toInt ≤ 1600 := bd_66_4 hB_G_80
      have g_96 : (G_92.1 66 4).toInt = (G_80.1 66 4).toInt := (congrArg Int32.toInt (show G_92.1 66 4 = (G_80.1 66 4) from ((gp_ne eG_92 (by decide)).trans (gp_ne eG_84 (fun q => absurd q.1 (Nat.ne_of_beq_eq_false rfl))))))
      have g_97 : (G_92.1 66 6).toInt = (G_80.1 66 6).toInt := (congrArg Int32.toInt (show G_92.1 66 6 = (G_80.1 66 6) from ((gp_ne eG_92 (by decide)).trans (gp_ne eG_84 (fun q => absurd q.1 (Nat.ne_of_beq_eq_false rfl))))))
      exact W.vret hx hb hr (fun t ht _ => ⟨⟨G_92, rfl, (Q_readWalker_mk ⟨hB_G_92, hF, ((by first | exact ⟨(by first | exact ok_975 d_1 b_11.2 d_4 g_23 d_8 g_37 d_12 g_49 d_16 d_19 b_95.1 g_96 | omega), ⟨(fun h9 => by have q0_ := d_2 (by first | (clear hnf hw4 hN9 b_1 d_2 d_3 b_10 d_5 d_6 d_7 b_20 g_21 g_24 d_9 d_10 d_11 u_32 b_34 g_35 g_38 d_13 d_14 d_15 u_46 g_50 f_56 d_17 c_57 u_72 u_74 b_76 g_77 d_20 d_21 d_22 b_85 c_86 d_23 ty_91 u_93 g_94 g_97; omega) | omega); have q1_ := d_5 (by first | (clear hnf hw4 hN9 b_1 d_2 d_3 b_10 d_5 d_6 d_7 b_20 g_21 g_24 d_9 d_10 d_11 u_32 b_34 g_35 g_38 d_13 d_14 d_15 u_46 g_50 f_56 d_17 c_57 u_72 u_74 b_76 g_77 d_20 d_21 d_22 b_85 c_86 d_23 ty_91 u_93 g_94 g_97; omega) | omega); have q2_ := d_9 (by first | (clear hnf hw4 hN9 b_1 d_2 d_3 b_10 d_5 d_6 d_7 b_20 g_21 g_24 d_9 d_10 d_11 u_32 b_34 g_35 g_38 d_13 d_14 d_15 u_46 g_50 f_56 d_17 c_57 u_72 u_74 b_76 g_77 d_20 d_21 d_22 b_85 c_86 d_23 ty_91 u_93 g_94 g_97; omega) | omega); have r1_ : (G_13.1 66 6).toInt = (G.1 66 6).toInt ∨ (G_13.1 66 6).toInt ≤ 3 := (by (first | (clear hnf hw4 hN9 b_1 d_1 d_2 d_3 b_10 b_11 d_4 d_5 d_6 d_7 b_20 g_21 b_22 g_23 d_8 d_9 d_10 d_11 u_32 b_34 g_35 b_36 g_37 d_12 d_13 d_14 d_15 u_46 b_48 g_49 f_56 d_16 d_17 c_57 u_72 u_74 b_76 g_77 b_78 d_19 d_20 d_21 d_22 b_85 c_86 d_23 ty_91 u_93 g_94 b_95 g_96; omega) | omega)); clear q1_ q0_; have q3_ := d_13 (by first | (clear hnf hw4 hN9 b_1 d_2 d_3 b_10 d_5 d_6 d_7 b_20 g_21 g_24 d_9 d_10 d_11 u_32 b_34 g_35 g_38 d_13 d_14 d_15 u_46 g_50 f_56 d_17 c_57 u_72 u_74 b_76 g_77 d_20 d_21 d_22 b_85 c_86 d_23 ty_91 u_93 g_94 g_97; omega) | omega); have r2_ : (G_26.1 66 6).toInt = (G.1 66 6).toInt ∨ (G_26.1 66 6).toInt ≤ 3 := (by (first | (clear hnf hw4 hN9 b_1 d_1 d_2 d_3 b_10 b_11 d_4 d_5 d_6 d_7 b_20 g_21 b_22 g_23 d_8 d_9 d_10 d_11 u_32 b_34 g_35 b_36 g_37 d_12 d_13 d_14 d_15 u_46 b_48 g_49 f_56 d_16 d_17 c_57 u_72 u_74 b_76 g_77 b_78 d_19 d_20 d_21 d_22 b_85 c_86 d_23 ty_91 u_93 g_94 b_95 g_96; omega) | omega)); clear q2_ r1_; have q4_ := d_17 (by first | (clear hnf hw4 hN9 b_1 d_2 d_3 b_10 d_5 d_6 d_7 b_20 g_21 g_24 d_9 d_10 d_11 u_32 b_34 g_35 g_38 d_13 d_14 d_15 u_46 g_50 f_56 d_17 c_57 u_72 u_74 b_76 g_77 d_20 d_21 d_22 b_85 c_86 d_23 ty_91 u_93 g_94 g_97; omega) | omega); have r3_ : (G_40.1 66 6).toInt = (G.1 66 6).toInt ∨ (G_40.1 66 6).toInt ≤ 3 := (by (first | (clear hnf hw4 hN9 b_1 d_1 d_2 d_3 b_10 b_11 d_4 d_5 d_6 d_7 b_20 g_21 b_22 g_23 d_8 d_9 d_10 d_11 u_32 b_34 g_35 b_36 g_37 d_12 d_13 d_14 d_15 u_46 b_48 g_49 f_56 d_16 d_17 c_57 u_72 u_74 b_76 g_77 b_78 d_19 d_20 d_21 d_22 b_85 c_86 d_23 ty_91 u_93 g_94 b_95 g_96; omega) | omega)); clear q3_ r2_; have q5_ := d_20 (by first | (clear hnf hw4 hN9 b_1 d_2 d_3 b_10 d_5 d_6 d_7 b_20 g_21 g_24 d_9 d_10 d_11 u_32 b_34 g_35 g_38 d_13 d_14 d_15 u_46 g_50 f_56 d_17 c_57 u_72 u_74 b_76 g_77 d_20 d_21 d_22 b_85 c_86 d_23 ty_91 u_93 g_94 g_97; omega) | omega); have r4_ : (G_52.1 66 6).toInt = (G.1 66 6).toInt ∨ (G_52.1 66 6).toInt ≤ 3 := (by (first | (clear hnf hw4 hN9 b_1 d_1 d_2 d_3 b_10 b_11 d_4 d_5 d_6 d_7 b_20 g_21 b_22 g_23 d_8 d_9 d_10 d_11 u_32 b_34 g_35 b_36 g_37 d_12 d_13 d_14 d_15 u_46 b_48 g_49 f_56 d_16 d_17 c_57 u_72 u_74 b_76 g_77 b_78 d_19 d_20 d_21 d_22 b_85 c_86 d_23 ty_91 u_93 g_94 b_95 g_96; omega) | omega)); clear q4_ r3_; (first | (clear hnf hw4 hN9 b_1 d_1 d_2 d_3 b_10 b_11 d_4 d_5 d_6 d_7 b_20 g_21 b_22 g_23 d_8 d_9 d_10 d_11 u_32 b_34 g_35 b_36 g_37 d_12 d_13 d_14 d_15 u_46 b_48 g_49 f_56 d_16 d_17 c_57 u_72 u_74 b_76 g_77 b_78 d_19 d_20 d_21 d_22 b_85 c_86 d_23 ty_91 u_93 g_94 b_95 g_96; omega) | omega)), (fun h9 => (by first | exact u_93 | omega))⟩⟩ | omega)), ⟨G_4, hX_7, ⟨r_12, G_13, hX_16, ⟨G_17, hB_G_17, (Fr.put (rs := [82]) (fs := []) Fr.rf eG_17 (Or.inl (by decide))), rw_ast eG_17, ⟨r_25, G_26, hX_29, ⟨y_31, ey_31.trans (congrFun (rw_ast eG_30) _), ⟨G_30, hB_G_30, (Fr.put (rs := [83]) (fs := []) Fr.rf eG_30 (Or.inl (by decide))), rw_ast eG_30, ⟨r_39, G_40, hX_43, ⟨y_45, ey_45.trans (congrFun (rw_ast eG_44) _), ⟨G_47, hB_G_47, (Fr.put (rs := [84, 85]) (fs := []) (Fr.put (rs := [84, 85]) (fs := []) Fr.rf eG_44 (Or.inl (by decide))) eG_47 (Or.inl (by decide))), (rw_put eG_47 (by decide)).trans (rw_ast eG_44), (rw_ast eG_47).trans (congrArg (fun q => upd q ((G.1 66 46).toNatClampNeg) y_45) (rw_put eG_44 (by decide))), ⟨r_51, G_52, hX_55, (Or.inr ⟨c_57, ⟨y_71, ey_71, ⟨y_73, ey_73, ⟨r_79, G_80, hX_83, (Or.inl ⟨c_86, ⟨y_91, ty_91, ⟨(Fr.put (rs := [85]) (fs := [(66, 46)]) (Fr.put (rs := [85]) (fs := [(66, 46)]) Fr.rf eG_84 (Or.inl (by decide))) eG_92 (Or.inr (by decide))), (gp_eq eG_92), (rw_put eG_92 (by decide)).trans (rw_ast eG_84)⟩⟩⟩)⟩⟩⟩⟩)⟩⟩⟩⟩⟩⟩⟩⟩⟩⟩⟩), wd_t ht hW⟩, hS.F ht⟩) hS.2.2 dX12_readWalker_126

theorem m54 : Cond.selects RX12 yX12_readStreet yX12_readStreet ∈ gd := gds_4 6 rfl
theorem m66 : Cond.selects RX12 yX12_readWalker yX12_readWalker ∈ gd := gds_5 2 rfl
theorem m68 : Cond.selects RX12 yX12_readRule yX12_readRule ∈ gd := gds_5 4 rfl
theorem m69 : Cond.selects RX12 yX12_formula yX12_formula ∈ gd := gds_5 5 rfl
theorem m81 : Cond.selects RX12 yX12_isOnce yX12_isOnce ∈ gd := gds_6 1 rfl
theorem m82 : Cond.selects RX12 yX12_readSlip yX12_readSlip ∈ gd := gds_6 2 rfl
theorem m1348 : Cond.fieldLink RX12 72 "SlabWalkModel" "nSlips" "[I" ∈ gd := gdc_6_2 0 rfl gw_fieldLink
theorem m1361 : Cond.fieldLink RX12 385 "SlabWalkModel" "nRules" "I" ∈ gd := gdc_6_2 13 rfl gw_fieldLink
theorem m1362 : Cond.fieldLink RX12 410 "SlabWalkModel" "nHand" "I" ∈ gd := gdc_6_2 14 rfl gw_fieldLink
theorem m1363 : Cond.fieldLink RX12 413 "SlabWalkModel" "nSlack" "I" ∈ gd := gdc_6_2 15 rfl gw_fieldLink
theorem m1364 : Cond.fieldLink RX12 416 "SlabWalkModel" "nDraw" "I" ∈ gd := gdc_6_3 0 rfl gw_fieldLink
theorem m1365 : Cond.fieldLink RX12 391 "SlabWalkModel" "nOnce" "I" ∈ gd := gdc_6_3 1 rfl gw_fieldLink
theorem m1628 : Cond.methodLink RX12 394 yX12_readStreet ∈ gd := gdc_7_4 8 rfl gw_methodLink
theorem m1630 : Cond.instanceMethod yX12_readStreet ∈ gd := gdc_7_4 10 rfl gw_instanceMethod
theorem m1631 : Cond.code yX12_readStreet cX12_readStreet 3 none ∈ gd := gdc_7_4 11 rfl gw_code
theorem m1698 : Cond.methodLink RX12 397 yX12_readWalker ∈ gd := gdc_7_8 14 rfl gw_methodLink
theorem m1700 : Cond.instanceMethod yX12_readWalker ∈ gd := gdc_7_9 0 rfl gw_instanceMethod
theorem m1701 : Cond.code yX12_readWalker cX12_readWalker 2 none ∈ gd := gdc_7_9 1 rfl gw_code
theorem m1706 : Cond.methodLink RX12 400 yX12_readRule ∈ gd := gdc_7_9 6 rfl gw_methodLink
theorem m1708 : Cond.instanceMethod yX12_readRule ∈ gd := gdc_7_9 8 rfl gw_instanceMethod
theorem m1709 : Cond.code yX12_readRule cX12_readRule 1 none ∈ gd := gdc_7_9 9 rfl gw_code
theorem m1710 : Cond.methodLink RX12 388 yX12_formula ∈ gd := gdc_7_9 10 rfl gw_methodLink
theorem m1712 : Cond.instanceMethod yX12_formula ∈ gd := gdc_7_9 12 rfl gw_instanceMethod
theorem m1713 : Cond.code yX12_formula cX12_formula 4 none ∈ gd := gdc_7_9 13 rfl gw_code
theorem m1761 : Cond.methodLink RX12 403 yX12_isOnce ∈ gd := gdc_7_12 13 rfl gw_methodLink
theorem m1763 : Cond.instanceMethod yX12_isOnce ∈ gd := gdc_7_12 15 rfl gw_instanceMethod
theorem m1764 : Cond.code yX12_isOnce cX12_isOnce 4 (some .boolean) ∈ gd := gdc_7_13 0 rfl gw_code
theorem m1765 : Cond.methodLink RX12 407 yX12_readSlip ∈ gd := gdc_7_13 1 rfl gw_methodLink
theorem m1767 : Cond.instanceMethod yX12_readSlip ∈ gd := gdc_7_13 3 rfl gw_instanceMethod
theorem m1768 : Cond.code yX12_readSlip cX12_readSlip 1 none ∈ gd := gdc_7_13 4 rfl gw_code
noncomputable def rbX12_isOnce_0 : List (Nat × List Nat) := [(0, [42]), (1, [31]), (2, [182, 1, 19]), (5, [153, 0, 16]), (8, [42]), (9, [180, 1, 135]), (12, [29]), (13, [126]), (14, [154, 0, 7]), (17, [4]), (18, [167, 0, 4]), (21, [3]), (22, [172])]
theorem rcX12_isOnce_0 : dgo (lb cX12_isOnce) 0 rbX12_isOnce_0 = true := by decide +kernel
theorem dX12_isOnce_0 : decode cX12_isOnce 0 = .ok (.aload_n 0, 1) := dk_42 (dw rcX12_isOnce_0 0 rfl)
theorem dX12_isOnce_1 : decode cX12_isOnce 1 = .ok (.lload_n 1, 1) := dk_31 (dw rcX12_isOnce_0 1 rfl)
theorem dX12_isOnce_2 : decode cX12_isOnce 2 = .ok (.invokevirtual 275, 3) := dk_182 (dw rcX12_isOnce_0 2 rfl) rfl
theorem dX12_isOnce_5 : decode cX12_isOnce 5 = .ok (.ifCond .eq 16, 3) := dk_153 (dw rcX12_isOnce_0 3 rfl) rfl
theorem dX12_isOnce_8 : decode cX12_isOnce 8 = .ok (.aload_n 0, 1) := dk_42 (dw rcX12_isOnce_0 4 rfl)
theorem dX12_isOnce_9 : decode cX12_isOnce 9 = .ok (.getfield 391, 3) := dk_180 (dw rcX12_isOnce_0 5 rfl) rfl
theorem dX12_isOnce_12 : decode cX12_isOnce 12 = .ok (.iload_n 3, 1) := dk_29 (dw rcX12_isOnce_0 6 rfl)
theorem dX12_isOnce_13 : decode cX12_isOnce 13 = .ok (.iand, 1) := dk_126 (dw rcX12_isOnce_0 7 rfl)
theorem dX12_isOnce_14 : decode cX12_isOnce 14 = .ok (.ifCond .ne 7, 3) := dk_154 (dw rcX12_isOnce_0 8 rfl) rfl
theorem dX12_isOnce_17 : decode cX12_isOnce 17 = .ok (.iconst 1, 1) := dk_4 (dw rcX12_isOnce_0 9 rfl)
theorem dX12_isOnce_18 : decode cX12_isOnce 18 = .ok (.goto 4, 3) := dk_167 (dw rcX12_isOnce_0 10 rfl) rfl
theorem dX12_isOnce_21 : decode cX12_isOnce 21 = .ok (.iconst 0, 1) := dk_3 (dw rcX12_isOnce_0 11 rfl)
theorem dX12_isOnce_22 : decode cX12_isOnce 22 = .ok (.ireturn, 1) := dk_172 (dw rcX12_isOnce_0 12 rfl)
noncomputable def rbX12_readLine_0 : List (Nat × List Nat) := [(0, [42]), (1, [20, 0, 221]), (4, [182, 1, 19]), (7, [153, 0, 18]), (10, [42]), (11, [180, 1, 103]), (14, [6]), (15, [162, 0, 10]), (18, [42]), (19, [182, 1, 138]), (22, [167, 0, 178]), (25, [42]), (26, [20, 0, 225]), (29, [182, 1, 19]), (32, [153, 0, 18]), (35, [42]), (36, [180, 1, 123]), (39, [7]), (40, [162, 0, 10]), (43, [42]), (44, [182, 1, 141]), (47, [167, 0, 153]), (50, [42]), (51, [20, 0, 235])]
theorem rcX12_readLine_0 : dgo (lb cX12_readLine) 0 rbX12_readLine_0 = true := by decide +kernel
theorem dX12_readLine_0 : decode cX12_readLine 0 = .ok (.aload_n 0, 1) := dk_42 (dw rcX12_readLine_0 0 rfl)
theorem dX12_readLine_1 : decode cX12_readLine 1 = .ok (.ldc2_w 221, 3) := dk_20 (dw rcX12_readLine_0 1 rfl) rfl
theorem dX12_readLine_4 : decode cX12_readLine 4 = .ok (.invokevirtual 275, 3) := dk_182 (dw rcX12_readLine_0 2 rfl) rfl
theorem dX12_readLine_7 : decode cX12_readLine 7 = .ok (.ifCond .eq 18, 3) := dk_153 (dw rcX12_readLine_0 3 rfl) rfl
theorem dX12_readLine_10 : decode cX12_readLine 10 = .ok (.aload_n 0, 1) := dk_42 (dw rcX12_readLine_0 4 rfl)
theorem dX12_readLine_11 : decode cX12_readLine 11 = .ok (.getfield 359, 3) := dk_180 (dw rcX12_readLine_0 5 rfl) rfl
theorem dX12_readLine_14 : decode cX12_readLine 14 = .ok (.iconst 3, 1) := dk_6 (dw rcX12_readLine_0 6 rfl)
theorem dX12_readLine_15 : decode cX12_readLine 15 = .ok (.if_icmp .ge 10, 3) := dk_162 (dw rcX12_readLine_0 7 rfl) rfl
theorem dX12_readLine_18 : decode cX12_readLine 18 = .ok (.aload_n 0, 1) := dk_42 (dw rcX12_readLine_0 8 rfl)
theorem dX12_readLine_19 : decode cX12_readLine 19 = .ok (.invokevirtual 394, 3) := dk_182 (dw rcX12_readLine_0 9 rfl) rfl
theorem dX12_readLine_22 : decode cX12_readLine 22 = .ok (.goto 178, 3) := dk_167 (dw rcX12_readLine_0 10 rfl) rfl
theorem dX12_readLine_25 : decode cX12_readLine 25 = .ok (.aload_n 0, 1) := dk_42 (dw rcX12_readLine_0 11 rfl)
theorem dX12_readLine_26 : decode cX12_readLine 26 = .ok (.ldc2_w 225, 3) := dk_20 (dw rcX12_readLine_0 12 rfl) rfl
theorem dX12_readLine_29 : decode cX12_readLine 29 = .ok (.invokevirtual 275, 3) := dk_182 (dw rcX12_readLine_0 13 rfl) rfl
theorem dX12_readLine_32 : decode cX12_readLine 32 = .ok (.ifCond .eq 18, 3) := dk_153 (dw rcX12_readLine_0 14 rfl) rfl
theorem dX12_readLine_35 : decode cX12_readLine 35 = .ok (.aload_n 0, 1) := dk_42 (dw rcX12_readLine_0 15 rfl)
theorem dX12_readLine_36 : decode cX12_readLine 36 = .ok (.getfield 379, 3) := dk_180 (dw rcX12_readLine_0 16 rfl) rfl
theorem dX12_readLine_39 : decode cX12_readLine 39 = .ok (.iconst 4, 1) := dk_7 (dw rcX12_readLine_0 17 rfl)
theorem dX12_readLine_40 : decode cX12_readLine 40 = .ok (.if_icmp .ge 10, 3) := dk_162 (dw rcX12_readLine_0 18 rfl) rfl
theorem dX12_readLine_43 : decode cX12_readLine 43 = .ok (.aload_n 0, 1) := dk_42 (dw rcX12_readLine_0 19 rfl)
theorem dX12_readLine_44 : decode cX12_readLine 44 = .ok (.invokevirtual 397, 3) := dk_182 (dw rcX12_readLine_0 20 rfl) rfl
theorem dX12_readLine_47 : decode cX12_readLine 47 = .ok (.goto 153, 3) := dk_167 (dw rcX12_readLine_0 21 rfl) rfl
theorem dX12_readLine_50 : decode cX12_readLine 50 = .ok (.aload_n 0, 1) := dk_42 (dw rcX12_readLine_0 22 rfl)
theorem dX12_readLine_51 : decode cX12_readLine 51 = .ok (.ldc2_w 235, 3) := dk_20 (dw rcX12_readLine_0 23 rfl) rfl
noncomputable def rbX12_readLine_54 : List (Nat × List Nat) := [(54, [182, 1, 19]), (57, [153, 0, 19]), (60, [42]), (61, [180, 1, 129]), (64, [16, 6]), (66, [162, 0, 10]), (69, [42]), (70, [182, 1, 144]), (73, [167, 0, 127]), (76, [42]), (77, [20, 0, 237]), (80, [4]), (81, [182, 1, 147]), (84, [153, 0, 20]), (87, [42]), (88, [89]), (89, [180, 1, 135]), (92, [4]), (93, [128]), (94, [181, 1, 135]), (97, [42]), (98, [182, 1, 151]), (101, [167, 0, 99]), (104, [42])]
theorem rcX12_readLine_54 : dgo (lb cX12_readLine) 0 rbX12_readLine_54 = true := by decide +kernel
theorem dX12_readLine_54 : decode cX12_readLine 54 = .ok (.invokevirtual 275, 3) := dk_182 (dw rcX12_readLine_54 0 rfl) rfl
theorem dX12_readLine_57 : decode cX12_readLine 57 = .ok (.ifCond .eq 19, 3) := dk_153 (dw rcX12_readLine_54 1 rfl) rfl
theorem dX12_readLine_60 : decode cX12_readLine 60 = .ok (.aload_n 0, 1) := dk_42 (dw rcX12_readLine_54 2 rfl)
theorem dX12_readLine_61 : decode cX12_readLine 61 = .ok (.getfield 385, 3) := dk_180 (dw rcX12_readLine_54 3 rfl) rfl
theorem dX12_readLine_64 : decode cX12_readLine 64 = .ok (.bipush 6, 2) := dk_16 (dw rcX12_readLine_54 4 rfl) rfl
theorem dX12_readLine_66 : decode cX12_readLine 66 = .ok (.if_icmp .ge 10, 3) := dk_162 (dw rcX12_readLine_54 5 rfl) rfl
theorem dX12_readLine_69 : decode cX12_readLine 69 = .ok (.aload_n 0, 1) := dk_42 (dw rcX12_readLine_54 6 rfl)
theorem dX12_readLine_70 : decode cX12_readLine 70 = .ok (.invokevirtual 400, 3) := dk_182 (dw rcX12_readLine_54 7 rfl) rfl
theorem dX12_readLine_73 : decode cX12_readLine 73 = .ok (.goto 127, 3) := dk_167 (dw rcX12_readLine_54 8 rfl) rfl
theorem dX12_readLine_76 : decode cX12_readLine 76 = .ok (.aload_n 0, 1) := dk_42 (dw rcX12_readLine_54 9 rfl)
theorem dX12_readLine_77 : decode cX12_readLine 77 = .ok (.ldc2_w 237, 3) := dk_20 (dw rcX12_readLine_54 10 rfl) rfl
theorem dX12_readLine_80 : decode cX12_readLine 80 = .ok (.iconst 1, 1) := dk_4 (dw rcX12_readLine_54 11 rfl)
theorem dX12_readLine_81 : decode cX12_readLine 81 = .ok (.invokevirtual 403, 3) := dk_182 (dw rcX12_readLine_54 12 rfl) rfl
theorem dX12_readLine_84 : decode cX12_readLine 84 = .ok (.ifCond .eq 20, 3) := dk_153 (dw rcX12_readLine_54 13 rfl) rfl
theorem dX12_readLine_87 : decode cX12_readLine 87 = .ok (.aload_n 0, 1) := dk_42 (dw rcX12_readLine_54 14 rfl)
theorem dX12_readLine_88 : decode cX12_readLine 88 = .ok (.dup, 1) := dk_89 (dw rcX12_readLine_54 15 rfl)
theorem dX12_readLine_89 : decode cX12_readLine 89 = .ok (.getfield 391, 3) := dk_180 (dw rcX12_readLine_54 16 rfl) rfl
theorem dX12_readLine_92 : decode cX12_readLine 92 = .ok (.iconst 1, 1) := dk_4 (dw rcX12_readLine_54 17 rfl)
theorem dX12_readLine_93 : decode cX12_readLine 93 = .ok (.ior, 1) := dk_128 (dw rcX12_readLine_54 18 rfl)
theorem dX12_readLine_94 : decode cX12_readLine 94 = .ok (.putfield 391, 3) := dk_181 (dw rcX12_readLine_54 19 rfl) rfl
theorem dX12_readLine_97 : decode cX12_readLine 97 = .ok (.aload_n 0, 1) := dk_42 (dw rcX12_readLine_54 20 rfl)
theorem dX12_readLine_98 : decode cX12_readLine 98 = .ok (.invokevirtual 407, 3) := dk_182 (dw rcX12_readLine_54 21 rfl) rfl
theorem dX12_readLine_101 : decode cX12_readLine 101 = .ok (.goto 99, 3) := dk_167 (dw rcX12_readLine_54 22 rfl) rfl
theorem dX12_readLine_104 : decode cX12_readLine 104 = .ok (.aload_n 0, 1) := dk_42 (dw rcX12_readLine_54 23 rfl)
noncomputable def rbX12_readLine_105 : List (Nat × List Nat) := [(105, [20, 0, 239]), (108, [5]), (109, [182, 1, 147]), (112, [153, 0, 44]), (115, [42]), (116, [89]), (117, [180, 1, 135]), (120, [5]), (121, [128]), (122, [181, 1, 135]), (125, [42]), (126, [42]), (127, [20, 0, 239]), (130, [4]), (131, [16, 99]), (133, [182, 1, 116]), (136, [181, 1, 154]), (139, [42]), (140, [42]), (141, [20, 0, 241]), (144, [3]), (145, [16, 99]), (147, [182, 1, 116]), (150, [181, 1, 157])]
theorem rcX12_readLine_105 : dgo (lb cX12_readLine) 0 rbX12_readLine_105 = true := by decide +kernel
theorem dX12_readLine_105 : decode cX12_readLine 105 = .ok (.ldc2_w 239, 3) := dk_20 (dw rcX12_readLine_105 0 rfl) rfl
theorem dX12_readLine_108 : decode cX12_readLine 108 = .ok (.iconst 2, 1) := dk_5 (dw rcX12_readLine_105 1 rfl)
theorem dX12_readLine_109 : decode cX12_readLine 109 = .ok (.invokevirtual 403, 3) := dk_182 (dw rcX12_readLine_105 2 rfl) rfl
theorem dX12_readLine_112 : decode cX12_readLine 112 = .ok (.ifCond .eq 44, 3) := dk_153 (dw rcX12_readLine_105 3 rfl) rfl
theorem dX12_readLine_115 : decode cX12_readLine 115 = .ok (.aload_n 0, 1) := dk_42 (dw rcX12_readLine_105 4 rfl)
theorem dX12_readLine_116 : decode cX12_readLine 116 = .ok (.dup, 1) := dk_89 (dw rcX12_readLine_105 5 rfl)
theorem dX12_readLine_117 : decode cX12_readLine 117 = .ok (.getfield 391, 3) := dk_180 (dw rcX12_readLine_105 6 rfl) rfl
theorem dX12_readLine_120 : decode cX12_readLine 120 = .ok (.iconst 2, 1) := dk_5 (dw rcX12_readLine_105 7 rfl)
theorem dX12_readLine_121 : decode cX12_readLine 121 = .ok (.ior, 1) := dk_128 (dw rcX12_readLine_105 8 rfl)
theorem dX12_readLine_122 : decode cX12_readLine 122 = .ok (.putfield 391, 3) := dk_181 (dw rcX12_readLine_105 9 rfl) rfl
theorem dX12_readLine_125 : decode cX12_readLine 125 = .ok (.aload_n 0, 1) := dk_42 (dw rcX12_readLine_105 10 rfl)
theorem dX12_readLine_126 : decode cX12_readLine 126 = .ok (.aload_n 0, 1) := dk_42 (dw rcX12_readLine_105 11 rfl)
theorem dX12_readLine_127 : decode cX12_readLine 127 = .ok (.ldc2_w 239, 3) := dk_20 (dw rcX12_readLine_105 12 rfl) rfl
theorem dX12_readLine_130 : decode cX12_readLine 130 = .ok (.iconst 1, 1) := dk_4 (dw rcX12_readLine_105 13 rfl)
theorem dX12_readLine_131 : decode cX12_readLine 131 = .ok (.bipush 99, 2) := dk_16 (dw rcX12_readLine_105 14 rfl) rfl
theorem dX12_readLine_133 : decode cX12_readLine 133 = .ok (.invokevirtual 372, 3) := dk_182 (dw rcX12_readLine_105 15 rfl) rfl
theorem dX12_readLine_136 : decode cX12_readLine 136 = .ok (.putfield 410, 3) := dk_181 (dw rcX12_readLine_105 16 rfl) rfl
theorem dX12_readLine_139 : decode cX12_readLine 139 = .ok (.aload_n 0, 1) := dk_42 (dw rcX12_readLine_105 17 rfl)
theorem dX12_readLine_140 : decode cX12_readLine 140 = .ok (.aload_n 0, 1) := dk_42 (dw rcX12_readLine_105 18 rfl)
theorem dX12_readLine_141 : decode cX12_readLine 141 = .ok (.ldc2_w 241, 3) := dk_20 (dw rcX12_readLine_105 19 rfl) rfl
theorem dX12_readLine_144 : decode cX12_readLine 144 = .ok (.iconst 0, 1) := dk_3 (dw rcX12_readLine_105 20 rfl)
theorem dX12_readLine_145 : decode cX12_readLine 145 = .ok (.bipush 99, 2) := dk_16 (dw rcX12_readLine_105 21 rfl) rfl
theorem dX12_readLine_147 : decode cX12_readLine 147 = .ok (.invokevirtual 372, 3) := dk_182 (dw rcX12_readLine_105 22 rfl) rfl
theorem dX12_readLine_150 : decode cX12_readLine 150 = .ok (.putfield 413, 3) := dk_181 (dw rcX12_readLine_105 23 rfl) rfl
noncomputable def rbX12_readLine_153 : List (Nat × List Nat) := [(153, [167, 0, 47]), (156, [42]), (157, [20, 0, 243]), (160, [7]), (161, [182, 1, 147]), (164, [153, 0, 31]), (167, [42]), (168, [89]), (169, [180, 1, 135]), (172, [7]), (173, [128]), (174, [181, 1, 135]), (177, [42]), (178, [42]), (179, [20, 0, 243]), (182, [3]), (183, [17, 3, 231]), (186, [182, 1, 116]), (189, [181, 1, 160]), (192, [167, 0, 8]), (195, [42]), (196, [5]), (197, [182, 1, 26]), (200, [42])]
theorem rcX12_readLine_153 : dgo (lb cX12_readLine) 0 rbX12_readLine_153 = true := by decide +kernel
theorem dX12_readLine_153 : decode cX12_readLine 153 = .ok (.goto 47, 3) := dk_167 (dw rcX12_readLine_153 0 rfl) rfl
theorem dX12_readLine_156 : decode cX12_readLine 156 = .ok (.aload_n 0, 1) := dk_42 (dw rcX12_readLine_153 1 rfl)
theorem dX12_readLine_157 : decode cX12_readLine 157 = .ok (.ldc2_w 243, 3) := dk_20 (dw rcX12_readLine_153 2 rfl) rfl
theorem dX12_readLine_160 : decode cX12_readLine 160 = .ok (.iconst 4, 1) := dk_7 (dw rcX12_readLine_153 3 rfl)
theorem dX12_readLine_161 : decode cX12_readLine 161 = .ok (.invokevirtual 403, 3) := dk_182 (dw rcX12_readLine_153 4 rfl) rfl
theorem dX12_readLine_164 : decode cX12_readLine 164 = .ok (.ifCond .eq 31, 3) := dk_153 (dw rcX12_readLine_153 5 rfl) rfl
theorem dX12_readLine_167 : decode cX12_readLine 167 = .ok (.aload_n 0, 1) := dk_42 (dw rcX12_readLine_153 6 rfl)
theorem dX12_readLine_168 : decode cX12_readLine 168 = .ok (.dup, 1) := dk_89 (dw rcX12_readLine_153 7 rfl)
theorem dX12_readLine_169 : decode cX12_readLine 169 = .ok (.getfield 391, 3) := dk_180 (dw rcX12_readLine_153 8 rfl) rfl
theorem dX12_readLine_172 : decode cX12_readLine 172 = .ok (.iconst 4, 1) := dk_7 (dw rcX12_readLine_153 9 rfl)
theorem dX12_readLine_173 : decode cX12_readLine 173 = .ok (.ior, 1) := dk_128 (dw rcX12_readLine_153 10 rfl)
theorem dX12_readLine_174 : decode cX12_readLine 174 = .ok (.putfield 391, 3) := dk_181 (dw rcX12_readLine_153 11 rfl) rfl
theorem dX12_readLine_177 : decode cX12_readLine 177 = .ok (.aload_n 0, 1) := dk_42 (dw rcX12_readLine_153 12 rfl)
theorem dX12_readLine_178 : decode cX12_readLine 178 = .ok (.aload_n 0, 1) := dk_42 (dw rcX12_readLine_153 13 rfl)
theorem dX12_readLine_179 : decode cX12_readLine 179 = .ok (.ldc2_w 243, 3) := dk_20 (dw rcX12_readLine_153 14 rfl) rfl
theorem dX12_readLine_182 : decode cX12_readLine 182 = .ok (.iconst 0, 1) := dk_3 (dw rcX12_readLine_153 15 rfl)
theorem dX12_readLine_183 : decode cX12_readLine 183 = .ok (.sipush 999, 3) := dk_17 (dw rcX12_readLine_153 16 rfl) rfl
theorem dX12_readLine_186 : decode cX12_readLine 186 = .ok (.invokevirtual 372, 3) := dk_182 (dw rcX12_readLine_153 17 rfl) rfl
theorem dX12_readLine_189 : decode cX12_readLine 189 = .ok (.putfield 416, 3) := dk_181 (dw rcX12_readLine_153 18 rfl) rfl
theorem dX12_readLine_192 : decode cX12_readLine 192 = .ok (.goto 8, 3) := dk_167 (dw rcX12_readLine_153 19 rfl) rfl
theorem dX12_readLine_195 : decode cX12_readLine 195 = .ok (.aload_n 0, 1) := dk_42 (dw rcX12_readLine_153 20 rfl)
theorem dX12_readLine_196 : decode cX12_readLine 196 = .ok (.iconst 2, 1) := dk_5 (dw rcX12_readLine_153 21 rfl)
theorem dX12_readLine_197 : decode cX12_readLine 197 = .ok (.invokevirtual 282, 3) := dk_182 (dw rcX12_readLine_153 22 rfl) rfl
theorem dX12_readLine_200 : decode cX12_readLine 200 = .ok (.aload_n 0, 1) := dk_42 (dw rcX12_readLine_153 23 rfl)
noncomputable def rbX12_readLine_201 : List (Nat × List Nat) := [(201, [180, 0, 218]), (204, [154, 0, 17]), (207, [42]), (208, [180, 0, 205]), (211, [16, 59]), (213, [159, 0, 8]), (216, [42]), (217, [5]), (218, [182, 1, 26]), (221, [42]), (222, [180, 0, 218]), (225, [154, 0, 7]), (228, [42]), (229, [182, 1, 23]), (232, [177])]
theorem rcX12_readLine_201 : dgo (lb cX12_readLine) 0 rbX12_readLine_201 = true := by decide +kernel
theorem dX12_readLine_201 : decode cX12_readLine 201 = .ok (.getfield 218, 3) := dk_180 (dw rcX12_readLine_201 0 rfl) rfl
theorem dX12_readLine_204 : decode cX12_readLine 204 = .ok (.ifCond .ne 17, 3) := dk_154 (dw rcX12_readLine_201 1 rfl) rfl
theorem dX12_readLine_207 : decode cX12_readLine 207 = .ok (.aload_n 0, 1) := dk_42 (dw rcX12_readLine_201 2 rfl)
theorem dX12_readLine_208 : decode cX12_readLine 208 = .ok (.getfield 205, 3) := dk_180 (dw rcX12_readLine_201 3 rfl) rfl
theorem dX12_readLine_211 : decode cX12_readLine 211 = .ok (.bipush 59, 2) := dk_16 (dw rcX12_readLine_201 4 rfl) rfl
theorem dX12_readLine_213 : decode cX12_readLine 213 = .ok (.if_icmp .eq 8, 3) := dk_159 (dw rcX12_readLine_201 5 rfl) rfl
theorem dX12_readLine_216 : decode cX12_readLine 216 = .ok (.aload_n 0, 1) := dk_42 (dw rcX12_readLine_201 6 rfl)
theorem dX12_readLine_217 : decode cX12_readLine 217 = .ok (.iconst 2, 1) := dk_5 (dw rcX12_readLine_201 7 rfl)
theorem dX12_readLine_218 : decode cX12_readLine 218 = .ok (.invokevirtual 282, 3) := dk_182 (dw rcX12_readLine_201 8 rfl) rfl
theorem dX12_readLine_221 : decode cX12_readLine 221 = .ok (.aload_n 0, 1) := dk_42 (dw rcX12_readLine_201 9 rfl)
theorem dX12_readLine_222 : decode cX12_readLine 222 = .ok (.getfield 218, 3) := dk_180 (dw rcX12_readLine_201 10 rfl) rfl
theorem dX12_readLine_225 : decode cX12_readLine 225 = .ok (.ifCond .ne 7, 3) := dk_154 (dw rcX12_readLine_201 11 rfl) rfl
theorem dX12_readLine_228 : decode cX12_readLine 228 = .ok (.aload_n 0, 1) := dk_42 (dw rcX12_readLine_201 12 rfl)
theorem dX12_readLine_229 : decode cX12_readLine 229 = .ok (.invokevirtual 279, 3) := dk_182 (dw rcX12_readLine_201 13 rfl) rfl
theorem dX12_readLine_232 : decode cX12_readLine 232 = .ok (.return_, 1) := dk_177 (dw rcX12_readLine_201 14 rfl)
noncomputable def rbX12_readRule_0 : List (Nat × List Nat) := [(0, [42]), (1, [16, 7]), (3, [42]), (4, [180, 1, 129]), (7, [182, 1, 113]), (10, [42]), (11, [180, 0, 218]), (14, [158, 0, 4]), (17, [177]), (18, [42]), (19, [42]), (20, [180, 1, 129]), (23, [182, 1, 132]), (26, [42]), (27, [180, 0, 218]), (30, [154, 0, 13]), (33, [42]), (34, [89]), (35, [180, 1, 129]), (38, [4]), (39, [96]), (40, [181, 1, 129]), (43, [177])]
theorem rcX12_readRule_0 : dgo (lb cX12_readRule) 0 rbX12_readRule_0 = true := by decide +kernel
theorem dX12_readRule_0 : decode cX12_readRule 0 = .ok (.aload_n 0, 1) := dk_42 (dw rcX12_readRule_0 0 rfl)
theorem dX12_readRule_1 : decode cX12_readRule 1 = .ok (.bipush 7, 2) := dk_16 (dw rcX12_readRule_0 1 rfl) rfl
theorem dX12_readRule_3 : decode cX12_readRule 3 = .ok (.aload_n 0, 1) := dk_42 (dw rcX12_readRule_0 2 rfl)
theorem dX12_readRule_4 : decode cX12_readRule 4 = .ok (.getfield 385, 3) := dk_180 (dw rcX12_readRule_0 3 rfl) rfl
theorem dX12_readRule_7 : decode cX12_readRule 7 = .ok (.invokevirtual 369, 3) := dk_182 (dw rcX12_readRule_0 4 rfl) rfl
theorem dX12_readRule_10 : decode cX12_readRule 10 = .ok (.aload_n 0, 1) := dk_42 (dw rcX12_readRule_0 5 rfl)
theorem dX12_readRule_11 : decode cX12_readRule 11 = .ok (.getfield 218, 3) := dk_180 (dw rcX12_readRule_0 6 rfl) rfl
theorem dX12_readRule_14 : decode cX12_readRule 14 = .ok (.ifCond .le 4, 3) := dk_158 (dw rcX12_readRule_0 7 rfl) rfl
theorem dX12_readRule_17 : decode cX12_readRule 17 = .ok (.return_, 1) := dk_177 (dw rcX12_readRule_0 8 rfl)
theorem dX12_readRule_18 : decode cX12_readRule 18 = .ok (.aload_n 0, 1) := dk_42 (dw rcX12_readRule_0 9 rfl)
theorem dX12_readRule_19 : decode cX12_readRule 19 = .ok (.aload_n 0, 1) := dk_42 (dw rcX12_readRule_0 10 rfl)
theorem dX12_readRule_20 : decode cX12_readRule 20 = .ok (.getfield 385, 3) := dk_180 (dw rcX12_readRule_0 11 rfl) rfl
theorem dX12_readRule_23 : decode cX12_readRule 23 = .ok (.invokevirtual 388, 3) := dk_182 (dw rcX12_readRule_0 12 rfl) rfl
theorem dX12_readRule_26 : decode cX12_readRule 26 = .ok (.aload_n 0, 1) := dk_42 (dw rcX12_readRule_0 13 rfl)
theorem dX12_readRule_27 : decode cX12_readRule 27 = .ok (.getfield 218, 3) := dk_180 (dw rcX12_readRule_0 14 rfl) rfl
theorem dX12_readRule_30 : decode cX12_readRule 30 = .ok (.ifCond .ne 13, 3) := dk_154 (dw rcX12_readRule_0 15 rfl) rfl
theorem dX12_readRule_33 : decode cX12_readRule 33 = .ok (.aload_n 0, 1) := dk_42 (dw rcX12_readRule_0 16 rfl)
theorem dX12_readRule_34 : decode cX12_readRule 34 = .ok (.dup, 1) := dk_89 (dw rcX12_readRule_0 17 rfl)
theorem dX12_readRule_35 : decode cX12_readRule 35 = .ok (.getfield 385, 3) := dk_180 (dw rcX12_readRule_0 18 rfl) rfl
theorem dX12_readRule_38 : decode cX12_readRule 38 = .ok (.iconst 1, 1) := dk_4 (dw rcX12_readRule_0 19 rfl)
theorem dX12_readRule_39 : decode cX12_readRule 39 = .ok (.iadd, 1) := dk_96 (dw rcX12_readRule_0 20 rfl)
theorem dX12_readRule_40 : decode cX12_readRule 40 = .ok (.putfield 385, 3) := dk_181 (dw rcX12_readRule_0 21 rfl) rfl
theorem dX12_readRule_43 : decode cX12_readRule 43 = .ok (.return_, 1) := dk_177 (dw rcX12_readRule_0 22 rfl)
noncomputable def rbX12_readSlip_0 : List (Nat × List Nat) := [(0, [42]), (1, [182, 1, 23]), (4, [42]), (5, [180, 0, 72]), (8, [3]), (9, [42]), (10, [3]), (11, [16, 9]), (13, [182, 1, 33]), (16, [79]), (17, [42]), (18, [180, 0, 72]), (21, [4]), (22, [42]), (23, [3]), (24, [16, 9]), (26, [182, 1, 33]), (29, [79]), (30, [42]), (31, [180, 0, 72]), (34, [5]), (35, [42]), (36, [42]), (37, [180, 0, 72])]
theorem rcX12_readSlip_0 : dgo (lb cX12_readSlip) 0 rbX12_readSlip_0 = true := by decide +kernel
theorem dX12_readSlip_0 : decode cX12_readSlip 0 = .ok (.aload_n 0, 1) := dk_42 (dw rcX12_readSlip_0 0 rfl)
theorem dX12_readSlip_1 : decode cX12_readSlip 1 = .ok (.invokevirtual 279, 3) := dk_182 (dw rcX12_readSlip_0 1 rfl) rfl
theorem dX12_readSlip_4 : decode cX12_readSlip 4 = .ok (.aload_n 0, 1) := dk_42 (dw rcX12_readSlip_0 2 rfl)
theorem dX12_readSlip_5 : decode cX12_readSlip 5 = .ok (.getfield 72, 3) := dk_180 (dw rcX12_readSlip_0 3 rfl) rfl
theorem dX12_readSlip_8 : decode cX12_readSlip 8 = .ok (.iconst 0, 1) := dk_3 (dw rcX12_readSlip_0 4 rfl)
theorem dX12_readSlip_9 : decode cX12_readSlip 9 = .ok (.aload_n 0, 1) := dk_42 (dw rcX12_readSlip_0 5 rfl)
theorem dX12_readSlip_10 : decode cX12_readSlip 10 = .ok (.iconst 0, 1) := dk_3 (dw rcX12_readSlip_0 6 rfl)
theorem dX12_readSlip_11 : decode cX12_readSlip 11 = .ok (.bipush 9, 2) := dk_16 (dw rcX12_readSlip_0 7 rfl) rfl
theorem dX12_readSlip_13 : decode cX12_readSlip 13 = .ok (.invokevirtual 289, 3) := dk_182 (dw rcX12_readSlip_0 8 rfl) rfl
theorem dX12_readSlip_16 : decode cX12_readSlip 16 = .ok (.iastore, 1) := dk_79 (dw rcX12_readSlip_0 9 rfl)
theorem dX12_readSlip_17 : decode cX12_readSlip 17 = .ok (.aload_n 0, 1) := dk_42 (dw rcX12_readSlip_0 10 rfl)
theorem dX12_readSlip_18 : decode cX12_readSlip 18 = .ok (.getfield 72, 3) := dk_180 (dw rcX12_readSlip_0 11 rfl) rfl
theorem dX12_readSlip_21 : decode cX12_readSlip 21 = .ok (.iconst 1, 1) := dk_4 (dw rcX12_readSlip_0 12 rfl)
theorem dX12_readSlip_22 : decode cX12_readSlip 22 = .ok (.aload_n 0, 1) := dk_42 (dw rcX12_readSlip_0 13 rfl)
theorem dX12_readSlip_23 : decode cX12_readSlip 23 = .ok (.iconst 0, 1) := dk_3 (dw rcX12_readSlip_0 14 rfl)
theorem dX12_readSlip_24 : decode cX12_readSlip 24 = .ok (.bipush 9, 2) := dk_16 (dw rcX12_readSlip_0 15 rfl) rfl
theorem dX12_readSlip_26 : decode cX12_readSlip 26 = .ok (.invokevirtual 289, 3) := dk_182 (dw rcX12_readSlip_0 16 rfl) rfl
theorem dX12_readSlip_29 : decode cX12_readSlip 29 = .ok (.iastore, 1) := dk_79 (dw rcX12_readSlip_0 17 rfl)
theorem dX12_readSlip_30 : decode cX12_readSlip 30 = .ok (.aload_n 0, 1) := dk_42 (dw rcX12_readSlip_0 18 rfl)
theorem dX12_readSlip_31 : decode cX12_readSlip 31 = .ok (.getfield 72, 3) := dk_180 (dw rcX12_readSlip_0 19 rfl) rfl
theorem dX12_readSlip_34 : decode cX12_readSlip 34 = .ok (.iconst 2, 1) := dk_5 (dw rcX12_readSlip_0 20 rfl)
theorem dX12_readSlip_35 : decode cX12_readSlip 35 = .ok (.aload_n 0, 1) := dk_42 (dw rcX12_readSlip_0 21 rfl)
theorem dX12_readSlip_36 : decode cX12_readSlip 36 = .ok (.aload_n 0, 1) := dk_42 (dw rcX12_readSlip_0 22 rfl)
theorem dX12_readSlip_37 : decode cX12_readSlip 37 = .ok (.getfield 72, 3) := dk_180 (dw rcX12_readSlip_0 23 rfl) rfl
noncomputable def rbX12_readSlip_40 : List (Nat × List Nat) := [(40, [3]), (41, [46]), (42, [42]), (43, [180, 0, 72]), (46, [4]), (47, [46]), (48, [96]), (49, [154, 0, 7]), (52, [4]), (53, [167, 0, 4]), (56, [3]), (57, [16, 9]), (59, [182, 1, 33]), (62, [79]), (63, [177])]
theorem rcX12_readSlip_40 : dgo (lb cX12_readSlip) 0 rbX12_readSlip_40 = true := by decide +kernel
theorem dX12_readSlip_40 : decode cX12_readSlip 40 = .ok (.iconst 0, 1) := dk_3 (dw rcX12_readSlip_40 0 rfl)
theorem dX12_readSlip_41 : decode cX12_readSlip 41 = .ok (.iaload, 1) := dk_46 (dw rcX12_readSlip_40 1 rfl)
theorem dX12_readSlip_42 : decode cX12_readSlip 42 = .ok (.aload_n 0, 1) := dk_42 (dw rcX12_readSlip_40 2 rfl)
theorem dX12_readSlip_43 : decode cX12_readSlip 43 = .ok (.getfield 72, 3) := dk_180 (dw rcX12_readSlip_40 3 rfl) rfl
theorem dX12_readSlip_46 : decode cX12_readSlip 46 = .ok (.iconst 1, 1) := dk_4 (dw rcX12_readSlip_40 4 rfl)
theorem dX12_readSlip_47 : decode cX12_readSlip 47 = .ok (.iaload, 1) := dk_46 (dw rcX12_readSlip_40 5 rfl)
theorem dX12_readSlip_48 : decode cX12_readSlip 48 = .ok (.iadd, 1) := dk_96 (dw rcX12_readSlip_40 6 rfl)
theorem dX12_readSlip_49 : decode cX12_readSlip 49 = .ok (.ifCond .ne 7, 3) := dk_154 (dw rcX12_readSlip_40 7 rfl) rfl
theorem dX12_readSlip_52 : decode cX12_readSlip 52 = .ok (.iconst 1, 1) := dk_4 (dw rcX12_readSlip_40 8 rfl)
theorem dX12_readSlip_53 : decode cX12_readSlip 53 = .ok (.goto 4, 3) := dk_167 (dw rcX12_readSlip_40 9 rfl) rfl
theorem dX12_readSlip_56 : decode cX12_readSlip 56 = .ok (.iconst 0, 1) := dk_3 (dw rcX12_readSlip_40 10 rfl)
theorem dX12_readSlip_57 : decode cX12_readSlip 57 = .ok (.bipush 9, 2) := dk_16 (dw rcX12_readSlip_40 11 rfl) rfl
theorem dX12_readSlip_59 : decode cX12_readSlip 59 = .ok (.invokevirtual 289, 3) := dk_182 (dw rcX12_readSlip_40 12 rfl) rfl
theorem dX12_readSlip_62 : decode cX12_readSlip 62 = .ok (.iastore, 1) := dk_79 (dw rcX12_readSlip_40 13 rfl)
theorem dX12_readSlip_63 : decode cX12_readSlip 63 = .ok (.return_, 1) := dk_177 (dw rcX12_readSlip_40 14 rfl)
set_option maxHeartbeats 4000000 in
set_option maxRecDepth 100000 in
theorem n_readRule (l : Launch) (D : va_G) (k : KT) (A : Nat → Prop) (a : Nat → Nat) (z : SK) (G : GS)  (hnf : (G.1 66 2).toInt = 0) (hr6 : (G.1 66 47).toInt < 6) (hE9 : gE G = 1) : Met l yX12_readRule (WS yX12_readRule cX12_readRule 1 none) ({ frames := 5, cells := 0, slots := 0, locals := 109 }) (va_Pc [.ref (a 66)] (cW D k A a z G)) (va_Qv (fun (G1 : GS) => Q_readRule G G1) (fun (G1 : GS) t => Wd D k A a G1 t.heap) A) 0 0 A := by
  refine Met.ofW (cc := cX12_readRule) (maxL := 1) (ret := none) (by decide) rfl ?_
  intro p e s m args below meth c s₁ B hml hv
  obtain ⟨rfl, hW, hB_G, hK, hZ⟩ := hv
  have hx := B.exec
  have hb := B.bytes
  have hr := B.returns
  have hts := atoms_spec (ws := WS yX12_readRule cX12_readRule 1 none) B.pre
  have hgd : ∀ w ∈ gd, w ∈ WS yX12_readRule cX12_readRule 1 none := fun w h => List.mem_cons_of_mem _ h
  have hg : ∀ w ∈ gd, w.before _ s = true := fun w h => hts w (hgd w h)
  have hown : s.vm.findClass RX12 = some m.cls := findClass_of_methodNamed B.named
  have hS : va_S A s.heap s.heap [] := va_S.rf
  have hF : Fr [68, 69, 70, 71, 75] [(66, 2), (66, 3), (66, 4), (66, 6), (66, 7), (66, 8), (66, 9), (66, 19), (66, 20), (66, 21), (66, 23), (66, 24), (66, 47)] G G := Fr.rf
  have hl := lv_entry ([.ref (a 66)]) (n := 1) (Nat.le_of_ble_eq_true rfl)
  rw [lg_entry_eq]
  generalize (lg_sl ([.ref (a 66)]) ++ List.replicate (1 - (lg_sl ([.ref (a 66)])).length) Slot.unset).toArray = ls at hl ⊢
  have hl : lv_has ls 1 [(0, .ref (a 66))] := hl
  refine lv_aload_n hx hb dX12_readRule_0 rfl (lv_at hl 0 rfl) ?_
  refine lv_bipush (v := 7) hx hb dX12_readRule_1 (by decide) ?_
  refine lv_aload_n hx hb dX12_readRule_3 rfl (lv_at hl 0 rfl) ?_
  have b_1 : 0 ≤ (G.1 66 47).toInt ∧ (G.1 66 47).toInt ≤ 6 := bd_66_47 hB_G
  refine S_getI (v := (G.1 66 47)) (C := RX12) (T := TX12) (N := 89) hx hb hg iX12 hown hK hW kd_66 rfl 47 (lt_b rfl) (hg (Cond.fieldLink RX12 385 "SlabWalkModel" "nRules" "I") m1361) (fun _ h9 => h9) rfl rfl dX12_readRule_4 ?_
  have qc_2 : (7 : Int32).toInt = 7 := rfl
  refine S_callv (va_runV (As := [.int 7, .int (G.1 66 47)]) (rest := []) ⟨hx, hb, hml, hown, hts⟩ (n_newName l D k A a z G 7 (G.1 66 47) ⟨by decide, by decide⟩ ⟨(by first | exact b_1.1 | omega), (by first | exact b_1.2 | omega)⟩) (cwV 2 hts (gd_V hgd m1632 m1634 m55 m131 m1635) rfl rfl rfl hd_X12_newName ⟨Nat.le_of_ble_eq_true rfl, Nat.le_of_ble_eq_true rfl⟩) (pre_W hW hB_G hK hZ hS kd_66 rfl) rfl rfl hl.1 rfl (lv_room (Nat.le_of_ble_eq_true rfl)) dX12_readRule_7 ⟨Nat.le_of_ble_eq_true rfl, Nat.le_of_ble_eq_true rfl⟩) hS (fun G_4 H locs hpo hW hS => ?_)
  have hX_7 : Q_newName 7 (G.1 66 47) G G_4 := hpo
  obtain ⟨hB_G_4, hq_5, ⟨d_1, d_2, d_3⟩, -⟩ := hpo
  have hF := hF.call9 hq_5 rfl rfl
  refine lv_aload_n hx hb dX12_readRule_10 rfl (lv_at hl 0 rfl) ?_
  have b_8 : 0 ≤ (G_4.1 66 2).toInt ∧ (G_4.1 66 2).toInt ≤ 4 := bd_66_2 hB_G_4
  refine S_getI (v := (G_4.1 66 2)) (C := RX12) (T := TX12) (N := 89) hx hb hg iX12 hown hK hW kd_66 rfl 2 (lt_b rfl) (hg (Cond.fieldLink RX12 218 "SlabWalkModel" "fault" "I") m1316) (fun _ h9 => h9) rfl rfl dX12_readRule_11 ?_
  refine lv_if_le (tgt := 18) hx hb dX12_readRule_14 rfl (fun c_9 => ?_) (fun c_9 => ?_)
  · have c_9 : (G_4.1 66 2).toInt ≤ 0 := xI_le rfl rfl c_9
    refine lv_aload_n hx hb dX12_readRule_18 rfl (lv_at hl 0 rfl) ?_
    refine lv_aload_n hx hb dX12_readRule_19 rfl (lv_at hl 0 rfl) ?_
    refine S_getI (v := (G.1 66 47)) (C := RX12) (T := TX12) (N := 89) hx hb hg iX12 hown hK hW kd_66 rfl 47 (lt_b rfl) (hg (Cond.fieldLink RX12 385 "SlabWalkModel" "nRules" "I") m1361) (fun _ h9 => h9) rfl ((hq_5.i9 66 47 rfl rfl).trans (rfl)) dX12_readRule_20 ?_
    have fr_10 : Fr [68] [(66, 2), (66, 3), (66, 4), (66, 6), (66, 7), (66, 8), (66, 9)] G G_4 := (Fr.call9 (rs := [68]) (fs := [(66, 2), (66, 3), (66, 4), (66, 6), (66, 7), (66, 8), (66, 9)]) Fr.rf hq_5 rfl rfl)
    have g_11 : gE G_4 = gE G := gE_fr fr_10 (gr_q rfl) (gf_q rfl)
    have g_12 : (G_4.1 66 47).toInt = (G.1 66 47).toInt := (congrArg Int32.toInt (show G_4.1 66 47 = (G.1 66 47) from ((hq_5.i9 66 47 rfl rfl).trans (rfl))))
    have b_13 : 0 ≤ (G_4.1 66 4).toInt ∧ (G_4.1 66 4).toInt ≤ 1600 := bd_66_4 hB_G_4
    refine S_callv (va_runV (As := [.int (G.1 66 47)]) (rest := []) ⟨hx, hb, hml, hown, hts⟩ (n_formula l D k A a z G_4 (G.1 66 47) ⟨(by first | exact b_1.1 | omega), (by first | exact ok_976 hr6 | omega)⟩ ((by first | exact ok_977 b_8.1 c_9 | omega)) ((by first | exact ok_796 hE9 g_11 | omega)) ((by first | exact ok_978 g_12 | omega))) (cwV 1 hts (gd_V hgd m1710 m1712 m69 m131 m1713) rfl rfl rfl hd_X12_formula ⟨Nat.le_of_ble_eq_true rfl, Nat.le_of_ble_eq_true rfl⟩) (pre_W hW hB_G_4 hK hZ hS kd_66 rfl) rfl rfl hl.1 rfl (lv_room (Nat.le_of_ble_eq_true rfl)) dX12_readRule_23 ⟨Nat.le_of_ble_eq_true rfl, Nat.le_of_ble_eq_true rfl⟩) hS (fun G_15 H locs hpo hW hS => ?_)
    have hX_18 : Q_formula (G.1 66 47) G_4 G_15 := hpo
    obtain ⟨hB_G_15, hq_16, ⟨d_4, d_5, d_6⟩, -⟩ := hpo
    have hF := hF.call9 hq_16 rfl rfl
    refine lv_aload_n hx hb dX12_readRule_26 rfl (lv_at hl 0 rfl) ?_
    have b_19 : 0 ≤ (G_15.1 66 2).toInt ∧ (G_15.1 66 2).toInt ≤ 4 := bd_66_2 hB_G_15
    refine S_getI (v := (G_15.1 66 2)) (C := RX12) (T := TX12) (N := 89) hx hb hg iX12 hown hK hW kd_66 rfl 2 (lt_b rfl) (hg (Cond.fieldLink RX12 218 "SlabWalkModel" "fault" "I") m1316) (fun _ h9 => h9) rfl rfl dX12_readRule_27 ?_
    refine lv_if_ne (tgt := 43) hx hb dX12_readRule_30 rfl (fun c_20 => ?_) (fun c_20 => ?_)
    · have c_20 : (G_15.1 66 2).toInt ≠ 0 := xI_ne rfl rfl c_20
      have b_21 : 0 ≤ (G_15.1 66 4).toInt ∧ (G_15.1 66 4).toInt ≤ 1600 := bd_66_4 hB_G_15
      exact W.vret hx hb hr (fun t ht _ => ⟨⟨G_15, rfl, (Q_readRule_mk ⟨hB_G_15, hF, ((by first | exact ⟨(by first | exact ok_624 d_1 d_4 | omega), ⟨(fun h9 => by have q0_ := d_2 (by first | (clear hnf hr6 hE9 b_1 d_2 d_3 b_8 c_9 g_11 g_12 d_5 d_6 b_19 c_20; omega) | omega); have q1_ := d_5 (by first | (clear hnf hr6 hE9 b_1 d_2 d_3 b_8 c_9 g_11 g_12 d_5 d_6 b_19 c_20; omega) | omega); (first | (clear hnf hr6 hE9 b_1 d_1 d_2 d_3 b_8 c_9 g_11 g_12 b_13 d_4 d_5 d_6 b_19 c_20 b_21; omega) | omega)), (fun h9 => ((by first | (clear hnf hE9 d_1 d_2 d_3 b_8 c_9 g_11 b_13 d_4 d_5 d_6 b_21; omega) | omega)))⟩⟩ | omega)), ⟨G_4, hX_7, (Or.inl ⟨c_9, ⟨G_15, hX_18, (Or.inr ⟨c_20, rfl⟩)⟩⟩)⟩⟩), wd_t ht hW⟩, hS.F ht⟩) hS.2.2 dX12_readRule_43
    · have c_20 : (G_15.1 66 2).toInt = 0 := xI_eq rfl rfl c_20
      have d_7 := d_6 c_20
      have b_22 : 0 ≤ (G_15.1 66 19).toInt ∧ (G_15.1 66 19).toInt ≤ 5 := bd_66_19 hB_G_15
      have g_23 : (G_15.1 66 47).toInt = (G.1 66 47).toInt := (congrArg Int32.toInt (show G_15.1 66 47 = (G.1 66 47) from ((hq_16.i9 66 47 rfl rfl).trans ((hq_5.i9 66 47 rfl rfl).trans (rfl)))))
      refine lv_aload_n hx hb dX12_readRule_33 rfl (lv_at hl 0 rfl) ?_
      refine lv_dup hx hb dX12_readRule_34 rfl ?_
      refine S_getI (v := (G.1 66 47)) (C := RX12) (T := TX12) (N := 89) hx hb hg iX12 hown hK hW kd_66 rfl 47 (lt_b rfl) (hg (Cond.fieldLink RX12 385 "SlabWalkModel" "nRules" "I") m1361) (fun _ h9 => h9) rfl ((hq_16.i9 66 47 rfl rfl).trans ((hq_5.i9 66 47 rfl rfl).trans (rfl))) dX12_readRule_35 ?_
      refine ic_1 hx hb dX12_readRule_38 ?_
      refine lv_iadd hx hb dX12_readRule_39 ?_
      refine lv_topi (fun y_24 ey_24 => ?_)
      have ty_24 : y_24.toInt = (G.1 66 47).toInt + 1 := xI_add rfl rfl ey_24 ((by first | exact ok_21 b_1.1 | omega)) ((by first | exact ok_979 hr6 | omega))
      refine S_putI (ty := .int) (C := RX12) (T := TX12) (N := 89) hx hb hg iX12 tyX12 tyX12_ok nmX12 hown hK hW hS kd_66 rfl 47 (lt_b rfl) (hg (Cond.fieldLink RX12 385 "SlabWalkModel" "nRules" "I") m1361) (fun _ h9 => h9) rfl (by decide +kernel) rfl rfl rfl dX12_readRule_40 (fun G_25 H locs eG_25 hW hS => ?_)
      have hB_G_25 : Bd G_25 := hB_G_15.put (V := y_24.toInt) (lo := 0) (hi := 6) eG_25 rfl rfl rfl ((by first | exact ok_23 b_1.1 ty_24 | omega)) ((by first | exact ok_980 hr6 ty_24 | omega)) (hB_G_15.2.put eG_25 rfl)
      have hF := hF.put eG_25 (Or.inr (by decide))
      have u_26 := rule_gh (Ga := G_15) (by first | (clear d_6; omega) | omega) (by first | (clear d_6; omega) | omega) eG_25 (by first | (clear d_6; omega) | omega) (by first | (clear d_6; omega) | omega)
      have g_27 : (G_25.1 66 2).toInt = (G_15.1 66 2).toInt := (congrArg Int32.toInt (show G_25.1 66 2 = (G_15.1 66 2) from ((gp_ne eG_25 (by decide)).trans (rfl))))
      have b_28 : 0 ≤ (G_15.1 66 4).toInt ∧ (G_15.1 66 4).toInt ≤ 1600 := bd_66_4 hB_G_15
      have g_29 : (G_25.1 66 4).toInt = (G_15.1 66 4).toInt := (congrArg Int32.toInt (show G_25.1 66 4 = (G_15.1 66 4) from (gp_ne eG_25 (by decide))))
      have g_30 : (G_25.1 66 6).toInt = (G_15.1 66 6).toInt := (congrArg Int32.toInt (show G_25.1 66 6 = (G_15.1 66 6) from (gp_ne eG_25 (by decide))))
      exact W.vret hx hb hr (fun t ht _ => ⟨⟨G_25, rfl, (Q_readRule_mk ⟨hB_G_25, hF, ((by first | exact ⟨(by first | exact ok_964 d_1 d_4 g_29 | omega), ⟨(fun h9 => by have q0_ := d_2 (by first | (clear hnf hr6 hE9 b_1 d_2 d_3 b_8 c_9 g_11 g_12 d_5 d_6 b_19 c_20 d_7 b_22 g_23 ty_24 u_26 g_27 g_30; omega) | omega); have q1_ := d_5 (by first | (clear hnf hr6 hE9 b_1 d_2 d_3 b_8 c_9 g_11 g_12 d_5 d_6 b_19 c_20 d_7 b_22 g_23 ty_24 u_26 g_27 g_30; omega) | omega); (first | (clear hnf hr6 hE9 b_1 d_1 d_2 d_3 b_8 c_9 g_11 g_12 b_13 d_4 d_5 d_6 b_19 c_20 d_7 b_22 g_23 ty_24 u_26 g_27 b_28 g_29; omega) | omega)), (fun h9 => ((by first | (clear hnf hE9 d_1 d_2 d_3 b_8 c_9 g_11 b_13 d_4 d_5 d_6 b_28 g_29 g_30; omega) | omega)))⟩⟩ | omega)), ⟨G_4, hX_7, (Or.inl ⟨c_9, ⟨G_15, hX_18, (Or.inl ⟨c_20, ⟨y_24, ty_24, ⟨(Fr.put (rs := []) (fs := [(66, 47)]) Fr.rf eG_25 (Or.inr (by decide))), (gp_eq eG_25)⟩⟩⟩)⟩⟩)⟩⟩), wd_t ht hW⟩, hS.F ht⟩) hS.2.2 dX12_readRule_43
  · have c_9 : 0 < (G_4.1 66 2).toInt := xI_nle rfl rfl c_9
    have fr_31 : Fr [68] [(66, 2), (66, 3), (66, 4), (66, 6), (66, 7), (66, 8), (66, 9)] G G_4 := (Fr.call9 (rs := [68]) (fs := [(66, 2), (66, 3), (66, 4), (66, 6), (66, 7), (66, 8), (66, 9)]) Fr.rf hq_5 rfl rfl)
    have g_32 : gE G_4 = gE G := gE_fr fr_31 (gr_q rfl) (gf_q rfl)
    have b_33 : 0 ≤ (G_4.1 66 4).toInt ∧ (G_4.1 66 4).toInt ≤ 1600 := bd_66_4 hB_G_4
    exact W.vret hx hb hr (fun t ht _ => ⟨⟨G_4, rfl, (Q_readRule_mk ⟨hB_G_4, hF, ((by first | exact ⟨(by first | exact d_1 | omega), ⟨(fun h9 => by have q0_ := d_2 (by first | (clear hnf hr6 hE9 b_1 d_2 d_3 b_8 c_9 g_32; omega) | omega); (first | (clear hnf hr6 hE9 b_1 d_1 d_2 d_3 b_8 c_9 g_32 b_33; omega) | omega)), (fun h9 => (by first | exact ok_796 hE9 g_32 | omega))⟩⟩ | omega)), ⟨G_4, hX_7, (Or.inr ⟨c_9, rfl⟩)⟩⟩), wd_t ht hW⟩, hS.F ht⟩) hS.2.2 dX12_readRule_17

set_option maxHeartbeats 4000000 in
set_option maxRecDepth 100000 in
theorem n_readSlip (l : Launch) (D : va_G) (k : KT) (A : Nat → Prop) (a : Nat → Nat) (z : SK) (G : GS)  (hnf : (G.1 66 2).toInt = 0) : Met l yX12_readSlip (WS yX12_readSlip cX12_readSlip 1 none) ({ frames := 3, cells := 0, slots := 0, locals := 66 }) (va_Pc [.ref (a 66)] (cW D k A a z G)) (va_Qv (fun (G1 : GS) => Q_readSlip G G1) (fun (G1 : GS) t => Wd D k A a G1 t.heap) A) 0 0 A := by
  refine Met.ofW (cc := cX12_readSlip) (maxL := 1) (ret := none) (by decide) rfl ?_
  intro p e s m args below meth c s₁ B hml hv
  obtain ⟨rfl, hW, hB_G, hK, hZ⟩ := hv
  have hx := B.exec
  have hb := B.bytes
  have hr := B.returns
  have hts := atoms_spec (ws := WS yX12_readSlip cX12_readSlip 1 none) B.pre
  have hgd : ∀ w ∈ gd, w ∈ WS yX12_readSlip cX12_readSlip 1 none := fun w h => List.mem_cons_of_mem _ h
  have hg : ∀ w ∈ gd, w.before _ s = true := fun w h => hts w (hgd w h)
  have hown : s.vm.findClass RX12 = some m.cls := findClass_of_methodNamed B.named
  have hS : va_S A s.heap s.heap [] := va_S.rf
  have hF : Fr [86] [(66, 2), (66, 3), (66, 4), (66, 6), (66, 7), (66, 8), (66, 9)] G G := Fr.rf
  have hl := lv_entry ([.ref (a 66)]) (n := 1) (Nat.le_of_ble_eq_true rfl)
  rw [lg_entry_eq]
  generalize (lg_sl ([.ref (a 66)]) ++ List.replicate (1 - (lg_sl ([.ref (a 66)])).length) Slot.unset).toArray = ls at hl ⊢
  have hl : lv_has ls 1 [(0, .ref (a 66))] := hl
  refine lv_aload_n hx hb dX12_readSlip_0 rfl (lv_at hl 0 rfl) ?_
  refine S_callv (va_runV (As := []) (rest := []) ⟨hx, hb, hml, hown, hts⟩ (n_token l D k A a z G  ) (cwV 0 hts (gd_V hgd m1602 m1604 m50 m131 m1605) rfl rfl rfl hd_X12_token ⟨Nat.le_of_ble_eq_true rfl, Nat.le_of_ble_eq_true rfl⟩) (pre_W hW hB_G hK hZ hS kd_66 rfl) rfl rfl hl.1 rfl (lv_room (Nat.le_of_ble_eq_true rfl)) dX12_readSlip_1 ⟨Nat.le_of_ble_eq_true rfl, Nat.le_of_ble_eq_true rfl⟩) hS (fun G_2 H locs hpo hW hS => ?_)
  have hX_5 : Q_token G G_2 := hpo
  obtain ⟨hB_G_2, hq_3, ⟨d_1, d_2⟩, -⟩ := hpo
  have hF := hF.call9 hq_3 rfl rfl
  refine lv_aload_n hx hb dX12_readSlip_4 rfl (lv_at hl 0 rfl) ?_
  refine S_getR (n := 86) (C := RX12) (T := TX12) (N := 89) hx hb hg iX12 hown hK hW kd_66 rfl 34 (lt_b rfl) (hg (Cond.fieldLink RX12 72 "SlabWalkModel" "nSlips" "[I") m1348) (fun _ h9 => h9) rfl dX12_readSlip_5 ?_
  refine ic_0 hx hb dX12_readSlip_8 ?_
  refine lv_aload_n hx hb dX12_readSlip_9 rfl (lv_at hl 0 rfl) ?_
  refine ic_0 hx hb dX12_readSlip_10 ?_
  refine lv_bipush (v := 9) hx hb dX12_readSlip_11 (by decide) ?_
  have qc_6 : (0 : Int32).toInt = 0 := rfl
  have qc_7 : (9 : Int32).toInt = 9 := rfl
  have b_8 : 0 ≤ (G.1 66 2).toInt ∧ (G.1 66 2).toInt ≤ 4 := bd_66_2 hB_G
  have g_9 : (G_2.1 66 2).toInt = (G.1 66 2).toInt := (congrArg Int32.toInt (show G_2.1 66 2 = (G.1 66 2) from (hq_3.i9 66 2 rfl rfl)))
  have b_10 : 0 ≤ (G_2.1 66 4).toInt ∧ (G_2.1 66 4).toInt ≤ 1600 := bd_66_4 hB_G_2
  refine S_calli (va_runV (As := [.int 0, .int 9]) (rest := [.int 0, .ref (a 86)]) ⟨hx, hb, hml, hown, hts⟩ (n_told l D k A a z G_2 0 9 ) (cwV 2 hts (gd_V hgd m1682 m1684 m62 m131 m1685) rfl rfl rfl hd_X12_toldNumber ⟨Nat.le_of_ble_eq_true rfl, Nat.le_of_ble_eq_true rfl⟩) (pre_W hW hB_G_2 hK hZ hS kd_66 rfl) rfl rfl hl.1 rfl (lv_room (Nat.le_of_ble_eq_true rfl)) dX12_readSlip_13 ⟨Nat.le_of_ble_eq_true rfl, Nat.le_of_ble_eq_true rfl⟩) hS (fun r_11 G_12 H locs hpo hW hS => ?_)
  have hX_15 : Q_told 0 9 G_2 r_11 G_12 := hpo
  obtain ⟨hB_G_12, hq_13, ⟨d_3, d_4, d_5, d_6⟩, -⟩ := hpo
  have hF := hF.call9 hq_13 rfl rfl
  refine S_iast hx hb hK hW hS kd_86 (vin (by decide) (by decide)) dX12_readSlip_16 (fun G_16 H locs eG_16 hW hS => ?_)
  have hB_G_16 : Bd G_16 := hB_G_12.put (lo := (-2147483648)) (hi := 2147483647) eG_16 rfl rfl rfl (tI_rng _).1 (tI_rng _).2 (hB_G_12.2.put eG_16 rfl)
  have hF := hF.put eG_16 (Or.inl (by decide))
  refine lv_aload_n hx hb dX12_readSlip_17 rfl (lv_at hl 0 rfl) ?_
  refine S_getR (n := 86) (C := RX12) (T := TX12) (N := 89) hx hb hg iX12 hown hK hW kd_66 rfl 34 (lt_b rfl) (hg (Cond.fieldLink RX12 72 "SlabWalkModel" "nSlips" "[I") m1348) (fun _ h9 => h9) rfl dX12_readSlip_18 ?_
  refine ic_1 hx hb dX12_readSlip_21 ?_
  refine lv_aload_n hx hb dX12_readSlip_22 rfl (lv_at hl 0 rfl) ?_
  refine ic_0 hx hb dX12_readSlip_23 ?_
  refine lv_bipush (v := 9) hx hb dX12_readSlip_24 (by decide) ?_
  have qc_17 : (0 : Int32).toInt = 0 := rfl
  have qc_18 : (9 : Int32).toInt = 9 := rfl
  have b_19 : 0 ≤ (G_12.1 66 2).toInt ∧ (G_12.1 66 2).toInt ≤ 4 := bd_66_2 hB_G_12
  have g_20 : (G_16.1 66 2).toInt = (G_12.1 66 2).toInt := (congrArg Int32.toInt (show G_16.1 66 2 = (G_12.1 66 2) from (gp_ne eG_16 (fun q => absurd q.1 (Nat.ne_of_beq_eq_false rfl)))))
  have b_21 : 0 ≤ (G_12.1 66 4).toInt ∧ (G_12.1 66 4).toInt ≤ 1600 := bd_66_4 hB_G_12
  have g_22 : (G_16.1 66 4).toInt = (G_12.1 66 4).toInt := (congrArg Int32.toInt (show G_16.1 66 4 = (G_12.1 66 4) from (gp_ne eG_16 (fun q => absurd q.1 (Nat.ne_of_beq_eq_false rfl)))))
  have g_23 : (G_16.1 66 6).toInt = (G_12.1 66 6).toInt := (congrArg Int32.toInt (show G_16.1 66 6 = (G_12.1 66 6) from (gp_ne eG_16 (fun q => absurd q.1 (Nat.ne_of_beq_eq_false rfl)))))
  refine S_calli (va_runV (As := [.int 0, .int 9]) (rest := [.int 1, .ref (a 86)]) ⟨hx, hb, hml, hown, hts⟩ (n_told l D k A a z G_16 0 9 ) (cwV 2 hts (gd_V hgd m1682 m1684 m62 m131 m1685) rfl rfl rfl hd_X12_toldNumber ⟨Nat.le_of_ble_eq_true rfl, Nat.le_of_ble_eq_true rfl⟩) (pre_W hW hB_G_16 hK hZ hS kd_66 rfl) rfl rfl hl.1 rfl (lv_room (Nat.le_of_ble_eq_true rfl)) dX12_readSlip_26 ⟨Nat.le_of_ble_eq_true rfl, Nat.le_of_ble_eq_true rfl⟩) hS (fun r_24 G_25 H locs hpo hW hS => ?_)
  have hX_28 : Q_told 0 9 G_16 r_24 G_25 := hpo
  obtain ⟨hB_G_25, hq_26, ⟨d_7, d_8, d_9, d_10⟩, -⟩ := hpo
  have hF := hF.call9 hq_26 rfl rfl
  refine S_iast hx hb hK hW hS kd_86 (vin (by decide) (by decide)) dX12_readSlip_29 (fun G_29 H locs eG_29 hW hS => ?_)
  have hB_G_29 : Bd G_29 := hB_G_25.put (lo := (-2147483648)) (hi := 2147483647) eG_29 rfl rfl rfl (tI_rng _).1 (tI_rng _).2 (hB_G_25.2.put eG_29 rfl)
  have hF := hF.put eG_29 (Or.inl (by decide))
  refine lv_aload_n hx hb dX12_readSlip_30 rfl (lv_at hl 0 rfl) ?_
  refine S_getR (n := 86) (C := RX12) (T := TX12) (N := 89) hx hb hg iX12 hown hK hW kd_66 rfl 34 (lt_b rfl) (hg (Cond.fieldLink RX12 72 "SlabWalkModel" "nSlips" "[I") m1348) (fun _ h9 => h9) rfl dX12_readSlip_31 ?_
  refine ic_2 hx hb dX12_readSlip_34 ?_
  refine lv_aload_n hx hb dX12_readSlip_35 rfl (lv_at hl 0 rfl) ?_
  refine lv_aload_n hx hb dX12_readSlip_36 rfl (lv_at hl 0 rfl) ?_
  refine S_getR (n := 86) (C := RX12) (T := TX12) (N := 89) hx hb hg iX12 hown hK hW kd_66 rfl 34 (lt_b rfl) (hg (Cond.fieldLink RX12 72 "SlabWalkModel" "nSlips" "[I") m1348) (fun _ h9 => h9) rfl dX12_readSlip_37 ?_
  refine ic_0 hx hb dX12_readSlip_40 ?_
  refine S_iald hx hb hK hW kd_86 (vin (by decide) (by decide)) dX12_readSlip_41 (fun y_30 ey_30 => ?_)
  have u_31 : y_30.toInt = r_11.toInt := congrArg Int32.toInt (ey_30.trans (((gp_ne eG_29 (fun q => absurd q.2 (Nat.ne_of_beq_eq_false rfl))).trans ((hq_26.i9 86 0 rfl rfl).trans (gp_eq eG_16)))))
  refine lv_aload_n hx hb dX12_readSlip_42 rfl (lv_at hl 0 rfl) ?_
  refine S_getR (n := 86) (C := RX12) (T := TX12) (N := 89) hx hb hg iX12 hown hK hW kd_66 rfl 34 (lt_b rfl) (hg (Cond.fieldLink RX12 72 "SlabWalkModel" "nSlips" "[I") m1348) (fun _ h9 => h9) rfl dX12_readSlip_43 ?_
  refine ic_1 hx hb dX12_readSlip_46 ?_
  refine S_iald hx hb hK hW kd_86 (vin (by decide) (by decide)) dX12_readSlip_47 (fun y_32 ey_32 => ?_)
  have u_33 : y_32.toInt = r_24.toInt := congrArg Int32.toInt (ey_32.trans ((gp_eq eG_29)))
  refine lv_iadd hx hb dX12_readSlip_48 ?_
  refine lv_topi (fun y_34 ey_34 => ?_)
  have u_35 := xI_addC ey_34
  refine lv_if_ne (tgt := 56) hx hb dX12_readSlip_49 rfl (fun c_36 => ?_) (fun c_36 => ?_)
  · have c_36 : y_34.toInt ≠ 0 := xI_ne rfl rfl c_36
    refine ic_0 hx hb dX12_readSlip_56 ?_
    refine lv_bipush (v := 9) hx hb dX12_readSlip_57 (by decide) ?_
    have qc_37 : (0 : Int32).toInt = 0 := rfl
    have qc_38 : (9 : Int32).toInt = 9 := rfl
    have b_39 : 0 ≤ (G_25.1 66 2).toInt ∧ (G_25.1 66 2).toInt ≤ 4 := bd_66_2 hB_G_25
    have g_40 : (G_29.1 66 2).toInt = (G_25.1 66 2).toInt := (congrArg Int32.toInt (show G_29.1 66 2 = (G_25.1 66 2) from (gp_ne eG_29 (fun q => absurd q.1 (Nat.ne_of_beq_eq_false rfl)))))
    have b_41 : 0 ≤ (G_25.1 66 4).toInt ∧ (G_25.1 66 4).toInt ≤ 1600 := bd_66_4 hB_G_25
    have g_42 : (G_29.1 66 4).toInt = (G_25.1 66 4).toInt := (congrArg Int32.toInt (show G_29.1 66 4 = (G_25.1 66 4) from (gp_ne eG_29 (fun q => absurd q.1 (Nat.ne_of_beq_eq_false rfl)))))
    have g_43 : (G_29.1 66 6).toInt = (G_25.1 66 6).toInt := (congrArg Int32.toInt (show G_29.1 66 6 = (G_25.1 66 6) from (gp_ne eG_29 (fun q => absurd q.1 (Nat.ne_of_beq_eq_false rfl)))))
    refine S_calli (va_runV (As := [.int 0, .int 9]) (rest := [.int 2, .ref (a 86)]) ⟨hx, hb, hml, hown, hts⟩ (n_told l D k A a z G_29 0 9 ) (cwV 2 hts (gd_V hgd m1682 m1684 m62 m131 m1685) rfl rfl rfl hd_X12_toldNumber ⟨Nat.le_of_ble_eq_true rfl, Nat.le_of_ble_eq_true rfl⟩) (pre_W hW hB_G_29 hK hZ hS kd_66 rfl) rfl rfl hl.1 rfl (lv_room (Nat.le_of_ble_eq_true rfl)) dX12_readSlip_59 ⟨Nat.le_of_ble_eq_true rfl, Nat.le_of_ble_eq_true rfl⟩) hS (fun r_44 G_45 H locs hpo hW hS => ?_)
    have hX_48 : Q_told 0 9 G_29 r_44 G_45 := hpo
    obtain ⟨hB_G_45, hq_46, ⟨d_11, d_12, d_13, d_14⟩, -⟩ := hpo
    have hF := hF.call9 hq_46 rfl rfl
    refine S_iast hx hb hK hW hS kd_86 (vin (by decide) (by decide)) dX12_readSlip_62 (fun G_49 H locs eG_49 hW hS => ?_)
    have hB_G_49 : Bd G_49 := hB_G_45.put (lo := (-2147483648)) (hi := 2147483647) eG_49 rfl rfl rfl (tI_rng _).1 (tI_rng _).2 (hB_G_45.2.put eG_49 rfl)
    have hF := hF.put eG_49 (Or.inl (by decide))
    have b_50 : 0 ≤ (G_45.1 66 2).toInt ∧ (G_45.1 66 2).toInt ≤ 4 := bd_66_2 hB_G_45
    have g_51 : (G_49.1 66 2).toInt = (G_45.1 66 2).toInt := (congrArg Int32.toInt (show G_49.1 66 2 = (G_45.1 66 2) from (gp_ne eG_49 (fun q => absurd q.1 (Nat.ne_of_beq_eq_false rfl)))))
    have b_52 : 0 ≤ (G_45.1 66 4).toInt ∧ (G_45.1 66 4).toInt ≤ 1600 := bd_66_4 hB_G_45
    have g_53 : (G_49.1 66 4).toInt = (G_45.1 66 4).toInt := (congrArg Int32.toInt (show G_49.1 66 4 = (G_45.1 66 4) from (gp_ne eG_49 (fun q => absurd q.1 (Nat.ne_of_beq_eq_false rfl)))))
    have g_54 : (G_49.1 66 6).toInt = (G_45.1 66 6).toInt := (congrArg Int32.toInt (show G_49.1 66 6 = (G_45.1 66 6) from (gp_ne eG_49 (fun q => absurd q.1 (Nat.ne_of_beq_eq_false rfl)))))
    have g_55 : (G_49.1 86 0).toInt = y_30.toInt := (congrArg Int32.toInt (show G_49.1 86 0 = y_30 from ((gp_ne eG_49 (fun q => absurd q.2 (Nat.ne_of_beq_eq_false rfl))).trans ((hq_46.i9 86 0 rfl rfl).trans (ey_30.symm)))))
    have g_56 : (G_49.1 86 1).toInt = y_32.toInt := (congrArg Int32.toInt (show G_49.1 86 1 = y_32 from ((gp_ne eG_49 (fun q => absurd q.2 (Nat.ne_of_beq_eq_false rfl))).trans ((hq_46.i9 86 1 rfl rfl).trans (ey_32.symm)))))
    have g_57 : (G_49.1 86 2).toInt = r_44.toInt := (congrArg Int32.toInt (show G_49.1 86 2 = r_44 from (gp_eq eG_49)))
    exact W.vret hx hb hr (fun t ht _ => ⟨⟨G_49, rfl, (Q_readSlip_mk ⟨hB_G_49, hF, ((by first | exact ⟨(by first | exact ok_981 d_1 b_10.2 d_3 g_22 d_7 g_42 d_11 b_52.1 g_53 | omega), ⟨(fun h9 => by have q0_ := d_2 (by first | (clear hnf d_2 b_8 g_9 d_4 d_5 d_6 b_19 g_20 g_23 d_8 d_9 d_10 u_31 u_33 u_35 c_36 b_39 g_40 g_43 d_12 d_13 d_14 b_50 g_51 g_54 g_55 g_56 g_57; omega) | omega); have q1_ := d_4 (by first | (clear hnf d_2 b_8 g_9 d_4 d_5 d_6 b_19 g_20 g_23 d_8 d_9 d_10 u_31 u_33 u_35 c_36 b_39 g_40 g_43 d_12 d_13 d_14 b_50 g_51 g_54 g_55 g_56 g_57; omega) | omega); have q2_ := d_8 (by first | (clear hnf d_2 b_8 g_9 d_4 d_5 d_6 b_19 g_20 g_23 d_8 d_9 d_10 u_31 u_33 u_35 c_36 b_39 g_40 g_43 d_12 d_13 d_14 b_50 g_51 g_54 g_55 g_56 g_57; omega) | omega); have r1_ : (G_12.1 66 6).toInt = (G.1 66 6).toInt ∨ (G_12.1 66 6).toInt ≤ 3 := (by (first | (clear hnf d_1 d_2 b_8 g_9 b_10 d_3 d_4 d_5 d_6 b_19 g_20 b_21 g_22 d_7 d_8 d_9 d_10 u_31 u_33 u_35 c_36 b_39 g_40 b_41 g_42 d_11 d_12 d_13 d_14 b_50 g_51 b_52 g_53 g_55 g_56 g_57; omega) | omega)); clear q1_ q0_; have q3_ := d_12 (by first | (clear hnf d_2 b_8 g_9 d_4 d_5 d_6 b_19 g_20 g_23 d_8 d_9 d_10 u_31 u_33 u_35 c_36 b_39 g_40 g_43 d_12 d_13 d_14 b_50 g_51 g_54 g_55 g_56 g_57; omega) | omega); have r2_ : (G_25.1 66 6).toInt = (G.1 66 6).toInt ∨ (G_25.1 66 6).toInt ≤ 3 := (by (first | (clear hnf d_1 d_2 b_8 g_9 b_10 d_3 d_4 d_5 d_6 b_19 g_20 b_21 g_22 d_7 d_8 d_9 d_10 u_31 u_33 u_35 c_36 b_39 g_40 b_41 g_42 d_11 d_12 d_13 d_14 b_50 g_51 b_52 g_53 g_55 g_56 g_57; omega) | omega)); clear q2_ r1_; (first | (clear hnf d_1 d_2 b_8 g_9 b_10 d_3 d_4 d_5 d_6 b_19 g_20 b_21 g_22 d_7 d_8 d_9 d_10 u_31 u_33 u_35 c_36 b_39 g_40 b_41 g_42 d_11 d_12 d_13 d_14 b_50 g_51 b_52 g_53 g_55 g_56 g_57; omega) | omega)), (fun h9 => ⟨((by first | (clear d_1 d_2 b_8 b_10 d_3 d_4 b_21 g_22 g_23 d_7 d_8 u_35 c_36 b_41 g_42 g_43 d_11 d_12 b_52 g_53 g_54; omega) | omega)), ⟨((by first | (clear d_1 d_2 b_8 b_10 d_3 d_4 b_21 g_22 g_23 d_7 d_8 u_35 c_36 b_41 g_42 g_43 d_11 d_12 b_52 g_53 g_54; omega) | omega)), ⟨((by first | (clear hnf d_1 d_2 b_8 g_9 b_10 d_3 d_4 d_5 d_6 b_19 b_21 g_22 g_23 d_7 d_8 u_31 u_35 c_36 b_41 g_42 g_43 d_11 d_12 b_52 g_53 g_54 g_55; omega) | omega)), ⟨((by first | (clear hnf d_1 d_2 b_8 g_9 b_10 d_3 d_4 d_5 d_6 b_19 b_21 g_22 g_23 d_7 d_8 u_31 u_35 c_36 b_41 g_42 g_43 d_11 d_12 b_52 g_53 g_54 g_55; omega) | omega)), ⟨(by first | exact ok_982 qc_6 d_14 b_50.1 b_50.2 g_51 g_57 h9 | omega), ⟨(by first | exact ok_983 qc_7 d_14 b_50.1 b_50.2 g_51 g_57 h9 | omega), ((by first | (clear d_1 d_2 b_8 b_10 d_3 d_4 b_21 g_22 g_23 d_7 d_8 u_35 c_36 b_41 g_42 g_43 d_11 d_12 b_52 g_53 g_54; omega) | omega))⟩⟩⟩⟩⟩⟩)⟩⟩ | omega)), ⟨G_2, hX_5, ⟨r_11, G_12, hX_15, ⟨G_16, hB_G_16, (Fr.put (rs := [86]) (fs := []) Fr.rf eG_16 (Or.inl (by decide))), rw_ast eG_16, ⟨r_24, G_25, hX_28, ⟨y_30, ey_30.trans (congrFun (rw_ast eG_29) _), ⟨y_32, ey_32.trans (congrFun (rw_ast eG_29) _), ⟨y_34, ey_34, (Or.inr ⟨c_36, ⟨G_29, hB_G_29, (Fr.put (rs := [86]) (fs := []) Fr.rf eG_29 (Or.inl (by decide))), rw_ast eG_29, ⟨r_44, G_45, hX_48, ⟨(Fr.put (rs := [86]) (fs := []) Fr.rf eG_49 (Or.inl (by decide))), rw_ast eG_49⟩⟩⟩⟩)⟩⟩⟩⟩⟩⟩⟩⟩), wd_t ht hW⟩, hS.F ht⟩) hS.2.2 dX12_readSlip_63
  · have c_36 : y_34.toInt = 0 := xI_eq rfl rfl c_36
    refine ic_1 hx hb dX12_readSlip_52 ?_
    refine lv_goto (tgt := 57) hx hb dX12_readSlip_53 rfl ?_
    refine lv_bipush (v := 9) hx hb dX12_readSlip_57 (by decide) ?_
    have qc_58 : (1 : Int32).toInt = 1 := rfl
    have qc_59 : (9 : Int32).toInt = 9 := rfl
    have b_60 : 0 ≤ (G_25.1 66 2).toInt ∧ (G_25.1 66 2).toInt ≤ 4 := bd_66_2 hB_G_25
    have g_61 : (G_29.1 66 2).toInt = (G_25.1 66 2).toInt := (congrArg Int32.toInt (show G_29.1 66 2 = (G_25.1 66 2) from (gp_ne eG_29 (fun q => absurd q.1 (Nat.ne_of_beq_eq_false rfl)))))
    have b_62 : 0 ≤ (G_25.1 66 4).toInt ∧ (G_25.1 66 4).toInt ≤ 1600 := bd_66_4 hB_G_25
    have g_63 : (G_29.1 66 4).toInt = (G_25.1 66 4).toInt := (congrArg Int32.toInt (show G_29.1 66 4 = (G_25.1 66 4) from (gp_ne eG_29 (fun q => absurd q.1 (Nat.ne_of_beq_eq_false rfl)))))
    have g_64 : (G_29.1 66 6).toInt = (G_25.1 66 6).toInt := (congrArg Int32.toInt (show G_29.1 66 6 = (G_25.1 66 6) from (gp_ne eG_29 (fun q => absurd q.1 (Nat.ne_of_beq_eq_false rfl)))))
    refine S_calli (va_runV (As := [.int 1, .int 9]) (rest := [.int 2, .ref (a 86)]) ⟨hx, hb, hml, hown, hts⟩ (n_told l D k A a z G_29 1 9 ) (cwV 2 hts (gd_V hgd m1682 m1684 m62 m131 m1685) rfl rfl rfl hd_X12_toldNumber ⟨Nat.le_of_ble_eq_true rfl, Nat.le_of_ble_eq_true rfl⟩) (pre_W hW hB_G_29 hK hZ hS kd_66 rfl) rfl rfl hl.1 rfl (lv_room (Nat.le_of_ble_eq_true rfl)) dX12_readSlip_59 ⟨Nat.le_of_ble_eq_true rfl, Nat.le_of_ble_eq_true rfl⟩) hS (fun r_65 G_66 H locs hpo hW hS => ?_)
    have hX_69 : Q_told 1 9 G_29 r_65 G_66 := hpo
    obtain ⟨hB_G_66, hq_67, ⟨d_15, d_16, d_17, d_18⟩, -⟩ := hpo
    have hF := hF.call9 hq_67 rfl rfl
    refine S_iast hx hb hK hW hS kd_86 (vin (by decide) (by decide)) dX12_readSlip_62 (fun G_70 H locs eG_70 hW hS => ?_)
    have hB_G_70 : Bd G_70 := hB_G_66.put (lo := (-2147483648)) (hi := 2147483647) eG_70 rfl rfl rfl (tI_rng _).1 (tI_rng _).2 (hB_G_66.2.put eG_70 rfl)
    have hF := hF.put eG_70 (Or.inl (by decide))
    have b_71 : 0 ≤ (G_66.1 66 2).toInt ∧ (G_66.1 66 2).toInt ≤ 4 := bd_66_2 hB_G_66
    have g_72 : (G_70.1 66 2).toInt = (G_66.1 66 2).toInt := (congrArg Int32.toInt (show G_70.1 66 2 = (G_66.1 66 2) from (gp_ne eG_70 (fun q => absurd q.1 (Nat.ne_of_beq_eq_false rfl)))))
    have b_73 : 0 ≤ (G_66.1 66 4).toInt ∧ (G_66.1 66 4).toInt ≤ 1600 := bd_66_4 hB_G_66
    have g_74 : (G_70.1 66 4).toInt = (G_66.1 66 4).toInt := (congrArg Int32.toInt (show G_70.1 66 4 = (G_66.1 66 4) from (gp_ne eG_70 (fun q => absurd q.1 (Nat.ne_of_beq_eq_false rfl)))))
    have g_75 : (G_70.1 66 6).toInt = (G_66.1 66 6).toInt := (congrArg Int32.toInt (show G_70.1 66 6 = (G_66.1 66 6) from (gp_ne eG_70 (fun q => absurd q.1 (Nat.ne_of_beq_eq_false rfl)))))
    have g_76 : (G_70.1 86 0).toInt = y_30.toInt := (congrArg Int32.toInt (show G_70.1 86 0 = y_30 from ((gp_ne eG_70 (fun q => absurd q.2 (Nat.ne_of_beq_eq_false rfl))).trans ((hq_67.i9 86 0 rfl rfl).trans (ey_30.symm)))))
    have g_77 : (G_70.1 86 1).toInt = y_32.toInt := (congrArg Int32.toInt (show G_70.1 86 1 = y_32 from ((gp_ne eG_70 (fun q => absurd q.2 (Nat.ne_of_beq_eq_false rfl))).trans ((hq_67.i9 86 1 rfl rfl).trans (ey_32.symm)))))
    have g_78 : (G_70.1 86 2).toInt = r_65.toInt := (congrArg Int32.toInt (show G_70.1 86 2 = r_65 from (gp_eq eG_70)))
    exact W.vret hx hb hr (fun t ht _ => ⟨⟨G_70, rfl, (Q_readSlip_mk ⟨hB_G_70, hF, ((by first | exact ⟨(by first | exact ok_981 d_1 b_10.2 d_3 g_22 d_7 g_63 d_15 b_73.1 g_74 | omega), ⟨(fun h9 => by have q0_ := d_2 (by first | (clear hnf d_2 b_8 g_9 d_4 d_5 d_6 b_19 g_20 g_23 d_8 d_9 d_10 u_31 u_33 u_35 c_36 b_60 g_61 g_64 d_16 d_17 d_18 b_71 g_72 g_75 g_76 g_77 g_78; omega) | omega); have q1_ := d_4 (by first | (clear hnf d_2 b_8 g_9 d_4 d_5 d_6 b_19 g_20 g_23 d_8 d_9 d_10 u_31 u_33 u_35 c_36 b_60 g_61 g_64 d_16 d_17 d_18 b_71 g_72 g_75 g_76 g_77 g_78; omega) | omega); have q2_ := d_8 (by first | (clear hnf d_2 b_8 g_9 d_4 d_5 d_6 b_19 g_20 g_23 d_8 d_9 d_10 u_31 u_33 u_35 c_36 b_60 g_61 g_64 d_16 d_17 d_18 b_71 g_72 g_75 g_76 g_77 g_78; omega) | omega); have r1_ : (G_12.1 66 6).toInt = (G.1 66 6).toInt ∨ (G_12.1 66 6).toInt ≤ 3 := (by (first | (clear hnf d_1 d_2 b_8 g_9 b_10 d_3 d_4 d_5 d_6 b_19 g_20 b_21 g_22 d_7 d_8 d_9 d_10 u_31 u_33 u_35 c_36 b_60 g_61 b_62 g_63 d_15 d_16 d_17 d_18 b_71 g_72 b_73 g_74 g_76 g_77 g_78; omega) | omega)); clear q1_ q0_; have q3_ := d_16 (by first | (clear hnf d_2 b_8 g_9 d_4 d_5 d_6 b_19 g_20 g_23 d_8 d_9 d_10 u_31 u_33 u_35 c_36 b_60 g_61 g_64 d_16 d_17 d_18 b_71 g_72 g_75 g_76 g_77 g_78; omega) | omega); have r2_ : (G_25.1 66 6).toInt = (G.1 66 6).toInt ∨ (G_25.1 66 6).toInt ≤ 3 := (by (first | (clear hnf d_1 d_2 b_8 g_9 b_10 d_3 d_4 d_5 d_6 b_19 g_20 b_21 g_22 d_7 d_8 d_9 d_10 u_31 u_33 u_35 c_36 b_60 g_61 b_62 g_63 d_15 d_16 d_17 d_18 b_71 g_72 b_73 g_74 g_76 g_77 g_78; omega) | omega)); clear q2_ r1_; (first | (clear hnf d_1 d_2 b_8 g_9 b_10 d_3 d_4 d_5 d_6 b_19 g_20 b_21 g_22 d_7 d_8 d_9 d_10 u_31 u_33 u_35 c_36 b_60 g_61 b_62 g_63 d_15 d_16 d_17 d_18 b_71 g_72 b_73 g_74 g_76 g_77 g_78; omega) | omega)), (fun h9 => ⟨((by first | (clear d_1 d_2 b_8 b_10 d_3 d_4 b_21 g_22 g_23 d_7 d_8 u_35 c_36 b_62 g_63 g_64 d_15 d_16 b_73 g_74 g_75; omega) | omega)), ⟨((by first | (clear d_1 d_2 b_8 b_10 d_3 d_4 b_21 g_22 g_23 d_7 d_8 u_35 c_36 b_62 g_63 g_64 d_15 d_16 b_73 g_74 g_75; omega) | omega)), ⟨((by first | (clear hnf d_1 d_2 b_8 g_9 b_10 d_3 d_4 d_5 d_6 b_19 b_21 g_22 g_23 d_7 d_8 u_31 u_35 c_36 b_62 g_63 g_64 d_15 d_16 b_73 g_74 g_75 g_76; omega) | omega)), ⟨((by first | (clear hnf d_1 d_2 b_8 g_9 b_10 d_3 d_4 d_5 d_6 b_19 b_21 g_22 g_23 d_7 d_8 u_31 u_35 c_36 b_62 g_63 g_64 d_15 d_16 b_73 g_74 g_75 g_76; omega) | omega)), ⟨(by first | exact ok_984 qc_58 d_18 b_71.1 b_71.2 g_72 g_78 h9 | omega), ⟨(by first | exact ok_983 qc_7 d_18 b_71.1 b_71.2 g_72 g_78 h9 | omega), ((by first | (clear d_1 d_2 b_8 b_10 d_3 d_4 b_21 g_22 g_23 d_7 d_8 u_35 c_36 b_62 g_63 g_64 d_15 d_16 b_73 g_74 g_75; omega) | omega))⟩⟩⟩⟩⟩⟩)⟩⟩ | omega)), ⟨G_2, hX_5, ⟨r_11, G_12, hX_15, ⟨G_16, hB_G_16, (Fr.put (rs := [86]) (fs := []) Fr.rf eG_16 (Or.inl (by decide))), rw_ast eG_16, ⟨r_24, G_25, hX_28, ⟨y_30, ey_30.trans (congrFun (rw_ast eG_29) _), ⟨y_32, ey_32.trans (congrFun (rw_ast eG_29) _), ⟨y_34, ey_34, (Or.inl ⟨c_36, ⟨G_29, hB_G_29, (Fr.put (rs := [86]) (fs := []) Fr.rf eG_29 (Or.inl (by decide))), rw_ast eG_29, ⟨r_65, G_66, hX_69, ⟨(Fr.put (rs := [86]) (fs := []) Fr.rf eG_70 (Or.inl (by decide))), rw_ast eG_70⟩⟩⟩⟩)⟩⟩⟩⟩⟩⟩⟩⟩), wd_t ht hW⟩, hS.F ht⟩) hS.2.2 dX12_readSlip_63

set_option maxHeartbeats 4000000 in
set_option maxRecDepth 100000 in
theorem n_isOnce (l : Launch) (D : va_G) (k : KT) (A : Nat → Prop) (a : Nat → Nat) (z : SK) (G : GS) (p0 : Int64) (p1 : Int32)  : Met l yX12_isOnce (WS yX12_isOnce cX12_isOnce 4 (some .boolean)) ({ frames := 1, cells := 0, slots := 0, locals := 22 }) (va_Pc [.ref (a 66), .long p0, .int p1] (cW D k A a z G)) (va_Qi (fun (r : Int32) (G1 : GS) => Q_isOnce p0 p1 G r G1) (fun (G1 : GS) t => Wd D k A a G1 t.heap) A) 0 0 A := by
  refine Met.ofW (cc := cX12_isOnce) (maxL := 4) (ret := (some .boolean)) (by decide) rfl ?_
  intro p e s m args below meth c s₁ B hml hv
  obtain ⟨rfl, hW, hB_G, hK, hZ⟩ := hv
  have hx := B.exec
  have hb := B.bytes
  have hr := B.returns
  have hts := atoms_spec (ws := WS yX12_isOnce cX12_isOnce 4 (some .boolean)) B.pre
  have hgd : ∀ w ∈ gd, w ∈ WS yX12_isOnce cX12_isOnce 4 (some .boolean) := fun w h => List.mem_cons_of_mem _ h
  have hg : ∀ w ∈ gd, w.before _ s = true := fun w h => hts w (hgd w h)
  have hown : s.vm.findClass RX12 = some m.cls := findClass_of_methodNamed B.named
  have hS : va_S A s.heap s.heap [] := va_S.rf
  have hF : Fr [] [] G G := Fr.rf
  have hl := lv_entry ([.ref (a 66), .long p0, .int p1]) (n := 4) (Nat.le_of_ble_eq_true rfl)
  rw [lg_entry_eq]
  generalize (lg_sl ([.ref (a 66), .long p0, .int p1]) ++ List.replicate (4 - (lg_sl ([.ref (a 66), .long p0, .int p1])).length) Slot.unset).toArray = ls at hl ⊢
  have hl : lv_has ls 4 [(0, .ref (a 66)), (1, .long p0), (3, .int p1)] := hl
  refine lv_aload_n hx hb dX12_isOnce_0 rfl (lv_at hl 0 rfl) ?_
  refine lv_lload_n hx hb dX12_isOnce_1 rfl (lv_at hl 1 rfl) ?_
  refine S_calli (va_runV (As := [.long p0]) (rest := []) ⟨hx, hb, hml, hown, hts⟩ (n_isWord l D k A a z G p0 ) (cwV 1 hts (gd_V hgd m1624 m1626 m53 m131 m1627) rfl rfl rfl hd_X12_isWord ⟨Nat.le_of_ble_eq_true rfl, Nat.le_of_ble_eq_true rfl⟩) (pre_W hW hB_G hK hZ hS kd_66 rfl) rfl rfl hl.1 rfl (lv_room (Nat.le_of_ble_eq_true rfl)) dX12_isOnce_2 ⟨Nat.le_of_ble_eq_true rfl, Nat.le_of_ble_eq_true rfl⟩) hS (fun r_1 G_2 H locs hpo hW hS => ?_)
  have hX_5 : Q_isWord p0 G r_1 G_2 := hpo
  obtain ⟨hB_G_2, hq_3, f_6, hp_4, -⟩ := hpo
  have hF := hF.call9 hq_3 rfl rfl
  refine lv_if_eq (tgt := 21) hx hb dX12_isOnce_5 rfl (fun c_7 => ?_) (fun c_7 => ?_)
  · have c_7 : r_1.toInt = 0 := xI_eq rfl rfl c_7
    refine ic_0 hx hb dX12_isOnce_21 ?_
    exact W.zret (v := 0) hx hb hr (by decide) (fun t ht _ => ⟨⟨0, G_2, rfl, (Q_isOnce_mk ⟨hB_G_2, hF, ⟨by decide, by decide⟩, (by have hq : (0 : Int32).toInt = 0 := rfl; (try dsimp only); omega), ⟨r_1, G_2, hX_5, (Or.inl ⟨c_7, ⟨rfl, rfl⟩⟩)⟩⟩), wd_t ht hW⟩, hS.F ht⟩) hS.2.2 dX12_isOnce_22
  · have c_7 : r_1.toInt ≠ 0 := xI_ne rfl rfl c_7
    refine lv_aload_n hx hb dX12_isOnce_8 rfl (lv_at hl 0 rfl) ?_
    refine S_getI (v := (G.1 66 51)) (C := RX12) (T := TX12) (N := 89) hx hb hg iX12 hown hK hW kd_66 rfl 51 (lt_b rfl) (hg (Cond.fieldLink RX12 391 "SlabWalkModel" "nOnce" "I") m1365) (fun _ h9 => h9) rfl (hq_3.i9 66 51 rfl rfl) dX12_isOnce_9 ?_
    refine lv_iload_n hx hb dX12_isOnce_12 rfl (lv_at hl 2 rfl) ?_
    refine lv_iand hx hb dX12_isOnce_13 ?_
    refine lv_topi (fun y_8 ey_8 => ?_)
    refine lv_if_ne (tgt := 21) hx hb dX12_isOnce_14 rfl (fun c_9 => ?_) (fun c_9 => ?_)
    · have c_9 : y_8.toInt ≠ 0 := xI_ne rfl rfl c_9
      refine ic_0 hx hb dX12_isOnce_21 ?_
      exact W.zret (v := 0) hx hb hr (by decide) (fun t ht _ => ⟨⟨0, G_2, rfl, (Q_isOnce_mk ⟨hB_G_2, hF, ⟨by decide, by decide⟩, (by have hq : (0 : Int32).toInt = 0 := rfl; (try dsimp only); omega), ⟨r_1, G_2, hX_5, (Or.inr ⟨c_7, ⟨y_8, ey_8, (Or.inr ⟨c_9, ⟨rfl, rfl⟩⟩)⟩⟩)⟩⟩), wd_t ht hW⟩, hS.F ht⟩) hS.2.2 dX12_isOnce_22
    · have c_9 : y_8.toInt = 0 := xI_eq rfl rfl c_9
      refine ic_1 hx hb dX12_isOnce_17 ?_
      refine lv_goto (tgt := 22) hx hb dX12_isOnce_18 rfl ?_
      exact W.zret (v := 1) hx hb hr (by decide) (fun t ht _ => ⟨⟨1, G_2, rfl, (Q_isOnce_mk ⟨hB_G_2, hF, ⟨by decide, by decide⟩, (by have hq : (1 : Int32).toInt = 1 := rfl; (try dsimp only); omega), ⟨r_1, G_2, hX_5, (Or.inr ⟨c_7, ⟨y_8, ey_8, (Or.inl ⟨c_9, ⟨rfl, rfl⟩⟩)⟩⟩)⟩⟩), wd_t ht hW⟩, hS.F ht⟩) hS.2.2 dX12_isOnce_22

set_option maxHeartbeats 4000000 in
set_option maxRecDepth 100000 in
theorem n_readLine (l : Launch) (D : va_G) (k : KT) (A : Nat → Prop) (a : Nat → Nat) (z : SK) (G : GS)  (hnf : (G.1 66 2).toInt = 0) (hE9 : gE G = 1) (hN9 : gN G = 1) (hS9 : 0 ≤ (G.1 86 0).toInt ∧ (G.1 86 0).toInt ≤ 9 ∧ 0 ≤ (G.1 86 1).toInt ∧ (G.1 86 1).toInt ≤ 9 ∧ 0 ≤ (G.1 86 2).toInt ∧ (G.1 86 2).toInt ≤ 9 ∧ 1 ≤ (G.1 86 0).toInt + (G.1 86 1).toInt + (G.1 86 2).toInt) : Met l yX12_readLine (WS yX12_readLine cX12_readLine 1 none) ({ frames := 6, cells := 0, slots := 0, locals := 129 }) (va_Pc [.ref (a 66)] (cW D k A a z G)) (va_Qv (fun (G1 : GS) => Q_readLine G G1) (fun (G1 : GS) t => Wd D k A a G1 t.heap) A) 0 0 A := by
  refine Met.ofW (cc := cX12_readLine) (maxL := 1) (ret := none) (by decide) rfl ?_
  intro p e s m args below meth c s₁ B hml hv
  obtain ⟨rfl, hW, hB_G, hK, hZ⟩ := hv
  have hx := B.exec
  have hb := B.bytes
  have hr := B.returns
  have hts := atoms_spec (ws := WS yX12_readLine cX12_readLine 1 none) B.pre
  have hgd : ∀ w ∈ gd, w ∈ WS yX12_readLine cX12_readLine 1 none := fun w h => List.mem_cons_of_mem _ h
  have hg : ∀ w ∈ gd, w.before _ s = true := fun w h => hts w (hgd w h)
  have hown : s.vm.findClass RX12 = some m.cls := findClass_of_methodNamed B.named
  have hS : va_S A s.heap s.heap [] := va_S.rf
  have hF : Fr [68, 69, 70, 71, 75, 77, 78, 79, 80, 81, 82, 83, 84, 85, 86] [(66, 2), (66, 3), (66, 4), (66, 6), (66, 7), (66, 8), (66, 9), (66, 19), (66, 20), (66, 21), (66, 23), (66, 24), (66, 45), (66, 46), (66, 47), (66, 48), (66, 49), (66, 50), (66, 51)] G G := Fr.rf
  have hl := lv_entry ([.ref (a 66)]) (n := 1) (Nat.le_of_ble_eq_true rfl)
  rw [lg_entry_eq]
  generalize (lg_sl ([.ref (a 66)]) ++ List.replicate (1 - (lg_sl ([.ref (a 66)])).length) Slot.unset).toArray = ls at hl ⊢
  have hl : lv_has ls 1 [(0, .ref (a 66))] := hl
  refine lv_aload_n hx hb dX12_readLine_0 rfl (lv_at hl 0 rfl) ?_
  refine lv_ldc2 (v := 126943972648308) hx hb hown (hg (Cond.constantLong RX12 221 126943972648308) m1623) dX12_readLine_1 ?_
  refine S_calli (va_runV (As := [.long 126943972648308]) (rest := []) ⟨hx, hb, hml, hown, hts⟩ (n_isWord l D k A a z G 126943972648308 ) (cwV 1 hts (gd_V hgd m1624 m1626 m53 m131 m1627) rfl rfl rfl hd_X12_isWord ⟨Nat.le_of_ble_eq_true rfl, Nat.le_of_ble_eq_true rfl⟩) (pre_W hW hB_G hK hZ hS kd_66 rfl) rfl rfl hl.1 rfl (lv_room (Nat.le_of_ble_eq_true rfl)) dX12_readLine_4 ⟨Nat.le_of_ble_eq_true rfl, Nat.le_of_ble_eq_true rfl⟩) hS (fun r_1 G_2 H locs hpo hW hS => ?_)
  have hX_5 : Q_isWord 126943972648308 G r_1 G_2 := hpo
  obtain ⟨hB_G_2, hq_3, f_6, hp_4, -⟩ := hpo
  have hF := hF.call9 hq_3 rfl rfl
  refine W.cut (σ := Unit) (pcJ := 25) (J := fun y H locs ls => ∃ (G_8 : GS), Jn_n_readLine_1 r_1 G G_2 G_8 ∧ Wd D k A a G_8 H ∧ Bd G_8 ∧ Fr [68, 69, 70, 71, 75, 77, 78, 79, 80, 81, 82, 83, 84, 85, 86] [(66, 2), (66, 3), (66, 4), (66, 6), (66, 7), (66, 8), (66, 9), (66, 19), (66, 20), (66, 21), (66, 23), (66, 24), (66, 45), (66, 46), (66, 47), (66, 48), (66, 49), (66, 50), (66, 51)] G G_8 ∧ Fr [] [] G_2 G_8 ∧ va_S A s.heap H locs ∧ lv_has ls 1 [(0, .ref (a 66))]) (stJ := fun _ => []) ?_ (fun hJ_9 => ?_)
  · intro y H locs ls hI
    obtain ⟨G_8, hX_11, hW, hB_G_8, hF, hq_10, hS, hl⟩ := hI
    refine lv_aload_n hx hb dX12_readLine_25 rfl (lv_at hl 0 rfl) ?_
    refine lv_ldc2 (v := 131260314510706) hx hb hown (hg (Cond.constantLong RX12 225 131260314510706) m1645) dX12_readLine_26 ?_
    have g_12 : (G_8.1 66 6).toInt = (G.1 66 6).toInt := (congrArg Int32.toInt (show G_8.1 66 6 = (G.1 66 6) from ((hq_10.i9 66 6 rfl rfl).trans (hq_3.i9 66 6 rfl rfl))))
    refine S_calli (va_runV (As := [.long 131260314510706]) (rest := []) ⟨hx, hb, hml, hown, hts⟩ (n_isWord l D k A a z G_8 131260314510706 ) (cwV 1 hts (gd_V hgd m1624 m1626 m53 m131 m1627) rfl rfl rfl hd_X12_isWord ⟨Nat.le_of_ble_eq_true rfl, Nat.le_of_ble_eq_true rfl⟩) (pre_W hW hB_G_8 hK hZ hS kd_66 rfl) rfl rfl hl.1 rfl (lv_room (Nat.le_of_ble_eq_true rfl)) dX12_readLine_29 ⟨Nat.le_of_ble_eq_true rfl, Nat.le_of_ble_eq_true rfl⟩) hS (fun r_13 G_14 H locs hpo hW hS => ?_)
    have hX_17 : Q_isWord 131260314510706 G_8 r_13 G_14 := hpo
    obtain ⟨hB_G_14, hq_15, f_18, hp_16, -⟩ := hpo
    have hF := hF.call9 hq_15 rfl rfl
    refine W.cut (σ := Unit) (pcJ := 50) (J := fun y H locs ls => ∃ (G_20 : GS), Jn_n_readLine_2 r_13 G G_14 G_20 ∧ Wd D k A a G_20 H ∧ Bd G_20 ∧ Fr [68, 69, 70, 71, 75, 77, 78, 79, 80, 81, 82, 83, 84, 85, 86] [(66, 2), (66, 3), (66, 4), (66, 6), (66, 7), (66, 8), (66, 9), (66, 19), (66, 20), (66, 21), (66, 23), (66, 24), (66, 45), (66, 46), (66, 47), (66, 48), (66, 49), (66, 50), (66, 51)] G G_20 ∧ Fr [] [] G_14 G_20 ∧ va_S A s.heap H locs ∧ lv_has ls 1 [(0, .ref (a 66))]) (stJ := fun _ => []) ?_ (fun hJ_21 => ?_)
    · intro y H locs ls hI
      obtain ⟨G_20, hX_23, hW, hB_G_20, hF, hq_22, hS, hl⟩ := hI
      refine lv_aload_n hx hb dX12_readLine_50 rfl (lv_at hl 0 rfl) ?_
      refine lv_ldc2 (v := 1920298085) hx hb hown (hg (Cond.constantLong RX12 235 1920298085) m1650) dX12_readLine_51 ?_
      have g_24 : (G_20.1 66 6).toInt = (G.1 66 6).toInt := (congrArg Int32.toInt (show G_20.1 66 6 = (G.1 66 6) from ((hq_22.i9 66 6 rfl rfl).trans ((hq_15.i9 66 6 rfl rfl).trans ((hq_10.i9 66 6 rfl rfl).trans ((hq_3.i9 66 6 rfl rfl).trans (rfl)))))))
      refine S_calli (va_runV (As := [.long 1920298085]) (rest := []) ⟨hx, hb, hml, hown, hts⟩ (n_isWord l D k A a z G_20 1920298085 ) (cwV 1 hts (gd_V hgd m1624 m1626 m53 m131 m1627) rfl rfl rfl hd_X12_isWord ⟨Nat.le_of_ble_eq_true rfl, Nat.le_of_ble_eq_true rfl⟩) (pre_W hW hB_G_20 hK hZ hS kd_66 rfl) rfl rfl hl.1 rfl (lv_room (Nat.le_of_ble_eq_true rfl)) dX12_readLine_54 ⟨Nat.le_of_ble_eq_true rfl, Nat.le_of_ble_eq_true rfl⟩) hS (fun r_25 G_26 H locs hpo hW hS => ?_)
      have hX_29 : Q_isWord 1920298085 G_20 r_25 G_26 := hpo
      obtain ⟨hB_G_26, hq_27, f_30, hp_28, -⟩ := hpo
      have hF := hF.call9 hq_27 rfl rfl
      refine W.cut (σ := Unit) (pcJ := 76) (J := fun y H locs ls => ∃ (G_32 : GS), Jn_n_readLine_3 r_25 G G_26 G_32 ∧ Wd D k A a G_32 H ∧ Bd G_32 ∧ Fr [68, 69, 70, 71, 75, 77, 78, 79, 80, 81, 82, 83, 84, 85, 86] [(66, 2), (66, 3), (66, 4), (66, 6), (66, 7), (66, 8), (66, 9), (66, 19), (66, 20), (66, 21), (66, 23), (66, 24), (66, 45), (66, 46), (66, 47), (66, 48), (66, 49), (66, 50), (66, 51)] G G_32 ∧ Fr [] [] G_26 G_32 ∧ va_S A s.heap H locs ∧ lv_has ls 1 [(0, .ref (a 66))]) (stJ := fun _ => []) ?_ (fun hJ_33 => ?_)
      · intro y H locs ls hI
        obtain ⟨G_32, hX_35, hW, hB_G_32, hF, hq_34, hS, hl⟩ := hI
        refine lv_aload_n hx hb dX12_readLine_76 rfl (lv_at hl 0 rfl) ?_
        refine lv_ldc2 (v := 1936484720) hx hb hown (hg (Cond.constantLong RX12 237 1936484720) m1651) dX12_readLine_77 ?_
        refine ic_1 hx hb dX12_readLine_80 ?_
        have qc_36 : (1 : Int32).toInt = 1 := rfl
        have g_37 : (G_32.1 66 6).toInt = (G.1 66 6).toInt := (congrArg Int32.toInt (show G_32.1 66 6 = (G.1 66 6) from ((hq_34.i9 66 6 rfl rfl).trans ((hq_27.i9 66 6 rfl rfl).trans ((hq_22.i9 66 6 rfl rfl).trans ((hq_15.i9 66 6 rfl rfl).trans ((hq_10.i9 66 6 rfl rfl).trans ((hq_3.i9 66 6 rfl rfl).trans (rfl)))))))))
        refine S_calli (va_runV (As := [.long 1936484720, .int 1]) (rest := []) ⟨hx, hb, hml, hown, hts⟩ (n_isOnce l D k A a z G_32 1936484720 1 ) (cwV 2 hts (gd_V hgd m1761 m1763 m81 m131 m1764) rfl rfl rfl hd_X12_isOnce ⟨Nat.le_of_ble_eq_true rfl, Nat.le_of_ble_eq_true rfl⟩) (pre_W hW hB_G_32 hK hZ hS kd_66 rfl) rfl rfl hl.1 rfl (lv_room (Nat.le_of_ble_eq_true rfl)) dX12_readLine_81 ⟨Nat.le_of_ble_eq_true rfl, Nat.le_of_ble_eq_true rfl⟩) hS (fun r_38 G_39 H locs hpo hW hS => ?_)
        have hX_42 : Q_isOnce 1936484720 1 G_32 r_38 G_39 := hpo
        obtain ⟨hB_G_39, hq_40, f_43, hp_41, -⟩ := hpo
        have hF := hF.call9 hq_40 rfl rfl
        refine W.cut (σ := Unit) (pcJ := 200) (J := fun y H locs ls => ∃ (G_45 : GS), ((G.1 66 4).toInt ≤ (G_45.1 66 4).toInt ∧ ((G_45.1 66 4).toInt = (G.1 66 4).toInt → (G_45.1 66 6).toInt = (G.1 66 6).toInt ∨ (G_45.1 66 6).toInt ≤ 3)) ∧ ((G_45.1 66 2).toInt = 0 → (G.1 66 6).toInt = 1 ∧ gE G_45 = 1 ∧ gN G_45 = 1 ∧ 0 ≤ (G_45.1 86 0).toInt ∧ (G_45.1 86 0).toInt ≤ 9 ∧ 0 ≤ (G_45.1 86 1).toInt ∧ (G_45.1 86 1).toInt ≤ 9 ∧ 0 ≤ (G_45.1 86 2).toInt ∧ (G_45.1 86 2).toInt ≤ 9 ∧ 1 ≤ (G_45.1 86 0).toInt + (G_45.1 86 1).toInt + (G_45.1 86 2).toInt) ∧ Jn_n_readLine_4 r_38 G G_39 G_45 ∧ Wd D k A a G_45 H ∧ Bd G_45 ∧ Fr [68, 69, 70, 71, 75, 77, 78, 79, 80, 81, 82, 83, 84, 85, 86] [(66, 2), (66, 3), (66, 4), (66, 6), (66, 7), (66, 8), (66, 9), (66, 19), (66, 20), (66, 21), (66, 23), (66, 24), (66, 45), (66, 46), (66, 47), (66, 48), (66, 49), (66, 50), (66, 51)] G G_45 ∧ Fr [86] [(66, 2), (66, 3), (66, 4), (66, 6), (66, 7), (66, 8), (66, 9), (66, 48), (66, 49), (66, 50), (66, 51)] G_39 G_45 ∧ va_S A s.heap H locs ∧ lv_has ls 1 [(0, .ref (a 66))]) (stJ := fun _ => []) ?_ (fun hJ_46 => ?_)
        · intro y H locs ls hI
          obtain ⟨G_45, f_49, f_50, hX_48, hW, hB_G_45, hF, hq_47, hS, hl⟩ := hI
          have d_1 := f_49.1
          have d_2 := f_49.2
          have b_51 : 0 ≤ (G_45.1 66 4).toInt ∧ (G_45.1 66 4).toInt ≤ 1600 := bd_66_4 hB_G_45
          have fr_52 : Fr [86] [(66, 2), (66, 3), (66, 4), (66, 6), (66, 7), (66, 8), (66, 9), (66, 48), (66, 49), (66, 50), (66, 51)] G G_45 := (Fr.call9 (rs := [86]) (fs := [(66, 2), (66, 3), (66, 4), (66, 6), (66, 7), (66, 8), (66, 9), (66, 48), (66, 49), (66, 50), (66, 51)]) (Fr.call9 (rs := [86]) (fs := [(66, 2), (66, 3), (66, 4), (66, 6), (66, 7), (66, 8), (66, 9), (66, 48), (66, 49), (66, 50), (66, 51)]) (Fr.call9 (rs := [86]) (fs := [(66, 2), (66, 3), (66, 4), (66, 6), (66, 7), (66, 8), (66, 9), (66, 48), (66, 49), (66, 50), (66, 51)]) (Fr.call9 (rs := [86]) (fs := [(66, 2), (66, 3), (66, 4), (66, 6), (66, 7), (66, 8), (66, 9), (66, 48), (66, 49), (66, 50), (66, 51)]) (Fr.call9 (rs := [86]) (fs := [(66, 2), (66, 3), (66, 4), (66, 6), (66, 7), (66, 8), (66, 9), (66, 48), (66, 49), (66, 50), (66, 51)]) (Fr.call9 (rs := [86]) (fs := [(66, 2), (66, 3), (66, 4), (66, 6), (66, 7), (66, 8), (66, 9), (66, 48), (66, 49), (66, 50), (66, 51)]) (Fr.call9 (rs := [86]) (fs := [(66, 2), (66, 3), (66, 4), (66, 6), (66, 7), (66, 8), (66, 9), (66, 48), (66, 49), (66, 50), (66, 51)]) (Fr.call9 (rs := [86]) (fs := [(66, 2), (66, 3), (66, 4), (66, 6), (66, 7), (66, 8), (66, 9), (66, 48), (66, 49), (66, 50), (66, 51)]) Fr.rf hq_3 rfl rfl) hq_10 rfl rfl) hq_15 rfl rfl) hq_22 rfl rfl) hq_27 rfl rfl) hq_34 rfl rfl) hq_40 rfl rfl) hq_47 rfl rfl)
          have g_53 : gE G_45 = gE G := gE_fr fr_52 (gr_q rfl) (gf_q rfl)
          have g_54 : gN G_45 = gN G := gN_fr fr_52 (gr_q rfl) (gf_q rfl)
          have b_55 : 0 ≤ (G_45.1 66 2).toInt ∧ (G_45.1 66 2).toInt ≤ 4 := bd_66_2 hB_G_45
          refine lv_aload_n hx hb dX12_readLine_200 rfl (lv_at hl 0 rfl) ?_
          refine S_getI (v := (G_45.1 66 2)) (C := RX12) (T := TX12) (N := 89) hx hb hg iX12 hown hK hW kd_66 rfl 2 (lt_b rfl) (hg (Cond.fieldLink RX12 218 "SlabWalkModel" "fault" "I") m1316) (fun _ h9 => h9) rfl rfl dX12_readLine_201 ?_
          refine lv_if_ne (tgt := 221) hx hb dX12_readLine_204 rfl (fun c_56 => ?_) (fun c_56 => ?_)
          · have c_56 : (G_45.1 66 2).toInt ≠ 0 := xI_ne rfl rfl c_56
            refine lv_aload_n hx hb dX12_readLine_221 rfl (lv_at hl 0 rfl) ?_
            refine S_getI (v := (G_45.1 66 2)) (C := RX12) (T := TX12) (N := 89) hx hb hg iX12 hown hK hW kd_66 rfl 2 (lt_b rfl) (hg (Cond.fieldLink RX12 218 "SlabWalkModel" "fault" "I") m1316) (fun _ h9 => h9) rfl rfl dX12_readLine_222 ?_
            refine lv_if_ne (tgt := 232) hx hb dX12_readLine_225 rfl (fun c_57 => ?_) (fun c_57 => ?_)
            · have c_57 : (G_45.1 66 2).toInt ≠ 0 := xI_ne rfl rfl c_57
              exact W.vret hx hb hr (fun t ht _ => ⟨⟨G_45, rfl, (Q_readLine_mk ⟨hB_G_45, hF, ((by first | exact ⟨(by first | exact d_1 | omega), (fun h9 => ⟨((by first | (clear hnf hS9 f_6 f_18 f_30 f_43 f_49 f_50; omega) | omega)), ⟨(by first | exact ok_796 hE9 g_53 | omega), ⟨(by first | exact ok_796 hN9 g_54 | omega), ⟨(by first | exact ok_985 f_50 b_55.1 h9 | omega), ⟨(by first | exact ok_986 f_50 b_55.1 h9 | omega), ⟨(by first | exact ok_987 f_50 b_55.1 h9 | omega), ⟨(by first | exact ok_988 f_50 b_55.1 h9 | omega), ⟨(by first | exact ok_989 f_50 b_55.1 h9 | omega), ⟨(by first | exact ok_990 f_50 b_55.1 h9 | omega), (by first | exact ok_991 f_50 b_55.1 h9 | omega)⟩⟩⟩⟩⟩⟩⟩⟩⟩)⟩ | omega)), ⟨r_1, G_2, hX_5, (Or.inr ⟨G_8, hX_11, hB_G_8, hq_10, ⟨r_13, G_14, hX_17, (Or.inr ⟨G_20, hX_23, hB_G_20, hq_22, ⟨r_25, G_26, hX_29, (Or.inr ⟨G_32, hX_35, hB_G_32, hq_34, ⟨r_38, G_39, hX_42, ⟨G_45, hX_48, f_49, f_50, hB_G_45, hq_47, (Or.inr ⟨c_56, rfl⟩)⟩⟩⟩)⟩⟩)⟩⟩)⟩⟩), wd_t ht hW⟩, hS.F ht⟩) hS.2.2 dX12_readLine_232
            · have c_57 : (G_45.1 66 2).toInt = 0 := xI_eq rfl rfl c_57
              exfalso; first | exact ok_923 b_55.1 c_56 c_57 | omega
          · have c_56 : (G_45.1 66 2).toInt = 0 := xI_eq rfl rfl c_56
            have d_3 := f_50 c_56
            refine lv_aload_n hx hb dX12_readLine_207 rfl (lv_at hl 0 rfl) ?_
            refine S_getI (v := (G_45.1 66 6)) (C := RX12) (T := TX12) (N := 89) hx hb hg iX12 hown hK hW kd_66 rfl 6 (lt_b rfl) (hg (Cond.fieldLink RX12 205 "SlabWalkModel" "sort" "I") m1320) (fun _ h9 => h9) rfl rfl dX12_readLine_208 ?_
            refine lv_bipush (v := 59) hx hb dX12_readLine_211 (by decide) ?_
            refine lv_icmp_eq (tgt := 221) hx hb dX12_readLine_213 rfl (fun c_58 => ?_) (fun c_58 => ?_)
            · have c_58 : (G_45.1 66 6).toInt = 59 := xI_eq rfl rfl c_58
              refine lv_aload_n hx hb dX12_readLine_221 rfl (lv_at hl 0 rfl) ?_
              refine S_getI (v := (G_45.1 66 2)) (C := RX12) (T := TX12) (N := 89) hx hb hg iX12 hown hK hW kd_66 rfl 2 (lt_b rfl) (hg (Cond.fieldLink RX12 218 "SlabWalkModel" "fault" "I") m1316) (fun _ h9 => h9) rfl rfl dX12_readLine_222 ?_
              refine lv_if_ne (tgt := 232) hx hb dX12_readLine_225 rfl (fun c_59 => ?_) (fun c_59 => ?_)
              · have c_59 : (G_45.1 66 2).toInt ≠ 0 := xI_ne rfl rfl c_59
                exfalso; first | exact ok_924 b_55.1 c_56 c_59 | omega
              · have c_59 : (G_45.1 66 2).toInt = 0 := xI_eq rfl rfl c_59
                refine lv_aload_n hx hb dX12_readLine_228 rfl (lv_at hl 0 rfl) ?_
                refine S_callv (va_runV (As := []) (rest := []) ⟨hx, hb, hml, hown, hts⟩ (n_token l D k A a z G_45  ) (cwV 0 hts (gd_V hgd m1602 m1604 m50 m131 m1605) rfl rfl rfl hd_X12_token ⟨Nat.le_of_ble_eq_true rfl, Nat.le_of_ble_eq_true rfl⟩) (pre_W hW hB_G_45 hK hZ hS kd_66 rfl) rfl rfl hl.1 rfl (lv_room (Nat.le_of_ble_eq_true rfl)) dX12_readLine_229 ⟨Nat.le_of_ble_eq_true rfl, Nat.le_of_ble_eq_true rfl⟩) hS (fun G_61 H locs hpo hW hS => ?_)
                have hX_64 : Q_token G_45 G_61 := hpo
                obtain ⟨hB_G_61, hq_62, ⟨d_4, d_5⟩, -⟩ := hpo
                have hF := hF.call9 hq_62 rfl rfl
                have fr_65 : Fr [86] [(66, 2), (66, 3), (66, 4), (66, 6), (66, 7), (66, 8), (66, 9), (66, 48), (66, 49), (66, 50), (66, 51)] G G_61 := (Fr.call9 (rs := [86]) (fs := [(66, 2), (66, 3), (66, 4), (66, 6), (66, 7), (66, 8), (66, 9), (66, 48), (66, 49), (66, 50), (66, 51)]) (Fr.call9 (rs := [86]) (fs := [(66, 2), (66, 3), (66, 4), (66, 6), (66, 7), (66, 8), (66, 9), (66, 48), (66, 49), (66, 50), (66, 51)]) (Fr.call9 (rs := [86]) (fs := [(66, 2), (66, 3), (66, 4), (66, 6), (66, 7), (66, 8), (66, 9), (66, 48), (66, 49), (66, 50), (66, 51)]) (Fr.call9 (rs := [86]) (fs := [(66, 2), (66, 3), (66, 4), (66, 6), (66, 7), (66, 8), (66, 9), (66, 48), (66, 49), (66, 50), (66, 51)]) (Fr.call9 (rs := [86]) (fs := [(66, 2), (66, 3), (66, 4), (66, 6), (66, 7), (66, 8), (66, 9), (66, 48), (66, 49), (66, 50), (66, 51)]) (Fr.call9 (rs := [86]) (fs := [(66, 2), (66, 3), (66, 4), (66, 6), (66, 7), (66, 8), (66, 9), (66, 48), (66, 49), (66, 50), (66, 51)]) (Fr.call9 (rs := [86]) (fs := [(66, 2), (66, 3), (66, 4), (66, 6), (66, 7), (66, 8), (66, 9), (66, 48), (66, 49), (66, 50), (66, 51)]) (Fr.call9 (rs := [86]) (fs := [(66, 2), (66, 3), (66, 4), (66, 6), (66, 7), (66, 8), (66, 9), (66, 48), (66, 49), (66, 50), (66, 51)]) (Fr.call9 (rs := [86]) (fs := [(66, 2), (66, 3), (66, 4), (66, 6), (66, 7), (66, 8), (66, 9), (66, 48), (66, 49), (66, 50), (66, 51)]) Fr.rf hq_3 rfl rfl) hq_10 rfl rfl) hq_15 rfl rfl) hq_22 rfl rfl) hq_27 rfl rfl) hq_34 rfl rfl) hq_40 rfl rfl) hq_47 rfl rfl) hq_62 rfl rfl)
                have g_66 : gE G_61 = gE G := gE_fr fr_65 (gr_q rfl) (gf_q rfl)
                have g_67 : gN G_61 = gN G := gN_fr fr_65 (gr_q rfl) (gf_q rfl)
                have g_68 : (G_61.1 66 2).toInt = (G_45.1 66 2).toInt := (congrArg Int32.toInt (show G_61.1 66 2 = (G_45.1 66 2) from ((hq_62.i9 66 2 rfl rfl).trans (rfl))))
                have b_69 : 0 ≤ (G_61.1 66 4).toInt ∧ (G_61.1 66 4).toInt ≤ 1600 := bd_66_4 hB_G_61
                have g_70 : (G_61.1 86 0).toInt = (G_45.1 86 0).toInt := (congrArg Int32.toInt (show G_61.1 86 0 = (G_45.1 86 0) from ((hq_62.i9 86 0 rfl rfl).trans (rfl))))
                have g_71 : (G_61.1 86 1).toInt = (G_45.1 86 1).toInt := (congrArg Int32.toInt (show G_61.1 86 1 = (G_45.1 86 1) from ((hq_62.i9 86 1 rfl rfl).trans (rfl))))
                have g_72 : (G_61.1 86 2).toInt = (G_45.1 86 2).toInt := (congrArg Int32.toInt (show G_61.1 86 2 = (G_45.1 86 2) from ((hq_62.i9 86 2 rfl rfl).trans (rfl))))
                exact W.vret hx hb hr (fun t ht _ => ⟨⟨G_61, rfl, (Q_readLine_mk ⟨hB_G_61, hF, ((by first | exact ⟨(by first | exact ok_624 f_49.1 d_4 | omega), (fun h9 => ⟨((by first | (clear hnf hS9 f_6 f_18 f_30 f_43 f_49 f_50; omega) | omega)), ⟨(by first | exact ok_796 hE9 g_66 | omega), ⟨(by first | exact ok_796 hN9 g_67 | omega), ⟨(by first | exact ok_992 d_3.2.2.2.1 g_70 | omega), ⟨(by first | exact ok_993 d_3.2.2.2.2.1 g_70 | omega), ⟨(by first | exact ok_992 d_3.2.2.2.2.2.1 g_71 | omega), ⟨(by first | exact ok_993 d_3.2.2.2.2.2.2.1 g_71 | omega), ⟨(by first | exact ok_992 d_3.2.2.2.2.2.2.2.1 g_72 | omega), ⟨(by first | exact ok_993 d_3.2.2.2.2.2.2.2.2.1 g_72 | omega), (by first | exact ok_994 d_3.2.2.2.2.2.2.2.2.2 g_70 g_71 g_72 | omega)⟩⟩⟩⟩⟩⟩⟩⟩⟩)⟩ | omega)), ⟨r_1, G_2, hX_5, (Or.inr ⟨G_8, hX_11, hB_G_8, hq_10, ⟨r_13, G_14, hX_17, (Or.inr ⟨G_20, hX_23, hB_G_20, hq_22, ⟨r_25, G_26, hX_29, (Or.inr ⟨G_32, hX_35, hB_G_32, hq_34, ⟨r_38, G_39, hX_42, ⟨G_45, hX_48, f_49, f_50, hB_G_45, hq_47, (Or.inl ⟨c_56, (Or.inl ⟨c_58, ⟨G_61, hX_64, rfl⟩⟩)⟩)⟩⟩⟩)⟩⟩)⟩⟩)⟩⟩), wd_t ht hW⟩, hS.F ht⟩) hS.2.2 dX12_readLine_232
            · have c_58 : (G_45.1 66 6).toInt ≠ 59 := xI_ne rfl rfl c_58
              refine lv_aload_n hx hb dX12_readLine_216 rfl (lv_at hl 0 rfl) ?_
              refine ic_2 hx hb dX12_readLine_217 ?_
              have qc_73 : (2 : Int32).toInt = 2 := rfl
              refine S_callv (va_runV (As := [.int 2]) (rest := []) ⟨hx, hb, hml, hown, hts⟩ (n_wrong l D k A a z G_45 2 ⟨by decide, by decide⟩) (cwV 1 hts (gd_V hgd m1670 m1672 m59 m131 m1673) rfl rfl rfl hd_X12_wrong ⟨Nat.le_of_ble_eq_true rfl, Nat.le_of_ble_eq_true rfl⟩) (pre_W hW hB_G_45 hK hZ hS kd_66 rfl) rfl rfl hl.1 rfl (lv_room (Nat.le_of_ble_eq_true rfl)) dX12_readLine_218 ⟨Nat.le_of_ble_eq_true rfl, Nat.le_of_ble_eq_true rfl⟩) hS (fun G_75 H locs hpo hW hS => ?_)
              have hX_78 : Q_wrong 2 G_45 G_75 := hpo
              obtain ⟨hB_G_75, hq_76, hp_77, -⟩ := hpo
              have hF := hF.call9 hq_76 rfl rfl
              refine lv_aload_n hx hb dX12_readLine_221 rfl (lv_at hl 0 rfl) ?_
              have b_79 : 0 ≤ (G_75.1 66 2).toInt ∧ (G_75.1 66 2).toInt ≤ 4 := bd_66_2 hB_G_75
              refine S_getI (v := (G_75.1 66 2)) (C := RX12) (T := TX12) (N := 89) hx hb hg iX12 hown hK hW kd_66 rfl 2 (lt_b rfl) (hg (Cond.fieldLink RX12 218 "SlabWalkModel" "fault" "I") m1316) (fun _ h9 => h9) rfl rfl dX12_readLine_222 ?_
              refine lv_if_ne (tgt := 232) hx hb dX12_readLine_225 rfl (fun c_80 => ?_) (fun c_80 => ?_)
              · have c_80 : (G_75.1 66 2).toInt ≠ 0 := xI_ne rfl rfl c_80
                have fr_81 : Fr [86] [(66, 2), (66, 3), (66, 4), (66, 6), (66, 7), (66, 8), (66, 9), (66, 48), (66, 49), (66, 50), (66, 51)] G G_75 := (Fr.call9 (rs := [86]) (fs := [(66, 2), (66, 3), (66, 4), (66, 6), (66, 7), (66, 8), (66, 9), (66, 48), (66, 49), (66, 50), (66, 51)]) (Fr.call9 (rs := [86]) (fs := [(66, 2), (66, 3), (66, 4), (66, 6), (66, 7), (66, 8), (66, 9), (66, 48), (66, 49), (66, 50), (66, 51)]) (Fr.call9 (rs := [86]) (fs := [(66, 2), (66, 3), (66, 4), (66, 6), (66, 7), (66, 8), (66, 9), (66, 48), (66, 49), (66, 50), (66, 51)]) (Fr.call9 (rs := [86]) (fs := [(66, 2), (66, 3), (66, 4), (66, 6), (66, 7), (66, 8), (66, 9), (66, 48), (66, 49), (66, 50), (66, 51)]) (Fr.call9 (rs := [86]) (fs := [(66, 2), (66, 3), (66, 4), (66, 6), (66, 7), (66, 8), (66, 9), (66, 48), (66, 49), (66, 50), (66, 51)]) (Fr.call9 (rs := [86]) (fs := [(66, 2), (66, 3), (66, 4), (66, 6), (66, 7), (66, 8), (66, 9), (66, 48), (66, 49), (66, 50), (66, 51)]) (Fr.call9 (rs := [86]) (fs := [(66, 2), (66, 3), (66, 4), (66, 6), (66, 7), (66, 8), (66, 9), (66, 48), (66, 49), (66, 50), (66, 51)]) (Fr.call9 (rs := [86]) (fs := [(66, 2), (66, 3), (66, 4), (66, 6), (66, 7), (66, 8), (66, 9), (66, 48), (66, 49), (66, 50), (66, 51)]) (Fr.call9 (rs := [86]) (fs := [(66, 2), (66, 3), (66, 4), (66, 6), (66, 7), (66, 8), (66, 9), (66, 48), (66, 49), (66, 50), (66, 51)]) Fr.rf hq_3 rfl rfl) hq_10 rfl rfl) hq_15 rfl rfl) hq_22 rfl rfl) hq_27 rfl rfl) hq_34 rfl rfl) hq_40 rfl rfl) hq_47 rfl rfl) hq_76 rfl rfl)
                have g_82 : gE G_75 = gE G := gE_fr fr_81 (gr_q rfl) (gf_q rfl)
                have g_83 : gN G_75 = gN G := gN_fr fr_81 (gr_q rfl) (gf_q rfl)
                have g_84 : (G_75.1 66 4).toInt = (G_45.1 66 4).toInt := (congrArg Int32.toInt (show G_75.1 66 4 = (G_45.1 66 4) from ((hq_76.i9 66 4 rfl rfl).trans (rfl))))
                have g_85 : (G_75.1 86 0).toInt = (G_45.1 86 0).toInt := (congrArg Int32.toInt (show G_75.1 86 0 = (G_45.1 86 0) from ((hq_76.i9 86 0 rfl rfl).trans (rfl))))
                have g_86 : (G_75.1 86 1).toInt = (G_45.1 86 1).toInt := (congrArg Int32.toInt (show G_75.1 86 1 = (G_45.1 86 1) from ((hq_76.i9 86 1 rfl rfl).trans (rfl))))
                have g_87 : (G_75.1 86 2).toInt = (G_45.1 86 2).toInt := (congrArg Int32.toInt (show G_75.1 86 2 = (G_45.1 86 2) from ((hq_76.i9 86 2 rfl rfl).trans (rfl))))
                exact W.vret hx hb hr (fun t ht _ => ⟨⟨G_75, rfl, (Q_readLine_mk ⟨hB_G_75, hF, ((by first | exact ⟨(by first | exact ok_347 f_49.1 g_84 | omega), (fun h9 => ⟨((by first | (clear hnf hS9 f_6 f_18 f_30 f_43 f_49 f_50 b_55; omega) | omega)), ⟨(by first | exact ok_796 hE9 g_82 | omega), ⟨(by first | exact ok_796 hN9 g_83 | omega), ⟨(by first | exact ok_992 d_3.2.2.2.1 g_85 | omega), ⟨(by first | exact ok_993 d_3.2.2.2.2.1 g_85 | omega), ⟨(by first | exact ok_992 d_3.2.2.2.2.2.1 g_86 | omega), ⟨(by first | exact ok_993 d_3.2.2.2.2.2.2.1 g_86 | omega), ⟨(by first | exact ok_992 d_3.2.2.2.2.2.2.2.1 g_87 | omega), ⟨(by first | exact ok_993 d_3.2.2.2.2.2.2.2.2.1 g_87 | omega), (by first | exact ok_994 d_3.2.2.2.2.2.2.2.2.2 g_85 g_86 g_87 | omega)⟩⟩⟩⟩⟩⟩⟩⟩⟩)⟩ | omega)), ⟨r_1, G_2, hX_5, (Or.inr ⟨G_8, hX_11, hB_G_8, hq_10, ⟨r_13, G_14, hX_17, (Or.inr ⟨G_20, hX_23, hB_G_20, hq_22, ⟨r_25, G_26, hX_29, (Or.inr ⟨G_32, hX_35, hB_G_32, hq_34, ⟨r_38, G_39, hX_42, ⟨G_45, hX_48, f_49, f_50, hB_G_45, hq_47, (Or.inl ⟨c_56, (Or.inr ⟨c_58, ⟨G_75, hX_78, (Or.inr ⟨c_80, rfl⟩)⟩⟩)⟩)⟩⟩⟩)⟩⟩)⟩⟩)⟩⟩), wd_t ht hW⟩, hS.F ht⟩) hS.2.2 dX12_readLine_232
              · have c_80 : (G_75.1 66 2).toInt = 0 := xI_eq rfl rfl c_80
                refine lv_aload_n hx hb dX12_readLine_228 rfl (lv_at hl 0 rfl) ?_
                have g_88 : (G_75.1 66 4).toInt = (G_45.1 66 4).toInt := (congrArg Int32.toInt (show G_75.1 66 4 = (G_45.1 66 4) from ((hq_76.i9 66 4 rfl rfl).trans (rfl))))
                have g_89 : (G_75.1 66 6).toInt = (G_45.1 66 6).toInt := (congrArg Int32.toInt (show G_75.1 66 6 = (G_45.1 66 6) from ((hq_76.i9 66 6 rfl rfl).trans (rfl))))
                refine S_callv (va_runV (As := []) (rest := []) ⟨hx, hb, hml, hown, hts⟩ (n_token l D k A a z G_75  ) (cwV 0 hts (gd_V hgd m1602 m1604 m50 m131 m1605) rfl rfl rfl hd_X12_token ⟨Nat.le_of_ble_eq_true rfl, Nat.le_of_ble_eq_true rfl⟩) (pre_W hW hB_G_75 hK hZ hS kd_66 rfl) rfl rfl hl.1 rfl (lv_room (Nat.le_of_ble_eq_true rfl)) dX12_readLine_229 ⟨Nat.le_of_ble_eq_true rfl, Nat.le_of_ble_eq_true rfl⟩) hS (fun G_91 H locs hpo hW hS => ?_)
                have hX_94 : Q_token G_75 G_91 := hpo
                obtain ⟨hB_G_91, hq_92, ⟨d_6, d_7⟩, -⟩ := hpo
                have hF := hF.call9 hq_92 rfl rfl
                have fr_95 : Fr [86] [(66, 2), (66, 3), (66, 4), (66, 6), (66, 7), (66, 8), (66, 9), (66, 48), (66, 49), (66, 50), (66, 51)] G G_91 := (Fr.call9 (rs := [86]) (fs := [(66, 2), (66, 3), (66, 4), (66, 6), (66, 7), (66, 8), (66, 9), (66, 48), (66, 49), (66, 50), (66, 51)]) (Fr.call9 (rs := [86]) (fs := [(66, 2), (66, 3), (66, 4), (66, 6), (66, 7), (66, 8), (66, 9), (66, 48), (66, 49), (66, 50), (66, 51)]) (Fr.call9 (rs := [86]) (fs := [(66, 2), (66, 3), (66, 4), (66, 6), (66, 7), (66, 8), (66, 9), (66, 48), (66, 49), (66, 50), (66, 51)]) (Fr.call9 (rs := [86]) (fs := [(66, 2), (66, 3), (66, 4), (66, 6), (66, 7), (66, 8), (66, 9), (66, 48), (66, 49), (66, 50), (66, 51)]) (Fr.call9 (rs := [86]) (fs := [(66, 2), (66, 3), (66, 4), (66, 6), (66, 7), (66, 8), (66, 9), (66, 48), (66, 49), (66, 50), (66, 51)]) (Fr.call9 (rs := [86]) (fs := [(66, 2), (66, 3), (66, 4), (66, 6), (66, 7), (66, 8), (66, 9), (66, 48), (66, 49), (66, 50), (66, 51)]) (Fr.call9 (rs := [86]) (fs := [(66, 2), (66, 3), (66, 4), (66, 6), (66, 7), (66, 8), (66, 9), (66, 48), (66, 49), (66, 50), (66, 51)]) (Fr.call9 (rs := [86]) (fs := [(66, 2), (66, 3), (66, 4), (66, 6), (66, 7), (66, 8), (66, 9), (66, 48), (66, 49), (66, 50), (66, 51)]) (Fr.call9 (rs := [86]) (fs := [(66, 2), (66, 3), (66, 4), (66, 6), (66, 7), (66, 8), (66, 9), (66, 48), (66, 49), (66, 50), (66, 51)]) (Fr.call9 (rs := [86]) (fs := [(66, 2), (66, 3), (66, 4), (66, 6), (66, 7), (66, 8), (66, 9), (66, 48), (66, 49), (66, 50), (66, 51)]) Fr.rf hq_3 rfl rfl) hq_10 rfl rfl) hq_15 rfl rfl) hq_22 rfl rfl) hq_27 rfl rfl) hq_34 rfl rfl) hq_40 rfl rfl) hq_47 rfl rfl) hq_76 rfl rfl) hq_92 rfl rfl)
                have g_96 : gE G_91 = gE G := gE_fr fr_95 (gr_q rfl) (gf_q rfl)
                have g_97 : gN G_91 = gN G := gN_fr fr_95 (gr_q rfl) (gf_q rfl)
                have g_98 : (G_91.1 66 2).toInt = (G_75.1 66 2).toInt := (congrArg Int32.toInt (show G_91.1 66 2 = (G_75.1 66 2) from ((hq_92.i9 66 2 rfl rfl).trans (rfl))))
                have b_99 : 0 ≤ (G_91.1 66 4).toInt ∧ (G_91.1 66 4).toInt ≤ 1600 := bd_66_4 hB_G_91
                have g_100 : (G_91.1 86 0).toInt = (G_45.1 86 0).toInt := (congrArg Int32.toInt (show G_91.1 86 0 = (G_45.1 86 0) from ((hq_92.i9 86 0 rfl rfl).trans ((hq_76.i9 86 0 rfl rfl).trans (rfl)))))
                have g_101 : (G_91.1 86 1).toInt = (G_45.1 86 1).toInt := (congrArg Int32.toInt (show G_91.1 86 1 = (G_45.1 86 1) from ((hq_92.i9 86 1 rfl rfl).trans ((hq_76.i9 86 1 rfl rfl).trans (rfl)))))
                have g_102 : (G_91.1 86 2).toInt = (G_45.1 86 2).toInt := (congrArg Int32.toInt (show G_91.1 86 2 = (G_45.1 86 2) from ((hq_92.i9 86 2 rfl rfl).trans ((hq_76.i9 86 2 rfl rfl).trans (rfl)))))
                exact W.vret hx hb hr (fun t ht _ => ⟨⟨G_91, rfl, (Q_readLine_mk ⟨hB_G_91, hF, ((by first | exact ⟨(by first | exact ok_630 f_49.1 g_88 d_6 | omega), (fun h9 => ⟨((by first | (clear hnf hS9 f_6 f_18 f_30 f_43 f_49 f_50 b_55; omega) | omega)), ⟨(by first | exact ok_796 hE9 g_96 | omega), ⟨(by first | exact ok_796 hN9 g_97 | omega), ⟨(by first | exact ok_992 d_3.2.2.2.1 g_100 | omega), ⟨(by first | exact ok_993 d_3.2.2.2.2.1 g_100 | omega), ⟨(by first | exact ok_992 d_3.2.2.2.2.2.1 g_101 | omega), ⟨(by first | exact ok_993 d_3.2.2.2.2.2.2.1 g_101 | omega), ⟨(by first | exact ok_992 d_3.2.2.2.2.2.2.2.1 g_102 | omega), ⟨(by first | exact ok_993 d_3.2.2.2.2.2.2.2.2.1 g_102 | omega), (by first | exact ok_994 d_3.2.2.2.2.2.2.2.2.2 g_100 g_101 g_102 | omega)⟩⟩⟩⟩⟩⟩⟩⟩⟩)⟩ | omega)), ⟨r_1, G_2, hX_5, (Or.inr ⟨G_8, hX_11, hB_G_8, hq_10, ⟨r_13, G_14, hX_17, (Or.inr ⟨G_20, hX_23, hB_G_20, hq_22, ⟨r_25, G_26, hX_29, (Or.inr ⟨G_32, hX_35, hB_G_32, hq_34, ⟨r_38, G_39, hX_42, ⟨G_45, hX_48, f_49, f_50, hB_G_45, hq_47, (Or.inl ⟨c_56, (Or.inr ⟨c_58, ⟨G_75, hX_78, (Or.inl ⟨c_80, ⟨G_91, hX_94, rfl⟩⟩)⟩⟩)⟩)⟩⟩⟩)⟩⟩)⟩⟩)⟩⟩), wd_t ht hW⟩, hS.F ht⟩) hS.2.2 dX12_readLine_232
        refine lv_if_eq (tgt := 104) hx hb dX12_readLine_84 rfl (fun c_103 => ?_) (fun c_103 => ?_)
        · have c_103 : r_38.toInt = 0 := xI_eq rfl rfl c_103
          refine lv_aload_n hx hb dX12_readLine_104 rfl (lv_at hl 0 rfl) ?_
          refine lv_ldc2 (v := 1751215716) hx hb hown (hg (Cond.constantLong RX12 239 1751215716) m1652) dX12_readLine_105 ?_
          refine ic_2 hx hb dX12_readLine_108 ?_
          have qc_104 : (2 : Int32).toInt = 2 := rfl
          have g_105 : (G_39.1 66 6).toInt = (G.1 66 6).toInt := (congrArg Int32.toInt (show G_39.1 66 6 = (G.1 66 6) from ((hq_40.i9 66 6 rfl rfl).trans ((hq_34.i9 66 6 rfl rfl).trans ((hq_27.i9 66 6 rfl rfl).trans ((hq_22.i9 66 6 rfl rfl).trans ((hq_15.i9 66 6 rfl rfl).trans ((hq_10.i9 66 6 rfl rfl).trans ((hq_3.i9 66 6 rfl rfl).trans (rfl))))))))))
          refine S_calli (va_runV (As := [.long 1751215716, .int 2]) (rest := []) ⟨hx, hb, hml, hown, hts⟩ (n_isOnce l D k A a z G_39 1751215716 2 ) (cwV 2 hts (gd_V hgd m1761 m1763 m81 m131 m1764) rfl rfl rfl hd_X12_isOnce ⟨Nat.le_of_ble_eq_true rfl, Nat.le_of_ble_eq_true rfl⟩) (pre_W hW hB_G_39 hK hZ hS kd_66 rfl) rfl rfl hl.1 rfl (lv_room (Nat.le_of_ble_eq_true rfl)) dX12_readLine_109 ⟨Nat.le_of_ble_eq_true rfl, Nat.le_of_ble_eq_true rfl⟩) hS (fun r_106 G_107 H locs hpo hW hS => ?_)
          have hX_110 : Q_isOnce 1751215716 2 G_39 r_106 G_107 := hpo
          obtain ⟨hB_G_107, hq_108, f_111, hp_109, -⟩ := hpo
          have hF := hF.call9 hq_108 rfl rfl
          refine lv_if_eq (tgt := 156) hx hb dX12_readLine_112 rfl (fun c_112 => ?_) (fun c_112 => ?_)
          · have c_112 : r_106.toInt = 0 := xI_eq rfl rfl c_112
            refine lv_aload_n hx hb dX12_readLine_156 rfl (lv_at hl 0 rfl) ?_
            refine lv_ldc2 (v := 1685217655) hx hb hown (hg (Cond.constantLong RX12 243 1685217655) m1654) dX12_readLine_157 ?_
            refine ic_4 hx hb dX12_readLine_160 ?_
            have qc_113 : (4 : Int32).toInt = 4 := rfl
            have g_114 : (G_107.1 66 6).toInt = (G.1 66 6).toInt := (congrArg Int32.toInt (show G_107.1 66 6 = (G.1 66 6) from ((hq_108.i9 66 6 rfl rfl).trans ((hq_40.i9 66 6 rfl rfl).trans ((hq_34.i9 66 6 rfl rfl).trans ((hq_27.i9 66 6 rfl rfl).trans ((hq_22.i9 66 6 rfl rfl).trans ((hq_15.i9 66 6 rfl rfl).trans ((hq_10.i9 66 6 rfl rfl).trans ((hq_3.i9 66 6 rfl rfl).trans (rfl)))))))))))
            refine S_calli (va_runV (As := [.long 1685217655, .int 4]) (rest := []) ⟨hx, hb, hml, hown, hts⟩ (n_isOnce l D k A a z G_107 1685217655 4 ) (cwV 2 hts (gd_V hgd m1761 m1763 m81 m131 m1764) rfl rfl rfl hd_X12_isOnce ⟨Nat.le_of_ble_eq_true rfl, Nat.le_of_ble_eq_true rfl⟩) (pre_W hW hB_G_107 hK hZ hS kd_66 rfl) rfl rfl hl.1 rfl (lv_room (Nat.le_of_ble_eq_true rfl)) dX12_readLine_161 ⟨Nat.le_of_ble_eq_true rfl, Nat.le_of_ble_eq_true rfl⟩) hS (fun r_115 G_116 H locs hpo hW hS => ?_)
            have hX_119 : Q_isOnce 1685217655 4 G_107 r_115 G_116 := hpo
            obtain ⟨hB_G_116, hq_117, f_120, hp_118, -⟩ := hpo
            have hF := hF.call9 hq_117 rfl rfl
            refine lv_if_eq (tgt := 195) hx hb dX12_readLine_164 rfl (fun c_121 => ?_) (fun c_121 => ?_)
            · have c_121 : r_115.toInt = 0 := xI_eq rfl rfl c_121
              refine lv_aload_n hx hb dX12_readLine_195 rfl (lv_at hl 0 rfl) ?_
              refine ic_2 hx hb dX12_readLine_196 ?_
              have qc_122 : (2 : Int32).toInt = 2 := rfl
              refine S_callv (va_runV (As := [.int 2]) (rest := []) ⟨hx, hb, hml, hown, hts⟩ (n_wrong l D k A a z G_116 2 ⟨by decide, by decide⟩) (cwV 1 hts (gd_V hgd m1670 m1672 m59 m131 m1673) rfl rfl rfl hd_X12_wrong ⟨Nat.le_of_ble_eq_true rfl, Nat.le_of_ble_eq_true rfl⟩) (pre_W hW hB_G_116 hK hZ hS kd_66 rfl) rfl rfl hl.1 rfl (lv_room (Nat.le_of_ble_eq_true rfl)) dX12_readLine_197 ⟨Nat.le_of_ble_eq_true rfl, Nat.le_of_ble_eq_true rfl⟩) hS (fun G_124 H locs hpo hW hS => ?_)
              have hX_127 : Q_wrong 2 G_116 G_124 := hpo
              obtain ⟨hB_G_124, hq_125, hp_126, -⟩ := hpo
              have hF := hF.call9 hq_125 rfl rfl
              have b_128 : 0 ≤ (G.1 66 4).toInt ∧ (G.1 66 4).toInt ≤ 1600 := bd_66_4 hB_G
              have g_129 : (G_124.1 66 4).toInt = (G.1 66 4).toInt := (congrArg Int32.toInt (show G_124.1 66 4 = (G.1 66 4) from ((hq_125.i9 66 4 rfl rfl).trans ((hq_117.i9 66 4 rfl rfl).trans ((hq_108.i9 66 4 rfl rfl).trans ((hq_40.i9 66 4 rfl rfl).trans ((hq_34.i9 66 4 rfl rfl).trans ((hq_27.i9 66 4 rfl rfl).trans ((hq_22.i9 66 4 rfl rfl).trans ((hq_15.i9 66 4 rfl rfl).trans ((hq_10.i9 66 4 rfl rfl).trans (hq_3.i9 66 4 rfl rfl))))))))))))
              have g_130 : (G_124.1 66 6).toInt = (G.1 66 6).toInt := (congrArg Int32.toInt (show G_124.1 66 6 = (G.1 66 6) from ((hq_125.i9 66 6 rfl rfl).trans ((hq_117.i9 66 6 rfl rfl).trans ((hq_108.i9 66 6 rfl rfl).trans ((hq_40.i9 66 6 rfl rfl).trans ((hq_34.i9 66 6 rfl rfl).trans ((hq_27.i9 66 6 rfl rfl).trans ((hq_22.i9 66 6 rfl rfl).trans ((hq_15.i9 66 6 rfl rfl).trans ((hq_10.i9 66 6 rfl rfl).trans ((hq_3.i9 66 6 rfl rfl).trans (rfl)))))))))))))
              have fr_131 : Fr [] [(66, 2), (66, 3)] G G_124 := (Fr.call9 (rs := []) (fs := [(66, 2), (66, 3)]) (Fr.call9 (rs := []) (fs := [(66, 2), (66, 3)]) (Fr.call9 (rs := []) (fs := [(66, 2), (66, 3)]) (Fr.call9 (rs := []) (fs := [(66, 2), (66, 3)]) (Fr.call9 (rs := []) (fs := [(66, 2), (66, 3)]) (Fr.call9 (rs := []) (fs := [(66, 2), (66, 3)]) (Fr.call9 (rs := []) (fs := [(66, 2), (66, 3)]) (Fr.call9 (rs := []) (fs := [(66, 2), (66, 3)]) (Fr.call9 (rs := []) (fs := [(66, 2), (66, 3)]) (Fr.call9 (rs := []) (fs := [(66, 2), (66, 3)]) Fr.rf hq_3 rfl rfl) hq_10 rfl rfl) hq_15 rfl rfl) hq_22 rfl rfl) hq_27 rfl rfl) hq_34 rfl rfl) hq_40 rfl rfl) hq_108 rfl rfl) hq_117 rfl rfl) hq_125 rfl rfl)
              have g_132 : gE G_124 = gE G := gE_fr fr_131 (gr_q rfl) (gf_q rfl)
              have g_133 : gN G_124 = gN G := gN_fr fr_131 (gr_q rfl) (gf_q rfl)
              have b_134 : 0 ≤ (G_124.1 66 2).toInt ∧ (G_124.1 66 2).toInt ≤ 4 := bd_66_2 hB_G_124
              have g_135 : (G_124.1 86 0).toInt = (G.1 86 0).toInt := (congrArg Int32.toInt (show G_124.1 86 0 = (G.1 86 0) from ((hq_125.i9 86 0 rfl rfl).trans ((hq_117.i9 86 0 rfl rfl).trans ((hq_108.i9 86 0 rfl rfl).trans ((hq_40.i9 86 0 rfl rfl).trans ((hq_34.i9 86 0 rfl rfl).trans ((hq_27.i9 86 0 rfl rfl).trans ((hq_22.i9 86 0 rfl rfl).trans ((hq_15.i9 86 0 rfl rfl).trans ((hq_10.i9 86 0 rfl rfl).trans (hq_3.i9 86 0 rfl rfl))))))))))))
              have g_136 : (G_124.1 86 1).toInt = (G.1 86 1).toInt := (congrArg Int32.toInt (show G_124.1 86 1 = (G.1 86 1) from ((hq_125.i9 86 1 rfl rfl).trans ((hq_117.i9 86 1 rfl rfl).trans ((hq_108.i9 86 1 rfl rfl).trans ((hq_40.i9 86 1 rfl rfl).trans ((hq_34.i9 86 1 rfl rfl).trans ((hq_27.i9 86 1 rfl rfl).trans ((hq_22.i9 86 1 rfl rfl).trans ((hq_15.i9 86 1 rfl rfl).trans ((hq_10.i9 86 1 rfl rfl).trans (hq_3.i9 86 1 rfl rfl))))))))))))
              have g_137 : (G_124.1 86 2).toInt = (G.1 86 2).toInt := (congrArg Int32.toInt (show G_124.1 86 2 = (G.1 86 2) from ((hq_125.i9 86 2 rfl rfl).trans ((hq_117.i9 86 2 rfl rfl).trans ((hq_108.i9 86 2 rfl rfl).trans ((hq_40.i9 86 2 rfl rfl).trans ((hq_34.i9 86 2 rfl rfl).trans ((hq_27.i9 86 2 rfl rfl).trans ((hq_22.i9 86 2 rfl rfl).trans ((hq_15.i9 86 2 rfl rfl).trans ((hq_10.i9 86 2 rfl rfl).trans (hq_3.i9 86 2 rfl rfl))))))))))))
              exact hJ_46 () _ _ _ ⟨G_124, ((by first | exact ⟨(by first | exact ok_622 g_129 | omega), (fun h9 => by (first | (clear hnf hE9 hN9 hS9 f_6 hp_4 f_18 hp_16 f_30 hp_28 f_43 hp_41 c_103 f_111 hp_109 c_112 f_120 hp_118 c_121 hp_126 b_128 g_129 g_132 g_133 b_134 g_135 g_136 g_137; omega) | omega))⟩ | omega)), ((by first | exact (fun h9 => ⟨((by first | (clear hnf hE9 hN9 hS9 b_128 g_129 g_132 g_133 g_135 g_136 g_137; omega) | omega)), ⟨(by first | exact ok_796 hE9 g_132 | omega), ⟨(by first | exact ok_796 hN9 g_133 | omega), ⟨(by first | exact ok_992 hS9.1 g_135 | omega), ⟨(by first | exact ok_993 hS9.2.1 g_135 | omega), ⟨(by first | exact ok_992 hS9.2.2.1 g_136 | omega), ⟨(by first | exact ok_993 hS9.2.2.2.1 g_136 | omega), ⟨(by first | exact ok_992 hS9.2.2.2.2.1 g_137 | omega), ⟨(by first | exact ok_993 hS9.2.2.2.2.2.1 g_137 | omega), (by first | exact ok_994 hS9.2.2.2.2.2.2 g_135 g_136 g_137 | omega)⟩⟩⟩⟩⟩⟩⟩⟩⟩) | omega)), (Jn_n_readLine_4_mk (Or.inl ⟨c_103, ⟨r_106, G_107, hX_110, (Or.inl ⟨c_112, ⟨r_115, G_116, hX_119, (Or.inl ⟨c_121, ⟨G_124, hX_127, rfl⟩⟩)⟩⟩)⟩⟩)), hW, hB_G_124, hF, (Fr.call9 (rs := [86]) (fs := [(66, 2), (66, 3), (66, 4), (66, 6), (66, 7), (66, 8), (66, 9), (66, 48), (66, 49), (66, 50), (66, 51)]) (Fr.call9 (rs := [86]) (fs := [(66, 2), (66, 3), (66, 4), (66, 6), (66, 7), (66, 8), (66, 9), (66, 48), (66, 49), (66, 50), (66, 51)]) (Fr.call9 (rs := [86]) (fs := [(66, 2), (66, 3), (66, 4), (66, 6), (66, 7), (66, 8), (66, 9), (66, 48), (66, 49), (66, 50), (66, 51)]) Fr.rf hq_108 rfl rfl) hq_117 rfl rfl) hq_125 rfl rfl), hS, lv_sub hl [0] rfl⟩
            · have c_121 : r_115.toInt ≠ 0 := xI_ne rfl rfl c_121
              refine lv_aload_n hx hb dX12_readLine_167 rfl (lv_at hl 0 rfl) ?_
              refine lv_dup hx hb dX12_readLine_168 rfl ?_
              refine S_getI (v := (G.1 66 51)) (C := RX12) (T := TX12) (N := 89) hx hb hg iX12 hown hK hW kd_66 rfl 51 (lt_b rfl) (hg (Cond.fieldLink RX12 391 "SlabWalkModel" "nOnce" "I") m1365) (fun _ h9 => h9) rfl ((hq_117.i9 66 51 rfl rfl).trans ((hq_108.i9 66 51 rfl rfl).trans ((hq_40.i9 66 51 rfl rfl).trans ((hq_34.i9 66 51 rfl rfl).trans ((hq_27.i9 66 51 rfl rfl).trans ((hq_22.i9 66 51 rfl rfl).trans ((hq_15.i9 66 51 rfl rfl).trans ((hq_10.i9 66 51 rfl rfl).trans (hq_3.i9 66 51 rfl rfl))))))))) dX12_readLine_169 ?_
              refine ic_4 hx hb dX12_readLine_172 ?_
              refine lv_ior hx hb dX12_readLine_173 ?_
              refine lv_topi (fun y_138 ey_138 => ?_)
              refine S_putI (ty := .int) (C := RX12) (T := TX12) (N := 89) hx hb hg iX12 tyX12 tyX12_ok nmX12 hown hK hW hS kd_66 rfl 51 (lt_b rfl) (hg (Cond.fieldLink RX12 391 "SlabWalkModel" "nOnce" "I") m1365) (fun _ h9 => h9) rfl (by decide +kernel) rfl rfl rfl dX12_readLine_174 (fun G_139 H locs eG_139 hW hS => ?_)
              have hB_G_139 : Bd G_139 := hB_G_116.put (lo := (-2147483648)) (hi := 2147483647) eG_139 rfl rfl rfl (tI_rng _).1 (tI_rng _).2 (hB_G_116.2.put eG_139 rfl)
              have hF := hF.put eG_139 (Or.inr (by decide))
              refine lv_aload_n hx hb dX12_readLine_177 rfl (lv_at hl 0 rfl) ?_
              refine lv_aload_n hx hb dX12_readLine_178 rfl (lv_at hl 0 rfl) ?_
              refine lv_ldc2 (v := 1685217655) hx hb hown (hg (Cond.constantLong RX12 243 1685217655) m1654) dX12_readLine_179 ?_
              refine ic_0 hx hb dX12_readLine_182 ?_
              refine lv_sipush (v := 999) hx hb dX12_readLine_183 (by decide) ?_
              have qc_140 : (0 : Int32).toInt = 0 := rfl
              have qc_141 : (999 : Int32).toInt = 999 := rfl
              have b_142 : 0 ≤ (G.1 66 2).toInt ∧ (G.1 66 2).toInt ≤ 4 := bd_66_2 hB_G
              have g_143 : (G_139.1 66 2).toInt = (G.1 66 2).toInt := (congrArg Int32.toInt (show G_139.1 66 2 = (G.1 66 2) from ((gp_ne eG_139 (by decide)).trans ((hq_117.i9 66 2 rfl rfl).trans ((hq_108.i9 66 2 rfl rfl).trans ((hq_40.i9 66 2 rfl rfl).trans ((hq_34.i9 66 2 rfl rfl).trans ((hq_27.i9 66 2 rfl rfl).trans ((hq_22.i9 66 2 rfl rfl).trans ((hq_15.i9 66 2 rfl rfl).trans ((hq_10.i9 66 2 rfl rfl).trans (hq_3.i9 66 2 rfl rfl))))))))))))
              have b_144 : 0 ≤ (G.1 66 4).toInt ∧ (G.1 66 4).toInt ≤ 1600 := bd_66_4 hB_G
              have g_145 : (G_139.1 66 4).toInt = (G.1 66 4).toInt := (congrArg Int32.toInt (show G_139.1 66 4 = (G.1 66 4) from ((gp_ne eG_139 (by decide)).trans ((hq_117.i9 66 4 rfl rfl).trans ((hq_108.i9 66 4 rfl rfl).trans ((hq_40.i9 66 4 rfl rfl).trans ((hq_34.i9 66 4 rfl rfl).trans ((hq_27.i9 66 4 rfl rfl).trans ((hq_22.i9 66 4 rfl rfl).trans ((hq_15.i9 66 4 rfl rfl).trans ((hq_10.i9 66 4 rfl rfl).trans (hq_3.i9 66 4 rfl rfl))))))))))))
              have g_146 : (G_139.1 66 6).toInt = (G.1 66 6).toInt := (congrArg Int32.toInt (show G_139.1 66 6 = (G.1 66 6) from ((gp_ne eG_139 (by decide)).trans ((hq_117.i9 66 6 rfl rfl).trans ((hq_108.i9 66 6 rfl rfl).trans ((hq_40.i9 66 6 rfl rfl).trans ((hq_34.i9 66 6 rfl rfl).trans ((hq_27.i9 66 6 rfl rfl).trans ((hq_22.i9 66 6 rfl rfl).trans ((hq_15.i9 66 6 rfl rfl).trans ((hq_10.i9 66 6 rfl rfl).trans ((hq_3.i9 66 6 rfl rfl).trans (rfl)))))))))))))
              refine S_calli (va_runV (As := [.long 1685217655, .int 0, .int 999]) (rest := [.ref (a 66)]) ⟨hx, hb, hml, hown, hts⟩ (n_told2 l D k A a z G_139 1685217655 0 999 ) (cwV 3 hts (gd_V hgd m1674 m1676 m60 m131 m1677) rfl rfl rfl hd_X12_told ⟨Nat.le_of_ble_eq_true rfl, Nat.le_of_ble_eq_true rfl⟩) (pre_W hW hB_G_139 hK hZ hS kd_66 rfl) rfl rfl hl.1 rfl (lv_room (Nat.le_of_ble_eq_true rfl)) dX12_readLine_186 ⟨Nat.le_of_ble_eq_true rfl, Nat.le_of_ble_eq_true rfl⟩) hS (fun r_147 G_148 H locs hpo hW hS => ?_)
              have hX_151 : Q_told2 1685217655 0 999 G_139 r_147 G_148 := hpo
              obtain ⟨hB_G_148, hq_149, ⟨d_8, d_9, d_10, d_11⟩, -⟩ := hpo
              have hF := hF.call9 hq_149 rfl rfl
              refine S_putI (ty := .int) (C := RX12) (T := TX12) (N := 89) hx hb hg iX12 tyX12 tyX12_ok nmX12 hown hK hW hS kd_66 rfl 50 (lt_b rfl) (hg (Cond.fieldLink RX12 416 "SlabWalkModel" "nDraw" "I") m1364) (fun _ h9 => h9) rfl (by decide +kernel) rfl rfl rfl dX12_readLine_189 (fun G_152 H locs eG_152 hW hS => ?_)
              have hB_G_152 : Bd G_152 := hB_G_148.put (lo := (-2147483648)) (hi := 2147483647) eG_152 rfl rfl rfl (tI_rng _).1 (tI_rng _).2 (hB_G_148.2.put eG_152 rfl)
              have hF := hF.put eG_152 (Or.inr (by decide))
              refine lv_goto (tgt := 200) hx hb dX12_readLine_192 rfl ?_
              have b_153 : 0 ≤ (G_148.1 66 4).toInt ∧ (G_148.1 66 4).toInt ≤ 1600 := bd_66_4 hB_G_148
              have g_154 : (G_152.1 66 4).toInt = (G_148.1 66 4).toInt := (congrArg Int32.toInt (show G_152.1 66 4 = (G_148.1 66 4) from (gp_ne eG_152 (by decide))))
              have g_155 : (G_152.1 66 6).toInt = (G_148.1 66 6).toInt := (congrArg Int32.toInt (show G_152.1 66 6 = (G_148.1 66 6) from (gp_ne eG_152 (by decide))))
              have fr_156 : Fr [] [(66, 2), (66, 3), (66, 4), (66, 6), (66, 7), (66, 8), (66, 9), (66, 50), (66, 51)] G G_152 := (Fr.put (rs := []) (fs := [(66, 2), (66, 3), (66, 4), (66, 6), (66, 7), (66, 8), (66, 9), (66, 50), (66, 51)]) (Fr.call9 (rs := []) (fs := [(66, 2), (66, 3), (66, 4), (66, 6), (66, 7), (66, 8), (66, 9), (66, 50), (66, 51)]) (Fr.put (rs := []) (fs := [(66, 2), (66, 3), (66, 4), (66, 6), (66, 7), (66, 8), (66, 9), (66, 50), (66, 51)]) (Fr.call9 (rs := []) (fs := [(66, 2), (66, 3), (66, 4), (66, 6), (66, 7), (66, 8), (66, 9), (66, 50), (66, 51)]) (Fr.call9 (rs := []) (fs := [(66, 2), (66, 3), (66, 4), (66, 6), (66, 7), (66, 8), (66, 9), (66, 50), (66, 51)]) (Fr.call9 (rs := []) (fs := [(66, 2), (66, 3), (66, 4), (66, 6), (66, 7), (66, 8), (66, 9), (66, 50), (66, 51)]) (Fr.call9 (rs := []) (fs := [(66, 2), (66, 3), (66, 4), (66, 6), (66, 7), (66, 8), (66, 9), (66, 50), (66, 51)]) (Fr.call9 (rs := []) (fs := [(66, 2), (66, 3), (66, 4), (66, 6), (66, 7), (66, 8), (66, 9), (66, 50), (66, 51)]) (Fr.call9 (rs := []) (fs := [(66, 2), (66, 3), (66, 4), (66, 6), (66, 7), (66, 8), (66, 9), (66, 50), (66, 51)]) (Fr.call9 (rs := []) (fs := [(66, 2), (66, 3), (66, 4), (66, 6), (66, 7), (66, 8), (66, 9), (66, 50), (66, 51)]) (Fr.call9 (rs := []) (fs := [(66, 2), (66, 3), (66, 4), (66, 6), (66, 7), (66, 8), (66, 9), (66, 50), (66, 51)]) (Fr.call9 (rs := []) (fs := [(66, 2), (66, 3), (66, 4), (66, 6), (66, 7), (66, 8), (66, 9), (66, 50), (66, 51)]) Fr.rf hq_3 rfl rfl) hq_10 rfl rfl) hq_15 rfl rfl) hq_22 rfl rfl) hq_27 rfl rfl) hq_34 rfl rfl) hq_40 rfl rfl) hq_108 rfl rfl) hq_117 rfl rfl) eG_139 (Or.inr (by decide))) hq_149 rfl rfl) eG_152 (Or.inr (by decide)))
              have g_157 : gE G_152 = gE G := gE_fr fr_156 (gr_q rfl) (gf_q rfl)
              have g_158 : gN G_152 = gN G := gN_fr fr_156 (gr_q rfl) (gf_q rfl)
              have b_159 : 0 ≤ (G_148.1 66 2).toInt ∧ (G_148.1 66 2).toInt ≤ 4 := bd_66_2 hB_G_148
              have g_160 : (G_152.1 66 2).toInt = (G_148.1 66 2).toInt := (congrArg Int32.toInt (show G_152.1 66 2 = (G_148.1 66 2) from (gp_ne eG_152 (by decide))))
              have g_161 : (G_152.1 86 0).toInt = (G.1 86 0).toInt := (congrArg Int32.toInt (show G_152.1 86 0 = (G.1 86 0) from ((gp_ne eG_152 (by decide)).trans ((hq_149.i9 86 0 rfl rfl).trans ((gp_ne eG_139 (by decide)).trans ((hq_117.i9 86 0 rfl rfl).trans ((hq_108.i9 86 0 rfl rfl).trans ((hq_40.i9 86 0 rfl rfl).trans ((hq_34.i9 86 0 rfl rfl).trans ((hq_27.i9 86 0 rfl rfl).trans ((hq_22.i9 86 0 rfl rfl).trans ((hq_15.i9 86 0 rfl rfl).trans ((hq_10.i9 86 0 rfl rfl).trans (hq_3.i9 86 0 rfl rfl))))))))))))))
              have g_162 : (G_152.1 86 1).toInt = (G.1 86 1).toInt := (congrArg Int32.toInt (show G_152.1 86 1 = (G.1 86 1) from ((gp_ne eG_152 (by decide)).trans ((hq_149.i9 86 1 rfl rfl).trans ((gp_ne eG_139 (by decide)).trans ((hq_117.i9 86 1 rfl rfl).trans ((hq_108.i9 86 1 rfl rfl).trans ((hq_40.i9 86 1 rfl rfl).trans ((hq_34.i9 86 1 rfl rfl).trans ((hq_27.i9 86 1 rfl rfl).trans ((hq_22.i9 86 1 rfl rfl).trans ((hq_15.i9 86 1 rfl rfl).trans ((hq_10.i9 86 1 rfl rfl).trans (hq_3.i9 86 1 rfl rfl))))))))))))))
              have g_163 : (G_152.1 86 2).toInt = (G.1 86 2).toInt := (congrArg Int32.toInt (show G_152.1 86 2 = (G.1 86 2) from ((gp_ne eG_152 (by decide)).trans ((hq_149.i9 86 2 rfl rfl).trans ((gp_ne eG_139 (by decide)).trans ((hq_117.i9 86 2 rfl rfl).trans ((hq_108.i9 86 2 rfl rfl).trans ((hq_40.i9 86 2 rfl rfl).trans ((hq_34.i9 86 2 rfl rfl).trans ((hq_27.i9 86 2 rfl rfl).trans ((hq_22.i9 86 2 rfl rfl).trans ((hq_15.i9 86 2 rfl rfl).trans ((hq_10.i9 86 2 rfl rfl).trans (hq_3.i9 86 2 rfl rfl))))))))))))))
              exact hJ_46 () _ _ _ ⟨G_152, ((by first | exact ⟨(by first | exact ok_995 g_145 d_8 g_154 | omega), (fun h9 => by have q0_ := d_9 (by first | (clear hnf hE9 hN9 hS9 f_6 hp_4 g_12 f_18 hp_16 g_24 f_30 hp_28 g_37 f_43 hp_41 c_103 g_105 f_111 hp_109 c_112 g_114 f_120 hp_118 c_121 b_142 g_143 g_146 d_9 d_10 d_11 g_155 g_157 g_158 b_159 g_160 g_161 g_162 g_163; omega) | omega); (first | (clear hnf hE9 hN9 hS9 f_6 hp_4 f_18 hp_16 f_30 hp_28 f_43 hp_41 c_103 f_111 hp_109 c_112 f_120 hp_118 c_121 b_142 g_143 b_144 g_145 d_8 d_9 d_10 d_11 b_153 g_154 g_157 g_158 b_159 g_160 g_161 g_162 g_163; omega) | omega))⟩ | omega)), ((by first | exact (fun h9 => ⟨(by first | exact ok_996 g_114 f_120.1 f_120.2 hp_118 c_121 | omega), ⟨(by first | exact ok_796 hE9 g_157 | omega), ⟨(by first | exact ok_796 hN9 g_158 | omega), ⟨(by first | exact ok_992 hS9.1 g_161 | omega), ⟨(by first | exact ok_993 hS9.2.1 g_161 | omega), ⟨(by first | exact ok_992 hS9.2.2.1 g_162 | omega), ⟨(by first | exact ok_993 hS9.2.2.2.1 g_162 | omega), ⟨(by first | exact ok_992 hS9.2.2.2.2.1 g_163 | omega), ⟨(by first | exact ok_993 hS9.2.2.2.2.2.1 g_163 | omega), (by first | exact ok_994 hS9.2.2.2.2.2.2 g_161 g_162 g_163 | omega)⟩⟩⟩⟩⟩⟩⟩⟩⟩) | omega)), (Jn_n_readLine_4_mk (Or.inl ⟨c_103, ⟨r_106, G_107, hX_110, (Or.inl ⟨c_112, ⟨r_115, G_116, hX_119, (Or.inr ⟨c_121, ⟨y_138, ey_138, ⟨G_139, hB_G_139, (Fr.put (rs := []) (fs := [(66, 51)]) Fr.rf eG_139 (Or.inr (by decide))), (gp_eq eG_139), ⟨r_147, G_148, hX_151, ⟨(Fr.put (rs := []) (fs := [(66, 50)]) Fr.rf eG_152 (Or.inr (by decide))), (gp_eq eG_152)⟩⟩⟩⟩⟩)⟩⟩)⟩⟩)), hW, hB_G_152, hF, (Fr.put (rs := [86]) (fs := [(66, 2), (66, 3), (66, 4), (66, 6), (66, 7), (66, 8), (66, 9), (66, 48), (66, 49), (66, 50), (66, 51)]) (Fr.call9 (rs := [86]) (fs := [(66, 2), (66, 3), (66, 4), (66, 6), (66, 7), (66, 8), (66, 9), (66, 48), (66, 49), (66, 50), (66, 51)]) (Fr.put (rs := [86]) (fs := [(66, 2), (66, 3), (66, 4), (66, 6), (66, 7), (66, 8), (66, 9), (66, 48), (66, 49), (66, 50), (66, 51)]) (Fr.call9 (rs := [86]) (fs := [(66, 2), (66, 3), (66, 4), (66, 6), (66, 7), (66, 8), (66, 9), (66, 48), (66, 49), (66, 50), (66, 51)]) (Fr.call9 (rs := [86]) (fs := [(66, 2), (66, 3), (66, 4), (66, 6), (66, 7), (66, 8), (66, 9), (66, 48), (66, 49), (66, 50), (66, 51)]) Fr.rf hq_108 rfl rfl) hq_117 rfl rfl) eG_139 (Or.inr (by decide))) hq_149 rfl rfl) eG_152 (Or.inr (by decide))), hS, lv_sub hl [0] rfl⟩
          · have c_112 : r_106.toInt ≠ 0 := xI_ne rfl rfl c_112
            refine lv_aload_n hx hb dX12_readLine_115 rfl (lv_at hl 0 rfl) ?_
            refine lv_dup hx hb dX12_readLine_116 rfl ?_
            refine S_getI (v := (G.1 66 51)) (C := RX12) (T := TX12) (N := 89) hx hb hg iX12 hown hK hW kd_66 rfl 51 (lt_b rfl) (hg (Cond.fieldLink RX12 391 "SlabWalkModel" "nOnce" "I") m1365) (fun _ h9 => h9) rfl ((hq_108.i9 66 51 rfl rfl).trans ((hq_40.i9 66 51 rfl rfl).trans ((hq_34.i9 66 51 rfl rfl).trans ((hq_27.i9 66 51 rfl rfl).trans ((hq_22.i9 66 51 rfl rfl).trans ((hq_15.i9 66 51 rfl rfl).trans ((hq_10.i9 66 51 rfl rfl).trans (hq_3.i9 66 51 rfl rfl)))))))) dX12_readLine_117 ?_
            refine ic_2 hx hb dX12_readLine_120 ?_
            refine lv_ior hx hb dX12_readLine_121 ?_
            refine lv_topi (fun y_164 ey_164 => ?_)
            refine S_putI (ty := .int) (C := RX12) (T := TX12) (N := 89) hx hb hg iX12 tyX12 tyX12_ok nmX12 hown hK hW hS kd_66 rfl 51 (lt_b rfl) (hg (Cond.fieldLink RX12 391 "SlabWalkModel" "nOnce" "I") m1365) (fun _ h9 => h9) rfl (by decide +kernel) rfl rfl rfl dX12_readLine_122 (fun G_165 H locs eG_165 hW hS => ?_)
            have hB_G_165 : Bd G_165 := hB_G_107.put (lo := (-2147483648)) (hi := 2147483647) eG_165 rfl rfl rfl (tI_rng _).1 (tI_rng _).2 (hB_G_107.2.put eG_165 rfl)
            have hF := hF.put eG_165 (Or.inr (by decide))
            refine lv_aload_n hx hb dX12_readLine_125 rfl (lv_at hl 0 rfl) ?_
            refine lv_aload_n hx hb dX12_readLine_126 rfl (lv_at hl 0 rfl) ?_
            refine lv_ldc2 (v := 1751215716) hx hb hown (hg (Cond.constantLong RX12 239 1751215716) m1652) dX12_readLine_127 ?_
            refine ic_1 hx hb dX12_readLine_130 ?_
            refine lv_bipush (v := 99) hx hb dX12_readLine_131 (by decide) ?_
            have qc_166 : (1 : Int32).toInt = 1 := rfl
            have qc_167 : (99 : Int32).toInt = 99 := rfl
            have b_168 : 0 ≤ (G.1 66 2).toInt ∧ (G.1 66 2).toInt ≤ 4 := bd_66_2 hB_G
            have g_169 : (G_165.1 66 2).toInt = (G.1 66 2).toInt := (congrArg Int32.toInt (show G_165.1 66 2 = (G.1 66 2) from ((gp_ne eG_165 (by decide)).trans ((hq_108.i9 66 2 rfl rfl).trans ((hq_40.i9 66 2 rfl rfl).trans ((hq_34.i9 66 2 rfl rfl).trans ((hq_27.i9 66 2 rfl rfl).trans ((hq_22.i9 66 2 rfl rfl).trans ((hq_15.i9 66 2 rfl rfl).trans ((hq_10.i9 66 2 rfl rfl).trans (hq_3.i9 66 2 rfl rfl)))))))))))
            have b_170 : 0 ≤ (G.1 66 4).toInt ∧ (G.1 66 4).toInt ≤ 1600 := bd_66_4 hB_G
            have g_171 : (G_165.1 66 4).toInt = (G.1 66 4).toInt := (congrArg Int32.toInt (show G_165.1 66 4 = (G.1 66 4) from ((gp_ne eG_165 (by decide)).trans ((hq_108.i9 66 4 rfl rfl).trans ((hq_40.i9 66 4 rfl rfl).trans ((hq_34.i9 66 4 rfl rfl).trans ((hq_27.i9 66 4 rfl rfl).trans ((hq_22.i9 66 4 rfl rfl).trans ((hq_15.i9 66 4 rfl rfl).trans ((hq_10.i9 66 4 rfl rfl).trans (hq_3.i9 66 4 rfl rfl)))))))))))
            have g_172 : (G_165.1 66 6).toInt = (G.1 66 6).toInt := (congrArg Int32.toInt (show G_165.1 66 6 = (G.1 66 6) from ((gp_ne eG_165 (by decide)).trans ((hq_108.i9 66 6 rfl rfl).trans ((hq_40.i9 66 6 rfl rfl).trans ((hq_34.i9 66 6 rfl rfl).trans ((hq_27.i9 66 6 rfl rfl).trans ((hq_22.i9 66 6 rfl rfl).trans ((hq_15.i9 66 6 rfl rfl).trans ((hq_10.i9 66 6 rfl rfl).trans ((hq_3.i9 66 6 rfl rfl).trans (rfl))))))))))))
            refine S_calli (va_runV (As := [.long 1751215716, .int 1, .int 99]) (rest := [.ref (a 66)]) ⟨hx, hb, hml, hown, hts⟩ (n_told2 l D k A a z G_165 1751215716 1 99 ) (cwV 3 hts (gd_V hgd m1674 m1676 m60 m131 m1677) rfl rfl rfl hd_X12_told ⟨Nat.le_of_ble_eq_true rfl, Nat.le_of_ble_eq_true rfl⟩) (pre_W hW hB_G_165 hK hZ hS kd_66 rfl) rfl rfl hl.1 rfl (lv_room (Nat.le_of_ble_eq_true rfl)) dX12_readLine_133 ⟨Nat.le_of_ble_eq_true rfl, Nat.le_of_ble_eq_true rfl⟩) hS (fun r_173 G_174 H locs hpo hW hS => ?_)
            have hX_177 : Q_told2 1751215716 1 99 G_165 r_173 G_174 := hpo
            obtain ⟨hB_G_174, hq_175, ⟨d_12, d_13, d_14, d_15⟩, -⟩ := hpo
            have hF := hF.call9 hq_175 rfl rfl
            refine S_putI (ty := .int) (C := RX12) (T := TX12) (N := 89) hx hb hg iX12 tyX12 tyX12_ok nmX12 hown hK hW hS kd_66 rfl 48 (lt_b rfl) (hg (Cond.fieldLink RX12 410 "SlabWalkModel" "nHand" "I") m1362) (fun _ h9 => h9) rfl (by decide +kernel) rfl rfl rfl dX12_readLine_136 (fun G_178 H locs eG_178 hW hS => ?_)
            have hB_G_178 : Bd G_178 := hB_G_174.put (lo := (-2147483648)) (hi := 2147483647) eG_178 rfl rfl rfl (tI_rng _).1 (tI_rng _).2 (hB_G_174.2.put eG_178 rfl)
            have hF := hF.put eG_178 (Or.inr (by decide))
            refine lv_aload_n hx hb dX12_readLine_139 rfl (lv_at hl 0 rfl) ?_
            refine lv_aload_n hx hb dX12_readLine_140 rfl (lv_at hl 0 rfl) ?_
            refine lv_ldc2 (v := 495739560811) hx hb hown (hg (Cond.constantLong RX12 241 495739560811) m1653) dX12_readLine_141 ?_
            refine ic_0 hx hb dX12_readLine_144 ?_
            refine lv_bipush (v := 99) hx hb dX12_readLine_145 (by decide) ?_
            have qc_179 : (0 : Int32).toInt = 0 := rfl
            have qc_180 : (99 : Int32).toInt = 99 := rfl
            have b_181 : 0 ≤ (G_174.1 66 2).toInt ∧ (G_174.1 66 2).toInt ≤ 4 := bd_66_2 hB_G_174
            have g_182 : (G_178.1 66 2).toInt = (G_174.1 66 2).toInt := (congrArg Int32.toInt (show G_178.1 66 2 = (G_174.1 66 2) from (gp_ne eG_178 (by decide))))
            have b_183 : 0 ≤ (G_174.1 66 4).toInt ∧ (G_174.1 66 4).toInt ≤ 1600 := bd_66_4 hB_G_174
            have g_184 : (G_178.1 66 4).toInt = (G_174.1 66 4).toInt := (congrArg Int32.toInt (show G_178.1 66 4 = (G_174.1 66 4) from (gp_ne eG_178 (by decide))))
            have g_185 : (G_178.1 66 6).toInt = (G_174.1 66 6).toInt := (congrArg Int32.toInt (show G_178.1 66 6 = (G_174.1 66 6) from (gp_ne eG_178 (by decide))))
            refine S_calli (va_runV (As := [.long 495739560811, .int 0, .int 99]) (rest := [.ref (a 66)]) ⟨hx, hb, hml, hown, hts⟩ (n_told2 l D k A a z G_178 495739560811 0 99 ) (cwV 3 hts (gd_V hgd m1674 m1676 m60 m131 m1677) rfl rfl rfl hd_X12_told ⟨Nat.le_of_ble_eq_true rfl, Nat.le_of_ble_eq_true rfl⟩) (pre_W hW hB_G_178 hK hZ hS kd_66 rfl) rfl rfl hl.1 rfl (lv_room (Nat.le_of_ble_eq_true rfl)) dX12_readLine_147 ⟨Nat.le_of_ble_eq_true rfl, Nat.le_of_ble_eq_true rfl⟩) hS (fun r_186 G_187 H locs hpo hW hS => ?_)
            have hX_190 : Q_told2 495739560811 0 99 G_178 r_186 G_187 := hpo
            obtain ⟨hB_G_187, hq_188, ⟨d_16, d_17, d_18, d_19⟩, -⟩ := hpo
            have hF := hF.call9 hq_188 rfl rfl
            refine S_putI (ty := .int) (C := RX12) (T := TX12) (N := 89) hx hb hg iX12 tyX12 tyX12_ok nmX12 hown hK hW hS kd_66 rfl 49 (lt_b rfl) (hg (Cond.fieldLink RX12 413 "SlabWalkModel" "nSlack" "I") m1363) (fun _ h9 => h9) rfl (by decide +kernel) rfl rfl rfl dX12_readLine_150 (fun G_191 H locs eG_191 hW hS => ?_)
            have hB_G_191 : Bd G_191 := hB_G_187.put (lo := (-2147483648)) (hi := 2147483647) eG_191 rfl rfl rfl (tI_rng _).1 (tI_rng _).2 (hB_G_187.2.put eG_191 rfl)
            have hF := hF.put eG_191 (Or.inr (by decide))
            refine lv_goto (tgt := 200) hx hb dX12_readLine_153 rfl ?_
            have b_192 : 0 ≤ (G_187.1 66 4).toInt ∧ (G_187.1 66 4).toInt ≤ 1600 := bd_66_4 hB_G_187
            have g_193 : (G_191.1 66 4).toInt = (G_187.1 66 4).toInt := (congrArg Int32.toInt (show G_191.1 66 4 = (G_187.1 66 4) from (gp_ne eG_191 (by decide))))
            have g_194 : (G_191.1 66 6).toInt = (G_187.1 66 6).toInt := (congrArg Int32.toInt (show G_191.1 66 6 = (G_187.1 66 6) from (gp_ne eG_191 (by decide))))
            have fr_195 : Fr [] [(66, 2), (66, 3), (66, 4), (66, 6), (66, 7), (66, 8), (66, 9), (66, 48), (66, 49), (66, 51)] G G_191 := (Fr.put (rs := []) (fs := [(66, 2), (66, 3), (66, 4), (66, 6), (66, 7), (66, 8), (66, 9), (66, 48), (66, 49), (66, 51)]) (Fr.call9 (rs := []) (fs := [(66, 2), (66, 3), (66, 4), (66, 6), (66, 7), (66, 8), (66, 9), (66, 48), (66, 49), (66, 51)]) (Fr.put (rs := []) (fs := [(66, 2), (66, 3), (66, 4), (66, 6), (66, 7), (66, 8), (66, 9), (66, 48), (66, 49), (66, 51)]) (Fr.call9 (rs := []) (fs := [(66, 2), (66, 3), (66, 4), (66, 6), (66, 7), (66, 8), (66, 9), (66, 48), (66, 49), (66, 51)]) (Fr.put (rs := []) (fs := [(66, 2), (66, 3), (66, 4), (66, 6), (66, 7), (66, 8), (66, 9), (66, 48), (66, 49), (66, 51)]) (Fr.call9 (rs := []) (fs := [(66, 2), (66, 3), (66, 4), (66, 6), (66, 7), (66, 8), (66, 9), (66, 48), (66, 49), (66, 51)]) (Fr.call9 (rs := []) (fs := [(66, 2), (66, 3), (66, 4), (66, 6), (66, 7), (66, 8), (66, 9), (66, 48), (66, 49), (66, 51)]) (Fr.call9 (rs := []) (fs := [(66, 2), (66, 3), (66, 4), (66, 6), (66, 7), (66, 8), (66, 9), (66, 48), (66, 49), (66, 51)]) (Fr.call9 (rs := []) (fs := [(66, 2), (66, 3), (66, 4), (66, 6), (66, 7), (66, 8), (66, 9), (66, 48), (66, 49), (66, 51)]) (Fr.call9 (rs := []) (fs := [(66, 2), (66, 3), (66, 4), (66, 6), (66, 7), (66, 8), (66, 9), (66, 48), (66, 49), (66, 51)]) (Fr.call9 (rs := []) (fs := [(66, 2), (66, 3), (66, 4), (66, 6), (66, 7), (66, 8), (66, 9), (66, 48), (66, 49), (66, 51)]) (Fr.call9 (rs := []) (fs := [(66, 2), (66, 3), (66, 4), (66, 6), (66, 7), (66, 8), (66, 9), (66, 48), (66, 49), (66, 51)]) (Fr.call9 (rs := []) (fs := [(66, 2), (66, 3), (66, 4), (66, 6), (66, 7), (66, 8), (66, 9), (66, 48), (66, 49), (66, 51)]) Fr.rf hq_3 rfl rfl) hq_10 rfl rfl) hq_15 rfl rfl) hq_22 rfl rfl) hq_27 rfl rfl) hq_34 rfl rfl) hq_40 rfl rfl) hq_108 rfl rfl) eG_165 (Or.inr (by decide))) hq_175 rfl rfl) eG_178 (Or.inr (by decide))) hq_188 rfl rfl) eG_191 (Or.inr (by decide)))
            have g_196 : gE G_191 = gE G := gE_fr fr_195 (gr_q rfl) (gf_q rfl)
            have g_197 : gN G_191 = gN G := gN_fr fr_195 (gr_q rfl) (gf_q rfl)
            have b_198 : 0 ≤ (G_187.1 66 2).toInt ∧ (G_187.1 66 2).toInt ≤ 4 := bd_66_2 hB_G_187
            have g_199 : (G_191.1 66 2).toInt = (G_187.1 66 2).toInt := (congrArg Int32.toInt (show G_191.1 66 2 = (G_187.1 66 2) from (gp_ne eG_191 (by decide))))
            have g_200 : (G_191.1 86 0).toInt = (G.1 86 0).toInt := (congrArg Int32.toInt (show G_191.1 86 0 = (G.1 86 0) from ((gp_ne eG_191 (by decide)).trans ((hq_188.i9 86 0 rfl rfl).trans ((gp_ne eG_178 (by decide)).trans ((hq_175.i9 86 0 rfl rfl).trans ((gp_ne eG_165 (by decide)).trans ((hq_108.i9 86 0 rfl rfl).trans ((hq_40.i9 86 0 rfl rfl).trans ((hq_34.i9 86 0 rfl rfl).trans ((hq_27.i9 86 0 rfl rfl).trans ((hq_22.i9 86 0 rfl rfl).trans ((hq_15.i9 86 0 rfl rfl).trans ((hq_10.i9 86 0 rfl rfl).trans (hq_3.i9 86 0 rfl rfl)))))))))))))))
            have g_201 : (G_191.1 86 1).toInt = (G.1 86 1).toInt := (congrArg Int32.toInt (show G_191.1 86 1 = (G.1 86 1) from ((gp_ne eG_191 (by decide)).trans ((hq_188.i9 86 1 rfl rfl).trans ((gp_ne eG_178 (by decide)).trans ((hq_175.i9 86 1 rfl rfl).trans ((gp_ne eG_165 (by decide)).trans ((hq_108.i9 86 1 rfl rfl).trans ((hq_40.i9 86 1 rfl rfl).trans ((hq_34.i9 86 1 rfl rfl).trans ((hq_27.i9 86 1 rfl rfl).trans ((hq_22.i9 86 1 rfl rfl).trans ((hq_15.i9 86 1 rfl rfl).trans ((hq_10.i9 86 1 rfl rfl).trans (hq_3.i9 86 1 rfl rfl)))))))))))))))
            have g_202 : (G_191.1 86 2).toInt = (G.1 86 2).toInt := (congrArg Int32.toInt (show G_191.1 86 2 = (G.1 86 2) from ((gp_ne eG_191 (by decide)).trans ((hq_188.i9 86 2 rfl rfl).trans ((gp_ne eG_178 (by decide)).trans ((hq_175.i9 86 2 rfl rfl).trans ((gp_ne eG_165 (by decide)).trans ((hq_108.i9 86 2 rfl rfl).trans ((hq_40.i9 86 2 rfl rfl).trans ((hq_34.i9 86 2 rfl rfl).trans ((hq_27.i9 86 2 rfl rfl).trans ((hq_22.i9 86 2 rfl rfl).trans ((hq_15.i9 86 2 rfl rfl).trans ((hq_10.i9 86 2 rfl rfl).trans (hq_3.i9 86 2 rfl rfl)))))))))))))))
            exact hJ_46 () _ _ _ ⟨G_191, ((by first | exact ⟨(by first | exact ok_997 b_170.2 g_171 d_12 g_184 d_16 b_192.1 g_193 | omega), (fun h9 => by have q0_ := d_13 (by first | (clear hnf hE9 hN9 hS9 f_6 hp_4 g_12 f_18 hp_16 g_24 f_30 hp_28 g_37 f_43 hp_41 c_103 g_105 f_111 hp_109 c_112 b_168 g_169 g_172 d_13 d_14 d_15 b_181 g_182 g_185 d_17 d_18 d_19 g_194 g_196 g_197 b_198 g_199 g_200 g_201 g_202; omega) | omega); have q1_ := d_17 (by first | (clear hnf hE9 hN9 hS9 f_6 hp_4 g_12 f_18 hp_16 g_24 f_30 hp_28 g_37 f_43 hp_41 c_103 g_105 f_111 hp_109 c_112 b_168 g_169 g_172 d_13 d_14 d_15 b_181 g_182 g_185 d_17 d_18 d_19 g_194 g_196 g_197 b_198 g_199 g_200 g_201 g_202; omega) | omega); (first | (clear hnf hE9 hN9 hS9 f_6 hp_4 f_18 hp_16 f_30 hp_28 f_43 hp_41 c_103 f_111 hp_109 c_112 b_168 g_169 b_170 g_171 d_12 d_13 d_14 d_15 b_181 g_182 b_183 g_184 d_16 d_17 d_18 d_19 b_192 g_193 g_196 g_197 b_198 g_199 g_200 g_201 g_202; omega) | omega))⟩ | omega)), ((by first | exact (fun h9 => ⟨(by first | exact ok_996 g_105 f_111.1 f_111.2 hp_109 c_112 | omega), ⟨(by first | exact ok_796 hE9 g_196 | omega), ⟨(by first | exact ok_796 hN9 g_197 | omega), ⟨(by first | exact ok_992 hS9.1 g_200 | omega), ⟨(by first | exact ok_993 hS9.2.1 g_200 | omega), ⟨(by first | exact ok_992 hS9.2.2.1 g_201 | omega), ⟨(by first | exact ok_993 hS9.2.2.2.1 g_201 | omega), ⟨(by first | exact ok_992 hS9.2.2.2.2.1 g_202 | omega), ⟨(by first | exact ok_993 hS9.2.2.2.2.2.1 g_202 | omega), (by first | exact ok_994 hS9.2.2.2.2.2.2 g_200 g_201 g_202 | omega)⟩⟩⟩⟩⟩⟩⟩⟩⟩) | omega)), (Jn_n_readLine_4_mk (Or.inl ⟨c_103, ⟨r_106, G_107, hX_110, (Or.inr ⟨c_112, ⟨y_164, ey_164, ⟨G_165, hB_G_165, (Fr.put (rs := []) (fs := [(66, 51)]) Fr.rf eG_165 (Or.inr (by decide))), (gp_eq eG_165), ⟨r_173, G_174, hX_177, ⟨G_178, hB_G_178, (Fr.put (rs := []) (fs := [(66, 48)]) Fr.rf eG_178 (Or.inr (by decide))), (gp_eq eG_178), ⟨r_186, G_187, hX_190, ⟨(Fr.put (rs := []) (fs := [(66, 49)]) Fr.rf eG_191 (Or.inr (by decide))), (gp_eq eG_191)⟩⟩⟩⟩⟩⟩⟩)⟩⟩)), hW, hB_G_191, hF, (Fr.put (rs := [86]) (fs := [(66, 2), (66, 3), (66, 4), (66, 6), (66, 7), (66, 8), (66, 9), (66, 48), (66, 49), (66, 50), (66, 51)]) (Fr.call9 (rs := [86]) (fs := [(66, 2), (66, 3), (66, 4), (66, 6), (66, 7), (66, 8), (66, 9), (66, 48), (66, 49), (66, 50), (66, 51)]) (Fr.put (rs := [86]) (fs := [(66, 2), (66, 3), (66, 4), (66, 6), (66, 7), (66, 8), (66, 9), (66, 48), (66, 49), (66, 50), (66, 51)]) (Fr.call9 (rs := [86]) (fs := [(66, 2), (66, 3), (66, 4), (66, 6), (66, 7), (66, 8), (66, 9), (66, 48), (66, 49), (66, 50), (66, 51)]) (Fr.put (rs := [86]) (fs := [(66, 2), (66, 3), (66, 4), (66, 6), (66, 7), (66, 8), (66, 9), (66, 48), (66, 49), (66, 50), (66, 51)]) (Fr.call9 (rs := [86]) (fs := [(66, 2), (66, 3), (66, 4), (66, 6), (66, 7), (66, 8), (66, 9), (66, 48), (66, 49), (66, 50), (66, 51)]) Fr.rf hq_108 rfl rfl) eG_165 (Or.inr (by decide))) hq_175 rfl rfl) eG_178 (Or.inr (by decide))) hq_188 rfl rfl) eG_191 (Or.inr (by decide))), hS, lv_sub hl [0] rfl⟩
        · have c_103 : r_38.toInt ≠ 0 := xI_ne rfl rfl c_103
          refine lv_aload_n hx hb dX12_readLine_87 rfl (lv_at hl 0 rfl) ?_
          refine lv_dup hx hb dX12_readLine_88 rfl ?_
          refine S_getI (v := (G.1 66 51)) (C := RX12) (T := TX12) (N := 89) hx hb hg iX12 hown hK hW kd_66 rfl 51 (lt_b rfl) (hg (Cond.fieldLink RX12 391 "SlabWalkModel" "nOnce" "I") m1365) (fun _ h9 => h9) rfl ((hq_40.i9 66 51 rfl rfl).trans ((hq_34.i9 66 51 rfl rfl).trans ((hq_27.i9 66 51 rfl rfl).trans ((hq_22.i9 66 51 rfl rfl).trans ((hq_15.i9 66 51 rfl rfl).trans ((hq_10.i9 66 51 rfl rfl).trans (hq_3.i9 66 51 rfl rfl))))))) dX12_readLine_89 ?_
          refine ic_1 hx hb dX12_readLine_92 ?_
          refine lv_ior hx hb dX12_readLine_93 ?_
          refine lv_topi (fun y_203 ey_203 => ?_)
          refine S_putI (ty := .int) (C := RX12) (T := TX12) (N := 89) hx hb hg iX12 tyX12 tyX12_ok nmX12 hown hK hW hS kd_66 rfl 51 (lt_b rfl) (hg (Cond.fieldLink RX12 391 "SlabWalkModel" "nOnce" "I") m1365) (fun _ h9 => h9) rfl (by decide +kernel) rfl rfl rfl dX12_readLine_94 (fun G_204 H locs eG_204 hW hS => ?_)
          have hB_G_204 : Bd G_204 := hB_G_39.put (lo := (-2147483648)) (hi := 2147483647) eG_204 rfl rfl rfl (tI_rng _).1 (tI_rng _).2 (hB_G_39.2.put eG_204 rfl)
          have hF := hF.put eG_204 (Or.inr (by decide))
          refine lv_aload_n hx hb dX12_readLine_97 rfl (lv_at hl 0 rfl) ?_
          have b_205 : 0 ≤ (G.1 66 2).toInt ∧ (G.1 66 2).toInt ≤ 4 := bd_66_2 hB_G
          have g_206 : (G_204.1 66 2).toInt = (G.1 66 2).toInt := (congrArg Int32.toInt (show G_204.1 66 2 = (G.1 66 2) from ((gp_ne eG_204 (by decide)).trans ((hq_40.i9 66 2 rfl rfl).trans ((hq_34.i9 66 2 rfl rfl).trans ((hq_27.i9 66 2 rfl rfl).trans ((hq_22.i9 66 2 rfl rfl).trans ((hq_15.i9 66 2 rfl rfl).trans ((hq_10.i9 66 2 rfl rfl).trans (hq_3.i9 66 2 rfl rfl))))))))))
          have b_207 : 0 ≤ (G.1 66 4).toInt ∧ (G.1 66 4).toInt ≤ 1600 := bd_66_4 hB_G
          have g_208 : (G_204.1 66 4).toInt = (G.1 66 4).toInt := (congrArg Int32.toInt (show G_204.1 66 4 = (G.1 66 4) from ((gp_ne eG_204 (by decide)).trans ((hq_40.i9 66 4 rfl rfl).trans ((hq_34.i9 66 4 rfl rfl).trans ((hq_27.i9 66 4 rfl rfl).trans ((hq_22.i9 66 4 rfl rfl).trans ((hq_15.i9 66 4 rfl rfl).trans ((hq_10.i9 66 4 rfl rfl).trans (hq_3.i9 66 4 rfl rfl))))))))))
          have g_209 : (G_204.1 66 6).toInt = (G.1 66 6).toInt := (congrArg Int32.toInt (show G_204.1 66 6 = (G.1 66 6) from ((gp_ne eG_204 (by decide)).trans ((hq_40.i9 66 6 rfl rfl).trans ((hq_34.i9 66 6 rfl rfl).trans ((hq_27.i9 66 6 rfl rfl).trans ((hq_22.i9 66 6 rfl rfl).trans ((hq_15.i9 66 6 rfl rfl).trans ((hq_10.i9 66 6 rfl rfl).trans ((hq_3.i9 66 6 rfl rfl).trans (rfl)))))))))))
          refine S_callv (va_runV (As := []) (rest := []) ⟨hx, hb, hml, hown, hts⟩ (n_readSlip l D k A a z G_204  ((by first | exact ok_911 hnf g_206 | omega))) (cwV 0 hts (gd_V hgd m1765 m1767 m82 m131 m1768) rfl rfl rfl hd_X12_readSlip ⟨Nat.le_of_ble_eq_true rfl, Nat.le_of_ble_eq_true rfl⟩) (pre_W hW hB_G_204 hK hZ hS kd_66 rfl) rfl rfl hl.1 rfl (lv_room (Nat.le_of_ble_eq_true rfl)) dX12_readLine_98 ⟨Nat.le_of_ble_eq_true rfl, Nat.le_of_ble_eq_true rfl⟩) hS (fun G_211 H locs hpo hW hS => ?_)
          have hX_214 : Q_readSlip G_204 G_211 := hpo
          obtain ⟨hB_G_211, hq_212, ⟨d_20, d_21, d_22⟩, -⟩ := hpo
          have hF := hF.call9 hq_212 rfl rfl
          refine lv_goto (tgt := 200) hx hb dX12_readLine_101 rfl ?_
          have b_215 : 0 ≤ (G_211.1 66 4).toInt ∧ (G_211.1 66 4).toInt ≤ 1600 := bd_66_4 hB_G_211
          have fr_216 : Fr [86] [(66, 2), (66, 3), (66, 4), (66, 6), (66, 7), (66, 8), (66, 9), (66, 51)] G G_211 := (Fr.call9 (rs := [86]) (fs := [(66, 2), (66, 3), (66, 4), (66, 6), (66, 7), (66, 8), (66, 9), (66, 51)]) (Fr.put (rs := [86]) (fs := [(66, 2), (66, 3), (66, 4), (66, 6), (66, 7), (66, 8), (66, 9), (66, 51)]) (Fr.call9 (rs := [86]) (fs := [(66, 2), (66, 3), (66, 4), (66, 6), (66, 7), (66, 8), (66, 9), (66, 51)]) (Fr.call9 (rs := [86]) (fs := [(66, 2), (66, 3), (66, 4), (66, 6), (66, 7), (66, 8), (66, 9), (66, 51)]) (Fr.call9 (rs := [86]) (fs := [(66, 2), (66, 3), (66, 4), (66, 6), (66, 7), (66, 8), (66, 9), (66, 51)]) (Fr.call9 (rs := [86]) (fs := [(66, 2), (66, 3), (66, 4), (66, 6), (66, 7), (66, 8), (66, 9), (66, 51)]) (Fr.call9 (rs := [86]) (fs := [(66, 2), (66, 3), (66, 4), (66, 6), (66, 7), (66, 8), (66, 9), (66, 51)]) (Fr.call9 (rs := [86]) (fs := [(66, 2), (66, 3), (66, 4), (66, 6), (66, 7), (66, 8), (66, 9), (66, 51)]) (Fr.call9 (rs := [86]) (fs := [(66, 2), (66, 3), (66, 4), (66, 6), (66, 7), (66, 8), (66, 9), (66, 51)]) Fr.rf hq_3 rfl rfl) hq_10 rfl rfl) hq_15 rfl rfl) hq_22 rfl rfl) hq_27 rfl rfl) hq_34 rfl rfl) hq_40 rfl rfl) eG_204 (Or.inr (by decide))) hq_212 rfl rfl)
          have g_217 : gE G_211 = gE G := gE_fr fr_216 (gr_q rfl) (gf_q rfl)
          have g_218 : gN G_211 = gN G := gN_fr fr_216 (gr_q rfl) (gf_q rfl)
          have b_219 : 0 ≤ (G_211.1 66 2).toInt ∧ (G_211.1 66 2).toInt ≤ 4 := bd_66_2 hB_G_211
          exact hJ_46 () _ _ _ ⟨G_211, ((by first | exact ⟨(by first | exact ok_620 g_208 d_20 | omega), (fun h9 => by have q0_ := d_21 (by first | (clear hnf hE9 hN9 hS9 f_6 hp_4 g_12 f_18 hp_16 g_24 f_30 hp_28 g_37 f_43 hp_41 c_103 b_205 g_206 g_209 d_21 d_22 g_217 g_218 b_219; omega) | omega); (first | (clear hnf hE9 hN9 hS9 f_6 hp_4 f_18 hp_16 f_30 hp_28 f_43 hp_41 c_103 b_205 g_206 b_207 g_208 d_20 d_21 d_22 b_215 g_217 g_218 b_219; omega) | omega))⟩ | omega)), ((by first | exact (fun h9 => ⟨(by first | exact ok_996 g_37 f_43.1 f_43.2 hp_41 c_103 | omega), ⟨(by first | exact ok_796 hE9 g_217 | omega), ⟨(by first | exact ok_796 hN9 g_218 | omega), ⟨(by first | exact ok_998 d_22 b_219.1 h9 | omega), ⟨(by first | exact ok_999 d_22 b_219.1 h9 | omega), ⟨(by first | exact ok_1000 d_22 b_219.1 h9 | omega), ⟨(by first | exact ok_1001 d_22 b_219.1 h9 | omega), ⟨(by first | exact ok_1002 d_22 b_219.1 h9 | omega), ⟨(by first | exact ok_1003 d_22 b_219.1 h9 | omega), (by first | exact ok_1004 d_22 b_219.1 h9 | omega)⟩⟩⟩⟩⟩⟩⟩⟩⟩) | omega)), (Jn_n_readLine_4_mk (Or.inr ⟨c_103, ⟨y_203, ey_203, ⟨G_204, hB_G_204, (Fr.put (rs := []) (fs := [(66, 51)]) Fr.rf eG_204 (Or.inr (by decide))), (gp_eq eG_204), ⟨G_211, hX_214, rfl⟩⟩⟩⟩)), hW, hB_G_211, hF, (Fr.call9 (rs := [86]) (fs := [(66, 2), (66, 3), (66, 4), (66, 6), (66, 7), (66, 8), (66, 9), (66, 48), (66, 49), (66, 50), (66, 51)]) (Fr.put (rs := [86]) (fs := [(66, 2), (66, 3), (66, 4), (66, 6), (66, 7), (66, 8), (66, 9), (66, 48), (66, 49), (66, 50), (66, 51)]) Fr.rf eG_204 (Or.inr (by decide))) hq_212 rfl rfl), hS, lv_sub hl [0] rfl⟩
      refine lv_if_eq (tgt := 76) hx hb dX12_readLine_57 rfl (fun c_220 => ?_) (fun c_220 => ?_)
      · have c_220 : r_25.toInt = 0 := xI_eq rfl rfl c_220
        exact hJ_33 () _ _ _ ⟨G_26, (Jn_n_readLine_3_mk (Or.inl ⟨c_220, rfl⟩)), hW, hB_G_26, hF, (Fr.rf (rs := []) (fs := [])), hS, lv_sub hl [0] rfl⟩
      · have c_220 : r_25.toInt ≠ 0 := xI_ne rfl rfl c_220
        refine lv_aload_n hx hb dX12_readLine_60 rfl (lv_at hl 0 rfl) ?_
        have b_221 : 0 ≤ (G.1 66 47).toInt ∧ (G.1 66 47).toInt ≤ 6 := bd_66_47 hB_G
        refine S_getI (v := (G.1 66 47)) (C := RX12) (T := TX12) (N := 89) hx hb hg iX12 hown hK hW kd_66 rfl 47 (lt_b rfl) (hg (Cond.fieldLink RX12 385 "SlabWalkModel" "nRules" "I") m1361) (fun _ h9 => h9) rfl ((hq_27.i9 66 47 rfl rfl).trans ((hq_22.i9 66 47 rfl rfl).trans ((hq_15.i9 66 47 rfl rfl).trans ((hq_10.i9 66 47 rfl rfl).trans (hq_3.i9 66 47 rfl rfl))))) dX12_readLine_61 ?_
        refine lv_bipush (v := 6) hx hb dX12_readLine_64 (by decide) ?_
        refine lv_icmp_ge (tgt := 76) hx hb dX12_readLine_66 rfl (fun c_222 => ?_) (fun c_222 => ?_)
        · have c_222 : 6 ≤ (G.1 66 47).toInt := xI_le rfl rfl c_222
          exact hJ_33 () _ _ _ ⟨G_26, (Jn_n_readLine_3_mk (Or.inr ⟨c_220, ⟨c_222, rfl⟩⟩)), hW, hB_G_26, hF, (Fr.rf (rs := []) (fs := [])), hS, lv_sub hl [0] rfl⟩
        · have c_222 : (G.1 66 47).toInt < 6 := xI_nle rfl rfl c_222
          refine lv_aload_n hx hb dX12_readLine_69 rfl (lv_at hl 0 rfl) ?_
          have b_223 : 0 ≤ (G.1 66 2).toInt ∧ (G.1 66 2).toInt ≤ 4 := bd_66_2 hB_G
          have g_224 : (G_26.1 66 2).toInt = (G.1 66 2).toInt := (congrArg Int32.toInt (show G_26.1 66 2 = (G.1 66 2) from ((hq_27.i9 66 2 rfl rfl).trans ((hq_22.i9 66 2 rfl rfl).trans ((hq_15.i9 66 2 rfl rfl).trans ((hq_10.i9 66 2 rfl rfl).trans (hq_3.i9 66 2 rfl rfl)))))))
          have g_225 : (G_26.1 66 47).toInt = (G.1 66 47).toInt := (congrArg Int32.toInt (show G_26.1 66 47 = (G.1 66 47) from ((hq_27.i9 66 47 rfl rfl).trans ((hq_22.i9 66 47 rfl rfl).trans ((hq_15.i9 66 47 rfl rfl).trans ((hq_10.i9 66 47 rfl rfl).trans ((hq_3.i9 66 47 rfl rfl).trans (rfl))))))))
          have fr_226 : Fr [] [] G G_26 := (Fr.call9 (rs := []) (fs := []) (Fr.call9 (rs := []) (fs := []) (Fr.call9 (rs := []) (fs := []) (Fr.call9 (rs := []) (fs := []) (Fr.call9 (rs := []) (fs := []) Fr.rf hq_3 rfl rfl) hq_10 rfl rfl) hq_15 rfl rfl) hq_22 rfl rfl) hq_27 rfl rfl)
          have g_227 : gE G_26 = gE G := gE_fr fr_226 (gr_q rfl) (gf_q rfl)
          have b_228 : 0 ≤ (G.1 66 4).toInt ∧ (G.1 66 4).toInt ≤ 1600 := bd_66_4 hB_G
          have g_229 : (G_26.1 66 4).toInt = (G.1 66 4).toInt := (congrArg Int32.toInt (show G_26.1 66 4 = (G.1 66 4) from ((hq_27.i9 66 4 rfl rfl).trans ((hq_22.i9 66 4 rfl rfl).trans ((hq_15.i9 66 4 rfl rfl).trans ((hq_10.i9 66 4 rfl rfl).trans (hq_3.i9 66 4 rfl rfl)))))))
          have g_230 : (G_26.1 66 6).toInt = (G.1 66 6).toInt := (congrArg Int32.toInt (show G_26.1 66 6 = (G.1 66 6) from ((hq_27.i9 66 6 rfl rfl).trans ((hq_22.i9 66 6 rfl rfl).trans ((hq_15.i9 66 6 rfl rfl).trans ((hq_10.i9 66 6 rfl rfl).trans ((hq_3.i9 66 6 rfl rfl).trans (rfl))))))))
          refine S_callv (va_runV (As := []) (rest := []) ⟨hx, hb, hml, hown, hts⟩ (n_readRule l D k A a z G_26  ((by first | exact ok_911 hnf g_224 | omega)) ((by first | exact ok_1005 b_221.2 c_222 g_225 | omega)) ((by first | exact ok_796 hE9 g_227 | omega))) (cwV 0 hts (gd_V hgd m1706 m1708 m68 m131 m1709) rfl rfl rfl hd_X12_readRule ⟨Nat.le_of_ble_eq_true rfl, Nat.le_of_ble_eq_true rfl⟩) (pre_W hW hB_G_26 hK hZ hS kd_66 rfl) rfl rfl hl.1 rfl (lv_room (Nat.le_of_ble_eq_true rfl)) dX12_readLine_70 ⟨Nat.le_of_ble_eq_true rfl, Nat.le_of_ble_eq_true rfl⟩) hS (fun G_232 H locs hpo hW hS => ?_)
          have hX_235 : Q_readRule G_26 G_232 := hpo
          obtain ⟨hB_G_232, hq_233, ⟨d_23, d_24, d_25⟩, -⟩ := hpo
          have hF := hF.call9 hq_233 rfl rfl
          refine lv_goto (tgt := 200) hx hb dX12_readLine_73 rfl ?_
          refine lv_aload_n hx hb dX12_readLine_200 rfl (lv_at hl 0 rfl) ?_
          have b_236 : 0 ≤ (G_232.1 66 2).toInt ∧ (G_232.1 66 2).toInt ≤ 4 := bd_66_2 hB_G_232
          refine S_getI (v := (G_232.1 66 2)) (C := RX12) (T := TX12) (N := 89) hx hb hg iX12 hown hK hW kd_66 rfl 2 (lt_b rfl) (hg (Cond.fieldLink RX12 218 "SlabWalkModel" "fault" "I") m1316) (fun _ h9 => h9) rfl rfl dX12_readLine_201 ?_
          refine lv_if_ne (tgt := 221) hx hb dX12_readLine_204 rfl (fun c_237 => ?_) (fun c_237 => ?_)
          · have c_237 : (G_232.1 66 2).toInt ≠ 0 := xI_ne rfl rfl c_237
            refine lv_aload_n hx hb dX12_readLine_221 rfl (lv_at hl 0 rfl) ?_
            refine S_getI (v := (G_232.1 66 2)) (C := RX12) (T := TX12) (N := 89) hx hb hg iX12 hown hK hW kd_66 rfl 2 (lt_b rfl) (hg (Cond.fieldLink RX12 218 "SlabWalkModel" "fault" "I") m1316) (fun _ h9 => h9) rfl rfl dX12_readLine_222 ?_
            refine lv_if_ne (tgt := 232) hx hb dX12_readLine_225 rfl (fun c_238 => ?_) (fun c_238 => ?_)
            · have c_238 : (G_232.1 66 2).toInt ≠ 0 := xI_ne rfl rfl c_238
              have fr_239 : Fr [68, 69, 70, 71, 75] [(66, 2), (66, 3), (66, 4), (66, 6), (66, 7), (66, 8), (66, 9), (66, 19), (66, 20), (66, 21), (66, 23), (66, 24), (66, 47)] G G_232 := (Fr.call9 (rs := [68, 69, 70, 71, 75]) (fs := [(66, 2), (66, 3), (66, 4), (66, 6), (66, 7), (66, 8), (66, 9), (66, 19), (66, 20), (66, 21), (66, 23), (66, 24), (66, 47)]) (Fr.call9 (rs := [68, 69, 70, 71, 75]) (fs := [(66, 2), (66, 3), (66, 4), (66, 6), (66, 7), (66, 8), (66, 9), (66, 19), (66, 20), (66, 21), (66, 23), (66, 24), (66, 47)]) (Fr.call9 (rs := [68, 69, 70, 71, 75]) (fs := [(66, 2), (66, 3), (66, 4), (66, 6), (66, 7), (66, 8), (66, 9), (66, 19), (66, 20), (66, 21), (66, 23), (66, 24), (66, 47)]) (Fr.call9 (rs := [68, 69, 70, 71, 75]) (fs := [(66, 2), (66, 3), (66, 4), (66, 6), (66, 7), (66, 8), (66, 9), (66, 19), (66, 20), (66, 21), (66, 23), (66, 24), (66, 47)]) (Fr.call9 (rs := [68, 69, 70, 71, 75]) (fs := [(66, 2), (66, 3), (66, 4), (66, 6), (66, 7), (66, 8), (66, 9), (66, 19), (66, 20), (66, 21), (66, 23), (66, 24), (66, 47)]) (Fr.call9 (rs := [68, 69, 70, 71, 75]) (fs := [(66, 2), (66, 3), (66, 4), (66, 6), (66, 7), (66, 8), (66, 9), (66, 19), (66, 20), (66, 21), (66, 23), (66, 24), (66, 47)]) Fr.rf hq_3 rfl rfl) hq_10 rfl rfl) hq_15 rfl rfl) hq_22 rfl rfl) hq_27 rfl rfl) hq_233 rfl rfl)
              have g_240 : gN G_232 = gN G := gN_fr fr_239 (gr_q rfl) (gf_q rfl)
              have b_241 : 0 ≤ (G_232.1 66 4).toInt ∧ (G_232.1 66 4).toInt ≤ 1600 := bd_66_4 hB_G_232
              have g_242 : (G_232.1 86 0).toInt = (G.1 86 0).toInt := (congrArg Int32.toInt (show G_232.1 86 0 = (G.1 86 0) from ((hq_233.i9 86 0 rfl rfl).trans ((hq_27.i9 86 0 rfl rfl).trans ((hq_22.i9 86 0 rfl rfl).trans ((hq_15.i9 86 0 rfl rfl).trans ((hq_10.i9 86 0 rfl rfl).trans (hq_3.i9 86 0 rfl rfl))))))))
              have g_243 : (G_232.1 86 1).toInt = (G.1 86 1).toInt := (congrArg Int32.toInt (show G_232.1 86 1 = (G.1 86 1) from ((hq_233.i9 86 1 rfl rfl).trans ((hq_27.i9 86 1 rfl rfl).trans ((hq_22.i9 86 1 rfl rfl).trans ((hq_15.i9 86 1 rfl rfl).trans ((hq_10.i9 86 1 rfl rfl).trans (hq_3.i9 86 1 rfl rfl))))))))
              have g_244 : (G_232.1 86 2).toInt = (G.1 86 2).toInt := (congrArg Int32.toInt (show G_232.1 86 2 = (G.1 86 2) from ((hq_233.i9 86 2 rfl rfl).trans ((hq_27.i9 86 2 rfl rfl).trans ((hq_22.i9 86 2 rfl rfl).trans ((hq_15.i9 86 2 rfl rfl).trans ((hq_10.i9 86 2 rfl rfl).trans (hq_3.i9 86 2 rfl rfl))))))))
              exact W.vret hx hb hr (fun t ht _ => ⟨⟨G_232, rfl, (Q_readLine_mk ⟨hB_G_232, hF, ((by first | exact ⟨(by first | exact ok_620 g_229 d_23 | omega), (fun h9 => ⟨((by first | (clear hnf hE9 hN9 hS9 f_6 f_18 f_30 c_220 b_221 c_222 b_223 g_224 g_225 g_227 d_25 g_240 g_242 g_243 g_244; omega) | omega)), ⟨(by first | exact ok_1006 d_25 b_236.1 h9 | omega), ⟨(by first | exact ok_796 hN9 g_240 | omega), ⟨(by first | exact ok_992 hS9.1 g_242 | omega), ⟨(by first | exact ok_993 hS9.2.1 g_242 | omega), ⟨(by first | exact ok_992 hS9.2.2.1 g_243 | omega), ⟨(by first | exact ok_993 hS9.2.2.2.1 g_243 | omega), ⟨(by first | exact ok_992 hS9.2.2.2.2.1 g_244 | omega), ⟨(by first | exact ok_993 hS9.2.2.2.2.2.1 g_244 | omega), (by first | exact ok_994 hS9.2.2.2.2.2.2 g_242 g_243 g_244 | omega)⟩⟩⟩⟩⟩⟩⟩⟩⟩)⟩ | omega)), ⟨r_1, G_2, hX_5, (Or.inr ⟨G_8, hX_11, hB_G_8, hq_10, ⟨r_13, G_14, hX_17, (Or.inr ⟨G_20, hX_23, hB_G_20, hq_22, ⟨r_25, G_26, hX_29, (Or.inl ⟨c_220, ⟨c_222, ⟨G_232, hX_235, (Or.inr ⟨c_237, rfl⟩)⟩⟩⟩)⟩⟩)⟩⟩)⟩⟩), wd_t ht hW⟩, hS.F ht⟩) hS.2.2 dX12_readLine_232
            · have c_238 : (G_232.1 66 2).toInt = 0 := xI_eq rfl rfl c_238
              exfalso; first | exact ok_923 b_236.1 c_237 c_238 | omega
          · have c_237 : (G_232.1 66 2).toInt = 0 := xI_eq rfl rfl c_237
            have d_26 := d_25 c_237
            refine lv_aload_n hx hb dX12_readLine_207 rfl (lv_at hl 0 rfl) ?_
            refine S_getI (v := (G_232.1 66 6)) (C := RX12) (T := TX12) (N := 89) hx hb hg iX12 hown hK hW kd_66 rfl 6 (lt_b rfl) (hg (Cond.fieldLink RX12 205 "SlabWalkModel" "sort" "I") m1320) (fun _ h9 => h9) rfl rfl dX12_readLine_208 ?_
            refine lv_bipush (v := 59) hx hb dX12_readLine_211 (by decide) ?_
            refine lv_icmp_eq (tgt := 221) hx hb dX12_readLine_213 rfl (fun c_245 => ?_) (fun c_245 => ?_)
            · have c_245 : (G_232.1 66 6).toInt = 59 := xI_eq rfl rfl c_245
              refine lv_aload_n hx hb dX12_readLine_221 rfl (lv_at hl 0 rfl) ?_
              refine S_getI (v := (G_232.1 66 2)) (C := RX12) (T := TX12) (N := 89) hx hb hg iX12 hown hK hW kd_66 rfl 2 (lt_b rfl) (hg (Cond.fieldLink RX12 218 "SlabWalkModel" "fault" "I") m1316) (fun _ h9 => h9) rfl rfl dX12_readLine_222 ?_
              refine lv_if_ne (tgt := 232) hx hb dX12_readLine_225 rfl (fun c_246 => ?_) (fun c_246 => ?_)
              · have c_246 : (G_232.1 66 2).toInt ≠ 0 := xI_ne rfl rfl c_246
                exfalso; first | exact ok_924 b_236.1 c_237 c_246 | omega
              · have c_246 : (G_232.1 66 2).toInt = 0 := xI_eq rfl rfl c_246
                refine lv_aload_n hx hb dX12_readLine_228 rfl (lv_at hl 0 rfl) ?_
                have b_247 : 0 ≤ (G_232.1 66 4).toInt ∧ (G_232.1 66 4).toInt ≤ 1600 := bd_66_4 hB_G_232
                refine S_callv (va_runV (As := []) (rest := []) ⟨hx, hb, hml, hown, hts⟩ (n_token l D k A a z G_232  ) (cwV 0 hts (gd_V hgd m1602 m1604 m50 m131 m1605) rfl rfl rfl hd_X12_token ⟨Nat.le_of_ble_eq_true rfl, Nat.le_of_ble_eq_true rfl⟩) (pre_W hW hB_G_232 hK hZ hS kd_66 rfl) rfl rfl hl.1 rfl (lv_room (Nat.le_of_ble_eq_true rfl)) dX12_readLine_229 ⟨Nat.le_of_ble_eq_true rfl, Nat.le_of_ble_eq_true rfl⟩) hS (fun G_249 H locs hpo hW hS => ?_)
                have hX_252 : Q_token G_232 G_249 := hpo
                obtain ⟨hB_G_249, hq_250, ⟨d_27, d_28⟩, -⟩ := hpo
                have hF := hF.call9 hq_250 rfl rfl
                have fr_253 : Fr [] [(66, 4), (66, 6), (66, 7), (66, 8), (66, 9)] G_232 G_249 := (Fr.call9 (rs := []) (fs := [(66, 4), (66, 6), (66, 7), (66, 8), (66, 9)]) Fr.rf hq_250 rfl rfl)
                have g_254 : gE G_249 = gE G_232 := gE_fr fr_253 (gr_q rfl) (gf_q rfl)
                have fr_255 : Fr [68, 69, 70, 71, 75] [(66, 2), (66, 3), (66, 4), (66, 6), (66, 7), (66, 8), (66, 9), (66, 19), (66, 20), (66, 21), (66, 23), (66, 24), (66, 47)] G G_249 := (Fr.call9 (rs := [68, 69, 70, 71, 75]) (fs := [(66, 2), (66, 3), (66, 4), (66, 6), (66, 7), (66, 8), (66, 9), (66, 19), (66, 20), (66, 21), (66, 23), (66, 24), (66, 47)]) (Fr.call9 (rs := [68, 69, 70, 71, 75]) (fs := [(66, 2), (66, 3), (66, 4), (66, 6), (66, 7), (66, 8), (66, 9), (66, 19), (66, 20), (66, 21), (66, 23), (66, 24), (66, 47)]) (Fr.call9 (rs := [68, 69, 70, 71, 75]) (fs := [(66, 2), (66, 3), (66, 4), (66, 6), (66, 7), (66, 8), (66, 9), (66, 19), (66, 20), (66, 21), (66, 23), (66, 24), (66, 47)]) (Fr.call9 (rs := [68, 69, 70, 71, 75]) (fs := [(66, 2), (66, 3), (66, 4), (66, 6), (66, 7), (66, 8), (66, 9), (66, 19), (66, 20), (66, 21), (66, 23), (66, 24), (66, 47)]) (Fr.call9 (rs := [68, 69, 70, 71, 75]) (fs := [(66, 2), (66, 3), (66, 4), (66, 6), (66, 7), (66, 8), (66, 9), (66, 19), (66, 20), (66, 21), (66, 23), (66, 24), (66, 47)]) (Fr.call9 (rs := [68, 69, 70, 71, 75]) (fs := [(66, 2), (66, 3), (66, 4), (66, 6), (66, 7), (66, 8), (66, 9), (66, 19), (66, 20), (66, 21), (66, 23), (66, 24), (66, 47)]) (Fr.call9 (rs := [68, 69, 70, 71, 75]) (fs := [(66, 2), (66, 3), (66, 4), (66, 6), (66, 7), (66, 8), (66, 9), (66, 19), (66, 20), (66, 21), (66, 23), (66, 24), (66, 47)]) Fr.rf hq_3 rfl rfl) hq_10 rfl rfl) hq_15 rfl rfl) hq_22 rfl rfl) hq_27 rfl rfl) hq_233 rfl rfl) hq_250 rfl rfl)
                have g_256 : gN G_249 = gN G := gN_fr fr_255 (gr_q rfl) (gf_q rfl)
                have g_257 : (G_249.1 66 2).toInt = (G_232.1 66 2).toInt := (congrArg Int32.toInt (show G_249.1 66 2 = (G_232.1 66 2) from ((hq_250.i9 66 2 rfl rfl).trans (rfl))))
                have b_258 : 0 ≤ (G_249.1 66 4).toInt ∧ (G_249.1 66 4).toInt ≤ 1600 := bd_66_4 hB_G_249
                have g_259 : (G_249.1 86 0).toInt = (G.1 86 0).toInt := (congrArg Int32.toInt (show G_249.1 86 0 = (G.1 86 0) from ((hq_250.i9 86 0 rfl rfl).trans ((hq_233.i9 86 0 rfl rfl).trans ((hq_27.i9 86 0 rfl rfl).trans ((hq_22.i9 86 0 rfl rfl).trans ((hq_15.i9 86 0 rfl rfl).trans ((hq_10.i9 86 0 rfl rfl).trans (hq_3.i9 86 0 rfl rfl)))))))))
                have g_260 : (G_249.1 86 1).toInt = (G.1 86 1).toInt := (congrArg Int32.toInt (show G_249.1 86 1 = (G.1 86 1) from ((hq_250.i9 86 1 rfl rfl).trans ((hq_233.i9 86 1 rfl rfl).trans ((hq_27.i9 86 1 rfl rfl).trans ((hq_22.i9 86 1 rfl rfl).trans ((hq_15.i9 86 1 rfl rfl).trans ((hq_10.i9 86 1 rfl rfl).trans (hq_3.i9 86 1 rfl rfl)))))))))
                have g_261 : (G_249.1 86 2).toInt = (G.1 86 2).toInt := (congrArg Int32.toInt (show G_249.1 86 2 = (G.1 86 2) from ((hq_250.i9 86 2 rfl rfl).trans ((hq_233.i9 86 2 rfl rfl).trans ((hq_27.i9 86 2 rfl rfl).trans ((hq_22.i9 86 2 rfl rfl).trans ((hq_15.i9 86 2 rfl rfl).trans ((hq_10.i9 86 2 rfl rfl).trans (hq_3.i9 86 2 rfl rfl)))))))))
                exact W.vret hx hb hr (fun t ht _ => ⟨⟨G_249, rfl, (Q_readLine_mk ⟨hB_G_249, hF, ((by first | exact ⟨(by first | exact ok_1007 b_228.2 g_229 d_23 d_27 b_258.1 | omega), (fun h9 => ⟨((by first | (clear hnf hE9 hN9 hS9 f_6 f_18 f_30 c_220 b_221 c_222 b_223 g_224 g_225 g_227 d_25 g_256 g_259 g_260 g_261; omega) | omega)), ⟨(by first | exact ok_796 d_26 g_254 | omega), ⟨(by first | exact ok_796 hN9 g_256 | omega), ⟨(by first | exact ok_992 hS9.1 g_259 | omega), ⟨(by first | exact ok_993 hS9.2.1 g_259 | omega), ⟨(by first | exact ok_992 hS9.2.2.1 g_260 | omega), ⟨(by first | exact ok_993 hS9.2.2.2.1 g_260 | omega), ⟨(by first | exact ok_992 hS9.2.2.2.2.1 g_261 | omega), ⟨(by first | exact ok_993 hS9.2.2.2.2.2.1 g_261 | omega), (by first | exact ok_994 hS9.2.2.2.2.2.2 g_259 g_260 g_261 | omega)⟩⟩⟩⟩⟩⟩⟩⟩⟩)⟩ | omega)), ⟨r_1, G_2, hX_5, (Or.inr ⟨G_8, hX_11, hB_G_8, hq_10, ⟨r_13, G_14, hX_17, (Or.inr ⟨G_20, hX_23, hB_G_20, hq_22, ⟨r_25, G_26, hX_29, (Or.inl ⟨c_220, ⟨c_222, ⟨G_232, hX_235, (Or.inl ⟨c_237, (Or.inl ⟨c_245, ⟨G_249, hX_252, rfl⟩⟩)⟩)⟩⟩⟩)⟩⟩)⟩⟩)⟩⟩), wd_t ht hW⟩, hS.F ht⟩) hS.2.2 dX12_readLine_232
            · have c_245 : (G_232.1 66 6).toInt ≠ 59 := xI_ne rfl rfl c_245
              refine lv_aload_n hx hb dX12_readLine_216 rfl (lv_at hl 0 rfl) ?_
              refine ic_2 hx hb dX12_readLine_217 ?_
              have qc_262 : (2 : Int32).toInt = 2 := rfl
              refine S_callv (va_runV (As := [.int 2]) (rest := []) ⟨hx, hb, hml, hown, hts⟩ (n_wrong l D k A a z G_232 2 ⟨by decide, by decide⟩) (cwV 1 hts (gd_V hgd m1670 m1672 m59 m131 m1673) rfl rfl rfl hd_X12_wrong ⟨Nat.le_of_ble_eq_true rfl, Nat.le_of_ble_eq_true rfl⟩) (pre_W hW hB_G_232 hK hZ hS kd_66 rfl) rfl rfl hl.1 rfl (lv_room (Nat.le_of_ble_eq_true rfl)) dX12_readLine_218 ⟨Nat.le_of_ble_eq_true rfl, Nat.le_of_ble_eq_true rfl⟩) hS (fun G_264 H locs hpo hW hS => ?_)
              have hX_267 : Q_wrong 2 G_232 G_264 := hpo
              obtain ⟨hB_G_264, hq_265, hp_266, -⟩ := hpo
              have hF := hF.call9 hq_265 rfl rfl
              refine lv_aload_n hx hb dX12_readLine_221 rfl (lv_at hl 0 rfl) ?_
              have b_268 : 0 ≤ (G_264.1 66 2).toInt ∧ (G_264.1 66 2).toInt ≤ 4 := bd_66_2 hB_G_264
              refine S_getI (v := (G_264.1 66 2)) (C := RX12) (T := TX12) (N := 89) hx hb hg iX12 hown hK hW kd_66 rfl 2 (lt_b rfl) (hg (Cond.fieldLink RX12 218 "SlabWalkModel" "fault" "I") m1316) (fun _ h9 => h9) rfl rfl dX12_readLine_222 ?_
              refine lv_if_ne (tgt := 232) hx hb dX12_readLine_225 rfl (fun c_269 => ?_) (fun c_269 => ?_)
              · have c_269 : (G_264.1 66 2).toInt ≠ 0 := xI_ne rfl rfl c_269
                have fr_270 : Fr [] [(66, 2), (66, 3)] G_232 G_264 := (Fr.call9 (rs := []) (fs := [(66, 2), (66, 3)]) Fr.rf hq_265 rfl rfl)
                have g_271 : gE G_264 = gE G_232 := gE_fr fr_270 (gr_q rfl) (gf_q rfl)
                have fr_272 : Fr [68, 69, 70, 71, 75] [(66, 2), (66, 3), (66, 4), (66, 6), (66, 7), (66, 8), (66, 9), (66, 19), (66, 20), (66, 21), (66, 23), (66, 24), (66, 47)] G G_264 := (Fr.call9 (rs := [68, 69, 70, 71, 75]) (fs := [(66, 2), (66, 3), (66, 4), (66, 6), (66, 7), (66, 8), (66, 9), (66, 19), (66, 20), (66, 21), (66, 23), (66, 24), (66, 47)]) (Fr.call9 (rs := [68, 69, 70, 71, 75]) (fs := [(66, 2), (66, 3), (66, 4), (66, 6), (66, 7), (66, 8), (66, 9), (66, 19), (66, 20), (66, 21), (66, 23), (66, 24), (66, 47)]) (Fr.call9 (rs := [68, 69, 70, 71, 75]) (fs := [(66, 2), (66, 3), (66, 4), (66, 6), (66, 7), (66, 8), (66, 9), (66, 19), (66, 20), (66, 21), (66, 23), (66, 24), (66, 47)]) (Fr.call9 (rs := [68, 69, 70, 71, 75]) (fs := [(66, 2), (66, 3), (66, 4), (66, 6), (66, 7), (66, 8), (66, 9), (66, 19), (66, 20), (66, 21), (66, 23), (66, 24), (66, 47)]) (Fr.call9 (rs := [68, 69, 70, 71, 75]) (fs := [(66, 2), (66, 3), (66, 4), (66, 6), (66, 7), (66, 8), (66, 9), (66, 19), (66, 20), (66, 21), (66, 23), (66, 24), (66, 47)]) (Fr.call9 (rs := [68, 69, 70, 71, 75]) (fs := [(66, 2), (66, 3), (66, 4), (66, 6), (66, 7), (66, 8), (66, 9), (66, 19), (66, 20), (66, 21), (66, 23), (66, 24), (66, 47)]) (Fr.call9 (rs := [68, 69, 70, 71, 75]) (fs := [(66, 2), (66, 3), (66, 4), (66, 6), (66, 7), (66, 8), (66, 9), (66, 19), (66, 20), (66, 21), (66, 23), (66, 24), (66, 47)]) Fr.rf hq_3 rfl rfl) hq_10 rfl rfl) hq_15 rfl rfl) hq_22 rfl rfl) hq_27 rfl rfl) hq_233 rfl rfl) hq_265 rfl rfl)
                have g_273 : gN G_264 = gN G := gN_fr fr_272 (gr_q rfl) (gf_q rfl)
                have b_274 : 0 ≤ (G_232.1 66 4).toInt ∧ (G_232.1 66 4).toInt ≤ 1600 := bd_66_4 hB_G_232
                have g_275 : (G_264.1 66 4).toInt = (G_232.1 66 4).toInt := (congrArg Int32.toInt (show G_264.1 66 4 = (G_232.1 66 4) from (hq_265.i9 66 4 rfl rfl)))
                have g_276 : (G_264.1 86 0).toInt = (G.1 86 0).toInt := (congrArg Int32.toInt (show G_264.1 86 0 = (G.1 86 0) from ((hq_265.i9 86 0 rfl rfl).trans ((hq_233.i9 86 0 rfl rfl).trans ((hq_27.i9 86 0 rfl rfl).trans ((hq_22.i9 86 0 rfl rfl).trans ((hq_15.i9 86 0 rfl rfl).trans ((hq_10.i9 86 0 rfl rfl).trans (hq_3.i9 86 0 rfl rfl)))))))))
                have g_277 : (G_264.1 86 1).toInt = (G.1 86 1).toInt := (congrArg Int32.toInt (show G_264.1 86 1 = (G.1 86 1) from ((hq_265.i9 86 1 rfl rfl).trans ((hq_233.i9 86 1 rfl rfl).trans ((hq_27.i9 86 1 rfl rfl).trans ((hq_22.i9 86 1 rfl rfl).trans ((hq_15.i9 86 1 rfl rfl).trans ((hq_10.i9 86 1 rfl rfl).trans (hq_3.i9 86 1 rfl rfl)))))))))
                have g_278 : (G_264.1 86 2).toInt = (G.1 86 2).toInt := (congrArg Int32.toInt (show G_264.1 86 2 = (G.1 86 2) from ((hq_265.i9 86 2 rfl rfl).trans ((hq_233.i9 86 2 rfl rfl).trans ((hq_27.i9 86 2 rfl rfl).trans ((hq_22.i9 86 2 rfl rfl).trans ((hq_15.i9 86 2 rfl rfl).trans ((hq_10.i9 86 2 rfl rfl).trans (hq_3.i9 86 2 rfl rfl)))))))))
                exact W.vret hx hb hr (fun t ht _ => ⟨⟨G_264, rfl, (Q_readLine_mk ⟨hB_G_264, hF, ((by first | exact ⟨(by first | exact ok_995 g_229 d_23 g_275 | omega), (fun h9 => ⟨((by first | (clear hnf hE9 hN9 hS9 f_6 f_18 f_30 c_220 b_221 c_222 b_223 g_224 g_225 g_227 d_25 b_236 c_237 d_26 g_271 g_273 g_276 g_277 g_278; omega) | omega)), ⟨(by first | exact ok_796 d_26 g_271 | omega), ⟨(by first | exact ok_796 hN9 g_273 | omega), ⟨(by first | exact ok_992 hS9.1 g_276 | omega), ⟨(by first | exact ok_993 hS9.2.1 g_276 | omega), ⟨(by first | exact ok_992 hS9.2.2.1 g_277 | omega), ⟨(by first | exact ok_993 hS9.2.2.2.1 g_277 | omega), ⟨(by first | exact ok_992 hS9.2.2.2.2.1 g_278 | omega), ⟨(by first | exact ok_993 hS9.2.2.2.2.2.1 g_278 | omega), (by first | exact ok_994 hS9.2.2.2.2.2.2 g_276 g_277 g_278 | omega)⟩⟩⟩⟩⟩⟩⟩⟩⟩)⟩ | omega)), ⟨r_1, G_2, hX_5, (Or.inr ⟨G_8, hX_11, hB_G_8, hq_10, ⟨r_13, G_14, hX_17, (Or.inr ⟨G_20, hX_23, hB_G_20, hq_22, ⟨r_25, G_26, hX_29, (Or.inl ⟨c_220, ⟨c_222, ⟨G_232, hX_235, (Or.inl ⟨c_237, (Or.inr ⟨c_245, ⟨G_264, hX_267, (Or.inr ⟨c_269, rfl⟩)⟩⟩)⟩)⟩⟩⟩)⟩⟩)⟩⟩)⟩⟩), wd_t ht hW⟩, hS.F ht⟩) hS.2.2 dX12_readLine_232
              · have c_269 : (G_264.1 66 2).toInt = 0 := xI_eq rfl rfl c_269
                refine lv_aload_n hx hb dX12_readLine_228 rfl (lv_at hl 0 rfl) ?_
                have b_279 : 0 ≤ (G_232.1 66 4).toInt ∧ (G_232.1 66 4).toInt ≤ 1600 := bd_66_4 hB_G_232
                have g_280 : (G_264.1 66 4).toInt = (G_232.1 66 4).toInt := (congrArg Int32.toInt (show G_264.1 66 4 = (G_232.1 66 4) from (hq_265.i9 66 4 rfl rfl)))
                have g_281 : (G_264.1 66 6).toInt = (G_232.1 66 6).toInt := (congrArg Int32.toInt (show G_264.1 66 6 = (G_232.1 66 6) from ((hq_265.i9 66 6 rfl rfl).trans (rfl))))
                refine S_callv (va_runV (As := []) (rest := []) ⟨hx, hb, hml, hown, hts⟩ (n_token l D k A a z G_264  ) (cwV 0 hts (gd_V hgd m1602 m1604 m50 m131 m1605) rfl rfl rfl hd_X12_token ⟨Nat.le_of_ble_eq_true rfl, Nat.le_of_ble_eq_true rfl⟩) (pre_W hW hB_G_264 hK hZ hS kd_66 rfl) rfl rfl hl.1 rfl (lv_room (Nat.le_of_ble_eq_true rfl)) dX12_readLine_229 ⟨Nat.le_of_ble_eq_true rfl, Nat.le_of_ble_eq_true rfl⟩) hS (fun G_283 H locs hpo hW hS => ?_)
                have hX_286 : Q_token G_264 G_283 := hpo
                obtain ⟨hB_G_283, hq_284, ⟨d_29, d_30⟩, -⟩ := hpo
                have hF := hF.call9 hq_284 rfl rfl
                have fr_287 : Fr [] [(66, 2), (66, 3), (66, 4), (66, 6), (66, 7), (66, 8), (66, 9)] G_232 G_283 := (Fr.call9 (rs := []) (fs := [(66, 2), (66, 3), (66, 4), (66, 6), (66, 7), (66, 8), (66, 9)]) (Fr.call9 (rs := []) (fs := [(66, 2), (66, 3), (66, 4), (66, 6), (66, 7), (66, 8), (66, 9)]) Fr.rf hq_265 rfl rfl) hq_284 rfl rfl)
                have g_288 : gE G_283 = gE G_232 := gE_fr fr_287 (gr_q rfl) (gf_q rfl)
                have fr_289 : Fr [68, 69, 70, 71, 75] [(66, 2), (66, 3), (66, 4), (66, 6), (66, 7), (66, 8), (66, 9), (66, 19), (66, 20), (66, 21), (66, 23), (66, 24), (66, 47)] G G_283 := (Fr.call9 (rs := [68, 69, 70, 71, 75]) (fs := [(66, 2), (66, 3), (66, 4), (66, 6), (66, 7), (66, 8), (66, 9), (66, 19), (66, 20), (66, 21), (66, 23), (66, 24), (66, 47)]) (Fr.call9 (rs := [68, 69, 70, 71, 75]) (fs := [(66, 2), (66, 3), (66, 4), (66, 6), (66, 7), (66, 8), (66, 9), (66, 19), (66, 20), (66, 21), (66, 23), (66, 24), (66, 47)]) (Fr.call9 (rs := [68, 69, 70, 71, 75]) (fs := [(66, 2), (66, 3), (66, 4), (66, 6), (66, 7), (66, 8), (66, 9), (66, 19), (66, 20), (66, 21), (66, 23), (66, 24), (66, 47)]) (Fr.call9 (rs := [68, 69, 70, 71, 75]) (fs := [(66, 2), (66, 3), (66, 4), (66, 6), (66, 7), (66, 8), (66, 9), (66, 19), (66, 20), (66, 21), (66, 23), (66, 24), (66, 47)]) (Fr.call9 (rs := [68, 69, 70, 71, 75]) (fs := [(66, 2), (66, 3), (66, 4), (66, 6), (66, 7), (66, 8), (66, 9), (66, 19), (66, 20), (66, 21), (66, 23), (66, 24), (66, 47)]) (Fr.call9 (rs := [68, 69, 70, 71, 75]) (fs := [(66, 2), (66, 3), (66, 4), (66, 6), (66, 7), (66, 8), (66, 9), (66, 19), (66, 20), (66, 21), (66, 23), (66, 24), (66, 47)]) (Fr.call9 (rs := [68, 69, 70, 71, 75]) (fs := [(66, 2), (66, 3), (66, 4), (66, 6), (66, 7), (66, 8), (66, 9), (66, 19), (66, 20), (66, 21), (66, 23), (66, 24), (66, 47)]) (Fr.call9 (rs := [68, 69, 70, 71, 75]) (fs := [(66, 2), (66, 3), (66, 4), (66, 6), (66, 7), (66, 8), (66, 9), (66, 19), (66, 20), (66, 21), (66, 23), (66, 24), (66, 47)]) Fr.rf hq_3 rfl rfl) hq_10 rfl rfl) hq_15 rfl rfl) hq_22 rfl rfl) hq_27 rfl rfl) hq_233 rfl rfl) hq_265 rfl rfl) hq_284 rfl rfl)
                have g_290 : gN G_283 = gN G := gN_fr fr_289 (gr_q rfl) (gf_q rfl)
                have g_291 : (G_283.1 66 2).toInt = (G_264.1 66 2).toInt := (congrArg Int32.toInt (show G_283.1 66 2 = (G_264.1 66 2) from ((hq_284.i9 66 2 rfl rfl).trans (rfl))))
                have b_292 : 0 ≤ (G_283.1 66 4).toInt ∧ (G_283.1 66 4).toInt ≤ 1600 := bd_66_4 hB_G_283
                have g_293 : (G_283.1 86 0).toInt = (G.1 86 0).toInt := (congrArg Int32.toInt (show G_283.1 86 0 = (G.1 86 0) from ((hq_284.i9 86 0 rfl rfl).trans ((hq_265.i9 86 0 rfl rfl).trans ((hq_233.i9 86 0 rfl rfl).trans ((hq_27.i9 86 0 rfl rfl).trans ((hq_22.i9 86 0 rfl rfl).trans ((hq_15.i9 86 0 rfl rfl).trans ((hq_10.i9 86 0 rfl rfl).trans (hq_3.i9 86 0 rfl rfl))))))))))
                have g_294 : (G_283.1 86 1).toInt = (G.1 86 1).toInt := (congrArg Int32.toInt (show G_283.1 86 1 = (G.1 86 1) from ((hq_284.i9 86 1 rfl rfl).trans ((hq_265.i9 86 1 rfl rfl).trans ((hq_233.i9 86 1 rfl rfl).trans ((hq_27.i9 86 1 rfl rfl).trans ((hq_22.i9 86 1 rfl rfl).trans ((hq_15.i9 86 1 rfl rfl).trans ((hq_10.i9 86 1 rfl rfl).trans (hq_3.i9 86 1 rfl rfl))))))))))
                have g_295 : (G_283.1 86 2).toInt = (G.1 86 2).toInt := (congrArg Int32.toInt (show G_283.1 86 2 = (G.1 86 2) from ((hq_284.i9 86 2 rfl rfl).trans ((hq_265.i9 86 2 rfl rfl).trans ((hq_233.i9 86 2 rfl rfl).trans ((hq_27.i9 86 2 rfl rfl).trans ((hq_22.i9 86 2 rfl rfl).trans ((hq_15.i9 86 2 rfl rfl).trans ((hq_10.i9 86 2 rfl rfl).trans (hq_3.i9 86 2 rfl rfl))))))))))
                exact W.vret hx hb hr (fun t ht _ => ⟨⟨G_283, rfl, (Q_readLine_mk ⟨hB_G_283, hF, ((by first | exact ⟨(by first | exact ok_1008 b_228.2 g_229 d_23 g_280 d_29 b_292.1 | omega), (fun h9 => ⟨((by first | (clear hnf hE9 hN9 hS9 f_6 f_18 f_30 c_220 b_221 c_222 b_223 g_224 g_225 g_227 d_25 b_236 c_237 d_26 g_288 g_290 g_293 g_294 g_295; omega) | omega)), ⟨(by first | exact ok_796 d_26 g_288 | omega), ⟨(by first | exact ok_796 hN9 g_290 | omega), ⟨(by first | exact ok_992 hS9.1 g_293 | omega), ⟨(by first | exact ok_993 hS9.2.1 g_293 | omega), ⟨(by first | exact ok_992 hS9.2.2.1 g_294 | omega), ⟨(by first | exact ok_993 hS9.2.2.2.1 g_294 | omega), ⟨(by first | exact ok_992 hS9.2.2.2.2.1 g_295 | omega), ⟨(by first | exact ok_993 hS9.2.2.2.2.2.1 g_295 | omega), (by first | exact ok_994 hS9.2.2.2.2.2.2 g_293 g_294 g_295 | omega)⟩⟩⟩⟩⟩⟩⟩⟩⟩)⟩ | omega)), ⟨r_1, G_2, hX_5, (Or.inr ⟨G_8, hX_11, hB_G_8, hq_10, ⟨r_13, G_14, hX_17, (Or.inr ⟨G_20, hX_23, hB_G_20, hq_22, ⟨r_25, G_26, hX_29, (Or.inl ⟨c_220, ⟨c_222, ⟨G_232, hX_235, (Or.inl ⟨c_237, (Or.inr ⟨c_245, ⟨G_264, hX_267, (Or.inl ⟨c_269, ⟨G_283, hX_286, rfl⟩⟩)⟩⟩)⟩)⟩⟩⟩)⟩⟩)⟩⟩)⟩⟩), wd_t ht hW⟩, hS.F ht⟩) hS.2.2 dX12_readLine_232
    refine lv_if_eq (tgt := 50) hx hb dX12_readLine_32 rfl (fun c_296 => ?_) (fun c_296 => ?_)
    · have c_296 : r_13.toInt = 0 := xI_eq rfl rfl c_296
      exact hJ_21 () _ _ _ ⟨G_14, (Jn_n_readLine_2_mk (Or.inl ⟨c_296, rfl⟩)), hW, hB_G_14, hF, (Fr.rf (rs := []) (fs := [])), hS, lv_sub hl [0] rfl⟩
    · have c_296 : r_13.toInt ≠ 0 := xI_ne rfl rfl c_296
      refine lv_aload_n hx hb dX12_readLine_35 rfl (lv_at hl 0 rfl) ?_
      have b_297 : 0 ≤ (G.1 66 46).toInt ∧ (G.1 66 46).toInt ≤ 4 := bd_66_46 hB_G
      refine S_getI (v := (G.1 66 46)) (C := RX12) (T := TX12) (N := 89) hx hb hg iX12 hown hK hW kd_66 rfl 46 (lt_b rfl) (hg (Cond.fieldLink RX12 379 "SlabWalkModel" "nWalkers" "I") m1360) (fun _ h9 => h9) rfl ((hq_15.i9 66 46 rfl rfl).trans ((hq_10.i9 66 46 rfl rfl).trans (hq_3.i9 66 46 rfl rfl))) dX12_readLine_36 ?_
      refine ic_4 hx hb dX12_readLine_39 ?_
      refine lv_icmp_ge (tgt := 50) hx hb dX12_readLine_40 rfl (fun c_298 => ?_) (fun c_298 => ?_)
      · have c_298 : 4 ≤ (G.1 66 46).toInt := xI_le rfl rfl c_298
        exact hJ_21 () _ _ _ ⟨G_14, (Jn_n_readLine_2_mk (Or.inr ⟨c_296, ⟨c_298, rfl⟩⟩)), hW, hB_G_14, hF, (Fr.rf (rs := []) (fs := [])), hS, lv_sub hl [0] rfl⟩
      · have c_298 : (G.1 66 46).toInt < 4 := xI_nle rfl rfl c_298
        refine lv_aload_n hx hb dX12_readLine_43 rfl (lv_at hl 0 rfl) ?_
        have b_299 : 0 ≤ (G.1 66 2).toInt ∧ (G.1 66 2).toInt ≤ 4 := bd_66_2 hB_G
        have g_300 : (G_14.1 66 2).toInt = (G.1 66 2).toInt := (congrArg Int32.toInt (show G_14.1 66 2 = (G.1 66 2) from ((hq_15.i9 66 2 rfl rfl).trans ((hq_10.i9 66 2 rfl rfl).trans (hq_3.i9 66 2 rfl rfl)))))
        have g_301 : (G_14.1 66 46).toInt = (G.1 66 46).toInt := (congrArg Int32.toInt (show G_14.1 66 46 = (G.1 66 46) from ((hq_15.i9 66 46 rfl rfl).trans ((hq_10.i9 66 46 rfl rfl).trans ((hq_3.i9 66 46 rfl rfl).trans (rfl))))))
        have fr_302 : Fr [] [] G G_14 := (Fr.call9 (rs := []) (fs := []) (Fr.call9 (rs := []) (fs := []) (Fr.call9 (rs := []) (fs := []) Fr.rf hq_3 rfl rfl) hq_10 rfl rfl) hq_15 rfl rfl)
        have g_303 : gN G_14 = gN G := gN_fr fr_302 (gr_q rfl) (gf_q rfl)
        have b_304 : 0 ≤ (G.1 66 4).toInt ∧ (G.1 66 4).toInt ≤ 1600 := bd_66_4 hB_G
        have g_305 : (G_14.1 66 4).toInt = (G.1 66 4).toInt := (congrArg Int32.toInt (show G_14.1 66 4 = (G.1 66 4) from ((hq_15.i9 66 4 rfl rfl).trans ((hq_10.i9 66 4 rfl rfl).trans (hq_3.i9 66 4 rfl rfl)))))
        have g_306 : (G_14.1 66 6).toInt = (G.1 66 6).toInt := (congrArg Int32.toInt (show G_14.1 66 6 = (G.1 66 6) from ((hq_15.i9 66 6 rfl rfl).trans ((hq_10.i9 66 6 rfl rfl).trans ((hq_3.i9 66 6 rfl rfl).trans (rfl))))))
        refine S_callv (va_runV (As := []) (rest := []) ⟨hx, hb, hml, hown, hts⟩ (n_readWalker l D k A a z G_14  ((by first | exact ok_911 hnf g_300 | omega)) ((by first | exact ok_1009 b_297.2 c_298 g_301 | omega)) ((by first | exact ok_796 hN9 g_303 | omega))) (cwV 0 hts (gd_V hgd m1698 m1700 m66 m131 m1701) rfl rfl rfl hd_X12_readWalker ⟨Nat.le_of_ble_eq_true rfl, Nat.le_of_ble_eq_true rfl⟩) (pre_W hW hB_G_14 hK hZ hS kd_66 rfl) rfl rfl hl.1 rfl (lv_room (Nat.le_of_ble_eq_true rfl)) dX12_readLine_44 ⟨Nat.le_of_ble_eq_true rfl, Nat.le_of_ble_eq_true rfl⟩) hS (fun G_308 H locs hpo hW hS => ?_)
        have hX_311 : Q_readWalker G_14 G_308 := hpo
        obtain ⟨hB_G_308, hq_309, ⟨d_31, d_32, d_33⟩, -⟩ := hpo
        have hF := hF.call9 hq_309 rfl rfl
        refine lv_goto (tgt := 200) hx hb dX12_readLine_47 rfl ?_
        refine lv_aload_n hx hb dX12_readLine_200 rfl (lv_at hl 0 rfl) ?_
        have b_312 : 0 ≤ (G_308.1 66 2).toInt ∧ (G_308.1 66 2).toInt ≤ 4 := bd_66_2 hB_G_308
        refine S_getI (v := (G_308.1 66 2)) (C := RX12) (T := TX12) (N := 89) hx hb hg iX12 hown hK hW kd_66 rfl 2 (lt_b rfl) (hg (Cond.fieldLink RX12 218 "SlabWalkModel" "fault" "I") m1316) (fun _ h9 => h9) rfl rfl dX12_readLine_201 ?_
        refine lv_if_ne (tgt := 221) hx hb dX12_readLine_204 rfl (fun c_313 => ?_) (fun c_313 => ?_)
        · have c_313 : (G_308.1 66 2).toInt ≠ 0 := xI_ne rfl rfl c_313
          refine lv_aload_n hx hb dX12_readLine_221 rfl (lv_at hl 0 rfl) ?_
          refine S_getI (v := (G_308.1 66 2)) (C := RX12) (T := TX12) (N := 89) hx hb hg iX12 hown hK hW kd_66 rfl 2 (lt_b rfl) (hg (Cond.fieldLink RX12 218 "SlabWalkModel" "fault" "I") m1316) (fun _ h9 => h9) rfl rfl dX12_readLine_222 ?_
          refine lv_if_ne (tgt := 232) hx hb dX12_readLine_225 rfl (fun c_314 => ?_) (fun c_314 => ?_)
          · have c_314 : (G_308.1 66 2).toInt ≠ 0 := xI_ne rfl rfl c_314
            have fr_315 : Fr [68, 82, 83, 84, 85] [(66, 2), (66, 3), (66, 4), (66, 6), (66, 7), (66, 8), (66, 9), (66, 46)] G G_308 := (Fr.call9 (rs := [68, 82, 83, 84, 85]) (fs := [(66, 2), (66, 3), (66, 4), (66, 6), (66, 7), (66, 8), (66, 9), (66, 46)]) (Fr.call9 (rs := [68, 82, 83, 84, 85]) (fs := [(66, 2), (66, 3), (66, 4), (66, 6), (66, 7), (66, 8), (66, 9), (66, 46)]) (Fr.call9 (rs := [68, 82, 83, 84, 85]) (fs := [(66, 2), (66, 3), (66, 4), (66, 6), (66, 7), (66, 8), (66, 9), (66, 46)]) (Fr.call9 (rs := [68, 82, 83, 84, 85]) (fs := [(66, 2), (66, 3), (66, 4), (66, 6), (66, 7), (66, 8), (66, 9), (66, 46)]) Fr.rf hq_3 rfl rfl) hq_10 rfl rfl) hq_15 rfl rfl) hq_309 rfl rfl)
            have g_316 : gE G_308 = gE G := gE_fr fr_315 (gr_q rfl) (gf_q rfl)
            have b_317 : 0 ≤ (G_308.1 66 4).toInt ∧ (G_308.1 66 4).toInt ≤ 1600 := bd_66_4 hB_G_308
            have g_318 : (G_308.1 86 0).toInt = (G.1 86 0).toInt := (congrArg Int32.toInt (show G_308.1 86 0 = (G.1 86 0) from ((hq_309.i9 86 0 rfl rfl).trans ((hq_15.i9 86 0 rfl rfl).trans ((hq_10.i9 86 0 rfl rfl).trans (hq_3.i9 86 0 rfl rfl))))))
            have g_319 : (G_308.1 86 1).toInt = (G.1 86 1).toInt := (congrArg Int32.toInt (show G_308.1 86 1 = (G.1 86 1) from ((hq_309.i9 86 1 rfl rfl).trans ((hq_15.i9 86 1 rfl rfl).trans ((hq_10.i9 86 1 rfl rfl).trans (hq_3.i9 86 1 rfl rfl))))))
            have g_320 : (G_308.1 86 2).toInt = (G.1 86 2).toInt := (congrArg Int32.toInt (show G_308.1 86 2 = (G.1 86 2) from ((hq_309.i9 86 2 rfl rfl).trans ((hq_15.i9 86 2 rfl rfl).trans ((hq_10.i9 86 2 rfl rfl).trans (hq_3.i9 86 2 rfl rfl))))))
            exact W.vret hx hb hr (fun t ht _ => ⟨⟨G_308, rfl, (Q_readLine_mk ⟨hB_G_308, hF, ((by first | exact ⟨(by first | exact ok_620 g_305 d_31 | omega), (fun h9 => ⟨((by first | (clear hnf hE9 hN9 hS9 f_6 f_18 c_296 b_297 c_298 b_299 g_300 g_301 g_303 d_33 g_316 g_318 g_319 g_320; omega) | omega)), ⟨(by first | exact ok_796 hE9 g_316 | omega), ⟨(by first | exact ok_1006 d_33 b_312.1 h9 | omega), ⟨(by first | exact ok_992 hS9.1 g_318 | omega), ⟨(by first | exact ok_993 hS9.2.1 g_318 | omega), ⟨(by first | exact ok_992 hS9.2.2.1 g_319 | omega), ⟨(by first | exact ok_993 hS9.2.2.2.1 g_319 | omega), ⟨(by first | exact ok_992 hS9.2.2.2.2.1 g_320 | omega), ⟨(by first | exact ok_993 hS9.2.2.2.2.2.1 g_320 | omega), (by first | exact ok_994 hS9.2.2.2.2.2.2 g_318 g_319 g_320 | omega)⟩⟩⟩⟩⟩⟩⟩⟩⟩)⟩ | omega)), ⟨r_1, G_2, hX_5, (Or.inr ⟨G_8, hX_11, hB_G_8, hq_10, ⟨r_13, G_14, hX_17, (Or.inl ⟨c_296, ⟨c_298, ⟨G_308, hX_311, (Or.inr ⟨c_313, rfl⟩)⟩⟩⟩)⟩⟩)⟩⟩), wd_t ht hW⟩, hS.F ht⟩) hS.2.2 dX12_readLine_232
          · have c_314 : (G_308.1 66 2).toInt = 0 := xI_eq rfl rfl c_314
            exfalso; first | exact ok_923 b_312.1 c_313 c_314 | omega
        · have c_313 : (G_308.1 66 2).toInt = 0 := xI_eq rfl rfl c_313
          have d_34 := d_33 c_313
          refine lv_aload_n hx hb dX12_readLine_207 rfl (lv_at hl 0 rfl) ?_
          refine S_getI (v := (G_308.1 66 6)) (C := RX12) (T := TX12) (N := 89) hx hb hg iX12 hown hK hW kd_66 rfl 6 (lt_b rfl) (hg (Cond.fieldLink RX12 205 "SlabWalkModel" "sort" "I") m1320) (fun _ h9 => h9) rfl rfl dX12_readLine_208 ?_
          refine lv_bipush (v := 59) hx hb dX12_readLine_211 (by decide) ?_
          refine lv_icmp_eq (tgt := 221) hx hb dX12_readLine_213 rfl (fun c_321 => ?_) (fun c_321 => ?_)
          · have c_321 : (G_308.1 66 6).toInt = 59 := xI_eq rfl rfl c_321
            refine lv_aload_n hx hb dX12_readLine_221 rfl (lv_at hl 0 rfl) ?_
            refine S_getI (v := (G_308.1 66 2)) (C := RX12) (T := TX12) (N := 89) hx hb hg iX12 hown hK hW kd_66 rfl 2 (lt_b rfl) (hg (Cond.fieldLink RX12 218 "SlabWalkModel" "fault" "I") m1316) (fun _ h9 => h9) rfl rfl dX12_readLine_222 ?_
            refine lv_if_ne (tgt := 232) hx hb dX12_readLine_225 rfl (fun c_322 => ?_) (fun c_322 => ?_)
            · have c_322 : (G_308.1 66 2).toInt ≠ 0 := xI_ne rfl rfl c_322
              exfalso; first | exact ok_924 b_312.1 c_313 c_322 | omega
            · have c_322 : (G_308.1 66 2).toInt = 0 := xI_eq rfl rfl c_322
              refine lv_aload_n hx hb dX12_readLine_228 rfl (lv_at hl 0 rfl) ?_
              have b_323 : 0 ≤ (G_308.1 66 4).toInt ∧ (G_308.1 66 4).toInt ≤ 1600 := bd_66_4 hB_G_308
              refine S_callv (va_runV (As := []) (rest := []) ⟨hx, hb, hml, hown, hts⟩ (n_token l D k A a z G_308  ) (cwV 0 hts (gd_V hgd m1602 m1604 m50 m131 m1605) rfl rfl rfl hd_X12_token ⟨Nat.le_of_ble_eq_true rfl, Nat.le_of_ble_eq_true rfl⟩) (pre_W hW hB_G_308 hK hZ hS kd_66 rfl) rfl rfl hl.1 rfl (lv_room (Nat.le_of_ble_eq_true rfl)) dX12_readLine_229 ⟨Nat.le_of_ble_eq_true rfl, Nat.le_of_ble_eq_true rfl⟩) hS (fun G_325 H locs hpo hW hS => ?_)
              have hX_328 : Q_token G_308 G_325 := hpo
              obtain ⟨hB_G_325, hq_326, ⟨d_35, d_36⟩, -⟩ := hpo
              have hF := hF.call9 hq_326 rfl rfl
              have fr_329 : Fr [68, 82, 83, 84, 85] [(66, 2), (66, 3), (66, 4), (66, 6), (66, 7), (66, 8), (66, 9), (66, 46)] G G_325 := (Fr.call9 (rs := [68, 82, 83, 84, 85]) (fs := [(66, 2), (66, 3), (66, 4), (66, 6), (66, 7), (66, 8), (66, 9), (66, 46)]) (Fr.call9 (rs := [68, 82, 83, 84, 85]) (fs := [(66, 2), (66, 3), (66, 4), (66, 6), (66, 7), (66, 8), (66, 9), (66, 46)]) (Fr.call9 (rs := [68, 82, 83, 84, 85]) (fs := [(66, 2), (66, 3), (66, 4), (66, 6), (66, 7), (66, 8), (66, 9), (66, 46)]) (Fr.call9 (rs := [68, 82, 83, 84, 85]) (fs := [(66, 2), (66, 3), (66, 4), (66, 6), (66, 7), (66, 8), (66, 9), (66, 46)]) (Fr.call9 (rs := [68, 82, 83, 84, 85]) (fs := [(66, 2), (66, 3), (66, 4), (66, 6), (66, 7), (66, 8), (66, 9), (66, 46)]) Fr.rf hq_3 rfl rfl) hq_10 rfl rfl) hq_15 rfl rfl) hq_309 rfl rfl) hq_326 rfl rfl)
              have g_330 : gE G_325 = gE G := gE_fr fr_329 (gr_q rfl) (gf_q rfl)
              have fr_331 : Fr [] [(66, 4), (66, 6), (66, 7), (66, 8), (66, 9)] G_308 G_325 := (Fr.call9 (rs := []) (fs := [(66, 4), (66, 6), (66, 7), (66, 8), (66, 9)]) Fr.rf hq_326 rfl rfl)
              have g_332 : gN G_325 = gN G_308 := gN_fr fr_331 (gr_q rfl) (gf_q rfl)
              have g_333 : (G_325.1 66 2).toInt = (G_308.1 66 2).toInt := (congrArg Int32.toInt (show G_325.1 66 2 = (G_308.1 66 2) from ((hq_326.i9 66 2 rfl rfl).trans (rfl))))
              have b_334 : 0 ≤ (G_325.1 66 4).toInt ∧ (G_325.1 66 4).toInt ≤ 1600 := bd_66_4 hB_G_325
              have g_335 : (G_325.1 86 0).toInt = (G.1 86 0).toInt := (congrArg Int32.toInt (show G_325.1 86 0 = (G.1 86 0) from ((hq_326.i9 86 0 rfl rfl).trans ((hq_309.i9 86 0 rfl rfl).trans ((hq_15.i9 86 0 rfl rfl).trans ((hq_10.i9 86 0 rfl rfl).trans (hq_3.i9 86 0 rfl rfl)))))))
              have g_336 : (G_325.1 86 1).toInt = (G.1 86 1).toInt := (congrArg Int32.toInt (show G_325.1 86 1 = (G.1 86 1) from ((hq_326.i9 86 1 rfl rfl).trans ((hq_309.i9 86 1 rfl rfl).trans ((hq_15.i9 86 1 rfl rfl).trans ((hq_10.i9 86 1 rfl rfl).trans (hq_3.i9 86 1 rfl rfl)))))))
              have g_337 : (G_325.1 86 2).toInt = (G.1 86 2).toInt := (congrArg Int32.toInt (show G_325.1 86 2 = (G.1 86 2) from ((hq_326.i9 86 2 rfl rfl).trans ((hq_309.i9 86 2 rfl rfl).trans ((hq_15.i9 86 2 rfl rfl).trans ((hq_10.i9 86 2 rfl rfl).trans (hq_3.i9 86 2 rfl rfl)))))))
              exact W.vret hx hb hr (fun t ht _ => ⟨⟨G_325, rfl, (Q_readLine_mk ⟨hB_G_325, hF, ((by first | exact ⟨(by first | exact ok_1007 b_304.2 g_305 d_31 d_35 b_334.1 | omega), (fun h9 => ⟨((by first | (clear hnf hE9 hN9 hS9 f_6 f_18 c_296 b_297 c_298 b_299 g_300 g_301 g_303 d_33 g_330 g_335 g_336 g_337; omega) | omega)), ⟨(by first | exact ok_796 hE9 g_330 | omega), ⟨(by first | exact ok_796 d_34 g_332 | omega), ⟨(by first | exact ok_992 hS9.1 g_335 | omega), ⟨(by first | exact ok_993 hS9.2.1 g_335 | omega), ⟨(by first | exact ok_992 hS9.2.2.1 g_336 | omega), ⟨(by first | exact ok_993 hS9.2.2.2.1 g_336 | omega), ⟨(by first | exact ok_992 hS9.2.2.2.2.1 g_337 | omega), ⟨(by first | exact ok_993 hS9.2.2.2.2.2.1 g_337 | omega), (by first | exact ok_994 hS9.2.2.2.2.2.2 g_335 g_336 g_337 | omega)⟩⟩⟩⟩⟩⟩⟩⟩⟩)⟩ | omega)), ⟨r_1, G_2, hX_5, (Or.inr ⟨G_8, hX_11, hB_G_8, hq_10, ⟨r_13, G_14, hX_17, (Or.inl ⟨c_296, ⟨c_298, ⟨G_308, hX_311, (Or.inl ⟨c_313, (Or.inl ⟨c_321, ⟨G_325, hX_328, rfl⟩⟩)⟩)⟩⟩⟩)⟩⟩)⟩⟩), wd_t ht hW⟩, hS.F ht⟩) hS.2.2 dX12_readLine_232
          · have c_321 : (G_308.1 66 6).toInt ≠ 59 := xI_ne rfl rfl c_321
            refine lv_aload_n hx hb dX12_readLine_216 rfl (lv_at hl 0 rfl) ?_
            refine ic_2 hx hb dX12_readLine_217 ?_
            have qc_338 : (2 : Int32).toInt = 2 := rfl
            refine S_callv (va_runV (As := [.int 2]) (rest := []) ⟨hx, hb, hml, hown, hts⟩ (n_wrong l D k A a z G_308 2 ⟨by decide, by decide⟩) (cwV 1 hts (gd_V hgd m1670 m1672 m59 m131 m1673) rfl rfl rfl hd_X12_wrong ⟨Nat.le_of_ble_eq_true rfl, Nat.le_of_ble_eq_true rfl⟩) (pre_W hW hB_G_308 hK hZ hS kd_66 rfl) rfl rfl hl.1 rfl (lv_room (Nat.le_of_ble_eq_true rfl)) dX12_readLine_218 ⟨Nat.le_of_ble_eq_true rfl, Nat.le_of_ble_eq_true rfl⟩) hS (fun G_340 H locs hpo hW hS => ?_)
            have hX_343 : Q_wrong 2 G_308 G_340 := hpo
            obtain ⟨hB_G_340, hq_341, hp_342, -⟩ := hpo
            have hF := hF.call9 hq_341 rfl rfl
            refine lv_aload_n hx hb dX12_readLine_221 rfl (lv_at hl 0 rfl) ?_
            have b_344 : 0 ≤ (G_340.1 66 2).toInt ∧ (G_340.1 66 2).toInt ≤ 4 := bd_66_2 hB_G_340
            refine S_getI (v := (G_340.1 66 2)) (C := RX12) (T := TX12) (N := 89) hx hb hg iX12 hown hK hW kd_66 rfl 2 (lt_b rfl) (hg (Cond.fieldLink RX12 218 "SlabWalkModel" "fault" "I") m1316) (fun _ h9 => h9) rfl rfl dX12_readLine_222 ?_
            refine lv_if_ne (tgt := 232) hx hb dX12_readLine_225 rfl (fun c_345 => ?_) (fun c_345 => ?_)
            · have c_345 : (G_340.1 66 2).toInt ≠ 0 := xI_ne rfl rfl c_345
              have fr_346 : Fr [68, 82, 83, 84, 85] [(66, 2), (66, 3), (66, 4), (66, 6), (66, 7), (66, 8), (66, 9), (66, 46)] G G_340 := (Fr.call9 (rs := [68, 82, 83, 84, 85]) (fs := [(66, 2), (66, 3), (66, 4), (66, 6), (66, 7), (66, 8), (66, 9), (66, 46)]) (Fr.call9 (rs := [68, 82, 83, 84, 85]) (fs := [(66, 2), (66, 3), (66, 4), (66, 6), (66, 7), (66, 8), (66, 9), (66, 46)]) (Fr.call9 (rs := [68, 82, 83, 84, 85]) (fs := [(66, 2), (66, 3), (66, 4), (66, 6), (66, 7), (66, 8), (66, 9), (66, 46)]) (Fr.call9 (rs := [68, 82, 83, 84, 85]) (fs := [(66, 2), (66, 3), (66, 4), (66, 6), (66, 7), (66, 8), (66, 9), (66, 46)]) (Fr.call9 (rs := [68, 82, 83, 84, 85]) (fs := [(66, 2), (66, 3), (66, 4), (66, 6), (66, 7), (66, 8), (66, 9), (66, 46)]) Fr.rf hq_3 rfl rfl) hq_10 rfl rfl) hq_15 rfl rfl) hq_309 rfl rfl) hq_341 rfl rfl)
              have g_347 : gE G_340 = gE G := gE_fr fr_346 (gr_q rfl) (gf_q rfl)
              have fr_348 : Fr [] [(66, 2), (66, 3)] G_308 G_340 := (Fr.call9 (rs := []) (fs := [(66, 2), (66, 3)]) Fr.rf hq_341 rfl rfl)
              have g_349 : gN G_340 = gN G_308 := gN_fr fr_348 (gr_q rfl) (gf_q rfl)
              have b_350 : 0 ≤ (G_308.1 66 4).toInt ∧ (G_308.1 66 4).toInt ≤ 1600 := bd_66_4 hB_G_308
              have g_351 : (G_340.1 66 4).toInt = (G_308.1 66 4).toInt := (congrArg Int32.toInt (show G_340.1 66 4 = (G_308.1 66 4) from (hq_341.i9 66 4 rfl rfl)))
              have g_352 : (G_340.1 86 0).toInt = (G.1 86 0).toInt := (congrArg Int32.toInt (show G_340.1 86 0 = (G.1 86 0) from ((hq_341.i9 86 0 rfl rfl).trans ((hq_309.i9 86 0 rfl rfl).trans ((hq_15.i9 86 0 rfl rfl).trans ((hq_10.i9 86 0 rfl rfl).trans (hq_3.i9 86 0 rfl rfl)))))))
              have g_353 : (G_340.1 86 1).toInt = (G.1 86 1).toInt := (congrArg Int32.toInt (show G_340.1 86 1 = (G.1 86 1) from ((hq_341.i9 86 1 rfl rfl).trans ((hq_309.i9 86 1 rfl rfl).trans ((hq_15.i9 86 1 rfl rfl).trans ((hq_10.i9 86 1 rfl rfl).trans (hq_3.i9 86 1 rfl rfl)))))))
              have g_354 : (G_340.1 86 2).toInt = (G.1 86 2).toInt := (congrArg Int32.toInt (show G_340.1 86 2 = (G.1 86 2) from ((hq_341.i9 86 2 rfl rfl).trans ((hq_309.i9 86 2 rfl rfl).trans ((hq_15.i9 86 2 rfl rfl).trans ((hq_10.i9 86 2 rfl rfl).trans (hq_3.i9 86 2 rfl rfl)))))))
              exact W.vret hx hb hr (fun t ht _ => ⟨⟨G_340, rfl, (Q_readLine_mk ⟨hB_G_340, hF, ((by first | exact ⟨(by first | exact ok_995 g_305 d_31 g_351 | omega), (fun h9 => ⟨((by first | (clear hnf hE9 hN9 hS9 f_6 f_18 c_296 b_297 c_298 b_299 g_300 g_301 g_303 d_33 b_312 c_313 d_34 g_347 g_349 g_352 g_353 g_354; omega) | omega)), ⟨(by first | exact ok_796 hE9 g_347 | omega), ⟨(by first | exact ok_796 d_34 g_349 | omega), ⟨(by first | exact ok_992 hS9.1 g_352 | omega), ⟨(by first | exact ok_993 hS9.2.1 g_352 | omega), ⟨(by first | exact ok_992 hS9.2.2.1 g_353 | omega), ⟨(by first | exact ok_993 hS9.2.2.2.1 g_353 | omega), ⟨(by first | exact ok_992 hS9.2.2.2.2.1 g_354 | omega), ⟨(by first | exact ok_993 hS9.2.2.2.2.2.1 g_354 | omega), (by first | exact ok_994 hS9.2.2.2.2.2.2 g_352 g_353 g_354 | omega)⟩⟩⟩⟩⟩⟩⟩⟩⟩)⟩ | omega)), ⟨r_1, G_2, hX_5, (Or.inr ⟨G_8, hX_11, hB_G_8, hq_10, ⟨r_13, G_14, hX_17, (Or.inl ⟨c_296, ⟨c_298, ⟨G_308, hX_311, (Or.inl ⟨c_313, (Or.inr ⟨c_321, ⟨G_340, hX_343, (Or.inr ⟨c_345, rfl⟩)⟩⟩)⟩)⟩⟩⟩)⟩⟩)⟩⟩), wd_t ht hW⟩, hS.F ht⟩) hS.2.2 dX12_readLine_232
            · have c_345 : (G_340.1 66 2).toInt = 0 := xI_eq rfl rfl c_345
              refine lv_aload_n hx hb dX12_readLine_228 rfl (lv_at hl 0 rfl) ?_
              have b_355 : 0 ≤ (G_308.1 66 4).toInt ∧ (G_308.1 66 4).toInt ≤ 1600 := bd_66_4 hB_G_308
              have g_356 : (G_340.1 66 4).toInt = (G_308.1 66 4).toInt := (congrArg Int32.toInt (show G_340.1 66 4 = (G_308.1 66 4) from (hq_341.i9 66 4 rfl rfl)))
              have g_357 : (G_340.1 66 6).toInt = (G_308.1 66 6).toInt := (congrArg Int32.toInt (show G_340.1 66 6 = (G_308.1 66 6) from ((hq_341.i9 66 6 rfl rfl).trans (rfl))))
              refine S_callv (va_runV (As := []) (rest := []) ⟨hx, hb, hml, hown, hts⟩ (n_token l D k A a z G_340  ) (cwV 0 hts (gd_V hgd m1602 m1604 m50 m131 m1605) rfl rfl rfl hd_X12_token ⟨Nat.le_of_ble_eq_true rfl, Nat.le_of_ble_eq_true rfl⟩) (pre_W hW hB_G_340 hK hZ hS kd_66 rfl) rfl rfl hl.1 rfl (lv_room (Nat.le_of_ble_eq_true rfl)) dX12_readLine_229 ⟨Nat.le_of_ble_eq_true rfl, Nat.le_of_ble_eq_true rfl⟩) hS (fun G_359 H locs hpo hW hS => ?_)
              have hX_362 : Q_token G_340 G_359 := hpo
              obtain ⟨hB_G_359, hq_360, ⟨d_37, d_38⟩, -⟩ := hpo
              have hF := hF.call9 hq_360 rfl rfl
              have fr_363 : Fr [68, 82, 83, 84, 85] [(66, 2), (66, 3), (66, 4), (66, 6), (66, 7), (66, 8), (66, 9), (66, 46)] G G_359 := (Fr.call9 (rs := [68, 82, 83, 84, 85]) (fs := [(66, 2), (66, 3), (66, 4), (66, 6), (66, 7), (66, 8), (66, 9), (66, 46)]) (Fr.call9 (rs := [68, 82, 83, 84, 85]) (fs := [(66, 2), (66, 3), (66, 4), (66, 6), (66, 7), (66, 8), (66, 9), (66, 46)]) (Fr.call9 (rs := [68, 82, 83, 84, 85]) (fs := [(66, 2), (66, 3), (66, 4), (66, 6), (66, 7), (66, 8), (66, 9), (66, 46)]) (Fr.call9 (rs := [68, 82, 83, 84, 85]) (fs := [(66, 2), (66, 3), (66, 4), (66, 6), (66, 7), (66, 8), (66, 9), (66, 46)]) (Fr.call9 (rs := [68, 82, 83, 84, 85]) (fs := [(66, 2), (66, 3), (66, 4), (66, 6), (66, 7), (66, 8), (66, 9), (66, 46)]) (Fr.call9 (rs := [68, 82, 83, 84, 85]) (fs := [(66, 2), (66, 3), (66, 4), (66, 6), (66, 7), (66, 8), (66, 9), (66, 46)]) Fr.rf hq_3 rfl rfl) hq_10 rfl rfl) hq_15 rfl rfl) hq_309 rfl rfl) hq_341 rfl rfl) hq_360 rfl rfl)
              have g_364 : gE G_359 = gE G := gE_fr fr_363 (gr_q rfl) (gf_q rfl)
              have fr_365 : Fr [] [(66, 2), (66, 3), (66, 4), (66, 6), (66, 7), (66, 8), (66, 9)] G_308 G_359 := (Fr.call9 (rs := []) (fs := [(66, 2), (66, 3), (66, 4), (66, 6), (66, 7), (66, 8), (66, 9)]) (Fr.call9 (rs := []) (fs := [(66, 2), (66, 3), (66, 4), (66, 6), (66, 7), (66, 8), (66, 9)]) Fr.rf hq_341 rfl rfl) hq_360 rfl rfl)
              have g_366 : gN G_359 = gN G_308 := gN_fr fr_365 (gr_q rfl) (gf_q rfl)
              have g_367 : (G_359.1 66 2).toInt = (G_340.1 66 2).toInt := (congrArg Int32.toInt (show G_359.1 66 2 = (G_340.1 66 2) from ((hq_360.i9 66 2 rfl rfl).trans (rfl))))
              have b_368 : 0 ≤ (G_359.1 66 4).toInt ∧ (G_359.1 66 4).toInt ≤ 1600 := bd_66_4 hB_G_359
              have g_369 : (G_359.1 86 0).toInt = (G.1 86 0).toInt := (congrArg Int32.toInt (show G_359.1 86 0 = (G.1 86 0) from ((hq_360.i9 86 0 rfl rfl).trans ((hq_341.i9 86 0 rfl rfl).trans ((hq_309.i9 86 0 rfl rfl).trans ((hq_15.i9 86 0 rfl rfl).trans ((hq_10.i9 86 0 rfl rfl).trans (hq_3.i9 86 0 rfl rfl))))))))
              have g_370 : (G_359.1 86 1).toInt = (G.1 86 1).toInt := (congrArg Int32.toInt (show G_359.1 86 1 = (G.1 86 1) from ((hq_360.i9 86 1 rfl rfl).trans ((hq_341.i9 86 1 rfl rfl).trans ((hq_309.i9 86 1 rfl rfl).trans ((hq_15.i9 86 1 rfl rfl).trans ((hq_10.i9 86 1 rfl rfl).trans (hq_3.i9 86 1 rfl rfl))))))))
              have g_371 : (G_359.1 86 2).toInt = (G.1 86 2).toInt := (congrArg Int32.toInt (show G_359.1 86 2 = (G.1 86 2) from ((hq_360.i9 86 2 rfl rfl).trans ((hq_341.i9 86 2 rfl rfl).trans ((hq_309.i9 86 2 rfl rfl).trans ((hq_15.i9 86 2 rfl rfl).trans ((hq_10.i9 86 2 rfl rfl).trans (hq_3.i9 86 2 rfl rfl))))))))
              exact W.vret hx hb hr (fun t ht _ => ⟨⟨G_359, rfl, (Q_readLine_mk ⟨hB_G_359, hF, ((by first | exact ⟨(by first | exact ok_1008 b_304.2 g_305 d_31 g_356 d_37 b_368.1 | omega), (fun h9 => ⟨((by first | (clear hnf hE9 hN9 hS9 f_6 f_18 c_296 b_297 c_298 b_299 g_300 g_301 g_303 d_33 b_312 c_313 d_34 g_364 g_366 g_369 g_370 g_371; omega) | omega)), ⟨(by first | exact ok_796 hE9 g_364 | omega), ⟨(by first | exact ok_796 d_34 g_366 | omega), ⟨(by first | exact ok_992 hS9.1 g_369 | omega), ⟨(by first | exact ok_993 hS9.2.1 g_369 | omega), ⟨(by first | exact ok_992 hS9.2.2.1 g_370 | omega), ⟨(by first | exact ok_993 hS9.2.2.2.1 g_370 | omega), ⟨(by first | exact ok_992 hS9.2.2.2.2.1 g_371 | omega), ⟨(by first | exact ok_993 hS9.2.2.2.2.2.1 g_371 | omega), (by first | exact ok_994 hS9.2.2.2.2.2.2 g_369 g_370 g_371 | omega)⟩⟩⟩⟩⟩⟩⟩⟩⟩)⟩ | omega)), ⟨r_1, G_2, hX_5, (Or.inr ⟨G_8, hX_11, hB_G_8, hq_10, ⟨r_13, G_14, hX_17, (Or.inl ⟨c_296, ⟨c_298, ⟨G_308, hX_311, (Or.inl ⟨c_313, (Or.inr ⟨c_321, ⟨G_340, hX_343, (Or.inl ⟨c_345, ⟨G_359, hX_362, rfl⟩⟩)⟩⟩)⟩)⟩⟩⟩)⟩⟩)⟩⟩), wd_t ht hW⟩, hS.F ht⟩) hS.2.2 dX12_readLine_232
  refine lv_if_eq (tgt := 25) hx hb dX12_readLine_7 rfl (fun c_372 => ?_) (fun c_372 => ?_)
  · have c_372 : r_1.toInt = 0 := xI_eq rfl rfl c_372
    exact hJ_9 () _ _ _ ⟨G_2, (Jn_n_readLine_1_mk (Or.inl ⟨c_372, rfl⟩)), hW, hB_G_2, hF, (Fr.rf (rs := []) (fs := [])), hS, lv_sub hl [0] rfl⟩
  · have c_372 : r_1.toInt ≠ 0 := xI_ne rfl rfl c_372
    refine lv_aload_n hx hb dX12_readLine_10 rfl (lv_at hl 0 rfl) ?_
    have b_373 : 0 ≤ (G.1 66 45).toInt ∧ (G.1 66 45).toInt ≤ 3 := bd_66_45 hB_G
    refine S_getI (v := (G.1 66 45)) (C := RX12) (T := TX12) (N := 89) hx hb hg iX12 hown hK hW kd_66 rfl 45 (lt_b rfl) (hg (Cond.fieldLink RX12 359 "SlabWalkModel" "nStreets" "I") m1359) (fun _ h9 => h9) rfl (hq_3.i9 66 45 rfl rfl) dX12_readLine_11 ?_
    refine ic_3 hx hb dX12_readLine_14 ?_
    refine lv_icmp_ge (tgt := 25) hx hb dX12_readLine_15 rfl (fun c_374 => ?_) (fun c_374 => ?_)
    · have c_374 : 3 ≤ (G.1 66 45).toInt := xI_le rfl rfl c_374
      exact hJ_9 () _ _ _ ⟨G_2, (Jn_n_readLine_1_mk (Or.inr ⟨c_372, ⟨c_374, rfl⟩⟩)), hW, hB_G_2, hF, (Fr.rf (rs := []) (fs := [])), hS, lv_sub hl [0] rfl⟩
    · have c_374 : (G.1 66 45).toInt < 3 := xI_nle rfl rfl c_374
      refine lv_aload_n hx hb dX12_readLine_18 rfl (lv_at hl 0 rfl) ?_
      have b_375 : 0 ≤ (G.1 66 2).toInt ∧ (G.1 66 2).toInt ≤ 4 := bd_66_2 hB_G
      have g_376 : (G_2.1 66 2).toInt = (G.1 66 2).toInt := (congrArg Int32.toInt (show G_2.1 66 2 = (G.1 66 2) from (hq_3.i9 66 2 rfl rfl)))
      have g_377 : (G_2.1 66 45).toInt = (G.1 66 45).toInt := (congrArg Int32.toInt (show G_2.1 66 45 = (G.1 66 45) from ((hq_3.i9 66 45 rfl rfl).trans (rfl))))
      have b_378 : 0 ≤ (G.1 66 4).toInt ∧ (G.1 66 4).toInt ≤ 1600 := bd_66_4 hB_G
      have g_379 : (G_2.1 66 4).toInt = (G.1 66 4).toInt := (congrArg Int32.toInt (show G_2.1 66 4 = (G.1 66 4) from (hq_3.i9 66 4 rfl rfl)))
      have g_380 : (G_2.1 66 6).toInt = (G.1 66 6).toInt := (congrArg Int32.toInt (show G_2.1 66 6 = (G.1 66 6) from (hq_3.i9 66 6 rfl rfl)))
      refine S_callv (va_runV (As := []) (rest := []) ⟨hx, hb, hml, hown, hts⟩ (n_readStreet l D k A a z G_2  ((by first | exact ok_911 hnf g_376 | omega)) ((by first | exact ok_1010 b_373.2 c_374 g_377 | omega))) (cwV 0 hts (gd_V hgd m1628 m1630 m54 m131 m1631) rfl rfl rfl hd_X12_readStreet ⟨Nat.le_of_ble_eq_true rfl, Nat.le_of_ble_eq_true rfl⟩) (pre_W hW hB_G_2 hK hZ hS kd_66 rfl) rfl rfl hl.1 rfl (lv_room (Nat.le_of_ble_eq_true rfl)) dX12_readLine_19 ⟨Nat.le_of_ble_eq_true rfl, Nat.le_of_ble_eq_true rfl⟩) hS (fun G_382 H locs hpo hW hS => ?_)
      have hX_385 : Q_readStreet G_2 G_382 := hpo
      obtain ⟨hB_G_382, hq_383, ⟨d_39, d_40⟩, -⟩ := hpo
      have hF := hF.call9 hq_383 rfl rfl
      refine lv_goto (tgt := 200) hx hb dX12_readLine_22 rfl ?_
      refine lv_aload_n hx hb dX12_readLine_200 rfl (lv_at hl 0 rfl) ?_
      have b_386 : 0 ≤ (G_382.1 66 2).toInt ∧ (G_382.1 66 2).toInt ≤ 4 := bd_66_2 hB_G_382
      refine S_getI (v := (G_382.1 66 2)) (C := RX12) (T := TX12) (N := 89) hx hb hg iX12 hown hK hW kd_66 rfl 2 (lt_b rfl) (hg (Cond.fieldLink RX12 218 "SlabWalkModel" "fault" "I") m1316) (fun _ h9 => h9) rfl rfl dX12_readLine_201 ?_
      refine lv_if_ne (tgt := 221) hx hb dX12_readLine_204 rfl (fun c_387 => ?_) (fun c_387 => ?_)
      · have c_387 : (G_382.1 66 2).toInt ≠ 0 := xI_ne rfl rfl c_387
        refine lv_aload_n hx hb dX12_readLine_221 rfl (lv_at hl 0 rfl) ?_
        refine S_getI (v := (G_382.1 66 2)) (C := RX12) (T := TX12) (N := 89) hx hb hg iX12 hown hK hW kd_66 rfl 2 (lt_b rfl) (hg (Cond.fieldLink RX12 218 "SlabWalkModel" "fault" "I") m1316) (fun _ h9 => h9) rfl rfl dX12_readLine_222 ?_
        refine lv_if_ne (tgt := 232) hx hb dX12_readLine_225 rfl (fun c_388 => ?_) (fun c_388 => ?_)
        · have c_388 : (G_382.1 66 2).toInt ≠ 0 := xI_ne rfl rfl c_388
          have fr_389 : Fr [68, 77, 78, 79, 80, 81] [(66, 2), (66, 3), (66, 4), (66, 6), (66, 7), (66, 8), (66, 9), (66, 45)] G G_382 := (Fr.call9 (rs := [68, 77, 78, 79, 80, 81]) (fs := [(66, 2), (66, 3), (66, 4), (66, 6), (66, 7), (66, 8), (66, 9), (66, 45)]) (Fr.call9 (rs := [68, 77, 78, 79, 80, 81]) (fs := [(66, 2), (66, 3), (66, 4), (66, 6), (66, 7), (66, 8), (66, 9), (66, 45)]) Fr.rf hq_3 rfl rfl) hq_383 rfl rfl)
          have g_390 : gE G_382 = gE G := gE_fr fr_389 (gr_q rfl) (gf_q rfl)
          have g_391 : gN G_382 = gN G := gN_fr fr_389 (gr_q rfl) (gf_q rfl)
          have b_392 : 0 ≤ (G_382.1 66 4).toInt ∧ (G_382.1 66 4).toInt ≤ 1600 := bd_66_4 hB_G_382
          have g_393 : (G_382.1 86 0).toInt = (G.1 86 0).toInt := (congrArg Int32.toInt (show G_382.1 86 0 = (G.1 86 0) from ((hq_383.i9 86 0 rfl rfl).trans (hq_3.i9 86 0 rfl rfl))))
          have g_394 : (G_382.1 86 1).toInt = (G.1 86 1).toInt := (congrArg Int32.toInt (show G_382.1 86 1 = (G.1 86 1) from ((hq_383.i9 86 1 rfl rfl).trans (hq_3.i9 86 1 rfl rfl))))
          have g_395 : (G_382.1 86 2).toInt = (G.1 86 2).toInt := (congrArg Int32.toInt (show G_382.1 86 2 = (G.1 86 2) from ((hq_383.i9 86 2 rfl rfl).trans (hq_3.i9 86 2 rfl rfl))))
          exact W.vret hx hb hr (fun t ht _ => ⟨⟨G_382, rfl, (Q_readLine_mk ⟨hB_G_382, hF, ((by first | exact ⟨(by first | exact ok_620 g_379 d_39 | omega), (fun h9 => ⟨((by first | (clear hnf hE9 hN9 hS9 f_6 c_372 b_373 c_374 b_375 g_376 g_377 g_390 g_391 g_393 g_394 g_395; omega) | omega)), ⟨(by first | exact ok_796 hE9 g_390 | omega), ⟨(by first | exact ok_796 hN9 g_391 | omega), ⟨(by first | exact ok_992 hS9.1 g_393 | omega), ⟨(by first | exact ok_993 hS9.2.1 g_393 | omega), ⟨(by first | exact ok_992 hS9.2.2.1 g_394 | omega), ⟨(by first | exact ok_993 hS9.2.2.2.1 g_394 | omega), ⟨(by first | exact ok_992 hS9.2.2.2.2.1 g_395 | omega), ⟨(by first | exact ok_993 hS9.2.2.2.2.2.1 g_395 | omega), (by first | exact ok_994 hS9.2.2.2.2.2.2 g_393 g_394 g_395 | omega)⟩⟩⟩⟩⟩⟩⟩⟩⟩)⟩ | omega)), ⟨r_1, G_2, hX_5, (Or.inl ⟨c_372, ⟨c_374, ⟨G_382, hX_385, (Or.inr ⟨c_387, rfl⟩)⟩⟩⟩)⟩⟩), wd_t ht hW⟩, hS.F ht⟩) hS.2.2 dX12_readLine_232
        · have c_388 : (G_382.1 66 2).toInt = 0 := xI_eq rfl rfl c_388
          exfalso; first | exact ok_923 b_386.1 c_387 c_388 | omega
      · have c_387 : (G_382.1 66 2).toInt = 0 := xI_eq rfl rfl c_387
        refine lv_aload_n hx hb dX12_readLine_207 rfl (lv_at hl 0 rfl) ?_
        refine S_getI (v := (G_382.1 66 6)) (C := RX12) (T := TX12) (N := 89) hx hb hg iX12 hown hK hW kd_66 rfl 6 (lt_b rfl) (hg (Cond.fieldLink RX12 205 "SlabWalkModel" "sort" "I") m1320) (fun _ h9 => h9) rfl rfl dX12_readLine_208 ?_
        refine lv_bipush (v := 59) hx hb dX12_readLine_211 (by decide) ?_
        refine lv_icmp_eq (tgt := 221) hx hb dX12_readLine_213 rfl (fun c_396 => ?_) (fun c_396 => ?_)
        · have c_396 : (G_382.1 66 6).toInt = 59 := xI_eq rfl rfl c_396
          refine lv_aload_n hx hb dX12_readLine_221 rfl (lv_at hl 0 rfl) ?_
          refine S_getI (v := (G_382.1 66 2)) (C := RX12) (T := TX12) (N := 89) hx hb hg iX12 hown hK hW kd_66 rfl 2 (lt_b rfl) (hg (Cond.fieldLink RX12 218 "SlabWalkModel" "fault" "I") m1316) (fun _ h9 => h9) rfl rfl dX12_readLine_222 ?_
          refine lv_if_ne (tgt := 232) hx hb dX12_readLine_225 rfl (fun c_397 => ?_) (fun c_397 => ?_)
          · have c_397 : (G_382.1 66 2).toInt ≠ 0 := xI_ne rfl rfl c_397
            exfalso; first | exact ok_924 b_386.1 c_387 c_397 | omega
          · have c_397 : (G_382.1 66 2).toInt = 0 := xI_eq rfl rfl c_397
            refine lv_aload_n hx hb dX12_readLine_228 rfl (lv_at hl 0 rfl) ?_
            have b_398 : 0 ≤ (G_382.1 66 4).toInt ∧ (G_382.1 66 4).toInt ≤ 1600 := bd_66_4 hB_G_382
            refine S_callv (va_runV (As := []) (rest := []) ⟨hx, hb, hml, hown, hts⟩ (n_token l D k A a z G_382  ) (cwV 0 hts (gd_V hgd m1602 m1604 m50 m131 m1605) rfl rfl rfl hd_X12_token ⟨Nat.le_of_ble_eq_true rfl, Nat.le_of_ble_eq_true rfl⟩) (pre_W hW hB_G_382 hK hZ hS kd_66 rfl) rfl rfl hl.1 rfl (lv_room (Nat.le_of_ble_eq_true rfl)) dX12_readLine_229 ⟨Nat.le_of_ble_eq_true rfl, Nat.le_of_ble_eq_true rfl⟩) hS (fun G_400 H locs hpo hW hS => ?_)
            have hX_403 : Q_token G_382 G_400 := hpo
            obtain ⟨hB_G_400, hq_401, ⟨d_41, d_42⟩, -⟩ := hpo
            have hF := hF.call9 hq_401 rfl rfl
            have fr_404 : Fr [68, 77, 78, 79, 80, 81] [(66, 2), (66, 3), (66, 4), (66, 6), (66, 7), (66, 8), (66, 9), (66, 45)] G G_400 := (Fr.call9 (rs := [68, 77, 78, 79, 80, 81]) (fs := [(66, 2), (66, 3), (66, 4), (66, 6), (66, 7), (66, 8), (66, 9), (66, 45)]) (Fr.call9 (rs := [68, 77, 78, 79, 80, 81]) (fs := [(66, 2), (66, 3), (66, 4), (66, 6), (66, 7), (66, 8), (66, 9), (66, 45)]) (Fr.call9 (rs := [68, 77, 78, 79, 80, 81]) (fs := [(66, 2), (66, 3), (66, 4), (66, 6), (66, 7), (66, 8), (66, 9), (66, 45)]) Fr.rf hq_3 rfl rfl) hq_383 rfl rfl) hq_401 rfl rfl)
            have g_405 : gE G_400 = gE G := gE_fr fr_404 (gr_q rfl) (gf_q rfl)
            have g_406 : gN G_400 = gN G := gN_fr fr_404 (gr_q rfl) (gf_q rfl)
            have g_407 : (G_400.1 66 2).toInt = (G_382.1 66 2).toInt := (congrArg Int32.toInt (show G_400.1 66 2 = (G_382.1 66 2) from ((hq_401.i9 66 2 rfl rfl).trans (rfl))))
            have b_408 : 0 ≤ (G_400.1 66 4).toInt ∧ (G_400.1 66 4).toInt ≤ 1600 := bd_66_4 hB_G_400
            have g_409 : (G_400.1 86 0).toInt = (G.1 86 0).toInt := (congrArg Int32.toInt (show G_400.1 86 0 = (G.1 86 0) from ((hq_401.i9 86 0 rfl rfl).trans ((hq_383.i9 86 0 rfl rfl).trans (hq_3.i9 86 0 rfl rfl)))))
            have g_410 : (G_400.1 86 1).toInt = (G.1 86 1).toInt := (congrArg Int32.toInt (show G_400.1 86 1 = (G.1 86 1) from ((hq_401.i9 86 1 rfl rfl).trans ((hq_383.i9 86 1 rfl rfl).trans (hq_3.i9 86 1 rfl rfl)))))
            have g_411 : (G_400.1 86 2).toInt = (G.1 86 2).toInt := (congrArg Int32.toInt (show G_400.1 86 2 = (G.1 86 2) from ((hq_401.i9 86 2 rfl rfl).trans ((hq_383.i9 86 2 rfl rfl).trans (hq_3.i9 86 2 rfl rfl)))))
            exact W.vret hx hb hr (fun t ht _ => ⟨⟨G_400, rfl, (Q_readLine_mk ⟨hB_G_400, hF, ((by first | exact ⟨(by first | exact ok_1007 b_378.2 g_379 d_39 d_41 b_408.1 | omega), (fun h9 => ⟨((by first | (clear hnf hE9 hN9 hS9 f_6 c_372 b_373 c_374 b_375 g_376 g_377 g_405 g_406 g_409 g_410 g_411; omega) | omega)), ⟨(by first | exact ok_796 hE9 g_405 | omega), ⟨(by first | exact ok_796 hN9 g_406 | omega), ⟨(by first | exact ok_992 hS9.1 g_409 | omega), ⟨(by first | exact ok_993 hS9.2.1 g_409 | omega), ⟨(by first | exact ok_992 hS9.2.2.1 g_410 | omega), ⟨(by first | exact ok_993 hS9.2.2.2.1 g_410 | omega), ⟨(by first | exact ok_992 hS9.2.2.2.2.1 g_411 | omega), ⟨(by first | exact ok_993 hS9.2.2.2.2.2.1 g_411 | omega), (by first | exact ok_994 hS9.2.2.2.2.2.2 g_409 g_410 g_411 | omega)⟩⟩⟩⟩⟩⟩⟩⟩⟩)⟩ | omega)), ⟨r_1, G_2, hX_5, (Or.inl ⟨c_372, ⟨c_374, ⟨G_382, hX_385, (Or.inl ⟨c_387, (Or.inl ⟨c_396, ⟨G_400, hX_403, rfl⟩⟩)⟩)⟩⟩⟩)⟩⟩), wd_t ht hW⟩, hS.F ht⟩) hS.2.2 dX12_readLine_232
        · have c_396 : (G_382.1 66 6).toInt ≠ 59 := xI_ne rfl rfl c_396
          refine lv_aload_n hx hb dX12_readLine_216 rfl (lv_at hl 0 rfl) ?_
          refine ic_2 hx hb dX12_readLine_217 ?_
          have qc_412 : (2 : Int32).toInt = 2 := rfl
          refine S_callv (va_runV (As := [.int 2]) (rest := []) ⟨hx, hb, hml, hown, hts⟩ (n_wrong l D k A a z G_382 2 ⟨by decide, by decide⟩) (cwV 1 hts (gd_V hgd m1670 m1672 m59 m131 m1673) rfl rfl rfl hd_X12_wrong ⟨Nat.le_of_ble_eq_true rfl, Nat.le_of_ble_eq_true rfl⟩) (pre_W hW hB_G_382 hK hZ hS kd_66 rfl) rfl rfl hl.1 rfl (lv_room (Nat.le_of_ble_eq_true rfl)) dX12_readLine_218 ⟨Nat.le_of_ble_eq_true rfl, Nat.le_of_ble_eq_true rfl⟩) hS (fun G_414 H locs hpo hW hS => ?_)
          have hX_417 : Q_wrong 2 G_382 G_414 := hpo
          obtain ⟨hB_G_414, hq_415, hp_416, -⟩ := hpo
          have hF := hF.call9 hq_415 rfl rfl
          refine lv_aload_n hx hb dX12_readLine_221 rfl (lv_at hl 0 rfl) ?_
          have b_418 : 0 ≤ (G_414.1 66 2).toInt ∧ (G_414.1 66 2).toInt ≤ 4 := bd_66_2 hB_G_414
          refine S_getI (v := (G_414.1 66 2)) (C := RX12) (T := TX12) (N := 89) hx hb hg iX12 hown hK hW kd_66 rfl 2 (lt_b rfl) (hg (Cond.fieldLink RX12 218 "SlabWalkModel" "fault" "I") m1316) (fun _ h9 => h9) rfl rfl dX12_readLine_222 ?_
          refine lv_if_ne (tgt := 232) hx hb dX12_readLine_225 rfl (fun c_419 => ?_) (fun c_419 => ?_)
          · have c_419 : (G_414.1 66 2).toInt ≠ 0 := xI_ne rfl rfl c_419
            have fr_420 : Fr [68, 77, 78, 79, 80, 81] [(66, 2), (66, 3), (66, 4), (66, 6), (66, 7), (66, 8), (66, 9), (66, 45)] G G_414 := (Fr.call9 (rs := [68, 77, 78, 79, 80, 81]) (fs := [(66, 2), (66, 3), (66, 4), (66, 6), (66, 7), (66, 8), (66, 9), (66, 45)]) (Fr.call9 (rs := [68, 77, 78, 79, 80, 81]) (fs := [(66, 2), (66, 3), (66, 4), (66, 6), (66, 7), (66, 8), (66, 9), (66, 45)]) (Fr.call9 (rs := [68, 77, 78, 79, 80, 81]) (fs := [(66, 2), (66, 3), (66, 4), (66, 6), (66, 7), (66, 8), (66, 9), (66, 45)]) Fr.rf hq_3 rfl rfl) hq_383 rfl rfl) hq_415 rfl rfl)
            have g_421 : gE G_414 = gE G := gE_fr fr_420 (gr_q rfl) (gf_q rfl)
            have g_422 : gN G_414 = gN G := gN_fr fr_420 (gr_q rfl) (gf_q rfl)
            have b_423 : 0 ≤ (G_382.1 66 4).toInt ∧ (G_382.1 66 4).toInt ≤ 1600 := bd_66_4 hB_G_382
            have g_424 : (G_414.1 66 4).toInt = (G_382.1 66 4).toInt := (congrArg Int32.toInt (show G_414.1 66 4 = (G_382.1 66 4) from (hq_415.i9 66 4 rfl rfl)))
            have g_425 : (G_414.1 86 0).toInt = (G.1 86 0).toInt := (congrArg Int32.toInt (show G_414.1 86 0 = (G.1 86 0) from ((hq_415.i9 86 0 rfl rfl).trans ((hq_383.i9 86 0 rfl rfl).trans (hq_3.i9 86 0 rfl rfl)))))
            have g_426 : (G_414.1 86 1).toInt = (G.1 86 1).toInt := (congrArg Int32.toInt (show G_414.1 86 1 = (G.1 86 1) from ((hq_415.i9 86 1 rfl rfl).trans ((hq_383.i9 86 1 rfl rfl).trans (hq_3.i9 86 1 rfl rfl)))))
            have g_427 : (G_414.1 86 2).toInt = (G.1 86 2).toInt := (congrArg Int32.toInt (show G_414.1 86 2 = (G.1 86 2) from ((hq_415.i9 86 2 rfl rfl).trans ((hq_383.i9 86 2 rfl rfl).trans (hq_3.i9 86 2 rfl rfl)))))
            exact W.vret hx hb hr (fun t ht _ => ⟨⟨G_414, rfl, (Q_readLine_mk ⟨hB_G_414, hF, ((by first | exact ⟨(by first | exact ok_995 g_379 d_39 g_424 | omega), (fun h9 => ⟨((by first | (clear hnf hE9 hN9 hS9 f_6 c_372 b_373 c_374 b_375 g_376 g_377 b_386 c_387 g_421 g_422 g_425 g_426 g_427; omega) | omega)), ⟨(by first | exact ok_796 hE9 g_421 | omega), ⟨(by first | exact ok_796 hN9 g_422 | omega), ⟨(by first | exact ok_992 hS9.1 g_425 | omega), ⟨(by first | exact ok_993 hS9.2.1 g_425 | omega), ⟨(by first | exact ok_992 hS9.2.2.1 g_426 | omega), ⟨(by first | exact ok_993 hS9.2.2.2.1 g_426 | omega), ⟨(by first | exact ok_992 hS9.2.2.2.2.1 g_427 | omega), ⟨(by first | exact ok_993 hS9.2.2.2.2.2.1 g_427 | omega), (by first | exact ok_994 hS9.2.2.2.2.2.2 g_425 g_426 g_427 | omega)⟩⟩⟩⟩⟩⟩⟩⟩⟩)⟩ | omega)), ⟨r_1, G_2, hX_5, (Or.inl ⟨c_372, ⟨c_374, ⟨G_382, hX_385, (Or.inl ⟨c_387, (Or.inr ⟨c_396, ⟨G_414, hX_417, (Or.inr ⟨c_419, rfl⟩)⟩⟩)⟩)⟩⟩⟩)⟩⟩), wd_t ht hW⟩, hS.F ht⟩) hS.2.2 dX12_readLine_232
          · have c_419 : (G_414.1 66 2).toInt = 0 := xI_eq rfl rfl c_419
            refine lv_aload_n hx hb dX12_readLine_228 rfl (lv_at hl 0 rfl) ?_
            have b_428 : 0 ≤ (G_382.1 66 4).toInt ∧ (G_382.1 66 4).toInt ≤ 1600 := bd_66_4 hB_G_382
            have g_429 : (G_414.1 66 4).toInt = (G_382.1 66 4).toInt := (congrArg Int32.toInt (show G_414.1 66 4 = (G_382.1 66 4) from (hq_415.i9 66 4 rfl rfl)))
            have g_430 : (G_414.1 66 6).toInt = (G_382.1 66 6).toInt := (congrArg Int32.toInt (show G_414.1 66 6 = (G_382.1 66 6) from ((hq_415.i9 66 6 rfl rfl).trans (rfl))))
            refine S_callv (va_runV (As := []) (rest := []) ⟨hx, hb, hml, hown, hts⟩ (n_token l D k A a z G_414  ) (cwV 0 hts (gd_V hgd m1602 m1604 m50 m131 m1605) rfl rfl rfl hd_X12_token ⟨Nat.le_of_ble_eq_true rfl, Nat.le_of_ble_eq_true rfl⟩) (pre_W hW hB_G_414 hK hZ hS kd_66 rfl) rfl rfl hl.1 rfl (lv_room (Nat.le_of_ble_eq_true rfl)) dX12_readLine_229 ⟨Nat.le_of_ble_eq_true rfl, Nat.le_of_ble_eq_true rfl⟩) hS (fun G_432 H locs hpo hW hS => ?_)
            have hX_435 : Q_token G_414 G_432 := hpo
            obtain ⟨hB_G_432, hq_433, ⟨d_43, d_44⟩, -⟩ := hpo
            have hF := hF.call9 hq_433 rfl rfl
            have fr_436 : Fr [68, 77, 78, 79, 80, 81] [(66, 2), (66, 3), (66, 4), (66, 6), (66, 7), (66, 8), (66, 9), (66, 45)] G G_432 := (Fr.call9 (rs := [68, 77, 78, 79, 80, 81]) (fs := [(66, 2), (66, 3), (66, 4), (66, 6), (66, 7), (66, 8), (66, 9), (66, 45)]) (Fr.call9 (rs := [68, 77, 78, 79, 80, 81]) (fs := [(66, 2), (66, 3), (66, 4), (66, 6), (66, 7), (66, 8), (66, 9), (66, 45)]) (Fr.call9 (rs := [68, 77, 78, 79, 80, 81]) (fs := [(66, 2), (66, 3), (66, 4), (66, 6), (66, 7), (66, 8), (66, 9), (66, 45)]) (Fr.call9 (rs := [68, 77, 78, 79, 80, 81]) (fs := [(66, 2), (66, 3), (66, 4), (66, 6), (66, 7), (66, 8), (66, 9), (66, 45)]) Fr.rf hq_3 rfl rfl) hq_383 rfl rfl) hq_415 rfl rfl) hq_433 rfl rfl)
            have g_437 : gE G_432 = gE G := gE_fr fr_436 (gr_q rfl) (gf_q rfl)
            have g_438 : gN G_432 = gN G := gN_fr fr_436 (gr_q rfl) (gf_q rfl)
            have g_439 : (G_432.1 66 2).toInt = (G_414.1 66 2).toInt := (congrArg Int32.toInt (show G_432.1 66 2 = (G_414.1 66 2) from ((hq_433.i9 66 2 rfl rfl).trans (rfl))))
            have b_440 : 0 ≤ (G_432.1 66 4).toInt ∧ (G_432.1 66 4).toInt ≤ 1600 := bd_66_4 hB_G_432
            have g_441 : (G_432.1 86 0).toInt = (G.1 86 0).toInt := (congrArg Int32.toInt (show G_432.1 86 0 = (G.1 86 0) from ((hq_433.i9 86 0 rfl rfl).trans ((hq_415.i9 86 0 rfl rfl).trans ((hq_383.i9 86 0 rfl rfl).trans (hq_3.i9 86 0 rfl rfl))))))
            have g_442 : (G_432.1 86 1).toInt = (G.1 86 1).toInt := (congrArg Int32.toInt (show G_432.1 86 1 = (G.1 86 1) from ((hq_433.i9 86 1 rfl rfl).trans ((hq_415.i9 86 1 rfl rfl).trans ((hq_383.i9 86 1 rfl rfl).trans (hq_3.i9 86 1 rfl rfl))))))
            have g_443 : (G_432.1 86 2).toInt = (G.1 86 2).toInt := (congrArg Int32.toInt (show G_432.1 86 2 = (G.1 86 2) from ((hq_433.i9 86 2 rfl rfl).trans ((hq_415.i9 86 2 rfl rfl).trans ((hq_383.i9 86 2 rfl rfl).trans (hq_3.i9 86 2 rfl rfl))))))
            exact W.vret hx hb hr (fun t ht _ => ⟨⟨G_432, rfl, (Q_readLine_mk ⟨hB_G_432, hF, ((by first | exact ⟨(by first | exact ok_1008 b_378.2 g_379 d_39 g_429 d_43 b_440.1 | omega), (fun h9 => ⟨((by first | (clear hnf hE9 hN9 hS9 f_6 c_372 b_373 c_374 b_375 g_376 g_377 b_386 c_387 g_437 g_438 g_441 g_442 g_443; omega) | omega)), ⟨(by first | exact ok_796 hE9 g_437 | omega), ⟨(by first | exact ok_796 hN9 g_438 | omega), ⟨(by first | exact ok_992 hS9.1 g_441 | omega), ⟨(by first | exact ok_993 hS9.2.1 g_441 | omega), ⟨(by first | exact ok_992 hS9.2.2.1 g_442 | omega), ⟨(by first | exact ok_993 hS9.2.2.2.1 g_442 | omega), ⟨(by first | exact ok_992 hS9.2.2.2.2.1 g_443 | omega), ⟨(by first | exact ok_993 hS9.2.2.2.2.2.1 g_443 | omega), (by first | exact ok_994 hS9.2.2.2.2.2.2 g_441 g_442 g_443 | omega)⟩⟩⟩⟩⟩⟩⟩⟩⟩)⟩ | omega)), ⟨r_1, G_2, hX_5, (Or.inl ⟨c_372, ⟨c_374, ⟨G_382, hX_385, (Or.inl ⟨c_387, (Or.inr ⟨c_396, ⟨G_414, hX_417, (Or.inl ⟨c_419, ⟨G_432, hX_435, rfl⟩⟩)⟩⟩)⟩)⟩⟩⟩)⟩⟩), wd_t ht hW⟩, hS.F ht⟩) hS.2.2 dX12_readLine_232
