theorem m64 : Cond.selects RX12 yX12_wrongAt yX12_wrongAt ∈ gd := gds_5 0 rfl
theorem m65 : Cond.selects RX12 yX12_pave yX12_pave ∈ gd := gds_5 1 rfl
theorem m1690 : Cond.methodLink RX12 362 yX12_wrongAt ∈ gd := gdc_7_8 6 rfl gw_methodLink
theorem m1692 : Cond.instanceMethod yX12_wrongAt ∈ gd := gdc_7_8 8 rfl gw_instanceMethod
theorem m1693 : Cond.code yX12_wrongAt cX12_wrongAt 3 none ∈ gd := gdc_7_8 9 rfl gw_code
theorem m1694 : Cond.methodLink RX12 365 yX12_pave ∈ gd := gdc_7_8 10 rfl gw_methodLink
theorem m1696 : Cond.instanceMethod yX12_pave ∈ gd := gdc_7_8 12 rfl gw_instanceMethod
theorem m1697 : Cond.code yX12_pave cX12_pave 6 none ∈ gd := gdc_7_8 13 rfl gw_code
def rbX12_readSlab_0 : List (Nat × List Nat) := [(0, [42]), (1, [180, 0, 195]), (4, [62]), (5, [42]), (6, [4]), (7, [16, 60]), (9, [182, 1, 33]), (12, [54, 4]), (14, [28]), (15, [154, 0, 7]), (18, [3]), (19, [167, 0, 4]), (22, [27]), (23, [54, 5]), (25, [42]), (26, [180, 0, 218]), (29, [154, 0, 30]), (32, [42]), (33, [180, 0, 57]), (36, [42]), (37, [180, 1, 103]), (40, [46]), (41, [21, 5]), (43, [96])]
theorem rcX12_readSlab_0 : dgo (lb cX12_readSlab) 0 rbX12_readSlab_0 = true := by decide +kernel
theorem dX12_readSlab_0 : decode cX12_readSlab 0 = .ok (.aload_n 0, 1) := dk_42 (dw rcX12_readSlab_0 0 rfl)
theorem dX12_readSlab_1 : decode cX12_readSlab 1 = .ok (.getfield 195, 3) := dk_180 (dw rcX12_readSlab_0 1 rfl) rfl
theorem dX12_readSlab_4 : decode cX12_readSlab 4 = .ok (.istore_n 3, 1) := dk_62 (dw rcX12_readSlab_0 2 rfl)
theorem dX12_readSlab_5 : decode cX12_readSlab 5 = .ok (.aload_n 0, 1) := dk_42 (dw rcX12_readSlab_0 3 rfl)
theorem dX12_readSlab_6 : decode cX12_readSlab 6 = .ok (.iconst 1, 1) := dk_4 (dw rcX12_readSlab_0 4 rfl)
theorem dX12_readSlab_7 : decode cX12_readSlab 7 = .ok (.bipush 60, 2) := dk_16 (dw rcX12_readSlab_0 5 rfl) rfl
theorem dX12_readSlab_9 : decode cX12_readSlab 9 = .ok (.invokevirtual 289, 3) := dk_182 (dw rcX12_readSlab_0 6 rfl) rfl
theorem dX12_readSlab_12 : decode cX12_readSlab 12 = .ok (.istore 4, 2) := dk_54 (dw rcX12_readSlab_0 7 rfl)
theorem dX12_readSlab_14 : decode cX12_readSlab 14 = .ok (.iload_n 2, 1) := dk_28 (dw rcX12_readSlab_0 8 rfl)
theorem dX12_readSlab_15 : decode cX12_readSlab 15 = .ok (.ifCond .ne 7, 3) := dk_154 (dw rcX12_readSlab_0 9 rfl) rfl
theorem dX12_readSlab_18 : decode cX12_readSlab 18 = .ok (.iconst 0, 1) := dk_3 (dw rcX12_readSlab_0 10 rfl)
theorem dX12_readSlab_19 : decode cX12_readSlab 19 = .ok (.goto 4, 3) := dk_167 (dw rcX12_readSlab_0 11 rfl) rfl
theorem dX12_readSlab_22 : decode cX12_readSlab 22 = .ok (.iload_n 1, 1) := dk_27 (dw rcX12_readSlab_0 12 rfl)
theorem dX12_readSlab_23 : decode cX12_readSlab 23 = .ok (.istore 5, 2) := dk_54 (dw rcX12_readSlab_0 13 rfl)
theorem dX12_readSlab_25 : decode cX12_readSlab 25 = .ok (.aload_n 0, 1) := dk_42 (dw rcX12_readSlab_0 14 rfl)
theorem dX12_readSlab_26 : decode cX12_readSlab 26 = .ok (.getfield 218, 3) := dk_180 (dw rcX12_readSlab_0 15 rfl) rfl
theorem dX12_readSlab_29 : decode cX12_readSlab 29 = .ok (.ifCond .ne 30, 3) := dk_154 (dw rcX12_readSlab_0 16 rfl) rfl
theorem dX12_readSlab_32 : decode cX12_readSlab 32 = .ok (.aload_n 0, 1) := dk_42 (dw rcX12_readSlab_0 17 rfl)
theorem dX12_readSlab_33 : decode cX12_readSlab 33 = .ok (.getfield 57, 3) := dk_180 (dw rcX12_readSlab_0 18 rfl) rfl
theorem dX12_readSlab_36 : decode cX12_readSlab 36 = .ok (.aload_n 0, 1) := dk_42 (dw rcX12_readSlab_0 19 rfl)
theorem dX12_readSlab_37 : decode cX12_readSlab 37 = .ok (.getfield 359, 3) := dk_180 (dw rcX12_readSlab_0 20 rfl) rfl
theorem dX12_readSlab_40 : decode cX12_readSlab 40 = .ok (.iaload, 1) := dk_46 (dw rcX12_readSlab_0 21 rfl)
theorem dX12_readSlab_41 : decode cX12_readSlab 41 = .ok (.iload 5, 2) := dk_21 (dw rcX12_readSlab_0 22 rfl)
theorem dX12_readSlab_43 : decode cX12_readSlab 43 = .ok (.iadd, 1) := dk_96 (dw rcX12_readSlab_0 23 rfl)
def rbX12_readSlab_44 : List (Nat × List Nat) := [(44, [21, 4]), (46, [96]), (47, [17, 1, 144]), (50, [164, 0, 9]), (53, [42]), (54, [7]), (55, [29]), (56, [182, 1, 106]), (59, [3]), (60, [54, 6]), (62, [4]), (63, [54, 7]), (65, [21, 7]), (67, [153, 0, 83]), (70, [42]), (71, [180, 0, 218]), (74, [154, 0, 76]), (77, [42]), (78, [180, 0, 205]), (81, [4]), (82, [160, 0, 14]), (85, [42]), (86, [182, 0, 245]), (89, [158, 0, 7])]
theorem rcX12_readSlab_44 : dgo (lb cX12_readSlab) 0 rbX12_readSlab_44 = true := by decide +kernel
theorem dX12_readSlab_44 : decode cX12_readSlab 44 = .ok (.iload 4, 2) := dk_21 (dw rcX12_readSlab_44 0 rfl)
theorem dX12_readSlab_46 : decode cX12_readSlab 46 = .ok (.iadd, 1) := dk_96 (dw rcX12_readSlab_44 1 rfl)
theorem dX12_readSlab_47 : decode cX12_readSlab 47 = .ok (.sipush 400, 3) := dk_17 (dw rcX12_readSlab_44 2 rfl) rfl
theorem dX12_readSlab_50 : decode cX12_readSlab 50 = .ok (.if_icmp .le 9, 3) := dk_164 (dw rcX12_readSlab_44 3 rfl) rfl
theorem dX12_readSlab_53 : decode cX12_readSlab 53 = .ok (.aload_n 0, 1) := dk_42 (dw rcX12_readSlab_44 4 rfl)
theorem dX12_readSlab_54 : decode cX12_readSlab 54 = .ok (.iconst 4, 1) := dk_7 (dw rcX12_readSlab_44 5 rfl)
theorem dX12_readSlab_55 : decode cX12_readSlab 55 = .ok (.iload_n 3, 1) := dk_29 (dw rcX12_readSlab_44 6 rfl)
theorem dX12_readSlab_56 : decode cX12_readSlab 56 = .ok (.invokevirtual 362, 3) := dk_182 (dw rcX12_readSlab_44 7 rfl) rfl
theorem dX12_readSlab_59 : decode cX12_readSlab 59 = .ok (.iconst 0, 1) := dk_3 (dw rcX12_readSlab_44 8 rfl)
theorem dX12_readSlab_60 : decode cX12_readSlab 60 = .ok (.istore 6, 2) := dk_54 (dw rcX12_readSlab_44 9 rfl)
theorem dX12_readSlab_62 : decode cX12_readSlab 62 = .ok (.iconst 1, 1) := dk_4 (dw rcX12_readSlab_44 10 rfl)
theorem dX12_readSlab_63 : decode cX12_readSlab 63 = .ok (.istore 7, 2) := dk_54 (dw rcX12_readSlab_44 11 rfl)
theorem dX12_readSlab_65 : decode cX12_readSlab 65 = .ok (.iload 7, 2) := dk_21 (dw rcX12_readSlab_44 12 rfl)
theorem dX12_readSlab_67 : decode cX12_readSlab 67 = .ok (.ifCond .eq 83, 3) := dk_153 (dw rcX12_readSlab_44 13 rfl) rfl
theorem dX12_readSlab_70 : decode cX12_readSlab 70 = .ok (.aload_n 0, 1) := dk_42 (dw rcX12_readSlab_44 14 rfl)
theorem dX12_readSlab_71 : decode cX12_readSlab 71 = .ok (.getfield 218, 3) := dk_180 (dw rcX12_readSlab_44 15 rfl) rfl
theorem dX12_readSlab_74 : decode cX12_readSlab 74 = .ok (.ifCond .ne 76, 3) := dk_154 (dw rcX12_readSlab_44 16 rfl) rfl
theorem dX12_readSlab_77 : decode cX12_readSlab 77 = .ok (.aload_n 0, 1) := dk_42 (dw rcX12_readSlab_44 17 rfl)
theorem dX12_readSlab_78 : decode cX12_readSlab 78 = .ok (.getfield 205, 3) := dk_180 (dw rcX12_readSlab_44 18 rfl) rfl
theorem dX12_readSlab_81 : decode cX12_readSlab 81 = .ok (.iconst 1, 1) := dk_4 (dw rcX12_readSlab_44 19 rfl)
theorem dX12_readSlab_82 : decode cX12_readSlab 82 = .ok (.if_icmp .ne 14, 3) := dk_160 (dw rcX12_readSlab_44 20 rfl) rfl
theorem dX12_readSlab_85 : decode cX12_readSlab 85 = .ok (.aload_n 0, 1) := dk_42 (dw rcX12_readSlab_44 21 rfl)
theorem dX12_readSlab_86 : decode cX12_readSlab 86 = .ok (.invokevirtual 245, 3) := dk_182 (dw rcX12_readSlab_44 22 rfl) rfl
theorem dX12_readSlab_89 : decode cX12_readSlab 89 = .ok (.ifCond .le 7, 3) := dk_158 (dw rcX12_readSlab_44 23 rfl) rfl
def rbX12_readSlab_92 : List (Nat × List Nat) := [(92, [4]), (93, [167, 0, 4]), (96, [3]), (97, [54, 7]), (99, [21, 7]), (101, [153, 0, 18]), (104, [21, 6]), (106, [42]), (107, [182, 0, 245]), (110, [126]), (111, [153, 0, 8]), (114, [42]), (115, [5]), (116, [182, 1, 26]), (119, [21, 7]), (121, [153, 255, 200]), (124, [42]), (125, [180, 0, 218]), (128, [158, 0, 6]), (131, [167, 255, 190]), (134, [21, 6]), (136, [42]), (137, [182, 0, 245]), (140, [128])]
theorem rcX12_readSlab_92 : dgo (lb cX12_readSlab) 0 rbX12_readSlab_92 = true := by decide +kernel
theorem dX12_readSlab_92 : decode cX12_readSlab 92 = .ok (.iconst 1, 1) := dk_4 (dw rcX12_readSlab_92 0 rfl)
theorem dX12_readSlab_93 : decode cX12_readSlab 93 = .ok (.goto 4, 3) := dk_167 (dw rcX12_readSlab_92 1 rfl) rfl
theorem dX12_readSlab_96 : decode cX12_readSlab 96 = .ok (.iconst 0, 1) := dk_3 (dw rcX12_readSlab_92 2 rfl)
theorem dX12_readSlab_97 : decode cX12_readSlab 97 = .ok (.istore 7, 2) := dk_54 (dw rcX12_readSlab_92 3 rfl)
theorem dX12_readSlab_99 : decode cX12_readSlab 99 = .ok (.iload 7, 2) := dk_21 (dw rcX12_readSlab_92 4 rfl)
theorem dX12_readSlab_101 : decode cX12_readSlab 101 = .ok (.ifCond .eq 18, 3) := dk_153 (dw rcX12_readSlab_92 5 rfl) rfl
theorem dX12_readSlab_104 : decode cX12_readSlab 104 = .ok (.iload 6, 2) := dk_21 (dw rcX12_readSlab_92 6 rfl)
theorem dX12_readSlab_106 : decode cX12_readSlab 106 = .ok (.aload_n 0, 1) := dk_42 (dw rcX12_readSlab_92 7 rfl)
theorem dX12_readSlab_107 : decode cX12_readSlab 107 = .ok (.invokevirtual 245, 3) := dk_182 (dw rcX12_readSlab_92 8 rfl) rfl
theorem dX12_readSlab_110 : decode cX12_readSlab 110 = .ok (.iand, 1) := dk_126 (dw rcX12_readSlab_92 9 rfl)
theorem dX12_readSlab_111 : decode cX12_readSlab 111 = .ok (.ifCond .eq 8, 3) := dk_153 (dw rcX12_readSlab_92 10 rfl) rfl
theorem dX12_readSlab_114 : decode cX12_readSlab 114 = .ok (.aload_n 0, 1) := dk_42 (dw rcX12_readSlab_92 11 rfl)
theorem dX12_readSlab_115 : decode cX12_readSlab 115 = .ok (.iconst 2, 1) := dk_5 (dw rcX12_readSlab_92 12 rfl)
theorem dX12_readSlab_116 : decode cX12_readSlab 116 = .ok (.invokevirtual 282, 3) := dk_182 (dw rcX12_readSlab_92 13 rfl) rfl
theorem dX12_readSlab_119 : decode cX12_readSlab 119 = .ok (.iload 7, 2) := dk_21 (dw rcX12_readSlab_92 14 rfl)
theorem dX12_readSlab_121 : decode cX12_readSlab 121 = .ok (.ifCond .eq (-56), 3) := dk_153 (dw rcX12_readSlab_92 15 rfl) rfl
theorem dX12_readSlab_124 : decode cX12_readSlab 124 = .ok (.aload_n 0, 1) := dk_42 (dw rcX12_readSlab_92 16 rfl)
theorem dX12_readSlab_125 : decode cX12_readSlab 125 = .ok (.getfield 218, 3) := dk_180 (dw rcX12_readSlab_92 17 rfl) rfl
theorem dX12_readSlab_128 : decode cX12_readSlab 128 = .ok (.ifCond .le 6, 3) := dk_158 (dw rcX12_readSlab_92 18 rfl) rfl
theorem dX12_readSlab_131 : decode cX12_readSlab 131 = .ok (.goto (-66), 3) := dk_167 (dw rcX12_readSlab_92 19 rfl) rfl
theorem dX12_readSlab_134 : decode cX12_readSlab 134 = .ok (.iload 6, 2) := dk_21 (dw rcX12_readSlab_92 20 rfl)
theorem dX12_readSlab_136 : decode cX12_readSlab 136 = .ok (.aload_n 0, 1) := dk_42 (dw rcX12_readSlab_92 21 rfl)
theorem dX12_readSlab_137 : decode cX12_readSlab 137 = .ok (.invokevirtual 245, 3) := dk_182 (dw rcX12_readSlab_92 22 rfl) rfl
theorem dX12_readSlab_140 : decode cX12_readSlab 140 = .ok (.ior, 1) := dk_128 (dw rcX12_readSlab_92 23 rfl)
def rbX12_readSlab_141 : List (Nat × List Nat) := [(141, [54, 6]), (143, [42]), (144, [182, 1, 23]), (147, [167, 255, 174]), (150, [42]), (151, [180, 0, 218]), (154, [158, 0, 4]), (157, [177]), (158, [42]), (159, [2]), (160, [28]), (161, [4]), (162, [100]), (163, [21, 5]), (165, [182, 1, 109]), (168, [42]), (169, [21, 6]), (171, [28]), (172, [21, 4]), (174, [182, 1, 109]), (177, [177])]
theorem rcX12_readSlab_141 : dgo (lb cX12_readSlab) 0 rbX12_readSlab_141 = true := by decide +kernel
theorem dX12_readSlab_141 : decode cX12_readSlab 141 = .ok (.istore 6, 2) := dk_54 (dw rcX12_readSlab_141 0 rfl)
theorem dX12_readSlab_143 : decode cX12_readSlab 143 = .ok (.aload_n 0, 1) := dk_42 (dw rcX12_readSlab_141 1 rfl)
theorem dX12_readSlab_144 : decode cX12_readSlab 144 = .ok (.invokevirtual 279, 3) := dk_182 (dw rcX12_readSlab_141 2 rfl) rfl
theorem dX12_readSlab_147 : decode cX12_readSlab 147 = .ok (.goto (-82), 3) := dk_167 (dw rcX12_readSlab_141 3 rfl) rfl
theorem dX12_readSlab_150 : decode cX12_readSlab 150 = .ok (.aload_n 0, 1) := dk_42 (dw rcX12_readSlab_141 4 rfl)
theorem dX12_readSlab_151 : decode cX12_readSlab 151 = .ok (.getfield 218, 3) := dk_180 (dw rcX12_readSlab_141 5 rfl) rfl
theorem dX12_readSlab_154 : decode cX12_readSlab 154 = .ok (.ifCond .le 4, 3) := dk_158 (dw rcX12_readSlab_141 6 rfl) rfl
theorem dX12_readSlab_157 : decode cX12_readSlab 157 = .ok (.return_, 1) := dk_177 (dw rcX12_readSlab_141 7 rfl)
theorem dX12_readSlab_158 : decode cX12_readSlab 158 = .ok (.aload_n 0, 1) := dk_42 (dw rcX12_readSlab_141 8 rfl)
theorem dX12_readSlab_159 : decode cX12_readSlab 159 = .ok (.iconst (-1), 1) := dk_2 (dw rcX12_readSlab_141 9 rfl)
theorem dX12_readSlab_160 : decode cX12_readSlab 160 = .ok (.iload_n 2, 1) := dk_28 (dw rcX12_readSlab_141 10 rfl)
theorem dX12_readSlab_161 : decode cX12_readSlab 161 = .ok (.iconst 1, 1) := dk_4 (dw rcX12_readSlab_141 11 rfl)
theorem dX12_readSlab_162 : decode cX12_readSlab 162 = .ok (.isub, 1) := dk_100 (dw rcX12_readSlab_141 12 rfl)
theorem dX12_readSlab_163 : decode cX12_readSlab 163 = .ok (.iload 5, 2) := dk_21 (dw rcX12_readSlab_141 13 rfl)
theorem dX12_readSlab_165 : decode cX12_readSlab 165 = .ok (.invokevirtual 365, 3) := dk_182 (dw rcX12_readSlab_141 14 rfl) rfl
theorem dX12_readSlab_168 : decode cX12_readSlab 168 = .ok (.aload_n 0, 1) := dk_42 (dw rcX12_readSlab_141 15 rfl)
theorem dX12_readSlab_169 : decode cX12_readSlab 169 = .ok (.iload 6, 2) := dk_21 (dw rcX12_readSlab_141 16 rfl)
theorem dX12_readSlab_171 : decode cX12_readSlab 171 = .ok (.iload_n 2, 1) := dk_28 (dw rcX12_readSlab_141 17 rfl)
theorem dX12_readSlab_172 : decode cX12_readSlab 172 = .ok (.iload 4, 2) := dk_21 (dw rcX12_readSlab_141 18 rfl)
theorem dX12_readSlab_174 : decode cX12_readSlab 174 = .ok (.invokevirtual 365, 3) := dk_182 (dw rcX12_readSlab_141 19 rfl) rfl
theorem dX12_readSlab_177 : decode cX12_readSlab 177 = .ok (.return_, 1) := dk_177 (dw rcX12_readSlab_141 20 rfl)
set_option maxHeartbeats 4000000 in
set_option maxRecDepth 100000 in
theorem n_readSlab (l : Launch) (D : va_G) (k : KT) (A : Nat → Prop) (a : Nat → Nat) (z : SK) (G : GS) (p0 : Int32) (p1 : Int32) (j0 : Nat) (hj0 : (G.1 66 45).toNatClampNeg = j0) (ha_p0 : 0 ≤ p0.toInt ∧ p0.toInt ≤ 9) (hnf : (G.1 66 2).toInt = 0) (hs : (G.1 66 45).toInt < 3) : Met l yX12_readSlab (WS yX12_readSlab cX12_readSlab 8 none) ({ frames := 3, cells := 0, slots := 0, locals := 66 }) (va_Pc [.ref (a 66), .int p0, .int p1] (cW D k A a z G)) (va_Qv (fun (G1 : GS) => Q_readSlab p0 p1 j0 G G1) (fun (G1 : GS) t => Wd D k A a G1 t.heap) A) 0 0 A := by
  refine Met.ofW (cc := cX12_readSlab) (maxL := 8) (ret := none) (by decide) rfl ?_
  intro p e s m args below meth c s₁ B hml hv
  obtain ⟨rfl, hW, hB_G, hK, hZ⟩ := hv
  have hx := B.exec
  have hb := B.bytes
  have hr := B.returns
  have hts := atoms_spec (ws := WS yX12_readSlab cX12_readSlab 8 none) B.pre
  have hgd : ∀ w ∈ gd, w ∈ WS yX12_readSlab cX12_readSlab 8 none := fun w h => List.mem_cons_of_mem _ h
  have hg : ∀ w ∈ gd, w.before _ s = true := fun w h => hts w (hgd w h)
  have hown : s.vm.findClass RX12 = some m.cls := findClass_of_methodNamed B.named
  have hS : va_S A s.heap s.heap [] := va_S.rf
  have hF : Fr [77, 78, 79, 80, 81] [(66, 2), (66, 3), (66, 4), (66, 6), (66, 7), (66, 8), (66, 9)] G G := Fr.rf
  have hl := lv_entry ([.ref (a 66), .int p0, .int p1]) (n := 8) (Nat.le_of_ble_eq_true rfl)
  rw [lg_entry_eq]
  generalize (lg_sl ([.ref (a 66), .int p0, .int p1]) ++ List.replicate (8 - (lg_sl ([.ref (a 66), .int p0, .int p1])).length) Slot.unset).toArray = ls at hl ⊢
  have hl : lv_has ls 8 [(0, .ref (a 66)), (1, .int p0), (2, .int p1)] := hl
  subst hj0
  have b_1 : 0 ≤ (G.1 81 (G.1 66 45).toNatClampNeg).toInt ∧ (G.1 81 (G.1 66 45).toNatClampNeg).toInt ≤ 400 := hB_G.i 81 _ rfl rfl
  refine lv_aload_n hx hb dX12_readSlab_0 rfl (lv_at hl 0 rfl) ?_
  have b_2 : 0 ≤ (G.1 66 7).toInt ∧ (G.1 66 7).toInt ≤ 1600 := bd_66_7 hB_G
  refine S_getI (v := (G.1 66 7)) (C := RX12) (T := TX12) (N := 89) hx hb hg iX12 hown hK hW kd_66 rfl 7 (lt_b rfl) (hg (Cond.fieldLink RX12 195 "SlabWalkModel" "place" "I") m1321) (fun _ h9 => h9) rfl rfl dX12_readSlab_1 ?_
  refine lv_istore_n (lv' := [(3, .int (G.1 66 7)), (0, .ref (a 66)), (1, .int p0), (2, .int p1)]) hx hb dX12_readSlab_4 rfl hl (lt_b rfl) rfl (fun ls hl => ?_)
  refine lv_aload_n hx hb dX12_readSlab_5 rfl (lv_at hl 1 rfl) ?_
  refine ic_1 hx hb dX12_readSlab_6 ?_
  refine lv_bipush (v := 60) hx hb dX12_readSlab_7 (by decide) ?_
  have qc_3 : (1 : Int32).toInt = 1 := rfl
  have qc_4 : (60 : Int32).toInt = 60 := rfl
  refine S_calli (va_runV (As := [.int 1, .int 60]) (rest := []) ⟨hx, hb, hml, hown, hts⟩ (n_told l D k A a z G 1 60 ) (cwV 2 hts (gd_V hgd m1682 m1684 m62 m131 m1685) rfl rfl rfl hd_X12_toldNumber ⟨Nat.le_of_ble_eq_true rfl, Nat.le_of_ble_eq_true rfl⟩) (pre_W hW hB_G hK hZ hS kd_66 rfl) rfl rfl hl.1 rfl (lv_room (Nat.le_of_ble_eq_true rfl)) dX12_readSlab_9 ⟨Nat.le_of_ble_eq_true rfl, Nat.le_of_ble_eq_true rfl⟩) hS (fun r_5 G_6 H locs hpo hW hS => ?_)
  have hX_9 : Q_told 1 60 G r_5 G_6 := hpo
  obtain ⟨hB_G_6, hq_7, ⟨d_1, d_2, d_3, d_4⟩, -⟩ := hpo
  have hF := hF.call9 hq_7 rfl rfl
  refine lv_istore (lv' := [(4, .int r_5), (3, .int (G.1 66 7)), (0, .ref (a 66)), (1, .int p0), (2, .int p1)]) hx hb dX12_readSlab_12 hl (lt_b rfl) rfl (fun ls hl => ?_)
  refine lv_iload_n hx hb dX12_readSlab_14 rfl (lv_at hl 4 rfl) ?_
  refine W.cut (σ := Int32) (pcJ := 23) (J := fun y H locs ls => ∃ (G_15 : GS), (0 ≤ y.toInt ∧ y.toInt ≤ 9) ∧ Jn_n_readSlab_1 p0 p1 G_6 y G_15 ∧ Wd D k A a G_15 H ∧ Bd G_15 ∧ Fr [77, 78, 79, 80, 81] [(66, 2), (66, 3), (66, 4), (66, 6), (66, 7), (66, 8), (66, 9)] G G_15 ∧ Fr [] [] G_6 G_15 ∧ va_S A s.heap H locs ∧ lv_has ls 8 [(4, .int r_5), (3, .int (G.1 66 7)), (0, .ref (a 66)), (2, .int p1)]) (stJ := fun y => [.int y]) ?_ (fun hJ_16 => ?_)
  · intro y H locs ls hI
    obtain ⟨w_14, hy⟩ : ∃ q, q = y := ⟨_, rfl⟩
    subst hy
    obtain ⟨G_15, f_19, hX_18, hW, hB_G_15, hF, hq_17, hS, hl⟩ := hI
    refine lv_istore (lv' := [(5, .int w_14), (4, .int r_5), (3, .int (G.1 66 7)), (0, .ref (a 66)), (2, .int p1)]) hx hb dX12_readSlab_23 hl (lt_b rfl) rfl (fun ls hl => ?_)
    refine lv_aload_n hx hb dX12_readSlab_25 rfl (lv_at hl 3 rfl) ?_
    have b_20 : 0 ≤ (G_6.1 66 2).toInt ∧ (G_6.1 66 2).toInt ≤ 4 := bd_66_2 hB_G_6
    refine S_getI (v := (G_6.1 66 2)) (C := RX12) (T := TX12) (N := 89) hx hb hg iX12 hown hK hW kd_66 rfl 2 (lt_b rfl) (hg (Cond.fieldLink RX12 218 "SlabWalkModel" "fault" "I") m1316) (fun _ h9 => h9) rfl (hq_17.i9 66 2 rfl rfl) dX12_readSlab_26 ?_
    refine W.cut (σ := Unit) (pcJ := 59) (J := fun y H locs ls => ∃ (G_25 : GS), (1 ≤ (G_25.1 66 2).toInt ∨ (1 ≤ r_5.toInt ∧ r_5.toInt ≤ 60 ∧ (G_25.1 81 (G.1 66 45).toNatClampNeg).toInt + w_14.toInt + r_5.toInt ≤ 400)) ∧ Jn_n_readSlab_2 r_5 w_14 G G_6 G_15 G_25 ∧ Wd D k A a G_25 H ∧ Bd G_25 ∧ Fr [77, 78, 79, 80, 81] [(66, 2), (66, 3), (66, 4), (66, 6), (66, 7), (66, 8), (66, 9)] G G_25 ∧ Fr [] [(66, 2), (66, 3)] G_15 G_25 ∧ va_S A s.heap H locs ∧ lv_has ls 8 [(5, .int w_14), (4, .int r_5), (0, .ref (a 66)), (2, .int p1)]) (stJ := fun _ => []) ?_ (fun hJ_26 => ?_)
    · intro y H locs ls hI
      obtain ⟨G_25, f_29, hX_28, hW, hB_G_25, hF, hq_27, hS, hl⟩ := hI
      have g_30 : (G_25.1 81 (G.1 66 45).toNatClampNeg).toInt = (G.1 81 (G.1 66 45).toNatClampNeg).toInt := by rw [show G_25.1 81 (G.1 66 45).toNatClampNeg = (G.1 81 (G.1 66 45).toNatClampNeg) from ((hq_27.ri9 81 rfl ((G.1 66 45).toNatClampNeg)).trans ((hq_17.ri9 81 rfl ((G.1 66 45).toNatClampNeg)).trans (hq_7.ri9 81 rfl ((G.1 66 45).toNatClampNeg))))]
      have b_31 : 0 ≤ (G_25.1 66 2).toInt ∧ (G_25.1 66 2).toInt ≤ 4 := bd_66_2 hB_G_25
      refine ic_0 hx hb dX12_readSlab_59 ?_
      refine lv_istore (lv' := [(6, .int 0), (5, .int w_14), (4, .int r_5), (0, .ref (a 66)), (2, .int p1)]) hx hb dX12_readSlab_60 hl (lt_b rfl) rfl (fun ls hl => ?_)
      refine ic_1 hx hb dX12_readSlab_62 ?_
      refine lv_istore (lv' := [(7, .int 1), (6, .int 0), (5, .int w_14), (4, .int r_5), (0, .ref (a 66)), (2, .int p1)]) hx hb dX12_readSlab_63 hl (lt_b rfl) rfl (fun ls hl => ?_)
      have g_39 : (G_25.1 81 (G.1 66 45).toNatClampNeg).toInt = (G.1 81 (G.1 66 45).toNatClampNeg).toInt := by rw [show G_25.1 81 (G.1 66 45).toNatClampNeg = (G.1 81 (G.1 66 45).toNatClampNeg) from ((hq_27.ri9 81 rfl ((G.1 66 45).toNatClampNeg)).trans ((hq_17.ri9 81 rfl ((G.1 66 45).toNatClampNeg)).trans (hq_7.ri9 81 rfl ((G.1 66 45).toNatClampNeg))))]
      have b_40 : 0 ≤ (G_6.1 66 4).toInt ∧ (G_6.1 66 4).toInt ≤ 1600 := bd_66_4 hB_G_6
      have g_41 : (G_25.1 66 4).toInt = (G_6.1 66 4).toInt := (congrArg Int32.toInt (show G_25.1 66 4 = (G_6.1 66 4) from ((hq_27.i9 66 4 rfl rfl).trans (hq_17.i9 66 4 rfl rfl))))
      have g_42 : (G_25.1 66 6).toInt = (G_6.1 66 6).toInt := (congrArg Int32.toInt (show G_25.1 66 6 = (G_6.1 66 6) from ((hq_27.i9 66 6 rfl rfl).trans (hq_17.i9 66 6 rfl rfl))))
      have qc_43 : (0 : Int32).toInt = 0 := rfl
      have qc_44 : (1 : Int32).toInt = 1 := rfl
      refine loop_N (Inv := fun n H locs ls => ∃ (G_32 : GS) (x_36 : Int32) (x_37 : Int32), (n : Int) = 20 - x_37.toInt + x_36.toInt - (G_32.1 66 2).toInt ∧ (0 ≤ x_36.toInt ∧ x_36.toInt ≤ 1) ∧ (0 ≤ x_37.toInt ∧ x_37.toInt ≤ 15) ∧ (1 ≤ (G_32.1 66 2).toInt ∨ (1 ≤ r_5.toInt ∧ r_5.toInt ≤ 60 ∧ (G_32.1 81 (G.1 66 45).toNatClampNeg).toInt + w_14.toInt + r_5.toInt ≤ 400)) ∧ ((G.1 66 4).toInt ≤ (G_32.1 66 4).toInt ∧ ((G_32.1 66 4).toInt = (G.1 66 4).toInt → (G_32.1 66 6).toInt = (G.1 66 6).toInt ∨ (G_32.1 66 6).toInt ≤ 3)) ∧ Rc (St_n_readSlab_3 r_5 w_14 G) (1, 0, G_25) (x_36, x_37, G_32) ∧ Wd D k A a G_32 H ∧ Bd G_32 ∧ Fr [77, 78, 79, 80, 81] [(66, 2), (66, 3), (66, 4), (66, 6), (66, 7), (66, 8), (66, 9)] G G_32 ∧ Fr [] [(66, 2), (66, 3), (66, 4), (66, 6), (66, 7), (66, 8), (66, 9)] G_25 G_32 ∧ va_S A s.heap H locs ∧ lv_has ls 8 [(7, .int x_36), (6, .int x_37), (5, .int w_14), (4, .int r_5), (0, .ref (a 66)), (2, .int p1)]) (fun n_35 H locs ls ih_34 hI => ?_) (20 - 0 + 1 - (G_25.1 66 2).toInt : Int).toNat ⟨G_25, 1, 0, (Int.toNat_of_nonneg ((by first | (clear ha_p0 hnf b_2 d_1 d_2 d_3 b_20 b_40 g_41 g_42; omega) | omega))), ⟨(by first | (clear ha_p0 hnf hs b_1 b_2 d_1 d_2 d_3 d_4 f_19 b_20 f_29 g_30 b_31 g_39 b_40 g_41 g_42; omega) | omega), (by first | (clear ha_p0 hnf hs b_1 b_2 d_1 d_2 d_3 d_4 f_19 b_20 f_29 g_30 b_31 g_39 b_40 g_41 g_42; omega) | omega)⟩, ⟨(by first | (clear ha_p0 hnf hs b_1 b_2 d_1 d_2 d_3 d_4 f_19 b_20 f_29 g_30 b_31 g_39 b_40 g_41 g_42; omega) | omega), (by first | (clear ha_p0 hnf hs b_1 b_2 d_1 d_2 d_3 d_4 f_19 b_20 f_29 g_30 b_31 g_39 b_40 g_41 g_42; omega) | omega)⟩, ((by first | (clear ha_p0 b_2 d_1 d_2 b_40 g_41 g_42; omega) | omega)), ((by first | exact ⟨((by first | (clear ha_p0 hnf hs b_1 b_2 d_3 d_4 f_19 b_20 f_29 g_30 b_31 g_39; omega) | omega)), (fun h9 => by have q0_ := d_2 (by (clear ha_p0 hnf hs b_1 b_2 d_2 d_3 d_4 f_19 b_20 f_29 g_30 b_31 g_39 g_42; omega)); (clear ha_p0 hnf hs b_1 b_2 d_1 d_2 d_3 d_4 f_19 b_20 f_29 g_30 b_31 g_39 b_40 g_41; omega))⟩ | omega)), Rc.rf, hW, hB_G_25, hF, Fr.rf, hS, lv_sub hl [0, 1, 2, 3, 4, 5] rfl⟩
      obtain ⟨G_32, x_36, x_37, hn_49, f_45, f_46, f_47, f_48, hX_38, hW, hB_G_32, hF, hq_33, hS, hl⟩ := hI
      have d_5 := f_48.1
      have d_6 := f_48.2
      have g_50 : (G_32.1 81 (G.1 66 45).toNatClampNeg).toInt = (G.1 81 (G.1 66 45).toNatClampNeg).toInt := by rw [show G_32.1 81 (G.1 66 45).toNatClampNeg = (G.1 81 (G.1 66 45).toNatClampNeg) from ((hq_33.ri9 81 rfl ((G.1 66 45).toNatClampNeg)).trans ((hq_27.ri9 81 rfl ((G.1 66 45).toNatClampNeg)).trans ((hq_17.ri9 81 rfl ((G.1 66 45).toNatClampNeg)).trans (hq_7.ri9 81 rfl ((G.1 66 45).toNatClampNeg)))))]
      have b_51 : 0 ≤ (G_32.1 66 2).toInt ∧ (G_32.1 66 2).toInt ≤ 4 := bd_66_2 hB_G_32
      have b_52 : 0 ≤ (G_32.1 66 4).toInt ∧ (G_32.1 66 4).toInt ≤ 1600 := bd_66_4 hB_G_32
      refine lv_iload hx hb dX12_readSlab_65 (lv_at hl 0 rfl) ?_
      refine W.cut (σ := Unit) (pcJ := 150) (J := fun y H locs ls => ∃ (G_58 : GS), Jn_n_readSlab_4 x_36 G_32 G_58 ∧ Wd D k A a G_58 H ∧ Bd G_58 ∧ Fr [77, 78, 79, 80, 81] [(66, 2), (66, 3), (66, 4), (66, 6), (66, 7), (66, 8), (66, 9)] G G_58 ∧ Fr [] [] G_32 G_58 ∧ va_S A s.heap H locs ∧ lv_has ls 8 [(6, .int x_37), (5, .int w_14), (4, .int r_5), (0, .ref (a 66)), (2, .int p1)]) (stJ := fun _ => []) ?_ (fun hJ_59 => ?_)
      · intro y H locs ls hI
        obtain ⟨G_58, hX_61, hW, hB_G_58, hF, hq_60, hS, hl⟩ := hI
        refine lv_aload_n hx hb dX12_readSlab_150 rfl (lv_at hl 3 rfl) ?_
        refine S_getI (v := (G_32.1 66 2)) (C := RX12) (T := TX12) (N := 89) hx hb hg iX12 hown hK hW kd_66 rfl 2 (lt_b rfl) (hg (Cond.fieldLink RX12 218 "SlabWalkModel" "fault" "I") m1316) (fun _ h9 => h9) rfl ((hq_60.i9 66 2 rfl rfl).trans (rfl)) dX12_readSlab_151 ?_
        refine lv_if_le (tgt := 158) hx hb dX12_readSlab_154 rfl (fun c_62 => ?_) (fun c_62 => ?_)
        · have c_62 : (G_32.1 66 2).toInt ≤ 0 := xI_le rfl rfl c_62
          refine lv_aload_n hx hb dX12_readSlab_158 rfl (lv_at hl 3 rfl) ?_
          refine ic_m1 hx hb dX12_readSlab_159 ?_
          refine lv_iload_n hx hb dX12_readSlab_160 rfl (lv_at hl 4 rfl) ?_
          refine ic_1 hx hb dX12_readSlab_161 ?_
          refine lv_isub hx hb dX12_readSlab_162 ?_
          refine lv_topi (fun y_63 ey_63 => ?_)
          refine lv_iload hx hb dX12_readSlab_163 (lv_at hl 1 rfl) ?_
          have b_64 : 0 ≤ (G.1 66 45).toInt ∧ (G.1 66 45).toInt ≤ 3 := bd_66_45 hB_G
          have g_65 : (G_58.1 66 45).toInt = (G.1 66 45).toInt := (congrArg Int32.toInt (show G_58.1 66 45 = (G.1 66 45) from ((hq_60.i9 66 45 rfl rfl).trans ((hq_33.i9 66 45 rfl rfl).trans ((hq_27.i9 66 45 rfl rfl).trans ((hq_17.i9 66 45 rfl rfl).trans ((hq_7.i9 66 45 rfl rfl).trans (rfl))))))))
          have g_66 : (G_58.1 81 (G.1 66 45).toNatClampNeg).toInt = (G.1 81 (G.1 66 45).toNatClampNeg).toInt := by rw [show G_58.1 81 (G.1 66 45).toNatClampNeg = (G.1 81 (G.1 66 45).toNatClampNeg) from ((hq_60.ri9 81 rfl ((G.1 66 45).toNatClampNeg)).trans ((hq_33.ri9 81 rfl ((G.1 66 45).toNatClampNeg)).trans ((hq_27.ri9 81 rfl ((G.1 66 45).toNatClampNeg)).trans ((hq_17.ri9 81 rfl ((G.1 66 45).toNatClampNeg)).trans (hq_7.ri9 81 rfl ((G.1 66 45).toNatClampNeg))))))]
          have qc_67 : ((-1) : Int32).toInt = (-1) := rfl
          have g_68 : (G_58.1 81 (G.1 66 45).toNatClampNeg).toInt = (G.1 81 (G.1 66 45).toNatClampNeg).toInt := by rw [show G_58.1 81 (G.1 66 45).toNatClampNeg = (G.1 81 (G.1 66 45).toNatClampNeg) from ((hq_60.ri9 81 rfl ((G.1 66 45).toNatClampNeg)).trans ((hq_33.ri9 81 rfl ((G.1 66 45).toNatClampNeg)).trans ((hq_27.ri9 81 rfl ((G.1 66 45).toNatClampNeg)).trans ((hq_17.ri9 81 rfl ((G.1 66 45).toNatClampNeg)).trans (hq_7.ri9 81 rfl ((G.1 66 45).toNatClampNeg))))))]
          refine S_callv (va_runV (As := [.int (-1), .int y_63, .int w_14]) (rest := []) ⟨hx, hb, hml, hown, hts⟩ (n_pave l D k A a z G_58 (-1) y_63 w_14 ((G.1 66 45).toNatClampNeg) (show (G_58.1 66 45).toNatClampNeg = (G.1 66 45).toNatClampNeg from congrArg Int32.toNatClampNeg (((hq_60.i9 66 45 rfl rfl).trans ((hq_33.i9 66 45 rfl rfl).trans ((hq_27.i9 66 45 rfl rfl).trans ((hq_17.i9 66 45 rfl rfl).trans (hq_7.i9 66 45 rfl rfl))))))) ⟨(by first | (clear ha_p0 hnf b_2 d_1 d_2 d_3 b_20 b_40 g_41 g_42 hn_49 f_45 f_46 f_48 d_5 d_6 b_52; omega) | omega), (by first | (clear ha_p0 hnf b_2 d_1 d_2 d_3 b_20 b_40 g_41 g_42 hn_49 f_45 f_46 f_48 d_5 d_6 b_52; omega) | omega)⟩ ((by first | (clear ha_p0 hnf b_2 d_1 d_2 d_3 b_20 b_40 g_41 g_42 hn_49 f_45 f_46 f_48 d_5 d_6 b_52; omega) | omega)) ((by first | (clear ha_p0 hnf b_2 d_1 d_2 d_3 b_20 b_40 g_41 g_42 hn_49 f_45 f_46 f_48 d_5 d_6 b_52; omega) | omega))) (cwV 3 hts (gd_V hgd m1694 m1696 m65 m131 m1697) rfl rfl rfl hd_X12_pave ⟨Nat.le_of_ble_eq_true rfl, Nat.le_of_ble_eq_true rfl⟩) (pre_W hW hB_G_58 hK hZ hS kd_66 rfl) rfl rfl hl.1 rfl (lv_room (Nat.le_of_ble_eq_true rfl)) dX12_readSlab_165 ⟨Nat.le_of_ble_eq_true rfl, Nat.le_of_ble_eq_true rfl⟩) hS (fun G_70 H locs hpo hW hS => ?_)
          have hX_73 : Q_pave (-1) y_63 w_14 ((G.1 66 45).toNatClampNeg) G_58 G_70 := hpo
          obtain ⟨hB_G_70, hq_71, hp_72, -⟩ := hpo
          have hF := hF.call9 hq_71 rfl rfl
          refine lv_aload_n hx hb dX12_readSlab_168 rfl (lv_at hl 3 rfl) ?_
          refine lv_iload hx hb dX12_readSlab_169 (lv_at hl 0 rfl) ?_
          refine lv_iload_n hx hb dX12_readSlab_171 rfl (lv_at hl 4 rfl) ?_
          refine lv_iload hx hb dX12_readSlab_172 (lv_at hl 2 rfl) ?_
          have g_74 : (G_70.1 66 45).toInt = (G.1 66 45).toInt := (congrArg Int32.toInt (show G_70.1 66 45 = (G.1 66 45) from ((hq_71.i9 66 45 rfl rfl).trans ((hq_60.i9 66 45 rfl rfl).trans ((hq_33.i9 66 45 rfl rfl).trans ((hq_27.i9 66 45 rfl rfl).trans ((hq_17.i9 66 45 rfl rfl).trans ((hq_7.i9 66 45 rfl rfl).trans (rfl)))))))))
          refine S_callv (va_runV (As := [.int x_37, .int p1, .int r_5]) (rest := []) ⟨hx, hb, hml, hown, hts⟩ (n_pave l D k A a z G_70 x_37 p1 r_5 ((G.1 66 45).toNatClampNeg) (show (G_70.1 66 45).toNatClampNeg = (G.1 66 45).toNatClampNeg from congrArg Int32.toNatClampNeg (((hq_71.i9 66 45 rfl rfl).trans ((hq_60.i9 66 45 rfl rfl).trans ((hq_33.i9 66 45 rfl rfl).trans ((hq_27.i9 66 45 rfl rfl).trans ((hq_17.i9 66 45 rfl rfl).trans ((hq_7.i9 66 45 rfl rfl).trans (rfl))))))))) ⟨(by first | (clear ha_p0 b_2 d_1 d_2 b_40 g_41 g_42 hn_49 f_45 f_46 f_48 d_5 d_6 b_52; omega) | omega), (by first | (clear ha_p0 b_2 d_1 d_2 b_40 g_41 g_42 hn_49 f_45 f_46 f_48 d_5 d_6 b_52; omega) | omega)⟩ ((by first | (clear ha_p0 hnf b_2 d_1 d_2 d_3 b_20 b_40 g_41 g_42 hn_49 f_45 f_46 f_48 d_5 d_6 b_52; omega) | omega)) ((by first | (clear ha_p0 b_2 d_1 d_2 b_40 g_41 g_42 hn_49 f_45 f_46 f_48 d_5 d_6 b_52; omega) | omega))) (cwV 3 hts (gd_V hgd m1694 m1696 m65 m131 m1697) rfl rfl rfl hd_X12_pave ⟨Nat.le_of_ble_eq_true rfl, Nat.le_of_ble_eq_true rfl⟩) (pre_W hW hB_G_70 hK hZ hS kd_66 rfl) rfl rfl hl.1 rfl (lv_room (Nat.le_of_ble_eq_true rfl)) dX12_readSlab_174 ⟨Nat.le_of_ble_eq_true rfl, Nat.le_of_ble_eq_true rfl⟩) hS (fun G_76 H locs hpo hW hS => ?_)
          have hX_79 : Q_pave x_37 p1 r_5 ((G.1 66 45).toNatClampNeg) G_70 G_76 := hpo
          obtain ⟨hB_G_76, hq_77, hp_78, -⟩ := hpo
          have hF := hF.call9 hq_77 rfl rfl
          have g_80 : (G_76.1 66 2).toInt = (G_32.1 66 2).toInt := (congrArg Int32.toInt (show G_76.1 66 2 = (G_32.1 66 2) from ((hq_77.i9 66 2 rfl rfl).trans ((hq_71.i9 66 2 rfl rfl).trans ((hq_60.i9 66 2 rfl rfl).trans (rfl))))))
          have g_81 : (G_76.1 66 4).toInt = (G_32.1 66 4).toInt := (congrArg Int32.toInt (show G_76.1 66 4 = (G_32.1 66 4) from ((hq_77.i9 66 4 rfl rfl).trans ((hq_71.i9 66 4 rfl rfl).trans ((hq_60.i9 66 4 rfl rfl).trans (rfl))))))
          have g_82 : (G_76.1 66 6).toInt = (G_32.1 66 6).toInt := (congrArg Int32.toInt (show G_76.1 66 6 = (G_32.1 66 6) from ((hq_77.i9 66 6 rfl rfl).trans ((hq_71.i9 66 6 rfl rfl).trans ((hq_60.i9 66 6 rfl rfl).trans (rfl))))))
          exact W.vret hx hb hr (fun t ht _ => ⟨⟨G_76, rfl, (Q_readSlab_mk ⟨hB_G_76, hF, ((by first | exact ⟨((by first | (clear ha_p0 hnf hs b_1 b_2 d_3 d_4 f_19 b_20 f_29 g_30 b_31 g_39 hn_49 f_45 f_46 f_47 f_48 g_50 b_51 c_62 b_64 g_65 g_66 g_68 hp_72 g_74 hp_78 g_80; omega) | omega)), ⟨(fun h9 => by have q0_ := d_6 (by (clear ha_p0 hnf hs b_1 b_2 d_2 d_3 d_4 f_19 b_20 f_29 g_30 b_31 g_39 g_42 hn_49 f_45 f_46 f_47 f_48 d_6 g_50 b_51 c_62 b_64 g_65 g_66 g_68 hp_72 g_74 hp_78 g_80 g_82; omega)); (clear ha_p0 hnf hs b_1 b_2 d_1 d_2 d_3 d_4 f_19 b_20 f_29 g_30 b_31 g_39 b_40 g_41 g_42 hn_49 f_45 f_46 f_47 f_48 d_5 d_6 g_50 b_51 b_52 c_62 b_64 g_65 g_66 g_68 hp_72 g_74 hp_78 g_80 g_81; omega)), ⟨((by first | (clear ha_p0 b_2 d_1 d_2 b_40 g_41 g_42 hn_49 f_45 f_46 f_48 d_5 d_6 b_52 g_81 g_82; omega) | omega)), ⟨((by first | (clear ha_p0 b_2 d_1 d_2 b_40 g_41 g_42 hn_49 f_45 f_46 f_48 d_5 d_6 b_52 g_81 g_82; omega) | omega)), (fun h9 => ((by first | (clear ha_p0 b_2 d_1 d_2 b_40 g_41 g_42 hn_49 f_45 f_46 f_48 d_5 d_6 b_52 g_81 g_82; omega) | omega)))⟩⟩⟩⟩ | omega)), ⟨r_5, G_6, hX_9, ⟨w_14, G_15, hX_18, f_19, hB_G_15, hq_17, ⟨G_25, hX_28, f_29, hB_G_25, hq_27, ⟨x_36, x_37, G_32, hX_38, f_45, f_46, f_47, f_48, hB_G_32, hq_33, ⟨G_58, hX_61, hB_G_58, hq_60, (Or.inl ⟨c_62, ⟨y_63, ey_63, ⟨G_70, hX_73, ⟨G_76, hX_79, rfl⟩⟩⟩⟩)⟩⟩⟩⟩⟩⟩), wd_t ht hW⟩, hS.F ht⟩) hS.2.2 dX12_readSlab_177
        · have c_62 : 0 < (G_32.1 66 2).toInt := xI_nle rfl rfl c_62
          have g_83 : (G_58.1 81 (G.1 66 45).toNatClampNeg).toInt = (G.1 81 (G.1 66 45).toNatClampNeg).toInt := by rw [show G_58.1 81 (G.1 66 45).toNatClampNeg = (G.1 81 (G.1 66 45).toNatClampNeg) from ((hq_60.ri9 81 rfl ((G.1 66 45).toNatClampNeg)).trans ((hq_33.ri9 81 rfl ((G.1 66 45).toNatClampNeg)).trans ((hq_27.ri9 81 rfl ((G.1 66 45).toNatClampNeg)).trans ((hq_17.ri9 81 rfl ((G.1 66 45).toNatClampNeg)).trans (hq_7.ri9 81 rfl ((G.1 66 45).toNatClampNeg))))))]
          have g_84 : (G_58.1 66 2).toInt = (G_32.1 66 2).toInt := (congrArg Int32.toInt (show G_58.1 66 2 = (G_32.1 66 2) from ((hq_60.i9 66 2 rfl rfl).trans (rfl))))
          have g_85 : (G_58.1 66 4).toInt = (G_32.1 66 4).toInt := (congrArg Int32.toInt (show G_58.1 66 4 = (G_32.1 66 4) from ((hq_60.i9 66 4 rfl rfl).trans (rfl))))
          have g_86 : (G_58.1 66 6).toInt = (G_32.1 66 6).toInt := (congrArg Int32.toInt (show G_58.1 66 6 = (G_32.1 66 6) from ((hq_60.i9 66 6 rfl rfl).trans (rfl))))
          exact W.vret hx hb hr (fun t ht _ => ⟨⟨G_58, rfl, (Q_readSlab_mk ⟨hB_G_58, hF, ((by first | exact ⟨((by first | (clear ha_p0 hnf hs b_1 b_2 d_3 d_4 f_19 b_20 f_29 g_30 b_31 g_39 hn_49 f_45 f_46 f_47 f_48 g_50 b_51 c_62 g_83 g_84; omega) | omega)), ⟨(fun h9 => by have q0_ := d_6 (by (clear ha_p0 hnf hs b_1 b_2 d_2 d_3 d_4 f_19 b_20 f_29 g_30 b_31 g_39 g_42 hn_49 f_45 f_46 f_47 f_48 d_6 g_50 b_51 c_62 g_83 g_84 g_86; omega)); (clear ha_p0 hnf hs b_1 b_2 d_1 d_2 d_3 d_4 f_19 b_20 f_29 g_30 b_31 g_39 b_40 g_41 g_42 hn_49 f_45 f_46 f_47 f_48 d_5 d_6 g_50 b_51 b_52 c_62 g_83 g_84 g_85; omega)), ⟨((by first | (clear ha_p0 hnf b_2 d_1 d_2 d_3 b_20 b_40 g_41 g_42 hn_49 f_45 f_46 f_48 d_5 d_6 b_52 g_85 g_86; omega) | omega)), ⟨((by first | (clear ha_p0 hnf b_2 d_1 d_2 d_3 b_20 b_40 g_41 g_42 hn_49 f_45 f_46 f_48 d_5 d_6 b_52 g_85 g_86; omega) | omega)), (fun h9 => ((by first | (clear ha_p0 hnf b_2 d_1 d_2 d_3 b_20 b_40 g_41 g_42 hn_49 f_45 f_46 f_48 d_5 d_6 b_52 g_85 g_86; omega) | omega)))⟩⟩⟩⟩ | omega)), ⟨r_5, G_6, hX_9, ⟨w_14, G_15, hX_18, f_19, hB_G_15, hq_17, ⟨G_25, hX_28, f_29, hB_G_25, hq_27, ⟨x_36, x_37, G_32, hX_38, f_45, f_46, f_47, f_48, hB_G_32, hq_33, ⟨G_58, hX_61, hB_G_58, hq_60, (Or.inr ⟨c_62, rfl⟩)⟩⟩⟩⟩⟩⟩), wd_t ht hW⟩, hS.F ht⟩) hS.2.2 dX12_readSlab_157
      refine lv_if_eq (tgt := 150) hx hb dX12_readSlab_67 rfl (fun c_87 => ?_) (fun c_87 => ?_)
      · have c_87 : x_36.toInt = 0 := xI_eq rfl rfl c_87
        exact hJ_59 () _ _ _ ⟨G_32, (Jn_n_readSlab_4_mk (Or.inl ⟨c_87, rfl⟩)), hW, hB_G_32, hF, (Fr.rf (rs := []) (fs := [])), hS, lv_sub hl [1, 2, 3, 4, 5] rfl⟩
      · have c_87 : x_36.toInt ≠ 0 := xI_ne rfl rfl c_87
        refine lv_aload_n hx hb dX12_readSlab_70 rfl (lv_at hl 4 rfl) ?_
        refine S_getI (v := (G_32.1 66 2)) (C := RX12) (T := TX12) (N := 89) hx hb hg iX12 hown hK hW kd_66 rfl 2 (lt_b rfl) (hg (Cond.fieldLink RX12 218 "SlabWalkModel" "fault" "I") m1316) (fun _ h9 => h9) rfl rfl dX12_readSlab_71 ?_
        refine lv_if_ne (tgt := 150) hx hb dX12_readSlab_74 rfl (fun c_88 => ?_) (fun c_88 => ?_)
        · have c_88 : (G_32.1 66 2).toInt ≠ 0 := xI_ne rfl rfl c_88
          exact hJ_59 () _ _ _ ⟨G_32, (Jn_n_readSlab_4_mk (Or.inr ⟨c_87, ⟨c_88, rfl⟩⟩)), hW, hB_G_32, hF, (Fr.rf (rs := []) (fs := [])), hS, lv_sub hl [1, 2, 3, 4, 5] rfl⟩
        · have c_88 : (G_32.1 66 2).toInt = 0 := xI_eq rfl rfl c_88
          refine lv_aload_n hx hb dX12_readSlab_77 rfl (lv_at hl 4 rfl) ?_
          refine S_getI (v := (G_32.1 66 6)) (C := RX12) (T := TX12) (N := 89) hx hb hg iX12 hown hK hW kd_66 rfl 6 (lt_b rfl) (hg (Cond.fieldLink RX12 205 "SlabWalkModel" "sort" "I") m1320) (fun _ h9 => h9) rfl rfl dX12_readSlab_78 ?_
          refine ic_1 hx hb dX12_readSlab_81 ?_
          refine W.cut (σ := Unit) (pcJ := 96) (J := fun y H locs ls => ∃ (G_94 : GS), Jn_n_readSlab_5 G_32 G_94 ∧ Wd D k A a G_94 H ∧ Bd G_94 ∧ Fr [77, 78, 79, 80, 81] [(66, 2), (66, 3), (66, 4), (66, 6), (66, 7), (66, 8), (66, 9)] G G_94 ∧ Fr [] [] G_32 G_94 ∧ va_S A s.heap H locs ∧ lv_has ls 8 [(6, .int x_37), (5, .int w_14), (4, .int r_5), (0, .ref (a 66)), (2, .int p1)]) (stJ := fun _ => []) ?_ (fun hJ_95 => ?_)
          · intro y H locs ls hI
            obtain ⟨G_94, hX_97, hW, hB_G_94, hF, hq_96, hS, hl⟩ := hI
            refine ic_0 hx hb dX12_readSlab_96 ?_
            refine lv_istore (lv' := [(7, .int 0), (6, .int x_37), (5, .int w_14), (4, .int r_5), (0, .ref (a 66)), (2, .int p1)]) hx hb dX12_readSlab_97 hl (lt_b rfl) rfl (fun ls hl => ?_)
            refine lv_iload hx hb dX12_readSlab_99 (lv_at hl 0 rfl) ?_
            refine lv_if_eq (tgt := 119) hx hb dX12_readSlab_101 rfl (fun c_98 => ?_) (fun c_98 => ?_)
            · have c_98 : (0 : Int) = (0 : Int) := xI_eq rfl rfl c_98
              refine lv_iload hx hb dX12_readSlab_119 (lv_at hl 0 rfl) ?_
              refine lv_if_eq (tgt := 65) hx hb dX12_readSlab_121 rfl (fun c_99 => ?_) (fun c_99 => ?_)
              · have c_99 : (0 : Int) = (0 : Int) := xI_eq rfl rfl c_99
                have g_100 : (G_94.1 66 2).toInt = (G_32.1 66 2).toInt := (congrArg Int32.toInt (show G_94.1 66 2 = (G_32.1 66 2) from ((hq_96.i9 66 2 rfl rfl).trans (rfl))))
                have g_101 : (G_94.1 81 (G.1 66 45).toNatClampNeg).toInt = (G.1 81 (G.1 66 45).toNatClampNeg).toInt := by rw [show G_94.1 81 (G.1 66 45).toNatClampNeg = (G.1 81 (G.1 66 45).toNatClampNeg) from ((hq_96.ri9 81 rfl ((G.1 66 45).toNatClampNeg)).trans ((hq_33.ri9 81 rfl ((G.1 66 45).toNatClampNeg)).trans ((hq_27.ri9 81 rfl ((G.1 66 45).toNatClampNeg)).trans ((hq_17.ri9 81 rfl ((G.1 66 45).toNatClampNeg)).trans (hq_7.ri9 81 rfl ((G.1 66 45).toNatClampNeg))))))]
                have g_102 : (G_94.1 66 2).toInt = (G_32.1 66 2).toInt := (congrArg Int32.toInt (show G_94.1 66 2 = (G_32.1 66 2) from ((hq_96.i9 66 2 rfl rfl).trans (rfl))))
                have g_103 : (G_94.1 66 4).toInt = (G_32.1 66 4).toInt := (congrArg Int32.toInt (show G_94.1 66 4 = (G_32.1 66 4) from ((hq_96.i9 66 4 rfl rfl).trans (rfl))))
                have g_104 : (G_94.1 66 6).toInt = (G_32.1 66 6).toInt := (congrArg Int32.toInt (show G_94.1 66 6 = (G_32.1 66 6) from ((hq_96.i9 66 6 rfl rfl).trans (rfl))))
                have qc_105 : (0 : Int32).toInt = 0 := rfl
                exact ih_34 (20 - x_37.toInt + 0 - (G_94.1 66 2).toInt : Int).toNat ((by first | (clear ha_p0 hnf b_2 d_1 d_2 d_3 b_20 b_31 b_40 g_41 g_42 f_48 d_5 d_6 b_52 g_103 g_104; omega) | omega)) _ _ _ ⟨G_94, 0, x_37, (Int.toNat_of_nonneg ((by first | (clear ha_p0 hnf b_2 d_1 d_2 d_3 b_20 b_31 b_40 g_41 g_42 hn_49 f_45 f_48 d_5 d_6 b_52 c_87 g_103 g_104; omega) | omega))), ⟨(by first | (clear ha_p0 hnf hs b_1 b_2 d_1 d_2 d_3 d_4 f_19 b_20 f_29 g_30 b_31 g_39 b_40 g_41 g_42 hn_49 f_45 f_46 f_47 f_48 d_5 d_6 g_50 b_51 b_52 c_87 c_88 g_100 g_101 g_102 g_103 g_104; omega) | omega), (by first | (clear ha_p0 hnf hs b_1 b_2 d_1 d_2 d_3 d_4 f_19 b_20 f_29 g_30 b_31 g_39 b_40 g_41 g_42 hn_49 f_45 f_46 f_47 f_48 d_5 d_6 g_50 b_51 b_52 c_87 c_88 g_100 g_101 g_102 g_103 g_104; omega) | omega)⟩, ⟨(by first | (clear ha_p0 hnf hs b_1 b_2 d_1 d_2 d_3 d_4 f_19 b_20 f_29 g_30 b_31 g_39 b_40 g_41 g_42 hn_49 f_45 f_47 f_48 d_5 d_6 g_50 b_51 b_52 c_87 c_88 g_100 g_101 g_102 g_103 g_104; omega) | omega), (by first | (clear ha_p0 hnf hs b_1 b_2 d_1 d_2 d_3 d_4 f_19 b_20 f_29 g_30 b_31 g_39 b_40 g_41 g_42 hn_49 f_45 f_47 f_48 d_5 d_6 g_50 b_51 b_52 c_87 c_88 g_100 g_101 g_102 g_103 g_104; omega) | omega)⟩, ((by first | (clear ha_p0 b_2 d_1 d_2 b_40 g_41 g_42 hn_49 f_45 f_46 f_48 d_5 d_6 b_52 c_87 g_103 g_104; omega) | omega)), ((by first | exact ⟨((by first | (clear ha_p0 hnf hs b_1 b_2 d_3 d_4 f_19 b_20 f_29 g_30 b_31 g_39 hn_49 f_45 f_46 f_47 f_48 g_50 b_51 c_87 c_88 g_100 g_101 g_102; omega) | omega)), (fun h9 => by have q0_ := d_6 (by (clear ha_p0 hnf hs b_1 b_2 d_2 d_3 d_4 f_19 b_20 f_29 g_30 b_31 g_39 g_42 hn_49 f_45 f_46 f_47 f_48 d_6 g_50 b_51 c_87 c_88 g_100 g_101 g_102 g_104; omega)); (clear ha_p0 hnf hs b_1 b_2 d_1 d_2 d_3 d_4 f_19 b_20 f_29 g_30 b_31 g_39 b_40 g_41 g_42 hn_49 f_45 f_46 f_47 f_48 d_5 d_6 g_50 b_51 b_52 c_87 c_88 g_100 g_101 g_102 g_103; omega))⟩ | omega)), (hX_38.st (St_n_readSlab_3_mk ⟨x_36, x_37, G_32, 0, x_37, G_94, rfl, rfl, f_45, f_46, f_47, f_48, hB_G_32, ⟨c_87, ⟨c_88, (Or.inr ⟨G_94, hX_97, hB_G_94, hq_96, ⟨rfl, rfl, rfl⟩⟩)⟩⟩⟩)), hW, hB_G_94, hF, (Fr.call9 (rs := []) (fs := [(66, 2), (66, 3), (66, 4), (66, 6), (66, 7), (66, 8), (66, 9)]) (Fr.call9 (rs := []) (fs := [(66, 2), (66, 3), (66, 4), (66, 6), (66, 7), (66, 8), (66, 9)]) Fr.rf hq_33 rfl rfl) hq_96 rfl rfl), hS, lv_sub hl [0, 1, 2, 3, 4, 5] rfl⟩
              · have c_99 : (0 : Int) ≠ (0 : Int) := xI_ne rfl rfl c_99
                exfalso; first | (clear ha_p0 hnf hs b_1 b_2 d_1 d_2 d_3 d_4 f_19 b_20 f_29 g_30 b_31 g_39 b_40 g_41 g_42 hn_49 f_45 f_46 f_47 f_48 d_5 d_6 g_50 b_51 b_52 c_87 c_88; omega) | omega
            · have c_98 : (0 : Int) ≠ (0 : Int) := xI_ne rfl rfl c_98
              exfalso; first | (clear ha_p0 hnf hs b_1 b_2 d_1 d_2 d_3 d_4 f_19 b_20 f_29 g_30 b_31 g_39 b_40 g_41 g_42 hn_49 f_45 f_46 f_47 f_48 d_5 d_6 g_50 b_51 b_52 c_87 c_88; omega) | omega
          refine lv_icmp_ne (tgt := 96) hx hb dX12_readSlab_82 rfl (fun c_106 => ?_) (fun c_106 => ?_)
          · have c_106 : (G_32.1 66 6).toInt ≠ 1 := xI_ne rfl rfl c_106
            exact hJ_95 () _ _ _ ⟨G_32, (Jn_n_readSlab_5_mk (Or.inr ⟨c_106, rfl⟩)), hW, hB_G_32, hF, (Fr.rf (rs := []) (fs := [])), hS, lv_sub hl [1, 2, 3, 4, 5] rfl⟩
          · have c_106 : (G_32.1 66 6).toInt = 1 := xI_eq rfl rfl c_106
            refine lv_aload_n hx hb dX12_readSlab_85 rfl (lv_at hl 4 rfl) ?_
            refine S_calli (va_runV (As := []) (rest := []) ⟨hx, hb, hml, hown, hts⟩ (n_mark l D k A a z G_32  ) (cwV 0 hts (gd_V hgd m1655 m1657 m58 m131 m1658) rfl rfl rfl hd_X12_mark ⟨Nat.le_of_ble_eq_true rfl, Nat.le_of_ble_eq_true rfl⟩) (pre_W hW hB_G_32 hK hZ hS kd_66 rfl) rfl rfl hl.1 rfl (lv_room (Nat.le_of_ble_eq_true rfl)) dX12_readSlab_86 ⟨Nat.le_of_ble_eq_true rfl, Nat.le_of_ble_eq_true rfl⟩) hS (fun r_107 G_108 H locs hpo hW hS => ?_)
            have hX_111 : Q_mark G_32 r_107 G_108 := hpo
            obtain ⟨hB_G_108, hq_109, f_112, hp_110, -⟩ := hpo
            have hF := hF.call9 hq_109 rfl rfl
            have u_113 : mkW (G_32.2.1 66 9) = mkW (G_32.2.1 66 9) := congrArg mkW (rfl)
            have u_114 := mkW_v (G_32.2.1 66 9)
            refine lv_if_le (tgt := 96) hx hb dX12_readSlab_89 rfl (fun c_115 => ?_) (fun c_115 => ?_)
            · have c_115 : r_107.toInt ≤ 0 := xI_le rfl rfl c_115
              exact hJ_95 () _ _ _ ⟨G_108, (Jn_n_readSlab_5_mk (Or.inl ⟨c_106, ⟨r_107, G_108, hX_111, ⟨c_115, rfl⟩⟩⟩)), hW, hB_G_108, hF, (Fr.call9 (rs := []) (fs := []) Fr.rf hq_109 rfl rfl), hS, lv_sub hl [1, 2, 3, 4, 5] rfl⟩
            · have c_115 : 0 < r_107.toInt := xI_nle rfl rfl c_115
              refine ic_1 hx hb dX12_readSlab_92 ?_
              refine lv_goto (tgt := 97) hx hb dX12_readSlab_93 rfl ?_
              refine lv_istore (lv' := [(7, .int 1), (6, .int x_37), (5, .int w_14), (4, .int r_5), (0, .ref (a 66)), (2, .int p1)]) hx hb dX12_readSlab_97 hl (lt_b rfl) rfl (fun ls hl => ?_)
              refine lv_iload hx hb dX12_readSlab_99 (lv_at hl 0 rfl) ?_
              refine lv_if_eq (tgt := 119) hx hb dX12_readSlab_101 rfl (fun c_116 => ?_) (fun c_116 => ?_)
              · have c_116 : (1 : Int) = (0 : Int) := xI_eq rfl rfl c_116
                exfalso; first | (clear ha_p0 hnf hs b_1 b_2 d_1 d_2 d_3 d_4 f_19 b_20 f_29 g_30 b_31 g_39 b_40 g_41 g_42 hn_49 f_45 f_46 f_47 f_48 d_5 d_6 g_50 b_51 b_52 c_87 c_88 c_106 f_112 hp_110 c_115; omega) | omega
              · have c_116 : (1 : Int) ≠ (0 : Int) := xI_ne rfl rfl c_116
                refine lv_iload hx hb dX12_readSlab_104 (lv_at hl 1 rfl) ?_
                refine lv_aload_n hx hb dX12_readSlab_106 rfl (lv_at hl 4 rfl) ?_
                refine S_calli (va_runV (As := []) (rest := [.int x_37]) ⟨hx, hb, hml, hown, hts⟩ (n_mark l D k A a z G_108  ) (cwV 0 hts (gd_V hgd m1655 m1657 m58 m131 m1658) rfl rfl rfl hd_X12_mark ⟨Nat.le_of_ble_eq_true rfl, Nat.le_of_ble_eq_true rfl⟩) (pre_W hW hB_G_108 hK hZ hS kd_66 rfl) rfl rfl hl.1 rfl (lv_room (Nat.le_of_ble_eq_true rfl)) dX12_readSlab_107 ⟨Nat.le_of_ble_eq_true rfl, Nat.le_of_ble_eq_true rfl⟩) hS (fun r_117 G_118 H locs hpo hW hS => ?_)
                have hX_121 : Q_mark G_108 r_117 G_118 := hpo
                obtain ⟨hB_G_118, hq_119, f_122, hp_120, -⟩ := hpo
                have hF := hF.call9 hq_119 rfl rfl
                have u_123 : mkW (G_108.2.1 66 9) = mkW (G_32.2.1 66 9) := congrArg mkW ((hq_109.l9 66 9 rfl rfl))
                have u_124 := mkW_v (G_32.2.1 66 9)
                refine lv_iand hx hb dX12_readSlab_110 ?_
                refine lv_topi (fun y_125 ey_125 => ?_)
                refine lv_if_eq (tgt := 119) hx hb dX12_readSlab_111 rfl (fun c_126 => ?_) (fun c_126 => ?_)
                · have c_126 : y_125.toInt = 0 := xI_eq rfl rfl c_126
                  refine lv_iload hx hb dX12_readSlab_119 (lv_at hl 0 rfl) ?_
                  refine lv_if_eq (tgt := 65) hx hb dX12_readSlab_121 rfl (fun c_127 => ?_) (fun c_127 => ?_)
                  · have c_127 : (1 : Int) = (0 : Int) := xI_eq rfl rfl c_127
                    exfalso; first | (clear ha_p0 hnf hs b_1 b_2 d_1 d_2 d_3 d_4 f_19 b_20 f_29 g_30 b_31 g_39 b_40 g_41 g_42 hn_49 f_45 f_46 f_47 f_48 d_5 d_6 g_50 b_51 b_52 c_87 c_88 c_106 f_112 hp_110 c_115 f_122 hp_120 c_126; omega) | omega
                  · have c_127 : (1 : Int) ≠ (0 : Int) := xI_ne rfl rfl c_127
                    refine lv_aload_n hx hb dX12_readSlab_124 rfl (lv_at hl 4 rfl) ?_
                    refine S_getI (v := (G_32.1 66 2)) (C := RX12) (T := TX12) (N := 89) hx hb hg iX12 hown hK hW kd_66 rfl 2 (lt_b rfl) (hg (Cond.fieldLink RX12 218 "SlabWalkModel" "fault" "I") m1316) (fun _ h9 => h9) rfl ((hq_119.i9 66 2 rfl rfl).trans ((hq_109.i9 66 2 rfl rfl).trans (rfl))) dX12_readSlab_125 ?_
                    refine lv_if_le (tgt := 134) hx hb dX12_readSlab_128 rfl (fun c_128 => ?_) (fun c_128 => ?_)
                    · have c_128 : (G_32.1 66 2).toInt ≤ 0 := xI_le rfl rfl c_128
                      refine lv_iload hx hb dX12_readSlab_134 (lv_at hl 1 rfl) ?_
                      refine lv_aload_n hx hb dX12_readSlab_136 rfl (lv_at hl 4 rfl) ?_
                      refine S_calli (va_runV (As := []) (rest := [.int x_37]) ⟨hx, hb, hml, hown, hts⟩ (n_mark l D k A a z G_118  ) (cwV 0 hts (gd_V hgd m1655 m1657 m58 m131 m1658) rfl rfl rfl hd_X12_mark ⟨Nat.le_of_ble_eq_true rfl, Nat.le_of_ble_eq_true rfl⟩) (pre_W hW hB_G_118 hK hZ hS kd_66 rfl) rfl rfl hl.1 rfl (lv_room (Nat.le_of_ble_eq_true rfl)) dX12_readSlab_137 ⟨Nat.le_of_ble_eq_true rfl, Nat.le_of_ble_eq_true rfl⟩) hS (fun r_129 G_130 H locs hpo hW hS => ?_)
                      have hX_133 : Q_mark G_118 r_129 G_130 := hpo
                      obtain ⟨hB_G_130, hq_131, f_134, hp_132, -⟩ := hpo
                      have hF := hF.call9 hq_131 rfl rfl
                      have u_135 : mkW (G_118.2.1 66 9) = mkW (G_32.2.1 66 9) := congrArg mkW (((hq_119.l9 66 9 rfl rfl).trans (hq_109.l9 66 9 rfl rfl)))
                      have u_136 := mkW_v (G_32.2.1 66 9)
                      refine lv_ior hx hb dX12_readSlab_140 ?_
                      refine lv_topi (fun y_137 ey_137 => ?_)
                      have ty_137 := or6 ey_137 ⟨by omega, by omega⟩ ⟨by omega, by omega⟩
                      have u_138 := orM (x := x_37) (y := r_129) (z := y_137) (w := y_125) (by first | (clear f_48; omega) | omega) (by first | (clear f_48; omega) | omega) (by first | (clear f_48; omega) | omega) (ey_125.trans (congrArg (fun q => x_37 &&& q) (Int32.toInt_inj.mp (show r_117.toInt = r_129.toInt by omega)))) (by first | (clear f_48; omega) | omega) ey_137
                      refine lv_istore (lv' := [(6, .int y_137), (7, .int 1), (5, .int w_14), (4, .int r_5), (0, .ref (a 66)), (2, .int p1)]) hx hb dX12_readSlab_141 hl (lt_b rfl) rfl (fun ls hl => ?_)
                      refine lv_aload_n hx hb dX12_readSlab_143 rfl (lv_at hl 4 rfl) ?_
                      have g_139 : (G_130.1 66 4).toInt = (G_32.1 66 4).toInt := (congrArg Int32.toInt (show G_130.1 66 4 = (G_32.1 66 4) from ((hq_131.i9 66 4 rfl rfl).trans ((hq_119.i9 66 4 rfl rfl).trans ((hq_109.i9 66 4 rfl rfl).trans (rfl))))))
                      have g_140 : (G_130.1 66 6).toInt = (G_32.1 66 6).toInt := (congrArg Int32.toInt (show G_130.1 66 6 = (G_32.1 66 6) from ((hq_131.i9 66 6 rfl rfl).trans ((hq_119.i9 66 6 rfl rfl).trans ((hq_109.i9 66 6 rfl rfl).trans (rfl))))))
                      refine S_callv (va_runV (As := []) (rest := []) ⟨hx, hb, hml, hown, hts⟩ (n_token l D k A a z G_130  ) (cwV 0 hts (gd_V hgd m1602 m1604 m50 m131 m1605) rfl rfl rfl hd_X12_token ⟨Nat.le_of_ble_eq_true rfl, Nat.le_of_ble_eq_true rfl⟩) (pre_W hW hB_G_130 hK hZ hS kd_66 rfl) rfl rfl hl.1 rfl (lv_room (Nat.le_of_ble_eq_true rfl)) dX12_readSlab_144 ⟨Nat.le_of_ble_eq_true rfl, Nat.le_of_ble_eq_true rfl⟩) hS (fun G_142 H locs hpo hW hS => ?_)
                      have hX_145 : Q_token G_130 G_142 := hpo
                      obtain ⟨hB_G_142, hq_143, ⟨d_7, d_8⟩, -⟩ := hpo
                      have hF := hF.call9 hq_143 rfl rfl
                      refine lv_goto (tgt := 65) hx hb dX12_readSlab_147 rfl ?_
                      have g_146 : (G_142.1 66 2).toInt = (G_32.1 66 2).toInt := (congrArg Int32.toInt (show G_142.1 66 2 = (G_32.1 66 2) from ((hq_143.i9 66 2 rfl rfl).trans ((hq_131.i9 66 2 rfl rfl).trans ((hq_119.i9 66 2 rfl rfl).trans ((hq_109.i9 66 2 rfl rfl).trans (rfl)))))))
                      have g_147 : (G_142.1 81 (G.1 66 45).toNatClampNeg).toInt = (G.1 81 (G.1 66 45).toNatClampNeg).toInt := by rw [show G_142.1 81 (G.1 66 45).toNatClampNeg = (G.1 81 (G.1 66 45).toNatClampNeg) from ((hq_143.ri9 81 rfl ((G.1 66 45).toNatClampNeg)).trans ((hq_131.ri9 81 rfl ((G.1 66 45).toNatClampNeg)).trans ((hq_119.ri9 81 rfl ((G.1 66 45).toNatClampNeg)).trans ((hq_109.ri9 81 rfl ((G.1 66 45).toNatClampNeg)).trans ((hq_33.ri9 81 rfl ((G.1 66 45).toNatClampNeg)).trans ((hq_27.ri9 81 rfl ((G.1 66 45).toNatClampNeg)).trans ((hq_17.ri9 81 rfl ((G.1 66 45).toNatClampNeg)).trans (hq_7.ri9 81 rfl ((G.1 66 45).toNatClampNeg)))))))))]
                      have g_148 : (G_142.1 66 2).toInt = (G_32.1 66 2).toInt := (congrArg Int32.toInt (show G_142.1 66 2 = (G_32.1 66 2) from ((hq_143.i9 66 2 rfl rfl).trans ((hq_131.i9 66 2 rfl rfl).trans ((hq_119.i9 66 2 rfl rfl).trans ((hq_109.i9 66 2 rfl rfl).trans (rfl)))))))
                      have b_149 : 0 ≤ (G_142.1 66 4).toInt ∧ (G_142.1 66 4).toInt ≤ 1600 := bd_66_4 hB_G_142
                      have qc_150 : (1 : Int32).toInt = 1 := rfl
                      exact ih_34 (20 - y_137.toInt + 1 - (G_142.1 66 2).toInt : Int).toNat ((by first | (clear ha_p0 hnf b_2 d_1 d_2 d_3 b_20 b_31 b_40 g_41 g_42 f_48 d_5 d_6 b_52 c_106 f_112 hp_110 c_115 f_122 hp_120 c_126 f_134 hp_132 g_139 g_140 d_7 d_8 b_149; omega) | omega)) _ _ _ ⟨G_142, 1, y_137, (Int.toNat_of_nonneg ((by first | (clear ha_p0 hnf b_2 d_1 d_2 d_3 b_20 b_31 b_40 g_41 g_42 hn_49 f_45 f_46 f_48 d_5 d_6 b_52 c_87 c_106 f_112 hp_110 c_115 f_122 hp_120 c_126 f_134 hp_132 g_139 g_140 d_7 d_8 b_149; omega) | omega))), ⟨(by first | (clear ha_p0 hnf hs b_1 b_2 d_1 d_2 d_3 d_4 f_19 b_20 f_29 g_30 b_31 g_39 b_40 g_41 g_42 hn_49 f_45 f_46 f_47 f_48 d_5 d_6 g_50 b_51 b_52 c_87 c_88 c_106 f_112 hp_110 c_115 f_122 hp_120 c_126 c_128 f_134 hp_132 g_139 g_140 d_7 d_8 g_146 g_147 g_148 b_149; omega) | omega), (by first | (clear ha_p0 hnf hs b_1 b_2 d_1 d_2 d_3 d_4 f_19 b_20 f_29 g_30 b_31 g_39 b_40 g_41 g_42 hn_49 f_45 f_46 f_47 f_48 d_5 d_6 g_50 b_51 b_52 c_87 c_88 c_106 f_112 hp_110 c_115 f_122 hp_120 c_126 c_128 f_134 hp_132 g_139 g_140 d_7 d_8 g_146 g_147 g_148 b_149; omega) | omega)⟩, ⟨(by first | (clear ha_p0 hnf hs b_1 b_2 d_1 d_2 d_3 d_4 f_19 b_20 f_29 g_30 b_31 g_39 b_40 g_41 g_42 hn_49 f_45 f_46 f_47 f_48 d_5 d_6 g_50 b_51 b_52 c_87 c_88 c_106 f_112 hp_110 c_115 f_122 hp_120 c_126 c_128 f_134 hp_132 g_139 g_140 d_7 d_8 g_146 g_147 g_148 b_149; omega) | omega), (by first | (clear ha_p0 hnf hs b_1 b_2 d_1 d_2 d_3 d_4 f_19 b_20 f_29 g_30 b_31 g_39 b_40 g_41 g_42 hn_49 f_45 f_46 f_47 f_48 d_5 d_6 g_50 b_51 b_52 c_87 c_88 c_106 f_112 hp_110 c_115 f_122 hp_120 c_126 c_128 f_134 hp_132 g_139 g_140 d_7 d_8 g_146 g_147 g_148 b_149; omega) | omega)⟩, ((by first | (clear ha_p0 b_2 d_1 d_2 b_40 g_41 g_42 hn_49 f_45 f_46 f_48 d_5 d_6 b_52 c_87 c_106 f_112 hp_110 c_115 f_122 hp_120 c_126 f_134 hp_132 g_139 g_140 d_7 d_8 b_149; omega) | omega)), ((by first | exact ⟨((by first | (clear ha_p0 hnf hs b_1 b_2 d_3 d_4 f_19 b_20 f_29 g_30 b_31 g_39 hn_49 f_45 f_46 f_47 f_48 g_50 b_51 c_87 c_88 f_112 hp_110 c_115 f_122 hp_120 c_126 c_128 f_134 hp_132 g_146 g_147 g_148; omega) | omega)), (fun h9 => by have q0_ := d_6 (by (clear ha_p0 hnf hs b_1 b_2 d_2 d_3 d_4 f_19 b_20 f_29 g_30 b_31 g_39 g_42 hn_49 f_45 f_46 f_47 f_48 d_6 g_50 b_51 c_87 c_88 c_106 f_112 hp_110 c_115 c_116 f_122 hp_120 c_126 c_127 c_128 f_134 hp_132 g_140 d_8 g_146 g_147 g_148; omega)); have q1_ := d_8 (by (clear ha_p0 hnf hs b_1 b_2 d_2 d_3 d_4 f_19 b_20 f_29 g_30 b_31 g_39 g_42 hn_49 f_45 f_46 f_47 f_48 d_6 g_50 b_51 c_87 c_88 c_106 f_112 hp_110 c_115 c_116 f_122 hp_120 c_126 c_127 c_128 f_134 hp_132 g_140 d_8 g_146 g_147 g_148; omega)); (clear ha_p0 hnf hs b_1 b_2 d_1 d_2 d_3 d_4 f_19 b_20 f_29 g_30 b_31 g_39 b_40 g_41 g_42 hn_49 f_45 f_46 f_47 f_48 d_5 d_6 g_50 b_51 b_52 c_87 c_88 f_112 hp_110 c_115 c_116 f_122 hp_120 c_126 c_127 c_128 f_134 hp_132 g_139 d_7 d_8 g_146 g_147 g_148 b_149; omega))⟩ | omega)), (hX_38.st (St_n_readSlab_3_mk ⟨x_36, x_37, G_32, 1, y_137, G_142, rfl, rfl, f_45, f_46, f_47, f_48, hB_G_32, ⟨c_87, ⟨c_88, (Or.inl ⟨c_106, ⟨r_107, G_108, hX_111, ⟨c_115, ⟨r_117, G_118, hX_121, ⟨y_125, ey_125, (Or.inl ⟨c_126, ⟨r_129, G_130, hX_133, ⟨y_137, ey_137, ⟨G_142, hX_145, ⟨rfl, rfl, rfl⟩⟩⟩⟩⟩)⟩⟩⟩⟩⟩)⟩⟩⟩)), hW, hB_G_142, hF, (Fr.call9 (rs := []) (fs := [(66, 2), (66, 3), (66, 4), (66, 6), (66, 7), (66, 8), (66, 9)]) (Fr.call9 (rs := []) (fs := [(66, 2), (66, 3), (66, 4), (66, 6), (66, 7), (66, 8), (66, 9)]) (Fr.call9 (rs := []) (fs := [(66, 2), (66, 3), (66, 4), (66, 6), (66, 7), (66, 8), (66, 9)]) (Fr.call9 (rs := []) (fs := [(66, 2), (66, 3), (66, 4), (66, 6), (66, 7), (66, 8), (66, 9)]) (Fr.call9 (rs := []) (fs := [(66, 2), (66, 3), (66, 4), (66, 6), (66, 7), (66, 8), (66, 9)]) Fr.rf hq_33 rfl rfl) hq_109 rfl rfl) hq_119 rfl rfl) hq_131 rfl rfl) hq_143 rfl rfl), hS, lv_sub hl [1, 0, 2, 3, 4, 5] rfl⟩
                    · have c_128 : 0 < (G_32.1 66 2).toInt := xI_nle rfl rfl c_128
                      exfalso; first | (clear ha_p0 hnf b_2 d_1 d_2 d_3 b_20 b_31 b_40 g_41 g_42 hn_49 f_45 f_46 f_48 d_5 d_6 b_52 c_87 c_106 f_112 hp_110 c_115 f_122 hp_120 c_126; omega) | omega
                · have c_126 : y_125.toInt ≠ 0 := xI_ne rfl rfl c_126
                  refine lv_aload_n hx hb dX12_readSlab_114 rfl (lv_at hl 4 rfl) ?_
                  refine ic_2 hx hb dX12_readSlab_115 ?_
                  have qc_151 : (2 : Int32).toInt = 2 := rfl
                  refine S_callv (va_runV (As := [.int 2]) (rest := []) ⟨hx, hb, hml, hown, hts⟩ (n_wrong l D k A a z G_118 2 ⟨by decide, by decide⟩) (cwV 1 hts (gd_V hgd m1670 m1672 m59 m131 m1673) rfl rfl rfl hd_X12_wrong ⟨Nat.le_of_ble_eq_true rfl, Nat.le_of_ble_eq_true rfl⟩) (pre_W hW hB_G_118 hK hZ hS kd_66 rfl) rfl rfl hl.1 rfl (lv_room (Nat.le_of_ble_eq_true rfl)) dX12_readSlab_116 ⟨Nat.le_of_ble_eq_true rfl, Nat.le_of_ble_eq_true rfl⟩) hS (fun G_153 H locs hpo hW hS => ?_)
                  have hX_156 : Q_wrong 2 G_118 G_153 := hpo
                  obtain ⟨hB_G_153, hq_154, hp_155, -⟩ := hpo
                  have hF := hF.call9 hq_154 rfl rfl
                  refine lv_iload hx hb dX12_readSlab_119 (lv_at hl 0 rfl) ?_
                  refine lv_if_eq (tgt := 65) hx hb dX12_readSlab_121 rfl (fun c_157 => ?_) (fun c_157 => ?_)
                  · have c_157 : (1 : Int) = (0 : Int) := xI_eq rfl rfl c_157
                    exfalso; first | (clear ha_p0 hnf hs b_1 b_2 d_1 d_2 d_3 d_4 f_19 b_20 f_29 g_30 b_31 g_39 b_40 g_41 g_42 hn_49 f_45 f_46 f_47 f_48 d_5 d_6 g_50 b_51 b_52 c_87 c_88 c_106 f_112 hp_110 c_115 f_122 hp_120 c_126 hp_155; omega) | omega
                  · have c_157 : (1 : Int) ≠ (0 : Int) := xI_ne rfl rfl c_157
                    refine lv_aload_n hx hb dX12_readSlab_124 rfl (lv_at hl 4 rfl) ?_
                    have b_158 : 0 ≤ (G_153.1 66 2).toInt ∧ (G_153.1 66 2).toInt ≤ 4 := bd_66_2 hB_G_153
                    refine S_getI (v := (G_153.1 66 2)) (C := RX12) (T := TX12) (N := 89) hx hb hg iX12 hown hK hW kd_66 rfl 2 (lt_b rfl) (hg (Cond.fieldLink RX12 218 "SlabWalkModel" "fault" "I") m1316) (fun _ h9 => h9) rfl rfl dX12_readSlab_125 ?_
                    refine lv_if_le (tgt := 134) hx hb dX12_readSlab_128 rfl (fun c_159 => ?_) (fun c_159 => ?_)
                    · have c_159 : (G_153.1 66 2).toInt ≤ 0 := xI_le rfl rfl c_159
                      refine lv_iload hx hb dX12_readSlab_134 (lv_at hl 1 rfl) ?_
                      refine lv_aload_n hx hb dX12_readSlab_136 rfl (lv_at hl 4 rfl) ?_
                      refine S_calli (va_runV (As := []) (rest := [.int x_37]) ⟨hx, hb, hml, hown, hts⟩ (n_mark l D k A a z G_153  ) (cwV 0 hts (gd_V hgd m1655 m1657 m58 m131 m1658) rfl rfl rfl hd_X12_mark ⟨Nat.le_of_ble_eq_true rfl, Nat.le_of_ble_eq_true rfl⟩) (pre_W hW hB_G_153 hK hZ hS kd_66 rfl) rfl rfl hl.1 rfl (lv_room (Nat.le_of_ble_eq_true rfl)) dX12_readSlab_137 ⟨Nat.le_of_ble_eq_true rfl, Nat.le_of_ble_eq_true rfl⟩) hS (fun r_160 G_161 H locs hpo hW hS => ?_)
                      have hX_164 : Q_mark G_153 r_160 G_161 := hpo
                      obtain ⟨hB_G_161, hq_162, f_165, hp_163, -⟩ := hpo
                      have hF := hF.call9 hq_162 rfl rfl
                      have u_166 : mkW (G_153.2.1 66 9) = mkW (G_32.2.1 66 9) := congrArg mkW (((hq_154.l9 66 9 rfl rfl).trans ((hq_119.l9 66 9 rfl rfl).trans (hq_109.l9 66 9 rfl rfl))))
                      have u_167 := mkW_v (G_32.2.1 66 9)
                      refine lv_ior hx hb dX12_readSlab_140 ?_
                      refine lv_topi (fun y_168 ey_168 => ?_)
                      have ty_168 := or6 ey_168 ⟨by omega, by omega⟩ ⟨by omega, by omega⟩
                      have u_169 := orM (x := x_37) (y := r_160) (z := y_168) (w := y_125) (by first | (clear f_48; omega) | omega) (by first | (clear f_48; omega) | omega) (by first | (clear f_48; omega) | omega) (ey_125.trans (congrArg (fun q => x_37 &&& q) (Int32.toInt_inj.mp (show r_117.toInt = r_160.toInt by omega)))) (by first | (clear f_48; omega) | omega) ey_168
                      refine lv_istore (lv' := [(6, .int y_168), (7, .int 1), (5, .int w_14), (4, .int r_5), (0, .ref (a 66)), (2, .int p1)]) hx hb dX12_readSlab_141 hl (lt_b rfl) rfl (fun ls hl => ?_)
                      refine lv_aload_n hx hb dX12_readSlab_143 rfl (lv_at hl 4 rfl) ?_
                      have g_170 : (G_161.1 66 4).toInt = (G_32.1 66 4).toInt := (congrArg Int32.toInt (show G_161.1 66 4 = (G_32.1 66 4) from ((hq_162.i9 66 4 rfl rfl).trans ((hq_154.i9 66 4 rfl rfl).trans ((hq_119.i9 66 4 rfl rfl).trans ((hq_109.i9 66 4 rfl rfl).trans (rfl)))))))
                      have g_171 : (G_161.1 66 6).toInt = (G_32.1 66 6).toInt := (congrArg Int32.toInt (show G_161.1 66 6 = (G_32.1 66 6) from ((hq_162.i9 66 6 rfl rfl).trans ((hq_154.i9 66 6 rfl rfl).trans ((hq_119.i9 66 6 rfl rfl).trans ((hq_109.i9 66 6 rfl rfl).trans (rfl)))))))
                      refine S_callv (va_runV (As := []) (rest := []) ⟨hx, hb, hml, hown, hts⟩ (n_token l D k A a z G_161  ) (cwV 0 hts (gd_V hgd m1602 m1604 m50 m131 m1605) rfl rfl rfl hd_X12_token ⟨Nat.le_of_ble_eq_true rfl, Nat.le_of_ble_eq_true rfl⟩) (pre_W hW hB_G_161 hK hZ hS kd_66 rfl) rfl rfl hl.1 rfl (lv_room (Nat.le_of_ble_eq_true rfl)) dX12_readSlab_144 ⟨Nat.le_of_ble_eq_true rfl, Nat.le_of_ble_eq_true rfl⟩) hS (fun G_173 H locs hpo hW hS => ?_)
                      have hX_176 : Q_token G_161 G_173 := hpo
                      obtain ⟨hB_G_173, hq_174, ⟨d_9, d_10⟩, -⟩ := hpo
                      have hF := hF.call9 hq_174 rfl rfl
                      refine lv_goto (tgt := 65) hx hb dX12_readSlab_147 rfl ?_
                      have g_177 : (G_173.1 66 2).toInt = (G_153.1 66 2).toInt := (congrArg Int32.toInt (show G_173.1 66 2 = (G_153.1 66 2) from ((hq_174.i9 66 2 rfl rfl).trans ((hq_162.i9 66 2 rfl rfl).trans (rfl)))))
                      have g_178 : (G_173.1 81 (G.1 66 45).toNatClampNeg).toInt = (G.1 81 (G.1 66 45).toNatClampNeg).toInt := by rw [show G_173.1 81 (G.1 66 45).toNatClampNeg = (G.1 81 (G.1 66 45).toNatClampNeg) from ((hq_174.ri9 81 rfl ((G.1 66 45).toNatClampNeg)).trans ((hq_162.ri9 81 rfl ((G.1 66 45).toNatClampNeg)).trans ((hq_154.ri9 81 rfl ((G.1 66 45).toNatClampNeg)).trans ((hq_119.ri9 81 rfl ((G.1 66 45).toNatClampNeg)).trans ((hq_109.ri9 81 rfl ((G.1 66 45).toNatClampNeg)).trans ((hq_33.ri9 81 rfl ((G.1 66 45).toNatClampNeg)).trans ((hq_27.ri9 81 rfl ((G.1 66 45).toNatClampNeg)).trans ((hq_17.ri9 81 rfl ((G.1 66 45).toNatClampNeg)).trans (hq_7.ri9 81 rfl ((G.1 66 45).toNatClampNeg))))))))))]
                      have g_179 : (G_173.1 66 2).toInt = (G_153.1 66 2).toInt := (congrArg Int32.toInt (show G_173.1 66 2 = (G_153.1 66 2) from ((hq_174.i9 66 2 rfl rfl).trans ((hq_162.i9 66 2 rfl rfl).trans (rfl)))))
                      have b_180 : 0 ≤ (G_173.1 66 4).toInt ∧ (G_173.1 66 4).toInt ≤ 1600 := bd_66_4 hB_G_173
                      have qc_181 : (1 : Int32).toInt = 1 := rfl
                      exact ih_34 (20 - y_168.toInt + 1 - (G_173.1 66 2).toInt : Int).toNat ((by first | (clear ha_p0 hnf b_2 d_1 d_2 d_3 b_20 b_31 b_40 g_41 g_42 f_48 d_5 d_6 b_52 c_106 f_112 hp_110 c_115 f_122 hp_120 c_126 f_165 hp_163 g_170 g_171 d_9 d_10 b_180; omega) | omega)) _ _ _ ⟨G_173, 1, y_168, (Int.toNat_of_nonneg ((by first | (clear ha_p0 hnf hs b_1 b_2 d_1 d_2 d_3 d_4 f_19 b_20 f_29 g_30 b_31 g_39 b_40 g_41 g_42 hn_49 f_45 f_46 f_47 f_48 d_5 d_6 g_50 b_51 b_52 c_87 c_88 c_106 f_112 hp_110 c_115 f_122 hp_120 c_126 f_165 hp_163 g_170 g_171 d_9 d_10 g_178 b_180; omega) | omega))), ⟨(by first | (clear ha_p0 hnf hs b_1 b_2 d_1 d_2 d_3 d_4 f_19 b_20 f_29 g_30 b_31 g_39 b_40 g_41 g_42 hn_49 f_45 f_46 f_47 f_48 d_5 d_6 g_50 b_51 b_52 c_87 c_88 c_106 f_112 hp_110 c_115 f_122 hp_120 c_126 hp_155 b_158 c_159 f_165 hp_163 g_170 g_171 d_9 d_10 g_177 g_178 g_179 b_180; omega) | omega), (by first | (clear ha_p0 hnf hs b_1 b_2 d_1 d_2 d_3 d_4 f_19 b_20 f_29 g_30 b_31 g_39 b_40 g_41 g_42 hn_49 f_45 f_46 f_47 f_48 d_5 d_6 g_50 b_51 b_52 c_87 c_88 c_106 f_112 hp_110 c_115 f_122 hp_120 c_126 hp_155 b_158 c_159 f_165 hp_163 g_170 g_171 d_9 d_10 g_177 g_178 g_179 b_180; omega) | omega)⟩, ⟨(by first | (clear ha_p0 hnf hs b_1 b_2 d_1 d_2 d_3 d_4 f_19 b_20 f_29 g_30 b_31 g_39 b_40 g_41 g_42 hn_49 f_45 f_46 f_47 f_48 d_5 d_6 g_50 b_51 b_52 c_87 c_88 c_106 f_112 hp_110 c_115 f_122 hp_120 c_126 hp_155 b_158 c_159 f_165 hp_163 g_170 g_171 d_9 d_10 g_177 g_178 g_179 b_180; omega) | omega), (by first | (clear ha_p0 hnf hs b_1 b_2 d_1 d_2 d_3 d_4 f_19 b_20 f_29 g_30 b_31 g_39 b_40 g_41 g_42 hn_49 f_45 f_46 f_47 f_48 d_5 d_6 g_50 b_51 b_52 c_87 c_88 c_106 f_112 hp_110 c_115 f_122 hp_120 c_126 hp_155 b_158 c_159 f_165 hp_163 g_170 g_171 d_9 d_10 g_177 g_178 g_179 b_180; omega) | omega)⟩, ((by first | (clear ha_p0 b_2 d_1 d_2 b_40 g_41 g_42 hn_49 f_45 f_46 f_48 d_5 d_6 b_52 c_87 c_106 f_112 hp_110 c_115 f_122 hp_120 c_126 f_165 hp_163 g_170 g_171 d_9 d_10 b_180; omega) | omega)), ((by first | exact ⟨((by first | (clear ha_p0 hnf hs b_1 b_2 d_3 d_4 f_19 b_20 f_29 g_30 b_31 g_39 hn_49 f_45 f_46 f_47 f_48 g_50 b_51 c_87 c_88 f_112 hp_110 c_115 f_122 hp_120 c_126 hp_155 b_158 c_159 f_165 hp_163 g_177 g_178 g_179; omega) | omega)), (fun h9 => by have q0_ := d_6 (by (clear ha_p0 hnf hs b_1 b_2 d_2 d_3 d_4 f_19 b_20 f_29 g_30 b_31 g_39 g_42 hn_49 f_45 f_46 f_47 f_48 d_6 g_50 b_51 c_87 c_88 c_106 f_112 hp_110 c_115 c_116 f_122 hp_120 c_126 hp_155 c_157 b_158 c_159 f_165 hp_163 g_171 d_10 g_177 g_178 g_179; omega)); have q1_ := d_10 (by (clear ha_p0 hnf hs b_1 b_2 d_2 d_3 d_4 f_19 b_20 f_29 g_30 b_31 g_39 g_42 hn_49 f_45 f_46 f_47 f_48 d_6 g_50 b_51 c_87 c_88 c_106 f_112 hp_110 c_115 c_116 f_122 hp_120 c_126 hp_155 c_157 b_158 c_159 f_165 hp_163 g_171 d_10 g_177 g_178 g_179; omega)); (clear ha_p0 hnf hs b_1 b_2 d_1 d_2 d_3 d_4 f_19 b_20 f_29 g_30 b_31 g_39 b_40 g_41 g_42 hn_49 f_45 f_46 f_47 f_48 d_5 d_6 g_50 b_51 b_52 c_87 c_88 f_112 hp_110 c_115 c_116 f_122 hp_120 c_126 hp_155 c_157 b_158 c_159 f_165 hp_163 g_170 d_9 d_10 g_177 g_178 g_179 b_180; omega))⟩ | omega)), (hX_38.st (St_n_readSlab_3_mk ⟨x_36, x_37, G_32, 1, y_168, G_173, rfl, rfl, f_45, f_46, f_47, f_48, hB_G_32, ⟨c_87, ⟨c_88, (Or.inl ⟨c_106, ⟨r_107, G_108, hX_111, ⟨c_115, ⟨r_117, G_118, hX_121, ⟨y_125, ey_125, (Or.inr ⟨c_126, ⟨G_153, hX_156, (Or.inl ⟨c_159, ⟨r_160, G_161, hX_164, ⟨y_168, ey_168, ⟨G_173, hX_176, ⟨rfl, rfl, rfl⟩⟩⟩⟩⟩)⟩⟩)⟩⟩⟩⟩⟩)⟩⟩⟩)), hW, hB_G_173, hF, (Fr.call9 (rs := []) (fs := [(66, 2), (66, 3), (66, 4), (66, 6), (66, 7), (66, 8), (66, 9)]) (Fr.call9 (rs := []) (fs := [(66, 2), (66, 3), (66, 4), (66, 6), (66, 7), (66, 8), (66, 9)]) (Fr.call9 (rs := []) (fs := [(66, 2), (66, 3), (66, 4), (66, 6), (66, 7), (66, 8), (66, 9)]) (Fr.call9 (rs := []) (fs := [(66, 2), (66, 3), (66, 4), (66, 6), (66, 7), (66, 8), (66, 9)]) (Fr.call9 (rs := []) (fs := [(66, 2), (66, 3), (66, 4), (66, 6), (66, 7), (66, 8), (66, 9)]) (Fr.call9 (rs := []) (fs := [(66, 2), (66, 3), (66, 4), (66, 6), (66, 7), (66, 8), (66, 9)]) Fr.rf hq_33 rfl rfl) hq_109 rfl rfl) hq_119 rfl rfl) hq_154 rfl rfl) hq_162 rfl rfl) hq_174 rfl rfl), hS, lv_sub hl [1, 0, 2, 3, 4, 5] rfl⟩
                    · have c_159 : 0 < (G_153.1 66 2).toInt := xI_nle rfl rfl c_159
                      refine lv_goto (tgt := 65) hx hb dX12_readSlab_131 rfl ?_
                      have g_182 : (G_153.1 81 (G.1 66 45).toNatClampNeg).toInt = (G.1 81 (G.1 66 45).toNatClampNeg).toInt := by rw [show G_153.1 81 (G.1 66 45).toNatClampNeg = (G.1 81 (G.1 66 45).toNatClampNeg) from ((hq_154.ri9 81 rfl ((G.1 66 45).toNatClampNeg)).trans ((hq_119.ri9 81 rfl ((G.1 66 45).toNatClampNeg)).trans ((hq_109.ri9 81 rfl ((G.1 66 45).toNatClampNeg)).trans ((hq_33.ri9 81 rfl ((G.1 66 45).toNatClampNeg)).trans ((hq_27.ri9 81 rfl ((G.1 66 45).toNatClampNeg)).trans ((hq_17.ri9 81 rfl ((G.1 66 45).toNatClampNeg)).trans (hq_7.ri9 81 rfl ((G.1 66 45).toNatClampNeg))))))))]
                      have g_183 : (G_153.1 66 4).toInt = (G_32.1 66 4).toInt := (congrArg Int32.toInt (show G_153.1 66 4 = (G_32.1 66 4) from ((hq_154.i9 66 4 rfl rfl).trans ((hq_119.i9 66 4 rfl rfl).trans ((hq_109.i9 66 4 rfl rfl).trans (rfl))))))
                      have g_184 : (G_153.1 66 6).toInt = (G_32.1 66 6).toInt := (congrArg Int32.toInt (show G_153.1 66 6 = (G_32.1 66 6) from ((hq_154.i9 66 6 rfl rfl).trans ((hq_119.i9 66 6 rfl rfl).trans ((hq_109.i9 66 6 rfl rfl).trans (rfl))))))
                      have qc_185 : (1 : Int32).toInt = 1 := rfl
                      exact ih_34 (20 - x_37.toInt + 1 - (G_153.1 66 2).toInt : Int).toNat ((by first | (clear ha_p0 hnf b_2 d_1 d_2 d_3 b_20 b_31 b_40 g_41 g_42 f_48 d_5 d_6 b_52 c_106 f_112 hp_110 c_115 f_122 hp_120 c_126 g_183 g_184; omega) | omega)) _ _ _ ⟨G_153, 1, x_37, (Int.toNat_of_nonneg ((by first | (clear ha_p0 hnf hs b_1 b_2 d_1 d_2 d_3 d_4 f_19 b_20 f_29 g_30 b_31 g_39 b_40 g_41 g_42 hn_49 f_45 f_47 f_48 d_5 d_6 g_50 b_51 b_52 c_87 c_88 c_106 f_112 hp_110 c_115 f_122 hp_120 c_126 g_182 g_183 g_184; omega) | omega))), ⟨(by first | (clear ha_p0 hnf hs b_1 b_2 d_1 d_2 d_3 d_4 f_19 b_20 f_29 g_30 b_31 g_39 b_40 g_41 g_42 hn_49 f_45 f_46 f_47 f_48 d_5 d_6 g_50 b_51 b_52 c_87 c_88 c_106 f_112 hp_110 c_115 f_122 hp_120 c_126 hp_155 b_158 c_159 g_182 g_183 g_184; omega) | omega), (by first | (clear ha_p0 hnf hs b_1 b_2 d_1 d_2 d_3 d_4 f_19 b_20 f_29 g_30 b_31 g_39 b_40 g_41 g_42 hn_49 f_45 f_46 f_47 f_48 d_5 d_6 g_50 b_51 b_52 c_87 c_88 c_106 f_112 hp_110 c_115 f_122 hp_120 c_126 hp_155 b_158 c_159 g_182 g_183 g_184; omega) | omega)⟩, ⟨(by first | (clear ha_p0 hnf hs b_1 b_2 d_1 d_2 d_3 d_4 f_19 b_20 f_29 g_30 b_31 g_39 b_40 g_41 g_42 hn_49 f_45 f_47 f_48 d_5 d_6 g_50 b_51 b_52 c_87 c_88 c_106 f_112 hp_110 c_115 f_122 hp_120 c_126 hp_155 b_158 c_159 g_182 g_183 g_184; omega) | omega), (by first | (clear ha_p0 hnf hs b_1 b_2 d_1 d_2 d_3 d_4 f_19 b_20 f_29 g_30 b_31 g_39 b_40 g_41 g_42 hn_49 f_45 f_47 f_48 d_5 d_6 g_50 b_51 b_52 c_87 c_88 c_106 f_112 hp_110 c_115 f_122 hp_120 c_126 hp_155 b_158 c_159 g_182 g_183 g_184; omega) | omega)⟩, ((by first | (clear ha_p0 b_2 d_1 d_2 b_40 g_41 g_42 hn_49 f_45 f_46 f_48 d_5 d_6 b_52 c_87 c_106 f_112 hp_110 c_115 f_122 hp_120 c_126 g_183 g_184; omega) | omega)), ((by first | exact ⟨((by first | (clear ha_p0 hnf hs b_1 b_2 d_3 d_4 f_19 b_20 f_29 g_30 b_31 g_39 hn_49 f_45 f_46 f_47 f_48 g_50 b_51 c_87 c_88 f_112 hp_110 c_115 f_122 hp_120 c_126 hp_155 b_158 c_159 g_182; omega) | omega)), (fun h9 => by have q0_ := d_6 (by (clear ha_p0 hnf hs b_1 b_2 d_2 d_3 d_4 f_19 b_20 f_29 g_30 b_31 g_39 g_42 hn_49 f_45 f_46 f_47 f_48 d_6 g_50 b_51 c_87 c_88 c_106 f_112 hp_110 c_115 c_116 f_122 hp_120 c_126 hp_155 c_157 b_158 c_159 g_182 g_184; omega)); (clear ha_p0 hnf hs b_1 b_2 d_1 d_2 d_3 d_4 f_19 b_20 f_29 g_30 b_31 g_39 b_40 g_41 g_42 hn_49 f_45 f_46 f_47 f_48 d_5 d_6 g_50 b_51 b_52 c_87 c_88 f_112 hp_110 c_115 c_116 f_122 hp_120 c_126 hp_155 c_157 b_158 c_159 g_182 g_183; omega))⟩ | omega)), (hX_38.st (St_n_readSlab_3_mk ⟨x_36, x_37, G_32, 1, x_37, G_153, rfl, rfl, f_45, f_46, f_47, f_48, hB_G_32, ⟨c_87, ⟨c_88, (Or.inl ⟨c_106, ⟨r_107, G_108, hX_111, ⟨c_115, ⟨r_117, G_118, hX_121, ⟨y_125, ey_125, (Or.inr ⟨c_126, ⟨G_153, hX_156, (Or.inr ⟨c_159, ⟨rfl, rfl, rfl⟩⟩)⟩⟩)⟩⟩⟩⟩⟩)⟩⟩⟩)), hW, hB_G_153, hF, (Fr.call9 (rs := []) (fs := [(66, 2), (66, 3), (66, 4), (66, 6), (66, 7), (66, 8), (66, 9)]) (Fr.call9 (rs := []) (fs := [(66, 2), (66, 3), (66, 4), (66, 6), (66, 7), (66, 8), (66, 9)]) (Fr.call9 (rs := []) (fs := [(66, 2), (66, 3), (66, 4), (66, 6), (66, 7), (66, 8), (66, 9)]) (Fr.call9 (rs := []) (fs := [(66, 2), (66, 3), (66, 4), (66, 6), (66, 7), (66, 8), (66, 9)]) Fr.rf hq_33 rfl rfl) hq_109 rfl rfl) hq_119 rfl rfl) hq_154 rfl rfl), hS, lv_sub hl [0, 1, 2, 3, 4, 5] rfl⟩
    refine lv_if_ne (tgt := 59) hx hb dX12_readSlab_29 rfl (fun c_186 => ?_) (fun c_186 => ?_)
    · have c_186 : (G_6.1 66 2).toInt ≠ 0 := xI_ne rfl rfl c_186
      have g_187 : (G_15.1 81 (G.1 66 45).toNatClampNeg).toInt = (G.1 81 (G.1 66 45).toNatClampNeg).toInt := by rw [show G_15.1 81 (G.1 66 45).toNatClampNeg = (G.1 81 (G.1 66 45).toNatClampNeg) from ((hq_17.ri9 81 rfl ((G.1 66 45).toNatClampNeg)).trans (hq_7.ri9 81 rfl ((G.1 66 45).toNatClampNeg)))]
      have g_188 : (G_15.1 66 2).toInt = (G_6.1 66 2).toInt := (congrArg Int32.toInt (show G_15.1 66 2 = (G_6.1 66 2) from ((hq_17.i9 66 2 rfl rfl).trans (rfl))))
      exact hJ_26 () _ _ _ ⟨G_15, ((by first | (clear ha_p0 b_2 d_1 d_2 d_4; omega) | omega)), (Jn_n_readSlab_2_mk (Or.inr ⟨c_186, rfl⟩)), hW, hB_G_15, hF, (Fr.rf (rs := []) (fs := [(66, 2), (66, 3)])), hS, lv_sub hl [0, 1, 3, 4] rfl⟩
    · have c_186 : (G_6.1 66 2).toInt = 0 := xI_eq rfl rfl c_186
      have d_11 := d_4 c_186
      refine lv_aload_n hx hb dX12_readSlab_32 rfl (lv_at hl 3 rfl) ?_
      refine S_getR (n := 81) (C := RX12) (T := TX12) (N := 89) hx hb hg iX12 hown hK hW kd_66 rfl 29 (lt_b rfl) (hg (Cond.fieldLink RX12 57 "SlabWalkModel" "nLength" "[I") m1343) (fun _ h9 => h9) rfl dX12_readSlab_33 ?_
      refine lv_aload_n hx hb dX12_readSlab_36 rfl (lv_at hl 3 rfl) ?_
      have b_189 : 0 ≤ (G.1 66 45).toInt ∧ (G.1 66 45).toInt ≤ 3 := bd_66_45 hB_G
      refine S_getI (v := (G.1 66 45)) (C := RX12) (T := TX12) (N := 89) hx hb hg iX12 hown hK hW kd_66 rfl 45 (lt_b rfl) (hg (Cond.fieldLink RX12 359 "SlabWalkModel" "nStreets" "I") m1359) (fun _ h9 => h9) rfl ((hq_17.i9 66 45 rfl rfl).trans (hq_7.i9 66 45 rfl rfl)) dX12_readSlab_37 ?_
      refine S_iald hx hb hK hW kd_81 (vin ((by first | (clear ha_p0 hnf b_2 d_1 d_2 d_3 d_4 f_19 b_20 c_186 d_11; omega) | omega)) ((by first | (clear ha_p0 hnf b_2 d_1 d_2 d_3 d_4 f_19 b_20 c_186 d_11; omega) | omega))) dX12_readSlab_40 (fun y_190 ey_190 => ?_)
      have ty_190 : 0 ≤ y_190.toInt ∧ y_190.toInt ≤ 400 := bv_81 hB_G_15 ey_190
      have u_191 : y_190.toInt = (G.1 81 (G.1 66 45).toNatClampNeg).toInt := congrArg Int32.toInt (ey_190.trans (((hq_17.ri9 81 rfl ((G.1 66 45).toNatClampNeg)).trans (hq_7.ri9 81 rfl ((G.1 66 45).toNatClampNeg)))))
      refine lv_iload hx hb dX12_readSlab_41 (lv_at hl 0 rfl) ?_
      refine lv_iadd hx hb dX12_readSlab_43 ?_
      refine lv_topi (fun y_192 ey_192 => ?_)
      have ty_192 : y_192.toInt = y_190.toInt + w_14.toInt := xI_add rfl rfl ey_192 ((by first | (clear ha_p0 hnf b_2 d_1 d_2 d_3 d_4 b_20 c_186 d_11; omega) | omega)) ((by first | (clear ha_p0 hnf b_2 d_1 d_2 d_3 d_4 b_20 c_186 d_11; omega) | omega))
      refine lv_iload hx hb dX12_readSlab_44 (lv_at hl 1 rfl) ?_
      refine lv_iadd hx hb dX12_readSlab_46 ?_
      refine lv_topi (fun y_193 ey_193 => ?_)
      have ty_193 : y_193.toInt = y_192.toInt + r_5.toInt := xI_add rfl rfl ey_193 ((by first | (clear ha_p0 b_2 d_1 d_2 d_4; omega) | omega)) ((by first | (clear ha_p0 b_2 d_1 d_2 d_4; omega) | omega))
      refine lv_sipush (v := 400) hx hb dX12_readSlab_47 (by decide) ?_
      refine lv_icmp_le (tgt := 59) hx hb dX12_readSlab_50 rfl (fun c_194 => ?_) (fun c_194 => ?_)
      · have c_194 : y_193.toInt ≤ 400 := xI_le rfl rfl c_194
        have g_195 : (G_15.1 81 (G.1 66 45).toNatClampNeg).toInt = y_190.toInt := by rw [show G_15.1 81 (G.1 66 45).toNatClampNeg = y_190 from ey_190.symm]
        have g_196 : (G_15.1 66 2).toInt = (G_6.1 66 2).toInt := (congrArg Int32.toInt (show G_15.1 66 2 = (G_6.1 66 2) from ((hq_17.i9 66 2 rfl rfl).trans (rfl))))
        exact hJ_26 () _ _ _ ⟨G_15, ((by first | (clear ha_p0 b_2 d_1 d_2 d_4; omega) | omega)), (Jn_n_readSlab_2_mk (Or.inl ⟨c_186, ⟨y_190, ey_190, ⟨y_192, ty_192, ⟨y_193, ty_193, (Or.inl ⟨c_194, rfl⟩)⟩⟩⟩⟩)), hW, hB_G_15, hF, (Fr.rf (rs := []) (fs := [(66, 2), (66, 3)])), hS, lv_sub hl [0, 1, 3, 4] rfl⟩
      · have c_194 : 400 < y_193.toInt := xI_nle rfl rfl c_194
        refine lv_aload_n hx hb dX12_readSlab_53 rfl (lv_at hl 3 rfl) ?_
        refine ic_4 hx hb dX12_readSlab_54 ?_
        refine lv_iload_n hx hb dX12_readSlab_55 rfl (lv_at hl 2 rfl) ?_
        have qc_197 : (4 : Int32).toInt = 4 := rfl
        refine S_callv (va_runV (As := [.int 4, .int (G.1 66 7)]) (rest := []) ⟨hx, hb, hml, hown, hts⟩ (n_wrongAt l D k A a z G_15 4 (G.1 66 7) ⟨by decide, by decide⟩ ⟨(by first | (clear ha_p0 hnf hs b_1 d_1 d_2 d_3 d_4 f_19 b_20 c_186 d_11 b_189 ty_190 u_191 ty_192 ty_193 c_194; omega) | omega), (by first | (clear ha_p0 hnf hs b_1 d_1 d_2 d_3 d_4 f_19 b_20 c_186 d_11 b_189 ty_190 u_191 ty_192 ty_193 c_194; omega) | omega)⟩) (cwV 2 hts (gd_V hgd m1690 m1692 m64 m131 m1693) rfl rfl rfl hd_X12_wrongAt ⟨Nat.le_of_ble_eq_true rfl, Nat.le_of_ble_eq_true rfl⟩) (pre_W hW hB_G_15 hK hZ hS kd_66 rfl) rfl rfl hl.1 rfl (lv_room (Nat.le_of_ble_eq_true rfl)) dX12_readSlab_56 ⟨Nat.le_of_ble_eq_true rfl, Nat.le_of_ble_eq_true rfl⟩) hS (fun G_199 H locs hpo hW hS => ?_)
        have hX_202 : Q_wrongAt 4 (G.1 66 7) G_15 G_199 := hpo
        obtain ⟨hB_G_199, hq_200, hp_201, -⟩ := hpo
        have hF := hF.call9 hq_200 rfl rfl
        have g_203 : (G_199.1 81 (G.1 66 45).toNatClampNeg).toInt = y_190.toInt := by rw [show G_199.1 81 (G.1 66 45).toNatClampNeg = y_190 from ((hq_200.ri9 81 rfl ((G.1 66 45).toNatClampNeg)).trans (ey_190.symm))]
        have b_204 : 0 ≤ (G_199.1 66 2).toInt ∧ (G_199.1 66 2).toInt ≤ 4 := bd_66_2 hB_G_199
        exact hJ_26 () _ _ _ ⟨G_199, ((by first | (clear ha_p0 b_2 d_1 d_2 d_4; omega) | omega)), (Jn_n_readSlab_2_mk (Or.inl ⟨c_186, ⟨y_190, ey_190, ⟨y_192, ty_192, ⟨y_193, ty_193, (Or.inr ⟨c_194, ⟨G_199, hX_202, rfl⟩⟩)⟩⟩⟩⟩)), hW, hB_G_199, hF, (Fr.call9 (rs := []) (fs := [(66, 2), (66, 3)]) Fr.rf hq_200 rfl rfl), hS, lv_sub hl [0, 1, 3, 4] rfl⟩
  refine lv_if_ne (tgt := 22) hx hb dX12_readSlab_15 rfl (fun c_205 => ?_) (fun c_205 => ?_)
  · have c_205 : p1.toInt ≠ 0 := xI_ne rfl rfl c_205
    refine lv_iload_n hx hb dX12_readSlab_22 rfl (lv_at hl 3 rfl) ?_
    exact hJ_16 p0 _ _ _ ⟨G_6, ⟨(by first | (clear hnf hs b_1 b_2 d_1 d_2 d_3 d_4 c_205; omega) | omega), (by first | (clear hnf hs b_1 b_2 d_1 d_2 d_3 d_4 c_205; omega) | omega)⟩, (Jn_n_readSlab_1_mk (Or.inr ⟨c_205, ⟨rfl, rfl⟩⟩)), hW, hB_G_6, hF, (Fr.rf (rs := []) (fs := [])), hS, lv_sub hl [0, 1, 2, 4] rfl⟩
  · have c_205 : p1.toInt = 0 := xI_eq rfl rfl c_205
    refine ic_0 hx hb dX12_readSlab_18 ?_
    refine lv_goto (tgt := 23) hx hb dX12_readSlab_19 rfl ?_
    have qc_206 : (0 : Int32).toInt = 0 := rfl
    exact hJ_16 0 _ _ _ ⟨G_6, ⟨(by first | (clear ha_p0 hnf hs b_1 b_2 d_1 d_2 d_3 d_4 c_205; omega) | omega), (by first | (clear ha_p0 hnf hs b_1 b_2 d_1 d_2 d_3 d_4 c_205; omega) | omega)⟩, (Jn_n_readSlab_1_mk (Or.inl ⟨c_205, ⟨rfl, rfl⟩⟩)), hW, hB_G_6, hF, (Fr.rf (rs := []) (fs := [])), hS, lv_sub hl [0, 1, 2, 4] rfl⟩
