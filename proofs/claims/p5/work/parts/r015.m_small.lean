theorem m95 : Cond.selects RX12 yX12_isEnd yX12_isEnd ∈ gd := gd_mem 95 (by decide +kernel) (by decide +kernel)
theorem m101 : Cond.selects RX12 yX12_isHeld yX12_isHeld ∈ gd := gd_mem 101 (by decide +kernel) (by decide +kernel)
theorem m1383 : Cond.fieldLink RX12 130 "SlabWalkModel" "comes" "[Z" ∈ gd := gd_mem 1383 (by decide +kernel) (by decide +kernel)
theorem m1384 : Cond.fieldLink RX12 133 "SlabWalkModel" "leapt" "[I" ∈ gd := gd_mem 1384 (by decide +kernel) (by decide +kernel)
theorem m1385 : Cond.fieldLink RX12 136 "SlabWalkModel" "leaptNext" "[I" ∈ gd := gd_mem 1385 (by decide +kernel) (by decide +kernel)
theorem m1854 : Cond.methodLink RX12 499 yX12_isEnd ∈ gd := gd_mem 1854 (by decide +kernel) (by decide +kernel)
theorem m1856 : Cond.instanceMethod yX12_isEnd ∈ gd := gd_mem 1856 (by decide +kernel) (by decide +kernel)
theorem m1857 : Cond.code yX12_isEnd cX12_isEnd 2 (some .boolean) ∈ gd := gd_mem 1857 (by decide +kernel) (by decide +kernel)
theorem m1863 : Cond.methodLink RX12 506 yX12_lesser ∈ gd := gd_mem 1863 (by decide +kernel) (by decide +kernel)
theorem m1864 : Cond.static yX12_lesser ∈ gd := gd_mem 1864 (by decide +kernel) (by decide +kernel)
theorem m1865 : Cond.code yX12_lesser cX12_lesser 2 (some .int) ∈ gd := gd_mem 1865 (by decide +kernel) (by decide +kernel)
theorem m1931 : Cond.methodLink RX12 547 yX12_isHeld ∈ gd := gd_mem 1931 (by decide +kernel) (by decide +kernel)
theorem m1933 : Cond.instanceMethod yX12_isHeld ∈ gd := gd_mem 1933 (by decide +kernel) (by decide +kernel)
theorem m1934 : Cond.code yX12_isHeld cX12_isHeld 3 (some .boolean) ∈ gd := gd_mem 1934 (by decide +kernel) (by decide +kernel)
theorem dX12_isEven_0 : decode cX12_isEven 0 = .ok (.iconst 0, 1) := by decide +kernel
theorem dX12_isEven_1 : decode cX12_isEven 1 = .ok (.istore_n 3, 1) := by decide +kernel
theorem dX12_isEven_2 : decode cX12_isEven 2 = .ok (.sipush 399, 3) := by decide +kernel
theorem dX12_isEven_5 : decode cX12_isEven 5 = .ok (.istore 4, 2) := by decide +kernel
theorem dX12_isEven_7 : decode cX12_isEven 7 = .ok (.iload 4, 2) := by decide +kernel
theorem dX12_isEven_9 : decode cX12_isEven 9 = .ok (.ifCond .lt 160, 3) := by decide +kernel
theorem dX12_isEven_12 : decode cX12_isEven 12 = .ok (.aload_n 0, 1) := by decide +kernel
theorem dX12_isEven_13 : decode cX12_isEven 13 = .ok (.getfield 130, 3) := by decide +kernel
theorem dX12_isEven_16 : decode cX12_isEven 16 = .ok (.iload 4, 2) := by decide +kernel
theorem dX12_isEven_18 : decode cX12_isEven 18 = .ok (.aload_n 0, 1) := by decide +kernel
theorem dX12_isEven_19 : decode cX12_isEven 19 = .ok (.getfield 115, 3) := by decide +kernel
theorem dX12_isEven_22 : decode cX12_isEven 22 = .ok (.iload 4, 2) := by decide +kernel
theorem dX12_isEven_24 : decode cX12_isEven 24 = .ok (.baload, 1) := by decide +kernel
theorem dX12_isEven_25 : decode cX12_isEven 25 = .ok (.ifCond .eq 16, 3) := by decide +kernel
theorem dX12_isEven_28 : decode cX12_isEven 28 = .ok (.aload_n 0, 1) := by decide +kernel
theorem dX12_isEven_29 : decode cX12_isEven 29 = .ok (.iload 4, 2) := by decide +kernel
theorem dX12_isEven_31 : decode cX12_isEven 31 = .ok (.invokevirtual 499, 3) := by decide +kernel
theorem dX12_isEven_34 : decode cX12_isEven 34 = .ok (.ifCond .eq 7, 3) := by decide +kernel
theorem dX12_isEven_37 : decode cX12_isEven 37 = .ok (.iconst 1, 1) := by decide +kernel
theorem dX12_isEven_38 : decode cX12_isEven 38 = .ok (.goto 4, 3) := by decide +kernel
theorem dX12_isEven_41 : decode cX12_isEven 41 = .ok (.iconst 0, 1) := by decide +kernel
theorem dX12_isEven_42 : decode cX12_isEven 42 = .ok (.bastore, 1) := by decide +kernel
theorem dX12_isEven_43 : decode cX12_isEven 43 = .ok (.iload_n 1, 1) := by decide +kernel
theorem dX12_isEven_44 : decode cX12_isEven 44 = .ok (.istore 5, 2) := by decide +kernel
theorem dX12_isEven_46 : decode cX12_isEven 46 = .ok (.iload 5, 2) := by decide +kernel
theorem dX12_isEven_48 : decode cX12_isEven 48 = .ok (.iload_n 2, 1) := by decide +kernel
theorem dX12_isEven_49 : decode cX12_isEven 49 = .ok (.if_icmp .gt 76, 3) := by decide +kernel
theorem dX12_isEven_52 : decode cX12_isEven 52 = .ok (.aload_n 0, 1) := by decide +kernel
theorem dX12_isEven_53 : decode cX12_isEven 53 = .ok (.getfield 115, 3) := by decide +kernel
theorem dX12_isEven_56 : decode cX12_isEven 56 = .ok (.iload 4, 2) := by decide +kernel
theorem dX12_isEven_58 : decode cX12_isEven 58 = .ok (.baload, 1) := by decide +kernel
theorem dX12_isEven_59 : decode cX12_isEven 59 = .ok (.ifCond .eq 66, 3) := by decide +kernel
theorem dX12_isEven_62 : decode cX12_isEven 62 = .ok (.aload_n 0, 1) := by decide +kernel
theorem dX12_isEven_63 : decode cX12_isEven 63 = .ok (.iload 4, 2) := by decide +kernel
theorem dX12_isEven_65 : decode cX12_isEven 65 = .ok (.invokevirtual 499, 3) := by decide +kernel
theorem dX12_isEven_68 : decode cX12_isEven 68 = .ok (.ifCond .ne 57, 3) := by decide +kernel
theorem dX12_isEven_71 : decode cX12_isEven 71 = .ok (.aload_n 0, 1) := by decide +kernel
theorem dX12_isEven_72 : decode cX12_isEven 72 = .ok (.getfield 130, 3) := by decide +kernel
theorem dX12_isEven_75 : decode cX12_isEven 75 = .ok (.iload 4, 2) := by decide +kernel
theorem dX12_isEven_77 : decode cX12_isEven 77 = .ok (.baload, 1) := by decide +kernel
theorem dX12_isEven_78 : decode cX12_isEven 78 = .ok (.ifCond .ne 47, 3) := by decide +kernel
theorem dX12_isEven_81 : decode cX12_isEven 81 = .ok (.aload_n 0, 1) := by decide +kernel
theorem dX12_isEven_82 : decode cX12_isEven 82 = .ok (.getfield 130, 3) := by decide +kernel
theorem dX12_isEven_85 : decode cX12_isEven 85 = .ok (.iload 4, 2) := by decide +kernel
theorem dX12_isEven_87 : decode cX12_isEven 87 = .ok (.aload_n 0, 1) := by decide +kernel
theorem dX12_isEven_88 : decode cX12_isEven 88 = .ok (.getfield 115, 3) := by decide +kernel
theorem dX12_isEven_91 : decode cX12_isEven 91 = .ok (.iload 4, 2) := by decide +kernel
theorem dX12_isEven_93 : decode cX12_isEven 93 = .ok (.iload 5, 2) := by decide +kernel
theorem dX12_isEven_95 : decode cX12_isEven 95 = .ok (.iadd, 1) := by decide +kernel
theorem dX12_isEven_96 : decode cX12_isEven 96 = .ok (.baload, 1) := by decide +kernel
theorem dX12_isEven_97 : decode cX12_isEven 97 = .ok (.ifCond .eq 20, 3) := by decide +kernel
theorem dX12_isEven_100 : decode cX12_isEven 100 = .ok (.aload_n 0, 1) := by decide +kernel
theorem dX12_isEven_101 : decode cX12_isEven 101 = .ok (.getfield 130, 3) := by decide +kernel
theorem dX12_isEven_104 : decode cX12_isEven 104 = .ok (.iload 4, 2) := by decide +kernel
theorem dX12_isEven_106 : decode cX12_isEven 106 = .ok (.iload 5, 2) := by decide +kernel
theorem dX12_isEven_108 : decode cX12_isEven 108 = .ok (.iadd, 1) := by decide +kernel
theorem dX12_isEven_109 : decode cX12_isEven 109 = .ok (.baload, 1) := by decide +kernel
theorem dX12_isEven_110 : decode cX12_isEven 110 = .ok (.ifCond .eq 7, 3) := by decide +kernel
theorem dX12_isEven_113 : decode cX12_isEven 113 = .ok (.iconst 1, 1) := by decide +kernel
theorem dX12_isEven_114 : decode cX12_isEven 114 = .ok (.goto 4, 3) := by decide +kernel
theorem dX12_isEven_117 : decode cX12_isEven 117 = .ok (.iconst 0, 1) := by decide +kernel
theorem dX12_isEven_118 : decode cX12_isEven 118 = .ok (.bastore, 1) := by decide +kernel
theorem dX12_isEven_119 : decode cX12_isEven 119 = .ok (.iinc 5 1, 3) := by decide +kernel
theorem dX12_isEven_122 : decode cX12_isEven 122 = .ok (.goto (-76), 3) := by decide +kernel
theorem dX12_isEven_125 : decode cX12_isEven 125 = .ok (.iload_n 3, 1) := by decide +kernel
theorem dX12_isEven_126 : decode cX12_isEven 126 = .ok (.ifCond .ne 31, 3) := by decide +kernel
theorem dX12_isEven_129 : decode cX12_isEven 129 = .ok (.iload 4, 2) := by decide +kernel
theorem dX12_isEven_131 : decode cX12_isEven 131 = .ok (.aload_n 0, 1) := by decide +kernel
theorem dX12_isEven_132 : decode cX12_isEven 132 = .ok (.getfield 478, 3) := by decide +kernel
theorem dX12_isEven_135 : decode cX12_isEven 135 = .ok (.if_icmp .ge 26, 3) := by decide +kernel
theorem dX12_isEven_138 : decode cX12_isEven 138 = .ok (.aload_n 0, 1) := by decide +kernel
theorem dX12_isEven_139 : decode cX12_isEven 139 = .ok (.getfield 130, 3) := by decide +kernel
theorem dX12_isEven_142 : decode cX12_isEven 142 = .ok (.iload 4, 2) := by decide +kernel
theorem dX12_isEven_144 : decode cX12_isEven 144 = .ok (.baload, 1) := by decide +kernel
theorem dX12_isEven_145 : decode cX12_isEven 145 = .ok (.ifCond .eq 16, 3) := by decide +kernel
theorem dX12_isEven_148 : decode cX12_isEven 148 = .ok (.aload_n 0, 1) := by decide +kernel
theorem dX12_isEven_149 : decode cX12_isEven 149 = .ok (.iload 4, 2) := by decide +kernel
theorem dX12_isEven_151 : decode cX12_isEven 151 = .ok (.invokevirtual 499, 3) := by decide +kernel
theorem dX12_isEven_154 : decode cX12_isEven 154 = .ok (.ifCond .ne 7, 3) := by decide +kernel
theorem dX12_isEven_157 : decode cX12_isEven 157 = .ok (.iconst 1, 1) := by decide +kernel
theorem dX12_isEven_158 : decode cX12_isEven 158 = .ok (.goto 4, 3) := by decide +kernel
theorem dX12_isEven_161 : decode cX12_isEven 161 = .ok (.iconst 0, 1) := by decide +kernel
theorem dX12_isEven_162 : decode cX12_isEven 162 = .ok (.istore_n 3, 1) := by decide +kernel
theorem dX12_isEven_163 : decode cX12_isEven 163 = .ok (.iinc 4 (-1), 3) := by decide +kernel
theorem dX12_isEven_166 : decode cX12_isEven 166 = .ok (.goto (-159), 3) := by decide +kernel
theorem dX12_isEven_169 : decode cX12_isEven 169 = .ok (.iload_n 3, 1) := by decide +kernel
theorem dX12_isEven_170 : decode cX12_isEven 170 = .ok (.ireturn, 1) := by decide +kernel
theorem dX12_keepOn_0 : decode cX12_keepOn 0 = .ok (.iload_n 1, 1) := by decide +kernel
theorem dX12_keepOn_1 : decode cX12_keepOn 1 = .ok (.iconst 2, 1) := by decide +kernel
theorem dX12_keepOn_2 : decode cX12_keepOn 2 = .ok (.idiv, 1) := by decide +kernel
theorem dX12_keepOn_3 : decode cX12_keepOn 3 = .ok (.istore_n 3, 1) := by decide +kernel
theorem dX12_keepOn_4 : decode cX12_keepOn 4 = .ok (.aload_n 0, 1) := by decide +kernel
theorem dX12_keepOn_5 : decode cX12_keepOn 5 = .ok (.getfield 475, 3) := by decide +kernel
theorem dX12_keepOn_8 : decode cX12_keepOn 8 = .ok (.istore 4, 2) := by decide +kernel
theorem dX12_keepOn_10 : decode cX12_keepOn 10 = .ok (.iload 4, 2) := by decide +kernel
theorem dX12_keepOn_12 : decode cX12_keepOn 12 = .ok (.iload_n 1, 1) := by decide +kernel
theorem dX12_keepOn_13 : decode cX12_keepOn 13 = .ok (.iconst 2, 1) := by decide +kernel
theorem dX12_keepOn_14 : decode cX12_keepOn 14 = .ok (.irem, 1) := by decide +kernel
theorem dX12_keepOn_15 : decode cX12_keepOn 15 = .ok (.iconst 1, 1) := by decide +kernel
theorem dX12_keepOn_16 : decode cX12_keepOn 16 = .ok (.if_icmp .ne 10, 3) := by decide +kernel
theorem dX12_keepOn_19 : decode cX12_keepOn 19 = .ok (.aload_n 0, 1) := by decide +kernel
theorem dX12_keepOn_20 : decode cX12_keepOn 20 = .ok (.getfield 478, 3) := by decide +kernel
theorem dX12_keepOn_23 : decode cX12_keepOn 23 = .ok (.goto 7, 3) := by decide +kernel
theorem dX12_keepOn_26 : decode cX12_keepOn 26 = .ok (.aload_n 0, 1) := by decide +kernel
theorem dX12_keepOn_27 : decode cX12_keepOn 27 = .ok (.getfield 481, 3) := by decide +kernel
theorem dX12_keepOn_30 : decode cX12_keepOn 30 = .ok (.if_icmp .gt 103, 3) := by decide +kernel
theorem dX12_keepOn_33 : decode cX12_keepOn 33 = .ok (.aload_n 0, 1) := by decide +kernel
theorem dX12_keepOn_34 : decode cX12_keepOn 34 = .ok (.getfield 115, 3) := by decide +kernel
theorem dX12_keepOn_37 : decode cX12_keepOn 37 = .ok (.iload_n 3, 1) := by decide +kernel
theorem dX12_keepOn_38 : decode cX12_keepOn 38 = .ok (.iload 4, 2) := by decide +kernel
theorem dX12_keepOn_40 : decode cX12_keepOn 40 = .ok (.iadd, 1) := by decide +kernel
theorem dX12_keepOn_41 : decode cX12_keepOn 41 = .ok (.baload, 1) := by decide +kernel
theorem dX12_keepOn_42 : decode cX12_keepOn 42 = .ok (.ifCond .eq 85, 3) := by decide +kernel
theorem dX12_keepOn_45 : decode cX12_keepOn 45 = .ok (.aload_n 0, 1) := by decide +kernel
theorem dX12_keepOn_46 : decode cX12_keepOn 46 = .ok (.iload_n 3, 1) := by decide +kernel
theorem dX12_keepOn_47 : decode cX12_keepOn 47 = .ok (.iload 4, 2) := by decide +kernel
theorem dX12_keepOn_49 : decode cX12_keepOn 49 = .ok (.iadd, 1) := by decide +kernel
theorem dX12_keepOn_50 : decode cX12_keepOn 50 = .ok (.iload_n 2, 1) := by decide +kernel
theorem dX12_keepOn_51 : decode cX12_keepOn 51 = .ok (.invokevirtual 547, 3) := by decide +kernel
theorem dX12_keepOn_54 : decode cX12_keepOn 54 = .ok (.ifCond .ne 6, 3) := by decide +kernel
theorem dX12_keepOn_57 : decode cX12_keepOn 57 = .ok (.goto 70, 3) := by decide +kernel
theorem dX12_keepOn_60 : decode cX12_keepOn 60 = .ok (.iconst 2, 1) := by decide +kernel
theorem dX12_keepOn_61 : decode cX12_keepOn 61 = .ok (.iload_n 3, 1) := by decide +kernel
theorem dX12_keepOn_62 : decode cX12_keepOn 62 = .ok (.iload 4, 2) := by decide +kernel
theorem dX12_keepOn_64 : decode cX12_keepOn 64 = .ok (.iadd, 1) := by decide +kernel
theorem dX12_keepOn_65 : decode cX12_keepOn 65 = .ok (.imul, 1) := by decide +kernel
theorem dX12_keepOn_66 : decode cX12_keepOn 66 = .ok (.iload 4, 2) := by decide +kernel
theorem dX12_keepOn_68 : decode cX12_keepOn 68 = .ok (.aload_n 0, 1) := by decide +kernel
theorem dX12_keepOn_69 : decode cX12_keepOn 69 = .ok (.getfield 478, 3) := by decide +kernel
theorem dX12_keepOn_72 : decode cX12_keepOn 72 = .ok (.if_icmp .le 7, 3) := by decide +kernel
theorem dX12_keepOn_75 : decode cX12_keepOn 75 = .ok (.iconst 1, 1) := by decide +kernel
theorem dX12_keepOn_76 : decode cX12_keepOn 76 = .ok (.goto 4, 3) := by decide +kernel
theorem dX12_keepOn_79 : decode cX12_keepOn 79 = .ok (.iconst 0, 1) := by decide +kernel
theorem dX12_keepOn_80 : decode cX12_keepOn 80 = .ok (.invokestatic 348, 3) := by decide +kernel
theorem dX12_keepOn_83 : decode cX12_keepOn 83 = .ok (.iadd, 1) := by decide +kernel
theorem dX12_keepOn_84 : decode cX12_keepOn 84 = .ok (.istore 5, 2) := by decide +kernel
theorem dX12_keepOn_86 : decode cX12_keepOn 86 = .ok (.aload_n 0, 1) := by decide +kernel
theorem dX12_keepOn_87 : decode cX12_keepOn 87 = .ok (.getfield 136, 3) := by decide +kernel
theorem dX12_keepOn_90 : decode cX12_keepOn 90 = .ok (.iload 5, 2) := by decide +kernel
theorem dX12_keepOn_92 : decode cX12_keepOn 92 = .ok (.aload_n 0, 1) := by decide +kernel
theorem dX12_keepOn_93 : decode cX12_keepOn 93 = .ok (.getfield 136, 3) := by decide +kernel
theorem dX12_keepOn_96 : decode cX12_keepOn 96 = .ok (.iload 5, 2) := by decide +kernel
theorem dX12_keepOn_98 : decode cX12_keepOn 98 = .ok (.iaload, 1) := by decide +kernel
theorem dX12_keepOn_99 : decode cX12_keepOn 99 = .ok (.aload_n 0, 1) := by decide +kernel
theorem dX12_keepOn_100 : decode cX12_keepOn 100 = .ok (.getfield 133, 3) := by decide +kernel
theorem dX12_keepOn_103 : decode cX12_keepOn 103 = .ok (.iload_n 1, 1) := by decide +kernel
theorem dX12_keepOn_104 : decode cX12_keepOn 104 = .ok (.iaload, 1) := by decide +kernel
theorem dX12_keepOn_105 : decode cX12_keepOn 105 = .ok (.iload 4, 2) := by decide +kernel
theorem dX12_keepOn_107 : decode cX12_keepOn 107 = .ok (.aload_n 0, 1) := by decide +kernel
theorem dX12_keepOn_108 : decode cX12_keepOn 108 = .ok (.getfield 478, 3) := by decide +kernel
theorem dX12_keepOn_111 : decode cX12_keepOn 111 = .ok (.if_icmp .le 7, 3) := by decide +kernel
theorem dX12_keepOn_114 : decode cX12_keepOn 114 = .ok (.iconst 1, 1) := by decide +kernel
theorem dX12_keepOn_115 : decode cX12_keepOn 115 = .ok (.goto 4, 3) := by decide +kernel
theorem dX12_keepOn_118 : decode cX12_keepOn 118 = .ok (.iconst 0, 1) := by decide +kernel
theorem dX12_keepOn_119 : decode cX12_keepOn 119 = .ok (.invokestatic 348, 3) := by decide +kernel
theorem dX12_keepOn_122 : decode cX12_keepOn 122 = .ok (.iadd, 1) := by decide +kernel
theorem dX12_keepOn_123 : decode cX12_keepOn 123 = .ok (.invokestatic 506, 3) := by decide +kernel
theorem dX12_keepOn_126 : decode cX12_keepOn 126 = .ok (.iastore, 1) := by decide +kernel
theorem dX12_keepOn_127 : decode cX12_keepOn 127 = .ok (.iinc 4 1, 3) := by decide +kernel
theorem dX12_keepOn_130 : decode cX12_keepOn 130 = .ok (.goto (-120), 3) := by decide +kernel
theorem dX12_keepOn_133 : decode cX12_keepOn 133 = .ok (.return_, 1) := by decide +kernel
set_option maxHeartbeats 4000000 in
set_option maxRecDepth 100000 in
theorem n_keepOn (l : Launch) (D : va_G) (k : KT) (A : Nat → Prop) (a : Nat → Nat) (z : SK) (G : GS) (p0 : Int32) (p1 : Int32) (ha_p0 : 0 ≤ p0.toInt ∧ p0.toInt ≤ 799) (ha_p1 : 1 ≤ p1.toInt ∧ p1.toInt ≤ 400) : Met l yX12_keepOn (WS yX12_keepOn cX12_keepOn 6 none) ({ frames := 1, cells := 0, slots := 0, locals := 22 }) (va_Pc [.ref (a 66), .int p0, .int p1] (cW D k A a z G)) (va_Qv (fun (G1 : GS) => Bd G1 ∧ Fr [105] [] G G1) (fun (G1 : GS) t => Wd D k A a G1 t.heap) A) 0 0 A := by
  refine Met.ofW (cc := cX12_keepOn) (maxL := 6) (ret := none) (by decide) rfl ?_
  intro p e s m args below meth c s₁ B hml hv
  obtain ⟨rfl, hW, hB_G, hK, hZ⟩ := hv
  have hx := B.exec
  have hb := B.bytes
  have hr := B.returns
  have hts := atoms_spec (ws := WS yX12_keepOn cX12_keepOn 6 none) B.pre
  have hgd : ∀ w ∈ gd, w ∈ WS yX12_keepOn cX12_keepOn 6 none := fun w h => List.mem_cons_of_mem _ h
  have hg : ∀ w ∈ gd, w.before _ s = true := fun w h => hts w (hgd w h)
  have hown : s.vm.findClass RX12 = some m.cls := findClass_of_methodNamed B.named
  have hS : va_S A s.heap s.heap [] := va_S.rf
  have hF : Fr [105] [] G G := Fr.rf
  have hl := lv_entry ([.ref (a 66), .int p0, .int p1]) (n := 6) (Nat.le_of_ble_eq_true rfl)
  rw [lg_entry_eq]
  generalize (lg_sl ([.ref (a 66), .int p0, .int p1]) ++ List.replicate (6 - (lg_sl ([.ref (a 66), .int p0, .int p1])).length) Slot.unset).toArray = ls at hl ⊢
  have hl : lv_has ls 6 [(0, .ref (a 66)), (1, .int p0), (2, .int p1)] := hl
  refine lv_iload_n hx hb dX12_keepOn_0 rfl (lv_at hl 1 rfl) ?_
  refine lv_iconst (v := 2) hx hb dX12_keepOn_1 (by decide) ?_
  refine lv_idiv hx hb dX12_keepOn_2 (by decide) ?_
  refine lv_topi (fun y_1 ey_1 => ?_)
  have ty_1 : y_1.toInt = p0.toInt / 2 := xI_div rfl ey_1 (by decide) (by omega)
  refine lv_istore_n (lv' := [(3, .int y_1), (0, .ref (a 66)), (1, .int p0), (2, .int p1)]) hx hb dX12_keepOn_3 rfl hl (by decide) rfl (fun ls hl => ?_)
  refine lv_aload_n hx hb dX12_keepOn_4 rfl (lv_at hl 1 rfl) ?_
  have b_2 : 0 ≤ (G.1 66 61).toInt ∧ (G.1 66 61).toInt ≤ 60 := hB_G.i 66 61 rfl rfl
  refine S_getI (v := (G.1 66 61)) (C := RX12) (T := TX12) (N := 89) hx hb hg iX12 hown hK hW kd_66 rfl 61 (by decide) (hg (Cond.fieldLink RX12 475 "SlabWalkModel" "least" "I") m1375) (fun _ h9 => h9) rfl rfl dX12_keepOn_5 ?_
  refine lv_istore (lv' := [(4, .int (G.1 66 61)), (3, .int y_1), (0, .ref (a 66)), (1, .int p0), (2, .int p1)]) hx hb dX12_keepOn_8 hl (by decide) rfl (fun ls hl => ?_)
  refine loop_N (Inv := fun n H locs ls => ∃ (G_3 : GS) (x_7 : Int32), (n : Int) = 100 - x_7.toInt ∧ (0 ≤ x_7.toInt ∧ x_7.toInt ≤ 100) ∧ Wd D k A a G_3 H ∧ Bd G_3 ∧ Fr [105] [] G G_3 ∧ Fr [105] [] G G_3 ∧ va_S A s.heap H locs ∧ lv_has ls 6 [(4, .int x_7), (3, .int y_1), (0, .ref (a 66)), (1, .int p0), (2, .int p1)]) (fun n_6 H locs ls ih_5 hI => ?_) (100 - (G.1 66 61).toInt : Int).toNat ⟨G, (G.1 66 61), (Int.toNat_of_nonneg (by omega)), ⟨by omega, by omega⟩, hW, hB_G, hF, Fr.rf, hS, lv_sub hl [0, 1, 2, 3, 4] rfl⟩
  obtain ⟨G_3, x_7, hn_9, f_8, hW, hB_G_3, hF, hq_4, hS, hl⟩ := hI
  refine lv_iload hx hb dX12_keepOn_10 (lv_at hl 0 rfl) ?_
  refine lv_iload_n hx hb dX12_keepOn_12 rfl (lv_at hl 3 rfl) ?_
  refine lv_iconst (v := 2) hx hb dX12_keepOn_13 (by decide) ?_
  refine lv_irem hx hb dX12_keepOn_14 (by decide) ?_
  refine lv_topi (fun y_10 ey_10 => ?_)
  have ty_10 : y_10.toInt = p0.toInt % 2 := xI_mod rfl ey_10 (by decide) (by omega)
  refine lv_iconst (v := 1) hx hb dX12_keepOn_15 (by decide) ?_
  refine W.cut (σ := Int32) (pcJ := 30) (J := fun y H locs ls => ∃ (G_18 : GS), (0 ≤ y.toInt ∧ y.toInt ≤ 99) ∧ Wd D k A a G_18 H ∧ Bd G_18 ∧ Fr [105] [] G G_18 ∧ Fr [] [] G_3 G_18 ∧ va_S A s.heap H locs ∧ lv_has ls 6 [(4, .int x_7), (3, .int y_1), (0, .ref (a 66)), (1, .int p0), (2, .int p1)]) (stJ := fun y => [.int y, .int x_7]) ?_ (fun hJ_19 => ?_)
  · intro y H locs ls hI
    obtain ⟨w_16, hy⟩ : ∃ q, q = y := ⟨_, rfl⟩
    subst hy
    obtain ⟨G_18, f_21, hW, hB_G_18, hF, hq_20, hS, hl⟩ := hI
    refine lv_icmp_gt (tgt := 133) hx hb dX12_keepOn_30 (by decide) (fun c_22 => ?_) (fun c_22 => ?_)
    · have c_22 : w_16.toInt < x_7.toInt := xI_lt rfl rfl c_22
      exact W.vret hx hb hr (fun t ht _ => ⟨⟨G_18, rfl, ⟨hB_G_18, hF⟩, wd_t ht hW⟩, hS.F ht⟩) hS.2.2 dX12_keepOn_133
    · have c_22 : x_7.toInt ≤ w_16.toInt := xI_nlt rfl rfl c_22
      refine lv_aload_n hx hb dX12_keepOn_33 rfl (lv_at hl 2 rfl) ?_
      refine S_getR (n := 98) (C := RX12) (T := TX12) (N := 89) hx hb hg iX12 hown hK hW kd_66 rfl 58 (by decide) (hg (Cond.fieldLink RX12 115 "SlabWalkModel" "lawful" "[Z") m1372) (fun _ h9 => h9) rfl dX12_keepOn_34 ?_
      refine lv_iload_n hx hb dX12_keepOn_37 rfl (lv_at hl 1 rfl) ?_
      refine lv_iload hx hb dX12_keepOn_38 (lv_at hl 0 rfl) ?_
      refine lv_iadd hx hb dX12_keepOn_40 ?_
      refine lv_topi (fun y_23 ey_23 => ?_)
      have ty_23 : y_23.toInt = y_1.toInt + x_7.toInt := xI_add rfl rfl ey_23 (by omega) (by omega)
      refine S_zald hx hb hK hW kd_98 (vin (by omega) (by omega)) dX12_keepOn_41 (fun y_24 ey_24 => ?_)
      have ty_24 := hB_G_18.law ey_24
      refine lv_if_eq (tgt := 127) hx hb dX12_keepOn_42 (by decide) (fun c_25 => ?_) (fun c_25 => ?_)
      · have c_25 : y_24.toInt = 0 := xI_eq rfl rfl c_25
        obtain ⟨y_26, ey_26⟩ : ∃ q, q = x_7 + 1 := ⟨_, rfl⟩
        have ty_26 : y_26.toInt = x_7.toInt + 1 := xI_add rfl rfl ey_26 (by omega) (by omega)
        refine lv_iinc (v := y_26) (lv' := [(4, .int y_26), (3, .int y_1), (0, .ref (a 66)), (1, .int p0), (2, .int p1)]) hx hb dX12_keepOn_127 hl (k := 0) rfl (by rw [ey_26]; rfl) (by decide) rfl (fun ls hl => ?_)
        refine lv_goto (tgt := 10) hx hb dX12_keepOn_130 (by decide) ?_
        exact ih_5 (100 - y_26.toInt : Int).toNat (by omega) _ _ _ ⟨G_18, y_26, (Int.toNat_of_nonneg (by omega)), ⟨by omega, by omega⟩, hW, hB_G_18, hF, ((Fr.rf.call hq_4 (by decide) (by decide)).call hq_20 (by decide) (by decide)), hS, lv_sub hl [0, 1, 2, 3, 4] rfl⟩
      · have c_25 : y_24.toInt ≠ 0 := xI_ne rfl rfl c_25
        refine lv_aload_n hx hb dX12_keepOn_45 rfl (lv_at hl 2 rfl) ?_
        refine lv_iload_n hx hb dX12_keepOn_46 rfl (lv_at hl 1 rfl) ?_
        refine lv_iload hx hb dX12_keepOn_47 (lv_at hl 0 rfl) ?_
        refine lv_iadd hx hb dX12_keepOn_49 ?_
        refine lv_topi (fun y_27 ey_27 => ?_)
        have ty_27 : y_27.toInt = y_1.toInt + x_7.toInt := xI_add rfl rfl ey_27 (by omega) (by omega)
        refine lv_iload_n hx hb dX12_keepOn_50 rfl (lv_at hl 4 rfl) ?_
        refine S_calli (va_runV (As := [.int y_27, .int p1]) (rest := []) ⟨hx, hb, hml, hown, hts⟩ (n_isHeld l D k A a z G_18 y_27 p1 ⟨by omega, by omega⟩ ⟨by omega, by omega⟩) (cwV 2 hts (gd_V hgd m1931 m1933 m101 m131 m1934) rfl rfl rfl (by decide +kernel) ⟨Nat.le_of_ble_eq_true rfl, Nat.le_of_ble_eq_true rfl⟩) (pre_V hW hB_G_18 hK hZ hS kd_66 rfl) rfl rfl hl.1 rfl (lv_room (Nat.le_of_ble_eq_true rfl)) dX12_keepOn_51 ⟨Nat.le_of_ble_eq_true rfl, Nat.le_of_ble_eq_true rfl⟩) hS (fun r_28 G_29 H locs hpo hW hS => ?_)
        obtain ⟨hB_G_29, hq_30, f_32⟩ := hpo
        have hF := hF.call hq_30 (by decide) (by decide)
        refine lv_if_ne (tgt := 60) hx hb dX12_keepOn_54 (by decide) (fun c_33 => ?_) (fun c_33 => ?_)
        · have c_33 : r_28.toInt ≠ 0 := xI_ne rfl rfl c_33
          refine lv_iconst (v := 2) hx hb dX12_keepOn_60 (by decide) ?_
          refine lv_iload_n hx hb dX12_keepOn_61 rfl (lv_at hl 1 rfl) ?_
          refine lv_iload hx hb dX12_keepOn_62 (lv_at hl 0 rfl) ?_
          refine lv_iadd hx hb dX12_keepOn_64 ?_
          refine lv_topi (fun y_34 ey_34 => ?_)
          have ty_34 : y_34.toInt = y_1.toInt + x_7.toInt := xI_add rfl rfl ey_34 (by omega) (by omega)
          refine lv_imul hx hb dX12_keepOn_65 ?_
          refine lv_topi (fun y_35 ey_35 => ?_)
          have ty_35 : y_35.toInt = 2 * y_34.toInt := xI_mul rfl rfl ey_35 (by omega) (by omega)
          refine lv_iload hx hb dX12_keepOn_66 (lv_at hl 0 rfl) ?_
          refine lv_aload_n hx hb dX12_keepOn_68 rfl (lv_at hl 2 rfl) ?_
          have b_36 : 0 ≤ (G.1 66 62).toInt ∧ (G.1 66 62).toInt ≤ 60 := hB_G.i 66 62 rfl rfl
          refine S_getI (v := (G.1 66 62)) (C := RX12) (T := TX12) (N := 89) hx hb hg iX12 hown hK hW kd_66 rfl 62 (by decide) (hg (Cond.fieldLink RX12 478 "SlabWalkModel" "most" "I") m1376) (fun _ h9 => h9) rfl ((hq_30.i 66 62 (by decide) (by decide)).trans ((hq_20.i 66 62 (by decide) (by decide)).trans (hq_4.i 66 62 (by decide) (by decide)))) dX12_keepOn_69 ?_
          refine W.cut (σ := Int32) (pcJ := 80) (J := fun y H locs ls => ∃ (G_44 : GS), (0 ≤ y.toInt ∧ y.toInt ≤ 1) ∧ Wd D k A a G_44 H ∧ Bd G_44 ∧ Fr [105] [] G G_44 ∧ Fr [] [] G_29 G_44 ∧ va_S A s.heap H locs ∧ lv_has ls 6 [(4, .int x_7), (3, .int y_1), (0, .ref (a 66)), (1, .int p0), (2, .int p1)]) (stJ := fun y => [.int y, .int y_35]) ?_ (fun hJ_45 => ?_)
          · intro y H locs ls hI
            obtain ⟨w_42, hy⟩ : ∃ q, q = y := ⟨_, rfl⟩
            subst hy
            obtain ⟨G_44, f_47, hW, hB_G_44, hF, hq_46, hS, hl⟩ := hI
            refine S_calli (va_runS (As := [.int w_42]) (rest := [.int y_35]) ⟨hx, hb, hml, hown, hts⟩ (n_truth l D k A a z G_44 w_42 ⟨by omega, by omega⟩) (va_cwS 1 hts (gd_S hgd m1788 m1789 m131 m1790) rfl rfl rfl (by decide +kernel) ⟨Nat.le_of_ble_eq_true rfl, Nat.le_of_ble_eq_true rfl⟩) (pre_S hW hB_G_44 hK hZ hS) rfl rfl hl.1 rfl (lv_room (Nat.le_of_ble_eq_true rfl)) dX12_keepOn_80 ⟨Nat.le_of_ble_eq_true rfl, Nat.le_of_ble_eq_true rfl⟩) hS (fun r_48 G_49 H locs hpo hW hS => ?_)
            obtain ⟨hB_G_49, hq_50, f_52, hp_51, -⟩ := hpo
            have hF := hF.call hq_50 (by decide) (by decide)
            refine lv_iadd hx hb dX12_keepOn_83 ?_
            refine lv_topi (fun y_53 ey_53 => ?_)
            have ty_53 : y_53.toInt = y_35.toInt + r_48.toInt := xI_add rfl rfl ey_53 (by omega) (by omega)
            refine lv_istore (lv' := [(5, .int y_53), (4, .int x_7), (3, .int y_1), (0, .ref (a 66)), (1, .int p0), (2, .int p1)]) hx hb dX12_keepOn_84 hl (by decide) rfl (fun ls hl => ?_)
            refine lv_aload_n hx hb dX12_keepOn_86 rfl (lv_at hl 3 rfl) ?_
            refine S_getR (n := 105) (C := RX12) (T := TX12) (N := 89) hx hb hg iX12 hown hK hW kd_66 rfl 71 (by decide) (hg (Cond.fieldLink RX12 136 "SlabWalkModel" "leaptNext" "[I") m1385) (fun _ h9 => h9) rfl dX12_keepOn_87 ?_
            refine lv_iload hx hb dX12_keepOn_90 (lv_at hl 0 rfl) ?_
            refine lv_aload_n hx hb dX12_keepOn_92 rfl (lv_at hl 3 rfl) ?_
            refine S_getR (n := 105) (C := RX12) (T := TX12) (N := 89) hx hb hg iX12 hown hK hW kd_66 rfl 71 (by decide) (hg (Cond.fieldLink RX12 136 "SlabWalkModel" "leaptNext" "[I") m1385) (fun _ h9 => h9) rfl dX12_keepOn_93 ?_
            refine lv_iload hx hb dX12_keepOn_96 (lv_at hl 0 rfl) ?_
            refine S_iald hx hb hK hW kd_105 (vin (by omega) (by omega)) dX12_keepOn_98 (fun y_54 ey_54 => ?_)
            refine lv_aload_n hx hb dX12_keepOn_99 rfl (lv_at hl 3 rfl) ?_
            refine S_getR (n := 104) (C := RX12) (T := TX12) (N := 89) hx hb hg iX12 hown hK hW kd_66 rfl 70 (by decide) (hg (Cond.fieldLink RX12 133 "SlabWalkModel" "leapt" "[I") m1384) (fun _ h9 => h9) rfl dX12_keepOn_100 ?_
            refine lv_iload_n hx hb dX12_keepOn_103 rfl (lv_at hl 4 rfl) ?_
            refine S_iald hx hb hK hW kd_104 (vin (by omega) (by omega)) dX12_keepOn_104 (fun y_55 ey_55 => ?_)
            refine lv_iload hx hb dX12_keepOn_105 (lv_at hl 1 rfl) ?_
            refine lv_aload_n hx hb dX12_keepOn_107 rfl (lv_at hl 3 rfl) ?_
            refine S_getI (v := (G.1 66 62)) (C := RX12) (T := TX12) (N := 89) hx hb hg iX12 hown hK hW kd_66 rfl 62 (by decide) (hg (Cond.fieldLink RX12 478 "SlabWalkModel" "most" "I") m1376) (fun _ h9 => h9) rfl ((hq_50.i 66 62 (by decide) (by decide)).trans ((hq_46.i 66 62 (by decide) (by decide)).trans ((hq_30.i 66 62 (by decide) (by decide)).trans ((hq_20.i 66 62 (by decide) (by decide)).trans ((hq_4.i 66 62 (by decide) (by decide)).trans (rfl)))))) dX12_keepOn_108 ?_
            refine lv_icmp_le (tgt := 118) hx hb dX12_keepOn_111 (by decide) (fun c_56 => ?_) (fun c_56 => ?_)
            · have c_56 : x_7.toInt ≤ (G.1 66 62).toInt := xI_le rfl rfl c_56
              refine lv_iconst (v := 0) hx hb dX12_keepOn_118 (by decide) ?_
              have qc_57 : (0 : Int32).toInt = 0 := rfl
              refine S_calli (va_runS (As := [.int 0]) (rest := [.int y_55, .int y_54, .int y_53, .ref (a 105)]) ⟨hx, hb, hml, hown, hts⟩ (n_truth l D k A a z G_49 0 ⟨by decide, by decide⟩) (va_cwS 1 hts (gd_S hgd m1788 m1789 m131 m1790) rfl rfl rfl (by decide +kernel) ⟨Nat.le_of_ble_eq_true rfl, Nat.le_of_ble_eq_true rfl⟩) (pre_S hW hB_G_49 hK hZ hS) rfl rfl hl.1 rfl (lv_room (Nat.le_of_ble_eq_true rfl)) dX12_keepOn_119 ⟨Nat.le_of_ble_eq_true rfl, Nat.le_of_ble_eq_true rfl⟩) hS (fun r_58 G_59 H locs hpo hW hS => ?_)
              obtain ⟨hB_G_59, hq_60, f_62, hp_61, -⟩ := hpo
              have hF := hF.call hq_60 (by decide) (by decide)
              refine lv_iadd hx hb dX12_keepOn_122 ?_
              refine lv_topi (fun y_63 ey_63 => ?_)
              refine S_calli (va_runS (As := [.int y_54, .int y_63]) (rest := [.int y_53, .ref (a 105)]) ⟨hx, hb, hml, hown, hts⟩ (n_lesser l D k A a z G_59 y_54 y_63 ) (va_cwS 2 hts (gd_S hgd m1863 m1864 m131 m1865) rfl rfl rfl (by decide +kernel) ⟨Nat.le_of_ble_eq_true rfl, Nat.le_of_ble_eq_true rfl⟩) (pre_S hW hB_G_59 hK hZ hS) rfl rfl hl.1 rfl (lv_room (Nat.le_of_ble_eq_true rfl)) dX12_keepOn_123 ⟨Nat.le_of_ble_eq_true rfl, Nat.le_of_ble_eq_true rfl⟩) hS (fun r_64 G_65 H locs hpo hW hS => ?_)
              obtain ⟨hB_G_65, hq_66, hp_67⟩ := hpo
              have hF := hF.call hq_66 (by decide) (by decide)
              refine S_iast hx hb hK hW hS kd_105 (vin (by omega) (by omega)) dX12_keepOn_126 (fun G_68 H locs eG_68 hW hS => ?_)
              have hB_G_68 : Bd G_68 := hB_G_65.put (lo := (-2147483648)) (hi := 2147483647) eG_68 rfl rfl rfl (tI_rng _).1 (tI_rng _).2 (hB_G_65.2.put eG_68 rfl)
              have hF := hF.put eG_68 (Or.inl (by decide))
              obtain ⟨y_69, ey_69⟩ : ∃ q, q = x_7 + 1 := ⟨_, rfl⟩
              have ty_69 : y_69.toInt = x_7.toInt + 1 := xI_add rfl rfl ey_69 (by omega) (by omega)
              refine lv_iinc (v := y_69) (lv' := [(4, .int y_69), (5, .int y_53), (3, .int y_1), (0, .ref (a 66)), (1, .int p0), (2, .int p1)]) hx hb dX12_keepOn_127 hl (k := 1) rfl (by rw [ey_69]; rfl) (by decide) rfl (fun ls hl => ?_)
              refine lv_goto (tgt := 10) hx hb dX12_keepOn_130 (by decide) ?_
              exact ih_5 (100 - y_69.toInt : Int).toNat (by omega) _ _ _ ⟨G_68, y_69, (Int.toNat_of_nonneg (by omega)), ⟨by omega, by omega⟩, hW, hB_G_68, hF, ((((((((Fr.rf.call hq_4 (by decide) (by decide)).call hq_20 (by decide) (by decide)).call hq_30 (by decide) (by decide)).call hq_46 (by decide) (by decide)).call hq_50 (by decide) (by decide)).call hq_60 (by decide) (by decide)).call hq_66 (by decide) (by decide)).put eG_68 (Or.inl (by decide))), hS, lv_sub hl [0, 2, 3, 4, 5] rfl⟩
            · have c_56 : (G.1 66 62).toInt < x_7.toInt := xI_nle rfl rfl c_56
              refine lv_iconst (v := 1) hx hb dX12_keepOn_114 (by decide) ?_
              refine lv_goto (tgt := 119) hx hb dX12_keepOn_115 (by decide) ?_
              have qc_70 : (1 : Int32).toInt = 1 := rfl
              refine S_calli (va_runS (As := [.int 1]) (rest := [.int y_55, .int y_54, .int y_53, .ref (a 105)]) ⟨hx, hb, hml, hown, hts⟩ (n_truth l D k A a z G_49 1 ⟨by decide, by decide⟩) (va_cwS 1 hts (gd_S hgd m1788 m1789 m131 m1790) rfl rfl rfl (by decide +kernel) ⟨Nat.le_of_ble_eq_true rfl, Nat.le_of_ble_eq_true rfl⟩) (pre_S hW hB_G_49 hK hZ hS) rfl rfl hl.1 rfl (lv_room (Nat.le_of_ble_eq_true rfl)) dX12_keepOn_119 ⟨Nat.le_of_ble_eq_true rfl, Nat.le_of_ble_eq_true rfl⟩) hS (fun r_71 G_72 H locs hpo hW hS => ?_)
              obtain ⟨hB_G_72, hq_73, f_75, hp_74, -⟩ := hpo
              have hF := hF.call hq_73 (by decide) (by decide)
              refine lv_iadd hx hb dX12_keepOn_122 ?_
              refine lv_topi (fun y_76 ey_76 => ?_)
              refine S_calli (va_runS (As := [.int y_54, .int y_76]) (rest := [.int y_53, .ref (a 105)]) ⟨hx, hb, hml, hown, hts⟩ (n_lesser l D k A a z G_72 y_54 y_76 ) (va_cwS 2 hts (gd_S hgd m1863 m1864 m131 m1865) rfl rfl rfl (by decide +kernel) ⟨Nat.le_of_ble_eq_true rfl, Nat.le_of_ble_eq_true rfl⟩) (pre_S hW hB_G_72 hK hZ hS) rfl rfl hl.1 rfl (lv_room (Nat.le_of_ble_eq_true rfl)) dX12_keepOn_123 ⟨Nat.le_of_ble_eq_true rfl, Nat.le_of_ble_eq_true rfl⟩) hS (fun r_77 G_78 H locs hpo hW hS => ?_)
              obtain ⟨hB_G_78, hq_79, hp_80⟩ := hpo
              have hF := hF.call hq_79 (by decide) (by decide)
              refine S_iast hx hb hK hW hS kd_105 (vin (by omega) (by omega)) dX12_keepOn_126 (fun G_81 H locs eG_81 hW hS => ?_)
              have hB_G_81 : Bd G_81 := hB_G_78.put (lo := (-2147483648)) (hi := 2147483647) eG_81 rfl rfl rfl (tI_rng _).1 (tI_rng _).2 (hB_G_78.2.put eG_81 rfl)
              have hF := hF.put eG_81 (Or.inl (by decide))
              obtain ⟨y_82, ey_82⟩ : ∃ q, q = x_7 + 1 := ⟨_, rfl⟩
              have ty_82 : y_82.toInt = x_7.toInt + 1 := xI_add rfl rfl ey_82 (by omega) (by omega)
              refine lv_iinc (v := y_82) (lv' := [(4, .int y_82), (5, .int y_53), (3, .int y_1), (0, .ref (a 66)), (1, .int p0), (2, .int p1)]) hx hb dX12_keepOn_127 hl (k := 1) rfl (by rw [ey_82]; rfl) (by decide) rfl (fun ls hl => ?_)
              refine lv_goto (tgt := 10) hx hb dX12_keepOn_130 (by decide) ?_
              exact ih_5 (100 - y_82.toInt : Int).toNat (by omega) _ _ _ ⟨G_81, y_82, (Int.toNat_of_nonneg (by omega)), ⟨by omega, by omega⟩, hW, hB_G_81, hF, ((((((((Fr.rf.call hq_4 (by decide) (by decide)).call hq_20 (by decide) (by decide)).call hq_30 (by decide) (by decide)).call hq_46 (by decide) (by decide)).call hq_50 (by decide) (by decide)).call hq_73 (by decide) (by decide)).call hq_79 (by decide) (by decide)).put eG_81 (Or.inl (by decide))), hS, lv_sub hl [0, 2, 3, 4, 5] rfl⟩
          refine lv_icmp_le (tgt := 79) hx hb dX12_keepOn_72 (by decide) (fun c_83 => ?_) (fun c_83 => ?_)
          · have c_83 : x_7.toInt ≤ (G.1 66 62).toInt := xI_le rfl rfl c_83
            refine lv_iconst (v := 0) hx hb dX12_keepOn_79 (by decide) ?_
            have qc_84 : (0 : Int32).toInt = 0 := rfl
            exact hJ_45 0 _ _ _ ⟨G_29, ⟨by omega, by omega⟩, hW, hB_G_29, hF, Fr.rf, hS, lv_sub hl [0, 1, 2, 3, 4] rfl⟩
          · have c_83 : (G.1 66 62).toInt < x_7.toInt := xI_nle rfl rfl c_83
            refine lv_iconst (v := 1) hx hb dX12_keepOn_75 (by decide) ?_
            refine lv_goto (tgt := 80) hx hb dX12_keepOn_76 (by decide) ?_
            have qc_85 : (1 : Int32).toInt = 1 := rfl
            exact hJ_45 1 _ _ _ ⟨G_29, ⟨by omega, by omega⟩, hW, hB_G_29, hF, Fr.rf, hS, lv_sub hl [0, 1, 2, 3, 4] rfl⟩
        · have c_33 : r_28.toInt = 0 := xI_eq rfl rfl c_33
          refine lv_goto (tgt := 127) hx hb dX12_keepOn_57 (by decide) ?_
          obtain ⟨y_86, ey_86⟩ : ∃ q, q = x_7 + 1 := ⟨_, rfl⟩
          have ty_86 : y_86.toInt = x_7.toInt + 1 := xI_add rfl rfl ey_86 (by omega) (by omega)
          refine lv_iinc (v := y_86) (lv' := [(4, .int y_86), (3, .int y_1), (0, .ref (a 66)), (1, .int p0), (2, .int p1)]) hx hb dX12_keepOn_127 hl (k := 0) rfl (by rw [ey_86]; rfl) (by decide) rfl (fun ls hl => ?_)
          refine lv_goto (tgt := 10) hx hb dX12_keepOn_130 (by decide) ?_
          exact ih_5 (100 - y_86.toInt : Int).toNat (by omega) _ _ _ ⟨G_29, y_86, (Int.toNat_of_nonneg (by omega)), ⟨by omega, by omega⟩, hW, hB_G_29, hF, (((Fr.rf.call hq_4 (by decide) (by decide)).call hq_20 (by decide) (by decide)).call hq_30 (by decide) (by decide)), hS, lv_sub hl [0, 1, 2, 3, 4] rfl⟩
  refine lv_icmp_ne (tgt := 26) hx hb dX12_keepOn_16 (by decide) (fun c_87 => ?_) (fun c_87 => ?_)
  · have c_87 : y_10.toInt ≠ 1 := xI_ne rfl rfl c_87
    refine lv_aload_n hx hb dX12_keepOn_26 rfl (lv_at hl 2 rfl) ?_
    have b_88 : 0 ≤ (G.1 66 63).toInt ∧ (G.1 66 63).toInt ≤ 99 := hB_G.i 66 63 rfl rfl
    refine S_getI (v := (G.1 66 63)) (C := RX12) (T := TX12) (N := 89) hx hb hg iX12 hown hK hW kd_66 rfl 63 (by decide) (hg (Cond.fieldLink RX12 481 "SlabWalkModel" "leap" "I") m1377) (fun _ h9 => h9) rfl (hq_4.i 66 63 (by decide) (by decide)) dX12_keepOn_27 ?_
    exact hJ_19 (G.1 66 63) _ _ _ ⟨G_3, ⟨by omega, by omega⟩, hW, hB_G_3, hF, Fr.rf, hS, lv_sub hl [0, 1, 2, 3, 4] rfl⟩
  · have c_87 : y_10.toInt = 1 := xI_eq rfl rfl c_87
    refine lv_aload_n hx hb dX12_keepOn_19 rfl (lv_at hl 2 rfl) ?_
    have b_89 : 0 ≤ (G.1 66 62).toInt ∧ (G.1 66 62).toInt ≤ 60 := hB_G.i 66 62 rfl rfl
    refine S_getI (v := (G.1 66 62)) (C := RX12) (T := TX12) (N := 89) hx hb hg iX12 hown hK hW kd_66 rfl 62 (by decide) (hg (Cond.fieldLink RX12 478 "SlabWalkModel" "most" "I") m1376) (fun _ h9 => h9) rfl (hq_4.i 66 62 (by decide) (by decide)) dX12_keepOn_20 ?_
    refine lv_goto (tgt := 30) hx hb dX12_keepOn_23 (by decide) ?_
    exact hJ_19 (G.1 66 62) _ _ _ ⟨G_3, ⟨by omega, by omega⟩, hW, hB_G_3, hF, Fr.rf, hS, lv_sub hl [0, 1, 2, 3, 4] rfl⟩

set_option maxHeartbeats 4000000 in
set_option maxRecDepth 100000 in
theorem n_isEven (l : Launch) (D : va_G) (k : KT) (A : Nat → Prop) (a : Nat → Nat) (z : SK) (G : GS) (p0 : Int32) (p1 : Int32) (ha_p0 : 0 ≤ p0.toInt ∧ p0.toInt ≤ 60) (ha_p1 : 0 ≤ p1.toInt ∧ p1.toInt ≤ 60) : Met l yX12_isEven (WS yX12_isEven cX12_isEven 6 (some .boolean)) ({ frames := 2, cells := 0, slots := 0, locals := 42 }) (va_Pc [.ref (a 66), .int p0, .int p1] (cW D k A a z G)) (va_Qi (fun (r : Int32) (G1 : GS) => Bd G1 ∧ Fr [103] [] G G1 ∧ (0 ≤ r.toInt ∧ r.toInt ≤ 1)) (fun (G1 : GS) t => Wd D k A a G1 t.heap) A) 0 0 A := by
  refine Met.ofW (cc := cX12_isEven) (maxL := 6) (ret := (some .boolean)) (by decide) rfl ?_
  intro p e s m args below meth c s₁ B hml hv
  obtain ⟨rfl, hW, hB_G, hK, hZ⟩ := hv
  have hx := B.exec
  have hb := B.bytes
  have hr := B.returns
  have hts := atoms_spec (ws := WS yX12_isEven cX12_isEven 6 (some .boolean)) B.pre
  have hgd : ∀ w ∈ gd, w ∈ WS yX12_isEven cX12_isEven 6 (some .boolean) := fun w h => List.mem_cons_of_mem _ h
  have hg : ∀ w ∈ gd, w.before _ s = true := fun w h => hts w (hgd w h)
  have hown : s.vm.findClass RX12 = some m.cls := findClass_of_methodNamed B.named
  have hS : va_S A s.heap s.heap [] := va_S.rf
  have hF : Fr [103] [] G G := Fr.rf
  have hl := lv_entry ([.ref (a 66), .int p0, .int p1]) (n := 6) (Nat.le_of_ble_eq_true rfl)
  rw [lg_entry_eq]
  generalize (lg_sl ([.ref (a 66), .int p0, .int p1]) ++ List.replicate (6 - (lg_sl ([.ref (a 66), .int p0, .int p1])).length) Slot.unset).toArray = ls at hl ⊢
  have hl : lv_has ls 6 [(0, .ref (a 66)), (1, .int p0), (2, .int p1)] := hl
  refine lv_iconst (v := 0) hx hb dX12_isEven_0 (by decide) ?_
  refine lv_istore_n (lv' := [(3, .int 0), (0, .ref (a 66)), (1, .int p0), (2, .int p1)]) hx hb dX12_isEven_1 rfl hl (by decide) rfl (fun ls hl => ?_)
  refine lv_sipush (v := 399) hx hb dX12_isEven_2 (by decide) ?_
  refine lv_istore (lv' := [(4, .int 399), (3, .int 0), (0, .ref (a 66)), (1, .int p0), (2, .int p1)]) hx hb dX12_isEven_5 hl (by decide) rfl (fun ls hl => ?_)
  have qc_7 : (0 : Int32).toInt = 0 := rfl
  have qc_8 : (399 : Int32).toInt = 399 := rfl
  refine loop_N (Inv := fun n H locs ls => ∃ (G_1 : GS) (x_5 : Int32) (x_6 : Int32), (n : Int) = x_5.toInt - (-1) ∧ ((-1) ≤ x_5.toInt ∧ x_5.toInt ≤ 399) ∧ (0 ≤ x_6.toInt ∧ x_6.toInt ≤ 1) ∧ Wd D k A a G_1 H ∧ Bd G_1 ∧ Fr [103] [] G G_1 ∧ Fr [103] [] G G_1 ∧ va_S A s.heap H locs ∧ lv_has ls 6 [(4, .int x_5), (3, .int x_6), (0, .ref (a 66)), (1, .int p0), (2, .int p1)]) (fun n_4 H locs ls ih_3 hI => ?_) (399 - (-1) : Int).toNat ⟨G, 399, 0, (Int.toNat_of_nonneg (by omega)), ⟨by omega, by omega⟩, ⟨by omega, by omega⟩, hW, hB_G, hF, Fr.rf, hS, lv_sub hl [0, 1, 2, 3, 4] rfl⟩
  obtain ⟨G_1, x_5, x_6, hn_11, f_9, f_10, hW, hB_G_1, hF, hq_2, hS, hl⟩ := hI
  refine lv_iload hx hb dX12_isEven_7 (lv_at hl 0 rfl) ?_
  refine lv_if_lt (tgt := 169) hx hb dX12_isEven_9 (by decide) (fun c_12 => ?_) (fun c_12 => ?_)
  · have c_12 : x_5.toInt < 0 := xI_lt rfl rfl c_12
    refine lv_iload_n hx hb dX12_isEven_169 rfl (lv_at hl 1 rfl) ?_
    exact W.zret (v := x_6) hx hb hr (nar_z (by omega) (by omega)) (fun t ht _ => ⟨⟨x_6, G_1, rfl, ⟨hB_G_1, hF, ⟨by omega, by omega⟩⟩, wd_t ht hW⟩, hS.F ht⟩) hS.2.2 dX12_isEven_170
  · have c_12 : 0 ≤ x_5.toInt := xI_nlt rfl rfl c_12
    refine lv_aload_n hx hb dX12_isEven_12 rfl (lv_at hl 2 rfl) ?_
    refine S_getR (n := 103) (C := RX12) (T := TX12) (N := 89) hx hb hg iX12 hown hK hW kd_66 rfl 69 (by decide) (hg (Cond.fieldLink RX12 130 "SlabWalkModel" "comes" "[Z") m1383) (fun _ h9 => h9) rfl dX12_isEven_13 ?_
    refine lv_iload hx hb dX12_isEven_16 (lv_at hl 0 rfl) ?_
    refine lv_aload_n hx hb dX12_isEven_18 rfl (lv_at hl 2 rfl) ?_
    refine S_getR (n := 98) (C := RX12) (T := TX12) (N := 89) hx hb hg iX12 hown hK hW kd_66 rfl 58 (by decide) (hg (Cond.fieldLink RX12 115 "SlabWalkModel" "lawful" "[Z") m1372) (fun _ h9 => h9) rfl dX12_isEven_19 ?_
    refine lv_iload hx hb dX12_isEven_22 (lv_at hl 0 rfl) ?_
    refine S_zald hx hb hK hW kd_98 (vin (by omega) (by omega)) dX12_isEven_24 (fun y_13 ey_13 => ?_)
    have ty_13 := hB_G_1.law ey_13
    refine W.cut (σ := Unit) (pcJ := 41) (J := fun y H locs ls => ∃ (G_21 : GS), Wd D k A a G_21 H ∧ Bd G_21 ∧ Fr [103] [] G G_21 ∧ Fr [] [] G_1 G_21 ∧ va_S A s.heap H locs ∧ lv_has ls 6 [(4, .int x_5), (3, .int x_6), (0, .ref (a 66)), (1, .int p0), (2, .int p1)]) (stJ := fun _ => [.int x_5, .ref (a 103)]) ?_ (fun hJ_22 => ?_)
    · intro y H locs ls hI
      obtain ⟨G_21, hW, hB_G_21, hF, hq_23, hS, hl⟩ := hI
      refine lv_iconst (v := 0) hx hb dX12_isEven_41 (by decide) ?_
      refine S_zast hx hb hK hW hS kd_103 (vin (by omega) (by omega)) dX12_isEven_42 (fun G_24 H locs eG_24 hW hS => ?_)
      have hB_G_24 : Bd G_24 := hB_G_21.put (lo := 0) (hi := 1) eG_24 rfl rfl rfl nz_bool.1 nz_bool.2 (hB_G_21.2.put eG_24 rfl)
      have hF := hF.put eG_24 (Or.inl (by decide))
      refine lv_iload_n hx hb dX12_isEven_43 rfl (lv_at hl 3 rfl) ?_
      refine lv_istore (lv' := [(5, .int p0), (4, .int x_5), (3, .int x_6), (0, .ref (a 66)), (1, .int p0), (2, .int p1)]) hx hb dX12_isEven_44 hl (by decide) rfl (fun ls hl => ?_)
      refine loop_N (Inv := fun n H locs ls => ∃ (G_25 : GS) (x_29 : Int32), (n : Int) = 61 - x_29.toInt ∧ (0 ≤ x_29.toInt ∧ x_29.toInt ≤ 61) ∧ Wd D k A a G_25 H ∧ Bd G_25 ∧ Fr [103] [] G G_25 ∧ Fr [103] [] G_24 G_25 ∧ va_S A s.heap H locs ∧ lv_has ls 6 [(5, .int x_29), (4, .int x_5), (3, .int x_6), (0, .ref (a 66)), (1, .int p0), (2, .int p1)]) (fun n_28 H locs ls ih_27 hI => ?_) (61 - p0.toInt : Int).toNat ⟨G_24, p0, (Int.toNat_of_nonneg (by omega)), ⟨by omega, by omega⟩, hW, hB_G_24, hF, Fr.rf, hS, lv_sub hl [0, 1, 2, 3, 4, 5] rfl⟩
      obtain ⟨G_25, x_29, hn_31, f_30, hW, hB_G_25, hF, hq_26, hS, hl⟩ := hI
      refine lv_iload hx hb dX12_isEven_46 (lv_at hl 0 rfl) ?_
      refine lv_iload_n hx hb dX12_isEven_48 rfl (lv_at hl 5 rfl) ?_
      refine W.cut (σ := Unit) (pcJ := 125) (J := fun y H locs ls => ∃ (G_37 : GS), Wd D k A a G_37 H ∧ Bd G_37 ∧ Fr [103] [] G G_37 ∧ Fr [] [] G_25 G_37 ∧ va_S A s.heap H locs ∧ lv_has ls 6 [(4, .int x_5), (3, .int x_6), (0, .ref (a 66)), (1, .int p0), (2, .int p1)]) (stJ := fun _ => []) ?_ (fun hJ_38 => ?_)
      · intro y H locs ls hI
        obtain ⟨G_37, hW, hB_G_37, hF, hq_39, hS, hl⟩ := hI
        refine lv_iload_n hx hb dX12_isEven_125 rfl (lv_at hl 1 rfl) ?_
        refine lv_if_ne (tgt := 157) hx hb dX12_isEven_126 (by decide) (fun c_40 => ?_) (fun c_40 => ?_)
        · have c_40 : x_6.toInt ≠ 0 := xI_ne rfl rfl c_40
          refine lv_iconst (v := 1) hx hb dX12_isEven_157 (by decide) ?_
          refine lv_goto (tgt := 162) hx hb dX12_isEven_158 (by decide) ?_
          refine lv_istore_n (lv' := [(3, .int 1), (4, .int x_5), (0, .ref (a 66)), (1, .int p0), (2, .int p1)]) hx hb dX12_isEven_162 rfl hl (by decide) rfl (fun ls hl => ?_)
          obtain ⟨y_41, ey_41⟩ : ∃ q, q = x_5 + (-1) := ⟨_, rfl⟩
          have ty_41 : y_41.toInt = x_5.toInt + (-1) := xI_add rfl rfl ey_41 (by omega) (by omega)
          refine lv_iinc (v := y_41) (lv' := [(4, .int y_41), (3, .int 1), (0, .ref (a 66)), (1, .int p0), (2, .int p1)]) hx hb dX12_isEven_163 hl (k := 1) rfl (by rw [ey_41]; rfl) (by decide) rfl (fun ls hl => ?_)
          refine lv_goto (tgt := 7) hx hb dX12_isEven_166 (by decide) ?_
          have qc_42 : (1 : Int32).toInt = 1 := rfl
          exact ih_3 (y_41.toInt - (-1) : Int).toNat (by omega) _ _ _ ⟨G_37, y_41, 1, (Int.toNat_of_nonneg (by omega)), ⟨by omega, by omega⟩, ⟨by omega, by omega⟩, hW, hB_G_37, hF, (((((Fr.rf.call hq_2 (by decide) (by decide)).call hq_23 (by decide) (by decide)).put eG_24 (Or.inl (by decide))).call hq_26 (by decide) (by decide)).call hq_39 (by decide) (by decide)), hS, lv_sub hl [0, 1, 2, 3, 4] rfl⟩
        · have c_40 : x_6.toInt = 0 := xI_eq rfl rfl c_40
          refine lv_iload hx hb dX12_isEven_129 (lv_at hl 0 rfl) ?_
          refine lv_aload_n hx hb dX12_isEven_131 rfl (lv_at hl 2 rfl) ?_
          have b_43 : 0 ≤ (G.1 66 62).toInt ∧ (G.1 66 62).toInt ≤ 60 := hB_G.i 66 62 rfl rfl
          refine S_getI (v := (G.1 66 62)) (C := RX12) (T := TX12) (N := 89) hx hb hg iX12 hown hK hW kd_66 rfl 62 (by decide) (hg (Cond.fieldLink RX12 478 "SlabWalkModel" "most" "I") m1376) (fun _ h9 => h9) rfl ((hq_39.i 66 62 (by decide) (by decide)).trans ((hq_26.i 66 62 (by decide) (by decide)).trans ((gp_ne eG_24 (fun q => absurd q.1 (by decide))).trans ((hq_23.i 66 62 (by decide) (by decide)).trans (hq_2.i 66 62 (by decide) (by decide)))))) dX12_isEven_132 ?_
          refine lv_icmp_ge (tgt := 161) hx hb dX12_isEven_135 (by decide) (fun c_44 => ?_) (fun c_44 => ?_)
          · have c_44 : (G.1 66 62).toInt ≤ x_5.toInt := xI_le rfl rfl c_44
            refine lv_iconst (v := 0) hx hb dX12_isEven_161 (by decide) ?_
            refine lv_istore_n (lv' := [(3, .int 0), (4, .int x_5), (0, .ref (a 66)), (1, .int p0), (2, .int p1)]) hx hb dX12_isEven_162 rfl hl (by decide) rfl (fun ls hl => ?_)
            obtain ⟨y_45, ey_45⟩ : ∃ q, q = x_5 + (-1) := ⟨_, rfl⟩
            have ty_45 : y_45.toInt = x_5.toInt + (-1) := xI_add rfl rfl ey_45 (by omega) (by omega)
            refine lv_iinc (v := y_45) (lv' := [(4, .int y_45), (3, .int 0), (0, .ref (a 66)), (1, .int p0), (2, .int p1)]) hx hb dX12_isEven_163 hl (k := 1) rfl (by rw [ey_45]; rfl) (by decide) rfl (fun ls hl => ?_)
            refine lv_goto (tgt := 7) hx hb dX12_isEven_166 (by decide) ?_
            have qc_46 : (0 : Int32).toInt = 0 := rfl
            exact ih_3 (y_45.toInt - (-1) : Int).toNat (by omega) _ _ _ ⟨G_37, y_45, 0, (Int.toNat_of_nonneg (by omega)), ⟨by omega, by omega⟩, ⟨by omega, by omega⟩, hW, hB_G_37, hF, (((((Fr.rf.call hq_2 (by decide) (by decide)).call hq_23 (by decide) (by decide)).put eG_24 (Or.inl (by decide))).call hq_26 (by decide) (by decide)).call hq_39 (by decide) (by decide)), hS, lv_sub hl [0, 1, 2, 3, 4] rfl⟩
          · have c_44 : x_5.toInt < (G.1 66 62).toInt := xI_nle rfl rfl c_44
            refine lv_aload_n hx hb dX12_isEven_138 rfl (lv_at hl 2 rfl) ?_
            refine S_getR (n := 103) (C := RX12) (T := TX12) (N := 89) hx hb hg iX12 hown hK hW kd_66 rfl 69 (by decide) (hg (Cond.fieldLink RX12 130 "SlabWalkModel" "comes" "[Z") m1383) (fun _ h9 => h9) rfl dX12_isEven_139 ?_
            refine lv_iload hx hb dX12_isEven_142 (lv_at hl 0 rfl) ?_
            refine S_zald hx hb hK hW kd_103 (vin (by omega) (by omega)) dX12_isEven_144 (fun y_47 ey_47 => ?_)
            have ty_47 : 0 ≤ y_47.toInt ∧ y_47.toInt ≤ 1 := hB_G_37.v ey_47 rfl rfl
            refine lv_if_eq (tgt := 161) hx hb dX12_isEven_145 (by decide) (fun c_48 => ?_) (fun c_48 => ?_)
            · have c_48 : y_47.toInt = 0 := xI_eq rfl rfl c_48
              refine lv_iconst (v := 0) hx hb dX12_isEven_161 (by decide) ?_
              refine lv_istore_n (lv' := [(3, .int 0), (4, .int x_5), (0, .ref (a 66)), (1, .int p0), (2, .int p1)]) hx hb dX12_isEven_162 rfl hl (by decide) rfl (fun ls hl => ?_)
              obtain ⟨y_49, ey_49⟩ : ∃ q, q = x_5 + (-1) := ⟨_, rfl⟩
              have ty_49 : y_49.toInt = x_5.toInt + (-1) := xI_add rfl rfl ey_49 (by omega) (by omega)
              refine lv_iinc (v := y_49) (lv' := [(4, .int y_49), (3, .int 0), (0, .ref (a 66)), (1, .int p0), (2, .int p1)]) hx hb dX12_isEven_163 hl (k := 1) rfl (by rw [ey_49]; rfl) (by decide) rfl (fun ls hl => ?_)
              refine lv_goto (tgt := 7) hx hb dX12_isEven_166 (by decide) ?_
              have qc_50 : (0 : Int32).toInt = 0 := rfl
              exact ih_3 (y_49.toInt - (-1) : Int).toNat (by omega) _ _ _ ⟨G_37, y_49, 0, (Int.toNat_of_nonneg (by omega)), ⟨by omega, by omega⟩, ⟨by omega, by omega⟩, hW, hB_G_37, hF, (((((Fr.rf.call hq_2 (by decide) (by decide)).call hq_23 (by decide) (by decide)).put eG_24 (Or.inl (by decide))).call hq_26 (by decide) (by decide)).call hq_39 (by decide) (by decide)), hS, lv_sub hl [0, 1, 2, 3, 4] rfl⟩
            · have c_48 : y_47.toInt ≠ 0 := xI_ne rfl rfl c_48
              refine lv_aload_n hx hb dX12_isEven_148 rfl (lv_at hl 2 rfl) ?_
              refine lv_iload hx hb dX12_isEven_149 (lv_at hl 0 rfl) ?_
              have b_51 : 0 ≤ (G.1 66 59).toInt ∧ (G.1 66 59).toInt ≤ 400 := hB_G.i 66 59 rfl rfl
              have g_52 : (G_37.1 66 59).toInt = (G.1 66 59).toInt := by rw [show G_37.1 66 59 = (G.1 66 59) from ((hq_39.i 66 59 (by decide) (by decide)).trans ((hq_26.i 66 59 (by decide) (by decide)).trans ((gp_ne eG_24 (fun q => absurd q.1 (by decide))).trans ((hq_23.i 66 59 (by decide) (by decide)).trans (hq_2.i 66 59 (by decide) (by decide))))))]
              have b_53 : 0 ≤ (G.1 66 60).toInt ∧ (G.1 66 60).toInt ≤ 12 := hB_G.i 66 60 rfl rfl
              have g_54 : (G_37.1 66 60).toInt = (G.1 66 60).toInt := by rw [show G_37.1 66 60 = (G.1 66 60) from ((hq_39.i 66 60 (by decide) (by decide)).trans ((hq_26.i 66 60 (by decide) (by decide)).trans ((gp_ne eG_24 (fun q => absurd q.1 (by decide))).trans ((hq_23.i 66 60 (by decide) (by decide)).trans (hq_2.i 66 60 (by decide) (by decide))))))]
              have g_55 : (G_37.1 66 62).toInt = (G.1 66 62).toInt := by rw [show G_37.1 66 62 = (G.1 66 62) from ((hq_39.i 66 62 (by decide) (by decide)).trans ((hq_26.i 66 62 (by decide) (by decide)).trans ((gp_ne eG_24 (fun q => absurd q.1 (by decide))).trans ((hq_23.i 66 62 (by decide) (by decide)).trans ((hq_2.i 66 62 (by decide) (by decide)).trans (rfl))))))]
              refine S_calli (va_runV (As := [.int x_5]) (rest := []) ⟨hx, hb, hml, hown, hts⟩ (n_isEnd l D k A a z G_37 x_5 ⟨by omega, by omega⟩) (cwV 1 hts (gd_V hgd m1854 m1856 m95 m131 m1857) rfl rfl rfl (by decide +kernel) ⟨Nat.le_of_ble_eq_true rfl, Nat.le_of_ble_eq_true rfl⟩) (pre_V hW hB_G_37 hK hZ hS kd_66 rfl) rfl rfl hl.1 rfl (lv_room (Nat.le_of_ble_eq_true rfl)) dX12_isEven_151 ⟨Nat.le_of_ble_eq_true rfl, Nat.le_of_ble_eq_true rfl⟩) hS (fun r_56 G_57 H locs hpo hW hS => ?_)
              obtain ⟨hB_G_57, hq_58, f_60, hp_59⟩ := hpo
              have hF := hF.call hq_58 (by decide) (by decide)
              refine lv_if_ne (tgt := 161) hx hb dX12_isEven_154 (by decide) (fun c_61 => ?_) (fun c_61 => ?_)
              · have c_61 : r_56.toInt ≠ 0 := xI_ne rfl rfl c_61
                refine lv_iconst (v := 0) hx hb dX12_isEven_161 (by decide) ?_
                refine lv_istore_n (lv' := [(3, .int 0), (4, .int x_5), (0, .ref (a 66)), (1, .int p0), (2, .int p1)]) hx hb dX12_isEven_162 rfl hl (by decide) rfl (fun ls hl => ?_)
                obtain ⟨y_62, ey_62⟩ : ∃ q, q = x_5 + (-1) := ⟨_, rfl⟩
                have ty_62 : y_62.toInt = x_5.toInt + (-1) := xI_add rfl rfl ey_62 (by omega) (by omega)
                refine lv_iinc (v := y_62) (lv' := [(4, .int y_62), (3, .int 0), (0, .ref (a 66)), (1, .int p0), (2, .int p1)]) hx hb dX12_isEven_163 hl (k := 1) rfl (by rw [ey_62]; rfl) (by decide) rfl (fun ls hl => ?_)
                refine lv_goto (tgt := 7) hx hb dX12_isEven_166 (by decide) ?_
                have qc_63 : (0 : Int32).toInt = 0 := rfl
                exact ih_3 (y_62.toInt - (-1) : Int).toNat (by omega) _ _ _ ⟨G_57, y_62, 0, (Int.toNat_of_nonneg (by omega)), ⟨by omega, by omega⟩, ⟨by omega, by omega⟩, hW, hB_G_57, hF, ((((((Fr.rf.call hq_2 (by decide) (by decide)).call hq_23 (by decide) (by decide)).put eG_24 (Or.inl (by decide))).call hq_26 (by decide) (by decide)).call hq_39 (by decide) (by decide)).call hq_58 (by decide) (by decide)), hS, lv_sub hl [0, 1, 2, 3, 4] rfl⟩
              · have c_61 : r_56.toInt = 0 := xI_eq rfl rfl c_61
                refine lv_iconst (v := 1) hx hb dX12_isEven_157 (by decide) ?_
                refine lv_goto (tgt := 162) hx hb dX12_isEven_158 (by decide) ?_
                refine lv_istore_n (lv' := [(3, .int 1), (4, .int x_5), (0, .ref (a 66)), (1, .int p0), (2, .int p1)]) hx hb dX12_isEven_162 rfl hl (by decide) rfl (fun ls hl => ?_)
                obtain ⟨y_64, ey_64⟩ : ∃ q, q = x_5 + (-1) := ⟨_, rfl⟩
                have ty_64 : y_64.toInt = x_5.toInt + (-1) := xI_add rfl rfl ey_64 (by omega) (by omega)
                refine lv_iinc (v := y_64) (lv' := [(4, .int y_64), (3, .int 1), (0, .ref (a 66)), (1, .int p0), (2, .int p1)]) hx hb dX12_isEven_163 hl (k := 1) rfl (by rw [ey_64]; rfl) (by decide) rfl (fun ls hl => ?_)
                refine lv_goto (tgt := 7) hx hb dX12_isEven_166 (by decide) ?_
                have qc_65 : (1 : Int32).toInt = 1 := rfl
                exact ih_3 (y_64.toInt - (-1) : Int).toNat (by omega) _ _ _ ⟨G_57, y_64, 1, (Int.toNat_of_nonneg (by omega)), ⟨by omega, by omega⟩, ⟨by omega, by omega⟩, hW, hB_G_57, hF, ((((((Fr.rf.call hq_2 (by decide) (by decide)).call hq_23 (by decide) (by decide)).put eG_24 (Or.inl (by decide))).call hq_26 (by decide) (by decide)).call hq_39 (by decide) (by decide)).call hq_58 (by decide) (by decide)), hS, lv_sub hl [0, 1, 2, 3, 4] rfl⟩
      refine lv_icmp_gt (tgt := 125) hx hb dX12_isEven_49 (by decide) (fun c_66 => ?_) (fun c_66 => ?_)
      · have c_66 : p1.toInt < x_29.toInt := xI_lt rfl rfl c_66
        exact hJ_38 () _ _ _ ⟨G_25, hW, hB_G_25, hF, Fr.rf, hS, lv_sub hl [1, 2, 3, 4, 5] rfl⟩
      · have c_66 : x_29.toInt ≤ p1.toInt := xI_nlt rfl rfl c_66
        refine lv_aload_n hx hb dX12_isEven_52 rfl (lv_at hl 3 rfl) ?_
        refine S_getR (n := 98) (C := RX12) (T := TX12) (N := 89) hx hb hg iX12 hown hK hW kd_66 rfl 58 (by decide) (hg (Cond.fieldLink RX12 115 "SlabWalkModel" "lawful" "[Z") m1372) (fun _ h9 => h9) rfl dX12_isEven_53 ?_
        refine lv_iload hx hb dX12_isEven_56 (lv_at hl 1 rfl) ?_
        refine S_zald hx hb hK hW kd_98 (vin (by omega) (by omega)) dX12_isEven_58 (fun y_67 ey_67 => ?_)
        have ty_67 := hB_G_25.law ey_67
        refine lv_if_eq (tgt := 125) hx hb dX12_isEven_59 (by decide) (fun c_68 => ?_) (fun c_68 => ?_)
        · have c_68 : y_67.toInt = 0 := xI_eq rfl rfl c_68
          exact hJ_38 () _ _ _ ⟨G_25, hW, hB_G_25, hF, Fr.rf, hS, lv_sub hl [1, 2, 3, 4, 5] rfl⟩
        · have c_68 : y_67.toInt ≠ 0 := xI_ne rfl rfl c_68
          refine lv_aload_n hx hb dX12_isEven_62 rfl (lv_at hl 3 rfl) ?_
          refine lv_iload hx hb dX12_isEven_63 (lv_at hl 1 rfl) ?_
          have b_69 : 0 ≤ (G.1 66 59).toInt ∧ (G.1 66 59).toInt ≤ 400 := hB_G.i 66 59 rfl rfl
          have g_70 : (G_25.1 66 59).toInt = (G.1 66 59).toInt := by rw [show G_25.1 66 59 = (G.1 66 59) from ((hq_26.i 66 59 (by decide) (by decide)).trans ((gp_ne eG_24 (fun q => absurd q.1 (by decide))).trans ((hq_23.i 66 59 (by decide) (by decide)).trans (hq_2.i 66 59 (by decide) (by decide)))))]
          have b_71 : 0 ≤ (G.1 66 60).toInt ∧ (G.1 66 60).toInt ≤ 12 := hB_G.i 66 60 rfl rfl
          have g_72 : (G_25.1 66 60).toInt = (G.1 66 60).toInt := by rw [show G_25.1 66 60 = (G.1 66 60) from ((hq_26.i 66 60 (by decide) (by decide)).trans ((gp_ne eG_24 (fun q => absurd q.1 (by decide))).trans ((hq_23.i 66 60 (by decide) (by decide)).trans (hq_2.i 66 60 (by decide) (by decide)))))]
          have b_73 : 0 ≤ (G.1 66 62).toInt ∧ (G.1 66 62).toInt ≤ 60 := hB_G.i 66 62 rfl rfl
          have g_74 : (G_25.1 66 62).toInt = (G.1 66 62).toInt := by rw [show G_25.1 66 62 = (G.1 66 62) from ((hq_26.i 66 62 (by decide) (by decide)).trans ((gp_ne eG_24 (fun q => absurd q.1 (by decide))).trans ((hq_23.i 66 62 (by decide) (by decide)).trans (hq_2.i 66 62 (by decide) (by decide)))))]
          refine S_calli (va_runV (As := [.int x_5]) (rest := []) ⟨hx, hb, hml, hown, hts⟩ (n_isEnd l D k A a z G_25 x_5 ⟨by omega, by omega⟩) (cwV 1 hts (gd_V hgd m1854 m1856 m95 m131 m1857) rfl rfl rfl (by decide +kernel) ⟨Nat.le_of_ble_eq_true rfl, Nat.le_of_ble_eq_true rfl⟩) (pre_V hW hB_G_25 hK hZ hS kd_66 rfl) rfl rfl hl.1 rfl (lv_room (Nat.le_of_ble_eq_true rfl)) dX12_isEven_65 ⟨Nat.le_of_ble_eq_true rfl, Nat.le_of_ble_eq_true rfl⟩) hS (fun r_75 G_76 H locs hpo hW hS => ?_)
          obtain ⟨hB_G_76, hq_77, f_79, hp_78⟩ := hpo
          have hF := hF.call hq_77 (by decide) (by decide)
          refine lv_if_ne (tgt := 125) hx hb dX12_isEven_68 (by decide) (fun c_80 => ?_) (fun c_80 => ?_)
          · have c_80 : r_75.toInt ≠ 0 := xI_ne rfl rfl c_80
            exact hJ_38 () _ _ _ ⟨G_76, hW, hB_G_76, hF, (Fr.rf.call hq_77 (by decide) (by decide)), hS, lv_sub hl [1, 2, 3, 4, 5] rfl⟩
          · have c_80 : r_75.toInt = 0 := xI_eq rfl rfl c_80
            refine lv_aload_n hx hb dX12_isEven_71 rfl (lv_at hl 3 rfl) ?_
            refine S_getR (n := 103) (C := RX12) (T := TX12) (N := 89) hx hb hg iX12 hown hK hW kd_66 rfl 69 (by decide) (hg (Cond.fieldLink RX12 130 "SlabWalkModel" "comes" "[Z") m1383) (fun _ h9 => h9) rfl dX12_isEven_72 ?_
            refine lv_iload hx hb dX12_isEven_75 (lv_at hl 1 rfl) ?_
            refine S_zald hx hb hK hW kd_103 (vin (by omega) (by omega)) dX12_isEven_77 (fun y_81 ey_81 => ?_)
            have ty_81 : 0 ≤ y_81.toInt ∧ y_81.toInt ≤ 1 := hB_G_76.v ey_81 rfl rfl
            refine lv_if_ne (tgt := 125) hx hb dX12_isEven_78 (by decide) (fun c_82 => ?_) (fun c_82 => ?_)
            · have c_82 : y_81.toInt ≠ 0 := xI_ne rfl rfl c_82
              exact hJ_38 () _ _ _ ⟨G_76, hW, hB_G_76, hF, (Fr.rf.call hq_77 (by decide) (by decide)), hS, lv_sub hl [1, 2, 3, 4, 5] rfl⟩
            · have c_82 : y_81.toInt = 0 := xI_eq rfl rfl c_82
              refine lv_aload_n hx hb dX12_isEven_81 rfl (lv_at hl 3 rfl) ?_
              refine S_getR (n := 103) (C := RX12) (T := TX12) (N := 89) hx hb hg iX12 hown hK hW kd_66 rfl 69 (by decide) (hg (Cond.fieldLink RX12 130 "SlabWalkModel" "comes" "[Z") m1383) (fun _ h9 => h9) rfl dX12_isEven_82 ?_
              refine lv_iload hx hb dX12_isEven_85 (lv_at hl 1 rfl) ?_
              refine lv_aload_n hx hb dX12_isEven_87 rfl (lv_at hl 3 rfl) ?_
              refine S_getR (n := 98) (C := RX12) (T := TX12) (N := 89) hx hb hg iX12 hown hK hW kd_66 rfl 58 (by decide) (hg (Cond.fieldLink RX12 115 "SlabWalkModel" "lawful" "[Z") m1372) (fun _ h9 => h9) rfl dX12_isEven_88 ?_
              refine lv_iload hx hb dX12_isEven_91 (lv_at hl 1 rfl) ?_
              refine lv_iload hx hb dX12_isEven_93 (lv_at hl 0 rfl) ?_
              refine lv_iadd hx hb dX12_isEven_95 ?_
              refine lv_topi (fun y_83 ey_83 => ?_)
              have ty_83 : y_83.toInt = x_5.toInt + x_29.toInt := xI_add rfl rfl ey_83 (by omega) (by omega)
              refine S_zald hx hb hK hW kd_98 (vin (by omega) (by omega)) dX12_isEven_96 (fun y_84 ey_84 => ?_)
              have ty_84 := hB_G_76.law ey_84
              refine lv_if_eq (tgt := 117) hx hb dX12_isEven_97 (by decide) (fun c_85 => ?_) (fun c_85 => ?_)
              · have c_85 : y_84.toInt = 0 := xI_eq rfl rfl c_85
                refine lv_iconst (v := 0) hx hb dX12_isEven_117 (by decide) ?_
                refine S_zast hx hb hK hW hS kd_103 (vin (by omega) (by omega)) dX12_isEven_118 (fun G_86 H locs eG_86 hW hS => ?_)
                have hB_G_86 : Bd G_86 := hB_G_76.put (lo := 0) (hi := 1) eG_86 rfl rfl rfl nz_bool.1 nz_bool.2 (hB_G_76.2.put eG_86 rfl)
                have hF := hF.put eG_86 (Or.inl (by decide))
                obtain ⟨y_87, ey_87⟩ : ∃ q, q = x_29 + 1 := ⟨_, rfl⟩
                have ty_87 : y_87.toInt = x_29.toInt + 1 := xI_add rfl rfl ey_87 (by omega) (by omega)
                refine lv_iinc (v := y_87) (lv' := [(5, .int y_87), (4, .int x_5), (3, .int x_6), (0, .ref (a 66)), (1, .int p0), (2, .int p1)]) hx hb dX12_isEven_119 hl (k := 0) rfl (by rw [ey_87]; rfl) (by decide) rfl (fun ls hl => ?_)
                refine lv_goto (tgt := 46) hx hb dX12_isEven_122 (by decide) ?_
                exact ih_27 (61 - y_87.toInt : Int).toNat (by omega) _ _ _ ⟨G_86, y_87, (Int.toNat_of_nonneg (by omega)), ⟨by omega, by omega⟩, hW, hB_G_86, hF, (((Fr.rf.call hq_26 (by decide) (by decide)).call hq_77 (by decide) (by decide)).put eG_86 (Or.inl (by decide))), hS, lv_sub hl [0, 1, 2, 3, 4, 5] rfl⟩
              · have c_85 : y_84.toInt ≠ 0 := xI_ne rfl rfl c_85
                refine lv_aload_n hx hb dX12_isEven_100 rfl (lv_at hl 3 rfl) ?_
                refine S_getR (n := 103) (C := RX12) (T := TX12) (N := 89) hx hb hg iX12 hown hK hW kd_66 rfl 69 (by decide) (hg (Cond.fieldLink RX12 130 "SlabWalkModel" "comes" "[Z") m1383) (fun _ h9 => h9) rfl dX12_isEven_101 ?_
                refine lv_iload hx hb dX12_isEven_104 (lv_at hl 1 rfl) ?_
                refine lv_iload hx hb dX12_isEven_106 (lv_at hl 0 rfl) ?_
                refine lv_iadd hx hb dX12_isEven_108 ?_
                refine lv_topi (fun y_88 ey_88 => ?_)
                have ty_88 : y_88.toInt = x_5.toInt + x_29.toInt := xI_add rfl rfl ey_88 (by omega) (by omega)
                refine S_zald hx hb hK hW kd_103 (vin (by omega) (by omega)) dX12_isEven_109 (fun y_89 ey_89 => ?_)
                have ty_89 : 0 ≤ y_89.toInt ∧ y_89.toInt ≤ 1 := hB_G_76.v ey_89 rfl rfl
                refine lv_if_eq (tgt := 117) hx hb dX12_isEven_110 (by decide) (fun c_90 => ?_) (fun c_90 => ?_)
                · have c_90 : y_89.toInt = 0 := xI_eq rfl rfl c_90
                  refine lv_iconst (v := 0) hx hb dX12_isEven_117 (by decide) ?_
                  refine S_zast hx hb hK hW hS kd_103 (vin (by omega) (by omega)) dX12_isEven_118 (fun G_91 H locs eG_91 hW hS => ?_)
                  have hB_G_91 : Bd G_91 := hB_G_76.put (lo := 0) (hi := 1) eG_91 rfl rfl rfl nz_bool.1 nz_bool.2 (hB_G_76.2.put eG_91 rfl)
                  have hF := hF.put eG_91 (Or.inl (by decide))
                  obtain ⟨y_92, ey_92⟩ : ∃ q, q = x_29 + 1 := ⟨_, rfl⟩
                  have ty_92 : y_92.toInt = x_29.toInt + 1 := xI_add rfl rfl ey_92 (by omega) (by omega)
                  refine lv_iinc (v := y_92) (lv' := [(5, .int y_92), (4, .int x_5), (3, .int x_6), (0, .ref (a 66)), (1, .int p0), (2, .int p1)]) hx hb dX12_isEven_119 hl (k := 0) rfl (by rw [ey_92]; rfl) (by decide) rfl (fun ls hl => ?_)
                  refine lv_goto (tgt := 46) hx hb dX12_isEven_122 (by decide) ?_
                  exact ih_27 (61 - y_92.toInt : Int).toNat (by omega) _ _ _ ⟨G_91, y_92, (Int.toNat_of_nonneg (by omega)), ⟨by omega, by omega⟩, hW, hB_G_91, hF, (((Fr.rf.call hq_26 (by decide) (by decide)).call hq_77 (by decide) (by decide)).put eG_91 (Or.inl (by decide))), hS, lv_sub hl [0, 1, 2, 3, 4, 5] rfl⟩
                · have c_90 : y_89.toInt ≠ 0 := xI_ne rfl rfl c_90
                  refine lv_iconst (v := 1) hx hb dX12_isEven_113 (by decide) ?_
                  refine lv_goto (tgt := 118) hx hb dX12_isEven_114 (by decide) ?_
                  refine S_zast hx hb hK hW hS kd_103 (vin (by omega) (by omega)) dX12_isEven_118 (fun G_93 H locs eG_93 hW hS => ?_)
                  have hB_G_93 : Bd G_93 := hB_G_76.put (lo := 0) (hi := 1) eG_93 rfl rfl rfl nz_bool.1 nz_bool.2 (hB_G_76.2.put eG_93 rfl)
                  have hF := hF.put eG_93 (Or.inl (by decide))
                  obtain ⟨y_94, ey_94⟩ : ∃ q, q = x_29 + 1 := ⟨_, rfl⟩
                  have ty_94 : y_94.toInt = x_29.toInt + 1 := xI_add rfl rfl ey_94 (by omega) (by omega)
                  refine lv_iinc (v := y_94) (lv' := [(5, .int y_94), (4, .int x_5), (3, .int x_6), (0, .ref (a 66)), (1, .int p0), (2, .int p1)]) hx hb dX12_isEven_119 hl (k := 0) rfl (by rw [ey_94]; rfl) (by decide) rfl (fun ls hl => ?_)
                  refine lv_goto (tgt := 46) hx hb dX12_isEven_122 (by decide) ?_
                  exact ih_27 (61 - y_94.toInt : Int).toNat (by omega) _ _ _ ⟨G_93, y_94, (Int.toNat_of_nonneg (by omega)), ⟨by omega, by omega⟩, hW, hB_G_93, hF, (((Fr.rf.call hq_26 (by decide) (by decide)).call hq_77 (by decide) (by decide)).put eG_93 (Or.inl (by decide))), hS, lv_sub hl [0, 1, 2, 3, 4, 5] rfl⟩
    refine lv_if_eq (tgt := 41) hx hb dX12_isEven_25 (by decide) (fun c_95 => ?_) (fun c_95 => ?_)
    · have c_95 : y_13.toInt = 0 := xI_eq rfl rfl c_95
      exact hJ_22 () _ _ _ ⟨G_1, hW, hB_G_1, hF, Fr.rf, hS, lv_sub hl [0, 1, 2, 3, 4] rfl⟩
    · have c_95 : y_13.toInt ≠ 0 := xI_ne rfl rfl c_95
      refine lv_aload_n hx hb dX12_isEven_28 rfl (lv_at hl 2 rfl) ?_
      refine lv_iload hx hb dX12_isEven_29 (lv_at hl 0 rfl) ?_
      have b_96 : 0 ≤ (G.1 66 59).toInt ∧ (G.1 66 59).toInt ≤ 400 := hB_G.i 66 59 rfl rfl
      have g_97 : (G_1.1 66 59).toInt = (G.1 66 59).toInt := by rw [show G_1.1 66 59 = (G.1 66 59) from (hq_2.i 66 59 (by decide) (by decide))]
      have b_98 : 0 ≤ (G.1 66 60).toInt ∧ (G.1 66 60).toInt ≤ 12 := hB_G.i 66 60 rfl rfl
      have g_99 : (G_1.1 66 60).toInt = (G.1 66 60).toInt := by rw [show G_1.1 66 60 = (G.1 66 60) from (hq_2.i 66 60 (by decide) (by decide))]
      have b_100 : 0 ≤ (G.1 66 62).toInt ∧ (G.1 66 62).toInt ≤ 60 := hB_G.i 66 62 rfl rfl
      have g_101 : (G_1.1 66 62).toInt = (G.1 66 62).toInt := by rw [show G_1.1 66 62 = (G.1 66 62) from (hq_2.i 66 62 (by decide) (by decide))]
      refine S_calli (va_runV (As := [.int x_5]) (rest := [.int x_5, .ref (a 103)]) ⟨hx, hb, hml, hown, hts⟩ (n_isEnd l D k A a z G_1 x_5 ⟨by omega, by omega⟩) (cwV 1 hts (gd_V hgd m1854 m1856 m95 m131 m1857) rfl rfl rfl (by decide +kernel) ⟨Nat.le_of_ble_eq_true rfl, Nat.le_of_ble_eq_true rfl⟩) (pre_V hW hB_G_1 hK hZ hS kd_66 rfl) rfl rfl hl.1 rfl (lv_room (Nat.le_of_ble_eq_true rfl)) dX12_isEven_31 ⟨Nat.le_of_ble_eq_true rfl, Nat.le_of_ble_eq_true rfl⟩) hS (fun r_102 G_103 H locs hpo hW hS => ?_)
      obtain ⟨hB_G_103, hq_104, f_106, hp_105⟩ := hpo
      have hF := hF.call hq_104 (by decide) (by decide)
      refine lv_if_eq (tgt := 41) hx hb dX12_isEven_34 (by decide) (fun c_107 => ?_) (fun c_107 => ?_)
      · have c_107 : r_102.toInt = 0 := xI_eq rfl rfl c_107
        exact hJ_22 () _ _ _ ⟨G_103, hW, hB_G_103, hF, (Fr.rf.call hq_104 (by decide) (by decide)), hS, lv_sub hl [0, 1, 2, 3, 4] rfl⟩
      · have c_107 : r_102.toInt ≠ 0 := xI_ne rfl rfl c_107
        refine lv_iconst (v := 1) hx hb dX12_isEven_37 (by decide) ?_
        refine lv_goto (tgt := 42) hx hb dX12_isEven_38 (by decide) ?_
        refine S_zast hx hb hK hW hS kd_103 (vin (by omega) (by omega)) dX12_isEven_42 (fun G_108 H locs eG_108 hW hS => ?_)
        have hB_G_108 : Bd G_108 := hB_G_103.put (lo := 0) (hi := 1) eG_108 rfl rfl rfl nz_bool.1 nz_bool.2 (hB_G_103.2.put eG_108 rfl)
        have hF := hF.put eG_108 (Or.inl (by decide))
        refine lv_iload_n hx hb dX12_isEven_43 rfl (lv_at hl 3 rfl) ?_
        refine lv_istore (lv' := [(5, .int p0), (4, .int x_5), (3, .int x_6), (0, .ref (a 66)), (1, .int p0), (2, .int p1)]) hx hb dX12_isEven_44 hl (by decide) rfl (fun ls hl => ?_)
        refine loop_N (Inv := fun n H locs ls => ∃ (G_109 : GS) (x_113 : Int32), (n : Int) = 61 - x_113.toInt ∧ (0 ≤ x_113.toInt ∧ x_113.toInt ≤ 61) ∧ Wd D k A a G_109 H ∧ Bd G_109 ∧ Fr [103] [] G G_109 ∧ Fr [103] [] G_108 G_109 ∧ va_S A s.heap H locs ∧ lv_has ls 6 [(5, .int x_113), (4, .int x_5), (3, .int x_6), (0, .ref (a 66)), (1, .int p0), (2, .int p1)]) (fun n_112 H locs ls ih_111 hI => ?_) (61 - p0.toInt : Int).toNat ⟨G_108, p0, (Int.toNat_of_nonneg (by omega)), ⟨by omega, by omega⟩, hW, hB_G_108, hF, Fr.rf, hS, lv_sub hl [0, 1, 2, 3, 4, 5] rfl⟩
        obtain ⟨G_109, x_113, hn_115, f_114, hW, hB_G_109, hF, hq_110, hS, hl⟩ := hI
        refine lv_iload hx hb dX12_isEven_46 (lv_at hl 0 rfl) ?_
        refine lv_iload_n hx hb dX12_isEven_48 rfl (lv_at hl 5 rfl) ?_
        refine W.cut (σ := Unit) (pcJ := 125) (J := fun y H locs ls => ∃ (G_121 : GS), Wd D k A a G_121 H ∧ Bd G_121 ∧ Fr [103] [] G G_121 ∧ Fr [] [] G_109 G_121 ∧ va_S A s.heap H locs ∧ lv_has ls 6 [(4, .int x_5), (3, .int x_6), (0, .ref (a 66)), (1, .int p0), (2, .int p1)]) (stJ := fun _ => []) ?_ (fun hJ_122 => ?_)
        · intro y H locs ls hI
          obtain ⟨G_121, hW, hB_G_121, hF, hq_123, hS, hl⟩ := hI
          refine lv_iload_n hx hb dX12_isEven_125 rfl (lv_at hl 1 rfl) ?_
          refine lv_if_ne (tgt := 157) hx hb dX12_isEven_126 (by decide) (fun c_124 => ?_) (fun c_124 => ?_)
          · have c_124 : x_6.toInt ≠ 0 := xI_ne rfl rfl c_124
            refine lv_iconst (v := 1) hx hb dX12_isEven_157 (by decide) ?_
            refine lv_goto (tgt := 162) hx hb dX12_isEven_158 (by decide) ?_
            refine lv_istore_n (lv' := [(3, .int 1), (4, .int x_5), (0, .ref (a 66)), (1, .int p0), (2, .int p1)]) hx hb dX12_isEven_162 rfl hl (by decide) rfl (fun ls hl => ?_)
            obtain ⟨y_125, ey_125⟩ : ∃ q, q = x_5 + (-1) := ⟨_, rfl⟩
            have ty_125 : y_125.toInt = x_5.toInt + (-1) := xI_add rfl rfl ey_125 (by omega) (by omega)
            refine lv_iinc (v := y_125) (lv' := [(4, .int y_125), (3, .int 1), (0, .ref (a 66)), (1, .int p0), (2, .int p1)]) hx hb dX12_isEven_163 hl (k := 1) rfl (by rw [ey_125]; rfl) (by decide) rfl (fun ls hl => ?_)
            refine lv_goto (tgt := 7) hx hb dX12_isEven_166 (by decide) ?_
            have qc_126 : (1 : Int32).toInt = 1 := rfl
            exact ih_3 (y_125.toInt - (-1) : Int).toNat (by omega) _ _ _ ⟨G_121, y_125, 1, (Int.toNat_of_nonneg (by omega)), ⟨by omega, by omega⟩, ⟨by omega, by omega⟩, hW, hB_G_121, hF, (((((Fr.rf.call hq_2 (by decide) (by decide)).call hq_104 (by decide) (by decide)).put eG_108 (Or.inl (by decide))).call hq_110 (by decide) (by decide)).call hq_123 (by decide) (by decide)), hS, lv_sub hl [0, 1, 2, 3, 4] rfl⟩
          · have c_124 : x_6.toInt = 0 := xI_eq rfl rfl c_124
            refine lv_iload hx hb dX12_isEven_129 (lv_at hl 0 rfl) ?_
            refine lv_aload_n hx hb dX12_isEven_131 rfl (lv_at hl 2 rfl) ?_
            refine S_getI (v := (G.1 66 62)) (C := RX12) (T := TX12) (N := 89) hx hb hg iX12 hown hK hW kd_66 rfl 62 (by decide) (hg (Cond.fieldLink RX12 478 "SlabWalkModel" "most" "I") m1376) (fun _ h9 => h9) rfl ((hq_123.i 66 62 (by decide) (by decide)).trans ((hq_110.i 66 62 (by decide) (by decide)).trans ((gp_ne eG_108 (fun q => absurd q.1 (by decide))).trans ((hq_104.i 66 62 (by decide) (by decide)).trans ((hq_2.i 66 62 (by decide) (by decide)).trans (rfl)))))) dX12_isEven_132 ?_
            refine lv_icmp_ge (tgt := 161) hx hb dX12_isEven_135 (by decide) (fun c_127 => ?_) (fun c_127 => ?_)
            · have c_127 : (G.1 66 62).toInt ≤ x_5.toInt := xI_le rfl rfl c_127
              refine lv_iconst (v := 0) hx hb dX12_isEven_161 (by decide) ?_
              refine lv_istore_n (lv' := [(3, .int 0), (4, .int x_5), (0, .ref (a 66)), (1, .int p0), (2, .int p1)]) hx hb dX12_isEven_162 rfl hl (by decide) rfl (fun ls hl => ?_)
              obtain ⟨y_128, ey_128⟩ : ∃ q, q = x_5 + (-1) := ⟨_, rfl⟩
              have ty_128 : y_128.toInt = x_5.toInt + (-1) := xI_add rfl rfl ey_128 (by omega) (by omega)
              refine lv_iinc (v := y_128) (lv' := [(4, .int y_128), (3, .int 0), (0, .ref (a 66)), (1, .int p0), (2, .int p1)]) hx hb dX12_isEven_163 hl (k := 1) rfl (by rw [ey_128]; rfl) (by decide) rfl (fun ls hl => ?_)
              refine lv_goto (tgt := 7) hx hb dX12_isEven_166 (by decide) ?_
              have qc_129 : (0 : Int32).toInt = 0 := rfl
              exact ih_3 (y_128.toInt - (-1) : Int).toNat (by omega) _ _ _ ⟨G_121, y_128, 0, (Int.toNat_of_nonneg (by omega)), ⟨by omega, by omega⟩, ⟨by omega, by omega⟩, hW, hB_G_121, hF, (((((Fr.rf.call hq_2 (by decide) (by decide)).call hq_104 (by decide) (by decide)).put eG_108 (Or.inl (by decide))).call hq_110 (by decide) (by decide)).call hq_123 (by decide) (by decide)), hS, lv_sub hl [0, 1, 2, 3, 4] rfl⟩
            · have c_127 : x_5.toInt < (G.1 66 62).toInt := xI_nle rfl rfl c_127
              refine lv_aload_n hx hb dX12_isEven_138 rfl (lv_at hl 2 rfl) ?_
              refine S_getR (n := 103) (C := RX12) (T := TX12) (N := 89) hx hb hg iX12 hown hK hW kd_66 rfl 69 (by decide) (hg (Cond.fieldLink RX12 130 "SlabWalkModel" "comes" "[Z") m1383) (fun _ h9 => h9) rfl dX12_isEven_139 ?_
              refine lv_iload hx hb dX12_isEven_142 (lv_at hl 0 rfl) ?_
              refine S_zald hx hb hK hW kd_103 (vin (by omega) (by omega)) dX12_isEven_144 (fun y_130 ey_130 => ?_)
              have ty_130 : 0 ≤ y_130.toInt ∧ y_130.toInt ≤ 1 := hB_G_121.v ey_130 rfl rfl
              refine lv_if_eq (tgt := 161) hx hb dX12_isEven_145 (by decide) (fun c_131 => ?_) (fun c_131 => ?_)
              · have c_131 : y_130.toInt = 0 := xI_eq rfl rfl c_131
                refine lv_iconst (v := 0) hx hb dX12_isEven_161 (by decide) ?_
                refine lv_istore_n (lv' := [(3, .int 0), (4, .int x_5), (0, .ref (a 66)), (1, .int p0), (2, .int p1)]) hx hb dX12_isEven_162 rfl hl (by decide) rfl (fun ls hl => ?_)
                obtain ⟨y_132, ey_132⟩ : ∃ q, q = x_5 + (-1) := ⟨_, rfl⟩
                have ty_132 : y_132.toInt = x_5.toInt + (-1) := xI_add rfl rfl ey_132 (by omega) (by omega)
                refine lv_iinc (v := y_132) (lv' := [(4, .int y_132), (3, .int 0), (0, .ref (a 66)), (1, .int p0), (2, .int p1)]) hx hb dX12_isEven_163 hl (k := 1) rfl (by rw [ey_132]; rfl) (by decide) rfl (fun ls hl => ?_)
                refine lv_goto (tgt := 7) hx hb dX12_isEven_166 (by decide) ?_
                have qc_133 : (0 : Int32).toInt = 0 := rfl
                exact ih_3 (y_132.toInt - (-1) : Int).toNat (by omega) _ _ _ ⟨G_121, y_132, 0, (Int.toNat_of_nonneg (by omega)), ⟨by omega, by omega⟩, ⟨by omega, by omega⟩, hW, hB_G_121, hF, (((((Fr.rf.call hq_2 (by decide) (by decide)).call hq_104 (by decide) (by decide)).put eG_108 (Or.inl (by decide))).call hq_110 (by decide) (by decide)).call hq_123 (by decide) (by decide)), hS, lv_sub hl [0, 1, 2, 3, 4] rfl⟩
              · have c_131 : y_130.toInt ≠ 0 := xI_ne rfl rfl c_131
                refine lv_aload_n hx hb dX12_isEven_148 rfl (lv_at hl 2 rfl) ?_
                refine lv_iload hx hb dX12_isEven_149 (lv_at hl 0 rfl) ?_
                have g_134 : (G_121.1 66 59).toInt = (G.1 66 59).toInt := by rw [show G_121.1 66 59 = (G.1 66 59) from ((hq_123.i 66 59 (by decide) (by decide)).trans ((hq_110.i 66 59 (by decide) (by decide)).trans ((gp_ne eG_108 (fun q => absurd q.1 (by decide))).trans ((hq_104.i 66 59 (by decide) (by decide)).trans ((hq_2.i 66 59 (by decide) (by decide)).trans (rfl))))))]
                have g_135 : (G_121.1 66 60).toInt = (G.1 66 60).toInt := by rw [show G_121.1 66 60 = (G.1 66 60) from ((hq_123.i 66 60 (by decide) (by decide)).trans ((hq_110.i 66 60 (by decide) (by decide)).trans ((gp_ne eG_108 (fun q => absurd q.1 (by decide))).trans ((hq_104.i 66 60 (by decide) (by decide)).trans ((hq_2.i 66 60 (by decide) (by decide)).trans (rfl))))))]
                have g_136 : (G_121.1 66 62).toInt = (G.1 66 62).toInt := by rw [show G_121.1 66 62 = (G.1 66 62) from ((hq_123.i 66 62 (by decide) (by decide)).trans ((hq_110.i 66 62 (by decide) (by decide)).trans ((gp_ne eG_108 (fun q => absurd q.1 (by decide))).trans ((hq_104.i 66 62 (by decide) (by decide)).trans ((hq_2.i 66 62 (by decide) (by decide)).trans (rfl))))))]
                refine S_calli (va_runV (As := [.int x_5]) (rest := []) ⟨hx, hb, hml, hown, hts⟩ (n_isEnd l D k A a z G_121 x_5 ⟨by omega, by omega⟩) (cwV 1 hts (gd_V hgd m1854 m1856 m95 m131 m1857) rfl rfl rfl (by decide +kernel) ⟨Nat.le_of_ble_eq_true rfl, Nat.le_of_ble_eq_true rfl⟩) (pre_V hW hB_G_121 hK hZ hS kd_66 rfl) rfl rfl hl.1 rfl (lv_room (Nat.le_of_ble_eq_true rfl)) dX12_isEven_151 ⟨Nat.le_of_ble_eq_true rfl, Nat.le_of_ble_eq_true rfl⟩) hS (fun r_137 G_138 H locs hpo hW hS => ?_)
                obtain ⟨hB_G_138, hq_139, f_141, hp_140⟩ := hpo
                have hF := hF.call hq_139 (by decide) (by decide)
                refine lv_if_ne (tgt := 161) hx hb dX12_isEven_154 (by decide) (fun c_142 => ?_) (fun c_142 => ?_)
                · have c_142 : r_137.toInt ≠ 0 := xI_ne rfl rfl c_142
                  refine lv_iconst (v := 0) hx hb dX12_isEven_161 (by decide) ?_
                  refine lv_istore_n (lv' := [(3, .int 0), (4, .int x_5), (0, .ref (a 66)), (1, .int p0), (2, .int p1)]) hx hb dX12_isEven_162 rfl hl (by decide) rfl (fun ls hl => ?_)
                  obtain ⟨y_143, ey_143⟩ : ∃ q, q = x_5 + (-1) := ⟨_, rfl⟩
                  have ty_143 : y_143.toInt = x_5.toInt + (-1) := xI_add rfl rfl ey_143 (by omega) (by omega)
                  refine lv_iinc (v := y_143) (lv' := [(4, .int y_143), (3, .int 0), (0, .ref (a 66)), (1, .int p0), (2, .int p1)]) hx hb dX12_isEven_163 hl (k := 1) rfl (by rw [ey_143]; rfl) (by decide) rfl (fun ls hl => ?_)
                  refine lv_goto (tgt := 7) hx hb dX12_isEven_166 (by decide) ?_
                  have qc_144 : (0 : Int32).toInt = 0 := rfl
                  exact ih_3 (y_143.toInt - (-1) : Int).toNat (by omega) _ _ _ ⟨G_138, y_143, 0, (Int.toNat_of_nonneg (by omega)), ⟨by omega, by omega⟩, ⟨by omega, by omega⟩, hW, hB_G_138, hF, ((((((Fr.rf.call hq_2 (by decide) (by decide)).call hq_104 (by decide) (by decide)).put eG_108 (Or.inl (by decide))).call hq_110 (by decide) (by decide)).call hq_123 (by decide) (by decide)).call hq_139 (by decide) (by decide)), hS, lv_sub hl [0, 1, 2, 3, 4] rfl⟩
                · have c_142 : r_137.toInt = 0 := xI_eq rfl rfl c_142
                  refine lv_iconst (v := 1) hx hb dX12_isEven_157 (by decide) ?_
                  refine lv_goto (tgt := 162) hx hb dX12_isEven_158 (by decide) ?_
                  refine lv_istore_n (lv' := [(3, .int 1), (4, .int x_5), (0, .ref (a 66)), (1, .int p0), (2, .int p1)]) hx hb dX12_isEven_162 rfl hl (by decide) rfl (fun ls hl => ?_)
                  obtain ⟨y_145, ey_145⟩ : ∃ q, q = x_5 + (-1) := ⟨_, rfl⟩
                  have ty_145 : y_145.toInt = x_5.toInt + (-1) := xI_add rfl rfl ey_145 (by omega) (by omega)
                  refine lv_iinc (v := y_145) (lv' := [(4, .int y_145), (3, .int 1), (0, .ref (a 66)), (1, .int p0), (2, .int p1)]) hx hb dX12_isEven_163 hl (k := 1) rfl (by rw [ey_145]; rfl) (by decide) rfl (fun ls hl => ?_)
                  refine lv_goto (tgt := 7) hx hb dX12_isEven_166 (by decide) ?_
                  have qc_146 : (1 : Int32).toInt = 1 := rfl
                  exact ih_3 (y_145.toInt - (-1) : Int).toNat (by omega) _ _ _ ⟨G_138, y_145, 1, (Int.toNat_of_nonneg (by omega)), ⟨by omega, by omega⟩, ⟨by omega, by omega⟩, hW, hB_G_138, hF, ((((((Fr.rf.call hq_2 (by decide) (by decide)).call hq_104 (by decide) (by decide)).put eG_108 (Or.inl (by decide))).call hq_110 (by decide) (by decide)).call hq_123 (by decide) (by decide)).call hq_139 (by decide) (by decide)), hS, lv_sub hl [0, 1, 2, 3, 4] rfl⟩
        refine lv_icmp_gt (tgt := 125) hx hb dX12_isEven_49 (by decide) (fun c_147 => ?_) (fun c_147 => ?_)
        · have c_147 : p1.toInt < x_113.toInt := xI_lt rfl rfl c_147
          exact hJ_122 () _ _ _ ⟨G_109, hW, hB_G_109, hF, Fr.rf, hS, lv_sub hl [1, 2, 3, 4, 5] rfl⟩
        · have c_147 : x_113.toInt ≤ p1.toInt := xI_nlt rfl rfl c_147
          refine lv_aload_n hx hb dX12_isEven_52 rfl (lv_at hl 3 rfl) ?_
          refine S_getR (n := 98) (C := RX12) (T := TX12) (N := 89) hx hb hg iX12 hown hK hW kd_66 rfl 58 (by decide) (hg (Cond.fieldLink RX12 115 "SlabWalkModel" "lawful" "[Z") m1372) (fun _ h9 => h9) rfl dX12_isEven_53 ?_
          refine lv_iload hx hb dX12_isEven_56 (lv_at hl 1 rfl) ?_
          refine S_zald hx hb hK hW kd_98 (vin (by omega) (by omega)) dX12_isEven_58 (fun y_148 ey_148 => ?_)
          have ty_148 := hB_G_109.law ey_148
          refine lv_if_eq (tgt := 125) hx hb dX12_isEven_59 (by decide) (fun c_149 => ?_) (fun c_149 => ?_)
          · have c_149 : y_148.toInt = 0 := xI_eq rfl rfl c_149
            exact hJ_122 () _ _ _ ⟨G_109, hW, hB_G_109, hF, Fr.rf, hS, lv_sub hl [1, 2, 3, 4, 5] rfl⟩
          · have c_149 : y_148.toInt ≠ 0 := xI_ne rfl rfl c_149
            refine lv_aload_n hx hb dX12_isEven_62 rfl (lv_at hl 3 rfl) ?_
            refine lv_iload hx hb dX12_isEven_63 (lv_at hl 1 rfl) ?_
            have g_150 : (G_109.1 66 59).toInt = (G.1 66 59).toInt := by rw [show G_109.1 66 59 = (G.1 66 59) from ((hq_110.i 66 59 (by decide) (by decide)).trans ((gp_ne eG_108 (fun q => absurd q.1 (by decide))).trans ((hq_104.i 66 59 (by decide) (by decide)).trans ((hq_2.i 66 59 (by decide) (by decide)).trans (rfl)))))]
            have g_151 : (G_109.1 66 60).toInt = (G.1 66 60).toInt := by rw [show G_109.1 66 60 = (G.1 66 60) from ((hq_110.i 66 60 (by decide) (by decide)).trans ((gp_ne eG_108 (fun q => absurd q.1 (by decide))).trans ((hq_104.i 66 60 (by decide) (by decide)).trans ((hq_2.i 66 60 (by decide) (by decide)).trans (rfl)))))]
            have g_152 : (G_109.1 66 62).toInt = (G.1 66 62).toInt := by rw [show G_109.1 66 62 = (G.1 66 62) from ((hq_110.i 66 62 (by decide) (by decide)).trans ((gp_ne eG_108 (fun q => absurd q.1 (by decide))).trans ((hq_104.i 66 62 (by decide) (by decide)).trans ((hq_2.i 66 62 (by decide) (by decide)).trans (rfl)))))]
            refine S_calli (va_runV (As := [.int x_5]) (rest := []) ⟨hx, hb, hml, hown, hts⟩ (n_isEnd l D k A a z G_109 x_5 ⟨by omega, by omega⟩) (cwV 1 hts (gd_V hgd m1854 m1856 m95 m131 m1857) rfl rfl rfl (by decide +kernel) ⟨Nat.le_of_ble_eq_true rfl, Nat.le_of_ble_eq_true rfl⟩) (pre_V hW hB_G_109 hK hZ hS kd_66 rfl) rfl rfl hl.1 rfl (lv_room (Nat.le_of_ble_eq_true rfl)) dX12_isEven_65 ⟨Nat.le_of_ble_eq_true rfl, Nat.le_of_ble_eq_true rfl⟩) hS (fun r_153 G_154 H locs hpo hW hS => ?_)
            obtain ⟨hB_G_154, hq_155, f_157, hp_156⟩ := hpo
            have hF := hF.call hq_155 (by decide) (by decide)
            refine lv_if_ne (tgt := 125) hx hb dX12_isEven_68 (by decide) (fun c_158 => ?_) (fun c_158 => ?_)
            · have c_158 : r_153.toInt ≠ 0 := xI_ne rfl rfl c_158
              exact hJ_122 () _ _ _ ⟨G_154, hW, hB_G_154, hF, (Fr.rf.call hq_155 (by decide) (by decide)), hS, lv_sub hl [1, 2, 3, 4, 5] rfl⟩
            · have c_158 : r_153.toInt = 0 := xI_eq rfl rfl c_158
              refine lv_aload_n hx hb dX12_isEven_71 rfl (lv_at hl 3 rfl) ?_
              refine S_getR (n := 103) (C := RX12) (T := TX12) (N := 89) hx hb hg iX12 hown hK hW kd_66 rfl 69 (by decide) (hg (Cond.fieldLink RX12 130 "SlabWalkModel" "comes" "[Z") m1383) (fun _ h9 => h9) rfl dX12_isEven_72 ?_
              refine lv_iload hx hb dX12_isEven_75 (lv_at hl 1 rfl) ?_
              refine S_zald hx hb hK hW kd_103 (vin (by omega) (by omega)) dX12_isEven_77 (fun y_159 ey_159 => ?_)
              have ty_159 : 0 ≤ y_159.toInt ∧ y_159.toInt ≤ 1 := hB_G_154.v ey_159 rfl rfl
              refine lv_if_ne (tgt := 125) hx hb dX12_isEven_78 (by decide) (fun c_160 => ?_) (fun c_160 => ?_)
              · have c_160 : y_159.toInt ≠ 0 := xI_ne rfl rfl c_160
                exact hJ_122 () _ _ _ ⟨G_154, hW, hB_G_154, hF, (Fr.rf.call hq_155 (by decide) (by decide)), hS, lv_sub hl [1, 2, 3, 4, 5] rfl⟩
              · have c_160 : y_159.toInt = 0 := xI_eq rfl rfl c_160
                refine lv_aload_n hx hb dX12_isEven_81 rfl (lv_at hl 3 rfl) ?_
                refine S_getR (n := 103) (C := RX12) (T := TX12) (N := 89) hx hb hg iX12 hown hK hW kd_66 rfl 69 (by decide) (hg (Cond.fieldLink RX12 130 "SlabWalkModel" "comes" "[Z") m1383) (fun _ h9 => h9) rfl dX12_isEven_82 ?_
                refine lv_iload hx hb dX12_isEven_85 (lv_at hl 1 rfl) ?_
                refine lv_aload_n hx hb dX12_isEven_87 rfl (lv_at hl 3 rfl) ?_
                refine S_getR (n := 98) (C := RX12) (T := TX12) (N := 89) hx hb hg iX12 hown hK hW kd_66 rfl 58 (by decide) (hg (Cond.fieldLink RX12 115 "SlabWalkModel" "lawful" "[Z") m1372) (fun _ h9 => h9) rfl dX12_isEven_88 ?_
                refine lv_iload hx hb dX12_isEven_91 (lv_at hl 1 rfl) ?_
                refine lv_iload hx hb dX12_isEven_93 (lv_at hl 0 rfl) ?_
                refine lv_iadd hx hb dX12_isEven_95 ?_
                refine lv_topi (fun y_161 ey_161 => ?_)
                have ty_161 : y_161.toInt = x_5.toInt + x_113.toInt := xI_add rfl rfl ey_161 (by omega) (by omega)
                refine S_zald hx hb hK hW kd_98 (vin (by omega) (by omega)) dX12_isEven_96 (fun y_162 ey_162 => ?_)
                have ty_162 := hB_G_154.law ey_162
                refine lv_if_eq (tgt := 117) hx hb dX12_isEven_97 (by decide) (fun c_163 => ?_) (fun c_163 => ?_)
                · have c_163 : y_162.toInt = 0 := xI_eq rfl rfl c_163
                  refine lv_iconst (v := 0) hx hb dX12_isEven_117 (by decide) ?_
                  refine S_zast hx hb hK hW hS kd_103 (vin (by omega) (by omega)) dX12_isEven_118 (fun G_164 H locs eG_164 hW hS => ?_)
                  have hB_G_164 : Bd G_164 := hB_G_154.put (lo := 0) (hi := 1) eG_164 rfl rfl rfl nz_bool.1 nz_bool.2 (hB_G_154.2.put eG_164 rfl)
                  have hF := hF.put eG_164 (Or.inl (by decide))
                  obtain ⟨y_165, ey_165⟩ : ∃ q, q = x_113 + 1 := ⟨_, rfl⟩
                  have ty_165 : y_165.toInt = x_113.toInt + 1 := xI_add rfl rfl ey_165 (by omega) (by omega)
                  refine lv_iinc (v := y_165) (lv' := [(5, .int y_165), (4, .int x_5), (3, .int x_6), (0, .ref (a 66)), (1, .int p0), (2, .int p1)]) hx hb dX12_isEven_119 hl (k := 0) rfl (by rw [ey_165]; rfl) (by decide) rfl (fun ls hl => ?_)
                  refine lv_goto (tgt := 46) hx hb dX12_isEven_122 (by decide) ?_
                  exact ih_111 (61 - y_165.toInt : Int).toNat (by omega) _ _ _ ⟨G_164, y_165, (Int.toNat_of_nonneg (by omega)), ⟨by omega, by omega⟩, hW, hB_G_164, hF, (((Fr.rf.call hq_110 (by decide) (by decide)).call hq_155 (by decide) (by decide)).put eG_164 (Or.inl (by decide))), hS, lv_sub hl [0, 1, 2, 3, 4, 5] rfl⟩
                · have c_163 : y_162.toInt ≠ 0 := xI_ne rfl rfl c_163
                  refine lv_aload_n hx hb dX12_isEven_100 rfl (lv_at hl 3 rfl) ?_
                  refine S_getR (n := 103) (C := RX12) (T := TX12) (N := 89) hx hb hg iX12 hown hK hW kd_66 rfl 69 (by decide) (hg (Cond.fieldLink RX12 130 "SlabWalkModel" "comes" "[Z") m1383) (fun _ h9 => h9) rfl dX12_isEven_101 ?_
                  refine lv_iload hx hb dX12_isEven_104 (lv_at hl 1 rfl) ?_
                  refine lv_iload hx hb dX12_isEven_106 (lv_at hl 0 rfl) ?_
                  refine lv_iadd hx hb dX12_isEven_108 ?_
                  refine lv_topi (fun y_166 ey_166 => ?_)
                  have ty_166 : y_166.toInt = x_5.toInt + x_113.toInt := xI_add rfl rfl ey_166 (by omega) (by omega)
                  refine S_zald hx hb hK hW kd_103 (vin (by omega) (by omega)) dX12_isEven_109 (fun y_167 ey_167 => ?_)
                  have ty_167 : 0 ≤ y_167.toInt ∧ y_167.toInt ≤ 1 := hB_G_154.v ey_167 rfl rfl
                  refine lv_if_eq (tgt := 117) hx hb dX12_isEven_110 (by decide) (fun c_168 => ?_) (fun c_168 => ?_)
                  · have c_168 : y_167.toInt = 0 := xI_eq rfl rfl c_168
                    refine lv_iconst (v := 0) hx hb dX12_isEven_117 (by decide) ?_
                    refine S_zast hx hb hK hW hS kd_103 (vin (by omega) (by omega)) dX12_isEven_118 (fun G_169 H locs eG_169 hW hS => ?_)
                    have hB_G_169 : Bd G_169 := hB_G_154.put (lo := 0) (hi := 1) eG_169 rfl rfl rfl nz_bool.1 nz_bool.2 (hB_G_154.2.put eG_169 rfl)
                    have hF := hF.put eG_169 (Or.inl (by decide))
                    obtain ⟨y_170, ey_170⟩ : ∃ q, q = x_113 + 1 := ⟨_, rfl⟩
                    have ty_170 : y_170.toInt = x_113.toInt + 1 := xI_add rfl rfl ey_170 (by omega) (by omega)
                    refine lv_iinc (v := y_170) (lv' := [(5, .int y_170), (4, .int x_5), (3, .int x_6), (0, .ref (a 66)), (1, .int p0), (2, .int p1)]) hx hb dX12_isEven_119 hl (k := 0) rfl (by rw [ey_170]; rfl) (by decide) rfl (fun ls hl => ?_)
                    refine lv_goto (tgt := 46) hx hb dX12_isEven_122 (by decide) ?_
                    exact ih_111 (61 - y_170.toInt : Int).toNat (by omega) _ _ _ ⟨G_169, y_170, (Int.toNat_of_nonneg (by omega)), ⟨by omega, by omega⟩, hW, hB_G_169, hF, (((Fr.rf.call hq_110 (by decide) (by decide)).call hq_155 (by decide) (by decide)).put eG_169 (Or.inl (by decide))), hS, lv_sub hl [0, 1, 2, 3, 4, 5] rfl⟩
                  · have c_168 : y_167.toInt ≠ 0 := xI_ne rfl rfl c_168
                    refine lv_iconst (v := 1) hx hb dX12_isEven_113 (by decide) ?_
                    refine lv_goto (tgt := 118) hx hb dX12_isEven_114 (by decide) ?_
                    refine S_zast hx hb hK hW hS kd_103 (vin (by omega) (by omega)) dX12_isEven_118 (fun G_171 H locs eG_171 hW hS => ?_)
                    have hB_G_171 : Bd G_171 := hB_G_154.put (lo := 0) (hi := 1) eG_171 rfl rfl rfl nz_bool.1 nz_bool.2 (hB_G_154.2.put eG_171 rfl)
                    have hF := hF.put eG_171 (Or.inl (by decide))
                    obtain ⟨y_172, ey_172⟩ : ∃ q, q = x_113 + 1 := ⟨_, rfl⟩
                    have ty_172 : y_172.toInt = x_113.toInt + 1 := xI_add rfl rfl ey_172 (by omega) (by omega)
                    refine lv_iinc (v := y_172) (lv' := [(5, .int y_172), (4, .int x_5), (3, .int x_6), (0, .ref (a 66)), (1, .int p0), (2, .int p1)]) hx hb dX12_isEven_119 hl (k := 0) rfl (by rw [ey_172]; rfl) (by decide) rfl (fun ls hl => ?_)
                    refine lv_goto (tgt := 46) hx hb dX12_isEven_122 (by decide) ?_
                    exact ih_111 (61 - y_172.toInt : Int).toNat (by omega) _ _ _ ⟨G_171, y_172, (Int.toNat_of_nonneg (by omega)), ⟨by omega, by omega⟩, hW, hB_G_171, hF, (((Fr.rf.call hq_110 (by decide) (by decide)).call hq_155 (by decide) (by decide)).put eG_171 (Or.inl (by decide))), hS, lv_sub hl [0, 1, 2, 3, 4, 5] rfl⟩
