theorem m2063 : Cond.methodLink RX12 599 yX12_common ∈ gd := gd_mem 2063 (by decide +kernel) (by decide +kernel)
theorem m2064 : Cond.static yX12_common ∈ gd := gd_mem 2064 (by decide +kernel) (by decide +kernel)
theorem m2065 : Cond.code yX12_common cX12_common 10 (some .long) ∈ gd := gd_mem 2065 (by decide +kernel) (by decide +kernel)
theorem dX12_chance_0 : decode cX12_chance 0 = .ok (.aload_n 0, 1) := by decide +kernel
theorem dX12_chance_1 : decode cX12_chance 1 = .ok (.iload_n 1, 1) := by decide +kernel
theorem dX12_chance_2 : decode cX12_chance 2 = .ok (.invokevirtual 587, 3) := by decide +kernel
theorem dX12_chance_5 : decode cX12_chance 5 = .ok (.ifCond .eq 12, 3) := by decide +kernel
theorem dX12_chance_8 : decode cX12_chance 8 = .ok (.iload_n 2, 1) := by decide +kernel
theorem dX12_chance_9 : decode cX12_chance 9 = .ok (.iconst 0, 1) := by decide +kernel
theorem dX12_chance_10 : decode cX12_chance 10 = .ok (.iconst 1, 1) := by decide +kernel
theorem dX12_chance_11 : decode cX12_chance 11 = .ok (.invokestatic 449, 3) := by decide +kernel
theorem dX12_chance_14 : decode cX12_chance 14 = .ok (.ifCond .ne 7, 3) := by decide +kernel
theorem dX12_chance_17 : decode cX12_chance 17 = .ok (.ldc2_w 517, 3) := by decide +kernel
theorem dX12_chance_20 : decode cX12_chance 20 = .ok (.lreturn, 1) := by decide +kernel
theorem dX12_chance_21 : decode cX12_chance 21 = .ok (.lconst 1, 1) := by decide +kernel
theorem dX12_chance_22 : decode cX12_chance 22 = .ok (.lstore 4, 2) := by decide +kernel
theorem dX12_chance_24 : decode cX12_chance 24 = .ok (.lconst 1, 1) := by decide +kernel
theorem dX12_chance_25 : decode cX12_chance 25 = .ok (.lstore 6, 2) := by decide +kernel
theorem dX12_chance_27 : decode cX12_chance 27 = .ok (.iconst 0, 1) := by decide +kernel
theorem dX12_chance_28 : decode cX12_chance 28 = .ok (.istore 8, 2) := by decide +kernel
theorem dX12_chance_30 : decode cX12_chance 30 = .ok (.iload 8, 2) := by decide +kernel
theorem dX12_chance_32 : decode cX12_chance 32 = .ok (.aload_n 0, 1) := by decide +kernel
theorem dX12_chance_33 : decode cX12_chance 33 = .ok (.getfield 443, 3) := by decide +kernel
theorem dX12_chance_36 : decode cX12_chance 36 = .ok (.if_icmp .ge 126, 3) := by decide +kernel
theorem dX12_chance_39 : decode cX12_chance 39 = .ok (.aload_n 0, 1) := by decide +kernel
theorem dX12_chance_40 : decode cX12_chance 40 = .ok (.iload 8, 2) := by decide +kernel
theorem dX12_chance_42 : decode cX12_chance 42 = .ok (.iload_n 3, 1) := by decide +kernel
theorem dX12_chance_43 : decode cX12_chance 43 = .ok (.invokevirtual 596, 3) := by decide +kernel
theorem dX12_chance_46 : decode cX12_chance 46 = .ok (.ifCond .ne 6, 3) := by decide +kernel
theorem dX12_chance_49 : decode cX12_chance 49 = .ok (.goto 107, 3) := by decide +kernel
theorem dX12_chance_52 : decode cX12_chance 52 = .ok (.aload_n 0, 1) := by decide +kernel
theorem dX12_chance_53 : decode cX12_chance 53 = .ok (.aload_n 0, 1) := by decide +kernel
theorem dX12_chance_54 : decode cX12_chance 54 = .ok (.getfield 157, 3) := by decide +kernel
theorem dX12_chance_57 : decode cX12_chance 57 = .ok (.iload 8, 2) := by decide +kernel
theorem dX12_chance_59 : decode cX12_chance 59 = .ok (.iaload, 1) := by decide +kernel
theorem dX12_chance_60 : decode cX12_chance 60 = .ok (.aload_n 0, 1) := by decide +kernel
theorem dX12_chance_61 : decode cX12_chance 61 = .ok (.getfield 160, 3) := by decide +kernel
theorem dX12_chance_64 : decode cX12_chance 64 = .ok (.iload 8, 2) := by decide +kernel
theorem dX12_chance_66 : decode cX12_chance 66 = .ok (.iaload, 1) := by decide +kernel
theorem dX12_chance_67 : decode cX12_chance 67 = .ok (.iconst 1, 1) := by decide +kernel
theorem dX12_chance_68 : decode cX12_chance 68 = .ok (.iload_n 1, 1) := by decide +kernel
theorem dX12_chance_69 : decode cX12_chance 69 = .ok (.ishl, 1) := by decide +kernel
theorem dX12_chance_70 : decode cX12_chance 70 = .ok (.invokevirtual 493, 3) := by decide +kernel
theorem dX12_chance_73 : decode cX12_chance 73 = .ok (.iconst 0, 1) := by decide +kernel
theorem dX12_chance_74 : decode cX12_chance 74 = .ok (.istore 9, 2) := by decide +kernel
theorem dX12_chance_76 : decode cX12_chance 76 = .ok (.iconst 0, 1) := by decide +kernel
theorem dX12_chance_77 : decode cX12_chance 77 = .ok (.istore 10, 2) := by decide +kernel
theorem dX12_chance_79 : decode cX12_chance 79 = .ok (.aload_n 0, 1) := by decide +kernel
theorem dX12_chance_80 : decode cX12_chance 80 = .ok (.getfield 163, 3) := by decide +kernel
theorem dX12_chance_83 : decode cX12_chance 83 = .ok (.iload 8, 2) := by decide +kernel
theorem dX12_chance_85 : decode cX12_chance 85 = .ok (.iaload, 1) := by decide +kernel
theorem dX12_chance_86 : decode cX12_chance 86 = .ok (.iconst 3, 1) := by decide +kernel
theorem dX12_chance_87 : decode cX12_chance 87 = .ok (.isub, 1) := by decide +kernel
theorem dX12_chance_88 : decode cX12_chance 88 = .ok (.istore 11, 2) := by decide +kernel
theorem dX12_chance_90 : decode cX12_chance 90 = .ok (.iload 11, 2) := by decide +kernel
theorem dX12_chance_92 : decode cX12_chance 92 = .ok (.aload_n 0, 1) := by decide +kernel
theorem dX12_chance_93 : decode cX12_chance 93 = .ok (.getfield 163, 3) := by decide +kernel
theorem dX12_chance_96 : decode cX12_chance 96 = .ok (.iload 8, 2) := by decide +kernel
theorem dX12_chance_98 : decode cX12_chance 98 = .ok (.iaload, 1) := by decide +kernel
theorem dX12_chance_99 : decode cX12_chance 99 = .ok (.iconst 3, 1) := by decide +kernel
theorem dX12_chance_100 : decode cX12_chance 100 = .ok (.iadd, 1) := by decide +kernel
theorem dX12_chance_101 : decode cX12_chance 101 = .ok (.if_icmp .gt 39, 3) := by decide +kernel
theorem dX12_chance_104 : decode cX12_chance 104 = .ok (.aload_n 0, 1) := by decide +kernel
theorem dX12_chance_105 : decode cX12_chance 105 = .ok (.iload 11, 2) := by decide +kernel
theorem dX12_chance_107 : decode cX12_chance 107 = .ok (.invokevirtual 484, 3) := by decide +kernel
theorem dX12_chance_110 : decode cX12_chance 110 = .ok (.ifCond .ne 6, 3) := by decide +kernel
theorem dX12_chance_113 : decode cX12_chance 113 = .ok (.goto 21, 3) := by decide +kernel
theorem dX12_chance_116 : decode cX12_chance 116 = .ok (.iinc 10 1, 3) := by decide +kernel
theorem dX12_chance_119 : decode cX12_chance 119 = .ok (.iload 9, 2) := by decide +kernel
theorem dX12_chance_121 : decode cX12_chance 121 = .ok (.aload_n 0, 1) := by decide +kernel
theorem dX12_chance_122 : decode cX12_chance 122 = .ok (.getfield 115, 3) := by decide +kernel
theorem dX12_chance_125 : decode cX12_chance 125 = .ok (.iload 11, 2) := by decide +kernel
theorem dX12_chance_127 : decode cX12_chance 127 = .ok (.baload, 1) := by decide +kernel
theorem dX12_chance_128 : decode cX12_chance 128 = .ok (.invokestatic 348, 3) := by decide +kernel
theorem dX12_chance_131 : decode cX12_chance 131 = .ok (.iadd, 1) := by decide +kernel
theorem dX12_chance_132 : decode cX12_chance 132 = .ok (.istore 9, 2) := by decide +kernel
theorem dX12_chance_134 : decode cX12_chance 134 = .ok (.iinc 11 1, 3) := by decide +kernel
theorem dX12_chance_137 : decode cX12_chance 137 = .ok (.goto (-47), 3) := by decide +kernel
theorem dX12_chance_140 : decode cX12_chance 140 = .ok (.lload 4, 2) := by decide +kernel
theorem dX12_chance_142 : decode cX12_chance 142 = .ok (.iload 9, 2) := by decide +kernel
theorem dX12_chance_144 : decode cX12_chance 144 = .ok (.i2l, 1) := by decide +kernel
theorem dX12_chance_145 : decode cX12_chance 145 = .ok (.lmul, 1) := by decide +kernel
theorem dX12_chance_146 : decode cX12_chance 146 = .ok (.lstore 4, 2) := by decide +kernel
theorem dX12_chance_148 : decode cX12_chance 148 = .ok (.lload 6, 2) := by decide +kernel
theorem dX12_chance_150 : decode cX12_chance 150 = .ok (.iload 10, 2) := by decide +kernel
theorem dX12_chance_152 : decode cX12_chance 152 = .ok (.i2l, 1) := by decide +kernel
theorem dX12_chance_153 : decode cX12_chance 153 = .ok (.lmul, 1) := by decide +kernel
theorem dX12_chance_154 : decode cX12_chance 154 = .ok (.lstore 6, 2) := by decide +kernel
theorem dX12_chance_156 : decode cX12_chance 156 = .ok (.iinc 8 1, 3) := by decide +kernel
theorem dX12_chance_159 : decode cX12_chance 159 = .ok (.goto (-129), 3) := by decide +kernel
theorem dX12_chance_162 : decode cX12_chance 162 = .ok (.lload 4, 2) := by decide +kernel
theorem dX12_chance_164 : decode cX12_chance 164 = .ok (.lload 6, 2) := by decide +kernel
theorem dX12_chance_166 : decode cX12_chance 166 = .ok (.invokestatic 599, 3) := by decide +kernel
theorem dX12_chance_169 : decode cX12_chance 169 = .ok (.lstore 8, 2) := by decide +kernel
theorem dX12_chance_171 : decode cX12_chance 171 = .ok (.iload_n 2, 1) := by decide +kernel
theorem dX12_chance_172 : decode cX12_chance 172 = .ok (.ifCond .ne 11, 3) := by decide +kernel
theorem dX12_chance_175 : decode cX12_chance 175 = .ok (.lload 4, 2) := by decide +kernel
theorem dX12_chance_177 : decode cX12_chance 177 = .ok (.lload 8, 2) := by decide +kernel
theorem dX12_chance_179 : decode cX12_chance 179 = .ok (.ldiv, 1) := by decide +kernel
theorem dX12_chance_180 : decode cX12_chance 180 = .ok (.goto 8, 3) := by decide +kernel
theorem dX12_chance_183 : decode cX12_chance 183 = .ok (.lload 6, 2) := by decide +kernel
theorem dX12_chance_185 : decode cX12_chance 185 = .ok (.lload 8, 2) := by decide +kernel
theorem dX12_chance_187 : decode cX12_chance 187 = .ok (.ldiv, 1) := by decide +kernel
theorem dX12_chance_188 : decode cX12_chance 188 = .ok (.lreturn, 1) := by decide +kernel
theorem dX12_common_0 : decode cX12_common 0 = .ok (.lload_n 0, 1) := by decide +kernel
theorem dX12_common_1 : decode cX12_common 1 = .ok (.lstore 4, 2) := by decide +kernel
theorem dX12_common_3 : decode cX12_common 3 = .ok (.lload_n 2, 1) := by decide +kernel
theorem dX12_common_4 : decode cX12_common 4 = .ok (.lstore 6, 2) := by decide +kernel
theorem dX12_common_6 : decode cX12_common 6 = .ok (.lload 6, 2) := by decide +kernel
theorem dX12_common_8 : decode cX12_common 8 = .ok (.lconst 0, 1) := by decide +kernel
theorem dX12_common_9 : decode cX12_common 9 = .ok (.lcmp, 1) := by decide +kernel
theorem dX12_common_10 : decode cX12_common 10 = .ok (.ifCond .le 21, 3) := by decide +kernel
theorem dX12_common_13 : decode cX12_common 13 = .ok (.lload 4, 2) := by decide +kernel
theorem dX12_common_15 : decode cX12_common 15 = .ok (.lload 6, 2) := by decide +kernel
theorem dX12_common_17 : decode cX12_common 17 = .ok (.lrem, 1) := by decide +kernel
theorem dX12_common_18 : decode cX12_common 18 = .ok (.lstore 8, 2) := by decide +kernel
theorem dX12_common_20 : decode cX12_common 20 = .ok (.lload 6, 2) := by decide +kernel
theorem dX12_common_22 : decode cX12_common 22 = .ok (.lstore 4, 2) := by decide +kernel
theorem dX12_common_24 : decode cX12_common 24 = .ok (.lload 8, 2) := by decide +kernel
theorem dX12_common_26 : decode cX12_common 26 = .ok (.lstore 6, 2) := by decide +kernel
theorem dX12_common_28 : decode cX12_common 28 = .ok (.goto (-22), 3) := by decide +kernel
theorem dX12_common_31 : decode cX12_common 31 = .ok (.lload 4, 2) := by decide +kernel
theorem dX12_common_33 : decode cX12_common 33 = .ok (.lreturn, 1) := by decide +kernel
theorem dX12_sight_0 : decode cX12_sight 0 = .ok (.aload_n 0, 1) := by decide +kernel
theorem dX12_sight_1 : decode cX12_sight 1 = .ok (.iload_n 1, 1) := by decide +kernel
theorem dX12_sight_2 : decode cX12_sight 2 = .ok (.invokevirtual 487, 3) := by decide +kernel
theorem dX12_sight_5 : decode cX12_sight 5 = .ok (.ifCond .eq 41, 3) := by decide +kernel
theorem dX12_sight_8 : decode cX12_sight 8 = .ok (.aload_n 0, 1) := by decide +kernel
theorem dX12_sight_9 : decode cX12_sight 9 = .ok (.iload_n 2, 1) := by decide +kernel
theorem dX12_sight_10 : decode cX12_sight 10 = .ok (.invokevirtual 453, 3) := by decide +kernel
theorem dX12_sight_13 : decode cX12_sight 13 = .ok (.ifCond .eq 33, 3) := by decide +kernel
theorem dX12_sight_16 : decode cX12_sight 16 = .ok (.iload_n 3, 1) := by decide +kernel
theorem dX12_sight_17 : decode cX12_sight 17 = .ok (.ifCond .lt 29, 3) := by decide +kernel
theorem dX12_sight_20 : decode cX12_sight 20 = .ok (.iload_n 3, 1) := by decide +kernel
theorem dX12_sight_21 : decode cX12_sight 21 = .ok (.aload_n 0, 1) := by decide +kernel
theorem dX12_sight_22 : decode cX12_sight 22 = .ok (.getfield 87, 3) := by decide +kernel
theorem dX12_sight_25 : decode cX12_sight 25 = .ok (.iload_n 2, 1) := by decide +kernel
theorem dX12_sight_26 : decode cX12_sight 26 = .ok (.iaload, 1) := by decide +kernel
theorem dX12_sight_27 : decode cX12_sight 27 = .ok (.aload_n 0, 1) := by decide +kernel
theorem dX12_sight_28 : decode cX12_sight 28 = .ok (.getfield 90, 3) := by decide +kernel
theorem dX12_sight_31 : decode cX12_sight 31 = .ok (.iload_n 1, 1) := by decide +kernel
theorem dX12_sight_32 : decode cX12_sight 32 = .ok (.iaload, 1) := by decide +kernel
theorem dX12_sight_33 : decode cX12_sight 33 = .ok (.isub, 1) := by decide +kernel
theorem dX12_sight_34 : decode cX12_sight 34 = .ok (.if_icmp .gt 12, 3) := by decide +kernel
theorem dX12_sight_37 : decode cX12_sight 37 = .ok (.aload_n 0, 1) := by decide +kernel
theorem dX12_sight_38 : decode cX12_sight 38 = .ok (.getfield 443, 3) := by decide +kernel
theorem dX12_sight_41 : decode cX12_sight 41 = .ok (.bipush 20, 2) := by decide +kernel
theorem dX12_sight_43 : decode cX12_sight 43 = .ok (.if_icmp .ne 5, 3) := by decide +kernel
theorem dX12_sight_46 : decode cX12_sight 46 = .ok (.iconst (-1), 1) := by decide +kernel
theorem dX12_sight_47 : decode cX12_sight 47 = .ok (.ireturn, 1) := by decide +kernel
theorem dX12_sight_48 : decode cX12_sight 48 = .ok (.aload_n 0, 1) := by decide +kernel
theorem dX12_sight_49 : decode cX12_sight 49 = .ok (.getfield 157, 3) := by decide +kernel
theorem dX12_sight_52 : decode cX12_sight 52 = .ok (.aload_n 0, 1) := by decide +kernel
theorem dX12_sight_53 : decode cX12_sight 53 = .ok (.getfield 443, 3) := by decide +kernel
theorem dX12_sight_56 : decode cX12_sight 56 = .ok (.iload_n 1, 1) := by decide +kernel
theorem dX12_sight_57 : decode cX12_sight 57 = .ok (.iastore, 1) := by decide +kernel
theorem dX12_sight_58 : decode cX12_sight 58 = .ok (.aload_n 0, 1) := by decide +kernel
theorem dX12_sight_59 : decode cX12_sight 59 = .ok (.getfield 160, 3) := by decide +kernel
theorem dX12_sight_62 : decode cX12_sight 62 = .ok (.aload_n 0, 1) := by decide +kernel
theorem dX12_sight_63 : decode cX12_sight 63 = .ok (.getfield 443, 3) := by decide +kernel
theorem dX12_sight_66 : decode cX12_sight 66 = .ok (.iload_n 2, 1) := by decide +kernel
theorem dX12_sight_67 : decode cX12_sight 67 = .ok (.iastore, 1) := by decide +kernel
theorem dX12_sight_68 : decode cX12_sight 68 = .ok (.aload_n 0, 1) := by decide +kernel
theorem dX12_sight_69 : decode cX12_sight 69 = .ok (.getfield 163, 3) := by decide +kernel
theorem dX12_sight_72 : decode cX12_sight 72 = .ok (.aload_n 0, 1) := by decide +kernel
theorem dX12_sight_73 : decode cX12_sight 73 = .ok (.getfield 443, 3) := by decide +kernel
theorem dX12_sight_76 : decode cX12_sight 76 = .ok (.iload_n 3, 1) := by decide +kernel
theorem dX12_sight_77 : decode cX12_sight 77 = .ok (.iastore, 1) := by decide +kernel
theorem dX12_sight_78 : decode cX12_sight 78 = .ok (.aload_n 0, 1) := by decide +kernel
theorem dX12_sight_79 : decode cX12_sight 79 = .ok (.getfield 166, 3) := by decide +kernel
theorem dX12_sight_82 : decode cX12_sight 82 = .ok (.aload_n 0, 1) := by decide +kernel
theorem dX12_sight_83 : decode cX12_sight 83 = .ok (.getfield 443, 3) := by decide +kernel
theorem dX12_sight_86 : decode cX12_sight 86 = .ok (.aload_n 0, 1) := by decide +kernel
theorem dX12_sight_87 : decode cX12_sight 87 = .ok (.getfield 593, 3) := by decide +kernel
theorem dX12_sight_90 : decode cX12_sight 90 = .ok (.iastore, 1) := by decide +kernel
theorem dX12_sight_91 : decode cX12_sight 91 = .ok (.aload_n 0, 1) := by decide +kernel
theorem dX12_sight_92 : decode cX12_sight 92 = .ok (.getfield 169, 3) := by decide +kernel
theorem dX12_sight_95 : decode cX12_sight 95 = .ok (.aload_n 0, 1) := by decide +kernel
theorem dX12_sight_96 : decode cX12_sight 96 = .ok (.getfield 443, 3) := by decide +kernel
theorem dX12_sight_99 : decode cX12_sight 99 = .ok (.iconst (-1), 1) := by decide +kernel
theorem dX12_sight_100 : decode cX12_sight 100 = .ok (.iastore, 1) := by decide +kernel
theorem dX12_sight_101 : decode cX12_sight 101 = .ok (.aload_n 0, 1) := by decide +kernel
theorem dX12_sight_102 : decode cX12_sight 102 = .ok (.dup, 1) := by decide +kernel
theorem dX12_sight_103 : decode cX12_sight 103 = .ok (.getfield 443, 3) := by decide +kernel
theorem dX12_sight_106 : decode cX12_sight 106 = .ok (.iconst 1, 1) := by decide +kernel
theorem dX12_sight_107 : decode cX12_sight 107 = .ok (.iadd, 1) := by decide +kernel
theorem dX12_sight_108 : decode cX12_sight 108 = .ok (.putfield 443, 3) := by decide +kernel
theorem dX12_sight_111 : decode cX12_sight 111 = .ok (.aload_n 0, 1) := by decide +kernel
theorem dX12_sight_112 : decode cX12_sight 112 = .ok (.getfield 443, 3) := by decide +kernel
theorem dX12_sight_115 : decode cX12_sight 115 = .ok (.iconst 1, 1) := by decide +kernel
theorem dX12_sight_116 : decode cX12_sight 116 = .ok (.isub, 1) := by decide +kernel
theorem dX12_sight_117 : decode cX12_sight 117 = .ok (.ireturn, 1) := by decide +kernel
set_option maxHeartbeats 4000000 in
set_option maxRecDepth 100000 in
theorem n_sight (l : Launch) (D : va_G) (k : KT) (A : Nat → Prop) (a : Nat → Nat) (z : SK) (G : GS) (p0 : Int32) (p1 : Int32) (p2 : Int32) (hW9 : gW G = 1) (hS9 : gS G = 1) : Met l yX12_sight (WS yX12_sight cX12_sight 4 (some .int)) ({ frames := 2, cells := 0, slots := 0, locals := 43 }) (va_Pc [.ref (a 66), .int p0, .int p1, .int p2] (cW D k A a z G)) (va_Qi (fun (r : Int32) (G1 : GS) => Bd G1 ∧ Fr [112, 113, 114, 115, 116] [(66, 85)] G G1 ∧ (gS G1 = 1)) (fun (G1 : GS) t => Wd D k A a G1 t.heap) A) 0 0 A := by
  refine Met.ofW (cc := cX12_sight) (maxL := 4) (ret := (some .int)) (by decide) rfl ?_
  intro p e s m args below meth c s₁ B hml hv
  obtain ⟨rfl, hW, hB_G, hK, hZ⟩ := hv
  have hx := B.exec
  have hb := B.bytes
  have hr := B.returns
  have hts := atoms_spec (ws := WS yX12_sight cX12_sight 4 (some .int)) B.pre
  have hgd : ∀ w ∈ gd, w ∈ WS yX12_sight cX12_sight 4 (some .int) := fun w h => List.mem_cons_of_mem _ h
  have hg : ∀ w ∈ gd, w.before _ s = true := fun w h => hts w (hgd w h)
  have hown : s.vm.findClass RX12 = some m.cls := findClass_of_methodNamed B.named
  have hS : va_S A s.heap s.heap [] := va_S.rf
  have hF : Fr [112, 113, 114, 115, 116] [(66, 85)] G G := Fr.rf
  have hl := lv_entry ([.ref (a 66), .int p0, .int p1, .int p2]) (n := 4) (Nat.le_of_ble_eq_true rfl)
  rw [lg_entry_eq]
  generalize (lg_sl ([.ref (a 66), .int p0, .int p1, .int p2]) ++ List.replicate (4 - (lg_sl ([.ref (a 66), .int p0, .int p1, .int p2])).length) Slot.unset).toArray = ls at hl ⊢
  have hl : lv_has ls 4 [(0, .ref (a 66)), (1, .int p0), (2, .int p1), (3, .int p2)] := hl
  refine lv_aload_n hx hb dX12_sight_0 rfl (lv_at hl 0 rfl) ?_
  refine lv_iload_n hx hb dX12_sight_1 rfl (lv_at hl 1 rfl) ?_
  refine S_calli (va_runV (As := [.int p0]) (rest := []) ⟨hx, hb, hml, hown, hts⟩ (n_isWalker l D k A a z G p0 ) (cwV 1 hts (gd_V hgd m1830 m1832 m90 m131 m1833) rfl rfl rfl (by decide +kernel) ⟨Nat.le_of_ble_eq_true rfl, Nat.le_of_ble_eq_true rfl⟩) (pre_V hW hB_G hK hZ hS kd_66 rfl) rfl rfl hl.1 rfl (lv_room (Nat.le_of_ble_eq_true rfl)) dX12_sight_2 ⟨Nat.le_of_ble_eq_true rfl, Nat.le_of_ble_eq_true rfl⟩) hS (fun r_1 G_2 H locs hpo hW hS => ?_)
  obtain ⟨hB_G_2, hq_3, f_5, hp_4⟩ := hpo
  have hF := hF.call hq_3 (by decide) (by decide)
  refine lv_if_eq (tgt := 46) hx hb dX12_sight_5 (by decide) (fun c_6 => ?_) (fun c_6 => ?_)
  · have c_6 : r_1.toInt = 0 := xI_eq rfl rfl c_6
    refine lv_iconst (v := (-1)) hx hb dX12_sight_46 (by decide) ?_
    have g_7 : gS G_2 = gS G := gS_fr (rs := []) (fs := []) (Fr.rf.call hq_3 (by decide) (by decide)) (by decide) (by decide)
    exact W.iret (v := (-1)) hx hb hr (fun t ht _ => ⟨⟨(-1), G_2, rfl, ⟨hB_G_2, hF, (by have hq : ((-1) : Int32).toInt = (-1) := rfl; (try dsimp only); omega)⟩, wd_t ht hW⟩, hS.F ht⟩) hS.2.2 dX12_sight_47
  · have c_6 : r_1.toInt ≠ 0 := xI_ne rfl rfl c_6
    refine lv_aload_n hx hb dX12_sight_8 rfl (lv_at hl 0 rfl) ?_
    refine lv_iload_n hx hb dX12_sight_9 rfl (lv_at hl 2 rfl) ?_
    have b_8 : 0 ≤ (G.1 66 52).toInt ∧ (G.1 66 52).toInt ≤ 3 := hB_G.i 66 52 rfl rfl
    have g_9 : (G_2.1 66 52).toInt = (G.1 66 52).toInt := by rw [show G_2.1 66 52 = (G.1 66 52) from (hq_3.i 66 52 (by decide) (by decide))]
    refine S_calli (va_runV (As := [.int p1]) (rest := []) ⟨hx, hb, hml, hown, hts⟩ (n_isStreet l D k A a z G_2 p1 ) (cwV 1 hts (gd_V hgd m1777 m1779 m83 m131 m1780) rfl rfl rfl (by decide +kernel) ⟨Nat.le_of_ble_eq_true rfl, Nat.le_of_ble_eq_true rfl⟩) (pre_V hW hB_G_2 hK hZ hS kd_66 rfl) rfl rfl hl.1 rfl (lv_room (Nat.le_of_ble_eq_true rfl)) dX12_sight_10 ⟨Nat.le_of_ble_eq_true rfl, Nat.le_of_ble_eq_true rfl⟩) hS (fun r_10 G_11 H locs hpo hW hS => ?_)
    obtain ⟨hB_G_11, hq_12, f_14, hp_13⟩ := hpo
    have hF := hF.call hq_12 (by decide) (by decide)
    refine lv_if_eq (tgt := 46) hx hb dX12_sight_13 (by decide) (fun c_15 => ?_) (fun c_15 => ?_)
    · have c_15 : r_10.toInt = 0 := xI_eq rfl rfl c_15
      refine lv_iconst (v := (-1)) hx hb dX12_sight_46 (by decide) ?_
      have g_16 : gS G_11 = gS G := gS_fr (rs := []) (fs := []) ((Fr.rf.call hq_3 (by decide) (by decide)).call hq_12 (by decide) (by decide)) (by decide) (by decide)
      exact W.iret (v := (-1)) hx hb hr (fun t ht _ => ⟨⟨(-1), G_11, rfl, ⟨hB_G_11, hF, (by have hq : ((-1) : Int32).toInt = (-1) := rfl; (try dsimp only); omega)⟩, wd_t ht hW⟩, hS.F ht⟩) hS.2.2 dX12_sight_47
    · have c_15 : r_10.toInt ≠ 0 := xI_ne rfl rfl c_15
      refine lv_iload_n hx hb dX12_sight_16 rfl (lv_at hl 3 rfl) ?_
      refine lv_if_lt (tgt := 46) hx hb dX12_sight_17 (by decide) (fun c_17 => ?_) (fun c_17 => ?_)
      · have c_17 : p2.toInt < 0 := xI_lt rfl rfl c_17
        refine lv_iconst (v := (-1)) hx hb dX12_sight_46 (by decide) ?_
        have g_18 : gS G_11 = gS G := gS_fr (rs := []) (fs := []) ((Fr.rf.call hq_3 (by decide) (by decide)).call hq_12 (by decide) (by decide)) (by decide) (by decide)
        exact W.iret (v := (-1)) hx hb hr (fun t ht _ => ⟨⟨(-1), G_11, rfl, ⟨hB_G_11, hF, (by have hq : ((-1) : Int32).toInt = (-1) := rfl; (try dsimp only); omega)⟩, wd_t ht hW⟩, hS.F ht⟩) hS.2.2 dX12_sight_47
      · have c_17 : 0 ≤ p2.toInt := xI_nlt rfl rfl c_17
        refine lv_iload_n hx hb dX12_sight_20 rfl (lv_at hl 3 rfl) ?_
        refine lv_aload_n hx hb dX12_sight_21 rfl (lv_at hl 0 rfl) ?_
        refine S_getR (n := 91) (C := RX12) (T := TX12) (N := 89) hx hb hg iX12 hown hK hW kd_66 rfl 39 (by decide) (hg (Cond.fieldLink RX12 87 "SlabWalkModel" "lengths" "[I") m1353) (fun _ h9 => h9) rfl dX12_sight_22 ?_
        refine lv_iload_n hx hb dX12_sight_25 rfl (lv_at hl 2 rfl) ?_
        refine S_iald hx hb hK hW kd_91 (vin (by omega) (by omega)) dX12_sight_26 (fun y_19 ey_19 => ?_)
        have ty_19 : 0 ≤ y_19.toInt ∧ y_19.toInt ≤ 400 := hB_G_11.v ey_19 rfl rfl
        have u_20 : y_19.toInt = (G.1 91 p1.toNatClampNeg).toInt := congrArg Int32.toInt (ey_19.trans (((hq_12.ri 91 (by decide) (by decide) p1.toNatClampNeg).trans (hq_3.ri 91 (by decide) (by decide) p1.toNatClampNeg))))
        refine lv_aload_n hx hb dX12_sight_27 rfl (lv_at hl 0 rfl) ?_
        refine S_getR (n := 92) (C := RX12) (T := TX12) (N := 89) hx hb hg iX12 hown hK hW kd_66 rfl 40 (by decide) (hg (Cond.fieldLink RX12 90 "SlabWalkModel" "foots" "[I") m1354) (fun _ h9 => h9) rfl dX12_sight_28 ?_
        refine lv_iload_n hx hb dX12_sight_31 rfl (lv_at hl 1 rfl) ?_
        refine S_iald hx hb hK hW kd_92 (vin (by omega) (by omega)) dX12_sight_32 (fun y_21 ey_21 => ?_)
        have ty_21 : 0 ≤ y_21.toInt ∧ y_21.toInt ≤ 12 := hB_G_11.v ey_21 rfl rfl
        have u_22 : y_21.toInt = (G.1 92 p0.toNatClampNeg).toInt := congrArg Int32.toInt (ey_21.trans (((hq_12.ri 92 (by decide) (by decide) p0.toNatClampNeg).trans (hq_3.ri 92 (by decide) (by decide) p0.toNatClampNeg))))
        refine lv_isub hx hb dX12_sight_33 ?_
        refine lv_topi (fun y_23 ey_23 => ?_)
        have ty_23 : y_23.toInt = y_19.toInt - y_21.toInt := xI_sub rfl rfl ey_23 (by omega) (by omega)
        refine lv_icmp_gt (tgt := 46) hx hb dX12_sight_34 (by decide) (fun c_24 => ?_) (fun c_24 => ?_)
        · have c_24 : y_23.toInt < p2.toInt := xI_lt rfl rfl c_24
          refine lv_iconst (v := (-1)) hx hb dX12_sight_46 (by decide) ?_
          have g_25 : gS G_11 = gS G := gS_fr (rs := []) (fs := []) ((Fr.rf.call hq_3 (by decide) (by decide)).call hq_12 (by decide) (by decide)) (by decide) (by decide)
          exact W.iret (v := (-1)) hx hb hr (fun t ht _ => ⟨⟨(-1), G_11, rfl, ⟨hB_G_11, hF, (by have hq : ((-1) : Int32).toInt = (-1) := rfl; (try dsimp only); omega)⟩, wd_t ht hW⟩, hS.F ht⟩) hS.2.2 dX12_sight_47
        · have c_24 : p2.toInt ≤ y_23.toInt := xI_nlt rfl rfl c_24
          refine lv_aload_n hx hb dX12_sight_37 rfl (lv_at hl 0 rfl) ?_
          have b_26 : 0 ≤ (G.1 66 85).toInt ∧ (G.1 66 85).toInt ≤ 20 := hB_G.i 66 85 rfl rfl
          refine S_getI (v := (G.1 66 85)) (C := RX12) (T := TX12) (N := 89) hx hb hg iX12 hown hK hW kd_66 rfl 85 (by decide) (hg (Cond.fieldLink RX12 443 "SlabWalkModel" "sights" "I") m1399) (fun _ h9 => h9) rfl ((hq_12.i 66 85 (by decide) (by decide)).trans (hq_3.i 66 85 (by decide) (by decide))) dX12_sight_38 ?_
          refine lv_bipush (v := 20) hx hb dX12_sight_41 (by decide) ?_
          refine lv_icmp_ne (tgt := 48) hx hb dX12_sight_43 (by decide) (fun c_27 => ?_) (fun c_27 => ?_)
          · have c_27 : (G.1 66 85).toInt ≠ 20 := xI_ne rfl rfl c_27
            have b_28 : 0 ≤ (G.1 66 53).toInt ∧ (G.1 66 53).toInt ≤ 4 := hB_G.i 66 53 rfl rfl
            have u_29 := gW_at hW9 p0 (by omega) (by omega)
            refine lv_aload_n hx hb dX12_sight_48 rfl (lv_at hl 0 rfl) ?_
            refine S_getR (n := 112) (C := RX12) (T := TX12) (N := 89) hx hb hg iX12 hown hK hW kd_66 rfl 80 (by decide) (hg (Cond.fieldLink RX12 157 "SlabWalkModel" "sightWho" "[I") m1394) (fun _ h9 => h9) rfl dX12_sight_49 ?_
            refine lv_aload_n hx hb dX12_sight_52 rfl (lv_at hl 0 rfl) ?_
            refine S_getI (v := (G.1 66 85)) (C := RX12) (T := TX12) (N := 89) hx hb hg iX12 hown hK hW kd_66 rfl 85 (by decide) (hg (Cond.fieldLink RX12 443 "SlabWalkModel" "sights" "I") m1399) (fun _ h9 => h9) rfl ((hq_12.i 66 85 (by decide) (by decide)).trans ((hq_3.i 66 85 (by decide) (by decide)).trans (rfl))) dX12_sight_53 ?_
            refine lv_iload_n hx hb dX12_sight_56 rfl (lv_at hl 1 rfl) ?_
            refine S_iast hx hb hK hW hS kd_112 (vin (by omega) (by omega)) dX12_sight_57 (fun G_30 H locs eG_30 hW hS => ?_)
            have hB_G_30 : Bd G_30 := hB_G_11.put (V := p0.toInt) (lo := 0) (hi := 3) eG_30 rfl rfl rfl (by omega) (by omega) (hB_G_11.2.put eG_30 rfl)
            have hF := hF.put eG_30 (Or.inl (by decide))
            refine lv_aload_n hx hb dX12_sight_58 rfl (lv_at hl 0 rfl) ?_
            refine S_getR (n := 113) (C := RX12) (T := TX12) (N := 89) hx hb hg iX12 hown hK hW kd_66 rfl 81 (by decide) (hg (Cond.fieldLink RX12 160 "SlabWalkModel" "sightWhere" "[I") m1395) (fun _ h9 => h9) rfl dX12_sight_59 ?_
            refine lv_aload_n hx hb dX12_sight_62 rfl (lv_at hl 0 rfl) ?_
            refine S_getI (v := (G.1 66 85)) (C := RX12) (T := TX12) (N := 89) hx hb hg iX12 hown hK hW kd_66 rfl 85 (by decide) (hg (Cond.fieldLink RX12 443 "SlabWalkModel" "sights" "I") m1399) (fun _ h9 => h9) rfl ((gp_ne eG_30 (fun q => absurd q.1 (by decide))).trans ((hq_12.i 66 85 (by decide) (by decide)).trans ((hq_3.i 66 85 (by decide) (by decide)).trans (rfl)))) dX12_sight_63 ?_
            refine lv_iload_n hx hb dX12_sight_66 rfl (lv_at hl 2 rfl) ?_
            refine S_iast hx hb hK hW hS kd_113 (vin (by omega) (by omega)) dX12_sight_67 (fun G_31 H locs eG_31 hW hS => ?_)
            have hB_G_31 : Bd G_31 := hB_G_30.put (V := p1.toInt) (lo := 0) (hi := 2) eG_31 rfl rfl rfl (by omega) (by omega) (hB_G_30.2.put eG_31 rfl)
            have hF := hF.put eG_31 (Or.inl (by decide))
            refine lv_aload_n hx hb dX12_sight_68 rfl (lv_at hl 0 rfl) ?_
            refine S_getR (n := 114) (C := RX12) (T := TX12) (N := 89) hx hb hg iX12 hown hK hW kd_66 rfl 82 (by decide) (hg (Cond.fieldLink RX12 163 "SlabWalkModel" "sightHeel" "[I") m1396) (fun _ h9 => h9) rfl dX12_sight_69 ?_
            refine lv_aload_n hx hb dX12_sight_72 rfl (lv_at hl 0 rfl) ?_
            refine S_getI (v := (G.1 66 85)) (C := RX12) (T := TX12) (N := 89) hx hb hg iX12 hown hK hW kd_66 rfl 85 (by decide) (hg (Cond.fieldLink RX12 443 "SlabWalkModel" "sights" "I") m1399) (fun _ h9 => h9) rfl ((gp_ne eG_31 (fun q => absurd q.1 (by decide))).trans ((gp_ne eG_30 (fun q => absurd q.1 (by decide))).trans ((hq_12.i 66 85 (by decide) (by decide)).trans ((hq_3.i 66 85 (by decide) (by decide)).trans (rfl))))) dX12_sight_73 ?_
            refine lv_iload_n hx hb dX12_sight_76 rfl (lv_at hl 3 rfl) ?_
            refine S_iast hx hb hK hW hS kd_114 (vin (by omega) (by omega)) dX12_sight_77 (fun G_32 H locs eG_32 hW hS => ?_)
            have hB_G_32 : Bd G_32 := hB_G_31.put (V := p2.toInt) (lo := 0) (hi := 399) eG_32 rfl rfl rfl (by omega) (by omega) (hB_G_31.2.put eG_32 rfl)
            have hF := hF.put eG_32 (Or.inl (by decide))
            refine lv_aload_n hx hb dX12_sight_78 rfl (lv_at hl 0 rfl) ?_
            refine S_getR (n := 115) (C := RX12) (T := TX12) (N := 89) hx hb hg iX12 hown hK hW kd_66 rfl 83 (by decide) (hg (Cond.fieldLink RX12 166 "SlabWalkModel" "sightTold" "[I") m1397) (fun _ h9 => h9) rfl dX12_sight_79 ?_
            refine lv_aload_n hx hb dX12_sight_82 rfl (lv_at hl 0 rfl) ?_
            refine S_getI (v := (G.1 66 85)) (C := RX12) (T := TX12) (N := 89) hx hb hg iX12 hown hK hW kd_66 rfl 85 (by decide) (hg (Cond.fieldLink RX12 443 "SlabWalkModel" "sights" "I") m1399) (fun _ h9 => h9) rfl ((gp_ne eG_32 (fun q => absurd q.1 (by decide))).trans ((gp_ne eG_31 (fun q => absurd q.1 (by decide))).trans ((gp_ne eG_30 (fun q => absurd q.1 (by decide))).trans ((hq_12.i 66 85 (by decide) (by decide)).trans ((hq_3.i 66 85 (by decide) (by decide)).trans (rfl)))))) dX12_sight_83 ?_
            refine lv_aload_n hx hb dX12_sight_86 rfl (lv_at hl 0 rfl) ?_
            have b_33 : 0 ≤ (G.1 66 86).toInt ∧ (G.1 66 86).toInt ≤ 100000 := hB_G.i 66 86 rfl rfl
            refine S_getI (v := (G.1 66 86)) (C := RX12) (T := TX12) (N := 89) hx hb hg iX12 hown hK hW kd_66 rfl 86 (by decide) (hg (Cond.fieldLink RX12 593 "SlabWalkModel" "time" "I") m1400) (fun _ h9 => h9) rfl ((gp_ne eG_32 (fun q => absurd q.1 (by decide))).trans ((gp_ne eG_31 (fun q => absurd q.1 (by decide))).trans ((gp_ne eG_30 (fun q => absurd q.1 (by decide))).trans ((hq_12.i 66 86 (by decide) (by decide)).trans (hq_3.i 66 86 (by decide) (by decide)))))) dX12_sight_87 ?_
            refine S_iast hx hb hK hW hS kd_115 (vin (by omega) (by omega)) dX12_sight_90 (fun G_34 H locs eG_34 hW hS => ?_)
            have hB_G_34 : Bd G_34 := hB_G_32.put (lo := (-2147483648)) (hi := 2147483647) eG_34 rfl rfl rfl (tI_rng _).1 (tI_rng _).2 (hB_G_32.2.put eG_34 rfl)
            have hF := hF.put eG_34 (Or.inl (by decide))
            refine lv_aload_n hx hb dX12_sight_91 rfl (lv_at hl 0 rfl) ?_
            refine S_getR (n := 116) (C := RX12) (T := TX12) (N := 89) hx hb hg iX12 hown hK hW kd_66 rfl 84 (by decide) (hg (Cond.fieldLink RX12 169 "SlabWalkModel" "sightUntold" "[I") m1398) (fun _ h9 => h9) rfl dX12_sight_92 ?_
            refine lv_aload_n hx hb dX12_sight_95 rfl (lv_at hl 0 rfl) ?_
            refine S_getI (v := (G.1 66 85)) (C := RX12) (T := TX12) (N := 89) hx hb hg iX12 hown hK hW kd_66 rfl 85 (by decide) (hg (Cond.fieldLink RX12 443 "SlabWalkModel" "sights" "I") m1399) (fun _ h9 => h9) rfl ((gp_ne eG_34 (fun q => absurd q.1 (by decide))).trans ((gp_ne eG_32 (fun q => absurd q.1 (by decide))).trans ((gp_ne eG_31 (fun q => absurd q.1 (by decide))).trans ((gp_ne eG_30 (fun q => absurd q.1 (by decide))).trans ((hq_12.i 66 85 (by decide) (by decide)).trans ((hq_3.i 66 85 (by decide) (by decide)).trans (rfl))))))) dX12_sight_96 ?_
            refine lv_iconst (v := (-1)) hx hb dX12_sight_99 (by decide) ?_
            refine S_iast hx hb hK hW hS kd_116 (vin (by omega) (by omega)) dX12_sight_100 (fun G_35 H locs eG_35 hW hS => ?_)
            have hB_G_35 : Bd G_35 := hB_G_34.put (lo := (-2147483648)) (hi := 2147483647) eG_35 rfl rfl rfl (tI_rng _).1 (tI_rng _).2 (hB_G_34.2.put eG_35 rfl)
            have hF := hF.put eG_35 (Or.inl (by decide))
            refine lv_aload_n hx hb dX12_sight_101 rfl (lv_at hl 0 rfl) ?_
            refine lv_dup hx hb dX12_sight_102 rfl ?_
            refine S_getI (v := (G.1 66 85)) (C := RX12) (T := TX12) (N := 89) hx hb hg iX12 hown hK hW kd_66 rfl 85 (by decide) (hg (Cond.fieldLink RX12 443 "SlabWalkModel" "sights" "I") m1399) (fun _ h9 => h9) rfl ((gp_ne eG_35 (fun q => absurd q.1 (by decide))).trans ((gp_ne eG_34 (fun q => absurd q.1 (by decide))).trans ((gp_ne eG_32 (fun q => absurd q.1 (by decide))).trans ((gp_ne eG_31 (fun q => absurd q.1 (by decide))).trans ((gp_ne eG_30 (fun q => absurd q.1 (by decide))).trans ((hq_12.i 66 85 (by decide) (by decide)).trans ((hq_3.i 66 85 (by decide) (by decide)).trans (rfl)))))))) dX12_sight_103 ?_
            refine lv_iconst (v := 1) hx hb dX12_sight_106 (by decide) ?_
            refine lv_iadd hx hb dX12_sight_107 ?_
            refine lv_topi (fun y_36 ey_36 => ?_)
            have ty_36 : y_36.toInt = (G.1 66 85).toInt + 1 := xI_add rfl rfl ey_36 (by omega) (by omega)
            refine S_putI (ty := .int) (C := RX12) (T := TX12) (N := 89) hx hb hg iX12 tyX12 tyX12_ok nmX12 hown hK hW hS kd_66 rfl 85 (by decide) (hg (Cond.fieldLink RX12 443 "SlabWalkModel" "sights" "I") m1399) (fun _ h9 => h9) rfl (by decide +kernel) rfl rfl rfl dX12_sight_108 (fun G_37 H locs eG_37 hW hS => ?_)
            have hB_G_37 : Bd G_37 := hB_G_35.put (V := y_36.toInt) (lo := 0) (hi := 20) eG_37 rfl rfl rfl (by omega) (by omega) (hB_G_35.2.put eG_37 rfl)
            have hF := hF.put eG_37 (Or.inr (by decide))
            have u_38 : gS G_37 = 1 := gS_step (G := G) (x := (G.1 66 85)) hS9 rfl (by omega) (gp_eq eG_37) (by omega) (fun j hj => ((gp_ne eG_37 (fun q => absurd q.1 (by decide))).trans ((gp_ne eG_35 (fun q => absurd q.1 (by decide))).trans ((gp_ne eG_34 (fun q => absurd q.1 (by decide))).trans ((gp_ne eG_32 (fun q => absurd q.1 (by decide))).trans ((gp_ne eG_31 (fun q => absurd q.1 (by decide))).trans ((gp_ne eG_30 (fun q => hj q.2)).trans ((hq_12.ri 112 (by decide) (by decide) j).trans (hq_3.ri 112 (by decide) (by decide) j))))))))) (fun j hj => ((gp_ne eG_37 (fun q => absurd q.1 (by decide))).trans ((gp_ne eG_35 (fun q => absurd q.1 (by decide))).trans ((gp_ne eG_34 (fun q => absurd q.1 (by decide))).trans ((gp_ne eG_32 (fun q => absurd q.1 (by decide))).trans ((gp_ne eG_31 (fun q => hj q.2)).trans ((gp_ne eG_30 (fun q => absurd q.1 (by decide))).trans ((hq_12.ri 113 (by decide) (by decide) j).trans (hq_3.ri 113 (by decide) (by decide) j))))))))) (fun j hj => ((gp_ne eG_37 (fun q => absurd q.1 (by decide))).trans ((gp_ne eG_35 (fun q => absurd q.1 (by decide))).trans ((gp_ne eG_34 (fun q => absurd q.1 (by decide))).trans ((gp_ne eG_32 (fun q => hj q.2)).trans ((gp_ne eG_31 (fun q => absurd q.1 (by decide))).trans ((gp_ne eG_30 (fun q => absurd q.1 (by decide))).trans ((hq_12.ri 114 (by decide) (by decide) j).trans (hq_3.ri 114 (by decide) (by decide) j))))))))) (fun j hj => ((gp_ne eG_37 (fun q => absurd q.1 (by decide))).trans ((gp_ne eG_35 (fun q => absurd q.1 (by decide))).trans ((gp_ne eG_34 (fun q => absurd q.1 (by decide))).trans ((gp_ne eG_32 (fun q => absurd q.1 (by decide))).trans ((gp_ne eG_31 (fun q => absurd q.1 (by decide))).trans ((gp_ne eG_30 (fun q => absurd q.1 (by decide))).trans ((hq_12.ri 92 (by decide) (by decide) j).trans (hq_3.ri 92 (by decide) (by decide) j))))))))) (fun j hj => ((gp_ne eG_37 (fun q => absurd q.1 (by decide))).trans ((gp_ne eG_35 (fun q => absurd q.1 (by decide))).trans ((gp_ne eG_34 (fun q => absurd q.1 (by decide))).trans ((gp_ne eG_32 (fun q => absurd q.1 (by decide))).trans ((gp_ne eG_31 (fun q => absurd q.1 (by decide))).trans ((gp_ne eG_30 (fun q => absurd q.1 (by decide))).trans ((hq_12.ri 91 (by decide) (by decide) j).trans (hq_3.ri 91 (by decide) (by decide) j))))))))) ((gp_ne eG_37 (fun q => absurd q.1 (by decide))).trans ((gp_ne eG_35 (fun q => absurd q.1 (by decide))).trans ((gp_ne eG_34 (fun q => absurd q.1 (by decide))).trans ((gp_ne eG_32 (fun q => absurd q.1 (by decide))).trans ((gp_ne eG_31 (fun q => absurd q.1 (by decide))).trans (gp_eq eG_30)))))) ((gp_ne eG_37 (fun q => absurd q.1 (by decide))).trans ((gp_ne eG_35 (fun q => absurd q.1 (by decide))).trans ((gp_ne eG_34 (fun q => absurd q.1 (by decide))).trans ((gp_ne eG_32 (fun q => absurd q.1 (by decide))).trans (gp_eq eG_31))))) ((gp_ne eG_37 (fun q => absurd q.1 (by decide))).trans ((gp_ne eG_35 (fun q => absurd q.1 (by decide))).trans ((gp_ne eG_34 (fun q => absurd q.1 (by decide))).trans (gp_eq eG_32)))) (by omega)
            refine lv_aload_n hx hb dX12_sight_111 rfl (lv_at hl 0 rfl) ?_
            refine S_getI (v := y_36) (C := RX12) (T := TX12) (N := 89) hx hb hg iX12 hown hK hW kd_66 rfl 85 (by decide) (hg (Cond.fieldLink RX12 443 "SlabWalkModel" "sights" "I") m1399) (fun _ h9 => h9) rfl (gp_eq eG_37) dX12_sight_112 ?_
            refine lv_iconst (v := 1) hx hb dX12_sight_115 (by decide) ?_
            refine lv_isub hx hb dX12_sight_116 ?_
            refine lv_topi (fun y_39 ey_39 => ?_)
            have ty_39 : y_39.toInt = y_36.toInt - 1 := xI_sub rfl rfl ey_39 (by omega) (by omega)
            exact W.iret (v := y_39) hx hb hr (fun t ht _ => ⟨⟨y_39, G_37, rfl, ⟨hB_G_37, hF, (by omega)⟩, wd_t ht hW⟩, hS.F ht⟩) hS.2.2 dX12_sight_117
          · have c_27 : (G.1 66 85).toInt = 20 := xI_eq rfl rfl c_27
            refine lv_iconst (v := (-1)) hx hb dX12_sight_46 (by decide) ?_
            have g_40 : gS G_11 = gS G := gS_fr (rs := []) (fs := []) ((Fr.rf.call hq_3 (by decide) (by decide)).call hq_12 (by decide) (by decide)) (by decide) (by decide)
            exact W.iret (v := (-1)) hx hb hr (fun t ht _ => ⟨⟨(-1), G_11, rfl, ⟨hB_G_11, hF, (by have hq : ((-1) : Int32).toInt = (-1) := rfl; (try dsimp only); omega)⟩, wd_t ht hW⟩, hS.F ht⟩) hS.2.2 dX12_sight_47

set_option maxHeartbeats 4000000 in
set_option maxRecDepth 100000 in
theorem n_common (l : Launch) (D : va_G) (k : KT) (A : Nat → Prop) (a : Nat → Nat) (z : SK) (G : GS) (p0 : Int64) (p1 : Int64) (hc0 : 0 ≤ p0.toInt) (hc1 : 1 ≤ p1.toInt) : Met l yX12_common (WS yX12_common cX12_common 10 (some .long)) ({ frames := 0, cells := 0, slots := 0, locals := 0 }) (va_Pc [.long p0, .long p1] (cW D k A a z G)) (va_Ql (fun (r : Int64) (G1 : GS) => Bd G1 ∧ Fr [] [] G G1 ∧ (1 ≤ r.toInt)) (fun (G1 : GS) t => Wd D k A a G1 t.heap) A) 0 0 A := by
  refine Met.ofW (cc := cX12_common) (maxL := 10) (ret := (some .long)) (by decide) rfl ?_
  intro p e s m args below meth c s₁ B hml hv
  obtain ⟨rfl, hW, hB_G, hK, hZ⟩ := hv
  have hx := B.exec
  have hb := B.bytes
  have hr := B.returns
  have hts := atoms_spec (ws := WS yX12_common cX12_common 10 (some .long)) B.pre
  have hgd : ∀ w ∈ gd, w ∈ WS yX12_common cX12_common 10 (some .long) := fun w h => List.mem_cons_of_mem _ h
  have hg : ∀ w ∈ gd, w.before _ s = true := fun w h => hts w (hgd w h)
  have hown : s.vm.findClass RX12 = some m.cls := findClass_of_methodNamed B.named
  have hS : va_S A s.heap s.heap [] := va_S.rf
  have hF : Fr [] [] G G := Fr.rf
  have hl := lv_entry ([.long p0, .long p1]) (n := 10) (Nat.le_of_ble_eq_true rfl)
  rw [lg_entry_eq]
  generalize (lg_sl ([.long p0, .long p1]) ++ List.replicate (10 - (lg_sl ([.long p0, .long p1])).length) Slot.unset).toArray = ls at hl ⊢
  have hl : lv_has ls 10 [(0, .long p0), (2, .long p1)] := hl
  refine lv_lload_n hx hb dX12_common_0 rfl (lv_at hl 0 rfl) ?_
  refine lv_lstore (lv' := [(4, .long p0), (0, .long p0), (2, .long p1)]) hx hb dX12_common_1 hl (by decide) rfl (fun ls hl => ?_)
  refine lv_lload_n hx hb dX12_common_3 rfl (lv_at hl 2 rfl) ?_
  refine lv_lstore (lv' := [(6, .long p1), (4, .long p0), (0, .long p0), (2, .long p1)]) hx hb dX12_common_4 hl (by decide) rfl (fun ls hl => ?_)
  refine loop_N (Inv := fun n H locs ls => ∃ (G_1 : GS) (x_5 : Int64) (x_6 : Int64), (n : Int) = (x_5).toInt ∧ (0 ≤ (x_6).toInt) ∧ (0 ≤ (x_5).toInt) ∧ (1 ≤ (x_6).toInt ∨ 1 ≤ (x_5).toInt) ∧ Wd D k A a G_1 H ∧ Bd G_1 ∧ Fr [] [] G G_1 ∧ Fr [] [] G G_1 ∧ va_S A s.heap H locs ∧ lv_has ls 10 [(6, .long x_5), (4, .long x_6)]) (fun n_4 H locs ls ih_3 hI => ?_) ((p1).toInt : Int).toNat ⟨G, p1, p0, (Int.toNat_of_nonneg (by omega)), (by omega), (by omega), (by omega), hW, hB_G, hF, Fr.rf, hS, lv_sub hl [0, 1] rfl⟩
  obtain ⟨G_1, x_5, x_6, hn_10, f_7, f_8, f_9, hW, hB_G_1, hF, hq_2, hS, hl⟩ := hI
  refine lv_lload hx hb dX12_common_6 (lv_at hl 0 rfl) ?_
  refine lv_lconst (v := 0) hx hb dX12_common_8 (by decide) ?_
  refine W.lcmp hx hb dX12_common_9 ?_
  refine lv_topi (fun y_11 ey_11 => ?_)
  have ty_11 := lcmp_rng ey_11
  have u_12 := lc_gt ey_11
  have u_13 : (0 : Int64).toInt = 0 := rfl
  refine lv_if_le (tgt := 31) hx hb dX12_common_10 (by decide) (fun c_14 => ?_) (fun c_14 => ?_)
  · have c_14 : y_11.toInt ≤ 0 := xI_le rfl rfl c_14
    refine lv_lload hx hb dX12_common_31 (lv_at hl 1 rfl) ?_
    exact W.lret (v := x_6) hx hb hr (fun t ht _ => ⟨⟨x_6, G_1, rfl, ⟨hB_G_1, hF, (by omega)⟩, wd_t ht hW⟩, hS.F ht⟩) hS.2.2 dX12_common_33
  · have c_14 : 0 < y_11.toInt := xI_nle rfl rfl c_14
    refine lv_lload hx hb dX12_common_13 (lv_at hl 1 rfl) ?_
    refine lv_lload hx hb dX12_common_15 (lv_at hl 0 rfl) ?_
    refine lv_lrem hx hb dX12_common_17 (l_ne0 (by omega)) ?_
    refine lv_topl (fun y_15 ey_15 => ?_)
    have u_16 := l_mod ey_15 (by omega) (by omega)
    refine lv_lstore (lv' := [(8, .long y_15), (6, .long x_5), (4, .long x_6)]) hx hb dX12_common_18 hl (by decide) rfl (fun ls hl => ?_)
    refine lv_lload hx hb dX12_common_20 (lv_at hl 1 rfl) ?_
    refine lv_lstore (lv' := [(4, .long x_5), (8, .long y_15), (6, .long x_5)]) hx hb dX12_common_22 hl (by decide) rfl (fun ls hl => ?_)
    refine lv_lload hx hb dX12_common_24 (lv_at hl 1 rfl) ?_
    refine lv_lstore (lv' := [(6, .long y_15), (4, .long x_5), (8, .long y_15)]) hx hb dX12_common_26 hl (by decide) rfl (fun ls hl => ?_)
    refine lv_goto (tgt := 6) hx hb dX12_common_28 (by decide) ?_
    exact ih_3 ((y_15).toInt : Int).toNat (by omega) _ _ _ ⟨G_1, y_15, x_5, (Int.toNat_of_nonneg (by omega)), (by omega), (by omega), (by omega), hW, hB_G_1, hF, (Fr.rf.call hq_2 (by decide) (by decide)), hS, lv_sub hl [0, 1] rfl⟩

set_option maxHeartbeats 4000000 in
set_option maxRecDepth 100000 in
theorem n_chance (l : Launch) (D : va_G) (k : KT) (A : Nat → Prop) (a : Nat → Nat) (z : SK) (G : GS) (p0 : Int32) (p1 : Int32) (p2 : Int32) (hP9 : gP G = 1) (hS9 : gS G = 1) : Met l yX12_chance (WS yX12_chance cX12_chance 12 (some .long)) ({ frames := 5, cells := 0, slots := 0, locals := 117 }) (va_Pc [.ref (a 66), .int p0, .int p1, .int p2] (cW D k A a z G)) (va_Ql (fun (r : Int64) (G1 : GS) => Bd G1 ∧ Fr [76, 97, 98] [(66, 59), (66, 60), (66, 61), (66, 62), (66, 63)] G G1) (fun (G1 : GS) t => Wd D k A a G1 t.heap) A) 0 0 A := by
  refine Met.ofW (cc := cX12_chance) (maxL := 12) (ret := (some .long)) (by decide) rfl ?_
  intro p e s m args below meth c s₁ B hml hv
  obtain ⟨rfl, hW, hB_G, hK, hZ⟩ := hv
  have hx := B.exec
  have hb := B.bytes
  have hr := B.returns
  have hts := atoms_spec (ws := WS yX12_chance cX12_chance 12 (some .long)) B.pre
  have hgd : ∀ w ∈ gd, w ∈ WS yX12_chance cX12_chance 12 (some .long) := fun w h => List.mem_cons_of_mem _ h
  have hg : ∀ w ∈ gd, w.before _ s = true := fun w h => hts w (hgd w h)
  have hown : s.vm.findClass RX12 = some m.cls := findClass_of_methodNamed B.named
  have hS : va_S A s.heap s.heap [] := va_S.rf
  have hF : Fr [76, 97, 98] [(66, 59), (66, 60), (66, 61), (66, 62), (66, 63)] G G := Fr.rf
  have hl := lv_entry ([.ref (a 66), .int p0, .int p1, .int p2]) (n := 12) (Nat.le_of_ble_eq_true rfl)
  rw [lg_entry_eq]
  generalize (lg_sl ([.ref (a 66), .int p0, .int p1, .int p2]) ++ List.replicate (12 - (lg_sl ([.ref (a 66), .int p0, .int p1, .int p2])).length) Slot.unset).toArray = ls at hl ⊢
  have hl : lv_has ls 12 [(0, .ref (a 66)), (1, .int p0), (2, .int p1), (3, .int p2)] := hl
  refine lv_aload_n hx hb dX12_chance_0 rfl (lv_at hl 0 rfl) ?_
  refine lv_iload_n hx hb dX12_chance_1 rfl (lv_at hl 1 rfl) ?_
  refine S_calli (va_runV (As := [.int p0]) (rest := []) ⟨hx, hb, hml, hown, hts⟩ (n_isRule l D k A a z G p0 ) (cwV 1 hts (gd_V hgd m2007 m2009 m113 m131 m2010) rfl rfl rfl (by decide +kernel) ⟨Nat.le_of_ble_eq_true rfl, Nat.le_of_ble_eq_true rfl⟩) (pre_V hW hB_G hK hZ hS kd_66 rfl) rfl rfl hl.1 rfl (lv_room (Nat.le_of_ble_eq_true rfl)) dX12_chance_2 ⟨Nat.le_of_ble_eq_true rfl, Nat.le_of_ble_eq_true rfl⟩) hS (fun r_1 G_2 H locs hpo hW hS => ?_)
  obtain ⟨hB_G_2, hq_3, f_5, hp_4⟩ := hpo
  have hF := hF.call hq_3 (by decide) (by decide)
  refine lv_if_eq (tgt := 17) hx hb dX12_chance_5 (by decide) (fun c_6 => ?_) (fun c_6 => ?_)
  · have c_6 : r_1.toInt = 0 := xI_eq rfl rfl c_6
    refine lv_ldc2 (v := (-1)) hx hb hown (hg (Cond.constantLong RX12 517 (-1)) m1874) dX12_chance_17 ?_
    exact W.lret (v := (-1)) hx hb hr (fun t ht _ => ⟨⟨(-1), G_2, rfl, ⟨hB_G_2, hF⟩, wd_t ht hW⟩, hS.F ht⟩) hS.2.2 dX12_chance_20
  · have c_6 : r_1.toInt ≠ 0 := xI_ne rfl rfl c_6
    refine lv_iload_n hx hb dX12_chance_8 rfl (lv_at hl 2 rfl) ?_
    refine lv_iconst (v := 0) hx hb dX12_chance_9 (by decide) ?_
    refine lv_iconst (v := 1) hx hb dX12_chance_10 (by decide) ?_
    have qc_7 : (0 : Int32).toInt = 0 := rfl
    have qc_8 : (1 : Int32).toInt = 1 := rfl
    refine S_calli (va_runS (As := [.int p1, .int 0, .int 1]) (rest := []) ⟨hx, hb, hml, hown, hts⟩ (n_isIn l D k A a z G_2 p1 0 1 ) (va_cwS 3 hts (gd_S hgd m1781 m1782 m131 m1783) rfl rfl rfl (by decide +kernel) ⟨Nat.le_of_ble_eq_true rfl, Nat.le_of_ble_eq_true rfl⟩) (pre_S hW hB_G_2 hK hZ hS) rfl rfl hl.1 rfl (lv_room (Nat.le_of_ble_eq_true rfl)) dX12_chance_11 ⟨Nat.le_of_ble_eq_true rfl, Nat.le_of_ble_eq_true rfl⟩) hS (fun r_9 G_10 H locs hpo hW hS => ?_)
    obtain ⟨hB_G_10, hq_11, f_13, hp_12⟩ := hpo
    have hF := hF.call hq_11 (by decide) (by decide)
    refine lv_if_ne (tgt := 21) hx hb dX12_chance_14 (by decide) (fun c_14 => ?_) (fun c_14 => ?_)
    · have c_14 : r_9.toInt ≠ 0 := xI_ne rfl rfl c_14
      refine lv_lconst (v := 1) hx hb dX12_chance_21 (by decide) ?_
      refine lv_lstore (lv' := [(4, .long 1), (0, .ref (a 66)), (1, .int p0), (2, .int p1), (3, .int p2)]) hx hb dX12_chance_22 hl (by decide) rfl (fun ls hl => ?_)
      refine lv_lconst (v := 1) hx hb dX12_chance_24 (by decide) ?_
      refine lv_lstore (lv' := [(6, .long 1), (4, .long 1), (0, .ref (a 66)), (1, .int p0), (2, .int p1), (3, .int p2)]) hx hb dX12_chance_25 hl (by decide) rfl (fun ls hl => ?_)
      refine lv_iconst (v := 0) hx hb dX12_chance_27 (by decide) ?_
      have u_15 : p7I (0 : Int32).toInt = 1 := rfl
      have u_16 : (1 : Int64).toInt = 1 := rfl
      refine lv_istore (lv' := [(8, .int 0), (6, .long 1), (4, .long 1), (0, .ref (a 66)), (1, .int p0), (2, .int p1), (3, .int p2)]) hx hb dX12_chance_28 hl (by decide) rfl (fun ls hl => ?_)
      have qc_24 : (0 : Int32).toInt = 0 := rfl
      refine loop_N (Inv := fun n H locs ls => ∃ (G_17 : GS) (x_21 : Int32) (x_22 : Int64) (x_23 : Int64), (n : Int) = 20 - x_21.toInt ∧ (0 ≤ x_21.toInt ∧ x_21.toInt ≤ 20) ∧ (0 ≤ (x_23).toInt ∧ (x_23).toInt ≤ p7I x_21.toInt) ∧ (1 ≤ (x_22).toInt ∧ (x_22).toInt ≤ p7I x_21.toInt) ∧ Wd D k A a G_17 H ∧ Bd G_17 ∧ Fr [76, 97, 98] [(66, 59), (66, 60), (66, 61), (66, 62), (66, 63)] G G_17 ∧ Fr [76, 97, 98] [(66, 59), (66, 60), (66, 61), (66, 62), (66, 63)] G_10 G_17 ∧ va_S A s.heap H locs ∧ lv_has ls 12 [(8, .int x_21), (6, .long x_22), (4, .long x_23), (0, .ref (a 66)), (1, .int p0), (2, .int p1), (3, .int p2)]) (fun n_20 H locs ls ih_19 hI => ?_) (20 - 0 : Int).toNat ⟨G_10, 0, 1, 1, (Int.toNat_of_nonneg (by omega)), ⟨by omega, by omega⟩, (by omega), (by omega), hW, hB_G_10, hF, Fr.rf, hS, lv_sub hl [0, 1, 2, 3, 4, 5, 6] rfl⟩
      obtain ⟨G_17, x_21, x_22, x_23, hn_28, f_25, f_26, f_27, hW, hB_G_17, hF, hq_18, hS, hl⟩ := hI
      have u_29 := p7_at x_21.toInt (by omega) (by omega)
      refine lv_iload hx hb dX12_chance_30 (lv_at hl 0 rfl) ?_
      refine lv_aload_n hx hb dX12_chance_32 rfl (lv_at hl 3 rfl) ?_
      have b_30 : 0 ≤ (G.1 66 85).toInt ∧ (G.1 66 85).toInt ≤ 20 := hB_G.i 66 85 rfl rfl
      refine S_getI (v := (G.1 66 85)) (C := RX12) (T := TX12) (N := 89) hx hb hg iX12 hown hK hW kd_66 rfl 85 (by decide) (hg (Cond.fieldLink RX12 443 "SlabWalkModel" "sights" "I") m1399) (fun _ h9 => h9) rfl ((hq_18.i 66 85 (by decide) (by decide)).trans ((hq_11.i 66 85 (by decide) (by decide)).trans (hq_3.i 66 85 (by decide) (by decide)))) dX12_chance_33 ?_
      refine lv_icmp_ge (tgt := 162) hx hb dX12_chance_36 (by decide) (fun c_31 => ?_) (fun c_31 => ?_)
      · have c_31 : (G.1 66 85).toInt ≤ x_21.toInt := xI_le rfl rfl c_31
        refine lv_lload hx hb dX12_chance_162 (lv_at hl 2 rfl) ?_
        refine lv_lload hx hb dX12_chance_164 (lv_at hl 1 rfl) ?_
        refine S_calll (va_runS (As := [.long x_23, .long x_22]) (rest := []) ⟨hx, hb, hml, hown, hts⟩ (n_common l D k A a z G_17 x_23 x_22 (by omega) (by omega)) (va_cwS 2 hts (gd_S hgd m2063 m2064 m131 m2065) rfl rfl rfl (by decide +kernel) ⟨Nat.le_of_ble_eq_true rfl, Nat.le_of_ble_eq_true rfl⟩) (pre_S hW hB_G_17 hK hZ hS) rfl rfl hl.1 rfl (lv_room (Nat.le_of_ble_eq_true rfl)) dX12_chance_166 ⟨Nat.le_of_ble_eq_true rfl, Nat.le_of_ble_eq_true rfl⟩) hS (fun r_32 G_33 H locs hpo hW hS => ?_)
        obtain ⟨hB_G_33, hq_34, hp_35⟩ := hpo
        have hF := hF.call hq_34 (by decide) (by decide)
        refine lv_lstore (lv' := [(8, .long r_32), (6, .long x_22), (4, .long x_23), (0, .ref (a 66)), (1, .int p0), (2, .int p1), (3, .int p2)]) hx hb dX12_chance_169 hl (by decide) rfl (fun ls hl => ?_)
        refine lv_iload_n hx hb dX12_chance_171 rfl (lv_at hl 5 rfl) ?_
        refine lv_if_ne (tgt := 183) hx hb dX12_chance_172 (by decide) (fun c_36 => ?_) (fun c_36 => ?_)
        · have c_36 : p1.toInt ≠ 0 := xI_ne rfl rfl c_36
          refine lv_lload hx hb dX12_chance_183 (lv_at hl 1 rfl) ?_
          refine lv_lload hx hb dX12_chance_185 (lv_at hl 0 rfl) ?_
          refine lv_ldiv hx hb dX12_chance_187 (l_ne0 (by omega)) ?_
          refine lv_topl (fun y_37 ey_37 => ?_)
          exact W.lret (v := y_37) hx hb hr (fun t ht _ => ⟨⟨y_37, G_33, rfl, ⟨hB_G_33, hF⟩, wd_t ht hW⟩, hS.F ht⟩) hS.2.2 dX12_chance_188
        · have c_36 : p1.toInt = 0 := xI_eq rfl rfl c_36
          refine lv_lload hx hb dX12_chance_175 (lv_at hl 2 rfl) ?_
          refine lv_lload hx hb dX12_chance_177 (lv_at hl 0 rfl) ?_
          refine lv_ldiv hx hb dX12_chance_179 (l_ne0 (by omega)) ?_
          refine lv_topl (fun y_38 ey_38 => ?_)
          refine lv_goto (tgt := 188) hx hb dX12_chance_180 (by decide) ?_
          exact W.lret (v := y_38) hx hb hr (fun t ht _ => ⟨⟨y_38, G_33, rfl, ⟨hB_G_33, hF⟩, wd_t ht hW⟩, hS.F ht⟩) hS.2.2 dX12_chance_188
      · have c_31 : x_21.toInt < (G.1 66 85).toInt := xI_nle rfl rfl c_31
        refine lv_aload_n hx hb dX12_chance_39 rfl (lv_at hl 3 rfl) ?_
        refine lv_iload hx hb dX12_chance_40 (lv_at hl 0 rfl) ?_
        refine lv_iload_n hx hb dX12_chance_42 rfl (lv_at hl 6 rfl) ?_
        refine S_calli (va_runV (As := [.int x_21, .int p2]) (rest := []) ⟨hx, hb, hml, hown, hts⟩ (n_counts l D k A a z G_17 x_21 p2 ⟨by omega, by omega⟩) (cwV 2 hts (gd_V hgd m2055 m2057 m115 m131 m2058) rfl rfl rfl (by decide +kernel) ⟨Nat.le_of_ble_eq_true rfl, Nat.le_of_ble_eq_true rfl⟩) (pre_V hW hB_G_17 hK hZ hS kd_66 rfl) rfl rfl hl.1 rfl (lv_room (Nat.le_of_ble_eq_true rfl)) dX12_chance_43 ⟨Nat.le_of_ble_eq_true rfl, Nat.le_of_ble_eq_true rfl⟩) hS (fun r_39 G_40 H locs hpo hW hS => ?_)
        obtain ⟨hB_G_40, hq_41, f_43⟩ := hpo
        have hF := hF.call hq_41 (by decide) (by decide)
        refine lv_if_ne (tgt := 52) hx hb dX12_chance_46 (by decide) (fun c_44 => ?_) (fun c_44 => ?_)
        · have c_44 : r_39.toInt ≠ 0 := xI_ne rfl rfl c_44
          refine lv_aload_n hx hb dX12_chance_52 rfl (lv_at hl 3 rfl) ?_
          refine lv_aload_n hx hb dX12_chance_53 rfl (lv_at hl 3 rfl) ?_
          refine S_getR (n := 112) (C := RX12) (T := TX12) (N := 89) hx hb hg iX12 hown hK hW kd_66 rfl 80 (by decide) (hg (Cond.fieldLink RX12 157 "SlabWalkModel" "sightWho" "[I") m1394) (fun _ h9 => h9) rfl dX12_chance_54 ?_
          refine lv_iload hx hb dX12_chance_57 (lv_at hl 0 rfl) ?_
          refine S_iald hx hb hK hW kd_112 (vin (by omega) (by omega)) dX12_chance_59 (fun y_45 ey_45 => ?_)
          have ty_45 : 0 ≤ y_45.toInt ∧ y_45.toInt ≤ 3 := hB_G_40.v ey_45 rfl rfl
          have u_46 : y_45.toInt = (G.1 112 x_21.toNatClampNeg).toInt := congrArg Int32.toInt (ey_45.trans (((hq_41.ri 112 (by decide) (by decide) x_21.toNatClampNeg).trans ((hq_18.ri 112 (by decide) (by decide) x_21.toNatClampNeg).trans ((hq_11.ri 112 (by decide) (by decide) x_21.toNatClampNeg).trans (hq_3.ri 112 (by decide) (by decide) x_21.toNatClampNeg))))))
          refine lv_aload_n hx hb dX12_chance_60 rfl (lv_at hl 3 rfl) ?_
          refine S_getR (n := 113) (C := RX12) (T := TX12) (N := 89) hx hb hg iX12 hown hK hW kd_66 rfl 81 (by decide) (hg (Cond.fieldLink RX12 160 "SlabWalkModel" "sightWhere" "[I") m1395) (fun _ h9 => h9) rfl dX12_chance_61 ?_
          refine lv_iload hx hb dX12_chance_64 (lv_at hl 0 rfl) ?_
          refine S_iald hx hb hK hW kd_113 (vin (by omega) (by omega)) dX12_chance_66 (fun y_47 ey_47 => ?_)
          have ty_47 : 0 ≤ y_47.toInt ∧ y_47.toInt ≤ 2 := hB_G_40.v ey_47 rfl rfl
          have u_48 : y_47.toInt = (G.1 113 x_21.toNatClampNeg).toInt := congrArg Int32.toInt (ey_47.trans (((hq_41.ri 113 (by decide) (by decide) x_21.toNatClampNeg).trans ((hq_18.ri 113 (by decide) (by decide) x_21.toNatClampNeg).trans ((hq_11.ri 113 (by decide) (by decide) x_21.toNatClampNeg).trans (hq_3.ri 113 (by decide) (by decide) x_21.toNatClampNeg))))))
          refine lv_iconst (v := 1) hx hb dX12_chance_67 (by decide) ?_
          refine lv_iload_n hx hb dX12_chance_68 rfl (lv_at hl 4 rfl) ?_
          refine lv_ishl hx hb dX12_chance_69 ?_
          refine lv_topi (fun y_49 ey_49 => ?_)
          have ty_49 := sh5 (Y := p0.toInt) rfl ey_49 rfl (by omega) (by omega)
          have g_50 : gP G_40 = gP G := gP_fr (rs := [76, 97, 98]) (fs := [(66, 59), (66, 60), (66, 61), (66, 62), (66, 63)]) ((((Fr.rf.call hq_3 (by decide) (by decide)).call hq_11 (by decide) (by decide)).call hq_18 (by decide) (by decide)).call hq_41 (by decide) (by decide)) (by decide) (by decide)
          refine S_callv (va_runV (As := [.int y_45, .int y_47, .int y_49]) (rest := []) ⟨hx, hb, hml, hown, hts⟩ (n_layStreet l D k A a z G_40 y_45 y_47 y_49 ⟨by omega, by omega⟩ ⟨by omega, by omega⟩ (by omega)) (cwV 3 hts (gd_V hgd m1834 m1836 m91 m131 m1837) rfl rfl rfl (by decide +kernel) ⟨Nat.le_of_ble_eq_true rfl, Nat.le_of_ble_eq_true rfl⟩) (pre_V hW hB_G_40 hK hZ hS kd_66 rfl) rfl rfl hl.1 rfl (lv_room (Nat.le_of_ble_eq_true rfl)) dX12_chance_70 ⟨Nat.le_of_ble_eq_true rfl, Nat.le_of_ble_eq_true rfl⟩) hS (fun G_52 H locs hpo hW hS => ?_)
          obtain ⟨hB_G_52, hq_53, hp_54⟩ := hpo
          have hF := hF.call hq_53 (by decide) (by decide)
          have u_55 := gS_at hS9 (s := x_21) (w := y_45) (r := y_47) (q := G.1 114 x_21.toNatClampNeg) (by omega) (by omega) (by omega) (by omega) rfl
          have b_56 : 0 ≤ (G.1 114 x_21.toNatClampNeg).toInt ∧ (G.1 114 x_21.toNatClampNeg).toInt ≤ 399 := hB_G.i 114 _ rfl rfl
          have u_57 : (G_40.1 92 y_45.toNatClampNeg).toInt = (G.1 92 y_45.toNatClampNeg).toInt := congrArg Int32.toInt (((hq_41.ri 92 (by decide) (by decide) y_45.toNatClampNeg).trans ((hq_18.ri 92 (by decide) (by decide) y_45.toNatClampNeg).trans ((hq_11.ri 92 (by decide) (by decide) y_45.toNatClampNeg).trans (hq_3.ri 92 (by decide) (by decide) y_45.toNatClampNeg)))))
          have u_58 : (G_40.1 91 y_47.toNatClampNeg).toInt = (G.1 91 y_47.toNatClampNeg).toInt := congrArg Int32.toInt (((hq_41.ri 91 (by decide) (by decide) y_47.toNatClampNeg).trans ((hq_18.ri 91 (by decide) (by decide) y_47.toNatClampNeg).trans ((hq_11.ri 91 (by decide) (by decide) y_47.toNatClampNeg).trans (hq_3.ri 91 (by decide) (by decide) y_47.toNatClampNeg)))))
          have b_59 : 0 ≤ (G_52.1 66 60).toInt ∧ (G_52.1 66 60).toInt ≤ 12 := hB_G_52.i 66 60 rfl rfl
          have b_60 : 0 ≤ (G_52.1 66 59).toInt ∧ (G_52.1 66 59).toInt ≤ 400 := hB_G_52.i 66 59 rfl rfl
          refine lv_iconst (v := 0) hx hb dX12_chance_73 (by decide) ?_
          refine lv_istore (lv' := [(9, .int 0), (8, .int x_21), (6, .long x_22), (4, .long x_23), (0, .ref (a 66)), (1, .int p0), (2, .int p1), (3, .int p2)]) hx hb dX12_chance_74 hl (by decide) rfl (fun ls hl => ?_)
          refine lv_iconst (v := 0) hx hb dX12_chance_76 (by decide) ?_
          refine lv_istore (lv' := [(10, .int 0), (9, .int 0), (8, .int x_21), (6, .long x_22), (4, .long x_23), (0, .ref (a 66)), (1, .int p0), (2, .int p1), (3, .int p2)]) hx hb dX12_chance_77 hl (by decide) rfl (fun ls hl => ?_)
          refine lv_aload_n hx hb dX12_chance_79 rfl (lv_at hl 5 rfl) ?_
          refine S_getR (n := 114) (C := RX12) (T := TX12) (N := 89) hx hb hg iX12 hown hK hW kd_66 rfl 82 (by decide) (hg (Cond.fieldLink RX12 163 "SlabWalkModel" "sightHeel" "[I") m1396) (fun _ h9 => h9) rfl dX12_chance_80 ?_
          refine lv_iload hx hb dX12_chance_83 (lv_at hl 2 rfl) ?_
          refine S_iald hx hb hK hW kd_114 (vin (by omega) (by omega)) dX12_chance_85 (fun y_61 ey_61 => ?_)
          have ty_61 : 0 ≤ y_61.toInt ∧ y_61.toInt ≤ 399 := hB_G_52.v ey_61 rfl rfl
          have u_62 : y_61.toInt = (G.1 114 x_21.toNatClampNeg).toInt := congrArg Int32.toInt (ey_61.trans (((hq_53.ri 114 (by decide) (by decide) x_21.toNatClampNeg).trans ((hq_41.ri 114 (by decide) (by decide) x_21.toNatClampNeg).trans ((hq_18.ri 114 (by decide) (by decide) x_21.toNatClampNeg).trans ((hq_11.ri 114 (by decide) (by decide) x_21.toNatClampNeg).trans (hq_3.ri 114 (by decide) (by decide) x_21.toNatClampNeg)))))))
          refine lv_iconst (v := 3) hx hb dX12_chance_86 (by decide) ?_
          refine lv_isub hx hb dX12_chance_87 ?_
          refine lv_topi (fun y_63 ey_63 => ?_)
          have ty_63 : y_63.toInt = y_61.toInt - 3 := xI_sub rfl rfl ey_63 (by omega) (by omega)
          refine lv_istore (lv' := [(11, .int y_63), (10, .int 0), (9, .int 0), (8, .int x_21), (6, .long x_22), (4, .long x_23), (0, .ref (a 66)), (1, .int p0), (2, .int p1), (3, .int p2)]) hx hb dX12_chance_88 hl (by decide) rfl (fun ls hl => ?_)
          have qc_71 : (0 : Int32).toInt = 0 := rfl
          refine loop_N (Inv := fun n H locs ls => ∃ (G_64 : GS) (x_68 : Int32) (x_69 : Int32) (x_70 : Int32), (n : Int) = 403 - x_68.toInt ∧ ((-3) ≤ x_68.toInt ∧ x_68.toInt ≤ 403) ∧ (0 ≤ x_69.toInt ∧ x_69.toInt ≤ 7) ∧ (0 ≤ x_70.toInt ∧ x_70.toInt ≤ 7) ∧ (x_70.toInt ≤ x_69.toInt) ∧ (x_69.toInt ≤ x_68.toInt - (G.1 114 x_21.toNatClampNeg).toInt + 3) ∧ ((G.1 114 x_21.toNatClampNeg).toInt - 3 ≤ x_68.toInt) ∧ (x_68.toInt ≤ (G.1 114 x_21.toNatClampNeg).toInt + 4) ∧ (x_68.toInt ≤ (G.1 114 x_21.toNatClampNeg).toInt ∨ 1 ≤ x_69.toInt) ∧ Wd D k A a G_64 H ∧ Bd G_64 ∧ Fr [76, 97, 98] [(66, 59), (66, 60), (66, 61), (66, 62), (66, 63)] G G_64 ∧ Fr [] [] G_52 G_64 ∧ va_S A s.heap H locs ∧ lv_has ls 12 [(11, .int x_68), (10, .int x_69), (9, .int x_70), (8, .int x_21), (6, .long x_22), (4, .long x_23), (0, .ref (a 66)), (1, .int p0), (2, .int p1), (3, .int p2)]) (fun n_67 H locs ls ih_66 hI => ?_) (403 - y_63.toInt : Int).toNat ⟨G_52, y_63, 0, 0, (Int.toNat_of_nonneg (by omega)), ⟨by omega, by omega⟩, ⟨by omega, by omega⟩, ⟨by omega, by omega⟩, (by omega), (by omega), (by omega), (by omega), (by omega), hW, hB_G_52, hF, Fr.rf, hS, lv_sub hl [0, 1, 2, 3, 4, 5, 6, 7, 8, 9] rfl⟩
          obtain ⟨G_64, x_68, x_69, x_70, hn_80, f_72, f_73, f_74, f_75, f_76, f_77, f_78, f_79, hW, hB_G_64, hF, hq_65, hS, hl⟩ := hI
          refine lv_iload hx hb dX12_chance_90 (lv_at hl 0 rfl) ?_
          refine lv_aload_n hx hb dX12_chance_92 rfl (lv_at hl 6 rfl) ?_
          refine S_getR (n := 114) (C := RX12) (T := TX12) (N := 89) hx hb hg iX12 hown hK hW kd_66 rfl 82 (by decide) (hg (Cond.fieldLink RX12 163 "SlabWalkModel" "sightHeel" "[I") m1396) (fun _ h9 => h9) rfl dX12_chance_93 ?_
          refine lv_iload hx hb dX12_chance_96 (lv_at hl 3 rfl) ?_
          refine S_iald hx hb hK hW kd_114 (vin (by omega) (by omega)) dX12_chance_98 (fun y_81 ey_81 => ?_)
          have ty_81 : 0 ≤ y_81.toInt ∧ y_81.toInt ≤ 399 := hB_G_64.v ey_81 rfl rfl
          have u_82 : y_81.toInt = y_61.toInt := congrArg Int32.toInt (ey_81.trans (((hq_65.ri 114 (by decide) (by decide) x_21.toNatClampNeg).trans (ey_61.symm))))
          refine lv_iconst (v := 3) hx hb dX12_chance_99 (by decide) ?_
          refine lv_iadd hx hb dX12_chance_100 ?_
          refine lv_topi (fun y_83 ey_83 => ?_)
          have ty_83 : y_83.toInt = y_81.toInt + 3 := xI_add rfl rfl ey_83 (by omega) (by omega)
          refine lv_icmp_gt (tgt := 140) hx hb dX12_chance_101 (by decide) (fun c_84 => ?_) (fun c_84 => ?_)
          · have c_84 : y_83.toInt < x_68.toInt := xI_lt rfl rfl c_84
            refine lv_lload hx hb dX12_chance_140 (lv_at hl 5 rfl) ?_
            refine lv_iload hx hb dX12_chance_142 (lv_at hl 2 rfl) ?_
            refine lv_i2l hx hb dX12_chance_144 rfl ?_
            refine lv_topl (fun y_85 ey_85 => ?_)
            refine lv_lmul hx hb dX12_chance_145 ?_
            refine lv_topl (fun y_86 ey_86 => ?_)
            have u_87 := l_mulB (x := x_23) (y := x_70) (P := p7I x_21.toInt) ey_85 ey_86 (by omega) (by omega) (by omega) (by omega) (by omega)
            refine lv_lstore (lv' := [(4, .long y_86), (11, .int x_68), (10, .int x_69), (9, .int x_70), (8, .int x_21), (6, .long x_22), (0, .ref (a 66)), (1, .int p0), (2, .int p1), (3, .int p2)]) hx hb dX12_chance_146 hl (by decide) rfl (fun ls hl => ?_)
            refine lv_lload hx hb dX12_chance_148 (lv_at hl 5 rfl) ?_
            refine lv_iload hx hb dX12_chance_150 (lv_at hl 2 rfl) ?_
            refine lv_i2l hx hb dX12_chance_152 rfl ?_
            refine lv_topl (fun y_88 ey_88 => ?_)
            refine lv_lmul hx hb dX12_chance_153 ?_
            refine lv_topl (fun y_89 ey_89 => ?_)
            have u_90 := l_mulB (x := x_22) (y := x_69) (P := p7I x_21.toInt) ey_88 ey_89 (by omega) (by omega) (by omega) (by omega) (by omega)
            refine lv_lstore (lv' := [(6, .long y_89), (4, .long y_86), (11, .int x_68), (10, .int x_69), (9, .int x_70), (8, .int x_21), (0, .ref (a 66)), (1, .int p0), (2, .int p1), (3, .int p2)]) hx hb dX12_chance_154 hl (by decide) rfl (fun ls hl => ?_)
            obtain ⟨y_91, ey_91⟩ : ∃ q, q = x_21 + 1 := ⟨_, rfl⟩
            have ty_91 : y_91.toInt = x_21.toInt + 1 := xI_add rfl rfl ey_91 (by omega) (by omega)
            refine lv_iinc (v := y_91) (lv' := [(8, .int y_91), (6, .long y_89), (4, .long y_86), (11, .int x_68), (10, .int x_69), (9, .int x_70), (0, .ref (a 66)), (1, .int p0), (2, .int p1), (3, .int p2)]) hx hb dX12_chance_156 hl (k := 5) rfl (by rw [ey_91]; rfl) (by decide) rfl (fun ls hl => ?_)
            have u_92 : p7I y_91.toInt = p7I (x_21.toInt + 1) := by rw [ty_91]
            refine lv_goto (tgt := 30) hx hb dX12_chance_159 (by decide) ?_
            exact ih_19 (20 - y_91.toInt : Int).toNat (by omega) _ _ _ ⟨G_64, y_91, y_89, y_86, (Int.toNat_of_nonneg (by omega)), ⟨by omega, by omega⟩, (by omega), (by omega), hW, hB_G_64, hF, ((((Fr.rf.call hq_18 (by decide) (by decide)).call hq_41 (by decide) (by decide)).call hq_53 (by decide) (by decide)).call hq_65 (by decide) (by decide)), hS, lv_sub hl [0, 1, 2, 6, 7, 8, 9] rfl⟩
          · have c_84 : x_68.toInt ≤ y_83.toInt := xI_nlt rfl rfl c_84
            refine lv_aload_n hx hb dX12_chance_104 rfl (lv_at hl 6 rfl) ?_
            refine lv_iload hx hb dX12_chance_105 (lv_at hl 0 rfl) ?_
            have g_93 : (G_64.1 66 59).toInt = (G_52.1 66 59).toInt := by rw [show G_64.1 66 59 = (G_52.1 66 59) from ((hq_65.i 66 59 (by decide) (by decide)).trans (rfl))]
            have g_94 : (G_64.1 66 60).toInt = (G_52.1 66 60).toInt := by rw [show G_64.1 66 60 = (G_52.1 66 60) from ((hq_65.i 66 60 (by decide) (by decide)).trans (rfl))]
            refine S_calli (va_runV (As := [.int x_68]) (rest := []) ⟨hx, hb, hml, hown, hts⟩ (n_stands1 l D k A a z G_64 x_68 ) (cwV 1 hts (gd_V hgd m1838 m1840 m92 m131 m1841) rfl rfl rfl (by decide +kernel) ⟨Nat.le_of_ble_eq_true rfl, Nat.le_of_ble_eq_true rfl⟩) (pre_V hW hB_G_64 hK hZ hS kd_66 rfl) rfl rfl hl.1 rfl (lv_room (Nat.le_of_ble_eq_true rfl)) dX12_chance_107 ⟨Nat.le_of_ble_eq_true rfl, Nat.le_of_ble_eq_true rfl⟩) hS (fun r_95 G_96 H locs hpo hW hS => ?_)
            obtain ⟨hB_G_96, hq_97, f_99, hp_98⟩ := hpo
            have hF := hF.call hq_97 (by decide) (by decide)
            refine lv_if_ne (tgt := 116) hx hb dX12_chance_110 (by decide) (fun c_100 => ?_) (fun c_100 => ?_)
            · have c_100 : r_95.toInt ≠ 0 := xI_ne rfl rfl c_100
              obtain ⟨y_101, ey_101⟩ : ∃ q, q = x_69 + 1 := ⟨_, rfl⟩
              have ty_101 : y_101.toInt = x_69.toInt + 1 := xI_add rfl rfl ey_101 (by omega) (by omega)
              refine lv_iinc (v := y_101) (lv' := [(10, .int y_101), (11, .int x_68), (9, .int x_70), (8, .int x_21), (6, .long x_22), (4, .long x_23), (0, .ref (a 66)), (1, .int p0), (2, .int p1), (3, .int p2)]) hx hb dX12_chance_116 hl (k := 1) rfl (by rw [ey_101]; rfl) (by decide) rfl (fun ls hl => ?_)
              refine lv_iload hx hb dX12_chance_119 (lv_at hl 2 rfl) ?_
              refine lv_aload_n hx hb dX12_chance_121 rfl (lv_at hl 6 rfl) ?_
              refine S_getR (n := 98) (C := RX12) (T := TX12) (N := 89) hx hb hg iX12 hown hK hW kd_66 rfl 58 (by decide) (hg (Cond.fieldLink RX12 115 "SlabWalkModel" "lawful" "[Z") m1372) (fun _ h9 => h9) rfl dX12_chance_122 ?_
              refine lv_iload hx hb dX12_chance_125 (lv_at hl 1 rfl) ?_
              refine S_zald hx hb hK hW kd_98 (vin (by omega) (by omega)) dX12_chance_127 (fun y_102 ey_102 => ?_)
              have ty_102 := hB_G_96.law ey_102
              have u_103 : y_102.toInt = (G_52.1 98 x_68.toNatClampNeg).toInt := congrArg Int32.toInt (ey_102.trans (((hq_97.ri 98 (by decide) (by decide) x_68.toNatClampNeg).trans (hq_65.ri 98 (by decide) (by decide) x_68.toNatClampNeg))))
              refine S_calli (va_runS (As := [.int y_102]) (rest := [.int x_70]) ⟨hx, hb, hml, hown, hts⟩ (n_truth l D k A a z G_96 y_102 ⟨by omega, by omega⟩) (va_cwS 1 hts (gd_S hgd m1788 m1789 m131 m1790) rfl rfl rfl (by decide +kernel) ⟨Nat.le_of_ble_eq_true rfl, Nat.le_of_ble_eq_true rfl⟩) (pre_S hW hB_G_96 hK hZ hS) rfl rfl hl.1 rfl (lv_room (Nat.le_of_ble_eq_true rfl)) dX12_chance_128 ⟨Nat.le_of_ble_eq_true rfl, Nat.le_of_ble_eq_true rfl⟩) hS (fun r_104 G_105 H locs hpo hW hS => ?_)
              obtain ⟨hB_G_105, hq_106, f_108, hp_107, -⟩ := hpo
              have hF := hF.call hq_106 (by decide) (by decide)
              refine lv_iadd hx hb dX12_chance_131 ?_
              refine lv_topi (fun y_109 ey_109 => ?_)
              have ty_109 : y_109.toInt = x_70.toInt + r_104.toInt := xI_add rfl rfl ey_109 (by omega) (by omega)
              refine lv_istore (lv' := [(9, .int y_109), (10, .int y_101), (11, .int x_68), (8, .int x_21), (6, .long x_22), (4, .long x_23), (0, .ref (a 66)), (1, .int p0), (2, .int p1), (3, .int p2)]) hx hb dX12_chance_132 hl (by decide) rfl (fun ls hl => ?_)
              obtain ⟨y_110, ey_110⟩ : ∃ q, q = x_68 + 1 := ⟨_, rfl⟩
              have ty_110 : y_110.toInt = x_68.toInt + 1 := xI_add rfl rfl ey_110 (by omega) (by omega)
              refine lv_iinc (v := y_110) (lv' := [(11, .int y_110), (9, .int y_109), (10, .int y_101), (8, .int x_21), (6, .long x_22), (4, .long x_23), (0, .ref (a 66)), (1, .int p0), (2, .int p1), (3, .int p2)]) hx hb dX12_chance_134 hl (k := 2) rfl (by rw [ey_110]; rfl) (by decide) rfl (fun ls hl => ?_)
              refine lv_goto (tgt := 90) hx hb dX12_chance_137 (by decide) ?_
              exact ih_66 (403 - y_110.toInt : Int).toNat (by omega) _ _ _ ⟨G_105, y_110, y_101, y_109, (Int.toNat_of_nonneg (by omega)), ⟨by omega, by omega⟩, ⟨by omega, by omega⟩, ⟨by omega, by omega⟩, (by omega), (by omega), (by omega), (by omega), (by omega), hW, hB_G_105, hF, (((Fr.rf.call hq_65 (by decide) (by decide)).call hq_97 (by decide) (by decide)).call hq_106 (by decide) (by decide)), hS, lv_sub hl [0, 2, 1, 3, 4, 5, 6, 7, 8, 9] rfl⟩
            · have c_100 : r_95.toInt = 0 := xI_eq rfl rfl c_100
              refine lv_goto (tgt := 134) hx hb dX12_chance_113 (by decide) ?_
              obtain ⟨y_111, ey_111⟩ : ∃ q, q = x_68 + 1 := ⟨_, rfl⟩
              have ty_111 : y_111.toInt = x_68.toInt + 1 := xI_add rfl rfl ey_111 (by omega) (by omega)
              refine lv_iinc (v := y_111) (lv' := [(11, .int y_111), (10, .int x_69), (9, .int x_70), (8, .int x_21), (6, .long x_22), (4, .long x_23), (0, .ref (a 66)), (1, .int p0), (2, .int p1), (3, .int p2)]) hx hb dX12_chance_134 hl (k := 0) rfl (by rw [ey_111]; rfl) (by decide) rfl (fun ls hl => ?_)
              refine lv_goto (tgt := 90) hx hb dX12_chance_137 (by decide) ?_
              exact ih_66 (403 - y_111.toInt : Int).toNat (by omega) _ _ _ ⟨G_96, y_111, x_69, x_70, (Int.toNat_of_nonneg (by omega)), ⟨by omega, by omega⟩, ⟨by omega, by omega⟩, ⟨by omega, by omega⟩, (by omega), (by omega), (by omega), (by omega), (by omega), hW, hB_G_96, hF, ((Fr.rf.call hq_65 (by decide) (by decide)).call hq_97 (by decide) (by decide)), hS, lv_sub hl [0, 1, 2, 3, 4, 5, 6, 7, 8, 9] rfl⟩
        · have c_44 : r_39.toInt = 0 := xI_eq rfl rfl c_44
          refine lv_goto (tgt := 156) hx hb dX12_chance_49 (by decide) ?_
          obtain ⟨y_112, ey_112⟩ : ∃ q, q = x_21 + 1 := ⟨_, rfl⟩
          have ty_112 : y_112.toInt = x_21.toInt + 1 := xI_add rfl rfl ey_112 (by omega) (by omega)
          refine lv_iinc (v := y_112) (lv' := [(8, .int y_112), (6, .long x_22), (4, .long x_23), (0, .ref (a 66)), (1, .int p0), (2, .int p1), (3, .int p2)]) hx hb dX12_chance_156 hl (k := 0) rfl (by rw [ey_112]; rfl) (by decide) rfl (fun ls hl => ?_)
          have u_113 : p7I y_112.toInt = p7I (x_21.toInt + 1) := by rw [ty_112]
          refine lv_goto (tgt := 30) hx hb dX12_chance_159 (by decide) ?_
          exact ih_19 (20 - y_112.toInt : Int).toNat (by omega) _ _ _ ⟨G_40, y_112, x_22, x_23, (Int.toNat_of_nonneg (by omega)), ⟨by omega, by omega⟩, (by omega), (by omega), hW, hB_G_40, hF, ((Fr.rf.call hq_18 (by decide) (by decide)).call hq_41 (by decide) (by decide)), hS, lv_sub hl [0, 1, 2, 3, 4, 5, 6] rfl⟩
    · have c_14 : r_9.toInt = 0 := xI_eq rfl rfl c_14
      refine lv_ldc2 (v := (-1)) hx hb hown (hg (Cond.constantLong RX12 517 (-1)) m1874) dX12_chance_17 ?_
      exact W.lret (v := (-1)) hx hb hr (fun t ht _ => ⟨⟨(-1), G_10, rfl, ⟨hB_G_10, hF⟩, wd_t ht hW⟩, hS.F ht⟩) hS.2.2 dX12_chance_20
