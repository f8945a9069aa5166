theorem m2063 : Cond.methodLink RX12 599 yX12_common ∈ gd := gd_mem 2063 (by decide +kernel) (by decide +kernel)
theorem m2064 : Cond.static yX12_common ∈ gd := gd_mem 2064 (by decide +kernel) (by decide +kernel)
theorem m2065 : Cond.code yX12_common cX12_common 10 (some .long) ∈ gd := gd_mem 2065 (by decide +kernel) (by decide +kernel)
theorem dX12_chance_0 : decode cX12_chance 0 = .ok (.aload_n 0, 1) := by decide +kernel
theorem dX12_chance_1 : decode cX12_chance 1 = .ok (.iload_n 1, 1) := by decide +kernel
theorem dX12_chance_2 : decode cX12_chance 2 = .ok (.invokevirtual 587, 3) := by decide +kernel
theorem dX12_chance_5 : decode cX12_chance 5 = .ok (.ifCond .eq 12, 3) := by decide +kernel
theorem dX12_chance_8 : decode cX12_chance 8 = .ok (.iload_n 2, 1) := by decide +kernel
theorem dX12_chance_9 : decode cX12_chance 9 = .ok (.iconst 0, 1) := by decide +kernel
theorem dX12_chance_10 : decode cX12_chance 10 = .ok (.iconst 1, 1) := by decide +kernel
theorem dX12_chance_11 : decode cX12_chance 11 = .ok (.invokestatic 449, 3) := by decide +kernel
theorem dX12_chance_14 : decode cX12_chance 14 = .ok (.ifCond .ne 7, 3) := by decide +kernel
theorem dX12_chance_17 : decode cX12_chance 17 = .ok (.ldc2_w 517, 3) := by decide +kernel
theorem dX12_chance_20 : decode cX12_chance 20 = .ok (.lreturn, 1) := by decide +kernel
theorem dX12_chance_21 : decode cX12_chance 21 = .ok (.lconst 1, 1) := by decide +kernel
theorem dX12_chance_22 : decode cX12_chance 22 = .ok (.lstore 4, 2) := by decide +kernel
theorem dX12_chance_24 : decode cX12_chance 24 = .ok (.lconst 1, 1) := by decide +kernel
theorem dX12_chance_25 : decode cX12_chance 25 = .ok (.lstore 6, 2) := by decide +kernel
theorem dX12_chance_27 : decode cX12_chance 27 = .ok (.iconst 0, 1) := by decide +kernel
theorem dX12_chance_28 : decode cX12_chance 28 = .ok (.istore 8, 2) := by decide +kernel
theorem dX12_chance_30 : decode cX12_chance 30 = .ok (.iload 8, 2) := by decide +kernel
theorem dX12_chance_32 : decode cX12_chance 32 = .ok (.aload_n 0, 1) := by decide +kernel
theorem dX12_chance_33 : decode cX12_chance 33 = .ok (.getfield 443, 3) := by decide +kernel
theorem dX12_chance_36 : decode cX12_chance 36 = .ok (.if_icmp .ge 126, 3) := by decide +kernel
theorem dX12_chance_39 : decode cX12_chance 39 = .ok (.aload_n 0, 1) := by decide +kernel
theorem dX12_chance_40 : decode cX12_chance 40 = .ok (.iload 8, 2) := by decide +kernel
theorem dX12_chance_42 : decode cX12_chance 42 = .ok (.iload_n 3, 1) := by decide +kernel
theorem dX12_chance_43 : decode cX12_chance 43 = .ok (.invokevirtual 596, 3) := by decide +kernel
theorem dX12_chance_46 : decode cX12_chance 46 = .ok (.ifCond .ne 6, 3) := by decide +kernel
theorem dX12_chance_49 : decode cX12_chance 49 = .ok (.goto 107, 3) := by decide +kernel
theorem dX12_chance_52 : decode cX12_chance 52 = .ok (.aload_n 0, 1) := by decide +kernel
theorem dX12_chance_53 : decode cX12_chance 53 = .ok (.aload_n 0, 1) := by decide +kernel
theorem dX12_chance_54 : decode cX12_chance 54 = .ok (.getfield 157, 3) := by decide +kernel
theorem dX12_chance_57 : decode cX12_chance 57 = .ok (.iload 8, 2) := by decide +kernel
theorem dX12_chance_59 : decode cX12_chance 59 = .ok (.iaload, 1) := by decide +kernel
theorem dX12_chance_60 : decode cX12_chance 60 = .ok (.aload_n 0, 1) := by decide +kernel
theorem dX12_chance_61 : decode cX12_chance 61 = .ok (.getfield 160, 3) := by decide +kernel
theorem dX12_chance_64 : decode cX12_chance 64 = .ok (.iload 8, 2) := by decide +kernel
theorem dX12_chance_66 : decode cX12_chance 66 = .ok (.iaload, 1) := by decide +kernel
theorem dX12_chance_67 : decode cX12_chance 67 = .ok (.iconst 1, 1) := by decide +kernel
theorem dX12_chance_68 : decode cX12_chance 68 = .ok (.iload_n 1, 1) := by decide +kernel
theorem dX12_chance_69 : decode cX12_chance 69 = .ok (.ishl, 1) := by decide +kernel
theorem dX12_chance_70 : decode cX12_chance 70 = .ok (.invokevirtual 493, 3) := by decide +kernel
theorem dX12_chance_73 : decode cX12_chance 73 = .ok (.iconst 0, 1) := by decide +kernel
theorem dX12_chance_74 : decode cX12_chance 74 = .ok (.istore 9, 2) := by decide +kernel
theorem dX12_chance_76 : decode cX12_chance 76 = .ok (.iconst 0, 1) := by decide +kernel
theorem dX12_chance_77 : decode cX12_chance 77 = .ok (.istore 10, 2) := by decide +kernel
theorem dX12_chance_79 : decode cX12_chance 79 = .ok (.aload_n 0, 1) := by decide +kernel
theorem dX12_chance_80 : decode cX12_chance 80 = .ok (.getfield 163, 3) := by decide +kernel
theorem dX12_chance_83 : decode cX12_chance 83 = .ok (.iload 8, 2) := by decide +kernel
theorem dX12_chance_85 : decode cX12_chance 85 = .ok (.iaload, 1) := by decide +kernel
theorem dX12_chance_86 : decode cX12_chance 86 = .ok (.iconst 3, 1) := by decide +kernel
theorem dX12_chance_87 : decode cX12_chance 87 = .ok (.isub, 1) := by decide +kernel
theorem dX12_chance_88 : decode cX12_chance 88 = .ok (.istore 11, 2) := by decide +kernel
theorem dX12_chance_90 : decode cX12_chance 90 = .ok (.iload 11, 2) := by decide +kernel
theorem dX12_chance_92 : decode cX12_chance 92 = .ok (.aload_n 0, 1) := by decide +kernel
theorem dX12_chance_93 : decode cX12_chance 93 = .ok (.getfield 163, 3) := by decide +kernel
theorem dX12_chance_96 : decode cX12_chance 96 = .ok (.iload 8, 2) := by decide +kernel
theorem dX12_chance_98 : decode cX12_chance 98 = .ok (.iaload, 1) := by decide +kernel
theorem dX12_chance_99 : decode cX12_chance 99 = .ok (.iconst 3, 1) := by decide +kernel
theorem dX12_chance_100 : decode cX12_chance 100 = .ok (.iadd, 1) := by decide +kernel
theorem dX12_chance_101 : decode cX12_chance 101 = .ok (.if_icmp .gt 39, 3) := by decide +kernel
theorem dX12_chance_104 : decode cX12_chance 104 = .ok (.aload_n 0, 1) := by decide +kernel
theorem dX12_chance_105 : decode cX12_chance 105 = .ok (.iload 11, 2) := by decide +kernel
theorem dX12_chance_107 : decode cX12_chance 107 = .ok (.invokevirtual 484, 3) := by decide +kernel
theorem dX12_chance_110 : decode cX12_chance 110 = .ok (.ifCond .ne 6, 3) := by decide +kernel
theorem dX12_chance_113 : decode cX12_chance 113 = .ok (.goto 21, 3) := by decide +kernel
theorem dX12_chance_116 : decode cX12_chance 116 = .ok (.iinc 10 1, 3) := by decide +kernel
theorem dX12_chance_119 : decode cX12_chance 119 = .ok (.iload 9, 2) := by decide +kernel
theorem dX12_chance_121 : decode cX12_chance 121 = .ok (.aload_n 0, 1) := by decide +kernel
theorem dX12_chance_122 : decode cX12_chance 122 = .ok (.getfield 115, 3) := by decide +kernel
theorem dX12_chance_125 : decode cX12_chance 125 = .ok (.iload 11, 2) := by decide +kernel
theorem dX12_chance_127 : decode cX12_chance 127 = .ok (.baload, 1) := by decide +kernel
theorem dX12_chance_128 : decode cX12_chance 128 = .ok (.invokestatic 348, 3) := by decide +kernel
theorem dX12_chance_131 : decode cX12_chance 131 = .ok (.iadd, 1) := by decide +kernel
theorem dX12_chance_132 : decode cX12_chance 132 = .ok (.istore 9, 2) := by decide +kernel
theorem dX12_chance_134 : decode cX12_chance 134 = .ok (.iinc 11 1, 3) := by decide +kernel
theorem dX12_chance_137 : decode cX12_chance 137 = .ok (.goto (-47), 3) := by decide +kernel
theorem dX12_chance_140 : decode cX12_chance 140 = .ok (.lload 4, 2) := by decide +kernel
theorem dX12_chance_142 : decode cX12_chance 142 = .ok (.iload 9, 2) := by decide +kernel
theorem dX12_chance_144 : decode cX12_chance 144 = .ok (.i2l, 1) := by decide +kernel
theorem dX12_chance_145 : decode cX12_chance 145 = .ok (.lmul, 1) := by decide +kernel
theorem dX12_chance_146 : decode cX12_chance 146 = .ok (.lstore 4, 2) := by decide +kernel
theorem dX12_chance_148 : decode cX12_chance 148 = .ok (.lload 6, 2) := by decide +kernel
theorem dX12_chance_150 : decode cX12_chance 150 = .ok (.iload 10, 2) := by decide +kernel
theorem dX12_chance_152 : decode cX12_chance 152 = .ok (.i2l, 1) := by decide +kernel
theorem dX12_chance_153 : decode cX12_chance 153 = .ok (.lmul, 1) := by decide +kernel
theorem dX12_chance_154 : decode cX12_chance 154 = .ok (.lstore 6, 2) := by decide +kernel
theorem dX12_chance_156 : decode cX12_chance 156 = .ok (.iinc 8 1, 3) := by decide +kernel
theorem dX12_chance_159 : decode cX12_chance 159 = .ok (.goto (-129), 3) := by decide +kernel
theorem dX12_chance_162 : decode cX12_chance 162 = .ok (.lload 4, 2) := by decide +kernel
theorem dX12_chance_164 : decode cX12_chance 164 = .ok (.lload 6, 2) := by decide +kernel
theorem dX12_chance_166 : decode cX12_chance 166 = .ok (.invokestatic 599, 3) := by decide +kernel
theorem dX12_chance_169 : decode cX12_chance 169 = .ok (.lstore 8, 2) := by decide +kernel
theorem dX12_chance_171 : decode cX12_chance 171 = .ok (.iload_n 2, 1) := by decide +kernel
theorem dX12_chance_172 : decode cX12_chance 172 = .ok (.ifCond .ne 11, 3) := by decide +kernel
theorem dX12_chance_175 : decode cX12_chance 175 = .ok (.lload 4, 2) := by decide +kernel
theorem dX12_chance_177 : decode cX12_chance 177 = .ok (.lload 8, 2) := by decide +kernel
theorem dX12_chance_179 : decode cX12_chance 179 = .ok (.ldiv, 1) := by decide +kernel
theorem dX12_chance_180 : decode cX12_chance 180 = .ok (.goto 8, 3) := by decide +kernel
theorem dX12_chance_183 : decode cX12_chance 183 = .ok (.lload 6, 2) := by decide +kernel
theorem dX12_chance_185 : decode cX12_chance 185 = .ok (.lload 8, 2) := by decide +kernel
theorem dX12_chance_187 : decode cX12_chance 187 = .ok (.ldiv, 1) := by decide +kernel
theorem dX12_chance_188 : decode cX12_chance 188 = .ok (.lreturn, 1) := by decide +kernel
theorem dX12_common_0 : decode cX12_common 0 = .ok (.lload_n 0, 1) := by decide +kernel
theorem dX12_common_1 : decode cX12_common 1 = .ok (.lstore 4, 2) := by decide +kernel
theorem dX12_common_3 : decode cX12_common 3 = .ok (.lload_n 2, 1) := by decide +kernel
theorem dX12_common_4 : decode cX12_common 4 = .ok (.lstore 6, 2) := by decide +kernel
theorem dX12_common_6 : decode cX12_common 6 = .ok (.lload 6, 2) := by decide +kernel
theorem dX12_common_8 : decode cX12_common 8 = .ok (.lconst 0, 1) := by decide +kernel
theorem dX12_common_9 : decode cX12_common 9 = .ok (.lcmp, 1) := by decide +kernel
theorem dX12_common_10 : decode cX12_common 10 = .ok (.ifCond .le 21, 3) := by decide +kernel
theorem dX12_common_13 : decode cX12_common 13 = .ok (.lload 4, 2) := by decide +kernel
theorem dX12_common_15 : decode cX12_common 15 = .ok (.lload 6, 2) := by decide +kernel
theorem dX12_common_17 : decode cX12_common 17 = .ok (.lrem, 1) := by decide +kernel
theorem dX12_common_18 : decode cX12_common 18 = .ok (.lstore 8, 2) := by decide +kernel
theorem dX12_common_20 : decode cX12_common 20 = .ok (.lload 6, 2) := by decide +kernel
theorem dX12_common_22 : decode cX12_common 22 = .ok (.lstore 4, 2) := by decide +kernel
theorem dX12_common_24 : decode cX12_common 24 = .ok (.lload 8, 2) := by decide +kernel
theorem dX12_common_26 : decode cX12_common 26 = .ok (.lstore 6, 2) := by decide +kernel
theorem dX12_common_28 : decode cX12_common 28 = .ok (.goto (-22), 3) := by decide +kernel
theorem dX12_common_31 : decode cX12_common 31 = .ok (.lload 4, 2) := by decide +kernel
theorem dX12_common_33 : decode cX12_common 33 = .ok (.lreturn, 1) := by decide +kernel
theorem dX12_sight_0 : decode cX12_sight 0 = .ok (.aload_n 0, 1) := by decide +kernel
theorem dX12_sight_1 : decode cX12_sight 1 = .ok (.iload_n 1, 1) := by decide +kernel
theorem dX12_sight_2 : decode cX12_sight 2 = .ok (.invokevirtual 487, 3) := by decide +kernel
theorem dX12_sight_5 : decode cX12_sight 5 = .ok (.ifCond .eq 41, 3) := by decide +kernel
theorem dX12_sight_8 : decode cX12_sight 8 = .ok (.aload_n 0, 1) := by decide +kernel
theorem dX12_sight_9 : decode cX12_sight 9 = .ok (.iload_n 2, 1) := by decide +kernel
theorem dX12_sight_10 : decode cX12_sight 10 = .ok (.invokevirtual 453, 3) := by decide +kernel
theorem dX12_sight_13 : decode cX12_sight 13 = .ok (.ifCond .eq 33, 3) := by decide +kernel
theorem dX12_sight_16 : decode cX12_sight 16 = .ok (.iload_n 3, 1) := by decide +kernel
theorem dX12_sight_17 : decode cX12_sight 17 = .ok (.ifCond .lt 29, 3) := by decide +kernel
theorem dX12_sight_20 : decode cX12_sight 20 = .ok (.iload_n 3, 1) := by decide +kernel
theorem dX12_sight_21 : decode cX12_sight 21 = .ok (.aload_n 0, 1) := by decide +kernel
theorem dX12_sight_22 : decode cX12_sight 22 = .ok (.getfield 87, 3) := by decide +kernel
theorem dX12_sight_25 : decode cX12_sight 25 = .ok (.iload_n 2, 1) := by decide +kernel
theorem dX12_sight_26 : decode cX12_sight 26 = .ok (.iaload, 1) := by decide +kernel
theorem dX12_sight_27 : decode cX12_sight 27 = .ok (.aload_n 0, 1) := by decide +kernel
theorem dX12_sight_28 : decode cX12_sight 28 = .ok (.getfield 90, 3) := by decide +kernel
theorem dX12_sight_31 : decode cX12_sight 31 = .ok (.iload_n 1, 1) := by decide +kernel
theorem dX12_sight_32 : decode cX12_sight 32 = .ok (.iaload, 1) := by decide +kernel
theorem dX12_sight_33 : decode cX12_sight 33 = .ok (.isub, 1) := by decide +kernel
theorem dX12_sight_34 : decode cX12_sight 34 = .ok (.if_icmp .gt 12, 3) := by decide +kernel
theorem dX12_sight_37 : decode cX12_sight 37 = .ok (.aload_n 0, 1) := by decide +kernel
theorem dX12_sight_38 : decode cX12_sight 38 = .ok (.getfield 443, 3) := by decide +kernel
theorem dX12_sight_41 : decode cX12_sight 41 = .ok (.bipush 20, 2) := by decide +kernel
theorem dX12_sight_43 : decode cX12_sight 43 = .ok (.if_icmp .ne 5, 3) := by decide +kernel
theorem dX12_sight_46 : decode cX12_sight 46 = .ok (.iconst (-1), 1) := by decide +kernel
theorem dX12_sight_47 : decode cX12_sight 47 = .ok (.ireturn, 1) := by decide +kernel
theorem dX12_sight_48 : decode cX12_sight 48 = .ok (.aload_n 0, 1) := by decide +kernel
theorem dX12_sight_49 : decode cX12_sight 49 = .ok (.getfield 157, 3) := by decide +kernel
theorem dX12_sight_52 : decode cX12_sight 52 = .ok (.aload_n 0, 1) := by decide +kernel
theorem dX12_sight_53 : decode cX12_sight 53 = .ok (.getfield 443, 3) := by decide +kernel
theorem dX12_sight_56 : decode cX12_sight 56 = .ok (.iload_n 1, 1) := by decide +kernel
theorem dX12_sight_57 : decode cX12_sight 57 = .ok (.iastore, 1) := by decide +kernel
theorem dX12_sight_58 : decode cX12_sight 58 = .ok (.aload_n 0, 1) := by decide +kernel
theorem dX12_sight_59 : decode cX12_sight 59 = .ok (.getfield 160, 3) := by decide +kernel
theorem dX12_sight_62 : decode cX12_sight 62 = .ok (.aload_n 0, 1) := by decide +kernel
theorem dX12_sight_63 : decode cX12_sight 63 = .ok (.getfield 443, 3) := by decide +kernel
theorem dX12_sight_66 : decode cX12_sight 66 = .ok (.iload_n 2, 1) := by decide +kernel
theorem dX12_sight_67 : decode cX12_sight 67 = .ok (.iastore, 1) := by decide +kernel
theorem dX12_sight_68 : decode cX12_sight 68 = .ok (.aload_n 0, 1) := by decide +kernel
theorem dX12_sight_69 : decode cX12_sight 69 = .ok (.getfield 163, 3) := by decide +kernel
theorem dX12_sight_72 : decode cX12_sight 72 = .ok (.aload_n 0, 1) := by decide +kernel
theorem dX12_sight_73 : decode cX12_sight 73 = .ok (.getfield 443, 3) := by decide +kernel
theorem dX12_sight_76 : decode cX12_sight 76 = .ok (.iload_n 3, 1) := by decide +kernel
theorem dX12_sight_77 : decode cX12_sight 77 = .ok (.iastore, 1) := by decide +kernel
theorem dX12_sight_78 : decode cX12_sight 78 = .ok (.aload_n 0, 1) := by decide +kernel
theorem dX12_sight_79 : decode cX12_sight 79 = .ok (.getfield 166, 3) := by decide +kernel
theorem dX12_sight_82 : decode cX12_sight 82 = .ok (.aload_n 0, 1) := by decide +kernel
theorem dX12_sight_83 : decode cX12_sight 83 = .ok (.getfield 443, 3) := by decide +kernel
theorem dX12_sight_86 : decode cX12_sight 86 = .ok (.aload_n 0, 1) := by decide +kernel
theorem dX12_sight_87 : decode cX12_sight 87 = .ok (.getfield 593, 3) := by decide +kernel
theorem dX12_sight_90 : decode cX12_sight 90 = .ok (.iastore, 1) := by decide +kernel
theorem dX12_sight_91 : decode cX12_sight 91 = .ok (.aload_n 0, 1) := by decide +kernel
theorem dX12_sight_92 : decode cX12_sight 92 = .ok (.getfield 169, 3) := by decide +kernel
theorem dX12_sight_95 : decode cX12_sight 95 = .ok (.aload_n 0, 1) := by decide +kernel
theorem dX12_sight_96 : decode cX12_sight 96 = .ok (.getfield 443, 3) := by decide +kernel
theorem dX12_sight_99 : decode cX12_sight 99 = .ok (.iconst (-1), 1) := by decide +kernel
theorem dX12_sight_100 : decode cX12_sight 100 = .ok (.iastore, 1) := by decide +kernel
theorem dX12_sight_101 : decode cX12_sight 101 = .ok (.aload_n 0, 1) := by decide +kernel
theorem dX12_sight_102 : decode cX12_sight 102 = .ok (.dup, 1) := by decide +kernel
theorem dX12_sight_103 : decode cX12_sight 103 = .ok (.getfield 443, 3) := by decide +kernel
theorem dX12_sight_106 : decode cX12_sight 106 = .ok (.iconst 1, 1) := by decide +kernel
theorem dX12_sight_107 : decode cX12_sight 107 = .ok (.iadd, 1) := by decide +kernel
theorem dX12_sight_108 : decode cX12_sight 108 = .ok (.putfield 443, 3) := by decide +kernel
theorem dX12_sight_111 : decode cX12_sight 111 = .ok (.aload_n 0, 1) := by decide +kernel
theorem dX12_sight_112 : decode cX12_sight 112 = .ok (.getfield 443, 3) := by decide +kernel
theorem dX12_sight_115 : decode cX12_sight 115 = .ok (.iconst 1, 1) := by decide +kernel
theorem dX12_sight_116 : decode cX12_sight 116 = .ok (.isub, 1) := by decide +kernel
theorem dX12_sight_117 : decode cX12_sight 117 = .ok (.ireturn, 1) := by decide +kernel
set_option maxHeartbeats 4000000 in
set_option maxRecDepth 100000 in
theorem n_sight (l : Launch) (D : va_G) (k : KT) (A : Nat → Prop) (a : Nat → Nat) (z : SK) (G : GS) (p0 : Int32) (p1 : Int32) (p2 : Int32) (hW9 : gW G = 1) (hS9 : gS G = 1) : Met l yX12_sight (WS yX12_sight cX12_sight 4 (some .int)) ({ frames := 2, cells := 0, slots := 0, locals := 43 }) (va_Pc [.ref (a 66), .int p0, .int p1, .int p2] (cW D k A a z G)) (va_Qi (fun (r : Int32) (G1 : GS) => Q_sight p0 p1 p2 G r G1) (fun (G1 : GS) t => Wd D k A a G1 t.heap) A) 0 0 A := by
  refine Met.ofW (cc := cX12_sight) (maxL := 4) (ret := (some .int)) (by decide) rfl ?_
  intro p e s m args below meth c s₁ B hml hv
  obtain ⟨rfl, hW, hB_G, hK, hZ⟩ := hv
  have hx := B.exec
  have hb := B.bytes
  have hr := B.returns
  have hts := atoms_spec (ws := WS yX12_sight cX12_sight 4 (some .int)) B.pre
  have hgd : ∀ w ∈ gd, w ∈ WS yX12_sight cX12_sight 4 (some .int) := fun w h => List.mem_cons_of_mem _ h
  have hg : ∀ w ∈ gd, w.before _ s = true := fun w h => hts w (hgd w h)
  have hown : s.vm.findClass RX12 = some m.cls := findClass_of_methodNamed B.named
  have hS : va_S A s.heap s.heap [] := va_S.rf
  have hF : Fr [112, 113, 114, 115, 116] [(66, 85)] G G := Fr.rf
  have hl := lv_entry ([.ref (a 66), .int p0, .int p1, .int p2]) (n := 4) (Nat.le_of_ble_eq_true rfl)
  rw [lg_entry_eq]
  generalize (lg_sl ([.ref (a 66), .int p0, .int p1, .int p2]) ++ List.replicate (4 - (lg_sl ([.ref (a 66), .int p0, .int p1, .int p2])).length) Slot.unset).toArray = ls at hl ⊢
  have hl : lv_has ls 4 [(0, .ref (a 66)), (1, .int p0), (2, .int p1), (3, .int p2)] := hl
  refine lv_aload_n hx hb dX12_sight_0 rfl (lv_at hl 0 rfl) ?_
  refine lv_iload_n hx hb dX12_sight_1 rfl (lv_at hl 1 rfl) ?_
  refine S_calli (va_runV (As := [.int p0]) (rest := []) ⟨hx, hb, hml, hown, hts⟩ (n_isWalker l D k A a z G p0 ) (cwV 1 hts (gd_V hgd m1830 m1832 m90 m131 m1833) rfl rfl rfl (by decide +kernel) ⟨Nat.le_of_ble_eq_true rfl, Nat.le_of_ble_eq_true rfl⟩) (pre_V hW hB_G hK hZ hS kd_66 rfl) rfl rfl hl.1 rfl (lv_room (Nat.le_of_ble_eq_true rfl)) dX12_sight_2 ⟨Nat.le_of_ble_eq_true rfl, Nat.le_of_ble_eq_true rfl⟩) hS (fun r_1 G_2 H locs hpo hW hS => ?_)
  have hX_5 : Q_isWalker p0 G r_1 G_2 := hpo
  obtain ⟨hB_G_2, hq_3, f_6, hp_4, -⟩ := hpo
  have hF := hF.call hq_3 (by decide) (by decide)
  refine lv_if_eq (tgt := 46) hx hb dX12_sight_5 (by decide) (fun c_7 => ?_) (fun c_7 => ?_)
  · have c_7 : r_1.toInt = 0 := xI_eq rfl rfl c_7
    refine lv_iconst (v := (-1)) hx hb dX12_sight_46 (by decide) ?_
    have g_8 : gS G_2 = gS G := gS_fr (rs := []) (fs := []) (Fr.rf.call hq_3 (by decide) (by decide)) (by decide) (by decide)
    exact W.iret (v := (-1)) hx hb hr (fun t ht _ => ⟨⟨(-1), G_2, rfl, (Q_sight_mk ⟨hB_G_2, hF, (by have hq : ((-1) : Int32).toInt = (-1) := rfl; (try dsimp only); omega), ⟨r_1, G_2, hX_5, (Or.inl ⟨c_7, ⟨rfl, rfl⟩⟩)⟩⟩), wd_t ht hW⟩, hS.F ht⟩) hS.2.2 dX12_sight_47
  · have c_7 : r_1.toInt ≠ 0 := xI_ne rfl rfl c_7
    refine lv_aload_n hx hb dX12_sight_8 rfl (lv_at hl 0 rfl) ?_
    refine lv_iload_n hx hb dX12_sight_9 rfl (lv_at hl 2 rfl) ?_
    have b_9 : 0 ≤ (G.1 66 52).toInt ∧ (G.1 66 52).toInt ≤ 3 := hB_G.i 66 52 rfl rfl
    have g_10 : (G_2.1 66 52).toInt = (G.1 66 52).toInt := by rw [show G_2.1 66 52 = (G.1 66 52) from (hq_3.i 66 52 (by decide) (by decide))]
    refine S_calli (va_runV (As := [.int p1]) (rest := []) ⟨hx, hb, hml, hown, hts⟩ (n_isStreet l D k A a z G_2 p1 ) (cwV 1 hts (gd_V hgd m1777 m1779 m83 m131 m1780) rfl rfl rfl (by decide +kernel) ⟨Nat.le_of_ble_eq_true rfl, Nat.le_of_ble_eq_true rfl⟩) (pre_V hW hB_G_2 hK hZ hS kd_66 rfl) rfl rfl hl.1 rfl (lv_room (Nat.le_of_ble_eq_true rfl)) dX12_sight_10 ⟨Nat.le_of_ble_eq_true rfl, Nat.le_of_ble_eq_true rfl⟩) hS (fun r_11 G_12 H locs hpo hW hS => ?_)
    have hX_15 : Q_isStreet p1 G_2 r_11 G_12 := hpo
    obtain ⟨hB_G_12, hq_13, f_16, hp_14, -⟩ := hpo
    have hF := hF.call hq_13 (by decide) (by decide)
    refine lv_if_eq (tgt := 46) hx hb dX12_sight_13 (by decide) (fun c_17 => ?_) (fun c_17 => ?_)
    · have c_17 : r_11.toInt = 0 := xI_eq rfl rfl c_17
      refine lv_iconst (v := (-1)) hx hb dX12_sight_46 (by decide) ?_
      have g_18 : gS G_12 = gS G := gS_fr (rs := []) (fs := []) ((Fr.rf.call hq_3 (by decide) (by decide)).call hq_13 (by decide) (by decide)) (by decide) (by decide)
      exact W.iret (v := (-1)) hx hb hr (fun t ht _ => ⟨⟨(-1), G_12, rfl, (Q_sight_mk ⟨hB_G_12, hF, (by have hq : ((-1) : Int32).toInt = (-1) := rfl; (try dsimp only); omega), ⟨r_1, G_2, hX_5, (Or.inr ⟨c_7, ⟨r_11, G_12, hX_15, (Or.inl ⟨c_17, ⟨rfl, rfl⟩⟩)⟩⟩)⟩⟩), wd_t ht hW⟩, hS.F ht⟩) hS.2.2 dX12_sight_47
    · have c_17 : r_11.toInt ≠ 0 := xI_ne rfl rfl c_17
      refine lv_iload_n hx hb dX12_sight_16 rfl (lv_at hl 3 rfl) ?_
      refine lv_if_lt (tgt := 46) hx hb dX12_sight_17 (by decide) (fun c_19 => ?_) (fun c_19 => ?_)
      · have c_19 : p2.toInt < 0 := xI_lt rfl rfl c_19
        refine lv_iconst (v := (-1)) hx hb dX12_sight_46 (by decide) ?_
        have g_20 : gS G_12 = gS G := gS_fr (rs := []) (fs := []) ((Fr.rf.call hq_3 (by decide) (by decide)).call hq_13 (by decide) (by decide)) (by decide) (by decide)
        exact W.iret (v := (-1)) hx hb hr (fun t ht _ => ⟨⟨(-1), G_12, rfl, (Q_sight_mk ⟨hB_G_12, hF, (by have hq : ((-1) : Int32).toInt = (-1) := rfl; (try dsimp only); omega), ⟨r_1, G_2, hX_5, (Or.inr ⟨c_7, ⟨r_11, G_12, hX_15, (Or.inr ⟨c_17, (Or.inl ⟨c_19, ⟨rfl, rfl⟩⟩)⟩)⟩⟩)⟩⟩), wd_t ht hW⟩, hS.F ht⟩) hS.2.2 dX12_sight_47
      · have c_19 : 0 ≤ p2.toInt := xI_nlt rfl rfl c_19
        refine lv_iload_n hx hb dX12_sight_20 rfl (lv_at hl 3 rfl) ?_
        refine lv_aload_n hx hb dX12_sight_21 rfl (lv_at hl 0 rfl) ?_
        refine S_getR (n := 91) (C := RX12) (T := TX12) (N := 89) hx hb hg iX12 hown hK hW kd_66 rfl 39 (by decide) (hg (Cond.fieldLink RX12 87 "SlabWalkModel" "lengths" "[I") m1353) (fun _ h9 => h9) rfl dX12_sight_22 ?_
        refine lv_iload_n hx hb dX12_sight_25 rfl (lv_at hl 2 rfl) ?_
        refine S_iald hx hb hK hW kd_91 (vin (by omega) (by omega)) dX12_sight_26 (fun y_21 ey_21 => ?_)
        have ty_21 : 0 ≤ y_21.toInt ∧ y_21.toInt ≤ 400 := hB_G_12.v ey_21 rfl rfl
        have u_22 : y_21.toInt = (G.1 91 p1.toNatClampNeg).toInt := congrArg Int32.toInt (ey_21.trans (((hq_13.ri 91 (by decide) (by decide) p1.toNatClampNeg).trans (hq_3.ri 91 (by decide) (by decide) p1.toNatClampNeg))))
        refine lv_aload_n hx hb dX12_sight_27 rfl (lv_at hl 0 rfl) ?_
        refine S_getR (n := 92) (C := RX12) (T := TX12) (N := 89) hx hb hg iX12 hown hK hW kd_66 rfl 40 (by decide) (hg (Cond.fieldLink RX12 90 "SlabWalkModel" "foots" "[I") m1354) (fun _ h9 => h9) rfl dX12_sight_28 ?_
        refine lv_iload_n hx hb dX12_sight_31 rfl (lv_at hl 1 rfl) ?_
        refine S_iald hx hb hK hW kd_92 (vin (by omega) (by omega)) dX12_sight_32 (fun y_23 ey_23 => ?_)
        have ty_23 : 0 ≤ y_23.toInt ∧ y_23.toInt ≤ 12 := hB_G_12.v ey_23 rfl rfl
        have u_24 : y_23.toInt = (G.1 92 p0.toNatClampNeg).toInt := congrArg Int32.toInt (ey_23.trans (((hq_13.ri 92 (by decide) (by decide) p0.toNatClampNeg).trans (hq_3.ri 92 (by decide) (by decide) p0.toNatClampNeg))))
        refine lv_isub hx hb dX12_sight_33 ?_
        refine lv_topi (fun y_25 ey_25 => ?_)
        have ty_25 : y_25.toInt = y_21.toInt - y_23.toInt := xI_sub rfl rfl ey_25 (by omega) (by omega)
        refine lv_icmp_gt (tgt := 46) hx hb dX12_sight_34 (by decide) (fun c_26 => ?_) (fun c_26 => ?_)
        · have c_26 : y_25.toInt < p2.toInt := xI_lt rfl rfl c_26
          refine lv_iconst (v := (-1)) hx hb dX12_sight_46 (by decide) ?_
          have g_27 : gS G_12 = gS G := gS_fr (rs := []) (fs := []) ((Fr.rf.call hq_3 (by decide) (by decide)).call hq_13 (by decide) (by decide)) (by decide) (by decide)
          exact W.iret (v := (-1)) hx hb hr (fun t ht _ => ⟨⟨(-1), G_12, rfl, (Q_sight_mk ⟨hB_G_12, hF, (by have hq : ((-1) : Int32).toInt = (-1) := rfl; (try dsimp only); omega), ⟨r_1, G_2, hX_5, (Or.inr ⟨c_7, ⟨r_11, G_12, hX_15, (Or.inr ⟨c_17, (Or.inr ⟨c_19, ⟨y_21, ey_21, ⟨y_23, ey_23, ⟨y_25, ty_25, (Or.inl ⟨c_26, ⟨rfl, rfl⟩⟩)⟩⟩⟩⟩)⟩)⟩⟩)⟩⟩), wd_t ht hW⟩, hS.F ht⟩) hS.2.2 dX12_sight_47
        · have c_26 : p2.toInt ≤ y_25.toInt := xI_nlt rfl rfl c_26
          refine lv_aload_n hx hb dX12_sight_37 rfl (lv_at hl 0 rfl) ?_
          have b_28 : 0 ≤ (G.1 66 85).toInt ∧ (G.1 66 85).toInt ≤ 20 := hB_G.i 66 85 rfl rfl
          refine S_getI (v := (G.1 66 85)) (C := RX12) (T := TX12) (N := 89) hx hb hg iX12 hown hK hW kd_66 rfl 85 (by decide) (hg (Cond.fieldLink RX12 443 "SlabWalkModel" "sights" "I") m1399) (fun _ h9 => h9) rfl ((hq_13.i 66 85 (by decide) (by decide)).trans (hq_3.i 66 85 (by decide) (by decide))) dX12_sight_38 ?_
          refine lv_bipush (v := 20) hx hb dX12_sight_41 (by decide) ?_
          refine lv_icmp_ne (tgt := 48) hx hb dX12_sight_43 (by decide) (fun c_29 => ?_) (fun c_29 => ?_)
          · have c_29 : (G.1 66 85).toInt ≠ 20 := xI_ne rfl rfl c_29
            have b_30 : 0 ≤ (G.1 66 53).toInt ∧ (G.1 66 53).toInt ≤ 4 := hB_G.i 66 53 rfl rfl
            have u_31 := gW_at hW9 p0 (by omega) (by omega)
            refine lv_aload_n hx hb dX12_sight_48 rfl (lv_at hl 0 rfl) ?_
            refine S_getR (n := 112) (C := RX12) (T := TX12) (N := 89) hx hb hg iX12 hown hK hW kd_66 rfl 80 (by decide) (hg (Cond.fieldLink RX12 157 "SlabWalkModel" "sightWho" "[I") m1394) (fun _ h9 => h9) rfl dX12_sight_49 ?_
            refine lv_aload_n hx hb dX12_sight_52 rfl (lv_at hl 0 rfl) ?_
            refine S_getI (v := (G.1 66 85)) (C := RX12) (T := TX12) (N := 89) hx hb hg iX12 hown hK hW kd_66 rfl 85 (by decide) (hg (Cond.fieldLink RX12 443 "SlabWalkModel" "sights" "I") m1399) (fun _ h9 => h9) rfl ((hq_13.i 66 85 (by decide) (by decide)).trans ((hq_3.i 66 85 (by decide) (by decide)).trans (rfl))) dX12_sight_53 ?_
            refine lv_iload_n hx hb dX12_sight_56 rfl (lv_at hl 1 rfl) ?_
            refine S_iast hx hb hK hW hS kd_112 (vin (by omega) (by omega)) dX12_sight_57 (fun G_32 H locs eG_32 hW hS => ?_)
            have hB_G_32 : Bd G_32 := hB_G_12.put (V := p0.toInt) (lo := 0) (hi := 3) eG_32 rfl rfl rfl (by omega) (by omega) (hB_G_12.2.put eG_32 rfl)
            have hF := hF.put eG_32 (Or.inl (by decide))
            refine lv_aload_n hx hb dX12_sight_58 rfl (lv_at hl 0 rfl) ?_
            refine S_getR (n := 113) (C := RX12) (T := TX12) (N := 89) hx hb hg iX12 hown hK hW kd_66 rfl 81 (by decide) (hg (Cond.fieldLink RX12 160 "SlabWalkModel" "sightWhere" "[I") m1395) (fun _ h9 => h9) rfl dX12_sight_59 ?_
            refine lv_aload_n hx hb dX12_sight_62 rfl (lv_at hl 0 rfl) ?_
            refine S_getI (v := (G.1 66 85)) (C := RX12) (T := TX12) (N := 89) hx hb hg iX12 hown hK hW kd_66 rfl 85 (by decide) (hg (Cond.fieldLink RX12 443 "SlabWalkModel" "sights" "I") m1399) (fun _ h9 => h9) rfl ((gp_ne eG_32 (fun q => absurd q.1 (by decide))).trans ((hq_13.i 66 85 (by decide) (by decide)).trans ((hq_3.i 66 85 (by decide) (by decide)).trans (rfl)))) dX12_sight_63 ?_
            refine lv_iload_n hx hb dX12_sight_66 rfl (lv_at hl 2 rfl) ?_
            refine S_iast hx hb hK hW hS kd_113 (vin (by omega) (by omega)) dX12_sight_67 (fun G_33 H locs eG_33 hW hS => ?_)
            have hB_G_33 : Bd G_33 := hB_G_32.put (V := p1.toInt) (lo := 0) (hi := 2) eG_33 rfl rfl rfl (by omega) (by omega) (hB_G_32.2.put eG_33 rfl)
            have hF := hF.put eG_33 (Or.inl (by decide))
            refine lv_aload_n hx hb dX12_sight_68 rfl (lv_at hl 0 rfl) ?_
            refine S_getR (n := 114) (C := RX12) (T := TX12) (N := 89) hx hb hg iX12 hown hK hW kd_66 rfl 82 (by decide) (hg (Cond.fieldLink RX12 163 "SlabWalkModel" "sightHeel" "[I") m1396) (fun _ h9 => h9) rfl dX12_sight_69 ?_
            refine lv_aload_n hx hb dX12_sight_72 rfl (lv_at hl 0 rfl) ?_
            refine S_getI (v := (G.1 66 85)) (C := RX12) (T := TX12) (N := 89) hx hb hg iX12 hown hK hW kd_66 rfl 85 (by decide) (hg (Cond.fieldLink RX12 443 "SlabWalkModel" "sights" "I") m1399) (fun _ h9 => h9) rfl ((gp_ne eG_33 (fun q => absurd q.1 (by decide))).trans ((gp_ne eG_32 (fun q => absurd q.1 (by decide))).trans ((hq_13.i 66 85 (by decide) (by decide)).trans ((hq_3.i 66 85 (by decide) (by decide)).trans (rfl))))) dX12_sight_73 ?_
            refine lv_iload_n hx hb dX12_sight_76 rfl (lv_at hl 3 rfl) ?_
            refine S_iast hx hb hK hW hS kd_114 (vin (by omega) (by omega)) dX12_sight_77 (fun G_34 H locs eG_34 hW hS => ?_)
            have hB_G_34 : Bd G_34 := hB_G_33.put (V := p2.toInt) (lo := 0) (hi := 399) eG_34 rfl rfl rfl (by omega) (by omega) (hB_G_33.2.put eG_34 rfl)
            have hF := hF.put eG_34 (Or.inl (by decide))
            refine lv_aload_n hx hb dX12_sight_78 rfl (lv_at hl 0 rfl) ?_
            refine S_getR (n := 115) (C := RX12) (T := TX12) (N := 89) hx hb hg iX12 hown hK hW kd_66 rfl 83 (by decide) (hg (Cond.fieldLink RX12 166 "SlabWalkModel" "sightTold" "[I") m1397) (fun _ h9 => h9) rfl dX12_sight_79 ?_
            refine lv_aload_n hx hb dX12_sight_82 rfl (lv_at hl 0 rfl) ?_
            refine S_getI (v := (G.1 66 85)) (C := RX12) (T := TX12) (N := 89) hx hb hg iX12 hown hK hW kd_66 rfl 85 (by decide) (hg (Cond.fieldLink RX12 443 "SlabWalkModel" "sights" "I") m1399) (fun _ h9 => h9) rfl ((gp_ne eG_34 (fun q => absurd q.1 (by decide))).trans ((gp_ne eG_33 (fun q => absurd q.1 (by decide))).trans ((gp_ne eG_32 (fun q => absurd q.1 (by decide))).trans ((hq_13.i 66 85 (by decide) (by decide)).trans ((hq_3.i 66 85 (by decide) (by decide)).trans (rfl)))))) dX12_sight_83 ?_
            refine lv_aload_n hx hb dX12_sight_86 rfl (lv_at hl 0 rfl) ?_
            have b_35 : 0 ≤ (G.1 66 86).toInt ∧ (G.1 66 86).toInt ≤ 100000 := hB_G.i 66 86 rfl rfl
            refine S_getI (v := (G.1 66 86)) (C := RX12) (T := TX12) (N := 89) hx hb hg iX12 hown hK hW kd_66 rfl 86 (by decide) (hg (Cond.fieldLink RX12 593 "SlabWalkModel" "time" "I") m1400) (fun _ h9 => h9) rfl ((gp_ne eG_34 (fun q => absurd q.1 (by decide))).trans ((gp_ne eG_33 (fun q => absurd q.1 (by decide))).trans ((gp_ne eG_32 (fun q => absurd q.1 (by decide))).trans ((hq_13.i 66 86 (by decide) (by decide)).trans (hq_3.i 66 86 (by decide) (by decide)))))) dX12_sight_87 ?_
            refine S_iast hx hb hK hW hS kd_115 (vin (by omega) (by omega)) dX12_sight_90 (fun G_36 H locs eG_36 hW hS => ?_)
            have hB_G_36 : Bd G_36 := hB_G_34.put (lo := (-2147483648)) (hi := 2147483647) eG_36 rfl rfl rfl (tI_rng _).1 (tI_rng _).2 (hB_G_34.2.put eG_36 rfl)
            have hF := hF.put eG_36 (Or.inl (by decide))
            refine lv_aload_n hx hb dX12_sight_91 rfl (lv_at hl 0 rfl) ?_
            refine S_getR (n := 116) (C := RX12) (T := TX12) (N := 89) hx hb hg iX12 hown hK hW kd_66 rfl 84 (by decide) (hg (Cond.fieldLink RX12 169 "SlabWalkModel" "sightUntold" "[I") m1398) (fun _ h9 => h9) rfl dX12_sight_92 ?_
            refine lv_aload_n hx hb dX12_sight_95 rfl (lv_at hl 0 rfl) ?_
            refine S_getI (v := (G.1 66 85)) (C := RX12) (T := TX12) (N := 89) hx hb hg iX12 hown hK hW kd_66 rfl 85 (by decide) (hg (Cond.fieldLink RX12 443 "SlabWalkModel" "sights" "I") m1399) (fun _ h9 => h9) rfl ((gp_ne eG_36 (fun q => absurd q.1 (by decide))).trans ((gp_ne eG_34 (fun q => absurd q.1 (by decide))).trans ((gp_ne eG_33 (fun q => absurd q.1 (by decide))).trans ((gp_ne eG_32 (fun q => absurd q.1 (by decide))).trans ((hq_13.i 66 85 (by decide) (by decide)).trans ((hq_3.i 66 85 (by decide) (by decide)).trans (rfl))))))) dX12_sight_96 ?_
            refine lv_iconst (v := (-1)) hx hb dX12_sight_99 (by decide) ?_
            refine S_iast hx hb hK hW hS kd_116 (vin (by omega) (by omega)) dX12_sight_100 (fun G_37 H locs eG_37 hW hS => ?_)
            have hB_G_37 : Bd G_37 := hB_G_36.put (lo := (-2147483648)) (hi := 2147483647) eG_37 rfl rfl rfl (tI_rng _).1 (tI_rng _).2 (hB_G_36.2.put eG_37 rfl)
            have hF := hF.put eG_37 (Or.inl (by decide))
            refine lv_aload_n hx hb dX12_sight_101 rfl (lv_at hl 0 rfl) ?_
            refine lv_dup hx hb dX12_sight_102 rfl ?_
            refine S_getI (v := (G.1 66 85)) (C := RX12) (T := TX12) (N := 89) hx hb hg iX12 hown hK hW kd_66 rfl 85 (by decide) (hg (Cond.fieldLink RX12 443 "SlabWalkModel" "sights" "I") m1399) (fun _ h9 => h9) rfl ((gp_ne eG_37 (fun q => absurd q.1 (by decide))).trans ((gp_ne eG_36 (fun q => absurd q.1 (by decide))).trans ((gp_ne eG_34 (fun q => absurd q.1 (by decide))).trans ((gp_ne eG_33 (fun q => absurd q.1 (by decide))).trans ((gp_ne eG_32 (fun q => absurd q.1 (by decide))).trans ((hq_13.i 66 85 (by decide) (by decide)).trans ((hq_3.i 66 85 (by decide) (by decide)).trans (rfl)))))))) dX12_sight_103 ?_
            refine lv_iconst (v := 1) hx hb dX12_sight_106 (by decide) ?_
            refine lv_iadd hx hb dX12_sight_107 ?_
            refine lv_topi (fun y_38 ey_38 => ?_)
            have ty_38 : y_38.toInt = (G.1 66 85).toInt + 1 := xI_add rfl rfl ey_38 (by omega) (by omega)
            refine S_putI (ty := .int) (C := RX12) (T := TX12) (N := 89) hx hb hg iX12 tyX12 tyX12_ok nmX12 hown hK hW hS kd_66 rfl 85 (by decide) (hg (Cond.fieldLink RX12 443 "SlabWalkModel" "sights" "I") m1399) (fun _ h9 => h9) rfl (by decide +kernel) rfl rfl rfl dX12_sight_108 (fun G_39 H locs eG_39 hW hS => ?_)
            have hB_G_39 : Bd G_39 := hB_G_37.put (V := y_38.toInt) (lo := 0) (hi := 20) eG_39 rfl rfl rfl (by omega) (by omega) (hB_G_37.2.put eG_39 rfl)
            have hF := hF.put eG_39 (Or.inr (by decide))
            have u_40 : gS G_39 = 1 := gS_step (G := G) (x := (G.1 66 85)) hS9 rfl (by omega) (gp_eq eG_39) (by omega) (fun j hj => ((gp_ne eG_39 (fun q => absurd q.1 (by decide))).trans ((gp_ne eG_37 (fun q => absurd q.1 (by decide))).trans ((gp_ne eG_36 (fun q => absurd q.1 (by decide))).trans ((gp_ne eG_34 (fun q => absurd q.1 (by decide))).trans ((gp_ne eG_33 (fun q => absurd q.1 (by decide))).trans ((gp_ne eG_32 (fun q => hj q.2)).trans ((hq_13.ri 112 (by decide) (by decide) j).trans (hq_3.ri 112 (by decide) (by decide) j))))))))) (fun j hj => ((gp_ne eG_39 (fun q => absurd q.1 (by decide))).trans ((gp_ne eG_37 (fun q => absurd q.1 (by decide))).trans ((gp_ne eG_36 (fun q => absurd q.1 (by decide))).trans ((gp_ne eG_34 (fun q => absurd q.1 (by decide))).trans ((gp_ne eG_33 (fun q => hj q.2)).trans ((gp_ne eG_32 (fun q => absurd q.1 (by decide))).trans ((hq_13.ri 113 (by decide) (by decide) j).trans (hq_3.ri 113 (by decide) (by decide) j))))))))) (fun j hj => ((gp_ne eG_39 (fun q => absurd q.1 (by decide))).trans ((gp_ne eG_37 (fun q => absurd q.1 (by decide))).trans ((gp_ne eG_36 (fun q => absurd q.1 (by decide))).trans ((gp_ne eG_34 (fun q => hj q.2)).trans ((gp_ne eG_33 (fun q => absurd q.1 (by decide))).trans ((gp_ne eG_32 (fun q => absurd q.1 (by decide))).trans ((hq_13.ri 114 (by decide) (by decide) j).trans (hq_3.ri 114 (by decide) (by decide) j))))))))) (fun j hj => ((gp_ne eG_39 (fun q => absurd q.1 (by decide))).trans ((gp_ne eG_37 (fun q => absurd q.1 (by decide))).trans ((gp_ne eG_36 (fun q => absurd q.1 (by decide))).trans ((gp_ne eG_34 (fun q => absurd q.1 (by decide))).trans ((gp_ne eG_33 (fun q => absurd q.1 (by decide))).trans ((gp_ne eG_32 (fun q => absurd q.1 (by decide))).trans ((hq_13.ri 92 (by decide) (by decide) j).trans (hq_3.ri 92 (by decide) (by decide) j))))))))) (fun j hj => ((gp_ne eG_39 (fun q => absurd q.1 (by decide))).trans ((gp_ne eG_37 (fun q => absurd q.1 (by decide))).trans ((gp_ne eG_36 (fun q => absurd q.1 (by decide))).trans ((gp_ne eG_34 (fun q => absurd q.1 (by decide))).trans ((gp_ne eG_33 (fun q => absurd q.1 (by decide))).trans ((gp_ne eG_32 (fun q => absurd q.1 (by decide))).trans ((hq_13.ri 91 (by decide) (by decide) j).trans (hq_3.ri 91 (by decide) (by decide) j))))))))) ((gp_ne eG_39 (fun q => absurd q.1 (by decide))).trans ((gp_ne eG_37 (fun q => absurd q.1 (by decide))).trans ((gp_ne eG_36 (fun q => absurd q.1 (by decide))).trans ((gp_ne eG_34 (fun q => absurd q.1 (by decide))).trans ((gp_ne eG_33 (fun q => absurd q.1 (by decide))).trans (gp_eq eG_32)))))) ((gp_ne eG_39 (fun q => absurd q.1 (by decide))).trans ((gp_ne eG_37 (fun q => absurd q.1 (by decide))).trans ((gp_ne eG_36 (fun q => absurd q.1 (by decide))).trans ((gp_ne eG_34 (fun q => absurd q.1 (by decide))).trans (gp_eq eG_33))))) ((gp_ne eG_39 (fun q => absurd q.1 (by decide))).trans ((gp_ne eG_37 (fun q => absurd q.1 (by decide))).trans ((gp_ne eG_36 (fun q => absurd q.1 (by decide))).trans (gp_eq eG_34)))) (by omega)
            refine lv_aload_n hx hb dX12_sight_111 rfl (lv_at hl 0 rfl) ?_
            refine S_getI (v := y_38) (C := RX12) (T := TX12) (N := 89) hx hb hg iX12 hown hK hW kd_66 rfl 85 (by decide) (hg (Cond.fieldLink RX12 443 "SlabWalkModel" "sights" "I") m1399) (fun _ h9 => h9) rfl (gp_eq eG_39) dX12_sight_112 ?_
            refine lv_iconst (v := 1) hx hb dX12_sight_115 (by decide) ?_
            refine lv_isub hx hb dX12_sight_116 ?_
            refine lv_topi (fun y_41 ey_41 => ?_)
            have ty_41 : y_41.toInt = y_38.toInt - 1 := xI_sub rfl rfl ey_41 (by omega) (by omega)
            exact W.iret (v := y_41) hx hb hr (fun t ht _ => ⟨⟨y_41, G_39, rfl, (Q_sight_mk ⟨hB_G_39, hF, (by omega), ⟨r_1, G_2, hX_5, (Or.inr ⟨c_7, ⟨r_11, G_12, hX_15, (Or.inr ⟨c_17, (Or.inr ⟨c_19, ⟨y_21, ey_21, ⟨y_23, ey_23, ⟨y_25, ty_25, (Or.inr ⟨c_26, (Or.inr ⟨c_29, ⟨y_38, ty_38, ⟨y_41, ty_41, ⟨rfl, ((((((Fr.rf.put eG_32 (Or.inl (by decide))).put eG_33 (Or.inl (by decide))).put eG_34 (Or.inl (by decide))).put eG_36 (Or.inl (by decide))).put eG_37 (Or.inl (by decide))).put eG_39 (Or.inr (by decide))), (gp_eq eG_39), (rw_put eG_39 (by decide)).trans ((rw_put eG_37 (by decide)).trans ((rw_put eG_36 (by decide)).trans ((rw_put eG_34 (by decide)).trans ((rw_put eG_33 (by decide)).trans (rw_ast eG_32))))), (rw_put eG_39 (by decide)).trans ((rw_put eG_37 (by decide)).trans ((rw_put eG_36 (by decide)).trans ((rw_put eG_34 (by decide)).trans ((rw_ast eG_33).trans (congrArg (fun q => upd q ((G.1 66 85).toNatClampNeg) p1) (rw_put eG_32 (by decide))))))), (rw_put eG_39 (by decide)).trans ((rw_put eG_37 (by decide)).trans ((rw_put eG_36 (by decide)).trans ((rw_ast eG_34).trans (congrArg (fun q => upd q ((G.1 66 85).toNatClampNeg) p2) ((rw_put eG_33 (by decide)).trans (rw_put eG_32 (by decide))))))), (rw_put eG_39 (by decide)).trans ((rw_put eG_37 (by decide)).trans ((rw_ast eG_36).trans (congrArg (fun q => upd q ((G.1 66 85).toNatClampNeg) (G.1 66 86)) ((rw_put eG_34 (by decide)).trans ((rw_put eG_33 (by decide)).trans (rw_put eG_32 (by decide))))))), (rw_put eG_39 (by decide)).trans ((rw_ast eG_37).trans (congrArg (fun q => upd q ((G.1 66 85).toNatClampNeg) (-1)) ((rw_put eG_36 (by decide)).trans ((rw_put eG_34 (by decide)).trans ((rw_put eG_33 (by decide)).trans (rw_put eG_32 (by decide)))))))⟩⟩⟩⟩)⟩)⟩⟩⟩⟩)⟩)⟩⟩)⟩⟩), wd_t ht hW⟩, hS.F ht⟩) hS.2.2 dX12_sight_117
          · have c_29 : (G.1 66 85).toInt = 20 := xI_eq rfl rfl c_29
            refine lv_iconst (v := (-1)) hx hb dX12_sight_46 (by decide) ?_
            have g_42 : gS G_12 = gS G := gS_fr (rs := []) (fs := []) ((Fr.rf.call hq_3 (by decide) (by decide)).call hq_13 (by decide) (by decide)) (by decide) (by decide)
            exact W.iret (v := (-1)) hx hb hr (fun t ht _ => ⟨⟨(-1), G_12, rfl, (Q_sight_mk ⟨hB_G_12, hF, (by have hq : ((-1) : Int32).toInt = (-1) := rfl; (try dsimp only); omega), ⟨r_1, G_2, hX_5, (Or.inr ⟨c_7, ⟨r_11, G_12, hX_15, (Or.inr ⟨c_17, (Or.inr ⟨c_19, ⟨y_21, ey_21, ⟨y_23, ey_23, ⟨y_25, ty_25, (Or.inr ⟨c_26, (Or.inl ⟨c_29, ⟨rfl, rfl⟩⟩)⟩)⟩⟩⟩⟩)⟩)⟩⟩)⟩⟩), wd_t ht hW⟩, hS.F ht⟩) hS.2.2 dX12_sight_47

set_option maxHeartbeats 4000000 in
set_option maxRecDepth 100000 in
theorem n_common (l : Launch) (D : va_G) (k : KT) (A : Nat → Prop) (a : Nat → Nat) (z : SK) (G : GS) (p0 : Int64) (p1 : Int64) (hc0 : 0 ≤ p0.toInt) (hc1 : 1 ≤ p1.toInt) : Met l yX12_common (WS yX12_common cX12_common 10 (some .long)) ({ frames := 0, cells := 0, slots := 0, locals := 0 }) (va_Pc [.long p0, .long p1] (cW D k A a z G)) (va_Ql (fun (r : Int64) (G1 : GS) => Q_common p0 p1 G r G1) (fun (G1 : GS) t => Wd D k A a G1 t.heap) A) 0 0 A := by
  refine Met.ofW (cc := cX12_common) (maxL := 10) (ret := (some .long)) (by decide) rfl ?_
  intro p e s m args below meth c s₁ B hml hv
  obtain ⟨rfl, hW, hB_G, hK, hZ⟩ := hv
  have hx := B.exec
  have hb := B.bytes
  have hr := B.returns
  have hts := atoms_spec (ws := WS yX12_common cX12_common 10 (some .long)) B.pre
  have hgd : ∀ w ∈ gd, w ∈ WS yX12_common cX12_common 10 (some .long) := fun w h => List.mem_cons_of_mem _ h
  have hg : ∀ w ∈ gd, w.before _ s = true := fun w h => hts w (hgd w h)
  have hown : s.vm.findClass RX12 = some m.cls := findClass_of_methodNamed B.named
  have hS : va_S A s.heap s.heap [] := va_S.rf
  have hF : Fr [] [] G G := Fr.rf
  have hl := lv_entry ([.long p0, .long p1]) (n := 10) (Nat.le_of_ble_eq_true rfl)
  rw [lg_entry_eq]
  generalize (lg_sl ([.long p0, .long p1]) ++ List.replicate (10 - (lg_sl ([.long p0, .long p1])).length) Slot.unset).toArray = ls at hl ⊢
  have hl : lv_has ls 10 [(0, .long p0), (2, .long p1)] := hl
  refine lv_lload_n hx hb dX12_common_0 rfl (lv_at hl 0 rfl) ?_
  refine lv_lstore (lv' := [(4, .long p0), (0, .long p0), (2, .long p1)]) hx hb dX12_common_1 hl (by decide) rfl (fun ls hl => ?_)
  refine lv_lload_n hx hb dX12_common_3 rfl (lv_at hl 2 rfl) ?_
  refine lv_lstore (lv' := [(6, .long p1), (4, .long p0), (0, .long p0), (2, .long p1)]) hx hb dX12_common_4 hl (by decide) rfl (fun ls hl => ?_)
  refine loop_N (Inv := fun n H locs ls => ∃ (G_1 : GS) (x_5 : Int64) (x_6 : Int64), (n : Int) = (x_5).toInt ∧ (0 ≤ (x_6).toInt) ∧ (0 ≤ (x_5).toInt) ∧ (1 ≤ (x_6).toInt ∨ 1 ≤ (x_5).toInt) ∧ Rc (St_n_common_1) (p1, p0, G) (x_5, x_6, G_1) ∧ Wd D k A a G_1 H ∧ Bd G_1 ∧ Fr [] [] G G_1 ∧ Fr [] [] G G_1 ∧ va_S A s.heap H locs ∧ lv_has ls 10 [(6, .long x_5), (4, .long x_6)]) (fun n_4 H locs ls ih_3 hI => ?_) ((p1).toInt : Int).toNat ⟨G, p1, p0, (Int.toNat_of_nonneg (by omega)), (by omega), (by omega), (by omega), Rc.rf, hW, hB_G, hF, Fr.rf, hS, lv_sub hl [0, 1] rfl⟩
  obtain ⟨G_1, x_5, x_6, hn_11, f_8, f_9, f_10, hX_7, hW, hB_G_1, hF, hq_2, hS, hl⟩ := hI
  refine lv_lload hx hb dX12_common_6 (lv_at hl 0 rfl) ?_
  refine lv_lconst (v := 0) hx hb dX12_common_8 (by decide) ?_
  refine W.lcmp hx hb dX12_common_9 ?_
  refine lv_topi (fun y_12 ey_12 => ?_)
  have ty_12 := lcmp_rng ey_12
  have u_13 := lc_gt ey_12
  have u_14 : (0 : Int64).toInt = 0 := rfl
  refine lv_if_le (tgt := 31) hx hb dX12_common_10 (by decide) (fun c_15 => ?_) (fun c_15 => ?_)
  · have c_15 : y_12.toInt ≤ 0 := xI_le rfl rfl c_15
    refine lv_lload hx hb dX12_common_31 (lv_at hl 1 rfl) ?_
    exact W.lret (v := x_6) hx hb hr (fun t ht _ => ⟨⟨x_6, G_1, rfl, (Q_common_mk ⟨hB_G_1, hF, (by omega), ⟨x_5, x_6, G_1, hX_7, f_8, f_9, f_10, hB_G_1, hq_2, ⟨y_12, ey_12, ⟨c_15, ⟨rfl, rfl⟩⟩⟩⟩⟩), wd_t ht hW⟩, hS.F ht⟩) hS.2.2 dX12_common_33
  · have c_15 : 0 < y_12.toInt := xI_nle rfl rfl c_15
    refine lv_lload hx hb dX12_common_13 (lv_at hl 1 rfl) ?_
    refine lv_lload hx hb dX12_common_15 (lv_at hl 0 rfl) ?_
    refine lv_lrem hx hb dX12_common_17 (l_ne0 (by omega)) ?_
    refine lv_topl (fun y_16 ey_16 => ?_)
    have u_17 := l_mod ey_16 (by omega) (by omega)
    refine lv_lstore (lv' := [(8, .long y_16), (6, .long x_5), (4, .long x_6)]) hx hb dX12_common_18 hl (by decide) rfl (fun ls hl => ?_)
    refine lv_lload hx hb dX12_common_20 (lv_at hl 1 rfl) ?_
    refine lv_lstore (lv' := [(4, .long x_5), (8, .long y_16), (6, .long x_5)]) hx hb dX12_common_22 hl (by decide) rfl (fun ls hl => ?_)
    refine lv_lload hx hb dX12_common_24 (lv_at hl 1 rfl) ?_
    refine lv_lstore (lv' := [(6, .long y_16), (4, .long x_5), (8, .long y_16)]) hx hb dX12_common_26 hl (by decide) rfl (fun ls hl => ?_)
    refine lv_goto (tgt := 6) hx hb dX12_common_28 (by decide) ?_
    exact ih_3 ((y_16).toInt : Int).toNat (by omega) _ _ _ ⟨G_1, y_16, x_5, (Int.toNat_of_nonneg (by omega)), (by omega), (by omega), (by omega), (hX_7.st (St_n_common_1_mk ⟨x_5, x_6, G_1, y_16, x_5, G_1, rfl, rfl, f_8, f_9, f_10, hB_G_1, ⟨y_12, ey_12, ⟨c_15, ⟨y_16, ey_16, ⟨rfl, rfl, rfl⟩⟩⟩⟩⟩)), hW, hB_G_1, hF, (Fr.rf.call hq_2 (by decide) (by decide)), hS, lv_sub hl [0, 1] rfl⟩

set_option maxHeartbeats 4000000 in
set_option maxRecDepth 100000 in
theorem n_chance (l : Launch) (D : va_G) (k : KT) (A : Nat → Prop) (a : Nat → Nat) (z : SK) (G : GS) (p0 : Int32) (p1 : Int32) (p2 : Int32) (hP9 : gP G = 1) (hS9 : gS G = 1) : Met l yX12_chance (WS yX12_chance cX12_chance 12 (some .long)) ({ frames := 5, cells := 0, slots := 0, locals := 117 }) (va_Pc [.ref (a 66), .int p0, .int p1, .int p2] (cW D k A a z G)) (va_Ql (fun (r : Int64) (G1 : GS) => Q_chance p0 p1 p2 G r G1) (fun (G1 : GS) t => Wd D k A a G1 t.heap) A) 0 0 A := by
  refine Met.ofW (cc := cX12_chance) (maxL := 12) (ret := (some .long)) (by decide) rfl ?_
  intro p e s m args below meth c s₁ B hml hv
  obtain ⟨rfl, hW, hB_G, hK, hZ⟩ := hv
  have hx := B.exec
  have hb := B.bytes
  have hr := B.returns
  have hts := atoms_spec (ws := WS yX12_chance cX12_chance 12 (some .long)) B.pre
  have hgd : ∀ w ∈ gd, w ∈ WS yX12_chance cX12_chance 12 (some .long) := fun w h => List.mem_cons_of_mem _ h
  have hg : ∀ w ∈ gd, w.before _ s = true := fun w h => hts w (hgd w h)
  have hown : s.vm.findClass RX12 = some m.cls := findClass_of_methodNamed B.named
  have hS : va_S A s.heap s.heap [] := va_S.rf
  have hF : Fr [76, 97, 98] [(66, 59), (66, 60), (66, 61), (66, 62), (66, 63)] G G := Fr.rf
  have hl := lv_entry ([.ref (a 66), .int p0, .int p1, .int p2]) (n := 12) (Nat.le_of_ble_eq_true rfl)
  rw [lg_entry_eq]
  generalize (lg_sl ([.ref (a 66), .int p0, .int p1, .int p2]) ++ List.replicate (12 - (lg_sl ([.ref (a 66), .int p0, .int p1, .int p2])).length) Slot.unset).toArray = ls at hl ⊢
  have hl : lv_has ls 12 [(0, .ref (a 66)), (1, .int p0), (2, .int p1), (3, .int p2)] := hl
  refine lv_aload_n hx hb dX12_chance_0 rfl (lv_at hl 0 rfl) ?_
  refine lv_iload_n hx hb dX12_chance_1 rfl (lv_at hl 1 rfl) ?_
  refine S_calli (va_runV (As := [.int p0]) (rest := []) ⟨hx, hb, hml, hown, hts⟩ (n_isRule l D k A a z G p0 ) (cwV 1 hts (gd_V hgd m2007 m2009 m113 m131 m2010) rfl rfl rfl (by decide +kernel) ⟨Nat.le_of_ble_eq_true rfl, Nat.le_of_ble_eq_true rfl⟩) (pre_V hW hB_G hK hZ hS kd_66 rfl) rfl rfl hl.1 rfl (lv_room (Nat.le_of_ble_eq_true rfl)) dX12_chance_2 ⟨Nat.le_of_ble_eq_true rfl, Nat.le_of_ble_eq_true rfl⟩) hS (fun r_1 G_2 H locs hpo hW hS => ?_)
  have hX_5 : Q_isRule p0 G r_1 G_2 := hpo
  obtain ⟨hB_G_2, hq_3, f_6, hp_4, -⟩ := hpo
  have hF := hF.call hq_3 (by decide) (by decide)
  refine lv_if_eq (tgt := 17) hx hb dX12_chance_5 (by decide) (fun c_7 => ?_) (fun c_7 => ?_)
  · have c_7 : r_1.toInt = 0 := xI_eq rfl rfl c_7
    refine lv_ldc2 (v := (-1)) hx hb hown (hg (Cond.constantLong RX12 517 (-1)) m1874) dX12_chance_17 ?_
    exact W.lret (v := (-1)) hx hb hr (fun t ht _ => ⟨⟨(-1), G_2, rfl, (Q_chance_mk ⟨hB_G_2, hF, ⟨r_1, G_2, hX_5, (Or.inl ⟨c_7, ⟨rfl, rfl⟩⟩)⟩⟩), wd_t ht hW⟩, hS.F ht⟩) hS.2.2 dX12_chance_20
  · have c_7 : r_1.toInt ≠ 0 := xI_ne rfl rfl c_7
    refine lv_iload_n hx hb dX12_chance_8 rfl (lv_at hl 2 rfl) ?_
    refine lv_iconst (v := 0) hx hb dX12_chance_9 (by decide) ?_
    refine lv_iconst (v := 1) hx hb dX12_chance_10 (by decide) ?_
    have qc_8 : (0 : Int32).toInt = 0 := rfl
    have qc_9 : (1 : Int32).toInt = 1 := rfl
    refine S_calli (va_runS (As := [.int p1, .int 0, .int 1]) (rest := []) ⟨hx, hb, hml, hown, hts⟩ (n_isIn l D k A a z G_2 p1 0 1 ) (va_cwS 3 hts (gd_S hgd m1781 m1782 m131 m1783) rfl rfl rfl (by decide +kernel) ⟨Nat.le_of_ble_eq_true rfl, Nat.le_of_ble_eq_true rfl⟩) (pre_S hW hB_G_2 hK hZ hS) rfl rfl hl.1 rfl (lv_room (Nat.le_of_ble_eq_true rfl)) dX12_chance_11 ⟨Nat.le_of_ble_eq_true rfl, Nat.le_of_ble_eq_true rfl⟩) hS (fun r_10 G_11 H locs hpo hW hS => ?_)
    have hX_14 : Q_isIn p1 0 1 G_2 r_10 G_11 := hpo
    obtain ⟨hB_G_11, hq_12, f_15, hp_13, -⟩ := hpo
    have hF := hF.call hq_12 (by decide) (by decide)
    refine lv_if_ne (tgt := 21) hx hb dX12_chance_14 (by decide) (fun c_16 => ?_) (fun c_16 => ?_)
    · have c_16 : r_10.toInt ≠ 0 := xI_ne rfl rfl c_16
      refine lv_lconst (v := 1) hx hb dX12_chance_21 (by decide) ?_
      refine lv_lstore (lv' := [(4, .long 1), (0, .ref (a 66)), (1, .int p0), (2, .int p1), (3, .int p2)]) hx hb dX12_chance_22 hl (by decide) rfl (fun ls hl => ?_)
      refine lv_lconst (v := 1) hx hb dX12_chance_24 (by decide) ?_
      refine lv_lstore (lv' := [(6, .long 1), (4, .long 1), (0, .ref (a 66)), (1, .int p0), (2, .int p1), (3, .int p2)]) hx hb dX12_chance_25 hl (by decide) rfl (fun ls hl => ?_)
      refine lv_iconst (v := 0) hx hb dX12_chance_27 (by decide) ?_
      have u_17 : p7I (0 : Int32).toInt = 1 := rfl
      have u_18 : (1 : Int64).toInt = 1 := rfl
      refine lv_istore (lv' := [(8, .int 0), (6, .long 1), (4, .long 1), (0, .ref (a 66)), (1, .int p0), (2, .int p1), (3, .int p2)]) hx hb dX12_chance_28 hl (by decide) rfl (fun ls hl => ?_)
      have qc_27 : (0 : Int32).toInt = 0 := rfl
      refine loop_N (Inv := fun n H locs ls => ∃ (G_19 : GS) (x_23 : Int32) (x_24 : Int64) (x_25 : Int64), (n : Int) = 20 - x_23.toInt ∧ (0 ≤ x_23.toInt ∧ x_23.toInt ≤ 20) ∧ (0 ≤ (x_25).toInt ∧ (x_25).toInt ≤ p7I x_23.toInt) ∧ (1 ≤ (x_24).toInt ∧ (x_24).toInt ≤ p7I x_23.toInt) ∧ Rc (St_n_chance_1 p0 p2 G) (0, 1, 1, G_11) (x_23, x_24, x_25, G_19) ∧ Wd D k A a G_19 H ∧ Bd G_19 ∧ Fr [76, 97, 98] [(66, 59), (66, 60), (66, 61), (66, 62), (66, 63)] G G_19 ∧ Fr [76, 97, 98] [(66, 59), (66, 60), (66, 61), (66, 62), (66, 63)] G_11 G_19 ∧ va_S A s.heap H locs ∧ lv_has ls 12 [(8, .int x_23), (6, .long x_24), (4, .long x_25), (0, .ref (a 66)), (1, .int p0), (2, .int p1), (3, .int p2)]) (fun n_22 H locs ls ih_21 hI => ?_) (20 - 0 : Int).toNat ⟨G_11, 0, 1, 1, (Int.toNat_of_nonneg (by omega)), ⟨by omega, by omega⟩, (by omega), (by omega), Rc.rf, hW, hB_G_11, hF, Fr.rf, hS, lv_sub hl [0, 1, 2, 3, 4, 5, 6] rfl⟩
      obtain ⟨G_19, x_23, x_24, x_25, hn_31, f_28, f_29, f_30, hX_26, hW, hB_G_19, hF, hq_20, hS, hl⟩ := hI
      have u_32 := p7_at x_23.toInt (by omega) (by omega)
      refine lv_iload hx hb dX12_chance_30 (lv_at hl 0 rfl) ?_
      refine lv_aload_n hx hb dX12_chance_32 rfl (lv_at hl 3 rfl) ?_
      have b_33 : 0 ≤ (G.1 66 85).toInt ∧ (G.1 66 85).toInt ≤ 20 := hB_G.i 66 85 rfl rfl
      refine S_getI (v := (G.1 66 85)) (C := RX12) (T := TX12) (N := 89) hx hb hg iX12 hown hK hW kd_66 rfl 85 (by decide) (hg (Cond.fieldLink RX12 443 "SlabWalkModel" "sights" "I") m1399) (fun _ h9 => h9) rfl ((hq_20.i 66 85 (by decide) (by decide)).trans ((hq_12.i 66 85 (by decide) (by decide)).trans (hq_3.i 66 85 (by decide) (by decide)))) dX12_chance_33 ?_
      refine lv_icmp_ge (tgt := 162) hx hb dX12_chance_36 (by decide) (fun c_34 => ?_) (fun c_34 => ?_)
      · have c_34 : (G.1 66 85).toInt ≤ x_23.toInt := xI_le rfl rfl c_34
        refine lv_lload hx hb dX12_chance_162 (lv_at hl 2 rfl) ?_
        refine lv_lload hx hb dX12_chance_164 (lv_at hl 1 rfl) ?_
        refine S_calll (va_runS (As := [.long x_25, .long x_24]) (rest := []) ⟨hx, hb, hml, hown, hts⟩ (n_common l D k A a z G_19 x_25 x_24 (by omega) (by omega)) (va_cwS 2 hts (gd_S hgd m2063 m2064 m131 m2065) rfl rfl rfl (by decide +kernel) ⟨Nat.le_of_ble_eq_true rfl, Nat.le_of_ble_eq_true rfl⟩) (pre_S hW hB_G_19 hK hZ hS) rfl rfl hl.1 rfl (lv_room (Nat.le_of_ble_eq_true rfl)) dX12_chance_166 ⟨Nat.le_of_ble_eq_true rfl, Nat.le_of_ble_eq_true rfl⟩) hS (fun r_35 G_36 H locs hpo hW hS => ?_)
        have hX_39 : Q_common x_25 x_24 G_19 r_35 G_36 := hpo
        obtain ⟨hB_G_36, hq_37, hp_38, -⟩ := hpo
        have hF := hF.call hq_37 (by decide) (by decide)
        refine lv_lstore (lv' := [(8, .long r_35), (6, .long x_24), (4, .long x_25), (0, .ref (a 66)), (1, .int p0), (2, .int p1), (3, .int p2)]) hx hb dX12_chance_169 hl (by decide) rfl (fun ls hl => ?_)
        refine lv_iload_n hx hb dX12_chance_171 rfl (lv_at hl 5 rfl) ?_
        refine lv_if_ne (tgt := 183) hx hb dX12_chance_172 (by decide) (fun c_40 => ?_) (fun c_40 => ?_)
        · have c_40 : p1.toInt ≠ 0 := xI_ne rfl rfl c_40
          refine lv_lload hx hb dX12_chance_183 (lv_at hl 1 rfl) ?_
          refine lv_lload hx hb dX12_chance_185 (lv_at hl 0 rfl) ?_
          refine lv_ldiv hx hb dX12_chance_187 (l_ne0 (by omega)) ?_
          refine lv_topl (fun y_41 ey_41 => ?_)
          exact W.lret (v := y_41) hx hb hr (fun t ht _ => ⟨⟨y_41, G_36, rfl, (Q_chance_mk ⟨hB_G_36, hF, ⟨r_1, G_2, hX_5, (Or.inr ⟨c_7, ⟨r_10, G_11, hX_14, (Or.inr ⟨c_16, ⟨x_23, x_24, x_25, G_19, hX_26, f_28, f_29, f_30, hB_G_19, hq_20, ⟨c_34, ⟨r_35, G_36, hX_39, (Or.inr ⟨c_40, ⟨y_41, ey_41, ⟨rfl, rfl⟩⟩⟩)⟩⟩⟩⟩)⟩⟩)⟩⟩), wd_t ht hW⟩, hS.F ht⟩) hS.2.2 dX12_chance_188
        · have c_40 : p1.toInt = 0 := xI_eq rfl rfl c_40
          refine lv_lload hx hb dX12_chance_175 (lv_at hl 2 rfl) ?_
          refine lv_lload hx hb dX12_chance_177 (lv_at hl 0 rfl) ?_
          refine lv_ldiv hx hb dX12_chance_179 (l_ne0 (by omega)) ?_
          refine lv_topl (fun y_42 ey_42 => ?_)
          refine lv_goto (tgt := 188) hx hb dX12_chance_180 (by decide) ?_
          exact W.lret (v := y_42) hx hb hr (fun t ht _ => ⟨⟨y_42, G_36, rfl, (Q_chance_mk ⟨hB_G_36, hF, ⟨r_1, G_2, hX_5, (Or.inr ⟨c_7, ⟨r_10, G_11, hX_14, (Or.inr ⟨c_16, ⟨x_23, x_24, x_25, G_19, hX_26, f_28, f_29, f_30, hB_G_19, hq_20, ⟨c_34, ⟨r_35, G_36, hX_39, (Or.inl ⟨c_40, ⟨y_42, ey_42, ⟨rfl, rfl⟩⟩⟩)⟩⟩⟩⟩)⟩⟩)⟩⟩), wd_t ht hW⟩, hS.F ht⟩) hS.2.2 dX12_chance_188
      · have c_34 : x_23.toInt < (G.1 66 85).toInt := xI_nle rfl rfl c_34
        refine lv_aload_n hx hb dX12_chance_39 rfl (lv_at hl 3 rfl) ?_
        refine lv_iload hx hb dX12_chance_40 (lv_at hl 0 rfl) ?_
        refine lv_iload_n hx hb dX12_chance_42 rfl (lv_at hl 6 rfl) ?_
        refine S_calli (va_runV (As := [.int x_23, .int p2]) (rest := []) ⟨hx, hb, hml, hown, hts⟩ (n_counts l D k A a z G_19 x_23 p2 ⟨by omega, by omega⟩) (cwV 2 hts (gd_V hgd m2055 m2057 m115 m131 m2058) rfl rfl rfl (by decide +kernel) ⟨Nat.le_of_ble_eq_true rfl, Nat.le_of_ble_eq_true rfl⟩) (pre_V hW hB_G_19 hK hZ hS kd_66 rfl) rfl rfl hl.1 rfl (lv_room (Nat.le_of_ble_eq_true rfl)) dX12_chance_43 ⟨Nat.le_of_ble_eq_true rfl, Nat.le_of_ble_eq_true rfl⟩) hS (fun r_43 G_44 H locs hpo hW hS => ?_)
        have hX_47 : Q_counts x_23 p2 G_19 r_43 G_44 := hpo
        obtain ⟨hB_G_44, hq_45, f_48, -⟩ := hpo
        have hF := hF.call hq_45 (by decide) (by decide)
        refine lv_if_ne (tgt := 52) hx hb dX12_chance_46 (by decide) (fun c_49 => ?_) (fun c_49 => ?_)
        · have c_49 : r_43.toInt ≠ 0 := xI_ne rfl rfl c_49
          refine lv_aload_n hx hb dX12_chance_52 rfl (lv_at hl 3 rfl) ?_
          refine lv_aload_n hx hb dX12_chance_53 rfl (lv_at hl 3 rfl) ?_
          refine S_getR (n := 112) (C := RX12) (T := TX12) (N := 89) hx hb hg iX12 hown hK hW kd_66 rfl 80 (by decide) (hg (Cond.fieldLink RX12 157 "SlabWalkModel" "sightWho" "[I") m1394) (fun _ h9 => h9) rfl dX12_chance_54 ?_
          refine lv_iload hx hb dX12_chance_57 (lv_at hl 0 rfl) ?_
          refine S_iald hx hb hK hW kd_112 (vin (by omega) (by omega)) dX12_chance_59 (fun y_50 ey_50 => ?_)
          have ty_50 : 0 ≤ y_50.toInt ∧ y_50.toInt ≤ 3 := hB_G_44.v ey_50 rfl rfl
          have u_51 : y_50.toInt = (G.1 112 x_23.toNatClampNeg).toInt := congrArg Int32.toInt (ey_50.trans (((hq_45.ri 112 (by decide) (by decide) x_23.toNatClampNeg).trans ((hq_20.ri 112 (by decide) (by decide) x_23.toNatClampNeg).trans ((hq_12.ri 112 (by decide) (by decide) x_23.toNatClampNeg).trans (hq_3.ri 112 (by decide) (by decide) x_23.toNatClampNeg))))))
          refine lv_aload_n hx hb dX12_chance_60 rfl (lv_at hl 3 rfl) ?_
          refine S_getR (n := 113) (C := RX12) (T := TX12) (N := 89) hx hb hg iX12 hown hK hW kd_66 rfl 81 (by decide) (hg (Cond.fieldLink RX12 160 "SlabWalkModel" "sightWhere" "[I") m1395) (fun _ h9 => h9) rfl dX12_chance_61 ?_
          refine lv_iload hx hb dX12_chance_64 (lv_at hl 0 rfl) ?_
          refine S_iald hx hb hK hW kd_113 (vin (by omega) (by omega)) dX12_chance_66 (fun y_52 ey_52 => ?_)
          have ty_52 : 0 ≤ y_52.toInt ∧ y_52.toInt ≤ 2 := hB_G_44.v ey_52 rfl rfl
          have u_53 : y_52.toInt = (G.1 113 x_23.toNatClampNeg).toInt := congrArg Int32.toInt (ey_52.trans (((hq_45.ri 113 (by decide) (by decide) x_23.toNatClampNeg).trans ((hq_20.ri 113 (by decide) (by decide) x_23.toNatClampNeg).trans ((hq_12.ri 113 (by decide) (by decide) x_23.toNatClampNeg).trans (hq_3.ri 113 (by decide) (by decide) x_23.toNatClampNeg))))))
          refine lv_iconst (v := 1) hx hb dX12_chance_67 (by decide) ?_
          refine lv_iload_n hx hb dX12_chance_68 rfl (lv_at hl 4 rfl) ?_
          refine lv_ishl hx hb dX12_chance_69 ?_
          refine lv_topi (fun y_54 ey_54 => ?_)
          have ty_54 := sh5 (Y := p0.toInt) rfl ey_54 rfl (by omega) (by omega)
          have g_55 : gP G_44 = gP G := gP_fr (rs := [76, 97, 98]) (fs := [(66, 59), (66, 60), (66, 61), (66, 62), (66, 63)]) ((((Fr.rf.call hq_3 (by decide) (by decide)).call hq_12 (by decide) (by decide)).call hq_20 (by decide) (by decide)).call hq_45 (by decide) (by decide)) (by decide) (by decide)
          refine S_callv (va_runV (As := [.int y_50, .int y_52, .int y_54]) (rest := []) ⟨hx, hb, hml, hown, hts⟩ (n_layStreet l D k A a z G_44 y_50 y_52 y_54 ⟨by omega, by omega⟩ ⟨by omega, by omega⟩ (by omega)) (cwV 3 hts (gd_V hgd m1834 m1836 m91 m131 m1837) rfl rfl rfl (by decide +kernel) ⟨Nat.le_of_ble_eq_true rfl, Nat.le_of_ble_eq_true rfl⟩) (pre_V hW hB_G_44 hK hZ hS kd_66 rfl) rfl rfl hl.1 rfl (lv_room (Nat.le_of_ble_eq_true rfl)) dX12_chance_70 ⟨Nat.le_of_ble_eq_true rfl, Nat.le_of_ble_eq_true rfl⟩) hS (fun G_57 H locs hpo hW hS => ?_)
          have hX_60 : Q_layStreet y_50 y_52 y_54 G_44 G_57 := hpo
          obtain ⟨hB_G_57, hq_58, hp_59, -⟩ := hpo
          have hF := hF.call hq_58 (by decide) (by decide)
          have u_61 := gS_at hS9 (s := x_23) (w := y_50) (r := y_52) (q := G.1 114 x_23.toNatClampNeg) (by omega) (by omega) (by omega) (by omega) rfl
          have b_62 : 0 ≤ (G.1 114 x_23.toNatClampNeg).toInt ∧ (G.1 114 x_23.toNatClampNeg).toInt ≤ 399 := hB_G.i 114 _ rfl rfl
          have u_63 : (G_44.1 92 y_50.toNatClampNeg).toInt = (G.1 92 y_50.toNatClampNeg).toInt := congrArg Int32.toInt (((hq_45.ri 92 (by decide) (by decide) y_50.toNatClampNeg).trans ((hq_20.ri 92 (by decide) (by decide) y_50.toNatClampNeg).trans ((hq_12.ri 92 (by decide) (by decide) y_50.toNatClampNeg).trans (hq_3.ri 92 (by decide) (by decide) y_50.toNatClampNeg)))))
          have u_64 : (G_44.1 91 y_52.toNatClampNeg).toInt = (G.1 91 y_52.toNatClampNeg).toInt := congrArg Int32.toInt (((hq_45.ri 91 (by decide) (by decide) y_52.toNatClampNeg).trans ((hq_20.ri 91 (by decide) (by decide) y_52.toNatClampNeg).trans ((hq_12.ri 91 (by decide) (by decide) y_52.toNatClampNeg).trans (hq_3.ri 91 (by decide) (by decide) y_52.toNatClampNeg)))))
          have b_65 : 0 ≤ (G_57.1 66 60).toInt ∧ (G_57.1 66 60).toInt ≤ 12 := hB_G_57.i 66 60 rfl rfl
          have b_66 : 0 ≤ (G_57.1 66 59).toInt ∧ (G_57.1 66 59).toInt ≤ 400 := hB_G_57.i 66 59 rfl rfl
          refine lv_iconst (v := 0) hx hb dX12_chance_73 (by decide) ?_
          refine lv_istore (lv' := [(9, .int 0), (8, .int x_23), (6, .long x_24), (4, .long x_25), (0, .ref (a 66)), (1, .int p0), (2, .int p1), (3, .int p2)]) hx hb dX12_chance_74 hl (by decide) rfl (fun ls hl => ?_)
          refine lv_iconst (v := 0) hx hb dX12_chance_76 (by decide) ?_
          refine lv_istore (lv' := [(10, .int 0), (9, .int 0), (8, .int x_23), (6, .long x_24), (4, .long x_25), (0, .ref (a 66)), (1, .int p0), (2, .int p1), (3, .int p2)]) hx hb dX12_chance_77 hl (by decide) rfl (fun ls hl => ?_)
          refine lv_aload_n hx hb dX12_chance_79 rfl (lv_at hl 5 rfl) ?_
          refine S_getR (n := 114) (C := RX12) (T := TX12) (N := 89) hx hb hg iX12 hown hK hW kd_66 rfl 82 (by decide) (hg (Cond.fieldLink RX12 163 "SlabWalkModel" "sightHeel" "[I") m1396) (fun _ h9 => h9) rfl dX12_chance_80 ?_
          refine lv_iload hx hb dX12_chance_83 (lv_at hl 2 rfl) ?_
          refine S_iald hx hb hK hW kd_114 (vin (by omega) (by omega)) dX12_chance_85 (fun y_67 ey_67 => ?_)
          have ty_67 : 0 ≤ y_67.toInt ∧ y_67.toInt ≤ 399 := hB_G_57.v ey_67 rfl rfl
          have u_68 : y_67.toInt = (G.1 114 x_23.toNatClampNeg).toInt := congrArg Int32.toInt (ey_67.trans (((hq_58.ri 114 (by decide) (by decide) x_23.toNatClampNeg).trans ((hq_45.ri 114 (by decide) (by decide) x_23.toNatClampNeg).trans ((hq_20.ri 114 (by decide) (by decide) x_23.toNatClampNeg).trans ((hq_12.ri 114 (by decide) (by decide) x_23.toNatClampNeg).trans (hq_3.ri 114 (by decide) (by decide) x_23.toNatClampNeg)))))))
          refine lv_iconst (v := 3) hx hb dX12_chance_86 (by decide) ?_
          refine lv_isub hx hb dX12_chance_87 ?_
          refine lv_topi (fun y_69 ey_69 => ?_)
          have ty_69 : y_69.toInt = y_67.toInt - 3 := xI_sub rfl rfl ey_69 (by omega) (by omega)
          refine lv_istore (lv' := [(11, .int y_69), (10, .int 0), (9, .int 0), (8, .int x_23), (6, .long x_24), (4, .long x_25), (0, .ref (a 66)), (1, .int p0), (2, .int p1), (3, .int p2)]) hx hb dX12_chance_88 hl (by decide) rfl (fun ls hl => ?_)
          have qc_78 : (0 : Int32).toInt = 0 := rfl
          refine loop_N (Inv := fun n H locs ls => ∃ (G_70 : GS) (x_74 : Int32) (x_75 : Int32) (x_76 : Int32), (n : Int) = 403 - x_74.toInt ∧ ((-3) ≤ x_74.toInt ∧ x_74.toInt ≤ 403) ∧ (0 ≤ x_75.toInt ∧ x_75.toInt ≤ 7) ∧ (0 ≤ x_76.toInt ∧ x_76.toInt ≤ 7) ∧ (x_76.toInt ≤ x_75.toInt) ∧ (x_75.toInt ≤ x_74.toInt - (G.1 114 x_23.toNatClampNeg).toInt + 3) ∧ ((G.1 114 x_23.toNatClampNeg).toInt - 3 ≤ x_74.toInt) ∧ (x_74.toInt ≤ (G.1 114 x_23.toNatClampNeg).toInt + 4) ∧ (x_74.toInt ≤ (G.1 114 x_23.toNatClampNeg).toInt ∨ 1 ≤ x_75.toInt) ∧ Rc (St_n_chance_2 x_23 G) (y_69, 0, 0, G_57) (x_74, x_75, x_76, G_70) ∧ Wd D k A a G_70 H ∧ Bd G_70 ∧ Fr [76, 97, 98] [(66, 59), (66, 60), (66, 61), (66, 62), (66, 63)] G G_70 ∧ Fr [] [] G_57 G_70 ∧ va_S A s.heap H locs ∧ lv_has ls 12 [(11, .int x_74), (10, .int x_75), (9, .int x_76), (8, .int x_23), (6, .long x_24), (4, .long x_25), (0, .ref (a 66)), (1, .int p0), (2, .int p1), (3, .int p2)]) (fun n_73 H locs ls ih_72 hI => ?_) (403 - y_69.toInt : Int).toNat ⟨G_57, y_69, 0, 0, (Int.toNat_of_nonneg (by omega)), ⟨by omega, by omega⟩, ⟨by omega, by omega⟩, ⟨by omega, by omega⟩, (by omega), (by omega), (by omega), (by omega), (by omega), Rc.rf, hW, hB_G_57, hF, Fr.rf, hS, lv_sub hl [0, 1, 2, 3, 4, 5, 6, 7, 8, 9] rfl⟩
          obtain ⟨G_70, x_74, x_75, x_76, hn_87, f_79, f_80, f_81, f_82, f_83, f_84, f_85, f_86, hX_77, hW, hB_G_70, hF, hq_71, hS, hl⟩ := hI
          refine lv_iload hx hb dX12_chance_90 (lv_at hl 0 rfl) ?_
          refine lv_aload_n hx hb dX12_chance_92 rfl (lv_at hl 6 rfl) ?_
          refine S_getR (n := 114) (C := RX12) (T := TX12) (N := 89) hx hb hg iX12 hown hK hW kd_66 rfl 82 (by decide) (hg (Cond.fieldLink RX12 163 "SlabWalkModel" "sightHeel" "[I") m1396) (fun _ h9 => h9) rfl dX12_chance_93 ?_
          refine lv_iload hx hb dX12_chance_96 (lv_at hl 3 rfl) ?_
          refine S_iald hx hb hK hW kd_114 (vin (by omega) (by omega)) dX12_chance_98 (fun y_88 ey_88 => ?_)
          have ty_88 : 0 ≤ y_88.toInt ∧ y_88.toInt ≤ 399 := hB_G_70.v ey_88 rfl rfl
          have u_89 : y_88.toInt = y_67.toInt := congrArg Int32.toInt (ey_88.trans (((hq_71.ri 114 (by decide) (by decide) x_23.toNatClampNeg).trans (ey_67.symm))))
          refine lv_iconst (v := 3) hx hb dX12_chance_99 (by decide) ?_
          refine lv_iadd hx hb dX12_chance_100 ?_
          refine lv_topi (fun y_90 ey_90 => ?_)
          have ty_90 : y_90.toInt = y_88.toInt + 3 := xI_add rfl rfl ey_90 (by omega) (by omega)
          refine lv_icmp_gt (tgt := 140) hx hb dX12_chance_101 (by decide) (fun c_91 => ?_) (fun c_91 => ?_)
          · have c_91 : y_90.toInt < x_74.toInt := xI_lt rfl rfl c_91
            refine lv_lload hx hb dX12_chance_140 (lv_at hl 5 rfl) ?_
            refine lv_iload hx hb dX12_chance_142 (lv_at hl 2 rfl) ?_
            refine lv_i2l hx hb dX12_chance_144 rfl ?_
            refine lv_topl (fun y_92 ey_92 => ?_)
            refine lv_lmul hx hb dX12_chance_145 ?_
            refine lv_topl (fun y_93 ey_93 => ?_)
            have u_94 := l_mulB (x := x_25) (y := x_76) (P := p7I x_23.toInt) ey_92 ey_93 (by omega) (by omega) (by omega) (by omega) (by omega)
            refine lv_lstore (lv' := [(4, .long y_93), (11, .int x_74), (10, .int x_75), (9, .int x_76), (8, .int x_23), (6, .long x_24), (0, .ref (a 66)), (1, .int p0), (2, .int p1), (3, .int p2)]) hx hb dX12_chance_146 hl (by decide) rfl (fun ls hl => ?_)
            refine lv_lload hx hb dX12_chance_148 (lv_at hl 5 rfl) ?_
            refine lv_iload hx hb dX12_chance_150 (lv_at hl 2 rfl) ?_
            refine lv_i2l hx hb dX12_chance_152 rfl ?_
            refine lv_topl (fun y_95 ey_95 => ?_)
            refine lv_lmul hx hb dX12_chance_153 ?_
            refine lv_topl (fun y_96 ey_96 => ?_)
            have u_97 := l_mulB (x := x_24) (y := x_75) (P := p7I x_23.toInt) ey_95 ey_96 (by omega) (by omega) (by omega) (by omega) (by omega)
            refine lv_lstore (lv' := [(6, .long y_96), (4, .long y_93), (11, .int x_74), (10, .int x_75), (9, .int x_76), (8, .int x_23), (0, .ref (a 66)), (1, .int p0), (2, .int p1), (3, .int p2)]) hx hb dX12_chance_154 hl (by decide) rfl (fun ls hl => ?_)
            obtain ⟨y_98, ey_98⟩ : ∃ q, q = x_23 + 1 := ⟨_, rfl⟩
            have ty_98 : y_98.toInt = x_23.toInt + 1 := xI_add rfl rfl ey_98 (by omega) (by omega)
            refine lv_iinc (v := y_98) (lv' := [(8, .int y_98), (6, .long y_96), (4, .long y_93), (11, .int x_74), (10, .int x_75), (9, .int x_76), (0, .ref (a 66)), (1, .int p0), (2, .int p1), (3, .int p2)]) hx hb dX12_chance_156 hl (k := 5) rfl (by rw [ey_98]; rfl) (by decide) rfl (fun ls hl => ?_)
            have u_99 : p7I y_98.toInt = p7I (x_23.toInt + 1) := by rw [ty_98]
            refine lv_goto (tgt := 30) hx hb dX12_chance_159 (by decide) ?_
            exact ih_21 (20 - y_98.toInt : Int).toNat (by omega) _ _ _ ⟨G_70, y_98, y_96, y_93, (Int.toNat_of_nonneg (by omega)), ⟨by omega, by omega⟩, (by omega), (by omega), (hX_26.st (St_n_chance_1_mk ⟨x_23, x_24, x_25, G_19, y_98, y_96, y_93, G_70, rfl, rfl, f_28, f_29, f_30, hB_G_19, ⟨c_34, ⟨r_43, G_44, hX_47, (Or.inr ⟨c_49, ⟨y_50, ey_50, ⟨y_52, ey_52, ⟨y_54, ey_54, ⟨G_57, hX_60, ⟨y_67, ey_67, ⟨y_69, ty_69, ⟨x_74, x_75, x_76, G_70, hX_77, f_79, f_80, f_81, f_82, f_83, f_84, f_85, f_86, hB_G_70, hq_71, ⟨y_88, ey_88, ⟨y_90, ty_90, ⟨c_91, ⟨y_92, ey_92, ⟨y_93, ey_93, ⟨y_95, ey_95, ⟨y_96, ey_96, ⟨y_98, ty_98, ⟨rfl, rfl, rfl, rfl⟩⟩⟩⟩⟩⟩⟩⟩⟩⟩⟩⟩⟩⟩⟩⟩⟩)⟩⟩⟩)), hW, hB_G_70, hF, ((((Fr.rf.call hq_20 (by decide) (by decide)).call hq_45 (by decide) (by decide)).call hq_58 (by decide) (by decide)).call hq_71 (by decide) (by decide)), hS, lv_sub hl [0, 1, 2, 6, 7, 8, 9] rfl⟩
          · have c_91 : x_74.toInt ≤ y_90.toInt := xI_nlt rfl rfl c_91
            refine lv_aload_n hx hb dX12_chance_104 rfl (lv_at hl 6 rfl) ?_
            refine lv_iload hx hb dX12_chance_105 (lv_at hl 0 rfl) ?_
            have g_100 : (G_70.1 66 59).toInt = (G_57.1 66 59).toInt := by rw [show G_70.1 66 59 = (G_57.1 66 59) from ((hq_71.i 66 59 (by decide) (by decide)).trans (rfl))]
            have g_101 : (G_70.1 66 60).toInt = (G_57.1 66 60).toInt := by rw [show G_70.1 66 60 = (G_57.1 66 60) from ((hq_71.i 66 60 (by decide) (by decide)).trans (rfl))]
            refine S_calli (va_runV (As := [.int x_74]) (rest := []) ⟨hx, hb, hml, hown, hts⟩ (n_stands1 l D k A a z G_70 x_74 ) (cwV 1 hts (gd_V hgd m1838 m1840 m92 m131 m1841) rfl rfl rfl (by decide +kernel) ⟨Nat.le_of_ble_eq_true rfl, Nat.le_of_ble_eq_true rfl⟩) (pre_V hW hB_G_70 hK hZ hS kd_66 rfl) rfl rfl hl.1 rfl (lv_room (Nat.le_of_ble_eq_true rfl)) dX12_chance_107 ⟨Nat.le_of_ble_eq_true rfl, Nat.le_of_ble_eq_true rfl⟩) hS (fun r_102 G_103 H locs hpo hW hS => ?_)
            have hX_106 : Q_stands1 x_74 G_70 r_102 G_103 := hpo
            obtain ⟨hB_G_103, hq_104, f_107, hp_105, -⟩ := hpo
            have hF := hF.call hq_104 (by decide) (by decide)
            refine lv_if_ne (tgt := 116) hx hb dX12_chance_110 (by decide) (fun c_108 => ?_) (fun c_108 => ?_)
            · have c_108 : r_102.toInt ≠ 0 := xI_ne rfl rfl c_108
              obtain ⟨y_109, ey_109⟩ : ∃ q, q = x_75 + 1 := ⟨_, rfl⟩
              have ty_109 : y_109.toInt = x_75.toInt + 1 := xI_add rfl rfl ey_109 (by omega) (by omega)
              refine lv_iinc (v := y_109) (lv' := [(10, .int y_109), (11, .int x_74), (9, .int x_76), (8, .int x_23), (6, .long x_24), (4, .long x_25), (0, .ref (a 66)), (1, .int p0), (2, .int p1), (3, .int p2)]) hx hb dX12_chance_116 hl (k := 1) rfl (by rw [ey_109]; rfl) (by decide) rfl (fun ls hl => ?_)
              refine lv_iload hx hb dX12_chance_119 (lv_at hl 2 rfl) ?_
              refine lv_aload_n hx hb dX12_chance_121 rfl (lv_at hl 6 rfl) ?_
              refine S_getR (n := 98) (C := RX12) (T := TX12) (N := 89) hx hb hg iX12 hown hK hW kd_66 rfl 58 (by decide) (hg (Cond.fieldLink RX12 115 "SlabWalkModel" "lawful" "[Z") m1372) (fun _ h9 => h9) rfl dX12_chance_122 ?_
              refine lv_iload hx hb dX12_chance_125 (lv_at hl 1 rfl) ?_
              refine S_zald hx hb hK hW kd_98 (vin (by omega) (by omega)) dX12_chance_127 (fun y_110 ey_110 => ?_)
              have ty_110 := hB_G_103.law ey_110
              have u_111 : y_110.toInt = (G_57.1 98 x_74.toNatClampNeg).toInt := congrArg Int32.toInt (ey_110.trans (((hq_104.ri 98 (by decide) (by decide) x_74.toNatClampNeg).trans (hq_71.ri 98 (by decide) (by decide) x_74.toNatClampNeg))))
              refine S_calli (va_runS (As := [.int y_110]) (rest := [.int x_76]) ⟨hx, hb, hml, hown, hts⟩ (n_truth l D k A a z G_103 y_110 ⟨by omega, by omega⟩) (va_cwS 1 hts (gd_S hgd m1788 m1789 m131 m1790) rfl rfl rfl (by decide +kernel) ⟨Nat.le_of_ble_eq_true rfl, Nat.le_of_ble_eq_true rfl⟩) (pre_S hW hB_G_103 hK hZ hS) rfl rfl hl.1 rfl (lv_room (Nat.le_of_ble_eq_true rfl)) dX12_chance_128 ⟨Nat.le_of_ble_eq_true rfl, Nat.le_of_ble_eq_true rfl⟩) hS (fun r_112 G_113 H locs hpo hW hS => ?_)
              have hX_116 : Q_truth y_110 G_103 r_112 G_113 := hpo
              obtain ⟨hB_G_113, hq_114, f_117, hp_115, -⟩ := hpo
              have hF := hF.call hq_114 (by decide) (by decide)
              refine lv_iadd hx hb dX12_chance_131 ?_
              refine lv_topi (fun y_118 ey_118 => ?_)
              have ty_118 : y_118.toInt = x_76.toInt + r_112.toInt := xI_add rfl rfl ey_118 (by omega) (by omega)
              refine lv_istore (lv' := [(9, .int y_118), (10, .int y_109), (11, .int x_74), (8, .int x_23), (6, .long x_24), (4, .long x_25), (0, .ref (a 66)), (1, .int p0), (2, .int p1), (3, .int p2)]) hx hb dX12_chance_132 hl (by decide) rfl (fun ls hl => ?_)
              obtain ⟨y_119, ey_119⟩ : ∃ q, q = x_74 + 1 := ⟨_, rfl⟩
              have ty_119 : y_119.toInt = x_74.toInt + 1 := xI_add rfl rfl ey_119 (by omega) (by omega)
              refine lv_iinc (v := y_119) (lv' := [(11, .int y_119), (9, .int y_118), (10, .int y_109), (8, .int x_23), (6, .long x_24), (4, .long x_25), (0, .ref (a 66)), (1, .int p0), (2, .int p1), (3, .int p2)]) hx hb dX12_chance_134 hl (k := 2) rfl (by rw [ey_119]; rfl) (by decide) rfl (fun ls hl => ?_)
              refine lv_goto (tgt := 90) hx hb dX12_chance_137 (by decide) ?_
              exact ih_72 (403 - y_119.toInt : Int).toNat (by omega) _ _ _ ⟨G_113, y_119, y_109, y_118, (Int.toNat_of_nonneg (by omega)), ⟨by omega, by omega⟩, ⟨by omega, by omega⟩, ⟨by omega, by omega⟩, (by omega), (by omega), (by omega), (by omega), (by omega), (hX_77.st (St_n_chance_2_mk ⟨x_74, x_75, x_76, G_70, y_119, y_109, y_118, G_113, rfl, rfl, f_79, f_80, f_81, f_82, f_83, f_84, f_85, f_86, hB_G_70, ⟨y_88, ey_88, ⟨y_90, ty_90, ⟨c_91, ⟨r_102, G_103, hX_106, (Or.inr ⟨c_108, ⟨y_109, ty_109, ⟨y_110, ey_110, ⟨r_112, G_113, hX_116, ⟨y_118, ty_118, ⟨y_119, ty_119, ⟨rfl, rfl, rfl, rfl⟩⟩⟩⟩⟩⟩⟩)⟩⟩⟩⟩⟩)), hW, hB_G_113, hF, (((Fr.rf.call hq_71 (by decide) (by decide)).call hq_104 (by decide) (by decide)).call hq_114 (by decide) (by decide)), hS, lv_sub hl [0, 2, 1, 3, 4, 5, 6, 7, 8, 9] rfl⟩
            · have c_108 : r_102.toInt = 0 := xI_eq rfl rfl c_108
              refine lv_goto (tgt := 134) hx hb dX12_chance_113 (by decide) ?_
              obtain ⟨y_120, ey_120⟩ : ∃ q, q = x_74 + 1 := ⟨_, rfl⟩
              have ty_120 : y_120.toInt = x_74.toInt + 1 := xI_add rfl rfl ey_120 (by omega) (by omega)
              refine lv_iinc (v := y_120) (lv' := [(11, .int y_120), (10, .int x_75), (9, .int x_76), (8, .int x_23), (6, .long x_24), (4, .long x_25), (0, .ref (a 66)), (1, .int p0), (2, .int p1), (3, .int p2)]) hx hb dX12_chance_134 hl (k := 0) rfl (by rw [ey_120]; rfl) (by decide) rfl (fun ls hl => ?_)
              refine lv_goto (tgt := 90) hx hb dX12_chance_137 (by decide) ?_
              exact ih_72 (403 - y_120.toInt : Int).toNat (by omega) _ _ _ ⟨G_103, y_120, x_75, x_76, (Int.toNat_of_nonneg (by omega)), ⟨by omega, by omega⟩, ⟨by omega, by omega⟩, ⟨by omega, by omega⟩, (by omega), (by omega), (by omega), (by omega), (by omega), (hX_77.st (St_n_chance_2_mk ⟨x_74, x_75, x_76, G_70, y_120, x_75, x_76, G_103, rfl, rfl, f_79, f_80, f_81, f_82, f_83, f_84, f_85, f_86, hB_G_70, ⟨y_88, ey_88, ⟨y_90, ty_90, ⟨c_91, ⟨r_102, G_103, hX_106, (Or.inl ⟨c_108, ⟨y_120, ty_120, ⟨rfl, rfl, rfl, rfl⟩⟩⟩)⟩⟩⟩⟩⟩)), hW, hB_G_103, hF, ((Fr.rf.call hq_71 (by decide) (by decide)).call hq_104 (by decide) (by decide)), hS, lv_sub hl [0, 1, 2, 3, 4, 5, 6, 7, 8, 9] rfl⟩
        · have c_49 : r_43.toInt = 0 := xI_eq rfl rfl c_49
          refine lv_goto (tgt := 156) hx hb dX12_chance_49 (by decide) ?_
          obtain ⟨y_121, ey_121⟩ : ∃ q, q = x_23 + 1 := ⟨_, rfl⟩
          have ty_121 : y_121.toInt = x_23.toInt + 1 := xI_add rfl rfl ey_121 (by omega) (by omega)
          refine lv_iinc (v := y_121) (lv' := [(8, .int y_121), (6, .long x_24), (4, .long x_25), (0, .ref (a 66)), (1, .int p0), (2, .int p1), (3, .int p2)]) hx hb dX12_chance_156 hl (k := 0) rfl (by rw [ey_121]; rfl) (by decide) rfl (fun ls hl => ?_)
          have u_122 : p7I y_121.toInt = p7I (x_23.toInt + 1) := by rw [ty_121]
          refine lv_goto (tgt := 30) hx hb dX12_chance_159 (by decide) ?_
          exact ih_21 (20 - y_121.toInt : Int).toNat (by omega) _ _ _ ⟨G_44, y_121, x_24, x_25, (Int.toNat_of_nonneg (by omega)), ⟨by omega, by omega⟩, (by omega), (by omega), (hX_26.st (St_n_chance_1_mk ⟨x_23, x_24, x_25, G_19, y_121, x_24, x_25, G_44, rfl, rfl, f_28, f_29, f_30, hB_G_19, ⟨c_34, ⟨r_43, G_44, hX_47, (Or.inl ⟨c_49, ⟨y_121, ty_121, ⟨rfl, rfl, rfl, rfl⟩⟩⟩)⟩⟩⟩)), hW, hB_G_44, hF, ((Fr.rf.call hq_20 (by decide) (by decide)).call hq_45 (by decide) (by decide)), hS, lv_sub hl [0, 1, 2, 3, 4, 5, 6] rfl⟩
    · have c_16 : r_10.toInt = 0 := xI_eq rfl rfl c_16
      refine lv_ldc2 (v := (-1)) hx hb hown (hg (Cond.constantLong RX12 517 (-1)) m1874) dX12_chance_17 ?_
      exact W.lret (v := (-1)) hx hb hr (fun t ht _ => ⟨⟨(-1), G_11, rfl, (Q_chance_mk ⟨hB_G_11, hF, ⟨r_1, G_2, hX_5, (Or.inr ⟨c_7, ⟨r_10, G_11, hX_14, (Or.inl ⟨c_16, ⟨rfl, rfl⟩⟩)⟩⟩)⟩⟩), wd_t ht hW⟩, hS.F ht⟩) hS.2.2 dX12_chance_20
