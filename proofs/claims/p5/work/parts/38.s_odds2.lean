theorem m39 : Cond.selects RX5 yX5_bestStep yX5_bestStep ∈ gd := gd_mem 39 (by decide +kernel) (by decide +kernel)
theorem m468 : Cond.fieldLink RX5 24 "SlabWalk$Odds" "odds" "[J" ∈ gd := gd_mem 468 (by decide +kernel) (by decide +kernel)
theorem m1126 : Cond.methodLink RX5 74 yX5_bestStep ∈ gd := gd_mem 1126 (by decide +kernel) (by decide +kernel)
theorem m1128 : Cond.instanceMethod yX5_bestStep ∈ gd := gd_mem 1128 (by decide +kernel) (by decide +kernel)
theorem m1129 : Cond.code yX5_bestStep cX5_bestStep 7 (some .int) ∈ gd := gd_mem 1129 (by decide +kernel) (by decide +kernel)
theorem dX5_bravest_0 : decode cX5_bravest 0 = .ok (.lconst 1, 1) := by decide +kernel
theorem dX5_bravest_1 : decode cX5_bravest 1 = .ok (.lstore 5, 2) := by decide +kernel
theorem dX5_bravest_3 : decode cX5_bravest 3 = .ok (.iload_n 3, 1) := by decide +kernel
theorem dX5_bravest_4 : decode cX5_bravest 4 = .ok (.istore 7, 2) := by decide +kernel
theorem dX5_bravest_6 : decode cX5_bravest 6 = .ok (.iload 7, 2) := by decide +kernel
theorem dX5_bravest_8 : decode cX5_bravest 8 = .ok (.aload_n 1, 1) := by decide +kernel
theorem dX5_bravest_9 : decode cX5_bravest 9 = .ok (.getfield 30, 3) := by decide +kernel
theorem dX5_bravest_12 : decode cX5_bravest 12 = .ok (.if_icmp .gt 31, 3) := by decide +kernel
theorem dX5_bravest_15 : decode cX5_bravest 15 = .ok (.aload_n 0, 1) := by decide +kernel
theorem dX5_bravest_16 : decode cX5_bravest 16 = .ok (.getfield 24, 3) := by decide +kernel
theorem dX5_bravest_19 : decode cX5_bravest 19 = .ok (.iload 7, 2) := by decide +kernel
theorem dX5_bravest_21 : decode cX5_bravest 21 = .ok (.aload_n 1, 1) := by decide +kernel
theorem dX5_bravest_22 : decode cX5_bravest 22 = .ok (.getfield 36, 3) := by decide +kernel
theorem dX5_bravest_25 : decode cX5_bravest 25 = .ok (.iload 7, 2) := by decide +kernel
theorem dX5_bravest_27 : decode cX5_bravest 27 = .ok (.baload, 1) := by decide +kernel
theorem dX5_bravest_28 : decode cX5_bravest 28 = .ok (.ifCond .eq 7, 3) := by decide +kernel
theorem dX5_bravest_31 : decode cX5_bravest 31 = .ok (.lconst 1, 1) := by decide +kernel
theorem dX5_bravest_32 : decode cX5_bravest 32 = .ok (.goto 4, 3) := by decide +kernel
theorem dX5_bravest_35 : decode cX5_bravest 35 = .ok (.lconst 0, 1) := by decide +kernel
theorem dX5_bravest_36 : decode cX5_bravest 36 = .ok (.lastore, 1) := by decide +kernel
theorem dX5_bravest_37 : decode cX5_bravest 37 = .ok (.iinc 7 1, 3) := by decide +kernel
theorem dX5_bravest_40 : decode cX5_bravest 40 = .ok (.goto (-34), 3) := by decide +kernel
theorem dX5_bravest_43 : decode cX5_bravest 43 = .ok (.iconst 0, 1) := by decide +kernel
theorem dX5_bravest_44 : decode cX5_bravest 44 = .ok (.istore 7, 2) := by decide +kernel
theorem dX5_bravest_46 : decode cX5_bravest 46 = .ok (.iload 7, 2) := by decide +kernel
theorem dX5_bravest_48 : decode cX5_bravest 48 = .ok (.iload 4, 2) := by decide +kernel
theorem dX5_bravest_50 : decode cX5_bravest 50 = .ok (.if_icmp .ge 184, 3) := by decide +kernel
theorem dX5_bravest_53 : decode cX5_bravest 53 = .ok (.aload_n 1, 1) := by decide +kernel
theorem dX5_bravest_54 : decode cX5_bravest 54 = .ok (.getfield 30, 3) := by decide +kernel
theorem dX5_bravest_57 : decode cX5_bravest 57 = .ok (.iconst 1, 1) := by decide +kernel
theorem dX5_bravest_58 : decode cX5_bravest 58 = .ok (.iadd, 1) := by decide +kernel
theorem dX5_bravest_59 : decode cX5_bravest 59 = .ok (.istore 8, 2) := by decide +kernel
theorem dX5_bravest_61 : decode cX5_bravest 61 = .ok (.iload 8, 2) := by decide +kernel
theorem dX5_bravest_63 : decode cX5_bravest 63 = .ok (.aload_n 1, 1) := by decide +kernel
theorem dX5_bravest_64 : decode cX5_bravest 64 = .ok (.getfield 30, 3) := by decide +kernel
theorem dX5_bravest_67 : decode cX5_bravest 67 = .ok (.iconst 3, 1) := by decide +kernel
theorem dX5_bravest_68 : decode cX5_bravest 68 = .ok (.iadd, 1) := by decide +kernel
theorem dX5_bravest_69 : decode cX5_bravest 69 = .ok (.if_icmp .gt 18, 3) := by decide +kernel
theorem dX5_bravest_72 : decode cX5_bravest 72 = .ok (.aload_n 0, 1) := by decide +kernel
theorem dX5_bravest_73 : decode cX5_bravest 73 = .ok (.getfield 24, 3) := by decide +kernel
theorem dX5_bravest_76 : decode cX5_bravest 76 = .ok (.iload 8, 2) := by decide +kernel
theorem dX5_bravest_78 : decode cX5_bravest 78 = .ok (.lload 5, 2) := by decide +kernel
theorem dX5_bravest_80 : decode cX5_bravest 80 = .ok (.lastore, 1) := by decide +kernel
theorem dX5_bravest_81 : decode cX5_bravest 81 = .ok (.iinc 8 1, 3) := by decide +kernel
theorem dX5_bravest_84 : decode cX5_bravest 84 = .ok (.goto (-23), 3) := by decide +kernel
theorem dX5_bravest_87 : decode cX5_bravest 87 = .ok (.lload 5, 2) := by decide +kernel
theorem dX5_bravest_89 : decode cX5_bravest 89 = .ok (.aload_n 2, 1) := by decide +kernel
theorem dX5_bravest_90 : decode cX5_bravest 90 = .ok (.iconst 0, 1) := by decide +kernel
theorem dX5_bravest_91 : decode cX5_bravest 91 = .ok (.iaload, 1) := by decide +kernel
theorem dX5_bravest_92 : decode cX5_bravest 92 = .ok (.aload_n 2, 1) := by decide +kernel
theorem dX5_bravest_93 : decode cX5_bravest 93 = .ok (.iconst 1, 1) := by decide +kernel
theorem dX5_bravest_94 : decode cX5_bravest 94 = .ok (.iaload, 1) := by decide +kernel
theorem dX5_bravest_95 : decode cX5_bravest 95 = .ok (.iadd, 1) := by decide +kernel
theorem dX5_bravest_96 : decode cX5_bravest 96 = .ok (.aload_n 2, 1) := by decide +kernel
theorem dX5_bravest_97 : decode cX5_bravest 97 = .ok (.iconst 2, 1) := by decide +kernel
theorem dX5_bravest_98 : decode cX5_bravest 98 = .ok (.iaload, 1) := by decide +kernel
theorem dX5_bravest_99 : decode cX5_bravest 99 = .ok (.iadd, 1) := by decide +kernel
theorem dX5_bravest_100 : decode cX5_bravest 100 = .ok (.i2l, 1) := by decide +kernel
theorem dX5_bravest_101 : decode cX5_bravest 101 = .ok (.lmul, 1) := by decide +kernel
theorem dX5_bravest_102 : decode cX5_bravest 102 = .ok (.lstore 5, 2) := by decide +kernel
theorem dX5_bravest_104 : decode cX5_bravest 104 = .ok (.iload_n 3, 1) := by decide +kernel
theorem dX5_bravest_105 : decode cX5_bravest 105 = .ok (.iconst 1, 1) := by decide +kernel
theorem dX5_bravest_106 : decode cX5_bravest 106 = .ok (.iadd, 1) := by decide +kernel
theorem dX5_bravest_107 : decode cX5_bravest 107 = .ok (.istore 8, 2) := by decide +kernel
theorem dX5_bravest_109 : decode cX5_bravest 109 = .ok (.iload 8, 2) := by decide +kernel
theorem dX5_bravest_111 : decode cX5_bravest 111 = .ok (.aload_n 1, 1) := by decide +kernel
theorem dX5_bravest_112 : decode cX5_bravest 112 = .ok (.getfield 30, 3) := by decide +kernel
theorem dX5_bravest_115 : decode cX5_bravest 115 = .ok (.iconst 2, 1) := by decide +kernel
theorem dX5_bravest_116 : decode cX5_bravest 116 = .ok (.iadd, 1) := by decide +kernel
theorem dX5_bravest_117 : decode cX5_bravest 117 = .ok (.if_icmp .gt 58, 3) := by decide +kernel
theorem dX5_bravest_120 : decode cX5_bravest 120 = .ok (.aload_n 0, 1) := by decide +kernel
theorem dX5_bravest_121 : decode cX5_bravest 121 = .ok (.getfield 27, 3) := by decide +kernel
theorem dX5_bravest_124 : decode cX5_bravest 124 = .ok (.iload 8, 2) := by decide +kernel
theorem dX5_bravest_126 : decode cX5_bravest 126 = .ok (.aload_n 2, 1) := by decide +kernel
theorem dX5_bravest_127 : decode cX5_bravest 127 = .ok (.iconst 0, 1) := by decide +kernel
theorem dX5_bravest_128 : decode cX5_bravest 128 = .ok (.iaload, 1) := by decide +kernel
theorem dX5_bravest_129 : decode cX5_bravest 129 = .ok (.i2l, 1) := by decide +kernel
theorem dX5_bravest_130 : decode cX5_bravest 130 = .ok (.aload_n 0, 1) := by decide +kernel
theorem dX5_bravest_131 : decode cX5_bravest 131 = .ok (.getfield 24, 3) := by decide +kernel
theorem dX5_bravest_134 : decode cX5_bravest 134 = .ok (.iload 8, 2) := by decide +kernel
theorem dX5_bravest_136 : decode cX5_bravest 136 = .ok (.iconst 1, 1) := by decide +kernel
theorem dX5_bravest_137 : decode cX5_bravest 137 = .ok (.isub, 1) := by decide +kernel
theorem dX5_bravest_138 : decode cX5_bravest 138 = .ok (.laload, 1) := by decide +kernel
theorem dX5_bravest_139 : decode cX5_bravest 139 = .ok (.lmul, 1) := by decide +kernel
theorem dX5_bravest_140 : decode cX5_bravest 140 = .ok (.aload_n 2, 1) := by decide +kernel
theorem dX5_bravest_141 : decode cX5_bravest 141 = .ok (.iconst 1, 1) := by decide +kernel
theorem dX5_bravest_142 : decode cX5_bravest 142 = .ok (.iaload, 1) := by decide +kernel
theorem dX5_bravest_143 : decode cX5_bravest 143 = .ok (.i2l, 1) := by decide +kernel
theorem dX5_bravest_144 : decode cX5_bravest 144 = .ok (.aload_n 0, 1) := by decide +kernel
theorem dX5_bravest_145 : decode cX5_bravest 145 = .ok (.getfield 24, 3) := by decide +kernel
theorem dX5_bravest_148 : decode cX5_bravest 148 = .ok (.iload 8, 2) := by decide +kernel
theorem dX5_bravest_150 : decode cX5_bravest 150 = .ok (.laload, 1) := by decide +kernel
theorem dX5_bravest_151 : decode cX5_bravest 151 = .ok (.lmul, 1) := by decide +kernel
theorem dX5_bravest_152 : decode cX5_bravest 152 = .ok (.ladd, 1) := by decide +kernel
theorem dX5_bravest_153 : decode cX5_bravest 153 = .ok (.aload_n 2, 1) := by decide +kernel
theorem dX5_bravest_154 : decode cX5_bravest 154 = .ok (.iconst 2, 1) := by decide +kernel
theorem dX5_bravest_155 : decode cX5_bravest 155 = .ok (.iaload, 1) := by decide +kernel
theorem dX5_bravest_156 : decode cX5_bravest 156 = .ok (.i2l, 1) := by decide +kernel
theorem dX5_bravest_157 : decode cX5_bravest 157 = .ok (.aload_n 0, 1) := by decide +kernel
theorem dX5_bravest_158 : decode cX5_bravest 158 = .ok (.getfield 24, 3) := by decide +kernel
theorem dX5_bravest_161 : decode cX5_bravest 161 = .ok (.iload 8, 2) := by decide +kernel
theorem dX5_bravest_163 : decode cX5_bravest 163 = .ok (.iconst 1, 1) := by decide +kernel
theorem dX5_bravest_164 : decode cX5_bravest 164 = .ok (.iadd, 1) := by decide +kernel
theorem dX5_bravest_165 : decode cX5_bravest 165 = .ok (.laload, 1) := by decide +kernel
theorem dX5_bravest_166 : decode cX5_bravest 166 = .ok (.lmul, 1) := by decide +kernel
theorem dX5_bravest_167 : decode cX5_bravest 167 = .ok (.ladd, 1) := by decide +kernel
theorem dX5_bravest_168 : decode cX5_bravest 168 = .ok (.lastore, 1) := by decide +kernel
theorem dX5_bravest_169 : decode cX5_bravest 169 = .ok (.iinc 8 1, 3) := by decide +kernel
theorem dX5_bravest_172 : decode cX5_bravest 172 = .ok (.goto (-63), 3) := by decide +kernel
theorem dX5_bravest_175 : decode cX5_bravest 175 = .ok (.iload_n 3, 1) := by decide +kernel
theorem dX5_bravest_176 : decode cX5_bravest 176 = .ok (.istore 8, 2) := by decide +kernel
theorem dX5_bravest_178 : decode cX5_bravest 178 = .ok (.iload 8, 2) := by decide +kernel
theorem dX5_bravest_180 : decode cX5_bravest 180 = .ok (.aload_n 1, 1) := by decide +kernel
theorem dX5_bravest_181 : decode cX5_bravest 181 = .ok (.getfield 30, 3) := by decide +kernel
theorem dX5_bravest_184 : decode cX5_bravest 184 = .ok (.if_icmp .gt 44, 3) := by decide +kernel
theorem dX5_bravest_187 : decode cX5_bravest 187 = .ok (.aload_n 0, 1) := by decide +kernel
theorem dX5_bravest_188 : decode cX5_bravest 188 = .ok (.getfield 24, 3) := by decide +kernel
theorem dX5_bravest_191 : decode cX5_bravest 191 = .ok (.iload 8, 2) := by decide +kernel
theorem dX5_bravest_193 : decode cX5_bravest 193 = .ok (.aload_n 1, 1) := by decide +kernel
theorem dX5_bravest_194 : decode cX5_bravest 194 = .ok (.getfield 36, 3) := by decide +kernel
theorem dX5_bravest_197 : decode cX5_bravest 197 = .ok (.iload 8, 2) := by decide +kernel
theorem dX5_bravest_199 : decode cX5_bravest 199 = .ok (.baload, 1) := by decide +kernel
theorem dX5_bravest_200 : decode cX5_bravest 200 = .ok (.ifCond .eq 20, 3) := by decide +kernel
theorem dX5_bravest_203 : decode cX5_bravest 203 = .ok (.aload_n 0, 1) := by decide +kernel
theorem dX5_bravest_204 : decode cX5_bravest 204 = .ok (.aload_n 1, 1) := by decide +kernel
theorem dX5_bravest_205 : decode cX5_bravest 205 = .ok (.iload 8, 2) := by decide +kernel
theorem dX5_bravest_207 : decode cX5_bravest 207 = .ok (.aload_n 0, 1) := by decide +kernel
theorem dX5_bravest_208 : decode cX5_bravest 208 = .ok (.aload_n 1, 1) := by decide +kernel
theorem dX5_bravest_209 : decode cX5_bravest 209 = .ok (.iload 8, 2) := by decide +kernel
theorem dX5_bravest_211 : decode cX5_bravest 211 = .ok (.invokevirtual 74, 3) := by decide +kernel
theorem dX5_bravest_214 : decode cX5_bravest 214 = .ok (.invokevirtual 78, 3) := by decide +kernel
theorem dX5_bravest_217 : decode cX5_bravest 217 = .ok (.goto 4, 3) := by decide +kernel
theorem dX5_bravest_220 : decode cX5_bravest 220 = .ok (.lconst 0, 1) := by decide +kernel
theorem dX5_bravest_221 : decode cX5_bravest 221 = .ok (.lastore, 1) := by decide +kernel
theorem dX5_bravest_222 : decode cX5_bravest 222 = .ok (.iinc 8 1, 3) := by decide +kernel
theorem dX5_bravest_225 : decode cX5_bravest 225 = .ok (.goto (-47), 3) := by decide +kernel
theorem dX5_bravest_228 : decode cX5_bravest 228 = .ok (.iinc 7 1, 3) := by decide +kernel
theorem dX5_bravest_231 : decode cX5_bravest 231 = .ok (.goto (-185), 3) := by decide +kernel
theorem dX5_bravest_234 : decode cX5_bravest 234 = .ok (.aload_n 0, 1) := by decide +kernel
theorem dX5_bravest_235 : decode cX5_bravest 235 = .ok (.aload_n 1, 1) := by decide +kernel
theorem dX5_bravest_236 : decode cX5_bravest 236 = .ok (.getfield 36, 3) := by decide +kernel
theorem dX5_bravest_239 : decode cX5_bravest 239 = .ok (.iload_n 3, 1) := by decide +kernel
theorem dX5_bravest_240 : decode cX5_bravest 240 = .ok (.baload, 1) := by decide +kernel
theorem dX5_bravest_241 : decode cX5_bravest 241 = .ok (.ifCond .eq 12, 3) := by decide +kernel
theorem dX5_bravest_244 : decode cX5_bravest 244 = .ok (.aload_n 0, 1) := by decide +kernel
theorem dX5_bravest_245 : decode cX5_bravest 245 = .ok (.aload_n 1, 1) := by decide +kernel
theorem dX5_bravest_246 : decode cX5_bravest 246 = .ok (.iload_n 3, 1) := by decide +kernel
theorem dX5_bravest_247 : decode cX5_bravest 247 = .ok (.invokevirtual 74, 3) := by decide +kernel
theorem dX5_bravest_250 : decode cX5_bravest 250 = .ok (.goto 7, 3) := by decide +kernel
theorem dX5_bravest_253 : decode cX5_bravest 253 = .ok (.aload_n 1, 1) := by decide +kernel
theorem dX5_bravest_254 : decode cX5_bravest 254 = .ok (.getfield 58, 3) := by decide +kernel
theorem dX5_bravest_257 : decode cX5_bravest 257 = .ok (.putfield 82, 3) := by decide +kernel
theorem dX5_bravest_260 : decode cX5_bravest 260 = .ok (.aload_n 0, 1) := by decide +kernel
theorem dX5_bravest_261 : decode cX5_bravest 261 = .ok (.getfield 24, 3) := by decide +kernel
theorem dX5_bravest_264 : decode cX5_bravest 264 = .ok (.iload_n 3, 1) := by decide +kernel
theorem dX5_bravest_265 : decode cX5_bravest 265 = .ok (.laload, 1) := by decide +kernel
theorem dX5_bravest_266 : decode cX5_bravest 266 = .ok (.lreturn, 1) := by decide +kernel
set_option maxHeartbeats 4000000 in
set_option maxRecDepth 100000 in
theorem k_oBrave_1 (l : Launch) (D : va_G) (k : KT) (A : Nat → Prop) (a : Nat → Nat) (z : SK) (G : GS) (p0 : Int32) (p1 : Int32) (ha_p0 : 0 ≤ p0.toInt ∧ p0.toInt ≤ 399) (ha_p1 : 1 ≤ p1.toInt ∧ p1.toInt ≤ 8) (hci : (G.1 7 6).toInt ≤ 399 ∧ (G.1 7 3).toInt ≤ (G.1 7 4).toInt ∧ ((G.1 7 7).toInt ≤ 0 ∨ (G.1 7 7).toInt + (G.1 7 4).toInt ≤ (G.1 7 6).toInt + 1)) : Met l yX5_bravest (WS yX5_bravest cX5_bravest 9 (some .long)) ({ frames := 3, cells := 0, slots := 0, locals := 63 }) (va_Pc [.ref (a 29), .ref (a 7), .ref (a 16), .int p0, .int p1] (cW D k A a z G)) (va_Ql (fun (r : Int64) (G1 : GS) => Bd G1 ∧ Fr [56, 57] [(29, 6)] G G1) (fun (G1 : GS) t => Wd D k A a G1 t.heap) A) 0 0 A := by
  refine Met.ofW (cc := cX5_bravest) (maxL := 9) (ret := (some .long)) (by decide) rfl ?_
  intro p e s m args below meth c s₁ B hml hv
  obtain ⟨rfl, hW, hB_G, hK, hZ⟩ := hv
  have hx := B.exec
  have hb := B.bytes
  have hr := B.returns
  have hts := atoms_spec (ws := WS yX5_bravest cX5_bravest 9 (some .long)) B.pre
  have hgd : ∀ w ∈ gd, w ∈ WS yX5_bravest cX5_bravest 9 (some .long) := fun w h => List.mem_cons_of_mem _ h
  have hg : ∀ w ∈ gd, w.before _ s = true := fun w h => hts w (hgd w h)
  have hown : s.vm.findClass RX5 = some m.cls := findClass_of_methodNamed B.named
  have hS : va_S A s.heap s.heap [] := va_S.rf
  have hF : Fr [56, 57] [(29, 6)] G G := Fr.rf
  have hl := lv_entry ([.ref (a 29), .ref (a 7), .ref (a 16), .int p0, .int p1]) (n := 9) (Nat.le_of_ble_eq_true rfl)
  rw [lg_entry_eq]
  generalize (lg_sl ([.ref (a 29), .ref (a 7), .ref (a 16), .int p0, .int p1]) ++ List.replicate (9 - (lg_sl ([.ref (a 29), .ref (a 7), .ref (a 16), .int p0, .int p1])).length) Slot.unset).toArray = ls at hl ⊢
  have hl : lv_has ls 9 [(0, .ref (a 29)), (1, .ref (a 7)), (2, .ref (a 16)), (3, .int p0), (4, .int p1)] := hl
  have b_1 : (-1) ≤ (G.1 7 6).toInt ∧ (G.1 7 6).toInt ≤ 400 := hB_G.i 7 6 rfl rfl
  refine lv_lconst (v := 1) hx hb dX5_bravest_0 (by decide) ?_
  refine lv_lstore (lv' := [(5, .long 1), (0, .ref (a 29)), (1, .ref (a 7)), (2, .ref (a 16)), (3, .int p0), (4, .int p1)]) hx hb dX5_bravest_1 hl (by decide) rfl (fun ls hl => ?_)
  refine lv_iload_n hx hb dX5_bravest_3 rfl (lv_at hl 4 rfl) ?_
  refine lv_istore (lv' := [(7, .int p0), (5, .long 1), (0, .ref (a 29)), (1, .ref (a 7)), (2, .ref (a 16)), (3, .int p0), (4, .int p1)]) hx hb dX5_bravest_4 hl (by decide) rfl (fun ls hl => ?_)
  refine loop_N (Inv := fun n H locs ls => ∃ (G_2 : GS) (x_6 : Int32), (n : Int) = 400 - x_6.toInt ∧ (0 ≤ x_6.toInt ∧ x_6.toInt ≤ 400) ∧ Wd D k A a G_2 H ∧ Bd G_2 ∧ Fr [56, 57] [(29, 6)] G G_2 ∧ Fr [56, 57] [(29, 6)] G G_2 ∧ va_S A s.heap H locs ∧ lv_has ls 9 [(7, .int x_6), (5, .long 1), (0, .ref (a 29)), (1, .ref (a 7)), (2, .ref (a 16)), (3, .int p0), (4, .int p1)]) (fun n_5 H locs ls ih_4 hI => ?_) (400 - p0.toInt : Int).toNat ⟨G, p0, (Int.toNat_of_nonneg (by omega)), ⟨by omega, by omega⟩, hW, hB_G, hF, Fr.rf, hS, lv_sub hl [0, 1, 2, 3, 4, 5, 6] rfl⟩
  obtain ⟨G_2, x_6, hn_8, f_7, hW, hB_G_2, hF, hq_3, hS, hl⟩ := hI
  refine lv_iload hx hb dX5_bravest_6 (lv_at hl 0 rfl) ?_
  refine lv_aload_n hx hb dX5_bravest_8 rfl (lv_at hl 3 rfl) ?_
  refine S_getI (v := (G.1 7 6)) (C := RX0) (T := TX0) (N := 8) hx hb hg iX0 hown hK hW kd_7 rfl 6 (by decide) (hg (Cond.fieldLink RX5 30 "SlabWalk$Course" "last" "I") m389) (fun _ h9 => h9) rfl ((hq_3.i 7 6 (by decide) (by decide)).trans (rfl)) dX5_bravest_9 ?_
  refine lv_icmp_gt (tgt := 43) hx hb dX5_bravest_12 (by decide) (fun c_9 => ?_) (fun c_9 => ?_)
  · have c_9 : (G.1 7 6).toInt < x_6.toInt := xI_lt rfl rfl c_9
    refine lv_iconst (v := 0) hx hb dX5_bravest_43 (by decide) ?_
    refine lv_istore (lv' := [(7, .int 0), (5, .long 1), (0, .ref (a 29)), (1, .ref (a 7)), (2, .ref (a 16)), (3, .int p0), (4, .int p1)]) hx hb dX5_bravest_44 hl (by decide) rfl (fun ls hl => ?_)
    have qc_16 : (0 : Int32).toInt = 0 := rfl
    refine loop_N (Inv := fun n H locs ls => ∃ (G_10 : GS) (x_14 : Int32) (x_15 : Int64), (n : Int) = 8 - x_14.toInt ∧ (0 ≤ x_14.toInt ∧ x_14.toInt ≤ 8) ∧ Wd D k A a G_10 H ∧ Bd G_10 ∧ Fr [56, 57] [(29, 6)] G G_10 ∧ Fr [56, 57] [(29, 6)] G_2 G_10 ∧ va_S A s.heap H locs ∧ lv_has ls 9 [(7, .int x_14), (5, .long x_15), (0, .ref (a 29)), (1, .ref (a 7)), (2, .ref (a 16)), (3, .int p0), (4, .int p1)]) (fun n_13 H locs ls ih_12 hI => ?_) (8 - 0 : Int).toNat ⟨G_2, 0, 1, (Int.toNat_of_nonneg (by omega)), ⟨by omega, by omega⟩, hW, hB_G_2, hF, Fr.rf, hS, lv_sub hl [0, 1, 2, 3, 4, 5, 6] rfl⟩
    obtain ⟨G_10, x_14, x_15, hn_18, f_17, hW, hB_G_10, hF, hq_11, hS, hl⟩ := hI
    refine lv_iload hx hb dX5_bravest_46 (lv_at hl 0 rfl) ?_
    refine lv_iload hx hb dX5_bravest_48 (lv_at hl 6 rfl) ?_
    refine lv_icmp_ge (tgt := 234) hx hb dX5_bravest_50 (by decide) (fun c_19 => ?_) (fun c_19 => ?_)
    · have c_19 : p1.toInt ≤ x_14.toInt := xI_le rfl rfl c_19
      refine lv_aload_n hx hb dX5_bravest_234 rfl (lv_at hl 2 rfl) ?_
      refine lv_aload_n hx hb dX5_bravest_235 rfl (lv_at hl 3 rfl) ?_
      refine S_getR (n := 40) (C := RX0) (T := TX0) (N := 8) hx hb hg iX0 hown hK hW kd_7 rfl 0 (by decide) (hg (Cond.fieldLink RX5 36 "SlabWalk$Course" "lawful" "[Z") m372) (fun _ h9 => h9) rfl dX5_bravest_236 ?_
      refine lv_iload_n hx hb dX5_bravest_239 rfl (lv_at hl 5 rfl) ?_
      refine S_zald hx hb hK hW kd_40 (vin (by omega) (by omega)) dX5_bravest_240 (fun y_20 ey_20 => ?_)
      have ty_20 : 0 ≤ y_20.toInt ∧ y_20.toInt ≤ 1 := hB_G_10.v ey_20 rfl rfl
      refine lv_if_eq (tgt := 253) hx hb dX5_bravest_241 (by decide) (fun c_21 => ?_) (fun c_21 => ?_)
      · have c_21 : y_20.toInt = 0 := xI_eq rfl rfl c_21
        refine lv_aload_n hx hb dX5_bravest_253 rfl (lv_at hl 3 rfl) ?_
        have b_22 : 0 ≤ (G.1 7 3).toInt ∧ (G.1 7 3).toInt ≤ 60 := hB_G.i 7 3 rfl rfl
        refine S_getI (v := (G.1 7 3)) (C := RX0) (T := TX0) (N := 8) hx hb hg iX0 hown hK hW kd_7 rfl 3 (by decide) (hg (Cond.fieldLink RX5 58 "SlabWalk$Course" "least" "I") m379) (fun _ h9 => h9) rfl ((hq_11.i 7 3 (by decide) (by decide)).trans (hq_3.i 7 3 (by decide) (by decide))) dX5_bravest_254 ?_
        refine S_putI (ty := .int) (C := RX5) (T := TX5) (N := 7) hx hb hg iX5 tyX5 tyX5_ok nmX5 hown hK hW hS kd_29 rfl 6 (by decide) (hg (Cond.fieldLink RX5 82 "SlabWalk$Odds" "boldest" "I") m470) (fun _ h9 => h9) rfl (by decide +kernel) rfl rfl rfl dX5_bravest_257 (fun G_23 H locs eG_23 hW hS => ?_)
        have hB_G_23 : Bd G_23 := hB_G_10.put (lo := (-2147483648)) (hi := 2147483647) eG_23 rfl rfl rfl (tI_rng _).1 (tI_rng _).2 (hB_G_10.2.put eG_23 rfl)
        have hF := hF.put eG_23 (Or.inr (by decide))
        refine lv_aload_n hx hb dX5_bravest_260 rfl (lv_at hl 2 rfl) ?_
        refine S_getR (n := 56) (C := RX5) (T := TX5) (N := 7) hx hb hg iX5 hown hK hW kd_29 rfl 4 (by decide) (hg (Cond.fieldLink RX5 24 "SlabWalk$Odds" "odds" "[J") m468) (fun _ h9 => h9) rfl dX5_bravest_261 ?_
        refine lv_iload_n hx hb dX5_bravest_264 rfl (lv_at hl 5 rfl) ?_
        refine S_lald hx hb hK hW kd_56 (vin (by omega) (by omega)) dX5_bravest_265 (fun y_24 ey_24 => ?_)
        exact W.lret (v := y_24) hx hb hr (fun t ht _ => ⟨⟨y_24, G_23, rfl, ⟨hB_G_23, hF⟩, wd_t ht hW⟩, hS.F ht⟩) hS.2.2 dX5_bravest_266
      · have c_21 : y_20.toInt ≠ 0 := xI_ne rfl rfl c_21
        refine lv_aload_n hx hb dX5_bravest_244 rfl (lv_at hl 2 rfl) ?_
        refine lv_aload_n hx hb dX5_bravest_245 rfl (lv_at hl 3 rfl) ?_
        refine lv_iload_n hx hb dX5_bravest_246 rfl (lv_at hl 5 rfl) ?_
        have b_25 : 0 ≤ (G.1 7 3).toInt ∧ (G.1 7 3).toInt ≤ 60 := hB_G.i 7 3 rfl rfl
        have g_26 : (G_10.1 7 3).toInt = (G.1 7 3).toInt := by rw [show G_10.1 7 3 = (G.1 7 3) from ((hq_11.i 7 3 (by decide) (by decide)).trans (hq_3.i 7 3 (by decide) (by decide)))]
        have b_27 : 0 ≤ (G.1 7 4).toInt ∧ (G.1 7 4).toInt ≤ 60 := hB_G.i 7 4 rfl rfl
        have g_28 : (G_10.1 7 4).toInt = (G.1 7 4).toInt := by rw [show G_10.1 7 4 = (G.1 7 4) from ((hq_11.i 7 4 (by decide) (by decide)).trans (hq_3.i 7 4 (by decide) (by decide)))]
        have g_29 : (G_10.1 7 6).toInt = (G.1 7 6).toInt := by rw [show G_10.1 7 6 = (G.1 7 6) from ((hq_11.i 7 6 (by decide) (by decide)).trans ((hq_3.i 7 6 (by decide) (by decide)).trans (rfl)))]
        have b_30 : 0 ≤ (G.1 7 7).toInt ∧ (G.1 7 7).toInt ≤ 400 := hB_G.i 7 7 rfl rfl
        have g_31 : (G_10.1 7 7).toInt = (G.1 7 7).toInt := by rw [show G_10.1 7 7 = (G.1 7 7) from ((hq_11.i 7 7 (by decide) (by decide)).trans (hq_3.i 7 7 (by decide) (by decide)))]
        refine S_calli (va_runV (As := [.ref (a 7), .int p0]) (rest := [.ref (a 29)]) ⟨hx, hb, hml, hown, hts⟩ (k_oBest l D k A a z G_10 p0 ⟨by omega, by omega⟩ (by omega)) (cwV 2 hts (gd_V hgd m1126 m1128 m39 m126 m1129) rfl rfl rfl (by decide +kernel) ⟨Nat.le_of_ble_eq_true rfl, Nat.le_of_ble_eq_true rfl⟩) (pre_V hW hB_G_10 hK hZ hS kd_29 rfl) rfl rfl hl.1 rfl (lv_room (Nat.le_of_ble_eq_true rfl)) dX5_bravest_247 ⟨Nat.le_of_ble_eq_true rfl, Nat.le_of_ble_eq_true rfl⟩) hS (fun r_32 G_33 H locs hpo hW hS => ?_)
        obtain ⟨hB_G_33, hq_34, f_36⟩ := hpo
        have hF := hF.call hq_34 (by decide) (by decide)
        refine lv_goto (tgt := 257) hx hb dX5_bravest_250 (by decide) ?_
        refine S_putI (ty := .int) (C := RX5) (T := TX5) (N := 7) hx hb hg iX5 tyX5 tyX5_ok nmX5 hown hK hW hS kd_29 rfl 6 (by decide) (hg (Cond.fieldLink RX5 82 "SlabWalk$Odds" "boldest" "I") m470) (fun _ h9 => h9) rfl (by decide +kernel) rfl rfl rfl dX5_bravest_257 (fun G_37 H locs eG_37 hW hS => ?_)
        have hB_G_37 : Bd G_37 := hB_G_33.put (lo := (-2147483648)) (hi := 2147483647) eG_37 rfl rfl rfl (tI_rng _).1 (tI_rng _).2 (hB_G_33.2.put eG_37 rfl)
        have hF := hF.put eG_37 (Or.inr (by decide))
        refine lv_aload_n hx hb dX5_bravest_260 rfl (lv_at hl 2 rfl) ?_
        refine S_getR (n := 56) (C := RX5) (T := TX5) (N := 7) hx hb hg iX5 hown hK hW kd_29 rfl 4 (by decide) (hg (Cond.fieldLink RX5 24 "SlabWalk$Odds" "odds" "[J") m468) (fun _ h9 => h9) rfl dX5_bravest_261 ?_
        refine lv_iload_n hx hb dX5_bravest_264 rfl (lv_at hl 5 rfl) ?_
        refine S_lald hx hb hK hW kd_56 (vin (by omega) (by omega)) dX5_bravest_265 (fun y_38 ey_38 => ?_)
        exact W.lret (v := y_38) hx hb hr (fun t ht _ => ⟨⟨y_38, G_37, rfl, ⟨hB_G_37, hF⟩, wd_t ht hW⟩, hS.F ht⟩) hS.2.2 dX5_bravest_266
    · have c_19 : x_14.toInt < p1.toInt := xI_nle rfl rfl c_19
      refine lv_aload_n hx hb dX5_bravest_53 rfl (lv_at hl 3 rfl) ?_
      refine S_getI (v := (G.1 7 6)) (C := RX0) (T := TX0) (N := 8) hx hb hg iX0 hown hK hW kd_7 rfl 6 (by decide) (hg (Cond.fieldLink RX5 30 "SlabWalk$Course" "last" "I") m389) (fun _ h9 => h9) rfl ((hq_11.i 7 6 (by decide) (by decide)).trans ((hq_3.i 7 6 (by decide) (by decide)).trans (rfl))) dX5_bravest_54 ?_
      refine lv_iconst (v := 1) hx hb dX5_bravest_57 (by decide) ?_
      refine lv_iadd hx hb dX5_bravest_58 ?_
      refine lv_topi (fun y_39 ey_39 => ?_)
      have ty_39 : y_39.toInt = (G.1 7 6).toInt + 1 := xI_add rfl rfl ey_39 (by omega) (by omega)
      refine lv_istore (lv' := [(8, .int y_39), (7, .int x_14), (5, .long x_15), (0, .ref (a 29)), (1, .ref (a 7)), (2, .ref (a 16)), (3, .int p0), (4, .int p1)]) hx hb dX5_bravest_59 hl (by decide) rfl (fun ls hl => ?_)
      refine loop_N (Inv := fun n H locs ls => ∃ (G_40 : GS) (x_44 : Int32), (n : Int) = 403 - x_44.toInt ∧ (0 ≤ x_44.toInt ∧ x_44.toInt ≤ 403) ∧ Wd D k A a G_40 H ∧ Bd G_40 ∧ Fr [56, 57] [(29, 6)] G G_40 ∧ Fr [56, 57] [] G_10 G_40 ∧ va_S A s.heap H locs ∧ lv_has ls 9 [(8, .int x_44), (7, .int x_14), (5, .long x_15), (0, .ref (a 29)), (1, .ref (a 7)), (2, .ref (a 16)), (3, .int p0), (4, .int p1)]) (fun n_43 H locs ls ih_42 hI => ?_) (403 - y_39.toInt : Int).toNat ⟨G_10, y_39, (Int.toNat_of_nonneg (by omega)), ⟨by omega, by omega⟩, hW, hB_G_10, hF, Fr.rf, hS, lv_sub hl [0, 1, 2, 3, 4, 5, 6, 7] rfl⟩
      obtain ⟨G_40, x_44, hn_46, f_45, hW, hB_G_40, hF, hq_41, hS, hl⟩ := hI
      refine lv_iload hx hb dX5_bravest_61 (lv_at hl 0 rfl) ?_
      refine lv_aload_n hx hb dX5_bravest_63 rfl (lv_at hl 4 rfl) ?_
      refine S_getI (v := (G.1 7 6)) (C := RX0) (T := TX0) (N := 8) hx hb hg iX0 hown hK hW kd_7 rfl 6 (by decide) (hg (Cond.fieldLink RX5 30 "SlabWalk$Course" "last" "I") m389) (fun _ h9 => h9) rfl ((hq_41.i 7 6 (by decide) (by decide)).trans ((hq_11.i 7 6 (by decide) (by decide)).trans ((hq_3.i 7 6 (by decide) (by decide)).trans (rfl)))) dX5_bravest_64 ?_
      refine lv_iconst (v := 3) hx hb dX5_bravest_67 (by decide) ?_
      refine lv_iadd hx hb dX5_bravest_68 ?_
      refine lv_topi (fun y_47 ey_47 => ?_)
      have ty_47 : y_47.toInt = (G.1 7 6).toInt + 3 := xI_add rfl rfl ey_47 (by omega) (by omega)
      refine lv_icmp_gt (tgt := 87) hx hb dX5_bravest_69 (by decide) (fun c_48 => ?_) (fun c_48 => ?_)
      · have c_48 : y_47.toInt < x_44.toInt := xI_lt rfl rfl c_48
        refine lv_lload hx hb dX5_bravest_87 (lv_at hl 2 rfl) ?_
        refine lv_aload_n hx hb dX5_bravest_89 rfl (lv_at hl 5 rfl) ?_
        refine lv_iconst (v := 0) hx hb dX5_bravest_90 (by decide) ?_
        refine S_iald hx hb hK hW kd_16 (vin (by decide) (by decide)) dX5_bravest_91 (fun y_49 ey_49 => ?_)
        have ty_49 : 0 ≤ y_49.toInt ∧ y_49.toInt ≤ 9 := hB_G_40.v ey_49 rfl rfl
        refine lv_aload_n hx hb dX5_bravest_92 rfl (lv_at hl 5 rfl) ?_
        refine lv_iconst (v := 1) hx hb dX5_bravest_93 (by decide) ?_
        refine S_iald hx hb hK hW kd_16 (vin (by decide) (by decide)) dX5_bravest_94 (fun y_50 ey_50 => ?_)
        have ty_50 : 0 ≤ y_50.toInt ∧ y_50.toInt ≤ 9 := hB_G_40.v ey_50 rfl rfl
        refine lv_iadd hx hb dX5_bravest_95 ?_
        refine lv_topi (fun y_51 ey_51 => ?_)
        have ty_51 : y_51.toInt = y_49.toInt + y_50.toInt := xI_add rfl rfl ey_51 (by omega) (by omega)
        refine lv_aload_n hx hb dX5_bravest_96 rfl (lv_at hl 5 rfl) ?_
        refine lv_iconst (v := 2) hx hb dX5_bravest_97 (by decide) ?_
        refine S_iald hx hb hK hW kd_16 (vin (by decide) (by decide)) dX5_bravest_98 (fun y_52 ey_52 => ?_)
        have ty_52 : 0 ≤ y_52.toInt ∧ y_52.toInt ≤ 9 := hB_G_40.v ey_52 rfl rfl
        refine lv_iadd hx hb dX5_bravest_99 ?_
        refine lv_topi (fun y_53 ey_53 => ?_)
        have ty_53 : y_53.toInt = y_51.toInt + y_52.toInt := xI_add rfl rfl ey_53 (by omega) (by omega)
        refine lv_i2l hx hb dX5_bravest_100 rfl ?_
        refine lv_topl (fun y_54 ey_54 => ?_)
        refine lv_lmul hx hb dX5_bravest_101 ?_
        refine lv_topl (fun y_55 ey_55 => ?_)
        refine lv_lstore (lv' := [(5, .long y_55), (8, .int x_44), (7, .int x_14), (0, .ref (a 29)), (1, .ref (a 7)), (2, .ref (a 16)), (3, .int p0), (4, .int p1)]) hx hb dX5_bravest_102 hl (by decide) rfl (fun ls hl => ?_)
        refine lv_iload_n hx hb dX5_bravest_104 rfl (lv_at hl 6 rfl) ?_
        refine lv_iconst (v := 1) hx hb dX5_bravest_105 (by decide) ?_
        refine lv_iadd hx hb dX5_bravest_106 ?_
        refine lv_topi (fun y_56 ey_56 => ?_)
        have ty_56 : y_56.toInt = p0.toInt + 1 := xI_add rfl rfl ey_56 (by omega) (by omega)
        refine lv_istore (lv' := [(8, .int y_56), (5, .long y_55), (7, .int x_14), (0, .ref (a 29)), (1, .ref (a 7)), (2, .ref (a 16)), (3, .int p0), (4, .int p1)]) hx hb dX5_bravest_107 hl (by decide) rfl (fun ls hl => ?_)
        refine loop_N (Inv := fun n H locs ls => ∃ (G_57 : GS) (x_61 : Int32), (n : Int) = 402 - x_61.toInt ∧ (1 ≤ x_61.toInt ∧ x_61.toInt ≤ 402) ∧ Wd D k A a G_57 H ∧ Bd G_57 ∧ Fr [56, 57] [(29, 6)] G G_57 ∧ Fr [56, 57] [] G_40 G_57 ∧ va_S A s.heap H locs ∧ lv_has ls 9 [(8, .int x_61), (5, .long y_55), (7, .int x_14), (0, .ref (a 29)), (1, .ref (a 7)), (2, .ref (a 16)), (3, .int p0), (4, .int p1)]) (fun n_60 H locs ls ih_59 hI => ?_) (402 - y_56.toInt : Int).toNat ⟨G_40, y_56, (Int.toNat_of_nonneg (by omega)), ⟨by omega, by omega⟩, hW, hB_G_40, hF, Fr.rf, hS, lv_sub hl [0, 1, 2, 3, 4, 5, 6, 7] rfl⟩
        obtain ⟨G_57, x_61, hn_63, f_62, hW, hB_G_57, hF, hq_58, hS, hl⟩ := hI
        refine lv_iload hx hb dX5_bravest_109 (lv_at hl 0 rfl) ?_
        refine lv_aload_n hx hb dX5_bravest_111 rfl (lv_at hl 4 rfl) ?_
        refine S_getI (v := (G.1 7 6)) (C := RX0) (T := TX0) (N := 8) hx hb hg iX0 hown hK hW kd_7 rfl 6 (by decide) (hg (Cond.fieldLink RX5 30 "SlabWalk$Course" "last" "I") m389) (fun _ h9 => h9) rfl ((hq_58.i 7 6 (by decide) (by decide)).trans ((hq_41.i 7 6 (by decide) (by decide)).trans ((hq_11.i 7 6 (by decide) (by decide)).trans ((hq_3.i 7 6 (by decide) (by decide)).trans (rfl))))) dX5_bravest_112 ?_
        refine lv_iconst (v := 2) hx hb dX5_bravest_115 (by decide) ?_
        refine lv_iadd hx hb dX5_bravest_116 ?_
        refine lv_topi (fun y_64 ey_64 => ?_)
        have ty_64 : y_64.toInt = (G.1 7 6).toInt + 2 := xI_add rfl rfl ey_64 (by omega) (by omega)
        refine lv_icmp_gt (tgt := 175) hx hb dX5_bravest_117 (by decide) (fun c_65 => ?_) (fun c_65 => ?_)
        · have c_65 : y_64.toInt < x_61.toInt := xI_lt rfl rfl c_65
          refine lv_iload_n hx hb dX5_bravest_175 rfl (lv_at hl 6 rfl) ?_
          refine lv_istore (lv' := [(8, .int p0), (5, .long y_55), (7, .int x_14), (0, .ref (a 29)), (1, .ref (a 7)), (2, .ref (a 16)), (3, .int p0), (4, .int p1)]) hx hb dX5_bravest_176 hl (by decide) rfl (fun ls hl => ?_)
          refine loop_N (Inv := fun n H locs ls => ∃ (G_66 : GS) (x_70 : Int32), (n : Int) = 400 - x_70.toInt ∧ (0 ≤ x_70.toInt ∧ x_70.toInt ≤ 400) ∧ Wd D k A a G_66 H ∧ Bd G_66 ∧ Fr [56, 57] [(29, 6)] G G_66 ∧ Fr [56] [] G_57 G_66 ∧ va_S A s.heap H locs ∧ lv_has ls 9 [(8, .int x_70), (5, .long y_55), (7, .int x_14), (0, .ref (a 29)), (1, .ref (a 7)), (2, .ref (a 16)), (3, .int p0), (4, .int p1)]) (fun n_69 H locs ls ih_68 hI => ?_) (400 - p0.toInt : Int).toNat ⟨G_57, p0, (Int.toNat_of_nonneg (by omega)), ⟨by omega, by omega⟩, hW, hB_G_57, hF, Fr.rf, hS, lv_sub hl [0, 1, 2, 3, 4, 5, 6, 7] rfl⟩
          obtain ⟨G_66, x_70, hn_72, f_71, hW, hB_G_66, hF, hq_67, hS, hl⟩ := hI
          refine lv_iload hx hb dX5_bravest_178 (lv_at hl 0 rfl) ?_
          refine lv_aload_n hx hb dX5_bravest_180 rfl (lv_at hl 4 rfl) ?_
          refine S_getI (v := (G.1 7 6)) (C := RX0) (T := TX0) (N := 8) hx hb hg iX0 hown hK hW kd_7 rfl 6 (by decide) (hg (Cond.fieldLink RX5 30 "SlabWalk$Course" "last" "I") m389) (fun _ h9 => h9) rfl ((hq_67.i 7 6 (by decide) (by decide)).trans ((hq_58.i 7 6 (by decide) (by decide)).trans ((hq_41.i 7 6 (by decide) (by decide)).trans ((hq_11.i 7 6 (by decide) (by decide)).trans ((hq_3.i 7 6 (by decide) (by decide)).trans (rfl)))))) dX5_bravest_181 ?_
          refine lv_icmp_gt (tgt := 228) hx hb dX5_bravest_184 (by decide) (fun c_73 => ?_) (fun c_73 => ?_)
          · have c_73 : (G.1 7 6).toInt < x_70.toInt := xI_lt rfl rfl c_73
            obtain ⟨y_74, ey_74⟩ : ∃ q, q = x_14 + 1 := ⟨_, rfl⟩
            have ty_74 : y_74.toInt = x_14.toInt + 1 := xI_add rfl rfl ey_74 (by omega) (by omega)
            refine lv_iinc (v := y_74) (lv' := [(7, .int y_74), (8, .int x_70), (5, .long y_55), (0, .ref (a 29)), (1, .ref (a 7)), (2, .ref (a 16)), (3, .int p0), (4, .int p1)]) hx hb dX5_bravest_228 hl (k := 2) rfl (by rw [ey_74]; rfl) (by decide) rfl (fun ls hl => ?_)
            refine lv_goto (tgt := 46) hx hb dX5_bravest_231 (by decide) ?_
            exact ih_12 (8 - y_74.toInt : Int).toNat (by omega) _ _ _ ⟨G_66, y_74, y_55, (Int.toNat_of_nonneg (by omega)), ⟨by omega, by omega⟩, hW, hB_G_66, hF, ((((Fr.rf.call hq_11 (by decide) (by decide)).call hq_41 (by decide) (by decide)).call hq_58 (by decide) (by decide)).call hq_67 (by decide) (by decide)), hS, lv_sub hl [0, 2, 3, 4, 5, 6, 7] rfl⟩
          · have c_73 : x_70.toInt ≤ (G.1 7 6).toInt := xI_nlt rfl rfl c_73
            refine lv_aload_n hx hb dX5_bravest_187 rfl (lv_at hl 3 rfl) ?_
            refine S_getR (n := 56) (C := RX5) (T := TX5) (N := 7) hx hb hg iX5 hown hK hW kd_29 rfl 4 (by decide) (hg (Cond.fieldLink RX5 24 "SlabWalk$Odds" "odds" "[J") m468) (fun _ h9 => h9) rfl dX5_bravest_188 ?_
            refine lv_iload hx hb dX5_bravest_191 (lv_at hl 0 rfl) ?_
            refine lv_aload_n hx hb dX5_bravest_193 rfl (lv_at hl 4 rfl) ?_
            refine S_getR (n := 40) (C := RX0) (T := TX0) (N := 8) hx hb hg iX0 hown hK hW kd_7 rfl 0 (by decide) (hg (Cond.fieldLink RX5 36 "SlabWalk$Course" "lawful" "[Z") m372) (fun _ h9 => h9) rfl dX5_bravest_194 ?_
            refine lv_iload hx hb dX5_bravest_197 (lv_at hl 0 rfl) ?_
            refine S_zald hx hb hK hW kd_40 (vin (by omega) (by omega)) dX5_bravest_199 (fun y_75 ey_75 => ?_)
            have ty_75 : 0 ≤ y_75.toInt ∧ y_75.toInt ≤ 1 := hB_G_66.v ey_75 rfl rfl
            refine lv_if_eq (tgt := 220) hx hb dX5_bravest_200 (by decide) (fun c_76 => ?_) (fun c_76 => ?_)
            · have c_76 : y_75.toInt = 0 := xI_eq rfl rfl c_76
              refine lv_lconst (v := 0) hx hb dX5_bravest_220 (by decide) ?_
              refine S_last hx hb hK hW hS kd_56 (vin (by omega) (by omega)) dX5_bravest_221 (fun G_77 H locs eG_77 hW hS => ?_)
              have hB_G_77 : Bd G_77 := hB_G_66.putl eG_77
              have hF := hF.putl eG_77 (Or.inl (by decide))
              obtain ⟨y_78, ey_78⟩ : ∃ q, q = x_70 + 1 := ⟨_, rfl⟩
              have ty_78 : y_78.toInt = x_70.toInt + 1 := xI_add rfl rfl ey_78 (by omega) (by omega)
              refine lv_iinc (v := y_78) (lv' := [(8, .int y_78), (5, .long y_55), (7, .int x_14), (0, .ref (a 29)), (1, .ref (a 7)), (2, .ref (a 16)), (3, .int p0), (4, .int p1)]) hx hb dX5_bravest_222 hl (k := 0) rfl (by rw [ey_78]; rfl) (by decide) rfl (fun ls hl => ?_)
              refine lv_goto (tgt := 178) hx hb dX5_bravest_225 (by decide) ?_
              exact ih_68 (400 - y_78.toInt : Int).toNat (by omega) _ _ _ ⟨G_77, y_78, (Int.toNat_of_nonneg (by omega)), ⟨by omega, by omega⟩, hW, hB_G_77, hF, ((Fr.rf.call hq_67 (by decide) (by decide)).putl eG_77 (Or.inl (by decide))), hS, lv_sub hl [0, 1, 2, 3, 4, 5, 6, 7] rfl⟩
            · have c_76 : y_75.toInt ≠ 0 := xI_ne rfl rfl c_76
              refine lv_aload_n hx hb dX5_bravest_203 rfl (lv_at hl 3 rfl) ?_
              refine lv_aload_n hx hb dX5_bravest_204 rfl (lv_at hl 4 rfl) ?_
              refine lv_iload hx hb dX5_bravest_205 (lv_at hl 0 rfl) ?_
              refine lv_aload_n hx hb dX5_bravest_207 rfl (lv_at hl 3 rfl) ?_
              refine lv_aload_n hx hb dX5_bravest_208 rfl (lv_at hl 4 rfl) ?_
              refine lv_iload hx hb dX5_bravest_209 (lv_at hl 0 rfl) ?_
              have b_79 : 0 ≤ (G.1 7 3).toInt ∧ (G.1 7 3).toInt ≤ 60 := hB_G.i 7 3 rfl rfl
              have g_80 : (G_66.1 7 3).toInt = (G.1 7 3).toInt := by rw [show G_66.1 7 3 = (G.1 7 3) from ((hq_67.i 7 3 (by decide) (by decide)).trans ((hq_58.i 7 3 (by decide) (by decide)).trans ((hq_41.i 7 3 (by decide) (by decide)).trans ((hq_11.i 7 3 (by decide) (by decide)).trans (hq_3.i 7 3 (by decide) (by decide))))))]
              have b_81 : 0 ≤ (G.1 7 4).toInt ∧ (G.1 7 4).toInt ≤ 60 := hB_G.i 7 4 rfl rfl
              have g_82 : (G_66.1 7 4).toInt = (G.1 7 4).toInt := by rw [show G_66.1 7 4 = (G.1 7 4) from ((hq_67.i 7 4 (by decide) (by decide)).trans ((hq_58.i 7 4 (by decide) (by decide)).trans ((hq_41.i 7 4 (by decide) (by decide)).trans ((hq_11.i 7 4 (by decide) (by decide)).trans (hq_3.i 7 4 (by decide) (by decide))))))]
              have g_83 : (G_66.1 7 6).toInt = (G.1 7 6).toInt := by rw [show G_66.1 7 6 = (G.1 7 6) from ((hq_67.i 7 6 (by decide) (by decide)).trans ((hq_58.i 7 6 (by decide) (by decide)).trans ((hq_41.i 7 6 (by decide) (by decide)).trans ((hq_11.i 7 6 (by decide) (by decide)).trans ((hq_3.i 7 6 (by decide) (by decide)).trans (rfl))))))]
              have b_84 : 0 ≤ (G.1 7 7).toInt ∧ (G.1 7 7).toInt ≤ 400 := hB_G.i 7 7 rfl rfl
              have g_85 : (G_66.1 7 7).toInt = (G.1 7 7).toInt := by rw [show G_66.1 7 7 = (G.1 7 7) from ((hq_67.i 7 7 (by decide) (by decide)).trans ((hq_58.i 7 7 (by decide) (by decide)).trans ((hq_41.i 7 7 (by decide) (by decide)).trans ((hq_11.i 7 7 (by decide) (by decide)).trans (hq_3.i 7 7 (by decide) (by decide))))))]
              refine S_calli (va_runV (As := [.ref (a 7), .int x_70]) (rest := [.int x_70, .ref (a 7), .ref (a 29), .int x_70, .ref (a 56)]) ⟨hx, hb, hml, hown, hts⟩ (k_oBest l D k A a z G_66 x_70 ⟨by omega, by omega⟩ (by omega)) (cwV 2 hts (gd_V hgd m1126 m1128 m39 m126 m1129) rfl rfl rfl (by decide +kernel) ⟨Nat.le_of_ble_eq_true rfl, Nat.le_of_ble_eq_true rfl⟩) (pre_V hW hB_G_66 hK hZ hS kd_29 rfl) rfl rfl hl.1 rfl (lv_room (Nat.le_of_ble_eq_true rfl)) dX5_bravest_211 ⟨Nat.le_of_ble_eq_true rfl, Nat.le_of_ble_eq_true rfl⟩) hS (fun r_86 G_87 H locs hpo hW hS => ?_)
              obtain ⟨hB_G_87, hq_88, f_90⟩ := hpo
              have hF := hF.call hq_88 (by decide) (by decide)
              have g_91 : (G_87.1 7 3).toInt = (G.1 7 3).toInt := by rw [show G_87.1 7 3 = (G.1 7 3) from ((hq_88.i 7 3 (by decide) (by decide)).trans ((hq_67.i 7 3 (by decide) (by decide)).trans ((hq_58.i 7 3 (by decide) (by decide)).trans ((hq_41.i 7 3 (by decide) (by decide)).trans ((hq_11.i 7 3 (by decide) (by decide)).trans ((hq_3.i 7 3 (by decide) (by decide)).trans (rfl)))))))]
              have g_92 : (G_87.1 7 4).toInt = (G.1 7 4).toInt := by rw [show G_87.1 7 4 = (G.1 7 4) from ((hq_88.i 7 4 (by decide) (by decide)).trans ((hq_67.i 7 4 (by decide) (by decide)).trans ((hq_58.i 7 4 (by decide) (by decide)).trans ((hq_41.i 7 4 (by decide) (by decide)).trans ((hq_11.i 7 4 (by decide) (by decide)).trans ((hq_3.i 7 4 (by decide) (by decide)).trans (rfl)))))))]
              have g_93 : (G_87.1 7 6).toInt = (G.1 7 6).toInt := by rw [show G_87.1 7 6 = (G.1 7 6) from ((hq_88.i 7 6 (by decide) (by decide)).trans ((hq_67.i 7 6 (by decide) (by decide)).trans ((hq_58.i 7 6 (by decide) (by decide)).trans ((hq_41.i 7 6 (by decide) (by decide)).trans ((hq_11.i 7 6 (by decide) (by decide)).trans ((hq_3.i 7 6 (by decide) (by decide)).trans (rfl)))))))]
              have g_94 : (G_87.1 7 7).toInt = (G.1 7 7).toInt := by rw [show G_87.1 7 7 = (G.1 7 7) from ((hq_88.i 7 7 (by decide) (by decide)).trans ((hq_67.i 7 7 (by decide) (by decide)).trans ((hq_58.i 7 7 (by decide) (by decide)).trans ((hq_41.i 7 7 (by decide) (by decide)).trans ((hq_11.i 7 7 (by decide) (by decide)).trans ((hq_3.i 7 7 (by decide) (by decide)).trans (rfl)))))))]
              refine S_calll (va_runV (As := [.ref (a 7), .int x_70, .int r_86]) (rest := [.int x_70, .ref (a 56)]) ⟨hx, hb, hml, hown, hts⟩ (k_oAim l D k A a z G_87 x_70 r_86 ⟨by omega, by omega⟩ ⟨by omega, by omega⟩ (by omega)) (cwV 3 hts (gd_V hgd m1130 m1132 m40 m126 m1133) rfl rfl rfl (by decide +kernel) ⟨Nat.le_of_ble_eq_true rfl, Nat.le_of_ble_eq_true rfl⟩) (pre_V hW hB_G_87 hK hZ hS kd_29 rfl) rfl rfl hl.1 rfl (lv_room (Nat.le_of_ble_eq_true rfl)) dX5_bravest_214 ⟨Nat.le_of_ble_eq_true rfl, Nat.le_of_ble_eq_true rfl⟩) hS (fun r_95 G_96 H locs hpo hW hS => ?_)
              obtain ⟨hB_G_96, hq_97⟩ := hpo
              have hF := hF.call hq_97 (by decide) (by decide)
              refine lv_goto (tgt := 221) hx hb dX5_bravest_217 (by decide) ?_
              refine S_last hx hb hK hW hS kd_56 (vin (by omega) (by omega)) dX5_bravest_221 (fun G_99 H locs eG_99 hW hS => ?_)
              have hB_G_99 : Bd G_99 := hB_G_96.putl eG_99
              have hF := hF.putl eG_99 (Or.inl (by decide))
              obtain ⟨y_100, ey_100⟩ : ∃ q, q = x_70 + 1 := ⟨_, rfl⟩
              have ty_100 : y_100.toInt = x_70.toInt + 1 := xI_add rfl rfl ey_100 (by omega) (by omega)
              refine lv_iinc (v := y_100) (lv' := [(8, .int y_100), (5, .long y_55), (7, .int x_14), (0, .ref (a 29)), (1, .ref (a 7)), (2, .ref (a 16)), (3, .int p0), (4, .int p1)]) hx hb dX5_bravest_222 hl (k := 0) rfl (by rw [ey_100]; rfl) (by decide) rfl (fun ls hl => ?_)
              refine lv_goto (tgt := 178) hx hb dX5_bravest_225 (by decide) ?_
              exact ih_68 (400 - y_100.toInt : Int).toNat (by omega) _ _ _ ⟨G_99, y_100, (Int.toNat_of_nonneg (by omega)), ⟨by omega, by omega⟩, hW, hB_G_99, hF, ((((Fr.rf.call hq_67 (by decide) (by decide)).call hq_88 (by decide) (by decide)).call hq_97 (by decide) (by decide)).putl eG_99 (Or.inl (by decide))), hS, lv_sub hl [0, 1, 2, 3, 4, 5, 6, 7] rfl⟩
        · have c_65 : x_61.toInt ≤ y_64.toInt := xI_nlt rfl rfl c_65
          refine lv_aload_n hx hb dX5_bravest_120 rfl (lv_at hl 3 rfl) ?_
          refine S_getR (n := 57) (C := RX5) (T := TX5) (N := 7) hx hb hg iX5 hown hK hW kd_29 rfl 5 (by decide) (hg (Cond.fieldLink RX5 27 "SlabWalk$Odds" "aims" "[J") m469) (fun _ h9 => h9) rfl dX5_bravest_121 ?_
          refine lv_iload hx hb dX5_bravest_124 (lv_at hl 0 rfl) ?_
          refine lv_aload_n hx hb dX5_bravest_126 rfl (lv_at hl 5 rfl) ?_
          refine lv_iconst (v := 0) hx hb dX5_bravest_127 (by decide) ?_
          refine S_iald hx hb hK hW kd_16 (vin (by decide) (by decide)) dX5_bravest_128 (fun y_101 ey_101 => ?_)
          have ty_101 : 0 ≤ y_101.toInt ∧ y_101.toInt ≤ 9 := hB_G_57.v ey_101 rfl rfl
          refine lv_i2l hx hb dX5_bravest_129 rfl ?_
          refine lv_topl (fun y_102 ey_102 => ?_)
          refine lv_aload_n hx hb dX5_bravest_130 rfl (lv_at hl 3 rfl) ?_
          refine S_getR (n := 56) (C := RX5) (T := TX5) (N := 7) hx hb hg iX5 hown hK hW kd_29 rfl 4 (by decide) (hg (Cond.fieldLink RX5 24 "SlabWalk$Odds" "odds" "[J") m468) (fun _ h9 => h9) rfl dX5_bravest_131 ?_
          refine lv_iload hx hb dX5_bravest_134 (lv_at hl 0 rfl) ?_
          refine lv_iconst (v := 1) hx hb dX5_bravest_136 (by decide) ?_
          refine lv_isub hx hb dX5_bravest_137 ?_
          refine lv_topi (fun y_103 ey_103 => ?_)
          have ty_103 : y_103.toInt = x_61.toInt - 1 := xI_sub rfl rfl ey_103 (by omega) (by omega)
          refine S_lald hx hb hK hW kd_56 (vin (by omega) (by omega)) dX5_bravest_138 (fun y_104 ey_104 => ?_)
          refine lv_lmul hx hb dX5_bravest_139 ?_
          refine lv_topl (fun y_105 ey_105 => ?_)
          refine lv_aload_n hx hb dX5_bravest_140 rfl (lv_at hl 5 rfl) ?_
          refine lv_iconst (v := 1) hx hb dX5_bravest_141 (by decide) ?_
          refine S_iald hx hb hK hW kd_16 (vin (by decide) (by decide)) dX5_bravest_142 (fun y_106 ey_106 => ?_)
          have ty_106 : 0 ≤ y_106.toInt ∧ y_106.toInt ≤ 9 := hB_G_57.v ey_106 rfl rfl
          refine lv_i2l hx hb dX5_bravest_143 rfl ?_
          refine lv_topl (fun y_107 ey_107 => ?_)
          refine lv_aload_n hx hb dX5_bravest_144 rfl (lv_at hl 3 rfl) ?_
          refine S_getR (n := 56) (C := RX5) (T := TX5) (N := 7) hx hb hg iX5 hown hK hW kd_29 rfl 4 (by decide) (hg (Cond.fieldLink RX5 24 "SlabWalk$Odds" "odds" "[J") m468) (fun _ h9 => h9) rfl dX5_bravest_145 ?_
          refine lv_iload hx hb dX5_bravest_148 (lv_at hl 0 rfl) ?_
          refine S_lald hx hb hK hW kd_56 (vin (by omega) (by omega)) dX5_bravest_150 (fun y_108 ey_108 => ?_)
          refine lv_lmul hx hb dX5_bravest_151 ?_
          refine lv_topl (fun y_109 ey_109 => ?_)
          refine lv_ladd hx hb dX5_bravest_152 ?_
          refine lv_topl (fun y_110 ey_110 => ?_)
          refine lv_aload_n hx hb dX5_bravest_153 rfl (lv_at hl 5 rfl) ?_
          refine lv_iconst (v := 2) hx hb dX5_bravest_154 (by decide) ?_
          refine S_iald hx hb hK hW kd_16 (vin (by decide) (by decide)) dX5_bravest_155 (fun y_111 ey_111 => ?_)
          have ty_111 : 0 ≤ y_111.toInt ∧ y_111.toInt ≤ 9 := hB_G_57.v ey_111 rfl rfl
          refine lv_i2l hx hb dX5_bravest_156 rfl ?_
          refine lv_topl (fun y_112 ey_112 => ?_)
          refine lv_aload_n hx hb dX5_bravest_157 rfl (lv_at hl 3 rfl) ?_
          refine S_getR (n := 56) (C := RX5) (T := TX5) (N := 7) hx hb hg iX5 hown hK hW kd_29 rfl 4 (by decide) (hg (Cond.fieldLink RX5 24 "SlabWalk$Odds" "odds" "[J") m468) (fun _ h9 => h9) rfl dX5_bravest_158 ?_
          refine lv_iload hx hb dX5_bravest_161 (lv_at hl 0 rfl) ?_
          refine lv_iconst (v := 1) hx hb dX5_bravest_163 (by decide) ?_
          refine lv_iadd hx hb dX5_bravest_164 ?_
          refine lv_topi (fun y_113 ey_113 => ?_)
          have ty_113 : y_113.toInt = x_61.toInt + 1 := xI_add rfl rfl ey_113 (by omega) (by omega)
          refine S_lald hx hb hK hW kd_56 (vin (by omega) (by omega)) dX5_bravest_165 (fun y_114 ey_114 => ?_)
          refine lv_lmul hx hb dX5_bravest_166 ?_
          refine lv_topl (fun y_115 ey_115 => ?_)
          refine lv_ladd hx hb dX5_bravest_167 ?_
          refine lv_topl (fun y_116 ey_116 => ?_)
          refine S_last hx hb hK hW hS kd_57 (vin (by omega) (by omega)) dX5_bravest_168 (fun G_117 H locs eG_117 hW hS => ?_)
          have hB_G_117 : Bd G_117 := hB_G_57.putl eG_117
          have hF := hF.putl eG_117 (Or.inl (by decide))
          obtain ⟨y_118, ey_118⟩ : ∃ q, q = x_61 + 1 := ⟨_, rfl⟩
          have ty_118 : y_118.toInt = x_61.toInt + 1 := xI_add rfl rfl ey_118 (by omega) (by omega)
          refine lv_iinc (v := y_118) (lv' := [(8, .int y_118), (5, .long y_55), (7, .int x_14), (0, .ref (a 29)), (1, .ref (a 7)), (2, .ref (a 16)), (3, .int p0), (4, .int p1)]) hx hb dX5_bravest_169 hl (k := 0) rfl (by rw [ey_118]; rfl) (by decide) rfl (fun ls hl => ?_)
          refine lv_goto (tgt := 109) hx hb dX5_bravest_172 (by decide) ?_
          exact ih_59 (402 - y_118.toInt : Int).toNat (by omega) _ _ _ ⟨G_117, y_118, (Int.toNat_of_nonneg (by omega)), ⟨by omega, by omega⟩, hW, hB_G_117, hF, ((Fr.rf.call hq_58 (by decide) (by decide)).putl eG_117 (Or.inl (by decide))), hS, lv_sub hl [0, 1, 2, 3, 4, 5, 6, 7] rfl⟩
      · have c_48 : x_44.toInt ≤ y_47.toInt := xI_nlt rfl rfl c_48
        refine lv_aload_n hx hb dX5_bravest_72 rfl (lv_at hl 3 rfl) ?_
        refine S_getR (n := 56) (C := RX5) (T := TX5) (N := 7) hx hb hg iX5 hown hK hW kd_29 rfl 4 (by decide) (hg (Cond.fieldLink RX5 24 "SlabWalk$Odds" "odds" "[J") m468) (fun _ h9 => h9) rfl dX5_bravest_73 ?_
        refine lv_iload hx hb dX5_bravest_76 (lv_at hl 0 rfl) ?_
        refine lv_lload hx hb dX5_bravest_78 (lv_at hl 2 rfl) ?_
        refine S_last hx hb hK hW hS kd_56 (vin (by omega) (by omega)) dX5_bravest_80 (fun G_119 H locs eG_119 hW hS => ?_)
        have hB_G_119 : Bd G_119 := hB_G_40.putl eG_119
        have hF := hF.putl eG_119 (Or.inl (by decide))
        obtain ⟨y_120, ey_120⟩ : ∃ q, q = x_44 + 1 := ⟨_, rfl⟩
        have ty_120 : y_120.toInt = x_44.toInt + 1 := xI_add rfl rfl ey_120 (by omega) (by omega)
        refine lv_iinc (v := y_120) (lv' := [(8, .int y_120), (7, .int x_14), (5, .long x_15), (0, .ref (a 29)), (1, .ref (a 7)), (2, .ref (a 16)), (3, .int p0), (4, .int p1)]) hx hb dX5_bravest_81 hl (k := 0) rfl (by rw [ey_120]; rfl) (by decide) rfl (fun ls hl => ?_)
        refine lv_goto (tgt := 61) hx hb dX5_bravest_84 (by decide) ?_
        exact ih_42 (403 - y_120.toInt : Int).toNat (by omega) _ _ _ ⟨G_119, y_120, (Int.toNat_of_nonneg (by omega)), ⟨by omega, by omega⟩, hW, hB_G_119, hF, ((Fr.rf.call hq_41 (by decide) (by decide)).putl eG_119 (Or.inl (by decide))), hS, lv_sub hl [0, 1, 2, 3, 4, 5, 6, 7] rfl⟩
  · have c_9 : x_6.toInt ≤ (G.1 7 6).toInt := xI_nlt rfl rfl c_9
    refine lv_aload_n hx hb dX5_bravest_15 rfl (lv_at hl 2 rfl) ?_
    refine S_getR (n := 56) (C := RX5) (T := TX5) (N := 7) hx hb hg iX5 hown hK hW kd_29 rfl 4 (by decide) (hg (Cond.fieldLink RX5 24 "SlabWalk$Odds" "odds" "[J") m468) (fun _ h9 => h9) rfl dX5_bravest_16 ?_
    refine lv_iload hx hb dX5_bravest_19 (lv_at hl 0 rfl) ?_
    refine lv_aload_n hx hb dX5_bravest_21 rfl (lv_at hl 3 rfl) ?_
    refine S_getR (n := 40) (C := RX0) (T := TX0) (N := 8) hx hb hg iX0 hown hK hW kd_7 rfl 0 (by decide) (hg (Cond.fieldLink RX5 36 "SlabWalk$Course" "lawful" "[Z") m372) (fun _ h9 => h9) rfl dX5_bravest_22 ?_
    refine lv_iload hx hb dX5_bravest_25 (lv_at hl 0 rfl) ?_
    refine S_zald hx hb hK hW kd_40 (vin (by omega) (by omega)) dX5_bravest_27 (fun y_121 ey_121 => ?_)
    have ty_121 : 0 ≤ y_121.toInt ∧ y_121.toInt ≤ 1 := hB_G_2.v ey_121 rfl rfl
    refine lv_if_eq (tgt := 35) hx hb dX5_bravest_28 (by decide) (fun c_122 => ?_) (fun c_122 => ?_)
    · have c_122 : y_121.toInt = 0 := xI_eq rfl rfl c_122
      refine lv_lconst (v := 0) hx hb dX5_bravest_35 (by decide) ?_
      refine S_last hx hb hK hW hS kd_56 (vin (by omega) (by omega)) dX5_bravest_36 (fun G_123 H locs eG_123 hW hS => ?_)
      have hB_G_123 : Bd G_123 := hB_G_2.putl eG_123
      have hF := hF.putl eG_123 (Or.inl (by decide))
      obtain ⟨y_124, ey_124⟩ : ∃ q, q = x_6 + 1 := ⟨_, rfl⟩
      have ty_124 : y_124.toInt = x_6.toInt + 1 := xI_add rfl rfl ey_124 (by omega) (by omega)
      refine lv_iinc (v := y_124) (lv' := [(7, .int y_124), (5, .long 1), (0, .ref (a 29)), (1, .ref (a 7)), (2, .ref (a 16)), (3, .int p0), (4, .int p1)]) hx hb dX5_bravest_37 hl (k := 0) rfl (by rw [ey_124]; rfl) (by decide) rfl (fun ls hl => ?_)
      refine lv_goto (tgt := 6) hx hb dX5_bravest_40 (by decide) ?_
      exact ih_4 (400 - y_124.toInt : Int).toNat (by omega) _ _ _ ⟨G_123, y_124, (Int.toNat_of_nonneg (by omega)), ⟨by omega, by omega⟩, hW, hB_G_123, hF, ((Fr.rf.call hq_3 (by decide) (by decide)).putl eG_123 (Or.inl (by decide))), hS, lv_sub hl [0, 1, 2, 3, 4, 5, 6] rfl⟩
    · have c_122 : y_121.toInt ≠ 0 := xI_ne rfl rfl c_122
      refine lv_lconst (v := 1) hx hb dX5_bravest_31 (by decide) ?_
      refine lv_goto (tgt := 36) hx hb dX5_bravest_32 (by decide) ?_
      refine S_last hx hb hK hW hS kd_56 (vin (by omega) (by omega)) dX5_bravest_36 (fun G_125 H locs eG_125 hW hS => ?_)
      have hB_G_125 : Bd G_125 := hB_G_2.putl eG_125
      have hF := hF.putl eG_125 (Or.inl (by decide))
      obtain ⟨y_126, ey_126⟩ : ∃ q, q = x_6 + 1 := ⟨_, rfl⟩
      have ty_126 : y_126.toInt = x_6.toInt + 1 := xI_add rfl rfl ey_126 (by omega) (by omega)
      refine lv_iinc (v := y_126) (lv' := [(7, .int y_126), (5, .long 1), (0, .ref (a 29)), (1, .ref (a 7)), (2, .ref (a 16)), (3, .int p0), (4, .int p1)]) hx hb dX5_bravest_37 hl (k := 0) rfl (by rw [ey_126]; rfl) (by decide) rfl (fun ls hl => ?_)
      refine lv_goto (tgt := 6) hx hb dX5_bravest_40 (by decide) ?_
      exact ih_4 (400 - y_126.toInt : Int).toNat (by omega) _ _ _ ⟨G_125, y_126, (Int.toNat_of_nonneg (by omega)), ⟨by omega, by omega⟩, hW, hB_G_125, hF, ((Fr.rf.call hq_3 (by decide) (by decide)).putl eG_125 (Or.inl (by decide))), hS, lv_sub hl [0, 1, 2, 3, 4, 5, 6] rfl⟩

set_option maxHeartbeats 4000000 in
set_option maxRecDepth 100000 in
theorem k_oBrave_2 (l : Launch) (D : va_G) (k : KT) (A : Nat → Prop) (a : Nat → Nat) (z : SK) (G : GS) (p0 : Int32) (p1 : Int32) (ha_p0 : 0 ≤ p0.toInt ∧ p0.toInt ≤ 399) (ha_p1 : 1 ≤ p1.toInt ∧ p1.toInt ≤ 8) (hci : (G.1 7 6).toInt ≤ 399 ∧ (G.1 7 3).toInt ≤ (G.1 7 4).toInt ∧ ((G.1 7 7).toInt ≤ 0 ∨ (G.1 7 7).toInt + (G.1 7 4).toInt ≤ (G.1 7 6).toInt + 1)) : Met l yX5_bravest (WS yX5_bravest cX5_bravest 9 (some .long)) ({ frames := 3, cells := 0, slots := 0, locals := 63 }) (va_Pc [.ref (a 29), .ref (a 7), .ref (a 26), .int p0, .int p1] (cW D k A a z G)) (va_Ql (fun (r : Int64) (G1 : GS) => Bd G1 ∧ Fr [56, 57] [(29, 6)] G G1) (fun (G1 : GS) t => Wd D k A a G1 t.heap) A) 0 0 A := by
  refine Met.ofW (cc := cX5_bravest) (maxL := 9) (ret := (some .long)) (by decide) rfl ?_
  intro p e s m args below meth c s₁ B hml hv
  obtain ⟨rfl, hW, hB_G, hK, hZ⟩ := hv
  have hx := B.exec
  have hb := B.bytes
  have hr := B.returns
  have hts := atoms_spec (ws := WS yX5_bravest cX5_bravest 9 (some .long)) B.pre
  have hgd : ∀ w ∈ gd, w ∈ WS yX5_bravest cX5_bravest 9 (some .long) := fun w h => List.mem_cons_of_mem _ h
  have hg : ∀ w ∈ gd, w.before _ s = true := fun w h => hts w (hgd w h)
  have hown : s.vm.findClass RX5 = some m.cls := findClass_of_methodNamed B.named
  have hS : va_S A s.heap s.heap [] := va_S.rf
  have hF : Fr [56, 57] [(29, 6)] G G := Fr.rf
  have hl := lv_entry ([.ref (a 29), .ref (a 7), .ref (a 26), .int p0, .int p1]) (n := 9) (Nat.le_of_ble_eq_true rfl)
  rw [lg_entry_eq]
  generalize (lg_sl ([.ref (a 29), .ref (a 7), .ref (a 26), .int p0, .int p1]) ++ List.replicate (9 - (lg_sl ([.ref (a 29), .ref (a 7), .ref (a 26), .int p0, .int p1])).length) Slot.unset).toArray = ls at hl ⊢
  have hl : lv_has ls 9 [(0, .ref (a 29)), (1, .ref (a 7)), (2, .ref (a 26)), (3, .int p0), (4, .int p1)] := hl
  have b_1 : (-1) ≤ (G.1 7 6).toInt ∧ (G.1 7 6).toInt ≤ 400 := hB_G.i 7 6 rfl rfl
  refine lv_lconst (v := 1) hx hb dX5_bravest_0 (by decide) ?_
  refine lv_lstore (lv' := [(5, .long 1), (0, .ref (a 29)), (1, .ref (a 7)), (2, .ref (a 26)), (3, .int p0), (4, .int p1)]) hx hb dX5_bravest_1 hl (by decide) rfl (fun ls hl => ?_)
  refine lv_iload_n hx hb dX5_bravest_3 rfl (lv_at hl 4 rfl) ?_
  refine lv_istore (lv' := [(7, .int p0), (5, .long 1), (0, .ref (a 29)), (1, .ref (a 7)), (2, .ref (a 26)), (3, .int p0), (4, .int p1)]) hx hb dX5_bravest_4 hl (by decide) rfl (fun ls hl => ?_)
  refine loop_N (Inv := fun n H locs ls => ∃ (G_2 : GS) (x_6 : Int32), (n : Int) = 400 - x_6.toInt ∧ (0 ≤ x_6.toInt ∧ x_6.toInt ≤ 400) ∧ Wd D k A a G_2 H ∧ Bd G_2 ∧ Fr [56, 57] [(29, 6)] G G_2 ∧ Fr [56, 57] [(29, 6)] G G_2 ∧ va_S A s.heap H locs ∧ lv_has ls 9 [(7, .int x_6), (5, .long 1), (0, .ref (a 29)), (1, .ref (a 7)), (2, .ref (a 26)), (3, .int p0), (4, .int p1)]) (fun n_5 H locs ls ih_4 hI => ?_) (400 - p0.toInt : Int).toNat ⟨G, p0, (Int.toNat_of_nonneg (by omega)), ⟨by omega, by omega⟩, hW, hB_G, hF, Fr.rf, hS, lv_sub hl [0, 1, 2, 3, 4, 5, 6] rfl⟩
  obtain ⟨G_2, x_6, hn_8, f_7, hW, hB_G_2, hF, hq_3, hS, hl⟩ := hI
  refine lv_iload hx hb dX5_bravest_6 (lv_at hl 0 rfl) ?_
  refine lv_aload_n hx hb dX5_bravest_8 rfl (lv_at hl 3 rfl) ?_
  refine S_getI (v := (G.1 7 6)) (C := RX0) (T := TX0) (N := 8) hx hb hg iX0 hown hK hW kd_7 rfl 6 (by decide) (hg (Cond.fieldLink RX5 30 "SlabWalk$Course" "last" "I") m389) (fun _ h9 => h9) rfl ((hq_3.i 7 6 (by decide) (by decide)).trans (rfl)) dX5_bravest_9 ?_
  refine lv_icmp_gt (tgt := 43) hx hb dX5_bravest_12 (by decide) (fun c_9 => ?_) (fun c_9 => ?_)
  · have c_9 : (G.1 7 6).toInt < x_6.toInt := xI_lt rfl rfl c_9
    refine lv_iconst (v := 0) hx hb dX5_bravest_43 (by decide) ?_
    refine lv_istore (lv' := [(7, .int 0), (5, .long 1), (0, .ref (a 29)), (1, .ref (a 7)), (2, .ref (a 26)), (3, .int p0), (4, .int p1)]) hx hb dX5_bravest_44 hl (by decide) rfl (fun ls hl => ?_)
    have qc_16 : (0 : Int32).toInt = 0 := rfl
    refine loop_N (Inv := fun n H locs ls => ∃ (G_10 : GS) (x_14 : Int32) (x_15 : Int64), (n : Int) = 8 - x_14.toInt ∧ (0 ≤ x_14.toInt ∧ x_14.toInt ≤ 8) ∧ Wd D k A a G_10 H ∧ Bd G_10 ∧ Fr [56, 57] [(29, 6)] G G_10 ∧ Fr [56, 57] [(29, 6)] G_2 G_10 ∧ va_S A s.heap H locs ∧ lv_has ls 9 [(7, .int x_14), (5, .long x_15), (0, .ref (a 29)), (1, .ref (a 7)), (2, .ref (a 26)), (3, .int p0), (4, .int p1)]) (fun n_13 H locs ls ih_12 hI => ?_) (8 - 0 : Int).toNat ⟨G_2, 0, 1, (Int.toNat_of_nonneg (by omega)), ⟨by omega, by omega⟩, hW, hB_G_2, hF, Fr.rf, hS, lv_sub hl [0, 1, 2, 3, 4, 5, 6] rfl⟩
    obtain ⟨G_10, x_14, x_15, hn_18, f_17, hW, hB_G_10, hF, hq_11, hS, hl⟩ := hI
    refine lv_iload hx hb dX5_bravest_46 (lv_at hl 0 rfl) ?_
    refine lv_iload hx hb dX5_bravest_48 (lv_at hl 6 rfl) ?_
    refine lv_icmp_ge (tgt := 234) hx hb dX5_bravest_50 (by decide) (fun c_19 => ?_) (fun c_19 => ?_)
    · have c_19 : p1.toInt ≤ x_14.toInt := xI_le rfl rfl c_19
      refine lv_aload_n hx hb dX5_bravest_234 rfl (lv_at hl 2 rfl) ?_
      refine lv_aload_n hx hb dX5_bravest_235 rfl (lv_at hl 3 rfl) ?_
      refine S_getR (n := 40) (C := RX0) (T := TX0) (N := 8) hx hb hg iX0 hown hK hW kd_7 rfl 0 (by decide) (hg (Cond.fieldLink RX5 36 "SlabWalk$Course" "lawful" "[Z") m372) (fun _ h9 => h9) rfl dX5_bravest_236 ?_
      refine lv_iload_n hx hb dX5_bravest_239 rfl (lv_at hl 5 rfl) ?_
      refine S_zald hx hb hK hW kd_40 (vin (by omega) (by omega)) dX5_bravest_240 (fun y_20 ey_20 => ?_)
      have ty_20 : 0 ≤ y_20.toInt ∧ y_20.toInt ≤ 1 := hB_G_10.v ey_20 rfl rfl
      refine lv_if_eq (tgt := 253) hx hb dX5_bravest_241 (by decide) (fun c_21 => ?_) (fun c_21 => ?_)
      · have c_21 : y_20.toInt = 0 := xI_eq rfl rfl c_21
        refine lv_aload_n hx hb dX5_bravest_253 rfl (lv_at hl 3 rfl) ?_
        have b_22 : 0 ≤ (G.1 7 3).toInt ∧ (G.1 7 3).toInt ≤ 60 := hB_G.i 7 3 rfl rfl
        refine S_getI (v := (G.1 7 3)) (C := RX0) (T := TX0) (N := 8) hx hb hg iX0 hown hK hW kd_7 rfl 3 (by decide) (hg (Cond.fieldLink RX5 58 "SlabWalk$Course" "least" "I") m379) (fun _ h9 => h9) rfl ((hq_11.i 7 3 (by decide) (by decide)).trans (hq_3.i 7 3 (by decide) (by decide))) dX5_bravest_254 ?_
        refine S_putI (ty := .int) (C := RX5) (T := TX5) (N := 7) hx hb hg iX5 tyX5 tyX5_ok nmX5 hown hK hW hS kd_29 rfl 6 (by decide) (hg (Cond.fieldLink RX5 82 "SlabWalk$Odds" "boldest" "I") m470) (fun _ h9 => h9) rfl (by decide +kernel) rfl rfl rfl dX5_bravest_257 (fun G_23 H locs eG_23 hW hS => ?_)
        have hB_G_23 : Bd G_23 := hB_G_10.put (lo := (-2147483648)) (hi := 2147483647) eG_23 rfl rfl rfl (tI_rng _).1 (tI_rng _).2 (hB_G_10.2.put eG_23 rfl)
        have hF := hF.put eG_23 (Or.inr (by decide))
        refine lv_aload_n hx hb dX5_bravest_260 rfl (lv_at hl 2 rfl) ?_
        refine S_getR (n := 56) (C := RX5) (T := TX5) (N := 7) hx hb hg iX5 hown hK hW kd_29 rfl 4 (by decide) (hg (Cond.fieldLink RX5 24 "SlabWalk$Odds" "odds" "[J") m468) (fun _ h9 => h9) rfl dX5_bravest_261 ?_
        refine lv_iload_n hx hb dX5_bravest_264 rfl (lv_at hl 5 rfl) ?_
        refine S_lald hx hb hK hW kd_56 (vin (by omega) (by omega)) dX5_bravest_265 (fun y_24 ey_24 => ?_)
        exact W.lret (v := y_24) hx hb hr (fun t ht _ => ⟨⟨y_24, G_23, rfl, ⟨hB_G_23, hF⟩, wd_t ht hW⟩, hS.F ht⟩) hS.2.2 dX5_bravest_266
      · have c_21 : y_20.toInt ≠ 0 := xI_ne rfl rfl c_21
        refine lv_aload_n hx hb dX5_bravest_244 rfl (lv_at hl 2 rfl) ?_
        refine lv_aload_n hx hb dX5_bravest_245 rfl (lv_at hl 3 rfl) ?_
        refine lv_iload_n hx hb dX5_bravest_246 rfl (lv_at hl 5 rfl) ?_
        have b_25 : 0 ≤ (G.1 7 3).toInt ∧ (G.1 7 3).toInt ≤ 60 := hB_G.i 7 3 rfl rfl
        have g_26 : (G_10.1 7 3).toInt = (G.1 7 3).toInt := by rw [show G_10.1 7 3 = (G.1 7 3) from ((hq_11.i 7 3 (by decide) (by decide)).trans (hq_3.i 7 3 (by decide) (by decide)))]
        have b_27 : 0 ≤ (G.1 7 4).toInt ∧ (G.1 7 4).toInt ≤ 60 := hB_G.i 7 4 rfl rfl
        have g_28 : (G_10.1 7 4).toInt = (G.1 7 4).toInt := by rw [show G_10.1 7 4 = (G.1 7 4) from ((hq_11.i 7 4 (by decide) (by decide)).trans (hq_3.i 7 4 (by decide) (by decide)))]
        have g_29 : (G_10.1 7 6).toInt = (G.1 7 6).toInt := by rw [show G_10.1 7 6 = (G.1 7 6) from ((hq_11.i 7 6 (by decide) (by decide)).trans ((hq_3.i 7 6 (by decide) (by decide)).trans (rfl)))]
        have b_30 : 0 ≤ (G.1 7 7).toInt ∧ (G.1 7 7).toInt ≤ 400 := hB_G.i 7 7 rfl rfl
        have g_31 : (G_10.1 7 7).toInt = (G.1 7 7).toInt := by rw [show G_10.1 7 7 = (G.1 7 7) from ((hq_11.i 7 7 (by decide) (by decide)).trans (hq_3.i 7 7 (by decide) (by decide)))]
        refine S_calli (va_runV (As := [.ref (a 7), .int p0]) (rest := [.ref (a 29)]) ⟨hx, hb, hml, hown, hts⟩ (k_oBest l D k A a z G_10 p0 ⟨by omega, by omega⟩ (by omega)) (cwV 2 hts (gd_V hgd m1126 m1128 m39 m126 m1129) rfl rfl rfl (by decide +kernel) ⟨Nat.le_of_ble_eq_true rfl, Nat.le_of_ble_eq_true rfl⟩) (pre_V hW hB_G_10 hK hZ hS kd_29 rfl) rfl rfl hl.1 rfl (lv_room (Nat.le_of_ble_eq_true rfl)) dX5_bravest_247 ⟨Nat.le_of_ble_eq_true rfl, Nat.le_of_ble_eq_true rfl⟩) hS (fun r_32 G_33 H locs hpo hW hS => ?_)
        obtain ⟨hB_G_33, hq_34, f_36⟩ := hpo
        have hF := hF.call hq_34 (by decide) (by decide)
        refine lv_goto (tgt := 257) hx hb dX5_bravest_250 (by decide) ?_
        refine S_putI (ty := .int) (C := RX5) (T := TX5) (N := 7) hx hb hg iX5 tyX5 tyX5_ok nmX5 hown hK hW hS kd_29 rfl 6 (by decide) (hg (Cond.fieldLink RX5 82 "SlabWalk$Odds" "boldest" "I") m470) (fun _ h9 => h9) rfl (by decide +kernel) rfl rfl rfl dX5_bravest_257 (fun G_37 H locs eG_37 hW hS => ?_)
        have hB_G_37 : Bd G_37 := hB_G_33.put (lo := (-2147483648)) (hi := 2147483647) eG_37 rfl rfl rfl (tI_rng _).1 (tI_rng _).2 (hB_G_33.2.put eG_37 rfl)
        have hF := hF.put eG_37 (Or.inr (by decide))
        refine lv_aload_n hx hb dX5_bravest_260 rfl (lv_at hl 2 rfl) ?_
        refine S_getR (n := 56) (C := RX5) (T := TX5) (N := 7) hx hb hg iX5 hown hK hW kd_29 rfl 4 (by decide) (hg (Cond.fieldLink RX5 24 "SlabWalk$Odds" "odds" "[J") m468) (fun _ h9 => h9) rfl dX5_bravest_261 ?_
        refine lv_iload_n hx hb dX5_bravest_264 rfl (lv_at hl 5 rfl) ?_
        refine S_lald hx hb hK hW kd_56 (vin (by omega) (by omega)) dX5_bravest_265 (fun y_38 ey_38 => ?_)
        exact W.lret (v := y_38) hx hb hr (fun t ht _ => ⟨⟨y_38, G_37, rfl, ⟨hB_G_37, hF⟩, wd_t ht hW⟩, hS.F ht⟩) hS.2.2 dX5_bravest_266
    · have c_19 : x_14.toInt < p1.toInt := xI_nle rfl rfl c_19
      refine lv_aload_n hx hb dX5_bravest_53 rfl (lv_at hl 3 rfl) ?_
      refine S_getI (v := (G.1 7 6)) (C := RX0) (T := TX0) (N := 8) hx hb hg iX0 hown hK hW kd_7 rfl 6 (by decide) (hg (Cond.fieldLink RX5 30 "SlabWalk$Course" "last" "I") m389) (fun _ h9 => h9) rfl ((hq_11.i 7 6 (by decide) (by decide)).trans ((hq_3.i 7 6 (by decide) (by decide)).trans (rfl))) dX5_bravest_54 ?_
      refine lv_iconst (v := 1) hx hb dX5_bravest_57 (by decide) ?_
      refine lv_iadd hx hb dX5_bravest_58 ?_
      refine lv_topi (fun y_39 ey_39 => ?_)
      have ty_39 : y_39.toInt = (G.1 7 6).toInt + 1 := xI_add rfl rfl ey_39 (by omega) (by omega)
      refine lv_istore (lv' := [(8, .int y_39), (7, .int x_14), (5, .long x_15), (0, .ref (a 29)), (1, .ref (a 7)), (2, .ref (a 26)), (3, .int p0), (4, .int p1)]) hx hb dX5_bravest_59 hl (by decide) rfl (fun ls hl => ?_)
      refine loop_N (Inv := fun n H locs ls => ∃ (G_40 : GS) (x_44 : Int32), (n : Int) = 403 - x_44.toInt ∧ (0 ≤ x_44.toInt ∧ x_44.toInt ≤ 403) ∧ Wd D k A a G_40 H ∧ Bd G_40 ∧ Fr [56, 57] [(29, 6)] G G_40 ∧ Fr [56, 57] [] G_10 G_40 ∧ va_S A s.heap H locs ∧ lv_has ls 9 [(8, .int x_44), (7, .int x_14), (5, .long x_15), (0, .ref (a 29)), (1, .ref (a 7)), (2, .ref (a 26)), (3, .int p0), (4, .int p1)]) (fun n_43 H locs ls ih_42 hI => ?_) (403 - y_39.toInt : Int).toNat ⟨G_10, y_39, (Int.toNat_of_nonneg (by omega)), ⟨by omega, by omega⟩, hW, hB_G_10, hF, Fr.rf, hS, lv_sub hl [0, 1, 2, 3, 4, 5, 6, 7] rfl⟩
      obtain ⟨G_40, x_44, hn_46, f_45, hW, hB_G_40, hF, hq_41, hS, hl⟩ := hI
      refine lv_iload hx hb dX5_bravest_61 (lv_at hl 0 rfl) ?_
      refine lv_aload_n hx hb dX5_bravest_63 rfl (lv_at hl 4 rfl) ?_
      refine S_getI (v := (G.1 7 6)) (C := RX0) (T := TX0) (N := 8) hx hb hg iX0 hown hK hW kd_7 rfl 6 (by decide) (hg (Cond.fieldLink RX5 30 "SlabWalk$Course" "last" "I") m389) (fun _ h9 => h9) rfl ((hq_41.i 7 6 (by decide) (by decide)).trans ((hq_11.i 7 6 (by decide) (by decide)).trans ((hq_3.i 7 6 (by decide) (by decide)).trans (rfl)))) dX5_bravest_64 ?_
      refine lv_iconst (v := 3) hx hb dX5_bravest_67 (by decide) ?_
      refine lv_iadd hx hb dX5_bravest_68 ?_
      refine lv_topi (fun y_47 ey_47 => ?_)
      have ty_47 : y_47.toInt = (G.1 7 6).toInt + 3 := xI_add rfl rfl ey_47 (by omega) (by omega)
      refine lv_icmp_gt (tgt := 87) hx hb dX5_bravest_69 (by decide) (fun c_48 => ?_) (fun c_48 => ?_)
      · have c_48 : y_47.toInt < x_44.toInt := xI_lt rfl rfl c_48
        refine lv_lload hx hb dX5_bravest_87 (lv_at hl 2 rfl) ?_
        refine lv_aload_n hx hb dX5_bravest_89 rfl (lv_at hl 5 rfl) ?_
        refine lv_iconst (v := 0) hx hb dX5_bravest_90 (by decide) ?_
        refine S_iald hx hb hK hW kd_26 (vin (by decide) (by decide)) dX5_bravest_91 (fun y_49 ey_49 => ?_)
        have ty_49 : 0 ≤ y_49.toInt ∧ y_49.toInt ≤ 9 := hB_G_40.v ey_49 rfl rfl
        refine lv_aload_n hx hb dX5_bravest_92 rfl (lv_at hl 5 rfl) ?_
        refine lv_iconst (v := 1) hx hb dX5_bravest_93 (by decide) ?_
        refine S_iald hx hb hK hW kd_26 (vin (by decide) (by decide)) dX5_bravest_94 (fun y_50 ey_50 => ?_)
        have ty_50 : 0 ≤ y_50.toInt ∧ y_50.toInt ≤ 9 := hB_G_40.v ey_50 rfl rfl
        refine lv_iadd hx hb dX5_bravest_95 ?_
        refine lv_topi (fun y_51 ey_51 => ?_)
        have ty_51 : y_51.toInt = y_49.toInt + y_50.toInt := xI_add rfl rfl ey_51 (by omega) (by omega)
        refine lv_aload_n hx hb dX5_bravest_96 rfl (lv_at hl 5 rfl) ?_
        refine lv_iconst (v := 2) hx hb dX5_bravest_97 (by decide) ?_
        refine S_iald hx hb hK hW kd_26 (vin (by decide) (by decide)) dX5_bravest_98 (fun y_52 ey_52 => ?_)
        have ty_52 : 0 ≤ y_52.toInt ∧ y_52.toInt ≤ 9 := hB_G_40.v ey_52 rfl rfl
        refine lv_iadd hx hb dX5_bravest_99 ?_
        refine lv_topi (fun y_53 ey_53 => ?_)
        have ty_53 : y_53.toInt = y_51.toInt + y_52.toInt := xI_add rfl rfl ey_53 (by omega) (by omega)
        refine lv_i2l hx hb dX5_bravest_100 rfl ?_
        refine lv_topl (fun y_54 ey_54 => ?_)
        refine lv_lmul hx hb dX5_bravest_101 ?_
        refine lv_topl (fun y_55 ey_55 => ?_)
        refine lv_lstore (lv' := [(5, .long y_55), (8, .int x_44), (7, .int x_14), (0, .ref (a 29)), (1, .ref (a 7)), (2, .ref (a 26)), (3, .int p0), (4, .int p1)]) hx hb dX5_bravest_102 hl (by decide) rfl (fun ls hl => ?_)
        refine lv_iload_n hx hb dX5_bravest_104 rfl (lv_at hl 6 rfl) ?_
        refine lv_iconst (v := 1) hx hb dX5_bravest_105 (by decide) ?_
        refine lv_iadd hx hb dX5_bravest_106 ?_
        refine lv_topi (fun y_56 ey_56 => ?_)
        have ty_56 : y_56.toInt = p0.toInt + 1 := xI_add rfl rfl ey_56 (by omega) (by omega)
        refine lv_istore (lv' := [(8, .int y_56), (5, .long y_55), (7, .int x_14), (0, .ref (a 29)), (1, .ref (a 7)), (2, .ref (a 26)), (3, .int p0), (4, .int p1)]) hx hb dX5_bravest_107 hl (by decide) rfl (fun ls hl => ?_)
        refine loop_N (Inv := fun n H locs ls => ∃ (G_57 : GS) (x_61 : Int32), (n : Int) = 402 - x_61.toInt ∧ (1 ≤ x_61.toInt ∧ x_61.toInt ≤ 402) ∧ Wd D k A a G_57 H ∧ Bd G_57 ∧ Fr [56, 57] [(29, 6)] G G_57 ∧ Fr [56, 57] [] G_40 G_57 ∧ va_S A s.heap H locs ∧ lv_has ls 9 [(8, .int x_61), (5, .long y_55), (7, .int x_14), (0, .ref (a 29)), (1, .ref (a 7)), (2, .ref (a 26)), (3, .int p0), (4, .int p1)]) (fun n_60 H locs ls ih_59 hI => ?_) (402 - y_56.toInt : Int).toNat ⟨G_40, y_56, (Int.toNat_of_nonneg (by omega)), ⟨by omega, by omega⟩, hW, hB_G_40, hF, Fr.rf, hS, lv_sub hl [0, 1, 2, 3, 4, 5, 6, 7] rfl⟩
        obtain ⟨G_57, x_61, hn_63, f_62, hW, hB_G_57, hF, hq_58, hS, hl⟩ := hI
        refine lv_iload hx hb dX5_bravest_109 (lv_at hl 0 rfl) ?_
        refine lv_aload_n hx hb dX5_bravest_111 rfl (lv_at hl 4 rfl) ?_
        refine S_getI (v := (G.1 7 6)) (C := RX0) (T := TX0) (N := 8) hx hb hg iX0 hown hK hW kd_7 rfl 6 (by decide) (hg (Cond.fieldLink RX5 30 "SlabWalk$Course" "last" "I") m389) (fun _ h9 => h9) rfl ((hq_58.i 7 6 (by decide) (by decide)).trans ((hq_41.i 7 6 (by decide) (by decide)).trans ((hq_11.i 7 6 (by decide) (by decide)).trans ((hq_3.i 7 6 (by decide) (by decide)).trans (rfl))))) dX5_bravest_112 ?_
        refine lv_iconst (v := 2) hx hb dX5_bravest_115 (by decide) ?_
        refine lv_iadd hx hb dX5_bravest_116 ?_
        refine lv_topi (fun y_64 ey_64 => ?_)
        have ty_64 : y_64.toInt = (G.1 7 6).toInt + 2 := xI_add rfl rfl ey_64 (by omega) (by omega)
        refine lv_icmp_gt (tgt := 175) hx hb dX5_bravest_117 (by decide) (fun c_65 => ?_) (fun c_65 => ?_)
        · have c_65 : y_64.toInt < x_61.toInt := xI_lt rfl rfl c_65
          refine lv_iload_n hx hb dX5_bravest_175 rfl (lv_at hl 6 rfl) ?_
          refine lv_istore (lv' := [(8, .int p0), (5, .long y_55), (7, .int x_14), (0, .ref (a 29)), (1, .ref (a 7)), (2, .ref (a 26)), (3, .int p0), (4, .int p1)]) hx hb dX5_bravest_176 hl (by decide) rfl (fun ls hl => ?_)
          refine loop_N (Inv := fun n H locs ls => ∃ (G_66 : GS) (x_70 : Int32), (n : Int) = 400 - x_70.toInt ∧ (0 ≤ x_70.toInt ∧ x_70.toInt ≤ 400) ∧ Wd D k A a G_66 H ∧ Bd G_66 ∧ Fr [56, 57] [(29, 6)] G G_66 ∧ Fr [56] [] G_57 G_66 ∧ va_S A s.heap H locs ∧ lv_has ls 9 [(8, .int x_70), (5, .long y_55), (7, .int x_14), (0, .ref (a 29)), (1, .ref (a 7)), (2, .ref (a 26)), (3, .int p0), (4, .int p1)]) (fun n_69 H locs ls ih_68 hI => ?_) (400 - p0.toInt : Int).toNat ⟨G_57, p0, (Int.toNat_of_nonneg (by omega)), ⟨by omega, by omega⟩, hW, hB_G_57, hF, Fr.rf, hS, lv_sub hl [0, 1, 2, 3, 4, 5, 6, 7] rfl⟩
          obtain ⟨G_66, x_70, hn_72, f_71, hW, hB_G_66, hF, hq_67, hS, hl⟩ := hI
          refine lv_iload hx hb dX5_bravest_178 (lv_at hl 0 rfl) ?_
          refine lv_aload_n hx hb dX5_bravest_180 rfl (lv_at hl 4 rfl) ?_
          refine S_getI (v := (G.1 7 6)) (C := RX0) (T := TX0) (N := 8) hx hb hg iX0 hown hK hW kd_7 rfl 6 (by decide) (hg (Cond.fieldLink RX5 30 "SlabWalk$Course" "last" "I") m389) (fun _ h9 => h9) rfl ((hq_67.i 7 6 (by decide) (by decide)).trans ((hq_58.i 7 6 (by decide) (by decide)).trans ((hq_41.i 7 6 (by decide) (by decide)).trans ((hq_11.i 7 6 (by decide) (by decide)).trans ((hq_3.i 7 6 (by decide) (by decide)).trans (rfl)))))) dX5_bravest_181 ?_
          refine lv_icmp_gt (tgt := 228) hx hb dX5_bravest_184 (by decide) (fun c_73 => ?_) (fun c_73 => ?_)
          · have c_73 : (G.1 7 6).toInt < x_70.toInt := xI_lt rfl rfl c_73
            obtain ⟨y_74, ey_74⟩ : ∃ q, q = x_14 + 1 := ⟨_, rfl⟩
            have ty_74 : y_74.toInt = x_14.toInt + 1 := xI_add rfl rfl ey_74 (by omega) (by omega)
            refine lv_iinc (v := y_74) (lv' := [(7, .int y_74), (8, .int x_70), (5, .long y_55), (0, .ref (a 29)), (1, .ref (a 7)), (2, .ref (a 26)), (3, .int p0), (4, .int p1)]) hx hb dX5_bravest_228 hl (k := 2) rfl (by rw [ey_74]; rfl) (by decide) rfl (fun ls hl => ?_)
            refine lv_goto (tgt := 46) hx hb dX5_bravest_231 (by decide) ?_
            exact ih_12 (8 - y_74.toInt : Int).toNat (by omega) _ _ _ ⟨G_66, y_74, y_55, (Int.toNat_of_nonneg (by omega)), ⟨by omega, by omega⟩, hW, hB_G_66, hF, ((((Fr.rf.call hq_11 (by decide) (by decide)).call hq_41 (by decide) (by decide)).call hq_58 (by decide) (by decide)).call hq_67 (by decide) (by decide)), hS, lv_sub hl [0, 2, 3, 4, 5, 6, 7] rfl⟩
          · have c_73 : x_70.toInt ≤ (G.1 7 6).toInt := xI_nlt rfl rfl c_73
            refine lv_aload_n hx hb dX5_bravest_187 rfl (lv_at hl 3 rfl) ?_
            refine S_getR (n := 56) (C := RX5) (T := TX5) (N := 7) hx hb hg iX5 hown hK hW kd_29 rfl 4 (by decide) (hg (Cond.fieldLink RX5 24 "SlabWalk$Odds" "odds" "[J") m468) (fun _ h9 => h9) rfl dX5_bravest_188 ?_
            refine lv_iload hx hb dX5_bravest_191 (lv_at hl 0 rfl) ?_
            refine lv_aload_n hx hb dX5_bravest_193 rfl (lv_at hl 4 rfl) ?_
            refine S_getR (n := 40) (C := RX0) (T := TX0) (N := 8) hx hb hg iX0 hown hK hW kd_7 rfl 0 (by decide) (hg (Cond.fieldLink RX5 36 "SlabWalk$Course" "lawful" "[Z") m372) (fun _ h9 => h9) rfl dX5_bravest_194 ?_
            refine lv_iload hx hb dX5_bravest_197 (lv_at hl 0 rfl) ?_
            refine S_zald hx hb hK hW kd_40 (vin (by omega) (by omega)) dX5_bravest_199 (fun y_75 ey_75 => ?_)
            have ty_75 : 0 ≤ y_75.toInt ∧ y_75.toInt ≤ 1 := hB_G_66.v ey_75 rfl rfl
            refine lv_if_eq (tgt := 220) hx hb dX5_bravest_200 (by decide) (fun c_76 => ?_) (fun c_76 => ?_)
            · have c_76 : y_75.toInt = 0 := xI_eq rfl rfl c_76
              refine lv_lconst (v := 0) hx hb dX5_bravest_220 (by decide) ?_
              refine S_last hx hb hK hW hS kd_56 (vin (by omega) (by omega)) dX5_bravest_221 (fun G_77 H locs eG_77 hW hS => ?_)
              have hB_G_77 : Bd G_77 := hB_G_66.putl eG_77
              have hF := hF.putl eG_77 (Or.inl (by decide))
              obtain ⟨y_78, ey_78⟩ : ∃ q, q = x_70 + 1 := ⟨_, rfl⟩
              have ty_78 : y_78.toInt = x_70.toInt + 1 := xI_add rfl rfl ey_78 (by omega) (by omega)
              refine lv_iinc (v := y_78) (lv' := [(8, .int y_78), (5, .long y_55), (7, .int x_14), (0, .ref (a 29)), (1, .ref (a 7)), (2, .ref (a 26)), (3, .int p0), (4, .int p1)]) hx hb dX5_bravest_222 hl (k := 0) rfl (by rw [ey_78]; rfl) (by decide) rfl (fun ls hl => ?_)
              refine lv_goto (tgt := 178) hx hb dX5_bravest_225 (by decide) ?_
              exact ih_68 (400 - y_78.toInt : Int).toNat (by omega) _ _ _ ⟨G_77, y_78, (Int.toNat_of_nonneg (by omega)), ⟨by omega, by omega⟩, hW, hB_G_77, hF, ((Fr.rf.call hq_67 (by decide) (by decide)).putl eG_77 (Or.inl (by decide))), hS, lv_sub hl [0, 1, 2, 3, 4, 5, 6, 7] rfl⟩
            · have c_76 : y_75.toInt ≠ 0 := xI_ne rfl rfl c_76
              refine lv_aload_n hx hb dX5_bravest_203 rfl (lv_at hl 3 rfl) ?_
              refine lv_aload_n hx hb dX5_bravest_204 rfl (lv_at hl 4 rfl) ?_
              refine lv_iload hx hb dX5_bravest_205 (lv_at hl 0 rfl) ?_
              refine lv_aload_n hx hb dX5_bravest_207 rfl (lv_at hl 3 rfl) ?_
              refine lv_aload_n hx hb dX5_bravest_208 rfl (lv_at hl 4 rfl) ?_
              refine lv_iload hx hb dX5_bravest_209 (lv_at hl 0 rfl) ?_
              have b_79 : 0 ≤ (G.1 7 3).toInt ∧ (G.1 7 3).toInt ≤ 60 := hB_G.i 7 3 rfl rfl
              have g_80 : (G_66.1 7 3).toInt = (G.1 7 3).toInt := by rw [show G_66.1 7 3 = (G.1 7 3) from ((hq_67.i 7 3 (by decide) (by decide)).trans ((hq_58.i 7 3 (by decide) (by decide)).trans ((hq_41.i 7 3 (by decide) (by decide)).trans ((hq_11.i 7 3 (by decide) (by decide)).trans (hq_3.i 7 3 (by decide) (by decide))))))]
              have b_81 : 0 ≤ (G.1 7 4).toInt ∧ (G.1 7 4).toInt ≤ 60 := hB_G.i 7 4 rfl rfl
              have g_82 : (G_66.1 7 4).toInt = (G.1 7 4).toInt := by rw [show G_66.1 7 4 = (G.1 7 4) from ((hq_67.i 7 4 (by decide) (by decide)).trans ((hq_58.i 7 4 (by decide) (by decide)).trans ((hq_41.i 7 4 (by decide) (by decide)).trans ((hq_11.i 7 4 (by decide) (by decide)).trans (hq_3.i 7 4 (by decide) (by decide))))))]
              have g_83 : (G_66.1 7 6).toInt = (G.1 7 6).toInt := by rw [show G_66.1 7 6 = (G.1 7 6) from ((hq_67.i 7 6 (by decide) (by decide)).trans ((hq_58.i 7 6 (by decide) (by decide)).trans ((hq_41.i 7 6 (by decide) (by decide)).trans ((hq_11.i 7 6 (by decide) (by decide)).trans ((hq_3.i 7 6 (by decide) (by decide)).trans (rfl))))))]
              have b_84 : 0 ≤ (G.1 7 7).toInt ∧ (G.1 7 7).toInt ≤ 400 := hB_G.i 7 7 rfl rfl
              have g_85 : (G_66.1 7 7).toInt = (G.1 7 7).toInt := by rw [show G_66.1 7 7 = (G.1 7 7) from ((hq_67.i 7 7 (by decide) (by decide)).trans ((hq_58.i 7 7 (by decide) (by decide)).trans ((hq_41.i 7 7 (by decide) (by decide)).trans ((hq_11.i 7 7 (by decide) (by decide)).trans (hq_3.i 7 7 (by decide) (by decide))))))]
              refine S_calli (va_runV (As := [.ref (a 7), .int x_70]) (rest := [.int x_70, .ref (a 7), .ref (a 29), .int x_70, .ref (a 56)]) ⟨hx, hb, hml, hown, hts⟩ (k_oBest l D k A a z G_66 x_70 ⟨by omega, by omega⟩ (by omega)) (cwV 2 hts (gd_V hgd m1126 m1128 m39 m126 m1129) rfl rfl rfl (by decide +kernel) ⟨Nat.le_of_ble_eq_true rfl, Nat.le_of_ble_eq_true rfl⟩) (pre_V hW hB_G_66 hK hZ hS kd_29 rfl) rfl rfl hl.1 rfl (lv_room (Nat.le_of_ble_eq_true rfl)) dX5_bravest_211 ⟨Nat.le_of_ble_eq_true rfl, Nat.le_of_ble_eq_true rfl⟩) hS (fun r_86 G_87 H locs hpo hW hS => ?_)
              obtain ⟨hB_G_87, hq_88, f_90⟩ := hpo
              have hF := hF.call hq_88 (by decide) (by decide)
              have g_91 : (G_87.1 7 3).toInt = (G.1 7 3).toInt := by rw [show G_87.1 7 3 = (G.1 7 3) from ((hq_88.i 7 3 (by decide) (by decide)).trans ((hq_67.i 7 3 (by decide) (by decide)).trans ((hq_58.i 7 3 (by decide) (by decide)).trans ((hq_41.i 7 3 (by decide) (by decide)).trans ((hq_11.i 7 3 (by decide) (by decide)).trans ((hq_3.i 7 3 (by decide) (by decide)).trans (rfl)))))))]
              have g_92 : (G_87.1 7 4).toInt = (G.1 7 4).toInt := by rw [show G_87.1 7 4 = (G.1 7 4) from ((hq_88.i 7 4 (by decide) (by decide)).trans ((hq_67.i 7 4 (by decide) (by decide)).trans ((hq_58.i 7 4 (by decide) (by decide)).trans ((hq_41.i 7 4 (by decide) (by decide)).trans ((hq_11.i 7 4 (by decide) (by decide)).trans ((hq_3.i 7 4 (by decide) (by decide)).trans (rfl)))))))]
              have g_93 : (G_87.1 7 6).toInt = (G.1 7 6).toInt := by rw [show G_87.1 7 6 = (G.1 7 6) from ((hq_88.i 7 6 (by decide) (by decide)).trans ((hq_67.i 7 6 (by decide) (by decide)).trans ((hq_58.i 7 6 (by decide) (by decide)).trans ((hq_41.i 7 6 (by decide) (by decide)).trans ((hq_11.i 7 6 (by decide) (by decide)).trans ((hq_3.i 7 6 (by decide) (by decide)).trans (rfl)))))))]
              have g_94 : (G_87.1 7 7).toInt = (G.1 7 7).toInt := by rw [show G_87.1 7 7 = (G.1 7 7) from ((hq_88.i 7 7 (by decide) (by decide)).trans ((hq_67.i 7 7 (by decide) (by decide)).trans ((hq_58.i 7 7 (by decide) (by decide)).trans ((hq_41.i 7 7 (by decide) (by decide)).trans ((hq_11.i 7 7 (by decide) (by decide)).trans ((hq_3.i 7 7 (by decide) (by decide)).trans (rfl)))))))]
              refine S_calll (va_runV (As := [.ref (a 7), .int x_70, .int r_86]) (rest := [.int x_70, .ref (a 56)]) ⟨hx, hb, hml, hown, hts⟩ (k_oAim l D k A a z G_87 x_70 r_86 ⟨by omega, by omega⟩ ⟨by omega, by omega⟩ (by omega)) (cwV 3 hts (gd_V hgd m1130 m1132 m40 m126 m1133) rfl rfl rfl (by decide +kernel) ⟨Nat.le_of_ble_eq_true rfl, Nat.le_of_ble_eq_true rfl⟩) (pre_V hW hB_G_87 hK hZ hS kd_29 rfl) rfl rfl hl.1 rfl (lv_room (Nat.le_of_ble_eq_true rfl)) dX5_bravest_214 ⟨Nat.le_of_ble_eq_true rfl, Nat.le_of_ble_eq_true rfl⟩) hS (fun r_95 G_96 H locs hpo hW hS => ?_)
              obtain ⟨hB_G_96, hq_97⟩ := hpo
              have hF := hF.call hq_97 (by decide) (by decide)
              refine lv_goto (tgt := 221) hx hb dX5_bravest_217 (by decide) ?_
              refine S_last hx hb hK hW hS kd_56 (vin (by omega) (by omega)) dX5_bravest_221 (fun G_99 H locs eG_99 hW hS => ?_)
              have hB_G_99 : Bd G_99 := hB_G_96.putl eG_99
              have hF := hF.putl eG_99 (Or.inl (by decide))
              obtain ⟨y_100, ey_100⟩ : ∃ q, q = x_70 + 1 := ⟨_, rfl⟩
              have ty_100 : y_100.toInt = x_70.toInt + 1 := xI_add rfl rfl ey_100 (by omega) (by omega)
              refine lv_iinc (v := y_100) (lv' := [(8, .int y_100), (5, .long y_55), (7, .int x_14), (0, .ref (a 29)), (1, .ref (a 7)), (2, .ref (a 26)), (3, .int p0), (4, .int p1)]) hx hb dX5_bravest_222 hl (k := 0) rfl (by rw [ey_100]; rfl) (by decide) rfl (fun ls hl => ?_)
              refine lv_goto (tgt := 178) hx hb dX5_bravest_225 (by decide) ?_
              exact ih_68 (400 - y_100.toInt : Int).toNat (by omega) _ _ _ ⟨G_99, y_100, (Int.toNat_of_nonneg (by omega)), ⟨by omega, by omega⟩, hW, hB_G_99, hF, ((((Fr.rf.call hq_67 (by decide) (by decide)).call hq_88 (by decide) (by decide)).call hq_97 (by decide) (by decide)).putl eG_99 (Or.inl (by decide))), hS, lv_sub hl [0, 1, 2, 3, 4, 5, 6, 7] rfl⟩
        · have c_65 : x_61.toInt ≤ y_64.toInt := xI_nlt rfl rfl c_65
          refine lv_aload_n hx hb dX5_bravest_120 rfl (lv_at hl 3 rfl) ?_
          refine S_getR (n := 57) (C := RX5) (T := TX5) (N := 7) hx hb hg iX5 hown hK hW kd_29 rfl 5 (by decide) (hg (Cond.fieldLink RX5 27 "SlabWalk$Odds" "aims" "[J") m469) (fun _ h9 => h9) rfl dX5_bravest_121 ?_
          refine lv_iload hx hb dX5_bravest_124 (lv_at hl 0 rfl) ?_
          refine lv_aload_n hx hb dX5_bravest_126 rfl (lv_at hl 5 rfl) ?_
          refine lv_iconst (v := 0) hx hb dX5_bravest_127 (by decide) ?_
          refine S_iald hx hb hK hW kd_26 (vin (by decide) (by decide)) dX5_bravest_128 (fun y_101 ey_101 => ?_)
          have ty_101 : 0 ≤ y_101.toInt ∧ y_101.toInt ≤ 9 := hB_G_57.v ey_101 rfl rfl
          refine lv_i2l hx hb dX5_bravest_129 rfl ?_
          refine lv_topl (fun y_102 ey_102 => ?_)
          refine lv_aload_n hx hb dX5_bravest_130 rfl (lv_at hl 3 rfl) ?_
          refine S_getR (n := 56) (C := RX5) (T := TX5) (N := 7) hx hb hg iX5 hown hK hW kd_29 rfl 4 (by decide) (hg (Cond.fieldLink RX5 24 "SlabWalk$Odds" "odds" "[J") m468) (fun _ h9 => h9) rfl dX5_bravest_131 ?_
          refine lv_iload hx hb dX5_bravest_134 (lv_at hl 0 rfl) ?_
          refine lv_iconst (v := 1) hx hb dX5_bravest_136 (by decide) ?_
          refine lv_isub hx hb dX5_bravest_137 ?_
          refine lv_topi (fun y_103 ey_103 => ?_)
          have ty_103 : y_103.toInt = x_61.toInt - 1 := xI_sub rfl rfl ey_103 (by omega) (by omega)
          refine S_lald hx hb hK hW kd_56 (vin (by omega) (by omega)) dX5_bravest_138 (fun y_104 ey_104 => ?_)
          refine lv_lmul hx hb dX5_bravest_139 ?_
          refine lv_topl (fun y_105 ey_105 => ?_)
          refine lv_aload_n hx hb dX5_bravest_140 rfl (lv_at hl 5 rfl) ?_
          refine lv_iconst (v := 1) hx hb dX5_bravest_141 (by decide) ?_
          refine S_iald hx hb hK hW kd_26 (vin (by decide) (by decide)) dX5_bravest_142 (fun y_106 ey_106 => ?_)
          have ty_106 : 0 ≤ y_106.toInt ∧ y_106.toInt ≤ 9 := hB_G_57.v ey_106 rfl rfl
          refine lv_i2l hx hb dX5_bravest_143 rfl ?_
          refine lv_topl (fun y_107 ey_107 => ?_)
          refine lv_aload_n hx hb dX5_bravest_144 rfl (lv_at hl 3 rfl) ?_
          refine S_getR (n := 56) (C := RX5) (T := TX5) (N := 7) hx hb hg iX5 hown hK hW kd_29 rfl 4 (by decide) (hg (Cond.fieldLink RX5 24 "SlabWalk$Odds" "odds" "[J") m468) (fun _ h9 => h9) rfl dX5_bravest_145 ?_
          refine lv_iload hx hb dX5_bravest_148 (lv_at hl 0 rfl) ?_
          refine S_lald hx hb hK hW kd_56 (vin (by omega) (by omega)) dX5_bravest_150 (fun y_108 ey_108 => ?_)
          refine lv_lmul hx hb dX5_bravest_151 ?_
          refine lv_topl (fun y_109 ey_109 => ?_)
          refine lv_ladd hx hb dX5_bravest_152 ?_
          refine lv_topl (fun y_110 ey_110 => ?_)
          refine lv_aload_n hx hb dX5_bravest_153 rfl (lv_at hl 5 rfl) ?_
          refine lv_iconst (v := 2) hx hb dX5_bravest_154 (by decide) ?_
          refine S_iald hx hb hK hW kd_26 (vin (by decide) (by decide)) dX5_bravest_155 (fun y_111 ey_111 => ?_)
          have ty_111 : 0 ≤ y_111.toInt ∧ y_111.toInt ≤ 9 := hB_G_57.v ey_111 rfl rfl
          refine lv_i2l hx hb dX5_bravest_156 rfl ?_
          refine lv_topl (fun y_112 ey_112 => ?_)
          refine lv_aload_n hx hb dX5_bravest_157 rfl (lv_at hl 3 rfl) ?_
          refine S_getR (n := 56) (C := RX5) (T := TX5) (N := 7) hx hb hg iX5 hown hK hW kd_29 rfl 4 (by decide) (hg (Cond.fieldLink RX5 24 "SlabWalk$Odds" "odds" "[J") m468) (fun _ h9 => h9) rfl dX5_bravest_158 ?_
          refine lv_iload hx hb dX5_bravest_161 (lv_at hl 0 rfl) ?_
          refine lv_iconst (v := 1) hx hb dX5_bravest_163 (by decide) ?_
          refine lv_iadd hx hb dX5_bravest_164 ?_
          refine lv_topi (fun y_113 ey_113 => ?_)
          have ty_113 : y_113.toInt = x_61.toInt + 1 := xI_add rfl rfl ey_113 (by omega) (by omega)
          refine S_lald hx hb hK hW kd_56 (vin (by omega) (by omega)) dX5_bravest_165 (fun y_114 ey_114 => ?_)
          refine lv_lmul hx hb dX5_bravest_166 ?_
          refine lv_topl (fun y_115 ey_115 => ?_)
          refine lv_ladd hx hb dX5_bravest_167 ?_
          refine lv_topl (fun y_116 ey_116 => ?_)
          refine S_last hx hb hK hW hS kd_57 (vin (by omega) (by omega)) dX5_bravest_168 (fun G_117 H locs eG_117 hW hS => ?_)
          have hB_G_117 : Bd G_117 := hB_G_57.putl eG_117
          have hF := hF.putl eG_117 (Or.inl (by decide))
          obtain ⟨y_118, ey_118⟩ : ∃ q, q = x_61 + 1 := ⟨_, rfl⟩
          have ty_118 : y_118.toInt = x_61.toInt + 1 := xI_add rfl rfl ey_118 (by omega) (by omega)
          refine lv_iinc (v := y_118) (lv' := [(8, .int y_118), (5, .long y_55), (7, .int x_14), (0, .ref (a 29)), (1, .ref (a 7)), (2, .ref (a 26)), (3, .int p0), (4, .int p1)]) hx hb dX5_bravest_169 hl (k := 0) rfl (by rw [ey_118]; rfl) (by decide) rfl (fun ls hl => ?_)
          refine lv_goto (tgt := 109) hx hb dX5_bravest_172 (by decide) ?_
          exact ih_59 (402 - y_118.toInt : Int).toNat (by omega) _ _ _ ⟨G_117, y_118, (Int.toNat_of_nonneg (by omega)), ⟨by omega, by omega⟩, hW, hB_G_117, hF, ((Fr.rf.call hq_58 (by decide) (by decide)).putl eG_117 (Or.inl (by decide))), hS, lv_sub hl [0, 1, 2, 3, 4, 5, 6, 7] rfl⟩
      · have c_48 : x_44.toInt ≤ y_47.toInt := xI_nlt rfl rfl c_48
        refine lv_aload_n hx hb dX5_bravest_72 rfl (lv_at hl 3 rfl) ?_
        refine S_getR (n := 56) (C := RX5) (T := TX5) (N := 7) hx hb hg iX5 hown hK hW kd_29 rfl 4 (by decide) (hg (Cond.fieldLink RX5 24 "SlabWalk$Odds" "odds" "[J") m468) (fun _ h9 => h9) rfl dX5_bravest_73 ?_
        refine lv_iload hx hb dX5_bravest_76 (lv_at hl 0 rfl) ?_
        refine lv_lload hx hb dX5_bravest_78 (lv_at hl 2 rfl) ?_
        refine S_last hx hb hK hW hS kd_56 (vin (by omega) (by omega)) dX5_bravest_80 (fun G_119 H locs eG_119 hW hS => ?_)
        have hB_G_119 : Bd G_119 := hB_G_40.putl eG_119
        have hF := hF.putl eG_119 (Or.inl (by decide))
        obtain ⟨y_120, ey_120⟩ : ∃ q, q = x_44 + 1 := ⟨_, rfl⟩
        have ty_120 : y_120.toInt = x_44.toInt + 1 := xI_add rfl rfl ey_120 (by omega) (by omega)
        refine lv_iinc (v := y_120) (lv' := [(8, .int y_120), (7, .int x_14), (5, .long x_15), (0, .ref (a 29)), (1, .ref (a 7)), (2, .ref (a 26)), (3, .int p0), (4, .int p1)]) hx hb dX5_bravest_81 hl (k := 0) rfl (by rw [ey_120]; rfl) (by decide) rfl (fun ls hl => ?_)
        refine lv_goto (tgt := 61) hx hb dX5_bravest_84 (by decide) ?_
        exact ih_42 (403 - y_120.toInt : Int).toNat (by omega) _ _ _ ⟨G_119, y_120, (Int.toNat_of_nonneg (by omega)), ⟨by omega, by omega⟩, hW, hB_G_119, hF, ((Fr.rf.call hq_41 (by decide) (by decide)).putl eG_119 (Or.inl (by decide))), hS, lv_sub hl [0, 1, 2, 3, 4, 5, 6, 7] rfl⟩
  · have c_9 : x_6.toInt ≤ (G.1 7 6).toInt := xI_nlt rfl rfl c_9
    refine lv_aload_n hx hb dX5_bravest_15 rfl (lv_at hl 2 rfl) ?_
    refine S_getR (n := 56) (C := RX5) (T := TX5) (N := 7) hx hb hg iX5 hown hK hW kd_29 rfl 4 (by decide) (hg (Cond.fieldLink RX5 24 "SlabWalk$Odds" "odds" "[J") m468) (fun _ h9 => h9) rfl dX5_bravest_16 ?_
    refine lv_iload hx hb dX5_bravest_19 (lv_at hl 0 rfl) ?_
    refine lv_aload_n hx hb dX5_bravest_21 rfl (lv_at hl 3 rfl) ?_
    refine S_getR (n := 40) (C := RX0) (T := TX0) (N := 8) hx hb hg iX0 hown hK hW kd_7 rfl 0 (by decide) (hg (Cond.fieldLink RX5 36 "SlabWalk$Course" "lawful" "[Z") m372) (fun _ h9 => h9) rfl dX5_bravest_22 ?_
    refine lv_iload hx hb dX5_bravest_25 (lv_at hl 0 rfl) ?_
    refine S_zald hx hb hK hW kd_40 (vin (by omega) (by omega)) dX5_bravest_27 (fun y_121 ey_121 => ?_)
    have ty_121 : 0 ≤ y_121.toInt ∧ y_121.toInt ≤ 1 := hB_G_2.v ey_121 rfl rfl
    refine lv_if_eq (tgt := 35) hx hb dX5_bravest_28 (by decide) (fun c_122 => ?_) (fun c_122 => ?_)
    · have c_122 : y_121.toInt = 0 := xI_eq rfl rfl c_122
      refine lv_lconst (v := 0) hx hb dX5_bravest_35 (by decide) ?_
      refine S_last hx hb hK hW hS kd_56 (vin (by omega) (by omega)) dX5_bravest_36 (fun G_123 H locs eG_123 hW hS => ?_)
      have hB_G_123 : Bd G_123 := hB_G_2.putl eG_123
      have hF := hF.putl eG_123 (Or.inl (by decide))
      obtain ⟨y_124, ey_124⟩ : ∃ q, q = x_6 + 1 := ⟨_, rfl⟩
      have ty_124 : y_124.toInt = x_6.toInt + 1 := xI_add rfl rfl ey_124 (by omega) (by omega)
      refine lv_iinc (v := y_124) (lv' := [(7, .int y_124), (5, .long 1), (0, .ref (a 29)), (1, .ref (a 7)), (2, .ref (a 26)), (3, .int p0), (4, .int p1)]) hx hb dX5_bravest_37 hl (k := 0) rfl (by rw [ey_124]; rfl) (by decide) rfl (fun ls hl => ?_)
      refine lv_goto (tgt := 6) hx hb dX5_bravest_40 (by decide) ?_
      exact ih_4 (400 - y_124.toInt : Int).toNat (by omega) _ _ _ ⟨G_123, y_124, (Int.toNat_of_nonneg (by omega)), ⟨by omega, by omega⟩, hW, hB_G_123, hF, ((Fr.rf.call hq_3 (by decide) (by decide)).putl eG_123 (Or.inl (by decide))), hS, lv_sub hl [0, 1, 2, 3, 4, 5, 6] rfl⟩
    · have c_122 : y_121.toInt ≠ 0 := xI_ne rfl rfl c_122
      refine lv_lconst (v := 1) hx hb dX5_bravest_31 (by decide) ?_
      refine lv_goto (tgt := 36) hx hb dX5_bravest_32 (by decide) ?_
      refine S_last hx hb hK hW hS kd_56 (vin (by omega) (by omega)) dX5_bravest_36 (fun G_125 H locs eG_125 hW hS => ?_)
      have hB_G_125 : Bd G_125 := hB_G_2.putl eG_125
      have hF := hF.putl eG_125 (Or.inl (by decide))
      obtain ⟨y_126, ey_126⟩ : ∃ q, q = x_6 + 1 := ⟨_, rfl⟩
      have ty_126 : y_126.toInt = x_6.toInt + 1 := xI_add rfl rfl ey_126 (by omega) (by omega)
      refine lv_iinc (v := y_126) (lv' := [(7, .int y_126), (5, .long 1), (0, .ref (a 29)), (1, .ref (a 7)), (2, .ref (a 26)), (3, .int p0), (4, .int p1)]) hx hb dX5_bravest_37 hl (k := 0) rfl (by rw [ey_126]; rfl) (by decide) rfl (fun ls hl => ?_)
      refine lv_goto (tgt := 6) hx hb dX5_bravest_40 (by decide) ?_
      exact ih_4 (400 - y_126.toInt : Int).toNat (by omega) _ _ _ ⟨G_125, y_126, (Int.toNat_of_nonneg (by omega)), ⟨by omega, by omega⟩, hW, hB_G_125, hF, ((Fr.rf.call hq_3 (by decide) (by decide)).putl eG_125 (Or.inl (by decide))), hS, lv_sub hl [0, 1, 2, 3, 4, 5, 6] rfl⟩
