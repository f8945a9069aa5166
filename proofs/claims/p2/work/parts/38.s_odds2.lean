theorem m39 : Cond.selects RX5 yX5_bestStep yX5_bestStep ∈ gd := gd_mem 39 (by decide +kernel) (by decide +kernel)
theorem m468 : Cond.fieldLink RX5 24 "SlabWalk$Odds" "odds" "[J" ∈ gd := gd_mem 468 (by decide +kernel) (by decide +kernel)
theorem m1126 : Cond.methodLink RX5 74 yX5_bestStep ∈ gd := gd_mem 1126 (by decide +kernel) (by decide +kernel)
theorem m1128 : Cond.instanceMethod yX5_bestStep ∈ gd := gd_mem 1128 (by decide +kernel) (by decide +kernel)
theorem m1129 : Cond.code yX5_bestStep cX5_bestStep 7 (some .int) ∈ gd := gd_mem 1129 (by decide +kernel) (by decide +kernel)
theorem dX5_bravest_0 : decode cX5_bravest 0 = .ok (.lconst 1, 1) := by decide +kernel
theorem dX5_bravest_1 : decode cX5_bravest 1 = .ok (.lstore 5, 2) := by decide +kernel
theorem dX5_bravest_3 : decode cX5_bravest 3 = .ok (.iload_n 3, 1) := by decide +kernel
theorem dX5_bravest_4 : decode cX5_bravest 4 = .ok (.istore 7, 2) := by decide +kernel
theorem dX5_bravest_6 : decode cX5_bravest 6 = .ok (.iload 7, 2) := by decide +kernel
theorem dX5_bravest_8 : decode cX5_bravest 8 = .ok (.aload_n 1, 1) := by decide +kernel
theorem dX5_bravest_9 : decode cX5_bravest 9 = .ok (.getfield 30, 3) := by decide +kernel
theorem dX5_bravest_12 : decode cX5_bravest 12 = .ok (.if_icmp .gt 31, 3) := by decide +kernel
theorem dX5_bravest_15 : decode cX5_bravest 15 = .ok (.aload_n 0, 1) := by decide +kernel
theorem dX5_bravest_16 : decode cX5_bravest 16 = .ok (.getfield 24, 3) := by decide +kernel
theorem dX5_bravest_19 : decode cX5_bravest 19 = .ok (.iload 7, 2) := by decide +kernel
theorem dX5_bravest_21 : decode cX5_bravest 21 = .ok (.aload_n 1, 1) := by decide +kernel
theorem dX5_bravest_22 : decode cX5_bravest 22 = .ok (.getfield 36, 3) := by decide +kernel
theorem dX5_bravest_25 : decode cX5_bravest 25 = .ok (.iload 7, 2) := by decide +kernel
theorem dX5_bravest_27 : decode cX5_bravest 27 = .ok (.baload, 1) := by decide +kernel
theorem dX5_bravest_28 : decode cX5_bravest 28 = .ok (.ifCond .eq 7, 3) := by decide +kernel
theorem dX5_bravest_31 : decode cX5_bravest 31 = .ok (.lconst 1, 1) := by decide +kernel
theorem dX5_bravest_32 : decode cX5_bravest 32 = .ok (.goto 4, 3) := by decide +kernel
theorem dX5_bravest_35 : decode cX5_bravest 35 = .ok (.lconst 0, 1) := by decide +kernel
theorem dX5_bravest_36 : decode cX5_bravest 36 = .ok (.lastore, 1) := by decide +kernel
theorem dX5_bravest_37 : decode cX5_bravest 37 = .ok (.iinc 7 1, 3) := by decide +kernel
theorem dX5_bravest_40 : decode cX5_bravest 40 = .ok (.goto (-34), 3) := by decide +kernel
theorem dX5_bravest_43 : decode cX5_bravest 43 = .ok (.iconst 0, 1) := by decide +kernel
theorem dX5_bravest_44 : decode cX5_bravest 44 = .ok (.istore 7, 2) := by decide +kernel
theorem dX5_bravest_46 : decode cX5_bravest 46 = .ok (.iload 7, 2) := by decide +kernel
theorem dX5_bravest_48 : decode cX5_bravest 48 = .ok (.iload 4, 2) := by decide +kernel
theorem dX5_bravest_50 : decode cX5_bravest 50 = .ok (.if_icmp .ge 184, 3) := by decide +kernel
theorem dX5_bravest_53 : decode cX5_bravest 53 = .ok (.aload_n 1, 1) := by decide +kernel
theorem dX5_bravest_54 : decode cX5_bravest 54 = .ok (.getfield 30, 3) := by decide +kernel
theorem dX5_bravest_57 : decode cX5_bravest 57 = .ok (.iconst 1, 1) := by decide +kernel
theorem dX5_bravest_58 : decode cX5_bravest 58 = .ok (.iadd, 1) := by decide +kernel
theorem dX5_bravest_59 : decode cX5_bravest 59 = .ok (.istore 8, 2) := by decide +kernel
theorem dX5_bravest_61 : decode cX5_bravest 61 = .ok (.iload 8, 2) := by decide +kernel
theorem dX5_bravest_63 : decode cX5_bravest 63 = .ok (.aload_n 1, 1) := by decide +kernel
theorem dX5_bravest_64 : decode cX5_bravest 64 = .ok (.getfield 30, 3) := by decide +kernel
theorem dX5_bravest_67 : decode cX5_bravest 67 = .ok (.iconst 3, 1) := by decide +kernel
theorem dX5_bravest_68 : decode cX5_bravest 68 = .ok (.iadd, 1) := by decide +kernel
theorem dX5_bravest_69 : decode cX5_bravest 69 = .ok (.if_icmp .gt 18, 3) := by decide +kernel
theorem dX5_bravest_72 : decode cX5_bravest 72 = .ok (.aload_n 0, 1) := by decide +kernel
theorem dX5_bravest_73 : decode cX5_bravest 73 = .ok (.getfield 24, 3) := by decide +kernel
theorem dX5_bravest_76 : decode cX5_bravest 76 = .ok (.iload 8, 2) := by decide +kernel
theorem dX5_bravest_78 : decode cX5_bravest 78 = .ok (.lload 5, 2) := by decide +kernel
theorem dX5_bravest_80 : decode cX5_bravest 80 = .ok (.lastore, 1) := by decide +kernel
theorem dX5_bravest_81 : decode cX5_bravest 81 = .ok (.iinc 8 1, 3) := by decide +kernel
theorem dX5_bravest_84 : decode cX5_bravest 84 = .ok (.goto (-23), 3) := by decide +kernel
theorem dX5_bravest_87 : decode cX5_bravest 87 = .ok (.lload 5, 2) := by decide +kernel
theorem dX5_bravest_89 : decode cX5_bravest 89 = .ok (.aload_n 2, 1) := by decide +kernel
theorem dX5_bravest_90 : decode cX5_bravest 90 = .ok (.iconst 0, 1) := by decide +kernel
theorem dX5_bravest_91 : decode cX5_bravest 91 = .ok (.iaload, 1) := by decide +kernel
theorem dX5_bravest_92 : decode cX5_bravest 92 = .ok (.aload_n 2, 1) := by decide +kernel
theorem dX5_bravest_93 : decode cX5_bravest 93 = .ok (.iconst 1, 1) := by decide +kernel
theorem dX5_bravest_94 : decode cX5_bravest 94 = .ok (.iaload, 1) := by decide +kernel
theorem dX5_bravest_95 : decode cX5_bravest 95 = .ok (.iadd, 1) := by decide +kernel
theorem dX5_bravest_96 : decode cX5_bravest 96 = .ok (.aload_n 2, 1) := by decide +kernel
theorem dX5_bravest_97 : decode cX5_bravest 97 = .ok (.iconst 2, 1) := by decide +kernel
theorem dX5_bravest_98 : decode cX5_bravest 98 = .ok (.iaload, 1) := by decide +kernel
theorem dX5_bravest_99 : decode cX5_bravest 99 = .ok (.iadd, 1) := by decide +kernel
theorem dX5_bravest_100 : decode cX5_bravest 100 = .ok (.i2l, 1) := by decide +kernel
theorem dX5_bravest_101 : decode cX5_bravest 101 = .ok (.lmul, 1) := by decide +kernel
theorem dX5_bravest_102 : decode cX5_bravest 102 = .ok (.lstore 5, 2) := by decide +kernel
theorem dX5_bravest_104 : decode cX5_bravest 104 = .ok (.iload_n 3, 1) := by decide +kernel
theorem dX5_bravest_105 : decode cX5_bravest 105 = .ok (.iconst 1, 1) := by decide +kernel
theorem dX5_bravest_106 : decode cX5_bravest 106 = .ok (.iadd, 1) := by decide +kernel
theorem dX5_bravest_107 : decode cX5_bravest 107 = .ok (.istore 8, 2) := by decide +kernel
theorem dX5_bravest_109 : decode cX5_bravest 109 = .ok (.iload 8, 2) := by decide +kernel
theorem dX5_bravest_111 : decode cX5_bravest 111 = .ok (.aload_n 1, 1) := by decide +kernel
theorem dX5_bravest_112 : decode cX5_bravest 112 = .ok (.getfield 30, 3) := by decide +kernel
theorem dX5_bravest_115 : decode cX5_bravest 115 = .ok (.iconst 2, 1) := by decide +kernel
theorem dX5_bravest_116 : decode cX5_bravest 116 = .ok (.iadd, 1) := by decide +kernel
theorem dX5_bravest_117 : decode cX5_bravest 117 = .ok (.if_icmp .gt 58, 3) := by decide +kernel
theorem dX5_bravest_120 : decode cX5_bravest 120 = .ok (.aload_n 0, 1) := by decide +kernel
theorem dX5_bravest_121 : decode cX5_bravest 121 = .ok (.getfield 27, 3) := by decide +kernel
theorem dX5_bravest_124 : decode cX5_bravest 124 = .ok (.iload 8, 2) := by decide +kernel
theorem dX5_bravest_126 : decode cX5_bravest 126 = .ok (.aload_n 2, 1) := by decide +kernel
theorem dX5_bravest_127 : decode cX5_bravest 127 = .ok (.iconst 0, 1) := by decide +kernel
theorem dX5_bravest_128 : decode cX5_bravest 128 = .ok (.iaload, 1) := by decide +kernel
theorem dX5_bravest_129 : decode cX5_bravest 129 = .ok (.i2l, 1) := by decide +kernel
theorem dX5_bravest_130 : decode cX5_bravest 130 = .ok (.aload_n 0, 1) := by decide +kernel
theorem dX5_bravest_131 : decode cX5_bravest 131 = .ok (.getfield 24, 3) := by decide +kernel
theorem dX5_bravest_134 : decode cX5_bravest 134 = .ok (.iload 8, 2) := by decide +kernel
theorem dX5_bravest_136 : decode cX5_bravest 136 = .ok (.iconst 1, 1) := by decide +kernel
theorem dX5_bravest_137 : decode cX5_bravest 137 = .ok (.isub, 1) := by decide +kernel
theorem dX5_bravest_138 : decode cX5_bravest 138 = .ok (.laload, 1) := by decide +kernel
theorem dX5_bravest_139 : decode cX5_bravest 139 = .ok (.lmul, 1) := by decide +kernel
theorem dX5_bravest_140 : decode cX5_bravest 140 = .ok (.aload_n 2, 1) := by decide +kernel
theorem dX5_bravest_141 : decode cX5_bravest 141 = .ok (.iconst 1, 1) := by decide +kernel
theorem dX5_bravest_142 : decode cX5_bravest 142 = .ok (.iaload, 1) := by decide +kernel
theorem dX5_bravest_143 : decode cX5_bravest 143 = .ok (.i2l, 1) := by decide +kernel
theorem dX5_bravest_144 : decode cX5_bravest 144 = .ok (.aload_n 0, 1) := by decide +kernel
theorem dX5_bravest_145 : decode cX5_bravest 145 = .ok (.getfield 24, 3) := by decide +kernel
theorem dX5_bravest_148 : decode cX5_bravest 148 = .ok (.iload 8, 2) := by decide +kernel
theorem dX5_bravest_150 : decode cX5_bravest 150 = .ok (.laload, 1) := by decide +kernel
theorem dX5_bravest_151 : decode cX5_bravest 151 = .ok (.lmul, 1) := by decide +kernel
theorem dX5_bravest_152 : decode cX5_bravest 152 = .ok (.ladd, 1) := by decide +kernel
theorem dX5_bravest_153 : decode cX5_bravest 153 = .ok (.aload_n 2, 1) := by decide +kernel
theorem dX5_bravest_154 : decode cX5_bravest 154 = .ok (.iconst 2, 1) := by decide +kernel
theorem dX5_bravest_155 : decode cX5_bravest 155 = .ok (.iaload, 1) := by decide +kernel
theorem dX5_bravest_156 : decode cX5_bravest 156 = .ok (.i2l, 1) := by decide +kernel
theorem dX5_bravest_157 : decode cX5_bravest 157 = .ok (.aload_n 0, 1) := by decide +kernel
theorem dX5_bravest_158 : decode cX5_bravest 158 = .ok (.getfield 24, 3) := by decide +kernel
theorem dX5_bravest_161 : decode cX5_bravest 161 = .ok (.iload 8, 2) := by decide +kernel
theorem dX5_bravest_163 : decode cX5_bravest 163 = .ok (.iconst 1, 1) := by decide +kernel
theorem dX5_bravest_164 : decode cX5_bravest 164 = .ok (.iadd, 1) := by decide +kernel
theorem dX5_bravest_165 : decode cX5_bravest 165 = .ok (.laload, 1) := by decide +kernel
theorem dX5_bravest_166 : decode cX5_bravest 166 = .ok (.lmul, 1) := by decide +kernel
theorem dX5_bravest_167 : decode cX5_bravest 167 = .ok (.ladd, 1) := by decide +kernel
theorem dX5_bravest_168 : decode cX5_bravest 168 = .ok (.lastore, 1) := by decide +kernel
theorem dX5_bravest_169 : decode cX5_bravest 169 = .ok (.iinc 8 1, 3) := by decide +kernel
theorem dX5_bravest_172 : decode cX5_bravest 172 = .ok (.goto (-63), 3) := by decide +kernel
theorem dX5_bravest_175 : decode cX5_bravest 175 = .ok (.iload_n 3, 1) := by decide +kernel
theorem dX5_bravest_176 : decode cX5_bravest 176 = .ok (.istore 8, 2) := by decide +kernel
theorem dX5_bravest_178 : decode cX5_bravest 178 = .ok (.iload 8, 2) := by decide +kernel
theorem dX5_bravest_180 : decode cX5_bravest 180 = .ok (.aload_n 1, 1) := by decide +kernel
theorem dX5_bravest_181 : decode cX5_bravest 181 = .ok (.getfield 30, 3) := by decide +kernel
theorem dX5_bravest_184 : decode cX5_bravest 184 = .ok (.if_icmp .gt 44, 3) := by decide +kernel
theorem dX5_bravest_187 : decode cX5_bravest 187 = .ok (.aload_n 0, 1) := by decide +kernel
theorem dX5_bravest_188 : decode cX5_bravest 188 = .ok (.getfield 24, 3) := by decide +kernel
theorem dX5_bravest_191 : decode cX5_bravest 191 = .ok (.iload 8, 2) := by decide +kernel
theorem dX5_bravest_193 : decode cX5_bravest 193 = .ok (.aload_n 1, 1) := by decide +kernel
theorem dX5_bravest_194 : decode cX5_bravest 194 = .ok (.getfield 36, 3) := by decide +kernel
theorem dX5_bravest_197 : decode cX5_bravest 197 = .ok (.iload 8, 2) := by decide +kernel
theorem dX5_bravest_199 : decode cX5_bravest 199 = .ok (.baload, 1) := by decide +kernel
theorem dX5_bravest_200 : decode cX5_bravest 200 = .ok (.ifCond .eq 20, 3) := by decide +kernel
theorem dX5_bravest_203 : decode cX5_bravest 203 = .ok (.aload_n 0, 1) := by decide +kernel
theorem dX5_bravest_204 : decode cX5_bravest 204 = .ok (.aload_n 1, 1) := by decide +kernel
theorem dX5_bravest_205 : decode cX5_bravest 205 = .ok (.iload 8, 2) := by decide +kernel
theorem dX5_bravest_207 : decode cX5_bravest 207 = .ok (.aload_n 0, 1) := by decide +kernel
theorem dX5_bravest_208 : decode cX5_bravest 208 = .ok (.aload_n 1, 1) := by decide +kernel
theorem dX5_bravest_209 : decode cX5_bravest 209 = .ok (.iload 8, 2) := by decide +kernel
theorem dX5_bravest_211 : decode cX5_bravest 211 = .ok (.invokevirtual 74, 3) := by decide +kernel
theorem dX5_bravest_214 : decode cX5_bravest 214 = .ok (.invokevirtual 78, 3) := by decide +kernel
theorem dX5_bravest_217 : decode cX5_bravest 217 = .ok (.goto 4, 3) := by decide +kernel
theorem dX5_bravest_220 : decode cX5_bravest 220 = .ok (.lconst 0, 1) := by decide +kernel
theorem dX5_bravest_221 : decode cX5_bravest 221 = .ok (.lastore, 1) := by decide +kernel
theorem dX5_bravest_222 : decode cX5_bravest 222 = .ok (.iinc 8 1, 3) := by decide +kernel
theorem dX5_bravest_225 : decode cX5_bravest 225 = .ok (.goto (-47), 3) := by decide +kernel
theorem dX5_bravest_228 : decode cX5_bravest 228 = .ok (.iinc 7 1, 3) := by decide +kernel
theorem dX5_bravest_231 : decode cX5_bravest 231 = .ok (.goto (-185), 3) := by decide +kernel
theorem dX5_bravest_234 : decode cX5_bravest 234 = .ok (.aload_n 0, 1) := by decide +kernel
theorem dX5_bravest_235 : decode cX5_bravest 235 = .ok (.aload_n 1, 1) := by decide +kernel
theorem dX5_bravest_236 : decode cX5_bravest 236 = .ok (.getfield 36, 3) := by decide +kernel
theorem dX5_bravest_239 : decode cX5_bravest 239 = .ok (.iload_n 3, 1) := by decide +kernel
theorem dX5_bravest_240 : decode cX5_bravest 240 = .ok (.baload, 1) := by decide +kernel
theorem dX5_bravest_241 : decode cX5_bravest 241 = .ok (.ifCond .eq 12, 3) := by decide +kernel
theorem dX5_bravest_244 : decode cX5_bravest 244 = .ok (.aload_n 0, 1) := by decide +kernel
theorem dX5_bravest_245 : decode cX5_bravest 245 = .ok (.aload_n 1, 1) := by decide +kernel
theorem dX5_bravest_246 : decode cX5_bravest 246 = .ok (.iload_n 3, 1) := by decide +kernel
theorem dX5_bravest_247 : decode cX5_bravest 247 = .ok (.invokevirtual 74, 3) := by decide +kernel
theorem dX5_bravest_250 : decode cX5_bravest 250 = .ok (.goto 7, 3) := by decide +kernel
theorem dX5_bravest_253 : decode cX5_bravest 253 = .ok (.aload_n 1, 1) := by decide +kernel
theorem dX5_bravest_254 : decode cX5_bravest 254 = .ok (.getfield 58, 3) := by decide +kernel
theorem dX5_bravest_257 : decode cX5_bravest 257 = .ok (.putfield 82, 3) := by decide +kernel
theorem dX5_bravest_260 : decode cX5_bravest 260 = .ok (.aload_n 0, 1) := by decide +kernel
theorem dX5_bravest_261 : decode cX5_bravest 261 = .ok (.getfield 24, 3) := by decide +kernel
theorem dX5_bravest_264 : decode cX5_bravest 264 = .ok (.iload_n 3, 1) := by decide +kernel
theorem dX5_bravest_265 : decode cX5_bravest 265 = .ok (.laload, 1) := by decide +kernel
theorem dX5_bravest_266 : decode cX5_bravest 266 = .ok (.lreturn, 1) := by decide +kernel
set_option maxHeartbeats 4000000 in
set_option maxRecDepth 100000 in
theorem k_oBrave_1 (l : Launch) (D : va_G) (k : KT) (A : Nat → Prop) (a : Nat → Nat) (z : SK) (G : GS) (p0 : Int32) (p1 : Int32) (ha_p0 : 0 ≤ p0.toInt ∧ p0.toInt ≤ 399) (ha_p1 : 1 ≤ p1.toInt ∧ p1.toInt ≤ 8) (hci : (G.1 7 6).toInt ≤ 399 ∧ (G.1 7 3).toInt ≤ (G.1 7 4).toInt ∧ ((G.1 7 7).toInt ≤ 0 ∨ (G.1 7 7).toInt + (G.1 7 4).toInt ≤ (G.1 7 6).toInt + 1)) : Met l yX5_bravest (WS yX5_bravest cX5_bravest 9 (some .long)) ({ frames := 3, cells := 0, slots := 0, locals := 63 }) (va_Pc [.ref (a 29), .ref (a 7), .ref (a 16), .int p0, .int p1] (cW D k A a z G)) (va_Ql (fun (r : Int64) (G1 : GS) => Bd G1 ∧ Fr [56, 57] [(29, 6)] G G1) (fun (G1 : GS) t => Wd D k A a G1 t.heap) A) 0 0 A := by
  refine Met.ofW (cc := cX5_bravest) (maxL := 9) (ret := (some .long)) (by decide) rfl ?_
  intro p e s m args below meth c s₁ B hml hv
  obtain ⟨rfl, hW, hB_G, hK, hZ⟩ := hv
  have hx := B.exec
  have hb := B.bytes
  have hr := B.returns
  have hts := atoms_spec (ws := WS yX5_bravest cX5_bravest 9 (some .long)) B.pre
  have hgd : ∀ w ∈ gd, w ∈ WS yX5_bravest cX5_bravest 9 (some .long) := fun w h => List.mem_cons_of_mem _ h
  have hg : ∀ w ∈ gd, w.before _ s = true := fun w h => hts w (hgd w h)
  have hown : s.vm.findClass RX5 = some m.cls := findClass_of_methodNamed B.named
  have hS : va_S A s.heap s.heap [] := va_S.rf
  have hF : Fr [56, 57] [(29, 6)] G G := Fr.rf
  have hl := lv_entry ([.ref (a 29), .ref (a 7), .ref (a 16), .int p0, .int p1]) (n := 9) (Nat.le_of_ble_eq_true rfl)
  rw [lg_entry_eq]
  generalize (lg_sl ([.ref (a 29), .ref (a 7), .ref (a 16), .int p0, .int p1]) ++ List.replicate (9 - (lg_sl ([.ref (a 29), .ref (a 7), .ref (a 16), .int p0, .int p1])).length) Slot.unset).toArray = ls at hl ⊢
  have hl : lv_has ls 9 [(0, .ref (a 29)), (1, .ref (a 7)), (2, .ref (a 16)), (3, .int p0), (4, .int p1)] := hl
  refine lv_lconst (v := 1) hx hb dX5_bravest_0 (by decide) ?_
  refine lv_lstore (lv' := [(5, .long 1), (0, .ref (a 29)), (1, .ref (a 7)), (2, .ref (a 16)), (3, .int p0), (4, .int p1)]) hx hb dX5_bravest_1 hl (by decide) rfl (fun ls hl => ?_)
  refine lv_iload_n hx hb dX5_bravest_3 rfl (lv_at hl 4 rfl) ?_
  refine lv_istore (lv' := [(7, .int p0), (5, .long 1), (0, .ref (a 29)), (1, .ref (a 7)), (2, .ref (a 16)), (3, .int p0), (4, .int p1)]) hx hb dX5_bravest_4 hl (by decide) rfl (fun ls hl => ?_)
  refine loop_N (Inv := fun n H locs ls => ∃ (G_1 : GS) (x_5 : Int32), (n : Int) = 401 - x_5.toInt ∧ (0 ≤ x_5.toInt ∧ x_5.toInt ≤ 401) ∧ Wd D k A a G_1 H ∧ Bd G_1 ∧ Fr [56, 57] [(29, 6)] G G_1 ∧ Fr [56, 57] [(29, 6)] G G_1 ∧ va_S A s.heap H locs ∧ lv_has ls 9 [(7, .int x_5), (5, .long 1), (0, .ref (a 29)), (1, .ref (a 7)), (2, .ref (a 16)), (3, .int p0), (4, .int p1)]) (fun n_4 H locs ls ih_3 hI => ?_) (401 - p0.toInt : Int).toNat ⟨G, p0, (Int.toNat_of_nonneg (by omega)), ⟨by omega, by omega⟩, hW, hB_G, hF, Fr.rf, hS, lv_sub hl [0, 1, 2, 3, 4, 5, 6] rfl⟩
  obtain ⟨G_1, x_5, hn_7, f_6, hW, hB_G_1, hF, hq_2, hS, hl⟩ := hI
  refine lv_iload hx hb dX5_bravest_6 (lv_at hl 0 rfl) ?_
  refine lv_aload_n hx hb dX5_bravest_8 rfl (lv_at hl 3 rfl) ?_
  have b_8 : (-1) ≤ (G.1 7 6).toInt ∧ (G.1 7 6).toInt ≤ 400 := hB_G.i 7 6 rfl rfl
  refine S_getI (v := (G.1 7 6)) (C := RX0) (T := TX0) (N := 8) hx hb hg iX0 hown hK hW kd_7 rfl 6 (by decide) (hg (Cond.fieldLink RX5 30 "SlabWalk$Course" "last" "I") m389) (fun _ h9 => h9) rfl (hq_2.i 7 6 (by decide) (by decide)) dX5_bravest_9 ?_
  refine lv_icmp_gt (tgt := 43) hx hb dX5_bravest_12 (by decide) (fun c_9 => ?_) (fun c_9 => ?_)
  · have c_9 : (G.1 7 6).toInt < x_5.toInt := xI_lt rfl rfl c_9
    refine lv_iconst (v := 0) hx hb dX5_bravest_43 (by decide) ?_
    refine lv_istore (lv' := [(7, .int 0), (5, .long 1), (0, .ref (a 29)), (1, .ref (a 7)), (2, .ref (a 16)), (3, .int p0), (4, .int p1)]) hx hb dX5_bravest_44 hl (by decide) rfl (fun ls hl => ?_)
    have qc_16 : (0 : Int32).toInt = 0 := rfl
    refine loop_N (Inv := fun n H locs ls => ∃ (G_10 : GS) (x_14 : Int32) (x_15 : Int64), (n : Int) = 8 - x_14.toInt ∧ (0 ≤ x_14.toInt ∧ x_14.toInt ≤ 8) ∧ Wd D k A a G_10 H ∧ Bd G_10 ∧ Fr [56, 57] [(29, 6)] G G_10 ∧ Fr [56, 57] [(29, 6)] G_1 G_10 ∧ va_S A s.heap H locs ∧ lv_has ls 9 [(7, .int x_14), (5, .long x_15), (0, .ref (a 29)), (1, .ref (a 7)), (2, .ref (a 16)), (3, .int p0), (4, .int p1)]) (fun n_13 H locs ls ih_12 hI => ?_) (8 - 0 : Int).toNat ⟨G_1, 0, 1, (Int.toNat_of_nonneg (by omega)), ⟨by omega, by omega⟩, hW, hB_G_1, hF, Fr.rf, hS, lv_sub hl [0, 1, 2, 3, 4, 5, 6] rfl⟩
    obtain ⟨G_10, x_14, x_15, hn_18, f_17, hW, hB_G_10, hF, hq_11, hS, hl⟩ := hI
    refine lv_iload hx hb dX5_bravest_46 (lv_at hl 0 rfl) ?_
    refine lv_iload hx hb dX5_bravest_48 (lv_at hl 6 rfl) ?_
    refine lv_icmp_ge (tgt := 234) hx hb dX5_bravest_50 (by decide) (fun c_19 => ?_) (fun c_19 => ?_)
    · have c_19 : p1.toInt ≤ x_14.toInt := xI_le rfl rfl c_19
      refine lv_aload_n hx hb dX5_bravest_234 rfl (lv_at hl 2 rfl) ?_
      refine lv_aload_n hx hb dX5_bravest_235 rfl (lv_at hl 3 rfl) ?_
      refine S_getR (n := 40) (C := RX0) (T := TX0) (N := 8) hx hb hg iX0 hown hK hW kd_7 rfl 0 (by decide) (hg (Cond.fieldLink RX5 36 "SlabWalk$Course" "lawful" "[Z") m372) (fun _ h9 => h9) rfl dX5_bravest_236 ?_
      refine lv_iload_n hx hb dX5_bravest_239 rfl (lv_at hl 5 rfl) ?_
      refine S_zald hx hb hK hW kd_40 (vin (by omega) (by omega)) dX5_bravest_240 (fun y_20 ey_20 => ?_)
      have ty_20 : 0 ≤ y_20.toInt ∧ y_20.toInt ≤ 1 := hB_G_10.v ey_20 rfl rfl
      refine lv_if_eq (tgt := 253) hx hb dX5_bravest_241 (by decide) (fun c_21 => ?_) (fun c_21 => ?_)
      · have c_21 : y_20.toInt = 0 := xI_eq rfl rfl c_21
        refine lv_aload_n hx hb dX5_bravest_253 rfl (lv_at hl 3 rfl) ?_
        have b_22 : 0 ≤ (G.1 7 3).toInt ∧ (G.1 7 3).toInt ≤ 60 := hB_G.i 7 3 rfl rfl
        refine S_getI (v := (G.1 7 3)) (C := RX0) (T := TX0) (N := 8) hx hb hg iX0 hown hK hW kd_7 rfl 3 (by decide) (hg (Cond.fieldLink RX5 58 "SlabWalk$Course" "least" "I") m379) (fun _ h9 => h9) rfl ((hq_11.i 7 3 (by decide) (by decide)).trans (hq_2.i 7 3 (by decide) (by decide))) dX5_bravest_254 ?_
        refine S_putI (ty := .int) (C := RX5) (T := TX5) (N := 7) hx hb hg iX5 tyX5 tyX5_ok nmX5 hown hK hW hS kd_29 rfl 6 (by decide) (hg (Cond.fieldLink RX5 82 "SlabWalk$Odds" "boldest" "I") m470) (fun _ h9 => h9) rfl (by decide +kernel) rfl rfl rfl dX5_bravest_257 (fun G_23 H locs eG_23 hW hS => ?_)
        have hB_G_23 : Bd G_23 := hB_G_10.put (lo := (-2147483648)) (hi := 2147483647) eG_23 rfl rfl rfl (tI_rng _).1 (tI_rng _).2 (hB_G_10.2.put eG_23 rfl)
        have hF := hF.put eG_23 (Or.inr (by decide))
        refine lv_aload_n hx hb dX5_bravest_260 rfl (lv_at hl 2 rfl) ?_
        refine S_getR (n := 56) (C := RX5) (T := TX5) (N := 7) hx hb hg iX5 hown hK hW kd_29 rfl 4 (by decide) (hg (Cond.fieldLink RX5 24 "SlabWalk$Odds" "odds" "[J") m468) (fun _ h9 => h9) rfl dX5_bravest_261 ?_
        refine lv_iload_n hx hb dX5_bravest_264 rfl (lv_at hl 5 rfl) ?_
        refine S_lald hx hb hK hW kd_56 (vin (by omega) (by omega)) dX5_bravest_265 (fun y_24 ey_24 => ?_)
        exact W.lret (v := y_24) hx hb hr (fun t ht _ => ⟨⟨y_24, G_23, rfl, ⟨hB_G_23, hF⟩, wd_t ht hW⟩, hS.F ht⟩) hS.2.2 dX5_bravest_266
      · have c_21 : y_20.toInt ≠ 0 := xI_ne rfl rfl c_21
        refine lv_aload_n hx hb dX5_bravest_244 rfl (lv_at hl 2 rfl) ?_
        refine lv_aload_n hx hb dX5_bravest_245 rfl (lv_at hl 3 rfl) ?_
        refine lv_iload_n hx hb dX5_bravest_246 rfl (lv_at hl 5 rfl) ?_
        refine S_calli (va_runV (As := [.ref (a 7), .int p0]) (rest := [.ref (a 29)]) ⟨hx, hb, hml, hown, hts⟩ (k_oBest l D k A a z G_10 p0 ⟨by omega, by omega⟩ (by omega)) (cwV 2 hts (gd_V hgd m1126 m1128 m39 m126 m1129) rfl rfl rfl (by decide +kernel) ⟨Nat.le_of_ble_eq_true rfl, Nat.le_of_ble_eq_true rfl⟩) (pre_V hW hB_G_10 hK hZ hS kd_29 rfl) rfl rfl hl.1 rfl (lv_room (Nat.le_of_ble_eq_true rfl)) dX5_bravest_247 ⟨Nat.le_of_ble_eq_true rfl, Nat.le_of_ble_eq_true rfl⟩) hS (fun r_25 G_26 H locs hpo hW hS => ?_)
        obtain ⟨hB_G_26, hq_27, f_29⟩ := hpo
        have hF := hF.call hq_27 (by decide) (by decide)
        refine lv_goto (tgt := 257) hx hb dX5_bravest_250 (by decide) ?_
        refine S_putI (ty := .int) (C := RX5) (T := TX5) (N := 7) hx hb hg iX5 tyX5 tyX5_ok nmX5 hown hK hW hS kd_29 rfl 6 (by decide) (hg (Cond.fieldLink RX5 82 "SlabWalk$Odds" "boldest" "I") m470) (fun _ h9 => h9) rfl (by decide +kernel) rfl rfl rfl dX5_bravest_257 (fun G_30 H locs eG_30 hW hS => ?_)
        have hB_G_30 : Bd G_30 := hB_G_26.put (lo := (-2147483648)) (hi := 2147483647) eG_30 rfl rfl rfl (tI_rng _).1 (tI_rng _).2 (hB_G_26.2.put eG_30 rfl)
        have hF := hF.put eG_30 (Or.inr (by decide))
        refine lv_aload_n hx hb dX5_bravest_260 rfl (lv_at hl 2 rfl) ?_
        refine S_getR (n := 56) (C := RX5) (T := TX5) (N := 7) hx hb hg iX5 hown hK hW kd_29 rfl 4 (by decide) (hg (Cond.fieldLink RX5 24 "SlabWalk$Odds" "odds" "[J") m468) (fun _ h9 => h9) rfl dX5_bravest_261 ?_
        refine lv_iload_n hx hb dX5_bravest_264 rfl (lv_at hl 5 rfl) ?_
        refine S_lald hx hb hK hW kd_56 (vin (by omega) (by omega)) dX5_bravest_265 (fun y_31 ey_31 => ?_)
        exact W.lret (v := y_31) hx hb hr (fun t ht _ => ⟨⟨y_31, G_30, rfl, ⟨hB_G_30, hF⟩, wd_t ht hW⟩, hS.F ht⟩) hS.2.2 dX5_bravest_266
    · have c_19 : x_14.toInt < p1.toInt := xI_nle rfl rfl c_19
      refine lv_aload_n hx hb dX5_bravest_53 rfl (lv_at hl 3 rfl) ?_
      refine S_getI (v := (G.1 7 6)) (C := RX0) (T := TX0) (N := 8) hx hb hg iX0 hown hK hW kd_7 rfl 6 (by decide) (hg (Cond.fieldLink RX5 30 "SlabWalk$Course" "last" "I") m389) (fun _ h9 => h9) rfl ((hq_11.i 7 6 (by decide) (by decide)).trans ((hq_2.i 7 6 (by decide) (by decide)).trans (rfl))) dX5_bravest_54 ?_
      refine lv_iconst (v := 1) hx hb dX5_bravest_57 (by decide) ?_
      refine lv_iadd hx hb dX5_bravest_58 ?_
      refine lv_topi (fun y_32 ey_32 => ?_)
      have ty_32 : y_32.toInt = (G.1 7 6).toInt + 1 := xI_add rfl rfl ey_32 (by omega) (by omega)
      refine lv_istore (lv' := [(8, .int y_32), (7, .int x_14), (5, .long x_15), (0, .ref (a 29)), (1, .ref (a 7)), (2, .ref (a 16)), (3, .int p0), (4, .int p1)]) hx hb dX5_bravest_59 hl (by decide) rfl (fun ls hl => ?_)
      refine loop_N (Inv := fun n H locs ls => ∃ (G_33 : GS) (x_37 : Int32), (n : Int) = 404 - x_37.toInt ∧ (0 ≤ x_37.toInt ∧ x_37.toInt ≤ 404) ∧ Wd D k A a G_33 H ∧ Bd G_33 ∧ Fr [56, 57] [(29, 6)] G G_33 ∧ Fr [56, 57] [] G_10 G_33 ∧ va_S A s.heap H locs ∧ lv_has ls 9 [(8, .int x_37), (7, .int x_14), (5, .long x_15), (0, .ref (a 29)), (1, .ref (a 7)), (2, .ref (a 16)), (3, .int p0), (4, .int p1)]) (fun n_36 H locs ls ih_35 hI => ?_) (404 - y_32.toInt : Int).toNat ⟨G_10, y_32, (Int.toNat_of_nonneg (by omega)), ⟨by omega, by omega⟩, hW, hB_G_10, hF, Fr.rf, hS, lv_sub hl [0, 1, 2, 3, 4, 5, 6, 7] rfl⟩
      obtain ⟨G_33, x_37, hn_39, f_38, hW, hB_G_33, hF, hq_34, hS, hl⟩ := hI
      refine lv_iload hx hb dX5_bravest_61 (lv_at hl 0 rfl) ?_
      refine lv_aload_n hx hb dX5_bravest_63 rfl (lv_at hl 4 rfl) ?_
      refine S_getI (v := (G.1 7 6)) (C := RX0) (T := TX0) (N := 8) hx hb hg iX0 hown hK hW kd_7 rfl 6 (by decide) (hg (Cond.fieldLink RX5 30 "SlabWalk$Course" "last" "I") m389) (fun _ h9 => h9) rfl ((hq_34.i 7 6 (by decide) (by decide)).trans ((hq_11.i 7 6 (by decide) (by decide)).trans ((hq_2.i 7 6 (by decide) (by decide)).trans (rfl)))) dX5_bravest_64 ?_
      refine lv_iconst (v := 3) hx hb dX5_bravest_67 (by decide) ?_
      refine lv_iadd hx hb dX5_bravest_68 ?_
      refine lv_topi (fun y_40 ey_40 => ?_)
      have ty_40 : y_40.toInt = (G.1 7 6).toInt + 3 := xI_add rfl rfl ey_40 (by omega) (by omega)
      refine lv_icmp_gt (tgt := 87) hx hb dX5_bravest_69 (by decide) (fun c_41 => ?_) (fun c_41 => ?_)
      · have c_41 : y_40.toInt < x_37.toInt := xI_lt rfl rfl c_41
        refine lv_lload hx hb dX5_bravest_87 (lv_at hl 2 rfl) ?_
        refine lv_aload_n hx hb dX5_bravest_89 rfl (lv_at hl 5 rfl) ?_
        refine lv_iconst (v := 0) hx hb dX5_bravest_90 (by decide) ?_
        refine S_iald hx hb hK hW kd_16 (vin (by decide) (by decide)) dX5_bravest_91 (fun y_42 ey_42 => ?_)
        have ty_42 : 0 ≤ y_42.toInt ∧ y_42.toInt ≤ 9 := hB_G_33.v ey_42 rfl rfl
        refine lv_aload_n hx hb dX5_bravest_92 rfl (lv_at hl 5 rfl) ?_
        refine lv_iconst (v := 1) hx hb dX5_bravest_93 (by decide) ?_
        refine S_iald hx hb hK hW kd_16 (vin (by decide) (by decide)) dX5_bravest_94 (fun y_43 ey_43 => ?_)
        have ty_43 : 0 ≤ y_43.toInt ∧ y_43.toInt ≤ 9 := hB_G_33.v ey_43 rfl rfl
        refine lv_iadd hx hb dX5_bravest_95 ?_
        refine lv_topi (fun y_44 ey_44 => ?_)
        have ty_44 : y_44.toInt = y_42.toInt + y_43.toInt := xI_add rfl rfl ey_44 (by omega) (by omega)
        refine lv_aload_n hx hb dX5_bravest_96 rfl (lv_at hl 5 rfl) ?_
        refine lv_iconst (v := 2) hx hb dX5_bravest_97 (by decide) ?_
        refine S_iald hx hb hK hW kd_16 (vin (by decide) (by decide)) dX5_bravest_98 (fun y_45 ey_45 => ?_)
        have ty_45 : 0 ≤ y_45.toInt ∧ y_45.toInt ≤ 9 := hB_G_33.v ey_45 rfl rfl
        refine lv_iadd hx hb dX5_bravest_99 ?_
        refine lv_topi (fun y_46 ey_46 => ?_)
        have ty_46 : y_46.toInt = y_44.toInt + y_45.toInt := xI_add rfl rfl ey_46 (by omega) (by omega)
        refine lv_i2l hx hb dX5_bravest_100 rfl ?_
        refine lv_topl (fun y_47 ey_47 => ?_)
        refine lv_lmul hx hb dX5_bravest_101 ?_
        refine lv_topl (fun y_48 ey_48 => ?_)
        refine lv_lstore (lv' := [(5, .long y_48), (8, .int x_37), (7, .int x_14), (0, .ref (a 29)), (1, .ref (a 7)), (2, .ref (a 16)), (3, .int p0), (4, .int p1)]) hx hb dX5_bravest_102 hl (by decide) rfl (fun ls hl => ?_)
        refine lv_iload_n hx hb dX5_bravest_104 rfl (lv_at hl 6 rfl) ?_
        refine lv_iconst (v := 1) hx hb dX5_bravest_105 (by decide) ?_
        refine lv_iadd hx hb dX5_bravest_106 ?_
        refine lv_topi (fun y_49 ey_49 => ?_)
        have ty_49 : y_49.toInt = p0.toInt + 1 := xI_add rfl rfl ey_49 (by omega) (by omega)
        refine lv_istore (lv' := [(8, .int y_49), (5, .long y_48), (7, .int x_14), (0, .ref (a 29)), (1, .ref (a 7)), (2, .ref (a 16)), (3, .int p0), (4, .int p1)]) hx hb dX5_bravest_107 hl (by decide) rfl (fun ls hl => ?_)
        refine loop_N (Inv := fun n H locs ls => ∃ (G_50 : GS) (x_54 : Int32), (n : Int) = 403 - x_54.toInt ∧ (1 ≤ x_54.toInt ∧ x_54.toInt ≤ 403) ∧ Wd D k A a G_50 H ∧ Bd G_50 ∧ Fr [56, 57] [(29, 6)] G G_50 ∧ Fr [56, 57] [] G_33 G_50 ∧ va_S A s.heap H locs ∧ lv_has ls 9 [(8, .int x_54), (5, .long y_48), (7, .int x_14), (0, .ref (a 29)), (1, .ref (a 7)), (2, .ref (a 16)), (3, .int p0), (4, .int p1)]) (fun n_53 H locs ls ih_52 hI => ?_) (403 - y_49.toInt : Int).toNat ⟨G_33, y_49, (Int.toNat_of_nonneg (by omega)), ⟨by omega, by omega⟩, hW, hB_G_33, hF, Fr.rf, hS, lv_sub hl [0, 1, 2, 3, 4, 5, 6, 7] rfl⟩
        obtain ⟨G_50, x_54, hn_56, f_55, hW, hB_G_50, hF, hq_51, hS, hl⟩ := hI
        refine lv_iload hx hb dX5_bravest_109 (lv_at hl 0 rfl) ?_
        refine lv_aload_n hx hb dX5_bravest_111 rfl (lv_at hl 4 rfl) ?_
        refine S_getI (v := (G.1 7 6)) (C := RX0) (T := TX0) (N := 8) hx hb hg iX0 hown hK hW kd_7 rfl 6 (by decide) (hg (Cond.fieldLink RX5 30 "SlabWalk$Course" "last" "I") m389) (fun _ h9 => h9) rfl ((hq_51.i 7 6 (by decide) (by decide)).trans ((hq_34.i 7 6 (by decide) (by decide)).trans ((hq_11.i 7 6 (by decide) (by decide)).trans ((hq_2.i 7 6 (by decide) (by decide)).trans (rfl))))) dX5_bravest_112 ?_
        refine lv_iconst (v := 2) hx hb dX5_bravest_115 (by decide) ?_
        refine lv_iadd hx hb dX5_bravest_116 ?_
        refine lv_topi (fun y_57 ey_57 => ?_)
        have ty_57 : y_57.toInt = (G.1 7 6).toInt + 2 := xI_add rfl rfl ey_57 (by omega) (by omega)
        refine lv_icmp_gt (tgt := 175) hx hb dX5_bravest_117 (by decide) (fun c_58 => ?_) (fun c_58 => ?_)
        · have c_58 : y_57.toInt < x_54.toInt := xI_lt rfl rfl c_58
          refine lv_iload_n hx hb dX5_bravest_175 rfl (lv_at hl 6 rfl) ?_
          refine lv_istore (lv' := [(8, .int p0), (5, .long y_48), (7, .int x_14), (0, .ref (a 29)), (1, .ref (a 7)), (2, .ref (a 16)), (3, .int p0), (4, .int p1)]) hx hb dX5_bravest_176 hl (by decide) rfl (fun ls hl => ?_)
          refine loop_N (Inv := fun n H locs ls => ∃ (G_59 : GS) (x_63 : Int32), (n : Int) = 401 - x_63.toInt ∧ (0 ≤ x_63.toInt ∧ x_63.toInt ≤ 401) ∧ Wd D k A a G_59 H ∧ Bd G_59 ∧ Fr [56, 57] [(29, 6)] G G_59 ∧ Fr [56] [] G_50 G_59 ∧ va_S A s.heap H locs ∧ lv_has ls 9 [(8, .int x_63), (5, .long y_48), (7, .int x_14), (0, .ref (a 29)), (1, .ref (a 7)), (2, .ref (a 16)), (3, .int p0), (4, .int p1)]) (fun n_62 H locs ls ih_61 hI => ?_) (401 - p0.toInt : Int).toNat ⟨G_50, p0, (Int.toNat_of_nonneg (by omega)), ⟨by omega, by omega⟩, hW, hB_G_50, hF, Fr.rf, hS, lv_sub hl [0, 1, 2, 3, 4, 5, 6, 7] rfl⟩
          obtain ⟨G_59, x_63, hn_65, f_64, hW, hB_G_59, hF, hq_60, hS, hl⟩ := hI
          refine lv_iload hx hb dX5_bravest_178 (lv_at hl 0 rfl) ?_
          refine lv_aload_n hx hb dX5_bravest_180 rfl (lv_at hl 4 rfl) ?_
          refine S_getI (v := (G.1 7 6)) (C := RX0) (T := TX0) (N := 8) hx hb hg iX0 hown hK hW kd_7 rfl 6 (by decide) (hg (Cond.fieldLink RX5 30 "SlabWalk$Course" "last" "I") m389) (fun _ h9 => h9) rfl ((hq_60.i 7 6 (by decide) (by decide)).trans ((hq_51.i 7 6 (by decide) (by decide)).trans ((hq_34.i 7 6 (by decide) (by decide)).trans ((hq_11.i 7 6 (by decide) (by decide)).trans ((hq_2.i 7 6 (by decide) (by decide)).trans (rfl)))))) dX5_bravest_181 ?_
          refine lv_icmp_gt (tgt := 228) hx hb dX5_bravest_184 (by decide) (fun c_66 => ?_) (fun c_66 => ?_)
          · have c_66 : (G.1 7 6).toInt < x_63.toInt := xI_lt rfl rfl c_66
            obtain ⟨y_67, ey_67⟩ : ∃ q, q = x_14 + 1 := ⟨_, rfl⟩
            have ty_67 : y_67.toInt = x_14.toInt + 1 := xI_add rfl rfl ey_67 (by omega) (by omega)
            refine lv_iinc (v := y_67) (lv' := [(7, .int y_67), (8, .int x_63), (5, .long y_48), (0, .ref (a 29)), (1, .ref (a 7)), (2, .ref (a 16)), (3, .int p0), (4, .int p1)]) hx hb dX5_bravest_228 hl (k := 2) rfl (by rw [ey_67]; rfl) (by decide) rfl (fun ls hl => ?_)
            refine lv_goto (tgt := 46) hx hb dX5_bravest_231 (by decide) ?_
            exact ih_12 (8 - y_67.toInt : Int).toNat (by omega) _ _ _ ⟨G_59, y_67, y_48, (Int.toNat_of_nonneg (by omega)), ⟨by omega, by omega⟩, hW, hB_G_59, hF, ((((Fr.rf.call hq_11 (by decide) (by decide)).call hq_34 (by decide) (by decide)).call hq_51 (by decide) (by decide)).call hq_60 (by decide) (by decide)), hS, lv_sub hl [0, 2, 3, 4, 5, 6, 7] rfl⟩
          · have c_66 : x_63.toInt ≤ (G.1 7 6).toInt := xI_nlt rfl rfl c_66
            refine lv_aload_n hx hb dX5_bravest_187 rfl (lv_at hl 3 rfl) ?_
            refine S_getR (n := 56) (C := RX5) (T := TX5) (N := 7) hx hb hg iX5 hown hK hW kd_29 rfl 4 (by decide) (hg (Cond.fieldLink RX5 24 "SlabWalk$Odds" "odds" "[J") m468) (fun _ h9 => h9) rfl dX5_bravest_188 ?_
            refine lv_iload hx hb dX5_bravest_191 (lv_at hl 0 rfl) ?_
            refine lv_aload_n hx hb dX5_bravest_193 rfl (lv_at hl 4 rfl) ?_
            refine S_getR (n := 40) (C := RX0) (T := TX0) (N := 8) hx hb hg iX0 hown hK hW kd_7 rfl 0 (by decide) (hg (Cond.fieldLink RX5 36 "SlabWalk$Course" "lawful" "[Z") m372) (fun _ h9 => h9) rfl dX5_bravest_194 ?_
            refine lv_iload hx hb dX5_bravest_197 (lv_at hl 0 rfl) ?_
            refine S_zald hx hb hK hW kd_40 (vin (by omega) (by omega)) dX5_bravest_199 (fun y_68 ey_68 => ?_)
            have ty_68 : 0 ≤ y_68.toInt ∧ y_68.toInt ≤ 1 := hB_G_59.v ey_68 rfl rfl
            refine lv_if_eq (tgt := 220) hx hb dX5_bravest_200 (by decide) (fun c_69 => ?_) (fun c_69 => ?_)
            · have c_69 : y_68.toInt = 0 := xI_eq rfl rfl c_69
              refine lv_lconst (v := 0) hx hb dX5_bravest_220 (by decide) ?_
              refine S_last hx hb hK hW hS kd_56 (vin (by omega) (by omega)) dX5_bravest_221 (fun G_70 H locs eG_70 hW hS => ?_)
              have hB_G_70 : Bd G_70 := hB_G_59.putl eG_70
              have hF := hF.putl eG_70 (Or.inl (by decide))
              obtain ⟨y_71, ey_71⟩ : ∃ q, q = x_63 + 1 := ⟨_, rfl⟩
              have ty_71 : y_71.toInt = x_63.toInt + 1 := xI_add rfl rfl ey_71 (by omega) (by omega)
              refine lv_iinc (v := y_71) (lv' := [(8, .int y_71), (5, .long y_48), (7, .int x_14), (0, .ref (a 29)), (1, .ref (a 7)), (2, .ref (a 16)), (3, .int p0), (4, .int p1)]) hx hb dX5_bravest_222 hl (k := 0) rfl (by rw [ey_71]; rfl) (by decide) rfl (fun ls hl => ?_)
              refine lv_goto (tgt := 178) hx hb dX5_bravest_225 (by decide) ?_
              exact ih_61 (401 - y_71.toInt : Int).toNat (by omega) _ _ _ ⟨G_70, y_71, (Int.toNat_of_nonneg (by omega)), ⟨by omega, by omega⟩, hW, hB_G_70, hF, ((Fr.rf.call hq_60 (by decide) (by decide)).putl eG_70 (Or.inl (by decide))), hS, lv_sub hl [0, 1, 2, 3, 4, 5, 6, 7] rfl⟩
            · have c_69 : y_68.toInt ≠ 0 := xI_ne rfl rfl c_69
              refine lv_aload_n hx hb dX5_bravest_203 rfl (lv_at hl 3 rfl) ?_
              refine lv_aload_n hx hb dX5_bravest_204 rfl (lv_at hl 4 rfl) ?_
              refine lv_iload hx hb dX5_bravest_205 (lv_at hl 0 rfl) ?_
              refine lv_aload_n hx hb dX5_bravest_207 rfl (lv_at hl 3 rfl) ?_
              refine lv_aload_n hx hb dX5_bravest_208 rfl (lv_at hl 4 rfl) ?_
              refine lv_iload hx hb dX5_bravest_209 (lv_at hl 0 rfl) ?_
              refine S_calli (va_runV (As := [.ref (a 7), .int x_63]) (rest := [.int x_63, .ref (a 7), .ref (a 29), .int x_63, .ref (a 56)]) ⟨hx, hb, hml, hown, hts⟩ (k_oBest l D k A a z G_59 x_63 ⟨by omega, by omega⟩ (by omega)) (cwV 2 hts (gd_V hgd m1126 m1128 m39 m126 m1129) rfl rfl rfl (by decide +kernel) ⟨Nat.le_of_ble_eq_true rfl, Nat.le_of_ble_eq_true rfl⟩) (pre_V hW hB_G_59 hK hZ hS kd_29 rfl) rfl rfl hl.1 rfl (lv_room (Nat.le_of_ble_eq_true rfl)) dX5_bravest_211 ⟨Nat.le_of_ble_eq_true rfl, Nat.le_of_ble_eq_true rfl⟩) hS (fun r_72 G_73 H locs hpo hW hS => ?_)
              obtain ⟨hB_G_73, hq_74, f_76⟩ := hpo
              have hF := hF.call hq_74 (by decide) (by decide)
              refine S_calll (va_runV (As := [.ref (a 7), .int x_63, .int r_72]) (rest := [.int x_63, .ref (a 56)]) ⟨hx, hb, hml, hown, hts⟩ (k_oAim l D k A a z G_73 x_63 r_72 ⟨by omega, by omega⟩ ⟨by omega, by omega⟩ (by omega)) (cwV 3 hts (gd_V hgd m1130 m1132 m40 m126 m1133) rfl rfl rfl (by decide +kernel) ⟨Nat.le_of_ble_eq_true rfl, Nat.le_of_ble_eq_true rfl⟩) (pre_V hW hB_G_73 hK hZ hS kd_29 rfl) rfl rfl hl.1 rfl (lv_room (Nat.le_of_ble_eq_true rfl)) dX5_bravest_214 ⟨Nat.le_of_ble_eq_true rfl, Nat.le_of_ble_eq_true rfl⟩) hS (fun r_77 G_78 H locs hpo hW hS => ?_)
              obtain ⟨hB_G_78, hq_79⟩ := hpo
              have hF := hF.call hq_79 (by decide) (by decide)
              refine lv_goto (tgt := 221) hx hb dX5_bravest_217 (by decide) ?_
              refine S_last hx hb hK hW hS kd_56 (vin (by omega) (by omega)) dX5_bravest_221 (fun G_81 H locs eG_81 hW hS => ?_)
              have hB_G_81 : Bd G_81 := hB_G_78.putl eG_81
              have hF := hF.putl eG_81 (Or.inl (by decide))
              obtain ⟨y_82, ey_82⟩ : ∃ q, q = x_63 + 1 := ⟨_, rfl⟩
              have ty_82 : y_82.toInt = x_63.toInt + 1 := xI_add rfl rfl ey_82 (by omega) (by omega)
              refine lv_iinc (v := y_82) (lv' := [(8, .int y_82), (5, .long y_48), (7, .int x_14), (0, .ref (a 29)), (1, .ref (a 7)), (2, .ref (a 16)), (3, .int p0), (4, .int p1)]) hx hb dX5_bravest_222 hl (k := 0) rfl (by rw [ey_82]; rfl) (by decide) rfl (fun ls hl => ?_)
              refine lv_goto (tgt := 178) hx hb dX5_bravest_225 (by decide) ?_
              exact ih_61 (401 - y_82.toInt : Int).toNat (by omega) _ _ _ ⟨G_81, y_82, (Int.toNat_of_nonneg (by omega)), ⟨by omega, by omega⟩, hW, hB_G_81, hF, ((((Fr.rf.call hq_60 (by decide) (by decide)).call hq_74 (by decide) (by decide)).call hq_79 (by decide) (by decide)).putl eG_81 (Or.inl (by decide))), hS, lv_sub hl [0, 1, 2, 3, 4, 5, 6, 7] rfl⟩
        · have c_58 : x_54.toInt ≤ y_57.toInt := xI_nlt rfl rfl c_58
          refine lv_aload_n hx hb dX5_bravest_120 rfl (lv_at hl 3 rfl) ?_
          refine S_getR (n := 57) (C := RX5) (T := TX5) (N := 7) hx hb hg iX5 hown hK hW kd_29 rfl 5 (by decide) (hg (Cond.fieldLink RX5 27 "SlabWalk$Odds" "aims" "[J") m469) (fun _ h9 => h9) rfl dX5_bravest_121 ?_
          refine lv_iload hx hb dX5_bravest_124 (lv_at hl 0 rfl) ?_
          refine lv_aload_n hx hb dX5_bravest_126 rfl (lv_at hl 5 rfl) ?_
          refine lv_iconst (v := 0) hx hb dX5_bravest_127 (by decide) ?_
          refine S_iald hx hb hK hW kd_16 (vin (by decide) (by decide)) dX5_bravest_128 (fun y_83 ey_83 => ?_)
          have ty_83 : 0 ≤ y_83.toInt ∧ y_83.toInt ≤ 9 := hB_G_50.v ey_83 rfl rfl
          refine lv_i2l hx hb dX5_bravest_129 rfl ?_
          refine lv_topl (fun y_84 ey_84 => ?_)
          refine lv_aload_n hx hb dX5_bravest_130 rfl (lv_at hl 3 rfl) ?_
          refine S_getR (n := 56) (C := RX5) (T := TX5) (N := 7) hx hb hg iX5 hown hK hW kd_29 rfl 4 (by decide) (hg (Cond.fieldLink RX5 24 "SlabWalk$Odds" "odds" "[J") m468) (fun _ h9 => h9) rfl dX5_bravest_131 ?_
          refine lv_iload hx hb dX5_bravest_134 (lv_at hl 0 rfl) ?_
          refine lv_iconst (v := 1) hx hb dX5_bravest_136 (by decide) ?_
          refine lv_isub hx hb dX5_bravest_137 ?_
          refine lv_topi (fun y_85 ey_85 => ?_)
          have ty_85 : y_85.toInt = x_54.toInt - 1 := xI_sub rfl rfl ey_85 (by omega) (by omega)
          refine S_lald hx hb hK hW kd_56 (vin (by omega) (by omega)) dX5_bravest_138 (fun y_86 ey_86 => ?_)
          refine lv_lmul hx hb dX5_bravest_139 ?_
          refine lv_topl (fun y_87 ey_87 => ?_)
          refine lv_aload_n hx hb dX5_bravest_140 rfl (lv_at hl 5 rfl) ?_
          refine lv_iconst (v := 1) hx hb dX5_bravest_141 (by decide) ?_
          refine S_iald hx hb hK hW kd_16 (vin (by decide) (by decide)) dX5_bravest_142 (fun y_88 ey_88 => ?_)
          have ty_88 : 0 ≤ y_88.toInt ∧ y_88.toInt ≤ 9 := hB_G_50.v ey_88 rfl rfl
          refine lv_i2l hx hb dX5_bravest_143 rfl ?_
          refine lv_topl (fun y_89 ey_89 => ?_)
          refine lv_aload_n hx hb dX5_bravest_144 rfl (lv_at hl 3 rfl) ?_
          refine S_getR (n := 56) (C := RX5) (T := TX5) (N := 7) hx hb hg iX5 hown hK hW kd_29 rfl 4 (by decide) (hg (Cond.fieldLink RX5 24 "SlabWalk$Odds" "odds" "[J") m468) (fun _ h9 => h9) rfl dX5_bravest_145 ?_
          refine lv_iload hx hb dX5_bravest_148 (lv_at hl 0 rfl) ?_
          refine S_lald hx hb hK hW kd_56 (vin (by omega) (by omega)) dX5_bravest_150 (fun y_90 ey_90 => ?_)
          refine lv_lmul hx hb dX5_bravest_151 ?_
          refine lv_topl (fun y_91 ey_91 => ?_)
          refine lv_ladd hx hb dX5_bravest_152 ?_
          refine lv_topl (fun y_92 ey_92 => ?_)
          refine lv_aload_n hx hb dX5_bravest_153 rfl (lv_at hl 5 rfl) ?_
          refine lv_iconst (v := 2) hx hb dX5_bravest_154 (by decide) ?_
          refine S_iald hx hb hK hW kd_16 (vin (by decide) (by decide)) dX5_bravest_155 (fun y_93 ey_93 => ?_)
          have ty_93 : 0 ≤ y_93.toInt ∧ y_93.toInt ≤ 9 := hB_G_50.v ey_93 rfl rfl
          refine lv_i2l hx hb dX5_bravest_156 rfl ?_
          refine lv_topl (fun y_94 ey_94 => ?_)
          refine lv_aload_n hx hb dX5_bravest_157 rfl (lv_at hl 3 rfl) ?_
          refine S_getR (n := 56) (C := RX5) (T := TX5) (N := 7) hx hb hg iX5 hown hK hW kd_29 rfl 4 (by decide) (hg (Cond.fieldLink RX5 24 "SlabWalk$Odds" "odds" "[J") m468) (fun _ h9 => h9) rfl dX5_bravest_158 ?_
          refine lv_iload hx hb dX5_bravest_161 (lv_at hl 0 rfl) ?_
          refine lv_iconst (v := 1) hx hb dX5_bravest_163 (by decide) ?_
          refine lv_iadd hx hb dX5_bravest_164 ?_
          refine lv_topi (fun y_95 ey_95 => ?_)
          have ty_95 : y_95.toInt = x_54.toInt + 1 := xI_add rfl rfl ey_95 (by omega) (by omega)
          refine S_lald hx hb hK hW kd_56 (vin (by omega) (by omega)) dX5_bravest_165 (fun y_96 ey_96 => ?_)
          refine lv_lmul hx hb dX5_bravest_166 ?_
          refine lv_topl (fun y_97 ey_97 => ?_)
          refine lv_ladd hx hb dX5_bravest_167 ?_
          refine lv_topl (fun y_98 ey_98 => ?_)
          refine S_last hx hb hK hW hS kd_57 (vin (by omega) (by omega)) dX5_bravest_168 (fun G_99 H locs eG_99 hW hS => ?_)
          have hB_G_99 : Bd G_99 := hB_G_50.putl eG_99
          have hF := hF.putl eG_99 (Or.inl (by decide))
          obtain ⟨y_100, ey_100⟩ : ∃ q, q = x_54 + 1 := ⟨_, rfl⟩
          have ty_100 : y_100.toInt = x_54.toInt + 1 := xI_add rfl rfl ey_100 (by omega) (by omega)
          refine lv_iinc (v := y_100) (lv' := [(8, .int y_100), (5, .long y_48), (7, .int x_14), (0, .ref (a 29)), (1, .ref (a 7)), (2, .ref (a 16)), (3, .int p0), (4, .int p1)]) hx hb dX5_bravest_169 hl (k := 0) rfl (by rw [ey_100]; rfl) (by decide) rfl (fun ls hl => ?_)
          refine lv_goto (tgt := 109) hx hb dX5_bravest_172 (by decide) ?_
          exact ih_52 (403 - y_100.toInt : Int).toNat (by omega) _ _ _ ⟨G_99, y_100, (Int.toNat_of_nonneg (by omega)), ⟨by omega, by omega⟩, hW, hB_G_99, hF, ((Fr.rf.call hq_51 (by decide) (by decide)).putl eG_99 (Or.inl (by decide))), hS, lv_sub hl [0, 1, 2, 3, 4, 5, 6, 7] rfl⟩
      · have c_41 : x_37.toInt ≤ y_40.toInt := xI_nlt rfl rfl c_41
        refine lv_aload_n hx hb dX5_bravest_72 rfl (lv_at hl 3 rfl) ?_
        refine S_getR (n := 56) (C := RX5) (T := TX5) (N := 7) hx hb hg iX5 hown hK hW kd_29 rfl 4 (by decide) (hg (Cond.fieldLink RX5 24 "SlabWalk$Odds" "odds" "[J") m468) (fun _ h9 => h9) rfl dX5_bravest_73 ?_
        refine lv_iload hx hb dX5_bravest_76 (lv_at hl 0 rfl) ?_
        refine lv_lload hx hb dX5_bravest_78 (lv_at hl 2 rfl) ?_
        refine S_last hx hb hK hW hS kd_56 (vin (by omega) (by omega)) dX5_bravest_80 (fun G_101 H locs eG_101 hW hS => ?_)
        have hB_G_101 : Bd G_101 := hB_G_33.putl eG_101
        have hF := hF.putl eG_101 (Or.inl (by decide))
        obtain ⟨y_102, ey_102⟩ : ∃ q, q = x_37 + 1 := ⟨_, rfl⟩
        have ty_102 : y_102.toInt = x_37.toInt + 1 := xI_add rfl rfl ey_102 (by omega) (by omega)
        refine lv_iinc (v := y_102) (lv' := [(8, .int y_102), (7, .int x_14), (5, .long x_15), (0, .ref (a 29)), (1, .ref (a 7)), (2, .ref (a 16)), (3, .int p0), (4, .int p1)]) hx hb dX5_bravest_81 hl (k := 0) rfl (by rw [ey_102]; rfl) (by decide) rfl (fun ls hl => ?_)
        refine lv_goto (tgt := 61) hx hb dX5_bravest_84 (by decide) ?_
        exact ih_35 (404 - y_102.toInt : Int).toNat (by omega) _ _ _ ⟨G_101, y_102, (Int.toNat_of_nonneg (by omega)), ⟨by omega, by omega⟩, hW, hB_G_101, hF, ((Fr.rf.call hq_34 (by decide) (by decide)).putl eG_101 (Or.inl (by decide))), hS, lv_sub hl [0, 1, 2, 3, 4, 5, 6, 7] rfl⟩
  · have c_9 : x_5.toInt ≤ (G.1 7 6).toInt := xI_nlt rfl rfl c_9
    refine lv_aload_n hx hb dX5_bravest_15 rfl (lv_at hl 2 rfl) ?_
    refine S_getR (n := 56) (C := RX5) (T := TX5) (N := 7) hx hb hg iX5 hown hK hW kd_29 rfl 4 (by decide) (hg (Cond.fieldLink RX5 24 "SlabWalk$Odds" "odds" "[J") m468) (fun _ h9 => h9) rfl dX5_bravest_16 ?_
    refine lv_iload hx hb dX5_bravest_19 (lv_at hl 0 rfl) ?_
    refine lv_aload_n hx hb dX5_bravest_21 rfl (lv_at hl 3 rfl) ?_
    refine S_getR (n := 40) (C := RX0) (T := TX0) (N := 8) hx hb hg iX0 hown hK hW kd_7 rfl 0 (by decide) (hg (Cond.fieldLink RX5 36 "SlabWalk$Course" "lawful" "[Z") m372) (fun _ h9 => h9) rfl dX5_bravest_22 ?_
    refine lv_iload hx hb dX5_bravest_25 (lv_at hl 0 rfl) ?_
    refine S_zald hx hb hK hW kd_40 (vin (by omega) (by omega)) dX5_bravest_27 (fun y_103 ey_103 => ?_)
    have ty_103 : 0 ≤ y_103.toInt ∧ y_103.toInt ≤ 1 := hB_G_1.v ey_103 rfl rfl
    refine lv_if_eq (tgt := 35) hx hb dX5_bravest_28 (by decide) (fun c_104 => ?_) (fun c_104 => ?_)
    · have c_104 : y_103.toInt = 0 := xI_eq rfl rfl c_104
      refine lv_lconst (v := 0) hx hb dX5_bravest_35 (by decide) ?_
      refine S_last hx hb hK hW hS kd_56 (vin (by omega) (by omega)) dX5_bravest_36 (fun G_105 H locs eG_105 hW hS => ?_)
      have hB_G_105 : Bd G_105 := hB_G_1.putl eG_105
      have hF := hF.putl eG_105 (Or.inl (by decide))
      obtain ⟨y_106, ey_106⟩ : ∃ q, q = x_5 + 1 := ⟨_, rfl⟩
      have ty_106 : y_106.toInt = x_5.toInt + 1 := xI_add rfl rfl ey_106 (by omega) (by omega)
      refine lv_iinc (v := y_106) (lv' := [(7, .int y_106), (5, .long 1), (0, .ref (a 29)), (1, .ref (a 7)), (2, .ref (a 16)), (3, .int p0), (4, .int p1)]) hx hb dX5_bravest_37 hl (k := 0) rfl (by rw [ey_106]; rfl) (by decide) rfl (fun ls hl => ?_)
      refine lv_goto (tgt := 6) hx hb dX5_bravest_40 (by decide) ?_
      exact ih_3 (401 - y_106.toInt : Int).toNat (by omega) _ _ _ ⟨G_105, y_106, (Int.toNat_of_nonneg (by omega)), ⟨by omega, by omega⟩, hW, hB_G_105, hF, ((Fr.rf.call hq_2 (by decide) (by decide)).putl eG_105 (Or.inl (by decide))), hS, lv_sub hl [0, 1, 2, 3, 4, 5, 6] rfl⟩
    · have c_104 : y_103.toInt ≠ 0 := xI_ne rfl rfl c_104
      refine lv_lconst (v := 1) hx hb dX5_bravest_31 (by decide) ?_
      refine lv_goto (tgt := 36) hx hb dX5_bravest_32 (by decide) ?_
      refine S_last hx hb hK hW hS kd_56 (vin (by omega) (by omega)) dX5_bravest_36 (fun G_107 H locs eG_107 hW hS => ?_)
      have hB_G_107 : Bd G_107 := hB_G_1.putl eG_107
      have hF := hF.putl eG_107 (Or.inl (by decide))
      obtain ⟨y_108, ey_108⟩ : ∃ q, q = x_5 + 1 := ⟨_, rfl⟩
      have ty_108 : y_108.toInt = x_5.toInt + 1 := xI_add rfl rfl ey_108 (by omega) (by omega)
      refine lv_iinc (v := y_108) (lv' := [(7, .int y_108), (5, .long 1), (0, .ref (a 29)), (1, .ref (a 7)), (2, .ref (a 16)), (3, .int p0), (4, .int p1)]) hx hb dX5_bravest_37 hl (k := 0) rfl (by rw [ey_108]; rfl) (by decide) rfl (fun ls hl => ?_)
      refine lv_goto (tgt := 6) hx hb dX5_bravest_40 (by decide) ?_
      exact ih_3 (401 - y_108.toInt : Int).toNat (by omega) _ _ _ ⟨G_107, y_108, (Int.toNat_of_nonneg (by omega)), ⟨by omega, by omega⟩, hW, hB_G_107, hF, ((Fr.rf.call hq_2 (by decide) (by decide)).putl eG_107 (Or.inl (by decide))), hS, lv_sub hl [0, 1, 2, 3, 4, 5, 6] rfl⟩

set_option maxHeartbeats 4000000 in
set_option maxRecDepth 100000 in
theorem k_oBrave_2 (l : Launch) (D : va_G) (k : KT) (A : Nat → Prop) (a : Nat → Nat) (z : SK) (G : GS) (p0 : Int32) (p1 : Int32) (ha_p0 : 0 ≤ p0.toInt ∧ p0.toInt ≤ 399) (ha_p1 : 1 ≤ p1.toInt ∧ p1.toInt ≤ 8) (hci : (G.1 7 6).toInt ≤ 399 ∧ (G.1 7 3).toInt ≤ (G.1 7 4).toInt ∧ ((G.1 7 7).toInt ≤ 0 ∨ (G.1 7 7).toInt + (G.1 7 4).toInt ≤ (G.1 7 6).toInt + 1)) : Met l yX5_bravest (WS yX5_bravest cX5_bravest 9 (some .long)) ({ frames := 3, cells := 0, slots := 0, locals := 63 }) (va_Pc [.ref (a 29), .ref (a 7), .ref (a 26), .int p0, .int p1] (cW D k A a z G)) (va_Ql (fun (r : Int64) (G1 : GS) => Bd G1 ∧ Fr [56, 57] [(29, 6)] G G1) (fun (G1 : GS) t => Wd D k A a G1 t.heap) A) 0 0 A := by
  refine Met.ofW (cc := cX5_bravest) (maxL := 9) (ret := (some .long)) (by decide) rfl ?_
  intro p e s m args below meth c s₁ B hml hv
  obtain ⟨rfl, hW, hB_G, hK, hZ⟩ := hv
  have hx := B.exec
  have hb := B.bytes
  have hr := B.returns
  have hts := atoms_spec (ws := WS yX5_bravest cX5_bravest 9 (some .long)) B.pre
  have hgd : ∀ w ∈ gd, w ∈ WS yX5_bravest cX5_bravest 9 (some .long) := fun w h => List.mem_cons_of_mem _ h
  have hg : ∀ w ∈ gd, w.before _ s = true := fun w h => hts w (hgd w h)
  have hown : s.vm.findClass RX5 = some m.cls := findClass_of_methodNamed B.named
  have hS : va_S A s.heap s.heap [] := va_S.rf
  have hF : Fr [56, 57] [(29, 6)] G G := Fr.rf
  have hl := lv_entry ([.ref (a 29), .ref (a 7), .ref (a 26), .int p0, .int p1]) (n := 9) (Nat.le_of_ble_eq_true rfl)
  rw [lg_entry_eq]
  generalize (lg_sl ([.ref (a 29), .ref (a 7), .ref (a 26), .int p0, .int p1]) ++ List.replicate (9 - (lg_sl ([.ref (a 29), .ref (a 7), .ref (a 26), .int p0, .int p1])).length) Slot.unset).toArray = ls at hl ⊢
  have hl : lv_has ls 9 [(0, .ref (a 29)), (1, .ref (a 7)), (2, .ref (a 26)), (3, .int p0), (4, .int p1)] := hl
  refine lv_lconst (v := 1) hx hb dX5_bravest_0 (by decide) ?_
  refine lv_lstore (lv' := [(5, .long 1), (0, .ref (a 29)), (1, .ref (a 7)), (2, .ref (a 26)), (3, .int p0), (4, .int p1)]) hx hb dX5_bravest_1 hl (by decide) rfl (fun ls hl => ?_)
  refine lv_iload_n hx hb dX5_bravest_3 rfl (lv_at hl 4 rfl) ?_
  refine lv_istore (lv' := [(7, .int p0), (5, .long 1), (0, .ref (a 29)), (1, .ref (a 7)), (2, .ref (a 26)), (3, .int p0), (4, .int p1)]) hx hb dX5_bravest_4 hl (by decide) rfl (fun ls hl => ?_)
  refine loop_N (Inv := fun n H locs ls => ∃ (G_1 : GS) (x_5 : Int32), (n : Int) = 401 - x_5.toInt ∧ (0 ≤ x_5.toInt ∧ x_5.toInt ≤ 401) ∧ Wd D k A a G_1 H ∧ Bd G_1 ∧ Fr [56, 57] [(29, 6)] G G_1 ∧ Fr [56, 57] [(29, 6)] G G_1 ∧ va_S A s.heap H locs ∧ lv_has ls 9 [(7, .int x_5), (5, .long 1), (0, .ref (a 29)), (1, .ref (a 7)), (2, .ref (a 26)), (3, .int p0), (4, .int p1)]) (fun n_4 H locs ls ih_3 hI => ?_) (401 - p0.toInt : Int).toNat ⟨G, p0, (Int.toNat_of_nonneg (by omega)), ⟨by omega, by omega⟩, hW, hB_G, hF, Fr.rf, hS, lv_sub hl [0, 1, 2, 3, 4, 5, 6] rfl⟩
  obtain ⟨G_1, x_5, hn_7, f_6, hW, hB_G_1, hF, hq_2, hS, hl⟩ := hI
  refine lv_iload hx hb dX5_bravest_6 (lv_at hl 0 rfl) ?_
  refine lv_aload_n hx hb dX5_bravest_8 rfl (lv_at hl 3 rfl) ?_
  have b_8 : (-1) ≤ (G.1 7 6).toInt ∧ (G.1 7 6).toInt ≤ 400 := hB_G.i 7 6 rfl rfl
  refine S_getI (v := (G.1 7 6)) (C := RX0) (T := TX0) (N := 8) hx hb hg iX0 hown hK hW kd_7 rfl 6 (by decide) (hg (Cond.fieldLink RX5 30 "SlabWalk$Course" "last" "I") m389) (fun _ h9 => h9) rfl (hq_2.i 7 6 (by decide) (by decide)) dX5_bravest_9 ?_
  refine lv_icmp_gt (tgt := 43) hx hb dX5_bravest_12 (by decide) (fun c_9 => ?_) (fun c_9 => ?_)
  · have c_9 : (G.1 7 6).toInt < x_5.toInt := xI_lt rfl rfl c_9
    refine lv_iconst (v := 0) hx hb dX5_bravest_43 (by decide) ?_
    refine lv_istore (lv' := [(7, .int 0), (5, .long 1), (0, .ref (a 29)), (1, .ref (a 7)), (2, .ref (a 26)), (3, .int p0), (4, .int p1)]) hx hb dX5_bravest_44 hl (by decide) rfl (fun ls hl => ?_)
    have qc_16 : (0 : Int32).toInt = 0 := rfl
    refine loop_N (Inv := fun n H locs ls => ∃ (G_10 : GS) (x_14 : Int32) (x_15 : Int64), (n : Int) = 8 - x_14.toInt ∧ (0 ≤ x_14.toInt ∧ x_14.toInt ≤ 8) ∧ Wd D k A a G_10 H ∧ Bd G_10 ∧ Fr [56, 57] [(29, 6)] G G_10 ∧ Fr [56, 57] [(29, 6)] G_1 G_10 ∧ va_S A s.heap H locs ∧ lv_has ls 9 [(7, .int x_14), (5, .long x_15), (0, .ref (a 29)), (1, .ref (a 7)), (2, .ref (a 26)), (3, .int p0), (4, .int p1)]) (fun n_13 H locs ls ih_12 hI => ?_) (8 - 0 : Int).toNat ⟨G_1, 0, 1, (Int.toNat_of_nonneg (by omega)), ⟨by omega, by omega⟩, hW, hB_G_1, hF, Fr.rf, hS, lv_sub hl [0, 1, 2, 3, 4, 5, 6] rfl⟩
    obtain ⟨G_10, x_14, x_15, hn_18, f_17, hW, hB_G_10, hF, hq_11, hS, hl⟩ := hI
    refine lv_iload hx hb dX5_bravest_46 (lv_at hl 0 rfl) ?_
    refine lv_iload hx hb dX5_bravest_48 (lv_at hl 6 rfl) ?_
    refine lv_icmp_ge (tgt := 234) hx hb dX5_bravest_50 (by decide) (fun c_19 => ?_) (fun c_19 => ?_)
    · have c_19 : p1.toInt ≤ x_14.toInt := xI_le rfl rfl c_19
      refine lv_aload_n hx hb dX5_bravest_234 rfl (lv_at hl 2 rfl) ?_
      refine lv_aload_n hx hb dX5_bravest_235 rfl (lv_at hl 3 rfl) ?_
      refine S_getR (n := 40) (C := RX0) (T := TX0) (N := 8) hx hb hg iX0 hown hK hW kd_7 rfl 0 (by decide) (hg (Cond.fieldLink RX5 36 "SlabWalk$Course" "lawful" "[Z") m372) (fun _ h9 => h9) rfl dX5_bravest_236 ?_
      refine lv_iload_n hx hb dX5_bravest_239 rfl (lv_at hl 5 rfl) ?_
      refine S_zald hx hb hK hW kd_40 (vin (by omega) (by omega)) dX5_bravest_240 (fun y_20 ey_20 => ?_)
      have ty_20 : 0 ≤ y_20.toInt ∧ y_20.toInt ≤ 1 := hB_G_10.v ey_20 rfl rfl
      refine lv_if_eq (tgt := 253) hx hb dX5_bravest_241 (by decide) (fun c_21 => ?_) (fun c_21 => ?_)
      · have c_21 : y_20.toInt = 0 := xI_eq rfl rfl c_21
        refine lv_aload_n hx hb dX5_bravest_253 rfl (lv_at hl 3 rfl) ?_
        have b_22 : 0 ≤ (G.1 7 3).toInt ∧ (G.1 7 3).toInt ≤ 60 := hB_G.i 7 3 rfl rfl
        refine S_getI (v := (G.1 7 3)) (C := RX0) (T := TX0) (N := 8) hx hb hg iX0 hown hK hW kd_7 rfl 3 (by decide) (hg (Cond.fieldLink RX5 58 "SlabWalk$Course" "least" "I") m379) (fun _ h9 => h9) rfl ((hq_11.i 7 3 (by decide) (by decide)).trans (hq_2.i 7 3 (by decide) (by decide))) dX5_bravest_254 ?_
        refine S_putI (ty := .int) (C := RX5) (T := TX5) (N := 7) hx hb hg iX5 tyX5 tyX5_ok nmX5 hown hK hW hS kd_29 rfl 6 (by decide) (hg (Cond.fieldLink RX5 82 "SlabWalk$Odds" "boldest" "I") m470) (fun _ h9 => h9) rfl (by decide +kernel) rfl rfl rfl dX5_bravest_257 (fun G_23 H locs eG_23 hW hS => ?_)
        have hB_G_23 : Bd G_23 := hB_G_10.put (lo := (-2147483648)) (hi := 2147483647) eG_23 rfl rfl rfl (tI_rng _).1 (tI_rng _).2 (hB_G_10.2.put eG_23 rfl)
        have hF := hF.put eG_23 (Or.inr (by decide))
        refine lv_aload_n hx hb dX5_bravest_260 rfl (lv_at hl 2 rfl) ?_
        refine S_getR (n := 56) (C := RX5) (T := TX5) (N := 7) hx hb hg iX5 hown hK hW kd_29 rfl 4 (by decide) (hg (Cond.fieldLink RX5 24 "SlabWalk$Odds" "odds" "[J") m468) (fun _ h9 => h9) rfl dX5_bravest_261 ?_
        refine lv_iload_n hx hb dX5_bravest_264 rfl (lv_at hl 5 rfl) ?_
        refine S_lald hx hb hK hW kd_56 (vin (by omega) (by omega)) dX5_bravest_265 (fun y_24 ey_24 => ?_)
        exact W.lret (v := y_24) hx hb hr (fun t ht _ => ⟨⟨y_24, G_23, rfl, ⟨hB_G_23, hF⟩, wd_t ht hW⟩, hS.F ht⟩) hS.2.2 dX5_bravest_266
      · have c_21 : y_20.toInt ≠ 0 := xI_ne rfl rfl c_21
        refine lv_aload_n hx hb dX5_bravest_244 rfl (lv_at hl 2 rfl) ?_
        refine lv_aload_n hx hb dX5_bravest_245 rfl (lv_at hl 3 rfl) ?_
        refine lv_iload_n hx hb dX5_bravest_246 rfl (lv_at hl 5 rfl) ?_
        refine S_calli (va_runV (As := [.ref (a 7), .int p0]) (rest := [.ref (a 29)]) ⟨hx, hb, hml, hown, hts⟩ (k_oBest l D k A a z G_10 p0 ⟨by omega, by omega⟩ (by omega)) (cwV 2 hts (gd_V hgd m1126 m1128 m39 m126 m1129) rfl rfl rfl (by decide +kernel) ⟨Nat.le_of_ble_eq_true rfl, Nat.le_of_ble_eq_true rfl⟩) (pre_V hW hB_G_10 hK hZ hS kd_29 rfl) rfl rfl hl.1 rfl (lv_room (Nat.le_of_ble_eq_true rfl)) dX5_bravest_247 ⟨Nat.le_of_ble_eq_true rfl, Nat.le_of_ble_eq_true rfl⟩) hS (fun r_25 G_26 H locs hpo hW hS => ?_)
        obtain ⟨hB_G_26, hq_27, f_29⟩ := hpo
        have hF := hF.call hq_27 (by decide) (by decide)
        refine lv_goto (tgt := 257) hx hb dX5_bravest_250 (by decide) ?_
        refine S_putI (ty := .int) (C := RX5) (T := TX5) (N := 7) hx hb hg iX5 tyX5 tyX5_ok nmX5 hown hK hW hS kd_29 rfl 6 (by decide) (hg (Cond.fieldLink RX5 82 "SlabWalk$Odds" "boldest" "I") m470) (fun _ h9 => h9) rfl (by decide +kernel) rfl rfl rfl dX5_bravest_257 (fun G_30 H locs eG_30 hW hS => ?_)
        have hB_G_30 : Bd G_30 := hB_G_26.put (lo := (-2147483648)) (hi := 2147483647) eG_30 rfl rfl rfl (tI_rng _).1 (tI_rng _).2 (hB_G_26.2.put eG_30 rfl)
        have hF := hF.put eG_30 (Or.inr (by decide))
        refine lv_aload_n hx hb dX5_bravest_260 rfl (lv_at hl 2 rfl) ?_
        refine S_getR (n := 56) (C := RX5) (T := TX5) (N := 7) hx hb hg iX5 hown hK hW kd_29 rfl 4 (by decide) (hg (Cond.fieldLink RX5 24 "SlabWalk$Odds" "odds" "[J") m468) (fun _ h9 => h9) rfl dX5_bravest_261 ?_
        refine lv_iload_n hx hb dX5_bravest_264 rfl (lv_at hl 5 rfl) ?_
        refine S_lald hx hb hK hW kd_56 (vin (by omega) (by omega)) dX5_bravest_265 (fun y_31 ey_31 => ?_)
        exact W.lret (v := y_31) hx hb hr (fun t ht _ => ⟨⟨y_31, G_30, rfl, ⟨hB_G_30, hF⟩, wd_t ht hW⟩, hS.F ht⟩) hS.2.2 dX5_bravest_266
    · have c_19 : x_14.toInt < p1.toInt := xI_nle rfl rfl c_19
      refine lv_aload_n hx hb dX5_bravest_53 rfl (lv_at hl 3 rfl) ?_
      refine S_getI (v := (G.1 7 6)) (C := RX0) (T := TX0) (N := 8) hx hb hg iX0 hown hK hW kd_7 rfl 6 (by decide) (hg (Cond.fieldLink RX5 30 "SlabWalk$Course" "last" "I") m389) (fun _ h9 => h9) rfl ((hq_11.i 7 6 (by decide) (by decide)).trans ((hq_2.i 7 6 (by decide) (by decide)).trans (rfl))) dX5_bravest_54 ?_
      refine lv_iconst (v := 1) hx hb dX5_bravest_57 (by decide) ?_
      refine lv_iadd hx hb dX5_bravest_58 ?_
      refine lv_topi (fun y_32 ey_32 => ?_)
      have ty_32 : y_32.toInt = (G.1 7 6).toInt + 1 := xI_add rfl rfl ey_32 (by omega) (by omega)
      refine lv_istore (lv' := [(8, .int y_32), (7, .int x_14), (5, .long x_15), (0, .ref (a 29)), (1, .ref (a 7)), (2, .ref (a 26)), (3, .int p0), (4, .int p1)]) hx hb dX5_bravest_59 hl (by decide) rfl (fun ls hl => ?_)
      refine loop_N (Inv := fun n H locs ls => ∃ (G_33 : GS) (x_37 : Int32), (n : Int) = 404 - x_37.toInt ∧ (0 ≤ x_37.toInt ∧ x_37.toInt ≤ 404) ∧ Wd D k A a G_33 H ∧ Bd G_33 ∧ Fr [56, 57] [(29, 6)] G G_33 ∧ Fr [56, 57] [] G_10 G_33 ∧ va_S A s.heap H locs ∧ lv_has ls 9 [(8, .int x_37), (7, .int x_14), (5, .long x_15), (0, .ref (a 29)), (1, .ref (a 7)), (2, .ref (a 26)), (3, .int p0), (4, .int p1)]) (fun n_36 H locs ls ih_35 hI => ?_) (404 - y_32.toInt : Int).toNat ⟨G_10, y_32, (Int.toNat_of_nonneg (by omega)), ⟨by omega, by omega⟩, hW, hB_G_10, hF, Fr.rf, hS, lv_sub hl [0, 1, 2, 3, 4, 5, 6, 7] rfl⟩
      obtain ⟨G_33, x_37, hn_39, f_38, hW, hB_G_33, hF, hq_34, hS, hl⟩ := hI
      refine lv_iload hx hb dX5_bravest_61 (lv_at hl 0 rfl) ?_
      refine lv_aload_n hx hb dX5_bravest_63 rfl (lv_at hl 4 rfl) ?_
      refine S_getI (v := (G.1 7 6)) (C := RX0) (T := TX0) (N := 8) hx hb hg iX0 hown hK hW kd_7 rfl 6 (by decide) (hg (Cond.fieldLink RX5 30 "SlabWalk$Course" "last" "I") m389) (fun _ h9 => h9) rfl ((hq_34.i 7 6 (by decide) (by decide)).trans ((hq_11.i 7 6 (by decide) (by decide)).trans ((hq_2.i 7 6 (by decide) (by decide)).trans (rfl)))) dX5_bravest_64 ?_
      refine lv_iconst (v := 3) hx hb dX5_bravest_67 (by decide) ?_
      refine lv_iadd hx hb dX5_bravest_68 ?_
      refine lv_topi (fun y_40 ey_40 => ?_)
      have ty_40 : y_40.toInt = (G.1 7 6).toInt + 3 := xI_add rfl rfl ey_40 (by omega) (by omega)
      refine lv_icmp_gt (tgt := 87) hx hb dX5_bravest_69 (by decide) (fun c_41 => ?_) (fun c_41 => ?_)
      · have c_41 : y_40.toInt < x_37.toInt := xI_lt rfl rfl c_41
        refine lv_lload hx hb dX5_bravest_87 (lv_at hl 2 rfl) ?_
        refine lv_aload_n hx hb dX5_bravest_89 rfl (lv_at hl 5 rfl) ?_
        refine lv_iconst (v := 0) hx hb dX5_bravest_90 (by decide) ?_
        refine S_iald hx hb hK hW kd_26 (vin (by decide) (by decide)) dX5_bravest_91 (fun y_42 ey_42 => ?_)
        have ty_42 : 0 ≤ y_42.toInt ∧ y_42.toInt ≤ 9 := hB_G_33.v ey_42 rfl rfl
        refine lv_aload_n hx hb dX5_bravest_92 rfl (lv_at hl 5 rfl) ?_
        refine lv_iconst (v := 1) hx hb dX5_bravest_93 (by decide) ?_
        refine S_iald hx hb hK hW kd_26 (vin (by decide) (by decide)) dX5_bravest_94 (fun y_43 ey_43 => ?_)
        have ty_43 : 0 ≤ y_43.toInt ∧ y_43.toInt ≤ 9 := hB_G_33.v ey_43 rfl rfl
        refine lv_iadd hx hb dX5_bravest_95 ?_
        refine lv_topi (fun y_44 ey_44 => ?_)
        have ty_44 : y_44.toInt = y_42.toInt + y_43.toInt := xI_add rfl rfl ey_44 (by omega) (by omega)
        refine lv_aload_n hx hb dX5_bravest_96 rfl (lv_at hl 5 rfl) ?_
        refine lv_iconst (v := 2) hx hb dX5_bravest_97 (by decide) ?_
        refine S_iald hx hb hK hW kd_26 (vin (by decide) (by decide)) dX5_bravest_98 (fun y_45 ey_45 => ?_)
        have ty_45 : 0 ≤ y_45.toInt ∧ y_45.toInt ≤ 9 := hB_G_33.v ey_45 rfl rfl
        refine lv_iadd hx hb dX5_bravest_99 ?_
        refine lv_topi (fun y_46 ey_46 => ?_)
        have ty_46 : y_46.toInt = y_44.toInt + y_45.toInt := xI_add rfl rfl ey_46 (by omega) (by omega)
        refine lv_i2l hx hb dX5_bravest_100 rfl ?_
        refine lv_topl (fun y_47 ey_47 => ?_)
        refine lv_lmul hx hb dX5_bravest_101 ?_
        refine lv_topl (fun y_48 ey_48 => ?_)
        refine lv_lstore (lv' := [(5, .long y_48), (8, .int x_37), (7, .int x_14), (0, .ref (a 29)), (1, .ref (a 7)), (2, .ref (a 26)), (3, .int p0), (4, .int p1)]) hx hb dX5_bravest_102 hl (by decide) rfl (fun ls hl => ?_)
        refine lv_iload_n hx hb dX5_bravest_104 rfl (lv_at hl 6 rfl) ?_
        refine lv_iconst (v := 1) hx hb dX5_bravest_105 (by decide) ?_
        refine lv_iadd hx hb dX5_bravest_106 ?_
        refine lv_topi (fun y_49 ey_49 => ?_)
        have ty_49 : y_49.toInt = p0.toInt + 1 := xI_add rfl rfl ey_49 (by omega) (by omega)
        refine lv_istore (lv' := [(8, .int y_49), (5, .long y_48), (7, .int x_14), (0, .ref (a 29)), (1, .ref (a 7)), (2, .ref (a 26)), (3, .int p0), (4, .int p1)]) hx hb dX5_bravest_107 hl (by decide) rfl (fun ls hl => ?_)
        refine loop_N (Inv := fun n H locs ls => ∃ (G_50 : GS) (x_54 : Int32), (n : Int) = 403 - x_54.toInt ∧ (1 ≤ x_54.toInt ∧ x_54.toInt ≤ 403) ∧ Wd D k A a G_50 H ∧ Bd G_50 ∧ Fr [56, 57] [(29, 6)] G G_50 ∧ Fr [56, 57] [] G_33 G_50 ∧ va_S A s.heap H locs ∧ lv_has ls 9 [(8, .int x_54), (5, .long y_48), (7, .int x_14), (0, .ref (a 29)), (1, .ref (a 7)), (2, .ref (a 26)), (3, .int p0), (4, .int p1)]) (fun n_53 H locs ls ih_52 hI => ?_) (403 - y_49.toInt : Int).toNat ⟨G_33, y_49, (Int.toNat_of_nonneg (by omega)), ⟨by omega, by omega⟩, hW, hB_G_33, hF, Fr.rf, hS, lv_sub hl [0, 1, 2, 3, 4, 5, 6, 7] rfl⟩
        obtain ⟨G_50, x_54, hn_56, f_55, hW, hB_G_50, hF, hq_51, hS, hl⟩ := hI
        refine lv_iload hx hb dX5_bravest_109 (lv_at hl 0 rfl) ?_
        refine lv_aload_n hx hb dX5_bravest_111 rfl (lv_at hl 4 rfl) ?_
        refine S_getI (v := (G.1 7 6)) (C := RX0) (T := TX0) (N := 8) hx hb hg iX0 hown hK hW kd_7 rfl 6 (by decide) (hg (Cond.fieldLink RX5 30 "SlabWalk$Course" "last" "I") m389) (fun _ h9 => h9) rfl ((hq_51.i 7 6 (by decide) (by decide)).trans ((hq_34.i 7 6 (by decide) (by decide)).trans ((hq_11.i 7 6 (by decide) (by decide)).trans ((hq_2.i 7 6 (by decide) (by decide)).trans (rfl))))) dX5_bravest_112 ?_
        refine lv_iconst (v := 2) hx hb dX5_bravest_115 (by decide) ?_
        refine lv_iadd hx hb dX5_bravest_116 ?_
        refine lv_topi (fun y_57 ey_57 => ?_)
        have ty_57 : y_57.toInt = (G.1 7 6).toInt + 2 := xI_add rfl rfl ey_57 (by omega) (by omega)
        refine lv_icmp_gt (tgt := 175) hx hb dX5_bravest_117 (by decide) (fun c_58 => ?_) (fun c_58 => ?_)
        · have c_58 : y_57.toInt < x_54.toInt := xI_lt rfl rfl c_58
          refine lv_iload_n hx hb dX5_bravest_175 rfl (lv_at hl 6 rfl) ?_
          refine lv_istore (lv' := [(8, .int p0), (5, .long y_48), (7, .int x_14), (0, .ref (a 29)), (1, .ref (a 7)), (2, .ref (a 26)), (3, .int p0), (4, .int p1)]) hx hb dX5_bravest_176 hl (by decide) rfl (fun ls hl => ?_)
          refine loop_N (Inv := fun n H locs ls => ∃ (G_59 : GS) (x_63 : Int32), (n : Int) = 401 - x_63.toInt ∧ (0 ≤ x_63.toInt ∧ x_63.toInt ≤ 401) ∧ Wd D k A a G_59 H ∧ Bd G_59 ∧ Fr [56, 57] [(29, 6)] G G_59 ∧ Fr [56] [] G_50 G_59 ∧ va_S A s.heap H locs ∧ lv_has ls 9 [(8, .int x_63), (5, .long y_48), (7, .int x_14), (0, .ref (a 29)), (1, .ref (a 7)), (2, .ref (a 26)), (3, .int p0), (4, .int p1)]) (fun n_62 H locs ls ih_61 hI => ?_) (401 - p0.toInt : Int).toNat ⟨G_50, p0, (Int.toNat_of_nonneg (by omega)), ⟨by omega, by omega⟩, hW, hB_G_50, hF, Fr.rf, hS, lv_sub hl [0, 1, 2, 3, 4, 5, 6, 7] rfl⟩
          obtain ⟨G_59, x_63, hn_65, f_64, hW, hB_G_59, hF, hq_60, hS, hl⟩ := hI
          refine lv_iload hx hb dX5_bravest_178 (lv_at hl 0 rfl) ?_
          refine lv_aload_n hx hb dX5_bravest_180 rfl (lv_at hl 4 rfl) ?_
          refine S_getI (v := (G.1 7 6)) (C := RX0) (T := TX0) (N := 8) hx hb hg iX0 hown hK hW kd_7 rfl 6 (by decide) (hg (Cond.fieldLink RX5 30 "SlabWalk$Course" "last" "I") m389) (fun _ h9 => h9) rfl ((hq_60.i 7 6 (by decide) (by decide)).trans ((hq_51.i 7 6 (by decide) (by decide)).trans ((hq_34.i 7 6 (by decide) (by decide)).trans ((hq_11.i 7 6 (by decide) (by decide)).trans ((hq_2.i 7 6 (by decide) (by decide)).trans (rfl)))))) dX5_bravest_181 ?_
          refine lv_icmp_gt (tgt := 228) hx hb dX5_bravest_184 (by decide) (fun c_66 => ?_) (fun c_66 => ?_)
          · have c_66 : (G.1 7 6).toInt < x_63.toInt := xI_lt rfl rfl c_66
            obtain ⟨y_67, ey_67⟩ : ∃ q, q = x_14 + 1 := ⟨_, rfl⟩
            have ty_67 : y_67.toInt = x_14.toInt + 1 := xI_add rfl rfl ey_67 (by omega) (by omega)
            refine lv_iinc (v := y_67) (lv' := [(7, .int y_67), (8, .int x_63), (5, .long y_48), (0, .ref (a 29)), (1, .ref (a 7)), (2, .ref (a 26)), (3, .int p0), (4, .int p1)]) hx hb dX5_bravest_228 hl (k := 2) rfl (by rw [ey_67]; rfl) (by decide) rfl (fun ls hl => ?_)
            refine lv_goto (tgt := 46) hx hb dX5_bravest_231 (by decide) ?_
            exact ih_12 (8 - y_67.toInt : Int).toNat (by omega) _ _ _ ⟨G_59, y_67, y_48, (Int.toNat_of_nonneg (by omega)), ⟨by omega, by omega⟩, hW, hB_G_59, hF, ((((Fr.rf.call hq_11 (by decide) (by decide)).call hq_34 (by decide) (by decide)).call hq_51 (by decide) (by decide)).call hq_60 (by decide) (by decide)), hS, lv_sub hl [0, 2, 3, 4, 5, 6, 7] rfl⟩
          · have c_66 : x_63.toInt ≤ (G.1 7 6).toInt := xI_nlt rfl rfl c_66
            refine lv_aload_n hx hb dX5_bravest_187 rfl (lv_at hl 3 rfl) ?_
            refine S_getR (n := 56) (C := RX5) (T := TX5) (N := 7) hx hb hg iX5 hown hK hW kd_29 rfl 4 (by decide) (hg (Cond.fieldLink RX5 24 "SlabWalk$Odds" "odds" "[J") m468) (fun _ h9 => h9) rfl dX5_bravest_188 ?_
            refine lv_iload hx hb dX5_bravest_191 (lv_at hl 0 rfl) ?_
            refine lv_aload_n hx hb dX5_bravest_193 rfl (lv_at hl 4 rfl) ?_
            refine S_getR (n := 40) (C := RX0) (T := TX0) (N := 8) hx hb hg iX0 hown hK hW kd_7 rfl 0 (by decide) (hg (Cond.fieldLink RX5 36 "SlabWalk$Course" "lawful" "[Z") m372) (fun _ h9 => h9) rfl dX5_bravest_194 ?_
            refine lv_iload hx hb dX5_bravest_197 (lv_at hl 0 rfl) ?_
            refine S_zald hx hb hK hW kd_40 (vin (by omega) (by omega)) dX5_bravest_199 (fun y_68 ey_68 => ?_)
            have ty_68 : 0 ≤ y_68.toInt ∧ y_68.toInt ≤ 1 := hB_G_59.v ey_68 rfl rfl
            refine lv_if_eq (tgt := 220) hx hb dX5_bravest_200 (by decide) (fun c_69 => ?_) (fun c_69 => ?_)
            · have c_69 : y_68.toInt = 0 := xI_eq rfl rfl c_69
              refine lv_lconst (v := 0) hx hb dX5_bravest_220 (by decide) ?_
              refine S_last hx hb hK hW hS kd_56 (vin (by omega) (by omega)) dX5_bravest_221 (fun G_70 H locs eG_70 hW hS => ?_)
              have hB_G_70 : Bd G_70 := hB_G_59.putl eG_70
              have hF := hF.putl eG_70 (Or.inl (by decide))
              obtain ⟨y_71, ey_71⟩ : ∃ q, q = x_63 + 1 := ⟨_, rfl⟩
              have ty_71 : y_71.toInt = x_63.toInt + 1 := xI_add rfl rfl ey_71 (by omega) (by omega)
              refine lv_iinc (v := y_71) (lv' := [(8, .int y_71), (5, .long y_48), (7, .int x_14), (0, .ref (a 29)), (1, .ref (a 7)), (2, .ref (a 26)), (3, .int p0), (4, .int p1)]) hx hb dX5_bravest_222 hl (k := 0) rfl (by rw [ey_71]; rfl) (by decide) rfl (fun ls hl => ?_)
              refine lv_goto (tgt := 178) hx hb dX5_bravest_225 (by decide) ?_
              exact ih_61 (401 - y_71.toInt : Int).toNat (by omega) _ _ _ ⟨G_70, y_71, (Int.toNat_of_nonneg (by omega)), ⟨by omega, by omega⟩, hW, hB_G_70, hF, ((Fr.rf.call hq_60 (by decide) (by decide)).putl eG_70 (Or.inl (by decide))), hS, lv_sub hl [0, 1, 2, 3, 4, 5, 6, 7] rfl⟩
            · have c_69 : y_68.toInt ≠ 0 := xI_ne rfl rfl c_69
              refine lv_aload_n hx hb dX5_bravest_203 rfl (lv_at hl 3 rfl) ?_
              refine lv_aload_n hx hb dX5_bravest_204 rfl (lv_at hl 4 rfl) ?_
              refine lv_iload hx hb dX5_bravest_205 (lv_at hl 0 rfl) ?_
              refine lv_aload_n hx hb dX5_bravest_207 rfl (lv_at hl 3 rfl) ?_
              refine lv_aload_n hx hb dX5_bravest_208 rfl (lv_at hl 4 rfl) ?_
              refine lv_iload hx hb dX5_bravest_209 (lv_at hl 0 rfl) ?_
              refine S_calli (va_runV (As := [.ref (a 7), .int x_63]) (rest := [.int x_63, .ref (a 7), .ref (a 29), .int x_63, .ref (a 56)]) ⟨hx, hb, hml, hown, hts⟩ (k_oBest l D k A a z G_59 x_63 ⟨by omega, by omega⟩ (by omega)) (cwV 2 hts (gd_V hgd m1126 m1128 m39 m126 m1129) rfl rfl rfl (by decide +kernel) ⟨Nat.le_of_ble_eq_true rfl, Nat.le_of_ble_eq_true rfl⟩) (pre_V hW hB_G_59 hK hZ hS kd_29 rfl) rfl rfl hl.1 rfl (lv_room (Nat.le_of_ble_eq_true rfl)) dX5_bravest_211 ⟨Nat.le_of_ble_eq_true rfl, Nat.le_of_ble_eq_true rfl⟩) hS (fun r_72 G_73 H locs hpo hW hS => ?_)
              obtain ⟨hB_G_73, hq_74, f_76⟩ := hpo
              have hF := hF.call hq_74 (by decide) (by decide)
              refine S_calll (va_runV (As := [.ref (a 7), .int x_63, .int r_72]) (rest := [.int x_63, .ref (a 56)]) ⟨hx, hb, hml, hown, hts⟩ (k_oAim l D k A a z G_73 x_63 r_72 ⟨by omega, by omega⟩ ⟨by omega, by omega⟩ (by omega)) (cwV 3 hts (gd_V hgd m1130 m1132 m40 m126 m1133) rfl rfl rfl (by decide +kernel) ⟨Nat.le_of_ble_eq_true rfl, Nat.le_of_ble_eq_true rfl⟩) (pre_V hW hB_G_73 hK hZ hS kd_29 rfl) rfl rfl hl.1 rfl (lv_room (Nat.le_of_ble_eq_true rfl)) dX5_bravest_214 ⟨Nat.le_of_ble_eq_true rfl, Nat.le_of_ble_eq_true rfl⟩) hS (fun r_77 G_78 H locs hpo hW hS => ?_)
              obtain ⟨hB_G_78, hq_79⟩ := hpo
              have hF := hF.call hq_79 (by decide) (by decide)
              refine lv_goto (tgt := 221) hx hb dX5_bravest_217 (by decide) ?_
              refine S_last hx hb hK hW hS kd_56 (vin (by omega) (by omega)) dX5_bravest_221 (fun G_81 H locs eG_81 hW hS => ?_)
              have hB_G_81 : Bd G_81 := hB_G_78.putl eG_81
              have hF := hF.putl eG_81 (Or.inl (by decide))
              obtain ⟨y_82, ey_82⟩ : ∃ q, q = x_63 + 1 := ⟨_, rfl⟩
              have ty_82 : y_82.toInt = x_63.toInt + 1 := xI_add rfl rfl ey_82 (by omega) (by omega)
              refine lv_iinc (v := y_82) (lv' := [(8, .int y_82), (5, .long y_48), (7, .int x_14), (0, .ref (a 29)), (1, .ref (a 7)), (2, .ref (a 26)), (3, .int p0), (4, .int p1)]) hx hb dX5_bravest_222 hl (k := 0) rfl (by rw [ey_82]; rfl) (by decide) rfl (fun ls hl => ?_)
              refine lv_goto (tgt := 178) hx hb dX5_bravest_225 (by decide) ?_
              exact ih_61 (401 - y_82.toInt : Int).toNat (by omega) _ _ _ ⟨G_81, y_82, (Int.toNat_of_nonneg (by omega)), ⟨by omega, by omega⟩, hW, hB_G_81, hF, ((((Fr.rf.call hq_60 (by decide) (by decide)).call hq_74 (by decide) (by decide)).call hq_79 (by decide) (by decide)).putl eG_81 (Or.inl (by decide))), hS, lv_sub hl [0, 1, 2, 3, 4, 5, 6, 7] rfl⟩
        · have c_58 : x_54.toInt ≤ y_57.toInt := xI_nlt rfl rfl c_58
          refine lv_aload_n hx hb dX5_bravest_120 rfl (lv_at hl 3 rfl) ?_
          refine S_getR (n := 57) (C := RX5) (T := TX5) (N := 7) hx hb hg iX5 hown hK hW kd_29 rfl 5 (by decide) (hg (Cond.fieldLink RX5 27 "SlabWalk$Odds" "aims" "[J") m469) (fun _ h9 => h9) rfl dX5_bravest_121 ?_
          refine lv_iload hx hb dX5_bravest_124 (lv_at hl 0 rfl) ?_
          refine lv_aload_n hx hb dX5_bravest_126 rfl (lv_at hl 5 rfl) ?_
          refine lv_iconst (v := 0) hx hb dX5_bravest_127 (by decide) ?_
          refine S_iald hx hb hK hW kd_26 (vin (by decide) (by decide)) dX5_bravest_128 (fun y_83 ey_83 => ?_)
          have ty_83 : 0 ≤ y_83.toInt ∧ y_83.toInt ≤ 9 := hB_G_50.v ey_83 rfl rfl
          refine lv_i2l hx hb dX5_bravest_129 rfl ?_
          refine lv_topl (fun y_84 ey_84 => ?_)
          refine lv_aload_n hx hb dX5_bravest_130 rfl (lv_at hl 3 rfl) ?_
          refine S_getR (n := 56) (C := RX5) (T := TX5) (N := 7) hx hb hg iX5 hown hK hW kd_29 rfl 4 (by decide) (hg (Cond.fieldLink RX5 24 "SlabWalk$Odds" "odds" "[J") m468) (fun _ h9 => h9) rfl dX5_bravest_131 ?_
          refine lv_iload hx hb dX5_bravest_134 (lv_at hl 0 rfl) ?_
          refine lv_iconst (v := 1) hx hb dX5_bravest_136 (by decide) ?_
          refine lv_isub hx hb dX5_bravest_137 ?_
          refine lv_topi (fun y_85 ey_85 => ?_)
          have ty_85 : y_85.toInt = x_54.toInt - 1 := xI_sub rfl rfl ey_85 (by omega) (by omega)
          refine S_lald hx hb hK hW kd_56 (vin (by omega) (by omega)) dX5_bravest_138 (fun y_86 ey_86 => ?_)
          refine lv_lmul hx hb dX5_bravest_139 ?_
          refine lv_topl (fun y_87 ey_87 => ?_)
          refine lv_aload_n hx hb dX5_bravest_140 rfl (lv_at hl 5 rfl) ?_
          refine lv_iconst (v := 1) hx hb dX5_bravest_141 (by decide) ?_
          refine S_iald hx hb hK hW kd_26 (vin (by decide) (by decide)) dX5_bravest_142 (fun y_88 ey_88 => ?_)
          have ty_88 : 0 ≤ y_88.toInt ∧ y_88.toInt ≤ 9 := hB_G_50.v ey_88 rfl rfl
          refine lv_i2l hx hb dX5_bravest_143 rfl ?_
          refine lv_topl (fun y_89 ey_89 => ?_)
          refine lv_aload_n hx hb dX5_bravest_144 rfl (lv_at hl 3 rfl) ?_
          refine S_getR (n := 56) (C := RX5) (T := TX5) (N := 7) hx hb hg iX5 hown hK hW kd_29 rfl 4 (by decide) (hg (Cond.fieldLink RX5 24 "SlabWalk$Odds" "odds" "[J") m468) (fun _ h9 => h9) rfl dX5_bravest_145 ?_
          refine lv_iload hx hb dX5_bravest_148 (lv_at hl 0 rfl) ?_
          refine S_lald hx hb hK hW kd_56 (vin (by omega) (by omega)) dX5_bravest_150 (fun y_90 ey_90 => ?_)
          refine lv_lmul hx hb dX5_bravest_151 ?_
          refine lv_topl (fun y_91 ey_91 => ?_)
          refine lv_ladd hx hb dX5_bravest_152 ?_
          refine lv_topl (fun y_92 ey_92 => ?_)
          refine lv_aload_n hx hb dX5_bravest_153 rfl (lv_at hl 5 rfl) ?_
          refine lv_iconst (v := 2) hx hb dX5_bravest_154 (by decide) ?_
          refine S_iald hx hb hK hW kd_26 (vin (by decide) (by decide)) dX5_bravest_155 (fun y_93 ey_93 => ?_)
          have ty_93 : 0 ≤ y_93.toInt ∧ y_93.toInt ≤ 9 := hB_G_50.v ey_93 rfl rfl
          refine lv_i2l hx hb dX5_bravest_156 rfl ?_
          refine lv_topl (fun y_94 ey_94 => ?_)
          refine lv_aload_n hx hb dX5_bravest_157 rfl (lv_at hl 3 rfl) ?_
          refine S_getR (n := 56) (C := RX5) (T := TX5) (N := 7) hx hb hg iX5 hown hK hW kd_29 rfl 4 (by decide) (hg (Cond.fieldLink RX5 24 "SlabWalk$Odds" "odds" "[J") m468) (fun _ h9 => h9) rfl dX5_bravest_158 ?_
          refine lv_iload hx hb dX5_bravest_161 (lv_at hl 0 rfl) ?_
          refine lv_iconst (v := 1) hx hb dX5_bravest_163 (by decide) ?_
          refine lv_iadd hx hb dX5_bravest_164 ?_
          refine lv_topi (fun y_95 ey_95 => ?_)
          have ty_95 : y_95.toInt = x_54.toInt + 1 := xI_add rfl rfl ey_95 (by omega) (by omega)
          refine S_lald hx hb hK hW kd_56 (vin (by omega) (by omega)) dX5_bravest_165 (fun y_96 ey_96 => ?_)
          refine lv_lmul hx hb dX5_bravest_166 ?_
          refine lv_topl (fun y_97 ey_97 => ?_)
          refine lv_ladd hx hb dX5_bravest_167 ?_
          refine lv_topl (fun y_98 ey_98 => ?_)
          refine S_last hx hb hK hW hS kd_57 (vin (by omega) (by omega)) dX5_bravest_168 (fun G_99 H locs eG_99 hW hS => ?_)
          have hB_G_99 : Bd G_99 := hB_G_50.putl eG_99
          have hF := hF.putl eG_99 (Or.inl (by decide))
          obtain ⟨y_100, ey_100⟩ : ∃ q, q = x_54 + 1 := ⟨_, rfl⟩
          have ty_100 : y_100.toInt = x_54.toInt + 1 := xI_add rfl rfl ey_100 (by omega) (by omega)
          refine lv_iinc (v := y_100) (lv' := [(8, .int y_100), (5, .long y_48), (7, .int x_14), (0, .ref (a 29)), (1, .ref (a 7)), (2, .ref (a 26)), (3, .int p0), (4, .int p1)]) hx hb dX5_bravest_169 hl (k := 0) rfl (by rw [ey_100]; rfl) (by decide) rfl (fun ls hl => ?_)
          refine lv_goto (tgt := 109) hx hb dX5_bravest_172 (by decide) ?_
          exact ih_52 (403 - y_100.toInt : Int).toNat (by omega) _ _ _ ⟨G_99, y_100, (Int.toNat_of_nonneg (by omega)), ⟨by omega, by omega⟩, hW, hB_G_99, hF, ((Fr.rf.call hq_51 (by decide) (by decide)).putl eG_99 (Or.inl (by decide))), hS, lv_sub hl [0, 1, 2, 3, 4, 5, 6, 7] rfl⟩
      · have c_41 : x_37.toInt ≤ y_40.toInt := xI_nlt rfl rfl c_41
        refine lv_aload_n hx hb dX5_bravest_72 rfl (lv_at hl 3 rfl) ?_
        refine S_getR (n := 56) (C := RX5) (T := TX5) (N := 7) hx hb hg iX5 hown hK hW kd_29 rfl 4 (by decide) (hg (Cond.fieldLink RX5 24 "SlabWalk$Odds" "odds" "[J") m468) (fun _ h9 => h9) rfl dX5_bravest_73 ?_
        refine lv_iload hx hb dX5_bravest_76 (lv_at hl 0 rfl) ?_
        refine lv_lload hx hb dX5_bravest_78 (lv_at hl 2 rfl) ?_
        refine S_last hx hb hK hW hS kd_56 (vin (by omega) (by omega)) dX5_bravest_80 (fun G_101 H locs eG_101 hW hS => ?_)
        have hB_G_101 : Bd G_101 := hB_G_33.putl eG_101
        have hF := hF.putl eG_101 (Or.inl (by decide))
        obtain ⟨y_102, ey_102⟩ : ∃ q, q = x_37 + 1 := ⟨_, rfl⟩
        have ty_102 : y_102.toInt = x_37.toInt + 1 := xI_add rfl rfl ey_102 (by omega) (by omega)
        refine lv_iinc (v := y_102) (lv' := [(8, .int y_102), (7, .int x_14), (5, .long x_15), (0, .ref (a 29)), (1, .ref (a 7)), (2, .ref (a 26)), (3, .int p0), (4, .int p1)]) hx hb dX5_bravest_81 hl (k := 0) rfl (by rw [ey_102]; rfl) (by decide) rfl (fun ls hl => ?_)
        refine lv_goto (tgt := 61) hx hb dX5_bravest_84 (by decide) ?_
        exact ih_35 (404 - y_102.toInt : Int).toNat (by omega) _ _ _ ⟨G_101, y_102, (Int.toNat_of_nonneg (by omega)), ⟨by omega, by omega⟩, hW, hB_G_101, hF, ((Fr.rf.call hq_34 (by decide) (by decide)).putl eG_101 (Or.inl (by decide))), hS, lv_sub hl [0, 1, 2, 3, 4, 5, 6, 7] rfl⟩
  · have c_9 : x_5.toInt ≤ (G.1 7 6).toInt := xI_nlt rfl rfl c_9
    refine lv_aload_n hx hb dX5_bravest_15 rfl (lv_at hl 2 rfl) ?_
    refine S_getR (n := 56) (C := RX5) (T := TX5) (N := 7) hx hb hg iX5 hown hK hW kd_29 rfl 4 (by decide) (hg (Cond.fieldLink RX5 24 "SlabWalk$Odds" "odds" "[J") m468) (fun _ h9 => h9) rfl dX5_bravest_16 ?_
    refine lv_iload hx hb dX5_bravest_19 (lv_at hl 0 rfl) ?_
    refine lv_aload_n hx hb dX5_bravest_21 rfl (lv_at hl 3 rfl) ?_
    refine S_getR (n := 40) (C := RX0) (T := TX0) (N := 8) hx hb hg iX0 hown hK hW kd_7 rfl 0 (by decide) (hg (Cond.fieldLink RX5 36 "SlabWalk$Course" "lawful" "[Z") m372) (fun _ h9 => h9) rfl dX5_bravest_22 ?_
    refine lv_iload hx hb dX5_bravest_25 (lv_at hl 0 rfl) ?_
    refine S_zald hx hb hK hW kd_40 (vin (by omega) (by omega)) dX5_bravest_27 (fun y_103 ey_103 => ?_)
    have ty_103 : 0 ≤ y_103.toInt ∧ y_103.toInt ≤ 1 := hB_G_1.v ey_103 rfl rfl
    refine lv_if_eq (tgt := 35) hx hb dX5_bravest_28 (by decide) (fun c_104 => ?_) (fun c_104 => ?_)
    · have c_104 : y_103.toInt = 0 := xI_eq rfl rfl c_104
      refine lv_lconst (v := 0) hx hb dX5_bravest_35 (by decide) ?_
      refine S_last hx hb hK hW hS kd_56 (vin (by omega) (by omega)) dX5_bravest_36 (fun G_105 H locs eG_105 hW hS => ?_)
      have hB_G_105 : Bd G_105 := hB_G_1.putl eG_105
      have hF := hF.putl eG_105 (Or.inl (by decide))
      obtain ⟨y_106, ey_106⟩ : ∃ q, q = x_5 + 1 := ⟨_, rfl⟩
      have ty_106 : y_106.toInt = x_5.toInt + 1 := xI_add rfl rfl ey_106 (by omega) (by omega)
      refine lv_iinc (v := y_106) (lv' := [(7, .int y_106), (5, .long 1), (0, .ref (a 29)), (1, .ref (a 7)), (2, .ref (a 26)), (3, .int p0), (4, .int p1)]) hx hb dX5_bravest_37 hl (k := 0) rfl (by rw [ey_106]; rfl) (by decide) rfl (fun ls hl => ?_)
      refine lv_goto (tgt := 6) hx hb dX5_bravest_40 (by decide) ?_
      exact ih_3 (401 - y_106.toInt : Int).toNat (by omega) _ _ _ ⟨G_105, y_106, (Int.toNat_of_nonneg (by omega)), ⟨by omega, by omega⟩, hW, hB_G_105, hF, ((Fr.rf.call hq_2 (by decide) (by decide)).putl eG_105 (Or.inl (by decide))), hS, lv_sub hl [0, 1, 2, 3, 4, 5, 6] rfl⟩
    · have c_104 : y_103.toInt ≠ 0 := xI_ne rfl rfl c_104
      refine lv_lconst (v := 1) hx hb dX5_bravest_31 (by decide) ?_
      refine lv_goto (tgt := 36) hx hb dX5_bravest_32 (by decide) ?_
      refine S_last hx hb hK hW hS kd_56 (vin (by omega) (by omega)) dX5_bravest_36 (fun G_107 H locs eG_107 hW hS => ?_)
      have hB_G_107 : Bd G_107 := hB_G_1.putl eG_107
      have hF := hF.putl eG_107 (Or.inl (by decide))
      obtain ⟨y_108, ey_108⟩ : ∃ q, q = x_5 + 1 := ⟨_, rfl⟩
      have ty_108 : y_108.toInt = x_5.toInt + 1 := xI_add rfl rfl ey_108 (by omega) (by omega)
      refine lv_iinc (v := y_108) (lv' := [(7, .int y_108), (5, .long 1), (0, .ref (a 29)), (1, .ref (a 7)), (2, .ref (a 26)), (3, .int p0), (4, .int p1)]) hx hb dX5_bravest_37 hl (k := 0) rfl (by rw [ey_108]; rfl) (by decide) rfl (fun ls hl => ?_)
      refine lv_goto (tgt := 6) hx hb dX5_bravest_40 (by decide) ?_
      exact ih_3 (401 - y_108.toInt : Int).toNat (by omega) _ _ _ ⟨G_107, y_108, (Int.toNat_of_nonneg (by omega)), ⟨by omega, by omega⟩, hW, hB_G_107, hF, ((Fr.rf.call hq_2 (by decide) (by decide)).putl eG_107 (Or.inl (by decide))), hS, lv_sub hl [0, 1, 2, 3, 4, 5, 6] rfl⟩
