theorem m96 : Cond.selects RX12 yX12_needOf yX12_needOf ∈ gd := gd_mem 96 (by decide +kernel) (by decide +kernel)
theorem m1859 : Cond.methodLink RX12 503 yX12_needOf ∈ gd := gd_mem 1859 (by decide +kernel) (by decide +kernel)
theorem m1861 : Cond.instanceMethod yX12_needOf ∈ gd := gd_mem 1861 (by decide +kernel) (by decide +kernel)
theorem m1862 : Cond.code yX12_needOf cX12_needOf 4 (some .int) ∈ gd := gd_mem 1862 (by decide +kernel) (by decide +kernel)
theorem dX12_layNeed_0 : decode cX12_layNeed 0 = .ok (.iconst 3, 1) := by decide +kernel
theorem dX12_layNeed_1 : decode cX12_layNeed 1 = .ok (.iconst 2, 1) := by decide +kernel
theorem dX12_layNeed_2 : decode cX12_layNeed 2 = .ok (.iload_n 1, 1) := by decide +kernel
theorem dX12_layNeed_3 : decode cX12_layNeed 3 = .ok (.imul, 1) := by decide +kernel
theorem dX12_layNeed_4 : decode cX12_layNeed 4 = .ok (.iload_n 2, 1) := by decide +kernel
theorem dX12_layNeed_5 : decode cX12_layNeed 5 = .ok (.iadd, 1) := by decide +kernel
theorem dX12_layNeed_6 : decode cX12_layNeed 6 = .ok (.imul, 1) := by decide +kernel
theorem dX12_layNeed_7 : decode cX12_layNeed 7 = .ok (.istore_n 3, 1) := by decide +kernel
theorem dX12_layNeed_8 : decode cX12_layNeed 8 = .ok (.aload_n 0, 1) := by decide +kernel
theorem dX12_layNeed_9 : decode cX12_layNeed 9 = .ok (.getfield 118, 3) := by decide +kernel
theorem dX12_layNeed_12 : decode cX12_layNeed 12 = .ok (.iload_n 3, 1) := by decide +kernel
theorem dX12_layNeed_13 : decode cX12_layNeed 13 = .ok (.iconst 1, 1) := by decide +kernel
theorem dX12_layNeed_14 : decode cX12_layNeed 14 = .ok (.iadd, 1) := by decide +kernel
theorem dX12_layNeed_15 : decode cX12_layNeed 15 = .ok (.aload_n 0, 1) := by decide +kernel
theorem dX12_layNeed_16 : decode cX12_layNeed 16 = .ok (.getfield 115, 3) := by decide +kernel
theorem dX12_layNeed_19 : decode cX12_layNeed 19 = .ok (.iload_n 1, 1) := by decide +kernel
theorem dX12_layNeed_20 : decode cX12_layNeed 20 = .ok (.baload, 1) := by decide +kernel
theorem dX12_layNeed_21 : decode cX12_layNeed 21 = .ok (.ifCond .eq 15, 3) := by decide +kernel
theorem dX12_layNeed_24 : decode cX12_layNeed 24 = .ok (.aload_n 0, 1) := by decide +kernel
theorem dX12_layNeed_25 : decode cX12_layNeed 25 = .ok (.iload_n 1, 1) := by decide +kernel
theorem dX12_layNeed_26 : decode cX12_layNeed 26 = .ok (.invokevirtual 499, 3) := by decide +kernel
theorem dX12_layNeed_29 : decode cX12_layNeed 29 = .ok (.ifCond .eq 7, 3) := by decide +kernel
theorem dX12_layNeed_32 : decode cX12_layNeed 32 = .ok (.iconst 1, 1) := by decide +kernel
theorem dX12_layNeed_33 : decode cX12_layNeed 33 = .ok (.goto 6, 3) := by decide +kernel
theorem dX12_layNeed_36 : decode cX12_layNeed 36 = .ok (.ldc_w 502, 3) := by decide +kernel
theorem dX12_layNeed_39 : decode cX12_layNeed 39 = .ok (.iastore, 1) := by decide +kernel
theorem dX12_layNeed_40 : decode cX12_layNeed 40 = .ok (.aload_n 0, 1) := by decide +kernel
theorem dX12_layNeed_41 : decode cX12_layNeed 41 = .ok (.getfield 118, 3) := by decide +kernel
theorem dX12_layNeed_44 : decode cX12_layNeed 44 = .ok (.iload_n 3, 1) := by decide +kernel
theorem dX12_layNeed_45 : decode cX12_layNeed 45 = .ok (.iconst 2, 1) := by decide +kernel
theorem dX12_layNeed_46 : decode cX12_layNeed 46 = .ok (.iadd, 1) := by decide +kernel
theorem dX12_layNeed_47 : decode cX12_layNeed 47 = .ok (.ldc_w 502, 3) := by decide +kernel
theorem dX12_layNeed_50 : decode cX12_layNeed 50 = .ok (.iastore, 1) := by decide +kernel
theorem dX12_layNeed_51 : decode cX12_layNeed 51 = .ok (.aload_n 0, 1) := by decide +kernel
theorem dX12_layNeed_52 : decode cX12_layNeed 52 = .ok (.getfield 115, 3) := by decide +kernel
theorem dX12_layNeed_55 : decode cX12_layNeed 55 = .ok (.iload_n 1, 1) := by decide +kernel
theorem dX12_layNeed_56 : decode cX12_layNeed 56 = .ok (.baload, 1) := by decide +kernel
theorem dX12_layNeed_57 : decode cX12_layNeed 57 = .ok (.ifCond .eq 142, 3) := by decide +kernel
theorem dX12_layNeed_60 : decode cX12_layNeed 60 = .ok (.aload_n 0, 1) := by decide +kernel
theorem dX12_layNeed_61 : decode cX12_layNeed 61 = .ok (.iload_n 1, 1) := by decide +kernel
theorem dX12_layNeed_62 : decode cX12_layNeed 62 = .ok (.invokevirtual 499, 3) := by decide +kernel
theorem dX12_layNeed_65 : decode cX12_layNeed 65 = .ok (.ifCond .ne 134, 3) := by decide +kernel
theorem dX12_layNeed_68 : decode cX12_layNeed 68 = .ok (.aload_n 0, 1) := by decide +kernel
theorem dX12_layNeed_69 : decode cX12_layNeed 69 = .ok (.getfield 475, 3) := by decide +kernel
theorem dX12_layNeed_72 : decode cX12_layNeed 72 = .ok (.istore 4, 2) := by decide +kernel
theorem dX12_layNeed_74 : decode cX12_layNeed 74 = .ok (.iload 4, 2) := by decide +kernel
theorem dX12_layNeed_76 : decode cX12_layNeed 76 = .ok (.iload_n 2, 1) := by decide +kernel
theorem dX12_layNeed_77 : decode cX12_layNeed 77 = .ok (.iconst 1, 1) := by decide +kernel
theorem dX12_layNeed_78 : decode cX12_layNeed 78 = .ok (.if_icmp .ne 10, 3) := by decide +kernel
theorem dX12_layNeed_81 : decode cX12_layNeed 81 = .ok (.aload_n 0, 1) := by decide +kernel
theorem dX12_layNeed_82 : decode cX12_layNeed 82 = .ok (.getfield 478, 3) := by decide +kernel
theorem dX12_layNeed_85 : decode cX12_layNeed 85 = .ok (.goto 7, 3) := by decide +kernel
theorem dX12_layNeed_88 : decode cX12_layNeed 88 = .ok (.aload_n 0, 1) := by decide +kernel
theorem dX12_layNeed_89 : decode cX12_layNeed 89 = .ok (.getfield 481, 3) := by decide +kernel
theorem dX12_layNeed_92 : decode cX12_layNeed 92 = .ok (.if_icmp .gt 107, 3) := by decide +kernel
theorem dX12_layNeed_95 : decode cX12_layNeed 95 = .ok (.aload_n 0, 1) := by decide +kernel
theorem dX12_layNeed_96 : decode cX12_layNeed 96 = .ok (.getfield 115, 3) := by decide +kernel
theorem dX12_layNeed_99 : decode cX12_layNeed 99 = .ok (.iload_n 1, 1) := by decide +kernel
theorem dX12_layNeed_100 : decode cX12_layNeed 100 = .ok (.iload 4, 2) := by decide +kernel
theorem dX12_layNeed_102 : decode cX12_layNeed 102 = .ok (.iadd, 1) := by decide +kernel
theorem dX12_layNeed_103 : decode cX12_layNeed 103 = .ok (.baload, 1) := by decide +kernel
theorem dX12_layNeed_104 : decode cX12_layNeed 104 = .ok (.ifCond .ne 6, 3) := by decide +kernel
theorem dX12_layNeed_107 : decode cX12_layNeed 107 = .ok (.goto 86, 3) := by decide +kernel
theorem dX12_layNeed_110 : decode cX12_layNeed 110 = .ok (.iload 4, 2) := by decide +kernel
theorem dX12_layNeed_112 : decode cX12_layNeed 112 = .ok (.aload_n 0, 1) := by decide +kernel
theorem dX12_layNeed_113 : decode cX12_layNeed 113 = .ok (.getfield 478, 3) := by decide +kernel
theorem dX12_layNeed_116 : decode cX12_layNeed 116 = .ok (.if_icmp .le 7, 3) := by decide +kernel
theorem dX12_layNeed_119 : decode cX12_layNeed 119 = .ok (.iconst 1, 1) := by decide +kernel
theorem dX12_layNeed_120 : decode cX12_layNeed 120 = .ok (.goto 4, 3) := by decide +kernel
theorem dX12_layNeed_123 : decode cX12_layNeed 123 = .ok (.iconst 0, 1) := by decide +kernel
theorem dX12_layNeed_124 : decode cX12_layNeed 124 = .ok (.invokestatic 348, 3) := by decide +kernel
theorem dX12_layNeed_127 : decode cX12_layNeed 127 = .ok (.istore 5, 2) := by decide +kernel
theorem dX12_layNeed_129 : decode cX12_layNeed 129 = .ok (.aload_n 0, 1) := by decide +kernel
theorem dX12_layNeed_130 : decode cX12_layNeed 130 = .ok (.getfield 118, 3) := by decide +kernel
theorem dX12_layNeed_133 : decode cX12_layNeed 133 = .ok (.iload_n 3, 1) := by decide +kernel
theorem dX12_layNeed_134 : decode cX12_layNeed 134 = .ok (.iconst 1, 1) := by decide +kernel
theorem dX12_layNeed_135 : decode cX12_layNeed 135 = .ok (.iadd, 1) := by decide +kernel
theorem dX12_layNeed_136 : decode cX12_layNeed 136 = .ok (.aload_n 0, 1) := by decide +kernel
theorem dX12_layNeed_137 : decode cX12_layNeed 137 = .ok (.getfield 118, 3) := by decide +kernel
theorem dX12_layNeed_140 : decode cX12_layNeed 140 = .ok (.iload_n 3, 1) := by decide +kernel
theorem dX12_layNeed_141 : decode cX12_layNeed 141 = .ok (.iconst 1, 1) := by decide +kernel
theorem dX12_layNeed_142 : decode cX12_layNeed 142 = .ok (.iadd, 1) := by decide +kernel
theorem dX12_layNeed_143 : decode cX12_layNeed 143 = .ok (.iaload, 1) := by decide +kernel
theorem dX12_layNeed_144 : decode cX12_layNeed 144 = .ok (.iconst 1, 1) := by decide +kernel
theorem dX12_layNeed_145 : decode cX12_layNeed 145 = .ok (.aload_n 0, 1) := by decide +kernel
theorem dX12_layNeed_146 : decode cX12_layNeed 146 = .ok (.iload_n 1, 1) := by decide +kernel
theorem dX12_layNeed_147 : decode cX12_layNeed 147 = .ok (.iload 4, 2) := by decide +kernel
theorem dX12_layNeed_149 : decode cX12_layNeed 149 = .ok (.iadd, 1) := by decide +kernel
theorem dX12_layNeed_150 : decode cX12_layNeed 150 = .ok (.iload 5, 2) := by decide +kernel
theorem dX12_layNeed_152 : decode cX12_layNeed 152 = .ok (.iconst 2, 1) := by decide +kernel
theorem dX12_layNeed_153 : decode cX12_layNeed 153 = .ok (.invokevirtual 503, 3) := by decide +kernel
theorem dX12_layNeed_156 : decode cX12_layNeed 156 = .ok (.iadd, 1) := by decide +kernel
theorem dX12_layNeed_157 : decode cX12_layNeed 157 = .ok (.invokestatic 506, 3) := by decide +kernel
theorem dX12_layNeed_160 : decode cX12_layNeed 160 = .ok (.iastore, 1) := by decide +kernel
theorem dX12_layNeed_161 : decode cX12_layNeed 161 = .ok (.aload_n 0, 1) := by decide +kernel
theorem dX12_layNeed_162 : decode cX12_layNeed 162 = .ok (.getfield 118, 3) := by decide +kernel
theorem dX12_layNeed_165 : decode cX12_layNeed 165 = .ok (.iload_n 3, 1) := by decide +kernel
theorem dX12_layNeed_166 : decode cX12_layNeed 166 = .ok (.iconst 2, 1) := by decide +kernel
theorem dX12_layNeed_167 : decode cX12_layNeed 167 = .ok (.iadd, 1) := by decide +kernel
theorem dX12_layNeed_168 : decode cX12_layNeed 168 = .ok (.aload_n 0, 1) := by decide +kernel
theorem dX12_layNeed_169 : decode cX12_layNeed 169 = .ok (.getfield 118, 3) := by decide +kernel
theorem dX12_layNeed_172 : decode cX12_layNeed 172 = .ok (.iload_n 3, 1) := by decide +kernel
theorem dX12_layNeed_173 : decode cX12_layNeed 173 = .ok (.iconst 2, 1) := by decide +kernel
theorem dX12_layNeed_174 : decode cX12_layNeed 174 = .ok (.iadd, 1) := by decide +kernel
theorem dX12_layNeed_175 : decode cX12_layNeed 175 = .ok (.iaload, 1) := by decide +kernel
theorem dX12_layNeed_176 : decode cX12_layNeed 176 = .ok (.iconst 1, 1) := by decide +kernel
theorem dX12_layNeed_177 : decode cX12_layNeed 177 = .ok (.aload_n 0, 1) := by decide +kernel
theorem dX12_layNeed_178 : decode cX12_layNeed 178 = .ok (.iload_n 1, 1) := by decide +kernel
theorem dX12_layNeed_179 : decode cX12_layNeed 179 = .ok (.iload 4, 2) := by decide +kernel
theorem dX12_layNeed_181 : decode cX12_layNeed 181 = .ok (.iadd, 1) := by decide +kernel
theorem dX12_layNeed_182 : decode cX12_layNeed 182 = .ok (.iload 5, 2) := by decide +kernel
theorem dX12_layNeed_184 : decode cX12_layNeed 184 = .ok (.iconst 1, 1) := by decide +kernel
theorem dX12_layNeed_185 : decode cX12_layNeed 185 = .ok (.invokevirtual 503, 3) := by decide +kernel
theorem dX12_layNeed_188 : decode cX12_layNeed 188 = .ok (.iadd, 1) := by decide +kernel
theorem dX12_layNeed_189 : decode cX12_layNeed 189 = .ok (.invokestatic 506, 3) := by decide +kernel
theorem dX12_layNeed_192 : decode cX12_layNeed 192 = .ok (.iastore, 1) := by decide +kernel
theorem dX12_layNeed_193 : decode cX12_layNeed 193 = .ok (.iinc 4 1, 3) := by decide +kernel
theorem dX12_layNeed_196 : decode cX12_layNeed 196 = .ok (.goto (-122), 3) := by decide +kernel
theorem dX12_layNeed_199 : decode cX12_layNeed 199 = .ok (.aload_n 0, 1) := by decide +kernel
theorem dX12_layNeed_200 : decode cX12_layNeed 200 = .ok (.getfield 118, 3) := by decide +kernel
theorem dX12_layNeed_203 : decode cX12_layNeed 203 = .ok (.iload_n 3, 1) := by decide +kernel
theorem dX12_layNeed_204 : decode cX12_layNeed 204 = .ok (.aload_n 0, 1) := by decide +kernel
theorem dX12_layNeed_205 : decode cX12_layNeed 205 = .ok (.getfield 118, 3) := by decide +kernel
theorem dX12_layNeed_208 : decode cX12_layNeed 208 = .ok (.iload_n 3, 1) := by decide +kernel
theorem dX12_layNeed_209 : decode cX12_layNeed 209 = .ok (.iconst 1, 1) := by decide +kernel
theorem dX12_layNeed_210 : decode cX12_layNeed 210 = .ok (.iadd, 1) := by decide +kernel
theorem dX12_layNeed_211 : decode cX12_layNeed 211 = .ok (.iaload, 1) := by decide +kernel
theorem dX12_layNeed_212 : decode cX12_layNeed 212 = .ok (.aload_n 0, 1) := by decide +kernel
theorem dX12_layNeed_213 : decode cX12_layNeed 213 = .ok (.getfield 118, 3) := by decide +kernel
theorem dX12_layNeed_216 : decode cX12_layNeed 216 = .ok (.iload_n 3, 1) := by decide +kernel
theorem dX12_layNeed_217 : decode cX12_layNeed 217 = .ok (.iconst 2, 1) := by decide +kernel
theorem dX12_layNeed_218 : decode cX12_layNeed 218 = .ok (.iadd, 1) := by decide +kernel
theorem dX12_layNeed_219 : decode cX12_layNeed 219 = .ok (.iaload, 1) := by decide +kernel
theorem dX12_layNeed_220 : decode cX12_layNeed 220 = .ok (.invokestatic 506, 3) := by decide +kernel
theorem dX12_layNeed_223 : decode cX12_layNeed 223 = .ok (.iastore, 1) := by decide +kernel
theorem dX12_layNeed_224 : decode cX12_layNeed 224 = .ok (.return_, 1) := by decide +kernel
set_option maxHeartbeats 4000000 in
set_option maxRecDepth 100000 in
theorem n_layNeed (l : Launch) (D : va_G) (k : KT) (A : Nat → Prop) (a : Nat → Nat) (z : SK) (G : GS) (p0 : Int32) (p1 : Int32) (ha_p0 : 0 ≤ p0.toInt ∧ p0.toInt ≤ 399) (ha_p1 : 0 ≤ p1.toInt ∧ p1.toInt ≤ 1) (hle1 : 1 ≤ (G.1 66 61).toInt) (hml9 : (G.1 66 61).toInt ≤ (G.1 66 62).toInt ∧ (G.1 66 62).toInt ≤ (G.1 66 63).toInt) (h400 : (G.1 98 400).toInt = 0) (hpr : PRG G p0.toInt p1.toInt) : Met l yX12_layNeed (WS yX12_layNeed cX12_layNeed 6 none) ({ frames := 2, cells := 0, slots := 0, locals := 42 }) (va_Pc [.ref (a 66), .int p0, .int p1] (cW D k A a z G)) (va_Qv (fun (G1 : GS) => Bd G1 ∧ Fr [99] [] G G1 ∧ (PRG G1 p0.toInt (p1.toInt + 1))) (fun (G1 : GS) t => Wd D k A a G1 t.heap) A) 0 0 A := by
  refine Met.ofW (cc := cX12_layNeed) (maxL := 6) (ret := none) (by decide) rfl ?_
  intro p e s m args below meth c s₁ B hml hv
  obtain ⟨rfl, hW, hB_G, hK, hZ⟩ := hv
  have hx := B.exec
  have hb := B.bytes
  have hr := B.returns
  have hts := atoms_spec (ws := WS yX12_layNeed cX12_layNeed 6 none) B.pre
  have hgd : ∀ w ∈ gd, w ∈ WS yX12_layNeed cX12_layNeed 6 none := fun w h => List.mem_cons_of_mem _ h
  have hg : ∀ w ∈ gd, w.before _ s = true := fun w h => hts w (hgd w h)
  have hown : s.vm.findClass RX12 = some m.cls := findClass_of_methodNamed B.named
  have hS : va_S A s.heap s.heap [] := va_S.rf
  have hF : Fr [99] [] G G := Fr.rf
  have hl := lv_entry ([.ref (a 66), .int p0, .int p1]) (n := 6) (Nat.le_of_ble_eq_true rfl)
  rw [lg_entry_eq]
  generalize (lg_sl ([.ref (a 66), .int p0, .int p1]) ++ List.replicate (6 - (lg_sl ([.ref (a 66), .int p0, .int p1])).length) Slot.unset).toArray = ls at hl ⊢
  have hl : lv_has ls 6 [(0, .ref (a 66)), (1, .int p0), (2, .int p1)] := hl
  refine lv_iconst (v := 3) hx hb dX12_layNeed_0 (by decide) ?_
  refine lv_iconst (v := 2) hx hb dX12_layNeed_1 (by decide) ?_
  refine lv_iload_n hx hb dX12_layNeed_2 rfl (lv_at hl 1 rfl) ?_
  refine lv_imul hx hb dX12_layNeed_3 ?_
  refine lv_topi (fun y_1 ey_1 => ?_)
  have ty_1 : y_1.toInt = 2 * p0.toInt := xI_mul rfl rfl ey_1 (by omega) (by omega)
  refine lv_iload_n hx hb dX12_layNeed_4 rfl (lv_at hl 2 rfl) ?_
  refine lv_iadd hx hb dX12_layNeed_5 ?_
  refine lv_topi (fun y_2 ey_2 => ?_)
  have ty_2 : y_2.toInt = y_1.toInt + p1.toInt := xI_add rfl rfl ey_2 (by omega) (by omega)
  refine lv_imul hx hb dX12_layNeed_6 ?_
  refine lv_topi (fun y_3 ey_3 => ?_)
  have ty_3 : y_3.toInt = 3 * y_2.toInt := xI_mul rfl rfl ey_3 (by omega) (by omega)
  refine lv_istore_n (lv' := [(3, .int y_3), (0, .ref (a 66)), (1, .int p0), (2, .int p1)]) hx hb dX12_layNeed_7 rfl hl (by decide) rfl (fun ls hl => ?_)
  refine lv_aload_n hx hb dX12_layNeed_8 rfl (lv_at hl 1 rfl) ?_
  refine S_getR (n := 99) (C := RX12) (T := TX12) (N := 89) hx hb hg iX12 hown hK hW kd_66 rfl 64 (by decide) (hg (Cond.fieldLink RX12 118 "SlabWalkModel" "need" "[I") m1378) (fun _ h9 => h9) rfl dX12_layNeed_9 ?_
  refine lv_iload_n hx hb dX12_layNeed_12 rfl (lv_at hl 0 rfl) ?_
  refine lv_iconst (v := 1) hx hb dX12_layNeed_13 (by decide) ?_
  refine lv_iadd hx hb dX12_layNeed_14 ?_
  refine lv_topi (fun y_4 ey_4 => ?_)
  have ty_4 : y_4.toInt = y_3.toInt + 1 := xI_add rfl rfl ey_4 (by omega) (by omega)
  refine lv_aload_n hx hb dX12_layNeed_15 rfl (lv_at hl 1 rfl) ?_
  refine S_getR (n := 98) (C := RX12) (T := TX12) (N := 89) hx hb hg iX12 hown hK hW kd_66 rfl 58 (by decide) (hg (Cond.fieldLink RX12 115 "SlabWalkModel" "lawful" "[Z") m1372) (fun _ h9 => h9) rfl dX12_layNeed_16 ?_
  refine lv_iload_n hx hb dX12_layNeed_19 rfl (lv_at hl 2 rfl) ?_
  refine S_zald hx hb hK hW kd_98 (vin (by omega) (by omega)) dX12_layNeed_20 (fun y_5 ey_5 => ?_)
  have ty_5 := hB_G.law ey_5
  have u_6 : y_5.toInt = (G.1 98 p0.toNatClampNeg).toInt := congrArg Int32.toInt (ey_5)
  refine lv_if_eq (tgt := 36) hx hb dX12_layNeed_21 (by decide) (fun c_7 => ?_) (fun c_7 => ?_)
  · have c_7 : y_5.toInt = 0 := xI_eq rfl rfl c_7
    refine lv_ldcw (v := 100000) hx hb hown (hg (Cond.constant RX12 502 100000) m1858) dX12_layNeed_36 ?_
    refine S_iast hx hb hK hW hS kd_99 (vin (by omega) (by omega)) dX12_layNeed_39 (fun G_8 H locs eG_8 hW hS => ?_)
    have hB_G_8 : Bd G_8 := hB_G.put (V := 100000) (lo := 0) (hi := 100000) eG_8 rfl rfl rfl (by omega) (by omega) (hB_G.2.put eG_8 rfl)
    have hF := hF.put eG_8 (Or.inl (by decide))
    refine lv_aload_n hx hb dX12_layNeed_40 rfl (lv_at hl 1 rfl) ?_
    refine S_getR (n := 99) (C := RX12) (T := TX12) (N := 89) hx hb hg iX12 hown hK hW kd_66 rfl 64 (by decide) (hg (Cond.fieldLink RX12 118 "SlabWalkModel" "need" "[I") m1378) (fun _ h9 => h9) rfl dX12_layNeed_41 ?_
    refine lv_iload_n hx hb dX12_layNeed_44 rfl (lv_at hl 0 rfl) ?_
    refine lv_iconst (v := 2) hx hb dX12_layNeed_45 (by decide) ?_
    refine lv_iadd hx hb dX12_layNeed_46 ?_
    refine lv_topi (fun y_9 ey_9 => ?_)
    have ty_9 : y_9.toInt = y_3.toInt + 2 := xI_add rfl rfl ey_9 (by omega) (by omega)
    refine lv_ldcw (v := 100000) hx hb hown (hg (Cond.constant RX12 502 100000) m1858) dX12_layNeed_47 ?_
    refine S_iast hx hb hK hW hS kd_99 (vin (by omega) (by omega)) dX12_layNeed_50 (fun G_10 H locs eG_10 hW hS => ?_)
    have hB_G_10 : Bd G_10 := hB_G_8.put (V := 100000) (lo := 0) (hi := 100000) eG_10 rfl rfl rfl (by omega) (by omega) (hB_G_8.2.put eG_10 rfl)
    have hF := hF.put eG_10 (Or.inl (by decide))
    have qc_11 : (100000 : Int32).toInt = 100000 := rfl
    have hp0_ : PR (G.1 99) (G.1 98) (G.1 66 61).toInt (G.1 66 62).toInt (G.1 66 63).toInt (p0.toInt) (p1.toInt) := by rw [show G.1 99 = G.1 99 from (funext fun j => ((fun (j : Nat) (_ : True) => rfl)) j trivial)]; exact hpr
    have hp1_ : PR (G_8.1 99) (G.1 98) (G.1 66 61).toInt (G.1 66 62).toInt (G.1 66 63).toInt (p0.toInt) (p1.toInt) := PR_put (i := 1) eG_8 (by omega) (by omega) (by omega) (by omega) hle1 hp0_
    have hp2_ : PR (G_8.1 99) (G.1 98) (G.1 66 61).toInt (G.1 66 62).toInt (G.1 66 63).toInt (p0.toInt) (p1.toInt) := by rw [show G_8.1 99 = G_8.1 99 from (funext fun j => ((fun (j : Nat) (_ : True) => rfl)) j trivial)]; exact hp1_
    have hp3_ : PR (G_10.1 99) (G.1 98) (G.1 66 61).toInt (G.1 66 62).toInt (G.1 66 63).toInt (p0.toInt) (p1.toInt) := PR_put (i := 2) eG_10 (by omega) (by omega) (by omega) (by omega) hle1 hp2_
    have hz1_ := ndv_put (x := p0.toInt) (l := p1.toInt) (i := 1) eG_8 (by omega) (by omega) (by omega) (by omega)
    have hz2_ := ndv_put (x := p0.toInt) (l := p1.toInt) (i := 2) eG_10 (by omega) (by omega) (by omega) (by omega)
    have hy1_ := hz2_.2 p0.toInt p1.toInt 1 (by omega) (by omega) (by omega) (by omega)
    rw [show G_8.1 99 = G_8.1 99 from (funext fun j => ((fun (j : Nat) (_ : True) => rfl)) j trivial), hz1_.1] at hy1_
    have hy2_ := hz2_.1
    refine lv_aload_n hx hb dX12_layNeed_51 rfl (lv_at hl 1 rfl) ?_
    refine S_getR (n := 98) (C := RX12) (T := TX12) (N := 89) hx hb hg iX12 hown hK hW kd_66 rfl 58 (by decide) (hg (Cond.fieldLink RX12 115 "SlabWalkModel" "lawful" "[Z") m1372) (fun _ h9 => h9) rfl dX12_layNeed_52 ?_
    refine lv_iload_n hx hb dX12_layNeed_55 rfl (lv_at hl 2 rfl) ?_
    refine S_zald hx hb hK hW kd_98 (vin (by omega) (by omega)) dX12_layNeed_56 (fun y_12 ey_12 => ?_)
    have ty_12 := hB_G_10.law ey_12
    have u_13 : y_12.toInt = y_5.toInt := congrArg Int32.toInt (ey_12.trans (((gp_ne eG_10 (fun q => absurd q.1 (by decide))).trans ((gp_ne eG_8 (fun q => absurd q.1 (by decide))).trans (ey_5.symm)))))
    refine lv_if_eq (tgt := 199) hx hb dX12_layNeed_57 (by decide) (fun c_14 => ?_) (fun c_14 => ?_)
    · have c_14 : y_12.toInt = 0 := xI_eq rfl rfl c_14
      have hpF_ : PR (G_10.1 99) (G.1 98) (G.1 66 61).toInt (G.1 66 62).toInt (G.1 66 63).toInt (p0.toInt) (p1.toInt) := by rw [show G_10.1 99 = G_10.1 99 from (funext fun j => ((fun (j : Nat) (_ : True) => rfl)) j trivial)]; exact hp3_
      have hy1F_ : ndv (G_10.1 99) p0.toInt p1.toInt 1 = 100000 := by rw [show G_10.1 99 = G_10.1 99 from (funext fun j => ((fun (j : Nat) (_ : True) => rfl)) j trivial)]; exact (hy1_.trans (by decide))
      have hy2F_ : ndv (G_10.1 99) p0.toInt p1.toInt 2 = 100000 := by rw [show G_10.1 99 = G_10.1 99 from (funext fun j => ((fun (j : Nat) (_ : True) => rfl)) j trivial)]; exact (hy2_.trans (by decide))
      refine lv_aload_n hx hb dX12_layNeed_199 rfl (lv_at hl 1 rfl) ?_
      refine S_getR (n := 99) (C := RX12) (T := TX12) (N := 89) hx hb hg iX12 hown hK hW kd_66 rfl 64 (by decide) (hg (Cond.fieldLink RX12 118 "SlabWalkModel" "need" "[I") m1378) (fun _ h9 => h9) rfl dX12_layNeed_200 ?_
      refine lv_iload_n hx hb dX12_layNeed_203 rfl (lv_at hl 0 rfl) ?_
      refine lv_aload_n hx hb dX12_layNeed_204 rfl (lv_at hl 1 rfl) ?_
      refine S_getR (n := 99) (C := RX12) (T := TX12) (N := 89) hx hb hg iX12 hown hK hW kd_66 rfl 64 (by decide) (hg (Cond.fieldLink RX12 118 "SlabWalkModel" "need" "[I") m1378) (fun _ h9 => h9) rfl dX12_layNeed_205 ?_
      refine lv_iload_n hx hb dX12_layNeed_208 rfl (lv_at hl 0 rfl) ?_
      refine lv_iconst (v := 1) hx hb dX12_layNeed_209 (by decide) ?_
      refine lv_iadd hx hb dX12_layNeed_210 ?_
      refine lv_topi (fun y_15 ey_15 => ?_)
      have ty_15 : y_15.toInt = y_3.toInt + 1 := xI_add rfl rfl ey_15 (by omega) (by omega)
      refine S_iald hx hb hK hW kd_99 (vin (by omega) (by omega)) dX12_layNeed_211 (fun y_16 ey_16 => ?_)
      have ty_16 : 0 ≤ y_16.toInt ∧ y_16.toInt ≤ 100000 := hB_G_10.v ey_16 rfl rfl
      have u_17 : y_16.toInt = (G_10.1 99 y_15.toNatClampNeg).toInt := congrArg Int32.toInt (ey_16)
      have hn1_ : y_16.toInt = ndv (G_10.1 99) p0.toInt p1.toInt 1 := (ndv_at (f := G_10.1 99) (x := y_15) (by omega) (congrArg Int32.toInt ey_16)).trans (ndv_eq (show G_10.1 99 = G_10.1 99 from (funext fun j => ((fun (j : Nat) (_ : True) => rfl)) j trivial)) rfl rfl)
      refine lv_aload_n hx hb dX12_layNeed_212 rfl (lv_at hl 1 rfl) ?_
      refine S_getR (n := 99) (C := RX12) (T := TX12) (N := 89) hx hb hg iX12 hown hK hW kd_66 rfl 64 (by decide) (hg (Cond.fieldLink RX12 118 "SlabWalkModel" "need" "[I") m1378) (fun _ h9 => h9) rfl dX12_layNeed_213 ?_
      refine lv_iload_n hx hb dX12_layNeed_216 rfl (lv_at hl 0 rfl) ?_
      refine lv_iconst (v := 2) hx hb dX12_layNeed_217 (by decide) ?_
      refine lv_iadd hx hb dX12_layNeed_218 ?_
      refine lv_topi (fun y_18 ey_18 => ?_)
      have ty_18 : y_18.toInt = y_3.toInt + 2 := xI_add rfl rfl ey_18 (by omega) (by omega)
      refine S_iald hx hb hK hW kd_99 (vin (by omega) (by omega)) dX12_layNeed_219 (fun y_19 ey_19 => ?_)
      have ty_19 : 0 ≤ y_19.toInt ∧ y_19.toInt ≤ 100000 := hB_G_10.v ey_19 rfl rfl
      have u_20 : y_19.toInt = (G_10.1 99 y_18.toNatClampNeg).toInt := congrArg Int32.toInt (ey_19)
      have hn2_ : y_19.toInt = ndv (G_10.1 99) p0.toInt p1.toInt 2 := (ndv_at (f := G_10.1 99) (x := y_18) (by omega) (congrArg Int32.toInt ey_19)).trans (ndv_eq (show G_10.1 99 = G_10.1 99 from (funext fun j => ((fun (j : Nat) (_ : True) => rfl)) j trivial)) rfl rfl)
      refine S_calli (va_runS (As := [.int y_16, .int y_19]) (rest := [.int y_3, .ref (a 99)]) ⟨hx, hb, hml, hown, hts⟩ (n_lesser l D k A a z G_10 y_16 y_19 ) (va_cwS 2 hts (gd_S hgd m1863 m1864 m131 m1865) rfl rfl rfl (by decide +kernel) ⟨Nat.le_of_ble_eq_true rfl, Nat.le_of_ble_eq_true rfl⟩) (pre_S hW hB_G_10 hK hZ hS) rfl rfl hl.1 rfl (lv_room (Nat.le_of_ble_eq_true rfl)) dX12_layNeed_220 ⟨Nat.le_of_ble_eq_true rfl, Nat.le_of_ble_eq_true rfl⟩) hS (fun r_21 G_22 H locs hpo hW hS => ?_)
      obtain ⟨hB_G_22, hq_23, hp_24⟩ := hpo
      have hF := hF.call hq_23 (by decide) (by decide)
      refine S_iast hx hb hK hW hS kd_99 (vin (by omega) (by omega)) dX12_layNeed_223 (fun G_25 H locs eG_25 hW hS => ?_)
      have hB_G_25 : Bd G_25 := hB_G_22.put (V := r_21.toInt) (lo := 0) (hi := 100000) eG_25 rfl rfl rfl (by omega) (by omega) (hB_G_22.2.put eG_25 rfl)
      have hF := hF.put eG_25 (Or.inl (by decide))
      have hpL_ : PR (G_22.1 99) (G.1 98) (G.1 66 61).toInt (G.1 66 62).toInt (G.1 66 63).toInt (p0.toInt) (p1.toInt) := by rw [show G_22.1 99 = G_10.1 99 from (funext fun j => ((fun (j : Nat) (_ : True) => (hq_23.ri 99 (by decide) (by decide) j))) j trivial)]; exact hpF_
      have hfL_ : ((ndv (G_22.1 99) p0.toInt p1.toInt 1 = 1 ∨ ndv (G_22.1 99) p0.toInt p1.toInt 1 = 100000) ∧ ndv (G_22.1 99) p0.toInt p1.toInt 2 = 100000) ∨ ∃ u, NJ (G_22.1 99) (G.1 98) (G.1 66 61).toInt (G.1 66 62).toInt p0.toInt p1.toInt u ∧ u ≤ (G.1 66 63).toInt + 1 := by rw [show G_22.1 99 = G_10.1 99 from (funext fun j => ((fun (j : Nat) (_ : True) => (hq_23.ri 99 (by decide) (by decide) j))) j trivial)]; exact Or.inl ⟨Or.inr hy1F_, hy2F_⟩
      have hr1_ := hn1_.trans (show ndv (G_10.1 99) p0.toInt p1.toInt 1 = ndv (G_22.1 99) p0.toInt p1.toInt 1 by rw [show G_22.1 99 = G_10.1 99 from (funext fun j => ((fun (j : Nat) (_ : True) => (hq_23.ri 99 (by decide) (by decide) j))) j trivial)])
      have hr2_ := hn2_.trans (show ndv (G_10.1 99) p0.toInt p1.toInt 2 = ndv (G_22.1 99) p0.toInt p1.toInt 2 by rw [show G_22.1 99 = G_10.1 99 from (funext fun j => ((fun (j : Nat) (_ : True) => (hq_23.ri 99 (by decide) (by decide) j))) j trivial)])
      have hEnd_ : PR (G_25.1 99) (G.1 98) (G.1 66 61).toInt (G.1 66 62).toInt (G.1 66 63).toInt (p0.toInt) (p1.toInt + 1) := PR_next eG_25 (by omega) (by omega) (by omega) hle1 hpL_ (lw400 hB_G h400) (by omega) (by omega) (by omega) hfL_
      have hPG_ : PRG G_25 p0.toInt (p1.toInt + 1) := PRG_of hF (by decide) (by decide) hEnd_
      exact W.vret hx hb hr (fun t ht _ => ⟨⟨G_25, rfl, ⟨hB_G_25, hF, (hPG_)⟩, wd_t ht hW⟩, hS.F ht⟩) hS.2.2 dX12_layNeed_224
    · have c_14 : y_12.toInt ≠ 0 := xI_ne rfl rfl c_14
      refine lv_aload_n hx hb dX12_layNeed_60 rfl (lv_at hl 1 rfl) ?_
      refine lv_iload_n hx hb dX12_layNeed_61 rfl (lv_at hl 2 rfl) ?_
      have b_26 : 0 ≤ (G.1 66 59).toInt ∧ (G.1 66 59).toInt ≤ 400 := hB_G.i 66 59 rfl rfl
      have g_27 : (G_10.1 66 59).toInt = (G.1 66 59).toInt := by rw [show G_10.1 66 59 = (G.1 66 59) from ((gp_ne eG_10 (fun q => absurd q.1 (by decide))).trans (gp_ne eG_8 (fun q => absurd q.1 (by decide))))]
      have b_28 : 0 ≤ (G.1 66 60).toInt ∧ (G.1 66 60).toInt ≤ 12 := hB_G.i 66 60 rfl rfl
      have g_29 : (G_10.1 66 60).toInt = (G.1 66 60).toInt := by rw [show G_10.1 66 60 = (G.1 66 60) from ((gp_ne eG_10 (fun q => absurd q.1 (by decide))).trans (gp_ne eG_8 (fun q => absurd q.1 (by decide))))]
      have b_30 : 0 ≤ (G.1 66 62).toInt ∧ (G.1 66 62).toInt ≤ 60 := hB_G.i 66 62 rfl rfl
      have g_31 : (G_10.1 66 62).toInt = (G.1 66 62).toInt := by rw [show G_10.1 66 62 = (G.1 66 62) from ((gp_ne eG_10 (fun q => absurd q.1 (by decide))).trans (gp_ne eG_8 (fun q => absurd q.1 (by decide))))]
      refine S_calli (va_runV (As := [.int p0]) (rest := []) ⟨hx, hb, hml, hown, hts⟩ (n_isEnd l D k A a z G_10 p0 ⟨by omega, by omega⟩) (cwV 1 hts (gd_V hgd m1854 m1856 m95 m131 m1857) rfl rfl rfl (by decide +kernel) ⟨Nat.le_of_ble_eq_true rfl, Nat.le_of_ble_eq_true rfl⟩) (pre_V hW hB_G_10 hK hZ hS kd_66 rfl) rfl rfl hl.1 rfl (lv_room (Nat.le_of_ble_eq_true rfl)) dX12_layNeed_62 ⟨Nat.le_of_ble_eq_true rfl, Nat.le_of_ble_eq_true rfl⟩) hS (fun r_32 G_33 H locs hpo hW hS => ?_)
      obtain ⟨hB_G_33, hq_34, f_36, hp_35⟩ := hpo
      have hF := hF.call hq_34 (by decide) (by decide)
      refine lv_if_ne (tgt := 199) hx hb dX12_layNeed_65 (by decide) (fun c_37 => ?_) (fun c_37 => ?_)
      · have c_37 : r_32.toInt ≠ 0 := xI_ne rfl rfl c_37
        have hpF_ : PR (G_33.1 99) (G.1 98) (G.1 66 61).toInt (G.1 66 62).toInt (G.1 66 63).toInt (p0.toInt) (p1.toInt) := by rw [show G_33.1 99 = G_10.1 99 from (funext fun j => ((fun (j : Nat) (_ : True) => (hq_34.ri 99 (by decide) (by decide) j))) j trivial)]; exact hp3_
        have hy1F_ : ndv (G_33.1 99) p0.toInt p1.toInt 1 = 100000 := by rw [show G_33.1 99 = G_10.1 99 from (funext fun j => ((fun (j : Nat) (_ : True) => (hq_34.ri 99 (by decide) (by decide) j))) j trivial)]; exact (hy1_.trans (by decide))
        have hy2F_ : ndv (G_33.1 99) p0.toInt p1.toInt 2 = 100000 := by rw [show G_33.1 99 = G_10.1 99 from (funext fun j => ((fun (j : Nat) (_ : True) => (hq_34.ri 99 (by decide) (by decide) j))) j trivial)]; exact (hy2_.trans (by decide))
        refine lv_aload_n hx hb dX12_layNeed_199 rfl (lv_at hl 1 rfl) ?_
        refine S_getR (n := 99) (C := RX12) (T := TX12) (N := 89) hx hb hg iX12 hown hK hW kd_66 rfl 64 (by decide) (hg (Cond.fieldLink RX12 118 "SlabWalkModel" "need" "[I") m1378) (fun _ h9 => h9) rfl dX12_layNeed_200 ?_
        refine lv_iload_n hx hb dX12_layNeed_203 rfl (lv_at hl 0 rfl) ?_
        refine lv_aload_n hx hb dX12_layNeed_204 rfl (lv_at hl 1 rfl) ?_
        refine S_getR (n := 99) (C := RX12) (T := TX12) (N := 89) hx hb hg iX12 hown hK hW kd_66 rfl 64 (by decide) (hg (Cond.fieldLink RX12 118 "SlabWalkModel" "need" "[I") m1378) (fun _ h9 => h9) rfl dX12_layNeed_205 ?_
        refine lv_iload_n hx hb dX12_layNeed_208 rfl (lv_at hl 0 rfl) ?_
        refine lv_iconst (v := 1) hx hb dX12_layNeed_209 (by decide) ?_
        refine lv_iadd hx hb dX12_layNeed_210 ?_
        refine lv_topi (fun y_38 ey_38 => ?_)
        have ty_38 : y_38.toInt = y_3.toInt + 1 := xI_add rfl rfl ey_38 (by omega) (by omega)
        refine S_iald hx hb hK hW kd_99 (vin (by omega) (by omega)) dX12_layNeed_211 (fun y_39 ey_39 => ?_)
        have ty_39 : 0 ≤ y_39.toInt ∧ y_39.toInt ≤ 100000 := hB_G_33.v ey_39 rfl rfl
        have u_40 : y_39.toInt = (G_10.1 99 y_38.toNatClampNeg).toInt := congrArg Int32.toInt (ey_39.trans ((hq_34.ri 99 (by decide) (by decide) y_38.toNatClampNeg)))
        have hn1_ : y_39.toInt = ndv (G_10.1 99) p0.toInt p1.toInt 1 := (ndv_at (f := G_33.1 99) (x := y_38) (by omega) (congrArg Int32.toInt ey_39)).trans (ndv_eq (show G_33.1 99 = G_10.1 99 from (funext fun j => ((fun (j : Nat) (_ : True) => (hq_34.ri 99 (by decide) (by decide) j))) j trivial)) rfl rfl)
        refine lv_aload_n hx hb dX12_layNeed_212 rfl (lv_at hl 1 rfl) ?_
        refine S_getR (n := 99) (C := RX12) (T := TX12) (N := 89) hx hb hg iX12 hown hK hW kd_66 rfl 64 (by decide) (hg (Cond.fieldLink RX12 118 "SlabWalkModel" "need" "[I") m1378) (fun _ h9 => h9) rfl dX12_layNeed_213 ?_
        refine lv_iload_n hx hb dX12_layNeed_216 rfl (lv_at hl 0 rfl) ?_
        refine lv_iconst (v := 2) hx hb dX12_layNeed_217 (by decide) ?_
        refine lv_iadd hx hb dX12_layNeed_218 ?_
        refine lv_topi (fun y_41 ey_41 => ?_)
        have ty_41 : y_41.toInt = y_3.toInt + 2 := xI_add rfl rfl ey_41 (by omega) (by omega)
        refine S_iald hx hb hK hW kd_99 (vin (by omega) (by omega)) dX12_layNeed_219 (fun y_42 ey_42 => ?_)
        have ty_42 : 0 ≤ y_42.toInt ∧ y_42.toInt ≤ 100000 := hB_G_33.v ey_42 rfl rfl
        have u_43 : y_42.toInt = (G_10.1 99 y_41.toNatClampNeg).toInt := congrArg Int32.toInt (ey_42.trans ((hq_34.ri 99 (by decide) (by decide) y_41.toNatClampNeg)))
        have hn2_ : y_42.toInt = ndv (G_10.1 99) p0.toInt p1.toInt 2 := (ndv_at (f := G_33.1 99) (x := y_41) (by omega) (congrArg Int32.toInt ey_42)).trans (ndv_eq (show G_33.1 99 = G_10.1 99 from (funext fun j => ((fun (j : Nat) (_ : True) => (hq_34.ri 99 (by decide) (by decide) j))) j trivial)) rfl rfl)
        refine S_calli (va_runS (As := [.int y_39, .int y_42]) (rest := [.int y_3, .ref (a 99)]) ⟨hx, hb, hml, hown, hts⟩ (n_lesser l D k A a z G_33 y_39 y_42 ) (va_cwS 2 hts (gd_S hgd m1863 m1864 m131 m1865) rfl rfl rfl (by decide +kernel) ⟨Nat.le_of_ble_eq_true rfl, Nat.le_of_ble_eq_true rfl⟩) (pre_S hW hB_G_33 hK hZ hS) rfl rfl hl.1 rfl (lv_room (Nat.le_of_ble_eq_true rfl)) dX12_layNeed_220 ⟨Nat.le_of_ble_eq_true rfl, Nat.le_of_ble_eq_true rfl⟩) hS (fun r_44 G_45 H locs hpo hW hS => ?_)
        obtain ⟨hB_G_45, hq_46, hp_47⟩ := hpo
        have hF := hF.call hq_46 (by decide) (by decide)
        refine S_iast hx hb hK hW hS kd_99 (vin (by omega) (by omega)) dX12_layNeed_223 (fun G_48 H locs eG_48 hW hS => ?_)
        have hB_G_48 : Bd G_48 := hB_G_45.put (V := r_44.toInt) (lo := 0) (hi := 100000) eG_48 rfl rfl rfl (by omega) (by omega) (hB_G_45.2.put eG_48 rfl)
        have hF := hF.put eG_48 (Or.inl (by decide))
        have hpL_ : PR (G_45.1 99) (G.1 98) (G.1 66 61).toInt (G.1 66 62).toInt (G.1 66 63).toInt (p0.toInt) (p1.toInt) := by rw [show G_45.1 99 = G_33.1 99 from (funext fun j => ((fun (j : Nat) (_ : True) => (hq_46.ri 99 (by decide) (by decide) j))) j trivial)]; exact hpF_
        have hfL_ : ((ndv (G_45.1 99) p0.toInt p1.toInt 1 = 1 ∨ ndv (G_45.1 99) p0.toInt p1.toInt 1 = 100000) ∧ ndv (G_45.1 99) p0.toInt p1.toInt 2 = 100000) ∨ ∃ u, NJ (G_45.1 99) (G.1 98) (G.1 66 61).toInt (G.1 66 62).toInt p0.toInt p1.toInt u ∧ u ≤ (G.1 66 63).toInt + 1 := by rw [show G_45.1 99 = G_33.1 99 from (funext fun j => ((fun (j : Nat) (_ : True) => (hq_46.ri 99 (by decide) (by decide) j))) j trivial)]; exact Or.inl ⟨Or.inr hy1F_, hy2F_⟩
        have hr1_ := hn1_.trans (show ndv (G_10.1 99) p0.toInt p1.toInt 1 = ndv (G_45.1 99) p0.toInt p1.toInt 1 by rw [show G_45.1 99 = G_10.1 99 from (funext fun j => ((fun (j : Nat) (_ : True) => ((hq_46.ri 99 (by decide) (by decide) j).trans (hq_34.ri 99 (by decide) (by decide) j)))) j trivial)])
        have hr2_ := hn2_.trans (show ndv (G_10.1 99) p0.toInt p1.toInt 2 = ndv (G_45.1 99) p0.toInt p1.toInt 2 by rw [show G_45.1 99 = G_10.1 99 from (funext fun j => ((fun (j : Nat) (_ : True) => ((hq_46.ri 99 (by decide) (by decide) j).trans (hq_34.ri 99 (by decide) (by decide) j)))) j trivial)])
        have hEnd_ : PR (G_48.1 99) (G.1 98) (G.1 66 61).toInt (G.1 66 62).toInt (G.1 66 63).toInt (p0.toInt) (p1.toInt + 1) := PR_next eG_48 (by omega) (by omega) (by omega) hle1 hpL_ (lw400 hB_G h400) (by omega) (by omega) (by omega) hfL_
        have hPG_ : PRG G_48 p0.toInt (p1.toInt + 1) := PRG_of hF (by decide) (by decide) hEnd_
        exact W.vret hx hb hr (fun t ht _ => ⟨⟨G_48, rfl, ⟨hB_G_48, hF, (hPG_)⟩, wd_t ht hW⟩, hS.F ht⟩) hS.2.2 dX12_layNeed_224
      · have c_37 : r_32.toInt = 0 := xI_eq rfl rfl c_37
        refine lv_aload_n hx hb dX12_layNeed_68 rfl (lv_at hl 1 rfl) ?_
        have b_49 : 0 ≤ (G.1 66 61).toInt ∧ (G.1 66 61).toInt ≤ 60 := hB_G.i 66 61 rfl rfl
        refine S_getI (v := (G.1 66 61)) (C := RX12) (T := TX12) (N := 89) hx hb hg iX12 hown hK hW kd_66 rfl 61 (by decide) (hg (Cond.fieldLink RX12 475 "SlabWalkModel" "least" "I") m1375) (fun _ h9 => h9) rfl ((hq_34.i 66 61 (by decide) (by decide)).trans ((gp_ne eG_10 (fun q => absurd q.1 (by decide))).trans (gp_ne eG_8 (fun q => absurd q.1 (by decide))))) dX12_layNeed_69 ?_
        have hpE_ : PR (G_33.1 99) (G.1 98) (G.1 66 61).toInt (G.1 66 62).toInt (G.1 66 63).toInt (p0.toInt) (p1.toInt) := by rw [show G_33.1 99 = G_10.1 99 from (funext fun j => ((fun (j : Nat) (_ : True) => (hq_34.ri 99 (by decide) (by decide) j))) j trivial)]; exact hp3_
        have hq1_ : ndv (G_33.1 99) p0.toInt p1.toInt 1 = 100000 := by rw [show G_33.1 99 = G_10.1 99 from (funext fun j => ((fun (j : Nat) (_ : True) => (hq_34.ri 99 (by decide) (by decide) j))) j trivial)]; exact (hy1_.trans (by decide))
        have hq2_ : ndv (G_33.1 99) p0.toInt p1.toInt 2 = 100000 := by rw [show G_33.1 99 = G_10.1 99 from (funext fun j => ((fun (j : Nat) (_ : True) => (hq_34.ri 99 (by decide) (by decide) j))) j trivial)]; exact (hy2_.trans (by decide))
        have hnj_ : NJ (G_33.1 99) (G.1 98) (G.1 66 61).toInt (G.1 66 62).toInt p0.toInt p1.toInt ((G.1 66 61).toInt) := by rw [show (G.1 66 61).toInt = (G.1 66 61).toInt from by omega]; exact NJ_0 hq1_ hq2_
        refine lv_istore (lv' := [(4, .int (G.1 66 61)), (3, .int y_3), (0, .ref (a 66)), (1, .int p0), (2, .int p1)]) hx hb dX12_layNeed_72 hl (by decide) rfl (fun ls hl => ?_)
        refine loop_N (Inv := fun n H locs ls => ∃ (G_50 : GS) (x_54 : Int32), (n : Int) = 100 - x_54.toInt ∧ (1 ≤ x_54.toInt ∧ x_54.toInt ≤ 100) ∧ (PR (G_50.1 99) (G.1 98) (G.1 66 61).toInt (G.1 66 62).toInt (G.1 66 63).toInt (p0.toInt) (p1.toInt)) ∧ (NJ (G_50.1 99) (G.1 98) (G.1 66 61).toInt (G.1 66 62).toInt p0.toInt p1.toInt (x_54.toInt)) ∧ ((G.1 66 61).toInt ≤ x_54.toInt) ∧ (x_54.toInt ≤ (G.1 66 63).toInt + 1) ∧ Wd D k A a G_50 H ∧ Bd G_50 ∧ Fr [99] [] G G_50 ∧ Fr [99] [] G_33 G_50 ∧ va_S A s.heap H locs ∧ lv_has ls 6 [(4, .int x_54), (3, .int y_3), (0, .ref (a 66)), (1, .int p0), (2, .int p1)]) (fun n_53 H locs ls ih_52 hI => ?_) (100 - (G.1 66 61).toInt : Int).toNat ⟨G_33, (G.1 66 61), (Int.toNat_of_nonneg (by omega)), ⟨by omega, by omega⟩, (by assumption), (by assumption), (by omega), (by omega), hW, hB_G_33, hF, Fr.rf, hS, lv_sub hl [0, 1, 2, 3, 4] rfl⟩
        obtain ⟨G_50, x_54, hn_60, f_55, f_56, f_57, f_58, f_59, hW, hB_G_50, hF, hq_51, hS, hl⟩ := hI
        refine lv_iload hx hb dX12_layNeed_74 (lv_at hl 0 rfl) ?_
        refine lv_iload_n hx hb dX12_layNeed_76 rfl (lv_at hl 4 rfl) ?_
        refine lv_iconst (v := 1) hx hb dX12_layNeed_77 (by decide) ?_
        refine lv_icmp_ne (tgt := 88) hx hb dX12_layNeed_78 (by decide) (fun c_61 => ?_) (fun c_61 => ?_)
        · have c_61 : p1.toInt ≠ 1 := xI_ne rfl rfl c_61
          refine lv_aload_n hx hb dX12_layNeed_88 rfl (lv_at hl 2 rfl) ?_
          have b_62 : 0 ≤ (G.1 66 63).toInt ∧ (G.1 66 63).toInt ≤ 99 := hB_G.i 66 63 rfl rfl
          refine S_getI (v := (G.1 66 63)) (C := RX12) (T := TX12) (N := 89) hx hb hg iX12 hown hK hW kd_66 rfl 63 (by decide) (hg (Cond.fieldLink RX12 481 "SlabWalkModel" "leap" "I") m1377) (fun _ h9 => h9) rfl ((hq_51.i 66 63 (by decide) (by decide)).trans ((hq_34.i 66 63 (by decide) (by decide)).trans ((gp_ne eG_10 (fun q => absurd q.1 (by decide))).trans (gp_ne eG_8 (fun q => absurd q.1 (by decide)))))) dX12_layNeed_89 ?_
          refine lv_icmp_gt (tgt := 199) hx hb dX12_layNeed_92 (by decide) (fun c_63 => ?_) (fun c_63 => ?_)
          · have c_63 : (G.1 66 63).toInt < x_54.toInt := xI_lt rfl rfl c_63
            have hpF_ : PR (G_50.1 99) (G.1 98) (G.1 66 61).toInt (G.1 66 62).toInt (G.1 66 63).toInt (p0.toInt) (p1.toInt) := by rw [show G_50.1 99 = G_50.1 99 from (funext fun j => ((fun (j : Nat) (_ : True) => rfl)) j trivial)]; exact (show PR (G_50.1 99) (G.1 98) (G.1 66 61).toInt (G.1 66 62).toInt (G.1 66 63).toInt (p0.toInt) (p1.toInt) by assumption)
            have hjF_ : NJ (G_50.1 99) (G.1 98) (G.1 66 61).toInt (G.1 66 62).toInt p0.toInt p1.toInt (x_54.toInt) := by rw [show G_50.1 99 = G_50.1 99 from (funext fun j => ((fun (j : Nat) (_ : True) => rfl)) j trivial)]; exact (show NJ (G_50.1 99) (G.1 98) (G.1 66 61).toInt (G.1 66 62).toInt p0.toInt p1.toInt (x_54.toInt) by assumption)
            refine lv_aload_n hx hb dX12_layNeed_199 rfl (lv_at hl 2 rfl) ?_
            refine S_getR (n := 99) (C := RX12) (T := TX12) (N := 89) hx hb hg iX12 hown hK hW kd_66 rfl 64 (by decide) (hg (Cond.fieldLink RX12 118 "SlabWalkModel" "need" "[I") m1378) (fun _ h9 => h9) rfl dX12_layNeed_200 ?_
            refine lv_iload_n hx hb dX12_layNeed_203 rfl (lv_at hl 1 rfl) ?_
            refine lv_aload_n hx hb dX12_layNeed_204 rfl (lv_at hl 2 rfl) ?_
            refine S_getR (n := 99) (C := RX12) (T := TX12) (N := 89) hx hb hg iX12 hown hK hW kd_66 rfl 64 (by decide) (hg (Cond.fieldLink RX12 118 "SlabWalkModel" "need" "[I") m1378) (fun _ h9 => h9) rfl dX12_layNeed_205 ?_
            refine lv_iload_n hx hb dX12_layNeed_208 rfl (lv_at hl 1 rfl) ?_
            refine lv_iconst (v := 1) hx hb dX12_layNeed_209 (by decide) ?_
            refine lv_iadd hx hb dX12_layNeed_210 ?_
            refine lv_topi (fun y_64 ey_64 => ?_)
            have ty_64 : y_64.toInt = y_3.toInt + 1 := xI_add rfl rfl ey_64 (by omega) (by omega)
            refine S_iald hx hb hK hW kd_99 (vin (by omega) (by omega)) dX12_layNeed_211 (fun y_65 ey_65 => ?_)
            have ty_65 : 0 ≤ y_65.toInt ∧ y_65.toInt ≤ 100000 := hB_G_50.v ey_65 rfl rfl
            have u_66 : y_65.toInt = (G_50.1 99 y_64.toNatClampNeg).toInt := congrArg Int32.toInt (ey_65)
            have hn1_ : y_65.toInt = ndv (G_50.1 99) p0.toInt p1.toInt 1 := (ndv_at (f := G_50.1 99) (x := y_64) (by omega) (congrArg Int32.toInt ey_65)).trans (ndv_eq (show G_50.1 99 = G_50.1 99 from (funext fun j => ((fun (j : Nat) (_ : True) => rfl)) j trivial)) rfl rfl)
            refine lv_aload_n hx hb dX12_layNeed_212 rfl (lv_at hl 2 rfl) ?_
            refine S_getR (n := 99) (C := RX12) (T := TX12) (N := 89) hx hb hg iX12 hown hK hW kd_66 rfl 64 (by decide) (hg (Cond.fieldLink RX12 118 "SlabWalkModel" "need" "[I") m1378) (fun _ h9 => h9) rfl dX12_layNeed_213 ?_
            refine lv_iload_n hx hb dX12_layNeed_216 rfl (lv_at hl 1 rfl) ?_
            refine lv_iconst (v := 2) hx hb dX12_layNeed_217 (by decide) ?_
            refine lv_iadd hx hb dX12_layNeed_218 ?_
            refine lv_topi (fun y_67 ey_67 => ?_)
            have ty_67 : y_67.toInt = y_3.toInt + 2 := xI_add rfl rfl ey_67 (by omega) (by omega)
            refine S_iald hx hb hK hW kd_99 (vin (by omega) (by omega)) dX12_layNeed_219 (fun y_68 ey_68 => ?_)
            have ty_68 : 0 ≤ y_68.toInt ∧ y_68.toInt ≤ 100000 := hB_G_50.v ey_68 rfl rfl
            have u_69 : y_68.toInt = (G_50.1 99 y_67.toNatClampNeg).toInt := congrArg Int32.toInt (ey_68)
            have hn2_ : y_68.toInt = ndv (G_50.1 99) p0.toInt p1.toInt 2 := (ndv_at (f := G_50.1 99) (x := y_67) (by omega) (congrArg Int32.toInt ey_68)).trans (ndv_eq (show G_50.1 99 = G_50.1 99 from (funext fun j => ((fun (j : Nat) (_ : True) => rfl)) j trivial)) rfl rfl)
            refine S_calli (va_runS (As := [.int y_65, .int y_68]) (rest := [.int y_3, .ref (a 99)]) ⟨hx, hb, hml, hown, hts⟩ (n_lesser l D k A a z G_50 y_65 y_68 ) (va_cwS 2 hts (gd_S hgd m1863 m1864 m131 m1865) rfl rfl rfl (by decide +kernel) ⟨Nat.le_of_ble_eq_true rfl, Nat.le_of_ble_eq_true rfl⟩) (pre_S hW hB_G_50 hK hZ hS) rfl rfl hl.1 rfl (lv_room (Nat.le_of_ble_eq_true rfl)) dX12_layNeed_220 ⟨Nat.le_of_ble_eq_true rfl, Nat.le_of_ble_eq_true rfl⟩) hS (fun r_70 G_71 H locs hpo hW hS => ?_)
            obtain ⟨hB_G_71, hq_72, hp_73⟩ := hpo
            have hF := hF.call hq_72 (by decide) (by decide)
            refine S_iast hx hb hK hW hS kd_99 (vin (by omega) (by omega)) dX12_layNeed_223 (fun G_74 H locs eG_74 hW hS => ?_)
            have hB_G_74 : Bd G_74 := hB_G_71.put (V := r_70.toInt) (lo := 0) (hi := 100000) eG_74 rfl rfl rfl (by omega) (by omega) (hB_G_71.2.put eG_74 rfl)
            have hF := hF.put eG_74 (Or.inl (by decide))
            have hpL_ : PR (G_71.1 99) (G.1 98) (G.1 66 61).toInt (G.1 66 62).toInt (G.1 66 63).toInt (p0.toInt) (p1.toInt) := by rw [show G_71.1 99 = G_50.1 99 from (funext fun j => ((fun (j : Nat) (_ : True) => (hq_72.ri 99 (by decide) (by decide) j))) j trivial)]; exact hpF_
            have hfL_ : ((ndv (G_71.1 99) p0.toInt p1.toInt 1 = 1 ∨ ndv (G_71.1 99) p0.toInt p1.toInt 1 = 100000) ∧ ndv (G_71.1 99) p0.toInt p1.toInt 2 = 100000) ∨ ∃ u, NJ (G_71.1 99) (G.1 98) (G.1 66 61).toInt (G.1 66 62).toInt p0.toInt p1.toInt u ∧ u ≤ (G.1 66 63).toInt + 1 := by rw [show G_71.1 99 = G_50.1 99 from (funext fun j => ((fun (j : Nat) (_ : True) => (hq_72.ri 99 (by decide) (by decide) j))) j trivial)]; exact Or.inr ⟨_, hjF_, by omega⟩
            have hr1_ := hn1_.trans (show ndv (G_50.1 99) p0.toInt p1.toInt 1 = ndv (G_71.1 99) p0.toInt p1.toInt 1 by rw [show G_71.1 99 = G_50.1 99 from (funext fun j => ((fun (j : Nat) (_ : True) => (hq_72.ri 99 (by decide) (by decide) j))) j trivial)])
            have hr2_ := hn2_.trans (show ndv (G_50.1 99) p0.toInt p1.toInt 2 = ndv (G_71.1 99) p0.toInt p1.toInt 2 by rw [show G_71.1 99 = G_50.1 99 from (funext fun j => ((fun (j : Nat) (_ : True) => (hq_72.ri 99 (by decide) (by decide) j))) j trivial)])
            have hEnd_ : PR (G_74.1 99) (G.1 98) (G.1 66 61).toInt (G.1 66 62).toInt (G.1 66 63).toInt (p0.toInt) (p1.toInt + 1) := PR_next eG_74 (by omega) (by omega) (by omega) hle1 hpL_ (lw400 hB_G h400) (by omega) (by omega) (by omega) hfL_
            have hPG_ : PRG G_74 p0.toInt (p1.toInt + 1) := PRG_of hF (by decide) (by decide) hEnd_
            exact W.vret hx hb hr (fun t ht _ => ⟨⟨G_74, rfl, ⟨hB_G_74, hF, (hPG_)⟩, wd_t ht hW⟩, hS.F ht⟩) hS.2.2 dX12_layNeed_224
          · have c_63 : x_54.toInt ≤ (G.1 66 63).toInt := xI_nlt rfl rfl c_63
            refine lv_aload_n hx hb dX12_layNeed_95 rfl (lv_at hl 2 rfl) ?_
            refine S_getR (n := 98) (C := RX12) (T := TX12) (N := 89) hx hb hg iX12 hown hK hW kd_66 rfl 58 (by decide) (hg (Cond.fieldLink RX12 115 "SlabWalkModel" "lawful" "[Z") m1372) (fun _ h9 => h9) rfl dX12_layNeed_96 ?_
            refine lv_iload_n hx hb dX12_layNeed_99 rfl (lv_at hl 3 rfl) ?_
            refine lv_iload hx hb dX12_layNeed_100 (lv_at hl 0 rfl) ?_
            refine lv_iadd hx hb dX12_layNeed_102 ?_
            refine lv_topi (fun y_75 ey_75 => ?_)
            have ty_75 : y_75.toInt = p0.toInt + x_54.toInt := xI_add rfl rfl ey_75 (by omega) (by omega)
            refine S_zald hx hb hK hW kd_98 (vin (by omega) (by omega)) dX12_layNeed_103 (fun y_76 ey_76 => ?_)
            have ty_76 := hB_G_50.law ey_76
            have u_77 : y_76.toInt = (G.1 98 y_75.toNatClampNeg).toInt := congrArg Int32.toInt (ey_76.trans (((hq_51.ri 98 (by decide) (by decide) y_75.toNatClampNeg).trans ((hq_34.ri 98 (by decide) (by decide) y_75.toNatClampNeg).trans ((gp_ne eG_10 (fun q => absurd q.1 (by decide))).trans (gp_ne eG_8 (fun q => absurd q.1 (by decide))))))))
            have b_78 : 0 ≤ (G.1 98 400).toInt ∧ (G.1 98 400).toInt ≤ 1 := hB_G.i 98 400 rfl rfl
            have g_79 : (G_50.1 98 400).toInt = (G.1 98 400).toInt := by rw [show G_50.1 98 400 = (G.1 98 400) from ((hq_51.i 98 400 (by decide) (by decide)).trans ((hq_34.i 98 400 (by decide) (by decide)).trans ((gp_ne eG_10 (fun q => absurd q.1 (by decide))).trans (gp_ne eG_8 (fun q => absurd q.1 (by decide))))))]
            have u_80 := law4 (G := G_50) (by omega) ey_76
            refine lv_if_ne (tgt := 110) hx hb dX12_layNeed_104 (by decide) (fun c_81 => ?_) (fun c_81 => ?_)
            · have c_81 : y_76.toInt ≠ 0 := xI_ne rfl rfl c_81
              refine lv_iload hx hb dX12_layNeed_110 (lv_at hl 0 rfl) ?_
              refine lv_aload_n hx hb dX12_layNeed_112 rfl (lv_at hl 2 rfl) ?_
              refine S_getI (v := (G.1 66 62)) (C := RX12) (T := TX12) (N := 89) hx hb hg iX12 hown hK hW kd_66 rfl 62 (by decide) (hg (Cond.fieldLink RX12 478 "SlabWalkModel" "most" "I") m1376) (fun _ h9 => h9) rfl ((hq_51.i 66 62 (by decide) (by decide)).trans ((hq_34.i 66 62 (by decide) (by decide)).trans ((gp_ne eG_10 (fun q => absurd q.1 (by decide))).trans ((gp_ne eG_8 (fun q => absurd q.1 (by decide))).trans (rfl))))) dX12_layNeed_113 ?_
              refine lv_icmp_le (tgt := 123) hx hb dX12_layNeed_116 (by decide) (fun c_82 => ?_) (fun c_82 => ?_)
              · have c_82 : x_54.toInt ≤ (G.1 66 62).toInt := xI_le rfl rfl c_82
                refine lv_iconst (v := 0) hx hb dX12_layNeed_123 (by decide) ?_
                have qc_83 : (0 : Int32).toInt = 0 := rfl
                refine S_calli (va_runS (As := [.int 0]) (rest := []) ⟨hx, hb, hml, hown, hts⟩ (n_truth l D k A a z G_50 0 ⟨by decide, by decide⟩) (va_cwS 1 hts (gd_S hgd m1788 m1789 m131 m1790) rfl rfl rfl (by decide +kernel) ⟨Nat.le_of_ble_eq_true rfl, Nat.le_of_ble_eq_true rfl⟩) (pre_S hW hB_G_50 hK hZ hS) rfl rfl hl.1 rfl (lv_room (Nat.le_of_ble_eq_true rfl)) dX12_layNeed_124 ⟨Nat.le_of_ble_eq_true rfl, Nat.le_of_ble_eq_true rfl⟩) hS (fun r_84 G_85 H locs hpo hW hS => ?_)
                obtain ⟨hB_G_85, hq_86, f_88, hp_87, -⟩ := hpo
                have hF := hF.call hq_86 (by decide) (by decide)
                refine lv_istore (lv' := [(5, .int r_84), (4, .int x_54), (3, .int y_3), (0, .ref (a 66)), (1, .int p0), (2, .int p1)]) hx hb dX12_layNeed_127 hl (by decide) rfl (fun ls hl => ?_)
                refine lv_aload_n hx hb dX12_layNeed_129 rfl (lv_at hl 3 rfl) ?_
                refine S_getR (n := 99) (C := RX12) (T := TX12) (N := 89) hx hb hg iX12 hown hK hW kd_66 rfl 64 (by decide) (hg (Cond.fieldLink RX12 118 "SlabWalkModel" "need" "[I") m1378) (fun _ h9 => h9) rfl dX12_layNeed_130 ?_
                refine lv_iload_n hx hb dX12_layNeed_133 rfl (lv_at hl 2 rfl) ?_
                refine lv_iconst (v := 1) hx hb dX12_layNeed_134 (by decide) ?_
                refine lv_iadd hx hb dX12_layNeed_135 ?_
                refine lv_topi (fun y_89 ey_89 => ?_)
                have ty_89 : y_89.toInt = y_3.toInt + 1 := xI_add rfl rfl ey_89 (by omega) (by omega)
                refine lv_aload_n hx hb dX12_layNeed_136 rfl (lv_at hl 3 rfl) ?_
                refine S_getR (n := 99) (C := RX12) (T := TX12) (N := 89) hx hb hg iX12 hown hK hW kd_66 rfl 64 (by decide) (hg (Cond.fieldLink RX12 118 "SlabWalkModel" "need" "[I") m1378) (fun _ h9 => h9) rfl dX12_layNeed_137 ?_
                refine lv_iload_n hx hb dX12_layNeed_140 rfl (lv_at hl 2 rfl) ?_
                refine lv_iconst (v := 1) hx hb dX12_layNeed_141 (by decide) ?_
                refine lv_iadd hx hb dX12_layNeed_142 ?_
                refine lv_topi (fun y_90 ey_90 => ?_)
                have ty_90 : y_90.toInt = y_3.toInt + 1 := xI_add rfl rfl ey_90 (by omega) (by omega)
                refine S_iald hx hb hK hW kd_99 (vin (by omega) (by omega)) dX12_layNeed_143 (fun y_91 ey_91 => ?_)
                have ty_91 : 0 ≤ y_91.toInt ∧ y_91.toInt ≤ 100000 := hB_G_85.v ey_91 rfl rfl
                have u_92 : y_91.toInt = (G_50.1 99 y_90.toNatClampNeg).toInt := congrArg Int32.toInt (ey_91.trans ((hq_86.ri 99 (by decide) (by decide) y_90.toNatClampNeg)))
                have hn1_ : y_91.toInt = ndv (G_50.1 99) p0.toInt p1.toInt 1 := (ndv_at (f := G_85.1 99) (x := y_90) (by omega) (congrArg Int32.toInt ey_91)).trans (ndv_eq (show G_85.1 99 = G_50.1 99 from (funext fun j => ((fun (j : Nat) (_ : True) => (hq_86.ri 99 (by decide) (by decide) j))) j trivial)) rfl rfl)
                refine lv_iconst (v := 1) hx hb dX12_layNeed_144 (by decide) ?_
                refine lv_aload_n hx hb dX12_layNeed_145 rfl (lv_at hl 3 rfl) ?_
                refine lv_iload_n hx hb dX12_layNeed_146 rfl (lv_at hl 4 rfl) ?_
                refine lv_iload hx hb dX12_layNeed_147 (lv_at hl 1 rfl) ?_
                refine lv_iadd hx hb dX12_layNeed_149 ?_
                refine lv_topi (fun y_93 ey_93 => ?_)
                have ty_93 : y_93.toInt = p0.toInt + x_54.toInt := xI_add rfl rfl ey_93 (by omega) (by omega)
                refine lv_iload hx hb dX12_layNeed_150 (lv_at hl 0 rfl) ?_
                refine lv_iconst (v := 2) hx hb dX12_layNeed_152 (by decide) ?_
                have qc_94 : (2 : Int32).toInt = 2 := rfl
                refine S_calli (va_runV (As := [.int y_93, .int r_84, .int 2]) (rest := [.int 1, .int y_91, .int y_89, .ref (a 99)]) ⟨hx, hb, hml, hown, hts⟩ (n_needOf l D k A a z G_85 y_93 r_84 2 ⟨by omega, by omega⟩ ⟨by omega, by omega⟩ ⟨by decide, by decide⟩) (cwV 3 hts (gd_V hgd m1859 m1861 m96 m131 m1862) rfl rfl rfl (by decide +kernel) ⟨Nat.le_of_ble_eq_true rfl, Nat.le_of_ble_eq_true rfl⟩) (pre_V hW hB_G_85 hK hZ hS kd_66 rfl) rfl rfl hl.1 rfl (lv_room (Nat.le_of_ble_eq_true rfl)) dX12_layNeed_153 ⟨Nat.le_of_ble_eq_true rfl, Nat.le_of_ble_eq_true rfl⟩) hS (fun r_95 G_96 H locs hpo hW hS => ?_)
                obtain ⟨hB_G_96, hq_97, f_99, hp_98⟩ := hpo
                have hF := hF.call hq_97 (by decide) (by decide)
                have u_100 := trI_v x_54.toInt (G.1 66 62).toInt
                have hm2_ : r_95.toInt = ndv (G_50.1 99) (p0.toInt + x_54.toInt) (trI x_54.toInt (G.1 66 62).toInt) 2 := hp_98.trans (ndv_eq (show G_85.1 99 = G_50.1 99 from (funext fun j => ((fun (j : Nat) (_ : True) => (hq_86.ri 99 (by decide) (by decide) j))) j trivial)) (by omega) (by omega))
                refine lv_iadd hx hb dX12_layNeed_156 ?_
                refine lv_topi (fun y_101 ey_101 => ?_)
                have ty_101 : y_101.toInt = 1 + r_95.toInt := xI_add rfl rfl ey_101 (by omega) (by omega)
                refine S_calli (va_runS (As := [.int y_91, .int y_101]) (rest := [.int y_89, .ref (a 99)]) ⟨hx, hb, hml, hown, hts⟩ (n_lesser l D k A a z G_96 y_91 y_101 ) (va_cwS 2 hts (gd_S hgd m1863 m1864 m131 m1865) rfl rfl rfl (by decide +kernel) ⟨Nat.le_of_ble_eq_true rfl, Nat.le_of_ble_eq_true rfl⟩) (pre_S hW hB_G_96 hK hZ hS) rfl rfl hl.1 rfl (lv_room (Nat.le_of_ble_eq_true rfl)) dX12_layNeed_157 ⟨Nat.le_of_ble_eq_true rfl, Nat.le_of_ble_eq_true rfl⟩) hS (fun r_102 G_103 H locs hpo hW hS => ?_)
                obtain ⟨hB_G_103, hq_104, hp_105⟩ := hpo
                have hF := hF.call hq_104 (by decide) (by decide)
                refine S_iast hx hb hK hW hS kd_99 (vin (by omega) (by omega)) dX12_layNeed_160 (fun G_106 H locs eG_106 hW hS => ?_)
                have hB_G_106 : Bd G_106 := hB_G_103.put (V := r_102.toInt) (lo := 0) (hi := 100000) eG_106 rfl rfl rfl (by omega) (by omega) (hB_G_103.2.put eG_106 rfl)
                have hF := hF.put eG_106 (Or.inl (by decide))
                refine lv_aload_n hx hb dX12_layNeed_161 rfl (lv_at hl 3 rfl) ?_
                refine S_getR (n := 99) (C := RX12) (T := TX12) (N := 89) hx hb hg iX12 hown hK hW kd_66 rfl 64 (by decide) (hg (Cond.fieldLink RX12 118 "SlabWalkModel" "need" "[I") m1378) (fun _ h9 => h9) rfl dX12_layNeed_162 ?_
                refine lv_iload_n hx hb dX12_layNeed_165 rfl (lv_at hl 2 rfl) ?_
                refine lv_iconst (v := 2) hx hb dX12_layNeed_166 (by decide) ?_
                refine lv_iadd hx hb dX12_layNeed_167 ?_
                refine lv_topi (fun y_107 ey_107 => ?_)
                have ty_107 : y_107.toInt = y_3.toInt + 2 := xI_add rfl rfl ey_107 (by omega) (by omega)
                refine lv_aload_n hx hb dX12_layNeed_168 rfl (lv_at hl 3 rfl) ?_
                refine S_getR (n := 99) (C := RX12) (T := TX12) (N := 89) hx hb hg iX12 hown hK hW kd_66 rfl 64 (by decide) (hg (Cond.fieldLink RX12 118 "SlabWalkModel" "need" "[I") m1378) (fun _ h9 => h9) rfl dX12_layNeed_169 ?_
                refine lv_iload_n hx hb dX12_layNeed_172 rfl (lv_at hl 2 rfl) ?_
                refine lv_iconst (v := 2) hx hb dX12_layNeed_173 (by decide) ?_
                refine lv_iadd hx hb dX12_layNeed_174 ?_
                refine lv_topi (fun y_108 ey_108 => ?_)
                have ty_108 : y_108.toInt = y_3.toInt + 2 := xI_add rfl rfl ey_108 (by omega) (by omega)
                refine S_iald hx hb hK hW kd_99 (vin (by omega) (by omega)) dX12_layNeed_175 (fun y_109 ey_109 => ?_)
                have ty_109 : 0 ≤ y_109.toInt ∧ y_109.toInt ≤ 100000 := hB_G_106.v ey_109 rfl rfl
                have u_110 : y_109.toInt = (G_106.1 99 y_108.toNatClampNeg).toInt := congrArg Int32.toInt (ey_109)
                have hn2_ : y_109.toInt = ndv (G_106.1 99) p0.toInt p1.toInt 2 := (ndv_at (f := G_106.1 99) (x := y_108) (by omega) (congrArg Int32.toInt ey_109)).trans (ndv_eq (show G_106.1 99 = G_106.1 99 from (funext fun j => ((fun (j : Nat) (_ : True) => rfl)) j trivial)) rfl rfl)
                refine lv_iconst (v := 1) hx hb dX12_layNeed_176 (by decide) ?_
                refine lv_aload_n hx hb dX12_layNeed_177 rfl (lv_at hl 3 rfl) ?_
                refine lv_iload_n hx hb dX12_layNeed_178 rfl (lv_at hl 4 rfl) ?_
                refine lv_iload hx hb dX12_layNeed_179 (lv_at hl 1 rfl) ?_
                refine lv_iadd hx hb dX12_layNeed_181 ?_
                refine lv_topi (fun y_111 ey_111 => ?_)
                have ty_111 : y_111.toInt = p0.toInt + x_54.toInt := xI_add rfl rfl ey_111 (by omega) (by omega)
                refine lv_iload hx hb dX12_layNeed_182 (lv_at hl 0 rfl) ?_
                refine lv_iconst (v := 1) hx hb dX12_layNeed_184 (by decide) ?_
                have qc_112 : (1 : Int32).toInt = 1 := rfl
                refine S_calli (va_runV (As := [.int y_111, .int r_84, .int 1]) (rest := [.int 1, .int y_109, .int y_107, .ref (a 99)]) ⟨hx, hb, hml, hown, hts⟩ (n_needOf l D k A a z G_106 y_111 r_84 1 ⟨by omega, by omega⟩ ⟨by omega, by omega⟩ ⟨by decide, by decide⟩) (cwV 3 hts (gd_V hgd m1859 m1861 m96 m131 m1862) rfl rfl rfl (by decide +kernel) ⟨Nat.le_of_ble_eq_true rfl, Nat.le_of_ble_eq_true rfl⟩) (pre_V hW hB_G_106 hK hZ hS kd_66 rfl) rfl rfl hl.1 rfl (lv_room (Nat.le_of_ble_eq_true rfl)) dX12_layNeed_185 ⟨Nat.le_of_ble_eq_true rfl, Nat.le_of_ble_eq_true rfl⟩) hS (fun r_113 G_114 H locs hpo hW hS => ?_)
                obtain ⟨hB_G_114, hq_115, f_117, hp_116⟩ := hpo
                have hF := hF.call hq_115 (by decide) (by decide)
                have u_118 := trI_v x_54.toInt (G.1 66 62).toInt
                have hm1_ : r_113.toInt = ndv (G_106.1 99) (p0.toInt + x_54.toInt) (trI x_54.toInt (G.1 66 62).toInt) 1 := hp_116.trans (ndv_eq (show G_106.1 99 = G_106.1 99 from (funext fun j => ((fun (j : Nat) (_ : True) => rfl)) j trivial)) (by omega) (by omega))
                refine lv_iadd hx hb dX12_layNeed_188 ?_
                refine lv_topi (fun y_119 ey_119 => ?_)
                have ty_119 : y_119.toInt = 1 + r_113.toInt := xI_add rfl rfl ey_119 (by omega) (by omega)
                refine S_calli (va_runS (As := [.int y_109, .int y_119]) (rest := [.int y_107, .ref (a 99)]) ⟨hx, hb, hml, hown, hts⟩ (n_lesser l D k A a z G_114 y_109 y_119 ) (va_cwS 2 hts (gd_S hgd m1863 m1864 m131 m1865) rfl rfl rfl (by decide +kernel) ⟨Nat.le_of_ble_eq_true rfl, Nat.le_of_ble_eq_true rfl⟩) (pre_S hW hB_G_114 hK hZ hS) rfl rfl hl.1 rfl (lv_room (Nat.le_of_ble_eq_true rfl)) dX12_layNeed_189 ⟨Nat.le_of_ble_eq_true rfl, Nat.le_of_ble_eq_true rfl⟩) hS (fun r_120 G_121 H locs hpo hW hS => ?_)
                obtain ⟨hB_G_121, hq_122, hp_123⟩ := hpo
                have hF := hF.call hq_122 (by decide) (by decide)
                refine S_iast hx hb hK hW hS kd_99 (vin (by omega) (by omega)) dX12_layNeed_192 (fun G_124 H locs eG_124 hW hS => ?_)
                have hB_G_124 : Bd G_124 := hB_G_121.put (V := r_120.toInt) (lo := 0) (hi := 100000) eG_124 rfl rfl rfl (by omega) (by omega) (hB_G_121.2.put eG_124 rfl)
                have hF := hF.put eG_124 (Or.inl (by decide))
                have hpa_ : PR (G_103.1 99) (G.1 98) (G.1 66 61).toInt (G.1 66 62).toInt (G.1 66 63).toInt (p0.toInt) (p1.toInt) := by rw [show G_103.1 99 = G_50.1 99 from (funext fun j => ((fun (j : Nat) (_ : True) => ((hq_104.ri 99 (by decide) (by decide) j).trans ((hq_97.ri 99 (by decide) (by decide) j).trans (hq_86.ri 99 (by decide) (by decide) j))))) j trivial)]; exact (show PR (G_50.1 99) (G.1 98) (G.1 66 61).toInt (G.1 66 62).toInt (G.1 66 63).toInt (p0.toInt) (p1.toInt) by assumption)
                have hpb_ : PR (G_106.1 99) (G.1 98) (G.1 66 61).toInt (G.1 66 62).toInt (G.1 66 63).toInt (p0.toInt) (p1.toInt) := PR_put (i := 1) eG_106 (by omega) (by omega) (by omega) (by omega) hle1 hpa_
                have hpc_ : PR (G_121.1 99) (G.1 98) (G.1 66 61).toInt (G.1 66 62).toInt (G.1 66 63).toInt (p0.toInt) (p1.toInt) := by rw [show G_121.1 99 = G_106.1 99 from (funext fun j => ((fun (j : Nat) (_ : True) => ((hq_122.ri 99 (by decide) (by decide) j).trans (hq_115.ri 99 (by decide) (by decide) j)))) j trivial)]; exact hpb_
                have hpN_ : PR (G_124.1 99) (G.1 98) (G.1 66 61).toInt (G.1 66 62).toInt (G.1 66 63).toInt (p0.toInt) (p1.toInt) := PR_put (i := 2) eG_124 (by omega) (by omega) (by omega) (by omega) hle1 hpc_
                have hja_ : NJ (G_103.1 99) (G.1 98) (G.1 66 61).toInt (G.1 66 62).toInt p0.toInt p1.toInt (x_54.toInt) := by rw [show G_103.1 99 = G_50.1 99 from (funext fun j => ((fun (j : Nat) (_ : True) => ((hq_104.ri 99 (by decide) (by decide) j).trans ((hq_97.ri 99 (by decide) (by decide) j).trans (hq_86.ri 99 (by decide) (by decide) j))))) j trivial)]; exact (show NJ (G_50.1 99) (G.1 98) (G.1 66 61).toInt (G.1 66 62).toInt p0.toInt p1.toInt (x_54.toInt) by assumption)
                have hnN_ : NJ (G_124.1 99) (G.1 98) (G.1 66 61).toInt (G.1 66 62).toInt p0.toInt p1.toInt (x_54.toInt + 1) := NJ_step_ hja_ eG_106 (by omega) (show G_121.1 99 = G_106.1 99 from (funext fun j => ((fun (j : Nat) (_ : True) => ((hq_122.ri 99 (by decide) (by decide) j).trans (hq_115.ri 99 (by decide) (by decide) j)))) j trivial)) eG_124 (by omega) (by omega) (by omega) hle1 (by omega) ((lw_iff (x := y_75) (y := y_76) (by omega) (by omega)).mpr (by omega)) (hn1_.trans (by rw [show G_103.1 99 = G_50.1 99 from (funext fun j => ((fun (j : Nat) (_ : True) => ((hq_104.ri 99 (by decide) (by decide) j).trans ((hq_97.ri 99 (by decide) (by decide) j).trans (hq_86.ri 99 (by decide) (by decide) j))))) j trivial)])) hn2_ (hm2_.trans (by rw [show G_103.1 99 = G_50.1 99 from (funext fun j => ((fun (j : Nat) (_ : True) => ((hq_104.ri 99 (by decide) (by decide) j).trans ((hq_97.ri 99 (by decide) (by decide) j).trans (hq_86.ri 99 (by decide) (by decide) j))))) j trivial)])) hm1_ (by omega) (by omega) (by omega) (by omega) (by omega) (by omega)
                obtain ⟨y_125, ey_125⟩ : ∃ q, q = x_54 + 1 := ⟨_, rfl⟩
                have ty_125 : y_125.toInt = x_54.toInt + 1 := xI_add rfl rfl ey_125 (by omega) (by omega)
                refine lv_iinc (v := y_125) (lv' := [(4, .int y_125), (5, .int r_84), (3, .int y_3), (0, .ref (a 66)), (1, .int p0), (2, .int p1)]) hx hb dX12_layNeed_193 hl (k := 1) rfl (by rw [ey_125]; rfl) (by decide) rfl (fun ls hl => ?_)
                have hj_126 : NJ (G_124.1 99) (G.1 98) (G.1 66 61).toInt (G.1 66 62).toInt p0.toInt p1.toInt (y_125.toInt) := by rw [ty_125]; exact hnN_
                refine lv_goto (tgt := 74) hx hb dX12_layNeed_196 (by decide) ?_
                exact ih_52 (100 - y_125.toInt : Int).toNat (by omega) _ _ _ ⟨G_124, y_125, (Int.toNat_of_nonneg (by omega)), ⟨by omega, by omega⟩, (by assumption), (by assumption), (by omega), (by omega), hW, hB_G_124, hF, ((((((((Fr.rf.call hq_51 (by decide) (by decide)).call hq_86 (by decide) (by decide)).call hq_97 (by decide) (by decide)).call hq_104 (by decide) (by decide)).put eG_106 (Or.inl (by decide))).call hq_115 (by decide) (by decide)).call hq_122 (by decide) (by decide)).put eG_124 (Or.inl (by decide))), hS, lv_sub hl [0, 2, 3, 4, 5] rfl⟩
              · have c_82 : (G.1 66 62).toInt < x_54.toInt := xI_nle rfl rfl c_82
                refine lv_iconst (v := 1) hx hb dX12_layNeed_119 (by decide) ?_
                refine lv_goto (tgt := 124) hx hb dX12_layNeed_120 (by decide) ?_
                have qc_127 : (1 : Int32).toInt = 1 := rfl
                refine S_calli (va_runS (As := [.int 1]) (rest := []) ⟨hx, hb, hml, hown, hts⟩ (n_truth l D k A a z G_50 1 ⟨by decide, by decide⟩) (va_cwS 1 hts (gd_S hgd m1788 m1789 m131 m1790) rfl rfl rfl (by decide +kernel) ⟨Nat.le_of_ble_eq_true rfl, Nat.le_of_ble_eq_true rfl⟩) (pre_S hW hB_G_50 hK hZ hS) rfl rfl hl.1 rfl (lv_room (Nat.le_of_ble_eq_true rfl)) dX12_layNeed_124 ⟨Nat.le_of_ble_eq_true rfl, Nat.le_of_ble_eq_true rfl⟩) hS (fun r_128 G_129 H locs hpo hW hS => ?_)
                obtain ⟨hB_G_129, hq_130, f_132, hp_131, -⟩ := hpo
                have hF := hF.call hq_130 (by decide) (by decide)
                refine lv_istore (lv' := [(5, .int r_128), (4, .int x_54), (3, .int y_3), (0, .ref (a 66)), (1, .int p0), (2, .int p1)]) hx hb dX12_layNeed_127 hl (by decide) rfl (fun ls hl => ?_)
                refine lv_aload_n hx hb dX12_layNeed_129 rfl (lv_at hl 3 rfl) ?_
                refine S_getR (n := 99) (C := RX12) (T := TX12) (N := 89) hx hb hg iX12 hown hK hW kd_66 rfl 64 (by decide) (hg (Cond.fieldLink RX12 118 "SlabWalkModel" "need" "[I") m1378) (fun _ h9 => h9) rfl dX12_layNeed_130 ?_
                refine lv_iload_n hx hb dX12_layNeed_133 rfl (lv_at hl 2 rfl) ?_
                refine lv_iconst (v := 1) hx hb dX12_layNeed_134 (by decide) ?_
                refine lv_iadd hx hb dX12_layNeed_135 ?_
                refine lv_topi (fun y_133 ey_133 => ?_)
                have ty_133 : y_133.toInt = y_3.toInt + 1 := xI_add rfl rfl ey_133 (by omega) (by omega)
                refine lv_aload_n hx hb dX12_layNeed_136 rfl (lv_at hl 3 rfl) ?_
                refine S_getR (n := 99) (C := RX12) (T := TX12) (N := 89) hx hb hg iX12 hown hK hW kd_66 rfl 64 (by decide) (hg (Cond.fieldLink RX12 118 "SlabWalkModel" "need" "[I") m1378) (fun _ h9 => h9) rfl dX12_layNeed_137 ?_
                refine lv_iload_n hx hb dX12_layNeed_140 rfl (lv_at hl 2 rfl) ?_
                refine lv_iconst (v := 1) hx hb dX12_layNeed_141 (by decide) ?_
                refine lv_iadd hx hb dX12_layNeed_142 ?_
                refine lv_topi (fun y_134 ey_134 => ?_)
                have ty_134 : y_134.toInt = y_3.toInt + 1 := xI_add rfl rfl ey_134 (by omega) (by omega)
                refine S_iald hx hb hK hW kd_99 (vin (by omega) (by omega)) dX12_layNeed_143 (fun y_135 ey_135 => ?_)
                have ty_135 : 0 ≤ y_135.toInt ∧ y_135.toInt ≤ 100000 := hB_G_129.v ey_135 rfl rfl
                have u_136 : y_135.toInt = (G_50.1 99 y_134.toNatClampNeg).toInt := congrArg Int32.toInt (ey_135.trans ((hq_130.ri 99 (by decide) (by decide) y_134.toNatClampNeg)))
                have hn1_ : y_135.toInt = ndv (G_50.1 99) p0.toInt p1.toInt 1 := (ndv_at (f := G_129.1 99) (x := y_134) (by omega) (congrArg Int32.toInt ey_135)).trans (ndv_eq (show G_129.1 99 = G_50.1 99 from (funext fun j => ((fun (j : Nat) (_ : True) => (hq_130.ri 99 (by decide) (by decide) j))) j trivial)) rfl rfl)
                refine lv_iconst (v := 1) hx hb dX12_layNeed_144 (by decide) ?_
                refine lv_aload_n hx hb dX12_layNeed_145 rfl (lv_at hl 3 rfl) ?_
                refine lv_iload_n hx hb dX12_layNeed_146 rfl (lv_at hl 4 rfl) ?_
                refine lv_iload hx hb dX12_layNeed_147 (lv_at hl 1 rfl) ?_
                refine lv_iadd hx hb dX12_layNeed_149 ?_
                refine lv_topi (fun y_137 ey_137 => ?_)
                have ty_137 : y_137.toInt = p0.toInt + x_54.toInt := xI_add rfl rfl ey_137 (by omega) (by omega)
                refine lv_iload hx hb dX12_layNeed_150 (lv_at hl 0 rfl) ?_
                refine lv_iconst (v := 2) hx hb dX12_layNeed_152 (by decide) ?_
                have qc_138 : (2 : Int32).toInt = 2 := rfl
                refine S_calli (va_runV (As := [.int y_137, .int r_128, .int 2]) (rest := [.int 1, .int y_135, .int y_133, .ref (a 99)]) ⟨hx, hb, hml, hown, hts⟩ (n_needOf l D k A a z G_129 y_137 r_128 2 ⟨by omega, by omega⟩ ⟨by omega, by omega⟩ ⟨by decide, by decide⟩) (cwV 3 hts (gd_V hgd m1859 m1861 m96 m131 m1862) rfl rfl rfl (by decide +kernel) ⟨Nat.le_of_ble_eq_true rfl, Nat.le_of_ble_eq_true rfl⟩) (pre_V hW hB_G_129 hK hZ hS kd_66 rfl) rfl rfl hl.1 rfl (lv_room (Nat.le_of_ble_eq_true rfl)) dX12_layNeed_153 ⟨Nat.le_of_ble_eq_true rfl, Nat.le_of_ble_eq_true rfl⟩) hS (fun r_139 G_140 H locs hpo hW hS => ?_)
                obtain ⟨hB_G_140, hq_141, f_143, hp_142⟩ := hpo
                have hF := hF.call hq_141 (by decide) (by decide)
                have u_144 := trI_v x_54.toInt (G.1 66 62).toInt
                have hm2_ : r_139.toInt = ndv (G_50.1 99) (p0.toInt + x_54.toInt) (trI x_54.toInt (G.1 66 62).toInt) 2 := hp_142.trans (ndv_eq (show G_129.1 99 = G_50.1 99 from (funext fun j => ((fun (j : Nat) (_ : True) => (hq_130.ri 99 (by decide) (by decide) j))) j trivial)) (by omega) (by omega))
                refine lv_iadd hx hb dX12_layNeed_156 ?_
                refine lv_topi (fun y_145 ey_145 => ?_)
                have ty_145 : y_145.toInt = 1 + r_139.toInt := xI_add rfl rfl ey_145 (by omega) (by omega)
                refine S_calli (va_runS (As := [.int y_135, .int y_145]) (rest := [.int y_133, .ref (a 99)]) ⟨hx, hb, hml, hown, hts⟩ (n_lesser l D k A a z G_140 y_135 y_145 ) (va_cwS 2 hts (gd_S hgd m1863 m1864 m131 m1865) rfl rfl rfl (by decide +kernel) ⟨Nat.le_of_ble_eq_true rfl, Nat.le_of_ble_eq_true rfl⟩) (pre_S hW hB_G_140 hK hZ hS) rfl rfl hl.1 rfl (lv_room (Nat.le_of_ble_eq_true rfl)) dX12_layNeed_157 ⟨Nat.le_of_ble_eq_true rfl, Nat.le_of_ble_eq_true rfl⟩) hS (fun r_146 G_147 H locs hpo hW hS => ?_)
                obtain ⟨hB_G_147, hq_148, hp_149⟩ := hpo
                have hF := hF.call hq_148 (by decide) (by decide)
                refine S_iast hx hb hK hW hS kd_99 (vin (by omega) (by omega)) dX12_layNeed_160 (fun G_150 H locs eG_150 hW hS => ?_)
                have hB_G_150 : Bd G_150 := hB_G_147.put (V := r_146.toInt) (lo := 0) (hi := 100000) eG_150 rfl rfl rfl (by omega) (by omega) (hB_G_147.2.put eG_150 rfl)
                have hF := hF.put eG_150 (Or.inl (by decide))
                refine lv_aload_n hx hb dX12_layNeed_161 rfl (lv_at hl 3 rfl) ?_
                refine S_getR (n := 99) (C := RX12) (T := TX12) (N := 89) hx hb hg iX12 hown hK hW kd_66 rfl 64 (by decide) (hg (Cond.fieldLink RX12 118 "SlabWalkModel" "need" "[I") m1378) (fun _ h9 => h9) rfl dX12_layNeed_162 ?_
                refine lv_iload_n hx hb dX12_layNeed_165 rfl (lv_at hl 2 rfl) ?_
                refine lv_iconst (v := 2) hx hb dX12_layNeed_166 (by decide) ?_
                refine lv_iadd hx hb dX12_layNeed_167 ?_
                refine lv_topi (fun y_151 ey_151 => ?_)
                have ty_151 : y_151.toInt = y_3.toInt + 2 := xI_add rfl rfl ey_151 (by omega) (by omega)
                refine lv_aload_n hx hb dX12_layNeed_168 rfl (lv_at hl 3 rfl) ?_
                refine S_getR (n := 99) (C := RX12) (T := TX12) (N := 89) hx hb hg iX12 hown hK hW kd_66 rfl 64 (by decide) (hg (Cond.fieldLink RX12 118 "SlabWalkModel" "need" "[I") m1378) (fun _ h9 => h9) rfl dX12_layNeed_169 ?_
                refine lv_iload_n hx hb dX12_layNeed_172 rfl (lv_at hl 2 rfl) ?_
                refine lv_iconst (v := 2) hx hb dX12_layNeed_173 (by decide) ?_
                refine lv_iadd hx hb dX12_layNeed_174 ?_
                refine lv_topi (fun y_152 ey_152 => ?_)
                have ty_152 : y_152.toInt = y_3.toInt + 2 := xI_add rfl rfl ey_152 (by omega) (by omega)
                refine S_iald hx hb hK hW kd_99 (vin (by omega) (by omega)) dX12_layNeed_175 (fun y_153 ey_153 => ?_)
                have ty_153 : 0 ≤ y_153.toInt ∧ y_153.toInt ≤ 100000 := hB_G_150.v ey_153 rfl rfl
                have u_154 : y_153.toInt = (G_150.1 99 y_152.toNatClampNeg).toInt := congrArg Int32.toInt (ey_153)
                have hn2_ : y_153.toInt = ndv (G_150.1 99) p0.toInt p1.toInt 2 := (ndv_at (f := G_150.1 99) (x := y_152) (by omega) (congrArg Int32.toInt ey_153)).trans (ndv_eq (show G_150.1 99 = G_150.1 99 from (funext fun j => ((fun (j : Nat) (_ : True) => rfl)) j trivial)) rfl rfl)
                refine lv_iconst (v := 1) hx hb dX12_layNeed_176 (by decide) ?_
                refine lv_aload_n hx hb dX12_layNeed_177 rfl (lv_at hl 3 rfl) ?_
                refine lv_iload_n hx hb dX12_layNeed_178 rfl (lv_at hl 4 rfl) ?_
                refine lv_iload hx hb dX12_layNeed_179 (lv_at hl 1 rfl) ?_
                refine lv_iadd hx hb dX12_layNeed_181 ?_
                refine lv_topi (fun y_155 ey_155 => ?_)
                have ty_155 : y_155.toInt = p0.toInt + x_54.toInt := xI_add rfl rfl ey_155 (by omega) (by omega)
                refine lv_iload hx hb dX12_layNeed_182 (lv_at hl 0 rfl) ?_
                refine lv_iconst (v := 1) hx hb dX12_layNeed_184 (by decide) ?_
                have qc_156 : (1 : Int32).toInt = 1 := rfl
                refine S_calli (va_runV (As := [.int y_155, .int r_128, .int 1]) (rest := [.int 1, .int y_153, .int y_151, .ref (a 99)]) ⟨hx, hb, hml, hown, hts⟩ (n_needOf l D k A a z G_150 y_155 r_128 1 ⟨by omega, by omega⟩ ⟨by omega, by omega⟩ ⟨by decide, by decide⟩) (cwV 3 hts (gd_V hgd m1859 m1861 m96 m131 m1862) rfl rfl rfl (by decide +kernel) ⟨Nat.le_of_ble_eq_true rfl, Nat.le_of_ble_eq_true rfl⟩) (pre_V hW hB_G_150 hK hZ hS kd_66 rfl) rfl rfl hl.1 rfl (lv_room (Nat.le_of_ble_eq_true rfl)) dX12_layNeed_185 ⟨Nat.le_of_ble_eq_true rfl, Nat.le_of_ble_eq_true rfl⟩) hS (fun r_157 G_158 H locs hpo hW hS => ?_)
                obtain ⟨hB_G_158, hq_159, f_161, hp_160⟩ := hpo
                have hF := hF.call hq_159 (by decide) (by decide)
                have u_162 := trI_v x_54.toInt (G.1 66 62).toInt
                have hm1_ : r_157.toInt = ndv (G_150.1 99) (p0.toInt + x_54.toInt) (trI x_54.toInt (G.1 66 62).toInt) 1 := hp_160.trans (ndv_eq (show G_150.1 99 = G_150.1 99 from (funext fun j => ((fun (j : Nat) (_ : True) => rfl)) j trivial)) (by omega) (by omega))
                refine lv_iadd hx hb dX12_layNeed_188 ?_
                refine lv_topi (fun y_163 ey_163 => ?_)
                have ty_163 : y_163.toInt = 1 + r_157.toInt := xI_add rfl rfl ey_163 (by omega) (by omega)
                refine S_calli (va_runS (As := [.int y_153, .int y_163]) (rest := [.int y_151, .ref (a 99)]) ⟨hx, hb, hml, hown, hts⟩ (n_lesser l D k A a z G_158 y_153 y_163 ) (va_cwS 2 hts (gd_S hgd m1863 m1864 m131 m1865) rfl rfl rfl (by decide +kernel) ⟨Nat.le_of_ble_eq_true rfl, Nat.le_of_ble_eq_true rfl⟩) (pre_S hW hB_G_158 hK hZ hS) rfl rfl hl.1 rfl (lv_room (Nat.le_of_ble_eq_true rfl)) dX12_layNeed_189 ⟨Nat.le_of_ble_eq_true rfl, Nat.le_of_ble_eq_true rfl⟩) hS (fun r_164 G_165 H locs hpo hW hS => ?_)
                obtain ⟨hB_G_165, hq_166, hp_167⟩ := hpo
                have hF := hF.call hq_166 (by decide) (by decide)
                refine S_iast hx hb hK hW hS kd_99 (vin (by omega) (by omega)) dX12_layNeed_192 (fun G_168 H locs eG_168 hW hS => ?_)
                have hB_G_168 : Bd G_168 := hB_G_165.put (V := r_164.toInt) (lo := 0) (hi := 100000) eG_168 rfl rfl rfl (by omega) (by omega) (hB_G_165.2.put eG_168 rfl)
                have hF := hF.put eG_168 (Or.inl (by decide))
                have hpa_ : PR (G_147.1 99) (G.1 98) (G.1 66 61).toInt (G.1 66 62).toInt (G.1 66 63).toInt (p0.toInt) (p1.toInt) := by rw [show G_147.1 99 = G_50.1 99 from (funext fun j => ((fun (j : Nat) (_ : True) => ((hq_148.ri 99 (by decide) (by decide) j).trans ((hq_141.ri 99 (by decide) (by decide) j).trans (hq_130.ri 99 (by decide) (by decide) j))))) j trivial)]; exact (show PR (G_50.1 99) (G.1 98) (G.1 66 61).toInt (G.1 66 62).toInt (G.1 66 63).toInt (p0.toInt) (p1.toInt) by assumption)
                have hpb_ : PR (G_150.1 99) (G.1 98) (G.1 66 61).toInt (G.1 66 62).toInt (G.1 66 63).toInt (p0.toInt) (p1.toInt) := PR_put (i := 1) eG_150 (by omega) (by omega) (by omega) (by omega) hle1 hpa_
                have hpc_ : PR (G_165.1 99) (G.1 98) (G.1 66 61).toInt (G.1 66 62).toInt (G.1 66 63).toInt (p0.toInt) (p1.toInt) := by rw [show G_165.1 99 = G_150.1 99 from (funext fun j => ((fun (j : Nat) (_ : True) => ((hq_166.ri 99 (by decide) (by decide) j).trans (hq_159.ri 99 (by decide) (by decide) j)))) j trivial)]; exact hpb_
                have hpN_ : PR (G_168.1 99) (G.1 98) (G.1 66 61).toInt (G.1 66 62).toInt (G.1 66 63).toInt (p0.toInt) (p1.toInt) := PR_put (i := 2) eG_168 (by omega) (by omega) (by omega) (by omega) hle1 hpc_
                have hja_ : NJ (G_147.1 99) (G.1 98) (G.1 66 61).toInt (G.1 66 62).toInt p0.toInt p1.toInt (x_54.toInt) := by rw [show G_147.1 99 = G_50.1 99 from (funext fun j => ((fun (j : Nat) (_ : True) => ((hq_148.ri 99 (by decide) (by decide) j).trans ((hq_141.ri 99 (by decide) (by decide) j).trans (hq_130.ri 99 (by decide) (by decide) j))))) j trivial)]; exact (show NJ (G_50.1 99) (G.1 98) (G.1 66 61).toInt (G.1 66 62).toInt p0.toInt p1.toInt (x_54.toInt) by assumption)
                have hnN_ : NJ (G_168.1 99) (G.1 98) (G.1 66 61).toInt (G.1 66 62).toInt p0.toInt p1.toInt (x_54.toInt + 1) := NJ_step_ hja_ eG_150 (by omega) (show G_165.1 99 = G_150.1 99 from (funext fun j => ((fun (j : Nat) (_ : True) => ((hq_166.ri 99 (by decide) (by decide) j).trans (hq_159.ri 99 (by decide) (by decide) j)))) j trivial)) eG_168 (by omega) (by omega) (by omega) hle1 (by omega) ((lw_iff (x := y_75) (y := y_76) (by omega) (by omega)).mpr (by omega)) (hn1_.trans (by rw [show G_147.1 99 = G_50.1 99 from (funext fun j => ((fun (j : Nat) (_ : True) => ((hq_148.ri 99 (by decide) (by decide) j).trans ((hq_141.ri 99 (by decide) (by decide) j).trans (hq_130.ri 99 (by decide) (by decide) j))))) j trivial)])) hn2_ (hm2_.trans (by rw [show G_147.1 99 = G_50.1 99 from (funext fun j => ((fun (j : Nat) (_ : True) => ((hq_148.ri 99 (by decide) (by decide) j).trans ((hq_141.ri 99 (by decide) (by decide) j).trans (hq_130.ri 99 (by decide) (by decide) j))))) j trivial)])) hm1_ (by omega) (by omega) (by omega) (by omega) (by omega) (by omega)
                obtain ⟨y_169, ey_169⟩ : ∃ q, q = x_54 + 1 := ⟨_, rfl⟩
                have ty_169 : y_169.toInt = x_54.toInt + 1 := xI_add rfl rfl ey_169 (by omega) (by omega)
                refine lv_iinc (v := y_169) (lv' := [(4, .int y_169), (5, .int r_128), (3, .int y_3), (0, .ref (a 66)), (1, .int p0), (2, .int p1)]) hx hb dX12_layNeed_193 hl (k := 1) rfl (by rw [ey_169]; rfl) (by decide) rfl (fun ls hl => ?_)
                have hj_170 : NJ (G_168.1 99) (G.1 98) (G.1 66 61).toInt (G.1 66 62).toInt p0.toInt p1.toInt (y_169.toInt) := by rw [ty_169]; exact hnN_
                refine lv_goto (tgt := 74) hx hb dX12_layNeed_196 (by decide) ?_
                exact ih_52 (100 - y_169.toInt : Int).toNat (by omega) _ _ _ ⟨G_168, y_169, (Int.toNat_of_nonneg (by omega)), ⟨by omega, by omega⟩, (by assumption), (by assumption), (by omega), (by omega), hW, hB_G_168, hF, ((((((((Fr.rf.call hq_51 (by decide) (by decide)).call hq_130 (by decide) (by decide)).call hq_141 (by decide) (by decide)).call hq_148 (by decide) (by decide)).put eG_150 (Or.inl (by decide))).call hq_159 (by decide) (by decide)).call hq_166 (by decide) (by decide)).put eG_168 (Or.inl (by decide))), hS, lv_sub hl [0, 2, 3, 4, 5] rfl⟩
            · have c_81 : y_76.toInt = 0 := xI_eq rfl rfl c_81
              refine lv_goto (tgt := 193) hx hb dX12_layNeed_107 (by decide) ?_
              have hpN_ : PR (G_50.1 99) (G.1 98) (G.1 66 61).toInt (G.1 66 62).toInt (G.1 66 63).toInt (p0.toInt) (p1.toInt) := by rw [show G_50.1 99 = G_50.1 99 from (funext fun j => ((fun (j : Nat) (_ : True) => rfl)) j trivial)]; exact (show PR (G_50.1 99) (G.1 98) (G.1 66 61).toInt (G.1 66 62).toInt (G.1 66 63).toInt (p0.toInt) (p1.toInt) by assumption)
              have hnN_ : NJ (G_50.1 99) (G.1 98) (G.1 66 61).toInt (G.1 66 62).toInt p0.toInt p1.toInt (x_54.toInt + 1) := by rw [show G_50.1 99 = G_50.1 99 from (funext fun j => ((fun (j : Nat) (_ : True) => rfl)) j trivial)]; exact (NJ_skip (show NJ (G_50.1 99) (G.1 98) (G.1 66 61).toInt (G.1 66 62).toInt p0.toInt p1.toInt (x_54.toInt) by assumption) (fun q => by have q := (lw_iff (x := y_75) (y := y_76) (by omega) (by omega)).mp q; omega))
              obtain ⟨y_171, ey_171⟩ : ∃ q, q = x_54 + 1 := ⟨_, rfl⟩
              have ty_171 : y_171.toInt = x_54.toInt + 1 := xI_add rfl rfl ey_171 (by omega) (by omega)
              refine lv_iinc (v := y_171) (lv' := [(4, .int y_171), (3, .int y_3), (0, .ref (a 66)), (1, .int p0), (2, .int p1)]) hx hb dX12_layNeed_193 hl (k := 0) rfl (by rw [ey_171]; rfl) (by decide) rfl (fun ls hl => ?_)
              have hj_172 : NJ (G_50.1 99) (G.1 98) (G.1 66 61).toInt (G.1 66 62).toInt p0.toInt p1.toInt (y_171.toInt) := by rw [ty_171]; exact hnN_
              refine lv_goto (tgt := 74) hx hb dX12_layNeed_196 (by decide) ?_
              exact ih_52 (100 - y_171.toInt : Int).toNat (by omega) _ _ _ ⟨G_50, y_171, (Int.toNat_of_nonneg (by omega)), ⟨by omega, by omega⟩, (by assumption), (by assumption), (by omega), (by omega), hW, hB_G_50, hF, (Fr.rf.call hq_51 (by decide) (by decide)), hS, lv_sub hl [0, 1, 2, 3, 4] rfl⟩
        · have c_61 : p1.toInt = 1 := xI_eq rfl rfl c_61
          refine lv_aload_n hx hb dX12_layNeed_81 rfl (lv_at hl 2 rfl) ?_
          refine S_getI (v := (G.1 66 62)) (C := RX12) (T := TX12) (N := 89) hx hb hg iX12 hown hK hW kd_66 rfl 62 (by decide) (hg (Cond.fieldLink RX12 478 "SlabWalkModel" "most" "I") m1376) (fun _ h9 => h9) rfl ((hq_51.i 66 62 (by decide) (by decide)).trans ((hq_34.i 66 62 (by decide) (by decide)).trans ((gp_ne eG_10 (fun q => absurd q.1 (by decide))).trans ((gp_ne eG_8 (fun q => absurd q.1 (by decide))).trans (rfl))))) dX12_layNeed_82 ?_
          refine lv_goto (tgt := 92) hx hb dX12_layNeed_85 (by decide) ?_
          refine lv_icmp_gt (tgt := 199) hx hb dX12_layNeed_92 (by decide) (fun c_173 => ?_) (fun c_173 => ?_)
          · have c_173 : (G.1 66 62).toInt < x_54.toInt := xI_lt rfl rfl c_173
            have hpF_ : PR (G_50.1 99) (G.1 98) (G.1 66 61).toInt (G.1 66 62).toInt (G.1 66 63).toInt (p0.toInt) (p1.toInt) := by rw [show G_50.1 99 = G_50.1 99 from (funext fun j => ((fun (j : Nat) (_ : True) => rfl)) j trivial)]; exact (show PR (G_50.1 99) (G.1 98) (G.1 66 61).toInt (G.1 66 62).toInt (G.1 66 63).toInt (p0.toInt) (p1.toInt) by assumption)
            have hjF_ : NJ (G_50.1 99) (G.1 98) (G.1 66 61).toInt (G.1 66 62).toInt p0.toInt p1.toInt (x_54.toInt) := by rw [show G_50.1 99 = G_50.1 99 from (funext fun j => ((fun (j : Nat) (_ : True) => rfl)) j trivial)]; exact (show NJ (G_50.1 99) (G.1 98) (G.1 66 61).toInt (G.1 66 62).toInt p0.toInt p1.toInt (x_54.toInt) by assumption)
            refine lv_aload_n hx hb dX12_layNeed_199 rfl (lv_at hl 2 rfl) ?_
            refine S_getR (n := 99) (C := RX12) (T := TX12) (N := 89) hx hb hg iX12 hown hK hW kd_66 rfl 64 (by decide) (hg (Cond.fieldLink RX12 118 "SlabWalkModel" "need" "[I") m1378) (fun _ h9 => h9) rfl dX12_layNeed_200 ?_
            refine lv_iload_n hx hb dX12_layNeed_203 rfl (lv_at hl 1 rfl) ?_
            refine lv_aload_n hx hb dX12_layNeed_204 rfl (lv_at hl 2 rfl) ?_
            refine S_getR (n := 99) (C := RX12) (T := TX12) (N := 89) hx hb hg iX12 hown hK hW kd_66 rfl 64 (by decide) (hg (Cond.fieldLink RX12 118 "SlabWalkModel" "need" "[I") m1378) (fun _ h9 => h9) rfl dX12_layNeed_205 ?_
            refine lv_iload_n hx hb dX12_layNeed_208 rfl (lv_at hl 1 rfl) ?_
            refine lv_iconst (v := 1) hx hb dX12_layNeed_209 (by decide) ?_
            refine lv_iadd hx hb dX12_layNeed_210 ?_
            refine lv_topi (fun y_174 ey_174 => ?_)
            have ty_174 : y_174.toInt = y_3.toInt + 1 := xI_add rfl rfl ey_174 (by omega) (by omega)
            refine S_iald hx hb hK hW kd_99 (vin (by omega) (by omega)) dX12_layNeed_211 (fun y_175 ey_175 => ?_)
            have ty_175 : 0 ≤ y_175.toInt ∧ y_175.toInt ≤ 100000 := hB_G_50.v ey_175 rfl rfl
            have u_176 : y_175.toInt = (G_50.1 99 y_174.toNatClampNeg).toInt := congrArg Int32.toInt (ey_175)
            have hn1_ : y_175.toInt = ndv (G_50.1 99) p0.toInt p1.toInt 1 := (ndv_at (f := G_50.1 99) (x := y_174) (by omega) (congrArg Int32.toInt ey_175)).trans (ndv_eq (show G_50.1 99 = G_50.1 99 from (funext fun j => ((fun (j : Nat) (_ : True) => rfl)) j trivial)) rfl rfl)
            refine lv_aload_n hx hb dX12_layNeed_212 rfl (lv_at hl 2 rfl) ?_
            refine S_getR (n := 99) (C := RX12) (T := TX12) (N := 89) hx hb hg iX12 hown hK hW kd_66 rfl 64 (by decide) (hg (Cond.fieldLink RX12 118 "SlabWalkModel" "need" "[I") m1378) (fun _ h9 => h9) rfl dX12_layNeed_213 ?_
            refine lv_iload_n hx hb dX12_layNeed_216 rfl (lv_at hl 1 rfl) ?_
            refine lv_iconst (v := 2) hx hb dX12_layNeed_217 (by decide) ?_
            refine lv_iadd hx hb dX12_layNeed_218 ?_
            refine lv_topi (fun y_177 ey_177 => ?_)
            have ty_177 : y_177.toInt = y_3.toInt + 2 := xI_add rfl rfl ey_177 (by omega) (by omega)
            refine S_iald hx hb hK hW kd_99 (vin (by omega) (by omega)) dX12_layNeed_219 (fun y_178 ey_178 => ?_)
            have ty_178 : 0 ≤ y_178.toInt ∧ y_178.toInt ≤ 100000 := hB_G_50.v ey_178 rfl rfl
            have u_179 : y_178.toInt = (G_50.1 99 y_177.toNatClampNeg).toInt := congrArg Int32.toInt (ey_178)
            have hn2_ : y_178.toInt = ndv (G_50.1 99) p0.toInt p1.toInt 2 := (ndv_at (f := G_50.1 99) (x := y_177) (by omega) (congrArg Int32.toInt ey_178)).trans (ndv_eq (show G_50.1 99 = G_50.1 99 from (funext fun j => ((fun (j : Nat) (_ : True) => rfl)) j trivial)) rfl rfl)
            refine S_calli (va_runS (As := [.int y_175, .int y_178]) (rest := [.int y_3, .ref (a 99)]) ⟨hx, hb, hml, hown, hts⟩ (n_lesser l D k A a z G_50 y_175 y_178 ) (va_cwS 2 hts (gd_S hgd m1863 m1864 m131 m1865) rfl rfl rfl (by decide +kernel) ⟨Nat.le_of_ble_eq_true rfl, Nat.le_of_ble_eq_true rfl⟩) (pre_S hW hB_G_50 hK hZ hS) rfl rfl hl.1 rfl (lv_room (Nat.le_of_ble_eq_true rfl)) dX12_layNeed_220 ⟨Nat.le_of_ble_eq_true rfl, Nat.le_of_ble_eq_true rfl⟩) hS (fun r_180 G_181 H locs hpo hW hS => ?_)
            obtain ⟨hB_G_181, hq_182, hp_183⟩ := hpo
            have hF := hF.call hq_182 (by decide) (by decide)
            refine S_iast hx hb hK hW hS kd_99 (vin (by omega) (by omega)) dX12_layNeed_223 (fun G_184 H locs eG_184 hW hS => ?_)
            have hB_G_184 : Bd G_184 := hB_G_181.put (V := r_180.toInt) (lo := 0) (hi := 100000) eG_184 rfl rfl rfl (by omega) (by omega) (hB_G_181.2.put eG_184 rfl)
            have hF := hF.put eG_184 (Or.inl (by decide))
            have hpL_ : PR (G_181.1 99) (G.1 98) (G.1 66 61).toInt (G.1 66 62).toInt (G.1 66 63).toInt (p0.toInt) (p1.toInt) := by rw [show G_181.1 99 = G_50.1 99 from (funext fun j => ((fun (j : Nat) (_ : True) => (hq_182.ri 99 (by decide) (by decide) j))) j trivial)]; exact hpF_
            have hfL_ : ((ndv (G_181.1 99) p0.toInt p1.toInt 1 = 1 ∨ ndv (G_181.1 99) p0.toInt p1.toInt 1 = 100000) ∧ ndv (G_181.1 99) p0.toInt p1.toInt 2 = 100000) ∨ ∃ u, NJ (G_181.1 99) (G.1 98) (G.1 66 61).toInt (G.1 66 62).toInt p0.toInt p1.toInt u ∧ u ≤ (G.1 66 63).toInt + 1 := by rw [show G_181.1 99 = G_50.1 99 from (funext fun j => ((fun (j : Nat) (_ : True) => (hq_182.ri 99 (by decide) (by decide) j))) j trivial)]; exact Or.inr ⟨_, hjF_, by omega⟩
            have hr1_ := hn1_.trans (show ndv (G_50.1 99) p0.toInt p1.toInt 1 = ndv (G_181.1 99) p0.toInt p1.toInt 1 by rw [show G_181.1 99 = G_50.1 99 from (funext fun j => ((fun (j : Nat) (_ : True) => (hq_182.ri 99 (by decide) (by decide) j))) j trivial)])
            have hr2_ := hn2_.trans (show ndv (G_50.1 99) p0.toInt p1.toInt 2 = ndv (G_181.1 99) p0.toInt p1.toInt 2 by rw [show G_181.1 99 = G_50.1 99 from (funext fun j => ((fun (j : Nat) (_ : True) => (hq_182.ri 99 (by decide) (by decide) j))) j trivial)])
            have hEnd_ : PR (G_184.1 99) (G.1 98) (G.1 66 61).toInt (G.1 66 62).toInt (G.1 66 63).toInt (p0.toInt) (p1.toInt + 1) := PR_next eG_184 (by omega) (by omega) (by omega) hle1 hpL_ (lw400 hB_G h400) (by omega) (by omega) (by omega) hfL_
            have hPG_ : PRG G_184 p0.toInt (p1.toInt + 1) := PRG_of hF (by decide) (by decide) hEnd_
            exact W.vret hx hb hr (fun t ht _ => ⟨⟨G_184, rfl, ⟨hB_G_184, hF, (hPG_)⟩, wd_t ht hW⟩, hS.F ht⟩) hS.2.2 dX12_layNeed_224
          · have c_173 : x_54.toInt ≤ (G.1 66 62).toInt := xI_nlt rfl rfl c_173
            refine lv_aload_n hx hb dX12_layNeed_95 rfl (lv_at hl 2 rfl) ?_
            refine S_getR (n := 98) (C := RX12) (T := TX12) (N := 89) hx hb hg iX12 hown hK hW kd_66 rfl 58 (by decide) (hg (Cond.fieldLink RX12 115 "SlabWalkModel" "lawful" "[Z") m1372) (fun _ h9 => h9) rfl dX12_layNeed_96 ?_
            refine lv_iload_n hx hb dX12_layNeed_99 rfl (lv_at hl 3 rfl) ?_
            refine lv_iload hx hb dX12_layNeed_100 (lv_at hl 0 rfl) ?_
            refine lv_iadd hx hb dX12_layNeed_102 ?_
            refine lv_topi (fun y_185 ey_185 => ?_)
            have ty_185 : y_185.toInt = p0.toInt + x_54.toInt := xI_add rfl rfl ey_185 (by omega) (by omega)
            refine S_zald hx hb hK hW kd_98 (vin (by omega) (by omega)) dX12_layNeed_103 (fun y_186 ey_186 => ?_)
            have ty_186 := hB_G_50.law ey_186
            have u_187 : y_186.toInt = (G.1 98 y_185.toNatClampNeg).toInt := congrArg Int32.toInt (ey_186.trans (((hq_51.ri 98 (by decide) (by decide) y_185.toNatClampNeg).trans ((hq_34.ri 98 (by decide) (by decide) y_185.toNatClampNeg).trans ((gp_ne eG_10 (fun q => absurd q.1 (by decide))).trans (gp_ne eG_8 (fun q => absurd q.1 (by decide))))))))
            have b_188 : 0 ≤ (G.1 98 400).toInt ∧ (G.1 98 400).toInt ≤ 1 := hB_G.i 98 400 rfl rfl
            have g_189 : (G_50.1 98 400).toInt = (G.1 98 400).toInt := by rw [show G_50.1 98 400 = (G.1 98 400) from ((hq_51.i 98 400 (by decide) (by decide)).trans ((hq_34.i 98 400 (by decide) (by decide)).trans ((gp_ne eG_10 (fun q => absurd q.1 (by decide))).trans (gp_ne eG_8 (fun q => absurd q.1 (by decide))))))]
            have u_190 := law4 (G := G_50) (by omega) ey_186
            refine lv_if_ne (tgt := 110) hx hb dX12_layNeed_104 (by decide) (fun c_191 => ?_) (fun c_191 => ?_)
            · have c_191 : y_186.toInt ≠ 0 := xI_ne rfl rfl c_191
              refine lv_iload hx hb dX12_layNeed_110 (lv_at hl 0 rfl) ?_
              refine lv_aload_n hx hb dX12_layNeed_112 rfl (lv_at hl 2 rfl) ?_
              refine S_getI (v := (G.1 66 62)) (C := RX12) (T := TX12) (N := 89) hx hb hg iX12 hown hK hW kd_66 rfl 62 (by decide) (hg (Cond.fieldLink RX12 478 "SlabWalkModel" "most" "I") m1376) (fun _ h9 => h9) rfl ((hq_51.i 66 62 (by decide) (by decide)).trans ((hq_34.i 66 62 (by decide) (by decide)).trans ((gp_ne eG_10 (fun q => absurd q.1 (by decide))).trans ((gp_ne eG_8 (fun q => absurd q.1 (by decide))).trans (rfl))))) dX12_layNeed_113 ?_
              refine lv_icmp_le (tgt := 123) hx hb dX12_layNeed_116 (by decide) (fun c_192 => ?_) (fun c_192 => ?_)
              · have c_192 : x_54.toInt ≤ (G.1 66 62).toInt := xI_le rfl rfl c_192
                refine lv_iconst (v := 0) hx hb dX12_layNeed_123 (by decide) ?_
                have qc_193 : (0 : Int32).toInt = 0 := rfl
                refine S_calli (va_runS (As := [.int 0]) (rest := []) ⟨hx, hb, hml, hown, hts⟩ (n_truth l D k A a z G_50 0 ⟨by decide, by decide⟩) (va_cwS 1 hts (gd_S hgd m1788 m1789 m131 m1790) rfl rfl rfl (by decide +kernel) ⟨Nat.le_of_ble_eq_true rfl, Nat.le_of_ble_eq_true rfl⟩) (pre_S hW hB_G_50 hK hZ hS) rfl rfl hl.1 rfl (lv_room (Nat.le_of_ble_eq_true rfl)) dX12_layNeed_124 ⟨Nat.le_of_ble_eq_true rfl, Nat.le_of_ble_eq_true rfl⟩) hS (fun r_194 G_195 H locs hpo hW hS => ?_)
                obtain ⟨hB_G_195, hq_196, f_198, hp_197, -⟩ := hpo
                have hF := hF.call hq_196 (by decide) (by decide)
                refine lv_istore (lv' := [(5, .int r_194), (4, .int x_54), (3, .int y_3), (0, .ref (a 66)), (1, .int p0), (2, .int p1)]) hx hb dX12_layNeed_127 hl (by decide) rfl (fun ls hl => ?_)
                refine lv_aload_n hx hb dX12_layNeed_129 rfl (lv_at hl 3 rfl) ?_
                refine S_getR (n := 99) (C := RX12) (T := TX12) (N := 89) hx hb hg iX12 hown hK hW kd_66 rfl 64 (by decide) (hg (Cond.fieldLink RX12 118 "SlabWalkModel" "need" "[I") m1378) (fun _ h9 => h9) rfl dX12_layNeed_130 ?_
                refine lv_iload_n hx hb dX12_layNeed_133 rfl (lv_at hl 2 rfl) ?_
                refine lv_iconst (v := 1) hx hb dX12_layNeed_134 (by decide) ?_
                refine lv_iadd hx hb dX12_layNeed_135 ?_
                refine lv_topi (fun y_199 ey_199 => ?_)
                have ty_199 : y_199.toInt = y_3.toInt + 1 := xI_add rfl rfl ey_199 (by omega) (by omega)
                refine lv_aload_n hx hb dX12_layNeed_136 rfl (lv_at hl 3 rfl) ?_
                refine S_getR (n := 99) (C := RX12) (T := TX12) (N := 89) hx hb hg iX12 hown hK hW kd_66 rfl 64 (by decide) (hg (Cond.fieldLink RX12 118 "SlabWalkModel" "need" "[I") m1378) (fun _ h9 => h9) rfl dX12_layNeed_137 ?_
                refine lv_iload_n hx hb dX12_layNeed_140 rfl (lv_at hl 2 rfl) ?_
                refine lv_iconst (v := 1) hx hb dX12_layNeed_141 (by decide) ?_
                refine lv_iadd hx hb dX12_layNeed_142 ?_
                refine lv_topi (fun y_200 ey_200 => ?_)
                have ty_200 : y_200.toInt = y_3.toInt + 1 := xI_add rfl rfl ey_200 (by omega) (by omega)
                refine S_iald hx hb hK hW kd_99 (vin (by omega) (by omega)) dX12_layNeed_143 (fun y_201 ey_201 => ?_)
                have ty_201 : 0 ≤ y_201.toInt ∧ y_201.toInt ≤ 100000 := hB_G_195.v ey_201 rfl rfl
                have u_202 : y_201.toInt = (G_50.1 99 y_200.toNatClampNeg).toInt := congrArg Int32.toInt (ey_201.trans ((hq_196.ri 99 (by decide) (by decide) y_200.toNatClampNeg)))
                have hn1_ : y_201.toInt = ndv (G_50.1 99) p0.toInt p1.toInt 1 := (ndv_at (f := G_195.1 99) (x := y_200) (by omega) (congrArg Int32.toInt ey_201)).trans (ndv_eq (show G_195.1 99 = G_50.1 99 from (funext fun j => ((fun (j : Nat) (_ : True) => (hq_196.ri 99 (by decide) (by decide) j))) j trivial)) rfl rfl)
                refine lv_iconst (v := 1) hx hb dX12_layNeed_144 (by decide) ?_
                refine lv_aload_n hx hb dX12_layNeed_145 rfl (lv_at hl 3 rfl) ?_
                refine lv_iload_n hx hb dX12_layNeed_146 rfl (lv_at hl 4 rfl) ?_
                refine lv_iload hx hb dX12_layNeed_147 (lv_at hl 1 rfl) ?_
                refine lv_iadd hx hb dX12_layNeed_149 ?_
                refine lv_topi (fun y_203 ey_203 => ?_)
                have ty_203 : y_203.toInt = p0.toInt + x_54.toInt := xI_add rfl rfl ey_203 (by omega) (by omega)
                refine lv_iload hx hb dX12_layNeed_150 (lv_at hl 0 rfl) ?_
                refine lv_iconst (v := 2) hx hb dX12_layNeed_152 (by decide) ?_
                have qc_204 : (2 : Int32).toInt = 2 := rfl
                refine S_calli (va_runV (As := [.int y_203, .int r_194, .int 2]) (rest := [.int 1, .int y_201, .int y_199, .ref (a 99)]) ⟨hx, hb, hml, hown, hts⟩ (n_needOf l D k A a z G_195 y_203 r_194 2 ⟨by omega, by omega⟩ ⟨by omega, by omega⟩ ⟨by decide, by decide⟩) (cwV 3 hts (gd_V hgd m1859 m1861 m96 m131 m1862) rfl rfl rfl (by decide +kernel) ⟨Nat.le_of_ble_eq_true rfl, Nat.le_of_ble_eq_true rfl⟩) (pre_V hW hB_G_195 hK hZ hS kd_66 rfl) rfl rfl hl.1 rfl (lv_room (Nat.le_of_ble_eq_true rfl)) dX12_layNeed_153 ⟨Nat.le_of_ble_eq_true rfl, Nat.le_of_ble_eq_true rfl⟩) hS (fun r_205 G_206 H locs hpo hW hS => ?_)
                obtain ⟨hB_G_206, hq_207, f_209, hp_208⟩ := hpo
                have hF := hF.call hq_207 (by decide) (by decide)
                have u_210 := trI_v x_54.toInt (G.1 66 62).toInt
                have hm2_ : r_205.toInt = ndv (G_50.1 99) (p0.toInt + x_54.toInt) (trI x_54.toInt (G.1 66 62).toInt) 2 := hp_208.trans (ndv_eq (show G_195.1 99 = G_50.1 99 from (funext fun j => ((fun (j : Nat) (_ : True) => (hq_196.ri 99 (by decide) (by decide) j))) j trivial)) (by omega) (by omega))
                refine lv_iadd hx hb dX12_layNeed_156 ?_
                refine lv_topi (fun y_211 ey_211 => ?_)
                have ty_211 : y_211.toInt = 1 + r_205.toInt := xI_add rfl rfl ey_211 (by omega) (by omega)
                refine S_calli (va_runS (As := [.int y_201, .int y_211]) (rest := [.int y_199, .ref (a 99)]) ⟨hx, hb, hml, hown, hts⟩ (n_lesser l D k A a z G_206 y_201 y_211 ) (va_cwS 2 hts (gd_S hgd m1863 m1864 m131 m1865) rfl rfl rfl (by decide +kernel) ⟨Nat.le_of_ble_eq_true rfl, Nat.le_of_ble_eq_true rfl⟩) (pre_S hW hB_G_206 hK hZ hS) rfl rfl hl.1 rfl (lv_room (Nat.le_of_ble_eq_true rfl)) dX12_layNeed_157 ⟨Nat.le_of_ble_eq_true rfl, Nat.le_of_ble_eq_true rfl⟩) hS (fun r_212 G_213 H locs hpo hW hS => ?_)
                obtain ⟨hB_G_213, hq_214, hp_215⟩ := hpo
                have hF := hF.call hq_214 (by decide) (by decide)
                refine S_iast hx hb hK hW hS kd_99 (vin (by omega) (by omega)) dX12_layNeed_160 (fun G_216 H locs eG_216 hW hS => ?_)
                have hB_G_216 : Bd G_216 := hB_G_213.put (V := r_212.toInt) (lo := 0) (hi := 100000) eG_216 rfl rfl rfl (by omega) (by omega) (hB_G_213.2.put eG_216 rfl)
                have hF := hF.put eG_216 (Or.inl (by decide))
                refine lv_aload_n hx hb dX12_layNeed_161 rfl (lv_at hl 3 rfl) ?_
                refine S_getR (n := 99) (C := RX12) (T := TX12) (N := 89) hx hb hg iX12 hown hK hW kd_66 rfl 64 (by decide) (hg (Cond.fieldLink RX12 118 "SlabWalkModel" "need" "[I") m1378) (fun _ h9 => h9) rfl dX12_layNeed_162 ?_
                refine lv_iload_n hx hb dX12_layNeed_165 rfl (lv_at hl 2 rfl) ?_
                refine lv_iconst (v := 2) hx hb dX12_layNeed_166 (by decide) ?_
                refine lv_iadd hx hb dX12_layNeed_167 ?_
                refine lv_topi (fun y_217 ey_217 => ?_)
                have ty_217 : y_217.toInt = y_3.toInt + 2 := xI_add rfl rfl ey_217 (by omega) (by omega)
                refine lv_aload_n hx hb dX12_layNeed_168 rfl (lv_at hl 3 rfl) ?_
                refine S_getR (n := 99) (C := RX12) (T := TX12) (N := 89) hx hb hg iX12 hown hK hW kd_66 rfl 64 (by decide) (hg (Cond.fieldLink RX12 118 "SlabWalkModel" "need" "[I") m1378) (fun _ h9 => h9) rfl dX12_layNeed_169 ?_
                refine lv_iload_n hx hb dX12_layNeed_172 rfl (lv_at hl 2 rfl) ?_
                refine lv_iconst (v := 2) hx hb dX12_layNeed_173 (by decide) ?_
                refine lv_iadd hx hb dX12_layNeed_174 ?_
                refine lv_topi (fun y_218 ey_218 => ?_)
                have ty_218 : y_218.toInt = y_3.toInt + 2 := xI_add rfl rfl ey_218 (by omega) (by omega)
                refine S_iald hx hb hK hW kd_99 (vin (by omega) (by omega)) dX12_layNeed_175 (fun y_219 ey_219 => ?_)
                have ty_219 : 0 ≤ y_219.toInt ∧ y_219.toInt ≤ 100000 := hB_G_216.v ey_219 rfl rfl
                have u_220 : y_219.toInt = (G_216.1 99 y_218.toNatClampNeg).toInt := congrArg Int32.toInt (ey_219)
                have hn2_ : y_219.toInt = ndv (G_216.1 99) p0.toInt p1.toInt 2 := (ndv_at (f := G_216.1 99) (x := y_218) (by omega) (congrArg Int32.toInt ey_219)).trans (ndv_eq (show G_216.1 99 = G_216.1 99 from (funext fun j => ((fun (j : Nat) (_ : True) => rfl)) j trivial)) rfl rfl)
                refine lv_iconst (v := 1) hx hb dX12_layNeed_176 (by decide) ?_
                refine lv_aload_n hx hb dX12_layNeed_177 rfl (lv_at hl 3 rfl) ?_
                refine lv_iload_n hx hb dX12_layNeed_178 rfl (lv_at hl 4 rfl) ?_
                refine lv_iload hx hb dX12_layNeed_179 (lv_at hl 1 rfl) ?_
                refine lv_iadd hx hb dX12_layNeed_181 ?_
                refine lv_topi (fun y_221 ey_221 => ?_)
                have ty_221 : y_221.toInt = p0.toInt + x_54.toInt := xI_add rfl rfl ey_221 (by omega) (by omega)
                refine lv_iload hx hb dX12_layNeed_182 (lv_at hl 0 rfl) ?_
                refine lv_iconst (v := 1) hx hb dX12_layNeed_184 (by decide) ?_
                have qc_222 : (1 : Int32).toInt = 1 := rfl
                refine S_calli (va_runV (As := [.int y_221, .int r_194, .int 1]) (rest := [.int 1, .int y_219, .int y_217, .ref (a 99)]) ⟨hx, hb, hml, hown, hts⟩ (n_needOf l D k A a z G_216 y_221 r_194 1 ⟨by omega, by omega⟩ ⟨by omega, by omega⟩ ⟨by decide, by decide⟩) (cwV 3 hts (gd_V hgd m1859 m1861 m96 m131 m1862) rfl rfl rfl (by decide +kernel) ⟨Nat.le_of_ble_eq_true rfl, Nat.le_of_ble_eq_true rfl⟩) (pre_V hW hB_G_216 hK hZ hS kd_66 rfl) rfl rfl hl.1 rfl (lv_room (Nat.le_of_ble_eq_true rfl)) dX12_layNeed_185 ⟨Nat.le_of_ble_eq_true rfl, Nat.le_of_ble_eq_true rfl⟩) hS (fun r_223 G_224 H locs hpo hW hS => ?_)
                obtain ⟨hB_G_224, hq_225, f_227, hp_226⟩ := hpo
                have hF := hF.call hq_225 (by decide) (by decide)
                have u_228 := trI_v x_54.toInt (G.1 66 62).toInt
                have hm1_ : r_223.toInt = ndv (G_216.1 99) (p0.toInt + x_54.toInt) (trI x_54.toInt (G.1 66 62).toInt) 1 := hp_226.trans (ndv_eq (show G_216.1 99 = G_216.1 99 from (funext fun j => ((fun (j : Nat) (_ : True) => rfl)) j trivial)) (by omega) (by omega))
                refine lv_iadd hx hb dX12_layNeed_188 ?_
                refine lv_topi (fun y_229 ey_229 => ?_)
                have ty_229 : y_229.toInt = 1 + r_223.toInt := xI_add rfl rfl ey_229 (by omega) (by omega)
                refine S_calli (va_runS (As := [.int y_219, .int y_229]) (rest := [.int y_217, .ref (a 99)]) ⟨hx, hb, hml, hown, hts⟩ (n_lesser l D k A a z G_224 y_219 y_229 ) (va_cwS 2 hts (gd_S hgd m1863 m1864 m131 m1865) rfl rfl rfl (by decide +kernel) ⟨Nat.le_of_ble_eq_true rfl, Nat.le_of_ble_eq_true rfl⟩) (pre_S hW hB_G_224 hK hZ hS) rfl rfl hl.1 rfl (lv_room (Nat.le_of_ble_eq_true rfl)) dX12_layNeed_189 ⟨Nat.le_of_ble_eq_true rfl, Nat.le_of_ble_eq_true rfl⟩) hS (fun r_230 G_231 H locs hpo hW hS => ?_)
                obtain ⟨hB_G_231, hq_232, hp_233⟩ := hpo
                have hF := hF.call hq_232 (by decide) (by decide)
                refine S_iast hx hb hK hW hS kd_99 (vin (by omega) (by omega)) dX12_layNeed_192 (fun G_234 H locs eG_234 hW hS => ?_)
                have hB_G_234 : Bd G_234 := hB_G_231.put (V := r_230.toInt) (lo := 0) (hi := 100000) eG_234 rfl rfl rfl (by omega) (by omega) (hB_G_231.2.put eG_234 rfl)
                have hF := hF.put eG_234 (Or.inl (by decide))
                have hpa_ : PR (G_213.1 99) (G.1 98) (G.1 66 61).toInt (G.1 66 62).toInt (G.1 66 63).toInt (p0.toInt) (p1.toInt) := by rw [show G_213.1 99 = G_50.1 99 from (funext fun j => ((fun (j : Nat) (_ : True) => ((hq_214.ri 99 (by decide) (by decide) j).trans ((hq_207.ri 99 (by decide) (by decide) j).trans (hq_196.ri 99 (by decide) (by decide) j))))) j trivial)]; exact (show PR (G_50.1 99) (G.1 98) (G.1 66 61).toInt (G.1 66 62).toInt (G.1 66 63).toInt (p0.toInt) (p1.toInt) by assumption)
                have hpb_ : PR (G_216.1 99) (G.1 98) (G.1 66 61).toInt (G.1 66 62).toInt (G.1 66 63).toInt (p0.toInt) (p1.toInt) := PR_put (i := 1) eG_216 (by omega) (by omega) (by omega) (by omega) hle1 hpa_
                have hpc_ : PR (G_231.1 99) (G.1 98) (G.1 66 61).toInt (G.1 66 62).toInt (G.1 66 63).toInt (p0.toInt) (p1.toInt) := by rw [show G_231.1 99 = G_216.1 99 from (funext fun j => ((fun (j : Nat) (_ : True) => ((hq_232.ri 99 (by decide) (by decide) j).trans (hq_225.ri 99 (by decide) (by decide) j)))) j trivial)]; exact hpb_
                have hpN_ : PR (G_234.1 99) (G.1 98) (G.1 66 61).toInt (G.1 66 62).toInt (G.1 66 63).toInt (p0.toInt) (p1.toInt) := PR_put (i := 2) eG_234 (by omega) (by omega) (by omega) (by omega) hle1 hpc_
                have hja_ : NJ (G_213.1 99) (G.1 98) (G.1 66 61).toInt (G.1 66 62).toInt p0.toInt p1.toInt (x_54.toInt) := by rw [show G_213.1 99 = G_50.1 99 from (funext fun j => ((fun (j : Nat) (_ : True) => ((hq_214.ri 99 (by decide) (by decide) j).trans ((hq_207.ri 99 (by decide) (by decide) j).trans (hq_196.ri 99 (by decide) (by decide) j))))) j trivial)]; exact (show NJ (G_50.1 99) (G.1 98) (G.1 66 61).toInt (G.1 66 62).toInt p0.toInt p1.toInt (x_54.toInt) by assumption)
                have hnN_ : NJ (G_234.1 99) (G.1 98) (G.1 66 61).toInt (G.1 66 62).toInt p0.toInt p1.toInt (x_54.toInt + 1) := NJ_step_ hja_ eG_216 (by omega) (show G_231.1 99 = G_216.1 99 from (funext fun j => ((fun (j : Nat) (_ : True) => ((hq_232.ri 99 (by decide) (by decide) j).trans (hq_225.ri 99 (by decide) (by decide) j)))) j trivial)) eG_234 (by omega) (by omega) (by omega) hle1 (by omega) ((lw_iff (x := y_185) (y := y_186) (by omega) (by omega)).mpr (by omega)) (hn1_.trans (by rw [show G_213.1 99 = G_50.1 99 from (funext fun j => ((fun (j : Nat) (_ : True) => ((hq_214.ri 99 (by decide) (by decide) j).trans ((hq_207.ri 99 (by decide) (by decide) j).trans (hq_196.ri 99 (by decide) (by decide) j))))) j trivial)])) hn2_ (hm2_.trans (by rw [show G_213.1 99 = G_50.1 99 from (funext fun j => ((fun (j : Nat) (_ : True) => ((hq_214.ri 99 (by decide) (by decide) j).trans ((hq_207.ri 99 (by decide) (by decide) j).trans (hq_196.ri 99 (by decide) (by decide) j))))) j trivial)])) hm1_ (by omega) (by omega) (by omega) (by omega) (by omega) (by omega)
                obtain ⟨y_235, ey_235⟩ : ∃ q, q = x_54 + 1 := ⟨_, rfl⟩
                have ty_235 : y_235.toInt = x_54.toInt + 1 := xI_add rfl rfl ey_235 (by omega) (by omega)
                refine lv_iinc (v := y_235) (lv' := [(4, .int y_235), (5, .int r_194), (3, .int y_3), (0, .ref (a 66)), (1, .int p0), (2, .int p1)]) hx hb dX12_layNeed_193 hl (k := 1) rfl (by rw [ey_235]; rfl) (by decide) rfl (fun ls hl => ?_)
                have hj_236 : NJ (G_234.1 99) (G.1 98) (G.1 66 61).toInt (G.1 66 62).toInt p0.toInt p1.toInt (y_235.toInt) := by rw [ty_235]; exact hnN_
                refine lv_goto (tgt := 74) hx hb dX12_layNeed_196 (by decide) ?_
                exact ih_52 (100 - y_235.toInt : Int).toNat (by omega) _ _ _ ⟨G_234, y_235, (Int.toNat_of_nonneg (by omega)), ⟨by omega, by omega⟩, (by assumption), (by assumption), (by omega), (by omega), hW, hB_G_234, hF, ((((((((Fr.rf.call hq_51 (by decide) (by decide)).call hq_196 (by decide) (by decide)).call hq_207 (by decide) (by decide)).call hq_214 (by decide) (by decide)).put eG_216 (Or.inl (by decide))).call hq_225 (by decide) (by decide)).call hq_232 (by decide) (by decide)).put eG_234 (Or.inl (by decide))), hS, lv_sub hl [0, 2, 3, 4, 5] rfl⟩
              · have c_192 : (G.1 66 62).toInt < x_54.toInt := xI_nle rfl rfl c_192
                refine lv_iconst (v := 1) hx hb dX12_layNeed_119 (by decide) ?_
                refine lv_goto (tgt := 124) hx hb dX12_layNeed_120 (by decide) ?_
                have qc_237 : (1 : Int32).toInt = 1 := rfl
                refine S_calli (va_runS (As := [.int 1]) (rest := []) ⟨hx, hb, hml, hown, hts⟩ (n_truth l D k A a z G_50 1 ⟨by decide, by decide⟩) (va_cwS 1 hts (gd_S hgd m1788 m1789 m131 m1790) rfl rfl rfl (by decide +kernel) ⟨Nat.le_of_ble_eq_true rfl, Nat.le_of_ble_eq_true rfl⟩) (pre_S hW hB_G_50 hK hZ hS) rfl rfl hl.1 rfl (lv_room (Nat.le_of_ble_eq_true rfl)) dX12_layNeed_124 ⟨Nat.le_of_ble_eq_true rfl, Nat.le_of_ble_eq_true rfl⟩) hS (fun r_238 G_239 H locs hpo hW hS => ?_)
                obtain ⟨hB_G_239, hq_240, f_242, hp_241, -⟩ := hpo
                have hF := hF.call hq_240 (by decide) (by decide)
                refine lv_istore (lv' := [(5, .int r_238), (4, .int x_54), (3, .int y_3), (0, .ref (a 66)), (1, .int p0), (2, .int p1)]) hx hb dX12_layNeed_127 hl (by decide) rfl (fun ls hl => ?_)
                refine lv_aload_n hx hb dX12_layNeed_129 rfl (lv_at hl 3 rfl) ?_
                refine S_getR (n := 99) (C := RX12) (T := TX12) (N := 89) hx hb hg iX12 hown hK hW kd_66 rfl 64 (by decide) (hg (Cond.fieldLink RX12 118 "SlabWalkModel" "need" "[I") m1378) (fun _ h9 => h9) rfl dX12_layNeed_130 ?_
                refine lv_iload_n hx hb dX12_layNeed_133 rfl (lv_at hl 2 rfl) ?_
                refine lv_iconst (v := 1) hx hb dX12_layNeed_134 (by decide) ?_
                refine lv_iadd hx hb dX12_layNeed_135 ?_
                refine lv_topi (fun y_243 ey_243 => ?_)
                have ty_243 : y_243.toInt = y_3.toInt + 1 := xI_add rfl rfl ey_243 (by omega) (by omega)
                refine lv_aload_n hx hb dX12_layNeed_136 rfl (lv_at hl 3 rfl) ?_
                refine S_getR (n := 99) (C := RX12) (T := TX12) (N := 89) hx hb hg iX12 hown hK hW kd_66 rfl 64 (by decide) (hg (Cond.fieldLink RX12 118 "SlabWalkModel" "need" "[I") m1378) (fun _ h9 => h9) rfl dX12_layNeed_137 ?_
                refine lv_iload_n hx hb dX12_layNeed_140 rfl (lv_at hl 2 rfl) ?_
                refine lv_iconst (v := 1) hx hb dX12_layNeed_141 (by decide) ?_
                refine lv_iadd hx hb dX12_layNeed_142 ?_
                refine lv_topi (fun y_244 ey_244 => ?_)
                have ty_244 : y_244.toInt = y_3.toInt + 1 := xI_add rfl rfl ey_244 (by omega) (by omega)
                refine S_iald hx hb hK hW kd_99 (vin (by omega) (by omega)) dX12_layNeed_143 (fun y_245 ey_245 => ?_)
                have ty_245 : 0 ≤ y_245.toInt ∧ y_245.toInt ≤ 100000 := hB_G_239.v ey_245 rfl rfl
                have u_246 : y_245.toInt = (G_50.1 99 y_244.toNatClampNeg).toInt := congrArg Int32.toInt (ey_245.trans ((hq_240.ri 99 (by decide) (by decide) y_244.toNatClampNeg)))
                have hn1_ : y_245.toInt = ndv (G_50.1 99) p0.toInt p1.toInt 1 := (ndv_at (f := G_239.1 99) (x := y_244) (by omega) (congrArg Int32.toInt ey_245)).trans (ndv_eq (show G_239.1 99 = G_50.1 99 from (funext fun j => ((fun (j : Nat) (_ : True) => (hq_240.ri 99 (by decide) (by decide) j))) j trivial)) rfl rfl)
                refine lv_iconst (v := 1) hx hb dX12_layNeed_144 (by decide) ?_
                refine lv_aload_n hx hb dX12_layNeed_145 rfl (lv_at hl 3 rfl) ?_
                refine lv_iload_n hx hb dX12_layNeed_146 rfl (lv_at hl 4 rfl) ?_
                refine lv_iload hx hb dX12_layNeed_147 (lv_at hl 1 rfl) ?_
                refine lv_iadd hx hb dX12_layNeed_149 ?_
                refine lv_topi (fun y_247 ey_247 => ?_)
                have ty_247 : y_247.toInt = p0.toInt + x_54.toInt := xI_add rfl rfl ey_247 (by omega) (by omega)
                refine lv_iload hx hb dX12_layNeed_150 (lv_at hl 0 rfl) ?_
                refine lv_iconst (v := 2) hx hb dX12_layNeed_152 (by decide) ?_
                have qc_248 : (2 : Int32).toInt = 2 := rfl
                refine S_calli (va_runV (As := [.int y_247, .int r_238, .int 2]) (rest := [.int 1, .int y_245, .int y_243, .ref (a 99)]) ⟨hx, hb, hml, hown, hts⟩ (n_needOf l D k A a z G_239 y_247 r_238 2 ⟨by omega, by omega⟩ ⟨by omega, by omega⟩ ⟨by decide, by decide⟩) (cwV 3 hts (gd_V hgd m1859 m1861 m96 m131 m1862) rfl rfl rfl (by decide +kernel) ⟨Nat.le_of_ble_eq_true rfl, Nat.le_of_ble_eq_true rfl⟩) (pre_V hW hB_G_239 hK hZ hS kd_66 rfl) rfl rfl hl.1 rfl (lv_room (Nat.le_of_ble_eq_true rfl)) dX12_layNeed_153 ⟨Nat.le_of_ble_eq_true rfl, Nat.le_of_ble_eq_true rfl⟩) hS (fun r_249 G_250 H locs hpo hW hS => ?_)
                obtain ⟨hB_G_250, hq_251, f_253, hp_252⟩ := hpo
                have hF := hF.call hq_251 (by decide) (by decide)
                have u_254 := trI_v x_54.toInt (G.1 66 62).toInt
                have hm2_ : r_249.toInt = ndv (G_50.1 99) (p0.toInt + x_54.toInt) (trI x_54.toInt (G.1 66 62).toInt) 2 := hp_252.trans (ndv_eq (show G_239.1 99 = G_50.1 99 from (funext fun j => ((fun (j : Nat) (_ : True) => (hq_240.ri 99 (by decide) (by decide) j))) j trivial)) (by omega) (by omega))
                refine lv_iadd hx hb dX12_layNeed_156 ?_
                refine lv_topi (fun y_255 ey_255 => ?_)
                have ty_255 : y_255.toInt = 1 + r_249.toInt := xI_add rfl rfl ey_255 (by omega) (by omega)
                refine S_calli (va_runS (As := [.int y_245, .int y_255]) (rest := [.int y_243, .ref (a 99)]) ⟨hx, hb, hml, hown, hts⟩ (n_lesser l D k A a z G_250 y_245 y_255 ) (va_cwS 2 hts (gd_S hgd m1863 m1864 m131 m1865) rfl rfl rfl (by decide +kernel) ⟨Nat.le_of_ble_eq_true rfl, Nat.le_of_ble_eq_true rfl⟩) (pre_S hW hB_G_250 hK hZ hS) rfl rfl hl.1 rfl (lv_room (Nat.le_of_ble_eq_true rfl)) dX12_layNeed_157 ⟨Nat.le_of_ble_eq_true rfl, Nat.le_of_ble_eq_true rfl⟩) hS (fun r_256 G_257 H locs hpo hW hS => ?_)
                obtain ⟨hB_G_257, hq_258, hp_259⟩ := hpo
                have hF := hF.call hq_258 (by decide) (by decide)
                refine S_iast hx hb hK hW hS kd_99 (vin (by omega) (by omega)) dX12_layNeed_160 (fun G_260 H locs eG_260 hW hS => ?_)
                have hB_G_260 : Bd G_260 := hB_G_257.put (V := r_256.toInt) (lo := 0) (hi := 100000) eG_260 rfl rfl rfl (by omega) (by omega) (hB_G_257.2.put eG_260 rfl)
                have hF := hF.put eG_260 (Or.inl (by decide))
                refine lv_aload_n hx hb dX12_layNeed_161 rfl (lv_at hl 3 rfl) ?_
                refine S_getR (n := 99) (C := RX12) (T := TX12) (N := 89) hx hb hg iX12 hown hK hW kd_66 rfl 64 (by decide) (hg (Cond.fieldLink RX12 118 "SlabWalkModel" "need" "[I") m1378) (fun _ h9 => h9) rfl dX12_layNeed_162 ?_
                refine lv_iload_n hx hb dX12_layNeed_165 rfl (lv_at hl 2 rfl) ?_
                refine lv_iconst (v := 2) hx hb dX12_layNeed_166 (by decide) ?_
                refine lv_iadd hx hb dX12_layNeed_167 ?_
                refine lv_topi (fun y_261 ey_261 => ?_)
                have ty_261 : y_261.toInt = y_3.toInt + 2 := xI_add rfl rfl ey_261 (by omega) (by omega)
                refine lv_aload_n hx hb dX12_layNeed_168 rfl (lv_at hl 3 rfl) ?_
                refine S_getR (n := 99) (C := RX12) (T := TX12) (N := 89) hx hb hg iX12 hown hK hW kd_66 rfl 64 (by decide) (hg (Cond.fieldLink RX12 118 "SlabWalkModel" "need" "[I") m1378) (fun _ h9 => h9) rfl dX12_layNeed_169 ?_
                refine lv_iload_n hx hb dX12_layNeed_172 rfl (lv_at hl 2 rfl) ?_
                refine lv_iconst (v := 2) hx hb dX12_layNeed_173 (by decide) ?_
                refine lv_iadd hx hb dX12_layNeed_174 ?_
                refine lv_topi (fun y_262 ey_262 => ?_)
                have ty_262 : y_262.toInt = y_3.toInt + 2 := xI_add rfl rfl ey_262 (by omega) (by omega)
                refine S_iald hx hb hK hW kd_99 (vin (by omega) (by omega)) dX12_layNeed_175 (fun y_263 ey_263 => ?_)
                have ty_263 : 0 ≤ y_263.toInt ∧ y_263.toInt ≤ 100000 := hB_G_260.v ey_263 rfl rfl
                have u_264 : y_263.toInt = (G_260.1 99 y_262.toNatClampNeg).toInt := congrArg Int32.toInt (ey_263)
                have hn2_ : y_263.toInt = ndv (G_260.1 99) p0.toInt p1.toInt 2 := (ndv_at (f := G_260.1 99) (x := y_262) (by omega) (congrArg Int32.toInt ey_263)).trans (ndv_eq (show G_260.1 99 = G_260.1 99 from (funext fun j => ((fun (j : Nat) (_ : True) => rfl)) j trivial)) rfl rfl)
                refine lv_iconst (v := 1) hx hb dX12_layNeed_176 (by decide) ?_
                refine lv_aload_n hx hb dX12_layNeed_177 rfl (lv_at hl 3 rfl) ?_
                refine lv_iload_n hx hb dX12_layNeed_178 rfl (lv_at hl 4 rfl) ?_
                refine lv_iload hx hb dX12_layNeed_179 (lv_at hl 1 rfl) ?_
                refine lv_iadd hx hb dX12_layNeed_181 ?_
                refine lv_topi (fun y_265 ey_265 => ?_)
                have ty_265 : y_265.toInt = p0.toInt + x_54.toInt := xI_add rfl rfl ey_265 (by omega) (by omega)
                refine lv_iload hx hb dX12_layNeed_182 (lv_at hl 0 rfl) ?_
                refine lv_iconst (v := 1) hx hb dX12_layNeed_184 (by decide) ?_
                have qc_266 : (1 : Int32).toInt = 1 := rfl
                refine S_calli (va_runV (As := [.int y_265, .int r_238, .int 1]) (rest := [.int 1, .int y_263, .int y_261, .ref (a 99)]) ⟨hx, hb, hml, hown, hts⟩ (n_needOf l D k A a z G_260 y_265 r_238 1 ⟨by omega, by omega⟩ ⟨by omega, by omega⟩ ⟨by decide, by decide⟩) (cwV 3 hts (gd_V hgd m1859 m1861 m96 m131 m1862) rfl rfl rfl (by decide +kernel) ⟨Nat.le_of_ble_eq_true rfl, Nat.le_of_ble_eq_true rfl⟩) (pre_V hW hB_G_260 hK hZ hS kd_66 rfl) rfl rfl hl.1 rfl (lv_room (Nat.le_of_ble_eq_true rfl)) dX12_layNeed_185 ⟨Nat.le_of_ble_eq_true rfl, Nat.le_of_ble_eq_true rfl⟩) hS (fun r_267 G_268 H locs hpo hW hS => ?_)
                obtain ⟨hB_G_268, hq_269, f_271, hp_270⟩ := hpo
                have hF := hF.call hq_269 (by decide) (by decide)
                have u_272 := trI_v x_54.toInt (G.1 66 62).toInt
                have hm1_ : r_267.toInt = ndv (G_260.1 99) (p0.toInt + x_54.toInt) (trI x_54.toInt (G.1 66 62).toInt) 1 := hp_270.trans (ndv_eq (show G_260.1 99 = G_260.1 99 from (funext fun j => ((fun (j : Nat) (_ : True) => rfl)) j trivial)) (by omega) (by omega))
                refine lv_iadd hx hb dX12_layNeed_188 ?_
                refine lv_topi (fun y_273 ey_273 => ?_)
                have ty_273 : y_273.toInt = 1 + r_267.toInt := xI_add rfl rfl ey_273 (by omega) (by omega)
                refine S_calli (va_runS (As := [.int y_263, .int y_273]) (rest := [.int y_261, .ref (a 99)]) ⟨hx, hb, hml, hown, hts⟩ (n_lesser l D k A a z G_268 y_263 y_273 ) (va_cwS 2 hts (gd_S hgd m1863 m1864 m131 m1865) rfl rfl rfl (by decide +kernel) ⟨Nat.le_of_ble_eq_true rfl, Nat.le_of_ble_eq_true rfl⟩) (pre_S hW hB_G_268 hK hZ hS) rfl rfl hl.1 rfl (lv_room (Nat.le_of_ble_eq_true rfl)) dX12_layNeed_189 ⟨Nat.le_of_ble_eq_true rfl, Nat.le_of_ble_eq_true rfl⟩) hS (fun r_274 G_275 H locs hpo hW hS => ?_)
                obtain ⟨hB_G_275, hq_276, hp_277⟩ := hpo
                have hF := hF.call hq_276 (by decide) (by decide)
                refine S_iast hx hb hK hW hS kd_99 (vin (by omega) (by omega)) dX12_layNeed_192 (fun G_278 H locs eG_278 hW hS => ?_)
                have hB_G_278 : Bd G_278 := hB_G_275.put (V := r_274.toInt) (lo := 0) (hi := 100000) eG_278 rfl rfl rfl (by omega) (by omega) (hB_G_275.2.put eG_278 rfl)
                have hF := hF.put eG_278 (Or.inl (by decide))
                have hpa_ : PR (G_257.1 99) (G.1 98) (G.1 66 61).toInt (G.1 66 62).toInt (G.1 66 63).toInt (p0.toInt) (p1.toInt) := by rw [show G_257.1 99 = G_50.1 99 from (funext fun j => ((fun (j : Nat) (_ : True) => ((hq_258.ri 99 (by decide) (by decide) j).trans ((hq_251.ri 99 (by decide) (by decide) j).trans (hq_240.ri 99 (by decide) (by decide) j))))) j trivial)]; exact (show PR (G_50.1 99) (G.1 98) (G.1 66 61).toInt (G.1 66 62).toInt (G.1 66 63).toInt (p0.toInt) (p1.toInt) by assumption)
                have hpb_ : PR (G_260.1 99) (G.1 98) (G.1 66 61).toInt (G.1 66 62).toInt (G.1 66 63).toInt (p0.toInt) (p1.toInt) := PR_put (i := 1) eG_260 (by omega) (by omega) (by omega) (by omega) hle1 hpa_
                have hpc_ : PR (G_275.1 99) (G.1 98) (G.1 66 61).toInt (G.1 66 62).toInt (G.1 66 63).toInt (p0.toInt) (p1.toInt) := by rw [show G_275.1 99 = G_260.1 99 from (funext fun j => ((fun (j : Nat) (_ : True) => ((hq_276.ri 99 (by decide) (by decide) j).trans (hq_269.ri 99 (by decide) (by decide) j)))) j trivial)]; exact hpb_
                have hpN_ : PR (G_278.1 99) (G.1 98) (G.1 66 61).toInt (G.1 66 62).toInt (G.1 66 63).toInt (p0.toInt) (p1.toInt) := PR_put (i := 2) eG_278 (by omega) (by omega) (by omega) (by omega) hle1 hpc_
                have hja_ : NJ (G_257.1 99) (G.1 98) (G.1 66 61).toInt (G.1 66 62).toInt p0.toInt p1.toInt (x_54.toInt) := by rw [show G_257.1 99 = G_50.1 99 from (funext fun j => ((fun (j : Nat) (_ : True) => ((hq_258.ri 99 (by decide) (by decide) j).trans ((hq_251.ri 99 (by decide) (by decide) j).trans (hq_240.ri 99 (by decide) (by decide) j))))) j trivial)]; exact (show NJ (G_50.1 99) (G.1 98) (G.1 66 61).toInt (G.1 66 62).toInt p0.toInt p1.toInt (x_54.toInt) by assumption)
                have hnN_ : NJ (G_278.1 99) (G.1 98) (G.1 66 61).toInt (G.1 66 62).toInt p0.toInt p1.toInt (x_54.toInt + 1) := NJ_step_ hja_ eG_260 (by omega) (show G_275.1 99 = G_260.1 99 from (funext fun j => ((fun (j : Nat) (_ : True) => ((hq_276.ri 99 (by decide) (by decide) j).trans (hq_269.ri 99 (by decide) (by decide) j)))) j trivial)) eG_278 (by omega) (by omega) (by omega) hle1 (by omega) ((lw_iff (x := y_185) (y := y_186) (by omega) (by omega)).mpr (by omega)) (hn1_.trans (by rw [show G_257.1 99 = G_50.1 99 from (funext fun j => ((fun (j : Nat) (_ : True) => ((hq_258.ri 99 (by decide) (by decide) j).trans ((hq_251.ri 99 (by decide) (by decide) j).trans (hq_240.ri 99 (by decide) (by decide) j))))) j trivial)])) hn2_ (hm2_.trans (by rw [show G_257.1 99 = G_50.1 99 from (funext fun j => ((fun (j : Nat) (_ : True) => ((hq_258.ri 99 (by decide) (by decide) j).trans ((hq_251.ri 99 (by decide) (by decide) j).trans (hq_240.ri 99 (by decide) (by decide) j))))) j trivial)])) hm1_ (by omega) (by omega) (by omega) (by omega) (by omega) (by omega)
                obtain ⟨y_279, ey_279⟩ : ∃ q, q = x_54 + 1 := ⟨_, rfl⟩
                have ty_279 : y_279.toInt = x_54.toInt + 1 := xI_add rfl rfl ey_279 (by omega) (by omega)
                refine lv_iinc (v := y_279) (lv' := [(4, .int y_279), (5, .int r_238), (3, .int y_3), (0, .ref (a 66)), (1, .int p0), (2, .int p1)]) hx hb dX12_layNeed_193 hl (k := 1) rfl (by rw [ey_279]; rfl) (by decide) rfl (fun ls hl => ?_)
                have hj_280 : NJ (G_278.1 99) (G.1 98) (G.1 66 61).toInt (G.1 66 62).toInt p0.toInt p1.toInt (y_279.toInt) := by rw [ty_279]; exact hnN_
                refine lv_goto (tgt := 74) hx hb dX12_layNeed_196 (by decide) ?_
                exact ih_52 (100 - y_279.toInt : Int).toNat (by omega) _ _ _ ⟨G_278, y_279, (Int.toNat_of_nonneg (by omega)), ⟨by omega, by omega⟩, (by assumption), (by assumption), (by omega), (by omega), hW, hB_G_278, hF, ((((((((Fr.rf.call hq_51 (by decide) (by decide)).call hq_240 (by decide) (by decide)).call hq_251 (by decide) (by decide)).call hq_258 (by decide) (by decide)).put eG_260 (Or.inl (by decide))).call hq_269 (by decide) (by decide)).call hq_276 (by decide) (by decide)).put eG_278 (Or.inl (by decide))), hS, lv_sub hl [0, 2, 3, 4, 5] rfl⟩
            · have c_191 : y_186.toInt = 0 := xI_eq rfl rfl c_191
              refine lv_goto (tgt := 193) hx hb dX12_layNeed_107 (by decide) ?_
              have hpN_ : PR (G_50.1 99) (G.1 98) (G.1 66 61).toInt (G.1 66 62).toInt (G.1 66 63).toInt (p0.toInt) (p1.toInt) := by rw [show G_50.1 99 = G_50.1 99 from (funext fun j => ((fun (j : Nat) (_ : True) => rfl)) j trivial)]; exact (show PR (G_50.1 99) (G.1 98) (G.1 66 61).toInt (G.1 66 62).toInt (G.1 66 63).toInt (p0.toInt) (p1.toInt) by assumption)
              have hnN_ : NJ (G_50.1 99) (G.1 98) (G.1 66 61).toInt (G.1 66 62).toInt p0.toInt p1.toInt (x_54.toInt + 1) := by rw [show G_50.1 99 = G_50.1 99 from (funext fun j => ((fun (j : Nat) (_ : True) => rfl)) j trivial)]; exact (NJ_skip (show NJ (G_50.1 99) (G.1 98) (G.1 66 61).toInt (G.1 66 62).toInt p0.toInt p1.toInt (x_54.toInt) by assumption) (fun q => by have q := (lw_iff (x := y_185) (y := y_186) (by omega) (by omega)).mp q; omega))
              obtain ⟨y_281, ey_281⟩ : ∃ q, q = x_54 + 1 := ⟨_, rfl⟩
              have ty_281 : y_281.toInt = x_54.toInt + 1 := xI_add rfl rfl ey_281 (by omega) (by omega)
              refine lv_iinc (v := y_281) (lv' := [(4, .int y_281), (3, .int y_3), (0, .ref (a 66)), (1, .int p0), (2, .int p1)]) hx hb dX12_layNeed_193 hl (k := 0) rfl (by rw [ey_281]; rfl) (by decide) rfl (fun ls hl => ?_)
              have hj_282 : NJ (G_50.1 99) (G.1 98) (G.1 66 61).toInt (G.1 66 62).toInt p0.toInt p1.toInt (y_281.toInt) := by rw [ty_281]; exact hnN_
              refine lv_goto (tgt := 74) hx hb dX12_layNeed_196 (by decide) ?_
              exact ih_52 (100 - y_281.toInt : Int).toNat (by omega) _ _ _ ⟨G_50, y_281, (Int.toNat_of_nonneg (by omega)), ⟨by omega, by omega⟩, (by assumption), (by assumption), (by omega), (by omega), hW, hB_G_50, hF, (Fr.rf.call hq_51 (by decide) (by decide)), hS, lv_sub hl [0, 1, 2, 3, 4] rfl⟩
  · have c_7 : y_5.toInt ≠ 0 := xI_ne rfl rfl c_7
    refine lv_aload_n hx hb dX12_layNeed_24 rfl (lv_at hl 1 rfl) ?_
    refine lv_iload_n hx hb dX12_layNeed_25 rfl (lv_at hl 2 rfl) ?_
    refine S_calli (va_runV (As := [.int p0]) (rest := [.int y_4, .ref (a 99)]) ⟨hx, hb, hml, hown, hts⟩ (n_isEnd l D k A a z G p0 ⟨by omega, by omega⟩) (cwV 1 hts (gd_V hgd m1854 m1856 m95 m131 m1857) rfl rfl rfl (by decide +kernel) ⟨Nat.le_of_ble_eq_true rfl, Nat.le_of_ble_eq_true rfl⟩) (pre_V hW hB_G hK hZ hS kd_66 rfl) rfl rfl hl.1 rfl (lv_room (Nat.le_of_ble_eq_true rfl)) dX12_layNeed_26 ⟨Nat.le_of_ble_eq_true rfl, Nat.le_of_ble_eq_true rfl⟩) hS (fun r_283 G_284 H locs hpo hW hS => ?_)
    obtain ⟨hB_G_284, hq_285, f_287, hp_286⟩ := hpo
    have hF := hF.call hq_285 (by decide) (by decide)
    refine lv_if_eq (tgt := 36) hx hb dX12_layNeed_29 (by decide) (fun c_288 => ?_) (fun c_288 => ?_)
    · have c_288 : r_283.toInt = 0 := xI_eq rfl rfl c_288
      refine lv_ldcw (v := 100000) hx hb hown (hg (Cond.constant RX12 502 100000) m1858) dX12_layNeed_36 ?_
      refine S_iast hx hb hK hW hS kd_99 (vin (by omega) (by omega)) dX12_layNeed_39 (fun G_289 H locs eG_289 hW hS => ?_)
      have hB_G_289 : Bd G_289 := hB_G_284.put (V := 100000) (lo := 0) (hi := 100000) eG_289 rfl rfl rfl (by omega) (by omega) (hB_G_284.2.put eG_289 rfl)
      have hF := hF.put eG_289 (Or.inl (by decide))
      refine lv_aload_n hx hb dX12_layNeed_40 rfl (lv_at hl 1 rfl) ?_
      refine S_getR (n := 99) (C := RX12) (T := TX12) (N := 89) hx hb hg iX12 hown hK hW kd_66 rfl 64 (by decide) (hg (Cond.fieldLink RX12 118 "SlabWalkModel" "need" "[I") m1378) (fun _ h9 => h9) rfl dX12_layNeed_41 ?_
      refine lv_iload_n hx hb dX12_layNeed_44 rfl (lv_at hl 0 rfl) ?_
      refine lv_iconst (v := 2) hx hb dX12_layNeed_45 (by decide) ?_
      refine lv_iadd hx hb dX12_layNeed_46 ?_
      refine lv_topi (fun y_290 ey_290 => ?_)
      have ty_290 : y_290.toInt = y_3.toInt + 2 := xI_add rfl rfl ey_290 (by omega) (by omega)
      refine lv_ldcw (v := 100000) hx hb hown (hg (Cond.constant RX12 502 100000) m1858) dX12_layNeed_47 ?_
      refine S_iast hx hb hK hW hS kd_99 (vin (by omega) (by omega)) dX12_layNeed_50 (fun G_291 H locs eG_291 hW hS => ?_)
      have hB_G_291 : Bd G_291 := hB_G_289.put (V := 100000) (lo := 0) (hi := 100000) eG_291 rfl rfl rfl (by omega) (by omega) (hB_G_289.2.put eG_291 rfl)
      have hF := hF.put eG_291 (Or.inl (by decide))
      have qc_292 : (100000 : Int32).toInt = 100000 := rfl
      have hp0_ : PR (G_284.1 99) (G.1 98) (G.1 66 61).toInt (G.1 66 62).toInt (G.1 66 63).toInt (p0.toInt) (p1.toInt) := by rw [show G_284.1 99 = G.1 99 from (funext fun j => ((fun (j : Nat) (_ : True) => (hq_285.ri 99 (by decide) (by decide) j))) j trivial)]; exact hpr
      have hp1_ : PR (G_289.1 99) (G.1 98) (G.1 66 61).toInt (G.1 66 62).toInt (G.1 66 63).toInt (p0.toInt) (p1.toInt) := PR_put (i := 1) eG_289 (by omega) (by omega) (by omega) (by omega) hle1 hp0_
      have hp2_ : PR (G_289.1 99) (G.1 98) (G.1 66 61).toInt (G.1 66 62).toInt (G.1 66 63).toInt (p0.toInt) (p1.toInt) := by rw [show G_289.1 99 = G_289.1 99 from (funext fun j => ((fun (j : Nat) (_ : True) => rfl)) j trivial)]; exact hp1_
      have hp3_ : PR (G_291.1 99) (G.1 98) (G.1 66 61).toInt (G.1 66 62).toInt (G.1 66 63).toInt (p0.toInt) (p1.toInt) := PR_put (i := 2) eG_291 (by omega) (by omega) (by omega) (by omega) hle1 hp2_
      have hz1_ := ndv_put (x := p0.toInt) (l := p1.toInt) (i := 1) eG_289 (by omega) (by omega) (by omega) (by omega)
      have hz2_ := ndv_put (x := p0.toInt) (l := p1.toInt) (i := 2) eG_291 (by omega) (by omega) (by omega) (by omega)
      have hy1_ := hz2_.2 p0.toInt p1.toInt 1 (by omega) (by omega) (by omega) (by omega)
      rw [show G_289.1 99 = G_289.1 99 from (funext fun j => ((fun (j : Nat) (_ : True) => rfl)) j trivial), hz1_.1] at hy1_
      have hy2_ := hz2_.1
      refine lv_aload_n hx hb dX12_layNeed_51 rfl (lv_at hl 1 rfl) ?_
      refine S_getR (n := 98) (C := RX12) (T := TX12) (N := 89) hx hb hg iX12 hown hK hW kd_66 rfl 58 (by decide) (hg (Cond.fieldLink RX12 115 "SlabWalkModel" "lawful" "[Z") m1372) (fun _ h9 => h9) rfl dX12_layNeed_52 ?_
      refine lv_iload_n hx hb dX12_layNeed_55 rfl (lv_at hl 2 rfl) ?_
      refine S_zald hx hb hK hW kd_98 (vin (by omega) (by omega)) dX12_layNeed_56 (fun y_293 ey_293 => ?_)
      have ty_293 := hB_G_291.law ey_293
      have u_294 : y_293.toInt = y_5.toInt := congrArg Int32.toInt (ey_293.trans (((gp_ne eG_291 (fun q => absurd q.1 (by decide))).trans ((gp_ne eG_289 (fun q => absurd q.1 (by decide))).trans ((hq_285.ri 98 (by decide) (by decide) p0.toNatClampNeg).trans (ey_5.symm))))))
      refine lv_if_eq (tgt := 199) hx hb dX12_layNeed_57 (by decide) (fun c_295 => ?_) (fun c_295 => ?_)
      · have c_295 : y_293.toInt = 0 := xI_eq rfl rfl c_295
        have hpF_ : PR (G_291.1 99) (G.1 98) (G.1 66 61).toInt (G.1 66 62).toInt (G.1 66 63).toInt (p0.toInt) (p1.toInt) := by rw [show G_291.1 99 = G_291.1 99 from (funext fun j => ((fun (j : Nat) (_ : True) => rfl)) j trivial)]; exact hp3_
        have hy1F_ : ndv (G_291.1 99) p0.toInt p1.toInt 1 = 100000 := by rw [show G_291.1 99 = G_291.1 99 from (funext fun j => ((fun (j : Nat) (_ : True) => rfl)) j trivial)]; exact (hy1_.trans (by decide))
        have hy2F_ : ndv (G_291.1 99) p0.toInt p1.toInt 2 = 100000 := by rw [show G_291.1 99 = G_291.1 99 from (funext fun j => ((fun (j : Nat) (_ : True) => rfl)) j trivial)]; exact (hy2_.trans (by decide))
        refine lv_aload_n hx hb dX12_layNeed_199 rfl (lv_at hl 1 rfl) ?_
        refine S_getR (n := 99) (C := RX12) (T := TX12) (N := 89) hx hb hg iX12 hown hK hW kd_66 rfl 64 (by decide) (hg (Cond.fieldLink RX12 118 "SlabWalkModel" "need" "[I") m1378) (fun _ h9 => h9) rfl dX12_layNeed_200 ?_
        refine lv_iload_n hx hb dX12_layNeed_203 rfl (lv_at hl 0 rfl) ?_
        refine lv_aload_n hx hb dX12_layNeed_204 rfl (lv_at hl 1 rfl) ?_
        refine S_getR (n := 99) (C := RX12) (T := TX12) (N := 89) hx hb hg iX12 hown hK hW kd_66 rfl 64 (by decide) (hg (Cond.fieldLink RX12 118 "SlabWalkModel" "need" "[I") m1378) (fun _ h9 => h9) rfl dX12_layNeed_205 ?_
        refine lv_iload_n hx hb dX12_layNeed_208 rfl (lv_at hl 0 rfl) ?_
        refine lv_iconst (v := 1) hx hb dX12_layNeed_209 (by decide) ?_
        refine lv_iadd hx hb dX12_layNeed_210 ?_
        refine lv_topi (fun y_296 ey_296 => ?_)
        have ty_296 : y_296.toInt = y_3.toInt + 1 := xI_add rfl rfl ey_296 (by omega) (by omega)
        refine S_iald hx hb hK hW kd_99 (vin (by omega) (by omega)) dX12_layNeed_211 (fun y_297 ey_297 => ?_)
        have ty_297 : 0 ≤ y_297.toInt ∧ y_297.toInt ≤ 100000 := hB_G_291.v ey_297 rfl rfl
        have u_298 : y_297.toInt = (G_291.1 99 y_296.toNatClampNeg).toInt := congrArg Int32.toInt (ey_297)
        have hn1_ : y_297.toInt = ndv (G_291.1 99) p0.toInt p1.toInt 1 := (ndv_at (f := G_291.1 99) (x := y_296) (by omega) (congrArg Int32.toInt ey_297)).trans (ndv_eq (show G_291.1 99 = G_291.1 99 from (funext fun j => ((fun (j : Nat) (_ : True) => rfl)) j trivial)) rfl rfl)
        refine lv_aload_n hx hb dX12_layNeed_212 rfl (lv_at hl 1 rfl) ?_
        refine S_getR (n := 99) (C := RX12) (T := TX12) (N := 89) hx hb hg iX12 hown hK hW kd_66 rfl 64 (by decide) (hg (Cond.fieldLink RX12 118 "SlabWalkModel" "need" "[I") m1378) (fun _ h9 => h9) rfl dX12_layNeed_213 ?_
        refine lv_iload_n hx hb dX12_layNeed_216 rfl (lv_at hl 0 rfl) ?_
        refine lv_iconst (v := 2) hx hb dX12_layNeed_217 (by decide) ?_
        refine lv_iadd hx hb dX12_layNeed_218 ?_
        refine lv_topi (fun y_299 ey_299 => ?_)
        have ty_299 : y_299.toInt = y_3.toInt + 2 := xI_add rfl rfl ey_299 (by omega) (by omega)
        refine S_iald hx hb hK hW kd_99 (vin (by omega) (by omega)) dX12_layNeed_219 (fun y_300 ey_300 => ?_)
        have ty_300 : 0 ≤ y_300.toInt ∧ y_300.toInt ≤ 100000 := hB_G_291.v ey_300 rfl rfl
        have u_301 : y_300.toInt = (G_291.1 99 y_299.toNatClampNeg).toInt := congrArg Int32.toInt (ey_300)
        have hn2_ : y_300.toInt = ndv (G_291.1 99) p0.toInt p1.toInt 2 := (ndv_at (f := G_291.1 99) (x := y_299) (by omega) (congrArg Int32.toInt ey_300)).trans (ndv_eq (show G_291.1 99 = G_291.1 99 from (funext fun j => ((fun (j : Nat) (_ : True) => rfl)) j trivial)) rfl rfl)
        refine S_calli (va_runS (As := [.int y_297, .int y_300]) (rest := [.int y_3, .ref (a 99)]) ⟨hx, hb, hml, hown, hts⟩ (n_lesser l D k A a z G_291 y_297 y_300 ) (va_cwS 2 hts (gd_S hgd m1863 m1864 m131 m1865) rfl rfl rfl (by decide +kernel) ⟨Nat.le_of_ble_eq_true rfl, Nat.le_of_ble_eq_true rfl⟩) (pre_S hW hB_G_291 hK hZ hS) rfl rfl hl.1 rfl (lv_room (Nat.le_of_ble_eq_true rfl)) dX12_layNeed_220 ⟨Nat.le_of_ble_eq_true rfl, Nat.le_of_ble_eq_true rfl⟩) hS (fun r_302 G_303 H locs hpo hW hS => ?_)
        obtain ⟨hB_G_303, hq_304, hp_305⟩ := hpo
        have hF := hF.call hq_304 (by decide) (by decide)
        refine S_iast hx hb hK hW hS kd_99 (vin (by omega) (by omega)) dX12_layNeed_223 (fun G_306 H locs eG_306 hW hS => ?_)
        have hB_G_306 : Bd G_306 := hB_G_303.put (V := r_302.toInt) (lo := 0) (hi := 100000) eG_306 rfl rfl rfl (by omega) (by omega) (hB_G_303.2.put eG_306 rfl)
        have hF := hF.put eG_306 (Or.inl (by decide))
        have hpL_ : PR (G_303.1 99) (G.1 98) (G.1 66 61).toInt (G.1 66 62).toInt (G.1 66 63).toInt (p0.toInt) (p1.toInt) := by rw [show G_303.1 99 = G_291.1 99 from (funext fun j => ((fun (j : Nat) (_ : True) => (hq_304.ri 99 (by decide) (by decide) j))) j trivial)]; exact hpF_
        have hfL_ : ((ndv (G_303.1 99) p0.toInt p1.toInt 1 = 1 ∨ ndv (G_303.1 99) p0.toInt p1.toInt 1 = 100000) ∧ ndv (G_303.1 99) p0.toInt p1.toInt 2 = 100000) ∨ ∃ u, NJ (G_303.1 99) (G.1 98) (G.1 66 61).toInt (G.1 66 62).toInt p0.toInt p1.toInt u ∧ u ≤ (G.1 66 63).toInt + 1 := by rw [show G_303.1 99 = G_291.1 99 from (funext fun j => ((fun (j : Nat) (_ : True) => (hq_304.ri 99 (by decide) (by decide) j))) j trivial)]; exact Or.inl ⟨Or.inr hy1F_, hy2F_⟩
        have hr1_ := hn1_.trans (show ndv (G_291.1 99) p0.toInt p1.toInt 1 = ndv (G_303.1 99) p0.toInt p1.toInt 1 by rw [show G_303.1 99 = G_291.1 99 from (funext fun j => ((fun (j : Nat) (_ : True) => (hq_304.ri 99 (by decide) (by decide) j))) j trivial)])
        have hr2_ := hn2_.trans (show ndv (G_291.1 99) p0.toInt p1.toInt 2 = ndv (G_303.1 99) p0.toInt p1.toInt 2 by rw [show G_303.1 99 = G_291.1 99 from (funext fun j => ((fun (j : Nat) (_ : True) => (hq_304.ri 99 (by decide) (by decide) j))) j trivial)])
        have hEnd_ : PR (G_306.1 99) (G.1 98) (G.1 66 61).toInt (G.1 66 62).toInt (G.1 66 63).toInt (p0.toInt) (p1.toInt + 1) := PR_next eG_306 (by omega) (by omega) (by omega) hle1 hpL_ (lw400 hB_G h400) (by omega) (by omega) (by omega) hfL_
        have hPG_ : PRG G_306 p0.toInt (p1.toInt + 1) := PRG_of hF (by decide) (by decide) hEnd_
        exact W.vret hx hb hr (fun t ht _ => ⟨⟨G_306, rfl, ⟨hB_G_306, hF, (hPG_)⟩, wd_t ht hW⟩, hS.F ht⟩) hS.2.2 dX12_layNeed_224
      · have c_295 : y_293.toInt ≠ 0 := xI_ne rfl rfl c_295
        refine lv_aload_n hx hb dX12_layNeed_60 rfl (lv_at hl 1 rfl) ?_
        refine lv_iload_n hx hb dX12_layNeed_61 rfl (lv_at hl 2 rfl) ?_
        have b_307 : 0 ≤ (G.1 66 59).toInt ∧ (G.1 66 59).toInt ≤ 400 := hB_G.i 66 59 rfl rfl
        have g_308 : (G_291.1 66 59).toInt = (G.1 66 59).toInt := by rw [show G_291.1 66 59 = (G.1 66 59) from ((gp_ne eG_291 (fun q => absurd q.1 (by decide))).trans ((gp_ne eG_289 (fun q => absurd q.1 (by decide))).trans (hq_285.i 66 59 (by decide) (by decide))))]
        have b_309 : 0 ≤ (G.1 66 60).toInt ∧ (G.1 66 60).toInt ≤ 12 := hB_G.i 66 60 rfl rfl
        have g_310 : (G_291.1 66 60).toInt = (G.1 66 60).toInt := by rw [show G_291.1 66 60 = (G.1 66 60) from ((gp_ne eG_291 (fun q => absurd q.1 (by decide))).trans ((gp_ne eG_289 (fun q => absurd q.1 (by decide))).trans (hq_285.i 66 60 (by decide) (by decide))))]
        have b_311 : 0 ≤ (G.1 66 62).toInt ∧ (G.1 66 62).toInt ≤ 60 := hB_G.i 66 62 rfl rfl
        have g_312 : (G_291.1 66 62).toInt = (G.1 66 62).toInt := by rw [show G_291.1 66 62 = (G.1 66 62) from ((gp_ne eG_291 (fun q => absurd q.1 (by decide))).trans ((gp_ne eG_289 (fun q => absurd q.1 (by decide))).trans (hq_285.i 66 62 (by decide) (by decide))))]
        refine S_calli (va_runV (As := [.int p0]) (rest := []) ⟨hx, hb, hml, hown, hts⟩ (n_isEnd l D k A a z G_291 p0 ⟨by omega, by omega⟩) (cwV 1 hts (gd_V hgd m1854 m1856 m95 m131 m1857) rfl rfl rfl (by decide +kernel) ⟨Nat.le_of_ble_eq_true rfl, Nat.le_of_ble_eq_true rfl⟩) (pre_V hW hB_G_291 hK hZ hS kd_66 rfl) rfl rfl hl.1 rfl (lv_room (Nat.le_of_ble_eq_true rfl)) dX12_layNeed_62 ⟨Nat.le_of_ble_eq_true rfl, Nat.le_of_ble_eq_true rfl⟩) hS (fun r_313 G_314 H locs hpo hW hS => ?_)
        obtain ⟨hB_G_314, hq_315, f_317, hp_316⟩ := hpo
        have hF := hF.call hq_315 (by decide) (by decide)
        refine lv_if_ne (tgt := 199) hx hb dX12_layNeed_65 (by decide) (fun c_318 => ?_) (fun c_318 => ?_)
        · have c_318 : r_313.toInt ≠ 0 := xI_ne rfl rfl c_318
          have hpF_ : PR (G_314.1 99) (G.1 98) (G.1 66 61).toInt (G.1 66 62).toInt (G.1 66 63).toInt (p0.toInt) (p1.toInt) := by rw [show G_314.1 99 = G_291.1 99 from (funext fun j => ((fun (j : Nat) (_ : True) => (hq_315.ri 99 (by decide) (by decide) j))) j trivial)]; exact hp3_
          have hy1F_ : ndv (G_314.1 99) p0.toInt p1.toInt 1 = 100000 := by rw [show G_314.1 99 = G_291.1 99 from (funext fun j => ((fun (j : Nat) (_ : True) => (hq_315.ri 99 (by decide) (by decide) j))) j trivial)]; exact (hy1_.trans (by decide))
          have hy2F_ : ndv (G_314.1 99) p0.toInt p1.toInt 2 = 100000 := by rw [show G_314.1 99 = G_291.1 99 from (funext fun j => ((fun (j : Nat) (_ : True) => (hq_315.ri 99 (by decide) (by decide) j))) j trivial)]; exact (hy2_.trans (by decide))
          refine lv_aload_n hx hb dX12_layNeed_199 rfl (lv_at hl 1 rfl) ?_
          refine S_getR (n := 99) (C := RX12) (T := TX12) (N := 89) hx hb hg iX12 hown hK hW kd_66 rfl 64 (by decide) (hg (Cond.fieldLink RX12 118 "SlabWalkModel" "need" "[I") m1378) (fun _ h9 => h9) rfl dX12_layNeed_200 ?_
          refine lv_iload_n hx hb dX12_layNeed_203 rfl (lv_at hl 0 rfl) ?_
          refine lv_aload_n hx hb dX12_layNeed_204 rfl (lv_at hl 1 rfl) ?_
          refine S_getR (n := 99) (C := RX12) (T := TX12) (N := 89) hx hb hg iX12 hown hK hW kd_66 rfl 64 (by decide) (hg (Cond.fieldLink RX12 118 "SlabWalkModel" "need" "[I") m1378) (fun _ h9 => h9) rfl dX12_layNeed_205 ?_
          refine lv_iload_n hx hb dX12_layNeed_208 rfl (lv_at hl 0 rfl) ?_
          refine lv_iconst (v := 1) hx hb dX12_layNeed_209 (by decide) ?_
          refine lv_iadd hx hb dX12_layNeed_210 ?_
          refine lv_topi (fun y_319 ey_319 => ?_)
          have ty_319 : y_319.toInt = y_3.toInt + 1 := xI_add rfl rfl ey_319 (by omega) (by omega)
          refine S_iald hx hb hK hW kd_99 (vin (by omega) (by omega)) dX12_layNeed_211 (fun y_320 ey_320 => ?_)
          have ty_320 : 0 ≤ y_320.toInt ∧ y_320.toInt ≤ 100000 := hB_G_314.v ey_320 rfl rfl
          have u_321 : y_320.toInt = (G_291.1 99 y_319.toNatClampNeg).toInt := congrArg Int32.toInt (ey_320.trans ((hq_315.ri 99 (by decide) (by decide) y_319.toNatClampNeg)))
          have hn1_ : y_320.toInt = ndv (G_291.1 99) p0.toInt p1.toInt 1 := (ndv_at (f := G_314.1 99) (x := y_319) (by omega) (congrArg Int32.toInt ey_320)).trans (ndv_eq (show G_314.1 99 = G_291.1 99 from (funext fun j => ((fun (j : Nat) (_ : True) => (hq_315.ri 99 (by decide) (by decide) j))) j trivial)) rfl rfl)
          refine lv_aload_n hx hb dX12_layNeed_212 rfl (lv_at hl 1 rfl) ?_
          refine S_getR (n := 99) (C := RX12) (T := TX12) (N := 89) hx hb hg iX12 hown hK hW kd_66 rfl 64 (by decide) (hg (Cond.fieldLink RX12 118 "SlabWalkModel" "need" "[I") m1378) (fun _ h9 => h9) rfl dX12_layNeed_213 ?_
          refine lv_iload_n hx hb dX12_layNeed_216 rfl (lv_at hl 0 rfl) ?_
          refine lv_iconst (v := 2) hx hb dX12_layNeed_217 (by decide) ?_
          refine lv_iadd hx hb dX12_layNeed_218 ?_
          refine lv_topi (fun y_322 ey_322 => ?_)
          have ty_322 : y_322.toInt = y_3.toInt + 2 := xI_add rfl rfl ey_322 (by omega) (by omega)
          refine S_iald hx hb hK hW kd_99 (vin (by omega) (by omega)) dX12_layNeed_219 (fun y_323 ey_323 => ?_)
          have ty_323 : 0 ≤ y_323.toInt ∧ y_323.toInt ≤ 100000 := hB_G_314.v ey_323 rfl rfl
          have u_324 : y_323.toInt = (G_291.1 99 y_322.toNatClampNeg).toInt := congrArg Int32.toInt (ey_323.trans ((hq_315.ri 99 (by decide) (by decide) y_322.toNatClampNeg)))
          have hn2_ : y_323.toInt = ndv (G_291.1 99) p0.toInt p1.toInt 2 := (ndv_at (f := G_314.1 99) (x := y_322) (by omega) (congrArg Int32.toInt ey_323)).trans (ndv_eq (show G_314.1 99 = G_291.1 99 from (funext fun j => ((fun (j : Nat) (_ : True) => (hq_315.ri 99 (by decide) (by decide) j))) j trivial)) rfl rfl)
          refine S_calli (va_runS (As := [.int y_320, .int y_323]) (rest := [.int y_3, .ref (a 99)]) ⟨hx, hb, hml, hown, hts⟩ (n_lesser l D k A a z G_314 y_320 y_323 ) (va_cwS 2 hts (gd_S hgd m1863 m1864 m131 m1865) rfl rfl rfl (by decide +kernel) ⟨Nat.le_of_ble_eq_true rfl, Nat.le_of_ble_eq_true rfl⟩) (pre_S hW hB_G_314 hK hZ hS) rfl rfl hl.1 rfl (lv_room (Nat.le_of_ble_eq_true rfl)) dX12_layNeed_220 ⟨Nat.le_of_ble_eq_true rfl, Nat.le_of_ble_eq_true rfl⟩) hS (fun r_325 G_326 H locs hpo hW hS => ?_)
          obtain ⟨hB_G_326, hq_327, hp_328⟩ := hpo
          have hF := hF.call hq_327 (by decide) (by decide)
          refine S_iast hx hb hK hW hS kd_99 (vin (by omega) (by omega)) dX12_layNeed_223 (fun G_329 H locs eG_329 hW hS => ?_)
          have hB_G_329 : Bd G_329 := hB_G_326.put (V := r_325.toInt) (lo := 0) (hi := 100000) eG_329 rfl rfl rfl (by omega) (by omega) (hB_G_326.2.put eG_329 rfl)
          have hF := hF.put eG_329 (Or.inl (by decide))
          have hpL_ : PR (G_326.1 99) (G.1 98) (G.1 66 61).toInt (G.1 66 62).toInt (G.1 66 63).toInt (p0.toInt) (p1.toInt) := by rw [show G_326.1 99 = G_314.1 99 from (funext fun j => ((fun (j : Nat) (_ : True) => (hq_327.ri 99 (by decide) (by decide) j))) j trivial)]; exact hpF_
          have hfL_ : ((ndv (G_326.1 99) p0.toInt p1.toInt 1 = 1 ∨ ndv (G_326.1 99) p0.toInt p1.toInt 1 = 100000) ∧ ndv (G_326.1 99) p0.toInt p1.toInt 2 = 100000) ∨ ∃ u, NJ (G_326.1 99) (G.1 98) (G.1 66 61).toInt (G.1 66 62).toInt p0.toInt p1.toInt u ∧ u ≤ (G.1 66 63).toInt + 1 := by rw [show G_326.1 99 = G_314.1 99 from (funext fun j => ((fun (j : Nat) (_ : True) => (hq_327.ri 99 (by decide) (by decide) j))) j trivial)]; exact Or.inl ⟨Or.inr hy1F_, hy2F_⟩
          have hr1_ := hn1_.trans (show ndv (G_291.1 99) p0.toInt p1.toInt 1 = ndv (G_326.1 99) p0.toInt p1.toInt 1 by rw [show G_326.1 99 = G_291.1 99 from (funext fun j => ((fun (j : Nat) (_ : True) => ((hq_327.ri 99 (by decide) (by decide) j).trans (hq_315.ri 99 (by decide) (by decide) j)))) j trivial)])
          have hr2_ := hn2_.trans (show ndv (G_291.1 99) p0.toInt p1.toInt 2 = ndv (G_326.1 99) p0.toInt p1.toInt 2 by rw [show G_326.1 99 = G_291.1 99 from (funext fun j => ((fun (j : Nat) (_ : True) => ((hq_327.ri 99 (by decide) (by decide) j).trans (hq_315.ri 99 (by decide) (by decide) j)))) j trivial)])
          have hEnd_ : PR (G_329.1 99) (G.1 98) (G.1 66 61).toInt (G.1 66 62).toInt (G.1 66 63).toInt (p0.toInt) (p1.toInt + 1) := PR_next eG_329 (by omega) (by omega) (by omega) hle1 hpL_ (lw400 hB_G h400) (by omega) (by omega) (by omega) hfL_
          have hPG_ : PRG G_329 p0.toInt (p1.toInt + 1) := PRG_of hF (by decide) (by decide) hEnd_
          exact W.vret hx hb hr (fun t ht _ => ⟨⟨G_329, rfl, ⟨hB_G_329, hF, (hPG_)⟩, wd_t ht hW⟩, hS.F ht⟩) hS.2.2 dX12_layNeed_224
        · have c_318 : r_313.toInt = 0 := xI_eq rfl rfl c_318
          refine lv_aload_n hx hb dX12_layNeed_68 rfl (lv_at hl 1 rfl) ?_
          have b_330 : 0 ≤ (G.1 66 61).toInt ∧ (G.1 66 61).toInt ≤ 60 := hB_G.i 66 61 rfl rfl
          refine S_getI (v := (G.1 66 61)) (C := RX12) (T := TX12) (N := 89) hx hb hg iX12 hown hK hW kd_66 rfl 61 (by decide) (hg (Cond.fieldLink RX12 475 "SlabWalkModel" "least" "I") m1375) (fun _ h9 => h9) rfl ((hq_315.i 66 61 (by decide) (by decide)).trans ((gp_ne eG_291 (fun q => absurd q.1 (by decide))).trans ((gp_ne eG_289 (fun q => absurd q.1 (by decide))).trans (hq_285.i 66 61 (by decide) (by decide))))) dX12_layNeed_69 ?_
          have hpE_ : PR (G_314.1 99) (G.1 98) (G.1 66 61).toInt (G.1 66 62).toInt (G.1 66 63).toInt (p0.toInt) (p1.toInt) := by rw [show G_314.1 99 = G_291.1 99 from (funext fun j => ((fun (j : Nat) (_ : True) => (hq_315.ri 99 (by decide) (by decide) j))) j trivial)]; exact hp3_
          have hq1_ : ndv (G_314.1 99) p0.toInt p1.toInt 1 = 100000 := by rw [show G_314.1 99 = G_291.1 99 from (funext fun j => ((fun (j : Nat) (_ : True) => (hq_315.ri 99 (by decide) (by decide) j))) j trivial)]; exact (hy1_.trans (by decide))
          have hq2_ : ndv (G_314.1 99) p0.toInt p1.toInt 2 = 100000 := by rw [show G_314.1 99 = G_291.1 99 from (funext fun j => ((fun (j : Nat) (_ : True) => (hq_315.ri 99 (by decide) (by decide) j))) j trivial)]; exact (hy2_.trans (by decide))
          have hnj_ : NJ (G_314.1 99) (G.1 98) (G.1 66 61).toInt (G.1 66 62).toInt p0.toInt p1.toInt ((G.1 66 61).toInt) := by rw [show (G.1 66 61).toInt = (G.1 66 61).toInt from by omega]; exact NJ_0 hq1_ hq2_
          refine lv_istore (lv' := [(4, .int (G.1 66 61)), (3, .int y_3), (0, .ref (a 66)), (1, .int p0), (2, .int p1)]) hx hb dX12_layNeed_72 hl (by decide) rfl (fun ls hl => ?_)
          refine loop_N (Inv := fun n H locs ls => ∃ (G_331 : GS) (x_335 : Int32), (n : Int) = 100 - x_335.toInt ∧ (1 ≤ x_335.toInt ∧ x_335.toInt ≤ 100) ∧ (PR (G_331.1 99) (G.1 98) (G.1 66 61).toInt (G.1 66 62).toInt (G.1 66 63).toInt (p0.toInt) (p1.toInt)) ∧ (NJ (G_331.1 99) (G.1 98) (G.1 66 61).toInt (G.1 66 62).toInt p0.toInt p1.toInt (x_335.toInt)) ∧ ((G.1 66 61).toInt ≤ x_335.toInt) ∧ (x_335.toInt ≤ (G.1 66 63).toInt + 1) ∧ Wd D k A a G_331 H ∧ Bd G_331 ∧ Fr [99] [] G G_331 ∧ Fr [99] [] G_314 G_331 ∧ va_S A s.heap H locs ∧ lv_has ls 6 [(4, .int x_335), (3, .int y_3), (0, .ref (a 66)), (1, .int p0), (2, .int p1)]) (fun n_334 H locs ls ih_333 hI => ?_) (100 - (G.1 66 61).toInt : Int).toNat ⟨G_314, (G.1 66 61), (Int.toNat_of_nonneg (by omega)), ⟨by omega, by omega⟩, (by assumption), (by assumption), (by omega), (by omega), hW, hB_G_314, hF, Fr.rf, hS, lv_sub hl [0, 1, 2, 3, 4] rfl⟩
          obtain ⟨G_331, x_335, hn_341, f_336, f_337, f_338, f_339, f_340, hW, hB_G_331, hF, hq_332, hS, hl⟩ := hI
          refine lv_iload hx hb dX12_layNeed_74 (lv_at hl 0 rfl) ?_
          refine lv_iload_n hx hb dX12_layNeed_76 rfl (lv_at hl 4 rfl) ?_
          refine lv_iconst (v := 1) hx hb dX12_layNeed_77 (by decide) ?_
          refine lv_icmp_ne (tgt := 88) hx hb dX12_layNeed_78 (by decide) (fun c_342 => ?_) (fun c_342 => ?_)
          · have c_342 : p1.toInt ≠ 1 := xI_ne rfl rfl c_342
            refine lv_aload_n hx hb dX12_layNeed_88 rfl (lv_at hl 2 rfl) ?_
            have b_343 : 0 ≤ (G.1 66 63).toInt ∧ (G.1 66 63).toInt ≤ 99 := hB_G.i 66 63 rfl rfl
            refine S_getI (v := (G.1 66 63)) (C := RX12) (T := TX12) (N := 89) hx hb hg iX12 hown hK hW kd_66 rfl 63 (by decide) (hg (Cond.fieldLink RX12 481 "SlabWalkModel" "leap" "I") m1377) (fun _ h9 => h9) rfl ((hq_332.i 66 63 (by decide) (by decide)).trans ((hq_315.i 66 63 (by decide) (by decide)).trans ((gp_ne eG_291 (fun q => absurd q.1 (by decide))).trans ((gp_ne eG_289 (fun q => absurd q.1 (by decide))).trans (hq_285.i 66 63 (by decide) (by decide)))))) dX12_layNeed_89 ?_
            refine lv_icmp_gt (tgt := 199) hx hb dX12_layNeed_92 (by decide) (fun c_344 => ?_) (fun c_344 => ?_)
            · have c_344 : (G.1 66 63).toInt < x_335.toInt := xI_lt rfl rfl c_344
              have hpF_ : PR (G_331.1 99) (G.1 98) (G.1 66 61).toInt (G.1 66 62).toInt (G.1 66 63).toInt (p0.toInt) (p1.toInt) := by rw [show G_331.1 99 = G_331.1 99 from (funext fun j => ((fun (j : Nat) (_ : True) => rfl)) j trivial)]; exact (show PR (G_331.1 99) (G.1 98) (G.1 66 61).toInt (G.1 66 62).toInt (G.1 66 63).toInt (p0.toInt) (p1.toInt) by assumption)
              have hjF_ : NJ (G_331.1 99) (G.1 98) (G.1 66 61).toInt (G.1 66 62).toInt p0.toInt p1.toInt (x_335.toInt) := by rw [show G_331.1 99 = G_331.1 99 from (funext fun j => ((fun (j : Nat) (_ : True) => rfl)) j trivial)]; exact (show NJ (G_331.1 99) (G.1 98) (G.1 66 61).toInt (G.1 66 62).toInt p0.toInt p1.toInt (x_335.toInt) by assumption)
              refine lv_aload_n hx hb dX12_layNeed_199 rfl (lv_at hl 2 rfl) ?_
              refine S_getR (n := 99) (C := RX12) (T := TX12) (N := 89) hx hb hg iX12 hown hK hW kd_66 rfl 64 (by decide) (hg (Cond.fieldLink RX12 118 "SlabWalkModel" "need" "[I") m1378) (fun _ h9 => h9) rfl dX12_layNeed_200 ?_
              refine lv_iload_n hx hb dX12_layNeed_203 rfl (lv_at hl 1 rfl) ?_
              refine lv_aload_n hx hb dX12_layNeed_204 rfl (lv_at hl 2 rfl) ?_
              refine S_getR (n := 99) (C := RX12) (T := TX12) (N := 89) hx hb hg iX12 hown hK hW kd_66 rfl 64 (by decide) (hg (Cond.fieldLink RX12 118 "SlabWalkModel" "need" "[I") m1378) (fun _ h9 => h9) rfl dX12_layNeed_205 ?_
              refine lv_iload_n hx hb dX12_layNeed_208 rfl (lv_at hl 1 rfl) ?_
              refine lv_iconst (v := 1) hx hb dX12_layNeed_209 (by decide) ?_
              refine lv_iadd hx hb dX12_layNeed_210 ?_
              refine lv_topi (fun y_345 ey_345 => ?_)
              have ty_345 : y_345.toInt = y_3.toInt + 1 := xI_add rfl rfl ey_345 (by omega) (by omega)
              refine S_iald hx hb hK hW kd_99 (vin (by omega) (by omega)) dX12_layNeed_211 (fun y_346 ey_346 => ?_)
              have ty_346 : 0 ≤ y_346.toInt ∧ y_346.toInt ≤ 100000 := hB_G_331.v ey_346 rfl rfl
              have u_347 : y_346.toInt = (G_331.1 99 y_345.toNatClampNeg).toInt := congrArg Int32.toInt (ey_346)
              have hn1_ : y_346.toInt = ndv (G_331.1 99) p0.toInt p1.toInt 1 := (ndv_at (f := G_331.1 99) (x := y_345) (by omega) (congrArg Int32.toInt ey_346)).trans (ndv_eq (show G_331.1 99 = G_331.1 99 from (funext fun j => ((fun (j : Nat) (_ : True) => rfl)) j trivial)) rfl rfl)
              refine lv_aload_n hx hb dX12_layNeed_212 rfl (lv_at hl 2 rfl) ?_
              refine S_getR (n := 99) (C := RX12) (T := TX12) (N := 89) hx hb hg iX12 hown hK hW kd_66 rfl 64 (by decide) (hg (Cond.fieldLink RX12 118 "SlabWalkModel" "need" "[I") m1378) (fun _ h9 => h9) rfl dX12_layNeed_213 ?_
              refine lv_iload_n hx hb dX12_layNeed_216 rfl (lv_at hl 1 rfl) ?_
              refine lv_iconst (v := 2) hx hb dX12_layNeed_217 (by decide) ?_
              refine lv_iadd hx hb dX12_layNeed_218 ?_
              refine lv_topi (fun y_348 ey_348 => ?_)
              have ty_348 : y_348.toInt = y_3.toInt + 2 := xI_add rfl rfl ey_348 (by omega) (by omega)
              refine S_iald hx hb hK hW kd_99 (vin (by omega) (by omega)) dX12_layNeed_219 (fun y_349 ey_349 => ?_)
              have ty_349 : 0 ≤ y_349.toInt ∧ y_349.toInt ≤ 100000 := hB_G_331.v ey_349 rfl rfl
              have u_350 : y_349.toInt = (G_331.1 99 y_348.toNatClampNeg).toInt := congrArg Int32.toInt (ey_349)
              have hn2_ : y_349.toInt = ndv (G_331.1 99) p0.toInt p1.toInt 2 := (ndv_at (f := G_331.1 99) (x := y_348) (by omega) (congrArg Int32.toInt ey_349)).trans (ndv_eq (show G_331.1 99 = G_331.1 99 from (funext fun j => ((fun (j : Nat) (_ : True) => rfl)) j trivial)) rfl rfl)
              refine S_calli (va_runS (As := [.int y_346, .int y_349]) (rest := [.int y_3, .ref (a 99)]) ⟨hx, hb, hml, hown, hts⟩ (n_lesser l D k A a z G_331 y_346 y_349 ) (va_cwS 2 hts (gd_S hgd m1863 m1864 m131 m1865) rfl rfl rfl (by decide +kernel) ⟨Nat.le_of_ble_eq_true rfl, Nat.le_of_ble_eq_true rfl⟩) (pre_S hW hB_G_331 hK hZ hS) rfl rfl hl.1 rfl (lv_room (Nat.le_of_ble_eq_true rfl)) dX12_layNeed_220 ⟨Nat.le_of_ble_eq_true rfl, Nat.le_of_ble_eq_true rfl⟩) hS (fun r_351 G_352 H locs hpo hW hS => ?_)
              obtain ⟨hB_G_352, hq_353, hp_354⟩ := hpo
              have hF := hF.call hq_353 (by decide) (by decide)
              refine S_iast hx hb hK hW hS kd_99 (vin (by omega) (by omega)) dX12_layNeed_223 (fun G_355 H locs eG_355 hW hS => ?_)
              have hB_G_355 : Bd G_355 := hB_G_352.put (V := r_351.toInt) (lo := 0) (hi := 100000) eG_355 rfl rfl rfl (by omega) (by omega) (hB_G_352.2.put eG_355 rfl)
              have hF := hF.put eG_355 (Or.inl (by decide))
              have hpL_ : PR (G_352.1 99) (G.1 98) (G.1 66 61).toInt (G.1 66 62).toInt (G.1 66 63).toInt (p0.toInt) (p1.toInt) := by rw [show G_352.1 99 = G_331.1 99 from (funext fun j => ((fun (j : Nat) (_ : True) => (hq_353.ri 99 (by decide) (by decide) j))) j trivial)]; exact hpF_
              have hfL_ : ((ndv (G_352.1 99) p0.toInt p1.toInt 1 = 1 ∨ ndv (G_352.1 99) p0.toInt p1.toInt 1 = 100000) ∧ ndv (G_352.1 99) p0.toInt p1.toInt 2 = 100000) ∨ ∃ u, NJ (G_352.1 99) (G.1 98) (G.1 66 61).toInt (G.1 66 62).toInt p0.toInt p1.toInt u ∧ u ≤ (G.1 66 63).toInt + 1 := by rw [show G_352.1 99 = G_331.1 99 from (funext fun j => ((fun (j : Nat) (_ : True) => (hq_353.ri 99 (by decide) (by decide) j))) j trivial)]; exact Or.inr ⟨_, hjF_, by omega⟩
              have hr1_ := hn1_.trans (show ndv (G_331.1 99) p0.toInt p1.toInt 1 = ndv (G_352.1 99) p0.toInt p1.toInt 1 by rw [show G_352.1 99 = G_331.1 99 from (funext fun j => ((fun (j : Nat) (_ : True) => (hq_353.ri 99 (by decide) (by decide) j))) j trivial)])
              have hr2_ := hn2_.trans (show ndv (G_331.1 99) p0.toInt p1.toInt 2 = ndv (G_352.1 99) p0.toInt p1.toInt 2 by rw [show G_352.1 99 = G_331.1 99 from (funext fun j => ((fun (j : Nat) (_ : True) => (hq_353.ri 99 (by decide) (by decide) j))) j trivial)])
              have hEnd_ : PR (G_355.1 99) (G.1 98) (G.1 66 61).toInt (G.1 66 62).toInt (G.1 66 63).toInt (p0.toInt) (p1.toInt + 1) := PR_next eG_355 (by omega) (by omega) (by omega) hle1 hpL_ (lw400 hB_G h400) (by omega) (by omega) (by omega) hfL_
              have hPG_ : PRG G_355 p0.toInt (p1.toInt + 1) := PRG_of hF (by decide) (by decide) hEnd_
              exact W.vret hx hb hr (fun t ht _ => ⟨⟨G_355, rfl, ⟨hB_G_355, hF, (hPG_)⟩, wd_t ht hW⟩, hS.F ht⟩) hS.2.2 dX12_layNeed_224
            · have c_344 : x_335.toInt ≤ (G.1 66 63).toInt := xI_nlt rfl rfl c_344
              refine lv_aload_n hx hb dX12_layNeed_95 rfl (lv_at hl 2 rfl) ?_
              refine S_getR (n := 98) (C := RX12) (T := TX12) (N := 89) hx hb hg iX12 hown hK hW kd_66 rfl 58 (by decide) (hg (Cond.fieldLink RX12 115 "SlabWalkModel" "lawful" "[Z") m1372) (fun _ h9 => h9) rfl dX12_layNeed_96 ?_
              refine lv_iload_n hx hb dX12_layNeed_99 rfl (lv_at hl 3 rfl) ?_
              refine lv_iload hx hb dX12_layNeed_100 (lv_at hl 0 rfl) ?_
              refine lv_iadd hx hb dX12_layNeed_102 ?_
              refine lv_topi (fun y_356 ey_356 => ?_)
              have ty_356 : y_356.toInt = p0.toInt + x_335.toInt := xI_add rfl rfl ey_356 (by omega) (by omega)
              refine S_zald hx hb hK hW kd_98 (vin (by omega) (by omega)) dX12_layNeed_103 (fun y_357 ey_357 => ?_)
              have ty_357 := hB_G_331.law ey_357
              have u_358 : y_357.toInt = (G.1 98 y_356.toNatClampNeg).toInt := congrArg Int32.toInt (ey_357.trans (((hq_332.ri 98 (by decide) (by decide) y_356.toNatClampNeg).trans ((hq_315.ri 98 (by decide) (by decide) y_356.toNatClampNeg).trans ((gp_ne eG_291 (fun q => absurd q.1 (by decide))).trans ((gp_ne eG_289 (fun q => absurd q.1 (by decide))).trans (hq_285.ri 98 (by decide) (by decide) y_356.toNatClampNeg)))))))
              have b_359 : 0 ≤ (G.1 98 400).toInt ∧ (G.1 98 400).toInt ≤ 1 := hB_G.i 98 400 rfl rfl
              have g_360 : (G_331.1 98 400).toInt = (G.1 98 400).toInt := by rw [show G_331.1 98 400 = (G.1 98 400) from ((hq_332.i 98 400 (by decide) (by decide)).trans ((hq_315.i 98 400 (by decide) (by decide)).trans ((gp_ne eG_291 (fun q => absurd q.1 (by decide))).trans ((gp_ne eG_289 (fun q => absurd q.1 (by decide))).trans (hq_285.i 98 400 (by decide) (by decide))))))]
              have u_361 := law4 (G := G_331) (by omega) ey_357
              refine lv_if_ne (tgt := 110) hx hb dX12_layNeed_104 (by decide) (fun c_362 => ?_) (fun c_362 => ?_)
              · have c_362 : y_357.toInt ≠ 0 := xI_ne rfl rfl c_362
                refine lv_iload hx hb dX12_layNeed_110 (lv_at hl 0 rfl) ?_
                refine lv_aload_n hx hb dX12_layNeed_112 rfl (lv_at hl 2 rfl) ?_
                refine S_getI (v := (G.1 66 62)) (C := RX12) (T := TX12) (N := 89) hx hb hg iX12 hown hK hW kd_66 rfl 62 (by decide) (hg (Cond.fieldLink RX12 478 "SlabWalkModel" "most" "I") m1376) (fun _ h9 => h9) rfl ((hq_332.i 66 62 (by decide) (by decide)).trans ((hq_315.i 66 62 (by decide) (by decide)).trans ((gp_ne eG_291 (fun q => absurd q.1 (by decide))).trans ((gp_ne eG_289 (fun q => absurd q.1 (by decide))).trans ((hq_285.i 66 62 (by decide) (by decide)).trans (rfl)))))) dX12_layNeed_113 ?_
                refine lv_icmp_le (tgt := 123) hx hb dX12_layNeed_116 (by decide) (fun c_363 => ?_) (fun c_363 => ?_)
                · have c_363 : x_335.toInt ≤ (G.1 66 62).toInt := xI_le rfl rfl c_363
                  refine lv_iconst (v := 0) hx hb dX12_layNeed_123 (by decide) ?_
                  have qc_364 : (0 : Int32).toInt = 0 := rfl
                  refine S_calli (va_runS (As := [.int 0]) (rest := []) ⟨hx, hb, hml, hown, hts⟩ (n_truth l D k A a z G_331 0 ⟨by decide, by decide⟩) (va_cwS 1 hts (gd_S hgd m1788 m1789 m131 m1790) rfl rfl rfl (by decide +kernel) ⟨Nat.le_of_ble_eq_true rfl, Nat.le_of_ble_eq_true rfl⟩) (pre_S hW hB_G_331 hK hZ hS) rfl rfl hl.1 rfl (lv_room (Nat.le_of_ble_eq_true rfl)) dX12_layNeed_124 ⟨Nat.le_of_ble_eq_true rfl, Nat.le_of_ble_eq_true rfl⟩) hS (fun r_365 G_366 H locs hpo hW hS => ?_)
                  obtain ⟨hB_G_366, hq_367, f_369, hp_368, -⟩ := hpo
                  have hF := hF.call hq_367 (by decide) (by decide)
                  refine lv_istore (lv' := [(5, .int r_365), (4, .int x_335), (3, .int y_3), (0, .ref (a 66)), (1, .int p0), (2, .int p1)]) hx hb dX12_layNeed_127 hl (by decide) rfl (fun ls hl => ?_)
                  refine lv_aload_n hx hb dX12_layNeed_129 rfl (lv_at hl 3 rfl) ?_
                  refine S_getR (n := 99) (C := RX12) (T := TX12) (N := 89) hx hb hg iX12 hown hK hW kd_66 rfl 64 (by decide) (hg (Cond.fieldLink RX12 118 "SlabWalkModel" "need" "[I") m1378) (fun _ h9 => h9) rfl dX12_layNeed_130 ?_
                  refine lv_iload_n hx hb dX12_layNeed_133 rfl (lv_at hl 2 rfl) ?_
                  refine lv_iconst (v := 1) hx hb dX12_layNeed_134 (by decide) ?_
                  refine lv_iadd hx hb dX12_layNeed_135 ?_
                  refine lv_topi (fun y_370 ey_370 => ?_)
                  have ty_370 : y_370.toInt = y_3.toInt + 1 := xI_add rfl rfl ey_370 (by omega) (by omega)
                  refine lv_aload_n hx hb dX12_layNeed_136 rfl (lv_at hl 3 rfl) ?_
                  refine S_getR (n := 99) (C := RX12) (T := TX12) (N := 89) hx hb hg iX12 hown hK hW kd_66 rfl 64 (by decide) (hg (Cond.fieldLink RX12 118 "SlabWalkModel" "need" "[I") m1378) (fun _ h9 => h9) rfl dX12_layNeed_137 ?_
                  refine lv_iload_n hx hb dX12_layNeed_140 rfl (lv_at hl 2 rfl) ?_
                  refine lv_iconst (v := 1) hx hb dX12_layNeed_141 (by decide) ?_
                  refine lv_iadd hx hb dX12_layNeed_142 ?_
                  refine lv_topi (fun y_371 ey_371 => ?_)
                  have ty_371 : y_371.toInt = y_3.toInt + 1 := xI_add rfl rfl ey_371 (by omega) (by omega)
                  refine S_iald hx hb hK hW kd_99 (vin (by omega) (by omega)) dX12_layNeed_143 (fun y_372 ey_372 => ?_)
                  have ty_372 : 0 ≤ y_372.toInt ∧ y_372.toInt ≤ 100000 := hB_G_366.v ey_372 rfl rfl
                  have u_373 : y_372.toInt = (G_331.1 99 y_371.toNatClampNeg).toInt := congrArg Int32.toInt (ey_372.trans ((hq_367.ri 99 (by decide) (by decide) y_371.toNatClampNeg)))
                  have hn1_ : y_372.toInt = ndv (G_331.1 99) p0.toInt p1.toInt 1 := (ndv_at (f := G_366.1 99) (x := y_371) (by omega) (congrArg Int32.toInt ey_372)).trans (ndv_eq (show G_366.1 99 = G_331.1 99 from (funext fun j => ((fun (j : Nat) (_ : True) => (hq_367.ri 99 (by decide) (by decide) j))) j trivial)) rfl rfl)
                  refine lv_iconst (v := 1) hx hb dX12_layNeed_144 (by decide) ?_
                  refine lv_aload_n hx hb dX12_layNeed_145 rfl (lv_at hl 3 rfl) ?_
                  refine lv_iload_n hx hb dX12_layNeed_146 rfl (lv_at hl 4 rfl) ?_
                  refine lv_iload hx hb dX12_layNeed_147 (lv_at hl 1 rfl) ?_
                  refine lv_iadd hx hb dX12_layNeed_149 ?_
                  refine lv_topi (fun y_374 ey_374 => ?_)
                  have ty_374 : y_374.toInt = p0.toInt + x_335.toInt := xI_add rfl rfl ey_374 (by omega) (by omega)
                  refine lv_iload hx hb dX12_layNeed_150 (lv_at hl 0 rfl) ?_
                  refine lv_iconst (v := 2) hx hb dX12_layNeed_152 (by decide) ?_
                  have qc_375 : (2 : Int32).toInt = 2 := rfl
                  refine S_calli (va_runV (As := [.int y_374, .int r_365, .int 2]) (rest := [.int 1, .int y_372, .int y_370, .ref (a 99)]) ⟨hx, hb, hml, hown, hts⟩ (n_needOf l D k A a z G_366 y_374 r_365 2 ⟨by omega, by omega⟩ ⟨by omega, by omega⟩ ⟨by decide, by decide⟩) (cwV 3 hts (gd_V hgd m1859 m1861 m96 m131 m1862) rfl rfl rfl (by decide +kernel) ⟨Nat.le_of_ble_eq_true rfl, Nat.le_of_ble_eq_true rfl⟩) (pre_V hW hB_G_366 hK hZ hS kd_66 rfl) rfl rfl hl.1 rfl (lv_room (Nat.le_of_ble_eq_true rfl)) dX12_layNeed_153 ⟨Nat.le_of_ble_eq_true rfl, Nat.le_of_ble_eq_true rfl⟩) hS (fun r_376 G_377 H locs hpo hW hS => ?_)
                  obtain ⟨hB_G_377, hq_378, f_380, hp_379⟩ := hpo
                  have hF := hF.call hq_378 (by decide) (by decide)
                  have u_381 := trI_v x_335.toInt (G.1 66 62).toInt
                  have hm2_ : r_376.toInt = ndv (G_331.1 99) (p0.toInt + x_335.toInt) (trI x_335.toInt (G.1 66 62).toInt) 2 := hp_379.trans (ndv_eq (show G_366.1 99 = G_331.1 99 from (funext fun j => ((fun (j : Nat) (_ : True) => (hq_367.ri 99 (by decide) (by decide) j))) j trivial)) (by omega) (by omega))
                  refine lv_iadd hx hb dX12_layNeed_156 ?_
                  refine lv_topi (fun y_382 ey_382 => ?_)
                  have ty_382 : y_382.toInt = 1 + r_376.toInt := xI_add rfl rfl ey_382 (by omega) (by omega)
                  refine S_calli (va_runS (As := [.int y_372, .int y_382]) (rest := [.int y_370, .ref (a 99)]) ⟨hx, hb, hml, hown, hts⟩ (n_lesser l D k A a z G_377 y_372 y_382 ) (va_cwS 2 hts (gd_S hgd m1863 m1864 m131 m1865) rfl rfl rfl (by decide +kernel) ⟨Nat.le_of_ble_eq_true rfl, Nat.le_of_ble_eq_true rfl⟩) (pre_S hW hB_G_377 hK hZ hS) rfl rfl hl.1 rfl (lv_room (Nat.le_of_ble_eq_true rfl)) dX12_layNeed_157 ⟨Nat.le_of_ble_eq_true rfl, Nat.le_of_ble_eq_true rfl⟩) hS (fun r_383 G_384 H locs hpo hW hS => ?_)
                  obtain ⟨hB_G_384, hq_385, hp_386⟩ := hpo
                  have hF := hF.call hq_385 (by decide) (by decide)
                  refine S_iast hx hb hK hW hS kd_99 (vin (by omega) (by omega)) dX12_layNeed_160 (fun G_387 H locs eG_387 hW hS => ?_)
                  have hB_G_387 : Bd G_387 := hB_G_384.put (V := r_383.toInt) (lo := 0) (hi := 100000) eG_387 rfl rfl rfl (by omega) (by omega) (hB_G_384.2.put eG_387 rfl)
                  have hF := hF.put eG_387 (Or.inl (by decide))
                  refine lv_aload_n hx hb dX12_layNeed_161 rfl (lv_at hl 3 rfl) ?_
                  refine S_getR (n := 99) (C := RX12) (T := TX12) (N := 89) hx hb hg iX12 hown hK hW kd_66 rfl 64 (by decide) (hg (Cond.fieldLink RX12 118 "SlabWalkModel" "need" "[I") m1378) (fun _ h9 => h9) rfl dX12_layNeed_162 ?_
                  refine lv_iload_n hx hb dX12_layNeed_165 rfl (lv_at hl 2 rfl) ?_
                  refine lv_iconst (v := 2) hx hb dX12_layNeed_166 (by decide) ?_
                  refine lv_iadd hx hb dX12_layNeed_167 ?_
                  refine lv_topi (fun y_388 ey_388 => ?_)
                  have ty_388 : y_388.toInt = y_3.toInt + 2 := xI_add rfl rfl ey_388 (by omega) (by omega)
                  refine lv_aload_n hx hb dX12_layNeed_168 rfl (lv_at hl 3 rfl) ?_
                  refine S_getR (n := 99) (C := RX12) (T := TX12) (N := 89) hx hb hg iX12 hown hK hW kd_66 rfl 64 (by decide) (hg (Cond.fieldLink RX12 118 "SlabWalkModel" "need" "[I") m1378) (fun _ h9 => h9) rfl dX12_layNeed_169 ?_
                  refine lv_iload_n hx hb dX12_layNeed_172 rfl (lv_at hl 2 rfl) ?_
                  refine lv_iconst (v := 2) hx hb dX12_layNeed_173 (by decide) ?_
                  refine lv_iadd hx hb dX12_layNeed_174 ?_
                  refine lv_topi (fun y_389 ey_389 => ?_)
                  have ty_389 : y_389.toInt = y_3.toInt + 2 := xI_add rfl rfl ey_389 (by omega) (by omega)
                  refine S_iald hx hb hK hW kd_99 (vin (by omega) (by omega)) dX12_layNeed_175 (fun y_390 ey_390 => ?_)
                  have ty_390 : 0 ≤ y_390.toInt ∧ y_390.toInt ≤ 100000 := hB_G_387.v ey_390 rfl rfl
                  have u_391 : y_390.toInt = (G_387.1 99 y_389.toNatClampNeg).toInt := congrArg Int32.toInt (ey_390)
                  have hn2_ : y_390.toInt = ndv (G_387.1 99) p0.toInt p1.toInt 2 := (ndv_at (f := G_387.1 99) (x := y_389) (by omega) (congrArg Int32.toInt ey_390)).trans (ndv_eq (show G_387.1 99 = G_387.1 99 from (funext fun j => ((fun (j : Nat) (_ : True) => rfl)) j trivial)) rfl rfl)
                  refine lv_iconst (v := 1) hx hb dX12_layNeed_176 (by decide) ?_
                  refine lv_aload_n hx hb dX12_layNeed_177 rfl (lv_at hl 3 rfl) ?_
                  refine lv_iload_n hx hb dX12_layNeed_178 rfl (lv_at hl 4 rfl) ?_
                  refine lv_iload hx hb dX12_layNeed_179 (lv_at hl 1 rfl) ?_
                  refine lv_iadd hx hb dX12_layNeed_181 ?_
                  refine lv_topi (fun y_392 ey_392 => ?_)
                  have ty_392 : y_392.toInt = p0.toInt + x_335.toInt := xI_add rfl rfl ey_392 (by omega) (by omega)
                  refine lv_iload hx hb dX12_layNeed_182 (lv_at hl 0 rfl) ?_
                  refine lv_iconst (v := 1) hx hb dX12_layNeed_184 (by decide) ?_
                  have qc_393 : (1 : Int32).toInt = 1 := rfl
                  refine S_calli (va_runV (As := [.int y_392, .int r_365, .int 1]) (rest := [.int 1, .int y_390, .int y_388, .ref (a 99)]) ⟨hx, hb, hml, hown, hts⟩ (n_needOf l D k A a z G_387 y_392 r_365 1 ⟨by omega, by omega⟩ ⟨by omega, by omega⟩ ⟨by decide, by decide⟩) (cwV 3 hts (gd_V hgd m1859 m1861 m96 m131 m1862) rfl rfl rfl (by decide +kernel) ⟨Nat.le_of_ble_eq_true rfl, Nat.le_of_ble_eq_true rfl⟩) (pre_V hW hB_G_387 hK hZ hS kd_66 rfl) rfl rfl hl.1 rfl (lv_room (Nat.le_of_ble_eq_true rfl)) dX12_layNeed_185 ⟨Nat.le_of_ble_eq_true rfl, Nat.le_of_ble_eq_true rfl⟩) hS (fun r_394 G_395 H locs hpo hW hS => ?_)
                  obtain ⟨hB_G_395, hq_396, f_398, hp_397⟩ := hpo
                  have hF := hF.call hq_396 (by decide) (by decide)
                  have u_399 := trI_v x_335.toInt (G.1 66 62).toInt
                  have hm1_ : r_394.toInt = ndv (G_387.1 99) (p0.toInt + x_335.toInt) (trI x_335.toInt (G.1 66 62).toInt) 1 := hp_397.trans (ndv_eq (show G_387.1 99 = G_387.1 99 from (funext fun j => ((fun (j : Nat) (_ : True) => rfl)) j trivial)) (by omega) (by omega))
                  refine lv_iadd hx hb dX12_layNeed_188 ?_
                  refine lv_topi (fun y_400 ey_400 => ?_)
                  have ty_400 : y_400.toInt = 1 + r_394.toInt := xI_add rfl rfl ey_400 (by omega) (by omega)
                  refine S_calli (va_runS (As := [.int y_390, .int y_400]) (rest := [.int y_388, .ref (a 99)]) ⟨hx, hb, hml, hown, hts⟩ (n_lesser l D k A a z G_395 y_390 y_400 ) (va_cwS 2 hts (gd_S hgd m1863 m1864 m131 m1865) rfl rfl rfl (by decide +kernel) ⟨Nat.le_of_ble_eq_true rfl, Nat.le_of_ble_eq_true rfl⟩) (pre_S hW hB_G_395 hK hZ hS) rfl rfl hl.1 rfl (lv_room (Nat.le_of_ble_eq_true rfl)) dX12_layNeed_189 ⟨Nat.le_of_ble_eq_true rfl, Nat.le_of_ble_eq_true rfl⟩) hS (fun r_401 G_402 H locs hpo hW hS => ?_)
                  obtain ⟨hB_G_402, hq_403, hp_404⟩ := hpo
                  have hF := hF.call hq_403 (by decide) (by decide)
                  refine S_iast hx hb hK hW hS kd_99 (vin (by omega) (by omega)) dX12_layNeed_192 (fun G_405 H locs eG_405 hW hS => ?_)
                  have hB_G_405 : Bd G_405 := hB_G_402.put (V := r_401.toInt) (lo := 0) (hi := 100000) eG_405 rfl rfl rfl (by omega) (by omega) (hB_G_402.2.put eG_405 rfl)
                  have hF := hF.put eG_405 (Or.inl (by decide))
                  have hpa_ : PR (G_384.1 99) (G.1 98) (G.1 66 61).toInt (G.1 66 62).toInt (G.1 66 63).toInt (p0.toInt) (p1.toInt) := by rw [show G_384.1 99 = G_331.1 99 from (funext fun j => ((fun (j : Nat) (_ : True) => ((hq_385.ri 99 (by decide) (by decide) j).trans ((hq_378.ri 99 (by decide) (by decide) j).trans (hq_367.ri 99 (by decide) (by decide) j))))) j trivial)]; exact (show PR (G_331.1 99) (G.1 98) (G.1 66 61).toInt (G.1 66 62).toInt (G.1 66 63).toInt (p0.toInt) (p1.toInt) by assumption)
                  have hpb_ : PR (G_387.1 99) (G.1 98) (G.1 66 61).toInt (G.1 66 62).toInt (G.1 66 63).toInt (p0.toInt) (p1.toInt) := PR_put (i := 1) eG_387 (by omega) (by omega) (by omega) (by omega) hle1 hpa_
                  have hpc_ : PR (G_402.1 99) (G.1 98) (G.1 66 61).toInt (G.1 66 62).toInt (G.1 66 63).toInt (p0.toInt) (p1.toInt) := by rw [show G_402.1 99 = G_387.1 99 from (funext fun j => ((fun (j : Nat) (_ : True) => ((hq_403.ri 99 (by decide) (by decide) j).trans (hq_396.ri 99 (by decide) (by decide) j)))) j trivial)]; exact hpb_
                  have hpN_ : PR (G_405.1 99) (G.1 98) (G.1 66 61).toInt (G.1 66 62).toInt (G.1 66 63).toInt (p0.toInt) (p1.toInt) := PR_put (i := 2) eG_405 (by omega) (by omega) (by omega) (by omega) hle1 hpc_
                  have hja_ : NJ (G_384.1 99) (G.1 98) (G.1 66 61).toInt (G.1 66 62).toInt p0.toInt p1.toInt (x_335.toInt) := by rw [show G_384.1 99 = G_331.1 99 from (funext fun j => ((fun (j : Nat) (_ : True) => ((hq_385.ri 99 (by decide) (by decide) j).trans ((hq_378.ri 99 (by decide) (by decide) j).trans (hq_367.ri 99 (by decide) (by decide) j))))) j trivial)]; exact (show NJ (G_331.1 99) (G.1 98) (G.1 66 61).toInt (G.1 66 62).toInt p0.toInt p1.toInt (x_335.toInt) by assumption)
                  have hnN_ : NJ (G_405.1 99) (G.1 98) (G.1 66 61).toInt (G.1 66 62).toInt p0.toInt p1.toInt (x_335.toInt + 1) := NJ_step_ hja_ eG_387 (by omega) (show G_402.1 99 = G_387.1 99 from (funext fun j => ((fun (j : Nat) (_ : True) => ((hq_403.ri 99 (by decide) (by decide) j).trans (hq_396.ri 99 (by decide) (by decide) j)))) j trivial)) eG_405 (by omega) (by omega) (by omega) hle1 (by omega) ((lw_iff (x := y_356) (y := y_357) (by omega) (by omega)).mpr (by omega)) (hn1_.trans (by rw [show G_384.1 99 = G_331.1 99 from (funext fun j => ((fun (j : Nat) (_ : True) => ((hq_385.ri 99 (by decide) (by decide) j).trans ((hq_378.ri 99 (by decide) (by decide) j).trans (hq_367.ri 99 (by decide) (by decide) j))))) j trivial)])) hn2_ (hm2_.trans (by rw [show G_384.1 99 = G_331.1 99 from (funext fun j => ((fun (j : Nat) (_ : True) => ((hq_385.ri 99 (by decide) (by decide) j).trans ((hq_378.ri 99 (by decide) (by decide) j).trans (hq_367.ri 99 (by decide) (by decide) j))))) j trivial)])) hm1_ (by omega) (by omega) (by omega) (by omega) (by omega) (by omega)
                  obtain ⟨y_406, ey_406⟩ : ∃ q, q = x_335 + 1 := ⟨_, rfl⟩
                  have ty_406 : y_406.toInt = x_335.toInt + 1 := xI_add rfl rfl ey_406 (by omega) (by omega)
                  refine lv_iinc (v := y_406) (lv' := [(4, .int y_406), (5, .int r_365), (3, .int y_3), (0, .ref (a 66)), (1, .int p0), (2, .int p1)]) hx hb dX12_layNeed_193 hl (k := 1) rfl (by rw [ey_406]; rfl) (by decide) rfl (fun ls hl => ?_)
                  have hj_407 : NJ (G_405.1 99) (G.1 98) (G.1 66 61).toInt (G.1 66 62).toInt p0.toInt p1.toInt (y_406.toInt) := by rw [ty_406]; exact hnN_
                  refine lv_goto (tgt := 74) hx hb dX12_layNeed_196 (by decide) ?_
                  exact ih_333 (100 - y_406.toInt : Int).toNat (by omega) _ _ _ ⟨G_405, y_406, (Int.toNat_of_nonneg (by omega)), ⟨by omega, by omega⟩, (by assumption), (by assumption), (by omega), (by omega), hW, hB_G_405, hF, ((((((((Fr.rf.call hq_332 (by decide) (by decide)).call hq_367 (by decide) (by decide)).call hq_378 (by decide) (by decide)).call hq_385 (by decide) (by decide)).put eG_387 (Or.inl (by decide))).call hq_396 (by decide) (by decide)).call hq_403 (by decide) (by decide)).put eG_405 (Or.inl (by decide))), hS, lv_sub hl [0, 2, 3, 4, 5] rfl⟩
                · have c_363 : (G.1 66 62).toInt < x_335.toInt := xI_nle rfl rfl c_363
                  refine lv_iconst (v := 1) hx hb dX12_layNeed_119 (by decide) ?_
                  refine lv_goto (tgt := 124) hx hb dX12_layNeed_120 (by decide) ?_
                  have qc_408 : (1 : Int32).toInt = 1 := rfl
                  refine S_calli (va_runS (As := [.int 1]) (rest := []) ⟨hx, hb, hml, hown, hts⟩ (n_truth l D k A a z G_331 1 ⟨by decide, by decide⟩) (va_cwS 1 hts (gd_S hgd m1788 m1789 m131 m1790) rfl rfl rfl (by decide +kernel) ⟨Nat.le_of_ble_eq_true rfl, Nat.le_of_ble_eq_true rfl⟩) (pre_S hW hB_G_331 hK hZ hS) rfl rfl hl.1 rfl (lv_room (Nat.le_of_ble_eq_true rfl)) dX12_layNeed_124 ⟨Nat.le_of_ble_eq_true rfl, Nat.le_of_ble_eq_true rfl⟩) hS (fun r_409 G_410 H locs hpo hW hS => ?_)
                  obtain ⟨hB_G_410, hq_411, f_413, hp_412, -⟩ := hpo
                  have hF := hF.call hq_411 (by decide) (by decide)
                  refine lv_istore (lv' := [(5, .int r_409), (4, .int x_335), (3, .int y_3), (0, .ref (a 66)), (1, .int p0), (2, .int p1)]) hx hb dX12_layNeed_127 hl (by decide) rfl (fun ls hl => ?_)
                  refine lv_aload_n hx hb dX12_layNeed_129 rfl (lv_at hl 3 rfl) ?_
                  refine S_getR (n := 99) (C := RX12) (T := TX12) (N := 89) hx hb hg iX12 hown hK hW kd_66 rfl 64 (by decide) (hg (Cond.fieldLink RX12 118 "SlabWalkModel" "need" "[I") m1378) (fun _ h9 => h9) rfl dX12_layNeed_130 ?_
                  refine lv_iload_n hx hb dX12_layNeed_133 rfl (lv_at hl 2 rfl) ?_
                  refine lv_iconst (v := 1) hx hb dX12_layNeed_134 (by decide) ?_
                  refine lv_iadd hx hb dX12_layNeed_135 ?_
                  refine lv_topi (fun y_414 ey_414 => ?_)
                  have ty_414 : y_414.toInt = y_3.toInt + 1 := xI_add rfl rfl ey_414 (by omega) (by omega)
                  refine lv_aload_n hx hb dX12_layNeed_136 rfl (lv_at hl 3 rfl) ?_
                  refine S_getR (n := 99) (C := RX12) (T := TX12) (N := 89) hx hb hg iX12 hown hK hW kd_66 rfl 64 (by decide) (hg (Cond.fieldLink RX12 118 "SlabWalkModel" "need" "[I") m1378) (fun _ h9 => h9) rfl dX12_layNeed_137 ?_
                  refine lv_iload_n hx hb dX12_layNeed_140 rfl (lv_at hl 2 rfl) ?_
                  refine lv_iconst (v := 1) hx hb dX12_layNeed_141 (by decide) ?_
                  refine lv_iadd hx hb dX12_layNeed_142 ?_
                  refine lv_topi (fun y_415 ey_415 => ?_)
                  have ty_415 : y_415.toInt = y_3.toInt + 1 := xI_add rfl rfl ey_415 (by omega) (by omega)
                  refine S_iald hx hb hK hW kd_99 (vin (by omega) (by omega)) dX12_layNeed_143 (fun y_416 ey_416 => ?_)
                  have ty_416 : 0 ≤ y_416.toInt ∧ y_416.toInt ≤ 100000 := hB_G_410.v ey_416 rfl rfl
                  have u_417 : y_416.toInt = (G_331.1 99 y_415.toNatClampNeg).toInt := congrArg Int32.toInt (ey_416.trans ((hq_411.ri 99 (by decide) (by decide) y_415.toNatClampNeg)))
                  have hn1_ : y_416.toInt = ndv (G_331.1 99) p0.toInt p1.toInt 1 := (ndv_at (f := G_410.1 99) (x := y_415) (by omega) (congrArg Int32.toInt ey_416)).trans (ndv_eq (show G_410.1 99 = G_331.1 99 from (funext fun j => ((fun (j : Nat) (_ : True) => (hq_411.ri 99 (by decide) (by decide) j))) j trivial)) rfl rfl)
                  refine lv_iconst (v := 1) hx hb dX12_layNeed_144 (by decide) ?_
                  refine lv_aload_n hx hb dX12_layNeed_145 rfl (lv_at hl 3 rfl) ?_
                  refine lv_iload_n hx hb dX12_layNeed_146 rfl (lv_at hl 4 rfl) ?_
                  refine lv_iload hx hb dX12_layNeed_147 (lv_at hl 1 rfl) ?_
                  refine lv_iadd hx hb dX12_layNeed_149 ?_
                  refine lv_topi (fun y_418 ey_418 => ?_)
                  have ty_418 : y_418.toInt = p0.toInt + x_335.toInt := xI_add rfl rfl ey_418 (by omega) (by omega)
                  refine lv_iload hx hb dX12_layNeed_150 (lv_at hl 0 rfl) ?_
                  refine lv_iconst (v := 2) hx hb dX12_layNeed_152 (by decide) ?_
                  have qc_419 : (2 : Int32).toInt = 2 := rfl
                  refine S_calli (va_runV (As := [.int y_418, .int r_409, .int 2]) (rest := [.int 1, .int y_416, .int y_414, .ref (a 99)]) ⟨hx, hb, hml, hown, hts⟩ (n_needOf l D k A a z G_410 y_418 r_409 2 ⟨by omega, by omega⟩ ⟨by omega, by omega⟩ ⟨by decide, by decide⟩) (cwV 3 hts (gd_V hgd m1859 m1861 m96 m131 m1862) rfl rfl rfl (by decide +kernel) ⟨Nat.le_of_ble_eq_true rfl, Nat.le_of_ble_eq_true rfl⟩) (pre_V hW hB_G_410 hK hZ hS kd_66 rfl) rfl rfl hl.1 rfl (lv_room (Nat.le_of_ble_eq_true rfl)) dX12_layNeed_153 ⟨Nat.le_of_ble_eq_true rfl, Nat.le_of_ble_eq_true rfl⟩) hS (fun r_420 G_421 H locs hpo hW hS => ?_)
                  obtain ⟨hB_G_421, hq_422, f_424, hp_423⟩ := hpo
                  have hF := hF.call hq_422 (by decide) (by decide)
                  have u_425 := trI_v x_335.toInt (G.1 66 62).toInt
                  have hm2_ : r_420.toInt = ndv (G_331.1 99) (p0.toInt + x_335.toInt) (trI x_335.toInt (G.1 66 62).toInt) 2 := hp_423.trans (ndv_eq (show G_410.1 99 = G_331.1 99 from (funext fun j => ((fun (j : Nat) (_ : True) => (hq_411.ri 99 (by decide) (by decide) j))) j trivial)) (by omega) (by omega))
                  refine lv_iadd hx hb dX12_layNeed_156 ?_
                  refine lv_topi (fun y_426 ey_426 => ?_)
                  have ty_426 : y_426.toInt = 1 + r_420.toInt := xI_add rfl rfl ey_426 (by omega) (by omega)
                  refine S_calli (va_runS (As := [.int y_416, .int y_426]) (rest := [.int y_414, .ref (a 99)]) ⟨hx, hb, hml, hown, hts⟩ (n_lesser l D k A a z G_421 y_416 y_426 ) (va_cwS 2 hts (gd_S hgd m1863 m1864 m131 m1865) rfl rfl rfl (by decide +kernel) ⟨Nat.le_of_ble_eq_true rfl, Nat.le_of_ble_eq_true rfl⟩) (pre_S hW hB_G_421 hK hZ hS) rfl rfl hl.1 rfl (lv_room (Nat.le_of_ble_eq_true rfl)) dX12_layNeed_157 ⟨Nat.le_of_ble_eq_true rfl, Nat.le_of_ble_eq_true rfl⟩) hS (fun r_427 G_428 H locs hpo hW hS => ?_)
                  obtain ⟨hB_G_428, hq_429, hp_430⟩ := hpo
                  have hF := hF.call hq_429 (by decide) (by decide)
                  refine S_iast hx hb hK hW hS kd_99 (vin (by omega) (by omega)) dX12_layNeed_160 (fun G_431 H locs eG_431 hW hS => ?_)
                  have hB_G_431 : Bd G_431 := hB_G_428.put (V := r_427.toInt) (lo := 0) (hi := 100000) eG_431 rfl rfl rfl (by omega) (by omega) (hB_G_428.2.put eG_431 rfl)
                  have hF := hF.put eG_431 (Or.inl (by decide))
                  refine lv_aload_n hx hb dX12_layNeed_161 rfl (lv_at hl 3 rfl) ?_
                  refine S_getR (n := 99) (C := RX12) (T := TX12) (N := 89) hx hb hg iX12 hown hK hW kd_66 rfl 64 (by decide) (hg (Cond.fieldLink RX12 118 "SlabWalkModel" "need" "[I") m1378) (fun _ h9 => h9) rfl dX12_layNeed_162 ?_
                  refine lv_iload_n hx hb dX12_layNeed_165 rfl (lv_at hl 2 rfl) ?_
                  refine lv_iconst (v := 2) hx hb dX12_layNeed_166 (by decide) ?_
                  refine lv_iadd hx hb dX12_layNeed_167 ?_
                  refine lv_topi (fun y_432 ey_432 => ?_)
                  have ty_432 : y_432.toInt = y_3.toInt + 2 := xI_add rfl rfl ey_432 (by omega) (by omega)
                  refine lv_aload_n hx hb dX12_layNeed_168 rfl (lv_at hl 3 rfl) ?_
                  refine S_getR (n := 99) (C := RX12) (T := TX12) (N := 89) hx hb hg iX12 hown hK hW kd_66 rfl 64 (by decide) (hg (Cond.fieldLink RX12 118 "SlabWalkModel" "need" "[I") m1378) (fun _ h9 => h9) rfl dX12_layNeed_169 ?_
                  refine lv_iload_n hx hb dX12_layNeed_172 rfl (lv_at hl 2 rfl) ?_
                  refine lv_iconst (v := 2) hx hb dX12_layNeed_173 (by decide) ?_
                  refine lv_iadd hx hb dX12_layNeed_174 ?_
                  refine lv_topi (fun y_433 ey_433 => ?_)
                  have ty_433 : y_433.toInt = y_3.toInt + 2 := xI_add rfl rfl ey_433 (by omega) (by omega)
                  refine S_iald hx hb hK hW kd_99 (vin (by omega) (by omega)) dX12_layNeed_175 (fun y_434 ey_434 => ?_)
                  have ty_434 : 0 ≤ y_434.toInt ∧ y_434.toInt ≤ 100000 := hB_G_431.v ey_434 rfl rfl
                  have u_435 : y_434.toInt = (G_431.1 99 y_433.toNatClampNeg).toInt := congrArg Int32.toInt (ey_434)
                  have hn2_ : y_434.toInt = ndv (G_431.1 99) p0.toInt p1.toInt 2 := (ndv_at (f := G_431.1 99) (x := y_433) (by omega) (congrArg Int32.toInt ey_434)).trans (ndv_eq (show G_431.1 99 = G_431.1 99 from (funext fun j => ((fun (j : Nat) (_ : True) => rfl)) j trivial)) rfl rfl)
                  refine lv_iconst (v := 1) hx hb dX12_layNeed_176 (by decide) ?_
                  refine lv_aload_n hx hb dX12_layNeed_177 rfl (lv_at hl 3 rfl) ?_
                  refine lv_iload_n hx hb dX12_layNeed_178 rfl (lv_at hl 4 rfl) ?_
                  refine lv_iload hx hb dX12_layNeed_179 (lv_at hl 1 rfl) ?_
                  refine lv_iadd hx hb dX12_layNeed_181 ?_
                  refine lv_topi (fun y_436 ey_436 => ?_)
                  have ty_436 : y_436.toInt = p0.toInt + x_335.toInt := xI_add rfl rfl ey_436 (by omega) (by omega)
                  refine lv_iload hx hb dX12_layNeed_182 (lv_at hl 0 rfl) ?_
                  refine lv_iconst (v := 1) hx hb dX12_layNeed_184 (by decide) ?_
                  have qc_437 : (1 : Int32).toInt = 1 := rfl
                  refine S_calli (va_runV (As := [.int y_436, .int r_409, .int 1]) (rest := [.int 1, .int y_434, .int y_432, .ref (a 99)]) ⟨hx, hb, hml, hown, hts⟩ (n_needOf l D k A a z G_431 y_436 r_409 1 ⟨by omega, by omega⟩ ⟨by omega, by omega⟩ ⟨by decide, by decide⟩) (cwV 3 hts (gd_V hgd m1859 m1861 m96 m131 m1862) rfl rfl rfl (by decide +kernel) ⟨Nat.le_of_ble_eq_true rfl, Nat.le_of_ble_eq_true rfl⟩) (pre_V hW hB_G_431 hK hZ hS kd_66 rfl) rfl rfl hl.1 rfl (lv_room (Nat.le_of_ble_eq_true rfl)) dX12_layNeed_185 ⟨Nat.le_of_ble_eq_true rfl, Nat.le_of_ble_eq_true rfl⟩) hS (fun r_438 G_439 H locs hpo hW hS => ?_)
                  obtain ⟨hB_G_439, hq_440, f_442, hp_441⟩ := hpo
                  have hF := hF.call hq_440 (by decide) (by decide)
                  have u_443 := trI_v x_335.toInt (G.1 66 62).toInt
                  have hm1_ : r_438.toInt = ndv (G_431.1 99) (p0.toInt + x_335.toInt) (trI x_335.toInt (G.1 66 62).toInt) 1 := hp_441.trans (ndv_eq (show G_431.1 99 = G_431.1 99 from (funext fun j => ((fun (j : Nat) (_ : True) => rfl)) j trivial)) (by omega) (by omega))
                  refine lv_iadd hx hb dX12_layNeed_188 ?_
                  refine lv_topi (fun y_444 ey_444 => ?_)
                  have ty_444 : y_444.toInt = 1 + r_438.toInt := xI_add rfl rfl ey_444 (by omega) (by omega)
                  refine S_calli (va_runS (As := [.int y_434, .int y_444]) (rest := [.int y_432, .ref (a 99)]) ⟨hx, hb, hml, hown, hts⟩ (n_lesser l D k A a z G_439 y_434 y_444 ) (va_cwS 2 hts (gd_S hgd m1863 m1864 m131 m1865) rfl rfl rfl (by decide +kernel) ⟨Nat.le_of_ble_eq_true rfl, Nat.le_of_ble_eq_true rfl⟩) (pre_S hW hB_G_439 hK hZ hS) rfl rfl hl.1 rfl (lv_room (Nat.le_of_ble_eq_true rfl)) dX12_layNeed_189 ⟨Nat.le_of_ble_eq_true rfl, Nat.le_of_ble_eq_true rfl⟩) hS (fun r_445 G_446 H locs hpo hW hS => ?_)
                  obtain ⟨hB_G_446, hq_447, hp_448⟩ := hpo
                  have hF := hF.call hq_447 (by decide) (by decide)
                  refine S_iast hx hb hK hW hS kd_99 (vin (by omega) (by omega)) dX12_layNeed_192 (fun G_449 H locs eG_449 hW hS => ?_)
                  have hB_G_449 : Bd G_449 := hB_G_446.put (V := r_445.toInt) (lo := 0) (hi := 100000) eG_449 rfl rfl rfl (by omega) (by omega) (hB_G_446.2.put eG_449 rfl)
                  have hF := hF.put eG_449 (Or.inl (by decide))
                  have hpa_ : PR (G_428.1 99) (G.1 98) (G.1 66 61).toInt (G.1 66 62).toInt (G.1 66 63).toInt (p0.toInt) (p1.toInt) := by rw [show G_428.1 99 = G_331.1 99 from (funext fun j => ((fun (j : Nat) (_ : True) => ((hq_429.ri 99 (by decide) (by decide) j).trans ((hq_422.ri 99 (by decide) (by decide) j).trans (hq_411.ri 99 (by decide) (by decide) j))))) j trivial)]; exact (show PR (G_331.1 99) (G.1 98) (G.1 66 61).toInt (G.1 66 62).toInt (G.1 66 63).toInt (p0.toInt) (p1.toInt) by assumption)
                  have hpb_ : PR (G_431.1 99) (G.1 98) (G.1 66 61).toInt (G.1 66 62).toInt (G.1 66 63).toInt (p0.toInt) (p1.toInt) := PR_put (i := 1) eG_431 (by omega) (by omega) (by omega) (by omega) hle1 hpa_
                  have hpc_ : PR (G_446.1 99) (G.1 98) (G.1 66 61).toInt (G.1 66 62).toInt (G.1 66 63).toInt (p0.toInt) (p1.toInt) := by rw [show G_446.1 99 = G_431.1 99 from (funext fun j => ((fun (j : Nat) (_ : True) => ((hq_447.ri 99 (by decide) (by decide) j).trans (hq_440.ri 99 (by decide) (by decide) j)))) j trivial)]; exact hpb_
                  have hpN_ : PR (G_449.1 99) (G.1 98) (G.1 66 61).toInt (G.1 66 62).toInt (G.1 66 63).toInt (p0.toInt) (p1.toInt) := PR_put (i := 2) eG_449 (by omega) (by omega) (by omega) (by omega) hle1 hpc_
                  have hja_ : NJ (G_428.1 99) (G.1 98) (G.1 66 61).toInt (G.1 66 62).toInt p0.toInt p1.toInt (x_335.toInt) := by rw [show G_428.1 99 = G_331.1 99 from (funext fun j => ((fun (j : Nat) (_ : True) => ((hq_429.ri 99 (by decide) (by decide) j).trans ((hq_422.ri 99 (by decide) (by decide) j).trans (hq_411.ri 99 (by decide) (by decide) j))))) j trivial)]; exact (show NJ (G_331.1 99) (G.1 98) (G.1 66 61).toInt (G.1 66 62).toInt p0.toInt p1.toInt (x_335.toInt) by assumption)
                  have hnN_ : NJ (G_449.1 99) (G.1 98) (G.1 66 61).toInt (G.1 66 62).toInt p0.toInt p1.toInt (x_335.toInt + 1) := NJ_step_ hja_ eG_431 (by omega) (show G_446.1 99 = G_431.1 99 from (funext fun j => ((fun (j : Nat) (_ : True) => ((hq_447.ri 99 (by decide) (by decide) j).trans (hq_440.ri 99 (by decide) (by decide) j)))) j trivial)) eG_449 (by omega) (by omega) (by omega) hle1 (by omega) ((lw_iff (x := y_356) (y := y_357) (by omega) (by omega)).mpr (by omega)) (hn1_.trans (by rw [show G_428.1 99 = G_331.1 99 from (funext fun j => ((fun (j : Nat) (_ : True) => ((hq_429.ri 99 (by decide) (by decide) j).trans ((hq_422.ri 99 (by decide) (by decide) j).trans (hq_411.ri 99 (by decide) (by decide) j))))) j trivial)])) hn2_ (hm2_.trans (by rw [show G_428.1 99 = G_331.1 99 from (funext fun j => ((fun (j : Nat) (_ : True) => ((hq_429.ri 99 (by decide) (by decide) j).trans ((hq_422.ri 99 (by decide) (by decide) j).trans (hq_411.ri 99 (by decide) (by decide) j))))) j trivial)])) hm1_ (by omega) (by omega) (by omega) (by omega) (by omega) (by omega)
                  obtain ⟨y_450, ey_450⟩ : ∃ q, q = x_335 + 1 := ⟨_, rfl⟩
                  have ty_450 : y_450.toInt = x_335.toInt + 1 := xI_add rfl rfl ey_450 (by omega) (by omega)
                  refine lv_iinc (v := y_450) (lv' := [(4, .int y_450), (5, .int r_409), (3, .int y_3), (0, .ref (a 66)), (1, .int p0), (2, .int p1)]) hx hb dX12_layNeed_193 hl (k := 1) rfl (by rw [ey_450]; rfl) (by decide) rfl (fun ls hl => ?_)
                  have hj_451 : NJ (G_449.1 99) (G.1 98) (G.1 66 61).toInt (G.1 66 62).toInt p0.toInt p1.toInt (y_450.toInt) := by rw [ty_450]; exact hnN_
                  refine lv_goto (tgt := 74) hx hb dX12_layNeed_196 (by decide) ?_
                  exact ih_333 (100 - y_450.toInt : Int).toNat (by omega) _ _ _ ⟨G_449, y_450, (Int.toNat_of_nonneg (by omega)), ⟨by omega, by omega⟩, (by assumption), (by assumption), (by omega), (by omega), hW, hB_G_449, hF, ((((((((Fr.rf.call hq_332 (by decide) (by decide)).call hq_411 (by decide) (by decide)).call hq_422 (by decide) (by decide)).call hq_429 (by decide) (by decide)).put eG_431 (Or.inl (by decide))).call hq_440 (by decide) (by decide)).call hq_447 (by decide) (by decide)).put eG_449 (Or.inl (by decide))), hS, lv_sub hl [0, 2, 3, 4, 5] rfl⟩
              · have c_362 : y_357.toInt = 0 := xI_eq rfl rfl c_362
                refine lv_goto (tgt := 193) hx hb dX12_layNeed_107 (by decide) ?_
                have hpN_ : PR (G_331.1 99) (G.1 98) (G.1 66 61).toInt (G.1 66 62).toInt (G.1 66 63).toInt (p0.toInt) (p1.toInt) := by rw [show G_331.1 99 = G_331.1 99 from (funext fun j => ((fun (j : Nat) (_ : True) => rfl)) j trivial)]; exact (show PR (G_331.1 99) (G.1 98) (G.1 66 61).toInt (G.1 66 62).toInt (G.1 66 63).toInt (p0.toInt) (p1.toInt) by assumption)
                have hnN_ : NJ (G_331.1 99) (G.1 98) (G.1 66 61).toInt (G.1 66 62).toInt p0.toInt p1.toInt (x_335.toInt + 1) := by rw [show G_331.1 99 = G_331.1 99 from (funext fun j => ((fun (j : Nat) (_ : True) => rfl)) j trivial)]; exact (NJ_skip (show NJ (G_331.1 99) (G.1 98) (G.1 66 61).toInt (G.1 66 62).toInt p0.toInt p1.toInt (x_335.toInt) by assumption) (fun q => by have q := (lw_iff (x := y_356) (y := y_357) (by omega) (by omega)).mp q; omega))
                obtain ⟨y_452, ey_452⟩ : ∃ q, q = x_335 + 1 := ⟨_, rfl⟩
                have ty_452 : y_452.toInt = x_335.toInt + 1 := xI_add rfl rfl ey_452 (by omega) (by omega)
                refine lv_iinc (v := y_452) (lv' := [(4, .int y_452), (3, .int y_3), (0, .ref (a 66)), (1, .int p0), (2, .int p1)]) hx hb dX12_layNeed_193 hl (k := 0) rfl (by rw [ey_452]; rfl) (by decide) rfl (fun ls hl => ?_)
                have hj_453 : NJ (G_331.1 99) (G.1 98) (G.1 66 61).toInt (G.1 66 62).toInt p0.toInt p1.toInt (y_452.toInt) := by rw [ty_452]; exact hnN_
                refine lv_goto (tgt := 74) hx hb dX12_layNeed_196 (by decide) ?_
                exact ih_333 (100 - y_452.toInt : Int).toNat (by omega) _ _ _ ⟨G_331, y_452, (Int.toNat_of_nonneg (by omega)), ⟨by omega, by omega⟩, (by assumption), (by assumption), (by omega), (by omega), hW, hB_G_331, hF, (Fr.rf.call hq_332 (by decide) (by decide)), hS, lv_sub hl [0, 1, 2, 3, 4] rfl⟩
          · have c_342 : p1.toInt = 1 := xI_eq rfl rfl c_342
            refine lv_aload_n hx hb dX12_layNeed_81 rfl (lv_at hl 2 rfl) ?_
            refine S_getI (v := (G.1 66 62)) (C := RX12) (T := TX12) (N := 89) hx hb hg iX12 hown hK hW kd_66 rfl 62 (by decide) (hg (Cond.fieldLink RX12 478 "SlabWalkModel" "most" "I") m1376) (fun _ h9 => h9) rfl ((hq_332.i 66 62 (by decide) (by decide)).trans ((hq_315.i 66 62 (by decide) (by decide)).trans ((gp_ne eG_291 (fun q => absurd q.1 (by decide))).trans ((gp_ne eG_289 (fun q => absurd q.1 (by decide))).trans ((hq_285.i 66 62 (by decide) (by decide)).trans (rfl)))))) dX12_layNeed_82 ?_
            refine lv_goto (tgt := 92) hx hb dX12_layNeed_85 (by decide) ?_
            refine lv_icmp_gt (tgt := 199) hx hb dX12_layNeed_92 (by decide) (fun c_454 => ?_) (fun c_454 => ?_)
            · have c_454 : (G.1 66 62).toInt < x_335.toInt := xI_lt rfl rfl c_454
              have hpF_ : PR (G_331.1 99) (G.1 98) (G.1 66 61).toInt (G.1 66 62).toInt (G.1 66 63).toInt (p0.toInt) (p1.toInt) := by rw [show G_331.1 99 = G_331.1 99 from (funext fun j => ((fun (j : Nat) (_ : True) => rfl)) j trivial)]; exact (show PR (G_331.1 99) (G.1 98) (G.1 66 61).toInt (G.1 66 62).toInt (G.1 66 63).toInt (p0.toInt) (p1.toInt) by assumption)
              have hjF_ : NJ (G_331.1 99) (G.1 98) (G.1 66 61).toInt (G.1 66 62).toInt p0.toInt p1.toInt (x_335.toInt) := by rw [show G_331.1 99 = G_331.1 99 from (funext fun j => ((fun (j : Nat) (_ : True) => rfl)) j trivial)]; exact (show NJ (G_331.1 99) (G.1 98) (G.1 66 61).toInt (G.1 66 62).toInt p0.toInt p1.toInt (x_335.toInt) by assumption)
              refine lv_aload_n hx hb dX12_layNeed_199 rfl (lv_at hl 2 rfl) ?_
              refine S_getR (n := 99) (C := RX12) (T := TX12) (N := 89) hx hb hg iX12 hown hK hW kd_66 rfl 64 (by decide) (hg (Cond.fieldLink RX12 118 "SlabWalkModel" "need" "[I") m1378) (fun _ h9 => h9) rfl dX12_layNeed_200 ?_
              refine lv_iload_n hx hb dX12_layNeed_203 rfl (lv_at hl 1 rfl) ?_
              refine lv_aload_n hx hb dX12_layNeed_204 rfl (lv_at hl 2 rfl) ?_
              refine S_getR (n := 99) (C := RX12) (T := TX12) (N := 89) hx hb hg iX12 hown hK hW kd_66 rfl 64 (by decide) (hg (Cond.fieldLink RX12 118 "SlabWalkModel" "need" "[I") m1378) (fun _ h9 => h9) rfl dX12_layNeed_205 ?_
              refine lv_iload_n hx hb dX12_layNeed_208 rfl (lv_at hl 1 rfl) ?_
              refine lv_iconst (v := 1) hx hb dX12_layNeed_209 (by decide) ?_
              refine lv_iadd hx hb dX12_layNeed_210 ?_
              refine lv_topi (fun y_455 ey_455 => ?_)
              have ty_455 : y_455.toInt = y_3.toInt + 1 := xI_add rfl rfl ey_455 (by omega) (by omega)
              refine S_iald hx hb hK hW kd_99 (vin (by omega) (by omega)) dX12_layNeed_211 (fun y_456 ey_456 => ?_)
              have ty_456 : 0 ≤ y_456.toInt ∧ y_456.toInt ≤ 100000 := hB_G_331.v ey_456 rfl rfl
              have u_457 : y_456.toInt = (G_331.1 99 y_455.toNatClampNeg).toInt := congrArg Int32.toInt (ey_456)
              have hn1_ : y_456.toInt = ndv (G_331.1 99) p0.toInt p1.toInt 1 := (ndv_at (f := G_331.1 99) (x := y_455) (by omega) (congrArg Int32.toInt ey_456)).trans (ndv_eq (show G_331.1 99 = G_331.1 99 from (funext fun j => ((fun (j : Nat) (_ : True) => rfl)) j trivial)) rfl rfl)
              refine lv_aload_n hx hb dX12_layNeed_212 rfl (lv_at hl 2 rfl) ?_
              refine S_getR (n := 99) (C := RX12) (T := TX12) (N := 89) hx hb hg iX12 hown hK hW kd_66 rfl 64 (by decide) (hg (Cond.fieldLink RX12 118 "SlabWalkModel" "need" "[I") m1378) (fun _ h9 => h9) rfl dX12_layNeed_213 ?_
              refine lv_iload_n hx hb dX12_layNeed_216 rfl (lv_at hl 1 rfl) ?_
              refine lv_iconst (v := 2) hx hb dX12_layNeed_217 (by decide) ?_
              refine lv_iadd hx hb dX12_layNeed_218 ?_
              refine lv_topi (fun y_458 ey_458 => ?_)
              have ty_458 : y_458.toInt = y_3.toInt + 2 := xI_add rfl rfl ey_458 (by omega) (by omega)
              refine S_iald hx hb hK hW kd_99 (vin (by omega) (by omega)) dX12_layNeed_219 (fun y_459 ey_459 => ?_)
              have ty_459 : 0 ≤ y_459.toInt ∧ y_459.toInt ≤ 100000 := hB_G_331.v ey_459 rfl rfl
              have u_460 : y_459.toInt = (G_331.1 99 y_458.toNatClampNeg).toInt := congrArg Int32.toInt (ey_459)
              have hn2_ : y_459.toInt = ndv (G_331.1 99) p0.toInt p1.toInt 2 := (ndv_at (f := G_331.1 99) (x := y_458) (by omega) (congrArg Int32.toInt ey_459)).trans (ndv_eq (show G_331.1 99 = G_331.1 99 from (funext fun j => ((fun (j : Nat) (_ : True) => rfl)) j trivial)) rfl rfl)
              refine S_calli (va_runS (As := [.int y_456, .int y_459]) (rest := [.int y_3, .ref (a 99)]) ⟨hx, hb, hml, hown, hts⟩ (n_lesser l D k A a z G_331 y_456 y_459 ) (va_cwS 2 hts (gd_S hgd m1863 m1864 m131 m1865) rfl rfl rfl (by decide +kernel) ⟨Nat.le_of_ble_eq_true rfl, Nat.le_of_ble_eq_true rfl⟩) (pre_S hW hB_G_331 hK hZ hS) rfl rfl hl.1 rfl (lv_room (Nat.le_of_ble_eq_true rfl)) dX12_layNeed_220 ⟨Nat.le_of_ble_eq_true rfl, Nat.le_of_ble_eq_true rfl⟩) hS (fun r_461 G_462 H locs hpo hW hS => ?_)
              obtain ⟨hB_G_462, hq_463, hp_464⟩ := hpo
              have hF := hF.call hq_463 (by decide) (by decide)
              refine S_iast hx hb hK hW hS kd_99 (vin (by omega) (by omega)) dX12_layNeed_223 (fun G_465 H locs eG_465 hW hS => ?_)
              have hB_G_465 : Bd G_465 := hB_G_462.put (V := r_461.toInt) (lo := 0) (hi := 100000) eG_465 rfl rfl rfl (by omega) (by omega) (hB_G_462.2.put eG_465 rfl)
              have hF := hF.put eG_465 (Or.inl (by decide))
              have hpL_ : PR (G_462.1 99) (G.1 98) (G.1 66 61).toInt (G.1 66 62).toInt (G.1 66 63).toInt (p0.toInt) (p1.toInt) := by rw [show G_462.1 99 = G_331.1 99 from (funext fun j => ((fun (j : Nat) (_ : True) => (hq_463.ri 99 (by decide) (by decide) j))) j trivial)]; exact hpF_
              have hfL_ : ((ndv (G_462.1 99) p0.toInt p1.toInt 1 = 1 ∨ ndv (G_462.1 99) p0.toInt p1.toInt 1 = 100000) ∧ ndv (G_462.1 99) p0.toInt p1.toInt 2 = 100000) ∨ ∃ u, NJ (G_462.1 99) (G.1 98) (G.1 66 61).toInt (G.1 66 62).toInt p0.toInt p1.toInt u ∧ u ≤ (G.1 66 63).toInt + 1 := by rw [show G_462.1 99 = G_331.1 99 from (funext fun j => ((fun (j : Nat) (_ : True) => (hq_463.ri 99 (by decide) (by decide) j))) j trivial)]; exact Or.inr ⟨_, hjF_, by omega⟩
              have hr1_ := hn1_.trans (show ndv (G_331.1 99) p0.toInt p1.toInt 1 = ndv (G_462.1 99) p0.toInt p1.toInt 1 by rw [show G_462.1 99 = G_331.1 99 from (funext fun j => ((fun (j : Nat) (_ : True) => (hq_463.ri 99 (by decide) (by decide) j))) j trivial)])
              have hr2_ := hn2_.trans (show ndv (G_331.1 99) p0.toInt p1.toInt 2 = ndv (G_462.1 99) p0.toInt p1.toInt 2 by rw [show G_462.1 99 = G_331.1 99 from (funext fun j => ((fun (j : Nat) (_ : True) => (hq_463.ri 99 (by decide) (by decide) j))) j trivial)])
              have hEnd_ : PR (G_465.1 99) (G.1 98) (G.1 66 61).toInt (G.1 66 62).toInt (G.1 66 63).toInt (p0.toInt) (p1.toInt + 1) := PR_next eG_465 (by omega) (by omega) (by omega) hle1 hpL_ (lw400 hB_G h400) (by omega) (by omega) (by omega) hfL_
              have hPG_ : PRG G_465 p0.toInt (p1.toInt + 1) := PRG_of hF (by decide) (by decide) hEnd_
              exact W.vret hx hb hr (fun t ht _ => ⟨⟨G_465, rfl, ⟨hB_G_465, hF, (hPG_)⟩, wd_t ht hW⟩, hS.F ht⟩) hS.2.2 dX12_layNeed_224
            · have c_454 : x_335.toInt ≤ (G.1 66 62).toInt := xI_nlt rfl rfl c_454
              refine lv_aload_n hx hb dX12_layNeed_95 rfl (lv_at hl 2 rfl) ?_
              refine S_getR (n := 98) (C := RX12) (T := TX12) (N := 89) hx hb hg iX12 hown hK hW kd_66 rfl 58 (by decide) (hg (Cond.fieldLink RX12 115 "SlabWalkModel" "lawful" "[Z") m1372) (fun _ h9 => h9) rfl dX12_layNeed_96 ?_
              refine lv_iload_n hx hb dX12_layNeed_99 rfl (lv_at hl 3 rfl) ?_
              refine lv_iload hx hb dX12_layNeed_100 (lv_at hl 0 rfl) ?_
              refine lv_iadd hx hb dX12_layNeed_102 ?_
              refine lv_topi (fun y_466 ey_466 => ?_)
              have ty_466 : y_466.toInt = p0.toInt + x_335.toInt := xI_add rfl rfl ey_466 (by omega) (by omega)
              refine S_zald hx hb hK hW kd_98 (vin (by omega) (by omega)) dX12_layNeed_103 (fun y_467 ey_467 => ?_)
              have ty_467 := hB_G_331.law ey_467
              have u_468 : y_467.toInt = (G.1 98 y_466.toNatClampNeg).toInt := congrArg Int32.toInt (ey_467.trans (((hq_332.ri 98 (by decide) (by decide) y_466.toNatClampNeg).trans ((hq_315.ri 98 (by decide) (by decide) y_466.toNatClampNeg).trans ((gp_ne eG_291 (fun q => absurd q.1 (by decide))).trans ((gp_ne eG_289 (fun q => absurd q.1 (by decide))).trans (hq_285.ri 98 (by decide) (by decide) y_466.toNatClampNeg)))))))
              have b_469 : 0 ≤ (G.1 98 400).toInt ∧ (G.1 98 400).toInt ≤ 1 := hB_G.i 98 400 rfl rfl
              have g_470 : (G_331.1 98 400).toInt = (G.1 98 400).toInt := by rw [show G_331.1 98 400 = (G.1 98 400) from ((hq_332.i 98 400 (by decide) (by decide)).trans ((hq_315.i 98 400 (by decide) (by decide)).trans ((gp_ne eG_291 (fun q => absurd q.1 (by decide))).trans ((gp_ne eG_289 (fun q => absurd q.1 (by decide))).trans (hq_285.i 98 400 (by decide) (by decide))))))]
              have u_471 := law4 (G := G_331) (by omega) ey_467
              refine lv_if_ne (tgt := 110) hx hb dX12_layNeed_104 (by decide) (fun c_472 => ?_) (fun c_472 => ?_)
              · have c_472 : y_467.toInt ≠ 0 := xI_ne rfl rfl c_472
                refine lv_iload hx hb dX12_layNeed_110 (lv_at hl 0 rfl) ?_
                refine lv_aload_n hx hb dX12_layNeed_112 rfl (lv_at hl 2 rfl) ?_
                refine S_getI (v := (G.1 66 62)) (C := RX12) (T := TX12) (N := 89) hx hb hg iX12 hown hK hW kd_66 rfl 62 (by decide) (hg (Cond.fieldLink RX12 478 "SlabWalkModel" "most" "I") m1376) (fun _ h9 => h9) rfl ((hq_332.i 66 62 (by decide) (by decide)).trans ((hq_315.i 66 62 (by decide) (by decide)).trans ((gp_ne eG_291 (fun q => absurd q.1 (by decide))).trans ((gp_ne eG_289 (fun q => absurd q.1 (by decide))).trans ((hq_285.i 66 62 (by decide) (by decide)).trans (rfl)))))) dX12_layNeed_113 ?_
                refine lv_icmp_le (tgt := 123) hx hb dX12_layNeed_116 (by decide) (fun c_473 => ?_) (fun c_473 => ?_)
                · have c_473 : x_335.toInt ≤ (G.1 66 62).toInt := xI_le rfl rfl c_473
                  refine lv_iconst (v := 0) hx hb dX12_layNeed_123 (by decide) ?_
                  have qc_474 : (0 : Int32).toInt = 0 := rfl
                  refine S_calli (va_runS (As := [.int 0]) (rest := []) ⟨hx, hb, hml, hown, hts⟩ (n_truth l D k A a z G_331 0 ⟨by decide, by decide⟩) (va_cwS 1 hts (gd_S hgd m1788 m1789 m131 m1790) rfl rfl rfl (by decide +kernel) ⟨Nat.le_of_ble_eq_true rfl, Nat.le_of_ble_eq_true rfl⟩) (pre_S hW hB_G_331 hK hZ hS) rfl rfl hl.1 rfl (lv_room (Nat.le_of_ble_eq_true rfl)) dX12_layNeed_124 ⟨Nat.le_of_ble_eq_true rfl, Nat.le_of_ble_eq_true rfl⟩) hS (fun r_475 G_476 H locs hpo hW hS => ?_)
                  obtain ⟨hB_G_476, hq_477, f_479, hp_478, -⟩ := hpo
                  have hF := hF.call hq_477 (by decide) (by decide)
                  refine lv_istore (lv' := [(5, .int r_475), (4, .int x_335), (3, .int y_3), (0, .ref (a 66)), (1, .int p0), (2, .int p1)]) hx hb dX12_layNeed_127 hl (by decide) rfl (fun ls hl => ?_)
                  refine lv_aload_n hx hb dX12_layNeed_129 rfl (lv_at hl 3 rfl) ?_
                  refine S_getR (n := 99) (C := RX12) (T := TX12) (N := 89) hx hb hg iX12 hown hK hW kd_66 rfl 64 (by decide) (hg (Cond.fieldLink RX12 118 "SlabWalkModel" "need" "[I") m1378) (fun _ h9 => h9) rfl dX12_layNeed_130 ?_
                  refine lv_iload_n hx hb dX12_layNeed_133 rfl (lv_at hl 2 rfl) ?_
                  refine lv_iconst (v := 1) hx hb dX12_layNeed_134 (by decide) ?_
                  refine lv_iadd hx hb dX12_layNeed_135 ?_
                  refine lv_topi (fun y_480 ey_480 => ?_)
                  have ty_480 : y_480.toInt = y_3.toInt + 1 := xI_add rfl rfl ey_480 (by omega) (by omega)
                  refine lv_aload_n hx hb dX12_layNeed_136 rfl (lv_at hl 3 rfl) ?_
                  refine S_getR (n := 99) (C := RX12) (T := TX12) (N := 89) hx hb hg iX12 hown hK hW kd_66 rfl 64 (by decide) (hg (Cond.fieldLink RX12 118 "SlabWalkModel" "need" "[I") m1378) (fun _ h9 => h9) rfl dX12_layNeed_137 ?_
                  refine lv_iload_n hx hb dX12_layNeed_140 rfl (lv_at hl 2 rfl) ?_
                  refine lv_iconst (v := 1) hx hb dX12_layNeed_141 (by decide) ?_
                  refine lv_iadd hx hb dX12_layNeed_142 ?_
                  refine lv_topi (fun y_481 ey_481 => ?_)
                  have ty_481 : y_481.toInt = y_3.toInt + 1 := xI_add rfl rfl ey_481 (by omega) (by omega)
                  refine S_iald hx hb hK hW kd_99 (vin (by omega) (by omega)) dX12_layNeed_143 (fun y_482 ey_482 => ?_)
                  have ty_482 : 0 ≤ y_482.toInt ∧ y_482.toInt ≤ 100000 := hB_G_476.v ey_482 rfl rfl
                  have u_483 : y_482.toInt = (G_331.1 99 y_481.toNatClampNeg).toInt := congrArg Int32.toInt (ey_482.trans ((hq_477.ri 99 (by decide) (by decide) y_481.toNatClampNeg)))
                  have hn1_ : y_482.toInt = ndv (G_331.1 99) p0.toInt p1.toInt 1 := (ndv_at (f := G_476.1 99) (x := y_481) (by omega) (congrArg Int32.toInt ey_482)).trans (ndv_eq (show G_476.1 99 = G_331.1 99 from (funext fun j => ((fun (j : Nat) (_ : True) => (hq_477.ri 99 (by decide) (by decide) j))) j trivial)) rfl rfl)
                  refine lv_iconst (v := 1) hx hb dX12_layNeed_144 (by decide) ?_
                  refine lv_aload_n hx hb dX12_layNeed_145 rfl (lv_at hl 3 rfl) ?_
                  refine lv_iload_n hx hb dX12_layNeed_146 rfl (lv_at hl 4 rfl) ?_
                  refine lv_iload hx hb dX12_layNeed_147 (lv_at hl 1 rfl) ?_
                  refine lv_iadd hx hb dX12_layNeed_149 ?_
                  refine lv_topi (fun y_484 ey_484 => ?_)
                  have ty_484 : y_484.toInt = p0.toInt + x_335.toInt := xI_add rfl rfl ey_484 (by omega) (by omega)
                  refine lv_iload hx hb dX12_layNeed_150 (lv_at hl 0 rfl) ?_
                  refine lv_iconst (v := 2) hx hb dX12_layNeed_152 (by decide) ?_
                  have qc_485 : (2 : Int32).toInt = 2 := rfl
                  refine S_calli (va_runV (As := [.int y_484, .int r_475, .int 2]) (rest := [.int 1, .int y_482, .int y_480, .ref (a 99)]) ⟨hx, hb, hml, hown, hts⟩ (n_needOf l D k A a z G_476 y_484 r_475 2 ⟨by omega, by omega⟩ ⟨by omega, by omega⟩ ⟨by decide, by decide⟩) (cwV 3 hts (gd_V hgd m1859 m1861 m96 m131 m1862) rfl rfl rfl (by decide +kernel) ⟨Nat.le_of_ble_eq_true rfl, Nat.le_of_ble_eq_true rfl⟩) (pre_V hW hB_G_476 hK hZ hS kd_66 rfl) rfl rfl hl.1 rfl (lv_room (Nat.le_of_ble_eq_true rfl)) dX12_layNeed_153 ⟨Nat.le_of_ble_eq_true rfl, Nat.le_of_ble_eq_true rfl⟩) hS (fun r_486 G_487 H locs hpo hW hS => ?_)
                  obtain ⟨hB_G_487, hq_488, f_490, hp_489⟩ := hpo
                  have hF := hF.call hq_488 (by decide) (by decide)
                  have u_491 := trI_v x_335.toInt (G.1 66 62).toInt
                  have hm2_ : r_486.toInt = ndv (G_331.1 99) (p0.toInt + x_335.toInt) (trI x_335.toInt (G.1 66 62).toInt) 2 := hp_489.trans (ndv_eq (show G_476.1 99 = G_331.1 99 from (funext fun j => ((fun (j : Nat) (_ : True) => (hq_477.ri 99 (by decide) (by decide) j))) j trivial)) (by omega) (by omega))
                  refine lv_iadd hx hb dX12_layNeed_156 ?_
                  refine lv_topi (fun y_492 ey_492 => ?_)
                  have ty_492 : y_492.toInt = 1 + r_486.toInt := xI_add rfl rfl ey_492 (by omega) (by omega)
                  refine S_calli (va_runS (As := [.int y_482, .int y_492]) (rest := [.int y_480, .ref (a 99)]) ⟨hx, hb, hml, hown, hts⟩ (n_lesser l D k A a z G_487 y_482 y_492 ) (va_cwS 2 hts (gd_S hgd m1863 m1864 m131 m1865) rfl rfl rfl (by decide +kernel) ⟨Nat.le_of_ble_eq_true rfl, Nat.le_of_ble_eq_true rfl⟩) (pre_S hW hB_G_487 hK hZ hS) rfl rfl hl.1 rfl (lv_room (Nat.le_of_ble_eq_true rfl)) dX12_layNeed_157 ⟨Nat.le_of_ble_eq_true rfl, Nat.le_of_ble_eq_true rfl⟩) hS (fun r_493 G_494 H locs hpo hW hS => ?_)
                  obtain ⟨hB_G_494, hq_495, hp_496⟩ := hpo
                  have hF := hF.call hq_495 (by decide) (by decide)
                  refine S_iast hx hb hK hW hS kd_99 (vin (by omega) (by omega)) dX12_layNeed_160 (fun G_497 H locs eG_497 hW hS => ?_)
                  have hB_G_497 : Bd G_497 := hB_G_494.put (V := r_493.toInt) (lo := 0) (hi := 100000) eG_497 rfl rfl rfl (by omega) (by omega) (hB_G_494.2.put eG_497 rfl)
                  have hF := hF.put eG_497 (Or.inl (by decide))
                  refine lv_aload_n hx hb dX12_layNeed_161 rfl (lv_at hl 3 rfl) ?_
                  refine S_getR (n := 99) (C := RX12) (T := TX12) (N := 89) hx hb hg iX12 hown hK hW kd_66 rfl 64 (by decide) (hg (Cond.fieldLink RX12 118 "SlabWalkModel" "need" "[I") m1378) (fun _ h9 => h9) rfl dX12_layNeed_162 ?_
                  refine lv_iload_n hx hb dX12_layNeed_165 rfl (lv_at hl 2 rfl) ?_
                  refine lv_iconst (v := 2) hx hb dX12_layNeed_166 (by decide) ?_
                  refine lv_iadd hx hb dX12_layNeed_167 ?_
                  refine lv_topi (fun y_498 ey_498 => ?_)
                  have ty_498 : y_498.toInt = y_3.toInt + 2 := xI_add rfl rfl ey_498 (by omega) (by omega)
                  refine lv_aload_n hx hb dX12_layNeed_168 rfl (lv_at hl 3 rfl) ?_
                  refine S_getR (n := 99) (C := RX12) (T := TX12) (N := 89) hx hb hg iX12 hown hK hW kd_66 rfl 64 (by decide) (hg (Cond.fieldLink RX12 118 "SlabWalkModel" "need" "[I") m1378) (fun _ h9 => h9) rfl dX12_layNeed_169 ?_
                  refine lv_iload_n hx hb dX12_layNeed_172 rfl (lv_at hl 2 rfl) ?_
                  refine lv_iconst (v := 2) hx hb dX12_layNeed_173 (by decide) ?_
                  refine lv_iadd hx hb dX12_layNeed_174 ?_
                  refine lv_topi (fun y_499 ey_499 => ?_)
                  have ty_499 : y_499.toInt = y_3.toInt + 2 := xI_add rfl rfl ey_499 (by omega) (by omega)
                  refine S_iald hx hb hK hW kd_99 (vin (by omega) (by omega)) dX12_layNeed_175 (fun y_500 ey_500 => ?_)
                  have ty_500 : 0 ≤ y_500.toInt ∧ y_500.toInt ≤ 100000 := hB_G_497.v ey_500 rfl rfl
                  have u_501 : y_500.toInt = (G_497.1 99 y_499.toNatClampNeg).toInt := congrArg Int32.toInt (ey_500)
                  have hn2_ : y_500.toInt = ndv (G_497.1 99) p0.toInt p1.toInt 2 := (ndv_at (f := G_497.1 99) (x := y_499) (by omega) (congrArg Int32.toInt ey_500)).trans (ndv_eq (show G_497.1 99 = G_497.1 99 from (funext fun j => ((fun (j : Nat) (_ : True) => rfl)) j trivial)) rfl rfl)
                  refine lv_iconst (v := 1) hx hb dX12_layNeed_176 (by decide) ?_
                  refine lv_aload_n hx hb dX12_layNeed_177 rfl (lv_at hl 3 rfl) ?_
                  refine lv_iload_n hx hb dX12_layNeed_178 rfl (lv_at hl 4 rfl) ?_
                  refine lv_iload hx hb dX12_layNeed_179 (lv_at hl 1 rfl) ?_
                  refine lv_iadd hx hb dX12_layNeed_181 ?_
                  refine lv_topi (fun y_502 ey_502 => ?_)
                  have ty_502 : y_502.toInt = p0.toInt + x_335.toInt := xI_add rfl rfl ey_502 (by omega) (by omega)
                  refine lv_iload hx hb dX12_layNeed_182 (lv_at hl 0 rfl) ?_
                  refine lv_iconst (v := 1) hx hb dX12_layNeed_184 (by decide) ?_
                  have qc_503 : (1 : Int32).toInt = 1 := rfl
                  refine S_calli (va_runV (As := [.int y_502, .int r_475, .int 1]) (rest := [.int 1, .int y_500, .int y_498, .ref (a 99)]) ⟨hx, hb, hml, hown, hts⟩ (n_needOf l D k A a z G_497 y_502 r_475 1 ⟨by omega, by omega⟩ ⟨by omega, by omega⟩ ⟨by decide, by decide⟩) (cwV 3 hts (gd_V hgd m1859 m1861 m96 m131 m1862) rfl rfl rfl (by decide +kernel) ⟨Nat.le_of_ble_eq_true rfl, Nat.le_of_ble_eq_true rfl⟩) (pre_V hW hB_G_497 hK hZ hS kd_66 rfl) rfl rfl hl.1 rfl (lv_room (Nat.le_of_ble_eq_true rfl)) dX12_layNeed_185 ⟨Nat.le_of_ble_eq_true rfl, Nat.le_of_ble_eq_true rfl⟩) hS (fun r_504 G_505 H locs hpo hW hS => ?_)
                  obtain ⟨hB_G_505, hq_506, f_508, hp_507⟩ := hpo
                  have hF := hF.call hq_506 (by decide) (by decide)
                  have u_509 := trI_v x_335.toInt (G.1 66 62).toInt
                  have hm1_ : r_504.toInt = ndv (G_497.1 99) (p0.toInt + x_335.toInt) (trI x_335.toInt (G.1 66 62).toInt) 1 := hp_507.trans (ndv_eq (show G_497.1 99 = G_497.1 99 from (funext fun j => ((fun (j : Nat) (_ : True) => rfl)) j trivial)) (by omega) (by omega))
                  refine lv_iadd hx hb dX12_layNeed_188 ?_
                  refine lv_topi (fun y_510 ey_510 => ?_)
                  have ty_510 : y_510.toInt = 1 + r_504.toInt := xI_add rfl rfl ey_510 (by omega) (by omega)
                  refine S_calli (va_runS (As := [.int y_500, .int y_510]) (rest := [.int y_498, .ref (a 99)]) ⟨hx, hb, hml, hown, hts⟩ (n_lesser l D k A a z G_505 y_500 y_510 ) (va_cwS 2 hts (gd_S hgd m1863 m1864 m131 m1865) rfl rfl rfl (by decide +kernel) ⟨Nat.le_of_ble_eq_true rfl, Nat.le_of_ble_eq_true rfl⟩) (pre_S hW hB_G_505 hK hZ hS) rfl rfl hl.1 rfl (lv_room (Nat.le_of_ble_eq_true rfl)) dX12_layNeed_189 ⟨Nat.le_of_ble_eq_true rfl, Nat.le_of_ble_eq_true rfl⟩) hS (fun r_511 G_512 H locs hpo hW hS => ?_)
                  obtain ⟨hB_G_512, hq_513, hp_514⟩ := hpo
                  have hF := hF.call hq_513 (by decide) (by decide)
                  refine S_iast hx hb hK hW hS kd_99 (vin (by omega) (by omega)) dX12_layNeed_192 (fun G_515 H locs eG_515 hW hS => ?_)
                  have hB_G_515 : Bd G_515 := hB_G_512.put (V := r_511.toInt) (lo := 0) (hi := 100000) eG_515 rfl rfl rfl (by omega) (by omega) (hB_G_512.2.put eG_515 rfl)
                  have hF := hF.put eG_515 (Or.inl (by decide))
                  have hpa_ : PR (G_494.1 99) (G.1 98) (G.1 66 61).toInt (G.1 66 62).toInt (G.1 66 63).toInt (p0.toInt) (p1.toInt) := by rw [show G_494.1 99 = G_331.1 99 from (funext fun j => ((fun (j : Nat) (_ : True) => ((hq_495.ri 99 (by decide) (by decide) j).trans ((hq_488.ri 99 (by decide) (by decide) j).trans (hq_477.ri 99 (by decide) (by decide) j))))) j trivial)]; exact (show PR (G_331.1 99) (G.1 98) (G.1 66 61).toInt (G.1 66 62).toInt (G.1 66 63).toInt (p0.toInt) (p1.toInt) by assumption)
                  have hpb_ : PR (G_497.1 99) (G.1 98) (G.1 66 61).toInt (G.1 66 62).toInt (G.1 66 63).toInt (p0.toInt) (p1.toInt) := PR_put (i := 1) eG_497 (by omega) (by omega) (by omega) (by omega) hle1 hpa_
                  have hpc_ : PR (G_512.1 99) (G.1 98) (G.1 66 61).toInt (G.1 66 62).toInt (G.1 66 63).toInt (p0.toInt) (p1.toInt) := by rw [show G_512.1 99 = G_497.1 99 from (funext fun j => ((fun (j : Nat) (_ : True) => ((hq_513.ri 99 (by decide) (by decide) j).trans (hq_506.ri 99 (by decide) (by decide) j)))) j trivial)]; exact hpb_
                  have hpN_ : PR (G_515.1 99) (G.1 98) (G.1 66 61).toInt (G.1 66 62).toInt (G.1 66 63).toInt (p0.toInt) (p1.toInt) := PR_put (i := 2) eG_515 (by omega) (by omega) (by omega) (by omega) hle1 hpc_
                  have hja_ : NJ (G_494.1 99) (G.1 98) (G.1 66 61).toInt (G.1 66 62).toInt p0.toInt p1.toInt (x_335.toInt) := by rw [show G_494.1 99 = G_331.1 99 from (funext fun j => ((fun (j : Nat) (_ : True) => ((hq_495.ri 99 (by decide) (by decide) j).trans ((hq_488.ri 99 (by decide) (by decide) j).trans (hq_477.ri 99 (by decide) (by decide) j))))) j trivial)]; exact (show NJ (G_331.1 99) (G.1 98) (G.1 66 61).toInt (G.1 66 62).toInt p0.toInt p1.toInt (x_335.toInt) by assumption)
                  have hnN_ : NJ (G_515.1 99) (G.1 98) (G.1 66 61).toInt (G.1 66 62).toInt p0.toInt p1.toInt (x_335.toInt + 1) := NJ_step_ hja_ eG_497 (by omega) (show G_512.1 99 = G_497.1 99 from (funext fun j => ((fun (j : Nat) (_ : True) => ((hq_513.ri 99 (by decide) (by decide) j).trans (hq_506.ri 99 (by decide) (by decide) j)))) j trivial)) eG_515 (by omega) (by omega) (by omega) hle1 (by omega) ((lw_iff (x := y_466) (y := y_467) (by omega) (by omega)).mpr (by omega)) (hn1_.trans (by rw [show G_494.1 99 = G_331.1 99 from (funext fun j => ((fun (j : Nat) (_ : True) => ((hq_495.ri 99 (by decide) (by decide) j).trans ((hq_488.ri 99 (by decide) (by decide) j).trans (hq_477.ri 99 (by decide) (by decide) j))))) j trivial)])) hn2_ (hm2_.trans (by rw [show G_494.1 99 = G_331.1 99 from (funext fun j => ((fun (j : Nat) (_ : True) => ((hq_495.ri 99 (by decide) (by decide) j).trans ((hq_488.ri 99 (by decide) (by decide) j).trans (hq_477.ri 99 (by decide) (by decide) j))))) j trivial)])) hm1_ (by omega) (by omega) (by omega) (by omega) (by omega) (by omega)
                  obtain ⟨y_516, ey_516⟩ : ∃ q, q = x_335 + 1 := ⟨_, rfl⟩
                  have ty_516 : y_516.toInt = x_335.toInt + 1 := xI_add rfl rfl ey_516 (by omega) (by omega)
                  refine lv_iinc (v := y_516) (lv' := [(4, .int y_516), (5, .int r_475), (3, .int y_3), (0, .ref (a 66)), (1, .int p0), (2, .int p1)]) hx hb dX12_layNeed_193 hl (k := 1) rfl (by rw [ey_516]; rfl) (by decide) rfl (fun ls hl => ?_)
                  have hj_517 : NJ (G_515.1 99) (G.1 98) (G.1 66 61).toInt (G.1 66 62).toInt p0.toInt p1.toInt (y_516.toInt) := by rw [ty_516]; exact hnN_
                  refine lv_goto (tgt := 74) hx hb dX12_layNeed_196 (by decide) ?_
                  exact ih_333 (100 - y_516.toInt : Int).toNat (by omega) _ _ _ ⟨G_515, y_516, (Int.toNat_of_nonneg (by omega)), ⟨by omega, by omega⟩, (by assumption), (by assumption), (by omega), (by omega), hW, hB_G_515, hF, ((((((((Fr.rf.call hq_332 (by decide) (by decide)).call hq_477 (by decide) (by decide)).call hq_488 (by decide) (by decide)).call hq_495 (by decide) (by decide)).put eG_497 (Or.inl (by decide))).call hq_506 (by decide) (by decide)).call hq_513 (by decide) (by decide)).put eG_515 (Or.inl (by decide))), hS, lv_sub hl [0, 2, 3, 4, 5] rfl⟩
                · have c_473 : (G.1 66 62).toInt < x_335.toInt := xI_nle rfl rfl c_473
                  refine lv_iconst (v := 1) hx hb dX12_layNeed_119 (by decide) ?_
                  refine lv_goto (tgt := 124) hx hb dX12_layNeed_120 (by decide) ?_
                  have qc_518 : (1 : Int32).toInt = 1 := rfl
                  refine S_calli (va_runS (As := [.int 1]) (rest := []) ⟨hx, hb, hml, hown, hts⟩ (n_truth l D k A a z G_331 1 ⟨by decide, by decide⟩) (va_cwS 1 hts (gd_S hgd m1788 m1789 m131 m1790) rfl rfl rfl (by decide +kernel) ⟨Nat.le_of_ble_eq_true rfl, Nat.le_of_ble_eq_true rfl⟩) (pre_S hW hB_G_331 hK hZ hS) rfl rfl hl.1 rfl (lv_room (Nat.le_of_ble_eq_true rfl)) dX12_layNeed_124 ⟨Nat.le_of_ble_eq_true rfl, Nat.le_of_ble_eq_true rfl⟩) hS (fun r_519 G_520 H locs hpo hW hS => ?_)
                  obtain ⟨hB_G_520, hq_521, f_523, hp_522, -⟩ := hpo
                  have hF := hF.call hq_521 (by decide) (by decide)
                  refine lv_istore (lv' := [(5, .int r_519), (4, .int x_335), (3, .int y_3), (0, .ref (a 66)), (1, .int p0), (2, .int p1)]) hx hb dX12_layNeed_127 hl (by decide) rfl (fun ls hl => ?_)
                  refine lv_aload_n hx hb dX12_layNeed_129 rfl (lv_at hl 3 rfl) ?_
                  refine S_getR (n := 99) (C := RX12) (T := TX12) (N := 89) hx hb hg iX12 hown hK hW kd_66 rfl 64 (by decide) (hg (Cond.fieldLink RX12 118 "SlabWalkModel" "need" "[I") m1378) (fun _ h9 => h9) rfl dX12_layNeed_130 ?_
                  refine lv_iload_n hx hb dX12_layNeed_133 rfl (lv_at hl 2 rfl) ?_
                  refine lv_iconst (v := 1) hx hb dX12_layNeed_134 (by decide) ?_
                  refine lv_iadd hx hb dX12_layNeed_135 ?_
                  refine lv_topi (fun y_524 ey_524 => ?_)
                  have ty_524 : y_524.toInt = y_3.toInt + 1 := xI_add rfl rfl ey_524 (by omega) (by omega)
                  refine lv_aload_n hx hb dX12_layNeed_136 rfl (lv_at hl 3 rfl) ?_
                  refine S_getR (n := 99) (C := RX12) (T := TX12) (N := 89) hx hb hg iX12 hown hK hW kd_66 rfl 64 (by decide) (hg (Cond.fieldLink RX12 118 "SlabWalkModel" "need" "[I") m1378) (fun _ h9 => h9) rfl dX12_layNeed_137 ?_
                  refine lv_iload_n hx hb dX12_layNeed_140 rfl (lv_at hl 2 rfl) ?_
                  refine lv_iconst (v := 1) hx hb dX12_layNeed_141 (by decide) ?_
                  refine lv_iadd hx hb dX12_layNeed_142 ?_
                  refine lv_topi (fun y_525 ey_525 => ?_)
                  have ty_525 : y_525.toInt = y_3.toInt + 1 := xI_add rfl rfl ey_525 (by omega) (by omega)
                  refine S_iald hx hb hK hW kd_99 (vin (by omega) (by omega)) dX12_layNeed_143 (fun y_526 ey_526 => ?_)
                  have ty_526 : 0 ≤ y_526.toInt ∧ y_526.toInt ≤ 100000 := hB_G_520.v ey_526 rfl rfl
                  have u_527 : y_526.toInt = (G_331.1 99 y_525.toNatClampNeg).toInt := congrArg Int32.toInt (ey_526.trans ((hq_521.ri 99 (by decide) (by decide) y_525.toNatClampNeg)))
                  have hn1_ : y_526.toInt = ndv (G_331.1 99) p0.toInt p1.toInt 1 := (ndv_at (f := G_520.1 99) (x := y_525) (by omega) (congrArg Int32.toInt ey_526)).trans (ndv_eq (show G_520.1 99 = G_331.1 99 from (funext fun j => ((fun (j : Nat) (_ : True) => (hq_521.ri 99 (by decide) (by decide) j))) j trivial)) rfl rfl)
                  refine lv_iconst (v := 1) hx hb dX12_layNeed_144 (by decide) ?_
                  refine lv_aload_n hx hb dX12_layNeed_145 rfl (lv_at hl 3 rfl) ?_
                  refine lv_iload_n hx hb dX12_layNeed_146 rfl (lv_at hl 4 rfl) ?_
                  refine lv_iload hx hb dX12_layNeed_147 (lv_at hl 1 rfl) ?_
                  refine lv_iadd hx hb dX12_layNeed_149 ?_
                  refine lv_topi (fun y_528 ey_528 => ?_)
                  have ty_528 : y_528.toInt = p0.toInt + x_335.toInt := xI_add rfl rfl ey_528 (by omega) (by omega)
                  refine lv_iload hx hb dX12_layNeed_150 (lv_at hl 0 rfl) ?_
                  refine lv_iconst (v := 2) hx hb dX12_layNeed_152 (by decide) ?_
                  have qc_529 : (2 : Int32).toInt = 2 := rfl
                  refine S_calli (va_runV (As := [.int y_528, .int r_519, .int 2]) (rest := [.int 1, .int y_526, .int y_524, .ref (a 99)]) ⟨hx, hb, hml, hown, hts⟩ (n_needOf l D k A a z G_520 y_528 r_519 2 ⟨by omega, by omega⟩ ⟨by omega, by omega⟩ ⟨by decide, by decide⟩) (cwV 3 hts (gd_V hgd m1859 m1861 m96 m131 m1862) rfl rfl rfl (by decide +kernel) ⟨Nat.le_of_ble_eq_true rfl, Nat.le_of_ble_eq_true rfl⟩) (pre_V hW hB_G_520 hK hZ hS kd_66 rfl) rfl rfl hl.1 rfl (lv_room (Nat.le_of_ble_eq_true rfl)) dX12_layNeed_153 ⟨Nat.le_of_ble_eq_true rfl, Nat.le_of_ble_eq_true rfl⟩) hS (fun r_530 G_531 H locs hpo hW hS => ?_)
                  obtain ⟨hB_G_531, hq_532, f_534, hp_533⟩ := hpo
                  have hF := hF.call hq_532 (by decide) (by decide)
                  have u_535 := trI_v x_335.toInt (G.1 66 62).toInt
                  have hm2_ : r_530.toInt = ndv (G_331.1 99) (p0.toInt + x_335.toInt) (trI x_335.toInt (G.1 66 62).toInt) 2 := hp_533.trans (ndv_eq (show G_520.1 99 = G_331.1 99 from (funext fun j => ((fun (j : Nat) (_ : True) => (hq_521.ri 99 (by decide) (by decide) j))) j trivial)) (by omega) (by omega))
                  refine lv_iadd hx hb dX12_layNeed_156 ?_
                  refine lv_topi (fun y_536 ey_536 => ?_)
                  have ty_536 : y_536.toInt = 1 + r_530.toInt := xI_add rfl rfl ey_536 (by omega) (by omega)
                  refine S_calli (va_runS (As := [.int y_526, .int y_536]) (rest := [.int y_524, .ref (a 99)]) ⟨hx, hb, hml, hown, hts⟩ (n_lesser l D k A a z G_531 y_526 y_536 ) (va_cwS 2 hts (gd_S hgd m1863 m1864 m131 m1865) rfl rfl rfl (by decide +kernel) ⟨Nat.le_of_ble_eq_true rfl, Nat.le_of_ble_eq_true rfl⟩) (pre_S hW hB_G_531 hK hZ hS) rfl rfl hl.1 rfl (lv_room (Nat.le_of_ble_eq_true rfl)) dX12_layNeed_157 ⟨Nat.le_of_ble_eq_true rfl, Nat.le_of_ble_eq_true rfl⟩) hS (fun r_537 G_538 H locs hpo hW hS => ?_)
                  obtain ⟨hB_G_538, hq_539, hp_540⟩ := hpo
                  have hF := hF.call hq_539 (by decide) (by decide)
                  refine S_iast hx hb hK hW hS kd_99 (vin (by omega) (by omega)) dX12_layNeed_160 (fun G_541 H locs eG_541 hW hS => ?_)
                  have hB_G_541 : Bd G_541 := hB_G_538.put (V := r_537.toInt) (lo := 0) (hi := 100000) eG_541 rfl rfl rfl (by omega) (by omega) (hB_G_538.2.put eG_541 rfl)
                  have hF := hF.put eG_541 (Or.inl (by decide))
                  refine lv_aload_n hx hb dX12_layNeed_161 rfl (lv_at hl 3 rfl) ?_
                  refine S_getR (n := 99) (C := RX12) (T := TX12) (N := 89) hx hb hg iX12 hown hK hW kd_66 rfl 64 (by decide) (hg (Cond.fieldLink RX12 118 "SlabWalkModel" "need" "[I") m1378) (fun _ h9 => h9) rfl dX12_layNeed_162 ?_
                  refine lv_iload_n hx hb dX12_layNeed_165 rfl (lv_at hl 2 rfl) ?_
                  refine lv_iconst (v := 2) hx hb dX12_layNeed_166 (by decide) ?_
                  refine lv_iadd hx hb dX12_layNeed_167 ?_
                  refine lv_topi (fun y_542 ey_542 => ?_)
                  have ty_542 : y_542.toInt = y_3.toInt + 2 := xI_add rfl rfl ey_542 (by omega) (by omega)
                  refine lv_aload_n hx hb dX12_layNeed_168 rfl (lv_at hl 3 rfl) ?_
                  refine S_getR (n := 99) (C := RX12) (T := TX12) (N := 89) hx hb hg iX12 hown hK hW kd_66 rfl 64 (by decide) (hg (Cond.fieldLink RX12 118 "SlabWalkModel" "need" "[I") m1378) (fun _ h9 => h9) rfl dX12_layNeed_169 ?_
                  refine lv_iload_n hx hb dX12_layNeed_172 rfl (lv_at hl 2 rfl) ?_
                  refine lv_iconst (v := 2) hx hb dX12_layNeed_173 (by decide) ?_
                  refine lv_iadd hx hb dX12_layNeed_174 ?_
                  refine lv_topi (fun y_543 ey_543 => ?_)
                  have ty_543 : y_543.toInt = y_3.toInt + 2 := xI_add rfl rfl ey_543 (by omega) (by omega)
                  refine S_iald hx hb hK hW kd_99 (vin (by omega) (by omega)) dX12_layNeed_175 (fun y_544 ey_544 => ?_)
                  have ty_544 : 0 ≤ y_544.toInt ∧ y_544.toInt ≤ 100000 := hB_G_541.v ey_544 rfl rfl
                  have u_545 : y_544.toInt = (G_541.1 99 y_543.toNatClampNeg).toInt := congrArg Int32.toInt (ey_544)
                  have hn2_ : y_544.toInt = ndv (G_541.1 99) p0.toInt p1.toInt 2 := (ndv_at (f := G_541.1 99) (x := y_543) (by omega) (congrArg Int32.toInt ey_544)).trans (ndv_eq (show G_541.1 99 = G_541.1 99 from (funext fun j => ((fun (j : Nat) (_ : True) => rfl)) j trivial)) rfl rfl)
                  refine lv_iconst (v := 1) hx hb dX12_layNeed_176 (by decide) ?_
                  refine lv_aload_n hx hb dX12_layNeed_177 rfl (lv_at hl 3 rfl) ?_
                  refine lv_iload_n hx hb dX12_layNeed_178 rfl (lv_at hl 4 rfl) ?_
                  refine lv_iload hx hb dX12_layNeed_179 (lv_at hl 1 rfl) ?_
                  refine lv_iadd hx hb dX12_layNeed_181 ?_
                  refine lv_topi (fun y_546 ey_546 => ?_)
                  have ty_546 : y_546.toInt = p0.toInt + x_335.toInt := xI_add rfl rfl ey_546 (by omega) (by omega)
                  refine lv_iload hx hb dX12_layNeed_182 (lv_at hl 0 rfl) ?_
                  refine lv_iconst (v := 1) hx hb dX12_layNeed_184 (by decide) ?_
                  have qc_547 : (1 : Int32).toInt = 1 := rfl
                  refine S_calli (va_runV (As := [.int y_546, .int r_519, .int 1]) (rest := [.int 1, .int y_544, .int y_542, .ref (a 99)]) ⟨hx, hb, hml, hown, hts⟩ (n_needOf l D k A a z G_541 y_546 r_519 1 ⟨by omega, by omega⟩ ⟨by omega, by omega⟩ ⟨by decide, by decide⟩) (cwV 3 hts (gd_V hgd m1859 m1861 m96 m131 m1862) rfl rfl rfl (by decide +kernel) ⟨Nat.le_of_ble_eq_true rfl, Nat.le_of_ble_eq_true rfl⟩) (pre_V hW hB_G_541 hK hZ hS kd_66 rfl) rfl rfl hl.1 rfl (lv_room (Nat.le_of_ble_eq_true rfl)) dX12_layNeed_185 ⟨Nat.le_of_ble_eq_true rfl, Nat.le_of_ble_eq_true rfl⟩) hS (fun r_548 G_549 H locs hpo hW hS => ?_)
                  obtain ⟨hB_G_549, hq_550, f_552, hp_551⟩ := hpo
                  have hF := hF.call hq_550 (by decide) (by decide)
                  have u_553 := trI_v x_335.toInt (G.1 66 62).toInt
                  have hm1_ : r_548.toInt = ndv (G_541.1 99) (p0.toInt + x_335.toInt) (trI x_335.toInt (G.1 66 62).toInt) 1 := hp_551.trans (ndv_eq (show G_541.1 99 = G_541.1 99 from (funext fun j => ((fun (j : Nat) (_ : True) => rfl)) j trivial)) (by omega) (by omega))
                  refine lv_iadd hx hb dX12_layNeed_188 ?_
                  refine lv_topi (fun y_554 ey_554 => ?_)
                  have ty_554 : y_554.toInt = 1 + r_548.toInt := xI_add rfl rfl ey_554 (by omega) (by omega)
                  refine S_calli (va_runS (As := [.int y_544, .int y_554]) (rest := [.int y_542, .ref (a 99)]) ⟨hx, hb, hml, hown, hts⟩ (n_lesser l D k A a z G_549 y_544 y_554 ) (va_cwS 2 hts (gd_S hgd m1863 m1864 m131 m1865) rfl rfl rfl (by decide +kernel) ⟨Nat.le_of_ble_eq_true rfl, Nat.le_of_ble_eq_true rfl⟩) (pre_S hW hB_G_549 hK hZ hS) rfl rfl hl.1 rfl (lv_room (Nat.le_of_ble_eq_true rfl)) dX12_layNeed_189 ⟨Nat.le_of_ble_eq_true rfl, Nat.le_of_ble_eq_true rfl⟩) hS (fun r_555 G_556 H locs hpo hW hS => ?_)
                  obtain ⟨hB_G_556, hq_557, hp_558⟩ := hpo
                  have hF := hF.call hq_557 (by decide) (by decide)
                  refine S_iast hx hb hK hW hS kd_99 (vin (by omega) (by omega)) dX12_layNeed_192 (fun G_559 H locs eG_559 hW hS => ?_)
                  have hB_G_559 : Bd G_559 := hB_G_556.put (V := r_555.toInt) (lo := 0) (hi := 100000) eG_559 rfl rfl rfl (by omega) (by omega) (hB_G_556.2.put eG_559 rfl)
                  have hF := hF.put eG_559 (Or.inl (by decide))
                  have hpa_ : PR (G_538.1 99) (G.1 98) (G.1 66 61).toInt (G.1 66 62).toInt (G.1 66 63).toInt (p0.toInt) (p1.toInt) := by rw [show G_538.1 99 = G_331.1 99 from (funext fun j => ((fun (j : Nat) (_ : True) => ((hq_539.ri 99 (by decide) (by decide) j).trans ((hq_532.ri 99 (by decide) (by decide) j).trans (hq_521.ri 99 (by decide) (by decide) j))))) j trivial)]; exact (show PR (G_331.1 99) (G.1 98) (G.1 66 61).toInt (G.1 66 62).toInt (G.1 66 63).toInt (p0.toInt) (p1.toInt) by assumption)
                  have hpb_ : PR (G_541.1 99) (G.1 98) (G.1 66 61).toInt (G.1 66 62).toInt (G.1 66 63).toInt (p0.toInt) (p1.toInt) := PR_put (i := 1) eG_541 (by omega) (by omega) (by omega) (by omega) hle1 hpa_
                  have hpc_ : PR (G_556.1 99) (G.1 98) (G.1 66 61).toInt (G.1 66 62).toInt (G.1 66 63).toInt (p0.toInt) (p1.toInt) := by rw [show G_556.1 99 = G_541.1 99 from (funext fun j => ((fun (j : Nat) (_ : True) => ((hq_557.ri 99 (by decide) (by decide) j).trans (hq_550.ri 99 (by decide) (by decide) j)))) j trivial)]; exact hpb_
                  have hpN_ : PR (G_559.1 99) (G.1 98) (G.1 66 61).toInt (G.1 66 62).toInt (G.1 66 63).toInt (p0.toInt) (p1.toInt) := PR_put (i := 2) eG_559 (by omega) (by omega) (by omega) (by omega) hle1 hpc_
                  have hja_ : NJ (G_538.1 99) (G.1 98) (G.1 66 61).toInt (G.1 66 62).toInt p0.toInt p1.toInt (x_335.toInt) := by rw [show G_538.1 99 = G_331.1 99 from (funext fun j => ((fun (j : Nat) (_ : True) => ((hq_539.ri 99 (by decide) (by decide) j).trans ((hq_532.ri 99 (by decide) (by decide) j).trans (hq_521.ri 99 (by decide) (by decide) j))))) j trivial)]; exact (show NJ (G_331.1 99) (G.1 98) (G.1 66 61).toInt (G.1 66 62).toInt p0.toInt p1.toInt (x_335.toInt) by assumption)
                  have hnN_ : NJ (G_559.1 99) (G.1 98) (G.1 66 61).toInt (G.1 66 62).toInt p0.toInt p1.toInt (x_335.toInt + 1) := NJ_step_ hja_ eG_541 (by omega) (show G_556.1 99 = G_541.1 99 from (funext fun j => ((fun (j : Nat) (_ : True) => ((hq_557.ri 99 (by decide) (by decide) j).trans (hq_550.ri 99 (by decide) (by decide) j)))) j trivial)) eG_559 (by omega) (by omega) (by omega) hle1 (by omega) ((lw_iff (x := y_466) (y := y_467) (by omega) (by omega)).mpr (by omega)) (hn1_.trans (by rw [show G_538.1 99 = G_331.1 99 from (funext fun j => ((fun (j : Nat) (_ : True) => ((hq_539.ri 99 (by decide) (by decide) j).trans ((hq_532.ri 99 (by decide) (by decide) j).trans (hq_521.ri 99 (by decide) (by decide) j))))) j trivial)])) hn2_ (hm2_.trans (by rw [show G_538.1 99 = G_331.1 99 from (funext fun j => ((fun (j : Nat) (_ : True) => ((hq_539.ri 99 (by decide) (by decide) j).trans ((hq_532.ri 99 (by decide) (by decide) j).trans (hq_521.ri 99 (by decide) (by decide) j))))) j trivial)])) hm1_ (by omega) (by omega) (by omega) (by omega) (by omega) (by omega)
                  obtain ⟨y_560, ey_560⟩ : ∃ q, q = x_335 + 1 := ⟨_, rfl⟩
                  have ty_560 : y_560.toInt = x_335.toInt + 1 := xI_add rfl rfl ey_560 (by omega) (by omega)
                  refine lv_iinc (v := y_560) (lv' := [(4, .int y_560), (5, .int r_519), (3, .int y_3), (0, .ref (a 66)), (1, .int p0), (2, .int p1)]) hx hb dX12_layNeed_193 hl (k := 1) rfl (by rw [ey_560]; rfl) (by decide) rfl (fun ls hl => ?_)
                  have hj_561 : NJ (G_559.1 99) (G.1 98) (G.1 66 61).toInt (G.1 66 62).toInt p0.toInt p1.toInt (y_560.toInt) := by rw [ty_560]; exact hnN_
                  refine lv_goto (tgt := 74) hx hb dX12_layNeed_196 (by decide) ?_
                  exact ih_333 (100 - y_560.toInt : Int).toNat (by omega) _ _ _ ⟨G_559, y_560, (Int.toNat_of_nonneg (by omega)), ⟨by omega, by omega⟩, (by assumption), (by assumption), (by omega), (by omega), hW, hB_G_559, hF, ((((((((Fr.rf.call hq_332 (by decide) (by decide)).call hq_521 (by decide) (by decide)).call hq_532 (by decide) (by decide)).call hq_539 (by decide) (by decide)).put eG_541 (Or.inl (by decide))).call hq_550 (by decide) (by decide)).call hq_557 (by decide) (by decide)).put eG_559 (Or.inl (by decide))), hS, lv_sub hl [0, 2, 3, 4, 5] rfl⟩
              · have c_472 : y_467.toInt = 0 := xI_eq rfl rfl c_472
                refine lv_goto (tgt := 193) hx hb dX12_layNeed_107 (by decide) ?_
                have hpN_ : PR (G_331.1 99) (G.1 98) (G.1 66 61).toInt (G.1 66 62).toInt (G.1 66 63).toInt (p0.toInt) (p1.toInt) := by rw [show G_331.1 99 = G_331.1 99 from (funext fun j => ((fun (j : Nat) (_ : True) => rfl)) j trivial)]; exact (show PR (G_331.1 99) (G.1 98) (G.1 66 61).toInt (G.1 66 62).toInt (G.1 66 63).toInt (p0.toInt) (p1.toInt) by assumption)
                have hnN_ : NJ (G_331.1 99) (G.1 98) (G.1 66 61).toInt (G.1 66 62).toInt p0.toInt p1.toInt (x_335.toInt + 1) := by rw [show G_331.1 99 = G_331.1 99 from (funext fun j => ((fun (j : Nat) (_ : True) => rfl)) j trivial)]; exact (NJ_skip (show NJ (G_331.1 99) (G.1 98) (G.1 66 61).toInt (G.1 66 62).toInt p0.toInt p1.toInt (x_335.toInt) by assumption) (fun q => by have q := (lw_iff (x := y_466) (y := y_467) (by omega) (by omega)).mp q; omega))
                obtain ⟨y_562, ey_562⟩ : ∃ q, q = x_335 + 1 := ⟨_, rfl⟩
                have ty_562 : y_562.toInt = x_335.toInt + 1 := xI_add rfl rfl ey_562 (by omega) (by omega)
                refine lv_iinc (v := y_562) (lv' := [(4, .int y_562), (3, .int y_3), (0, .ref (a 66)), (1, .int p0), (2, .int p1)]) hx hb dX12_layNeed_193 hl (k := 0) rfl (by rw [ey_562]; rfl) (by decide) rfl (fun ls hl => ?_)
                have hj_563 : NJ (G_331.1 99) (G.1 98) (G.1 66 61).toInt (G.1 66 62).toInt p0.toInt p1.toInt (y_562.toInt) := by rw [ty_562]; exact hnN_
                refine lv_goto (tgt := 74) hx hb dX12_layNeed_196 (by decide) ?_
                exact ih_333 (100 - y_562.toInt : Int).toNat (by omega) _ _ _ ⟨G_331, y_562, (Int.toNat_of_nonneg (by omega)), ⟨by omega, by omega⟩, (by assumption), (by assumption), (by omega), (by omega), hW, hB_G_331, hF, (Fr.rf.call hq_332 (by decide) (by decide)), hS, lv_sub hl [0, 1, 2, 3, 4] rfl⟩
    · have c_288 : r_283.toInt ≠ 0 := xI_ne rfl rfl c_288
      refine lv_iconst (v := 1) hx hb dX12_layNeed_32 (by decide) ?_
      refine lv_goto (tgt := 39) hx hb dX12_layNeed_33 (by decide) ?_
      refine S_iast hx hb hK hW hS kd_99 (vin (by omega) (by omega)) dX12_layNeed_39 (fun G_564 H locs eG_564 hW hS => ?_)
      have hB_G_564 : Bd G_564 := hB_G_284.put (V := 1) (lo := 0) (hi := 100000) eG_564 rfl rfl rfl (by omega) (by omega) (hB_G_284.2.put eG_564 rfl)
      have hF := hF.put eG_564 (Or.inl (by decide))
      refine lv_aload_n hx hb dX12_layNeed_40 rfl (lv_at hl 1 rfl) ?_
      refine S_getR (n := 99) (C := RX12) (T := TX12) (N := 89) hx hb hg iX12 hown hK hW kd_66 rfl 64 (by decide) (hg (Cond.fieldLink RX12 118 "SlabWalkModel" "need" "[I") m1378) (fun _ h9 => h9) rfl dX12_layNeed_41 ?_
      refine lv_iload_n hx hb dX12_layNeed_44 rfl (lv_at hl 0 rfl) ?_
      refine lv_iconst (v := 2) hx hb dX12_layNeed_45 (by decide) ?_
      refine lv_iadd hx hb dX12_layNeed_46 ?_
      refine lv_topi (fun y_565 ey_565 => ?_)
      have ty_565 : y_565.toInt = y_3.toInt + 2 := xI_add rfl rfl ey_565 (by omega) (by omega)
      refine lv_ldcw (v := 100000) hx hb hown (hg (Cond.constant RX12 502 100000) m1858) dX12_layNeed_47 ?_
      refine S_iast hx hb hK hW hS kd_99 (vin (by omega) (by omega)) dX12_layNeed_50 (fun G_566 H locs eG_566 hW hS => ?_)
      have hB_G_566 : Bd G_566 := hB_G_564.put (V := 100000) (lo := 0) (hi := 100000) eG_566 rfl rfl rfl (by omega) (by omega) (hB_G_564.2.put eG_566 rfl)
      have hF := hF.put eG_566 (Or.inl (by decide))
      have qc_567 : (1 : Int32).toInt = 1 := rfl
      have qc_568 : (100000 : Int32).toInt = 100000 := rfl
      have hp0_ : PR (G_284.1 99) (G.1 98) (G.1 66 61).toInt (G.1 66 62).toInt (G.1 66 63).toInt (p0.toInt) (p1.toInt) := by rw [show G_284.1 99 = G.1 99 from (funext fun j => ((fun (j : Nat) (_ : True) => (hq_285.ri 99 (by decide) (by decide) j))) j trivial)]; exact hpr
      have hp1_ : PR (G_564.1 99) (G.1 98) (G.1 66 61).toInt (G.1 66 62).toInt (G.1 66 63).toInt (p0.toInt) (p1.toInt) := PR_put (i := 1) eG_564 (by omega) (by omega) (by omega) (by omega) hle1 hp0_
      have hp2_ : PR (G_564.1 99) (G.1 98) (G.1 66 61).toInt (G.1 66 62).toInt (G.1 66 63).toInt (p0.toInt) (p1.toInt) := by rw [show G_564.1 99 = G_564.1 99 from (funext fun j => ((fun (j : Nat) (_ : True) => rfl)) j trivial)]; exact hp1_
      have hp3_ : PR (G_566.1 99) (G.1 98) (G.1 66 61).toInt (G.1 66 62).toInt (G.1 66 63).toInt (p0.toInt) (p1.toInt) := PR_put (i := 2) eG_566 (by omega) (by omega) (by omega) (by omega) hle1 hp2_
      have hz1_ := ndv_put (x := p0.toInt) (l := p1.toInt) (i := 1) eG_564 (by omega) (by omega) (by omega) (by omega)
      have hz2_ := ndv_put (x := p0.toInt) (l := p1.toInt) (i := 2) eG_566 (by omega) (by omega) (by omega) (by omega)
      have hy1_ := hz2_.2 p0.toInt p1.toInt 1 (by omega) (by omega) (by omega) (by omega)
      rw [show G_564.1 99 = G_564.1 99 from (funext fun j => ((fun (j : Nat) (_ : True) => rfl)) j trivial), hz1_.1] at hy1_
      have hy2_ := hz2_.1
      refine lv_aload_n hx hb dX12_layNeed_51 rfl (lv_at hl 1 rfl) ?_
      refine S_getR (n := 98) (C := RX12) (T := TX12) (N := 89) hx hb hg iX12 hown hK hW kd_66 rfl 58 (by decide) (hg (Cond.fieldLink RX12 115 "SlabWalkModel" "lawful" "[Z") m1372) (fun _ h9 => h9) rfl dX12_layNeed_52 ?_
      refine lv_iload_n hx hb dX12_layNeed_55 rfl (lv_at hl 2 rfl) ?_
      refine S_zald hx hb hK hW kd_98 (vin (by omega) (by omega)) dX12_layNeed_56 (fun y_569 ey_569 => ?_)
      have ty_569 := hB_G_566.law ey_569
      have u_570 : y_569.toInt = y_5.toInt := congrArg Int32.toInt (ey_569.trans (((gp_ne eG_566 (fun q => absurd q.1 (by decide))).trans ((gp_ne eG_564 (fun q => absurd q.1 (by decide))).trans ((hq_285.ri 98 (by decide) (by decide) p0.toNatClampNeg).trans (ey_5.symm))))))
      refine lv_if_eq (tgt := 199) hx hb dX12_layNeed_57 (by decide) (fun c_571 => ?_) (fun c_571 => ?_)
      · have c_571 : y_569.toInt = 0 := xI_eq rfl rfl c_571
        have hpF_ : PR (G_566.1 99) (G.1 98) (G.1 66 61).toInt (G.1 66 62).toInt (G.1 66 63).toInt (p0.toInt) (p1.toInt) := by rw [show G_566.1 99 = G_566.1 99 from (funext fun j => ((fun (j : Nat) (_ : True) => rfl)) j trivial)]; exact hp3_
        have hy1F_ : ndv (G_566.1 99) p0.toInt p1.toInt 1 = 1 := by rw [show G_566.1 99 = G_566.1 99 from (funext fun j => ((fun (j : Nat) (_ : True) => rfl)) j trivial)]; exact (hy1_.trans (by decide))
        have hy2F_ : ndv (G_566.1 99) p0.toInt p1.toInt 2 = 100000 := by rw [show G_566.1 99 = G_566.1 99 from (funext fun j => ((fun (j : Nat) (_ : True) => rfl)) j trivial)]; exact (hy2_.trans (by decide))
        refine lv_aload_n hx hb dX12_layNeed_199 rfl (lv_at hl 1 rfl) ?_
        refine S_getR (n := 99) (C := RX12) (T := TX12) (N := 89) hx hb hg iX12 hown hK hW kd_66 rfl 64 (by decide) (hg (Cond.fieldLink RX12 118 "SlabWalkModel" "need" "[I") m1378) (fun _ h9 => h9) rfl dX12_layNeed_200 ?_
        refine lv_iload_n hx hb dX12_layNeed_203 rfl (lv_at hl 0 rfl) ?_
        refine lv_aload_n hx hb dX12_layNeed_204 rfl (lv_at hl 1 rfl) ?_
        refine S_getR (n := 99) (C := RX12) (T := TX12) (N := 89) hx hb hg iX12 hown hK hW kd_66 rfl 64 (by decide) (hg (Cond.fieldLink RX12 118 "SlabWalkModel" "need" "[I") m1378) (fun _ h9 => h9) rfl dX12_layNeed_205 ?_
        refine lv_iload_n hx hb dX12_layNeed_208 rfl (lv_at hl 0 rfl) ?_
        refine lv_iconst (v := 1) hx hb dX12_layNeed_209 (by decide) ?_
        refine lv_iadd hx hb dX12_layNeed_210 ?_
        refine lv_topi (fun y_572 ey_572 => ?_)
        have ty_572 : y_572.toInt = y_3.toInt + 1 := xI_add rfl rfl ey_572 (by omega) (by omega)
        refine S_iald hx hb hK hW kd_99 (vin (by omega) (by omega)) dX12_layNeed_211 (fun y_573 ey_573 => ?_)
        have ty_573 : 0 ≤ y_573.toInt ∧ y_573.toInt ≤ 100000 := hB_G_566.v ey_573 rfl rfl
        have u_574 : y_573.toInt = (G_566.1 99 y_572.toNatClampNeg).toInt := congrArg Int32.toInt (ey_573)
        have hn1_ : y_573.toInt = ndv (G_566.1 99) p0.toInt p1.toInt 1 := (ndv_at (f := G_566.1 99) (x := y_572) (by omega) (congrArg Int32.toInt ey_573)).trans (ndv_eq (show G_566.1 99 = G_566.1 99 from (funext fun j => ((fun (j : Nat) (_ : True) => rfl)) j trivial)) rfl rfl)
        refine lv_aload_n hx hb dX12_layNeed_212 rfl (lv_at hl 1 rfl) ?_
        refine S_getR (n := 99) (C := RX12) (T := TX12) (N := 89) hx hb hg iX12 hown hK hW kd_66 rfl 64 (by decide) (hg (Cond.fieldLink RX12 118 "SlabWalkModel" "need" "[I") m1378) (fun _ h9 => h9) rfl dX12_layNeed_213 ?_
        refine lv_iload_n hx hb dX12_layNeed_216 rfl (lv_at hl 0 rfl) ?_
        refine lv_iconst (v := 2) hx hb dX12_layNeed_217 (by decide) ?_
        refine lv_iadd hx hb dX12_layNeed_218 ?_
        refine lv_topi (fun y_575 ey_575 => ?_)
        have ty_575 : y_575.toInt = y_3.toInt + 2 := xI_add rfl rfl ey_575 (by omega) (by omega)
        refine S_iald hx hb hK hW kd_99 (vin (by omega) (by omega)) dX12_layNeed_219 (fun y_576 ey_576 => ?_)
        have ty_576 : 0 ≤ y_576.toInt ∧ y_576.toInt ≤ 100000 := hB_G_566.v ey_576 rfl rfl
        have u_577 : y_576.toInt = (G_566.1 99 y_575.toNatClampNeg).toInt := congrArg Int32.toInt (ey_576)
        have hn2_ : y_576.toInt = ndv (G_566.1 99) p0.toInt p1.toInt 2 := (ndv_at (f := G_566.1 99) (x := y_575) (by omega) (congrArg Int32.toInt ey_576)).trans (ndv_eq (show G_566.1 99 = G_566.1 99 from (funext fun j => ((fun (j : Nat) (_ : True) => rfl)) j trivial)) rfl rfl)
        refine S_calli (va_runS (As := [.int y_573, .int y_576]) (rest := [.int y_3, .ref (a 99)]) ⟨hx, hb, hml, hown, hts⟩ (n_lesser l D k A a z G_566 y_573 y_576 ) (va_cwS 2 hts (gd_S hgd m1863 m1864 m131 m1865) rfl rfl rfl (by decide +kernel) ⟨Nat.le_of_ble_eq_true rfl, Nat.le_of_ble_eq_true rfl⟩) (pre_S hW hB_G_566 hK hZ hS) rfl rfl hl.1 rfl (lv_room (Nat.le_of_ble_eq_true rfl)) dX12_layNeed_220 ⟨Nat.le_of_ble_eq_true rfl, Nat.le_of_ble_eq_true rfl⟩) hS (fun r_578 G_579 H locs hpo hW hS => ?_)
        obtain ⟨hB_G_579, hq_580, hp_581⟩ := hpo
        have hF := hF.call hq_580 (by decide) (by decide)
        refine S_iast hx hb hK hW hS kd_99 (vin (by omega) (by omega)) dX12_layNeed_223 (fun G_582 H locs eG_582 hW hS => ?_)
        have hB_G_582 : Bd G_582 := hB_G_579.put (V := r_578.toInt) (lo := 0) (hi := 100000) eG_582 rfl rfl rfl (by omega) (by omega) (hB_G_579.2.put eG_582 rfl)
        have hF := hF.put eG_582 (Or.inl (by decide))
        have hpL_ : PR (G_579.1 99) (G.1 98) (G.1 66 61).toInt (G.1 66 62).toInt (G.1 66 63).toInt (p0.toInt) (p1.toInt) := by rw [show G_579.1 99 = G_566.1 99 from (funext fun j => ((fun (j : Nat) (_ : True) => (hq_580.ri 99 (by decide) (by decide) j))) j trivial)]; exact hpF_
        have hfL_ : ((ndv (G_579.1 99) p0.toInt p1.toInt 1 = 1 ∨ ndv (G_579.1 99) p0.toInt p1.toInt 1 = 100000) ∧ ndv (G_579.1 99) p0.toInt p1.toInt 2 = 100000) ∨ ∃ u, NJ (G_579.1 99) (G.1 98) (G.1 66 61).toInt (G.1 66 62).toInt p0.toInt p1.toInt u ∧ u ≤ (G.1 66 63).toInt + 1 := by rw [show G_579.1 99 = G_566.1 99 from (funext fun j => ((fun (j : Nat) (_ : True) => (hq_580.ri 99 (by decide) (by decide) j))) j trivial)]; exact Or.inl ⟨Or.inl hy1F_, hy2F_⟩
        have hr1_ := hn1_.trans (show ndv (G_566.1 99) p0.toInt p1.toInt 1 = ndv (G_579.1 99) p0.toInt p1.toInt 1 by rw [show G_579.1 99 = G_566.1 99 from (funext fun j => ((fun (j : Nat) (_ : True) => (hq_580.ri 99 (by decide) (by decide) j))) j trivial)])
        have hr2_ := hn2_.trans (show ndv (G_566.1 99) p0.toInt p1.toInt 2 = ndv (G_579.1 99) p0.toInt p1.toInt 2 by rw [show G_579.1 99 = G_566.1 99 from (funext fun j => ((fun (j : Nat) (_ : True) => (hq_580.ri 99 (by decide) (by decide) j))) j trivial)])
        have hEnd_ : PR (G_582.1 99) (G.1 98) (G.1 66 61).toInt (G.1 66 62).toInt (G.1 66 63).toInt (p0.toInt) (p1.toInt + 1) := PR_next eG_582 (by omega) (by omega) (by omega) hle1 hpL_ (lw400 hB_G h400) (by omega) (by omega) (by omega) hfL_
        have hPG_ : PRG G_582 p0.toInt (p1.toInt + 1) := PRG_of hF (by decide) (by decide) hEnd_
        exact W.vret hx hb hr (fun t ht _ => ⟨⟨G_582, rfl, ⟨hB_G_582, hF, (hPG_)⟩, wd_t ht hW⟩, hS.F ht⟩) hS.2.2 dX12_layNeed_224
      · have c_571 : y_569.toInt ≠ 0 := xI_ne rfl rfl c_571
        refine lv_aload_n hx hb dX12_layNeed_60 rfl (lv_at hl 1 rfl) ?_
        refine lv_iload_n hx hb dX12_layNeed_61 rfl (lv_at hl 2 rfl) ?_
        have b_583 : 0 ≤ (G.1 66 59).toInt ∧ (G.1 66 59).toInt ≤ 400 := hB_G.i 66 59 rfl rfl
        have g_584 : (G_566.1 66 59).toInt = (G.1 66 59).toInt := by rw [show G_566.1 66 59 = (G.1 66 59) from ((gp_ne eG_566 (fun q => absurd q.1 (by decide))).trans ((gp_ne eG_564 (fun q => absurd q.1 (by decide))).trans (hq_285.i 66 59 (by decide) (by decide))))]
        have b_585 : 0 ≤ (G.1 66 60).toInt ∧ (G.1 66 60).toInt ≤ 12 := hB_G.i 66 60 rfl rfl
        have g_586 : (G_566.1 66 60).toInt = (G.1 66 60).toInt := by rw [show G_566.1 66 60 = (G.1 66 60) from ((gp_ne eG_566 (fun q => absurd q.1 (by decide))).trans ((gp_ne eG_564 (fun q => absurd q.1 (by decide))).trans (hq_285.i 66 60 (by decide) (by decide))))]
        have b_587 : 0 ≤ (G.1 66 62).toInt ∧ (G.1 66 62).toInt ≤ 60 := hB_G.i 66 62 rfl rfl
        have g_588 : (G_566.1 66 62).toInt = (G.1 66 62).toInt := by rw [show G_566.1 66 62 = (G.1 66 62) from ((gp_ne eG_566 (fun q => absurd q.1 (by decide))).trans ((gp_ne eG_564 (fun q => absurd q.1 (by decide))).trans (hq_285.i 66 62 (by decide) (by decide))))]
        refine S_calli (va_runV (As := [.int p0]) (rest := []) ⟨hx, hb, hml, hown, hts⟩ (n_isEnd l D k A a z G_566 p0 ⟨by omega, by omega⟩) (cwV 1 hts (gd_V hgd m1854 m1856 m95 m131 m1857) rfl rfl rfl (by decide +kernel) ⟨Nat.le_of_ble_eq_true rfl, Nat.le_of_ble_eq_true rfl⟩) (pre_V hW hB_G_566 hK hZ hS kd_66 rfl) rfl rfl hl.1 rfl (lv_room (Nat.le_of_ble_eq_true rfl)) dX12_layNeed_62 ⟨Nat.le_of_ble_eq_true rfl, Nat.le_of_ble_eq_true rfl⟩) hS (fun r_589 G_590 H locs hpo hW hS => ?_)
        obtain ⟨hB_G_590, hq_591, f_593, hp_592⟩ := hpo
        have hF := hF.call hq_591 (by decide) (by decide)
        refine lv_if_ne (tgt := 199) hx hb dX12_layNeed_65 (by decide) (fun c_594 => ?_) (fun c_594 => ?_)
        · have c_594 : r_589.toInt ≠ 0 := xI_ne rfl rfl c_594
          have hpF_ : PR (G_590.1 99) (G.1 98) (G.1 66 61).toInt (G.1 66 62).toInt (G.1 66 63).toInt (p0.toInt) (p1.toInt) := by rw [show G_590.1 99 = G_566.1 99 from (funext fun j => ((fun (j : Nat) (_ : True) => (hq_591.ri 99 (by decide) (by decide) j))) j trivial)]; exact hp3_
          have hy1F_ : ndv (G_590.1 99) p0.toInt p1.toInt 1 = 1 := by rw [show G_590.1 99 = G_566.1 99 from (funext fun j => ((fun (j : Nat) (_ : True) => (hq_591.ri 99 (by decide) (by decide) j))) j trivial)]; exact (hy1_.trans (by decide))
          have hy2F_ : ndv (G_590.1 99) p0.toInt p1.toInt 2 = 100000 := by rw [show G_590.1 99 = G_566.1 99 from (funext fun j => ((fun (j : Nat) (_ : True) => (hq_591.ri 99 (by decide) (by decide) j))) j trivial)]; exact (hy2_.trans (by decide))
          refine lv_aload_n hx hb dX12_layNeed_199 rfl (lv_at hl 1 rfl) ?_
          refine S_getR (n := 99) (C := RX12) (T := TX12) (N := 89) hx hb hg iX12 hown hK hW kd_66 rfl 64 (by decide) (hg (Cond.fieldLink RX12 118 "SlabWalkModel" "need" "[I") m1378) (fun _ h9 => h9) rfl dX12_layNeed_200 ?_
          refine lv_iload_n hx hb dX12_layNeed_203 rfl (lv_at hl 0 rfl) ?_
          refine lv_aload_n hx hb dX12_layNeed_204 rfl (lv_at hl 1 rfl) ?_
          refine S_getR (n := 99) (C := RX12) (T := TX12) (N := 89) hx hb hg iX12 hown hK hW kd_66 rfl 64 (by decide) (hg (Cond.fieldLink RX12 118 "SlabWalkModel" "need" "[I") m1378) (fun _ h9 => h9) rfl dX12_layNeed_205 ?_
          refine lv_iload_n hx hb dX12_layNeed_208 rfl (lv_at hl 0 rfl) ?_
          refine lv_iconst (v := 1) hx hb dX12_layNeed_209 (by decide) ?_
          refine lv_iadd hx hb dX12_layNeed_210 ?_
          refine lv_topi (fun y_595 ey_595 => ?_)
          have ty_595 : y_595.toInt = y_3.toInt + 1 := xI_add rfl rfl ey_595 (by omega) (by omega)
          refine S_iald hx hb hK hW kd_99 (vin (by omega) (by omega)) dX12_layNeed_211 (fun y_596 ey_596 => ?_)
          have ty_596 : 0 ≤ y_596.toInt ∧ y_596.toInt ≤ 100000 := hB_G_590.v ey_596 rfl rfl
          have u_597 : y_596.toInt = (G_566.1 99 y_595.toNatClampNeg).toInt := congrArg Int32.toInt (ey_596.trans ((hq_591.ri 99 (by decide) (by decide) y_595.toNatClampNeg)))
          have hn1_ : y_596.toInt = ndv (G_566.1 99) p0.toInt p1.toInt 1 := (ndv_at (f := G_590.1 99) (x := y_595) (by omega) (congrArg Int32.toInt ey_596)).trans (ndv_eq (show G_590.1 99 = G_566.1 99 from (funext fun j => ((fun (j : Nat) (_ : True) => (hq_591.ri 99 (by decide) (by decide) j))) j trivial)) rfl rfl)
          refine lv_aload_n hx hb dX12_layNeed_212 rfl (lv_at hl 1 rfl) ?_
          refine S_getR (n := 99) (C := RX12) (T := TX12) (N := 89) hx hb hg iX12 hown hK hW kd_66 rfl 64 (by decide) (hg (Cond.fieldLink RX12 118 "SlabWalkModel" "need" "[I") m1378) (fun _ h9 => h9) rfl dX12_layNeed_213 ?_
          refine lv_iload_n hx hb dX12_layNeed_216 rfl (lv_at hl 0 rfl) ?_
          refine lv_iconst (v := 2) hx hb dX12_layNeed_217 (by decide) ?_
          refine lv_iadd hx hb dX12_layNeed_218 ?_
          refine lv_topi (fun y_598 ey_598 => ?_)
          have ty_598 : y_598.toInt = y_3.toInt + 2 := xI_add rfl rfl ey_598 (by omega) (by omega)
          refine S_iald hx hb hK hW kd_99 (vin (by omega) (by omega)) dX12_layNeed_219 (fun y_599 ey_599 => ?_)
          have ty_599 : 0 ≤ y_599.toInt ∧ y_599.toInt ≤ 100000 := hB_G_590.v ey_599 rfl rfl
          have u_600 : y_599.toInt = (G_566.1 99 y_598.toNatClampNeg).toInt := congrArg Int32.toInt (ey_599.trans ((hq_591.ri 99 (by decide) (by decide) y_598.toNatClampNeg)))
          have hn2_ : y_599.toInt = ndv (G_566.1 99) p0.toInt p1.toInt 2 := (ndv_at (f := G_590.1 99) (x := y_598) (by omega) (congrArg Int32.toInt ey_599)).trans (ndv_eq (show G_590.1 99 = G_566.1 99 from (funext fun j => ((fun (j : Nat) (_ : True) => (hq_591.ri 99 (by decide) (by decide) j))) j trivial)) rfl rfl)
          refine S_calli (va_runS (As := [.int y_596, .int y_599]) (rest := [.int y_3, .ref (a 99)]) ⟨hx, hb, hml, hown, hts⟩ (n_lesser l D k A a z G_590 y_596 y_599 ) (va_cwS 2 hts (gd_S hgd m1863 m1864 m131 m1865) rfl rfl rfl (by decide +kernel) ⟨Nat.le_of_ble_eq_true rfl, Nat.le_of_ble_eq_true rfl⟩) (pre_S hW hB_G_590 hK hZ hS) rfl rfl hl.1 rfl (lv_room (Nat.le_of_ble_eq_true rfl)) dX12_layNeed_220 ⟨Nat.le_of_ble_eq_true rfl, Nat.le_of_ble_eq_true rfl⟩) hS (fun r_601 G_602 H locs hpo hW hS => ?_)
          obtain ⟨hB_G_602, hq_603, hp_604⟩ := hpo
          have hF := hF.call hq_603 (by decide) (by decide)
          refine S_iast hx hb hK hW hS kd_99 (vin (by omega) (by omega)) dX12_layNeed_223 (fun G_605 H locs eG_605 hW hS => ?_)
          have hB_G_605 : Bd G_605 := hB_G_602.put (V := r_601.toInt) (lo := 0) (hi := 100000) eG_605 rfl rfl rfl (by omega) (by omega) (hB_G_602.2.put eG_605 rfl)
          have hF := hF.put eG_605 (Or.inl (by decide))
          have hpL_ : PR (G_602.1 99) (G.1 98) (G.1 66 61).toInt (G.1 66 62).toInt (G.1 66 63).toInt (p0.toInt) (p1.toInt) := by rw [show G_602.1 99 = G_590.1 99 from (funext fun j => ((fun (j : Nat) (_ : True) => (hq_603.ri 99 (by decide) (by decide) j))) j trivial)]; exact hpF_
          have hfL_ : ((ndv (G_602.1 99) p0.toInt p1.toInt 1 = 1 ∨ ndv (G_602.1 99) p0.toInt p1.toInt 1 = 100000) ∧ ndv (G_602.1 99) p0.toInt p1.toInt 2 = 100000) ∨ ∃ u, NJ (G_602.1 99) (G.1 98) (G.1 66 61).toInt (G.1 66 62).toInt p0.toInt p1.toInt u ∧ u ≤ (G.1 66 63).toInt + 1 := by rw [show G_602.1 99 = G_590.1 99 from (funext fun j => ((fun (j : Nat) (_ : True) => (hq_603.ri 99 (by decide) (by decide) j))) j trivial)]; exact Or.inl ⟨Or.inl hy1F_, hy2F_⟩
          have hr1_ := hn1_.trans (show ndv (G_566.1 99) p0.toInt p1.toInt 1 = ndv (G_602.1 99) p0.toInt p1.toInt 1 by rw [show G_602.1 99 = G_566.1 99 from (funext fun j => ((fun (j : Nat) (_ : True) => ((hq_603.ri 99 (by decide) (by decide) j).trans (hq_591.ri 99 (by decide) (by decide) j)))) j trivial)])
          have hr2_ := hn2_.trans (show ndv (G_566.1 99) p0.toInt p1.toInt 2 = ndv (G_602.1 99) p0.toInt p1.toInt 2 by rw [show G_602.1 99 = G_566.1 99 from (funext fun j => ((fun (j : Nat) (_ : True) => ((hq_603.ri 99 (by decide) (by decide) j).trans (hq_591.ri 99 (by decide) (by decide) j)))) j trivial)])
          have hEnd_ : PR (G_605.1 99) (G.1 98) (G.1 66 61).toInt (G.1 66 62).toInt (G.1 66 63).toInt (p0.toInt) (p1.toInt + 1) := PR_next eG_605 (by omega) (by omega) (by omega) hle1 hpL_ (lw400 hB_G h400) (by omega) (by omega) (by omega) hfL_
          have hPG_ : PRG G_605 p0.toInt (p1.toInt + 1) := PRG_of hF (by decide) (by decide) hEnd_
          exact W.vret hx hb hr (fun t ht _ => ⟨⟨G_605, rfl, ⟨hB_G_605, hF, (hPG_)⟩, wd_t ht hW⟩, hS.F ht⟩) hS.2.2 dX12_layNeed_224
        · have c_594 : r_589.toInt = 0 := xI_eq rfl rfl c_594
          exfalso; omega
