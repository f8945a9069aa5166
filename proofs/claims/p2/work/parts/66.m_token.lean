theorem m51 : Cond.selects RX12 yX12_here yX12_here ∈ gd := gd_mem 51 (by decide +kernel) (by decide +kernel)
theorem m1320 : Cond.fieldLink RX12 205 "SlabWalkModel" "sort" "I" ∈ gd := gd_mem 1320 (by decide +kernel) (by decide +kernel)
theorem m1321 : Cond.fieldLink RX12 195 "SlabWalkModel" "place" "I" ∈ gd := gd_mem 1321 (by decide +kernel) (by decide +kernel)
theorem m1322 : Cond.fieldLink RX12 202 "SlabWalkModel" "number" "I" ∈ gd := gd_mem 1322 (by decide +kernel) (by decide +kernel)
theorem m1323 : Cond.fieldLink RX12 198 "SlabWalkModel" "word" "J" ∈ gd := gd_mem 1323 (by decide +kernel) (by decide +kernel)
theorem m1606 : Cond.methodLink RX12 191 yX12_here ∈ gd := gd_mem 1606 (by decide +kernel) (by decide +kernel)
theorem m1608 : Cond.instanceMethod yX12_here ∈ gd := gd_mem 1608 (by decide +kernel) (by decide +kernel)
theorem m1609 : Cond.code yX12_here cX12_here 2 (some .int) ∈ gd := gd_mem 1609 (by decide +kernel) (by decide +kernel)
theorem m1610 : Cond.methodLink RX12 208 yX12_isLetter ∈ gd := gd_mem 1610 (by decide +kernel) (by decide +kernel)
theorem m1611 : Cond.static yX12_isLetter ∈ gd := gd_mem 1611 (by decide +kernel) (by decide +kernel)
theorem m1612 : Cond.code yX12_isLetter cX12_isLetter 1 (some .boolean) ∈ gd := gd_mem 1612 (by decide +kernel) (by decide +kernel)
theorem m1613 : Cond.methodLink RX12 212 yX12_isDigit ∈ gd := gd_mem 1613 (by decide +kernel) (by decide +kernel)
theorem m1614 : Cond.static yX12_isDigit ∈ gd := gd_mem 1614 (by decide +kernel) (by decide +kernel)
theorem m1615 : Cond.code yX12_isDigit cX12_isDigit 1 (some .boolean) ∈ gd := gd_mem 1615 (by decide +kernel) (by decide +kernel)
theorem m1616 : Cond.methodLink RX12 215 yX12_isSign ∈ gd := gd_mem 1616 (by decide +kernel) (by decide +kernel)
theorem m1617 : Cond.static yX12_isSign ∈ gd := gd_mem 1617 (by decide +kernel) (by decide +kernel)
theorem m1618 : Cond.code yX12_isSign cX12_isSign 1 (some .boolean) ∈ gd := gd_mem 1618 (by decide +kernel) (by decide +kernel)
theorem dX12_token_0 : decode cX12_token 0 = .ok (.aload_n 0, 1) := by decide +kernel
theorem dX12_token_1 : decode cX12_token 1 = .ok (.iconst 0, 1) := by decide +kernel
theorem dX12_token_2 : decode cX12_token 2 = .ok (.invokevirtual 191, 3) := by decide +kernel
theorem dX12_token_5 : decode cX12_token 5 = .ok (.bipush 32, 2) := by decide +kernel
theorem dX12_token_7 : decode cX12_token 7 = .ok (.if_icmp .eq 13, 3) := by decide +kernel
theorem dX12_token_10 : decode cX12_token 10 = .ok (.aload_n 0, 1) := by decide +kernel
theorem dX12_token_11 : decode cX12_token 11 = .ok (.iconst 0, 1) := by decide +kernel
theorem dX12_token_12 : decode cX12_token 12 = .ok (.invokevirtual 191, 3) := by decide +kernel
theorem dX12_token_15 : decode cX12_token 15 = .ok (.bipush 10, 2) := by decide +kernel
theorem dX12_token_17 : decode cX12_token 17 = .ok (.if_icmp .ne 16, 3) := by decide +kernel
theorem dX12_token_20 : decode cX12_token 20 = .ok (.aload_n 0, 1) := by decide +kernel
theorem dX12_token_21 : decode cX12_token 21 = .ok (.dup, 1) := by decide +kernel
theorem dX12_token_22 : decode cX12_token 22 = .ok (.getfield 185, 3) := by decide +kernel
theorem dX12_token_25 : decode cX12_token 25 = .ok (.iconst 1, 1) := by decide +kernel
theorem dX12_token_26 : decode cX12_token 26 = .ok (.iadd, 1) := by decide +kernel
theorem dX12_token_27 : decode cX12_token 27 = .ok (.putfield 185, 3) := by decide +kernel
theorem dX12_token_30 : decode cX12_token 30 = .ok (.goto (-30), 3) := by decide +kernel
theorem dX12_token_33 : decode cX12_token 33 = .ok (.aload_n 0, 1) := by decide +kernel
theorem dX12_token_34 : decode cX12_token 34 = .ok (.aload_n 0, 1) := by decide +kernel
theorem dX12_token_35 : decode cX12_token 35 = .ok (.getfield 185, 3) := by decide +kernel
theorem dX12_token_38 : decode cX12_token 38 = .ok (.putfield 195, 3) := by decide +kernel
theorem dX12_token_41 : decode cX12_token 41 = .ok (.aload_n 0, 1) := by decide +kernel
theorem dX12_token_42 : decode cX12_token 42 = .ok (.iconst 0, 1) := by decide +kernel
theorem dX12_token_43 : decode cX12_token 43 = .ok (.invokevirtual 191, 3) := by decide +kernel
theorem dX12_token_46 : decode cX12_token 46 = .ok (.istore_n 1, 1) := by decide +kernel
theorem dX12_token_47 : decode cX12_token 47 = .ok (.iconst 0, 1) := by decide +kernel
theorem dX12_token_48 : decode cX12_token 48 = .ok (.istore_n 2, 1) := by decide +kernel
theorem dX12_token_49 : decode cX12_token 49 = .ok (.aload_n 0, 1) := by decide +kernel
theorem dX12_token_50 : decode cX12_token 50 = .ok (.lconst 0, 1) := by decide +kernel
theorem dX12_token_51 : decode cX12_token 51 = .ok (.putfield 198, 3) := by decide +kernel
theorem dX12_token_54 : decode cX12_token 54 = .ok (.aload_n 0, 1) := by decide +kernel
theorem dX12_token_55 : decode cX12_token 55 = .ok (.iconst 0, 1) := by decide +kernel
theorem dX12_token_56 : decode cX12_token 56 = .ok (.putfield 202, 3) := by decide +kernel
theorem dX12_token_59 : decode cX12_token 59 = .ok (.iload_n 1, 1) := by decide +kernel
theorem dX12_token_60 : decode cX12_token 60 = .ok (.ifCond .ge 11, 3) := by decide +kernel
theorem dX12_token_63 : decode cX12_token 63 = .ok (.aload_n 0, 1) := by decide +kernel
theorem dX12_token_64 : decode cX12_token 64 = .ok (.iconst 0, 1) := by decide +kernel
theorem dX12_token_65 : decode cX12_token 65 = .ok (.putfield 205, 3) := by decide +kernel
theorem dX12_token_68 : decode cX12_token 68 = .ok (.goto 164, 3) := by decide +kernel
theorem dX12_token_71 : decode cX12_token 71 = .ok (.iload_n 1, 1) := by decide +kernel
theorem dX12_token_72 : decode cX12_token 72 = .ok (.invokestatic 208, 3) := by decide +kernel
theorem dX12_token_75 : decode cX12_token 75 = .ok (.ifCond .eq 62, 3) := by decide +kernel
theorem dX12_token_78 : decode cX12_token 78 = .ok (.aload_n 0, 1) := by decide +kernel
theorem dX12_token_79 : decode cX12_token 79 = .ok (.iload_n 2, 1) := by decide +kernel
theorem dX12_token_80 : decode cX12_token 80 = .ok (.invokevirtual 191, 3) := by decide +kernel
theorem dX12_token_83 : decode cX12_token 83 = .ok (.invokestatic 208, 3) := by decide +kernel
theorem dX12_token_86 : decode cX12_token 86 = .ok (.ifCond .eq 33, 3) := by decide +kernel
theorem dX12_token_89 : decode cX12_token 89 = .ok (.iload_n 2, 1) := by decide +kernel
theorem dX12_token_90 : decode cX12_token 90 = .ok (.bipush 8, 2) := by decide +kernel
theorem dX12_token_92 : decode cX12_token 92 = .ok (.if_icmp .ge 21, 3) := by decide +kernel
theorem dX12_token_95 : decode cX12_token 95 = .ok (.aload_n 0, 1) := by decide +kernel
theorem dX12_token_96 : decode cX12_token 96 = .ok (.aload_n 0, 1) := by decide +kernel
theorem dX12_token_97 : decode cX12_token 97 = .ok (.getfield 198, 3) := by decide +kernel
theorem dX12_token_100 : decode cX12_token 100 = .ok (.bipush 8, 2) := by decide +kernel
theorem dX12_token_102 : decode cX12_token 102 = .ok (.lshl, 1) := by decide +kernel
theorem dX12_token_103 : decode cX12_token 103 = .ok (.aload_n 0, 1) := by decide +kernel
theorem dX12_token_104 : decode cX12_token 104 = .ok (.iload_n 2, 1) := by decide +kernel
theorem dX12_token_105 : decode cX12_token 105 = .ok (.invokevirtual 191, 3) := by decide +kernel
theorem dX12_token_108 : decode cX12_token 108 = .ok (.i2l, 1) := by decide +kernel
theorem dX12_token_109 : decode cX12_token 109 = .ok (.lor, 1) := by decide +kernel
theorem dX12_token_110 : decode cX12_token 110 = .ok (.putfield 198, 3) := by decide +kernel
theorem dX12_token_113 : decode cX12_token 113 = .ok (.iinc 2 1, 3) := by decide +kernel
theorem dX12_token_116 : decode cX12_token 116 = .ok (.goto (-38), 3) := by decide +kernel
theorem dX12_token_119 : decode cX12_token 119 = .ok (.aload_n 0, 1) := by decide +kernel
theorem dX12_token_120 : decode cX12_token 120 = .ok (.iload_n 2, 1) := by decide +kernel
theorem dX12_token_121 : decode cX12_token 121 = .ok (.bipush 8, 2) := by decide +kernel
theorem dX12_token_123 : decode cX12_token 123 = .ok (.if_icmp .le 7, 3) := by decide +kernel
theorem dX12_token_126 : decode cX12_token 126 = .ok (.iconst 3, 1) := by decide +kernel
theorem dX12_token_127 : decode cX12_token 127 = .ok (.goto 4, 3) := by decide +kernel
theorem dX12_token_130 : decode cX12_token 130 = .ok (.iconst 1, 1) := by decide +kernel
theorem dX12_token_131 : decode cX12_token 131 = .ok (.putfield 205, 3) := by decide +kernel
theorem dX12_token_134 : decode cX12_token 134 = .ok (.goto 98, 3) := by decide +kernel
theorem dX12_token_137 : decode cX12_token 137 = .ok (.iload_n 1, 1) := by decide +kernel
theorem dX12_token_138 : decode cX12_token 138 = .ok (.invokestatic 212, 3) := by decide +kernel
theorem dX12_token_141 : decode cX12_token 141 = .ok (.ifCond .eq 73, 3) := by decide +kernel
theorem dX12_token_144 : decode cX12_token 144 = .ok (.aload_n 0, 1) := by decide +kernel
theorem dX12_token_145 : decode cX12_token 145 = .ok (.iload_n 2, 1) := by decide +kernel
theorem dX12_token_146 : decode cX12_token 146 = .ok (.invokevirtual 191, 3) := by decide +kernel
theorem dX12_token_149 : decode cX12_token 149 = .ok (.invokestatic 212, 3) := by decide +kernel
theorem dX12_token_152 : decode cX12_token 152 = .ok (.ifCond .eq 34, 3) := by decide +kernel
theorem dX12_token_155 : decode cX12_token 155 = .ok (.iload_n 2, 1) := by decide +kernel
theorem dX12_token_156 : decode cX12_token 156 = .ok (.iconst 4, 1) := by decide +kernel
theorem dX12_token_157 : decode cX12_token 157 = .ok (.if_icmp .ge 23, 3) := by decide +kernel
theorem dX12_token_160 : decode cX12_token 160 = .ok (.aload_n 0, 1) := by decide +kernel
theorem dX12_token_161 : decode cX12_token 161 = .ok (.bipush 10, 2) := by decide +kernel
theorem dX12_token_163 : decode cX12_token 163 = .ok (.aload_n 0, 1) := by decide +kernel
theorem dX12_token_164 : decode cX12_token 164 = .ok (.getfield 202, 3) := by decide +kernel
theorem dX12_token_167 : decode cX12_token 167 = .ok (.imul, 1) := by decide +kernel
theorem dX12_token_168 : decode cX12_token 168 = .ok (.aload_n 0, 1) := by decide +kernel
theorem dX12_token_169 : decode cX12_token 169 = .ok (.iload_n 2, 1) := by decide +kernel
theorem dX12_token_170 : decode cX12_token 170 = .ok (.invokevirtual 191, 3) := by decide +kernel
theorem dX12_token_173 : decode cX12_token 173 = .ok (.iadd, 1) := by decide +kernel
theorem dX12_token_174 : decode cX12_token 174 = .ok (.bipush 48, 2) := by decide +kernel
theorem dX12_token_176 : decode cX12_token 176 = .ok (.isub, 1) := by decide +kernel
theorem dX12_token_177 : decode cX12_token 177 = .ok (.putfield 202, 3) := by decide +kernel
theorem dX12_token_180 : decode cX12_token 180 = .ok (.iinc 2 1, 3) := by decide +kernel
theorem dX12_token_183 : decode cX12_token 183 = .ok (.goto (-39), 3) := by decide +kernel
theorem dX12_token_186 : decode cX12_token 186 = .ok (.aload_n 0, 1) := by decide +kernel
theorem dX12_token_187 : decode cX12_token 187 = .ok (.iload_n 2, 1) := by decide +kernel
theorem dX12_token_188 : decode cX12_token 188 = .ok (.iconst 4, 1) := by decide +kernel
theorem dX12_token_189 : decode cX12_token 189 = .ok (.if_icmp .gt 14, 3) := by decide +kernel
theorem dX12_token_192 : decode cX12_token 192 = .ok (.aload_n 0, 1) := by decide +kernel
theorem dX12_token_193 : decode cX12_token 193 = .ok (.iload_n 2, 1) := by decide +kernel
theorem dX12_token_194 : decode cX12_token 194 = .ok (.invokevirtual 191, 3) := by decide +kernel
theorem dX12_token_197 : decode cX12_token 197 = .ok (.invokestatic 208, 3) := by decide +kernel
theorem dX12_token_200 : decode cX12_token 200 = .ok (.ifCond .eq 7, 3) := by decide +kernel
theorem dX12_token_203 : decode cX12_token 203 = .ok (.iconst 3, 1) := by decide +kernel
theorem dX12_token_204 : decode cX12_token 204 = .ok (.goto 4, 3) := by decide +kernel
theorem dX12_token_207 : decode cX12_token 207 = .ok (.iconst 2, 1) := by decide +kernel
theorem dX12_token_208 : decode cX12_token 208 = .ok (.putfield 205, 3) := by decide +kernel
theorem dX12_token_211 : decode cX12_token 211 = .ok (.goto 21, 3) := by decide +kernel
theorem dX12_token_214 : decode cX12_token 214 = .ok (.iconst 1, 1) := by decide +kernel
theorem dX12_token_215 : decode cX12_token 215 = .ok (.istore_n 2, 1) := by decide +kernel
theorem dX12_token_216 : decode cX12_token 216 = .ok (.aload_n 0, 1) := by decide +kernel
theorem dX12_token_217 : decode cX12_token 217 = .ok (.iload_n 1, 1) := by decide +kernel
theorem dX12_token_218 : decode cX12_token 218 = .ok (.invokestatic 215, 3) := by decide +kernel
theorem dX12_token_221 : decode cX12_token 221 = .ok (.ifCond .eq 7, 3) := by decide +kernel
theorem dX12_token_224 : decode cX12_token 224 = .ok (.iload_n 1, 1) := by decide +kernel
theorem dX12_token_225 : decode cX12_token 225 = .ok (.goto 4, 3) := by decide +kernel
theorem dX12_token_228 : decode cX12_token 228 = .ok (.iconst 3, 1) := by decide +kernel
theorem dX12_token_229 : decode cX12_token 229 = .ok (.putfield 205, 3) := by decide +kernel
theorem dX12_token_232 : decode cX12_token 232 = .ok (.aload_n 0, 1) := by decide +kernel
theorem dX12_token_233 : decode cX12_token 233 = .ok (.getfield 205, 3) := by decide +kernel
theorem dX12_token_236 : decode cX12_token 236 = .ok (.iconst 3, 1) := by decide +kernel
theorem dX12_token_237 : decode cX12_token 237 = .ok (.if_icmp .eq 13, 3) := by decide +kernel
theorem dX12_token_240 : decode cX12_token 240 = .ok (.aload_n 0, 1) := by decide +kernel
theorem dX12_token_241 : decode cX12_token 241 = .ok (.dup, 1) := by decide +kernel
theorem dX12_token_242 : decode cX12_token 242 = .ok (.getfield 185, 3) := by decide +kernel
theorem dX12_token_245 : decode cX12_token 245 = .ok (.iload_n 2, 1) := by decide +kernel
theorem dX12_token_246 : decode cX12_token 246 = .ok (.iadd, 1) := by decide +kernel
theorem dX12_token_247 : decode cX12_token 247 = .ok (.putfield 185, 3) := by decide +kernel
theorem dX12_token_250 : decode cX12_token 250 = .ok (.return_, 1) := by decide +kernel
set_option maxHeartbeats 4000000 in
set_option maxRecDepth 100000 in
theorem n_token (l : Launch) (D : va_G) (k : KT) (A : Nat → Prop) (a : Nat → Nat) (z : SK) (G : GS)   : Met l yX12_token (WS yX12_token cX12_token 3 none) ({ frames := 1, cells := 0, slots := 0, locals := 21 }) (va_Pc [.ref (a 66)] (cW D k A a z G)) (va_Qv (fun (G1 : GS) => Bd G1 ∧ Fr [] [(66, 4), (66, 6), (66, 7), (66, 8), (66, 9)] G G1) (fun (G1 : GS) t => Wd D k A a G1 t.heap) A) 0 0 A := by
  refine Met.ofW (cc := cX12_token) (maxL := 3) (ret := none) (by decide) rfl ?_
  intro p e s m args below meth c s₁ B hml hv
  obtain ⟨rfl, hW, hB_G, hK, hZ⟩ := hv
  have hx := B.exec
  have hb := B.bytes
  have hr := B.returns
  have hts := atoms_spec (ws := WS yX12_token cX12_token 3 none) B.pre
  have hgd : ∀ w ∈ gd, w ∈ WS yX12_token cX12_token 3 none := fun w h => List.mem_cons_of_mem _ h
  have hg : ∀ w ∈ gd, w.before _ s = true := fun w h => hts w (hgd w h)
  have hown : s.vm.findClass RX12 = some m.cls := findClass_of_methodNamed B.named
  have hS : va_S A s.heap s.heap [] := va_S.rf
  have hF : Fr [] [(66, 4), (66, 6), (66, 7), (66, 8), (66, 9)] G G := Fr.rf
  have hl := lv_entry ([.ref (a 66)]) (n := 3) (Nat.le_of_ble_eq_true rfl)
  rw [lg_entry_eq]
  generalize (lg_sl ([.ref (a 66)]) ++ List.replicate (3 - (lg_sl ([.ref (a 66)])).length) Slot.unset).toArray = ls at hl ⊢
  have hl : lv_has ls 3 [(0, .ref (a 66))] := hl
  have b_5 : 0 ≤ (G.1 66 4).toInt ∧ (G.1 66 4).toInt ≤ 1600 := hB_G.i 66 4 rfl rfl
  refine loop_N (Inv := fun n H locs ls => ∃ (G_1 : GS), (n : Int) = 1600 - (G_1.1 66 4).toInt ∧ Wd D k A a G_1 H ∧ Bd G_1 ∧ Fr [] [(66, 4), (66, 6), (66, 7), (66, 8), (66, 9)] G G_1 ∧ Fr [] [(66, 4)] G G_1 ∧ va_S A s.heap H locs ∧ lv_has ls 3 [(0, .ref (a 66))]) (fun n_4 H locs ls ih_3 hI => ?_) (1600 - (G.1 66 4).toInt : Int).toNat ⟨G, (Int.toNat_of_nonneg (by omega)), hW, hB_G, hF, Fr.rf, hS, lv_sub hl [0] rfl⟩
  obtain ⟨G_1, hn_6, hW, hB_G_1, hF, hq_2, hS, hl⟩ := hI
  refine lv_aload_n hx hb dX12_token_0 rfl (lv_at hl 0 rfl) ?_
  refine lv_iconst (v := 0) hx hb dX12_token_1 (by decide) ?_
  have qc_7 : (0 : Int32).toInt = 0 := rfl
  have b_8 : 0 ≤ (G_1.1 66 4).toInt ∧ (G_1.1 66 4).toInt ≤ 1600 := hB_G_1.i 66 4 rfl rfl
  have b_9 : 0 ≤ (G.1 66 5).toInt ∧ (G.1 66 5).toInt ≤ 1600 := hB_G.i 66 5 rfl rfl
  have g_10 : (G_1.1 66 5).toInt = (G.1 66 5).toInt := by rw [show G_1.1 66 5 = (G.1 66 5) from (hq_2.i 66 5 (by decide) (by decide))]
  refine S_calli (va_runV (As := [.int 0]) (rest := []) ⟨hx, hb, hml, hown, hts⟩ (n_here l D k A a z G_1 0 ⟨by decide, by decide⟩) (cwV 1 hts (gd_V hgd m1606 m1608 m51 m131 m1609) rfl rfl rfl (by decide +kernel) ⟨Nat.le_of_ble_eq_true rfl, Nat.le_of_ble_eq_true rfl⟩) (pre_V hW hB_G_1 hK hZ hS kd_66 rfl) rfl rfl hl.1 rfl (lv_room (Nat.le_of_ble_eq_true rfl)) dX12_token_2 ⟨Nat.le_of_ble_eq_true rfl, Nat.le_of_ble_eq_true rfl⟩) hS (fun r_11 G_12 H locs hpo hW hS => ?_)
  obtain ⟨hB_G_12, hq_13, f_15, hp_14⟩ := hpo
  have hF := hF.call hq_13 (by decide) (by decide)
  refine lv_bipush (v := 32) hx hb dX12_token_5 (by decide) ?_
  refine lv_icmp_eq (tgt := 20) hx hb dX12_token_7 (by decide) (fun c_16 => ?_) (fun c_16 => ?_)
  · have c_16 : r_11.toInt = 32 := xI_eq rfl rfl c_16
    refine lv_aload_n hx hb dX12_token_20 rfl (lv_at hl 0 rfl) ?_
    refine lv_dup hx hb dX12_token_21 rfl ?_
    refine S_getI (v := (G_1.1 66 4)) (C := RX12) (T := TX12) (N := 89) hx hb hg iX12 hown hK hW kd_66 rfl 4 (by decide) (hg (Cond.fieldLink RX12 185 "SlabWalkModel" "at" "I") m1318) (fun _ h9 => h9) rfl ((hq_13.i 66 4 (by decide) (by decide)).trans (rfl)) dX12_token_22 ?_
    refine lv_iconst (v := 1) hx hb dX12_token_25 (by decide) ?_
    refine lv_iadd hx hb dX12_token_26 ?_
    refine lv_topi (fun y_17 ey_17 => ?_)
    have ty_17 : y_17.toInt = (G_1.1 66 4).toInt + 1 := xI_add rfl rfl ey_17 (by omega) (by omega)
    refine S_putI (ty := .int) (C := RX12) (T := TX12) (N := 89) hx hb hg iX12 tyX12 tyX12_ok nmX12 hown hK hW hS kd_66 rfl 4 (by decide) (hg (Cond.fieldLink RX12 185 "SlabWalkModel" "at" "I") m1318) (fun _ h9 => h9) rfl (by decide +kernel) rfl rfl rfl dX12_token_27 (fun G_18 H locs eG_18 hW hS => ?_)
    have hB_G_18 : Bd G_18 := hB_G_12.put (V := y_17.toInt) (lo := 0) (hi := 1600) eG_18 rfl rfl rfl (by omega) (by omega) (hB_G_12.2.put eG_18 rfl)
    have hF := hF.put eG_18 (Or.inr (by decide))
    refine lv_goto (tgt := 0) hx hb dX12_token_30 (by decide) ?_
    have g_19 : (G_18.1 66 4).toInt = y_17.toInt := by rw [show G_18.1 66 4 = y_17 from (gp_eq eG_18)]
    exact ih_3 (1600 - (G_18.1 66 4).toInt : Int).toNat (by omega) _ _ _ ⟨G_18, (Int.toNat_of_nonneg (by omega)), hW, hB_G_18, hF, (((Fr.rf.call hq_2 (by decide) (by decide)).call hq_13 (by decide) (by decide)).put eG_18 (Or.inr (by decide))), hS, lv_sub hl [0] rfl⟩
  · have c_16 : r_11.toInt ≠ 32 := xI_ne rfl rfl c_16
    refine lv_aload_n hx hb dX12_token_10 rfl (lv_at hl 0 rfl) ?_
    refine lv_iconst (v := 0) hx hb dX12_token_11 (by decide) ?_
    have qc_20 : (0 : Int32).toInt = 0 := rfl
    have g_21 : (G_12.1 66 4).toInt = (G_1.1 66 4).toInt := by rw [show G_12.1 66 4 = (G_1.1 66 4) from ((hq_13.i 66 4 (by decide) (by decide)).trans (rfl))]
    have g_22 : (G_12.1 66 5).toInt = (G.1 66 5).toInt := by rw [show G_12.1 66 5 = (G.1 66 5) from ((hq_13.i 66 5 (by decide) (by decide)).trans ((hq_2.i 66 5 (by decide) (by decide)).trans (rfl)))]
    refine S_calli (va_runV (As := [.int 0]) (rest := []) ⟨hx, hb, hml, hown, hts⟩ (n_here l D k A a z G_12 0 ⟨by decide, by decide⟩) (cwV 1 hts (gd_V hgd m1606 m1608 m51 m131 m1609) rfl rfl rfl (by decide +kernel) ⟨Nat.le_of_ble_eq_true rfl, Nat.le_of_ble_eq_true rfl⟩) (pre_V hW hB_G_12 hK hZ hS kd_66 rfl) rfl rfl hl.1 rfl (lv_room (Nat.le_of_ble_eq_true rfl)) dX12_token_12 ⟨Nat.le_of_ble_eq_true rfl, Nat.le_of_ble_eq_true rfl⟩) hS (fun r_23 G_24 H locs hpo hW hS => ?_)
    obtain ⟨hB_G_24, hq_25, f_27, hp_26⟩ := hpo
    have hF := hF.call hq_25 (by decide) (by decide)
    refine lv_bipush (v := 10) hx hb dX12_token_15 (by decide) ?_
    refine lv_icmp_ne (tgt := 33) hx hb dX12_token_17 (by decide) (fun c_28 => ?_) (fun c_28 => ?_)
    · have c_28 : r_23.toInt ≠ 10 := xI_ne rfl rfl c_28
      refine lv_aload_n hx hb dX12_token_33 rfl (lv_at hl 0 rfl) ?_
      refine lv_aload_n hx hb dX12_token_34 rfl (lv_at hl 0 rfl) ?_
      refine S_getI (v := (G_1.1 66 4)) (C := RX12) (T := TX12) (N := 89) hx hb hg iX12 hown hK hW kd_66 rfl 4 (by decide) (hg (Cond.fieldLink RX12 185 "SlabWalkModel" "at" "I") m1318) (fun _ h9 => h9) rfl ((hq_25.i 66 4 (by decide) (by decide)).trans ((hq_13.i 66 4 (by decide) (by decide)).trans (rfl))) dX12_token_35 ?_
      refine S_putI (ty := .int) (C := RX12) (T := TX12) (N := 89) hx hb hg iX12 tyX12 tyX12_ok nmX12 hown hK hW hS kd_66 rfl 7 (by decide) (hg (Cond.fieldLink RX12 195 "SlabWalkModel" "place" "I") m1321) (fun _ h9 => h9) rfl (by decide +kernel) rfl rfl rfl dX12_token_38 (fun G_29 H locs eG_29 hW hS => ?_)
      have hB_G_29 : Bd G_29 := hB_G_24.put (V := (G_1.1 66 4).toInt) (lo := 0) (hi := 1600) eG_29 rfl rfl rfl (by omega) (by omega) (hB_G_24.2.put eG_29 rfl)
      have hF := hF.put eG_29 (Or.inr (by decide))
      refine lv_aload_n hx hb dX12_token_41 rfl (lv_at hl 0 rfl) ?_
      refine lv_iconst (v := 0) hx hb dX12_token_42 (by decide) ?_
      have qc_30 : (0 : Int32).toInt = 0 := rfl
      have g_31 : (G_29.1 66 4).toInt = (G_1.1 66 4).toInt := by rw [show G_29.1 66 4 = (G_1.1 66 4) from ((gp_ne eG_29 (by decide)).trans ((hq_25.i 66 4 (by decide) (by decide)).trans ((hq_13.i 66 4 (by decide) (by decide)).trans (rfl))))]
      have g_32 : (G_29.1 66 5).toInt = (G.1 66 5).toInt := by rw [show G_29.1 66 5 = (G.1 66 5) from ((gp_ne eG_29 (by decide)).trans ((hq_25.i 66 5 (by decide) (by decide)).trans ((hq_13.i 66 5 (by decide) (by decide)).trans ((hq_2.i 66 5 (by decide) (by decide)).trans (rfl)))))]
      refine S_calli (va_runV (As := [.int 0]) (rest := []) ⟨hx, hb, hml, hown, hts⟩ (n_here l D k A a z G_29 0 ⟨by decide, by decide⟩) (cwV 1 hts (gd_V hgd m1606 m1608 m51 m131 m1609) rfl rfl rfl (by decide +kernel) ⟨Nat.le_of_ble_eq_true rfl, Nat.le_of_ble_eq_true rfl⟩) (pre_V hW hB_G_29 hK hZ hS kd_66 rfl) rfl rfl hl.1 rfl (lv_room (Nat.le_of_ble_eq_true rfl)) dX12_token_43 ⟨Nat.le_of_ble_eq_true rfl, Nat.le_of_ble_eq_true rfl⟩) hS (fun r_33 G_34 H locs hpo hW hS => ?_)
      obtain ⟨hB_G_34, hq_35, f_37, hp_36⟩ := hpo
      have hF := hF.call hq_35 (by decide) (by decide)
      refine lv_istore_n (lv' := [(1, .int r_33), (0, .ref (a 66))]) hx hb dX12_token_46 rfl hl (by decide) rfl (fun ls hl => ?_)
      refine lv_iconst (v := 0) hx hb dX12_token_47 (by decide) ?_
      refine lv_istore_n (lv' := [(2, .int 0), (1, .int r_33), (0, .ref (a 66))]) hx hb dX12_token_48 rfl hl (by decide) rfl (fun ls hl => ?_)
      refine lv_aload_n hx hb dX12_token_49 rfl (lv_at hl 2 rfl) ?_
      refine lv_lconst (v := 0) hx hb dX12_token_50 (by decide) ?_
      refine S_putL (C := RX12) (T := TX12) (N := 89) hx hb hg iX12 tyX12 tyX12_ok nmX12 hown hK hW hS kd_66 rfl 9 (by decide) (hg (Cond.fieldLink RX12 198 "SlabWalkModel" "word" "J") m1323) (fun _ h9 => h9) rfl (by decide +kernel) rfl dX12_token_51 (fun G_38 H locs eG_38 hW hS => ?_)
      have hB_G_38 : Bd G_38 := hB_G_34.putl eG_38
      have hF := hF.putl eG_38 (Or.inr (by decide))
      refine lv_aload_n hx hb dX12_token_54 rfl (lv_at hl 2 rfl) ?_
      refine lv_iconst (v := 0) hx hb dX12_token_55 (by decide) ?_
      refine S_putI (ty := .int) (C := RX12) (T := TX12) (N := 89) hx hb hg iX12 tyX12 tyX12_ok nmX12 hown hK hW hS kd_66 rfl 8 (by decide) (hg (Cond.fieldLink RX12 202 "SlabWalkModel" "number" "I") m1322) (fun _ h9 => h9) rfl (by decide +kernel) rfl rfl rfl dX12_token_56 (fun G_39 H locs eG_39 hW hS => ?_)
      have hB_G_39 : Bd G_39 := hB_G_38.put (lo := (-2147483648)) (hi := 2147483647) eG_39 rfl rfl rfl (tI_rng _).1 (tI_rng _).2 (hB_G_38.2.put eG_39 rfl)
      have hF := hF.put eG_39 (Or.inr (by decide))
      refine lv_iload_n hx hb dX12_token_59 rfl (lv_at hl 1 rfl) ?_
      refine lv_if_ge (tgt := 71) hx hb dX12_token_60 (by decide) (fun c_40 => ?_) (fun c_40 => ?_)
      · have c_40 : 0 ≤ r_33.toInt := xI_le rfl rfl c_40
        refine lv_iload_n hx hb dX12_token_71 rfl (lv_at hl 1 rfl) ?_
        refine S_calli (va_runS (As := [.int r_33]) (rest := []) ⟨hx, hb, hml, hown, hts⟩ (n_letter l D k A a z G_39 r_33 ) (va_cwS 1 hts (gd_S hgd m1610 m1611 m131 m1612) rfl rfl rfl (by decide +kernel) ⟨Nat.le_of_ble_eq_true rfl, Nat.le_of_ble_eq_true rfl⟩) (pre_S hW hB_G_39 hK hZ hS) rfl rfl hl.1 rfl (lv_room (Nat.le_of_ble_eq_true rfl)) dX12_token_72 ⟨Nat.le_of_ble_eq_true rfl, Nat.le_of_ble_eq_true rfl⟩) hS (fun r_41 G_42 H locs hpo hW hS => ?_)
        obtain ⟨hB_G_42, hq_43, f_45, hp_44⟩ := hpo
        have hF := hF.call hq_43 (by decide) (by decide)
        refine lv_if_eq (tgt := 137) hx hb dX12_token_75 (by decide) (fun c_46 => ?_) (fun c_46 => ?_)
        · have c_46 : r_41.toInt = 0 := xI_eq rfl rfl c_46
          refine lv_iload_n hx hb dX12_token_137 rfl (lv_at hl 1 rfl) ?_
          refine S_calli (va_runS (As := [.int r_33]) (rest := []) ⟨hx, hb, hml, hown, hts⟩ (n_digit l D k A a z G_42 r_33 ) (va_cwS 1 hts (gd_S hgd m1613 m1614 m131 m1615) rfl rfl rfl (by decide +kernel) ⟨Nat.le_of_ble_eq_true rfl, Nat.le_of_ble_eq_true rfl⟩) (pre_S hW hB_G_42 hK hZ hS) rfl rfl hl.1 rfl (lv_room (Nat.le_of_ble_eq_true rfl)) dX12_token_138 ⟨Nat.le_of_ble_eq_true rfl, Nat.le_of_ble_eq_true rfl⟩) hS (fun r_47 G_48 H locs hpo hW hS => ?_)
          obtain ⟨hB_G_48, hq_49, f_51, hp_50⟩ := hpo
          have hF := hF.call hq_49 (by decide) (by decide)
          refine lv_if_eq (tgt := 214) hx hb dX12_token_141 (by decide) (fun c_52 => ?_) (fun c_52 => ?_)
          · have c_52 : r_47.toInt = 0 := xI_eq rfl rfl c_52
            refine lv_iconst (v := 1) hx hb dX12_token_214 (by decide) ?_
            refine lv_istore_n (lv' := [(2, .int 1), (1, .int r_33), (0, .ref (a 66))]) hx hb dX12_token_215 rfl hl (by decide) rfl (fun ls hl => ?_)
            refine lv_aload_n hx hb dX12_token_216 rfl (lv_at hl 2 rfl) ?_
            refine lv_iload_n hx hb dX12_token_217 rfl (lv_at hl 1 rfl) ?_
            refine S_calli (va_runS (As := [.int r_33]) (rest := [.ref (a 66)]) ⟨hx, hb, hml, hown, hts⟩ (n_sign l D k A a z G_48 r_33 ) (va_cwS 1 hts (gd_S hgd m1616 m1617 m131 m1618) rfl rfl rfl (by decide +kernel) ⟨Nat.le_of_ble_eq_true rfl, Nat.le_of_ble_eq_true rfl⟩) (pre_S hW hB_G_48 hK hZ hS) rfl rfl hl.1 rfl (lv_room (Nat.le_of_ble_eq_true rfl)) dX12_token_218 ⟨Nat.le_of_ble_eq_true rfl, Nat.le_of_ble_eq_true rfl⟩) hS (fun r_53 G_54 H locs hpo hW hS => ?_)
            obtain ⟨hB_G_54, hq_55, f_57⟩ := hpo
            have hF := hF.call hq_55 (by decide) (by decide)
            refine lv_if_eq (tgt := 228) hx hb dX12_token_221 (by decide) (fun c_58 => ?_) (fun c_58 => ?_)
            · have c_58 : r_53.toInt = 0 := xI_eq rfl rfl c_58
              refine lv_iconst (v := 3) hx hb dX12_token_228 (by decide) ?_
              refine S_putI (ty := .int) (C := RX12) (T := TX12) (N := 89) hx hb hg iX12 tyX12 tyX12_ok nmX12 hown hK hW hS kd_66 rfl 6 (by decide) (hg (Cond.fieldLink RX12 205 "SlabWalkModel" "sort" "I") m1320) (fun _ h9 => h9) rfl (by decide +kernel) rfl rfl rfl dX12_token_229 (fun G_59 H locs eG_59 hW hS => ?_)
              have hB_G_59 : Bd G_59 := hB_G_54.put (lo := (-2147483648)) (hi := 2147483647) eG_59 rfl rfl rfl (tI_rng _).1 (tI_rng _).2 (hB_G_54.2.put eG_59 rfl)
              have hF := hF.put eG_59 (Or.inr (by decide))
              refine lv_aload_n hx hb dX12_token_232 rfl (lv_at hl 2 rfl) ?_
              refine S_getI (v := 3) (C := RX12) (T := TX12) (N := 89) hx hb hg iX12 hown hK hW kd_66 rfl 6 (by decide) (hg (Cond.fieldLink RX12 205 "SlabWalkModel" "sort" "I") m1320) (fun _ h9 => h9) rfl (gp_eq eG_59) dX12_token_233 ?_
              refine lv_iconst (v := 3) hx hb dX12_token_236 (by decide) ?_
              refine lv_icmp_eq (tgt := 250) hx hb dX12_token_237 (by decide) (fun c_60 => ?_) (fun c_60 => ?_)
              · have c_60 : (3 : Int) = (3 : Int) := xI_eq rfl rfl c_60
                exact W.vret hx hb hr (fun t ht _ => ⟨⟨G_59, rfl, ⟨hB_G_59, hF⟩, wd_t ht hW⟩, hS.F ht⟩) hS.2.2 dX12_token_250
              · have c_60 : (3 : Int) ≠ (3 : Int) := xI_ne rfl rfl c_60
                exfalso; omega
            · have c_58 : r_53.toInt ≠ 0 := xI_ne rfl rfl c_58
              refine lv_iload_n hx hb dX12_token_224 rfl (lv_at hl 1 rfl) ?_
              refine lv_goto (tgt := 229) hx hb dX12_token_225 (by decide) ?_
              refine S_putI (ty := .int) (C := RX12) (T := TX12) (N := 89) hx hb hg iX12 tyX12 tyX12_ok nmX12 hown hK hW hS kd_66 rfl 6 (by decide) (hg (Cond.fieldLink RX12 205 "SlabWalkModel" "sort" "I") m1320) (fun _ h9 => h9) rfl (by decide +kernel) rfl rfl rfl dX12_token_229 (fun G_61 H locs eG_61 hW hS => ?_)
              have hB_G_61 : Bd G_61 := hB_G_54.put (lo := (-2147483648)) (hi := 2147483647) eG_61 rfl rfl rfl (tI_rng _).1 (tI_rng _).2 (hB_G_54.2.put eG_61 rfl)
              have hF := hF.put eG_61 (Or.inr (by decide))
              refine lv_aload_n hx hb dX12_token_232 rfl (lv_at hl 2 rfl) ?_
              refine S_getI (v := r_33) (C := RX12) (T := TX12) (N := 89) hx hb hg iX12 hown hK hW kd_66 rfl 6 (by decide) (hg (Cond.fieldLink RX12 205 "SlabWalkModel" "sort" "I") m1320) (fun _ h9 => h9) rfl (gp_eq eG_61) dX12_token_233 ?_
              refine lv_iconst (v := 3) hx hb dX12_token_236 (by decide) ?_
              refine lv_icmp_eq (tgt := 250) hx hb dX12_token_237 (by decide) (fun c_62 => ?_) (fun c_62 => ?_)
              · have c_62 : r_33.toInt = 3 := xI_eq rfl rfl c_62
                exact W.vret hx hb hr (fun t ht _ => ⟨⟨G_61, rfl, ⟨hB_G_61, hF⟩, wd_t ht hW⟩, hS.F ht⟩) hS.2.2 dX12_token_250
              · have c_62 : r_33.toInt ≠ 3 := xI_ne rfl rfl c_62
                refine lv_aload_n hx hb dX12_token_240 rfl (lv_at hl 2 rfl) ?_
                refine lv_dup hx hb dX12_token_241 rfl ?_
                refine S_getI (v := (G_1.1 66 4)) (C := RX12) (T := TX12) (N := 89) hx hb hg iX12 hown hK hW kd_66 rfl 4 (by decide) (hg (Cond.fieldLink RX12 185 "SlabWalkModel" "at" "I") m1318) (fun _ h9 => h9) rfl ((gp_ne eG_61 (by decide)).trans ((hq_55.i 66 4 (by decide) (by decide)).trans ((hq_49.i 66 4 (by decide) (by decide)).trans ((hq_43.i 66 4 (by decide) (by decide)).trans ((gp_ne eG_39 (by decide)).trans ((congrFun (congrFun (gp_l eG_38).1 66) 4).trans ((hq_35.i 66 4 (by decide) (by decide)).trans ((gp_ne eG_29 (by decide)).trans ((hq_25.i 66 4 (by decide) (by decide)).trans ((hq_13.i 66 4 (by decide) (by decide)).trans (rfl))))))))))) dX12_token_242 ?_
                refine lv_iload_n hx hb dX12_token_245 rfl (lv_at hl 0 rfl) ?_
                refine lv_iadd hx hb dX12_token_246 ?_
                refine lv_topi (fun y_63 ey_63 => ?_)
                have ty_63 : y_63.toInt = (G_1.1 66 4).toInt + 1 := xI_add rfl rfl ey_63 (by omega) (by omega)
                refine S_putI (ty := .int) (C := RX12) (T := TX12) (N := 89) hx hb hg iX12 tyX12 tyX12_ok nmX12 hown hK hW hS kd_66 rfl 4 (by decide) (hg (Cond.fieldLink RX12 185 "SlabWalkModel" "at" "I") m1318) (fun _ h9 => h9) rfl (by decide +kernel) rfl rfl rfl dX12_token_247 (fun G_64 H locs eG_64 hW hS => ?_)
                have hB_G_64 : Bd G_64 := hB_G_61.put (V := y_63.toInt) (lo := 0) (hi := 1600) eG_64 rfl rfl rfl (by omega) (by omega) (hB_G_61.2.put eG_64 rfl)
                have hF := hF.put eG_64 (Or.inr (by decide))
                exact W.vret hx hb hr (fun t ht _ => ⟨⟨G_64, rfl, ⟨hB_G_64, hF⟩, wd_t ht hW⟩, hS.F ht⟩) hS.2.2 dX12_token_250
          · have c_52 : r_47.toInt ≠ 0 := xI_ne rfl rfl c_52
            have g_70 : (G_48.1 66 4).toInt = (G_1.1 66 4).toInt := by rw [show G_48.1 66 4 = (G_1.1 66 4) from ((hq_49.i 66 4 (by decide) (by decide)).trans ((hq_43.i 66 4 (by decide) (by decide)).trans ((gp_ne eG_39 (by decide)).trans ((congrFun (congrFun (gp_l eG_38).1 66) 4).trans ((hq_35.i 66 4 (by decide) (by decide)).trans ((gp_ne eG_29 (by decide)).trans ((hq_25.i 66 4 (by decide) (by decide)).trans ((hq_13.i 66 4 (by decide) (by decide)).trans (rfl)))))))))]
            have g_71 : (G_48.1 66 5).toInt = (G.1 66 5).toInt := by rw [show G_48.1 66 5 = (G.1 66 5) from ((hq_49.i 66 5 (by decide) (by decide)).trans ((hq_43.i 66 5 (by decide) (by decide)).trans ((gp_ne eG_39 (by decide)).trans ((congrFun (congrFun (gp_l eG_38).1 66) 5).trans ((hq_35.i 66 5 (by decide) (by decide)).trans ((gp_ne eG_29 (by decide)).trans ((hq_25.i 66 5 (by decide) (by decide)).trans ((hq_13.i 66 5 (by decide) (by decide)).trans ((hq_2.i 66 5 (by decide) (by decide)).trans (rfl))))))))))]
            have qc_72 : (0 : Int32).toInt = 0 := rfl
            refine loop_N (Inv := fun n H locs ls => ∃ (G_65 : GS) (x_69 : Int32), (n : Int) = 1600 - x_69.toInt ∧ (0 ≤ x_69.toInt ∧ x_69.toInt ≤ 1600) ∧ ((G_65.1 66 4).toInt + x_69.toInt ≤ (G_65.1 66 5).toInt) ∧ Wd D k A a G_65 H ∧ Bd G_65 ∧ Fr [] [(66, 4), (66, 6), (66, 7), (66, 8), (66, 9)] G G_65 ∧ Fr [] [(66, 8)] G_48 G_65 ∧ va_S A s.heap H locs ∧ lv_has ls 3 [(2, .int x_69), (0, .ref (a 66))]) (fun n_68 H locs ls ih_67 hI => ?_) (1600 - 0 : Int).toNat ⟨G_48, 0, (Int.toNat_of_nonneg (by omega)), ⟨by omega, by omega⟩, (by omega), hW, hB_G_48, hF, Fr.rf, hS, lv_sub hl [0, 2] rfl⟩
            obtain ⟨G_65, x_69, hn_75, f_73, f_74, hW, hB_G_65, hF, hq_66, hS, hl⟩ := hI
            have g_76 : (G_65.1 66 4).toInt = (G_1.1 66 4).toInt := by rw [show G_65.1 66 4 = (G_1.1 66 4) from ((hq_66.i 66 4 (by decide) (by decide)).trans ((hq_49.i 66 4 (by decide) (by decide)).trans ((hq_43.i 66 4 (by decide) (by decide)).trans ((gp_ne eG_39 (by decide)).trans ((congrFun (congrFun (gp_l eG_38).1 66) 4).trans ((hq_35.i 66 4 (by decide) (by decide)).trans ((gp_ne eG_29 (by decide)).trans ((hq_25.i 66 4 (by decide) (by decide)).trans ((hq_13.i 66 4 (by decide) (by decide)).trans (rfl))))))))))]
            have g_77 : (G_65.1 66 5).toInt = (G.1 66 5).toInt := by rw [show G_65.1 66 5 = (G.1 66 5) from ((hq_66.i 66 5 (by decide) (by decide)).trans ((hq_49.i 66 5 (by decide) (by decide)).trans ((hq_43.i 66 5 (by decide) (by decide)).trans ((gp_ne eG_39 (by decide)).trans ((congrFun (congrFun (gp_l eG_38).1 66) 5).trans ((hq_35.i 66 5 (by decide) (by decide)).trans ((gp_ne eG_29 (by decide)).trans ((hq_25.i 66 5 (by decide) (by decide)).trans ((hq_13.i 66 5 (by decide) (by decide)).trans ((hq_2.i 66 5 (by decide) (by decide)).trans (rfl)))))))))))]
            refine lv_aload_n hx hb dX12_token_144 rfl (lv_at hl 1 rfl) ?_
            refine lv_iload_n hx hb dX12_token_145 rfl (lv_at hl 0 rfl) ?_
            have g_78 : (G_65.1 66 4).toInt = (G_1.1 66 4).toInt := by rw [show G_65.1 66 4 = (G_1.1 66 4) from ((hq_66.i 66 4 (by decide) (by decide)).trans ((hq_49.i 66 4 (by decide) (by decide)).trans ((hq_43.i 66 4 (by decide) (by decide)).trans ((gp_ne eG_39 (by decide)).trans ((congrFun (congrFun (gp_l eG_38).1 66) 4).trans ((hq_35.i 66 4 (by decide) (by decide)).trans ((gp_ne eG_29 (by decide)).trans ((hq_25.i 66 4 (by decide) (by decide)).trans ((hq_13.i 66 4 (by decide) (by decide)).trans (rfl))))))))))]
            have g_79 : (G_65.1 66 5).toInt = (G.1 66 5).toInt := by rw [show G_65.1 66 5 = (G.1 66 5) from ((hq_66.i 66 5 (by decide) (by decide)).trans ((hq_49.i 66 5 (by decide) (by decide)).trans ((hq_43.i 66 5 (by decide) (by decide)).trans ((gp_ne eG_39 (by decide)).trans ((congrFun (congrFun (gp_l eG_38).1 66) 5).trans ((hq_35.i 66 5 (by decide) (by decide)).trans ((gp_ne eG_29 (by decide)).trans ((hq_25.i 66 5 (by decide) (by decide)).trans ((hq_13.i 66 5 (by decide) (by decide)).trans ((hq_2.i 66 5 (by decide) (by decide)).trans (rfl)))))))))))]
            refine S_calli (va_runV (As := [.int x_69]) (rest := []) ⟨hx, hb, hml, hown, hts⟩ (n_here l D k A a z G_65 x_69 ⟨by omega, by omega⟩) (cwV 1 hts (gd_V hgd m1606 m1608 m51 m131 m1609) rfl rfl rfl (by decide +kernel) ⟨Nat.le_of_ble_eq_true rfl, Nat.le_of_ble_eq_true rfl⟩) (pre_V hW hB_G_65 hK hZ hS kd_66 rfl) rfl rfl hl.1 rfl (lv_room (Nat.le_of_ble_eq_true rfl)) dX12_token_146 ⟨Nat.le_of_ble_eq_true rfl, Nat.le_of_ble_eq_true rfl⟩) hS (fun r_80 G_81 H locs hpo hW hS => ?_)
            obtain ⟨hB_G_81, hq_82, f_84, hp_83⟩ := hpo
            have hF := hF.call hq_82 (by decide) (by decide)
            refine S_calli (va_runS (As := [.int r_80]) (rest := []) ⟨hx, hb, hml, hown, hts⟩ (n_digit l D k A a z G_81 r_80 ) (va_cwS 1 hts (gd_S hgd m1613 m1614 m131 m1615) rfl rfl rfl (by decide +kernel) ⟨Nat.le_of_ble_eq_true rfl, Nat.le_of_ble_eq_true rfl⟩) (pre_S hW hB_G_81 hK hZ hS) rfl rfl hl.1 rfl (lv_room (Nat.le_of_ble_eq_true rfl)) dX12_token_149 ⟨Nat.le_of_ble_eq_true rfl, Nat.le_of_ble_eq_true rfl⟩) hS (fun r_85 G_86 H locs hpo hW hS => ?_)
            obtain ⟨hB_G_86, hq_87, f_89, hp_88⟩ := hpo
            have hF := hF.call hq_87 (by decide) (by decide)
            refine lv_if_eq (tgt := 186) hx hb dX12_token_152 (by decide) (fun c_90 => ?_) (fun c_90 => ?_)
            · have c_90 : r_85.toInt = 0 := xI_eq rfl rfl c_90
              refine lv_aload_n hx hb dX12_token_186 rfl (lv_at hl 1 rfl) ?_
              refine lv_iload_n hx hb dX12_token_187 rfl (lv_at hl 0 rfl) ?_
              refine lv_iconst (v := 4) hx hb dX12_token_188 (by decide) ?_
              refine W.cut (σ := Unit) (pcJ := 203) (J := fun y H locs ls => ∃ (G_94 : GS), Wd D k A a G_94 H ∧ Bd G_94 ∧ Fr [] [(66, 4), (66, 6), (66, 7), (66, 8), (66, 9)] G G_94 ∧ Fr [] [(66, 4), (66, 6)] G_86 G_94 ∧ va_S A s.heap H locs ∧ lv_has ls 3 [(2, .int x_69), (0, .ref (a 66))]) (stJ := fun _ => [.ref (a 66)]) ?_ (fun hJ_95 => ?_)
              · intro y H locs ls hI
                obtain ⟨G_94, hW, hB_G_94, hF, hq_96, hS, hl⟩ := hI
                refine lv_iconst (v := 3) hx hb dX12_token_203 (by decide) ?_
                refine lv_goto (tgt := 208) hx hb dX12_token_204 (by decide) ?_
                refine S_putI (ty := .int) (C := RX12) (T := TX12) (N := 89) hx hb hg iX12 tyX12 tyX12_ok nmX12 hown hK hW hS kd_66 rfl 6 (by decide) (hg (Cond.fieldLink RX12 205 "SlabWalkModel" "sort" "I") m1320) (fun _ h9 => h9) rfl (by decide +kernel) rfl rfl rfl dX12_token_208 (fun G_97 H locs eG_97 hW hS => ?_)
                have hB_G_97 : Bd G_97 := hB_G_94.put (lo := (-2147483648)) (hi := 2147483647) eG_97 rfl rfl rfl (tI_rng _).1 (tI_rng _).2 (hB_G_94.2.put eG_97 rfl)
                have hF := hF.put eG_97 (Or.inr (by decide))
                refine lv_goto (tgt := 232) hx hb dX12_token_211 (by decide) ?_
                refine lv_aload_n hx hb dX12_token_232 rfl (lv_at hl 1 rfl) ?_
                refine S_getI (v := 3) (C := RX12) (T := TX12) (N := 89) hx hb hg iX12 hown hK hW kd_66 rfl 6 (by decide) (hg (Cond.fieldLink RX12 205 "SlabWalkModel" "sort" "I") m1320) (fun _ h9 => h9) rfl (gp_eq eG_97) dX12_token_233 ?_
                refine lv_iconst (v := 3) hx hb dX12_token_236 (by decide) ?_
                refine lv_icmp_eq (tgt := 250) hx hb dX12_token_237 (by decide) (fun c_98 => ?_) (fun c_98 => ?_)
                · have c_98 : (3 : Int) = (3 : Int) := xI_eq rfl rfl c_98
                  exact W.vret hx hb hr (fun t ht _ => ⟨⟨G_97, rfl, ⟨hB_G_97, hF⟩, wd_t ht hW⟩, hS.F ht⟩) hS.2.2 dX12_token_250
                · have c_98 : (3 : Int) ≠ (3 : Int) := xI_ne rfl rfl c_98
                  exfalso; omega
              refine lv_icmp_gt (tgt := 203) hx hb dX12_token_189 (by decide) (fun c_99 => ?_) (fun c_99 => ?_)
              · have c_99 : 4 < x_69.toInt := xI_lt rfl rfl c_99
                exact hJ_95 () _ _ _ ⟨G_86, hW, hB_G_86, hF, Fr.rf, hS, lv_sub hl [0, 1] rfl⟩
              · have c_99 : x_69.toInt ≤ 4 := xI_nlt rfl rfl c_99
                refine lv_aload_n hx hb dX12_token_192 rfl (lv_at hl 1 rfl) ?_
                refine lv_iload_n hx hb dX12_token_193 rfl (lv_at hl 0 rfl) ?_
                have g_100 : (G_86.1 66 4).toInt = (G_1.1 66 4).toInt := by rw [show G_86.1 66 4 = (G_1.1 66 4) from ((hq_87.i 66 4 (by decide) (by decide)).trans ((hq_82.i 66 4 (by decide) (by decide)).trans ((hq_66.i 66 4 (by decide) (by decide)).trans ((hq_49.i 66 4 (by decide) (by decide)).trans ((hq_43.i 66 4 (by decide) (by decide)).trans ((gp_ne eG_39 (by decide)).trans ((congrFun (congrFun (gp_l eG_38).1 66) 4).trans ((hq_35.i 66 4 (by decide) (by decide)).trans ((gp_ne eG_29 (by decide)).trans ((hq_25.i 66 4 (by decide) (by decide)).trans ((hq_13.i 66 4 (by decide) (by decide)).trans (rfl))))))))))))]
                have g_101 : (G_86.1 66 5).toInt = (G.1 66 5).toInt := by rw [show G_86.1 66 5 = (G.1 66 5) from ((hq_87.i 66 5 (by decide) (by decide)).trans ((hq_82.i 66 5 (by decide) (by decide)).trans ((hq_66.i 66 5 (by decide) (by decide)).trans ((hq_49.i 66 5 (by decide) (by decide)).trans ((hq_43.i 66 5 (by decide) (by decide)).trans ((gp_ne eG_39 (by decide)).trans ((congrFun (congrFun (gp_l eG_38).1 66) 5).trans ((hq_35.i 66 5 (by decide) (by decide)).trans ((gp_ne eG_29 (by decide)).trans ((hq_25.i 66 5 (by decide) (by decide)).trans ((hq_13.i 66 5 (by decide) (by decide)).trans ((hq_2.i 66 5 (by decide) (by decide)).trans (rfl)))))))))))))]
                refine S_calli (va_runV (As := [.int x_69]) (rest := [.ref (a 66)]) ⟨hx, hb, hml, hown, hts⟩ (n_here l D k A a z G_86 x_69 ⟨by omega, by omega⟩) (cwV 1 hts (gd_V hgd m1606 m1608 m51 m131 m1609) rfl rfl rfl (by decide +kernel) ⟨Nat.le_of_ble_eq_true rfl, Nat.le_of_ble_eq_true rfl⟩) (pre_V hW hB_G_86 hK hZ hS kd_66 rfl) rfl rfl hl.1 rfl (lv_room (Nat.le_of_ble_eq_true rfl)) dX12_token_194 ⟨Nat.le_of_ble_eq_true rfl, Nat.le_of_ble_eq_true rfl⟩) hS (fun r_102 G_103 H locs hpo hW hS => ?_)
                obtain ⟨hB_G_103, hq_104, f_106, hp_105⟩ := hpo
                have hF := hF.call hq_104 (by decide) (by decide)
                refine S_calli (va_runS (As := [.int r_102]) (rest := [.ref (a 66)]) ⟨hx, hb, hml, hown, hts⟩ (n_letter l D k A a z G_103 r_102 ) (va_cwS 1 hts (gd_S hgd m1610 m1611 m131 m1612) rfl rfl rfl (by decide +kernel) ⟨Nat.le_of_ble_eq_true rfl, Nat.le_of_ble_eq_true rfl⟩) (pre_S hW hB_G_103 hK hZ hS) rfl rfl hl.1 rfl (lv_room (Nat.le_of_ble_eq_true rfl)) dX12_token_197 ⟨Nat.le_of_ble_eq_true rfl, Nat.le_of_ble_eq_true rfl⟩) hS (fun r_107 G_108 H locs hpo hW hS => ?_)
                obtain ⟨hB_G_108, hq_109, f_111, hp_110⟩ := hpo
                have hF := hF.call hq_109 (by decide) (by decide)
                refine lv_if_eq (tgt := 207) hx hb dX12_token_200 (by decide) (fun c_112 => ?_) (fun c_112 => ?_)
                · have c_112 : r_107.toInt = 0 := xI_eq rfl rfl c_112
                  refine lv_iconst (v := 2) hx hb dX12_token_207 (by decide) ?_
                  refine S_putI (ty := .int) (C := RX12) (T := TX12) (N := 89) hx hb hg iX12 tyX12 tyX12_ok nmX12 hown hK hW hS kd_66 rfl 6 (by decide) (hg (Cond.fieldLink RX12 205 "SlabWalkModel" "sort" "I") m1320) (fun _ h9 => h9) rfl (by decide +kernel) rfl rfl rfl dX12_token_208 (fun G_113 H locs eG_113 hW hS => ?_)
                  have hB_G_113 : Bd G_113 := hB_G_108.put (lo := (-2147483648)) (hi := 2147483647) eG_113 rfl rfl rfl (tI_rng _).1 (tI_rng _).2 (hB_G_108.2.put eG_113 rfl)
                  have hF := hF.put eG_113 (Or.inr (by decide))
                  refine lv_goto (tgt := 232) hx hb dX12_token_211 (by decide) ?_
                  refine lv_aload_n hx hb dX12_token_232 rfl (lv_at hl 1 rfl) ?_
                  refine S_getI (v := 2) (C := RX12) (T := TX12) (N := 89) hx hb hg iX12 hown hK hW kd_66 rfl 6 (by decide) (hg (Cond.fieldLink RX12 205 "SlabWalkModel" "sort" "I") m1320) (fun _ h9 => h9) rfl (gp_eq eG_113) dX12_token_233 ?_
                  refine lv_iconst (v := 3) hx hb dX12_token_236 (by decide) ?_
                  refine lv_icmp_eq (tgt := 250) hx hb dX12_token_237 (by decide) (fun c_114 => ?_) (fun c_114 => ?_)
                  · have c_114 : (2 : Int) = (3 : Int) := xI_eq rfl rfl c_114
                    exfalso; omega
                  · have c_114 : (2 : Int) ≠ (3 : Int) := xI_ne rfl rfl c_114
                    refine lv_aload_n hx hb dX12_token_240 rfl (lv_at hl 1 rfl) ?_
                    refine lv_dup hx hb dX12_token_241 rfl ?_
                    refine S_getI (v := (G_1.1 66 4)) (C := RX12) (T := TX12) (N := 89) hx hb hg iX12 hown hK hW kd_66 rfl 4 (by decide) (hg (Cond.fieldLink RX12 185 "SlabWalkModel" "at" "I") m1318) (fun _ h9 => h9) rfl ((gp_ne eG_113 (by decide)).trans ((hq_109.i 66 4 (by decide) (by decide)).trans ((hq_104.i 66 4 (by decide) (by decide)).trans ((hq_87.i 66 4 (by decide) (by decide)).trans ((hq_82.i 66 4 (by decide) (by decide)).trans ((hq_66.i 66 4 (by decide) (by decide)).trans ((hq_49.i 66 4 (by decide) (by decide)).trans ((hq_43.i 66 4 (by decide) (by decide)).trans ((gp_ne eG_39 (by decide)).trans ((congrFun (congrFun (gp_l eG_38).1 66) 4).trans ((hq_35.i 66 4 (by decide) (by decide)).trans ((gp_ne eG_29 (by decide)).trans ((hq_25.i 66 4 (by decide) (by decide)).trans ((hq_13.i 66 4 (by decide) (by decide)).trans (rfl))))))))))))))) dX12_token_242 ?_
                    refine lv_iload_n hx hb dX12_token_245 rfl (lv_at hl 0 rfl) ?_
                    refine lv_iadd hx hb dX12_token_246 ?_
                    refine lv_topi (fun y_115 ey_115 => ?_)
                    have ty_115 : y_115.toInt = (G_1.1 66 4).toInt + x_69.toInt := xI_add rfl rfl ey_115 (by omega) (by omega)
                    refine S_putI (ty := .int) (C := RX12) (T := TX12) (N := 89) hx hb hg iX12 tyX12 tyX12_ok nmX12 hown hK hW hS kd_66 rfl 4 (by decide) (hg (Cond.fieldLink RX12 185 "SlabWalkModel" "at" "I") m1318) (fun _ h9 => h9) rfl (by decide +kernel) rfl rfl rfl dX12_token_247 (fun G_116 H locs eG_116 hW hS => ?_)
                    have hB_G_116 : Bd G_116 := hB_G_113.put (V := y_115.toInt) (lo := 0) (hi := 1600) eG_116 rfl rfl rfl (by omega) (by omega) (hB_G_113.2.put eG_116 rfl)
                    have hF := hF.put eG_116 (Or.inr (by decide))
                    exact W.vret hx hb hr (fun t ht _ => ⟨⟨G_116, rfl, ⟨hB_G_116, hF⟩, wd_t ht hW⟩, hS.F ht⟩) hS.2.2 dX12_token_250
                · have c_112 : r_107.toInt ≠ 0 := xI_ne rfl rfl c_112
                  exact hJ_95 () _ _ _ ⟨G_108, hW, hB_G_108, hF, ((Fr.rf.call hq_104 (by decide) (by decide)).call hq_109 (by decide) (by decide)), hS, lv_sub hl [0, 1] rfl⟩
            · have c_90 : r_85.toInt ≠ 0 := xI_ne rfl rfl c_90
              refine lv_iload_n hx hb dX12_token_155 rfl (lv_at hl 0 rfl) ?_
              refine lv_iconst (v := 4) hx hb dX12_token_156 (by decide) ?_
              refine lv_icmp_ge (tgt := 180) hx hb dX12_token_157 (by decide) (fun c_117 => ?_) (fun c_117 => ?_)
              · have c_117 : 4 ≤ x_69.toInt := xI_le rfl rfl c_117
                obtain ⟨y_118, ey_118⟩ : ∃ q, q = x_69 + 1 := ⟨_, rfl⟩
                have ty_118 : y_118.toInt = x_69.toInt + 1 := xI_add rfl rfl ey_118 (by omega) (by omega)
                refine lv_iinc (v := y_118) (lv' := [(2, .int y_118), (0, .ref (a 66))]) hx hb dX12_token_180 hl (k := 0) rfl (by rw [ey_118]; rfl) (by decide) rfl (fun ls hl => ?_)
                refine lv_goto (tgt := 144) hx hb dX12_token_183 (by decide) ?_
                have g_119 : (G_86.1 66 4).toInt = (G_1.1 66 4).toInt := by rw [show G_86.1 66 4 = (G_1.1 66 4) from ((hq_87.i 66 4 (by decide) (by decide)).trans ((hq_82.i 66 4 (by decide) (by decide)).trans ((hq_66.i 66 4 (by decide) (by decide)).trans ((hq_49.i 66 4 (by decide) (by decide)).trans ((hq_43.i 66 4 (by decide) (by decide)).trans ((gp_ne eG_39 (by decide)).trans ((congrFun (congrFun (gp_l eG_38).1 66) 4).trans ((hq_35.i 66 4 (by decide) (by decide)).trans ((gp_ne eG_29 (by decide)).trans ((hq_25.i 66 4 (by decide) (by decide)).trans ((hq_13.i 66 4 (by decide) (by decide)).trans (rfl))))))))))))]
                have g_120 : (G_86.1 66 5).toInt = (G.1 66 5).toInt := by rw [show G_86.1 66 5 = (G.1 66 5) from ((hq_87.i 66 5 (by decide) (by decide)).trans ((hq_82.i 66 5 (by decide) (by decide)).trans ((hq_66.i 66 5 (by decide) (by decide)).trans ((hq_49.i 66 5 (by decide) (by decide)).trans ((hq_43.i 66 5 (by decide) (by decide)).trans ((gp_ne eG_39 (by decide)).trans ((congrFun (congrFun (gp_l eG_38).1 66) 5).trans ((hq_35.i 66 5 (by decide) (by decide)).trans ((gp_ne eG_29 (by decide)).trans ((hq_25.i 66 5 (by decide) (by decide)).trans ((hq_13.i 66 5 (by decide) (by decide)).trans ((hq_2.i 66 5 (by decide) (by decide)).trans (rfl)))))))))))))]
                exact ih_67 (1600 - y_118.toInt : Int).toNat (by omega) _ _ _ ⟨G_86, y_118, (Int.toNat_of_nonneg (by omega)), ⟨by omega, by omega⟩, (by omega), hW, hB_G_86, hF, (((Fr.rf.call hq_66 (by decide) (by decide)).call hq_82 (by decide) (by decide)).call hq_87 (by decide) (by decide)), hS, lv_sub hl [0, 1] rfl⟩
              · have c_117 : x_69.toInt < 4 := xI_nle rfl rfl c_117
                refine lv_aload_n hx hb dX12_token_160 rfl (lv_at hl 1 rfl) ?_
                refine lv_bipush (v := 10) hx hb dX12_token_161 (by decide) ?_
                refine lv_aload_n hx hb dX12_token_163 rfl (lv_at hl 1 rfl) ?_
                refine S_getI (v := (G_65.1 66 8)) (C := RX12) (T := TX12) (N := 89) hx hb hg iX12 hown hK hW kd_66 rfl 8 (by decide) (hg (Cond.fieldLink RX12 202 "SlabWalkModel" "number" "I") m1322) (fun _ h9 => h9) rfl ((hq_87.i 66 8 (by decide) (by decide)).trans (hq_82.i 66 8 (by decide) (by decide))) dX12_token_164 ?_
                refine lv_imul hx hb dX12_token_167 ?_
                refine lv_topi (fun y_121 ey_121 => ?_)
                refine lv_aload_n hx hb dX12_token_168 rfl (lv_at hl 1 rfl) ?_
                refine lv_iload_n hx hb dX12_token_169 rfl (lv_at hl 0 rfl) ?_
                have g_122 : (G_86.1 66 4).toInt = (G_1.1 66 4).toInt := by rw [show G_86.1 66 4 = (G_1.1 66 4) from ((hq_87.i 66 4 (by decide) (by decide)).trans ((hq_82.i 66 4 (by decide) (by decide)).trans ((hq_66.i 66 4 (by decide) (by decide)).trans ((hq_49.i 66 4 (by decide) (by decide)).trans ((hq_43.i 66 4 (by decide) (by decide)).trans ((gp_ne eG_39 (by decide)).trans ((congrFun (congrFun (gp_l eG_38).1 66) 4).trans ((hq_35.i 66 4 (by decide) (by decide)).trans ((gp_ne eG_29 (by decide)).trans ((hq_25.i 66 4 (by decide) (by decide)).trans ((hq_13.i 66 4 (by decide) (by decide)).trans (rfl))))))))))))]
                have g_123 : (G_86.1 66 5).toInt = (G.1 66 5).toInt := by rw [show G_86.1 66 5 = (G.1 66 5) from ((hq_87.i 66 5 (by decide) (by decide)).trans ((hq_82.i 66 5 (by decide) (by decide)).trans ((hq_66.i 66 5 (by decide) (by decide)).trans ((hq_49.i 66 5 (by decide) (by decide)).trans ((hq_43.i 66 5 (by decide) (by decide)).trans ((gp_ne eG_39 (by decide)).trans ((congrFun (congrFun (gp_l eG_38).1 66) 5).trans ((hq_35.i 66 5 (by decide) (by decide)).trans ((gp_ne eG_29 (by decide)).trans ((hq_25.i 66 5 (by decide) (by decide)).trans ((hq_13.i 66 5 (by decide) (by decide)).trans ((hq_2.i 66 5 (by decide) (by decide)).trans (rfl)))))))))))))]
                refine S_calli (va_runV (As := [.int x_69]) (rest := [.int y_121, .ref (a 66)]) ⟨hx, hb, hml, hown, hts⟩ (n_here l D k A a z G_86 x_69 ⟨by omega, by omega⟩) (cwV 1 hts (gd_V hgd m1606 m1608 m51 m131 m1609) rfl rfl rfl (by decide +kernel) ⟨Nat.le_of_ble_eq_true rfl, Nat.le_of_ble_eq_true rfl⟩) (pre_V hW hB_G_86 hK hZ hS kd_66 rfl) rfl rfl hl.1 rfl (lv_room (Nat.le_of_ble_eq_true rfl)) dX12_token_170 ⟨Nat.le_of_ble_eq_true rfl, Nat.le_of_ble_eq_true rfl⟩) hS (fun r_124 G_125 H locs hpo hW hS => ?_)
                obtain ⟨hB_G_125, hq_126, f_128, hp_127⟩ := hpo
                have hF := hF.call hq_126 (by decide) (by decide)
                refine lv_iadd hx hb dX12_token_173 ?_
                refine lv_topi (fun y_129 ey_129 => ?_)
                refine lv_bipush (v := 48) hx hb dX12_token_174 (by decide) ?_
                refine lv_isub hx hb dX12_token_176 ?_
                refine lv_topi (fun y_130 ey_130 => ?_)
                refine S_putI (ty := .int) (C := RX12) (T := TX12) (N := 89) hx hb hg iX12 tyX12 tyX12_ok nmX12 hown hK hW hS kd_66 rfl 8 (by decide) (hg (Cond.fieldLink RX12 202 "SlabWalkModel" "number" "I") m1322) (fun _ h9 => h9) rfl (by decide +kernel) rfl rfl rfl dX12_token_177 (fun G_131 H locs eG_131 hW hS => ?_)
                have hB_G_131 : Bd G_131 := hB_G_125.put (lo := (-2147483648)) (hi := 2147483647) eG_131 rfl rfl rfl (tI_rng _).1 (tI_rng _).2 (hB_G_125.2.put eG_131 rfl)
                have hF := hF.put eG_131 (Or.inr (by decide))
                obtain ⟨y_132, ey_132⟩ : ∃ q, q = x_69 + 1 := ⟨_, rfl⟩
                have ty_132 : y_132.toInt = x_69.toInt + 1 := xI_add rfl rfl ey_132 (by omega) (by omega)
                refine lv_iinc (v := y_132) (lv' := [(2, .int y_132), (0, .ref (a 66))]) hx hb dX12_token_180 hl (k := 0) rfl (by rw [ey_132]; rfl) (by decide) rfl (fun ls hl => ?_)
                refine lv_goto (tgt := 144) hx hb dX12_token_183 (by decide) ?_
                have g_133 : (G_131.1 66 4).toInt = (G_1.1 66 4).toInt := by rw [show G_131.1 66 4 = (G_1.1 66 4) from ((gp_ne eG_131 (by decide)).trans ((hq_126.i 66 4 (by decide) (by decide)).trans ((hq_87.i 66 4 (by decide) (by decide)).trans ((hq_82.i 66 4 (by decide) (by decide)).trans ((hq_66.i 66 4 (by decide) (by decide)).trans ((hq_49.i 66 4 (by decide) (by decide)).trans ((hq_43.i 66 4 (by decide) (by decide)).trans ((gp_ne eG_39 (by decide)).trans ((congrFun (congrFun (gp_l eG_38).1 66) 4).trans ((hq_35.i 66 4 (by decide) (by decide)).trans ((gp_ne eG_29 (by decide)).trans ((hq_25.i 66 4 (by decide) (by decide)).trans ((hq_13.i 66 4 (by decide) (by decide)).trans (rfl))))))))))))))]
                have g_134 : (G_131.1 66 5).toInt = (G.1 66 5).toInt := by rw [show G_131.1 66 5 = (G.1 66 5) from ((gp_ne eG_131 (by decide)).trans ((hq_126.i 66 5 (by decide) (by decide)).trans ((hq_87.i 66 5 (by decide) (by decide)).trans ((hq_82.i 66 5 (by decide) (by decide)).trans ((hq_66.i 66 5 (by decide) (by decide)).trans ((hq_49.i 66 5 (by decide) (by decide)).trans ((hq_43.i 66 5 (by decide) (by decide)).trans ((gp_ne eG_39 (by decide)).trans ((congrFun (congrFun (gp_l eG_38).1 66) 5).trans ((hq_35.i 66 5 (by decide) (by decide)).trans ((gp_ne eG_29 (by decide)).trans ((hq_25.i 66 5 (by decide) (by decide)).trans ((hq_13.i 66 5 (by decide) (by decide)).trans ((hq_2.i 66 5 (by decide) (by decide)).trans (rfl)))))))))))))))]
                exact ih_67 (1600 - y_132.toInt : Int).toNat (by omega) _ _ _ ⟨G_131, y_132, (Int.toNat_of_nonneg (by omega)), ⟨by omega, by omega⟩, (by omega), hW, hB_G_131, hF, (((((Fr.rf.call hq_66 (by decide) (by decide)).call hq_82 (by decide) (by decide)).call hq_87 (by decide) (by decide)).call hq_126 (by decide) (by decide)).put eG_131 (Or.inr (by decide))), hS, lv_sub hl [0, 1] rfl⟩
        · have c_46 : r_41.toInt ≠ 0 := xI_ne rfl rfl c_46
          have g_140 : (G_42.1 66 4).toInt = (G_1.1 66 4).toInt := by rw [show G_42.1 66 4 = (G_1.1 66 4) from ((hq_43.i 66 4 (by decide) (by decide)).trans ((gp_ne eG_39 (by decide)).trans ((congrFun (congrFun (gp_l eG_38).1 66) 4).trans ((hq_35.i 66 4 (by decide) (by decide)).trans ((gp_ne eG_29 (by decide)).trans ((hq_25.i 66 4 (by decide) (by decide)).trans ((hq_13.i 66 4 (by decide) (by decide)).trans (rfl))))))))]
          have g_141 : (G_42.1 66 5).toInt = (G.1 66 5).toInt := by rw [show G_42.1 66 5 = (G.1 66 5) from ((hq_43.i 66 5 (by decide) (by decide)).trans ((gp_ne eG_39 (by decide)).trans ((congrFun (congrFun (gp_l eG_38).1 66) 5).trans ((hq_35.i 66 5 (by decide) (by decide)).trans ((gp_ne eG_29 (by decide)).trans ((hq_25.i 66 5 (by decide) (by decide)).trans ((hq_13.i 66 5 (by decide) (by decide)).trans ((hq_2.i 66 5 (by decide) (by decide)).trans (rfl)))))))))]
          have qc_142 : (0 : Int32).toInt = 0 := rfl
          refine loop_N (Inv := fun n H locs ls => ∃ (G_135 : GS) (x_139 : Int32), (n : Int) = 1600 - x_139.toInt ∧ (0 ≤ x_139.toInt ∧ x_139.toInt ≤ 1600) ∧ ((G_135.1 66 4).toInt + x_139.toInt ≤ (G_135.1 66 5).toInt) ∧ Wd D k A a G_135 H ∧ Bd G_135 ∧ Fr [] [(66, 4), (66, 6), (66, 7), (66, 8), (66, 9)] G G_135 ∧ Fr [] [(66, 9)] G_42 G_135 ∧ va_S A s.heap H locs ∧ lv_has ls 3 [(2, .int x_139), (0, .ref (a 66))]) (fun n_138 H locs ls ih_137 hI => ?_) (1600 - 0 : Int).toNat ⟨G_42, 0, (Int.toNat_of_nonneg (by omega)), ⟨by omega, by omega⟩, (by omega), hW, hB_G_42, hF, Fr.rf, hS, lv_sub hl [0, 2] rfl⟩
          obtain ⟨G_135, x_139, hn_145, f_143, f_144, hW, hB_G_135, hF, hq_136, hS, hl⟩ := hI
          have g_146 : (G_135.1 66 4).toInt = (G_1.1 66 4).toInt := by rw [show G_135.1 66 4 = (G_1.1 66 4) from ((hq_136.i 66 4 (by decide) (by decide)).trans ((hq_43.i 66 4 (by decide) (by decide)).trans ((gp_ne eG_39 (by decide)).trans ((congrFun (congrFun (gp_l eG_38).1 66) 4).trans ((hq_35.i 66 4 (by decide) (by decide)).trans ((gp_ne eG_29 (by decide)).trans ((hq_25.i 66 4 (by decide) (by decide)).trans ((hq_13.i 66 4 (by decide) (by decide)).trans (rfl)))))))))]
          have g_147 : (G_135.1 66 5).toInt = (G.1 66 5).toInt := by rw [show G_135.1 66 5 = (G.1 66 5) from ((hq_136.i 66 5 (by decide) (by decide)).trans ((hq_43.i 66 5 (by decide) (by decide)).trans ((gp_ne eG_39 (by decide)).trans ((congrFun (congrFun (gp_l eG_38).1 66) 5).trans ((hq_35.i 66 5 (by decide) (by decide)).trans ((gp_ne eG_29 (by decide)).trans ((hq_25.i 66 5 (by decide) (by decide)).trans ((hq_13.i 66 5 (by decide) (by decide)).trans ((hq_2.i 66 5 (by decide) (by decide)).trans (rfl))))))))))]
          refine lv_aload_n hx hb dX12_token_78 rfl (lv_at hl 1 rfl) ?_
          refine lv_iload_n hx hb dX12_token_79 rfl (lv_at hl 0 rfl) ?_
          have g_148 : (G_135.1 66 4).toInt = (G_1.1 66 4).toInt := by rw [show G_135.1 66 4 = (G_1.1 66 4) from ((hq_136.i 66 4 (by decide) (by decide)).trans ((hq_43.i 66 4 (by decide) (by decide)).trans ((gp_ne eG_39 (by decide)).trans ((congrFun (congrFun (gp_l eG_38).1 66) 4).trans ((hq_35.i 66 4 (by decide) (by decide)).trans ((gp_ne eG_29 (by decide)).trans ((hq_25.i 66 4 (by decide) (by decide)).trans ((hq_13.i 66 4 (by decide) (by decide)).trans (rfl)))))))))]
          have g_149 : (G_135.1 66 5).toInt = (G.1 66 5).toInt := by rw [show G_135.1 66 5 = (G.1 66 5) from ((hq_136.i 66 5 (by decide) (by decide)).trans ((hq_43.i 66 5 (by decide) (by decide)).trans ((gp_ne eG_39 (by decide)).trans ((congrFun (congrFun (gp_l eG_38).1 66) 5).trans ((hq_35.i 66 5 (by decide) (by decide)).trans ((gp_ne eG_29 (by decide)).trans ((hq_25.i 66 5 (by decide) (by decide)).trans ((hq_13.i 66 5 (by decide) (by decide)).trans ((hq_2.i 66 5 (by decide) (by decide)).trans (rfl))))))))))]
          refine S_calli (va_runV (As := [.int x_139]) (rest := []) ⟨hx, hb, hml, hown, hts⟩ (n_here l D k A a z G_135 x_139 ⟨by omega, by omega⟩) (cwV 1 hts (gd_V hgd m1606 m1608 m51 m131 m1609) rfl rfl rfl (by decide +kernel) ⟨Nat.le_of_ble_eq_true rfl, Nat.le_of_ble_eq_true rfl⟩) (pre_V hW hB_G_135 hK hZ hS kd_66 rfl) rfl rfl hl.1 rfl (lv_room (Nat.le_of_ble_eq_true rfl)) dX12_token_80 ⟨Nat.le_of_ble_eq_true rfl, Nat.le_of_ble_eq_true rfl⟩) hS (fun r_150 G_151 H locs hpo hW hS => ?_)
          obtain ⟨hB_G_151, hq_152, f_154, hp_153⟩ := hpo
          have hF := hF.call hq_152 (by decide) (by decide)
          refine S_calli (va_runS (As := [.int r_150]) (rest := []) ⟨hx, hb, hml, hown, hts⟩ (n_letter l D k A a z G_151 r_150 ) (va_cwS 1 hts (gd_S hgd m1610 m1611 m131 m1612) rfl rfl rfl (by decide +kernel) ⟨Nat.le_of_ble_eq_true rfl, Nat.le_of_ble_eq_true rfl⟩) (pre_S hW hB_G_151 hK hZ hS) rfl rfl hl.1 rfl (lv_room (Nat.le_of_ble_eq_true rfl)) dX12_token_83 ⟨Nat.le_of_ble_eq_true rfl, Nat.le_of_ble_eq_true rfl⟩) hS (fun r_155 G_156 H locs hpo hW hS => ?_)
          obtain ⟨hB_G_156, hq_157, f_159, hp_158⟩ := hpo
          have hF := hF.call hq_157 (by decide) (by decide)
          refine lv_if_eq (tgt := 119) hx hb dX12_token_86 (by decide) (fun c_160 => ?_) (fun c_160 => ?_)
          · have c_160 : r_155.toInt = 0 := xI_eq rfl rfl c_160
            refine lv_aload_n hx hb dX12_token_119 rfl (lv_at hl 1 rfl) ?_
            refine lv_iload_n hx hb dX12_token_120 rfl (lv_at hl 0 rfl) ?_
            refine lv_bipush (v := 8) hx hb dX12_token_121 (by decide) ?_
            refine lv_icmp_le (tgt := 130) hx hb dX12_token_123 (by decide) (fun c_161 => ?_) (fun c_161 => ?_)
            · have c_161 : x_139.toInt ≤ 8 := xI_le rfl rfl c_161
              refine lv_iconst (v := 1) hx hb dX12_token_130 (by decide) ?_
              refine S_putI (ty := .int) (C := RX12) (T := TX12) (N := 89) hx hb hg iX12 tyX12 tyX12_ok nmX12 hown hK hW hS kd_66 rfl 6 (by decide) (hg (Cond.fieldLink RX12 205 "SlabWalkModel" "sort" "I") m1320) (fun _ h9 => h9) rfl (by decide +kernel) rfl rfl rfl dX12_token_131 (fun G_162 H locs eG_162 hW hS => ?_)
              have hB_G_162 : Bd G_162 := hB_G_156.put (lo := (-2147483648)) (hi := 2147483647) eG_162 rfl rfl rfl (tI_rng _).1 (tI_rng _).2 (hB_G_156.2.put eG_162 rfl)
              have hF := hF.put eG_162 (Or.inr (by decide))
              refine lv_goto (tgt := 232) hx hb dX12_token_134 (by decide) ?_
              refine lv_aload_n hx hb dX12_token_232 rfl (lv_at hl 1 rfl) ?_
              refine S_getI (v := 1) (C := RX12) (T := TX12) (N := 89) hx hb hg iX12 hown hK hW kd_66 rfl 6 (by decide) (hg (Cond.fieldLink RX12 205 "SlabWalkModel" "sort" "I") m1320) (fun _ h9 => h9) rfl (gp_eq eG_162) dX12_token_233 ?_
              refine lv_iconst (v := 3) hx hb dX12_token_236 (by decide) ?_
              refine lv_icmp_eq (tgt := 250) hx hb dX12_token_237 (by decide) (fun c_163 => ?_) (fun c_163 => ?_)
              · have c_163 : (1 : Int) = (3 : Int) := xI_eq rfl rfl c_163
                exfalso; omega
              · have c_163 : (1 : Int) ≠ (3 : Int) := xI_ne rfl rfl c_163
                refine lv_aload_n hx hb dX12_token_240 rfl (lv_at hl 1 rfl) ?_
                refine lv_dup hx hb dX12_token_241 rfl ?_
                refine S_getI (v := (G_1.1 66 4)) (C := RX12) (T := TX12) (N := 89) hx hb hg iX12 hown hK hW kd_66 rfl 4 (by decide) (hg (Cond.fieldLink RX12 185 "SlabWalkModel" "at" "I") m1318) (fun _ h9 => h9) rfl ((gp_ne eG_162 (by decide)).trans ((hq_157.i 66 4 (by decide) (by decide)).trans ((hq_152.i 66 4 (by decide) (by decide)).trans ((hq_136.i 66 4 (by decide) (by decide)).trans ((hq_43.i 66 4 (by decide) (by decide)).trans ((gp_ne eG_39 (by decide)).trans ((congrFun (congrFun (gp_l eG_38).1 66) 4).trans ((hq_35.i 66 4 (by decide) (by decide)).trans ((gp_ne eG_29 (by decide)).trans ((hq_25.i 66 4 (by decide) (by decide)).trans ((hq_13.i 66 4 (by decide) (by decide)).trans (rfl)))))))))))) dX12_token_242 ?_
                refine lv_iload_n hx hb dX12_token_245 rfl (lv_at hl 0 rfl) ?_
                refine lv_iadd hx hb dX12_token_246 ?_
                refine lv_topi (fun y_164 ey_164 => ?_)
                have ty_164 : y_164.toInt = (G_1.1 66 4).toInt + x_139.toInt := xI_add rfl rfl ey_164 (by omega) (by omega)
                refine S_putI (ty := .int) (C := RX12) (T := TX12) (N := 89) hx hb hg iX12 tyX12 tyX12_ok nmX12 hown hK hW hS kd_66 rfl 4 (by decide) (hg (Cond.fieldLink RX12 185 "SlabWalkModel" "at" "I") m1318) (fun _ h9 => h9) rfl (by decide +kernel) rfl rfl rfl dX12_token_247 (fun G_165 H locs eG_165 hW hS => ?_)
                have hB_G_165 : Bd G_165 := hB_G_162.put (V := y_164.toInt) (lo := 0) (hi := 1600) eG_165 rfl rfl rfl (by omega) (by omega) (hB_G_162.2.put eG_165 rfl)
                have hF := hF.put eG_165 (Or.inr (by decide))
                exact W.vret hx hb hr (fun t ht _ => ⟨⟨G_165, rfl, ⟨hB_G_165, hF⟩, wd_t ht hW⟩, hS.F ht⟩) hS.2.2 dX12_token_250
            · have c_161 : 8 < x_139.toInt := xI_nle rfl rfl c_161
              refine lv_iconst (v := 3) hx hb dX12_token_126 (by decide) ?_
              refine lv_goto (tgt := 131) hx hb dX12_token_127 (by decide) ?_
              refine S_putI (ty := .int) (C := RX12) (T := TX12) (N := 89) hx hb hg iX12 tyX12 tyX12_ok nmX12 hown hK hW hS kd_66 rfl 6 (by decide) (hg (Cond.fieldLink RX12 205 "SlabWalkModel" "sort" "I") m1320) (fun _ h9 => h9) rfl (by decide +kernel) rfl rfl rfl dX12_token_131 (fun G_166 H locs eG_166 hW hS => ?_)
              have hB_G_166 : Bd G_166 := hB_G_156.put (lo := (-2147483648)) (hi := 2147483647) eG_166 rfl rfl rfl (tI_rng _).1 (tI_rng _).2 (hB_G_156.2.put eG_166 rfl)
              have hF := hF.put eG_166 (Or.inr (by decide))
              refine lv_goto (tgt := 232) hx hb dX12_token_134 (by decide) ?_
              refine lv_aload_n hx hb dX12_token_232 rfl (lv_at hl 1 rfl) ?_
              refine S_getI (v := 3) (C := RX12) (T := TX12) (N := 89) hx hb hg iX12 hown hK hW kd_66 rfl 6 (by decide) (hg (Cond.fieldLink RX12 205 "SlabWalkModel" "sort" "I") m1320) (fun _ h9 => h9) rfl (gp_eq eG_166) dX12_token_233 ?_
              refine lv_iconst (v := 3) hx hb dX12_token_236 (by decide) ?_
              refine lv_icmp_eq (tgt := 250) hx hb dX12_token_237 (by decide) (fun c_167 => ?_) (fun c_167 => ?_)
              · have c_167 : (3 : Int) = (3 : Int) := xI_eq rfl rfl c_167
                exact W.vret hx hb hr (fun t ht _ => ⟨⟨G_166, rfl, ⟨hB_G_166, hF⟩, wd_t ht hW⟩, hS.F ht⟩) hS.2.2 dX12_token_250
              · have c_167 : (3 : Int) ≠ (3 : Int) := xI_ne rfl rfl c_167
                exfalso; omega
          · have c_160 : r_155.toInt ≠ 0 := xI_ne rfl rfl c_160
            refine lv_iload_n hx hb dX12_token_89 rfl (lv_at hl 0 rfl) ?_
            refine lv_bipush (v := 8) hx hb dX12_token_90 (by decide) ?_
            refine lv_icmp_ge (tgt := 113) hx hb dX12_token_92 (by decide) (fun c_168 => ?_) (fun c_168 => ?_)
            · have c_168 : 8 ≤ x_139.toInt := xI_le rfl rfl c_168
              obtain ⟨y_169, ey_169⟩ : ∃ q, q = x_139 + 1 := ⟨_, rfl⟩
              have ty_169 : y_169.toInt = x_139.toInt + 1 := xI_add rfl rfl ey_169 (by omega) (by omega)
              refine lv_iinc (v := y_169) (lv' := [(2, .int y_169), (0, .ref (a 66))]) hx hb dX12_token_113 hl (k := 0) rfl (by rw [ey_169]; rfl) (by decide) rfl (fun ls hl => ?_)
              refine lv_goto (tgt := 78) hx hb dX12_token_116 (by decide) ?_
              have g_170 : (G_156.1 66 4).toInt = (G_1.1 66 4).toInt := by rw [show G_156.1 66 4 = (G_1.1 66 4) from ((hq_157.i 66 4 (by decide) (by decide)).trans ((hq_152.i 66 4 (by decide) (by decide)).trans ((hq_136.i 66 4 (by decide) (by decide)).trans ((hq_43.i 66 4 (by decide) (by decide)).trans ((gp_ne eG_39 (by decide)).trans ((congrFun (congrFun (gp_l eG_38).1 66) 4).trans ((hq_35.i 66 4 (by decide) (by decide)).trans ((gp_ne eG_29 (by decide)).trans ((hq_25.i 66 4 (by decide) (by decide)).trans ((hq_13.i 66 4 (by decide) (by decide)).trans (rfl)))))))))))]
              have g_171 : (G_156.1 66 5).toInt = (G.1 66 5).toInt := by rw [show G_156.1 66 5 = (G.1 66 5) from ((hq_157.i 66 5 (by decide) (by decide)).trans ((hq_152.i 66 5 (by decide) (by decide)).trans ((hq_136.i 66 5 (by decide) (by decide)).trans ((hq_43.i 66 5 (by decide) (by decide)).trans ((gp_ne eG_39 (by decide)).trans ((congrFun (congrFun (gp_l eG_38).1 66) 5).trans ((hq_35.i 66 5 (by decide) (by decide)).trans ((gp_ne eG_29 (by decide)).trans ((hq_25.i 66 5 (by decide) (by decide)).trans ((hq_13.i 66 5 (by decide) (by decide)).trans ((hq_2.i 66 5 (by decide) (by decide)).trans (rfl))))))))))))]
              exact ih_137 (1600 - y_169.toInt : Int).toNat (by omega) _ _ _ ⟨G_156, y_169, (Int.toNat_of_nonneg (by omega)), ⟨by omega, by omega⟩, (by omega), hW, hB_G_156, hF, (((Fr.rf.call hq_136 (by decide) (by decide)).call hq_152 (by decide) (by decide)).call hq_157 (by decide) (by decide)), hS, lv_sub hl [0, 1] rfl⟩
            · have c_168 : x_139.toInt < 8 := xI_nle rfl rfl c_168
              refine lv_aload_n hx hb dX12_token_95 rfl (lv_at hl 1 rfl) ?_
              refine lv_aload_n hx hb dX12_token_96 rfl (lv_at hl 1 rfl) ?_
              obtain ⟨y_172, ey_172⟩ : ∃ q, G_156.2.1 66 9 = q := ⟨_, rfl⟩
              refine S_getL (v := y_172) (C := RX12) (T := TX12) (N := 89) hx hb hg iX12 hown hK hW kd_66 rfl 9 (by decide) (hg (Cond.fieldLink RX12 198 "SlabWalkModel" "word" "J") m1323) (fun _ h9 => h9) rfl ey_172 dX12_token_97 ?_
              refine lv_bipush (v := 8) hx hb dX12_token_100 (by decide) ?_
              refine lv_lshl hx hb dX12_token_102 rfl ?_
              refine lv_topl (fun y_173 ey_173 => ?_)
              refine lv_aload_n hx hb dX12_token_103 rfl (lv_at hl 1 rfl) ?_
              refine lv_iload_n hx hb dX12_token_104 rfl (lv_at hl 0 rfl) ?_
              have g_174 : (G_156.1 66 4).toInt = (G_1.1 66 4).toInt := by rw [show G_156.1 66 4 = (G_1.1 66 4) from ((hq_157.i 66 4 (by decide) (by decide)).trans ((hq_152.i 66 4 (by decide) (by decide)).trans ((hq_136.i 66 4 (by decide) (by decide)).trans ((hq_43.i 66 4 (by decide) (by decide)).trans ((gp_ne eG_39 (by decide)).trans ((congrFun (congrFun (gp_l eG_38).1 66) 4).trans ((hq_35.i 66 4 (by decide) (by decide)).trans ((gp_ne eG_29 (by decide)).trans ((hq_25.i 66 4 (by decide) (by decide)).trans ((hq_13.i 66 4 (by decide) (by decide)).trans (rfl)))))))))))]
              have g_175 : (G_156.1 66 5).toInt = (G.1 66 5).toInt := by rw [show G_156.1 66 5 = (G.1 66 5) from ((hq_157.i 66 5 (by decide) (by decide)).trans ((hq_152.i 66 5 (by decide) (by decide)).trans ((hq_136.i 66 5 (by decide) (by decide)).trans ((hq_43.i 66 5 (by decide) (by decide)).trans ((gp_ne eG_39 (by decide)).trans ((congrFun (congrFun (gp_l eG_38).1 66) 5).trans ((hq_35.i 66 5 (by decide) (by decide)).trans ((gp_ne eG_29 (by decide)).trans ((hq_25.i 66 5 (by decide) (by decide)).trans ((hq_13.i 66 5 (by decide) (by decide)).trans ((hq_2.i 66 5 (by decide) (by decide)).trans (rfl))))))))))))]
              refine S_calli (va_runV (As := [.int x_139]) (rest := [.long y_173, .ref (a 66)]) ⟨hx, hb, hml, hown, hts⟩ (n_here l D k A a z G_156 x_139 ⟨by omega, by omega⟩) (cwV 1 hts (gd_V hgd m1606 m1608 m51 m131 m1609) rfl rfl rfl (by decide +kernel) ⟨Nat.le_of_ble_eq_true rfl, Nat.le_of_ble_eq_true rfl⟩) (pre_V hW hB_G_156 hK hZ hS kd_66 rfl) rfl rfl hl.1 rfl (lv_room (Nat.le_of_ble_eq_true rfl)) dX12_token_105 ⟨Nat.le_of_ble_eq_true rfl, Nat.le_of_ble_eq_true rfl⟩) hS (fun r_176 G_177 H locs hpo hW hS => ?_)
              obtain ⟨hB_G_177, hq_178, f_180, hp_179⟩ := hpo
              have hF := hF.call hq_178 (by decide) (by decide)
              refine lv_i2l hx hb dX12_token_108 rfl ?_
              refine lv_topl (fun y_181 ey_181 => ?_)
              refine lv_lor hx hb dX12_token_109 ?_
              refine lv_topl (fun y_182 ey_182 => ?_)
              refine S_putL (C := RX12) (T := TX12) (N := 89) hx hb hg iX12 tyX12 tyX12_ok nmX12 hown hK hW hS kd_66 rfl 9 (by decide) (hg (Cond.fieldLink RX12 198 "SlabWalkModel" "word" "J") m1323) (fun _ h9 => h9) rfl (by decide +kernel) rfl dX12_token_110 (fun G_183 H locs eG_183 hW hS => ?_)
              have hB_G_183 : Bd G_183 := hB_G_177.putl eG_183
              have hF := hF.putl eG_183 (Or.inr (by decide))
              obtain ⟨y_184, ey_184⟩ : ∃ q, q = x_139 + 1 := ⟨_, rfl⟩
              have ty_184 : y_184.toInt = x_139.toInt + 1 := xI_add rfl rfl ey_184 (by omega) (by omega)
              refine lv_iinc (v := y_184) (lv' := [(2, .int y_184), (0, .ref (a 66))]) hx hb dX12_token_113 hl (k := 0) rfl (by rw [ey_184]; rfl) (by decide) rfl (fun ls hl => ?_)
              refine lv_goto (tgt := 78) hx hb dX12_token_116 (by decide) ?_
              have g_185 : (G_183.1 66 4).toInt = (G_1.1 66 4).toInt := by rw [show G_183.1 66 4 = (G_1.1 66 4) from ((congrFun (congrFun (gp_l eG_183).1 66) 4).trans ((hq_178.i 66 4 (by decide) (by decide)).trans ((hq_157.i 66 4 (by decide) (by decide)).trans ((hq_152.i 66 4 (by decide) (by decide)).trans ((hq_136.i 66 4 (by decide) (by decide)).trans ((hq_43.i 66 4 (by decide) (by decide)).trans ((gp_ne eG_39 (by decide)).trans ((congrFun (congrFun (gp_l eG_38).1 66) 4).trans ((hq_35.i 66 4 (by decide) (by decide)).trans ((gp_ne eG_29 (by decide)).trans ((hq_25.i 66 4 (by decide) (by decide)).trans ((hq_13.i 66 4 (by decide) (by decide)).trans (rfl)))))))))))))]
              have g_186 : (G_183.1 66 5).toInt = (G.1 66 5).toInt := by rw [show G_183.1 66 5 = (G.1 66 5) from ((congrFun (congrFun (gp_l eG_183).1 66) 5).trans ((hq_178.i 66 5 (by decide) (by decide)).trans ((hq_157.i 66 5 (by decide) (by decide)).trans ((hq_152.i 66 5 (by decide) (by decide)).trans ((hq_136.i 66 5 (by decide) (by decide)).trans ((hq_43.i 66 5 (by decide) (by decide)).trans ((gp_ne eG_39 (by decide)).trans ((congrFun (congrFun (gp_l eG_38).1 66) 5).trans ((hq_35.i 66 5 (by decide) (by decide)).trans ((gp_ne eG_29 (by decide)).trans ((hq_25.i 66 5 (by decide) (by decide)).trans ((hq_13.i 66 5 (by decide) (by decide)).trans ((hq_2.i 66 5 (by decide) (by decide)).trans (rfl))))))))))))))]
              exact ih_137 (1600 - y_184.toInt : Int).toNat (by omega) _ _ _ ⟨G_183, y_184, (Int.toNat_of_nonneg (by omega)), ⟨by omega, by omega⟩, (by omega), hW, hB_G_183, hF, (((((Fr.rf.call hq_136 (by decide) (by decide)).call hq_152 (by decide) (by decide)).call hq_157 (by decide) (by decide)).call hq_178 (by decide) (by decide)).putl eG_183 (Or.inr (by decide))), hS, lv_sub hl [0, 1] rfl⟩
      · have c_40 : r_33.toInt < 0 := xI_nle rfl rfl c_40
        refine lv_aload_n hx hb dX12_token_63 rfl (lv_at hl 2 rfl) ?_
        refine lv_iconst (v := 0) hx hb dX12_token_64 (by decide) ?_
        refine S_putI (ty := .int) (C := RX12) (T := TX12) (N := 89) hx hb hg iX12 tyX12 tyX12_ok nmX12 hown hK hW hS kd_66 rfl 6 (by decide) (hg (Cond.fieldLink RX12 205 "SlabWalkModel" "sort" "I") m1320) (fun _ h9 => h9) rfl (by decide +kernel) rfl rfl rfl dX12_token_65 (fun G_187 H locs eG_187 hW hS => ?_)
        have hB_G_187 : Bd G_187 := hB_G_39.put (lo := (-2147483648)) (hi := 2147483647) eG_187 rfl rfl rfl (tI_rng _).1 (tI_rng _).2 (hB_G_39.2.put eG_187 rfl)
        have hF := hF.put eG_187 (Or.inr (by decide))
        refine lv_goto (tgt := 232) hx hb dX12_token_68 (by decide) ?_
        refine lv_aload_n hx hb dX12_token_232 rfl (lv_at hl 2 rfl) ?_
        refine S_getI (v := 0) (C := RX12) (T := TX12) (N := 89) hx hb hg iX12 hown hK hW kd_66 rfl 6 (by decide) (hg (Cond.fieldLink RX12 205 "SlabWalkModel" "sort" "I") m1320) (fun _ h9 => h9) rfl (gp_eq eG_187) dX12_token_233 ?_
        refine lv_iconst (v := 3) hx hb dX12_token_236 (by decide) ?_
        refine lv_icmp_eq (tgt := 250) hx hb dX12_token_237 (by decide) (fun c_188 => ?_) (fun c_188 => ?_)
        · have c_188 : (0 : Int) = (3 : Int) := xI_eq rfl rfl c_188
          exfalso; omega
        · have c_188 : (0 : Int) ≠ (3 : Int) := xI_ne rfl rfl c_188
          refine lv_aload_n hx hb dX12_token_240 rfl (lv_at hl 2 rfl) ?_
          refine lv_dup hx hb dX12_token_241 rfl ?_
          refine S_getI (v := (G_1.1 66 4)) (C := RX12) (T := TX12) (N := 89) hx hb hg iX12 hown hK hW kd_66 rfl 4 (by decide) (hg (Cond.fieldLink RX12 185 "SlabWalkModel" "at" "I") m1318) (fun _ h9 => h9) rfl ((gp_ne eG_187 (by decide)).trans ((gp_ne eG_39 (by decide)).trans ((congrFun (congrFun (gp_l eG_38).1 66) 4).trans ((hq_35.i 66 4 (by decide) (by decide)).trans ((gp_ne eG_29 (by decide)).trans ((hq_25.i 66 4 (by decide) (by decide)).trans ((hq_13.i 66 4 (by decide) (by decide)).trans (rfl)))))))) dX12_token_242 ?_
          refine lv_iload_n hx hb dX12_token_245 rfl (lv_at hl 0 rfl) ?_
          refine lv_iadd hx hb dX12_token_246 ?_
          refine lv_topi (fun y_189 ey_189 => ?_)
          have ty_189 : y_189.toInt = (G_1.1 66 4).toInt + 0 := xI_add rfl rfl ey_189 (by omega) (by omega)
          refine S_putI (ty := .int) (C := RX12) (T := TX12) (N := 89) hx hb hg iX12 tyX12 tyX12_ok nmX12 hown hK hW hS kd_66 rfl 4 (by decide) (hg (Cond.fieldLink RX12 185 "SlabWalkModel" "at" "I") m1318) (fun _ h9 => h9) rfl (by decide +kernel) rfl rfl rfl dX12_token_247 (fun G_190 H locs eG_190 hW hS => ?_)
          have hB_G_190 : Bd G_190 := hB_G_187.put (V := y_189.toInt) (lo := 0) (hi := 1600) eG_190 rfl rfl rfl (by omega) (by omega) (hB_G_187.2.put eG_190 rfl)
          have hF := hF.put eG_190 (Or.inr (by decide))
          exact W.vret hx hb hr (fun t ht _ => ⟨⟨G_190, rfl, ⟨hB_G_190, hF⟩, wd_t ht hW⟩, hS.F ht⟩) hS.2.2 dX12_token_250
    · have c_28 : r_23.toInt = 10 := xI_eq rfl rfl c_28
      refine lv_aload_n hx hb dX12_token_20 rfl (lv_at hl 0 rfl) ?_
      refine lv_dup hx hb dX12_token_21 rfl ?_
      refine S_getI (v := (G_1.1 66 4)) (C := RX12) (T := TX12) (N := 89) hx hb hg iX12 hown hK hW kd_66 rfl 4 (by decide) (hg (Cond.fieldLink RX12 185 "SlabWalkModel" "at" "I") m1318) (fun _ h9 => h9) rfl ((hq_25.i 66 4 (by decide) (by decide)).trans ((hq_13.i 66 4 (by decide) (by decide)).trans (rfl))) dX12_token_22 ?_
      refine lv_iconst (v := 1) hx hb dX12_token_25 (by decide) ?_
      refine lv_iadd hx hb dX12_token_26 ?_
      refine lv_topi (fun y_191 ey_191 => ?_)
      have ty_191 : y_191.toInt = (G_1.1 66 4).toInt + 1 := xI_add rfl rfl ey_191 (by omega) (by omega)
      refine S_putI (ty := .int) (C := RX12) (T := TX12) (N := 89) hx hb hg iX12 tyX12 tyX12_ok nmX12 hown hK hW hS kd_66 rfl 4 (by decide) (hg (Cond.fieldLink RX12 185 "SlabWalkModel" "at" "I") m1318) (fun _ h9 => h9) rfl (by decide +kernel) rfl rfl rfl dX12_token_27 (fun G_192 H locs eG_192 hW hS => ?_)
      have hB_G_192 : Bd G_192 := hB_G_24.put (V := y_191.toInt) (lo := 0) (hi := 1600) eG_192 rfl rfl rfl (by omega) (by omega) (hB_G_24.2.put eG_192 rfl)
      have hF := hF.put eG_192 (Or.inr (by decide))
      refine lv_goto (tgt := 0) hx hb dX12_token_30 (by decide) ?_
      have g_193 : (G_192.1 66 4).toInt = y_191.toInt := by rw [show G_192.1 66 4 = y_191 from (gp_eq eG_192)]
      exact ih_3 (1600 - (G_192.1 66 4).toInt : Int).toNat (by omega) _ _ _ ⟨G_192, (Int.toNat_of_nonneg (by omega)), hW, hB_G_192, hF, ((((Fr.rf.call hq_2 (by decide) (by decide)).call hq_13 (by decide) (by decide)).call hq_25 (by decide) (by decide)).put eG_192 (Or.inr (by decide))), hS, lv_sub hl [0] rfl⟩
