theorem m51 : Cond.selects RX12 yX12_here yX12_here ∈ gd := gd_mem 51 (by decide +kernel) (by decide +kernel)
theorem m1320 : Cond.fieldLink RX12 205 "SlabWalkModel" "sort" "I" ∈ gd := gd_mem 1320 (by decide +kernel) (by decide +kernel)
theorem m1321 : Cond.fieldLink RX12 195 "SlabWalkModel" "place" "I" ∈ gd := gd_mem 1321 (by decide +kernel) (by decide +kernel)
theorem m1322 : Cond.fieldLink RX12 202 "SlabWalkModel" "number" "I" ∈ gd := gd_mem 1322 (by decide +kernel) (by decide +kernel)
theorem m1323 : Cond.fieldLink RX12 198 "SlabWalkModel" "word" "J" ∈ gd := gd_mem 1323 (by decide +kernel) (by decide +kernel)
theorem m1606 : Cond.methodLink RX12 191 yX12_here ∈ gd := gd_mem 1606 (by decide +kernel) (by decide +kernel)
theorem m1608 : Cond.instanceMethod yX12_here ∈ gd := gd_mem 1608 (by decide +kernel) (by decide +kernel)
theorem m1609 : Cond.code yX12_here cX12_here 2 (some .int) ∈ gd := gd_mem 1609 (by decide +kernel) (by decide +kernel)
theorem m1610 : Cond.methodLink RX12 208 yX12_isLetter ∈ gd := gd_mem 1610 (by decide +kernel) (by decide +kernel)
theorem m1611 : Cond.static yX12_isLetter ∈ gd := gd_mem 1611 (by decide +kernel) (by decide +kernel)
theorem m1612 : Cond.code yX12_isLetter cX12_isLetter 1 (some .boolean) ∈ gd := gd_mem 1612 (by decide +kernel) (by decide +kernel)
theorem m1613 : Cond.methodLink RX12 212 yX12_isDigit ∈ gd := gd_mem 1613 (by decide +kernel) (by decide +kernel)
theorem m1614 : Cond.static yX12_isDigit ∈ gd := gd_mem 1614 (by decide +kernel) (by decide +kernel)
theorem m1615 : Cond.code yX12_isDigit cX12_isDigit 1 (some .boolean) ∈ gd := gd_mem 1615 (by decide +kernel) (by decide +kernel)
theorem m1616 : Cond.methodLink RX12 215 yX12_isSign ∈ gd := gd_mem 1616 (by decide +kernel) (by decide +kernel)
theorem m1617 : Cond.static yX12_isSign ∈ gd := gd_mem 1617 (by decide +kernel) (by decide +kernel)
theorem m1618 : Cond.code yX12_isSign cX12_isSign 1 (some .boolean) ∈ gd := gd_mem 1618 (by decide +kernel) (by decide +kernel)
theorem dX12_token_0 : decode cX12_token 0 = .ok (.aload_n 0, 1) := by decide +kernel
theorem dX12_token_1 : decode cX12_token 1 = .ok (.iconst 0, 1) := by decide +kernel
theorem dX12_token_2 : decode cX12_token 2 = .ok (.invokevirtual 191, 3) := by decide +kernel
theorem dX12_token_5 : decode cX12_token 5 = .ok (.bipush 32, 2) := by decide +kernel
theorem dX12_token_7 : decode cX12_token 7 = .ok (.if_icmp .eq 13, 3) := by decide +kernel
theorem dX12_token_10 : decode cX12_token 10 = .ok (.aload_n 0, 1) := by decide +kernel
theorem dX12_token_11 : decode cX12_token 11 = .ok (.iconst 0, 1) := by decide +kernel
theorem dX12_token_12 : decode cX12_token 12 = .ok (.invokevirtual 191, 3) := by decide +kernel
theorem dX12_token_15 : decode cX12_token 15 = .ok (.bipush 10, 2) := by decide +kernel
theorem dX12_token_17 : decode cX12_token 17 = .ok (.if_icmp .ne 16, 3) := by decide +kernel
theorem dX12_token_20 : decode cX12_token 20 = .ok (.aload_n 0, 1) := by decide +kernel
theorem dX12_token_21 : decode cX12_token 21 = .ok (.dup, 1) := by decide +kernel
theorem dX12_token_22 : decode cX12_token 22 = .ok (.getfield 185, 3) := by decide +kernel
theorem dX12_token_25 : decode cX12_token 25 = .ok (.iconst 1, 1) := by decide +kernel
theorem dX12_token_26 : decode cX12_token 26 = .ok (.iadd, 1) := by decide +kernel
theorem dX12_token_27 : decode cX12_token 27 = .ok (.putfield 185, 3) := by decide +kernel
theorem dX12_token_30 : decode cX12_token 30 = .ok (.goto (-30), 3) := by decide +kernel
theorem dX12_token_33 : decode cX12_token 33 = .ok (.aload_n 0, 1) := by decide +kernel
theorem dX12_token_34 : decode cX12_token 34 = .ok (.aload_n 0, 1) := by decide +kernel
theorem dX12_token_35 : decode cX12_token 35 = .ok (.getfield 185, 3) := by decide +kernel
theorem dX12_token_38 : decode cX12_token 38 = .ok (.putfield 195, 3) := by decide +kernel
theorem dX12_token_41 : decode cX12_token 41 = .ok (.aload_n 0, 1) := by decide +kernel
theorem dX12_token_42 : decode cX12_token 42 = .ok (.iconst 0, 1) := by decide +kernel
theorem dX12_token_43 : decode cX12_token 43 = .ok (.invokevirtual 191, 3) := by decide +kernel
theorem dX12_token_46 : decode cX12_token 46 = .ok (.istore_n 1, 1) := by decide +kernel
theorem dX12_token_47 : decode cX12_token 47 = .ok (.iconst 0, 1) := by decide +kernel
theorem dX12_token_48 : decode cX12_token 48 = .ok (.istore_n 2, 1) := by decide +kernel
theorem dX12_token_49 : decode cX12_token 49 = .ok (.aload_n 0, 1) := by decide +kernel
theorem dX12_token_50 : decode cX12_token 50 = .ok (.lconst 0, 1) := by decide +kernel
theorem dX12_token_51 : decode cX12_token 51 = .ok (.putfield 198, 3) := by decide +kernel
theorem dX12_token_54 : decode cX12_token 54 = .ok (.aload_n 0, 1) := by decide +kernel
theorem dX12_token_55 : decode cX12_token 55 = .ok (.iconst 0, 1) := by decide +kernel
theorem dX12_token_56 : decode cX12_token 56 = .ok (.putfield 202, 3) := by decide +kernel
theorem dX12_token_59 : decode cX12_token 59 = .ok (.iload_n 1, 1) := by decide +kernel
theorem dX12_token_60 : decode cX12_token 60 = .ok (.ifCond .ge 11, 3) := by decide +kernel
theorem dX12_token_63 : decode cX12_token 63 = .ok (.aload_n 0, 1) := by decide +kernel
theorem dX12_token_64 : decode cX12_token 64 = .ok (.iconst 0, 1) := by decide +kernel
theorem dX12_token_65 : decode cX12_token 65 = .ok (.putfield 205, 3) := by decide +kernel
theorem dX12_token_68 : decode cX12_token 68 = .ok (.goto 164, 3) := by decide +kernel
theorem dX12_token_71 : decode cX12_token 71 = .ok (.iload_n 1, 1) := by decide +kernel
theorem dX12_token_72 : decode cX12_token 72 = .ok (.invokestatic 208, 3) := by decide +kernel
theorem dX12_token_75 : decode cX12_token 75 = .ok (.ifCond .eq 62, 3) := by decide +kernel
theorem dX12_token_78 : decode cX12_token 78 = .ok (.aload_n 0, 1) := by decide +kernel
theorem dX12_token_79 : decode cX12_token 79 = .ok (.iload_n 2, 1) := by decide +kernel
theorem dX12_token_80 : decode cX12_token 80 = .ok (.invokevirtual 191, 3) := by decide +kernel
theorem dX12_token_83 : decode cX12_token 83 = .ok (.invokestatic 208, 3) := by decide +kernel
theorem dX12_token_86 : decode cX12_token 86 = .ok (.ifCond .eq 33, 3) := by decide +kernel
theorem dX12_token_89 : decode cX12_token 89 = .ok (.iload_n 2, 1) := by decide +kernel
theorem dX12_token_90 : decode cX12_token 90 = .ok (.bipush 8, 2) := by decide +kernel
theorem dX12_token_92 : decode cX12_token 92 = .ok (.if_icmp .ge 21, 3) := by decide +kernel
theorem dX12_token_95 : decode cX12_token 95 = .ok (.aload_n 0, 1) := by decide +kernel
theorem dX12_token_96 : decode cX12_token 96 = .ok (.aload_n 0, 1) := by decide +kernel
theorem dX12_token_97 : decode cX12_token 97 = .ok (.getfield 198, 3) := by decide +kernel
theorem dX12_token_100 : decode cX12_token 100 = .ok (.bipush 8, 2) := by decide +kernel
theorem dX12_token_102 : decode cX12_token 102 = .ok (.lshl, 1) := by decide +kernel
theorem dX12_token_103 : decode cX12_token 103 = .ok (.aload_n 0, 1) := by decide +kernel
theorem dX12_token_104 : decode cX12_token 104 = .ok (.iload_n 2, 1) := by decide +kernel
theorem dX12_token_105 : decode cX12_token 105 = .ok (.invokevirtual 191, 3) := by decide +kernel
theorem dX12_token_108 : decode cX12_token 108 = .ok (.i2l, 1) := by decide +kernel
theorem dX12_token_109 : decode cX12_token 109 = .ok (.lor, 1) := by decide +kernel
theorem dX12_token_110 : decode cX12_token 110 = .ok (.putfield 198, 3) := by decide +kernel
theorem dX12_token_113 : decode cX12_token 113 = .ok (.iinc 2 1, 3) := by decide +kernel
theorem dX12_token_116 : decode cX12_token 116 = .ok (.goto (-38), 3) := by decide +kernel
theorem dX12_token_119 : decode cX12_token 119 = .ok (.aload_n 0, 1) := by decide +kernel
theorem dX12_token_120 : decode cX12_token 120 = .ok (.iload_n 2, 1) := by decide +kernel
theorem dX12_token_121 : decode cX12_token 121 = .ok (.bipush 8, 2) := by decide +kernel
theorem dX12_token_123 : decode cX12_token 123 = .ok (.if_icmp .le 7, 3) := by decide +kernel
theorem dX12_token_126 : decode cX12_token 126 = .ok (.iconst 3, 1) := by decide +kernel
theorem dX12_token_127 : decode cX12_token 127 = .ok (.goto 4, 3) := by decide +kernel
theorem dX12_token_130 : decode cX12_token 130 = .ok (.iconst 1, 1) := by decide +kernel
theorem dX12_token_131 : decode cX12_token 131 = .ok (.putfield 205, 3) := by decide +kernel
theorem dX12_token_134 : decode cX12_token 134 = .ok (.goto 98, 3) := by decide +kernel
theorem dX12_token_137 : decode cX12_token 137 = .ok (.iload_n 1, 1) := by decide +kernel
theorem dX12_token_138 : decode cX12_token 138 = .ok (.invokestatic 212, 3) := by decide +kernel
theorem dX12_token_141 : decode cX12_token 141 = .ok (.ifCond .eq 73, 3) := by decide +kernel
theorem dX12_token_144 : decode cX12_token 144 = .ok (.aload_n 0, 1) := by decide +kernel
theorem dX12_token_145 : decode cX12_token 145 = .ok (.iload_n 2, 1) := by decide +kernel
theorem dX12_token_146 : decode cX12_token 146 = .ok (.invokevirtual 191, 3) := by decide +kernel
theorem dX12_token_149 : decode cX12_token 149 = .ok (.invokestatic 212, 3) := by decide +kernel
theorem dX12_token_152 : decode cX12_token 152 = .ok (.ifCond .eq 34, 3) := by decide +kernel
theorem dX12_token_155 : decode cX12_token 155 = .ok (.iload_n 2, 1) := by decide +kernel
theorem dX12_token_156 : decode cX12_token 156 = .ok (.iconst 4, 1) := by decide +kernel
theorem dX12_token_157 : decode cX12_token 157 = .ok (.if_icmp .ge 23, 3) := by decide +kernel
theorem dX12_token_160 : decode cX12_token 160 = .ok (.aload_n 0, 1) := by decide +kernel
theorem dX12_token_161 : decode cX12_token 161 = .ok (.bipush 10, 2) := by decide +kernel
theorem dX12_token_163 : decode cX12_token 163 = .ok (.aload_n 0, 1) := by decide +kernel
theorem dX12_token_164 : decode cX12_token 164 = .ok (.getfield 202, 3) := by decide +kernel
theorem dX12_token_167 : decode cX12_token 167 = .ok (.imul, 1) := by decide +kernel
theorem dX12_token_168 : decode cX12_token 168 = .ok (.aload_n 0, 1) := by decide +kernel
theorem dX12_token_169 : decode cX12_token 169 = .ok (.iload_n 2, 1) := by decide +kernel
theorem dX12_token_170 : decode cX12_token 170 = .ok (.invokevirtual 191, 3) := by decide +kernel
theorem dX12_token_173 : decode cX12_token 173 = .ok (.iadd, 1) := by decide +kernel
theorem dX12_token_174 : decode cX12_token 174 = .ok (.bipush 48, 2) := by decide +kernel
theorem dX12_token_176 : decode cX12_token 176 = .ok (.isub, 1) := by decide +kernel
theorem dX12_token_177 : decode cX12_token 177 = .ok (.putfield 202, 3) := by decide +kernel
theorem dX12_token_180 : decode cX12_token 180 = .ok (.iinc 2 1, 3) := by decide +kernel
theorem dX12_token_183 : decode cX12_token 183 = .ok (.goto (-39), 3) := by decide +kernel
theorem dX12_token_186 : decode cX12_token 186 = .ok (.aload_n 0, 1) := by decide +kernel
theorem dX12_token_187 : decode cX12_token 187 = .ok (.iload_n 2, 1) := by decide +kernel
theorem dX12_token_188 : decode cX12_token 188 = .ok (.iconst 4, 1) := by decide +kernel
theorem dX12_token_189 : decode cX12_token 189 = .ok (.if_icmp .gt 14, 3) := by decide +kernel
theorem dX12_token_192 : decode cX12_token 192 = .ok (.aload_n 0, 1) := by decide +kernel
theorem dX12_token_193 : decode cX12_token 193 = .ok (.iload_n 2, 1) := by decide +kernel
theorem dX12_token_194 : decode cX12_token 194 = .ok (.invokevirtual 191, 3) := by decide +kernel
theorem dX12_token_197 : decode cX12_token 197 = .ok (.invokestatic 208, 3) := by decide +kernel
theorem dX12_token_200 : decode cX12_token 200 = .ok (.ifCond .eq 7, 3) := by decide +kernel
theorem dX12_token_203 : decode cX12_token 203 = .ok (.iconst 3, 1) := by decide +kernel
theorem dX12_token_204 : decode cX12_token 204 = .ok (.goto 4, 3) := by decide +kernel
theorem dX12_token_207 : decode cX12_token 207 = .ok (.iconst 2, 1) := by decide +kernel
theorem dX12_token_208 : decode cX12_token 208 = .ok (.putfield 205, 3) := by decide +kernel
theorem dX12_token_211 : decode cX12_token 211 = .ok (.goto 21, 3) := by decide +kernel
theorem dX12_token_214 : decode cX12_token 214 = .ok (.iconst 1, 1) := by decide +kernel
theorem dX12_token_215 : decode cX12_token 215 = .ok (.istore_n 2, 1) := by decide +kernel
theorem dX12_token_216 : decode cX12_token 216 = .ok (.aload_n 0, 1) := by decide +kernel
theorem dX12_token_217 : decode cX12_token 217 = .ok (.iload_n 1, 1) := by decide +kernel
theorem dX12_token_218 : decode cX12_token 218 = .ok (.invokestatic 215, 3) := by decide +kernel
theorem dX12_token_221 : decode cX12_token 221 = .ok (.ifCond .eq 7, 3) := by decide +kernel
theorem dX12_token_224 : decode cX12_token 224 = .ok (.iload_n 1, 1) := by decide +kernel
theorem dX12_token_225 : decode cX12_token 225 = .ok (.goto 4, 3) := by decide +kernel
theorem dX12_token_228 : decode cX12_token 228 = .ok (.iconst 3, 1) := by decide +kernel
theorem dX12_token_229 : decode cX12_token 229 = .ok (.putfield 205, 3) := by decide +kernel
theorem dX12_token_232 : decode cX12_token 232 = .ok (.aload_n 0, 1) := by decide +kernel
theorem dX12_token_233 : decode cX12_token 233 = .ok (.getfield 205, 3) := by decide +kernel
theorem dX12_token_236 : decode cX12_token 236 = .ok (.iconst 3, 1) := by decide +kernel
theorem dX12_token_237 : decode cX12_token 237 = .ok (.if_icmp .eq 13, 3) := by decide +kernel
theorem dX12_token_240 : decode cX12_token 240 = .ok (.aload_n 0, 1) := by decide +kernel
theorem dX12_token_241 : decode cX12_token 241 = .ok (.dup, 1) := by decide +kernel
theorem dX12_token_242 : decode cX12_token 242 = .ok (.getfield 185, 3) := by decide +kernel
theorem dX12_token_245 : decode cX12_token 245 = .ok (.iload_n 2, 1) := by decide +kernel
theorem dX12_token_246 : decode cX12_token 246 = .ok (.iadd, 1) := by decide +kernel
theorem dX12_token_247 : decode cX12_token 247 = .ok (.putfield 185, 3) := by decide +kernel
theorem dX12_token_250 : decode cX12_token 250 = .ok (.return_, 1) := by decide +kernel
set_option maxHeartbeats 4000000 in
set_option maxRecDepth 100000 in
theorem n_token (l : Launch) (D : va_G) (k : KT) (A : Nat → Prop) (a : Nat → Nat) (z : SK) (G : GS)   : Met l yX12_token (WS yX12_token cX12_token 3 none) ({ frames := 1, cells := 0, slots := 0, locals := 21 }) (va_Pc [.ref (a 66)] (cW D k A a z G)) (va_Qv (fun (G1 : GS) => Bd G1 ∧ Fr [] [(66, 4), (66, 6), (66, 7), (66, 8), (66, 9)] G G1 ∧ ((G.1 66 4).toInt ≤ (G1.1 66 4).toInt ∧ ((G1.1 66 4).toInt = (G.1 66 4).toInt → (G1.1 66 6).toInt = (G.1 66 6).toInt ∨ (G1.1 66 6).toInt ≤ 3))) (fun (G1 : GS) t => Wd D k A a G1 t.heap) A) 0 0 A := by
  refine Met.ofW (cc := cX12_token) (maxL := 3) (ret := none) (by decide) rfl ?_
  intro p e s m args below meth c s₁ B hml hv
  obtain ⟨rfl, hW, hB_G, hK, hZ⟩ := hv
  have hx := B.exec
  have hb := B.bytes
  have hr := B.returns
  have hts := atoms_spec (ws := WS yX12_token cX12_token 3 none) B.pre
  have hgd : ∀ w ∈ gd, w ∈ WS yX12_token cX12_token 3 none := fun w h => List.mem_cons_of_mem _ h
  have hg : ∀ w ∈ gd, w.before _ s = true := fun w h => hts w (hgd w h)
  have hown : s.vm.findClass RX12 = some m.cls := findClass_of_methodNamed B.named
  have hS : va_S A s.heap s.heap [] := va_S.rf
  have hF : Fr [] [(66, 4), (66, 6), (66, 7), (66, 8), (66, 9)] G G := Fr.rf
  have hl := lv_entry ([.ref (a 66)]) (n := 3) (Nat.le_of_ble_eq_true rfl)
  rw [lg_entry_eq]
  generalize (lg_sl ([.ref (a 66)]) ++ List.replicate (3 - (lg_sl ([.ref (a 66)])).length) Slot.unset).toArray = ls at hl ⊢
  have hl : lv_has ls 3 [(0, .ref (a 66))] := hl
  have b_5 : 0 ≤ (G.1 66 4).toInt ∧ (G.1 66 4).toInt ≤ 1600 := hB_G.i 66 4 rfl rfl
  refine loop_N (Inv := fun n H locs ls => ∃ (G_1 : GS), (n : Int) = 1600 - (G_1.1 66 4).toInt ∧ ((G.1 66 4).toInt ≤ (G_1.1 66 4).toInt) ∧ Wd D k A a G_1 H ∧ Bd G_1 ∧ Fr [] [(66, 4), (66, 6), (66, 7), (66, 8), (66, 9)] G G_1 ∧ Fr [] [(66, 4)] G G_1 ∧ va_S A s.heap H locs ∧ lv_has ls 3 [(0, .ref (a 66))]) (fun n_4 H locs ls ih_3 hI => ?_) (1600 - (G.1 66 4).toInt : Int).toNat ⟨G, (Int.toNat_of_nonneg (by omega)), (by omega), hW, hB_G, hF, Fr.rf, hS, lv_sub hl [0] rfl⟩
  obtain ⟨G_1, hn_7, f_6, hW, hB_G_1, hF, hq_2, hS, hl⟩ := hI
  have b_8 : 0 ≤ (G_1.1 66 4).toInt ∧ (G_1.1 66 4).toInt ≤ 1600 := hB_G_1.i 66 4 rfl rfl
  refine lv_aload_n hx hb dX12_token_0 rfl (lv_at hl 0 rfl) ?_
  refine lv_iconst (v := 0) hx hb dX12_token_1 (by decide) ?_
  have qc_9 : (0 : Int32).toInt = 0 := rfl
  have b_10 : 0 ≤ (G.1 66 5).toInt ∧ (G.1 66 5).toInt ≤ 1600 := hB_G.i 66 5 rfl rfl
  have g_11 : (G_1.1 66 5).toInt = (G.1 66 5).toInt := by rw [show G_1.1 66 5 = (G.1 66 5) from (hq_2.i 66 5 (by decide) (by decide))]
  refine S_calli (va_runV (As := [.int 0]) (rest := []) ⟨hx, hb, hml, hown, hts⟩ (n_here l D k A a z G_1 0 ⟨by decide, by decide⟩) (cwV 1 hts (gd_V hgd m1606 m1608 m51 m131 m1609) rfl rfl rfl (by decide +kernel) ⟨Nat.le_of_ble_eq_true rfl, Nat.le_of_ble_eq_true rfl⟩) (pre_V hW hB_G_1 hK hZ hS kd_66 rfl) rfl rfl hl.1 rfl (lv_room (Nat.le_of_ble_eq_true rfl)) dX12_token_2 ⟨Nat.le_of_ble_eq_true rfl, Nat.le_of_ble_eq_true rfl⟩) hS (fun r_12 G_13 H locs hpo hW hS => ?_)
  obtain ⟨hB_G_13, hq_14, f_16, hp_15⟩ := hpo
  have hF := hF.call hq_14 (by decide) (by decide)
  refine lv_bipush (v := 32) hx hb dX12_token_5 (by decide) ?_
  refine lv_icmp_eq (tgt := 20) hx hb dX12_token_7 (by decide) (fun c_17 => ?_) (fun c_17 => ?_)
  · have c_17 : r_12.toInt = 32 := xI_eq rfl rfl c_17
    refine lv_aload_n hx hb dX12_token_20 rfl (lv_at hl 0 rfl) ?_
    refine lv_dup hx hb dX12_token_21 rfl ?_
    refine S_getI (v := (G_1.1 66 4)) (C := RX12) (T := TX12) (N := 89) hx hb hg iX12 hown hK hW kd_66 rfl 4 (by decide) (hg (Cond.fieldLink RX12 185 "SlabWalkModel" "at" "I") m1318) (fun _ h9 => h9) rfl ((hq_14.i 66 4 (by decide) (by decide)).trans (rfl)) dX12_token_22 ?_
    refine lv_iconst (v := 1) hx hb dX12_token_25 (by decide) ?_
    refine lv_iadd hx hb dX12_token_26 ?_
    refine lv_topi (fun y_18 ey_18 => ?_)
    have ty_18 : y_18.toInt = (G_1.1 66 4).toInt + 1 := xI_add rfl rfl ey_18 (by omega) (by omega)
    refine S_putI (ty := .int) (C := RX12) (T := TX12) (N := 89) hx hb hg iX12 tyX12 tyX12_ok nmX12 hown hK hW hS kd_66 rfl 4 (by decide) (hg (Cond.fieldLink RX12 185 "SlabWalkModel" "at" "I") m1318) (fun _ h9 => h9) rfl (by decide +kernel) rfl rfl rfl dX12_token_27 (fun G_19 H locs eG_19 hW hS => ?_)
    have hB_G_19 : Bd G_19 := hB_G_13.put (V := y_18.toInt) (lo := 0) (hi := 1600) eG_19 rfl rfl rfl (by omega) (by omega) (hB_G_13.2.put eG_19 rfl)
    have hF := hF.put eG_19 (Or.inr (by decide))
    refine lv_goto (tgt := 0) hx hb dX12_token_30 (by decide) ?_
    have g_20 : (G_19.1 66 4).toInt = y_18.toInt := by rw [show G_19.1 66 4 = y_18 from (gp_eq eG_19)]
    have g_21 : (G_19.1 66 4).toInt = y_18.toInt := by rw [show G_19.1 66 4 = y_18 from (gp_eq eG_19)]
    exact ih_3 (1600 - (G_19.1 66 4).toInt : Int).toNat (by omega) _ _ _ ⟨G_19, (Int.toNat_of_nonneg (by omega)), (by omega), hW, hB_G_19, hF, (((Fr.rf.call hq_2 (by decide) (by decide)).call hq_14 (by decide) (by decide)).put eG_19 (Or.inr (by decide))), hS, lv_sub hl [0] rfl⟩
  · have c_17 : r_12.toInt ≠ 32 := xI_ne rfl rfl c_17
    refine lv_aload_n hx hb dX12_token_10 rfl (lv_at hl 0 rfl) ?_
    refine lv_iconst (v := 0) hx hb dX12_token_11 (by decide) ?_
    have qc_22 : (0 : Int32).toInt = 0 := rfl
    have g_23 : (G_13.1 66 4).toInt = (G_1.1 66 4).toInt := by rw [show G_13.1 66 4 = (G_1.1 66 4) from ((hq_14.i 66 4 (by decide) (by decide)).trans (rfl))]
    have g_24 : (G_13.1 66 5).toInt = (G.1 66 5).toInt := by rw [show G_13.1 66 5 = (G.1 66 5) from ((hq_14.i 66 5 (by decide) (by decide)).trans ((hq_2.i 66 5 (by decide) (by decide)).trans (rfl)))]
    refine S_calli (va_runV (As := [.int 0]) (rest := []) ⟨hx, hb, hml, hown, hts⟩ (n_here l D k A a z G_13 0 ⟨by decide, by decide⟩) (cwV 1 hts (gd_V hgd m1606 m1608 m51 m131 m1609) rfl rfl rfl (by decide +kernel) ⟨Nat.le_of_ble_eq_true rfl, Nat.le_of_ble_eq_true rfl⟩) (pre_V hW hB_G_13 hK hZ hS kd_66 rfl) rfl rfl hl.1 rfl (lv_room (Nat.le_of_ble_eq_true rfl)) dX12_token_12 ⟨Nat.le_of_ble_eq_true rfl, Nat.le_of_ble_eq_true rfl⟩) hS (fun r_25 G_26 H locs hpo hW hS => ?_)
    obtain ⟨hB_G_26, hq_27, f_29, hp_28⟩ := hpo
    have hF := hF.call hq_27 (by decide) (by decide)
    refine lv_bipush (v := 10) hx hb dX12_token_15 (by decide) ?_
    refine lv_icmp_ne (tgt := 33) hx hb dX12_token_17 (by decide) (fun c_30 => ?_) (fun c_30 => ?_)
    · have c_30 : r_25.toInt ≠ 10 := xI_ne rfl rfl c_30
      refine lv_aload_n hx hb dX12_token_33 rfl (lv_at hl 0 rfl) ?_
      refine lv_aload_n hx hb dX12_token_34 rfl (lv_at hl 0 rfl) ?_
      refine S_getI (v := (G_1.1 66 4)) (C := RX12) (T := TX12) (N := 89) hx hb hg iX12 hown hK hW kd_66 rfl 4 (by decide) (hg (Cond.fieldLink RX12 185 "SlabWalkModel" "at" "I") m1318) (fun _ h9 => h9) rfl ((hq_27.i 66 4 (by decide) (by decide)).trans ((hq_14.i 66 4 (by decide) (by decide)).trans (rfl))) dX12_token_35 ?_
      refine S_putI (ty := .int) (C := RX12) (T := TX12) (N := 89) hx hb hg iX12 tyX12 tyX12_ok nmX12 hown hK hW hS kd_66 rfl 7 (by decide) (hg (Cond.fieldLink RX12 195 "SlabWalkModel" "place" "I") m1321) (fun _ h9 => h9) rfl (by decide +kernel) rfl rfl rfl dX12_token_38 (fun G_31 H locs eG_31 hW hS => ?_)
      have hB_G_31 : Bd G_31 := hB_G_26.put (V := (G_1.1 66 4).toInt) (lo := 0) (hi := 1600) eG_31 rfl rfl rfl (by omega) (by omega) (hB_G_26.2.put eG_31 rfl)
      have hF := hF.put eG_31 (Or.inr (by decide))
      refine lv_aload_n hx hb dX12_token_41 rfl (lv_at hl 0 rfl) ?_
      refine lv_iconst (v := 0) hx hb dX12_token_42 (by decide) ?_
      have qc_32 : (0 : Int32).toInt = 0 := rfl
      have g_33 : (G_31.1 66 4).toInt = (G_1.1 66 4).toInt := by rw [show G_31.1 66 4 = (G_1.1 66 4) from ((gp_ne eG_31 (by decide)).trans ((hq_27.i 66 4 (by decide) (by decide)).trans ((hq_14.i 66 4 (by decide) (by decide)).trans (rfl))))]
      have g_34 : (G_31.1 66 5).toInt = (G.1 66 5).toInt := by rw [show G_31.1 66 5 = (G.1 66 5) from ((gp_ne eG_31 (by decide)).trans ((hq_27.i 66 5 (by decide) (by decide)).trans ((hq_14.i 66 5 (by decide) (by decide)).trans ((hq_2.i 66 5 (by decide) (by decide)).trans (rfl)))))]
      refine S_calli (va_runV (As := [.int 0]) (rest := []) ⟨hx, hb, hml, hown, hts⟩ (n_here l D k A a z G_31 0 ⟨by decide, by decide⟩) (cwV 1 hts (gd_V hgd m1606 m1608 m51 m131 m1609) rfl rfl rfl (by decide +kernel) ⟨Nat.le_of_ble_eq_true rfl, Nat.le_of_ble_eq_true rfl⟩) (pre_V hW hB_G_31 hK hZ hS kd_66 rfl) rfl rfl hl.1 rfl (lv_room (Nat.le_of_ble_eq_true rfl)) dX12_token_43 ⟨Nat.le_of_ble_eq_true rfl, Nat.le_of_ble_eq_true rfl⟩) hS (fun r_35 G_36 H locs hpo hW hS => ?_)
      obtain ⟨hB_G_36, hq_37, f_39, hp_38⟩ := hpo
      have hF := hF.call hq_37 (by decide) (by decide)
      refine lv_istore_n (lv' := [(1, .int r_35), (0, .ref (a 66))]) hx hb dX12_token_46 rfl hl (by decide) rfl (fun ls hl => ?_)
      refine lv_iconst (v := 0) hx hb dX12_token_47 (by decide) ?_
      refine lv_istore_n (lv' := [(2, .int 0), (1, .int r_35), (0, .ref (a 66))]) hx hb dX12_token_48 rfl hl (by decide) rfl (fun ls hl => ?_)
      refine lv_aload_n hx hb dX12_token_49 rfl (lv_at hl 2 rfl) ?_
      refine lv_lconst (v := 0) hx hb dX12_token_50 (by decide) ?_
      refine S_putL (C := RX12) (T := TX12) (N := 89) hx hb hg iX12 tyX12 tyX12_ok nmX12 hown hK hW hS kd_66 rfl 9 (by decide) (hg (Cond.fieldLink RX12 198 "SlabWalkModel" "word" "J") m1323) (fun _ h9 => h9) rfl (by decide +kernel) rfl dX12_token_51 (fun G_40 H locs eG_40 hW hS => ?_)
      have hB_G_40 : Bd G_40 := hB_G_36.putl eG_40
      have hF := hF.putl eG_40 (Or.inr (by decide))
      refine lv_aload_n hx hb dX12_token_54 rfl (lv_at hl 2 rfl) ?_
      refine lv_iconst (v := 0) hx hb dX12_token_55 (by decide) ?_
      refine S_putI (ty := .int) (C := RX12) (T := TX12) (N := 89) hx hb hg iX12 tyX12 tyX12_ok nmX12 hown hK hW hS kd_66 rfl 8 (by decide) (hg (Cond.fieldLink RX12 202 "SlabWalkModel" "number" "I") m1322) (fun _ h9 => h9) rfl (by decide +kernel) rfl rfl rfl dX12_token_56 (fun G_41 H locs eG_41 hW hS => ?_)
      have hB_G_41 : Bd G_41 := hB_G_40.put (lo := (-2147483648)) (hi := 2147483647) eG_41 rfl rfl rfl (tI_rng _).1 (tI_rng _).2 (hB_G_40.2.put eG_41 rfl)
      have hF := hF.put eG_41 (Or.inr (by decide))
      refine lv_iload_n hx hb dX12_token_59 rfl (lv_at hl 1 rfl) ?_
      refine lv_if_ge (tgt := 71) hx hb dX12_token_60 (by decide) (fun c_42 => ?_) (fun c_42 => ?_)
      · have c_42 : 0 ≤ r_35.toInt := xI_le rfl rfl c_42
        refine lv_iload_n hx hb dX12_token_71 rfl (lv_at hl 1 rfl) ?_
        refine S_calli (va_runS (As := [.int r_35]) (rest := []) ⟨hx, hb, hml, hown, hts⟩ (n_letter l D k A a z G_41 r_35 ) (va_cwS 1 hts (gd_S hgd m1610 m1611 m131 m1612) rfl rfl rfl (by decide +kernel) ⟨Nat.le_of_ble_eq_true rfl, Nat.le_of_ble_eq_true rfl⟩) (pre_S hW hB_G_41 hK hZ hS) rfl rfl hl.1 rfl (lv_room (Nat.le_of_ble_eq_true rfl)) dX12_token_72 ⟨Nat.le_of_ble_eq_true rfl, Nat.le_of_ble_eq_true rfl⟩) hS (fun r_43 G_44 H locs hpo hW hS => ?_)
        obtain ⟨hB_G_44, hq_45, f_47, hp_46⟩ := hpo
        have hF := hF.call hq_45 (by decide) (by decide)
        refine lv_if_eq (tgt := 137) hx hb dX12_token_75 (by decide) (fun c_48 => ?_) (fun c_48 => ?_)
        · have c_48 : r_43.toInt = 0 := xI_eq rfl rfl c_48
          refine lv_iload_n hx hb dX12_token_137 rfl (lv_at hl 1 rfl) ?_
          refine S_calli (va_runS (As := [.int r_35]) (rest := []) ⟨hx, hb, hml, hown, hts⟩ (n_digit l D k A a z G_44 r_35 ) (va_cwS 1 hts (gd_S hgd m1613 m1614 m131 m1615) rfl rfl rfl (by decide +kernel) ⟨Nat.le_of_ble_eq_true rfl, Nat.le_of_ble_eq_true rfl⟩) (pre_S hW hB_G_44 hK hZ hS) rfl rfl hl.1 rfl (lv_room (Nat.le_of_ble_eq_true rfl)) dX12_token_138 ⟨Nat.le_of_ble_eq_true rfl, Nat.le_of_ble_eq_true rfl⟩) hS (fun r_49 G_50 H locs hpo hW hS => ?_)
          obtain ⟨hB_G_50, hq_51, f_53, hp_52⟩ := hpo
          have hF := hF.call hq_51 (by decide) (by decide)
          refine lv_if_eq (tgt := 214) hx hb dX12_token_141 (by decide) (fun c_54 => ?_) (fun c_54 => ?_)
          · have c_54 : r_49.toInt = 0 := xI_eq rfl rfl c_54
            refine lv_iconst (v := 1) hx hb dX12_token_214 (by decide) ?_
            refine lv_istore_n (lv' := [(2, .int 1), (1, .int r_35), (0, .ref (a 66))]) hx hb dX12_token_215 rfl hl (by decide) rfl (fun ls hl => ?_)
            refine lv_aload_n hx hb dX12_token_216 rfl (lv_at hl 2 rfl) ?_
            refine lv_iload_n hx hb dX12_token_217 rfl (lv_at hl 1 rfl) ?_
            refine S_calli (va_runS (As := [.int r_35]) (rest := [.ref (a 66)]) ⟨hx, hb, hml, hown, hts⟩ (n_sign l D k A a z G_50 r_35 ) (va_cwS 1 hts (gd_S hgd m1616 m1617 m131 m1618) rfl rfl rfl (by decide +kernel) ⟨Nat.le_of_ble_eq_true rfl, Nat.le_of_ble_eq_true rfl⟩) (pre_S hW hB_G_50 hK hZ hS) rfl rfl hl.1 rfl (lv_room (Nat.le_of_ble_eq_true rfl)) dX12_token_218 ⟨Nat.le_of_ble_eq_true rfl, Nat.le_of_ble_eq_true rfl⟩) hS (fun r_55 G_56 H locs hpo hW hS => ?_)
            obtain ⟨hB_G_56, hq_57, f_59⟩ := hpo
            have hF := hF.call hq_57 (by decide) (by decide)
            refine lv_if_eq (tgt := 228) hx hb dX12_token_221 (by decide) (fun c_60 => ?_) (fun c_60 => ?_)
            · have c_60 : r_55.toInt = 0 := xI_eq rfl rfl c_60
              refine lv_iconst (v := 3) hx hb dX12_token_228 (by decide) ?_
              refine S_putI (ty := .int) (C := RX12) (T := TX12) (N := 89) hx hb hg iX12 tyX12 tyX12_ok nmX12 hown hK hW hS kd_66 rfl 6 (by decide) (hg (Cond.fieldLink RX12 205 "SlabWalkModel" "sort" "I") m1320) (fun _ h9 => h9) rfl (by decide +kernel) rfl rfl rfl dX12_token_229 (fun G_61 H locs eG_61 hW hS => ?_)
              have hB_G_61 : Bd G_61 := hB_G_56.put (lo := (-2147483648)) (hi := 2147483647) eG_61 rfl rfl rfl (tI_rng _).1 (tI_rng _).2 (hB_G_56.2.put eG_61 rfl)
              have hF := hF.put eG_61 (Or.inr (by decide))
              refine lv_aload_n hx hb dX12_token_232 rfl (lv_at hl 2 rfl) ?_
              refine S_getI (v := 3) (C := RX12) (T := TX12) (N := 89) hx hb hg iX12 hown hK hW kd_66 rfl 6 (by decide) (hg (Cond.fieldLink RX12 205 "SlabWalkModel" "sort" "I") m1320) (fun _ h9 => h9) rfl (gp_eq eG_61) dX12_token_233 ?_
              refine lv_iconst (v := 3) hx hb dX12_token_236 (by decide) ?_
              refine lv_icmp_eq (tgt := 250) hx hb dX12_token_237 (by decide) (fun c_62 => ?_) (fun c_62 => ?_)
              · have c_62 : (3 : Int) = (3 : Int) := xI_eq rfl rfl c_62
                have g_63 : (G_61.1 66 4).toInt = (G_1.1 66 4).toInt := by rw [show G_61.1 66 4 = (G_1.1 66 4) from ((gp_ne eG_61 (by decide)).trans ((hq_57.i 66 4 (by decide) (by decide)).trans ((hq_51.i 66 4 (by decide) (by decide)).trans ((hq_45.i 66 4 (by decide) (by decide)).trans ((gp_ne eG_41 (by decide)).trans ((congrFun (congrFun (gp_l eG_40).1 66) 4).trans ((hq_37.i 66 4 (by decide) (by decide)).trans ((gp_ne eG_31 (by decide)).trans ((hq_27.i 66 4 (by decide) (by decide)).trans ((hq_14.i 66 4 (by decide) (by decide)).trans (rfl)))))))))))]
                have g_64 : (G_61.1 66 6).toInt = 3 := by rw [show G_61.1 66 6 = 3 from (gp_eq eG_61)]; rfl
                exact W.vret hx hb hr (fun t ht _ => ⟨⟨G_61, rfl, ⟨hB_G_61, hF, (by omega)⟩, wd_t ht hW⟩, hS.F ht⟩) hS.2.2 dX12_token_250
              · have c_62 : (3 : Int) ≠ (3 : Int) := xI_ne rfl rfl c_62
                exfalso; omega
            · have c_60 : r_55.toInt ≠ 0 := xI_ne rfl rfl c_60
              refine lv_iload_n hx hb dX12_token_224 rfl (lv_at hl 1 rfl) ?_
              refine lv_goto (tgt := 229) hx hb dX12_token_225 (by decide) ?_
              refine S_putI (ty := .int) (C := RX12) (T := TX12) (N := 89) hx hb hg iX12 tyX12 tyX12_ok nmX12 hown hK hW hS kd_66 rfl 6 (by decide) (hg (Cond.fieldLink RX12 205 "SlabWalkModel" "sort" "I") m1320) (fun _ h9 => h9) rfl (by decide +kernel) rfl rfl rfl dX12_token_229 (fun G_65 H locs eG_65 hW hS => ?_)
              have hB_G_65 : Bd G_65 := hB_G_56.put (lo := (-2147483648)) (hi := 2147483647) eG_65 rfl rfl rfl (tI_rng _).1 (tI_rng _).2 (hB_G_56.2.put eG_65 rfl)
              have hF := hF.put eG_65 (Or.inr (by decide))
              refine lv_aload_n hx hb dX12_token_232 rfl (lv_at hl 2 rfl) ?_
              refine S_getI (v := r_35) (C := RX12) (T := TX12) (N := 89) hx hb hg iX12 hown hK hW kd_66 rfl 6 (by decide) (hg (Cond.fieldLink RX12 205 "SlabWalkModel" "sort" "I") m1320) (fun _ h9 => h9) rfl (gp_eq eG_65) dX12_token_233 ?_
              refine lv_iconst (v := 3) hx hb dX12_token_236 (by decide) ?_
              refine lv_icmp_eq (tgt := 250) hx hb dX12_token_237 (by decide) (fun c_66 => ?_) (fun c_66 => ?_)
              · have c_66 : r_35.toInt = 3 := xI_eq rfl rfl c_66
                have g_67 : (G_65.1 66 4).toInt = (G_1.1 66 4).toInt := by rw [show G_65.1 66 4 = (G_1.1 66 4) from ((gp_ne eG_65 (by decide)).trans ((hq_57.i 66 4 (by decide) (by decide)).trans ((hq_51.i 66 4 (by decide) (by decide)).trans ((hq_45.i 66 4 (by decide) (by decide)).trans ((gp_ne eG_41 (by decide)).trans ((congrFun (congrFun (gp_l eG_40).1 66) 4).trans ((hq_37.i 66 4 (by decide) (by decide)).trans ((gp_ne eG_31 (by decide)).trans ((hq_27.i 66 4 (by decide) (by decide)).trans ((hq_14.i 66 4 (by decide) (by decide)).trans (rfl)))))))))))]
                have g_68 : (G_65.1 66 6).toInt = r_35.toInt := by rw [show G_65.1 66 6 = r_35 from (gp_eq eG_65)]
                exact W.vret hx hb hr (fun t ht _ => ⟨⟨G_65, rfl, ⟨hB_G_65, hF, (by omega)⟩, wd_t ht hW⟩, hS.F ht⟩) hS.2.2 dX12_token_250
              · have c_66 : r_35.toInt ≠ 3 := xI_ne rfl rfl c_66
                refine lv_aload_n hx hb dX12_token_240 rfl (lv_at hl 2 rfl) ?_
                refine lv_dup hx hb dX12_token_241 rfl ?_
                refine S_getI (v := (G_1.1 66 4)) (C := RX12) (T := TX12) (N := 89) hx hb hg iX12 hown hK hW kd_66 rfl 4 (by decide) (hg (Cond.fieldLink RX12 185 "SlabWalkModel" "at" "I") m1318) (fun _ h9 => h9) rfl ((gp_ne eG_65 (by decide)).trans ((hq_57.i 66 4 (by decide) (by decide)).trans ((hq_51.i 66 4 (by decide) (by decide)).trans ((hq_45.i 66 4 (by decide) (by decide)).trans ((gp_ne eG_41 (by decide)).trans ((congrFun (congrFun (gp_l eG_40).1 66) 4).trans ((hq_37.i 66 4 (by decide) (by decide)).trans ((gp_ne eG_31 (by decide)).trans ((hq_27.i 66 4 (by decide) (by decide)).trans ((hq_14.i 66 4 (by decide) (by decide)).trans (rfl))))))))))) dX12_token_242 ?_
                refine lv_iload_n hx hb dX12_token_245 rfl (lv_at hl 0 rfl) ?_
                refine lv_iadd hx hb dX12_token_246 ?_
                refine lv_topi (fun y_69 ey_69 => ?_)
                have ty_69 : y_69.toInt = (G_1.1 66 4).toInt + 1 := xI_add rfl rfl ey_69 (by omega) (by omega)
                refine S_putI (ty := .int) (C := RX12) (T := TX12) (N := 89) hx hb hg iX12 tyX12 tyX12_ok nmX12 hown hK hW hS kd_66 rfl 4 (by decide) (hg (Cond.fieldLink RX12 185 "SlabWalkModel" "at" "I") m1318) (fun _ h9 => h9) rfl (by decide +kernel) rfl rfl rfl dX12_token_247 (fun G_70 H locs eG_70 hW hS => ?_)
                have hB_G_70 : Bd G_70 := hB_G_65.put (V := y_69.toInt) (lo := 0) (hi := 1600) eG_70 rfl rfl rfl (by omega) (by omega) (hB_G_65.2.put eG_70 rfl)
                have hF := hF.put eG_70 (Or.inr (by decide))
                have g_71 : (G_70.1 66 4).toInt = y_69.toInt := by rw [show G_70.1 66 4 = y_69 from (gp_eq eG_70)]
                have g_72 : (G_70.1 66 6).toInt = r_35.toInt := by rw [show G_70.1 66 6 = r_35 from ((gp_ne eG_70 (by decide)).trans (gp_eq eG_65))]
                exact W.vret hx hb hr (fun t ht _ => ⟨⟨G_70, rfl, ⟨hB_G_70, hF, (by omega)⟩, wd_t ht hW⟩, hS.F ht⟩) hS.2.2 dX12_token_250
          · have c_54 : r_49.toInt ≠ 0 := xI_ne rfl rfl c_54
            have g_78 : (G_50.1 66 4).toInt = (G_1.1 66 4).toInt := by rw [show G_50.1 66 4 = (G_1.1 66 4) from ((hq_51.i 66 4 (by decide) (by decide)).trans ((hq_45.i 66 4 (by decide) (by decide)).trans ((gp_ne eG_41 (by decide)).trans ((congrFun (congrFun (gp_l eG_40).1 66) 4).trans ((hq_37.i 66 4 (by decide) (by decide)).trans ((gp_ne eG_31 (by decide)).trans ((hq_27.i 66 4 (by decide) (by decide)).trans ((hq_14.i 66 4 (by decide) (by decide)).trans (rfl)))))))))]
            have g_79 : (G_50.1 66 5).toInt = (G.1 66 5).toInt := by rw [show G_50.1 66 5 = (G.1 66 5) from ((hq_51.i 66 5 (by decide) (by decide)).trans ((hq_45.i 66 5 (by decide) (by decide)).trans ((gp_ne eG_41 (by decide)).trans ((congrFun (congrFun (gp_l eG_40).1 66) 5).trans ((hq_37.i 66 5 (by decide) (by decide)).trans ((gp_ne eG_31 (by decide)).trans ((hq_27.i 66 5 (by decide) (by decide)).trans ((hq_14.i 66 5 (by decide) (by decide)).trans ((hq_2.i 66 5 (by decide) (by decide)).trans (rfl))))))))))]
            have qc_80 : (0 : Int32).toInt = 0 := rfl
            refine loop_N (Inv := fun n H locs ls => ∃ (G_73 : GS) (x_77 : Int32), (n : Int) = 1600 - x_77.toInt ∧ (0 ≤ x_77.toInt ∧ x_77.toInt ≤ 1600) ∧ ((G_73.1 66 4).toInt + x_77.toInt ≤ (G_73.1 66 5).toInt) ∧ Wd D k A a G_73 H ∧ Bd G_73 ∧ Fr [] [(66, 4), (66, 6), (66, 7), (66, 8), (66, 9)] G G_73 ∧ Fr [] [(66, 8)] G_50 G_73 ∧ va_S A s.heap H locs ∧ lv_has ls 3 [(2, .int x_77), (0, .ref (a 66))]) (fun n_76 H locs ls ih_75 hI => ?_) (1600 - 0 : Int).toNat ⟨G_50, 0, (Int.toNat_of_nonneg (by omega)), ⟨by omega, by omega⟩, (by omega), hW, hB_G_50, hF, Fr.rf, hS, lv_sub hl [0, 2] rfl⟩
            obtain ⟨G_73, x_77, hn_83, f_81, f_82, hW, hB_G_73, hF, hq_74, hS, hl⟩ := hI
            have g_84 : (G_73.1 66 4).toInt = (G_1.1 66 4).toInt := by rw [show G_73.1 66 4 = (G_1.1 66 4) from ((hq_74.i 66 4 (by decide) (by decide)).trans ((hq_51.i 66 4 (by decide) (by decide)).trans ((hq_45.i 66 4 (by decide) (by decide)).trans ((gp_ne eG_41 (by decide)).trans ((congrFun (congrFun (gp_l eG_40).1 66) 4).trans ((hq_37.i 66 4 (by decide) (by decide)).trans ((gp_ne eG_31 (by decide)).trans ((hq_27.i 66 4 (by decide) (by decide)).trans ((hq_14.i 66 4 (by decide) (by decide)).trans (rfl))))))))))]
            have g_85 : (G_73.1 66 5).toInt = (G.1 66 5).toInt := by rw [show G_73.1 66 5 = (G.1 66 5) from ((hq_74.i 66 5 (by decide) (by decide)).trans ((hq_51.i 66 5 (by decide) (by decide)).trans ((hq_45.i 66 5 (by decide) (by decide)).trans ((gp_ne eG_41 (by decide)).trans ((congrFun (congrFun (gp_l eG_40).1 66) 5).trans ((hq_37.i 66 5 (by decide) (by decide)).trans ((gp_ne eG_31 (by decide)).trans ((hq_27.i 66 5 (by decide) (by decide)).trans ((hq_14.i 66 5 (by decide) (by decide)).trans ((hq_2.i 66 5 (by decide) (by decide)).trans (rfl)))))))))))]
            refine lv_aload_n hx hb dX12_token_144 rfl (lv_at hl 1 rfl) ?_
            refine lv_iload_n hx hb dX12_token_145 rfl (lv_at hl 0 rfl) ?_
            have g_86 : (G_73.1 66 4).toInt = (G_1.1 66 4).toInt := by rw [show G_73.1 66 4 = (G_1.1 66 4) from ((hq_74.i 66 4 (by decide) (by decide)).trans ((hq_51.i 66 4 (by decide) (by decide)).trans ((hq_45.i 66 4 (by decide) (by decide)).trans ((gp_ne eG_41 (by decide)).trans ((congrFun (congrFun (gp_l eG_40).1 66) 4).trans ((hq_37.i 66 4 (by decide) (by decide)).trans ((gp_ne eG_31 (by decide)).trans ((hq_27.i 66 4 (by decide) (by decide)).trans ((hq_14.i 66 4 (by decide) (by decide)).trans (rfl))))))))))]
            have g_87 : (G_73.1 66 5).toInt = (G.1 66 5).toInt := by rw [show G_73.1 66 5 = (G.1 66 5) from ((hq_74.i 66 5 (by decide) (by decide)).trans ((hq_51.i 66 5 (by decide) (by decide)).trans ((hq_45.i 66 5 (by decide) (by decide)).trans ((gp_ne eG_41 (by decide)).trans ((congrFun (congrFun (gp_l eG_40).1 66) 5).trans ((hq_37.i 66 5 (by decide) (by decide)).trans ((gp_ne eG_31 (by decide)).trans ((hq_27.i 66 5 (by decide) (by decide)).trans ((hq_14.i 66 5 (by decide) (by decide)).trans ((hq_2.i 66 5 (by decide) (by decide)).trans (rfl)))))))))))]
            refine S_calli (va_runV (As := [.int x_77]) (rest := []) ⟨hx, hb, hml, hown, hts⟩ (n_here l D k A a z G_73 x_77 ⟨by omega, by omega⟩) (cwV 1 hts (gd_V hgd m1606 m1608 m51 m131 m1609) rfl rfl rfl (by decide +kernel) ⟨Nat.le_of_ble_eq_true rfl, Nat.le_of_ble_eq_true rfl⟩) (pre_V hW hB_G_73 hK hZ hS kd_66 rfl) rfl rfl hl.1 rfl (lv_room (Nat.le_of_ble_eq_true rfl)) dX12_token_146 ⟨Nat.le_of_ble_eq_true rfl, Nat.le_of_ble_eq_true rfl⟩) hS (fun r_88 G_89 H locs hpo hW hS => ?_)
            obtain ⟨hB_G_89, hq_90, f_92, hp_91⟩ := hpo
            have hF := hF.call hq_90 (by decide) (by decide)
            refine S_calli (va_runS (As := [.int r_88]) (rest := []) ⟨hx, hb, hml, hown, hts⟩ (n_digit l D k A a z G_89 r_88 ) (va_cwS 1 hts (gd_S hgd m1613 m1614 m131 m1615) rfl rfl rfl (by decide +kernel) ⟨Nat.le_of_ble_eq_true rfl, Nat.le_of_ble_eq_true rfl⟩) (pre_S hW hB_G_89 hK hZ hS) rfl rfl hl.1 rfl (lv_room (Nat.le_of_ble_eq_true rfl)) dX12_token_149 ⟨Nat.le_of_ble_eq_true rfl, Nat.le_of_ble_eq_true rfl⟩) hS (fun r_93 G_94 H locs hpo hW hS => ?_)
            obtain ⟨hB_G_94, hq_95, f_97, hp_96⟩ := hpo
            have hF := hF.call hq_95 (by decide) (by decide)
            refine lv_if_eq (tgt := 186) hx hb dX12_token_152 (by decide) (fun c_98 => ?_) (fun c_98 => ?_)
            · have c_98 : r_93.toInt = 0 := xI_eq rfl rfl c_98
              refine lv_aload_n hx hb dX12_token_186 rfl (lv_at hl 1 rfl) ?_
              refine lv_iload_n hx hb dX12_token_187 rfl (lv_at hl 0 rfl) ?_
              refine lv_iconst (v := 4) hx hb dX12_token_188 (by decide) ?_
              refine W.cut (σ := Unit) (pcJ := 203) (J := fun y H locs ls => ∃ (G_102 : GS), Wd D k A a G_102 H ∧ Bd G_102 ∧ Fr [] [(66, 4), (66, 6), (66, 7), (66, 8), (66, 9)] G G_102 ∧ Fr [] [] G_94 G_102 ∧ va_S A s.heap H locs ∧ lv_has ls 3 [(2, .int x_77), (0, .ref (a 66))]) (stJ := fun _ => [.ref (a 66)]) ?_ (fun hJ_103 => ?_)
              · intro y H locs ls hI
                obtain ⟨G_102, hW, hB_G_102, hF, hq_104, hS, hl⟩ := hI
                refine lv_iconst (v := 3) hx hb dX12_token_203 (by decide) ?_
                refine lv_goto (tgt := 208) hx hb dX12_token_204 (by decide) ?_
                refine S_putI (ty := .int) (C := RX12) (T := TX12) (N := 89) hx hb hg iX12 tyX12 tyX12_ok nmX12 hown hK hW hS kd_66 rfl 6 (by decide) (hg (Cond.fieldLink RX12 205 "SlabWalkModel" "sort" "I") m1320) (fun _ h9 => h9) rfl (by decide +kernel) rfl rfl rfl dX12_token_208 (fun G_105 H locs eG_105 hW hS => ?_)
                have hB_G_105 : Bd G_105 := hB_G_102.put (lo := (-2147483648)) (hi := 2147483647) eG_105 rfl rfl rfl (tI_rng _).1 (tI_rng _).2 (hB_G_102.2.put eG_105 rfl)
                have hF := hF.put eG_105 (Or.inr (by decide))
                refine lv_goto (tgt := 232) hx hb dX12_token_211 (by decide) ?_
                refine lv_aload_n hx hb dX12_token_232 rfl (lv_at hl 1 rfl) ?_
                refine S_getI (v := 3) (C := RX12) (T := TX12) (N := 89) hx hb hg iX12 hown hK hW kd_66 rfl 6 (by decide) (hg (Cond.fieldLink RX12 205 "SlabWalkModel" "sort" "I") m1320) (fun _ h9 => h9) rfl (gp_eq eG_105) dX12_token_233 ?_
                refine lv_iconst (v := 3) hx hb dX12_token_236 (by decide) ?_
                refine lv_icmp_eq (tgt := 250) hx hb dX12_token_237 (by decide) (fun c_106 => ?_) (fun c_106 => ?_)
                · have c_106 : (3 : Int) = (3 : Int) := xI_eq rfl rfl c_106
                  have g_107 : (G_105.1 66 4).toInt = (G_1.1 66 4).toInt := by rw [show G_105.1 66 4 = (G_1.1 66 4) from ((gp_ne eG_105 (by decide)).trans ((hq_104.i 66 4 (by decide) (by decide)).trans ((hq_95.i 66 4 (by decide) (by decide)).trans ((hq_90.i 66 4 (by decide) (by decide)).trans ((hq_74.i 66 4 (by decide) (by decide)).trans ((hq_51.i 66 4 (by decide) (by decide)).trans ((hq_45.i 66 4 (by decide) (by decide)).trans ((gp_ne eG_41 (by decide)).trans ((congrFun (congrFun (gp_l eG_40).1 66) 4).trans ((hq_37.i 66 4 (by decide) (by decide)).trans ((gp_ne eG_31 (by decide)).trans ((hq_27.i 66 4 (by decide) (by decide)).trans ((hq_14.i 66 4 (by decide) (by decide)).trans (rfl))))))))))))))]
                  have g_108 : (G_105.1 66 6).toInt = 3 := by rw [show G_105.1 66 6 = 3 from (gp_eq eG_105)]; rfl
                  exact W.vret hx hb hr (fun t ht _ => ⟨⟨G_105, rfl, ⟨hB_G_105, hF, (by omega)⟩, wd_t ht hW⟩, hS.F ht⟩) hS.2.2 dX12_token_250
                · have c_106 : (3 : Int) ≠ (3 : Int) := xI_ne rfl rfl c_106
                  exfalso; omega
              refine lv_icmp_gt (tgt := 203) hx hb dX12_token_189 (by decide) (fun c_109 => ?_) (fun c_109 => ?_)
              · have c_109 : 4 < x_77.toInt := xI_lt rfl rfl c_109
                exact hJ_103 () _ _ _ ⟨G_94, hW, hB_G_94, hF, Fr.rf, hS, lv_sub hl [0, 1] rfl⟩
              · have c_109 : x_77.toInt ≤ 4 := xI_nlt rfl rfl c_109
                refine lv_aload_n hx hb dX12_token_192 rfl (lv_at hl 1 rfl) ?_
                refine lv_iload_n hx hb dX12_token_193 rfl (lv_at hl 0 rfl) ?_
                have g_110 : (G_94.1 66 4).toInt = (G_1.1 66 4).toInt := by rw [show G_94.1 66 4 = (G_1.1 66 4) from ((hq_95.i 66 4 (by decide) (by decide)).trans ((hq_90.i 66 4 (by decide) (by decide)).trans ((hq_74.i 66 4 (by decide) (by decide)).trans ((hq_51.i 66 4 (by decide) (by decide)).trans ((hq_45.i 66 4 (by decide) (by decide)).trans ((gp_ne eG_41 (by decide)).trans ((congrFun (congrFun (gp_l eG_40).1 66) 4).trans ((hq_37.i 66 4 (by decide) (by decide)).trans ((gp_ne eG_31 (by decide)).trans ((hq_27.i 66 4 (by decide) (by decide)).trans ((hq_14.i 66 4 (by decide) (by decide)).trans (rfl))))))))))))]
                have g_111 : (G_94.1 66 5).toInt = (G.1 66 5).toInt := by rw [show G_94.1 66 5 = (G.1 66 5) from ((hq_95.i 66 5 (by decide) (by decide)).trans ((hq_90.i 66 5 (by decide) (by decide)).trans ((hq_74.i 66 5 (by decide) (by decide)).trans ((hq_51.i 66 5 (by decide) (by decide)).trans ((hq_45.i 66 5 (by decide) (by decide)).trans ((gp_ne eG_41 (by decide)).trans ((congrFun (congrFun (gp_l eG_40).1 66) 5).trans ((hq_37.i 66 5 (by decide) (by decide)).trans ((gp_ne eG_31 (by decide)).trans ((hq_27.i 66 5 (by decide) (by decide)).trans ((hq_14.i 66 5 (by decide) (by decide)).trans ((hq_2.i 66 5 (by decide) (by decide)).trans (rfl)))))))))))))]
                refine S_calli (va_runV (As := [.int x_77]) (rest := [.ref (a 66)]) ⟨hx, hb, hml, hown, hts⟩ (n_here l D k A a z G_94 x_77 ⟨by omega, by omega⟩) (cwV 1 hts (gd_V hgd m1606 m1608 m51 m131 m1609) rfl rfl rfl (by decide +kernel) ⟨Nat.le_of_ble_eq_true rfl, Nat.le_of_ble_eq_true rfl⟩) (pre_V hW hB_G_94 hK hZ hS kd_66 rfl) rfl rfl hl.1 rfl (lv_room (Nat.le_of_ble_eq_true rfl)) dX12_token_194 ⟨Nat.le_of_ble_eq_true rfl, Nat.le_of_ble_eq_true rfl⟩) hS (fun r_112 G_113 H locs hpo hW hS => ?_)
                obtain ⟨hB_G_113, hq_114, f_116, hp_115⟩ := hpo
                have hF := hF.call hq_114 (by decide) (by decide)
                refine S_calli (va_runS (As := [.int r_112]) (rest := [.ref (a 66)]) ⟨hx, hb, hml, hown, hts⟩ (n_letter l D k A a z G_113 r_112 ) (va_cwS 1 hts (gd_S hgd m1610 m1611 m131 m1612) rfl rfl rfl (by decide +kernel) ⟨Nat.le_of_ble_eq_true rfl, Nat.le_of_ble_eq_true rfl⟩) (pre_S hW hB_G_113 hK hZ hS) rfl rfl hl.1 rfl (lv_room (Nat.le_of_ble_eq_true rfl)) dX12_token_197 ⟨Nat.le_of_ble_eq_true rfl, Nat.le_of_ble_eq_true rfl⟩) hS (fun r_117 G_118 H locs hpo hW hS => ?_)
                obtain ⟨hB_G_118, hq_119, f_121, hp_120⟩ := hpo
                have hF := hF.call hq_119 (by decide) (by decide)
                refine lv_if_eq (tgt := 207) hx hb dX12_token_200 (by decide) (fun c_122 => ?_) (fun c_122 => ?_)
                · have c_122 : r_117.toInt = 0 := xI_eq rfl rfl c_122
                  refine lv_iconst (v := 2) hx hb dX12_token_207 (by decide) ?_
                  refine S_putI (ty := .int) (C := RX12) (T := TX12) (N := 89) hx hb hg iX12 tyX12 tyX12_ok nmX12 hown hK hW hS kd_66 rfl 6 (by decide) (hg (Cond.fieldLink RX12 205 "SlabWalkModel" "sort" "I") m1320) (fun _ h9 => h9) rfl (by decide +kernel) rfl rfl rfl dX12_token_208 (fun G_123 H locs eG_123 hW hS => ?_)
                  have hB_G_123 : Bd G_123 := hB_G_118.put (lo := (-2147483648)) (hi := 2147483647) eG_123 rfl rfl rfl (tI_rng _).1 (tI_rng _).2 (hB_G_118.2.put eG_123 rfl)
                  have hF := hF.put eG_123 (Or.inr (by decide))
                  refine lv_goto (tgt := 232) hx hb dX12_token_211 (by decide) ?_
                  refine lv_aload_n hx hb dX12_token_232 rfl (lv_at hl 1 rfl) ?_
                  refine S_getI (v := 2) (C := RX12) (T := TX12) (N := 89) hx hb hg iX12 hown hK hW kd_66 rfl 6 (by decide) (hg (Cond.fieldLink RX12 205 "SlabWalkModel" "sort" "I") m1320) (fun _ h9 => h9) rfl (gp_eq eG_123) dX12_token_233 ?_
                  refine lv_iconst (v := 3) hx hb dX12_token_236 (by decide) ?_
                  refine lv_icmp_eq (tgt := 250) hx hb dX12_token_237 (by decide) (fun c_124 => ?_) (fun c_124 => ?_)
                  · have c_124 : (2 : Int) = (3 : Int) := xI_eq rfl rfl c_124
                    exfalso; omega
                  · have c_124 : (2 : Int) ≠ (3 : Int) := xI_ne rfl rfl c_124
                    refine lv_aload_n hx hb dX12_token_240 rfl (lv_at hl 1 rfl) ?_
                    refine lv_dup hx hb dX12_token_241 rfl ?_
                    refine S_getI (v := (G_1.1 66 4)) (C := RX12) (T := TX12) (N := 89) hx hb hg iX12 hown hK hW kd_66 rfl 4 (by decide) (hg (Cond.fieldLink RX12 185 "SlabWalkModel" "at" "I") m1318) (fun _ h9 => h9) rfl ((gp_ne eG_123 (by decide)).trans ((hq_119.i 66 4 (by decide) (by decide)).trans ((hq_114.i 66 4 (by decide) (by decide)).trans ((hq_95.i 66 4 (by decide) (by decide)).trans ((hq_90.i 66 4 (by decide) (by decide)).trans ((hq_74.i 66 4 (by decide) (by decide)).trans ((hq_51.i 66 4 (by decide) (by decide)).trans ((hq_45.i 66 4 (by decide) (by decide)).trans ((gp_ne eG_41 (by decide)).trans ((congrFun (congrFun (gp_l eG_40).1 66) 4).trans ((hq_37.i 66 4 (by decide) (by decide)).trans ((gp_ne eG_31 (by decide)).trans ((hq_27.i 66 4 (by decide) (by decide)).trans ((hq_14.i 66 4 (by decide) (by decide)).trans (rfl))))))))))))))) dX12_token_242 ?_
                    refine lv_iload_n hx hb dX12_token_245 rfl (lv_at hl 0 rfl) ?_
                    refine lv_iadd hx hb dX12_token_246 ?_
                    refine lv_topi (fun y_125 ey_125 => ?_)
                    have ty_125 : y_125.toInt = (G_1.1 66 4).toInt + x_77.toInt := xI_add rfl rfl ey_125 (by omega) (by omega)
                    refine S_putI (ty := .int) (C := RX12) (T := TX12) (N := 89) hx hb hg iX12 tyX12 tyX12_ok nmX12 hown hK hW hS kd_66 rfl 4 (by decide) (hg (Cond.fieldLink RX12 185 "SlabWalkModel" "at" "I") m1318) (fun _ h9 => h9) rfl (by decide +kernel) rfl rfl rfl dX12_token_247 (fun G_126 H locs eG_126 hW hS => ?_)
                    have hB_G_126 : Bd G_126 := hB_G_123.put (V := y_125.toInt) (lo := 0) (hi := 1600) eG_126 rfl rfl rfl (by omega) (by omega) (hB_G_123.2.put eG_126 rfl)
                    have hF := hF.put eG_126 (Or.inr (by decide))
                    have g_127 : (G_126.1 66 4).toInt = y_125.toInt := by rw [show G_126.1 66 4 = y_125 from (gp_eq eG_126)]
                    have g_128 : (G_126.1 66 6).toInt = 2 := by rw [show G_126.1 66 6 = 2 from ((gp_ne eG_126 (by decide)).trans (gp_eq eG_123))]; rfl
                    exact W.vret hx hb hr (fun t ht _ => ⟨⟨G_126, rfl, ⟨hB_G_126, hF, (by omega)⟩, wd_t ht hW⟩, hS.F ht⟩) hS.2.2 dX12_token_250
                · have c_122 : r_117.toInt ≠ 0 := xI_ne rfl rfl c_122
                  exact hJ_103 () _ _ _ ⟨G_118, hW, hB_G_118, hF, ((Fr.rf.call hq_114 (by decide) (by decide)).call hq_119 (by decide) (by decide)), hS, lv_sub hl [0, 1] rfl⟩
            · have c_98 : r_93.toInt ≠ 0 := xI_ne rfl rfl c_98
              refine lv_iload_n hx hb dX12_token_155 rfl (lv_at hl 0 rfl) ?_
              refine lv_iconst (v := 4) hx hb dX12_token_156 (by decide) ?_
              refine lv_icmp_ge (tgt := 180) hx hb dX12_token_157 (by decide) (fun c_129 => ?_) (fun c_129 => ?_)
              · have c_129 : 4 ≤ x_77.toInt := xI_le rfl rfl c_129
                obtain ⟨y_130, ey_130⟩ : ∃ q, q = x_77 + 1 := ⟨_, rfl⟩
                have ty_130 : y_130.toInt = x_77.toInt + 1 := xI_add rfl rfl ey_130 (by omega) (by omega)
                refine lv_iinc (v := y_130) (lv' := [(2, .int y_130), (0, .ref (a 66))]) hx hb dX12_token_180 hl (k := 0) rfl (by rw [ey_130]; rfl) (by decide) rfl (fun ls hl => ?_)
                refine lv_goto (tgt := 144) hx hb dX12_token_183 (by decide) ?_
                have g_131 : (G_94.1 66 4).toInt = (G_1.1 66 4).toInt := by rw [show G_94.1 66 4 = (G_1.1 66 4) from ((hq_95.i 66 4 (by decide) (by decide)).trans ((hq_90.i 66 4 (by decide) (by decide)).trans ((hq_74.i 66 4 (by decide) (by decide)).trans ((hq_51.i 66 4 (by decide) (by decide)).trans ((hq_45.i 66 4 (by decide) (by decide)).trans ((gp_ne eG_41 (by decide)).trans ((congrFun (congrFun (gp_l eG_40).1 66) 4).trans ((hq_37.i 66 4 (by decide) (by decide)).trans ((gp_ne eG_31 (by decide)).trans ((hq_27.i 66 4 (by decide) (by decide)).trans ((hq_14.i 66 4 (by decide) (by decide)).trans (rfl))))))))))))]
                have g_132 : (G_94.1 66 5).toInt = (G.1 66 5).toInt := by rw [show G_94.1 66 5 = (G.1 66 5) from ((hq_95.i 66 5 (by decide) (by decide)).trans ((hq_90.i 66 5 (by decide) (by decide)).trans ((hq_74.i 66 5 (by decide) (by decide)).trans ((hq_51.i 66 5 (by decide) (by decide)).trans ((hq_45.i 66 5 (by decide) (by decide)).trans ((gp_ne eG_41 (by decide)).trans ((congrFun (congrFun (gp_l eG_40).1 66) 5).trans ((hq_37.i 66 5 (by decide) (by decide)).trans ((gp_ne eG_31 (by decide)).trans ((hq_27.i 66 5 (by decide) (by decide)).trans ((hq_14.i 66 5 (by decide) (by decide)).trans ((hq_2.i 66 5 (by decide) (by decide)).trans (rfl)))))))))))))]
                exact ih_75 (1600 - y_130.toInt : Int).toNat (by omega) _ _ _ ⟨G_94, y_130, (Int.toNat_of_nonneg (by omega)), ⟨by omega, by omega⟩, (by omega), hW, hB_G_94, hF, (((Fr.rf.call hq_74 (by decide) (by decide)).call hq_90 (by decide) (by decide)).call hq_95 (by decide) (by decide)), hS, lv_sub hl [0, 1] rfl⟩
              · have c_129 : x_77.toInt < 4 := xI_nle rfl rfl c_129
                refine lv_aload_n hx hb dX12_token_160 rfl (lv_at hl 1 rfl) ?_
                refine lv_bipush (v := 10) hx hb dX12_token_161 (by decide) ?_
                refine lv_aload_n hx hb dX12_token_163 rfl (lv_at hl 1 rfl) ?_
                refine S_getI (v := (G_73.1 66 8)) (C := RX12) (T := TX12) (N := 89) hx hb hg iX12 hown hK hW kd_66 rfl 8 (by decide) (hg (Cond.fieldLink RX12 202 "SlabWalkModel" "number" "I") m1322) (fun _ h9 => h9) rfl ((hq_95.i 66 8 (by decide) (by decide)).trans (hq_90.i 66 8 (by decide) (by decide))) dX12_token_164 ?_
                refine lv_imul hx hb dX12_token_167 ?_
                refine lv_topi (fun y_133 ey_133 => ?_)
                refine lv_aload_n hx hb dX12_token_168 rfl (lv_at hl 1 rfl) ?_
                refine lv_iload_n hx hb dX12_token_169 rfl (lv_at hl 0 rfl) ?_
                have g_134 : (G_94.1 66 4).toInt = (G_1.1 66 4).toInt := by rw [show G_94.1 66 4 = (G_1.1 66 4) from ((hq_95.i 66 4 (by decide) (by decide)).trans ((hq_90.i 66 4 (by decide) (by decide)).trans ((hq_74.i 66 4 (by decide) (by decide)).trans ((hq_51.i 66 4 (by decide) (by decide)).trans ((hq_45.i 66 4 (by decide) (by decide)).trans ((gp_ne eG_41 (by decide)).trans ((congrFun (congrFun (gp_l eG_40).1 66) 4).trans ((hq_37.i 66 4 (by decide) (by decide)).trans ((gp_ne eG_31 (by decide)).trans ((hq_27.i 66 4 (by decide) (by decide)).trans ((hq_14.i 66 4 (by decide) (by decide)).trans (rfl))))))))))))]
                have g_135 : (G_94.1 66 5).toInt = (G.1 66 5).toInt := by rw [show G_94.1 66 5 = (G.1 66 5) from ((hq_95.i 66 5 (by decide) (by decide)).trans ((hq_90.i 66 5 (by decide) (by decide)).trans ((hq_74.i 66 5 (by decide) (by decide)).trans ((hq_51.i 66 5 (by decide) (by decide)).trans ((hq_45.i 66 5 (by decide) (by decide)).trans ((gp_ne eG_41 (by decide)).trans ((congrFun (congrFun (gp_l eG_40).1 66) 5).trans ((hq_37.i 66 5 (by decide) (by decide)).trans ((gp_ne eG_31 (by decide)).trans ((hq_27.i 66 5 (by decide) (by decide)).trans ((hq_14.i 66 5 (by decide) (by decide)).trans ((hq_2.i 66 5 (by decide) (by decide)).trans (rfl)))))))))))))]
                refine S_calli (va_runV (As := [.int x_77]) (rest := [.int y_133, .ref (a 66)]) ⟨hx, hb, hml, hown, hts⟩ (n_here l D k A a z G_94 x_77 ⟨by omega, by omega⟩) (cwV 1 hts (gd_V hgd m1606 m1608 m51 m131 m1609) rfl rfl rfl (by decide +kernel) ⟨Nat.le_of_ble_eq_true rfl, Nat.le_of_ble_eq_true rfl⟩) (pre_V hW hB_G_94 hK hZ hS kd_66 rfl) rfl rfl hl.1 rfl (lv_room (Nat.le_of_ble_eq_true rfl)) dX12_token_170 ⟨Nat.le_of_ble_eq_true rfl, Nat.le_of_ble_eq_true rfl⟩) hS (fun r_136 G_137 H locs hpo hW hS => ?_)
                obtain ⟨hB_G_137, hq_138, f_140, hp_139⟩ := hpo
                have hF := hF.call hq_138 (by decide) (by decide)
                refine lv_iadd hx hb dX12_token_173 ?_
                refine lv_topi (fun y_141 ey_141 => ?_)
                refine lv_bipush (v := 48) hx hb dX12_token_174 (by decide) ?_
                refine lv_isub hx hb dX12_token_176 ?_
                refine lv_topi (fun y_142 ey_142 => ?_)
                refine S_putI (ty := .int) (C := RX12) (T := TX12) (N := 89) hx hb hg iX12 tyX12 tyX12_ok nmX12 hown hK hW hS kd_66 rfl 8 (by decide) (hg (Cond.fieldLink RX12 202 "SlabWalkModel" "number" "I") m1322) (fun _ h9 => h9) rfl (by decide +kernel) rfl rfl rfl dX12_token_177 (fun G_143 H locs eG_143 hW hS => ?_)
                have hB_G_143 : Bd G_143 := hB_G_137.put (lo := (-2147483648)) (hi := 2147483647) eG_143 rfl rfl rfl (tI_rng _).1 (tI_rng _).2 (hB_G_137.2.put eG_143 rfl)
                have hF := hF.put eG_143 (Or.inr (by decide))
                obtain ⟨y_144, ey_144⟩ : ∃ q, q = x_77 + 1 := ⟨_, rfl⟩
                have ty_144 : y_144.toInt = x_77.toInt + 1 := xI_add rfl rfl ey_144 (by omega) (by omega)
                refine lv_iinc (v := y_144) (lv' := [(2, .int y_144), (0, .ref (a 66))]) hx hb dX12_token_180 hl (k := 0) rfl (by rw [ey_144]; rfl) (by decide) rfl (fun ls hl => ?_)
                refine lv_goto (tgt := 144) hx hb dX12_token_183 (by decide) ?_
                have g_145 : (G_143.1 66 4).toInt = (G_1.1 66 4).toInt := by rw [show G_143.1 66 4 = (G_1.1 66 4) from ((gp_ne eG_143 (by decide)).trans ((hq_138.i 66 4 (by decide) (by decide)).trans ((hq_95.i 66 4 (by decide) (by decide)).trans ((hq_90.i 66 4 (by decide) (by decide)).trans ((hq_74.i 66 4 (by decide) (by decide)).trans ((hq_51.i 66 4 (by decide) (by decide)).trans ((hq_45.i 66 4 (by decide) (by decide)).trans ((gp_ne eG_41 (by decide)).trans ((congrFun (congrFun (gp_l eG_40).1 66) 4).trans ((hq_37.i 66 4 (by decide) (by decide)).trans ((gp_ne eG_31 (by decide)).trans ((hq_27.i 66 4 (by decide) (by decide)).trans ((hq_14.i 66 4 (by decide) (by decide)).trans (rfl))))))))))))))]
                have g_146 : (G_143.1 66 5).toInt = (G.1 66 5).toInt := by rw [show G_143.1 66 5 = (G.1 66 5) from ((gp_ne eG_143 (by decide)).trans ((hq_138.i 66 5 (by decide) (by decide)).trans ((hq_95.i 66 5 (by decide) (by decide)).trans ((hq_90.i 66 5 (by decide) (by decide)).trans ((hq_74.i 66 5 (by decide) (by decide)).trans ((hq_51.i 66 5 (by decide) (by decide)).trans ((hq_45.i 66 5 (by decide) (by decide)).trans ((gp_ne eG_41 (by decide)).trans ((congrFun (congrFun (gp_l eG_40).1 66) 5).trans ((hq_37.i 66 5 (by decide) (by decide)).trans ((gp_ne eG_31 (by decide)).trans ((hq_27.i 66 5 (by decide) (by decide)).trans ((hq_14.i 66 5 (by decide) (by decide)).trans ((hq_2.i 66 5 (by decide) (by decide)).trans (rfl)))))))))))))))]
                exact ih_75 (1600 - y_144.toInt : Int).toNat (by omega) _ _ _ ⟨G_143, y_144, (Int.toNat_of_nonneg (by omega)), ⟨by omega, by omega⟩, (by omega), hW, hB_G_143, hF, (((((Fr.rf.call hq_74 (by decide) (by decide)).call hq_90 (by decide) (by decide)).call hq_95 (by decide) (by decide)).call hq_138 (by decide) (by decide)).put eG_143 (Or.inr (by decide))), hS, lv_sub hl [0, 1] rfl⟩
        · have c_48 : r_43.toInt ≠ 0 := xI_ne rfl rfl c_48
          have g_152 : (G_44.1 66 4).toInt = (G_1.1 66 4).toInt := by rw [show G_44.1 66 4 = (G_1.1 66 4) from ((hq_45.i 66 4 (by decide) (by decide)).trans ((gp_ne eG_41 (by decide)).trans ((congrFun (congrFun (gp_l eG_40).1 66) 4).trans ((hq_37.i 66 4 (by decide) (by decide)).trans ((gp_ne eG_31 (by decide)).trans ((hq_27.i 66 4 (by decide) (by decide)).trans ((hq_14.i 66 4 (by decide) (by decide)).trans (rfl))))))))]
          have g_153 : (G_44.1 66 5).toInt = (G.1 66 5).toInt := by rw [show G_44.1 66 5 = (G.1 66 5) from ((hq_45.i 66 5 (by decide) (by decide)).trans ((gp_ne eG_41 (by decide)).trans ((congrFun (congrFun (gp_l eG_40).1 66) 5).trans ((hq_37.i 66 5 (by decide) (by decide)).trans ((gp_ne eG_31 (by decide)).trans ((hq_27.i 66 5 (by decide) (by decide)).trans ((hq_14.i 66 5 (by decide) (by decide)).trans ((hq_2.i 66 5 (by decide) (by decide)).trans (rfl)))))))))]
          have qc_154 : (0 : Int32).toInt = 0 := rfl
          refine loop_N (Inv := fun n H locs ls => ∃ (G_147 : GS) (x_151 : Int32), (n : Int) = 1600 - x_151.toInt ∧ (0 ≤ x_151.toInt ∧ x_151.toInt ≤ 1600) ∧ ((G_147.1 66 4).toInt + x_151.toInt ≤ (G_147.1 66 5).toInt) ∧ Wd D k A a G_147 H ∧ Bd G_147 ∧ Fr [] [(66, 4), (66, 6), (66, 7), (66, 8), (66, 9)] G G_147 ∧ Fr [] [(66, 9)] G_44 G_147 ∧ va_S A s.heap H locs ∧ lv_has ls 3 [(2, .int x_151), (0, .ref (a 66))]) (fun n_150 H locs ls ih_149 hI => ?_) (1600 - 0 : Int).toNat ⟨G_44, 0, (Int.toNat_of_nonneg (by omega)), ⟨by omega, by omega⟩, (by omega), hW, hB_G_44, hF, Fr.rf, hS, lv_sub hl [0, 2] rfl⟩
          obtain ⟨G_147, x_151, hn_157, f_155, f_156, hW, hB_G_147, hF, hq_148, hS, hl⟩ := hI
          have g_158 : (G_147.1 66 4).toInt = (G_1.1 66 4).toInt := by rw [show G_147.1 66 4 = (G_1.1 66 4) from ((hq_148.i 66 4 (by decide) (by decide)).trans ((hq_45.i 66 4 (by decide) (by decide)).trans ((gp_ne eG_41 (by decide)).trans ((congrFun (congrFun (gp_l eG_40).1 66) 4).trans ((hq_37.i 66 4 (by decide) (by decide)).trans ((gp_ne eG_31 (by decide)).trans ((hq_27.i 66 4 (by decide) (by decide)).trans ((hq_14.i 66 4 (by decide) (by decide)).trans (rfl)))))))))]
          have g_159 : (G_147.1 66 5).toInt = (G.1 66 5).toInt := by rw [show G_147.1 66 5 = (G.1 66 5) from ((hq_148.i 66 5 (by decide) (by decide)).trans ((hq_45.i 66 5 (by decide) (by decide)).trans ((gp_ne eG_41 (by decide)).trans ((congrFun (congrFun (gp_l eG_40).1 66) 5).trans ((hq_37.i 66 5 (by decide) (by decide)).trans ((gp_ne eG_31 (by decide)).trans ((hq_27.i 66 5 (by decide) (by decide)).trans ((hq_14.i 66 5 (by decide) (by decide)).trans ((hq_2.i 66 5 (by decide) (by decide)).trans (rfl))))))))))]
          refine lv_aload_n hx hb dX12_token_78 rfl (lv_at hl 1 rfl) ?_
          refine lv_iload_n hx hb dX12_token_79 rfl (lv_at hl 0 rfl) ?_
          have g_160 : (G_147.1 66 4).toInt = (G_1.1 66 4).toInt := by rw [show G_147.1 66 4 = (G_1.1 66 4) from ((hq_148.i 66 4 (by decide) (by decide)).trans ((hq_45.i 66 4 (by decide) (by decide)).trans ((gp_ne eG_41 (by decide)).trans ((congrFun (congrFun (gp_l eG_40).1 66) 4).trans ((hq_37.i 66 4 (by decide) (by decide)).trans ((gp_ne eG_31 (by decide)).trans ((hq_27.i 66 4 (by decide) (by decide)).trans ((hq_14.i 66 4 (by decide) (by decide)).trans (rfl)))))))))]
          have g_161 : (G_147.1 66 5).toInt = (G.1 66 5).toInt := by rw [show G_147.1 66 5 = (G.1 66 5) from ((hq_148.i 66 5 (by decide) (by decide)).trans ((hq_45.i 66 5 (by decide) (by decide)).trans ((gp_ne eG_41 (by decide)).trans ((congrFun (congrFun (gp_l eG_40).1 66) 5).trans ((hq_37.i 66 5 (by decide) (by decide)).trans ((gp_ne eG_31 (by decide)).trans ((hq_27.i 66 5 (by decide) (by decide)).trans ((hq_14.i 66 5 (by decide) (by decide)).trans ((hq_2.i 66 5 (by decide) (by decide)).trans (rfl))))))))))]
          refine S_calli (va_runV (As := [.int x_151]) (rest := []) ⟨hx, hb, hml, hown, hts⟩ (n_here l D k A a z G_147 x_151 ⟨by omega, by omega⟩) (cwV 1 hts (gd_V hgd m1606 m1608 m51 m131 m1609) rfl rfl rfl (by decide +kernel) ⟨Nat.le_of_ble_eq_true rfl, Nat.le_of_ble_eq_true rfl⟩) (pre_V hW hB_G_147 hK hZ hS kd_66 rfl) rfl rfl hl.1 rfl (lv_room (Nat.le_of_ble_eq_true rfl)) dX12_token_80 ⟨Nat.le_of_ble_eq_true rfl, Nat.le_of_ble_eq_true rfl⟩) hS (fun r_162 G_163 H locs hpo hW hS => ?_)
          obtain ⟨hB_G_163, hq_164, f_166, hp_165⟩ := hpo
          have hF := hF.call hq_164 (by decide) (by decide)
          refine S_calli (va_runS (As := [.int r_162]) (rest := []) ⟨hx, hb, hml, hown, hts⟩ (n_letter l D k A a z G_163 r_162 ) (va_cwS 1 hts (gd_S hgd m1610 m1611 m131 m1612) rfl rfl rfl (by decide +kernel) ⟨Nat.le_of_ble_eq_true rfl, Nat.le_of_ble_eq_true rfl⟩) (pre_S hW hB_G_163 hK hZ hS) rfl rfl hl.1 rfl (lv_room (Nat.le_of_ble_eq_true rfl)) dX12_token_83 ⟨Nat.le_of_ble_eq_true rfl, Nat.le_of_ble_eq_true rfl⟩) hS (fun r_167 G_168 H locs hpo hW hS => ?_)
          obtain ⟨hB_G_168, hq_169, f_171, hp_170⟩ := hpo
          have hF := hF.call hq_169 (by decide) (by decide)
          refine lv_if_eq (tgt := 119) hx hb dX12_token_86 (by decide) (fun c_172 => ?_) (fun c_172 => ?_)
          · have c_172 : r_167.toInt = 0 := xI_eq rfl rfl c_172
            refine lv_aload_n hx hb dX12_token_119 rfl (lv_at hl 1 rfl) ?_
            refine lv_iload_n hx hb dX12_token_120 rfl (lv_at hl 0 rfl) ?_
            refine lv_bipush (v := 8) hx hb dX12_token_121 (by decide) ?_
            refine lv_icmp_le (tgt := 130) hx hb dX12_token_123 (by decide) (fun c_173 => ?_) (fun c_173 => ?_)
            · have c_173 : x_151.toInt ≤ 8 := xI_le rfl rfl c_173
              refine lv_iconst (v := 1) hx hb dX12_token_130 (by decide) ?_
              refine S_putI (ty := .int) (C := RX12) (T := TX12) (N := 89) hx hb hg iX12 tyX12 tyX12_ok nmX12 hown hK hW hS kd_66 rfl 6 (by decide) (hg (Cond.fieldLink RX12 205 "SlabWalkModel" "sort" "I") m1320) (fun _ h9 => h9) rfl (by decide +kernel) rfl rfl rfl dX12_token_131 (fun G_174 H locs eG_174 hW hS => ?_)
              have hB_G_174 : Bd G_174 := hB_G_168.put (lo := (-2147483648)) (hi := 2147483647) eG_174 rfl rfl rfl (tI_rng _).1 (tI_rng _).2 (hB_G_168.2.put eG_174 rfl)
              have hF := hF.put eG_174 (Or.inr (by decide))
              refine lv_goto (tgt := 232) hx hb dX12_token_134 (by decide) ?_
              refine lv_aload_n hx hb dX12_token_232 rfl (lv_at hl 1 rfl) ?_
              refine S_getI (v := 1) (C := RX12) (T := TX12) (N := 89) hx hb hg iX12 hown hK hW kd_66 rfl 6 (by decide) (hg (Cond.fieldLink RX12 205 "SlabWalkModel" "sort" "I") m1320) (fun _ h9 => h9) rfl (gp_eq eG_174) dX12_token_233 ?_
              refine lv_iconst (v := 3) hx hb dX12_token_236 (by decide) ?_
              refine lv_icmp_eq (tgt := 250) hx hb dX12_token_237 (by decide) (fun c_175 => ?_) (fun c_175 => ?_)
              · have c_175 : (1 : Int) = (3 : Int) := xI_eq rfl rfl c_175
                exfalso; omega
              · have c_175 : (1 : Int) ≠ (3 : Int) := xI_ne rfl rfl c_175
                refine lv_aload_n hx hb dX12_token_240 rfl (lv_at hl 1 rfl) ?_
                refine lv_dup hx hb dX12_token_241 rfl ?_
                refine S_getI (v := (G_1.1 66 4)) (C := RX12) (T := TX12) (N := 89) hx hb hg iX12 hown hK hW kd_66 rfl 4 (by decide) (hg (Cond.fieldLink RX12 185 "SlabWalkModel" "at" "I") m1318) (fun _ h9 => h9) rfl ((gp_ne eG_174 (by decide)).trans ((hq_169.i 66 4 (by decide) (by decide)).trans ((hq_164.i 66 4 (by decide) (by decide)).trans ((hq_148.i 66 4 (by decide) (by decide)).trans ((hq_45.i 66 4 (by decide) (by decide)).trans ((gp_ne eG_41 (by decide)).trans ((congrFun (congrFun (gp_l eG_40).1 66) 4).trans ((hq_37.i 66 4 (by decide) (by decide)).trans ((gp_ne eG_31 (by decide)).trans ((hq_27.i 66 4 (by decide) (by decide)).trans ((hq_14.i 66 4 (by decide) (by decide)).trans (rfl)))))))))))) dX12_token_242 ?_
                refine lv_iload_n hx hb dX12_token_245 rfl (lv_at hl 0 rfl) ?_
                refine lv_iadd hx hb dX12_token_246 ?_
                refine lv_topi (fun y_176 ey_176 => ?_)
                have ty_176 : y_176.toInt = (G_1.1 66 4).toInt + x_151.toInt := xI_add rfl rfl ey_176 (by omega) (by omega)
                refine S_putI (ty := .int) (C := RX12) (T := TX12) (N := 89) hx hb hg iX12 tyX12 tyX12_ok nmX12 hown hK hW hS kd_66 rfl 4 (by decide) (hg (Cond.fieldLink RX12 185 "SlabWalkModel" "at" "I") m1318) (fun _ h9 => h9) rfl (by decide +kernel) rfl rfl rfl dX12_token_247 (fun G_177 H locs eG_177 hW hS => ?_)
                have hB_G_177 : Bd G_177 := hB_G_174.put (V := y_176.toInt) (lo := 0) (hi := 1600) eG_177 rfl rfl rfl (by omega) (by omega) (hB_G_174.2.put eG_177 rfl)
                have hF := hF.put eG_177 (Or.inr (by decide))
                have g_178 : (G_177.1 66 4).toInt = y_176.toInt := by rw [show G_177.1 66 4 = y_176 from (gp_eq eG_177)]
                have g_179 : (G_177.1 66 6).toInt = 1 := by rw [show G_177.1 66 6 = 1 from ((gp_ne eG_177 (by decide)).trans (gp_eq eG_174))]; rfl
                exact W.vret hx hb hr (fun t ht _ => ⟨⟨G_177, rfl, ⟨hB_G_177, hF, (by omega)⟩, wd_t ht hW⟩, hS.F ht⟩) hS.2.2 dX12_token_250
            · have c_173 : 8 < x_151.toInt := xI_nle rfl rfl c_173
              refine lv_iconst (v := 3) hx hb dX12_token_126 (by decide) ?_
              refine lv_goto (tgt := 131) hx hb dX12_token_127 (by decide) ?_
              refine S_putI (ty := .int) (C := RX12) (T := TX12) (N := 89) hx hb hg iX12 tyX12 tyX12_ok nmX12 hown hK hW hS kd_66 rfl 6 (by decide) (hg (Cond.fieldLink RX12 205 "SlabWalkModel" "sort" "I") m1320) (fun _ h9 => h9) rfl (by decide +kernel) rfl rfl rfl dX12_token_131 (fun G_180 H locs eG_180 hW hS => ?_)
              have hB_G_180 : Bd G_180 := hB_G_168.put (lo := (-2147483648)) (hi := 2147483647) eG_180 rfl rfl rfl (tI_rng _).1 (tI_rng _).2 (hB_G_168.2.put eG_180 rfl)
              have hF := hF.put eG_180 (Or.inr (by decide))
              refine lv_goto (tgt := 232) hx hb dX12_token_134 (by decide) ?_
              refine lv_aload_n hx hb dX12_token_232 rfl (lv_at hl 1 rfl) ?_
              refine S_getI (v := 3) (C := RX12) (T := TX12) (N := 89) hx hb hg iX12 hown hK hW kd_66 rfl 6 (by decide) (hg (Cond.fieldLink RX12 205 "SlabWalkModel" "sort" "I") m1320) (fun _ h9 => h9) rfl (gp_eq eG_180) dX12_token_233 ?_
              refine lv_iconst (v := 3) hx hb dX12_token_236 (by decide) ?_
              refine lv_icmp_eq (tgt := 250) hx hb dX12_token_237 (by decide) (fun c_181 => ?_) (fun c_181 => ?_)
              · have c_181 : (3 : Int) = (3 : Int) := xI_eq rfl rfl c_181
                have g_182 : (G_180.1 66 4).toInt = (G_1.1 66 4).toInt := by rw [show G_180.1 66 4 = (G_1.1 66 4) from ((gp_ne eG_180 (by decide)).trans ((hq_169.i 66 4 (by decide) (by decide)).trans ((hq_164.i 66 4 (by decide) (by decide)).trans ((hq_148.i 66 4 (by decide) (by decide)).trans ((hq_45.i 66 4 (by decide) (by decide)).trans ((gp_ne eG_41 (by decide)).trans ((congrFun (congrFun (gp_l eG_40).1 66) 4).trans ((hq_37.i 66 4 (by decide) (by decide)).trans ((gp_ne eG_31 (by decide)).trans ((hq_27.i 66 4 (by decide) (by decide)).trans ((hq_14.i 66 4 (by decide) (by decide)).trans (rfl))))))))))))]
                have g_183 : (G_180.1 66 6).toInt = 3 := by rw [show G_180.1 66 6 = 3 from (gp_eq eG_180)]; rfl
                exact W.vret hx hb hr (fun t ht _ => ⟨⟨G_180, rfl, ⟨hB_G_180, hF, (by omega)⟩, wd_t ht hW⟩, hS.F ht⟩) hS.2.2 dX12_token_250
              · have c_181 : (3 : Int) ≠ (3 : Int) := xI_ne rfl rfl c_181
                exfalso; omega
          · have c_172 : r_167.toInt ≠ 0 := xI_ne rfl rfl c_172
            refine lv_iload_n hx hb dX12_token_89 rfl (lv_at hl 0 rfl) ?_
            refine lv_bipush (v := 8) hx hb dX12_token_90 (by decide) ?_
            refine lv_icmp_ge (tgt := 113) hx hb dX12_token_92 (by decide) (fun c_184 => ?_) (fun c_184 => ?_)
            · have c_184 : 8 ≤ x_151.toInt := xI_le rfl rfl c_184
              obtain ⟨y_185, ey_185⟩ : ∃ q, q = x_151 + 1 := ⟨_, rfl⟩
              have ty_185 : y_185.toInt = x_151.toInt + 1 := xI_add rfl rfl ey_185 (by omega) (by omega)
              refine lv_iinc (v := y_185) (lv' := [(2, .int y_185), (0, .ref (a 66))]) hx hb dX12_token_113 hl (k := 0) rfl (by rw [ey_185]; rfl) (by decide) rfl (fun ls hl => ?_)
              refine lv_goto (tgt := 78) hx hb dX12_token_116 (by decide) ?_
              have g_186 : (G_168.1 66 4).toInt = (G_1.1 66 4).toInt := by rw [show G_168.1 66 4 = (G_1.1 66 4) from ((hq_169.i 66 4 (by decide) (by decide)).trans ((hq_164.i 66 4 (by decide) (by decide)).trans ((hq_148.i 66 4 (by decide) (by decide)).trans ((hq_45.i 66 4 (by decide) (by decide)).trans ((gp_ne eG_41 (by decide)).trans ((congrFun (congrFun (gp_l eG_40).1 66) 4).trans ((hq_37.i 66 4 (by decide) (by decide)).trans ((gp_ne eG_31 (by decide)).trans ((hq_27.i 66 4 (by decide) (by decide)).trans ((hq_14.i 66 4 (by decide) (by decide)).trans (rfl)))))))))))]
              have g_187 : (G_168.1 66 5).toInt = (G.1 66 5).toInt := by rw [show G_168.1 66 5 = (G.1 66 5) from ((hq_169.i 66 5 (by decide) (by decide)).trans ((hq_164.i 66 5 (by decide) (by decide)).trans ((hq_148.i 66 5 (by decide) (by decide)).trans ((hq_45.i 66 5 (by decide) (by decide)).trans ((gp_ne eG_41 (by decide)).trans ((congrFun (congrFun (gp_l eG_40).1 66) 5).trans ((hq_37.i 66 5 (by decide) (by decide)).trans ((gp_ne eG_31 (by decide)).trans ((hq_27.i 66 5 (by decide) (by decide)).trans ((hq_14.i 66 5 (by decide) (by decide)).trans ((hq_2.i 66 5 (by decide) (by decide)).trans (rfl))))))))))))]
              exact ih_149 (1600 - y_185.toInt : Int).toNat (by omega) _ _ _ ⟨G_168, y_185, (Int.toNat_of_nonneg (by omega)), ⟨by omega, by omega⟩, (by omega), hW, hB_G_168, hF, (((Fr.rf.call hq_148 (by decide) (by decide)).call hq_164 (by decide) (by decide)).call hq_169 (by decide) (by decide)), hS, lv_sub hl [0, 1] rfl⟩
            · have c_184 : x_151.toInt < 8 := xI_nle rfl rfl c_184
              refine lv_aload_n hx hb dX12_token_95 rfl (lv_at hl 1 rfl) ?_
              refine lv_aload_n hx hb dX12_token_96 rfl (lv_at hl 1 rfl) ?_
              obtain ⟨y_188, ey_188⟩ : ∃ q, G_168.2.1 66 9 = q := ⟨_, rfl⟩
              refine S_getL (v := y_188) (C := RX12) (T := TX12) (N := 89) hx hb hg iX12 hown hK hW kd_66 rfl 9 (by decide) (hg (Cond.fieldLink RX12 198 "SlabWalkModel" "word" "J") m1323) (fun _ h9 => h9) rfl ey_188 dX12_token_97 ?_
              refine lv_bipush (v := 8) hx hb dX12_token_100 (by decide) ?_
              refine lv_lshl hx hb dX12_token_102 rfl ?_
              refine lv_topl (fun y_189 ey_189 => ?_)
              refine lv_aload_n hx hb dX12_token_103 rfl (lv_at hl 1 rfl) ?_
              refine lv_iload_n hx hb dX12_token_104 rfl (lv_at hl 0 rfl) ?_
              have g_190 : (G_168.1 66 4).toInt = (G_1.1 66 4).toInt := by rw [show G_168.1 66 4 = (G_1.1 66 4) from ((hq_169.i 66 4 (by decide) (by decide)).trans ((hq_164.i 66 4 (by decide) (by decide)).trans ((hq_148.i 66 4 (by decide) (by decide)).trans ((hq_45.i 66 4 (by decide) (by decide)).trans ((gp_ne eG_41 (by decide)).trans ((congrFun (congrFun (gp_l eG_40).1 66) 4).trans ((hq_37.i 66 4 (by decide) (by decide)).trans ((gp_ne eG_31 (by decide)).trans ((hq_27.i 66 4 (by decide) (by decide)).trans ((hq_14.i 66 4 (by decide) (by decide)).trans (rfl)))))))))))]
              have g_191 : (G_168.1 66 5).toInt = (G.1 66 5).toInt := by rw [show G_168.1 66 5 = (G.1 66 5) from ((hq_169.i 66 5 (by decide) (by decide)).trans ((hq_164.i 66 5 (by decide) (by decide)).trans ((hq_148.i 66 5 (by decide) (by decide)).trans ((hq_45.i 66 5 (by decide) (by decide)).trans ((gp_ne eG_41 (by decide)).trans ((congrFun (congrFun (gp_l eG_40).1 66) 5).trans ((hq_37.i 66 5 (by decide) (by decide)).trans ((gp_ne eG_31 (by decide)).trans ((hq_27.i 66 5 (by decide) (by decide)).trans ((hq_14.i 66 5 (by decide) (by decide)).trans ((hq_2.i 66 5 (by decide) (by decide)).trans (rfl))))))))))))]
              refine S_calli (va_runV (As := [.int x_151]) (rest := [.long y_189, .ref (a 66)]) ⟨hx, hb, hml, hown, hts⟩ (n_here l D k A a z G_168 x_151 ⟨by omega, by omega⟩) (cwV 1 hts (gd_V hgd m1606 m1608 m51 m131 m1609) rfl rfl rfl (by decide +kernel) ⟨Nat.le_of_ble_eq_true rfl, Nat.le_of_ble_eq_true rfl⟩) (pre_V hW hB_G_168 hK hZ hS kd_66 rfl) rfl rfl hl.1 rfl (lv_room (Nat.le_of_ble_eq_true rfl)) dX12_token_105 ⟨Nat.le_of_ble_eq_true rfl, Nat.le_of_ble_eq_true rfl⟩) hS (fun r_192 G_193 H locs hpo hW hS => ?_)
              obtain ⟨hB_G_193, hq_194, f_196, hp_195⟩ := hpo
              have hF := hF.call hq_194 (by decide) (by decide)
              refine lv_i2l hx hb dX12_token_108 rfl ?_
              refine lv_topl (fun y_197 ey_197 => ?_)
              refine lv_lor hx hb dX12_token_109 ?_
              refine lv_topl (fun y_198 ey_198 => ?_)
              refine S_putL (C := RX12) (T := TX12) (N := 89) hx hb hg iX12 tyX12 tyX12_ok nmX12 hown hK hW hS kd_66 rfl 9 (by decide) (hg (Cond.fieldLink RX12 198 "SlabWalkModel" "word" "J") m1323) (fun _ h9 => h9) rfl (by decide +kernel) rfl dX12_token_110 (fun G_199 H locs eG_199 hW hS => ?_)
              have hB_G_199 : Bd G_199 := hB_G_193.putl eG_199
              have hF := hF.putl eG_199 (Or.inr (by decide))
              obtain ⟨y_200, ey_200⟩ : ∃ q, q = x_151 + 1 := ⟨_, rfl⟩
              have ty_200 : y_200.toInt = x_151.toInt + 1 := xI_add rfl rfl ey_200 (by omega) (by omega)
              refine lv_iinc (v := y_200) (lv' := [(2, .int y_200), (0, .ref (a 66))]) hx hb dX12_token_113 hl (k := 0) rfl (by rw [ey_200]; rfl) (by decide) rfl (fun ls hl => ?_)
              refine lv_goto (tgt := 78) hx hb dX12_token_116 (by decide) ?_
              have g_201 : (G_199.1 66 4).toInt = (G_1.1 66 4).toInt := by rw [show G_199.1 66 4 = (G_1.1 66 4) from ((congrFun (congrFun (gp_l eG_199).1 66) 4).trans ((hq_194.i 66 4 (by decide) (by decide)).trans ((hq_169.i 66 4 (by decide) (by decide)).trans ((hq_164.i 66 4 (by decide) (by decide)).trans ((hq_148.i 66 4 (by decide) (by decide)).trans ((hq_45.i 66 4 (by decide) (by decide)).trans ((gp_ne eG_41 (by decide)).trans ((congrFun (congrFun (gp_l eG_40).1 66) 4).trans ((hq_37.i 66 4 (by decide) (by decide)).trans ((gp_ne eG_31 (by decide)).trans ((hq_27.i 66 4 (by decide) (by decide)).trans ((hq_14.i 66 4 (by decide) (by decide)).trans (rfl)))))))))))))]
              have g_202 : (G_199.1 66 5).toInt = (G.1 66 5).toInt := by rw [show G_199.1 66 5 = (G.1 66 5) from ((congrFun (congrFun (gp_l eG_199).1 66) 5).trans ((hq_194.i 66 5 (by decide) (by decide)).trans ((hq_169.i 66 5 (by decide) (by decide)).trans ((hq_164.i 66 5 (by decide) (by decide)).trans ((hq_148.i 66 5 (by decide) (by decide)).trans ((hq_45.i 66 5 (by decide) (by decide)).trans ((gp_ne eG_41 (by decide)).trans ((congrFun (congrFun (gp_l eG_40).1 66) 5).trans ((hq_37.i 66 5 (by decide) (by decide)).trans ((gp_ne eG_31 (by decide)).trans ((hq_27.i 66 5 (by decide) (by decide)).trans ((hq_14.i 66 5 (by decide) (by decide)).trans ((hq_2.i 66 5 (by decide) (by decide)).trans (rfl))))))))))))))]
              exact ih_149 (1600 - y_200.toInt : Int).toNat (by omega) _ _ _ ⟨G_199, y_200, (Int.toNat_of_nonneg (by omega)), ⟨by omega, by omega⟩, (by omega), hW, hB_G_199, hF, (((((Fr.rf.call hq_148 (by decide) (by decide)).call hq_164 (by decide) (by decide)).call hq_169 (by decide) (by decide)).call hq_194 (by decide) (by decide)).putl eG_199 (Or.inr (by decide))), hS, lv_sub hl [0, 1] rfl⟩
      · have c_42 : r_35.toInt < 0 := xI_nle rfl rfl c_42
        refine lv_aload_n hx hb dX12_token_63 rfl (lv_at hl 2 rfl) ?_
        refine lv_iconst (v := 0) hx hb dX12_token_64 (by decide) ?_
        refine S_putI (ty := .int) (C := RX12) (T := TX12) (N := 89) hx hb hg iX12 tyX12 tyX12_ok nmX12 hown hK hW hS kd_66 rfl 6 (by decide) (hg (Cond.fieldLink RX12 205 "SlabWalkModel" "sort" "I") m1320) (fun _ h9 => h9) rfl (by decide +kernel) rfl rfl rfl dX12_token_65 (fun G_203 H locs eG_203 hW hS => ?_)
        have hB_G_203 : Bd G_203 := hB_G_41.put (lo := (-2147483648)) (hi := 2147483647) eG_203 rfl rfl rfl (tI_rng _).1 (tI_rng _).2 (hB_G_41.2.put eG_203 rfl)
        have hF := hF.put eG_203 (Or.inr (by decide))
        refine lv_goto (tgt := 232) hx hb dX12_token_68 (by decide) ?_
        refine lv_aload_n hx hb dX12_token_232 rfl (lv_at hl 2 rfl) ?_
        refine S_getI (v := 0) (C := RX12) (T := TX12) (N := 89) hx hb hg iX12 hown hK hW kd_66 rfl 6 (by decide) (hg (Cond.fieldLink RX12 205 "SlabWalkModel" "sort" "I") m1320) (fun _ h9 => h9) rfl (gp_eq eG_203) dX12_token_233 ?_
        refine lv_iconst (v := 3) hx hb dX12_token_236 (by decide) ?_
        refine lv_icmp_eq (tgt := 250) hx hb dX12_token_237 (by decide) (fun c_204 => ?_) (fun c_204 => ?_)
        · have c_204 : (0 : Int) = (3 : Int) := xI_eq rfl rfl c_204
          exfalso; omega
        · have c_204 : (0 : Int) ≠ (3 : Int) := xI_ne rfl rfl c_204
          refine lv_aload_n hx hb dX12_token_240 rfl (lv_at hl 2 rfl) ?_
          refine lv_dup hx hb dX12_token_241 rfl ?_
          refine S_getI (v := (G_1.1 66 4)) (C := RX12) (T := TX12) (N := 89) hx hb hg iX12 hown hK hW kd_66 rfl 4 (by decide) (hg (Cond.fieldLink RX12 185 "SlabWalkModel" "at" "I") m1318) (fun _ h9 => h9) rfl ((gp_ne eG_203 (by decide)).trans ((gp_ne eG_41 (by decide)).trans ((congrFun (congrFun (gp_l eG_40).1 66) 4).trans ((hq_37.i 66 4 (by decide) (by decide)).trans ((gp_ne eG_31 (by decide)).trans ((hq_27.i 66 4 (by decide) (by decide)).trans ((hq_14.i 66 4 (by decide) (by decide)).trans (rfl)))))))) dX12_token_242 ?_
          refine lv_iload_n hx hb dX12_token_245 rfl (lv_at hl 0 rfl) ?_
          refine lv_iadd hx hb dX12_token_246 ?_
          refine lv_topi (fun y_205 ey_205 => ?_)
          have ty_205 : y_205.toInt = (G_1.1 66 4).toInt + 0 := xI_add rfl rfl ey_205 (by omega) (by omega)
          refine S_putI (ty := .int) (C := RX12) (T := TX12) (N := 89) hx hb hg iX12 tyX12 tyX12_ok nmX12 hown hK hW hS kd_66 rfl 4 (by decide) (hg (Cond.fieldLink RX12 185 "SlabWalkModel" "at" "I") m1318) (fun _ h9 => h9) rfl (by decide +kernel) rfl rfl rfl dX12_token_247 (fun G_206 H locs eG_206 hW hS => ?_)
          have hB_G_206 : Bd G_206 := hB_G_203.put (V := y_205.toInt) (lo := 0) (hi := 1600) eG_206 rfl rfl rfl (by omega) (by omega) (hB_G_203.2.put eG_206 rfl)
          have hF := hF.put eG_206 (Or.inr (by decide))
          have g_207 : (G_206.1 66 4).toInt = y_205.toInt := by rw [show G_206.1 66 4 = y_205 from (gp_eq eG_206)]
          have g_208 : (G_206.1 66 6).toInt = 0 := by rw [show G_206.1 66 6 = 0 from ((gp_ne eG_206 (by decide)).trans (gp_eq eG_203))]; rfl
          exact W.vret hx hb hr (fun t ht _ => ⟨⟨G_206, rfl, ⟨hB_G_206, hF, (by omega)⟩, wd_t ht hW⟩, hS.F ht⟩) hS.2.2 dX12_token_250
    · have c_30 : r_25.toInt = 10 := xI_eq rfl rfl c_30
      refine lv_aload_n hx hb dX12_token_20 rfl (lv_at hl 0 rfl) ?_
      refine lv_dup hx hb dX12_token_21 rfl ?_
      refine S_getI (v := (G_1.1 66 4)) (C := RX12) (T := TX12) (N := 89) hx hb hg iX12 hown hK hW kd_66 rfl 4 (by decide) (hg (Cond.fieldLink RX12 185 "SlabWalkModel" "at" "I") m1318) (fun _ h9 => h9) rfl ((hq_27.i 66 4 (by decide) (by decide)).trans ((hq_14.i 66 4 (by decide) (by decide)).trans (rfl))) dX12_token_22 ?_
      refine lv_iconst (v := 1) hx hb dX12_token_25 (by decide) ?_
      refine lv_iadd hx hb dX12_token_26 ?_
      refine lv_topi (fun y_209 ey_209 => ?_)
      have ty_209 : y_209.toInt = (G_1.1 66 4).toInt + 1 := xI_add rfl rfl ey_209 (by omega) (by omega)
      refine S_putI (ty := .int) (C := RX12) (T := TX12) (N := 89) hx hb hg iX12 tyX12 tyX12_ok nmX12 hown hK hW hS kd_66 rfl 4 (by decide) (hg (Cond.fieldLink RX12 185 "SlabWalkModel" "at" "I") m1318) (fun _ h9 => h9) rfl (by decide +kernel) rfl rfl rfl dX12_token_27 (fun G_210 H locs eG_210 hW hS => ?_)
      have hB_G_210 : Bd G_210 := hB_G_26.put (V := y_209.toInt) (lo := 0) (hi := 1600) eG_210 rfl rfl rfl (by omega) (by omega) (hB_G_26.2.put eG_210 rfl)
      have hF := hF.put eG_210 (Or.inr (by decide))
      refine lv_goto (tgt := 0) hx hb dX12_token_30 (by decide) ?_
      have g_211 : (G_210.1 66 4).toInt = y_209.toInt := by rw [show G_210.1 66 4 = y_209 from (gp_eq eG_210)]
      have g_212 : (G_210.1 66 4).toInt = y_209.toInt := by rw [show G_210.1 66 4 = y_209 from (gp_eq eG_210)]
      exact ih_3 (1600 - (G_210.1 66 4).toInt : Int).toNat (by omega) _ _ _ ⟨G_210, (Int.toNat_of_nonneg (by omega)), (by omega), hW, hB_G_210, hF, ((((Fr.rf.call hq_2 (by decide) (by decide)).call hq_14 (by decide) (by decide)).call hq_27 (by decide) (by decide)).put eG_210 (Or.inr (by decide))), hS, lv_sub hl [0] rfl⟩
