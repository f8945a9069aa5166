theorem m54 : Cond.selects RX12 yX12_readStreet yX12_readStreet ∈ gd := gd_mem 54 (by decide +kernel) (by decide +kernel)
theorem m66 : Cond.selects RX12 yX12_readWalker yX12_readWalker ∈ gd := gd_mem 66 (by decide +kernel) (by decide +kernel)
theorem m68 : Cond.selects RX12 yX12_readRule yX12_readRule ∈ gd := gd_mem 68 (by decide +kernel) (by decide +kernel)
theorem m81 : Cond.selects RX12 yX12_isOnce yX12_isOnce ∈ gd := gd_mem 81 (by decide +kernel) (by decide +kernel)
theorem m82 : Cond.selects RX12 yX12_readSlip yX12_readSlip ∈ gd := gd_mem 82 (by decide +kernel) (by decide +kernel)
theorem m1362 : Cond.fieldLink RX12 410 "SlabWalkModel" "nHand" "I" ∈ gd := gd_mem 1362 (by decide +kernel) (by decide +kernel)
theorem m1363 : Cond.fieldLink RX12 413 "SlabWalkModel" "nSlack" "I" ∈ gd := gd_mem 1363 (by decide +kernel) (by decide +kernel)
theorem m1364 : Cond.fieldLink RX12 416 "SlabWalkModel" "nDraw" "I" ∈ gd := gd_mem 1364 (by decide +kernel) (by decide +kernel)
theorem m1365 : Cond.fieldLink RX12 391 "SlabWalkModel" "nOnce" "I" ∈ gd := gd_mem 1365 (by decide +kernel) (by decide +kernel)
theorem m1628 : Cond.methodLink RX12 394 yX12_readStreet ∈ gd := gd_mem 1628 (by decide +kernel) (by decide +kernel)
theorem m1630 : Cond.instanceMethod yX12_readStreet ∈ gd := gd_mem 1630 (by decide +kernel) (by decide +kernel)
theorem m1631 : Cond.code yX12_readStreet cX12_readStreet 3 none ∈ gd := gd_mem 1631 (by decide +kernel) (by decide +kernel)
theorem m1698 : Cond.methodLink RX12 397 yX12_readWalker ∈ gd := gd_mem 1698 (by decide +kernel) (by decide +kernel)
theorem m1700 : Cond.instanceMethod yX12_readWalker ∈ gd := gd_mem 1700 (by decide +kernel) (by decide +kernel)
theorem m1701 : Cond.code yX12_readWalker cX12_readWalker 2 none ∈ gd := gd_mem 1701 (by decide +kernel) (by decide +kernel)
theorem m1706 : Cond.methodLink RX12 400 yX12_readRule ∈ gd := gd_mem 1706 (by decide +kernel) (by decide +kernel)
theorem m1708 : Cond.instanceMethod yX12_readRule ∈ gd := gd_mem 1708 (by decide +kernel) (by decide +kernel)
theorem m1709 : Cond.code yX12_readRule cX12_readRule 1 none ∈ gd := gd_mem 1709 (by decide +kernel) (by decide +kernel)
theorem m1761 : Cond.methodLink RX12 403 yX12_isOnce ∈ gd := gd_mem 1761 (by decide +kernel) (by decide +kernel)
theorem m1763 : Cond.instanceMethod yX12_isOnce ∈ gd := gd_mem 1763 (by decide +kernel) (by decide +kernel)
theorem m1764 : Cond.code yX12_isOnce cX12_isOnce 4 (some .boolean) ∈ gd := gd_mem 1764 (by decide +kernel) (by decide +kernel)
theorem m1765 : Cond.methodLink RX12 407 yX12_readSlip ∈ gd := gd_mem 1765 (by decide +kernel) (by decide +kernel)
theorem m1767 : Cond.instanceMethod yX12_readSlip ∈ gd := gd_mem 1767 (by decide +kernel) (by decide +kernel)
theorem m1768 : Cond.code yX12_readSlip cX12_readSlip 1 none ∈ gd := gd_mem 1768 (by decide +kernel) (by decide +kernel)
theorem dX12_isOnce_0 : decode cX12_isOnce 0 = .ok (.aload_n 0, 1) := by decide +kernel
theorem dX12_isOnce_1 : decode cX12_isOnce 1 = .ok (.lload_n 1, 1) := by decide +kernel
theorem dX12_isOnce_2 : decode cX12_isOnce 2 = .ok (.invokevirtual 275, 3) := by decide +kernel
theorem dX12_isOnce_5 : decode cX12_isOnce 5 = .ok (.ifCond .eq 16, 3) := by decide +kernel
theorem dX12_isOnce_8 : decode cX12_isOnce 8 = .ok (.aload_n 0, 1) := by decide +kernel
theorem dX12_isOnce_9 : decode cX12_isOnce 9 = .ok (.getfield 391, 3) := by decide +kernel
theorem dX12_isOnce_12 : decode cX12_isOnce 12 = .ok (.iload_n 3, 1) := by decide +kernel
theorem dX12_isOnce_13 : decode cX12_isOnce 13 = .ok (.iand, 1) := by decide +kernel
theorem dX12_isOnce_14 : decode cX12_isOnce 14 = .ok (.ifCond .ne 7, 3) := by decide +kernel
theorem dX12_isOnce_17 : decode cX12_isOnce 17 = .ok (.iconst 1, 1) := by decide +kernel
theorem dX12_isOnce_18 : decode cX12_isOnce 18 = .ok (.goto 4, 3) := by decide +kernel
theorem dX12_isOnce_21 : decode cX12_isOnce 21 = .ok (.iconst 0, 1) := by decide +kernel
theorem dX12_isOnce_22 : decode cX12_isOnce 22 = .ok (.ireturn, 1) := by decide +kernel
theorem dX12_readLine_0 : decode cX12_readLine 0 = .ok (.aload_n 0, 1) := by decide +kernel
theorem dX12_readLine_1 : decode cX12_readLine 1 = .ok (.ldc2_w 221, 3) := by decide +kernel
theorem dX12_readLine_4 : decode cX12_readLine 4 = .ok (.invokevirtual 275, 3) := by decide +kernel
theorem dX12_readLine_7 : decode cX12_readLine 7 = .ok (.ifCond .eq 18, 3) := by decide +kernel
theorem dX12_readLine_10 : decode cX12_readLine 10 = .ok (.aload_n 0, 1) := by decide +kernel
theorem dX12_readLine_11 : decode cX12_readLine 11 = .ok (.getfield 359, 3) := by decide +kernel
theorem dX12_readLine_14 : decode cX12_readLine 14 = .ok (.iconst 3, 1) := by decide +kernel
theorem dX12_readLine_15 : decode cX12_readLine 15 = .ok (.if_icmp .ge 10, 3) := by decide +kernel
theorem dX12_readLine_18 : decode cX12_readLine 18 = .ok (.aload_n 0, 1) := by decide +kernel
theorem dX12_readLine_19 : decode cX12_readLine 19 = .ok (.invokevirtual 394, 3) := by decide +kernel
theorem dX12_readLine_22 : decode cX12_readLine 22 = .ok (.goto 178, 3) := by decide +kernel
theorem dX12_readLine_25 : decode cX12_readLine 25 = .ok (.aload_n 0, 1) := by decide +kernel
theorem dX12_readLine_26 : decode cX12_readLine 26 = .ok (.ldc2_w 225, 3) := by decide +kernel
theorem dX12_readLine_29 : decode cX12_readLine 29 = .ok (.invokevirtual 275, 3) := by decide +kernel
theorem dX12_readLine_32 : decode cX12_readLine 32 = .ok (.ifCond .eq 18, 3) := by decide +kernel
theorem dX12_readLine_35 : decode cX12_readLine 35 = .ok (.aload_n 0, 1) := by decide +kernel
theorem dX12_readLine_36 : decode cX12_readLine 36 = .ok (.getfield 379, 3) := by decide +kernel
theorem dX12_readLine_39 : decode cX12_readLine 39 = .ok (.iconst 4, 1) := by decide +kernel
theorem dX12_readLine_40 : decode cX12_readLine 40 = .ok (.if_icmp .ge 10, 3) := by decide +kernel
theorem dX12_readLine_43 : decode cX12_readLine 43 = .ok (.aload_n 0, 1) := by decide +kernel
theorem dX12_readLine_44 : decode cX12_readLine 44 = .ok (.invokevirtual 397, 3) := by decide +kernel
theorem dX12_readLine_47 : decode cX12_readLine 47 = .ok (.goto 153, 3) := by decide +kernel
theorem dX12_readLine_50 : decode cX12_readLine 50 = .ok (.aload_n 0, 1) := by decide +kernel
theorem dX12_readLine_51 : decode cX12_readLine 51 = .ok (.ldc2_w 235, 3) := by decide +kernel
theorem dX12_readLine_54 : decode cX12_readLine 54 = .ok (.invokevirtual 275, 3) := by decide +kernel
theorem dX12_readLine_57 : decode cX12_readLine 57 = .ok (.ifCond .eq 19, 3) := by decide +kernel
theorem dX12_readLine_60 : decode cX12_readLine 60 = .ok (.aload_n 0, 1) := by decide +kernel
theorem dX12_readLine_61 : decode cX12_readLine 61 = .ok (.getfield 385, 3) := by decide +kernel
theorem dX12_readLine_64 : decode cX12_readLine 64 = .ok (.bipush 6, 2) := by decide +kernel
theorem dX12_readLine_66 : decode cX12_readLine 66 = .ok (.if_icmp .ge 10, 3) := by decide +kernel
theorem dX12_readLine_69 : decode cX12_readLine 69 = .ok (.aload_n 0, 1) := by decide +kernel
theorem dX12_readLine_70 : decode cX12_readLine 70 = .ok (.invokevirtual 400, 3) := by decide +kernel
theorem dX12_readLine_73 : decode cX12_readLine 73 = .ok (.goto 127, 3) := by decide +kernel
theorem dX12_readLine_76 : decode cX12_readLine 76 = .ok (.aload_n 0, 1) := by decide +kernel
theorem dX12_readLine_77 : decode cX12_readLine 77 = .ok (.ldc2_w 237, 3) := by decide +kernel
theorem dX12_readLine_80 : decode cX12_readLine 80 = .ok (.iconst 1, 1) := by decide +kernel
theorem dX12_readLine_81 : decode cX12_readLine 81 = .ok (.invokevirtual 403, 3) := by decide +kernel
theorem dX12_readLine_84 : decode cX12_readLine 84 = .ok (.ifCond .eq 20, 3) := by decide +kernel
theorem dX12_readLine_87 : decode cX12_readLine 87 = .ok (.aload_n 0, 1) := by decide +kernel
theorem dX12_readLine_88 : decode cX12_readLine 88 = .ok (.dup, 1) := by decide +kernel
theorem dX12_readLine_89 : decode cX12_readLine 89 = .ok (.getfield 391, 3) := by decide +kernel
theorem dX12_readLine_92 : decode cX12_readLine 92 = .ok (.iconst 1, 1) := by decide +kernel
theorem dX12_readLine_93 : decode cX12_readLine 93 = .ok (.ior, 1) := by decide +kernel
theorem dX12_readLine_94 : decode cX12_readLine 94 = .ok (.putfield 391, 3) := by decide +kernel
theorem dX12_readLine_97 : decode cX12_readLine 97 = .ok (.aload_n 0, 1) := by decide +kernel
theorem dX12_readLine_98 : decode cX12_readLine 98 = .ok (.invokevirtual 407, 3) := by decide +kernel
theorem dX12_readLine_101 : decode cX12_readLine 101 = .ok (.goto 99, 3) := by decide +kernel
theorem dX12_readLine_104 : decode cX12_readLine 104 = .ok (.aload_n 0, 1) := by decide +kernel
theorem dX12_readLine_105 : decode cX12_readLine 105 = .ok (.ldc2_w 239, 3) := by decide +kernel
theorem dX12_readLine_108 : decode cX12_readLine 108 = .ok (.iconst 2, 1) := by decide +kernel
theorem dX12_readLine_109 : decode cX12_readLine 109 = .ok (.invokevirtual 403, 3) := by decide +kernel
theorem dX12_readLine_112 : decode cX12_readLine 112 = .ok (.ifCond .eq 44, 3) := by decide +kernel
theorem dX12_readLine_115 : decode cX12_readLine 115 = .ok (.aload_n 0, 1) := by decide +kernel
theorem dX12_readLine_116 : decode cX12_readLine 116 = .ok (.dup, 1) := by decide +kernel
theorem dX12_readLine_117 : decode cX12_readLine 117 = .ok (.getfield 391, 3) := by decide +kernel
theorem dX12_readLine_120 : decode cX12_readLine 120 = .ok (.iconst 2, 1) := by decide +kernel
theorem dX12_readLine_121 : decode cX12_readLine 121 = .ok (.ior, 1) := by decide +kernel
theorem dX12_readLine_122 : decode cX12_readLine 122 = .ok (.putfield 391, 3) := by decide +kernel
theorem dX12_readLine_125 : decode cX12_readLine 125 = .ok (.aload_n 0, 1) := by decide +kernel
theorem dX12_readLine_126 : decode cX12_readLine 126 = .ok (.aload_n 0, 1) := by decide +kernel
theorem dX12_readLine_127 : decode cX12_readLine 127 = .ok (.ldc2_w 239, 3) := by decide +kernel
theorem dX12_readLine_130 : decode cX12_readLine 130 = .ok (.iconst 1, 1) := by decide +kernel
theorem dX12_readLine_131 : decode cX12_readLine 131 = .ok (.bipush 99, 2) := by decide +kernel
theorem dX12_readLine_133 : decode cX12_readLine 133 = .ok (.invokevirtual 372, 3) := by decide +kernel
theorem dX12_readLine_136 : decode cX12_readLine 136 = .ok (.putfield 410, 3) := by decide +kernel
theorem dX12_readLine_139 : decode cX12_readLine 139 = .ok (.aload_n 0, 1) := by decide +kernel
theorem dX12_readLine_140 : decode cX12_readLine 140 = .ok (.aload_n 0, 1) := by decide +kernel
theorem dX12_readLine_141 : decode cX12_readLine 141 = .ok (.ldc2_w 241, 3) := by decide +kernel
theorem dX12_readLine_144 : decode cX12_readLine 144 = .ok (.iconst 0, 1) := by decide +kernel
theorem dX12_readLine_145 : decode cX12_readLine 145 = .ok (.bipush 99, 2) := by decide +kernel
theorem dX12_readLine_147 : decode cX12_readLine 147 = .ok (.invokevirtual 372, 3) := by decide +kernel
theorem dX12_readLine_150 : decode cX12_readLine 150 = .ok (.putfield 413, 3) := by decide +kernel
theorem dX12_readLine_153 : decode cX12_readLine 153 = .ok (.goto 47, 3) := by decide +kernel
theorem dX12_readLine_156 : decode cX12_readLine 156 = .ok (.aload_n 0, 1) := by decide +kernel
theorem dX12_readLine_157 : decode cX12_readLine 157 = .ok (.ldc2_w 243, 3) := by decide +kernel
theorem dX12_readLine_160 : decode cX12_readLine 160 = .ok (.iconst 4, 1) := by decide +kernel
theorem dX12_readLine_161 : decode cX12_readLine 161 = .ok (.invokevirtual 403, 3) := by decide +kernel
theorem dX12_readLine_164 : decode cX12_readLine 164 = .ok (.ifCond .eq 31, 3) := by decide +kernel
theorem dX12_readLine_167 : decode cX12_readLine 167 = .ok (.aload_n 0, 1) := by decide +kernel
theorem dX12_readLine_168 : decode cX12_readLine 168 = .ok (.dup, 1) := by decide +kernel
theorem dX12_readLine_169 : decode cX12_readLine 169 = .ok (.getfield 391, 3) := by decide +kernel
theorem dX12_readLine_172 : decode cX12_readLine 172 = .ok (.iconst 4, 1) := by decide +kernel
theorem dX12_readLine_173 : decode cX12_readLine 173 = .ok (.ior, 1) := by decide +kernel
theorem dX12_readLine_174 : decode cX12_readLine 174 = .ok (.putfield 391, 3) := by decide +kernel
theorem dX12_readLine_177 : decode cX12_readLine 177 = .ok (.aload_n 0, 1) := by decide +kernel
theorem dX12_readLine_178 : decode cX12_readLine 178 = .ok (.aload_n 0, 1) := by decide +kernel
theorem dX12_readLine_179 : decode cX12_readLine 179 = .ok (.ldc2_w 243, 3) := by decide +kernel
theorem dX12_readLine_182 : decode cX12_readLine 182 = .ok (.iconst 0, 1) := by decide +kernel
theorem dX12_readLine_183 : decode cX12_readLine 183 = .ok (.sipush 999, 3) := by decide +kernel
theorem dX12_readLine_186 : decode cX12_readLine 186 = .ok (.invokevirtual 372, 3) := by decide +kernel
theorem dX12_readLine_189 : decode cX12_readLine 189 = .ok (.putfield 416, 3) := by decide +kernel
theorem dX12_readLine_192 : decode cX12_readLine 192 = .ok (.goto 8, 3) := by decide +kernel
theorem dX12_readLine_195 : decode cX12_readLine 195 = .ok (.aload_n 0, 1) := by decide +kernel
theorem dX12_readLine_196 : decode cX12_readLine 196 = .ok (.iconst 2, 1) := by decide +kernel
theorem dX12_readLine_197 : decode cX12_readLine 197 = .ok (.invokevirtual 282, 3) := by decide +kernel
theorem dX12_readLine_200 : decode cX12_readLine 200 = .ok (.aload_n 0, 1) := by decide +kernel
theorem dX12_readLine_201 : decode cX12_readLine 201 = .ok (.getfield 218, 3) := by decide +kernel
theorem dX12_readLine_204 : decode cX12_readLine 204 = .ok (.ifCond .ne 17, 3) := by decide +kernel
theorem dX12_readLine_207 : decode cX12_readLine 207 = .ok (.aload_n 0, 1) := by decide +kernel
theorem dX12_readLine_208 : decode cX12_readLine 208 = .ok (.getfield 205, 3) := by decide +kernel
theorem dX12_readLine_211 : decode cX12_readLine 211 = .ok (.bipush 59, 2) := by decide +kernel
theorem dX12_readLine_213 : decode cX12_readLine 213 = .ok (.if_icmp .eq 8, 3) := by decide +kernel
theorem dX12_readLine_216 : decode cX12_readLine 216 = .ok (.aload_n 0, 1) := by decide +kernel
theorem dX12_readLine_217 : decode cX12_readLine 217 = .ok (.iconst 2, 1) := by decide +kernel
theorem dX12_readLine_218 : decode cX12_readLine 218 = .ok (.invokevirtual 282, 3) := by decide +kernel
theorem dX12_readLine_221 : decode cX12_readLine 221 = .ok (.aload_n 0, 1) := by decide +kernel
theorem dX12_readLine_222 : decode cX12_readLine 222 = .ok (.getfield 218, 3) := by decide +kernel
theorem dX12_readLine_225 : decode cX12_readLine 225 = .ok (.ifCond .ne 7, 3) := by decide +kernel
theorem dX12_readLine_228 : decode cX12_readLine 228 = .ok (.aload_n 0, 1) := by decide +kernel
theorem dX12_readLine_229 : decode cX12_readLine 229 = .ok (.invokevirtual 279, 3) := by decide +kernel
theorem dX12_readLine_232 : decode cX12_readLine 232 = .ok (.return_, 1) := by decide +kernel
set_option maxHeartbeats 4000000 in
set_option maxRecDepth 100000 in
theorem n_isOnce (l : Launch) (D : va_G) (k : KT) (A : Nat → Prop) (a : Nat → Nat) (z : SK) (G : GS) (p0 : Int64) (p1 : Int32)  : Met l yX12_isOnce (WS yX12_isOnce cX12_isOnce 4 (some .boolean)) ({ frames := 1, cells := 0, slots := 0, locals := 22 }) (va_Pc [.ref (a 66), .long p0, .int p1] (cW D k A a z G)) (va_Qi (fun (r : Int32) (G1 : GS) => Bd G1 ∧ Fr [] [] G G1 ∧ (0 ≤ r.toInt ∧ r.toInt ≤ 1) ∧ (r.toInt = 1 → (G.1 66 6).toInt = 1)) (fun (G1 : GS) t => Wd D k A a G1 t.heap) A) 0 0 A := by
  refine Met.ofW (cc := cX12_isOnce) (maxL := 4) (ret := (some .boolean)) (by decide) rfl ?_
  intro p e s m args below meth c s₁ B hml hv
  obtain ⟨rfl, hW, hB_G, hK, hZ⟩ := hv
  have hx := B.exec
  have hb := B.bytes
  have hr := B.returns
  have hts := atoms_spec (ws := WS yX12_isOnce cX12_isOnce 4 (some .boolean)) B.pre
  have hgd : ∀ w ∈ gd, w ∈ WS yX12_isOnce cX12_isOnce 4 (some .boolean) := fun w h => List.mem_cons_of_mem _ h
  have hg : ∀ w ∈ gd, w.before _ s = true := fun w h => hts w (hgd w h)
  have hown : s.vm.findClass RX12 = some m.cls := findClass_of_methodNamed B.named
  have hS : va_S A s.heap s.heap [] := va_S.rf
  have hF : Fr [] [] G G := Fr.rf
  have hl := lv_entry ([.ref (a 66), .long p0, .int p1]) (n := 4) (Nat.le_of_ble_eq_true rfl)
  rw [lg_entry_eq]
  generalize (lg_sl ([.ref (a 66), .long p0, .int p1]) ++ List.replicate (4 - (lg_sl ([.ref (a 66), .long p0, .int p1])).length) Slot.unset).toArray = ls at hl ⊢
  have hl : lv_has ls 4 [(0, .ref (a 66)), (1, .long p0), (3, .int p1)] := hl
  refine lv_aload_n hx hb dX12_isOnce_0 rfl (lv_at hl 0 rfl) ?_
  refine lv_lload_n hx hb dX12_isOnce_1 rfl (lv_at hl 1 rfl) ?_
  refine S_calli (va_runV (As := [.long p0]) (rest := []) ⟨hx, hb, hml, hown, hts⟩ (n_isWord l D k A a z G p0 ) (cwV 1 hts (gd_V hgd m1624 m1626 m53 m131 m1627) rfl rfl rfl (by decide +kernel) ⟨Nat.le_of_ble_eq_true rfl, Nat.le_of_ble_eq_true rfl⟩) (pre_V hW hB_G hK hZ hS kd_66 rfl) rfl rfl hl.1 rfl (lv_room (Nat.le_of_ble_eq_true rfl)) dX12_isOnce_2 ⟨Nat.le_of_ble_eq_true rfl, Nat.le_of_ble_eq_true rfl⟩) hS (fun r_1 G_2 H locs hpo hW hS => ?_)
  obtain ⟨hB_G_2, hq_3, f_5, hp_4⟩ := hpo
  have hF := hF.call hq_3 (by decide) (by decide)
  refine lv_if_eq (tgt := 21) hx hb dX12_isOnce_5 (by decide) (fun c_6 => ?_) (fun c_6 => ?_)
  · have c_6 : r_1.toInt = 0 := xI_eq rfl rfl c_6
    refine lv_iconst (v := 0) hx hb dX12_isOnce_21 (by decide) ?_
    exact W.zret (v := 0) hx hb hr (by decide) (fun t ht _ => ⟨⟨0, G_2, rfl, ⟨hB_G_2, hF, ⟨by decide, by decide⟩, (by have hq : (0 : Int32).toInt = 0 := rfl; (try dsimp only); omega)⟩, wd_t ht hW⟩, hS.F ht⟩) hS.2.2 dX12_isOnce_22
  · have c_6 : r_1.toInt ≠ 0 := xI_ne rfl rfl c_6
    refine lv_aload_n hx hb dX12_isOnce_8 rfl (lv_at hl 0 rfl) ?_
    refine S_getI (v := (G.1 66 51)) (C := RX12) (T := TX12) (N := 89) hx hb hg iX12 hown hK hW kd_66 rfl 51 (by decide) (hg (Cond.fieldLink RX12 391 "SlabWalkModel" "nOnce" "I") m1365) (fun _ h9 => h9) rfl (hq_3.i 66 51 (by decide) (by decide)) dX12_isOnce_9 ?_
    refine lv_iload_n hx hb dX12_isOnce_12 rfl (lv_at hl 2 rfl) ?_
    refine lv_iand hx hb dX12_isOnce_13 ?_
    refine lv_topi (fun y_7 ey_7 => ?_)
    refine lv_if_ne (tgt := 21) hx hb dX12_isOnce_14 (by decide) (fun c_8 => ?_) (fun c_8 => ?_)
    · have c_8 : y_7.toInt ≠ 0 := xI_ne rfl rfl c_8
      refine lv_iconst (v := 0) hx hb dX12_isOnce_21 (by decide) ?_
      exact W.zret (v := 0) hx hb hr (by decide) (fun t ht _ => ⟨⟨0, G_2, rfl, ⟨hB_G_2, hF, ⟨by decide, by decide⟩, (by have hq : (0 : Int32).toInt = 0 := rfl; (try dsimp only); omega)⟩, wd_t ht hW⟩, hS.F ht⟩) hS.2.2 dX12_isOnce_22
    · have c_8 : y_7.toInt = 0 := xI_eq rfl rfl c_8
      refine lv_iconst (v := 1) hx hb dX12_isOnce_17 (by decide) ?_
      refine lv_goto (tgt := 22) hx hb dX12_isOnce_18 (by decide) ?_
      exact W.zret (v := 1) hx hb hr (by decide) (fun t ht _ => ⟨⟨1, G_2, rfl, ⟨hB_G_2, hF, ⟨by decide, by decide⟩, (by have hq : (1 : Int32).toInt = 1 := rfl; (try dsimp only); omega)⟩, wd_t ht hW⟩, hS.F ht⟩) hS.2.2 dX12_isOnce_22

set_option maxHeartbeats 4000000 in
set_option maxRecDepth 100000 in
theorem n_readLine (l : Launch) (D : va_G) (k : KT) (A : Nat → Prop) (a : Nat → Nat) (z : SK) (G : GS)  (hnf : (G.1 66 2).toInt = 0) (hE9 : gE G = 1) (hN9 : gN G = 1) (hS9 : 0 ≤ (G.1 86 0).toInt ∧ (G.1 86 0).toInt ≤ 9 ∧ 0 ≤ (G.1 86 1).toInt ∧ (G.1 86 1).toInt ≤ 9 ∧ 0 ≤ (G.1 86 2).toInt ∧ (G.1 86 2).toInt ≤ 9 ∧ 1 ≤ (G.1 86 0).toInt + (G.1 86 1).toInt + (G.1 86 2).toInt) : Met l yX12_readLine (WS yX12_readLine cX12_readLine 1 none) ({ frames := 6, cells := 0, slots := 0, locals := 129 }) (va_Pc [.ref (a 66)] (cW D k A a z G)) (va_Qv (fun (G1 : GS) => Bd G1 ∧ Fr [68, 69, 70, 71, 75, 77, 78, 79, 80, 81, 82, 83, 84, 85, 86] [(66, 2), (66, 3), (66, 4), (66, 6), (66, 7), (66, 8), (66, 9), (66, 19), (66, 20), (66, 21), (66, 23), (66, 24), (66, 45), (66, 46), (66, 47), (66, 48), (66, 49), (66, 50), (66, 51)] G G1 ∧ ((G.1 66 4).toInt ≤ (G1.1 66 4).toInt ∧ ((G1.1 66 2).toInt = 0 → (G.1 66 4).toInt < (G1.1 66 4).toInt ∧ gE G1 = 1 ∧ gN G1 = 1 ∧ 0 ≤ (G1.1 86 0).toInt ∧ (G1.1 86 0).toInt ≤ 9 ∧ 0 ≤ (G1.1 86 1).toInt ∧ (G1.1 86 1).toInt ≤ 9 ∧ 0 ≤ (G1.1 86 2).toInt ∧ (G1.1 86 2).toInt ≤ 9 ∧ 1 ≤ (G1.1 86 0).toInt + (G1.1 86 1).toInt + (G1.1 86 2).toInt))) (fun (G1 : GS) t => Wd D k A a G1 t.heap) A) 0 0 A := by
  refine Met.ofW (cc := cX12_readLine) (maxL := 1) (ret := none) (by decide) rfl ?_
  intro p e s m args below meth c s₁ B hml hv
  obtain ⟨rfl, hW, hB_G, hK, hZ⟩ := hv
  have hx := B.exec
  have hb := B.bytes
  have hr := B.returns
  have hts := atoms_spec (ws := WS yX12_readLine cX12_readLine 1 none) B.pre
  have hgd : ∀ w ∈ gd, w ∈ WS yX12_readLine cX12_readLine 1 none := fun w h => List.mem_cons_of_mem _ h
  have hg : ∀ w ∈ gd, w.before _ s = true := fun w h => hts w (hgd w h)
  have hown : s.vm.findClass RX12 = some m.cls := findClass_of_methodNamed B.named
  have hS : va_S A s.heap s.heap [] := va_S.rf
  have hF : Fr [68, 69, 70, 71, 75, 77, 78, 79, 80, 81, 82, 83, 84, 85, 86] [(66, 2), (66, 3), (66, 4), (66, 6), (66, 7), (66, 8), (66, 9), (66, 19), (66, 20), (66, 21), (66, 23), (66, 24), (66, 45), (66, 46), (66, 47), (66, 48), (66, 49), (66, 50), (66, 51)] G G := Fr.rf
  have hl := lv_entry ([.ref (a 66)]) (n := 1) (Nat.le_of_ble_eq_true rfl)
  rw [lg_entry_eq]
  generalize (lg_sl ([.ref (a 66)]) ++ List.replicate (1 - (lg_sl ([.ref (a 66)])).length) Slot.unset).toArray = ls at hl ⊢
  have hl : lv_has ls 1 [(0, .ref (a 66))] := hl
  refine lv_aload_n hx hb dX12_readLine_0 rfl (lv_at hl 0 rfl) ?_
  refine lv_ldc2 (v := 126943972648308) hx hb hown (hg (Cond.constantLong RX12 221 126943972648308) m1623) dX12_readLine_1 ?_
  refine S_calli (va_runV (As := [.long 126943972648308]) (rest := []) ⟨hx, hb, hml, hown, hts⟩ (n_isWord l D k A a z G 126943972648308 ) (cwV 1 hts (gd_V hgd m1624 m1626 m53 m131 m1627) rfl rfl rfl (by decide +kernel) ⟨Nat.le_of_ble_eq_true rfl, Nat.le_of_ble_eq_true rfl⟩) (pre_V hW hB_G hK hZ hS kd_66 rfl) rfl rfl hl.1 rfl (lv_room (Nat.le_of_ble_eq_true rfl)) dX12_readLine_4 ⟨Nat.le_of_ble_eq_true rfl, Nat.le_of_ble_eq_true rfl⟩) hS (fun r_1 G_2 H locs hpo hW hS => ?_)
  obtain ⟨hB_G_2, hq_3, f_5, hp_4⟩ := hpo
  have hF := hF.call hq_3 (by decide) (by decide)
  refine W.cut (σ := Unit) (pcJ := 25) (J := fun y H locs ls => ∃ (G_7 : GS), Wd D k A a G_7 H ∧ Bd G_7 ∧ Fr [68, 69, 70, 71, 75, 77, 78, 79, 80, 81, 82, 83, 84, 85, 86] [(66, 2), (66, 3), (66, 4), (66, 6), (66, 7), (66, 8), (66, 9), (66, 19), (66, 20), (66, 21), (66, 23), (66, 24), (66, 45), (66, 46), (66, 47), (66, 48), (66, 49), (66, 50), (66, 51)] G G_7 ∧ Fr [] [] G_2 G_7 ∧ va_S A s.heap H locs ∧ lv_has ls 1 [(0, .ref (a 66))]) (stJ := fun _ => []) ?_ (fun hJ_8 => ?_)
  · intro y H locs ls hI
    obtain ⟨G_7, hW, hB_G_7, hF, hq_9, hS, hl⟩ := hI
    refine lv_aload_n hx hb dX12_readLine_25 rfl (lv_at hl 0 rfl) ?_
    refine lv_ldc2 (v := 131260314510706) hx hb hown (hg (Cond.constantLong RX12 225 131260314510706) m1645) dX12_readLine_26 ?_
    have g_10 : (G_7.1 66 6).toInt = (G.1 66 6).toInt := by rw [show G_7.1 66 6 = (G.1 66 6) from ((hq_9.i 66 6 (by decide) (by decide)).trans (hq_3.i 66 6 (by decide) (by decide)))]
    refine S_calli (va_runV (As := [.long 131260314510706]) (rest := []) ⟨hx, hb, hml, hown, hts⟩ (n_isWord l D k A a z G_7 131260314510706 ) (cwV 1 hts (gd_V hgd m1624 m1626 m53 m131 m1627) rfl rfl rfl (by decide +kernel) ⟨Nat.le_of_ble_eq_true rfl, Nat.le_of_ble_eq_true rfl⟩) (pre_V hW hB_G_7 hK hZ hS kd_66 rfl) rfl rfl hl.1 rfl (lv_room (Nat.le_of_ble_eq_true rfl)) dX12_readLine_29 ⟨Nat.le_of_ble_eq_true rfl, Nat.le_of_ble_eq_true rfl⟩) hS (fun r_11 G_12 H locs hpo hW hS => ?_)
    obtain ⟨hB_G_12, hq_13, f_15, hp_14⟩ := hpo
    have hF := hF.call hq_13 (by decide) (by decide)
    refine W.cut (σ := Unit) (pcJ := 50) (J := fun y H locs ls => ∃ (G_17 : GS), Wd D k A a G_17 H ∧ Bd G_17 ∧ Fr [68, 69, 70, 71, 75, 77, 78, 79, 80, 81, 82, 83, 84, 85, 86] [(66, 2), (66, 3), (66, 4), (66, 6), (66, 7), (66, 8), (66, 9), (66, 19), (66, 20), (66, 21), (66, 23), (66, 24), (66, 45), (66, 46), (66, 47), (66, 48), (66, 49), (66, 50), (66, 51)] G G_17 ∧ Fr [] [] G_12 G_17 ∧ va_S A s.heap H locs ∧ lv_has ls 1 [(0, .ref (a 66))]) (stJ := fun _ => []) ?_ (fun hJ_18 => ?_)
    · intro y H locs ls hI
      obtain ⟨G_17, hW, hB_G_17, hF, hq_19, hS, hl⟩ := hI
      refine lv_aload_n hx hb dX12_readLine_50 rfl (lv_at hl 0 rfl) ?_
      refine lv_ldc2 (v := 1920298085) hx hb hown (hg (Cond.constantLong RX12 235 1920298085) m1650) dX12_readLine_51 ?_
      have g_20 : (G_17.1 66 6).toInt = (G.1 66 6).toInt := by rw [show G_17.1 66 6 = (G.1 66 6) from ((hq_19.i 66 6 (by decide) (by decide)).trans ((hq_13.i 66 6 (by decide) (by decide)).trans ((hq_9.i 66 6 (by decide) (by decide)).trans ((hq_3.i 66 6 (by decide) (by decide)).trans (rfl)))))]
      refine S_calli (va_runV (As := [.long 1920298085]) (rest := []) ⟨hx, hb, hml, hown, hts⟩ (n_isWord l D k A a z G_17 1920298085 ) (cwV 1 hts (gd_V hgd m1624 m1626 m53 m131 m1627) rfl rfl rfl (by decide +kernel) ⟨Nat.le_of_ble_eq_true rfl, Nat.le_of_ble_eq_true rfl⟩) (pre_V hW hB_G_17 hK hZ hS kd_66 rfl) rfl rfl hl.1 rfl (lv_room (Nat.le_of_ble_eq_true rfl)) dX12_readLine_54 ⟨Nat.le_of_ble_eq_true rfl, Nat.le_of_ble_eq_true rfl⟩) hS (fun r_21 G_22 H locs hpo hW hS => ?_)
      obtain ⟨hB_G_22, hq_23, f_25, hp_24⟩ := hpo
      have hF := hF.call hq_23 (by decide) (by decide)
      refine W.cut (σ := Unit) (pcJ := 76) (J := fun y H locs ls => ∃ (G_27 : GS), Wd D k A a G_27 H ∧ Bd G_27 ∧ Fr [68, 69, 70, 71, 75, 77, 78, 79, 80, 81, 82, 83, 84, 85, 86] [(66, 2), (66, 3), (66, 4), (66, 6), (66, 7), (66, 8), (66, 9), (66, 19), (66, 20), (66, 21), (66, 23), (66, 24), (66, 45), (66, 46), (66, 47), (66, 48), (66, 49), (66, 50), (66, 51)] G G_27 ∧ Fr [] [] G_22 G_27 ∧ va_S A s.heap H locs ∧ lv_has ls 1 [(0, .ref (a 66))]) (stJ := fun _ => []) ?_ (fun hJ_28 => ?_)
      · intro y H locs ls hI
        obtain ⟨G_27, hW, hB_G_27, hF, hq_29, hS, hl⟩ := hI
        refine lv_aload_n hx hb dX12_readLine_76 rfl (lv_at hl 0 rfl) ?_
        refine lv_ldc2 (v := 1936484720) hx hb hown (hg (Cond.constantLong RX12 237 1936484720) m1651) dX12_readLine_77 ?_
        refine lv_iconst (v := 1) hx hb dX12_readLine_80 (by decide) ?_
        have qc_30 : (1 : Int32).toInt = 1 := rfl
        have g_31 : (G_27.1 66 6).toInt = (G.1 66 6).toInt := by rw [show G_27.1 66 6 = (G.1 66 6) from ((hq_29.i 66 6 (by decide) (by decide)).trans ((hq_23.i 66 6 (by decide) (by decide)).trans ((hq_19.i 66 6 (by decide) (by decide)).trans ((hq_13.i 66 6 (by decide) (by decide)).trans ((hq_9.i 66 6 (by decide) (by decide)).trans ((hq_3.i 66 6 (by decide) (by decide)).trans (rfl)))))))]
        refine S_calli (va_runV (As := [.long 1936484720, .int 1]) (rest := []) ⟨hx, hb, hml, hown, hts⟩ (n_isOnce l D k A a z G_27 1936484720 1 ) (cwV 2 hts (gd_V hgd m1761 m1763 m81 m131 m1764) rfl rfl rfl (by decide +kernel) ⟨Nat.le_of_ble_eq_true rfl, Nat.le_of_ble_eq_true rfl⟩) (pre_V hW hB_G_27 hK hZ hS kd_66 rfl) rfl rfl hl.1 rfl (lv_room (Nat.le_of_ble_eq_true rfl)) dX12_readLine_81 ⟨Nat.le_of_ble_eq_true rfl, Nat.le_of_ble_eq_true rfl⟩) hS (fun r_32 G_33 H locs hpo hW hS => ?_)
        obtain ⟨hB_G_33, hq_34, f_36, hp_35⟩ := hpo
        have hF := hF.call hq_34 (by decide) (by decide)
        refine W.cut (σ := Unit) (pcJ := 200) (J := fun y H locs ls => ∃ (G_38 : GS), ((G.1 66 4).toInt ≤ (G_38.1 66 4).toInt ∧ ((G_38.1 66 4).toInt = (G.1 66 4).toInt → (G_38.1 66 6).toInt = (G.1 66 6).toInt ∨ (G_38.1 66 6).toInt ≤ 3)) ∧ ((G_38.1 66 2).toInt = 0 → (G.1 66 6).toInt = 1 ∧ gE G_38 = 1 ∧ gN G_38 = 1 ∧ 0 ≤ (G_38.1 86 0).toInt ∧ (G_38.1 86 0).toInt ≤ 9 ∧ 0 ≤ (G_38.1 86 1).toInt ∧ (G_38.1 86 1).toInt ≤ 9 ∧ 0 ≤ (G_38.1 86 2).toInt ∧ (G_38.1 86 2).toInt ≤ 9 ∧ 1 ≤ (G_38.1 86 0).toInt + (G_38.1 86 1).toInt + (G_38.1 86 2).toInt) ∧ Wd D k A a G_38 H ∧ Bd G_38 ∧ Fr [68, 69, 70, 71, 75, 77, 78, 79, 80, 81, 82, 83, 84, 85, 86] [(66, 2), (66, 3), (66, 4), (66, 6), (66, 7), (66, 8), (66, 9), (66, 19), (66, 20), (66, 21), (66, 23), (66, 24), (66, 45), (66, 46), (66, 47), (66, 48), (66, 49), (66, 50), (66, 51)] G G_38 ∧ Fr [86] [(66, 2), (66, 3), (66, 4), (66, 6), (66, 7), (66, 8), (66, 9), (66, 48), (66, 49), (66, 50), (66, 51)] G_33 G_38 ∧ va_S A s.heap H locs ∧ lv_has ls 1 [(0, .ref (a 66))]) (stJ := fun _ => []) ?_ (fun hJ_39 => ?_)
        · intro y H locs ls hI
          obtain ⟨G_38, f_41, f_42, hW, hB_G_38, hF, hq_40, hS, hl⟩ := hI
          have b_43 : 0 ≤ (G_38.1 66 4).toInt ∧ (G_38.1 66 4).toInt ≤ 1600 := hB_G_38.i 66 4 rfl rfl
          have g_44 : gE G_38 = gE G := gE_fr (rs := [86]) (fs := [(66, 2), (66, 3), (66, 4), (66, 6), (66, 7), (66, 8), (66, 9), (66, 48), (66, 49), (66, 50), (66, 51)]) ((((((((Fr.rf.call hq_3 (by decide) (by decide)).call hq_9 (by decide) (by decide)).call hq_13 (by decide) (by decide)).call hq_19 (by decide) (by decide)).call hq_23 (by decide) (by decide)).call hq_29 (by decide) (by decide)).call hq_34 (by decide) (by decide)).call hq_40 (by decide) (by decide)) (by decide) (by decide)
          have g_45 : gN G_38 = gN G := gN_fr (rs := [86]) (fs := [(66, 2), (66, 3), (66, 4), (66, 6), (66, 7), (66, 8), (66, 9), (66, 48), (66, 49), (66, 50), (66, 51)]) ((((((((Fr.rf.call hq_3 (by decide) (by decide)).call hq_9 (by decide) (by decide)).call hq_13 (by decide) (by decide)).call hq_19 (by decide) (by decide)).call hq_23 (by decide) (by decide)).call hq_29 (by decide) (by decide)).call hq_34 (by decide) (by decide)).call hq_40 (by decide) (by decide)) (by decide) (by decide)
          have b_46 : 0 ≤ (G_38.1 66 2).toInt ∧ (G_38.1 66 2).toInt ≤ 4 := hB_G_38.i 66 2 rfl rfl
          refine lv_aload_n hx hb dX12_readLine_200 rfl (lv_at hl 0 rfl) ?_
          refine S_getI (v := (G_38.1 66 2)) (C := RX12) (T := TX12) (N := 89) hx hb hg iX12 hown hK hW kd_66 rfl 2 (by decide) (hg (Cond.fieldLink RX12 218 "SlabWalkModel" "fault" "I") m1316) (fun _ h9 => h9) rfl rfl dX12_readLine_201 ?_
          refine lv_if_ne (tgt := 221) hx hb dX12_readLine_204 (by decide) (fun c_47 => ?_) (fun c_47 => ?_)
          · have c_47 : (G_38.1 66 2).toInt ≠ 0 := xI_ne rfl rfl c_47
            refine lv_aload_n hx hb dX12_readLine_221 rfl (lv_at hl 0 rfl) ?_
            refine S_getI (v := (G_38.1 66 2)) (C := RX12) (T := TX12) (N := 89) hx hb hg iX12 hown hK hW kd_66 rfl 2 (by decide) (hg (Cond.fieldLink RX12 218 "SlabWalkModel" "fault" "I") m1316) (fun _ h9 => h9) rfl rfl dX12_readLine_222 ?_
            refine lv_if_ne (tgt := 232) hx hb dX12_readLine_225 (by decide) (fun c_48 => ?_) (fun c_48 => ?_)
            · have c_48 : (G_38.1 66 2).toInt ≠ 0 := xI_ne rfl rfl c_48
              exact W.vret hx hb hr (fun t ht _ => ⟨⟨G_38, rfl, ⟨hB_G_38, hF, (by omega)⟩, wd_t ht hW⟩, hS.F ht⟩) hS.2.2 dX12_readLine_232
            · have c_48 : (G_38.1 66 2).toInt = 0 := xI_eq rfl rfl c_48
              exfalso; omega
          · have c_47 : (G_38.1 66 2).toInt = 0 := xI_eq rfl rfl c_47
            refine lv_aload_n hx hb dX12_readLine_207 rfl (lv_at hl 0 rfl) ?_
            refine S_getI (v := (G_38.1 66 6)) (C := RX12) (T := TX12) (N := 89) hx hb hg iX12 hown hK hW kd_66 rfl 6 (by decide) (hg (Cond.fieldLink RX12 205 "SlabWalkModel" "sort" "I") m1320) (fun _ h9 => h9) rfl rfl dX12_readLine_208 ?_
            refine lv_bipush (v := 59) hx hb dX12_readLine_211 (by decide) ?_
            refine lv_icmp_eq (tgt := 221) hx hb dX12_readLine_213 (by decide) (fun c_49 => ?_) (fun c_49 => ?_)
            · have c_49 : (G_38.1 66 6).toInt = 59 := xI_eq rfl rfl c_49
              refine lv_aload_n hx hb dX12_readLine_221 rfl (lv_at hl 0 rfl) ?_
              refine S_getI (v := (G_38.1 66 2)) (C := RX12) (T := TX12) (N := 89) hx hb hg iX12 hown hK hW kd_66 rfl 2 (by decide) (hg (Cond.fieldLink RX12 218 "SlabWalkModel" "fault" "I") m1316) (fun _ h9 => h9) rfl rfl dX12_readLine_222 ?_
              refine lv_if_ne (tgt := 232) hx hb dX12_readLine_225 (by decide) (fun c_50 => ?_) (fun c_50 => ?_)
              · have c_50 : (G_38.1 66 2).toInt ≠ 0 := xI_ne rfl rfl c_50
                exfalso; omega
              · have c_50 : (G_38.1 66 2).toInt = 0 := xI_eq rfl rfl c_50
                refine lv_aload_n hx hb dX12_readLine_228 rfl (lv_at hl 0 rfl) ?_
                refine S_callv (va_runV (As := []) (rest := []) ⟨hx, hb, hml, hown, hts⟩ (n_token l D k A a z G_38  ) (cwV 0 hts (gd_V hgd m1602 m1604 m50 m131 m1605) rfl rfl rfl (by decide +kernel) ⟨Nat.le_of_ble_eq_true rfl, Nat.le_of_ble_eq_true rfl⟩) (pre_V hW hB_G_38 hK hZ hS kd_66 rfl) rfl rfl hl.1 rfl (lv_room (Nat.le_of_ble_eq_true rfl)) dX12_readLine_229 ⟨Nat.le_of_ble_eq_true rfl, Nat.le_of_ble_eq_true rfl⟩) hS (fun G_52 H locs hpo hW hS => ?_)
                obtain ⟨hB_G_52, hq_53, hp_54⟩ := hpo
                have hF := hF.call hq_53 (by decide) (by decide)
                have g_55 : gE G_52 = gE G := gE_fr (rs := [86]) (fs := [(66, 2), (66, 3), (66, 4), (66, 6), (66, 7), (66, 8), (66, 9), (66, 48), (66, 49), (66, 50), (66, 51)]) (((((((((Fr.rf.call hq_3 (by decide) (by decide)).call hq_9 (by decide) (by decide)).call hq_13 (by decide) (by decide)).call hq_19 (by decide) (by decide)).call hq_23 (by decide) (by decide)).call hq_29 (by decide) (by decide)).call hq_34 (by decide) (by decide)).call hq_40 (by decide) (by decide)).call hq_53 (by decide) (by decide)) (by decide) (by decide)
                have g_56 : gN G_52 = gN G := gN_fr (rs := [86]) (fs := [(66, 2), (66, 3), (66, 4), (66, 6), (66, 7), (66, 8), (66, 9), (66, 48), (66, 49), (66, 50), (66, 51)]) (((((((((Fr.rf.call hq_3 (by decide) (by decide)).call hq_9 (by decide) (by decide)).call hq_13 (by decide) (by decide)).call hq_19 (by decide) (by decide)).call hq_23 (by decide) (by decide)).call hq_29 (by decide) (by decide)).call hq_34 (by decide) (by decide)).call hq_40 (by decide) (by decide)).call hq_53 (by decide) (by decide)) (by decide) (by decide)
                have g_57 : (G_52.1 66 2).toInt = (G_38.1 66 2).toInt := by rw [show G_52.1 66 2 = (G_38.1 66 2) from ((hq_53.i 66 2 (by decide) (by decide)).trans (rfl))]
                have b_58 : 0 ≤ (G_52.1 66 4).toInt ∧ (G_52.1 66 4).toInt ≤ 1600 := hB_G_52.i 66 4 rfl rfl
                have g_59 : (G_52.1 86 0).toInt = (G_38.1 86 0).toInt := by rw [show G_52.1 86 0 = (G_38.1 86 0) from ((hq_53.i 86 0 (by decide) (by decide)).trans (rfl))]
                have g_60 : (G_52.1 86 1).toInt = (G_38.1 86 1).toInt := by rw [show G_52.1 86 1 = (G_38.1 86 1) from ((hq_53.i 86 1 (by decide) (by decide)).trans (rfl))]
                have g_61 : (G_52.1 86 2).toInt = (G_38.1 86 2).toInt := by rw [show G_52.1 86 2 = (G_38.1 86 2) from ((hq_53.i 86 2 (by decide) (by decide)).trans (rfl))]
                exact W.vret hx hb hr (fun t ht _ => ⟨⟨G_52, rfl, ⟨hB_G_52, hF, (by omega)⟩, wd_t ht hW⟩, hS.F ht⟩) hS.2.2 dX12_readLine_232
            · have c_49 : (G_38.1 66 6).toInt ≠ 59 := xI_ne rfl rfl c_49
              refine lv_aload_n hx hb dX12_readLine_216 rfl (lv_at hl 0 rfl) ?_
              refine lv_iconst (v := 2) hx hb dX12_readLine_217 (by decide) ?_
              have qc_62 : (2 : Int32).toInt = 2 := rfl
              refine S_callv (va_runV (As := [.int 2]) (rest := []) ⟨hx, hb, hml, hown, hts⟩ (n_wrong l D k A a z G_38 2 ⟨by decide, by decide⟩) (cwV 1 hts (gd_V hgd m1670 m1672 m59 m131 m1673) rfl rfl rfl (by decide +kernel) ⟨Nat.le_of_ble_eq_true rfl, Nat.le_of_ble_eq_true rfl⟩) (pre_V hW hB_G_38 hK hZ hS kd_66 rfl) rfl rfl hl.1 rfl (lv_room (Nat.le_of_ble_eq_true rfl)) dX12_readLine_218 ⟨Nat.le_of_ble_eq_true rfl, Nat.le_of_ble_eq_true rfl⟩) hS (fun G_64 H locs hpo hW hS => ?_)
              obtain ⟨hB_G_64, hq_65, hp_66⟩ := hpo
              have hF := hF.call hq_65 (by decide) (by decide)
              refine lv_aload_n hx hb dX12_readLine_221 rfl (lv_at hl 0 rfl) ?_
              have b_67 : 0 ≤ (G_64.1 66 2).toInt ∧ (G_64.1 66 2).toInt ≤ 4 := hB_G_64.i 66 2 rfl rfl
              refine S_getI (v := (G_64.1 66 2)) (C := RX12) (T := TX12) (N := 89) hx hb hg iX12 hown hK hW kd_66 rfl 2 (by decide) (hg (Cond.fieldLink RX12 218 "SlabWalkModel" "fault" "I") m1316) (fun _ h9 => h9) rfl rfl dX12_readLine_222 ?_
              refine lv_if_ne (tgt := 232) hx hb dX12_readLine_225 (by decide) (fun c_68 => ?_) (fun c_68 => ?_)
              · have c_68 : (G_64.1 66 2).toInt ≠ 0 := xI_ne rfl rfl c_68
                have g_69 : gE G_64 = gE G := gE_fr (rs := [86]) (fs := [(66, 2), (66, 3), (66, 4), (66, 6), (66, 7), (66, 8), (66, 9), (66, 48), (66, 49), (66, 50), (66, 51)]) (((((((((Fr.rf.call hq_3 (by decide) (by decide)).call hq_9 (by decide) (by decide)).call hq_13 (by decide) (by decide)).call hq_19 (by decide) (by decide)).call hq_23 (by decide) (by decide)).call hq_29 (by decide) (by decide)).call hq_34 (by decide) (by decide)).call hq_40 (by decide) (by decide)).call hq_65 (by decide) (by decide)) (by decide) (by decide)
                have g_70 : gN G_64 = gN G := gN_fr (rs := [86]) (fs := [(66, 2), (66, 3), (66, 4), (66, 6), (66, 7), (66, 8), (66, 9), (66, 48), (66, 49), (66, 50), (66, 51)]) (((((((((Fr.rf.call hq_3 (by decide) (by decide)).call hq_9 (by decide) (by decide)).call hq_13 (by decide) (by decide)).call hq_19 (by decide) (by decide)).call hq_23 (by decide) (by decide)).call hq_29 (by decide) (by decide)).call hq_34 (by decide) (by decide)).call hq_40 (by decide) (by decide)).call hq_65 (by decide) (by decide)) (by decide) (by decide)
                have g_71 : (G_64.1 66 4).toInt = (G_38.1 66 4).toInt := by rw [show G_64.1 66 4 = (G_38.1 66 4) from ((hq_65.i 66 4 (by decide) (by decide)).trans (rfl))]
                have g_72 : (G_64.1 86 0).toInt = (G_38.1 86 0).toInt := by rw [show G_64.1 86 0 = (G_38.1 86 0) from ((hq_65.i 86 0 (by decide) (by decide)).trans (rfl))]
                have g_73 : (G_64.1 86 1).toInt = (G_38.1 86 1).toInt := by rw [show G_64.1 86 1 = (G_38.1 86 1) from ((hq_65.i 86 1 (by decide) (by decide)).trans (rfl))]
                have g_74 : (G_64.1 86 2).toInt = (G_38.1 86 2).toInt := by rw [show G_64.1 86 2 = (G_38.1 86 2) from ((hq_65.i 86 2 (by decide) (by decide)).trans (rfl))]
                exact W.vret hx hb hr (fun t ht _ => ⟨⟨G_64, rfl, ⟨hB_G_64, hF, (by omega)⟩, wd_t ht hW⟩, hS.F ht⟩) hS.2.2 dX12_readLine_232
              · have c_68 : (G_64.1 66 2).toInt = 0 := xI_eq rfl rfl c_68
                refine lv_aload_n hx hb dX12_readLine_228 rfl (lv_at hl 0 rfl) ?_
                have g_75 : (G_64.1 66 4).toInt = (G_38.1 66 4).toInt := by rw [show G_64.1 66 4 = (G_38.1 66 4) from ((hq_65.i 66 4 (by decide) (by decide)).trans (rfl))]
                have g_76 : (G_64.1 66 6).toInt = (G_38.1 66 6).toInt := by rw [show G_64.1 66 6 = (G_38.1 66 6) from ((hq_65.i 66 6 (by decide) (by decide)).trans (rfl))]
                refine S_callv (va_runV (As := []) (rest := []) ⟨hx, hb, hml, hown, hts⟩ (n_token l D k A a z G_64  ) (cwV 0 hts (gd_V hgd m1602 m1604 m50 m131 m1605) rfl rfl rfl (by decide +kernel) ⟨Nat.le_of_ble_eq_true rfl, Nat.le_of_ble_eq_true rfl⟩) (pre_V hW hB_G_64 hK hZ hS kd_66 rfl) rfl rfl hl.1 rfl (lv_room (Nat.le_of_ble_eq_true rfl)) dX12_readLine_229 ⟨Nat.le_of_ble_eq_true rfl, Nat.le_of_ble_eq_true rfl⟩) hS (fun G_78 H locs hpo hW hS => ?_)
                obtain ⟨hB_G_78, hq_79, hp_80⟩ := hpo
                have hF := hF.call hq_79 (by decide) (by decide)
                have g_81 : gE G_78 = gE G := gE_fr (rs := [86]) (fs := [(66, 2), (66, 3), (66, 4), (66, 6), (66, 7), (66, 8), (66, 9), (66, 48), (66, 49), (66, 50), (66, 51)]) ((((((((((Fr.rf.call hq_3 (by decide) (by decide)).call hq_9 (by decide) (by decide)).call hq_13 (by decide) (by decide)).call hq_19 (by decide) (by decide)).call hq_23 (by decide) (by decide)).call hq_29 (by decide) (by decide)).call hq_34 (by decide) (by decide)).call hq_40 (by decide) (by decide)).call hq_65 (by decide) (by decide)).call hq_79 (by decide) (by decide)) (by decide) (by decide)
                have g_82 : gN G_78 = gN G := gN_fr (rs := [86]) (fs := [(66, 2), (66, 3), (66, 4), (66, 6), (66, 7), (66, 8), (66, 9), (66, 48), (66, 49), (66, 50), (66, 51)]) ((((((((((Fr.rf.call hq_3 (by decide) (by decide)).call hq_9 (by decide) (by decide)).call hq_13 (by decide) (by decide)).call hq_19 (by decide) (by decide)).call hq_23 (by decide) (by decide)).call hq_29 (by decide) (by decide)).call hq_34 (by decide) (by decide)).call hq_40 (by decide) (by decide)).call hq_65 (by decide) (by decide)).call hq_79 (by decide) (by decide)) (by decide) (by decide)
                have g_83 : (G_78.1 66 2).toInt = (G_64.1 66 2).toInt := by rw [show G_78.1 66 2 = (G_64.1 66 2) from ((hq_79.i 66 2 (by decide) (by decide)).trans (rfl))]
                have b_84 : 0 ≤ (G_78.1 66 4).toInt ∧ (G_78.1 66 4).toInt ≤ 1600 := hB_G_78.i 66 4 rfl rfl
                have g_85 : (G_78.1 86 0).toInt = (G_38.1 86 0).toInt := by rw [show G_78.1 86 0 = (G_38.1 86 0) from ((hq_79.i 86 0 (by decide) (by decide)).trans ((hq_65.i 86 0 (by decide) (by decide)).trans (rfl)))]
                have g_86 : (G_78.1 86 1).toInt = (G_38.1 86 1).toInt := by rw [show G_78.1 86 1 = (G_38.1 86 1) from ((hq_79.i 86 1 (by decide) (by decide)).trans ((hq_65.i 86 1 (by decide) (by decide)).trans (rfl)))]
                have g_87 : (G_78.1 86 2).toInt = (G_38.1 86 2).toInt := by rw [show G_78.1 86 2 = (G_38.1 86 2) from ((hq_79.i 86 2 (by decide) (by decide)).trans ((hq_65.i 86 2 (by decide) (by decide)).trans (rfl)))]
                exact W.vret hx hb hr (fun t ht _ => ⟨⟨G_78, rfl, ⟨hB_G_78, hF, (by omega)⟩, wd_t ht hW⟩, hS.F ht⟩) hS.2.2 dX12_readLine_232
        refine lv_if_eq (tgt := 104) hx hb dX12_readLine_84 (by decide) (fun c_88 => ?_) (fun c_88 => ?_)
        · have c_88 : r_32.toInt = 0 := xI_eq rfl rfl c_88
          refine lv_aload_n hx hb dX12_readLine_104 rfl (lv_at hl 0 rfl) ?_
          refine lv_ldc2 (v := 1751215716) hx hb hown (hg (Cond.constantLong RX12 239 1751215716) m1652) dX12_readLine_105 ?_
          refine lv_iconst (v := 2) hx hb dX12_readLine_108 (by decide) ?_
          have qc_89 : (2 : Int32).toInt = 2 := rfl
          have g_90 : (G_33.1 66 6).toInt = (G.1 66 6).toInt := by rw [show G_33.1 66 6 = (G.1 66 6) from ((hq_34.i 66 6 (by decide) (by decide)).trans ((hq_29.i 66 6 (by decide) (by decide)).trans ((hq_23.i 66 6 (by decide) (by decide)).trans ((hq_19.i 66 6 (by decide) (by decide)).trans ((hq_13.i 66 6 (by decide) (by decide)).trans ((hq_9.i 66 6 (by decide) (by decide)).trans ((hq_3.i 66 6 (by decide) (by decide)).trans (rfl))))))))]
          refine S_calli (va_runV (As := [.long 1751215716, .int 2]) (rest := []) ⟨hx, hb, hml, hown, hts⟩ (n_isOnce l D k A a z G_33 1751215716 2 ) (cwV 2 hts (gd_V hgd m1761 m1763 m81 m131 m1764) rfl rfl rfl (by decide +kernel) ⟨Nat.le_of_ble_eq_true rfl, Nat.le_of_ble_eq_true rfl⟩) (pre_V hW hB_G_33 hK hZ hS kd_66 rfl) rfl rfl hl.1 rfl (lv_room (Nat.le_of_ble_eq_true rfl)) dX12_readLine_109 ⟨Nat.le_of_ble_eq_true rfl, Nat.le_of_ble_eq_true rfl⟩) hS (fun r_91 G_92 H locs hpo hW hS => ?_)
          obtain ⟨hB_G_92, hq_93, f_95, hp_94⟩ := hpo
          have hF := hF.call hq_93 (by decide) (by decide)
          refine lv_if_eq (tgt := 156) hx hb dX12_readLine_112 (by decide) (fun c_96 => ?_) (fun c_96 => ?_)
          · have c_96 : r_91.toInt = 0 := xI_eq rfl rfl c_96
            refine lv_aload_n hx hb dX12_readLine_156 rfl (lv_at hl 0 rfl) ?_
            refine lv_ldc2 (v := 1685217655) hx hb hown (hg (Cond.constantLong RX12 243 1685217655) m1654) dX12_readLine_157 ?_
            refine lv_iconst (v := 4) hx hb dX12_readLine_160 (by decide) ?_
            have qc_97 : (4 : Int32).toInt = 4 := rfl
            have g_98 : (G_92.1 66 6).toInt = (G.1 66 6).toInt := by rw [show G_92.1 66 6 = (G.1 66 6) from ((hq_93.i 66 6 (by decide) (by decide)).trans ((hq_34.i 66 6 (by decide) (by decide)).trans ((hq_29.i 66 6 (by decide) (by decide)).trans ((hq_23.i 66 6 (by decide) (by decide)).trans ((hq_19.i 66 6 (by decide) (by decide)).trans ((hq_13.i 66 6 (by decide) (by decide)).trans ((hq_9.i 66 6 (by decide) (by decide)).trans ((hq_3.i 66 6 (by decide) (by decide)).trans (rfl)))))))))]
            refine S_calli (va_runV (As := [.long 1685217655, .int 4]) (rest := []) ⟨hx, hb, hml, hown, hts⟩ (n_isOnce l D k A a z G_92 1685217655 4 ) (cwV 2 hts (gd_V hgd m1761 m1763 m81 m131 m1764) rfl rfl rfl (by decide +kernel) ⟨Nat.le_of_ble_eq_true rfl, Nat.le_of_ble_eq_true rfl⟩) (pre_V hW hB_G_92 hK hZ hS kd_66 rfl) rfl rfl hl.1 rfl (lv_room (Nat.le_of_ble_eq_true rfl)) dX12_readLine_161 ⟨Nat.le_of_ble_eq_true rfl, Nat.le_of_ble_eq_true rfl⟩) hS (fun r_99 G_100 H locs hpo hW hS => ?_)
            obtain ⟨hB_G_100, hq_101, f_103, hp_102⟩ := hpo
            have hF := hF.call hq_101 (by decide) (by decide)
            refine lv_if_eq (tgt := 195) hx hb dX12_readLine_164 (by decide) (fun c_104 => ?_) (fun c_104 => ?_)
            · have c_104 : r_99.toInt = 0 := xI_eq rfl rfl c_104
              refine lv_aload_n hx hb dX12_readLine_195 rfl (lv_at hl 0 rfl) ?_
              refine lv_iconst (v := 2) hx hb dX12_readLine_196 (by decide) ?_
              have qc_105 : (2 : Int32).toInt = 2 := rfl
              refine S_callv (va_runV (As := [.int 2]) (rest := []) ⟨hx, hb, hml, hown, hts⟩ (n_wrong l D k A a z G_100 2 ⟨by decide, by decide⟩) (cwV 1 hts (gd_V hgd m1670 m1672 m59 m131 m1673) rfl rfl rfl (by decide +kernel) ⟨Nat.le_of_ble_eq_true rfl, Nat.le_of_ble_eq_true rfl⟩) (pre_V hW hB_G_100 hK hZ hS kd_66 rfl) rfl rfl hl.1 rfl (lv_room (Nat.le_of_ble_eq_true rfl)) dX12_readLine_197 ⟨Nat.le_of_ble_eq_true rfl, Nat.le_of_ble_eq_true rfl⟩) hS (fun G_107 H locs hpo hW hS => ?_)
              obtain ⟨hB_G_107, hq_108, hp_109⟩ := hpo
              have hF := hF.call hq_108 (by decide) (by decide)
              have b_110 : 0 ≤ (G.1 66 4).toInt ∧ (G.1 66 4).toInt ≤ 1600 := hB_G.i 66 4 rfl rfl
              have g_111 : (G_107.1 66 4).toInt = (G.1 66 4).toInt := by rw [show G_107.1 66 4 = (G.1 66 4) from ((hq_108.i 66 4 (by decide) (by decide)).trans ((hq_101.i 66 4 (by decide) (by decide)).trans ((hq_93.i 66 4 (by decide) (by decide)).trans ((hq_34.i 66 4 (by decide) (by decide)).trans ((hq_29.i 66 4 (by decide) (by decide)).trans ((hq_23.i 66 4 (by decide) (by decide)).trans ((hq_19.i 66 4 (by decide) (by decide)).trans ((hq_13.i 66 4 (by decide) (by decide)).trans ((hq_9.i 66 4 (by decide) (by decide)).trans (hq_3.i 66 4 (by decide) (by decide)))))))))))]
              have g_112 : (G_107.1 66 6).toInt = (G.1 66 6).toInt := by rw [show G_107.1 66 6 = (G.1 66 6) from ((hq_108.i 66 6 (by decide) (by decide)).trans ((hq_101.i 66 6 (by decide) (by decide)).trans ((hq_93.i 66 6 (by decide) (by decide)).trans ((hq_34.i 66 6 (by decide) (by decide)).trans ((hq_29.i 66 6 (by decide) (by decide)).trans ((hq_23.i 66 6 (by decide) (by decide)).trans ((hq_19.i 66 6 (by decide) (by decide)).trans ((hq_13.i 66 6 (by decide) (by decide)).trans ((hq_9.i 66 6 (by decide) (by decide)).trans ((hq_3.i 66 6 (by decide) (by decide)).trans (rfl)))))))))))]
              have g_113 : gE G_107 = gE G := gE_fr (rs := []) (fs := [(66, 2), (66, 3)]) ((((((((((Fr.rf.call hq_3 (by decide) (by decide)).call hq_9 (by decide) (by decide)).call hq_13 (by decide) (by decide)).call hq_19 (by decide) (by decide)).call hq_23 (by decide) (by decide)).call hq_29 (by decide) (by decide)).call hq_34 (by decide) (by decide)).call hq_93 (by decide) (by decide)).call hq_101 (by decide) (by decide)).call hq_108 (by decide) (by decide)) (by decide) (by decide)
              have g_114 : gN G_107 = gN G := gN_fr (rs := []) (fs := [(66, 2), (66, 3)]) ((((((((((Fr.rf.call hq_3 (by decide) (by decide)).call hq_9 (by decide) (by decide)).call hq_13 (by decide) (by decide)).call hq_19 (by decide) (by decide)).call hq_23 (by decide) (by decide)).call hq_29 (by decide) (by decide)).call hq_34 (by decide) (by decide)).call hq_93 (by decide) (by decide)).call hq_101 (by decide) (by decide)).call hq_108 (by decide) (by decide)) (by decide) (by decide)
              have b_115 : 0 ≤ (G_107.1 66 2).toInt ∧ (G_107.1 66 2).toInt ≤ 4 := hB_G_107.i 66 2 rfl rfl
              have g_116 : (G_107.1 86 0).toInt = (G.1 86 0).toInt := by rw [show G_107.1 86 0 = (G.1 86 0) from ((hq_108.i 86 0 (by decide) (by decide)).trans ((hq_101.i 86 0 (by decide) (by decide)).trans ((hq_93.i 86 0 (by decide) (by decide)).trans ((hq_34.i 86 0 (by decide) (by decide)).trans ((hq_29.i 86 0 (by decide) (by decide)).trans ((hq_23.i 86 0 (by decide) (by decide)).trans ((hq_19.i 86 0 (by decide) (by decide)).trans ((hq_13.i 86 0 (by decide) (by decide)).trans ((hq_9.i 86 0 (by decide) (by decide)).trans (hq_3.i 86 0 (by decide) (by decide)))))))))))]
              have g_117 : (G_107.1 86 1).toInt = (G.1 86 1).toInt := by rw [show G_107.1 86 1 = (G.1 86 1) from ((hq_108.i 86 1 (by decide) (by decide)).trans ((hq_101.i 86 1 (by decide) (by decide)).trans ((hq_93.i 86 1 (by decide) (by decide)).trans ((hq_34.i 86 1 (by decide) (by decide)).trans ((hq_29.i 86 1 (by decide) (by decide)).trans ((hq_23.i 86 1 (by decide) (by decide)).trans ((hq_19.i 86 1 (by decide) (by decide)).trans ((hq_13.i 86 1 (by decide) (by decide)).trans ((hq_9.i 86 1 (by decide) (by decide)).trans (hq_3.i 86 1 (by decide) (by decide)))))))))))]
              have g_118 : (G_107.1 86 2).toInt = (G.1 86 2).toInt := by rw [show G_107.1 86 2 = (G.1 86 2) from ((hq_108.i 86 2 (by decide) (by decide)).trans ((hq_101.i 86 2 (by decide) (by decide)).trans ((hq_93.i 86 2 (by decide) (by decide)).trans ((hq_34.i 86 2 (by decide) (by decide)).trans ((hq_29.i 86 2 (by decide) (by decide)).trans ((hq_23.i 86 2 (by decide) (by decide)).trans ((hq_19.i 86 2 (by decide) (by decide)).trans ((hq_13.i 86 2 (by decide) (by decide)).trans ((hq_9.i 86 2 (by decide) (by decide)).trans (hq_3.i 86 2 (by decide) (by decide)))))))))))]
              exact hJ_39 () _ _ _ ⟨G_107, (by omega), (by omega), hW, hB_G_107, hF, (((Fr.rf.call hq_93 (by decide) (by decide)).call hq_101 (by decide) (by decide)).call hq_108 (by decide) (by decide)), hS, lv_sub hl [0] rfl⟩
            · have c_104 : r_99.toInt ≠ 0 := xI_ne rfl rfl c_104
              refine lv_aload_n hx hb dX12_readLine_167 rfl (lv_at hl 0 rfl) ?_
              refine lv_dup hx hb dX12_readLine_168 rfl ?_
              refine S_getI (v := (G.1 66 51)) (C := RX12) (T := TX12) (N := 89) hx hb hg iX12 hown hK hW kd_66 rfl 51 (by decide) (hg (Cond.fieldLink RX12 391 "SlabWalkModel" "nOnce" "I") m1365) (fun _ h9 => h9) rfl ((hq_101.i 66 51 (by decide) (by decide)).trans ((hq_93.i 66 51 (by decide) (by decide)).trans ((hq_34.i 66 51 (by decide) (by decide)).trans ((hq_29.i 66 51 (by decide) (by decide)).trans ((hq_23.i 66 51 (by decide) (by decide)).trans ((hq_19.i 66 51 (by decide) (by decide)).trans ((hq_13.i 66 51 (by decide) (by decide)).trans ((hq_9.i 66 51 (by decide) (by decide)).trans (hq_3.i 66 51 (by decide) (by decide)))))))))) dX12_readLine_169 ?_
              refine lv_iconst (v := 4) hx hb dX12_readLine_172 (by decide) ?_
              refine lv_ior hx hb dX12_readLine_173 ?_
              refine lv_topi (fun y_119 ey_119 => ?_)
              refine S_putI (ty := .int) (C := RX12) (T := TX12) (N := 89) hx hb hg iX12 tyX12 tyX12_ok nmX12 hown hK hW hS kd_66 rfl 51 (by decide) (hg (Cond.fieldLink RX12 391 "SlabWalkModel" "nOnce" "I") m1365) (fun _ h9 => h9) rfl (by decide +kernel) rfl rfl rfl dX12_readLine_174 (fun G_120 H locs eG_120 hW hS => ?_)
              have hB_G_120 : Bd G_120 := hB_G_100.put (lo := (-2147483648)) (hi := 2147483647) eG_120 rfl rfl rfl (tI_rng _).1 (tI_rng _).2 (hB_G_100.2.put eG_120 rfl)
              have hF := hF.put eG_120 (Or.inr (by decide))
              refine lv_aload_n hx hb dX12_readLine_177 rfl (lv_at hl 0 rfl) ?_
              refine lv_aload_n hx hb dX12_readLine_178 rfl (lv_at hl 0 rfl) ?_
              refine lv_ldc2 (v := 1685217655) hx hb hown (hg (Cond.constantLong RX12 243 1685217655) m1654) dX12_readLine_179 ?_
              refine lv_iconst (v := 0) hx hb dX12_readLine_182 (by decide) ?_
              refine lv_sipush (v := 999) hx hb dX12_readLine_183 (by decide) ?_
              have qc_121 : (0 : Int32).toInt = 0 := rfl
              have qc_122 : (999 : Int32).toInt = 999 := rfl
              have b_123 : 0 ≤ (G.1 66 2).toInt ∧ (G.1 66 2).toInt ≤ 4 := hB_G.i 66 2 rfl rfl
              have g_124 : (G_120.1 66 2).toInt = (G.1 66 2).toInt := by rw [show G_120.1 66 2 = (G.1 66 2) from ((gp_ne eG_120 (by decide)).trans ((hq_101.i 66 2 (by decide) (by decide)).trans ((hq_93.i 66 2 (by decide) (by decide)).trans ((hq_34.i 66 2 (by decide) (by decide)).trans ((hq_29.i 66 2 (by decide) (by decide)).trans ((hq_23.i 66 2 (by decide) (by decide)).trans ((hq_19.i 66 2 (by decide) (by decide)).trans ((hq_13.i 66 2 (by decide) (by decide)).trans ((hq_9.i 66 2 (by decide) (by decide)).trans (hq_3.i 66 2 (by decide) (by decide)))))))))))]
              have b_125 : 0 ≤ (G.1 66 4).toInt ∧ (G.1 66 4).toInt ≤ 1600 := hB_G.i 66 4 rfl rfl
              have g_126 : (G_120.1 66 4).toInt = (G.1 66 4).toInt := by rw [show G_120.1 66 4 = (G.1 66 4) from ((gp_ne eG_120 (by decide)).trans ((hq_101.i 66 4 (by decide) (by decide)).trans ((hq_93.i 66 4 (by decide) (by decide)).trans ((hq_34.i 66 4 (by decide) (by decide)).trans ((hq_29.i 66 4 (by decide) (by decide)).trans ((hq_23.i 66 4 (by decide) (by decide)).trans ((hq_19.i 66 4 (by decide) (by decide)).trans ((hq_13.i 66 4 (by decide) (by decide)).trans ((hq_9.i 66 4 (by decide) (by decide)).trans (hq_3.i 66 4 (by decide) (by decide)))))))))))]
              have g_127 : (G_120.1 66 6).toInt = (G.1 66 6).toInt := by rw [show G_120.1 66 6 = (G.1 66 6) from ((gp_ne eG_120 (by decide)).trans ((hq_101.i 66 6 (by decide) (by decide)).trans ((hq_93.i 66 6 (by decide) (by decide)).trans ((hq_34.i 66 6 (by decide) (by decide)).trans ((hq_29.i 66 6 (by decide) (by decide)).trans ((hq_23.i 66 6 (by decide) (by decide)).trans ((hq_19.i 66 6 (by decide) (by decide)).trans ((hq_13.i 66 6 (by decide) (by decide)).trans ((hq_9.i 66 6 (by decide) (by decide)).trans ((hq_3.i 66 6 (by decide) (by decide)).trans (rfl)))))))))))]
              refine S_calli (va_runV (As := [.long 1685217655, .int 0, .int 999]) (rest := [.ref (a 66)]) ⟨hx, hb, hml, hown, hts⟩ (n_told2 l D k A a z G_120 1685217655 0 999 ) (cwV 3 hts (gd_V hgd m1674 m1676 m60 m131 m1677) rfl rfl rfl (by decide +kernel) ⟨Nat.le_of_ble_eq_true rfl, Nat.le_of_ble_eq_true rfl⟩) (pre_V hW hB_G_120 hK hZ hS kd_66 rfl) rfl rfl hl.1 rfl (lv_room (Nat.le_of_ble_eq_true rfl)) dX12_readLine_186 ⟨Nat.le_of_ble_eq_true rfl, Nat.le_of_ble_eq_true rfl⟩) hS (fun r_128 G_129 H locs hpo hW hS => ?_)
              obtain ⟨hB_G_129, hq_130, hp_131⟩ := hpo
              have hF := hF.call hq_130 (by decide) (by decide)
              refine S_putI (ty := .int) (C := RX12) (T := TX12) (N := 89) hx hb hg iX12 tyX12 tyX12_ok nmX12 hown hK hW hS kd_66 rfl 50 (by decide) (hg (Cond.fieldLink RX12 416 "SlabWalkModel" "nDraw" "I") m1364) (fun _ h9 => h9) rfl (by decide +kernel) rfl rfl rfl dX12_readLine_189 (fun G_132 H locs eG_132 hW hS => ?_)
              have hB_G_132 : Bd G_132 := hB_G_129.put (lo := (-2147483648)) (hi := 2147483647) eG_132 rfl rfl rfl (tI_rng _).1 (tI_rng _).2 (hB_G_129.2.put eG_132 rfl)
              have hF := hF.put eG_132 (Or.inr (by decide))
              refine lv_goto (tgt := 200) hx hb dX12_readLine_192 (by decide) ?_
              have b_133 : 0 ≤ (G_129.1 66 4).toInt ∧ (G_129.1 66 4).toInt ≤ 1600 := hB_G_129.i 66 4 rfl rfl
              have g_134 : (G_132.1 66 4).toInt = (G_129.1 66 4).toInt := by rw [show G_132.1 66 4 = (G_129.1 66 4) from (gp_ne eG_132 (by decide))]
              have g_135 : (G_132.1 66 6).toInt = (G_129.1 66 6).toInt := by rw [show G_132.1 66 6 = (G_129.1 66 6) from (gp_ne eG_132 (by decide))]
              have g_136 : gE G_132 = gE G := gE_fr (rs := []) (fs := [(66, 2), (66, 3), (66, 4), (66, 6), (66, 7), (66, 8), (66, 9), (66, 50), (66, 51)]) ((((((((((((Fr.rf.call hq_3 (by decide) (by decide)).call hq_9 (by decide) (by decide)).call hq_13 (by decide) (by decide)).call hq_19 (by decide) (by decide)).call hq_23 (by decide) (by decide)).call hq_29 (by decide) (by decide)).call hq_34 (by decide) (by decide)).call hq_93 (by decide) (by decide)).call hq_101 (by decide) (by decide)).put eG_120 (Or.inr (by decide))).call hq_130 (by decide) (by decide)).put eG_132 (Or.inr (by decide))) (by decide) (by decide)
              have g_137 : gN G_132 = gN G := gN_fr (rs := []) (fs := [(66, 2), (66, 3), (66, 4), (66, 6), (66, 7), (66, 8), (66, 9), (66, 50), (66, 51)]) ((((((((((((Fr.rf.call hq_3 (by decide) (by decide)).call hq_9 (by decide) (by decide)).call hq_13 (by decide) (by decide)).call hq_19 (by decide) (by decide)).call hq_23 (by decide) (by decide)).call hq_29 (by decide) (by decide)).call hq_34 (by decide) (by decide)).call hq_93 (by decide) (by decide)).call hq_101 (by decide) (by decide)).put eG_120 (Or.inr (by decide))).call hq_130 (by decide) (by decide)).put eG_132 (Or.inr (by decide))) (by decide) (by decide)
              have b_138 : 0 ≤ (G_129.1 66 2).toInt ∧ (G_129.1 66 2).toInt ≤ 4 := hB_G_129.i 66 2 rfl rfl
              have g_139 : (G_132.1 66 2).toInt = (G_129.1 66 2).toInt := by rw [show G_132.1 66 2 = (G_129.1 66 2) from (gp_ne eG_132 (by decide))]
              have g_140 : (G_132.1 86 0).toInt = (G.1 86 0).toInt := by rw [show G_132.1 86 0 = (G.1 86 0) from ((gp_ne eG_132 (by decide)).trans ((hq_130.i 86 0 (by decide) (by decide)).trans ((gp_ne eG_120 (by decide)).trans ((hq_101.i 86 0 (by decide) (by decide)).trans ((hq_93.i 86 0 (by decide) (by decide)).trans ((hq_34.i 86 0 (by decide) (by decide)).trans ((hq_29.i 86 0 (by decide) (by decide)).trans ((hq_23.i 86 0 (by decide) (by decide)).trans ((hq_19.i 86 0 (by decide) (by decide)).trans ((hq_13.i 86 0 (by decide) (by decide)).trans ((hq_9.i 86 0 (by decide) (by decide)).trans (hq_3.i 86 0 (by decide) (by decide)))))))))))))]
              have g_141 : (G_132.1 86 1).toInt = (G.1 86 1).toInt := by rw [show G_132.1 86 1 = (G.1 86 1) from ((gp_ne eG_132 (by decide)).trans ((hq_130.i 86 1 (by decide) (by decide)).trans ((gp_ne eG_120 (by decide)).trans ((hq_101.i 86 1 (by decide) (by decide)).trans ((hq_93.i 86 1 (by decide) (by decide)).trans ((hq_34.i 86 1 (by decide) (by decide)).trans ((hq_29.i 86 1 (by decide) (by decide)).trans ((hq_23.i 86 1 (by decide) (by decide)).trans ((hq_19.i 86 1 (by decide) (by decide)).trans ((hq_13.i 86 1 (by decide) (by decide)).trans ((hq_9.i 86 1 (by decide) (by decide)).trans (hq_3.i 86 1 (by decide) (by decide)))))))))))))]
              have g_142 : (G_132.1 86 2).toInt = (G.1 86 2).toInt := by rw [show G_132.1 86 2 = (G.1 86 2) from ((gp_ne eG_132 (by decide)).trans ((hq_130.i 86 2 (by decide) (by decide)).trans ((gp_ne eG_120 (by decide)).trans ((hq_101.i 86 2 (by decide) (by decide)).trans ((hq_93.i 86 2 (by decide) (by decide)).trans ((hq_34.i 86 2 (by decide) (by decide)).trans ((hq_29.i 86 2 (by decide) (by decide)).trans ((hq_23.i 86 2 (by decide) (by decide)).trans ((hq_19.i 86 2 (by decide) (by decide)).trans ((hq_13.i 86 2 (by decide) (by decide)).trans ((hq_9.i 86 2 (by decide) (by decide)).trans (hq_3.i 86 2 (by decide) (by decide)))))))))))))]
              exact hJ_39 () _ _ _ ⟨G_132, (by omega), (by omega), hW, hB_G_132, hF, (((((Fr.rf.call hq_93 (by decide) (by decide)).call hq_101 (by decide) (by decide)).put eG_120 (Or.inr (by decide))).call hq_130 (by decide) (by decide)).put eG_132 (Or.inr (by decide))), hS, lv_sub hl [0] rfl⟩
          · have c_96 : r_91.toInt ≠ 0 := xI_ne rfl rfl c_96
            refine lv_aload_n hx hb dX12_readLine_115 rfl (lv_at hl 0 rfl) ?_
            refine lv_dup hx hb dX12_readLine_116 rfl ?_
            refine S_getI (v := (G.1 66 51)) (C := RX12) (T := TX12) (N := 89) hx hb hg iX12 hown hK hW kd_66 rfl 51 (by decide) (hg (Cond.fieldLink RX12 391 "SlabWalkModel" "nOnce" "I") m1365) (fun _ h9 => h9) rfl ((hq_93.i 66 51 (by decide) (by decide)).trans ((hq_34.i 66 51 (by decide) (by decide)).trans ((hq_29.i 66 51 (by decide) (by decide)).trans ((hq_23.i 66 51 (by decide) (by decide)).trans ((hq_19.i 66 51 (by decide) (by decide)).trans ((hq_13.i 66 51 (by decide) (by decide)).trans ((hq_9.i 66 51 (by decide) (by decide)).trans (hq_3.i 66 51 (by decide) (by decide))))))))) dX12_readLine_117 ?_
            refine lv_iconst (v := 2) hx hb dX12_readLine_120 (by decide) ?_
            refine lv_ior hx hb dX12_readLine_121 ?_
            refine lv_topi (fun y_143 ey_143 => ?_)
            refine S_putI (ty := .int) (C := RX12) (T := TX12) (N := 89) hx hb hg iX12 tyX12 tyX12_ok nmX12 hown hK hW hS kd_66 rfl 51 (by decide) (hg (Cond.fieldLink RX12 391 "SlabWalkModel" "nOnce" "I") m1365) (fun _ h9 => h9) rfl (by decide +kernel) rfl rfl rfl dX12_readLine_122 (fun G_144 H locs eG_144 hW hS => ?_)
            have hB_G_144 : Bd G_144 := hB_G_92.put (lo := (-2147483648)) (hi := 2147483647) eG_144 rfl rfl rfl (tI_rng _).1 (tI_rng _).2 (hB_G_92.2.put eG_144 rfl)
            have hF := hF.put eG_144 (Or.inr (by decide))
            refine lv_aload_n hx hb dX12_readLine_125 rfl (lv_at hl 0 rfl) ?_
            refine lv_aload_n hx hb dX12_readLine_126 rfl (lv_at hl 0 rfl) ?_
            refine lv_ldc2 (v := 1751215716) hx hb hown (hg (Cond.constantLong RX12 239 1751215716) m1652) dX12_readLine_127 ?_
            refine lv_iconst (v := 1) hx hb dX12_readLine_130 (by decide) ?_
            refine lv_bipush (v := 99) hx hb dX12_readLine_131 (by decide) ?_
            have qc_145 : (1 : Int32).toInt = 1 := rfl
            have qc_146 : (99 : Int32).toInt = 99 := rfl
            have b_147 : 0 ≤ (G.1 66 2).toInt ∧ (G.1 66 2).toInt ≤ 4 := hB_G.i 66 2 rfl rfl
            have g_148 : (G_144.1 66 2).toInt = (G.1 66 2).toInt := by rw [show G_144.1 66 2 = (G.1 66 2) from ((gp_ne eG_144 (by decide)).trans ((hq_93.i 66 2 (by decide) (by decide)).trans ((hq_34.i 66 2 (by decide) (by decide)).trans ((hq_29.i 66 2 (by decide) (by decide)).trans ((hq_23.i 66 2 (by decide) (by decide)).trans ((hq_19.i 66 2 (by decide) (by decide)).trans ((hq_13.i 66 2 (by decide) (by decide)).trans ((hq_9.i 66 2 (by decide) (by decide)).trans (hq_3.i 66 2 (by decide) (by decide))))))))))]
            have b_149 : 0 ≤ (G.1 66 4).toInt ∧ (G.1 66 4).toInt ≤ 1600 := hB_G.i 66 4 rfl rfl
            have g_150 : (G_144.1 66 4).toInt = (G.1 66 4).toInt := by rw [show G_144.1 66 4 = (G.1 66 4) from ((gp_ne eG_144 (by decide)).trans ((hq_93.i 66 4 (by decide) (by decide)).trans ((hq_34.i 66 4 (by decide) (by decide)).trans ((hq_29.i 66 4 (by decide) (by decide)).trans ((hq_23.i 66 4 (by decide) (by decide)).trans ((hq_19.i 66 4 (by decide) (by decide)).trans ((hq_13.i 66 4 (by decide) (by decide)).trans ((hq_9.i 66 4 (by decide) (by decide)).trans (hq_3.i 66 4 (by decide) (by decide))))))))))]
            have g_151 : (G_144.1 66 6).toInt = (G.1 66 6).toInt := by rw [show G_144.1 66 6 = (G.1 66 6) from ((gp_ne eG_144 (by decide)).trans ((hq_93.i 66 6 (by decide) (by decide)).trans ((hq_34.i 66 6 (by decide) (by decide)).trans ((hq_29.i 66 6 (by decide) (by decide)).trans ((hq_23.i 66 6 (by decide) (by decide)).trans ((hq_19.i 66 6 (by decide) (by decide)).trans ((hq_13.i 66 6 (by decide) (by decide)).trans ((hq_9.i 66 6 (by decide) (by decide)).trans ((hq_3.i 66 6 (by decide) (by decide)).trans (rfl))))))))))]
            refine S_calli (va_runV (As := [.long 1751215716, .int 1, .int 99]) (rest := [.ref (a 66)]) ⟨hx, hb, hml, hown, hts⟩ (n_told2 l D k A a z G_144 1751215716 1 99 ) (cwV 3 hts (gd_V hgd m1674 m1676 m60 m131 m1677) rfl rfl rfl (by decide +kernel) ⟨Nat.le_of_ble_eq_true rfl, Nat.le_of_ble_eq_true rfl⟩) (pre_V hW hB_G_144 hK hZ hS kd_66 rfl) rfl rfl hl.1 rfl (lv_room (Nat.le_of_ble_eq_true rfl)) dX12_readLine_133 ⟨Nat.le_of_ble_eq_true rfl, Nat.le_of_ble_eq_true rfl⟩) hS (fun r_152 G_153 H locs hpo hW hS => ?_)
            obtain ⟨hB_G_153, hq_154, hp_155⟩ := hpo
            have hF := hF.call hq_154 (by decide) (by decide)
            refine S_putI (ty := .int) (C := RX12) (T := TX12) (N := 89) hx hb hg iX12 tyX12 tyX12_ok nmX12 hown hK hW hS kd_66 rfl 48 (by decide) (hg (Cond.fieldLink RX12 410 "SlabWalkModel" "nHand" "I") m1362) (fun _ h9 => h9) rfl (by decide +kernel) rfl rfl rfl dX12_readLine_136 (fun G_156 H locs eG_156 hW hS => ?_)
            have hB_G_156 : Bd G_156 := hB_G_153.put (lo := (-2147483648)) (hi := 2147483647) eG_156 rfl rfl rfl (tI_rng _).1 (tI_rng _).2 (hB_G_153.2.put eG_156 rfl)
            have hF := hF.put eG_156 (Or.inr (by decide))
            refine lv_aload_n hx hb dX12_readLine_139 rfl (lv_at hl 0 rfl) ?_
            refine lv_aload_n hx hb dX12_readLine_140 rfl (lv_at hl 0 rfl) ?_
            refine lv_ldc2 (v := 495739560811) hx hb hown (hg (Cond.constantLong RX12 241 495739560811) m1653) dX12_readLine_141 ?_
            refine lv_iconst (v := 0) hx hb dX12_readLine_144 (by decide) ?_
            refine lv_bipush (v := 99) hx hb dX12_readLine_145 (by decide) ?_
            have qc_157 : (0 : Int32).toInt = 0 := rfl
            have qc_158 : (99 : Int32).toInt = 99 := rfl
            have b_159 : 0 ≤ (G_153.1 66 2).toInt ∧ (G_153.1 66 2).toInt ≤ 4 := hB_G_153.i 66 2 rfl rfl
            have g_160 : (G_156.1 66 2).toInt = (G_153.1 66 2).toInt := by rw [show G_156.1 66 2 = (G_153.1 66 2) from (gp_ne eG_156 (by decide))]
            have b_161 : 0 ≤ (G_153.1 66 4).toInt ∧ (G_153.1 66 4).toInt ≤ 1600 := hB_G_153.i 66 4 rfl rfl
            have g_162 : (G_156.1 66 4).toInt = (G_153.1 66 4).toInt := by rw [show G_156.1 66 4 = (G_153.1 66 4) from (gp_ne eG_156 (by decide))]
            have g_163 : (G_156.1 66 6).toInt = (G_153.1 66 6).toInt := by rw [show G_156.1 66 6 = (G_153.1 66 6) from (gp_ne eG_156 (by decide))]
            refine S_calli (va_runV (As := [.long 495739560811, .int 0, .int 99]) (rest := [.ref (a 66)]) ⟨hx, hb, hml, hown, hts⟩ (n_told2 l D k A a z G_156 495739560811 0 99 ) (cwV 3 hts (gd_V hgd m1674 m1676 m60 m131 m1677) rfl rfl rfl (by decide +kernel) ⟨Nat.le_of_ble_eq_true rfl, Nat.le_of_ble_eq_true rfl⟩) (pre_V hW hB_G_156 hK hZ hS kd_66 rfl) rfl rfl hl.1 rfl (lv_room (Nat.le_of_ble_eq_true rfl)) dX12_readLine_147 ⟨Nat.le_of_ble_eq_true rfl, Nat.le_of_ble_eq_true rfl⟩) hS (fun r_164 G_165 H locs hpo hW hS => ?_)
            obtain ⟨hB_G_165, hq_166, hp_167⟩ := hpo
            have hF := hF.call hq_166 (by decide) (by decide)
            refine S_putI (ty := .int) (C := RX12) (T := TX12) (N := 89) hx hb hg iX12 tyX12 tyX12_ok nmX12 hown hK hW hS kd_66 rfl 49 (by decide) (hg (Cond.fieldLink RX12 413 "SlabWalkModel" "nSlack" "I") m1363) (fun _ h9 => h9) rfl (by decide +kernel) rfl rfl rfl dX12_readLine_150 (fun G_168 H locs eG_168 hW hS => ?_)
            have hB_G_168 : Bd G_168 := hB_G_165.put (lo := (-2147483648)) (hi := 2147483647) eG_168 rfl rfl rfl (tI_rng _).1 (tI_rng _).2 (hB_G_165.2.put eG_168 rfl)
            have hF := hF.put eG_168 (Or.inr (by decide))
            refine lv_goto (tgt := 200) hx hb dX12_readLine_153 (by decide) ?_
            have b_169 : 0 ≤ (G_165.1 66 4).toInt ∧ (G_165.1 66 4).toInt ≤ 1600 := hB_G_165.i 66 4 rfl rfl
            have g_170 : (G_168.1 66 4).toInt = (G_165.1 66 4).toInt := by rw [show G_168.1 66 4 = (G_165.1 66 4) from (gp_ne eG_168 (by decide))]
            have g_171 : (G_168.1 66 6).toInt = (G_165.1 66 6).toInt := by rw [show G_168.1 66 6 = (G_165.1 66 6) from (gp_ne eG_168 (by decide))]
            have g_172 : gE G_168 = gE G := gE_fr (rs := []) (fs := [(66, 2), (66, 3), (66, 4), (66, 6), (66, 7), (66, 8), (66, 9), (66, 48), (66, 49), (66, 51)]) (((((((((((((Fr.rf.call hq_3 (by decide) (by decide)).call hq_9 (by decide) (by decide)).call hq_13 (by decide) (by decide)).call hq_19 (by decide) (by decide)).call hq_23 (by decide) (by decide)).call hq_29 (by decide) (by decide)).call hq_34 (by decide) (by decide)).call hq_93 (by decide) (by decide)).put eG_144 (Or.inr (by decide))).call hq_154 (by decide) (by decide)).put eG_156 (Or.inr (by decide))).call hq_166 (by decide) (by decide)).put eG_168 (Or.inr (by decide))) (by decide) (by decide)
            have g_173 : gN G_168 = gN G := gN_fr (rs := []) (fs := [(66, 2), (66, 3), (66, 4), (66, 6), (66, 7), (66, 8), (66, 9), (66, 48), (66, 49), (66, 51)]) (((((((((((((Fr.rf.call hq_3 (by decide) (by decide)).call hq_9 (by decide) (by decide)).call hq_13 (by decide) (by decide)).call hq_19 (by decide) (by decide)).call hq_23 (by decide) (by decide)).call hq_29 (by decide) (by decide)).call hq_34 (by decide) (by decide)).call hq_93 (by decide) (by decide)).put eG_144 (Or.inr (by decide))).call hq_154 (by decide) (by decide)).put eG_156 (Or.inr (by decide))).call hq_166 (by decide) (by decide)).put eG_168 (Or.inr (by decide))) (by decide) (by decide)
            have b_174 : 0 ≤ (G_165.1 66 2).toInt ∧ (G_165.1 66 2).toInt ≤ 4 := hB_G_165.i 66 2 rfl rfl
            have g_175 : (G_168.1 66 2).toInt = (G_165.1 66 2).toInt := by rw [show G_168.1 66 2 = (G_165.1 66 2) from (gp_ne eG_168 (by decide))]
            have g_176 : (G_168.1 86 0).toInt = (G.1 86 0).toInt := by rw [show G_168.1 86 0 = (G.1 86 0) from ((gp_ne eG_168 (by decide)).trans ((hq_166.i 86 0 (by decide) (by decide)).trans ((gp_ne eG_156 (by decide)).trans ((hq_154.i 86 0 (by decide) (by decide)).trans ((gp_ne eG_144 (by decide)).trans ((hq_93.i 86 0 (by decide) (by decide)).trans ((hq_34.i 86 0 (by decide) (by decide)).trans ((hq_29.i 86 0 (by decide) (by decide)).trans ((hq_23.i 86 0 (by decide) (by decide)).trans ((hq_19.i 86 0 (by decide) (by decide)).trans ((hq_13.i 86 0 (by decide) (by decide)).trans ((hq_9.i 86 0 (by decide) (by decide)).trans (hq_3.i 86 0 (by decide) (by decide))))))))))))))]
            have g_177 : (G_168.1 86 1).toInt = (G.1 86 1).toInt := by rw [show G_168.1 86 1 = (G.1 86 1) from ((gp_ne eG_168 (by decide)).trans ((hq_166.i 86 1 (by decide) (by decide)).trans ((gp_ne eG_156 (by decide)).trans ((hq_154.i 86 1 (by decide) (by decide)).trans ((gp_ne eG_144 (by decide)).trans ((hq_93.i 86 1 (by decide) (by decide)).trans ((hq_34.i 86 1 (by decide) (by decide)).trans ((hq_29.i 86 1 (by decide) (by decide)).trans ((hq_23.i 86 1 (by decide) (by decide)).trans ((hq_19.i 86 1 (by decide) (by decide)).trans ((hq_13.i 86 1 (by decide) (by decide)).trans ((hq_9.i 86 1 (by decide) (by decide)).trans (hq_3.i 86 1 (by decide) (by decide))))))))))))))]
            have g_178 : (G_168.1 86 2).toInt = (G.1 86 2).toInt := by rw [show G_168.1 86 2 = (G.1 86 2) from ((gp_ne eG_168 (by decide)).trans ((hq_166.i 86 2 (by decide) (by decide)).trans ((gp_ne eG_156 (by decide)).trans ((hq_154.i 86 2 (by decide) (by decide)).trans ((gp_ne eG_144 (by decide)).trans ((hq_93.i 86 2 (by decide) (by decide)).trans ((hq_34.i 86 2 (by decide) (by decide)).trans ((hq_29.i 86 2 (by decide) (by decide)).trans ((hq_23.i 86 2 (by decide) (by decide)).trans ((hq_19.i 86 2 (by decide) (by decide)).trans ((hq_13.i 86 2 (by decide) (by decide)).trans ((hq_9.i 86 2 (by decide) (by decide)).trans (hq_3.i 86 2 (by decide) (by decide))))))))))))))]
            exact hJ_39 () _ _ _ ⟨G_168, (by omega), (by omega), hW, hB_G_168, hF, ((((((Fr.rf.call hq_93 (by decide) (by decide)).put eG_144 (Or.inr (by decide))).call hq_154 (by decide) (by decide)).put eG_156 (Or.inr (by decide))).call hq_166 (by decide) (by decide)).put eG_168 (Or.inr (by decide))), hS, lv_sub hl [0] rfl⟩
        · have c_88 : r_32.toInt ≠ 0 := xI_ne rfl rfl c_88
          refine lv_aload_n hx hb dX12_readLine_87 rfl (lv_at hl 0 rfl) ?_
          refine lv_dup hx hb dX12_readLine_88 rfl ?_
          refine S_getI (v := (G.1 66 51)) (C := RX12) (T := TX12) (N := 89) hx hb hg iX12 hown hK hW kd_66 rfl 51 (by decide) (hg (Cond.fieldLink RX12 391 "SlabWalkModel" "nOnce" "I") m1365) (fun _ h9 => h9) rfl ((hq_34.i 66 51 (by decide) (by decide)).trans ((hq_29.i 66 51 (by decide) (by decide)).trans ((hq_23.i 66 51 (by decide) (by decide)).trans ((hq_19.i 66 51 (by decide) (by decide)).trans ((hq_13.i 66 51 (by decide) (by decide)).trans ((hq_9.i 66 51 (by decide) (by decide)).trans (hq_3.i 66 51 (by decide) (by decide)))))))) dX12_readLine_89 ?_
          refine lv_iconst (v := 1) hx hb dX12_readLine_92 (by decide) ?_
          refine lv_ior hx hb dX12_readLine_93 ?_
          refine lv_topi (fun y_179 ey_179 => ?_)
          refine S_putI (ty := .int) (C := RX12) (T := TX12) (N := 89) hx hb hg iX12 tyX12 tyX12_ok nmX12 hown hK hW hS kd_66 rfl 51 (by decide) (hg (Cond.fieldLink RX12 391 "SlabWalkModel" "nOnce" "I") m1365) (fun _ h9 => h9) rfl (by decide +kernel) rfl rfl rfl dX12_readLine_94 (fun G_180 H locs eG_180 hW hS => ?_)
          have hB_G_180 : Bd G_180 := hB_G_33.put (lo := (-2147483648)) (hi := 2147483647) eG_180 rfl rfl rfl (tI_rng _).1 (tI_rng _).2 (hB_G_33.2.put eG_180 rfl)
          have hF := hF.put eG_180 (Or.inr (by decide))
          refine lv_aload_n hx hb dX12_readLine_97 rfl (lv_at hl 0 rfl) ?_
          have b_181 : 0 ≤ (G.1 66 2).toInt ∧ (G.1 66 2).toInt ≤ 4 := hB_G.i 66 2 rfl rfl
          have g_182 : (G_180.1 66 2).toInt = (G.1 66 2).toInt := by rw [show G_180.1 66 2 = (G.1 66 2) from ((gp_ne eG_180 (by decide)).trans ((hq_34.i 66 2 (by decide) (by decide)).trans ((hq_29.i 66 2 (by decide) (by decide)).trans ((hq_23.i 66 2 (by decide) (by decide)).trans ((hq_19.i 66 2 (by decide) (by decide)).trans ((hq_13.i 66 2 (by decide) (by decide)).trans ((hq_9.i 66 2 (by decide) (by decide)).trans (hq_3.i 66 2 (by decide) (by decide)))))))))]
          have b_183 : 0 ≤ (G.1 66 4).toInt ∧ (G.1 66 4).toInt ≤ 1600 := hB_G.i 66 4 rfl rfl
          have g_184 : (G_180.1 66 4).toInt = (G.1 66 4).toInt := by rw [show G_180.1 66 4 = (G.1 66 4) from ((gp_ne eG_180 (by decide)).trans ((hq_34.i 66 4 (by decide) (by decide)).trans ((hq_29.i 66 4 (by decide) (by decide)).trans ((hq_23.i 66 4 (by decide) (by decide)).trans ((hq_19.i 66 4 (by decide) (by decide)).trans ((hq_13.i 66 4 (by decide) (by decide)).trans ((hq_9.i 66 4 (by decide) (by decide)).trans (hq_3.i 66 4 (by decide) (by decide)))))))))]
          have g_185 : (G_180.1 66 6).toInt = (G.1 66 6).toInt := by rw [show G_180.1 66 6 = (G.1 66 6) from ((gp_ne eG_180 (by decide)).trans ((hq_34.i 66 6 (by decide) (by decide)).trans ((hq_29.i 66 6 (by decide) (by decide)).trans ((hq_23.i 66 6 (by decide) (by decide)).trans ((hq_19.i 66 6 (by decide) (by decide)).trans ((hq_13.i 66 6 (by decide) (by decide)).trans ((hq_9.i 66 6 (by decide) (by decide)).trans ((hq_3.i 66 6 (by decide) (by decide)).trans (rfl)))))))))]
          refine S_callv (va_runV (As := []) (rest := []) ⟨hx, hb, hml, hown, hts⟩ (n_readSlip l D k A a z G_180  (by omega)) (cwV 0 hts (gd_V hgd m1765 m1767 m82 m131 m1768) rfl rfl rfl (by decide +kernel) ⟨Nat.le_of_ble_eq_true rfl, Nat.le_of_ble_eq_true rfl⟩) (pre_V hW hB_G_180 hK hZ hS kd_66 rfl) rfl rfl hl.1 rfl (lv_room (Nat.le_of_ble_eq_true rfl)) dX12_readLine_98 ⟨Nat.le_of_ble_eq_true rfl, Nat.le_of_ble_eq_true rfl⟩) hS (fun G_187 H locs hpo hW hS => ?_)
          obtain ⟨hB_G_187, hq_188, hp_189⟩ := hpo
          have hF := hF.call hq_188 (by decide) (by decide)
          refine lv_goto (tgt := 200) hx hb dX12_readLine_101 (by decide) ?_
          have b_190 : 0 ≤ (G_187.1 66 4).toInt ∧ (G_187.1 66 4).toInt ≤ 1600 := hB_G_187.i 66 4 rfl rfl
          have g_191 : gE G_187 = gE G := gE_fr (rs := [86]) (fs := [(66, 2), (66, 3), (66, 4), (66, 6), (66, 7), (66, 8), (66, 9), (66, 51)]) (((((((((Fr.rf.call hq_3 (by decide) (by decide)).call hq_9 (by decide) (by decide)).call hq_13 (by decide) (by decide)).call hq_19 (by decide) (by decide)).call hq_23 (by decide) (by decide)).call hq_29 (by decide) (by decide)).call hq_34 (by decide) (by decide)).put eG_180 (Or.inr (by decide))).call hq_188 (by decide) (by decide)) (by decide) (by decide)
          have g_192 : gN G_187 = gN G := gN_fr (rs := [86]) (fs := [(66, 2), (66, 3), (66, 4), (66, 6), (66, 7), (66, 8), (66, 9), (66, 51)]) (((((((((Fr.rf.call hq_3 (by decide) (by decide)).call hq_9 (by decide) (by decide)).call hq_13 (by decide) (by decide)).call hq_19 (by decide) (by decide)).call hq_23 (by decide) (by decide)).call hq_29 (by decide) (by decide)).call hq_34 (by decide) (by decide)).put eG_180 (Or.inr (by decide))).call hq_188 (by decide) (by decide)) (by decide) (by decide)
          have b_193 : 0 ≤ (G_187.1 66 2).toInt ∧ (G_187.1 66 2).toInt ≤ 4 := hB_G_187.i 66 2 rfl rfl
          exact hJ_39 () _ _ _ ⟨G_187, (by omega), (by omega), hW, hB_G_187, hF, ((Fr.rf.put eG_180 (Or.inr (by decide))).call hq_188 (by decide) (by decide)), hS, lv_sub hl [0] rfl⟩
      refine lv_if_eq (tgt := 76) hx hb dX12_readLine_57 (by decide) (fun c_194 => ?_) (fun c_194 => ?_)
      · have c_194 : r_21.toInt = 0 := xI_eq rfl rfl c_194
        exact hJ_28 () _ _ _ ⟨G_22, hW, hB_G_22, hF, Fr.rf, hS, lv_sub hl [0] rfl⟩
      · have c_194 : r_21.toInt ≠ 0 := xI_ne rfl rfl c_194
        refine lv_aload_n hx hb dX12_readLine_60 rfl (lv_at hl 0 rfl) ?_
        have b_195 : 0 ≤ (G.1 66 47).toInt ∧ (G.1 66 47).toInt ≤ 6 := hB_G.i 66 47 rfl rfl
        refine S_getI (v := (G.1 66 47)) (C := RX12) (T := TX12) (N := 89) hx hb hg iX12 hown hK hW kd_66 rfl 47 (by decide) (hg (Cond.fieldLink RX12 385 "SlabWalkModel" "nRules" "I") m1361) (fun _ h9 => h9) rfl ((hq_23.i 66 47 (by decide) (by decide)).trans ((hq_19.i 66 47 (by decide) (by decide)).trans ((hq_13.i 66 47 (by decide) (by decide)).trans ((hq_9.i 66 47 (by decide) (by decide)).trans (hq_3.i 66 47 (by decide) (by decide)))))) dX12_readLine_61 ?_
        refine lv_bipush (v := 6) hx hb dX12_readLine_64 (by decide) ?_
        refine lv_icmp_ge (tgt := 76) hx hb dX12_readLine_66 (by decide) (fun c_196 => ?_) (fun c_196 => ?_)
        · have c_196 : 6 ≤ (G.1 66 47).toInt := xI_le rfl rfl c_196
          exact hJ_28 () _ _ _ ⟨G_22, hW, hB_G_22, hF, Fr.rf, hS, lv_sub hl [0] rfl⟩
        · have c_196 : (G.1 66 47).toInt < 6 := xI_nle rfl rfl c_196
          refine lv_aload_n hx hb dX12_readLine_69 rfl (lv_at hl 0 rfl) ?_
          have b_197 : 0 ≤ (G.1 66 2).toInt ∧ (G.1 66 2).toInt ≤ 4 := hB_G.i 66 2 rfl rfl
          have g_198 : (G_22.1 66 2).toInt = (G.1 66 2).toInt := by rw [show G_22.1 66 2 = (G.1 66 2) from ((hq_23.i 66 2 (by decide) (by decide)).trans ((hq_19.i 66 2 (by decide) (by decide)).trans ((hq_13.i 66 2 (by decide) (by decide)).trans ((hq_9.i 66 2 (by decide) (by decide)).trans (hq_3.i 66 2 (by decide) (by decide))))))]
          have g_199 : (G_22.1 66 47).toInt = (G.1 66 47).toInt := by rw [show G_22.1 66 47 = (G.1 66 47) from ((hq_23.i 66 47 (by decide) (by decide)).trans ((hq_19.i 66 47 (by decide) (by decide)).trans ((hq_13.i 66 47 (by decide) (by decide)).trans ((hq_9.i 66 47 (by decide) (by decide)).trans ((hq_3.i 66 47 (by decide) (by decide)).trans (rfl))))))]
          have g_200 : gE G_22 = gE G := gE_fr (rs := []) (fs := []) (((((Fr.rf.call hq_3 (by decide) (by decide)).call hq_9 (by decide) (by decide)).call hq_13 (by decide) (by decide)).call hq_19 (by decide) (by decide)).call hq_23 (by decide) (by decide)) (by decide) (by decide)
          have b_201 : 0 ≤ (G.1 66 4).toInt ∧ (G.1 66 4).toInt ≤ 1600 := hB_G.i 66 4 rfl rfl
          have g_202 : (G_22.1 66 4).toInt = (G.1 66 4).toInt := by rw [show G_22.1 66 4 = (G.1 66 4) from ((hq_23.i 66 4 (by decide) (by decide)).trans ((hq_19.i 66 4 (by decide) (by decide)).trans ((hq_13.i 66 4 (by decide) (by decide)).trans ((hq_9.i 66 4 (by decide) (by decide)).trans (hq_3.i 66 4 (by decide) (by decide))))))]
          have g_203 : (G_22.1 66 6).toInt = (G.1 66 6).toInt := by rw [show G_22.1 66 6 = (G.1 66 6) from ((hq_23.i 66 6 (by decide) (by decide)).trans ((hq_19.i 66 6 (by decide) (by decide)).trans ((hq_13.i 66 6 (by decide) (by decide)).trans ((hq_9.i 66 6 (by decide) (by decide)).trans ((hq_3.i 66 6 (by decide) (by decide)).trans (rfl))))))]
          refine S_callv (va_runV (As := []) (rest := []) ⟨hx, hb, hml, hown, hts⟩ (n_readRule l D k A a z G_22  (by omega) (by omega) (by omega)) (cwV 0 hts (gd_V hgd m1706 m1708 m68 m131 m1709) rfl rfl rfl (by decide +kernel) ⟨Nat.le_of_ble_eq_true rfl, Nat.le_of_ble_eq_true rfl⟩) (pre_V hW hB_G_22 hK hZ hS kd_66 rfl) rfl rfl hl.1 rfl (lv_room (Nat.le_of_ble_eq_true rfl)) dX12_readLine_70 ⟨Nat.le_of_ble_eq_true rfl, Nat.le_of_ble_eq_true rfl⟩) hS (fun G_205 H locs hpo hW hS => ?_)
          obtain ⟨hB_G_205, hq_206, hp_207⟩ := hpo
          have hF := hF.call hq_206 (by decide) (by decide)
          refine lv_goto (tgt := 200) hx hb dX12_readLine_73 (by decide) ?_
          refine lv_aload_n hx hb dX12_readLine_200 rfl (lv_at hl 0 rfl) ?_
          have b_208 : 0 ≤ (G_205.1 66 2).toInt ∧ (G_205.1 66 2).toInt ≤ 4 := hB_G_205.i 66 2 rfl rfl
          refine S_getI (v := (G_205.1 66 2)) (C := RX12) (T := TX12) (N := 89) hx hb hg iX12 hown hK hW kd_66 rfl 2 (by decide) (hg (Cond.fieldLink RX12 218 "SlabWalkModel" "fault" "I") m1316) (fun _ h9 => h9) rfl rfl dX12_readLine_201 ?_
          refine lv_if_ne (tgt := 221) hx hb dX12_readLine_204 (by decide) (fun c_209 => ?_) (fun c_209 => ?_)
          · have c_209 : (G_205.1 66 2).toInt ≠ 0 := xI_ne rfl rfl c_209
            refine lv_aload_n hx hb dX12_readLine_221 rfl (lv_at hl 0 rfl) ?_
            refine S_getI (v := (G_205.1 66 2)) (C := RX12) (T := TX12) (N := 89) hx hb hg iX12 hown hK hW kd_66 rfl 2 (by decide) (hg (Cond.fieldLink RX12 218 "SlabWalkModel" "fault" "I") m1316) (fun _ h9 => h9) rfl rfl dX12_readLine_222 ?_
            refine lv_if_ne (tgt := 232) hx hb dX12_readLine_225 (by decide) (fun c_210 => ?_) (fun c_210 => ?_)
            · have c_210 : (G_205.1 66 2).toInt ≠ 0 := xI_ne rfl rfl c_210
              have g_211 : gN G_205 = gN G := gN_fr (rs := [68, 69, 70, 71, 75]) (fs := [(66, 2), (66, 3), (66, 4), (66, 6), (66, 7), (66, 8), (66, 9), (66, 19), (66, 20), (66, 21), (66, 23), (66, 24), (66, 47)]) ((((((Fr.rf.call hq_3 (by decide) (by decide)).call hq_9 (by decide) (by decide)).call hq_13 (by decide) (by decide)).call hq_19 (by decide) (by decide)).call hq_23 (by decide) (by decide)).call hq_206 (by decide) (by decide)) (by decide) (by decide)
              have b_212 : 0 ≤ (G_205.1 66 4).toInt ∧ (G_205.1 66 4).toInt ≤ 1600 := hB_G_205.i 66 4 rfl rfl
              have g_213 : (G_205.1 86 0).toInt = (G.1 86 0).toInt := by rw [show G_205.1 86 0 = (G.1 86 0) from ((hq_206.i 86 0 (by decide) (by decide)).trans ((hq_23.i 86 0 (by decide) (by decide)).trans ((hq_19.i 86 0 (by decide) (by decide)).trans ((hq_13.i 86 0 (by decide) (by decide)).trans ((hq_9.i 86 0 (by decide) (by decide)).trans (hq_3.i 86 0 (by decide) (by decide)))))))]
              have g_214 : (G_205.1 86 1).toInt = (G.1 86 1).toInt := by rw [show G_205.1 86 1 = (G.1 86 1) from ((hq_206.i 86 1 (by decide) (by decide)).trans ((hq_23.i 86 1 (by decide) (by decide)).trans ((hq_19.i 86 1 (by decide) (by decide)).trans ((hq_13.i 86 1 (by decide) (by decide)).trans ((hq_9.i 86 1 (by decide) (by decide)).trans (hq_3.i 86 1 (by decide) (by decide)))))))]
              have g_215 : (G_205.1 86 2).toInt = (G.1 86 2).toInt := by rw [show G_205.1 86 2 = (G.1 86 2) from ((hq_206.i 86 2 (by decide) (by decide)).trans ((hq_23.i 86 2 (by decide) (by decide)).trans ((hq_19.i 86 2 (by decide) (by decide)).trans ((hq_13.i 86 2 (by decide) (by decide)).trans ((hq_9.i 86 2 (by decide) (by decide)).trans (hq_3.i 86 2 (by decide) (by decide)))))))]
              exact W.vret hx hb hr (fun t ht _ => ⟨⟨G_205, rfl, ⟨hB_G_205, hF, (by omega)⟩, wd_t ht hW⟩, hS.F ht⟩) hS.2.2 dX12_readLine_232
            · have c_210 : (G_205.1 66 2).toInt = 0 := xI_eq rfl rfl c_210
              exfalso; omega
          · have c_209 : (G_205.1 66 2).toInt = 0 := xI_eq rfl rfl c_209
            refine lv_aload_n hx hb dX12_readLine_207 rfl (lv_at hl 0 rfl) ?_
            refine S_getI (v := (G_205.1 66 6)) (C := RX12) (T := TX12) (N := 89) hx hb hg iX12 hown hK hW kd_66 rfl 6 (by decide) (hg (Cond.fieldLink RX12 205 "SlabWalkModel" "sort" "I") m1320) (fun _ h9 => h9) rfl rfl dX12_readLine_208 ?_
            refine lv_bipush (v := 59) hx hb dX12_readLine_211 (by decide) ?_
            refine lv_icmp_eq (tgt := 221) hx hb dX12_readLine_213 (by decide) (fun c_216 => ?_) (fun c_216 => ?_)
            · have c_216 : (G_205.1 66 6).toInt = 59 := xI_eq rfl rfl c_216
              refine lv_aload_n hx hb dX12_readLine_221 rfl (lv_at hl 0 rfl) ?_
              refine S_getI (v := (G_205.1 66 2)) (C := RX12) (T := TX12) (N := 89) hx hb hg iX12 hown hK hW kd_66 rfl 2 (by decide) (hg (Cond.fieldLink RX12 218 "SlabWalkModel" "fault" "I") m1316) (fun _ h9 => h9) rfl rfl dX12_readLine_222 ?_
              refine lv_if_ne (tgt := 232) hx hb dX12_readLine_225 (by decide) (fun c_217 => ?_) (fun c_217 => ?_)
              · have c_217 : (G_205.1 66 2).toInt ≠ 0 := xI_ne rfl rfl c_217
                exfalso; omega
              · have c_217 : (G_205.1 66 2).toInt = 0 := xI_eq rfl rfl c_217
                refine lv_aload_n hx hb dX12_readLine_228 rfl (lv_at hl 0 rfl) ?_
                have b_218 : 0 ≤ (G_205.1 66 4).toInt ∧ (G_205.1 66 4).toInt ≤ 1600 := hB_G_205.i 66 4 rfl rfl
                refine S_callv (va_runV (As := []) (rest := []) ⟨hx, hb, hml, hown, hts⟩ (n_token l D k A a z G_205  ) (cwV 0 hts (gd_V hgd m1602 m1604 m50 m131 m1605) rfl rfl rfl (by decide +kernel) ⟨Nat.le_of_ble_eq_true rfl, Nat.le_of_ble_eq_true rfl⟩) (pre_V hW hB_G_205 hK hZ hS kd_66 rfl) rfl rfl hl.1 rfl (lv_room (Nat.le_of_ble_eq_true rfl)) dX12_readLine_229 ⟨Nat.le_of_ble_eq_true rfl, Nat.le_of_ble_eq_true rfl⟩) hS (fun G_220 H locs hpo hW hS => ?_)
                obtain ⟨hB_G_220, hq_221, hp_222⟩ := hpo
                have hF := hF.call hq_221 (by decide) (by decide)
                have g_223 : gE G_220 = gE G_205 := gE_fr (rs := []) (fs := [(66, 4), (66, 6), (66, 7), (66, 8), (66, 9)]) (Fr.rf.call hq_221 (by decide) (by decide)) (by decide) (by decide)
                have g_224 : gN G_220 = gN G := gN_fr (rs := [68, 69, 70, 71, 75]) (fs := [(66, 2), (66, 3), (66, 4), (66, 6), (66, 7), (66, 8), (66, 9), (66, 19), (66, 20), (66, 21), (66, 23), (66, 24), (66, 47)]) (((((((Fr.rf.call hq_3 (by decide) (by decide)).call hq_9 (by decide) (by decide)).call hq_13 (by decide) (by decide)).call hq_19 (by decide) (by decide)).call hq_23 (by decide) (by decide)).call hq_206 (by decide) (by decide)).call hq_221 (by decide) (by decide)) (by decide) (by decide)
                have g_225 : (G_220.1 66 2).toInt = (G_205.1 66 2).toInt := by rw [show G_220.1 66 2 = (G_205.1 66 2) from ((hq_221.i 66 2 (by decide) (by decide)).trans (rfl))]
                have b_226 : 0 ≤ (G_220.1 66 4).toInt ∧ (G_220.1 66 4).toInt ≤ 1600 := hB_G_220.i 66 4 rfl rfl
                have g_227 : (G_220.1 86 0).toInt = (G.1 86 0).toInt := by rw [show G_220.1 86 0 = (G.1 86 0) from ((hq_221.i 86 0 (by decide) (by decide)).trans ((hq_206.i 86 0 (by decide) (by decide)).trans ((hq_23.i 86 0 (by decide) (by decide)).trans ((hq_19.i 86 0 (by decide) (by decide)).trans ((hq_13.i 86 0 (by decide) (by decide)).trans ((hq_9.i 86 0 (by decide) (by decide)).trans (hq_3.i 86 0 (by decide) (by decide))))))))]
                have g_228 : (G_220.1 86 1).toInt = (G.1 86 1).toInt := by rw [show G_220.1 86 1 = (G.1 86 1) from ((hq_221.i 86 1 (by decide) (by decide)).trans ((hq_206.i 86 1 (by decide) (by decide)).trans ((hq_23.i 86 1 (by decide) (by decide)).trans ((hq_19.i 86 1 (by decide) (by decide)).trans ((hq_13.i 86 1 (by decide) (by decide)).trans ((hq_9.i 86 1 (by decide) (by decide)).trans (hq_3.i 86 1 (by decide) (by decide))))))))]
                have g_229 : (G_220.1 86 2).toInt = (G.1 86 2).toInt := by rw [show G_220.1 86 2 = (G.1 86 2) from ((hq_221.i 86 2 (by decide) (by decide)).trans ((hq_206.i 86 2 (by decide) (by decide)).trans ((hq_23.i 86 2 (by decide) (by decide)).trans ((hq_19.i 86 2 (by decide) (by decide)).trans ((hq_13.i 86 2 (by decide) (by decide)).trans ((hq_9.i 86 2 (by decide) (by decide)).trans (hq_3.i 86 2 (by decide) (by decide))))))))]
                exact W.vret hx hb hr (fun t ht _ => ⟨⟨G_220, rfl, ⟨hB_G_220, hF, (by omega)⟩, wd_t ht hW⟩, hS.F ht⟩) hS.2.2 dX12_readLine_232
            · have c_216 : (G_205.1 66 6).toInt ≠ 59 := xI_ne rfl rfl c_216
              refine lv_aload_n hx hb dX12_readLine_216 rfl (lv_at hl 0 rfl) ?_
              refine lv_iconst (v := 2) hx hb dX12_readLine_217 (by decide) ?_
              have qc_230 : (2 : Int32).toInt = 2 := rfl
              refine S_callv (va_runV (As := [.int 2]) (rest := []) ⟨hx, hb, hml, hown, hts⟩ (n_wrong l D k A a z G_205 2 ⟨by decide, by decide⟩) (cwV 1 hts (gd_V hgd m1670 m1672 m59 m131 m1673) rfl rfl rfl (by decide +kernel) ⟨Nat.le_of_ble_eq_true rfl, Nat.le_of_ble_eq_true rfl⟩) (pre_V hW hB_G_205 hK hZ hS kd_66 rfl) rfl rfl hl.1 rfl (lv_room (Nat.le_of_ble_eq_true rfl)) dX12_readLine_218 ⟨Nat.le_of_ble_eq_true rfl, Nat.le_of_ble_eq_true rfl⟩) hS (fun G_232 H locs hpo hW hS => ?_)
              obtain ⟨hB_G_232, hq_233, hp_234⟩ := hpo
              have hF := hF.call hq_233 (by decide) (by decide)
              refine lv_aload_n hx hb dX12_readLine_221 rfl (lv_at hl 0 rfl) ?_
              have b_235 : 0 ≤ (G_232.1 66 2).toInt ∧ (G_232.1 66 2).toInt ≤ 4 := hB_G_232.i 66 2 rfl rfl
              refine S_getI (v := (G_232.1 66 2)) (C := RX12) (T := TX12) (N := 89) hx hb hg iX12 hown hK hW kd_66 rfl 2 (by decide) (hg (Cond.fieldLink RX12 218 "SlabWalkModel" "fault" "I") m1316) (fun _ h9 => h9) rfl rfl dX12_readLine_222 ?_
              refine lv_if_ne (tgt := 232) hx hb dX12_readLine_225 (by decide) (fun c_236 => ?_) (fun c_236 => ?_)
              · have c_236 : (G_232.1 66 2).toInt ≠ 0 := xI_ne rfl rfl c_236
                have g_237 : gE G_232 = gE G_205 := gE_fr (rs := []) (fs := [(66, 2), (66, 3)]) (Fr.rf.call hq_233 (by decide) (by decide)) (by decide) (by decide)
                have g_238 : gN G_232 = gN G := gN_fr (rs := [68, 69, 70, 71, 75]) (fs := [(66, 2), (66, 3), (66, 4), (66, 6), (66, 7), (66, 8), (66, 9), (66, 19), (66, 20), (66, 21), (66, 23), (66, 24), (66, 47)]) (((((((Fr.rf.call hq_3 (by decide) (by decide)).call hq_9 (by decide) (by decide)).call hq_13 (by decide) (by decide)).call hq_19 (by decide) (by decide)).call hq_23 (by decide) (by decide)).call hq_206 (by decide) (by decide)).call hq_233 (by decide) (by decide)) (by decide) (by decide)
                have b_239 : 0 ≤ (G_205.1 66 4).toInt ∧ (G_205.1 66 4).toInt ≤ 1600 := hB_G_205.i 66 4 rfl rfl
                have g_240 : (G_232.1 66 4).toInt = (G_205.1 66 4).toInt := by rw [show G_232.1 66 4 = (G_205.1 66 4) from (hq_233.i 66 4 (by decide) (by decide))]
                have g_241 : (G_232.1 86 0).toInt = (G.1 86 0).toInt := by rw [show G_232.1 86 0 = (G.1 86 0) from ((hq_233.i 86 0 (by decide) (by decide)).trans ((hq_206.i 86 0 (by decide) (by decide)).trans ((hq_23.i 86 0 (by decide) (by decide)).trans ((hq_19.i 86 0 (by decide) (by decide)).trans ((hq_13.i 86 0 (by decide) (by decide)).trans ((hq_9.i 86 0 (by decide) (by decide)).trans (hq_3.i 86 0 (by decide) (by decide))))))))]
                have g_242 : (G_232.1 86 1).toInt = (G.1 86 1).toInt := by rw [show G_232.1 86 1 = (G.1 86 1) from ((hq_233.i 86 1 (by decide) (by decide)).trans ((hq_206.i 86 1 (by decide) (by decide)).trans ((hq_23.i 86 1 (by decide) (by decide)).trans ((hq_19.i 86 1 (by decide) (by decide)).trans ((hq_13.i 86 1 (by decide) (by decide)).trans ((hq_9.i 86 1 (by decide) (by decide)).trans (hq_3.i 86 1 (by decide) (by decide))))))))]
                have g_243 : (G_232.1 86 2).toInt = (G.1 86 2).toInt := by rw [show G_232.1 86 2 = (G.1 86 2) from ((hq_233.i 86 2 (by decide) (by decide)).trans ((hq_206.i 86 2 (by decide) (by decide)).trans ((hq_23.i 86 2 (by decide) (by decide)).trans ((hq_19.i 86 2 (by decide) (by decide)).trans ((hq_13.i 86 2 (by decide) (by decide)).trans ((hq_9.i 86 2 (by decide) (by decide)).trans (hq_3.i 86 2 (by decide) (by decide))))))))]
                exact W.vret hx hb hr (fun t ht _ => ⟨⟨G_232, rfl, ⟨hB_G_232, hF, (by omega)⟩, wd_t ht hW⟩, hS.F ht⟩) hS.2.2 dX12_readLine_232
              · have c_236 : (G_232.1 66 2).toInt = 0 := xI_eq rfl rfl c_236
                refine lv_aload_n hx hb dX12_readLine_228 rfl (lv_at hl 0 rfl) ?_
                have b_244 : 0 ≤ (G_205.1 66 4).toInt ∧ (G_205.1 66 4).toInt ≤ 1600 := hB_G_205.i 66 4 rfl rfl
                have g_245 : (G_232.1 66 4).toInt = (G_205.1 66 4).toInt := by rw [show G_232.1 66 4 = (G_205.1 66 4) from (hq_233.i 66 4 (by decide) (by decide))]
                have g_246 : (G_232.1 66 6).toInt = (G_205.1 66 6).toInt := by rw [show G_232.1 66 6 = (G_205.1 66 6) from ((hq_233.i 66 6 (by decide) (by decide)).trans (rfl))]
                refine S_callv (va_runV (As := []) (rest := []) ⟨hx, hb, hml, hown, hts⟩ (n_token l D k A a z G_232  ) (cwV 0 hts (gd_V hgd m1602 m1604 m50 m131 m1605) rfl rfl rfl (by decide +kernel) ⟨Nat.le_of_ble_eq_true rfl, Nat.le_of_ble_eq_true rfl⟩) (pre_V hW hB_G_232 hK hZ hS kd_66 rfl) rfl rfl hl.1 rfl (lv_room (Nat.le_of_ble_eq_true rfl)) dX12_readLine_229 ⟨Nat.le_of_ble_eq_true rfl, Nat.le_of_ble_eq_true rfl⟩) hS (fun G_248 H locs hpo hW hS => ?_)
                obtain ⟨hB_G_248, hq_249, hp_250⟩ := hpo
                have hF := hF.call hq_249 (by decide) (by decide)
                have g_251 : gE G_248 = gE G_205 := gE_fr (rs := []) (fs := [(66, 2), (66, 3), (66, 4), (66, 6), (66, 7), (66, 8), (66, 9)]) ((Fr.rf.call hq_233 (by decide) (by decide)).call hq_249 (by decide) (by decide)) (by decide) (by decide)
                have g_252 : gN G_248 = gN G := gN_fr (rs := [68, 69, 70, 71, 75]) (fs := [(66, 2), (66, 3), (66, 4), (66, 6), (66, 7), (66, 8), (66, 9), (66, 19), (66, 20), (66, 21), (66, 23), (66, 24), (66, 47)]) ((((((((Fr.rf.call hq_3 (by decide) (by decide)).call hq_9 (by decide) (by decide)).call hq_13 (by decide) (by decide)).call hq_19 (by decide) (by decide)).call hq_23 (by decide) (by decide)).call hq_206 (by decide) (by decide)).call hq_233 (by decide) (by decide)).call hq_249 (by decide) (by decide)) (by decide) (by decide)
                have g_253 : (G_248.1 66 2).toInt = (G_232.1 66 2).toInt := by rw [show G_248.1 66 2 = (G_232.1 66 2) from ((hq_249.i 66 2 (by decide) (by decide)).trans (rfl))]
                have b_254 : 0 ≤ (G_248.1 66 4).toInt ∧ (G_248.1 66 4).toInt ≤ 1600 := hB_G_248.i 66 4 rfl rfl
                have g_255 : (G_248.1 86 0).toInt = (G.1 86 0).toInt := by rw [show G_248.1 86 0 = (G.1 86 0) from ((hq_249.i 86 0 (by decide) (by decide)).trans ((hq_233.i 86 0 (by decide) (by decide)).trans ((hq_206.i 86 0 (by decide) (by decide)).trans ((hq_23.i 86 0 (by decide) (by decide)).trans ((hq_19.i 86 0 (by decide) (by decide)).trans ((hq_13.i 86 0 (by decide) (by decide)).trans ((hq_9.i 86 0 (by decide) (by decide)).trans (hq_3.i 86 0 (by decide) (by decide)))))))))]
                have g_256 : (G_248.1 86 1).toInt = (G.1 86 1).toInt := by rw [show G_248.1 86 1 = (G.1 86 1) from ((hq_249.i 86 1 (by decide) (by decide)).trans ((hq_233.i 86 1 (by decide) (by decide)).trans ((hq_206.i 86 1 (by decide) (by decide)).trans ((hq_23.i 86 1 (by decide) (by decide)).trans ((hq_19.i 86 1 (by decide) (by decide)).trans ((hq_13.i 86 1 (by decide) (by decide)).trans ((hq_9.i 86 1 (by decide) (by decide)).trans (hq_3.i 86 1 (by decide) (by decide)))))))))]
                have g_257 : (G_248.1 86 2).toInt = (G.1 86 2).toInt := by rw [show G_248.1 86 2 = (G.1 86 2) from ((hq_249.i 86 2 (by decide) (by decide)).trans ((hq_233.i 86 2 (by decide) (by decide)).trans ((hq_206.i 86 2 (by decide) (by decide)).trans ((hq_23.i 86 2 (by decide) (by decide)).trans ((hq_19.i 86 2 (by decide) (by decide)).trans ((hq_13.i 86 2 (by decide) (by decide)).trans ((hq_9.i 86 2 (by decide) (by decide)).trans (hq_3.i 86 2 (by decide) (by decide)))))))))]
                exact W.vret hx hb hr (fun t ht _ => ⟨⟨G_248, rfl, ⟨hB_G_248, hF, (by omega)⟩, wd_t ht hW⟩, hS.F ht⟩) hS.2.2 dX12_readLine_232
    refine lv_if_eq (tgt := 50) hx hb dX12_readLine_32 (by decide) (fun c_258 => ?_) (fun c_258 => ?_)
    · have c_258 : r_11.toInt = 0 := xI_eq rfl rfl c_258
      exact hJ_18 () _ _ _ ⟨G_12, hW, hB_G_12, hF, Fr.rf, hS, lv_sub hl [0] rfl⟩
    · have c_258 : r_11.toInt ≠ 0 := xI_ne rfl rfl c_258
      refine lv_aload_n hx hb dX12_readLine_35 rfl (lv_at hl 0 rfl) ?_
      have b_259 : 0 ≤ (G.1 66 46).toInt ∧ (G.1 66 46).toInt ≤ 4 := hB_G.i 66 46 rfl rfl
      refine S_getI (v := (G.1 66 46)) (C := RX12) (T := TX12) (N := 89) hx hb hg iX12 hown hK hW kd_66 rfl 46 (by decide) (hg (Cond.fieldLink RX12 379 "SlabWalkModel" "nWalkers" "I") m1360) (fun _ h9 => h9) rfl ((hq_13.i 66 46 (by decide) (by decide)).trans ((hq_9.i 66 46 (by decide) (by decide)).trans (hq_3.i 66 46 (by decide) (by decide)))) dX12_readLine_36 ?_
      refine lv_iconst (v := 4) hx hb dX12_readLine_39 (by decide) ?_
      refine lv_icmp_ge (tgt := 50) hx hb dX12_readLine_40 (by decide) (fun c_260 => ?_) (fun c_260 => ?_)
      · have c_260 : 4 ≤ (G.1 66 46).toInt := xI_le rfl rfl c_260
        exact hJ_18 () _ _ _ ⟨G_12, hW, hB_G_12, hF, Fr.rf, hS, lv_sub hl [0] rfl⟩
      · have c_260 : (G.1 66 46).toInt < 4 := xI_nle rfl rfl c_260
        refine lv_aload_n hx hb dX12_readLine_43 rfl (lv_at hl 0 rfl) ?_
        have b_261 : 0 ≤ (G.1 66 2).toInt ∧ (G.1 66 2).toInt ≤ 4 := hB_G.i 66 2 rfl rfl
        have g_262 : (G_12.1 66 2).toInt = (G.1 66 2).toInt := by rw [show G_12.1 66 2 = (G.1 66 2) from ((hq_13.i 66 2 (by decide) (by decide)).trans ((hq_9.i 66 2 (by decide) (by decide)).trans (hq_3.i 66 2 (by decide) (by decide))))]
        have g_263 : (G_12.1 66 46).toInt = (G.1 66 46).toInt := by rw [show G_12.1 66 46 = (G.1 66 46) from ((hq_13.i 66 46 (by decide) (by decide)).trans ((hq_9.i 66 46 (by decide) (by decide)).trans ((hq_3.i 66 46 (by decide) (by decide)).trans (rfl))))]
        have g_264 : gN G_12 = gN G := gN_fr (rs := []) (fs := []) (((Fr.rf.call hq_3 (by decide) (by decide)).call hq_9 (by decide) (by decide)).call hq_13 (by decide) (by decide)) (by decide) (by decide)
        have b_265 : 0 ≤ (G.1 66 4).toInt ∧ (G.1 66 4).toInt ≤ 1600 := hB_G.i 66 4 rfl rfl
        have g_266 : (G_12.1 66 4).toInt = (G.1 66 4).toInt := by rw [show G_12.1 66 4 = (G.1 66 4) from ((hq_13.i 66 4 (by decide) (by decide)).trans ((hq_9.i 66 4 (by decide) (by decide)).trans (hq_3.i 66 4 (by decide) (by decide))))]
        have g_267 : (G_12.1 66 6).toInt = (G.1 66 6).toInt := by rw [show G_12.1 66 6 = (G.1 66 6) from ((hq_13.i 66 6 (by decide) (by decide)).trans ((hq_9.i 66 6 (by decide) (by decide)).trans ((hq_3.i 66 6 (by decide) (by decide)).trans (rfl))))]
        refine S_callv (va_runV (As := []) (rest := []) ⟨hx, hb, hml, hown, hts⟩ (n_readWalker l D k A a z G_12  (by omega) (by omega) (by omega)) (cwV 0 hts (gd_V hgd m1698 m1700 m66 m131 m1701) rfl rfl rfl (by decide +kernel) ⟨Nat.le_of_ble_eq_true rfl, Nat.le_of_ble_eq_true rfl⟩) (pre_V hW hB_G_12 hK hZ hS kd_66 rfl) rfl rfl hl.1 rfl (lv_room (Nat.le_of_ble_eq_true rfl)) dX12_readLine_44 ⟨Nat.le_of_ble_eq_true rfl, Nat.le_of_ble_eq_true rfl⟩) hS (fun G_269 H locs hpo hW hS => ?_)
        obtain ⟨hB_G_269, hq_270, hp_271⟩ := hpo
        have hF := hF.call hq_270 (by decide) (by decide)
        refine lv_goto (tgt := 200) hx hb dX12_readLine_47 (by decide) ?_
        refine lv_aload_n hx hb dX12_readLine_200 rfl (lv_at hl 0 rfl) ?_
        have b_272 : 0 ≤ (G_269.1 66 2).toInt ∧ (G_269.1 66 2).toInt ≤ 4 := hB_G_269.i 66 2 rfl rfl
        refine S_getI (v := (G_269.1 66 2)) (C := RX12) (T := TX12) (N := 89) hx hb hg iX12 hown hK hW kd_66 rfl 2 (by decide) (hg (Cond.fieldLink RX12 218 "SlabWalkModel" "fault" "I") m1316) (fun _ h9 => h9) rfl rfl dX12_readLine_201 ?_
        refine lv_if_ne (tgt := 221) hx hb dX12_readLine_204 (by decide) (fun c_273 => ?_) (fun c_273 => ?_)
        · have c_273 : (G_269.1 66 2).toInt ≠ 0 := xI_ne rfl rfl c_273
          refine lv_aload_n hx hb dX12_readLine_221 rfl (lv_at hl 0 rfl) ?_
          refine S_getI (v := (G_269.1 66 2)) (C := RX12) (T := TX12) (N := 89) hx hb hg iX12 hown hK hW kd_66 rfl 2 (by decide) (hg (Cond.fieldLink RX12 218 "SlabWalkModel" "fault" "I") m1316) (fun _ h9 => h9) rfl rfl dX12_readLine_222 ?_
          refine lv_if_ne (tgt := 232) hx hb dX12_readLine_225 (by decide) (fun c_274 => ?_) (fun c_274 => ?_)
          · have c_274 : (G_269.1 66 2).toInt ≠ 0 := xI_ne rfl rfl c_274
            have g_275 : gE G_269 = gE G := gE_fr (rs := [68, 82, 83, 84, 85]) (fs := [(66, 2), (66, 3), (66, 4), (66, 6), (66, 7), (66, 8), (66, 9), (66, 46)]) ((((Fr.rf.call hq_3 (by decide) (by decide)).call hq_9 (by decide) (by decide)).call hq_13 (by decide) (by decide)).call hq_270 (by decide) (by decide)) (by decide) (by decide)
            have b_276 : 0 ≤ (G_269.1 66 4).toInt ∧ (G_269.1 66 4).toInt ≤ 1600 := hB_G_269.i 66 4 rfl rfl
            have g_277 : (G_269.1 86 0).toInt = (G.1 86 0).toInt := by rw [show G_269.1 86 0 = (G.1 86 0) from ((hq_270.i 86 0 (by decide) (by decide)).trans ((hq_13.i 86 0 (by decide) (by decide)).trans ((hq_9.i 86 0 (by decide) (by decide)).trans (hq_3.i 86 0 (by decide) (by decide)))))]
            have g_278 : (G_269.1 86 1).toInt = (G.1 86 1).toInt := by rw [show G_269.1 86 1 = (G.1 86 1) from ((hq_270.i 86 1 (by decide) (by decide)).trans ((hq_13.i 86 1 (by decide) (by decide)).trans ((hq_9.i 86 1 (by decide) (by decide)).trans (hq_3.i 86 1 (by decide) (by decide)))))]
            have g_279 : (G_269.1 86 2).toInt = (G.1 86 2).toInt := by rw [show G_269.1 86 2 = (G.1 86 2) from ((hq_270.i 86 2 (by decide) (by decide)).trans ((hq_13.i 86 2 (by decide) (by decide)).trans ((hq_9.i 86 2 (by decide) (by decide)).trans (hq_3.i 86 2 (by decide) (by decide)))))]
            exact W.vret hx hb hr (fun t ht _ => ⟨⟨G_269, rfl, ⟨hB_G_269, hF, (by omega)⟩, wd_t ht hW⟩, hS.F ht⟩) hS.2.2 dX12_readLine_232
          · have c_274 : (G_269.1 66 2).toInt = 0 := xI_eq rfl rfl c_274
            exfalso; omega
        · have c_273 : (G_269.1 66 2).toInt = 0 := xI_eq rfl rfl c_273
          refine lv_aload_n hx hb dX12_readLine_207 rfl (lv_at hl 0 rfl) ?_
          refine S_getI (v := (G_269.1 66 6)) (C := RX12) (T := TX12) (N := 89) hx hb hg iX12 hown hK hW kd_66 rfl 6 (by decide) (hg (Cond.fieldLink RX12 205 "SlabWalkModel" "sort" "I") m1320) (fun _ h9 => h9) rfl rfl dX12_readLine_208 ?_
          refine lv_bipush (v := 59) hx hb dX12_readLine_211 (by decide) ?_
          refine lv_icmp_eq (tgt := 221) hx hb dX12_readLine_213 (by decide) (fun c_280 => ?_) (fun c_280 => ?_)
          · have c_280 : (G_269.1 66 6).toInt = 59 := xI_eq rfl rfl c_280
            refine lv_aload_n hx hb dX12_readLine_221 rfl (lv_at hl 0 rfl) ?_
            refine S_getI (v := (G_269.1 66 2)) (C := RX12) (T := TX12) (N := 89) hx hb hg iX12 hown hK hW kd_66 rfl 2 (by decide) (hg (Cond.fieldLink RX12 218 "SlabWalkModel" "fault" "I") m1316) (fun _ h9 => h9) rfl rfl dX12_readLine_222 ?_
            refine lv_if_ne (tgt := 232) hx hb dX12_readLine_225 (by decide) (fun c_281 => ?_) (fun c_281 => ?_)
            · have c_281 : (G_269.1 66 2).toInt ≠ 0 := xI_ne rfl rfl c_281
              exfalso; omega
            · have c_281 : (G_269.1 66 2).toInt = 0 := xI_eq rfl rfl c_281
              refine lv_aload_n hx hb dX12_readLine_228 rfl (lv_at hl 0 rfl) ?_
              have b_282 : 0 ≤ (G_269.1 66 4).toInt ∧ (G_269.1 66 4).toInt ≤ 1600 := hB_G_269.i 66 4 rfl rfl
              refine S_callv (va_runV (As := []) (rest := []) ⟨hx, hb, hml, hown, hts⟩ (n_token l D k A a z G_269  ) (cwV 0 hts (gd_V hgd m1602 m1604 m50 m131 m1605) rfl rfl rfl (by decide +kernel) ⟨Nat.le_of_ble_eq_true rfl, Nat.le_of_ble_eq_true rfl⟩) (pre_V hW hB_G_269 hK hZ hS kd_66 rfl) rfl rfl hl.1 rfl (lv_room (Nat.le_of_ble_eq_true rfl)) dX12_readLine_229 ⟨Nat.le_of_ble_eq_true rfl, Nat.le_of_ble_eq_true rfl⟩) hS (fun G_284 H locs hpo hW hS => ?_)
              obtain ⟨hB_G_284, hq_285, hp_286⟩ := hpo
              have hF := hF.call hq_285 (by decide) (by decide)
              have g_287 : gE G_284 = gE G := gE_fr (rs := [68, 82, 83, 84, 85]) (fs := [(66, 2), (66, 3), (66, 4), (66, 6), (66, 7), (66, 8), (66, 9), (66, 46)]) (((((Fr.rf.call hq_3 (by decide) (by decide)).call hq_9 (by decide) (by decide)).call hq_13 (by decide) (by decide)).call hq_270 (by decide) (by decide)).call hq_285 (by decide) (by decide)) (by decide) (by decide)
              have g_288 : gN G_284 = gN G_269 := gN_fr (rs := []) (fs := [(66, 4), (66, 6), (66, 7), (66, 8), (66, 9)]) (Fr.rf.call hq_285 (by decide) (by decide)) (by decide) (by decide)
              have g_289 : (G_284.1 66 2).toInt = (G_269.1 66 2).toInt := by rw [show G_284.1 66 2 = (G_269.1 66 2) from ((hq_285.i 66 2 (by decide) (by decide)).trans (rfl))]
              have b_290 : 0 ≤ (G_284.1 66 4).toInt ∧ (G_284.1 66 4).toInt ≤ 1600 := hB_G_284.i 66 4 rfl rfl
              have g_291 : (G_284.1 86 0).toInt = (G.1 86 0).toInt := by rw [show G_284.1 86 0 = (G.1 86 0) from ((hq_285.i 86 0 (by decide) (by decide)).trans ((hq_270.i 86 0 (by decide) (by decide)).trans ((hq_13.i 86 0 (by decide) (by decide)).trans ((hq_9.i 86 0 (by decide) (by decide)).trans (hq_3.i 86 0 (by decide) (by decide))))))]
              have g_292 : (G_284.1 86 1).toInt = (G.1 86 1).toInt := by rw [show G_284.1 86 1 = (G.1 86 1) from ((hq_285.i 86 1 (by decide) (by decide)).trans ((hq_270.i 86 1 (by decide) (by decide)).trans ((hq_13.i 86 1 (by decide) (by decide)).trans ((hq_9.i 86 1 (by decide) (by decide)).trans (hq_3.i 86 1 (by decide) (by decide))))))]
              have g_293 : (G_284.1 86 2).toInt = (G.1 86 2).toInt := by rw [show G_284.1 86 2 = (G.1 86 2) from ((hq_285.i 86 2 (by decide) (by decide)).trans ((hq_270.i 86 2 (by decide) (by decide)).trans ((hq_13.i 86 2 (by decide) (by decide)).trans ((hq_9.i 86 2 (by decide) (by decide)).trans (hq_3.i 86 2 (by decide) (by decide))))))]
              exact W.vret hx hb hr (fun t ht _ => ⟨⟨G_284, rfl, ⟨hB_G_284, hF, (by omega)⟩, wd_t ht hW⟩, hS.F ht⟩) hS.2.2 dX12_readLine_232
          · have c_280 : (G_269.1 66 6).toInt ≠ 59 := xI_ne rfl rfl c_280
            refine lv_aload_n hx hb dX12_readLine_216 rfl (lv_at hl 0 rfl) ?_
            refine lv_iconst (v := 2) hx hb dX12_readLine_217 (by decide) ?_
            have qc_294 : (2 : Int32).toInt = 2 := rfl
            refine S_callv (va_runV (As := [.int 2]) (rest := []) ⟨hx, hb, hml, hown, hts⟩ (n_wrong l D k A a z G_269 2 ⟨by decide, by decide⟩) (cwV 1 hts (gd_V hgd m1670 m1672 m59 m131 m1673) rfl rfl rfl (by decide +kernel) ⟨Nat.le_of_ble_eq_true rfl, Nat.le_of_ble_eq_true rfl⟩) (pre_V hW hB_G_269 hK hZ hS kd_66 rfl) rfl rfl hl.1 rfl (lv_room (Nat.le_of_ble_eq_true rfl)) dX12_readLine_218 ⟨Nat.le_of_ble_eq_true rfl, Nat.le_of_ble_eq_true rfl⟩) hS (fun G_296 H locs hpo hW hS => ?_)
            obtain ⟨hB_G_296, hq_297, hp_298⟩ := hpo
            have hF := hF.call hq_297 (by decide) (by decide)
            refine lv_aload_n hx hb dX12_readLine_221 rfl (lv_at hl 0 rfl) ?_
            have b_299 : 0 ≤ (G_296.1 66 2).toInt ∧ (G_296.1 66 2).toInt ≤ 4 := hB_G_296.i 66 2 rfl rfl
            refine S_getI (v := (G_296.1 66 2)) (C := RX12) (T := TX12) (N := 89) hx hb hg iX12 hown hK hW kd_66 rfl 2 (by decide) (hg (Cond.fieldLink RX12 218 "SlabWalkModel" "fault" "I") m1316) (fun _ h9 => h9) rfl rfl dX12_readLine_222 ?_
            refine lv_if_ne (tgt := 232) hx hb dX12_readLine_225 (by decide) (fun c_300 => ?_) (fun c_300 => ?_)
            · have c_300 : (G_296.1 66 2).toInt ≠ 0 := xI_ne rfl rfl c_300
              have g_301 : gE G_296 = gE G := gE_fr (rs := [68, 82, 83, 84, 85]) (fs := [(66, 2), (66, 3), (66, 4), (66, 6), (66, 7), (66, 8), (66, 9), (66, 46)]) (((((Fr.rf.call hq_3 (by decide) (by decide)).call hq_9 (by decide) (by decide)).call hq_13 (by decide) (by decide)).call hq_270 (by decide) (by decide)).call hq_297 (by decide) (by decide)) (by decide) (by decide)
              have g_302 : gN G_296 = gN G_269 := gN_fr (rs := []) (fs := [(66, 2), (66, 3)]) (Fr.rf.call hq_297 (by decide) (by decide)) (by decide) (by decide)
              have b_303 : 0 ≤ (G_269.1 66 4).toInt ∧ (G_269.1 66 4).toInt ≤ 1600 := hB_G_269.i 66 4 rfl rfl
              have g_304 : (G_296.1 66 4).toInt = (G_269.1 66 4).toInt := by rw [show G_296.1 66 4 = (G_269.1 66 4) from (hq_297.i 66 4 (by decide) (by decide))]
              have g_305 : (G_296.1 86 0).toInt = (G.1 86 0).toInt := by rw [show G_296.1 86 0 = (G.1 86 0) from ((hq_297.i 86 0 (by decide) (by decide)).trans ((hq_270.i 86 0 (by decide) (by decide)).trans ((hq_13.i 86 0 (by decide) (by decide)).trans ((hq_9.i 86 0 (by decide) (by decide)).trans (hq_3.i 86 0 (by decide) (by decide))))))]
              have g_306 : (G_296.1 86 1).toInt = (G.1 86 1).toInt := by rw [show G_296.1 86 1 = (G.1 86 1) from ((hq_297.i 86 1 (by decide) (by decide)).trans ((hq_270.i 86 1 (by decide) (by decide)).trans ((hq_13.i 86 1 (by decide) (by decide)).trans ((hq_9.i 86 1 (by decide) (by decide)).trans (hq_3.i 86 1 (by decide) (by decide))))))]
              have g_307 : (G_296.1 86 2).toInt = (G.1 86 2).toInt := by rw [show G_296.1 86 2 = (G.1 86 2) from ((hq_297.i 86 2 (by decide) (by decide)).trans ((hq_270.i 86 2 (by decide) (by decide)).trans ((hq_13.i 86 2 (by decide) (by decide)).trans ((hq_9.i 86 2 (by decide) (by decide)).trans (hq_3.i 86 2 (by decide) (by decide))))))]
              exact W.vret hx hb hr (fun t ht _ => ⟨⟨G_296, rfl, ⟨hB_G_296, hF, (by omega)⟩, wd_t ht hW⟩, hS.F ht⟩) hS.2.2 dX12_readLine_232
            · have c_300 : (G_296.1 66 2).toInt = 0 := xI_eq rfl rfl c_300
              refine lv_aload_n hx hb dX12_readLine_228 rfl (lv_at hl 0 rfl) ?_
              have b_308 : 0 ≤ (G_269.1 66 4).toInt ∧ (G_269.1 66 4).toInt ≤ 1600 := hB_G_269.i 66 4 rfl rfl
              have g_309 : (G_296.1 66 4).toInt = (G_269.1 66 4).toInt := by rw [show G_296.1 66 4 = (G_269.1 66 4) from (hq_297.i 66 4 (by decide) (by decide))]
              have g_310 : (G_296.1 66 6).toInt = (G_269.1 66 6).toInt := by rw [show G_296.1 66 6 = (G_269.1 66 6) from ((hq_297.i 66 6 (by decide) (by decide)).trans (rfl))]
              refine S_callv (va_runV (As := []) (rest := []) ⟨hx, hb, hml, hown, hts⟩ (n_token l D k A a z G_296  ) (cwV 0 hts (gd_V hgd m1602 m1604 m50 m131 m1605) rfl rfl rfl (by decide +kernel) ⟨Nat.le_of_ble_eq_true rfl, Nat.le_of_ble_eq_true rfl⟩) (pre_V hW hB_G_296 hK hZ hS kd_66 rfl) rfl rfl hl.1 rfl (lv_room (Nat.le_of_ble_eq_true rfl)) dX12_readLine_229 ⟨Nat.le_of_ble_eq_true rfl, Nat.le_of_ble_eq_true rfl⟩) hS (fun G_312 H locs hpo hW hS => ?_)
              obtain ⟨hB_G_312, hq_313, hp_314⟩ := hpo
              have hF := hF.call hq_313 (by decide) (by decide)
              have g_315 : gE G_312 = gE G := gE_fr (rs := [68, 82, 83, 84, 85]) (fs := [(66, 2), (66, 3), (66, 4), (66, 6), (66, 7), (66, 8), (66, 9), (66, 46)]) ((((((Fr.rf.call hq_3 (by decide) (by decide)).call hq_9 (by decide) (by decide)).call hq_13 (by decide) (by decide)).call hq_270 (by decide) (by decide)).call hq_297 (by decide) (by decide)).call hq_313 (by decide) (by decide)) (by decide) (by decide)
              have g_316 : gN G_312 = gN G_269 := gN_fr (rs := []) (fs := [(66, 2), (66, 3), (66, 4), (66, 6), (66, 7), (66, 8), (66, 9)]) ((Fr.rf.call hq_297 (by decide) (by decide)).call hq_313 (by decide) (by decide)) (by decide) (by decide)
              have g_317 : (G_312.1 66 2).toInt = (G_296.1 66 2).toInt := by rw [show G_312.1 66 2 = (G_296.1 66 2) from ((hq_313.i 66 2 (by decide) (by decide)).trans (rfl))]
              have b_318 : 0 ≤ (G_312.1 66 4).toInt ∧ (G_312.1 66 4).toInt ≤ 1600 := hB_G_312.i 66 4 rfl rfl
              have g_319 : (G_312.1 86 0).toInt = (G.1 86 0).toInt := by rw [show G_312.1 86 0 = (G.1 86 0) from ((hq_313.i 86 0 (by decide) (by decide)).trans ((hq_297.i 86 0 (by decide) (by decide)).trans ((hq_270.i 86 0 (by decide) (by decide)).trans ((hq_13.i 86 0 (by decide) (by decide)).trans ((hq_9.i 86 0 (by decide) (by decide)).trans (hq_3.i 86 0 (by decide) (by decide)))))))]
              have g_320 : (G_312.1 86 1).toInt = (G.1 86 1).toInt := by rw [show G_312.1 86 1 = (G.1 86 1) from ((hq_313.i 86 1 (by decide) (by decide)).trans ((hq_297.i 86 1 (by decide) (by decide)).trans ((hq_270.i 86 1 (by decide) (by decide)).trans ((hq_13.i 86 1 (by decide) (by decide)).trans ((hq_9.i 86 1 (by decide) (by decide)).trans (hq_3.i 86 1 (by decide) (by decide)))))))]
              have g_321 : (G_312.1 86 2).toInt = (G.1 86 2).toInt := by rw [show G_312.1 86 2 = (G.1 86 2) from ((hq_313.i 86 2 (by decide) (by decide)).trans ((hq_297.i 86 2 (by decide) (by decide)).trans ((hq_270.i 86 2 (by decide) (by decide)).trans ((hq_13.i 86 2 (by decide) (by decide)).trans ((hq_9.i 86 2 (by decide) (by decide)).trans (hq_3.i 86 2 (by decide) (by decide)))))))]
              exact W.vret hx hb hr (fun t ht _ => ⟨⟨G_312, rfl, ⟨hB_G_312, hF, (by omega)⟩, wd_t ht hW⟩, hS.F ht⟩) hS.2.2 dX12_readLine_232
  refine lv_if_eq (tgt := 25) hx hb dX12_readLine_7 (by decide) (fun c_322 => ?_) (fun c_322 => ?_)
  · have c_322 : r_1.toInt = 0 := xI_eq rfl rfl c_322
    exact hJ_8 () _ _ _ ⟨G_2, hW, hB_G_2, hF, Fr.rf, hS, lv_sub hl [0] rfl⟩
  · have c_322 : r_1.toInt ≠ 0 := xI_ne rfl rfl c_322
    refine lv_aload_n hx hb dX12_readLine_10 rfl (lv_at hl 0 rfl) ?_
    have b_323 : 0 ≤ (G.1 66 45).toInt ∧ (G.1 66 45).toInt ≤ 3 := hB_G.i 66 45 rfl rfl
    refine S_getI (v := (G.1 66 45)) (C := RX12) (T := TX12) (N := 89) hx hb hg iX12 hown hK hW kd_66 rfl 45 (by decide) (hg (Cond.fieldLink RX12 359 "SlabWalkModel" "nStreets" "I") m1359) (fun _ h9 => h9) rfl (hq_3.i 66 45 (by decide) (by decide)) dX12_readLine_11 ?_
    refine lv_iconst (v := 3) hx hb dX12_readLine_14 (by decide) ?_
    refine lv_icmp_ge (tgt := 25) hx hb dX12_readLine_15 (by decide) (fun c_324 => ?_) (fun c_324 => ?_)
    · have c_324 : 3 ≤ (G.1 66 45).toInt := xI_le rfl rfl c_324
      exact hJ_8 () _ _ _ ⟨G_2, hW, hB_G_2, hF, Fr.rf, hS, lv_sub hl [0] rfl⟩
    · have c_324 : (G.1 66 45).toInt < 3 := xI_nle rfl rfl c_324
      refine lv_aload_n hx hb dX12_readLine_18 rfl (lv_at hl 0 rfl) ?_
      have b_325 : 0 ≤ (G.1 66 2).toInt ∧ (G.1 66 2).toInt ≤ 4 := hB_G.i 66 2 rfl rfl
      have g_326 : (G_2.1 66 2).toInt = (G.1 66 2).toInt := by rw [show G_2.1 66 2 = (G.1 66 2) from (hq_3.i 66 2 (by decide) (by decide))]
      have g_327 : (G_2.1 66 45).toInt = (G.1 66 45).toInt := by rw [show G_2.1 66 45 = (G.1 66 45) from ((hq_3.i 66 45 (by decide) (by decide)).trans (rfl))]
      have b_328 : 0 ≤ (G.1 66 4).toInt ∧ (G.1 66 4).toInt ≤ 1600 := hB_G.i 66 4 rfl rfl
      have g_329 : (G_2.1 66 4).toInt = (G.1 66 4).toInt := by rw [show G_2.1 66 4 = (G.1 66 4) from (hq_3.i 66 4 (by decide) (by decide))]
      have g_330 : (G_2.1 66 6).toInt = (G.1 66 6).toInt := by rw [show G_2.1 66 6 = (G.1 66 6) from (hq_3.i 66 6 (by decide) (by decide))]
      refine S_callv (va_runV (As := []) (rest := []) ⟨hx, hb, hml, hown, hts⟩ (n_readStreet l D k A a z G_2  (by omega) (by omega)) (cwV 0 hts (gd_V hgd m1628 m1630 m54 m131 m1631) rfl rfl rfl (by decide +kernel) ⟨Nat.le_of_ble_eq_true rfl, Nat.le_of_ble_eq_true rfl⟩) (pre_V hW hB_G_2 hK hZ hS kd_66 rfl) rfl rfl hl.1 rfl (lv_room (Nat.le_of_ble_eq_true rfl)) dX12_readLine_19 ⟨Nat.le_of_ble_eq_true rfl, Nat.le_of_ble_eq_true rfl⟩) hS (fun G_332 H locs hpo hW hS => ?_)
      obtain ⟨hB_G_332, hq_333, hp_334⟩ := hpo
      have hF := hF.call hq_333 (by decide) (by decide)
      refine lv_goto (tgt := 200) hx hb dX12_readLine_22 (by decide) ?_
      refine lv_aload_n hx hb dX12_readLine_200 rfl (lv_at hl 0 rfl) ?_
      have b_335 : 0 ≤ (G_332.1 66 2).toInt ∧ (G_332.1 66 2).toInt ≤ 4 := hB_G_332.i 66 2 rfl rfl
      refine S_getI (v := (G_332.1 66 2)) (C := RX12) (T := TX12) (N := 89) hx hb hg iX12 hown hK hW kd_66 rfl 2 (by decide) (hg (Cond.fieldLink RX12 218 "SlabWalkModel" "fault" "I") m1316) (fun _ h9 => h9) rfl rfl dX12_readLine_201 ?_
      refine lv_if_ne (tgt := 221) hx hb dX12_readLine_204 (by decide) (fun c_336 => ?_) (fun c_336 => ?_)
      · have c_336 : (G_332.1 66 2).toInt ≠ 0 := xI_ne rfl rfl c_336
        refine lv_aload_n hx hb dX12_readLine_221 rfl (lv_at hl 0 rfl) ?_
        refine S_getI (v := (G_332.1 66 2)) (C := RX12) (T := TX12) (N := 89) hx hb hg iX12 hown hK hW kd_66 rfl 2 (by decide) (hg (Cond.fieldLink RX12 218 "SlabWalkModel" "fault" "I") m1316) (fun _ h9 => h9) rfl rfl dX12_readLine_222 ?_
        refine lv_if_ne (tgt := 232) hx hb dX12_readLine_225 (by decide) (fun c_337 => ?_) (fun c_337 => ?_)
        · have c_337 : (G_332.1 66 2).toInt ≠ 0 := xI_ne rfl rfl c_337
          have g_338 : gE G_332 = gE G := gE_fr (rs := [68, 77, 78, 79, 80, 81]) (fs := [(66, 2), (66, 3), (66, 4), (66, 6), (66, 7), (66, 8), (66, 9), (66, 45)]) ((Fr.rf.call hq_3 (by decide) (by decide)).call hq_333 (by decide) (by decide)) (by decide) (by decide)
          have g_339 : gN G_332 = gN G := gN_fr (rs := [68, 77, 78, 79, 80, 81]) (fs := [(66, 2), (66, 3), (66, 4), (66, 6), (66, 7), (66, 8), (66, 9), (66, 45)]) ((Fr.rf.call hq_3 (by decide) (by decide)).call hq_333 (by decide) (by decide)) (by decide) (by decide)
          have b_340 : 0 ≤ (G_332.1 66 4).toInt ∧ (G_332.1 66 4).toInt ≤ 1600 := hB_G_332.i 66 4 rfl rfl
          have g_341 : (G_332.1 86 0).toInt = (G.1 86 0).toInt := by rw [show G_332.1 86 0 = (G.1 86 0) from ((hq_333.i 86 0 (by decide) (by decide)).trans (hq_3.i 86 0 (by decide) (by decide)))]
          have g_342 : (G_332.1 86 1).toInt = (G.1 86 1).toInt := by rw [show G_332.1 86 1 = (G.1 86 1) from ((hq_333.i 86 1 (by decide) (by decide)).trans (hq_3.i 86 1 (by decide) (by decide)))]
          have g_343 : (G_332.1 86 2).toInt = (G.1 86 2).toInt := by rw [show G_332.1 86 2 = (G.1 86 2) from ((hq_333.i 86 2 (by decide) (by decide)).trans (hq_3.i 86 2 (by decide) (by decide)))]
          exact W.vret hx hb hr (fun t ht _ => ⟨⟨G_332, rfl, ⟨hB_G_332, hF, (by omega)⟩, wd_t ht hW⟩, hS.F ht⟩) hS.2.2 dX12_readLine_232
        · have c_337 : (G_332.1 66 2).toInt = 0 := xI_eq rfl rfl c_337
          exfalso; omega
      · have c_336 : (G_332.1 66 2).toInt = 0 := xI_eq rfl rfl c_336
        refine lv_aload_n hx hb dX12_readLine_207 rfl (lv_at hl 0 rfl) ?_
        refine S_getI (v := (G_332.1 66 6)) (C := RX12) (T := TX12) (N := 89) hx hb hg iX12 hown hK hW kd_66 rfl 6 (by decide) (hg (Cond.fieldLink RX12 205 "SlabWalkModel" "sort" "I") m1320) (fun _ h9 => h9) rfl rfl dX12_readLine_208 ?_
        refine lv_bipush (v := 59) hx hb dX12_readLine_211 (by decide) ?_
        refine lv_icmp_eq (tgt := 221) hx hb dX12_readLine_213 (by decide) (fun c_344 => ?_) (fun c_344 => ?_)
        · have c_344 : (G_332.1 66 6).toInt = 59 := xI_eq rfl rfl c_344
          refine lv_aload_n hx hb dX12_readLine_221 rfl (lv_at hl 0 rfl) ?_
          refine S_getI (v := (G_332.1 66 2)) (C := RX12) (T := TX12) (N := 89) hx hb hg iX12 hown hK hW kd_66 rfl 2 (by decide) (hg (Cond.fieldLink RX12 218 "SlabWalkModel" "fault" "I") m1316) (fun _ h9 => h9) rfl rfl dX12_readLine_222 ?_
          refine lv_if_ne (tgt := 232) hx hb dX12_readLine_225 (by decide) (fun c_345 => ?_) (fun c_345 => ?_)
          · have c_345 : (G_332.1 66 2).toInt ≠ 0 := xI_ne rfl rfl c_345
            exfalso; omega
          · have c_345 : (G_332.1 66 2).toInt = 0 := xI_eq rfl rfl c_345
            refine lv_aload_n hx hb dX12_readLine_228 rfl (lv_at hl 0 rfl) ?_
            have b_346 : 0 ≤ (G_332.1 66 4).toInt ∧ (G_332.1 66 4).toInt ≤ 1600 := hB_G_332.i 66 4 rfl rfl
            refine S_callv (va_runV (As := []) (rest := []) ⟨hx, hb, hml, hown, hts⟩ (n_token l D k A a z G_332  ) (cwV 0 hts (gd_V hgd m1602 m1604 m50 m131 m1605) rfl rfl rfl (by decide +kernel) ⟨Nat.le_of_ble_eq_true rfl, Nat.le_of_ble_eq_true rfl⟩) (pre_V hW hB_G_332 hK hZ hS kd_66 rfl) rfl rfl hl.1 rfl (lv_room (Nat.le_of_ble_eq_true rfl)) dX12_readLine_229 ⟨Nat.le_of_ble_eq_true rfl, Nat.le_of_ble_eq_true rfl⟩) hS (fun G_348 H locs hpo hW hS => ?_)
            obtain ⟨hB_G_348, hq_349, hp_350⟩ := hpo
            have hF := hF.call hq_349 (by decide) (by decide)
            have g_351 : gE G_348 = gE G := gE_fr (rs := [68, 77, 78, 79, 80, 81]) (fs := [(66, 2), (66, 3), (66, 4), (66, 6), (66, 7), (66, 8), (66, 9), (66, 45)]) (((Fr.rf.call hq_3 (by decide) (by decide)).call hq_333 (by decide) (by decide)).call hq_349 (by decide) (by decide)) (by decide) (by decide)
            have g_352 : gN G_348 = gN G := gN_fr (rs := [68, 77, 78, 79, 80, 81]) (fs := [(66, 2), (66, 3), (66, 4), (66, 6), (66, 7), (66, 8), (66, 9), (66, 45)]) (((Fr.rf.call hq_3 (by decide) (by decide)).call hq_333 (by decide) (by decide)).call hq_349 (by decide) (by decide)) (by decide) (by decide)
            have g_353 : (G_348.1 66 2).toInt = (G_332.1 66 2).toInt := by rw [show G_348.1 66 2 = (G_332.1 66 2) from ((hq_349.i 66 2 (by decide) (by decide)).trans (rfl))]
            have b_354 : 0 ≤ (G_348.1 66 4).toInt ∧ (G_348.1 66 4).toInt ≤ 1600 := hB_G_348.i 66 4 rfl rfl
            have g_355 : (G_348.1 86 0).toInt = (G.1 86 0).toInt := by rw [show G_348.1 86 0 = (G.1 86 0) from ((hq_349.i 86 0 (by decide) (by decide)).trans ((hq_333.i 86 0 (by decide) (by decide)).trans (hq_3.i 86 0 (by decide) (by decide))))]
            have g_356 : (G_348.1 86 1).toInt = (G.1 86 1).toInt := by rw [show G_348.1 86 1 = (G.1 86 1) from ((hq_349.i 86 1 (by decide) (by decide)).trans ((hq_333.i 86 1 (by decide) (by decide)).trans (hq_3.i 86 1 (by decide) (by decide))))]
            have g_357 : (G_348.1 86 2).toInt = (G.1 86 2).toInt := by rw [show G_348.1 86 2 = (G.1 86 2) from ((hq_349.i 86 2 (by decide) (by decide)).trans ((hq_333.i 86 2 (by decide) (by decide)).trans (hq_3.i 86 2 (by decide) (by decide))))]
            exact W.vret hx hb hr (fun t ht _ => ⟨⟨G_348, rfl, ⟨hB_G_348, hF, (by omega)⟩, wd_t ht hW⟩, hS.F ht⟩) hS.2.2 dX12_readLine_232
        · have c_344 : (G_332.1 66 6).toInt ≠ 59 := xI_ne rfl rfl c_344
          refine lv_aload_n hx hb dX12_readLine_216 rfl (lv_at hl 0 rfl) ?_
          refine lv_iconst (v := 2) hx hb dX12_readLine_217 (by decide) ?_
          have qc_358 : (2 : Int32).toInt = 2 := rfl
          refine S_callv (va_runV (As := [.int 2]) (rest := []) ⟨hx, hb, hml, hown, hts⟩ (n_wrong l D k A a z G_332 2 ⟨by decide, by decide⟩) (cwV 1 hts (gd_V hgd m1670 m1672 m59 m131 m1673) rfl rfl rfl (by decide +kernel) ⟨Nat.le_of_ble_eq_true rfl, Nat.le_of_ble_eq_true rfl⟩) (pre_V hW hB_G_332 hK hZ hS kd_66 rfl) rfl rfl hl.1 rfl (lv_room (Nat.le_of_ble_eq_true rfl)) dX12_readLine_218 ⟨Nat.le_of_ble_eq_true rfl, Nat.le_of_ble_eq_true rfl⟩) hS (fun G_360 H locs hpo hW hS => ?_)
          obtain ⟨hB_G_360, hq_361, hp_362⟩ := hpo
          have hF := hF.call hq_361 (by decide) (by decide)
          refine lv_aload_n hx hb dX12_readLine_221 rfl (lv_at hl 0 rfl) ?_
          have b_363 : 0 ≤ (G_360.1 66 2).toInt ∧ (G_360.1 66 2).toInt ≤ 4 := hB_G_360.i 66 2 rfl rfl
          refine S_getI (v := (G_360.1 66 2)) (C := RX12) (T := TX12) (N := 89) hx hb hg iX12 hown hK hW kd_66 rfl 2 (by decide) (hg (Cond.fieldLink RX12 218 "SlabWalkModel" "fault" "I") m1316) (fun _ h9 => h9) rfl rfl dX12_readLine_222 ?_
          refine lv_if_ne (tgt := 232) hx hb dX12_readLine_225 (by decide) (fun c_364 => ?_) (fun c_364 => ?_)
          · have c_364 : (G_360.1 66 2).toInt ≠ 0 := xI_ne rfl rfl c_364
            have g_365 : gE G_360 = gE G := gE_fr (rs := [68, 77, 78, 79, 80, 81]) (fs := [(66, 2), (66, 3), (66, 4), (66, 6), (66, 7), (66, 8), (66, 9), (66, 45)]) (((Fr.rf.call hq_3 (by decide) (by decide)).call hq_333 (by decide) (by decide)).call hq_361 (by decide) (by decide)) (by decide) (by decide)
            have g_366 : gN G_360 = gN G := gN_fr (rs := [68, 77, 78, 79, 80, 81]) (fs := [(66, 2), (66, 3), (66, 4), (66, 6), (66, 7), (66, 8), (66, 9), (66, 45)]) (((Fr.rf.call hq_3 (by decide) (by decide)).call hq_333 (by decide) (by decide)).call hq_361 (by decide) (by decide)) (by decide) (by decide)
            have b_367 : 0 ≤ (G_332.1 66 4).toInt ∧ (G_332.1 66 4).toInt ≤ 1600 := hB_G_332.i 66 4 rfl rfl
            have g_368 : (G_360.1 66 4).toInt = (G_332.1 66 4).toInt := by rw [show G_360.1 66 4 = (G_332.1 66 4) from (hq_361.i 66 4 (by decide) (by decide))]
            have g_369 : (G_360.1 86 0).toInt = (G.1 86 0).toInt := by rw [show G_360.1 86 0 = (G.1 86 0) from ((hq_361.i 86 0 (by decide) (by decide)).trans ((hq_333.i 86 0 (by decide) (by decide)).trans (hq_3.i 86 0 (by decide) (by decide))))]
            have g_370 : (G_360.1 86 1).toInt = (G.1 86 1).toInt := by rw [show G_360.1 86 1 = (G.1 86 1) from ((hq_361.i 86 1 (by decide) (by decide)).trans ((hq_333.i 86 1 (by decide) (by decide)).trans (hq_3.i 86 1 (by decide) (by decide))))]
            have g_371 : (G_360.1 86 2).toInt = (G.1 86 2).toInt := by rw [show G_360.1 86 2 = (G.1 86 2) from ((hq_361.i 86 2 (by decide) (by decide)).trans ((hq_333.i 86 2 (by decide) (by decide)).trans (hq_3.i 86 2 (by decide) (by decide))))]
            exact W.vret hx hb hr (fun t ht _ => ⟨⟨G_360, rfl, ⟨hB_G_360, hF, (by omega)⟩, wd_t ht hW⟩, hS.F ht⟩) hS.2.2 dX12_readLine_232
          · have c_364 : (G_360.1 66 2).toInt = 0 := xI_eq rfl rfl c_364
            refine lv_aload_n hx hb dX12_readLine_228 rfl (lv_at hl 0 rfl) ?_
            have b_372 : 0 ≤ (G_332.1 66 4).toInt ∧ (G_332.1 66 4).toInt ≤ 1600 := hB_G_332.i 66 4 rfl rfl
            have g_373 : (G_360.1 66 4).toInt = (G_332.1 66 4).toInt := by rw [show G_360.1 66 4 = (G_332.1 66 4) from (hq_361.i 66 4 (by decide) (by decide))]
            have g_374 : (G_360.1 66 6).toInt = (G_332.1 66 6).toInt := by rw [show G_360.1 66 6 = (G_332.1 66 6) from ((hq_361.i 66 6 (by decide) (by decide)).trans (rfl))]
            refine S_callv (va_runV (As := []) (rest := []) ⟨hx, hb, hml, hown, hts⟩ (n_token l D k A a z G_360  ) (cwV 0 hts (gd_V hgd m1602 m1604 m50 m131 m1605) rfl rfl rfl (by decide +kernel) ⟨Nat.le_of_ble_eq_true rfl, Nat.le_of_ble_eq_true rfl⟩) (pre_V hW hB_G_360 hK hZ hS kd_66 rfl) rfl rfl hl.1 rfl (lv_room (Nat.le_of_ble_eq_true rfl)) dX12_readLine_229 ⟨Nat.le_of_ble_eq_true rfl, Nat.le_of_ble_eq_true rfl⟩) hS (fun G_376 H locs hpo hW hS => ?_)
            obtain ⟨hB_G_376, hq_377, hp_378⟩ := hpo
            have hF := hF.call hq_377 (by decide) (by decide)
            have g_379 : gE G_376 = gE G := gE_fr (rs := [68, 77, 78, 79, 80, 81]) (fs := [(66, 2), (66, 3), (66, 4), (66, 6), (66, 7), (66, 8), (66, 9), (66, 45)]) ((((Fr.rf.call hq_3 (by decide) (by decide)).call hq_333 (by decide) (by decide)).call hq_361 (by decide) (by decide)).call hq_377 (by decide) (by decide)) (by decide) (by decide)
            have g_380 : gN G_376 = gN G := gN_fr (rs := [68, 77, 78, 79, 80, 81]) (fs := [(66, 2), (66, 3), (66, 4), (66, 6), (66, 7), (66, 8), (66, 9), (66, 45)]) ((((Fr.rf.call hq_3 (by decide) (by decide)).call hq_333 (by decide) (by decide)).call hq_361 (by decide) (by decide)).call hq_377 (by decide) (by decide)) (by decide) (by decide)
            have g_381 : (G_376.1 66 2).toInt = (G_360.1 66 2).toInt := by rw [show G_376.1 66 2 = (G_360.1 66 2) from ((hq_377.i 66 2 (by decide) (by decide)).trans (rfl))]
            have b_382 : 0 ≤ (G_376.1 66 4).toInt ∧ (G_376.1 66 4).toInt ≤ 1600 := hB_G_376.i 66 4 rfl rfl
            have g_383 : (G_376.1 86 0).toInt = (G.1 86 0).toInt := by rw [show G_376.1 86 0 = (G.1 86 0) from ((hq_377.i 86 0 (by decide) (by decide)).trans ((hq_361.i 86 0 (by decide) (by decide)).trans ((hq_333.i 86 0 (by decide) (by decide)).trans (hq_3.i 86 0 (by decide) (by decide)))))]
            have g_384 : (G_376.1 86 1).toInt = (G.1 86 1).toInt := by rw [show G_376.1 86 1 = (G.1 86 1) from ((hq_377.i 86 1 (by decide) (by decide)).trans ((hq_361.i 86 1 (by decide) (by decide)).trans ((hq_333.i 86 1 (by decide) (by decide)).trans (hq_3.i 86 1 (by decide) (by decide)))))]
            have g_385 : (G_376.1 86 2).toInt = (G.1 86 2).toInt := by rw [show G_376.1 86 2 = (G.1 86 2) from ((hq_377.i 86 2 (by decide) (by decide)).trans ((hq_361.i 86 2 (by decide) (by decide)).trans ((hq_333.i 86 2 (by decide) (by decide)).trans (hq_3.i 86 2 (by decide) (by decide)))))]
            exact W.vret hx hb hr (fun t ht _ => ⟨⟨G_376, rfl, ⟨hB_G_376, hF, (by omega)⟩, wd_t ht hW⟩, hS.F ht⟩) hS.2.2 dX12_readLine_232
