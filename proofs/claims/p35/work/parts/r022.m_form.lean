theorem m70 : Cond.selects RX12 yX12_unit yX12_unit ∈ gd := gd_mem 70 (by decide +kernel) (by decide +kernel)
theorem m77 : Cond.selects RX12 yX12_sign yX12_sign ∈ gd := gd_mem 77 (by decide +kernel) (by decide +kernel)
theorem m78 : Cond.selects RX12 yX12_hasBracket yX12_hasBracket ∈ gd := gd_mem 78 (by decide +kernel) (by decide +kernel)
theorem m79 : Cond.selects RX12 yX12_close yX12_close ∈ gd := gd_mem 79 (by decide +kernel) (by decide +kernel)
theorem m80 : Cond.selects RX12 yX12_hasRelation yX12_hasRelation ∈ gd := gd_mem 80 (by decide +kernel) (by decide +kernel)
theorem m1714 : Cond.methodLink RX12 333 yX12_unit ∈ gd := gd_mem 1714 (by decide +kernel) (by decide +kernel)
theorem m1716 : Cond.instanceMethod yX12_unit ∈ gd := gd_mem 1716 (by decide +kernel) (by decide +kernel)
theorem m1717 : Cond.code yX12_unit cX12_unit 3 none ∈ gd := gd_mem 1717 (by decide +kernel) (by decide +kernel)
theorem m1745 : Cond.methodLink RX12 336 yX12_sign ∈ gd := gd_mem 1745 (by decide +kernel) (by decide +kernel)
theorem m1747 : Cond.instanceMethod yX12_sign ∈ gd := gd_mem 1747 (by decide +kernel) (by decide +kernel)
theorem m1748 : Cond.code yX12_sign cX12_sign 1 (some .int) ∈ gd := gd_mem 1748 (by decide +kernel) (by decide +kernel)
theorem m1749 : Cond.methodLink RX12 339 yX12_hasBracket ∈ gd := gd_mem 1749 (by decide +kernel) (by decide +kernel)
theorem m1751 : Cond.instanceMethod yX12_hasBracket ∈ gd := gd_mem 1751 (by decide +kernel) (by decide +kernel)
theorem m1752 : Cond.code yX12_hasBracket cX12_hasBracket 3 (some .boolean) ∈ gd := gd_mem 1752 (by decide +kernel) (by decide +kernel)
theorem m1753 : Cond.methodLink RX12 342 yX12_close ∈ gd := gd_mem 1753 (by decide +kernel) (by decide +kernel)
theorem m1755 : Cond.instanceMethod yX12_close ∈ gd := gd_mem 1755 (by decide +kernel) (by decide +kernel)
theorem m1756 : Cond.code yX12_close cX12_close 2 none ∈ gd := gd_mem 1756 (by decide +kernel) (by decide +kernel)
theorem m1757 : Cond.methodLink RX12 345 yX12_hasRelation ∈ gd := gd_mem 1757 (by decide +kernel) (by decide +kernel)
theorem m1759 : Cond.instanceMethod yX12_hasRelation ∈ gd := gd_mem 1759 (by decide +kernel) (by decide +kernel)
theorem m1760 : Cond.code yX12_hasRelation cX12_hasRelation 2 (some .boolean) ∈ gd := gd_mem 1760 (by decide +kernel) (by decide +kernel)
theorem dX12_formula_0 : decode cX12_formula 0 = .ok (.aload_n 0, 1) := by decide +kernel
theorem dX12_formula_1 : decode cX12_formula 1 = .ok (.iload_n 1, 1) := by decide +kernel
theorem dX12_formula_2 : decode cX12_formula 2 = .ok (.putfield 296, 3) := by decide +kernel
theorem dX12_formula_5 : decode cX12_formula 5 = .ok (.aload_n 0, 1) := by decide +kernel
theorem dX12_formula_6 : decode cX12_formula 6 = .ok (.getfield 27, 3) := by decide +kernel
theorem dX12_formula_9 : decode cX12_formula 9 = .ok (.aload_n 0, 1) := by decide +kernel
theorem dX12_formula_10 : decode cX12_formula 10 = .ok (.getfield 296, 3) := by decide +kernel
theorem dX12_formula_13 : decode cX12_formula 13 = .ok (.iconst 0, 1) := by decide +kernel
theorem dX12_formula_14 : decode cX12_formula 14 = .ok (.iastore, 1) := by decide +kernel
theorem dX12_formula_15 : decode cX12_formula 15 = .ok (.aload_n 0, 1) := by decide +kernel
theorem dX12_formula_16 : decode cX12_formula 16 = .ok (.iconst 0, 1) := by decide +kernel
theorem dX12_formula_17 : decode cX12_formula 17 = .ok (.putfield 299, 3) := by decide +kernel
theorem dX12_formula_20 : decode cX12_formula 20 = .ok (.aload_n 0, 1) := by decide +kernel
theorem dX12_formula_21 : decode cX12_formula 21 = .ok (.iconst 0, 1) := by decide +kernel
theorem dX12_formula_22 : decode cX12_formula 22 = .ok (.putfield 309, 3) := by decide +kernel
theorem dX12_formula_25 : decode cX12_formula 25 = .ok (.aload_n 0, 1) := by decide +kernel
theorem dX12_formula_26 : decode cX12_formula 26 = .ok (.iconst 0, 1) := by decide +kernel
theorem dX12_formula_27 : decode cX12_formula 27 = .ok (.putfield 315, 3) := by decide +kernel
theorem dX12_formula_30 : decode cX12_formula 30 = .ok (.aload_n 0, 1) := by decide +kernel
theorem dX12_formula_31 : decode cX12_formula 31 = .ok (.invokevirtual 333, 3) := by decide +kernel
theorem dX12_formula_34 : decode cX12_formula 34 = .ok (.iconst 1, 1) := by decide +kernel
theorem dX12_formula_35 : decode cX12_formula 35 = .ok (.istore_n 2, 1) := by decide +kernel
theorem dX12_formula_36 : decode cX12_formula 36 = .ok (.iload_n 2, 1) := by decide +kernel
theorem dX12_formula_37 : decode cX12_formula 37 = .ok (.ifCond .eq 126, 3) := by decide +kernel
theorem dX12_formula_40 : decode cX12_formula 40 = .ok (.aload_n 0, 1) := by decide +kernel
theorem dX12_formula_41 : decode cX12_formula 41 = .ok (.getfield 218, 3) := by decide +kernel
theorem dX12_formula_44 : decode cX12_formula 44 = .ok (.ifCond .ne 119, 3) := by decide +kernel
theorem dX12_formula_47 : decode cX12_formula 47 = .ok (.aload_n 0, 1) := by decide +kernel
theorem dX12_formula_48 : decode cX12_formula 48 = .ok (.invokevirtual 336, 3) := by decide +kernel
theorem dX12_formula_51 : decode cX12_formula 51 = .ok (.istore_n 3, 1) := by decide +kernel
theorem dX12_formula_52 : decode cX12_formula 52 = .ok (.aload_n 0, 1) := by decide +kernel
theorem dX12_formula_53 : decode cX12_formula 53 = .ok (.getfield 205, 3) := by decide +kernel
theorem dX12_formula_56 : decode cX12_formula 56 = .ok (.bipush 41, 2) := by decide +kernel
theorem dX12_formula_58 : decode cX12_formula 58 = .ok (.if_icmp .ne 42, 3) := by decide +kernel
theorem dX12_formula_61 : decode cX12_formula 61 = .ok (.aload_n 0, 1) := by decide +kernel
theorem dX12_formula_62 : decode cX12_formula 62 = .ok (.invokevirtual 339, 3) := by decide +kernel
theorem dX12_formula_65 : decode cX12_formula 65 = .ok (.ifCond .eq 35, 3) := by decide +kernel
theorem dX12_formula_68 : decode cX12_formula 68 = .ok (.aload_n 0, 1) := by decide +kernel
theorem dX12_formula_69 : decode cX12_formula 69 = .ok (.iconst 0, 1) := by decide +kernel
theorem dX12_formula_70 : decode cX12_formula 70 = .ok (.invokevirtual 342, 3) := by decide +kernel
theorem dX12_formula_73 : decode cX12_formula 73 = .ok (.aload_n 0, 1) := by decide +kernel
theorem dX12_formula_74 : decode cX12_formula 74 = .ok (.dup, 1) := by decide +kernel
theorem dX12_formula_75 : decode cX12_formula 75 = .ok (.getfield 299, 3) := by decide +kernel
theorem dX12_formula_78 : decode cX12_formula 78 = .ok (.iconst 1, 1) := by decide +kernel
theorem dX12_formula_79 : decode cX12_formula 79 = .ok (.isub, 1) := by decide +kernel
theorem dX12_formula_80 : decode cX12_formula 80 = .ok (.putfield 299, 3) := by decide +kernel
theorem dX12_formula_83 : decode cX12_formula 83 = .ok (.aload_n 0, 1) := by decide +kernel
theorem dX12_formula_84 : decode cX12_formula 84 = .ok (.dup, 1) := by decide +kernel
theorem dX12_formula_85 : decode cX12_formula 85 = .ok (.getfield 309, 3) := by decide +kernel
theorem dX12_formula_88 : decode cX12_formula 88 = .ok (.iconst 1, 1) := by decide +kernel
theorem dX12_formula_89 : decode cX12_formula 89 = .ok (.isub, 1) := by decide +kernel
theorem dX12_formula_90 : decode cX12_formula 90 = .ok (.putfield 309, 3) := by decide +kernel
theorem dX12_formula_93 : decode cX12_formula 93 = .ok (.aload_n 0, 1) := by decide +kernel
theorem dX12_formula_94 : decode cX12_formula 94 = .ok (.invokevirtual 279, 3) := by decide +kernel
theorem dX12_formula_97 : decode cX12_formula 97 = .ok (.goto 63, 3) := by decide +kernel
theorem dX12_formula_100 : decode cX12_formula 100 = .ok (.iload_n 3, 1) := by decide +kernel
theorem dX12_formula_101 : decode cX12_formula 101 = .ok (.ifCond .eq 57, 3) := by decide +kernel
theorem dX12_formula_104 : decode cX12_formula 104 = .ok (.iload_n 3, 1) := by decide +kernel
theorem dX12_formula_105 : decode cX12_formula 105 = .ok (.invokestatic 302, 3) := by decide +kernel
theorem dX12_formula_108 : decode cX12_formula 108 = .ok (.iconst 4, 1) := by decide +kernel
theorem dX12_formula_109 : decode cX12_formula 109 = .ok (.if_icmp .ne 10, 3) := by decide +kernel
theorem dX12_formula_112 : decode cX12_formula 112 = .ok (.aload_n 0, 1) := by decide +kernel
theorem dX12_formula_113 : decode cX12_formula 113 = .ok (.invokevirtual 345, 3) := by decide +kernel
theorem dX12_formula_116 : decode cX12_formula 116 = .ok (.ifCond .ne 42, 3) := by decide +kernel
theorem dX12_formula_119 : decode cX12_formula 119 = .ok (.aload_n 0, 1) := by decide +kernel
theorem dX12_formula_120 : decode cX12_formula 120 = .ok (.iload_n 3, 1) := by decide +kernel
theorem dX12_formula_121 : decode cX12_formula 121 = .ok (.invokestatic 302, 3) := by decide +kernel
theorem dX12_formula_124 : decode cX12_formula 124 = .ok (.invokevirtual 342, 3) := by decide +kernel
theorem dX12_formula_127 : decode cX12_formula 127 = .ok (.aload_n 0, 1) := by decide +kernel
theorem dX12_formula_128 : decode cX12_formula 128 = .ok (.getfield 39, 3) := by decide +kernel
theorem dX12_formula_131 : decode cX12_formula 131 = .ok (.aload_n 0, 1) := by decide +kernel
theorem dX12_formula_132 : decode cX12_formula 132 = .ok (.getfield 299, 3) := by decide +kernel
theorem dX12_formula_135 : decode cX12_formula 135 = .ok (.iload_n 3, 1) := by decide +kernel
theorem dX12_formula_136 : decode cX12_formula 136 = .ok (.iastore, 1) := by decide +kernel
theorem dX12_formula_137 : decode cX12_formula 137 = .ok (.aload_n 0, 1) := by decide +kernel
theorem dX12_formula_138 : decode cX12_formula 138 = .ok (.dup, 1) := by decide +kernel
theorem dX12_formula_139 : decode cX12_formula 139 = .ok (.getfield 299, 3) := by decide +kernel
theorem dX12_formula_142 : decode cX12_formula 142 = .ok (.iconst 1, 1) := by decide +kernel
theorem dX12_formula_143 : decode cX12_formula 143 = .ok (.iadd, 1) := by decide +kernel
theorem dX12_formula_144 : decode cX12_formula 144 = .ok (.putfield 299, 3) := by decide +kernel
theorem dX12_formula_147 : decode cX12_formula 147 = .ok (.aload_n 0, 1) := by decide +kernel
theorem dX12_formula_148 : decode cX12_formula 148 = .ok (.invokevirtual 279, 3) := by decide +kernel
theorem dX12_formula_151 : decode cX12_formula 151 = .ok (.aload_n 0, 1) := by decide +kernel
theorem dX12_formula_152 : decode cX12_formula 152 = .ok (.invokevirtual 333, 3) := by decide +kernel
theorem dX12_formula_155 : decode cX12_formula 155 = .ok (.goto 5, 3) := by decide +kernel
theorem dX12_formula_158 : decode cX12_formula 158 = .ok (.iconst 0, 1) := by decide +kernel
theorem dX12_formula_159 : decode cX12_formula 159 = .ok (.istore_n 2, 1) := by decide +kernel
theorem dX12_formula_160 : decode cX12_formula 160 = .ok (.goto (-124), 3) := by decide +kernel
theorem dX12_formula_163 : decode cX12_formula 163 = .ok (.aload_n 0, 1) := by decide +kernel
theorem dX12_formula_164 : decode cX12_formula 164 = .ok (.getfield 218, 3) := by decide +kernel
theorem dX12_formula_167 : decode cX12_formula 167 = .ok (.ifCond .ne 15, 3) := by decide +kernel
theorem dX12_formula_170 : decode cX12_formula 170 = .ok (.aload_n 0, 1) := by decide +kernel
theorem dX12_formula_171 : decode cX12_formula 171 = .ok (.invokevirtual 339, 3) := by decide +kernel
theorem dX12_formula_174 : decode cX12_formula 174 = .ok (.ifCond .eq 8, 3) := by decide +kernel
theorem dX12_formula_177 : decode cX12_formula 177 = .ok (.aload_n 0, 1) := by decide +kernel
theorem dX12_formula_178 : decode cX12_formula 178 = .ok (.iconst 2, 1) := by decide +kernel
theorem dX12_formula_179 : decode cX12_formula 179 = .ok (.invokevirtual 282, 3) := by decide +kernel
theorem dX12_formula_182 : decode cX12_formula 182 = .ok (.aload_n 0, 1) := by decide +kernel
theorem dX12_formula_183 : decode cX12_formula 183 = .ok (.getfield 218, 3) := by decide +kernel
theorem dX12_formula_186 : decode cX12_formula 186 = .ok (.ifCond .ne 8, 3) := by decide +kernel
theorem dX12_formula_189 : decode cX12_formula 189 = .ok (.aload_n 0, 1) := by decide +kernel
theorem dX12_formula_190 : decode cX12_formula 190 = .ok (.iconst 0, 1) := by decide +kernel
theorem dX12_formula_191 : decode cX12_formula 191 = .ok (.invokevirtual 342, 3) := by decide +kernel
theorem dX12_formula_194 : decode cX12_formula 194 = .ok (.return_, 1) := by decide +kernel
set_option maxHeartbeats 4000000 in
set_option maxRecDepth 100000 in
theorem n_formula (l : Launch) (D : va_G) (k : KT) (A : Nat → Prop) (a : Nat → Nat) (z : SK) (G : GS) (p0 : Int32) (ha_p0 : 0 ≤ p0.toInt ∧ p0.toInt ≤ 5) (hnf : (G.1 66 2).toInt = 0) (hE9 : gE G = 1) (hp9 : p0.toInt = (G.1 66 47).toInt) : Met l yX12_formula (WS yX12_formula cX12_formula 4 none) ({ frames := 4, cells := 0, slots := 0, locals := 86 }) (va_Pc [.ref (a 66), .int p0] (cW D k A a z G)) (va_Qv (fun (G1 : GS) => Bd G1 ∧ Fr [69, 70, 71, 75] [(66, 2), (66, 3), (66, 4), (66, 6), (66, 7), (66, 8), (66, 9), (66, 19), (66, 20), (66, 21), (66, 23), (66, 24)] G G1 ∧ ((G.1 66 4).toInt ≤ (G1.1 66 4).toInt ∧ ((G1.1 66 4).toInt = (G.1 66 4).toInt → (G1.1 66 6).toInt = (G.1 66 6).toInt ∨ (G1.1 66 6).toInt ≤ 3) ∧ ((G1.1 66 2).toInt = 0 → gC G1 = 1 ∧ (G1.1 66 19).toInt = p0.toInt))) (fun (G1 : GS) t => Wd D k A a G1 t.heap) A) 0 0 A := by
  refine Met.ofW (cc := cX12_formula) (maxL := 4) (ret := none) (by decide) rfl ?_
  intro p e s m args below meth c s₁ B hml hv
  obtain ⟨rfl, hW, hB_G, hK, hZ⟩ := hv
  have hx := B.exec
  have hb := B.bytes
  have hr := B.returns
  have hts := atoms_spec (ws := WS yX12_formula cX12_formula 4 none) B.pre
  have hgd : ∀ w ∈ gd, w ∈ WS yX12_formula cX12_formula 4 none := fun w h => List.mem_cons_of_mem _ h
  have hg : ∀ w ∈ gd, w.before _ s = true := fun w h => hts w (hgd w h)
  have hown : s.vm.findClass RX12 = some m.cls := findClass_of_methodNamed B.named
  have hS : va_S A s.heap s.heap [] := va_S.rf
  have hF : Fr [69, 70, 71, 75] [(66, 2), (66, 3), (66, 4), (66, 6), (66, 7), (66, 8), (66, 9), (66, 19), (66, 20), (66, 21), (66, 23), (66, 24)] G G := Fr.rf
  have hl := lv_entry ([.ref (a 66), .int p0]) (n := 4) (Nat.le_of_ble_eq_true rfl)
  rw [lg_entry_eq]
  generalize (lg_sl ([.ref (a 66), .int p0]) ++ List.replicate (4 - (lg_sl ([.ref (a 66), .int p0])).length) Slot.unset).toArray = ls at hl ⊢
  have hl : lv_has ls 4 [(0, .ref (a 66)), (1, .int p0)] := hl
  refine lv_aload_n hx hb dX12_formula_0 rfl (lv_at hl 0 rfl) ?_
  refine lv_iload_n hx hb dX12_formula_1 rfl (lv_at hl 1 rfl) ?_
  refine S_putI (ty := .int) (C := RX12) (T := TX12) (N := 89) hx hb hg iX12 tyX12 tyX12_ok nmX12 hown hK hW hS kd_66 rfl 19 (by decide) (hg (Cond.fieldLink RX12 296 "SlabWalkModel" "form" "I") m1333) (fun _ h9 => h9) rfl (by decide +kernel) rfl rfl rfl dX12_formula_2 (fun G_1 H locs eG_1 hW hS => ?_)
  have hB_G_1 : Bd G_1 := hB_G.put (V := p0.toInt) (lo := 0) (hi := 5) eG_1 rfl rfl rfl (by omega) (by omega) (hB_G.2.put eG_1 rfl)
  have hF := hF.put eG_1 (Or.inr (by decide))
  refine lv_aload_n hx hb dX12_formula_5 rfl (lv_at hl 0 rfl) ?_
  refine S_getR (n := 71) (C := RX12) (T := TX12) (N := 89) hx hb hg iX12 hown hK hW kd_66 rfl 13 (by decide) (hg (Cond.fieldLink RX12 27 "SlabWalkModel" "nMany" "[I") m1327) (fun _ h9 => h9) rfl dX12_formula_6 ?_
  refine lv_aload_n hx hb dX12_formula_9 rfl (lv_at hl 0 rfl) ?_
  refine S_getI (v := p0) (C := RX12) (T := TX12) (N := 89) hx hb hg iX12 hown hK hW kd_66 rfl 19 (by decide) (hg (Cond.fieldLink RX12 296 "SlabWalkModel" "form" "I") m1333) (fun _ h9 => h9) rfl (gp_eq eG_1) dX12_formula_10 ?_
  refine lv_iconst (v := 0) hx hb dX12_formula_13 (by decide) ?_
  refine S_iast hx hb hK hW hS kd_71 (vin (by omega) (by omega)) dX12_formula_14 (fun G_2 H locs eG_2 hW hS => ?_)
  have hB_G_2 : Bd G_2 := hB_G_1.put (V := 0) (lo := 0) (hi := 320) eG_2 rfl rfl rfl (by omega) (by omega) (hB_G_1.2.put eG_2 rfl)
  have hF := hF.put eG_2 (Or.inl (by decide))
  refine lv_aload_n hx hb dX12_formula_15 rfl (lv_at hl 0 rfl) ?_
  refine lv_iconst (v := 0) hx hb dX12_formula_16 (by decide) ?_
  refine S_putI (ty := .int) (C := RX12) (T := TX12) (N := 89) hx hb hg iX12 tyX12 tyX12_ok nmX12 hown hK hW hS kd_66 rfl 20 (by decide) (hg (Cond.fieldLink RX12 299 "SlabWalkModel" "opens" "I") m1334) (fun _ h9 => h9) rfl (by decide +kernel) rfl rfl rfl dX12_formula_17 (fun G_3 H locs eG_3 hW hS => ?_)
  have hB_G_3 : Bd G_3 := hB_G_2.put (V := 0) (lo := 0) (hi := 160) eG_3 rfl rfl rfl (by omega) (by omega) (hB_G_2.2.put eG_3 rfl)
  have hF := hF.put eG_3 (Or.inr (by decide))
  refine lv_aload_n hx hb dX12_formula_20 rfl (lv_at hl 0 rfl) ?_
  refine lv_iconst (v := 0) hx hb dX12_formula_21 (by decide) ?_
  refine S_putI (ty := .int) (C := RX12) (T := TX12) (N := 89) hx hb hg iX12 tyX12 tyX12_ok nmX12 hown hK hW hS kd_66 rfl 24 (by decide) (hg (Cond.fieldLink RX12 309 "SlabWalkModel" "deep" "I") m1338) (fun _ h9 => h9) rfl (by decide +kernel) rfl rfl rfl dX12_formula_22 (fun G_4 H locs eG_4 hW hS => ?_)
  have hB_G_4 : Bd G_4 := hB_G_3.put (V := 0) (lo := (-1)) (hi := 200) eG_4 rfl rfl rfl (by omega) (by omega) (hB_G_3.2.put eG_4 rfl)
  have hF := hF.put eG_4 (Or.inr (by decide))
  refine lv_aload_n hx hb dX12_formula_25 rfl (lv_at hl 0 rfl) ?_
  refine lv_iconst (v := 0) hx hb dX12_formula_26 (by decide) ?_
  refine S_putI (ty := .int) (C := RX12) (T := TX12) (N := 89) hx hb hg iX12 tyX12 tyX12_ok nmX12 hown hK hW hS kd_66 rfl 23 (by decide) (hg (Cond.fieldLink RX12 315 "SlabWalkModel" "ownUnits" "I") m1337) (fun _ h9 => h9) rfl (by decide +kernel) rfl rfl rfl dX12_formula_27 (fun G_5 H locs eG_5 hW hS => ?_)
  have hB_G_5 : Bd G_5 := hB_G_4.put (V := 0) (lo := 0) (hi := 40) eG_5 rfl rfl rfl (by omega) (by omega) (hB_G_4.2.put eG_5 rfl)
  have hF := hF.put eG_5 (Or.inr (by decide))
  have u_6 := form_gh (G := G) (G1 := G_5) hE9 ((gp_ne eG_5 (by decide)).trans ((gp_ne eG_4 (by decide)).trans ((gp_ne eG_3 (by decide)).trans ((gp_ne eG_2 (fun q => absurd q.1 (by decide))).trans (gp_eq eG_1))))) hp9 (fun j hj => ((gp_ne eG_5 (fun q => absurd q.1 (by decide))).trans ((gp_ne eG_4 (fun q => absurd q.1 (by decide))).trans ((gp_ne eG_3 (fun q => absurd q.1 (by decide))).trans ((gp_ne eG_2 (fun q => absurd q.1 (by decide))).trans (gp_ne eG_1 (fun q => absurd q.1 (by decide)))))))) (fun j hj => ((gp_ne eG_5 (fun q => absurd q.1 (by decide))).trans ((gp_ne eG_4 (fun q => absurd q.1 (by decide))).trans ((gp_ne eG_3 (fun q => absurd q.1 (by decide))).trans ((gp_ne eG_2 (fun q => hj q.2)).trans (gp_ne eG_1 (fun q => absurd q.1 (by decide)))))))) ((gp_ne eG_5 (fun q => absurd q.1 (by decide))).trans ((gp_ne eG_4 (fun q => absurd q.1 (by decide))).trans ((gp_ne eG_3 (fun q => absurd q.1 (by decide))).trans (gp_eq eG_2)))) ((gp_ne eG_5 (by decide)).trans ((gp_ne eG_4 (by decide)).trans (gp_eq eG_3)))
  refine lv_aload_n hx hb dX12_formula_30 rfl (lv_at hl 0 rfl) ?_
  have b_7 : 0 ≤ (G.1 66 2).toInt ∧ (G.1 66 2).toInt ≤ 4 := hB_G.i 66 2 rfl rfl
  have g_8 : (G_5.1 66 2).toInt = (G.1 66 2).toInt := by rw [show G_5.1 66 2 = (G.1 66 2) from ((gp_ne eG_5 (by decide)).trans ((gp_ne eG_4 (by decide)).trans ((gp_ne eG_3 (by decide)).trans ((gp_ne eG_2 (fun q => absurd q.1 (by decide))).trans (gp_ne eG_1 (by decide))))))]
  have g_9 : gB G_5 = gB G_3 := gB_fr (rs := []) (fs := [(66, 23), (66, 24)]) ((Fr.rf.put eG_4 (Or.inr (by decide))).put eG_5 (Or.inr (by decide))) (by decide) (by decide)
  have g_10 : gC G_5 = gC G_2 := gC_fr (rs := []) (fs := [(66, 20), (66, 23), (66, 24)]) (((Fr.rf.put eG_3 (Or.inr (by decide))).put eG_4 (Or.inr (by decide))).put eG_5 (Or.inr (by decide))) (by decide) (by decide)
  have g_11 : gD G_5 = gD G_2 := gD_fr (rs := []) (fs := [(66, 20), (66, 23), (66, 24)]) (((Fr.rf.put eG_3 (Or.inr (by decide))).put eG_4 (Or.inr (by decide))).put eG_5 (Or.inr (by decide))) (by decide) (by decide)
  have g_12 : gM G_5 = gM G_2 := gM_fr (rs := []) (fs := [(66, 20), (66, 23), (66, 24)]) (((Fr.rf.put eG_3 (Or.inr (by decide))).put eG_4 (Or.inr (by decide))).put eG_5 (Or.inr (by decide))) (by decide) (by decide)
  have g_13 : (G_5.1 66 20).toInt = 0 := by rw [show G_5.1 66 20 = 0 from ((gp_ne eG_5 (by decide)).trans ((gp_ne eG_4 (by decide)).trans (gp_eq eG_3)))]; rfl
  have g_14 : (G_5.1 66 23).toInt = 0 := by rw [show G_5.1 66 23 = 0 from (gp_eq eG_5)]; rfl
  have g_15 : (G_5.1 66 24).toInt = 0 := by rw [show G_5.1 66 24 = 0 from ((gp_ne eG_5 (by decide)).trans (gp_eq eG_4))]; rfl
  have g_16 : (G_5.1 66 23).toInt = 0 := by rw [show G_5.1 66 23 = 0 from (gp_eq eG_5)]; rfl
  have b_17 : 0 ≤ (G.1 66 4).toInt ∧ (G.1 66 4).toInt ≤ 1600 := hB_G.i 66 4 rfl rfl
  have g_18 : (G_5.1 66 4).toInt = (G.1 66 4).toInt := by rw [show G_5.1 66 4 = (G.1 66 4) from ((gp_ne eG_5 (by decide)).trans ((gp_ne eG_4 (by decide)).trans ((gp_ne eG_3 (by decide)).trans ((gp_ne eG_2 (fun q => absurd q.1 (by decide))).trans (gp_ne eG_1 (by decide))))))]
  have g_19 : (G_5.1 66 6).toInt = (G.1 66 6).toInt := by rw [show G_5.1 66 6 = (G.1 66 6) from ((gp_ne eG_5 (by decide)).trans ((gp_ne eG_4 (by decide)).trans ((gp_ne eG_3 (by decide)).trans ((gp_ne eG_2 (fun q => absurd q.1 (by decide))).trans (gp_ne eG_1 (by decide))))))]
  refine S_callv (va_runV (As := []) (rest := []) ⟨hx, hb, hml, hown, hts⟩ (n_unit l D k A a z G_5  (by omega) (by omega)) (cwV 0 hts (gd_V hgd m1714 m1716 m70 m131 m1717) rfl rfl rfl (by decide +kernel) ⟨Nat.le_of_ble_eq_true rfl, Nat.le_of_ble_eq_true rfl⟩) (pre_V hW hB_G_5 hK hZ hS kd_66 rfl) rfl rfl hl.1 rfl (lv_room (Nat.le_of_ble_eq_true rfl)) dX12_formula_31 ⟨Nat.le_of_ble_eq_true rfl, Nat.le_of_ble_eq_true rfl⟩) hS (fun G_21 H locs hpo hW hS => ?_)
  obtain ⟨hB_G_21, hq_22, hp_23⟩ := hpo
  have hF := hF.call hq_22 (by decide) (by decide)
  refine lv_iconst (v := 1) hx hb dX12_formula_34 (by decide) ?_
  refine lv_istore_n (lv' := [(2, .int 1), (0, .ref (a 66)), (1, .int p0)]) hx hb dX12_formula_35 rfl hl (by decide) rfl (fun ls hl => ?_)
  have b_29 : 0 ≤ (G_21.1 66 2).toInt ∧ (G_21.1 66 2).toInt ≤ 4 := hB_G_21.i 66 2 rfl rfl
  have b_30 : 0 ≤ (G_21.1 66 20).toInt ∧ (G_21.1 66 20).toInt ≤ 160 := hB_G_21.i 66 20 rfl rfl
  have b_31 : 0 ≤ (G_21.1 66 23).toInt ∧ (G_21.1 66 23).toInt ≤ 40 := hB_G_21.i 66 23 rfl rfl
  have b_32 : (-1) ≤ (G_21.1 66 24).toInt ∧ (G_21.1 66 24).toInt ≤ 200 := hB_G_21.i 66 24 rfl rfl
  have b_33 : 0 ≤ (G_21.1 66 4).toInt ∧ (G_21.1 66 4).toInt ≤ 1600 := hB_G_21.i 66 4 rfl rfl
  have qc_34 : (1 : Int32).toInt = 1 := rfl
  refine loop_N (Inv := fun n H locs ls => ∃ (G_24 : GS) (x_28 : Int32), (n : Int) = 4000 - 1000 * (G_24.1 66 2).toInt + 100 * (40 - (G_24.1 66 23).toInt) + (G_24.1 66 20).toInt + x_28.toInt ∧ (0 ≤ x_28.toInt ∧ x_28.toInt ≤ 1) ∧ ((G_24.1 66 2).toInt = 0 → gC G_24 = 1 ∧ gD G_24 = gB G_24 + 1 ∧ (G_24.1 66 24).toInt = (G_24.1 66 20).toInt - gB G_24 ∧ gD G_24 ≤ (G_24.1 66 23).toInt ∧ (G_24.1 66 23).toInt ≤ 30 ∧ gM G_24 + (G_24.1 66 20).toInt ≤ 10 * (G_24.1 66 23).toInt ∧ (G_24.1 66 24).toInt ≤ 7) ∧ ((G.1 66 4).toInt ≤ (G_24.1 66 4).toInt ∧ ((G_24.1 66 4).toInt = (G.1 66 4).toInt → (G_24.1 66 6).toInt = (G.1 66 6).toInt ∨ (G_24.1 66 6).toInt ≤ 3)) ∧ Wd D k A a G_24 H ∧ Bd G_24 ∧ Fr [69, 70, 71, 75] [(66, 2), (66, 3), (66, 4), (66, 6), (66, 7), (66, 8), (66, 9), (66, 19), (66, 20), (66, 21), (66, 23), (66, 24)] G G_24 ∧ Fr [69, 70, 71, 75] [(66, 2), (66, 3), (66, 4), (66, 6), (66, 7), (66, 8), (66, 9), (66, 20), (66, 21), (66, 23), (66, 24)] G_21 G_24 ∧ va_S A s.heap H locs ∧ lv_has ls 4 [(2, .int x_28), (0, .ref (a 66))]) (fun n_27 H locs ls ih_26 hI => ?_) (4000 - 1000 * (G_21.1 66 2).toInt + 100 * (40 - (G_21.1 66 23).toInt) + (G_21.1 66 20).toInt + 1 : Int).toNat ⟨G_21, 1, (Int.toNat_of_nonneg (by omega)), ⟨by omega, by omega⟩, (by omega), (by omega), hW, hB_G_21, hF, Fr.rf, hS, lv_sub hl [0, 1] rfl⟩
  obtain ⟨G_24, x_28, hn_38, f_35, f_36, f_37, hW, hB_G_24, hF, hq_25, hS, hl⟩ := hI
  have b_39 : 0 ≤ (G_24.1 66 2).toInt ∧ (G_24.1 66 2).toInt ≤ 4 := hB_G_24.i 66 2 rfl rfl
  have b_40 : 0 ≤ (G_24.1 66 20).toInt ∧ (G_24.1 66 20).toInt ≤ 160 := hB_G_24.i 66 20 rfl rfl
  have b_41 : 0 ≤ (G_24.1 66 23).toInt ∧ (G_24.1 66 23).toInt ≤ 40 := hB_G_24.i 66 23 rfl rfl
  have b_42 : (-1) ≤ (G_24.1 66 24).toInt ∧ (G_24.1 66 24).toInt ≤ 200 := hB_G_24.i 66 24 rfl rfl
  have b_43 : 0 ≤ (G_24.1 66 4).toInt ∧ (G_24.1 66 4).toInt ≤ 1600 := hB_G_24.i 66 4 rfl rfl
  have u_44 := gh_pos (G := G_24) (by omega)
  refine lv_iload_n hx hb dX12_formula_36 rfl (lv_at hl 0 rfl) ?_
  refine W.cut (σ := Unit) (pcJ := 163) (J := fun y H locs ls => ∃ (G_46 : GS), Wd D k A a G_46 H ∧ Bd G_46 ∧ Fr [69, 70, 71, 75] [(66, 2), (66, 3), (66, 4), (66, 6), (66, 7), (66, 8), (66, 9), (66, 19), (66, 20), (66, 21), (66, 23), (66, 24)] G G_46 ∧ Fr [] [] G_24 G_46 ∧ va_S A s.heap H locs ∧ lv_has ls 4 [(0, .ref (a 66))]) (stJ := fun _ => []) ?_ (fun hJ_47 => ?_)
  · intro y H locs ls hI
    obtain ⟨G_46, hW, hB_G_46, hF, hq_48, hS, hl⟩ := hI
    refine lv_aload_n hx hb dX12_formula_163 rfl (lv_at hl 0 rfl) ?_
    refine S_getI (v := (G_24.1 66 2)) (C := RX12) (T := TX12) (N := 89) hx hb hg iX12 hown hK hW kd_66 rfl 2 (by decide) (hg (Cond.fieldLink RX12 218 "SlabWalkModel" "fault" "I") m1316) (fun _ h9 => h9) rfl ((hq_48.i 66 2 (by decide) (by decide)).trans (rfl)) dX12_formula_164 ?_
    refine lv_if_ne (tgt := 182) hx hb dX12_formula_167 (by decide) (fun c_49 => ?_) (fun c_49 => ?_)
    · have c_49 : (G_24.1 66 2).toInt ≠ 0 := xI_ne rfl rfl c_49
      refine lv_aload_n hx hb dX12_formula_182 rfl (lv_at hl 0 rfl) ?_
      refine S_getI (v := (G_24.1 66 2)) (C := RX12) (T := TX12) (N := 89) hx hb hg iX12 hown hK hW kd_66 rfl 2 (by decide) (hg (Cond.fieldLink RX12 218 "SlabWalkModel" "fault" "I") m1316) (fun _ h9 => h9) rfl ((hq_48.i 66 2 (by decide) (by decide)).trans (rfl)) dX12_formula_183 ?_
      refine lv_if_ne (tgt := 194) hx hb dX12_formula_186 (by decide) (fun c_50 => ?_) (fun c_50 => ?_)
      · have c_50 : (G_24.1 66 2).toInt ≠ 0 := xI_ne rfl rfl c_50
        have g_51 : gC G_46 = gC G_24 := gC_fr (rs := []) (fs := []) (Fr.rf.call hq_48 (by decide) (by decide)) (by decide) (by decide)
        have g_52 : (G_46.1 66 19).toInt = p0.toInt := by rw [show G_46.1 66 19 = p0 from ((hq_48.i 66 19 (by decide) (by decide)).trans ((hq_25.i 66 19 (by decide) (by decide)).trans ((hq_22.i 66 19 (by decide) (by decide)).trans ((gp_ne eG_5 (by decide)).trans ((gp_ne eG_4 (by decide)).trans ((gp_ne eG_3 (by decide)).trans ((gp_ne eG_2 (fun q => absurd q.1 (by decide))).trans (gp_eq eG_1))))))))]
        have g_53 : (G_46.1 66 2).toInt = (G_24.1 66 2).toInt := by rw [show G_46.1 66 2 = (G_24.1 66 2) from ((hq_48.i 66 2 (by decide) (by decide)).trans (rfl))]
        have g_54 : (G_46.1 66 4).toInt = (G_24.1 66 4).toInt := by rw [show G_46.1 66 4 = (G_24.1 66 4) from ((hq_48.i 66 4 (by decide) (by decide)).trans (rfl))]
        have g_55 : (G_46.1 66 6).toInt = (G_24.1 66 6).toInt := by rw [show G_46.1 66 6 = (G_24.1 66 6) from ((hq_48.i 66 6 (by decide) (by decide)).trans (rfl))]
        exact W.vret hx hb hr (fun t ht _ => ⟨⟨G_46, rfl, ⟨hB_G_46, hF, (by omega)⟩, wd_t ht hW⟩, hS.F ht⟩) hS.2.2 dX12_formula_194
      · have c_50 : (G_24.1 66 2).toInt = 0 := xI_eq rfl rfl c_50
        exfalso; omega
    · have c_49 : (G_24.1 66 2).toInt = 0 := xI_eq rfl rfl c_49
      refine lv_aload_n hx hb dX12_formula_170 rfl (lv_at hl 0 rfl) ?_
      have g_56 : gK G_46 = gK G_24 := gK_fr (rs := []) (fs := []) (Fr.rf.call hq_48 (by decide) (by decide)) (by decide) (by decide)
      refine S_calli (va_runV (As := []) (rest := []) ⟨hx, hb, hml, hown, hts⟩ (n_hasBracket l D k A a z G_46  ) (cwV 0 hts (gd_V hgd m1749 m1751 m78 m131 m1752) rfl rfl rfl (by decide +kernel) ⟨Nat.le_of_ble_eq_true rfl, Nat.le_of_ble_eq_true rfl⟩) (pre_V hW hB_G_46 hK hZ hS kd_66 rfl) rfl rfl hl.1 rfl (lv_room (Nat.le_of_ble_eq_true rfl)) dX12_formula_171 ⟨Nat.le_of_ble_eq_true rfl, Nat.le_of_ble_eq_true rfl⟩) hS (fun r_57 G_58 H locs hpo hW hS => ?_)
      obtain ⟨hB_G_58, hq_59, f_61, hp_60⟩ := hpo
      have hF := hF.call hq_59 (by decide) (by decide)
      refine lv_if_eq (tgt := 182) hx hb dX12_formula_174 (by decide) (fun c_62 => ?_) (fun c_62 => ?_)
      · have c_62 : r_57.toInt = 0 := xI_eq rfl rfl c_62
        refine lv_aload_n hx hb dX12_formula_182 rfl (lv_at hl 0 rfl) ?_
        refine S_getI (v := (G_24.1 66 2)) (C := RX12) (T := TX12) (N := 89) hx hb hg iX12 hown hK hW kd_66 rfl 2 (by decide) (hg (Cond.fieldLink RX12 218 "SlabWalkModel" "fault" "I") m1316) (fun _ h9 => h9) rfl ((hq_59.i 66 2 (by decide) (by decide)).trans ((hq_48.i 66 2 (by decide) (by decide)).trans (rfl))) dX12_formula_183 ?_
        refine lv_if_ne (tgt := 194) hx hb dX12_formula_186 (by decide) (fun c_63 => ?_) (fun c_63 => ?_)
        · have c_63 : (G_24.1 66 2).toInt ≠ 0 := xI_ne rfl rfl c_63
          exfalso; omega
        · have c_63 : (G_24.1 66 2).toInt = 0 := xI_eq rfl rfl c_63
          refine lv_aload_n hx hb dX12_formula_189 rfl (lv_at hl 0 rfl) ?_
          refine lv_iconst (v := 0) hx hb dX12_formula_190 (by decide) ?_
          have g_64 : gB G_58 = gB G_24 := gB_fr (rs := []) (fs := []) ((Fr.rf.call hq_48 (by decide) (by decide)).call hq_59 (by decide) (by decide)) (by decide) (by decide)
          have g_65 : gC G_58 = gC G_24 := gC_fr (rs := []) (fs := []) ((Fr.rf.call hq_48 (by decide) (by decide)).call hq_59 (by decide) (by decide)) (by decide) (by decide)
          have g_66 : gD G_58 = gD G_24 := gD_fr (rs := []) (fs := []) ((Fr.rf.call hq_48 (by decide) (by decide)).call hq_59 (by decide) (by decide)) (by decide) (by decide)
          have g_67 : gM G_58 = gM G_24 := gM_fr (rs := []) (fs := []) ((Fr.rf.call hq_48 (by decide) (by decide)).call hq_59 (by decide) (by decide)) (by decide) (by decide)
          have g_68 : (G_58.1 66 20).toInt = (G_24.1 66 20).toInt := by rw [show G_58.1 66 20 = (G_24.1 66 20) from ((hq_59.i 66 20 (by decide) (by decide)).trans ((hq_48.i 66 20 (by decide) (by decide)).trans (rfl)))]
          have g_69 : (G_58.1 66 24).toInt = (G_24.1 66 24).toInt := by rw [show G_58.1 66 24 = (G_24.1 66 24) from ((hq_59.i 66 24 (by decide) (by decide)).trans ((hq_48.i 66 24 (by decide) (by decide)).trans (rfl)))]
          have qc_70 : (0 : Int32).toInt = 0 := rfl
          have g_71 : gK G_58 = gK G_24 := gK_fr (rs := []) (fs := []) ((Fr.rf.call hq_48 (by decide) (by decide)).call hq_59 (by decide) (by decide)) (by decide) (by decide)
          have g_72 : (G_58.1 66 20).toInt = (G_24.1 66 20).toInt := by rw [show G_58.1 66 20 = (G_24.1 66 20) from ((hq_59.i 66 20 (by decide) (by decide)).trans ((hq_48.i 66 20 (by decide) (by decide)).trans (rfl)))]
          have g_73 : (G_58.1 66 24).toInt = (G_24.1 66 24).toInt := by rw [show G_58.1 66 24 = (G_24.1 66 24) from ((hq_59.i 66 24 (by decide) (by decide)).trans ((hq_48.i 66 24 (by decide) (by decide)).trans (rfl)))]
          refine S_callv (va_runV (As := [.int 0]) (rest := []) ⟨hx, hb, hml, hown, hts⟩ (n_close l D k A a z G_58 0 (by omega)) (cwV 1 hts (gd_V hgd m1753 m1755 m79 m131 m1756) rfl rfl rfl (by decide +kernel) ⟨Nat.le_of_ble_eq_true rfl, Nat.le_of_ble_eq_true rfl⟩) (pre_V hW hB_G_58 hK hZ hS kd_66 rfl) rfl rfl hl.1 rfl (lv_room (Nat.le_of_ble_eq_true rfl)) dX12_formula_191 ⟨Nat.le_of_ble_eq_true rfl, Nat.le_of_ble_eq_true rfl⟩) hS (fun G_75 H locs hpo hW hS => ?_)
          obtain ⟨hB_G_75, hq_76, hp_77⟩ := hpo
          have hF := hF.call hq_76 (by decide) (by decide)
          have g_78 : (G_75.1 66 19).toInt = p0.toInt := by rw [show G_75.1 66 19 = p0 from ((hq_76.i 66 19 (by decide) (by decide)).trans ((hq_59.i 66 19 (by decide) (by decide)).trans ((hq_48.i 66 19 (by decide) (by decide)).trans ((hq_25.i 66 19 (by decide) (by decide)).trans ((hq_22.i 66 19 (by decide) (by decide)).trans ((gp_ne eG_5 (by decide)).trans ((gp_ne eG_4 (by decide)).trans ((gp_ne eG_3 (by decide)).trans ((gp_ne eG_2 (fun q => absurd q.1 (by decide))).trans (gp_eq eG_1))))))))))]
          have g_79 : (G_75.1 66 2).toInt = (G_24.1 66 2).toInt := by rw [show G_75.1 66 2 = (G_24.1 66 2) from ((hq_76.i 66 2 (by decide) (by decide)).trans ((hq_59.i 66 2 (by decide) (by decide)).trans ((hq_48.i 66 2 (by decide) (by decide)).trans (rfl))))]
          have g_80 : (G_75.1 66 4).toInt = (G_24.1 66 4).toInt := by rw [show G_75.1 66 4 = (G_24.1 66 4) from ((hq_76.i 66 4 (by decide) (by decide)).trans ((hq_59.i 66 4 (by decide) (by decide)).trans ((hq_48.i 66 4 (by decide) (by decide)).trans (rfl))))]
          have g_81 : (G_75.1 66 6).toInt = (G_24.1 66 6).toInt := by rw [show G_75.1 66 6 = (G_24.1 66 6) from ((hq_76.i 66 6 (by decide) (by decide)).trans ((hq_59.i 66 6 (by decide) (by decide)).trans ((hq_48.i 66 6 (by decide) (by decide)).trans (rfl))))]
          exact W.vret hx hb hr (fun t ht _ => ⟨⟨G_75, rfl, ⟨hB_G_75, hF, (by omega)⟩, wd_t ht hW⟩, hS.F ht⟩) hS.2.2 dX12_formula_194
      · have c_62 : r_57.toInt ≠ 0 := xI_ne rfl rfl c_62
        refine lv_aload_n hx hb dX12_formula_177 rfl (lv_at hl 0 rfl) ?_
        refine lv_iconst (v := 2) hx hb dX12_formula_178 (by decide) ?_
        have qc_82 : (2 : Int32).toInt = 2 := rfl
        refine S_callv (va_runV (As := [.int 2]) (rest := []) ⟨hx, hb, hml, hown, hts⟩ (n_wrong l D k A a z G_58 2 ⟨by decide, by decide⟩) (cwV 1 hts (gd_V hgd m1670 m1672 m59 m131 m1673) rfl rfl rfl (by decide +kernel) ⟨Nat.le_of_ble_eq_true rfl, Nat.le_of_ble_eq_true rfl⟩) (pre_V hW hB_G_58 hK hZ hS kd_66 rfl) rfl rfl hl.1 rfl (lv_room (Nat.le_of_ble_eq_true rfl)) dX12_formula_179 ⟨Nat.le_of_ble_eq_true rfl, Nat.le_of_ble_eq_true rfl⟩) hS (fun G_84 H locs hpo hW hS => ?_)
        obtain ⟨hB_G_84, hq_85, hp_86⟩ := hpo
        have hF := hF.call hq_85 (by decide) (by decide)
        refine lv_aload_n hx hb dX12_formula_182 rfl (lv_at hl 0 rfl) ?_
        have b_87 : 0 ≤ (G_84.1 66 2).toInt ∧ (G_84.1 66 2).toInt ≤ 4 := hB_G_84.i 66 2 rfl rfl
        refine S_getI (v := (G_84.1 66 2)) (C := RX12) (T := TX12) (N := 89) hx hb hg iX12 hown hK hW kd_66 rfl 2 (by decide) (hg (Cond.fieldLink RX12 218 "SlabWalkModel" "fault" "I") m1316) (fun _ h9 => h9) rfl rfl dX12_formula_183 ?_
        refine lv_if_ne (tgt := 194) hx hb dX12_formula_186 (by decide) (fun c_88 => ?_) (fun c_88 => ?_)
        · have c_88 : (G_84.1 66 2).toInt ≠ 0 := xI_ne rfl rfl c_88
          have g_89 : gC G_84 = gC G_24 := gC_fr (rs := []) (fs := [(66, 2), (66, 3)]) (((Fr.rf.call hq_48 (by decide) (by decide)).call hq_59 (by decide) (by decide)).call hq_85 (by decide) (by decide)) (by decide) (by decide)
          have g_90 : (G_84.1 66 19).toInt = p0.toInt := by rw [show G_84.1 66 19 = p0 from ((hq_85.i 66 19 (by decide) (by decide)).trans ((hq_59.i 66 19 (by decide) (by decide)).trans ((hq_48.i 66 19 (by decide) (by decide)).trans ((hq_25.i 66 19 (by decide) (by decide)).trans ((hq_22.i 66 19 (by decide) (by decide)).trans ((gp_ne eG_5 (by decide)).trans ((gp_ne eG_4 (by decide)).trans ((gp_ne eG_3 (by decide)).trans ((gp_ne eG_2 (fun q => absurd q.1 (by decide))).trans (gp_eq eG_1))))))))))]
          have g_91 : (G_84.1 66 4).toInt = (G_24.1 66 4).toInt := by rw [show G_84.1 66 4 = (G_24.1 66 4) from ((hq_85.i 66 4 (by decide) (by decide)).trans ((hq_59.i 66 4 (by decide) (by decide)).trans ((hq_48.i 66 4 (by decide) (by decide)).trans (rfl))))]
          have g_92 : (G_84.1 66 6).toInt = (G_24.1 66 6).toInt := by rw [show G_84.1 66 6 = (G_24.1 66 6) from ((hq_85.i 66 6 (by decide) (by decide)).trans ((hq_59.i 66 6 (by decide) (by decide)).trans ((hq_48.i 66 6 (by decide) (by decide)).trans (rfl))))]
          exact W.vret hx hb hr (fun t ht _ => ⟨⟨G_84, rfl, ⟨hB_G_84, hF, (by omega)⟩, wd_t ht hW⟩, hS.F ht⟩) hS.2.2 dX12_formula_194
        · have c_88 : (G_84.1 66 2).toInt = 0 := xI_eq rfl rfl c_88
          refine lv_aload_n hx hb dX12_formula_189 rfl (lv_at hl 0 rfl) ?_
          refine lv_iconst (v := 0) hx hb dX12_formula_190 (by decide) ?_
          have g_93 : gB G_84 = gB G_24 := gB_fr (rs := []) (fs := [(66, 2), (66, 3)]) (((Fr.rf.call hq_48 (by decide) (by decide)).call hq_59 (by decide) (by decide)).call hq_85 (by decide) (by decide)) (by decide) (by decide)
          have g_94 : gC G_84 = gC G_24 := gC_fr (rs := []) (fs := [(66, 2), (66, 3)]) (((Fr.rf.call hq_48 (by decide) (by decide)).call hq_59 (by decide) (by decide)).call hq_85 (by decide) (by decide)) (by decide) (by decide)
          have g_95 : gD G_84 = gD G_24 := gD_fr (rs := []) (fs := [(66, 2), (66, 3)]) (((Fr.rf.call hq_48 (by decide) (by decide)).call hq_59 (by decide) (by decide)).call hq_85 (by decide) (by decide)) (by decide) (by decide)
          have g_96 : gM G_84 = gM G_24 := gM_fr (rs := []) (fs := [(66, 2), (66, 3)]) (((Fr.rf.call hq_48 (by decide) (by decide)).call hq_59 (by decide) (by decide)).call hq_85 (by decide) (by decide)) (by decide) (by decide)
          have g_97 : (G_84.1 66 20).toInt = (G_24.1 66 20).toInt := by rw [show G_84.1 66 20 = (G_24.1 66 20) from ((hq_85.i 66 20 (by decide) (by decide)).trans ((hq_59.i 66 20 (by decide) (by decide)).trans ((hq_48.i 66 20 (by decide) (by decide)).trans (rfl))))]
          have g_98 : (G_84.1 66 24).toInt = (G_24.1 66 24).toInt := by rw [show G_84.1 66 24 = (G_24.1 66 24) from ((hq_85.i 66 24 (by decide) (by decide)).trans ((hq_59.i 66 24 (by decide) (by decide)).trans ((hq_48.i 66 24 (by decide) (by decide)).trans (rfl))))]
          have qc_99 : (0 : Int32).toInt = 0 := rfl
          have g_100 : gK G_84 = gK G_24 := gK_fr (rs := []) (fs := [(66, 2), (66, 3)]) (((Fr.rf.call hq_48 (by decide) (by decide)).call hq_59 (by decide) (by decide)).call hq_85 (by decide) (by decide)) (by decide) (by decide)
          have g_101 : (G_84.1 66 20).toInt = (G_24.1 66 20).toInt := by rw [show G_84.1 66 20 = (G_24.1 66 20) from ((hq_85.i 66 20 (by decide) (by decide)).trans ((hq_59.i 66 20 (by decide) (by decide)).trans ((hq_48.i 66 20 (by decide) (by decide)).trans (rfl))))]
          have g_102 : (G_84.1 66 24).toInt = (G_24.1 66 24).toInt := by rw [show G_84.1 66 24 = (G_24.1 66 24) from ((hq_85.i 66 24 (by decide) (by decide)).trans ((hq_59.i 66 24 (by decide) (by decide)).trans ((hq_48.i 66 24 (by decide) (by decide)).trans (rfl))))]
          refine S_callv (va_runV (As := [.int 0]) (rest := []) ⟨hx, hb, hml, hown, hts⟩ (n_close l D k A a z G_84 0 (by omega)) (cwV 1 hts (gd_V hgd m1753 m1755 m79 m131 m1756) rfl rfl rfl (by decide +kernel) ⟨Nat.le_of_ble_eq_true rfl, Nat.le_of_ble_eq_true rfl⟩) (pre_V hW hB_G_84 hK hZ hS kd_66 rfl) rfl rfl hl.1 rfl (lv_room (Nat.le_of_ble_eq_true rfl)) dX12_formula_191 ⟨Nat.le_of_ble_eq_true rfl, Nat.le_of_ble_eq_true rfl⟩) hS (fun G_104 H locs hpo hW hS => ?_)
          obtain ⟨hB_G_104, hq_105, hp_106⟩ := hpo
          have hF := hF.call hq_105 (by decide) (by decide)
          have g_107 : (G_104.1 66 19).toInt = p0.toInt := by rw [show G_104.1 66 19 = p0 from ((hq_105.i 66 19 (by decide) (by decide)).trans ((hq_85.i 66 19 (by decide) (by decide)).trans ((hq_59.i 66 19 (by decide) (by decide)).trans ((hq_48.i 66 19 (by decide) (by decide)).trans ((hq_25.i 66 19 (by decide) (by decide)).trans ((hq_22.i 66 19 (by decide) (by decide)).trans ((gp_ne eG_5 (by decide)).trans ((gp_ne eG_4 (by decide)).trans ((gp_ne eG_3 (by decide)).trans ((gp_ne eG_2 (fun q => absurd q.1 (by decide))).trans (gp_eq eG_1)))))))))))]
          have g_108 : (G_104.1 66 2).toInt = (G_84.1 66 2).toInt := by rw [show G_104.1 66 2 = (G_84.1 66 2) from ((hq_105.i 66 2 (by decide) (by decide)).trans (rfl))]
          have g_109 : (G_104.1 66 4).toInt = (G_24.1 66 4).toInt := by rw [show G_104.1 66 4 = (G_24.1 66 4) from ((hq_105.i 66 4 (by decide) (by decide)).trans ((hq_85.i 66 4 (by decide) (by decide)).trans ((hq_59.i 66 4 (by decide) (by decide)).trans ((hq_48.i 66 4 (by decide) (by decide)).trans (rfl)))))]
          have g_110 : (G_104.1 66 6).toInt = (G_24.1 66 6).toInt := by rw [show G_104.1 66 6 = (G_24.1 66 6) from ((hq_105.i 66 6 (by decide) (by decide)).trans ((hq_85.i 66 6 (by decide) (by decide)).trans ((hq_59.i 66 6 (by decide) (by decide)).trans ((hq_48.i 66 6 (by decide) (by decide)).trans (rfl)))))]
          exact W.vret hx hb hr (fun t ht _ => ⟨⟨G_104, rfl, ⟨hB_G_104, hF, (by omega)⟩, wd_t ht hW⟩, hS.F ht⟩) hS.2.2 dX12_formula_194
  refine lv_if_eq (tgt := 163) hx hb dX12_formula_37 (by decide) (fun c_111 => ?_) (fun c_111 => ?_)
  · have c_111 : x_28.toInt = 0 := xI_eq rfl rfl c_111
    exact hJ_47 () _ _ _ ⟨G_24, hW, hB_G_24, hF, Fr.rf, hS, lv_sub hl [1] rfl⟩
  · have c_111 : x_28.toInt ≠ 0 := xI_ne rfl rfl c_111
    refine lv_aload_n hx hb dX12_formula_40 rfl (lv_at hl 1 rfl) ?_
    refine S_getI (v := (G_24.1 66 2)) (C := RX12) (T := TX12) (N := 89) hx hb hg iX12 hown hK hW kd_66 rfl 2 (by decide) (hg (Cond.fieldLink RX12 218 "SlabWalkModel" "fault" "I") m1316) (fun _ h9 => h9) rfl rfl dX12_formula_41 ?_
    refine lv_if_ne (tgt := 163) hx hb dX12_formula_44 (by decide) (fun c_112 => ?_) (fun c_112 => ?_)
    · have c_112 : (G_24.1 66 2).toInt ≠ 0 := xI_ne rfl rfl c_112
      exact hJ_47 () _ _ _ ⟨G_24, hW, hB_G_24, hF, Fr.rf, hS, lv_sub hl [1] rfl⟩
    · have c_112 : (G_24.1 66 2).toInt = 0 := xI_eq rfl rfl c_112
      refine lv_aload_n hx hb dX12_formula_47 rfl (lv_at hl 1 rfl) ?_
      refine S_calli (va_runV (As := []) (rest := []) ⟨hx, hb, hml, hown, hts⟩ (n_signOf l D k A a z G_24  ) (cwV 0 hts (gd_V hgd m1745 m1747 m77 m131 m1748) rfl rfl rfl (by decide +kernel) ⟨Nat.le_of_ble_eq_true rfl, Nat.le_of_ble_eq_true rfl⟩) (pre_V hW hB_G_24 hK hZ hS kd_66 rfl) rfl rfl hl.1 rfl (lv_room (Nat.le_of_ble_eq_true rfl)) dX12_formula_48 ⟨Nat.le_of_ble_eq_true rfl, Nat.le_of_ble_eq_true rfl⟩) hS (fun r_113 G_114 H locs hpo hW hS => ?_)
      obtain ⟨hB_G_114, hq_115, f_117, hp_116⟩ := hpo
      have hF := hF.call hq_115 (by decide) (by decide)
      refine lv_istore_n (lv' := [(3, .int r_113), (2, .int x_28), (0, .ref (a 66))]) hx hb dX12_formula_51 rfl hl (by decide) rfl (fun ls hl => ?_)
      refine lv_aload_n hx hb dX12_formula_52 rfl (lv_at hl 2 rfl) ?_
      refine S_getI (v := (G_24.1 66 6)) (C := RX12) (T := TX12) (N := 89) hx hb hg iX12 hown hK hW kd_66 rfl 6 (by decide) (hg (Cond.fieldLink RX12 205 "SlabWalkModel" "sort" "I") m1320) (fun _ h9 => h9) rfl ((hq_115.i 66 6 (by decide) (by decide)).trans (rfl)) dX12_formula_53 ?_
      refine lv_bipush (v := 41) hx hb dX12_formula_56 (by decide) ?_
      refine W.cut (σ := Unit) (pcJ := 100) (J := fun y H locs ls => ∃ (G_121 : GS), Wd D k A a G_121 H ∧ Bd G_121 ∧ Fr [69, 70, 71, 75] [(66, 2), (66, 3), (66, 4), (66, 6), (66, 7), (66, 8), (66, 9), (66, 19), (66, 20), (66, 21), (66, 23), (66, 24)] G G_121 ∧ Fr [] [] G_114 G_121 ∧ va_S A s.heap H locs ∧ lv_has ls 4 [(3, .int r_113), (2, .int x_28), (0, .ref (a 66))]) (stJ := fun _ => []) ?_ (fun hJ_122 => ?_)
      · intro y H locs ls hI
        obtain ⟨G_121, hW, hB_G_121, hF, hq_123, hS, hl⟩ := hI
        refine lv_iload_n hx hb dX12_formula_100 rfl (lv_at hl 0 rfl) ?_
        refine lv_if_eq (tgt := 158) hx hb dX12_formula_101 (by decide) (fun c_124 => ?_) (fun c_124 => ?_)
        · have c_124 : r_113.toInt = 0 := xI_eq rfl rfl c_124
          refine lv_iconst (v := 0) hx hb dX12_formula_158 (by decide) ?_
          refine lv_istore_n (lv' := [(2, .int 0), (3, .int r_113), (0, .ref (a 66))]) hx hb dX12_formula_159 rfl hl (by decide) rfl (fun ls hl => ?_)
          refine lv_goto (tgt := 36) hx hb dX12_formula_160 (by decide) ?_
          have g_125 : (G_121.1 66 2).toInt = (G_24.1 66 2).toInt := by rw [show G_121.1 66 2 = (G_24.1 66 2) from ((hq_123.i 66 2 (by decide) (by decide)).trans ((hq_115.i 66 2 (by decide) (by decide)).trans (rfl)))]
          have g_126 : (G_121.1 66 20).toInt = (G_24.1 66 20).toInt := by rw [show G_121.1 66 20 = (G_24.1 66 20) from ((hq_123.i 66 20 (by decide) (by decide)).trans ((hq_115.i 66 20 (by decide) (by decide)).trans (rfl)))]
          have g_127 : (G_121.1 66 23).toInt = (G_24.1 66 23).toInt := by rw [show G_121.1 66 23 = (G_24.1 66 23) from ((hq_123.i 66 23 (by decide) (by decide)).trans ((hq_115.i 66 23 (by decide) (by decide)).trans (rfl)))]
          have g_128 : gB G_121 = gB G_24 := gB_fr (rs := []) (fs := []) ((Fr.rf.call hq_115 (by decide) (by decide)).call hq_123 (by decide) (by decide)) (by decide) (by decide)
          have g_129 : gC G_121 = gC G_24 := gC_fr (rs := []) (fs := []) ((Fr.rf.call hq_115 (by decide) (by decide)).call hq_123 (by decide) (by decide)) (by decide) (by decide)
          have g_130 : gD G_121 = gD G_24 := gD_fr (rs := []) (fs := []) ((Fr.rf.call hq_115 (by decide) (by decide)).call hq_123 (by decide) (by decide)) (by decide) (by decide)
          have g_131 : gM G_121 = gM G_24 := gM_fr (rs := []) (fs := []) ((Fr.rf.call hq_115 (by decide) (by decide)).call hq_123 (by decide) (by decide)) (by decide) (by decide)
          have g_132 : (G_121.1 66 2).toInt = (G_24.1 66 2).toInt := by rw [show G_121.1 66 2 = (G_24.1 66 2) from ((hq_123.i 66 2 (by decide) (by decide)).trans ((hq_115.i 66 2 (by decide) (by decide)).trans (rfl)))]
          have g_133 : (G_121.1 66 20).toInt = (G_24.1 66 20).toInt := by rw [show G_121.1 66 20 = (G_24.1 66 20) from ((hq_123.i 66 20 (by decide) (by decide)).trans ((hq_115.i 66 20 (by decide) (by decide)).trans (rfl)))]
          have g_134 : (G_121.1 66 23).toInt = (G_24.1 66 23).toInt := by rw [show G_121.1 66 23 = (G_24.1 66 23) from ((hq_123.i 66 23 (by decide) (by decide)).trans ((hq_115.i 66 23 (by decide) (by decide)).trans (rfl)))]
          have g_135 : (G_121.1 66 24).toInt = (G_24.1 66 24).toInt := by rw [show G_121.1 66 24 = (G_24.1 66 24) from ((hq_123.i 66 24 (by decide) (by decide)).trans ((hq_115.i 66 24 (by decide) (by decide)).trans (rfl)))]
          have g_136 : (G_121.1 66 4).toInt = (G_24.1 66 4).toInt := by rw [show G_121.1 66 4 = (G_24.1 66 4) from ((hq_123.i 66 4 (by decide) (by decide)).trans ((hq_115.i 66 4 (by decide) (by decide)).trans (rfl)))]
          have g_137 : (G_121.1 66 6).toInt = (G_24.1 66 6).toInt := by rw [show G_121.1 66 6 = (G_24.1 66 6) from ((hq_123.i 66 6 (by decide) (by decide)).trans ((hq_115.i 66 6 (by decide) (by decide)).trans (rfl)))]
          have qc_138 : (0 : Int32).toInt = 0 := rfl
          exact ih_26 (4000 - 1000 * (G_121.1 66 2).toInt + 100 * (40 - (G_121.1 66 23).toInt) + (G_121.1 66 20).toInt + 0 : Int).toNat (by omega) _ _ _ ⟨G_121, 0, (Int.toNat_of_nonneg (by omega)), ⟨by omega, by omega⟩, (by omega), (by omega), hW, hB_G_121, hF, (((Fr.rf.call hq_25 (by decide) (by decide)).call hq_115 (by decide) (by decide)).call hq_123 (by decide) (by decide)), hS, lv_sub hl [0, 2] rfl⟩
        · have c_124 : r_113.toInt ≠ 0 := xI_ne rfl rfl c_124
          refine lv_iload_n hx hb dX12_formula_104 rfl (lv_at hl 0 rfl) ?_
          refine S_calli (va_runS (As := [.int r_113]) (rest := []) ⟨hx, hb, hml, hown, hts⟩ (n_tight l D k A a z G_121 r_113 ) (va_cwS 1 hts (gd_S hgd m1722 m1723 m131 m1724) rfl rfl rfl (by decide +kernel) ⟨Nat.le_of_ble_eq_true rfl, Nat.le_of_ble_eq_true rfl⟩) (pre_S hW hB_G_121 hK hZ hS) rfl rfl hl.1 rfl (lv_room (Nat.le_of_ble_eq_true rfl)) dX12_formula_105 ⟨Nat.le_of_ble_eq_true rfl, Nat.le_of_ble_eq_true rfl⟩) hS (fun r_139 G_140 H locs hpo hW hS => ?_)
          obtain ⟨hB_G_140, hq_141, f_143⟩ := hpo
          have hF := hF.call hq_141 (by decide) (by decide)
          refine lv_iconst (v := 4) hx hb dX12_formula_108 (by decide) ?_
          refine W.cut (σ := Unit) (pcJ := 119) (J := fun y H locs ls => ∃ (G_147 : GS), Wd D k A a G_147 H ∧ Bd G_147 ∧ Fr [69, 70, 71, 75] [(66, 2), (66, 3), (66, 4), (66, 6), (66, 7), (66, 8), (66, 9), (66, 19), (66, 20), (66, 21), (66, 23), (66, 24)] G G_147 ∧ Fr [] [] G_140 G_147 ∧ va_S A s.heap H locs ∧ lv_has ls 4 [(3, .int r_113), (2, .int x_28), (0, .ref (a 66))]) (stJ := fun _ => []) ?_ (fun hJ_148 => ?_)
          · intro y H locs ls hI
            obtain ⟨G_147, hW, hB_G_147, hF, hq_149, hS, hl⟩ := hI
            refine lv_aload_n hx hb dX12_formula_119 rfl (lv_at hl 2 rfl) ?_
            refine lv_iload_n hx hb dX12_formula_120 rfl (lv_at hl 0 rfl) ?_
            refine S_calli (va_runS (As := [.int r_113]) (rest := [.ref (a 66)]) ⟨hx, hb, hml, hown, hts⟩ (n_tight l D k A a z G_147 r_113 ) (va_cwS 1 hts (gd_S hgd m1722 m1723 m131 m1724) rfl rfl rfl (by decide +kernel) ⟨Nat.le_of_ble_eq_true rfl, Nat.le_of_ble_eq_true rfl⟩) (pre_S hW hB_G_147 hK hZ hS) rfl rfl hl.1 rfl (lv_room (Nat.le_of_ble_eq_true rfl)) dX12_formula_121 ⟨Nat.le_of_ble_eq_true rfl, Nat.le_of_ble_eq_true rfl⟩) hS (fun r_150 G_151 H locs hpo hW hS => ?_)
            obtain ⟨hB_G_151, hq_152, f_154⟩ := hpo
            have hF := hF.call hq_152 (by decide) (by decide)
            have g_155 : gB G_151 = gB G_24 := gB_fr (rs := []) (fs := []) (((((Fr.rf.call hq_115 (by decide) (by decide)).call hq_123 (by decide) (by decide)).call hq_141 (by decide) (by decide)).call hq_149 (by decide) (by decide)).call hq_152 (by decide) (by decide)) (by decide) (by decide)
            have g_156 : gC G_151 = gC G_24 := gC_fr (rs := []) (fs := []) (((((Fr.rf.call hq_115 (by decide) (by decide)).call hq_123 (by decide) (by decide)).call hq_141 (by decide) (by decide)).call hq_149 (by decide) (by decide)).call hq_152 (by decide) (by decide)) (by decide) (by decide)
            have g_157 : gD G_151 = gD G_24 := gD_fr (rs := []) (fs := []) (((((Fr.rf.call hq_115 (by decide) (by decide)).call hq_123 (by decide) (by decide)).call hq_141 (by decide) (by decide)).call hq_149 (by decide) (by decide)).call hq_152 (by decide) (by decide)) (by decide) (by decide)
            have g_158 : gM G_151 = gM G_24 := gM_fr (rs := []) (fs := []) (((((Fr.rf.call hq_115 (by decide) (by decide)).call hq_123 (by decide) (by decide)).call hq_141 (by decide) (by decide)).call hq_149 (by decide) (by decide)).call hq_152 (by decide) (by decide)) (by decide) (by decide)
            have g_159 : (G_151.1 66 20).toInt = (G_24.1 66 20).toInt := by rw [show G_151.1 66 20 = (G_24.1 66 20) from ((hq_152.i 66 20 (by decide) (by decide)).trans ((hq_149.i 66 20 (by decide) (by decide)).trans ((hq_141.i 66 20 (by decide) (by decide)).trans ((hq_123.i 66 20 (by decide) (by decide)).trans ((hq_115.i 66 20 (by decide) (by decide)).trans (rfl))))))]
            have g_160 : (G_151.1 66 24).toInt = (G_24.1 66 24).toInt := by rw [show G_151.1 66 24 = (G_24.1 66 24) from ((hq_152.i 66 24 (by decide) (by decide)).trans ((hq_149.i 66 24 (by decide) (by decide)).trans ((hq_141.i 66 24 (by decide) (by decide)).trans ((hq_123.i 66 24 (by decide) (by decide)).trans ((hq_115.i 66 24 (by decide) (by decide)).trans (rfl))))))]
            have g_161 : gK G_151 = gK G_24 := gK_fr (rs := []) (fs := []) (((((Fr.rf.call hq_115 (by decide) (by decide)).call hq_123 (by decide) (by decide)).call hq_141 (by decide) (by decide)).call hq_149 (by decide) (by decide)).call hq_152 (by decide) (by decide)) (by decide) (by decide)
            have g_162 : (G_151.1 66 20).toInt = (G_24.1 66 20).toInt := by rw [show G_151.1 66 20 = (G_24.1 66 20) from ((hq_152.i 66 20 (by decide) (by decide)).trans ((hq_149.i 66 20 (by decide) (by decide)).trans ((hq_141.i 66 20 (by decide) (by decide)).trans ((hq_123.i 66 20 (by decide) (by decide)).trans ((hq_115.i 66 20 (by decide) (by decide)).trans (rfl))))))]
            have g_163 : (G_151.1 66 24).toInt = (G_24.1 66 24).toInt := by rw [show G_151.1 66 24 = (G_24.1 66 24) from ((hq_152.i 66 24 (by decide) (by decide)).trans ((hq_149.i 66 24 (by decide) (by decide)).trans ((hq_141.i 66 24 (by decide) (by decide)).trans ((hq_123.i 66 24 (by decide) (by decide)).trans ((hq_115.i 66 24 (by decide) (by decide)).trans (rfl))))))]
            refine S_callv (va_runV (As := [.int r_150]) (rest := []) ⟨hx, hb, hml, hown, hts⟩ (n_close l D k A a z G_151 r_150 (by omega)) (cwV 1 hts (gd_V hgd m1753 m1755 m79 m131 m1756) rfl rfl rfl (by decide +kernel) ⟨Nat.le_of_ble_eq_true rfl, Nat.le_of_ble_eq_true rfl⟩) (pre_V hW hB_G_151 hK hZ hS kd_66 rfl) rfl rfl hl.1 rfl (lv_room (Nat.le_of_ble_eq_true rfl)) dX12_formula_124 ⟨Nat.le_of_ble_eq_true rfl, Nat.le_of_ble_eq_true rfl⟩) hS (fun G_165 H locs hpo hW hS => ?_)
            obtain ⟨hB_G_165, hq_166, hp_167⟩ := hpo
            have hF := hF.call hq_166 (by decide) (by decide)
            refine lv_aload_n hx hb dX12_formula_127 rfl (lv_at hl 2 rfl) ?_
            refine S_getR (n := 75) (C := RX12) (T := TX12) (N := 89) hx hb hg iX12 hown hK hW kd_66 rfl 17 (by decide) (hg (Cond.fieldLink RX12 39 "SlabWalkModel" "open" "[I") m1331) (fun _ h9 => h9) rfl dX12_formula_128 ?_
            refine lv_aload_n hx hb dX12_formula_131 rfl (lv_at hl 2 rfl) ?_
            have b_168 : 0 ≤ (G_165.1 66 20).toInt ∧ (G_165.1 66 20).toInt ≤ 160 := hB_G_165.i 66 20 rfl rfl
            refine S_getI (v := (G_165.1 66 20)) (C := RX12) (T := TX12) (N := 89) hx hb hg iX12 hown hK hW kd_66 rfl 20 (by decide) (hg (Cond.fieldLink RX12 299 "SlabWalkModel" "opens" "I") m1334) (fun _ h9 => h9) rfl rfl dX12_formula_132 ?_
            refine lv_iload_n hx hb dX12_formula_135 rfl (lv_at hl 0 rfl) ?_
            refine S_iast hx hb hK hW hS kd_75 (vin (by omega) (by omega)) dX12_formula_136 (fun G_169 H locs eG_169 hW hS => ?_)
            have hB_G_169 : Bd G_169 := hB_G_165.put (lo := (-2147483648)) (hi := 2147483647) eG_169 rfl rfl rfl (tI_rng _).1 (tI_rng _).2 (hB_G_165.2.put eG_169 rfl)
            have hF := hF.put eG_169 (Or.inl (by decide))
            refine lv_aload_n hx hb dX12_formula_137 rfl (lv_at hl 2 rfl) ?_
            refine lv_dup hx hb dX12_formula_138 rfl ?_
            refine S_getI (v := (G_165.1 66 20)) (C := RX12) (T := TX12) (N := 89) hx hb hg iX12 hown hK hW kd_66 rfl 20 (by decide) (hg (Cond.fieldLink RX12 299 "SlabWalkModel" "opens" "I") m1334) (fun _ h9 => h9) rfl ((gp_ne eG_169 (fun q => absurd q.1 (by decide))).trans (rfl)) dX12_formula_139 ?_
            refine lv_iconst (v := 1) hx hb dX12_formula_142 (by decide) ?_
            refine lv_iadd hx hb dX12_formula_143 ?_
            refine lv_topi (fun y_170 ey_170 => ?_)
            have ty_170 : y_170.toInt = (G_165.1 66 20).toInt + 1 := xI_add rfl rfl ey_170 (by omega) (by omega)
            refine S_putI (ty := .int) (C := RX12) (T := TX12) (N := 89) hx hb hg iX12 tyX12 tyX12_ok nmX12 hown hK hW hS kd_66 rfl 20 (by decide) (hg (Cond.fieldLink RX12 299 "SlabWalkModel" "opens" "I") m1334) (fun _ h9 => h9) rfl (by decide +kernel) rfl rfl rfl dX12_formula_144 (fun G_171 H locs eG_171 hW hS => ?_)
            have hB_G_171 : Bd G_171 := hB_G_169.put (V := y_170.toInt) (lo := 0) (hi := 160) eG_171 rfl rfl rfl (by omega) (by omega) (hB_G_169.2.put eG_171 rfl)
            have hF := hF.put eG_171 (Or.inr (by decide))
            have u_172 := gh_push eG_169 eG_171 (by omega) (by omega) (by omega)
            refine lv_aload_n hx hb dX12_formula_147 rfl (lv_at hl 2 rfl) ?_
            have g_173 : (G_171.1 66 4).toInt = (G_24.1 66 4).toInt := by rw [show G_171.1 66 4 = (G_24.1 66 4) from ((gp_ne eG_171 (by decide)).trans ((gp_ne eG_169 (fun q => absurd q.1 (by decide))).trans ((hq_166.i 66 4 (by decide) (by decide)).trans ((hq_152.i 66 4 (by decide) (by decide)).trans ((hq_149.i 66 4 (by decide) (by decide)).trans ((hq_141.i 66 4 (by decide) (by decide)).trans ((hq_123.i 66 4 (by decide) (by decide)).trans ((hq_115.i 66 4 (by decide) (by decide)).trans (rfl)))))))))]
            have g_174 : (G_171.1 66 6).toInt = (G_24.1 66 6).toInt := by rw [show G_171.1 66 6 = (G_24.1 66 6) from ((gp_ne eG_171 (by decide)).trans ((gp_ne eG_169 (fun q => absurd q.1 (by decide))).trans ((hq_166.i 66 6 (by decide) (by decide)).trans ((hq_152.i 66 6 (by decide) (by decide)).trans ((hq_149.i 66 6 (by decide) (by decide)).trans ((hq_141.i 66 6 (by decide) (by decide)).trans ((hq_123.i 66 6 (by decide) (by decide)).trans ((hq_115.i 66 6 (by decide) (by decide)).trans (rfl)))))))))]
            refine S_callv (va_runV (As := []) (rest := []) ⟨hx, hb, hml, hown, hts⟩ (n_token l D k A a z G_171  ) (cwV 0 hts (gd_V hgd m1602 m1604 m50 m131 m1605) rfl rfl rfl (by decide +kernel) ⟨Nat.le_of_ble_eq_true rfl, Nat.le_of_ble_eq_true rfl⟩) (pre_V hW hB_G_171 hK hZ hS kd_66 rfl) rfl rfl hl.1 rfl (lv_room (Nat.le_of_ble_eq_true rfl)) dX12_formula_148 ⟨Nat.le_of_ble_eq_true rfl, Nat.le_of_ble_eq_true rfl⟩) hS (fun G_176 H locs hpo hW hS => ?_)
            obtain ⟨hB_G_176, hq_177, hp_178⟩ := hpo
            have hF := hF.call hq_177 (by decide) (by decide)
            refine lv_aload_n hx hb dX12_formula_151 rfl (lv_at hl 2 rfl) ?_
            have g_179 : (G_176.1 66 2).toInt = (G_24.1 66 2).toInt := by rw [show G_176.1 66 2 = (G_24.1 66 2) from ((hq_177.i 66 2 (by decide) (by decide)).trans ((gp_ne eG_171 (by decide)).trans ((gp_ne eG_169 (fun q => absurd q.1 (by decide))).trans ((hq_166.i 66 2 (by decide) (by decide)).trans ((hq_152.i 66 2 (by decide) (by decide)).trans ((hq_149.i 66 2 (by decide) (by decide)).trans ((hq_141.i 66 2 (by decide) (by decide)).trans ((hq_123.i 66 2 (by decide) (by decide)).trans ((hq_115.i 66 2 (by decide) (by decide)).trans (rfl))))))))))]
            have g_180 : gB G_176 = gB G_171 := gB_fr (rs := []) (fs := [(66, 4), (66, 6), (66, 7), (66, 8), (66, 9)]) (Fr.rf.call hq_177 (by decide) (by decide)) (by decide) (by decide)
            have g_181 : gC G_176 = gC G_165 := gC_fr (rs := [75]) (fs := [(66, 4), (66, 6), (66, 7), (66, 8), (66, 9), (66, 20)]) (((Fr.rf.put eG_169 (Or.inl (by decide))).put eG_171 (Or.inr (by decide))).call hq_177 (by decide) (by decide)) (by decide) (by decide)
            have g_182 : gD G_176 = gD G_165 := gD_fr (rs := [75]) (fs := [(66, 4), (66, 6), (66, 7), (66, 8), (66, 9), (66, 20)]) (((Fr.rf.put eG_169 (Or.inl (by decide))).put eG_171 (Or.inr (by decide))).call hq_177 (by decide) (by decide)) (by decide) (by decide)
            have g_183 : gM G_176 = gM G_165 := gM_fr (rs := [75]) (fs := [(66, 4), (66, 6), (66, 7), (66, 8), (66, 9), (66, 20)]) (((Fr.rf.put eG_169 (Or.inl (by decide))).put eG_171 (Or.inr (by decide))).call hq_177 (by decide) (by decide)) (by decide) (by decide)
            have g_184 : (G_176.1 66 20).toInt = y_170.toInt := by rw [show G_176.1 66 20 = y_170 from ((hq_177.i 66 20 (by decide) (by decide)).trans (gp_eq eG_171))]
            have g_185 : (G_176.1 66 23).toInt = (G_24.1 66 23).toInt := by rw [show G_176.1 66 23 = (G_24.1 66 23) from ((hq_177.i 66 23 (by decide) (by decide)).trans ((gp_ne eG_171 (by decide)).trans ((gp_ne eG_169 (fun q => absurd q.1 (by decide))).trans ((hq_166.i 66 23 (by decide) (by decide)).trans ((hq_152.i 66 23 (by decide) (by decide)).trans ((hq_149.i 66 23 (by decide) (by decide)).trans ((hq_141.i 66 23 (by decide) (by decide)).trans ((hq_123.i 66 23 (by decide) (by decide)).trans ((hq_115.i 66 23 (by decide) (by decide)).trans (rfl))))))))))]
            have b_186 : (-1) ≤ (G_165.1 66 24).toInt ∧ (G_165.1 66 24).toInt ≤ 200 := hB_G_165.i 66 24 rfl rfl
            have g_187 : (G_176.1 66 24).toInt = (G_165.1 66 24).toInt := by rw [show G_176.1 66 24 = (G_165.1 66 24) from ((hq_177.i 66 24 (by decide) (by decide)).trans ((gp_ne eG_171 (by decide)).trans (gp_ne eG_169 (fun q => absurd q.1 (by decide)))))]
            have g_188 : (G_176.1 66 23).toInt = (G_24.1 66 23).toInt := by rw [show G_176.1 66 23 = (G_24.1 66 23) from ((hq_177.i 66 23 (by decide) (by decide)).trans ((gp_ne eG_171 (by decide)).trans ((gp_ne eG_169 (fun q => absurd q.1 (by decide))).trans ((hq_166.i 66 23 (by decide) (by decide)).trans ((hq_152.i 66 23 (by decide) (by decide)).trans ((hq_149.i 66 23 (by decide) (by decide)).trans ((hq_141.i 66 23 (by decide) (by decide)).trans ((hq_123.i 66 23 (by decide) (by decide)).trans ((hq_115.i 66 23 (by decide) (by decide)).trans (rfl))))))))))]
            have b_189 : 0 ≤ (G_176.1 66 4).toInt ∧ (G_176.1 66 4).toInt ≤ 1600 := hB_G_176.i 66 4 rfl rfl
            refine S_callv (va_runV (As := []) (rest := []) ⟨hx, hb, hml, hown, hts⟩ (n_unit l D k A a z G_176  (by omega) (by omega)) (cwV 0 hts (gd_V hgd m1714 m1716 m70 m131 m1717) rfl rfl rfl (by decide +kernel) ⟨Nat.le_of_ble_eq_true rfl, Nat.le_of_ble_eq_true rfl⟩) (pre_V hW hB_G_176 hK hZ hS kd_66 rfl) rfl rfl hl.1 rfl (lv_room (Nat.le_of_ble_eq_true rfl)) dX12_formula_152 ⟨Nat.le_of_ble_eq_true rfl, Nat.le_of_ble_eq_true rfl⟩) hS (fun G_191 H locs hpo hW hS => ?_)
            obtain ⟨hB_G_191, hq_192, hp_193⟩ := hpo
            have hF := hF.call hq_192 (by decide) (by decide)
            refine lv_goto (tgt := 160) hx hb dX12_formula_155 (by decide) ?_
            refine lv_goto (tgt := 36) hx hb dX12_formula_160 (by decide) ?_
            have b_194 : 0 ≤ (G_191.1 66 2).toInt ∧ (G_191.1 66 2).toInt ≤ 4 := hB_G_191.i 66 2 rfl rfl
            have b_195 : 0 ≤ (G_191.1 66 20).toInt ∧ (G_191.1 66 20).toInt ≤ 160 := hB_G_191.i 66 20 rfl rfl
            have b_196 : 0 ≤ (G_191.1 66 23).toInt ∧ (G_191.1 66 23).toInt ≤ 40 := hB_G_191.i 66 23 rfl rfl
            have b_197 : (-1) ≤ (G_191.1 66 24).toInt ∧ (G_191.1 66 24).toInt ≤ 200 := hB_G_191.i 66 24 rfl rfl
            have b_198 : 0 ≤ (G_191.1 66 4).toInt ∧ (G_191.1 66 4).toInt ≤ 1600 := hB_G_191.i 66 4 rfl rfl
            exact ih_26 (4000 - 1000 * (G_191.1 66 2).toInt + 100 * (40 - (G_191.1 66 23).toInt) + (G_191.1 66 20).toInt + x_28.toInt : Int).toNat (by omega) _ _ _ ⟨G_191, x_28, (Int.toNat_of_nonneg (by omega)), ⟨by omega, by omega⟩, (by omega), (by omega), hW, hB_G_191, hF, (((((((((((Fr.rf.call hq_25 (by decide) (by decide)).call hq_115 (by decide) (by decide)).call hq_123 (by decide) (by decide)).call hq_141 (by decide) (by decide)).call hq_149 (by decide) (by decide)).call hq_152 (by decide) (by decide)).call hq_166 (by decide) (by decide)).put eG_169 (Or.inl (by decide))).put eG_171 (Or.inr (by decide))).call hq_177 (by decide) (by decide)).call hq_192 (by decide) (by decide)), hS, lv_sub hl [1, 2] rfl⟩
          refine lv_icmp_ne (tgt := 119) hx hb dX12_formula_109 (by decide) (fun c_199 => ?_) (fun c_199 => ?_)
          · have c_199 : r_139.toInt ≠ 4 := xI_ne rfl rfl c_199
            exact hJ_148 () _ _ _ ⟨G_140, hW, hB_G_140, hF, Fr.rf, hS, lv_sub hl [0, 1, 2] rfl⟩
          · have c_199 : r_139.toInt = 4 := xI_eq rfl rfl c_199
            refine lv_aload_n hx hb dX12_formula_112 rfl (lv_at hl 2 rfl) ?_
            refine S_calli (va_runV (As := []) (rest := []) ⟨hx, hb, hml, hown, hts⟩ (n_hasRelation l D k A a z G_140  ) (cwV 0 hts (gd_V hgd m1757 m1759 m80 m131 m1760) rfl rfl rfl (by decide +kernel) ⟨Nat.le_of_ble_eq_true rfl, Nat.le_of_ble_eq_true rfl⟩) (pre_V hW hB_G_140 hK hZ hS kd_66 rfl) rfl rfl hl.1 rfl (lv_room (Nat.le_of_ble_eq_true rfl)) dX12_formula_113 ⟨Nat.le_of_ble_eq_true rfl, Nat.le_of_ble_eq_true rfl⟩) hS (fun r_200 G_201 H locs hpo hW hS => ?_)
            obtain ⟨hB_G_201, hq_202, f_204⟩ := hpo
            have hF := hF.call hq_202 (by decide) (by decide)
            refine lv_if_ne (tgt := 158) hx hb dX12_formula_116 (by decide) (fun c_205 => ?_) (fun c_205 => ?_)
            · have c_205 : r_200.toInt ≠ 0 := xI_ne rfl rfl c_205
              refine lv_iconst (v := 0) hx hb dX12_formula_158 (by decide) ?_
              refine lv_istore_n (lv' := [(2, .int 0), (3, .int r_113), (0, .ref (a 66))]) hx hb dX12_formula_159 rfl hl (by decide) rfl (fun ls hl => ?_)
              refine lv_goto (tgt := 36) hx hb dX12_formula_160 (by decide) ?_
              have g_206 : (G_201.1 66 2).toInt = (G_24.1 66 2).toInt := by rw [show G_201.1 66 2 = (G_24.1 66 2) from ((hq_202.i 66 2 (by decide) (by decide)).trans ((hq_141.i 66 2 (by decide) (by decide)).trans ((hq_123.i 66 2 (by decide) (by decide)).trans ((hq_115.i 66 2 (by decide) (by decide)).trans (rfl)))))]
              have g_207 : (G_201.1 66 20).toInt = (G_24.1 66 20).toInt := by rw [show G_201.1 66 20 = (G_24.1 66 20) from ((hq_202.i 66 20 (by decide) (by decide)).trans ((hq_141.i 66 20 (by decide) (by decide)).trans ((hq_123.i 66 20 (by decide) (by decide)).trans ((hq_115.i 66 20 (by decide) (by decide)).trans (rfl)))))]
              have g_208 : (G_201.1 66 23).toInt = (G_24.1 66 23).toInt := by rw [show G_201.1 66 23 = (G_24.1 66 23) from ((hq_202.i 66 23 (by decide) (by decide)).trans ((hq_141.i 66 23 (by decide) (by decide)).trans ((hq_123.i 66 23 (by decide) (by decide)).trans ((hq_115.i 66 23 (by decide) (by decide)).trans (rfl)))))]
              have g_209 : gB G_201 = gB G_24 := gB_fr (rs := []) (fs := []) ((((Fr.rf.call hq_115 (by decide) (by decide)).call hq_123 (by decide) (by decide)).call hq_141 (by decide) (by decide)).call hq_202 (by decide) (by decide)) (by decide) (by decide)
              have g_210 : gC G_201 = gC G_24 := gC_fr (rs := []) (fs := []) ((((Fr.rf.call hq_115 (by decide) (by decide)).call hq_123 (by decide) (by decide)).call hq_141 (by decide) (by decide)).call hq_202 (by decide) (by decide)) (by decide) (by decide)
              have g_211 : gD G_201 = gD G_24 := gD_fr (rs := []) (fs := []) ((((Fr.rf.call hq_115 (by decide) (by decide)).call hq_123 (by decide) (by decide)).call hq_141 (by decide) (by decide)).call hq_202 (by decide) (by decide)) (by decide) (by decide)
              have g_212 : gM G_201 = gM G_24 := gM_fr (rs := []) (fs := []) ((((Fr.rf.call hq_115 (by decide) (by decide)).call hq_123 (by decide) (by decide)).call hq_141 (by decide) (by decide)).call hq_202 (by decide) (by decide)) (by decide) (by decide)
              have g_213 : (G_201.1 66 2).toInt = (G_24.1 66 2).toInt := by rw [show G_201.1 66 2 = (G_24.1 66 2) from ((hq_202.i 66 2 (by decide) (by decide)).trans ((hq_141.i 66 2 (by decide) (by decide)).trans ((hq_123.i 66 2 (by decide) (by decide)).trans ((hq_115.i 66 2 (by decide) (by decide)).trans (rfl)))))]
              have g_214 : (G_201.1 66 20).toInt = (G_24.1 66 20).toInt := by rw [show G_201.1 66 20 = (G_24.1 66 20) from ((hq_202.i 66 20 (by decide) (by decide)).trans ((hq_141.i 66 20 (by decide) (by decide)).trans ((hq_123.i 66 20 (by decide) (by decide)).trans ((hq_115.i 66 20 (by decide) (by decide)).trans (rfl)))))]
              have g_215 : (G_201.1 66 23).toInt = (G_24.1 66 23).toInt := by rw [show G_201.1 66 23 = (G_24.1 66 23) from ((hq_202.i 66 23 (by decide) (by decide)).trans ((hq_141.i 66 23 (by decide) (by decide)).trans ((hq_123.i 66 23 (by decide) (by decide)).trans ((hq_115.i 66 23 (by decide) (by decide)).trans (rfl)))))]
              have g_216 : (G_201.1 66 24).toInt = (G_24.1 66 24).toInt := by rw [show G_201.1 66 24 = (G_24.1 66 24) from ((hq_202.i 66 24 (by decide) (by decide)).trans ((hq_141.i 66 24 (by decide) (by decide)).trans ((hq_123.i 66 24 (by decide) (by decide)).trans ((hq_115.i 66 24 (by decide) (by decide)).trans (rfl)))))]
              have g_217 : (G_201.1 66 4).toInt = (G_24.1 66 4).toInt := by rw [show G_201.1 66 4 = (G_24.1 66 4) from ((hq_202.i 66 4 (by decide) (by decide)).trans ((hq_141.i 66 4 (by decide) (by decide)).trans ((hq_123.i 66 4 (by decide) (by decide)).trans ((hq_115.i 66 4 (by decide) (by decide)).trans (rfl)))))]
              have g_218 : (G_201.1 66 6).toInt = (G_24.1 66 6).toInt := by rw [show G_201.1 66 6 = (G_24.1 66 6) from ((hq_202.i 66 6 (by decide) (by decide)).trans ((hq_141.i 66 6 (by decide) (by decide)).trans ((hq_123.i 66 6 (by decide) (by decide)).trans ((hq_115.i 66 6 (by decide) (by decide)).trans (rfl)))))]
              have qc_219 : (0 : Int32).toInt = 0 := rfl
              exact ih_26 (4000 - 1000 * (G_201.1 66 2).toInt + 100 * (40 - (G_201.1 66 23).toInt) + (G_201.1 66 20).toInt + 0 : Int).toNat (by omega) _ _ _ ⟨G_201, 0, (Int.toNat_of_nonneg (by omega)), ⟨by omega, by omega⟩, (by omega), (by omega), hW, hB_G_201, hF, (((((Fr.rf.call hq_25 (by decide) (by decide)).call hq_115 (by decide) (by decide)).call hq_123 (by decide) (by decide)).call hq_141 (by decide) (by decide)).call hq_202 (by decide) (by decide)), hS, lv_sub hl [0, 2] rfl⟩
            · have c_205 : r_200.toInt = 0 := xI_eq rfl rfl c_205
              exact hJ_148 () _ _ _ ⟨G_201, hW, hB_G_201, hF, (Fr.rf.call hq_202 (by decide) (by decide)), hS, lv_sub hl [0, 1, 2] rfl⟩
      refine lv_icmp_ne (tgt := 100) hx hb dX12_formula_58 (by decide) (fun c_220 => ?_) (fun c_220 => ?_)
      · have c_220 : (G_24.1 66 6).toInt ≠ 41 := xI_ne rfl rfl c_220
        exact hJ_122 () _ _ _ ⟨G_114, hW, hB_G_114, hF, Fr.rf, hS, lv_sub hl [0, 1, 2] rfl⟩
      · have c_220 : (G_24.1 66 6).toInt = 41 := xI_eq rfl rfl c_220
        refine lv_aload_n hx hb dX12_formula_61 rfl (lv_at hl 2 rfl) ?_
        have g_221 : gK G_114 = gK G_24 := gK_fr (rs := []) (fs := []) (Fr.rf.call hq_115 (by decide) (by decide)) (by decide) (by decide)
        refine S_calli (va_runV (As := []) (rest := []) ⟨hx, hb, hml, hown, hts⟩ (n_hasBracket l D k A a z G_114  ) (cwV 0 hts (gd_V hgd m1749 m1751 m78 m131 m1752) rfl rfl rfl (by decide +kernel) ⟨Nat.le_of_ble_eq_true rfl, Nat.le_of_ble_eq_true rfl⟩) (pre_V hW hB_G_114 hK hZ hS kd_66 rfl) rfl rfl hl.1 rfl (lv_room (Nat.le_of_ble_eq_true rfl)) dX12_formula_62 ⟨Nat.le_of_ble_eq_true rfl, Nat.le_of_ble_eq_true rfl⟩) hS (fun r_222 G_223 H locs hpo hW hS => ?_)
        obtain ⟨hB_G_223, hq_224, f_226, hp_225⟩ := hpo
        have hF := hF.call hq_224 (by decide) (by decide)
        refine lv_if_eq (tgt := 100) hx hb dX12_formula_65 (by decide) (fun c_227 => ?_) (fun c_227 => ?_)
        · have c_227 : r_222.toInt = 0 := xI_eq rfl rfl c_227
          exact hJ_122 () _ _ _ ⟨G_223, hW, hB_G_223, hF, (Fr.rf.call hq_224 (by decide) (by decide)), hS, lv_sub hl [0, 1, 2] rfl⟩
        · have c_227 : r_222.toInt ≠ 0 := xI_ne rfl rfl c_227
          refine lv_aload_n hx hb dX12_formula_68 rfl (lv_at hl 2 rfl) ?_
          refine lv_iconst (v := 0) hx hb dX12_formula_69 (by decide) ?_
          have g_228 : gB G_223 = gB G_24 := gB_fr (rs := []) (fs := []) ((Fr.rf.call hq_115 (by decide) (by decide)).call hq_224 (by decide) (by decide)) (by decide) (by decide)
          have g_229 : gC G_223 = gC G_24 := gC_fr (rs := []) (fs := []) ((Fr.rf.call hq_115 (by decide) (by decide)).call hq_224 (by decide) (by decide)) (by decide) (by decide)
          have g_230 : gD G_223 = gD G_24 := gD_fr (rs := []) (fs := []) ((Fr.rf.call hq_115 (by decide) (by decide)).call hq_224 (by decide) (by decide)) (by decide) (by decide)
          have g_231 : gM G_223 = gM G_24 := gM_fr (rs := []) (fs := []) ((Fr.rf.call hq_115 (by decide) (by decide)).call hq_224 (by decide) (by decide)) (by decide) (by decide)
          have g_232 : (G_223.1 66 20).toInt = (G_24.1 66 20).toInt := by rw [show G_223.1 66 20 = (G_24.1 66 20) from ((hq_224.i 66 20 (by decide) (by decide)).trans ((hq_115.i 66 20 (by decide) (by decide)).trans (rfl)))]
          have g_233 : (G_223.1 66 24).toInt = (G_24.1 66 24).toInt := by rw [show G_223.1 66 24 = (G_24.1 66 24) from ((hq_224.i 66 24 (by decide) (by decide)).trans ((hq_115.i 66 24 (by decide) (by decide)).trans (rfl)))]
          have qc_234 : (0 : Int32).toInt = 0 := rfl
          have g_235 : gK G_223 = gK G_24 := gK_fr (rs := []) (fs := []) ((Fr.rf.call hq_115 (by decide) (by decide)).call hq_224 (by decide) (by decide)) (by decide) (by decide)
          have g_236 : (G_223.1 66 20).toInt = (G_24.1 66 20).toInt := by rw [show G_223.1 66 20 = (G_24.1 66 20) from ((hq_224.i 66 20 (by decide) (by decide)).trans ((hq_115.i 66 20 (by decide) (by decide)).trans (rfl)))]
          have g_237 : (G_223.1 66 24).toInt = (G_24.1 66 24).toInt := by rw [show G_223.1 66 24 = (G_24.1 66 24) from ((hq_224.i 66 24 (by decide) (by decide)).trans ((hq_115.i 66 24 (by decide) (by decide)).trans (rfl)))]
          refine S_callv (va_runV (As := [.int 0]) (rest := []) ⟨hx, hb, hml, hown, hts⟩ (n_close l D k A a z G_223 0 (by omega)) (cwV 1 hts (gd_V hgd m1753 m1755 m79 m131 m1756) rfl rfl rfl (by decide +kernel) ⟨Nat.le_of_ble_eq_true rfl, Nat.le_of_ble_eq_true rfl⟩) (pre_V hW hB_G_223 hK hZ hS kd_66 rfl) rfl rfl hl.1 rfl (lv_room (Nat.le_of_ble_eq_true rfl)) dX12_formula_70 ⟨Nat.le_of_ble_eq_true rfl, Nat.le_of_ble_eq_true rfl⟩) hS (fun G_239 H locs hpo hW hS => ?_)
          obtain ⟨hB_G_239, hq_240, hp_241⟩ := hpo
          have hF := hF.call hq_240 (by decide) (by decide)
          have b_242 : 0 ≤ (G_239.1 66 20).toInt ∧ (G_239.1 66 20).toInt ≤ 160 := hB_G_239.i 66 20 rfl rfl
          have u_243 := gh_pos (G := G_239) (by omega)
          refine lv_aload_n hx hb dX12_formula_73 rfl (lv_at hl 2 rfl) ?_
          refine lv_dup hx hb dX12_formula_74 rfl ?_
          refine S_getI (v := (G_239.1 66 20)) (C := RX12) (T := TX12) (N := 89) hx hb hg iX12 hown hK hW kd_66 rfl 20 (by decide) (hg (Cond.fieldLink RX12 299 "SlabWalkModel" "opens" "I") m1334) (fun _ h9 => h9) rfl rfl dX12_formula_75 ?_
          refine lv_iconst (v := 1) hx hb dX12_formula_78 (by decide) ?_
          refine lv_isub hx hb dX12_formula_79 ?_
          refine lv_topi (fun y_244 ey_244 => ?_)
          have ty_244 : y_244.toInt = (G_239.1 66 20).toInt - 1 := xI_sub rfl rfl ey_244 (by omega) (by omega)
          refine S_putI (ty := .int) (C := RX12) (T := TX12) (N := 89) hx hb hg iX12 tyX12 tyX12_ok nmX12 hown hK hW hS kd_66 rfl 20 (by decide) (hg (Cond.fieldLink RX12 299 "SlabWalkModel" "opens" "I") m1334) (fun _ h9 => h9) rfl (by decide +kernel) rfl rfl rfl dX12_formula_80 (fun G_245 H locs eG_245 hW hS => ?_)
          have hB_G_245 : Bd G_245 := hB_G_239.put (V := y_244.toInt) (lo := 0) (hi := 160) eG_245 rfl rfl rfl (by omega) (by omega) (hB_G_239.2.put eG_245 rfl)
          have hF := hF.put eG_245 (Or.inr (by decide))
          have u_246 := gh_pop eG_245 (by omega) (by omega)
          have g_247 : (G_245.1 66 20).toInt = y_244.toInt := by rw [show G_245.1 66 20 = y_244 from (gp_eq eG_245)]
          have u_248 := gh_pos (G := G_245) (by omega)
          refine lv_aload_n hx hb dX12_formula_83 rfl (lv_at hl 2 rfl) ?_
          refine lv_dup hx hb dX12_formula_84 rfl ?_
          have b_249 : (-1) ≤ (G_239.1 66 24).toInt ∧ (G_239.1 66 24).toInt ≤ 200 := hB_G_239.i 66 24 rfl rfl
          refine S_getI (v := (G_239.1 66 24)) (C := RX12) (T := TX12) (N := 89) hx hb hg iX12 hown hK hW kd_66 rfl 24 (by decide) (hg (Cond.fieldLink RX12 309 "SlabWalkModel" "deep" "I") m1338) (fun _ h9 => h9) rfl (gp_ne eG_245 (by decide)) dX12_formula_85 ?_
          refine lv_iconst (v := 1) hx hb dX12_formula_88 (by decide) ?_
          refine lv_isub hx hb dX12_formula_89 ?_
          refine lv_topi (fun y_250 ey_250 => ?_)
          have ty_250 : y_250.toInt = (G_239.1 66 24).toInt - 1 := xI_sub rfl rfl ey_250 (by omega) (by omega)
          refine S_putI (ty := .int) (C := RX12) (T := TX12) (N := 89) hx hb hg iX12 tyX12 tyX12_ok nmX12 hown hK hW hS kd_66 rfl 24 (by decide) (hg (Cond.fieldLink RX12 309 "SlabWalkModel" "deep" "I") m1338) (fun _ h9 => h9) rfl (by decide +kernel) rfl rfl rfl dX12_formula_90 (fun G_251 H locs eG_251 hW hS => ?_)
          have hB_G_251 : Bd G_251 := hB_G_245.put (V := y_250.toInt) (lo := (-1)) (hi := 200) eG_251 rfl rfl rfl (by omega) (by omega) (hB_G_245.2.put eG_251 rfl)
          have hF := hF.put eG_251 (Or.inr (by decide))
          refine lv_aload_n hx hb dX12_formula_93 rfl (lv_at hl 2 rfl) ?_
          have g_252 : (G_251.1 66 4).toInt = (G_24.1 66 4).toInt := by rw [show G_251.1 66 4 = (G_24.1 66 4) from ((gp_ne eG_251 (by decide)).trans ((gp_ne eG_245 (by decide)).trans ((hq_240.i 66 4 (by decide) (by decide)).trans ((hq_224.i 66 4 (by decide) (by decide)).trans ((hq_115.i 66 4 (by decide) (by decide)).trans (rfl))))))]
          have g_253 : (G_251.1 66 6).toInt = (G_24.1 66 6).toInt := by rw [show G_251.1 66 6 = (G_24.1 66 6) from ((gp_ne eG_251 (by decide)).trans ((gp_ne eG_245 (by decide)).trans ((hq_240.i 66 6 (by decide) (by decide)).trans ((hq_224.i 66 6 (by decide) (by decide)).trans ((hq_115.i 66 6 (by decide) (by decide)).trans (rfl))))))]
          refine S_callv (va_runV (As := []) (rest := []) ⟨hx, hb, hml, hown, hts⟩ (n_token l D k A a z G_251  ) (cwV 0 hts (gd_V hgd m1602 m1604 m50 m131 m1605) rfl rfl rfl (by decide +kernel) ⟨Nat.le_of_ble_eq_true rfl, Nat.le_of_ble_eq_true rfl⟩) (pre_V hW hB_G_251 hK hZ hS kd_66 rfl) rfl rfl hl.1 rfl (lv_room (Nat.le_of_ble_eq_true rfl)) dX12_formula_94 ⟨Nat.le_of_ble_eq_true rfl, Nat.le_of_ble_eq_true rfl⟩) hS (fun G_255 H locs hpo hW hS => ?_)
          obtain ⟨hB_G_255, hq_256, hp_257⟩ := hpo
          have hF := hF.call hq_256 (by decide) (by decide)
          refine lv_goto (tgt := 160) hx hb dX12_formula_97 (by decide) ?_
          refine lv_goto (tgt := 36) hx hb dX12_formula_160 (by decide) ?_
          have g_258 : (G_255.1 66 2).toInt = (G_24.1 66 2).toInt := by rw [show G_255.1 66 2 = (G_24.1 66 2) from ((hq_256.i 66 2 (by decide) (by decide)).trans ((gp_ne eG_251 (by decide)).trans ((gp_ne eG_245 (by decide)).trans ((hq_240.i 66 2 (by decide) (by decide)).trans ((hq_224.i 66 2 (by decide) (by decide)).trans ((hq_115.i 66 2 (by decide) (by decide)).trans (rfl)))))))]
          have g_259 : (G_255.1 66 20).toInt = y_244.toInt := by rw [show G_255.1 66 20 = y_244 from ((hq_256.i 66 20 (by decide) (by decide)).trans ((gp_ne eG_251 (by decide)).trans (gp_eq eG_245)))]
          have g_260 : (G_255.1 66 23).toInt = (G_24.1 66 23).toInt := by rw [show G_255.1 66 23 = (G_24.1 66 23) from ((hq_256.i 66 23 (by decide) (by decide)).trans ((gp_ne eG_251 (by decide)).trans ((gp_ne eG_245 (by decide)).trans ((hq_240.i 66 23 (by decide) (by decide)).trans ((hq_224.i 66 23 (by decide) (by decide)).trans ((hq_115.i 66 23 (by decide) (by decide)).trans (rfl)))))))]
          have g_261 : gB G_255 = gB G_245 := gB_fr (rs := []) (fs := [(66, 4), (66, 6), (66, 7), (66, 8), (66, 9), (66, 24)]) ((Fr.rf.put eG_251 (Or.inr (by decide))).call hq_256 (by decide) (by decide)) (by decide) (by decide)
          have g_262 : gC G_255 = gC G_239 := gC_fr (rs := []) (fs := [(66, 4), (66, 6), (66, 7), (66, 8), (66, 9), (66, 20), (66, 24)]) (((Fr.rf.put eG_245 (Or.inr (by decide))).put eG_251 (Or.inr (by decide))).call hq_256 (by decide) (by decide)) (by decide) (by decide)
          have g_263 : gD G_255 = gD G_239 := gD_fr (rs := []) (fs := [(66, 4), (66, 6), (66, 7), (66, 8), (66, 9), (66, 20), (66, 24)]) (((Fr.rf.put eG_245 (Or.inr (by decide))).put eG_251 (Or.inr (by decide))).call hq_256 (by decide) (by decide)) (by decide) (by decide)
          have g_264 : gM G_255 = gM G_239 := gM_fr (rs := []) (fs := [(66, 4), (66, 6), (66, 7), (66, 8), (66, 9), (66, 20), (66, 24)]) (((Fr.rf.put eG_245 (Or.inr (by decide))).put eG_251 (Or.inr (by decide))).call hq_256 (by decide) (by decide)) (by decide) (by decide)
          have g_265 : (G_255.1 66 2).toInt = (G_24.1 66 2).toInt := by rw [show G_255.1 66 2 = (G_24.1 66 2) from ((hq_256.i 66 2 (by decide) (by decide)).trans ((gp_ne eG_251 (by decide)).trans ((gp_ne eG_245 (by decide)).trans ((hq_240.i 66 2 (by decide) (by decide)).trans ((hq_224.i 66 2 (by decide) (by decide)).trans ((hq_115.i 66 2 (by decide) (by decide)).trans (rfl)))))))]
          have g_266 : (G_255.1 66 20).toInt = y_244.toInt := by rw [show G_255.1 66 20 = y_244 from ((hq_256.i 66 20 (by decide) (by decide)).trans ((gp_ne eG_251 (by decide)).trans (gp_eq eG_245)))]
          have g_267 : (G_255.1 66 23).toInt = (G_24.1 66 23).toInt := by rw [show G_255.1 66 23 = (G_24.1 66 23) from ((hq_256.i 66 23 (by decide) (by decide)).trans ((gp_ne eG_251 (by decide)).trans ((gp_ne eG_245 (by decide)).trans ((hq_240.i 66 23 (by decide) (by decide)).trans ((hq_224.i 66 23 (by decide) (by decide)).trans ((hq_115.i 66 23 (by decide) (by decide)).trans (rfl)))))))]
          have g_268 : (G_255.1 66 24).toInt = y_250.toInt := by rw [show G_255.1 66 24 = y_250 from ((hq_256.i 66 24 (by decide) (by decide)).trans (gp_eq eG_251))]
          have b_269 : 0 ≤ (G_255.1 66 4).toInt ∧ (G_255.1 66 4).toInt ≤ 1600 := hB_G_255.i 66 4 rfl rfl
          exact ih_26 (4000 - 1000 * (G_255.1 66 2).toInt + 100 * (40 - (G_255.1 66 23).toInt) + (G_255.1 66 20).toInt + x_28.toInt : Int).toNat (by omega) _ _ _ ⟨G_255, x_28, (Int.toNat_of_nonneg (by omega)), ⟨by omega, by omega⟩, (by omega), (by omega), hW, hB_G_255, hF, (((((((Fr.rf.call hq_25 (by decide) (by decide)).call hq_115 (by decide) (by decide)).call hq_224 (by decide) (by decide)).call hq_240 (by decide) (by decide)).put eG_245 (Or.inr (by decide))).put eG_251 (Or.inr (by decide))).call hq_256 (by decide) (by decide)), hS, lv_sub hl [1, 2] rfl⟩
