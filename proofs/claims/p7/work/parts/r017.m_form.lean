theorem m70 : Cond.selects RX12 yX12_unit yX12_unit ∈ gd := gd_mem 70 (by decide +kernel) (by decide +kernel)
theorem m77 : Cond.selects RX12 yX12_sign yX12_sign ∈ gd := gd_mem 77 (by decide +kernel) (by decide +kernel)
theorem m78 : Cond.selects RX12 yX12_hasBracket yX12_hasBracket ∈ gd := gd_mem 78 (by decide +kernel) (by decide +kernel)
theorem m79 : Cond.selects RX12 yX12_close yX12_close ∈ gd := gd_mem 79 (by decide +kernel) (by decide +kernel)
theorem m80 : Cond.selects RX12 yX12_hasRelation yX12_hasRelation ∈ gd := gd_mem 80 (by decide +kernel) (by decide +kernel)
theorem m1714 : Cond.methodLink RX12 333 yX12_unit ∈ gd := gd_mem 1714 (by decide +kernel) (by decide +kernel)
theorem m1716 : Cond.instanceMethod yX12_unit ∈ gd := gd_mem 1716 (by decide +kernel) (by decide +kernel)
theorem m1717 : Cond.code yX12_unit cX12_unit 3 none ∈ gd := gd_mem 1717 (by decide +kernel) (by decide +kernel)
theorem m1745 : Cond.methodLink RX12 336 yX12_sign ∈ gd := gd_mem 1745 (by decide +kernel) (by decide +kernel)
theorem m1747 : Cond.instanceMethod yX12_sign ∈ gd := gd_mem 1747 (by decide +kernel) (by decide +kernel)
theorem m1748 : Cond.code yX12_sign cX12_sign 1 (some .int) ∈ gd := gd_mem 1748 (by decide +kernel) (by decide +kernel)
theorem m1749 : Cond.methodLink RX12 339 yX12_hasBracket ∈ gd := gd_mem 1749 (by decide +kernel) (by decide +kernel)
theorem m1751 : Cond.instanceMethod yX12_hasBracket ∈ gd := gd_mem 1751 (by decide +kernel) (by decide +kernel)
theorem m1752 : Cond.code yX12_hasBracket cX12_hasBracket 3 (some .boolean) ∈ gd := gd_mem 1752 (by decide +kernel) (by decide +kernel)
theorem m1753 : Cond.methodLink RX12 342 yX12_close ∈ gd := gd_mem 1753 (by decide +kernel) (by decide +kernel)
theorem m1755 : Cond.instanceMethod yX12_close ∈ gd := gd_mem 1755 (by decide +kernel) (by decide +kernel)
theorem m1756 : Cond.code yX12_close cX12_close 2 none ∈ gd := gd_mem 1756 (by decide +kernel) (by decide +kernel)
theorem m1757 : Cond.methodLink RX12 345 yX12_hasRelation ∈ gd := gd_mem 1757 (by decide +kernel) (by decide +kernel)
theorem m1759 : Cond.instanceMethod yX12_hasRelation ∈ gd := gd_mem 1759 (by decide +kernel) (by decide +kernel)
theorem m1760 : Cond.code yX12_hasRelation cX12_hasRelation 2 (some .boolean) ∈ gd := gd_mem 1760 (by decide +kernel) (by decide +kernel)
theorem dX12_formula_0 : decode cX12_formula 0 = .ok (.aload_n 0, 1) := by decide +kernel
theorem dX12_formula_1 : decode cX12_formula 1 = .ok (.iload_n 1, 1) := by decide +kernel
theorem dX12_formula_2 : decode cX12_formula 2 = .ok (.putfield 296, 3) := by decide +kernel
theorem dX12_formula_5 : decode cX12_formula 5 = .ok (.aload_n 0, 1) := by decide +kernel
theorem dX12_formula_6 : decode cX12_formula 6 = .ok (.getfield 27, 3) := by decide +kernel
theorem dX12_formula_9 : decode cX12_formula 9 = .ok (.aload_n 0, 1) := by decide +kernel
theorem dX12_formula_10 : decode cX12_formula 10 = .ok (.getfield 296, 3) := by decide +kernel
theorem dX12_formula_13 : decode cX12_formula 13 = .ok (.iconst 0, 1) := by decide +kernel
theorem dX12_formula_14 : decode cX12_formula 14 = .ok (.iastore, 1) := by decide +kernel
theorem dX12_formula_15 : decode cX12_formula 15 = .ok (.aload_n 0, 1) := by decide +kernel
theorem dX12_formula_16 : decode cX12_formula 16 = .ok (.iconst 0, 1) := by decide +kernel
theorem dX12_formula_17 : decode cX12_formula 17 = .ok (.putfield 299, 3) := by decide +kernel
theorem dX12_formula_20 : decode cX12_formula 20 = .ok (.aload_n 0, 1) := by decide +kernel
theorem dX12_formula_21 : decode cX12_formula 21 = .ok (.iconst 0, 1) := by decide +kernel
theorem dX12_formula_22 : decode cX12_formula 22 = .ok (.putfield 309, 3) := by decide +kernel
theorem dX12_formula_25 : decode cX12_formula 25 = .ok (.aload_n 0, 1) := by decide +kernel
theorem dX12_formula_26 : decode cX12_formula 26 = .ok (.iconst 0, 1) := by decide +kernel
theorem dX12_formula_27 : decode cX12_formula 27 = .ok (.putfield 315, 3) := by decide +kernel
theorem dX12_formula_30 : decode cX12_formula 30 = .ok (.aload_n 0, 1) := by decide +kernel
theorem dX12_formula_31 : decode cX12_formula 31 = .ok (.invokevirtual 333, 3) := by decide +kernel
theorem dX12_formula_34 : decode cX12_formula 34 = .ok (.iconst 1, 1) := by decide +kernel
theorem dX12_formula_35 : decode cX12_formula 35 = .ok (.istore_n 2, 1) := by decide +kernel
theorem dX12_formula_36 : decode cX12_formula 36 = .ok (.iload_n 2, 1) := by decide +kernel
theorem dX12_formula_37 : decode cX12_formula 37 = .ok (.ifCond .eq 126, 3) := by decide +kernel
theorem dX12_formula_40 : decode cX12_formula 40 = .ok (.aload_n 0, 1) := by decide +kernel
theorem dX12_formula_41 : decode cX12_formula 41 = .ok (.getfield 218, 3) := by decide +kernel
theorem dX12_formula_44 : decode cX12_formula 44 = .ok (.ifCond .ne 119, 3) := by decide +kernel
theorem dX12_formula_47 : decode cX12_formula 47 = .ok (.aload_n 0, 1) := by decide +kernel
theorem dX12_formula_48 : decode cX12_formula 48 = .ok (.invokevirtual 336, 3) := by decide +kernel
theorem dX12_formula_51 : decode cX12_formula 51 = .ok (.istore_n 3, 1) := by decide +kernel
theorem dX12_formula_52 : decode cX12_formula 52 = .ok (.aload_n 0, 1) := by decide +kernel
theorem dX12_formula_53 : decode cX12_formula 53 = .ok (.getfield 205, 3) := by decide +kernel
theorem dX12_formula_56 : decode cX12_formula 56 = .ok (.bipush 41, 2) := by decide +kernel
theorem dX12_formula_58 : decode cX12_formula 58 = .ok (.if_icmp .ne 42, 3) := by decide +kernel
theorem dX12_formula_61 : decode cX12_formula 61 = .ok (.aload_n 0, 1) := by decide +kernel
theorem dX12_formula_62 : decode cX12_formula 62 = .ok (.invokevirtual 339, 3) := by decide +kernel
theorem dX12_formula_65 : decode cX12_formula 65 = .ok (.ifCond .eq 35, 3) := by decide +kernel
theorem dX12_formula_68 : decode cX12_formula 68 = .ok (.aload_n 0, 1) := by decide +kernel
theorem dX12_formula_69 : decode cX12_formula 69 = .ok (.iconst 0, 1) := by decide +kernel
theorem dX12_formula_70 : decode cX12_formula 70 = .ok (.invokevirtual 342, 3) := by decide +kernel
theorem dX12_formula_73 : decode cX12_formula 73 = .ok (.aload_n 0, 1) := by decide +kernel
theorem dX12_formula_74 : decode cX12_formula 74 = .ok (.dup, 1) := by decide +kernel
theorem dX12_formula_75 : decode cX12_formula 75 = .ok (.getfield 299, 3) := by decide +kernel
theorem dX12_formula_78 : decode cX12_formula 78 = .ok (.iconst 1, 1) := by decide +kernel
theorem dX12_formula_79 : decode cX12_formula 79 = .ok (.isub, 1) := by decide +kernel
theorem dX12_formula_80 : decode cX12_formula 80 = .ok (.putfield 299, 3) := by decide +kernel
theorem dX12_formula_83 : decode cX12_formula 83 = .ok (.aload_n 0, 1) := by decide +kernel
theorem dX12_formula_84 : decode cX12_formula 84 = .ok (.dup, 1) := by decide +kernel
theorem dX12_formula_85 : decode cX12_formula 85 = .ok (.getfield 309, 3) := by decide +kernel
theorem dX12_formula_88 : decode cX12_formula 88 = .ok (.iconst 1, 1) := by decide +kernel
theorem dX12_formula_89 : decode cX12_formula 89 = .ok (.isub, 1) := by decide +kernel
theorem dX12_formula_90 : decode cX12_formula 90 = .ok (.putfield 309, 3) := by decide +kernel
theorem dX12_formula_93 : decode cX12_formula 93 = .ok (.aload_n 0, 1) := by decide +kernel
theorem dX12_formula_94 : decode cX12_formula 94 = .ok (.invokevirtual 279, 3) := by decide +kernel
theorem dX12_formula_97 : decode cX12_formula 97 = .ok (.goto 63, 3) := by decide +kernel
theorem dX12_formula_100 : decode cX12_formula 100 = .ok (.iload_n 3, 1) := by decide +kernel
theorem dX12_formula_101 : decode cX12_formula 101 = .ok (.ifCond .eq 57, 3) := by decide +kernel
theorem dX12_formula_104 : decode cX12_formula 104 = .ok (.iload_n 3, 1) := by decide +kernel
theorem dX12_formula_105 : decode cX12_formula 105 = .ok (.invokestatic 302, 3) := by decide +kernel
theorem dX12_formula_108 : decode cX12_formula 108 = .ok (.iconst 4, 1) := by decide +kernel
theorem dX12_formula_109 : decode cX12_formula 109 = .ok (.if_icmp .ne 10, 3) := by decide +kernel
theorem dX12_formula_112 : decode cX12_formula 112 = .ok (.aload_n 0, 1) := by decide +kernel
theorem dX12_formula_113 : decode cX12_formula 113 = .ok (.invokevirtual 345, 3) := by decide +kernel
theorem dX12_formula_116 : decode cX12_formula 116 = .ok (.ifCond .ne 42, 3) := by decide +kernel
theorem dX12_formula_119 : decode cX12_formula 119 = .ok (.aload_n 0, 1) := by decide +kernel
theorem dX12_formula_120 : decode cX12_formula 120 = .ok (.iload_n 3, 1) := by decide +kernel
theorem dX12_formula_121 : decode cX12_formula 121 = .ok (.invokestatic 302, 3) := by decide +kernel
theorem dX12_formula_124 : decode cX12_formula 124 = .ok (.invokevirtual 342, 3) := by decide +kernel
theorem dX12_formula_127 : decode cX12_formula 127 = .ok (.aload_n 0, 1) := by decide +kernel
theorem dX12_formula_128 : decode cX12_formula 128 = .ok (.getfield 39, 3) := by decide +kernel
theorem dX12_formula_131 : decode cX12_formula 131 = .ok (.aload_n 0, 1) := by decide +kernel
theorem dX12_formula_132 : decode cX12_formula 132 = .ok (.getfield 299, 3) := by decide +kernel
theorem dX12_formula_135 : decode cX12_formula 135 = .ok (.iload_n 3, 1) := by decide +kernel
theorem dX12_formula_136 : decode cX12_formula 136 = .ok (.iastore, 1) := by decide +kernel
theorem dX12_formula_137 : decode cX12_formula 137 = .ok (.aload_n 0, 1) := by decide +kernel
theorem dX12_formula_138 : decode cX12_formula 138 = .ok (.dup, 1) := by decide +kernel
theorem dX12_formula_139 : decode cX12_formula 139 = .ok (.getfield 299, 3) := by decide +kernel
theorem dX12_formula_142 : decode cX12_formula 142 = .ok (.iconst 1, 1) := by decide +kernel
theorem dX12_formula_143 : decode cX12_formula 143 = .ok (.iadd, 1) := by decide +kernel
theorem dX12_formula_144 : decode cX12_formula 144 = .ok (.putfield 299, 3) := by decide +kernel
theorem dX12_formula_147 : decode cX12_formula 147 = .ok (.aload_n 0, 1) := by decide +kernel
theorem dX12_formula_148 : decode cX12_formula 148 = .ok (.invokevirtual 279, 3) := by decide +kernel
theorem dX12_formula_151 : decode cX12_formula 151 = .ok (.aload_n 0, 1) := by decide +kernel
theorem dX12_formula_152 : decode cX12_formula 152 = .ok (.invokevirtual 333, 3) := by decide +kernel
theorem dX12_formula_155 : decode cX12_formula 155 = .ok (.goto 5, 3) := by decide +kernel
theorem dX12_formula_158 : decode cX12_formula 158 = .ok (.iconst 0, 1) := by decide +kernel
theorem dX12_formula_159 : decode cX12_formula 159 = .ok (.istore_n 2, 1) := by decide +kernel
theorem dX12_formula_160 : decode cX12_formula 160 = .ok (.goto (-124), 3) := by decide +kernel
theorem dX12_formula_163 : decode cX12_formula 163 = .ok (.aload_n 0, 1) := by decide +kernel
theorem dX12_formula_164 : decode cX12_formula 164 = .ok (.getfield 218, 3) := by decide +kernel
theorem dX12_formula_167 : decode cX12_formula 167 = .ok (.ifCond .ne 15, 3) := by decide +kernel
theorem dX12_formula_170 : decode cX12_formula 170 = .ok (.aload_n 0, 1) := by decide +kernel
theorem dX12_formula_171 : decode cX12_formula 171 = .ok (.invokevirtual 339, 3) := by decide +kernel
theorem dX12_formula_174 : decode cX12_formula 174 = .ok (.ifCond .eq 8, 3) := by decide +kernel
theorem dX12_formula_177 : decode cX12_formula 177 = .ok (.aload_n 0, 1) := by decide +kernel
theorem dX12_formula_178 : decode cX12_formula 178 = .ok (.iconst 2, 1) := by decide +kernel
theorem dX12_formula_179 : decode cX12_formula 179 = .ok (.invokevirtual 282, 3) := by decide +kernel
theorem dX12_formula_182 : decode cX12_formula 182 = .ok (.aload_n 0, 1) := by decide +kernel
theorem dX12_formula_183 : decode cX12_formula 183 = .ok (.getfield 218, 3) := by decide +kernel
theorem dX12_formula_186 : decode cX12_formula 186 = .ok (.ifCond .ne 8, 3) := by decide +kernel
theorem dX12_formula_189 : decode cX12_formula 189 = .ok (.aload_n 0, 1) := by decide +kernel
theorem dX12_formula_190 : decode cX12_formula 190 = .ok (.iconst 0, 1) := by decide +kernel
theorem dX12_formula_191 : decode cX12_formula 191 = .ok (.invokevirtual 342, 3) := by decide +kernel
theorem dX12_formula_194 : decode cX12_formula 194 = .ok (.return_, 1) := by decide +kernel
set_option maxHeartbeats 4000000 in
set_option maxRecDepth 100000 in
theorem n_formula (l : Launch) (D : va_G) (k : KT) (A : Nat → Prop) (a : Nat → Nat) (z : SK) (G : GS) (p0 : Int32) (ha_p0 : 0 ≤ p0.toInt ∧ p0.toInt ≤ 5) (hnf : (G.1 66 2).toInt = 0) (hE9 : gE G = 1) (hp9 : p0.toInt = (G.1 66 47).toInt) : Met l yX12_formula (WS yX12_formula cX12_formula 4 none) ({ frames := 4, cells := 0, slots := 0, locals := 86 }) (va_Pc [.ref (a 66), .int p0] (cW D k A a z G)) (va_Qv (fun (G1 : GS) => Q_formula p0 G G1) (fun (G1 : GS) t => Wd D k A a G1 t.heap) A) 0 0 A := by
  refine Met.ofW (cc := cX12_formula) (maxL := 4) (ret := none) (by decide) rfl ?_
  intro p e s m args below meth c s₁ B hml hv
  obtain ⟨rfl, hW, hB_G, hK, hZ⟩ := hv
  have hx := B.exec
  have hb := B.bytes
  have hr := B.returns
  have hts := atoms_spec (ws := WS yX12_formula cX12_formula 4 none) B.pre
  have hgd : ∀ w ∈ gd, w ∈ WS yX12_formula cX12_formula 4 none := fun w h => List.mem_cons_of_mem _ h
  have hg : ∀ w ∈ gd, w.before _ s = true := fun w h => hts w (hgd w h)
  have hown : s.vm.findClass RX12 = some m.cls := findClass_of_methodNamed B.named
  have hS : va_S A s.heap s.heap [] := va_S.rf
  have hF : Fr [69, 70, 71, 75] [(66, 2), (66, 3), (66, 4), (66, 6), (66, 7), (66, 8), (66, 9), (66, 19), (66, 20), (66, 21), (66, 23), (66, 24)] G G := Fr.rf
  have hl := lv_entry ([.ref (a 66), .int p0]) (n := 4) (Nat.le_of_ble_eq_true rfl)
  rw [lg_entry_eq]
  generalize (lg_sl ([.ref (a 66), .int p0]) ++ List.replicate (4 - (lg_sl ([.ref (a 66), .int p0])).length) Slot.unset).toArray = ls at hl ⊢
  have hl : lv_has ls 4 [(0, .ref (a 66)), (1, .int p0)] := hl
  refine lv_aload_n hx hb dX12_formula_0 rfl (lv_at hl 0 rfl) ?_
  refine lv_iload_n hx hb dX12_formula_1 rfl (lv_at hl 1 rfl) ?_
  refine S_putI (ty := .int) (C := RX12) (T := TX12) (N := 89) hx hb hg iX12 tyX12 tyX12_ok nmX12 hown hK hW hS kd_66 rfl 19 (by decide) (hg (Cond.fieldLink RX12 296 "SlabWalkModel" "form" "I") m1333) (fun _ h9 => h9) rfl (by decide +kernel) rfl rfl rfl dX12_formula_2 (fun G_1 H locs eG_1 hW hS => ?_)
  have hB_G_1 : Bd G_1 := hB_G.put (V := p0.toInt) (lo := 0) (hi := 5) eG_1 rfl rfl rfl (by omega) (by omega) (hB_G.2.put eG_1 rfl)
  have hF := hF.put eG_1 (Or.inr (by decide))
  refine lv_aload_n hx hb dX12_formula_5 rfl (lv_at hl 0 rfl) ?_
  refine S_getR (n := 71) (C := RX12) (T := TX12) (N := 89) hx hb hg iX12 hown hK hW kd_66 rfl 13 (by decide) (hg (Cond.fieldLink RX12 27 "SlabWalkModel" "nMany" "[I") m1327) (fun _ h9 => h9) rfl dX12_formula_6 ?_
  refine lv_aload_n hx hb dX12_formula_9 rfl (lv_at hl 0 rfl) ?_
  refine S_getI (v := p0) (C := RX12) (T := TX12) (N := 89) hx hb hg iX12 hown hK hW kd_66 rfl 19 (by decide) (hg (Cond.fieldLink RX12 296 "SlabWalkModel" "form" "I") m1333) (fun _ h9 => h9) rfl (gp_eq eG_1) dX12_formula_10 ?_
  refine lv_iconst (v := 0) hx hb dX12_formula_13 (by decide) ?_
  refine S_iast hx hb hK hW hS kd_71 (vin (by omega) (by omega)) dX12_formula_14 (fun G_2 H locs eG_2 hW hS => ?_)
  have hB_G_2 : Bd G_2 := hB_G_1.put (V := 0) (lo := 0) (hi := 320) eG_2 rfl rfl rfl (by omega) (by omega) (hB_G_1.2.put eG_2 rfl)
  have hF := hF.put eG_2 (Or.inl (by decide))
  refine lv_aload_n hx hb dX12_formula_15 rfl (lv_at hl 0 rfl) ?_
  refine lv_iconst (v := 0) hx hb dX12_formula_16 (by decide) ?_
  refine S_putI (ty := .int) (C := RX12) (T := TX12) (N := 89) hx hb hg iX12 tyX12 tyX12_ok nmX12 hown hK hW hS kd_66 rfl 20 (by decide) (hg (Cond.fieldLink RX12 299 "SlabWalkModel" "opens" "I") m1334) (fun _ h9 => h9) rfl (by decide +kernel) rfl rfl rfl dX12_formula_17 (fun G_3 H locs eG_3 hW hS => ?_)
  have hB_G_3 : Bd G_3 := hB_G_2.put (V := 0) (lo := 0) (hi := 160) eG_3 rfl rfl rfl (by omega) (by omega) (hB_G_2.2.put eG_3 rfl)
  have hF := hF.put eG_3 (Or.inr (by decide))
  refine lv_aload_n hx hb dX12_formula_20 rfl (lv_at hl 0 rfl) ?_
  refine lv_iconst (v := 0) hx hb dX12_formula_21 (by decide) ?_
  refine S_putI (ty := .int) (C := RX12) (T := TX12) (N := 89) hx hb hg iX12 tyX12 tyX12_ok nmX12 hown hK hW hS kd_66 rfl 24 (by decide) (hg (Cond.fieldLink RX12 309 "SlabWalkModel" "deep" "I") m1338) (fun _ h9 => h9) rfl (by decide +kernel) rfl rfl rfl dX12_formula_22 (fun G_4 H locs eG_4 hW hS => ?_)
  have hB_G_4 : Bd G_4 := hB_G_3.put (V := 0) (lo := (-1)) (hi := 200) eG_4 rfl rfl rfl (by omega) (by omega) (hB_G_3.2.put eG_4 rfl)
  have hF := hF.put eG_4 (Or.inr (by decide))
  refine lv_aload_n hx hb dX12_formula_25 rfl (lv_at hl 0 rfl) ?_
  refine lv_iconst (v := 0) hx hb dX12_formula_26 (by decide) ?_
  refine S_putI (ty := .int) (C := RX12) (T := TX12) (N := 89) hx hb hg iX12 tyX12 tyX12_ok nmX12 hown hK hW hS kd_66 rfl 23 (by decide) (hg (Cond.fieldLink RX12 315 "SlabWalkModel" "ownUnits" "I") m1337) (fun _ h9 => h9) rfl (by decide +kernel) rfl rfl rfl dX12_formula_27 (fun G_5 H locs eG_5 hW hS => ?_)
  have hB_G_5 : Bd G_5 := hB_G_4.put (V := 0) (lo := 0) (hi := 40) eG_5 rfl rfl rfl (by omega) (by omega) (hB_G_4.2.put eG_5 rfl)
  have hF := hF.put eG_5 (Or.inr (by decide))
  have u_6 := form_gh (G := G) (G1 := G_5) hE9 ((gp_ne eG_5 (by decide)).trans ((gp_ne eG_4 (by decide)).trans ((gp_ne eG_3 (by decide)).trans ((gp_ne eG_2 (fun q => absurd q.1 (by decide))).trans (gp_eq eG_1))))) hp9 (fun j hj => ((gp_ne eG_5 (fun q => absurd q.1 (by decide))).trans ((gp_ne eG_4 (fun q => absurd q.1 (by decide))).trans ((gp_ne eG_3 (fun q => absurd q.1 (by decide))).trans ((gp_ne eG_2 (fun q => absurd q.1 (by decide))).trans (gp_ne eG_1 (fun q => absurd q.1 (by decide)))))))) (fun j hj => ((gp_ne eG_5 (fun q => absurd q.1 (by decide))).trans ((gp_ne eG_4 (fun q => absurd q.1 (by decide))).trans ((gp_ne eG_3 (fun q => absurd q.1 (by decide))).trans ((gp_ne eG_2 (fun q => hj q.2)).trans (gp_ne eG_1 (fun q => absurd q.1 (by decide)))))))) ((gp_ne eG_5 (fun q => absurd q.1 (by decide))).trans ((gp_ne eG_4 (fun q => absurd q.1 (by decide))).trans ((gp_ne eG_3 (fun q => absurd q.1 (by decide))).trans (gp_eq eG_2)))) ((gp_ne eG_5 (by decide)).trans ((gp_ne eG_4 (by decide)).trans (gp_eq eG_3)))
  refine lv_aload_n hx hb dX12_formula_30 rfl (lv_at hl 0 rfl) ?_
  have b_7 : 0 ≤ (G.1 66 2).toInt ∧ (G.1 66 2).toInt ≤ 4 := hB_G.i 66 2 rfl rfl
  have g_8 : (G_5.1 66 2).toInt = (G.1 66 2).toInt := by rw [show G_5.1 66 2 = (G.1 66 2) from ((gp_ne eG_5 (by decide)).trans ((gp_ne eG_4 (by decide)).trans ((gp_ne eG_3 (by decide)).trans ((gp_ne eG_2 (fun q => absurd q.1 (by decide))).trans (gp_ne eG_1 (by decide))))))]
  have g_9 : gB G_5 = gB G_3 := gB_fr (rs := []) (fs := [(66, 23), (66, 24)]) ((Fr.rf.put eG_4 (Or.inr (by decide))).put eG_5 (Or.inr (by decide))) (by decide) (by decide)
  have g_10 : gC G_5 = gC G_2 := gC_fr (rs := []) (fs := [(66, 20), (66, 23), (66, 24)]) (((Fr.rf.put eG_3 (Or.inr (by decide))).put eG_4 (Or.inr (by decide))).put eG_5 (Or.inr (by decide))) (by decide) (by decide)
  have g_11 : gD G_5 = gD G_2 := gD_fr (rs := []) (fs := [(66, 20), (66, 23), (66, 24)]) (((Fr.rf.put eG_3 (Or.inr (by decide))).put eG_4 (Or.inr (by decide))).put eG_5 (Or.inr (by decide))) (by decide) (by decide)
  have g_12 : gM G_5 = gM G_2 := gM_fr (rs := []) (fs := [(66, 20), (66, 23), (66, 24)]) (((Fr.rf.put eG_3 (Or.inr (by decide))).put eG_4 (Or.inr (by decide))).put eG_5 (Or.inr (by decide))) (by decide) (by decide)
  have g_13 : (G_5.1 66 20).toInt = 0 := by rw [show G_5.1 66 20 = 0 from ((gp_ne eG_5 (by decide)).trans ((gp_ne eG_4 (by decide)).trans (gp_eq eG_3)))]; rfl
  have g_14 : (G_5.1 66 23).toInt = 0 := by rw [show G_5.1 66 23 = 0 from (gp_eq eG_5)]; rfl
  have g_15 : (G_5.1 66 24).toInt = 0 := by rw [show G_5.1 66 24 = 0 from ((gp_ne eG_5 (by decide)).trans (gp_eq eG_4))]; rfl
  have g_16 : (G_5.1 66 23).toInt = 0 := by rw [show G_5.1 66 23 = 0 from (gp_eq eG_5)]; rfl
  have b_17 : 0 ≤ (G.1 66 4).toInt ∧ (G.1 66 4).toInt ≤ 1600 := hB_G.i 66 4 rfl rfl
  have g_18 : (G_5.1 66 4).toInt = (G.1 66 4).toInt := by rw [show G_5.1 66 4 = (G.1 66 4) from ((gp_ne eG_5 (by decide)).trans ((gp_ne eG_4 (by decide)).trans ((gp_ne eG_3 (by decide)).trans ((gp_ne eG_2 (fun q => absurd q.1 (by decide))).trans (gp_ne eG_1 (by decide))))))]
  have g_19 : (G_5.1 66 6).toInt = (G.1 66 6).toInt := by rw [show G_5.1 66 6 = (G.1 66 6) from ((gp_ne eG_5 (by decide)).trans ((gp_ne eG_4 (by decide)).trans ((gp_ne eG_3 (by decide)).trans ((gp_ne eG_2 (fun q => absurd q.1 (by decide))).trans (gp_ne eG_1 (by decide))))))]
  refine S_callv (va_runV (As := []) (rest := []) ⟨hx, hb, hml, hown, hts⟩ (n_unit l D k A a z G_5  (by omega) (by omega)) (cwV 0 hts (gd_V hgd m1714 m1716 m70 m131 m1717) rfl rfl rfl (by decide +kernel) ⟨Nat.le_of_ble_eq_true rfl, Nat.le_of_ble_eq_true rfl⟩) (pre_V hW hB_G_5 hK hZ hS kd_66 rfl) rfl rfl hl.1 rfl (lv_room (Nat.le_of_ble_eq_true rfl)) dX12_formula_31 ⟨Nat.le_of_ble_eq_true rfl, Nat.le_of_ble_eq_true rfl⟩) hS (fun G_21 H locs hpo hW hS => ?_)
  have hX_24 : Q_unit G_5 G_21 := hpo
  obtain ⟨hB_G_21, hq_22, hp_23, -⟩ := hpo
  have hF := hF.call hq_22 (by decide) (by decide)
  refine lv_iconst (v := 1) hx hb dX12_formula_34 (by decide) ?_
  refine lv_istore_n (lv' := [(2, .int 1), (0, .ref (a 66)), (1, .int p0)]) hx hb dX12_formula_35 rfl hl (by decide) rfl (fun ls hl => ?_)
  have b_31 : 0 ≤ (G_21.1 66 2).toInt ∧ (G_21.1 66 2).toInt ≤ 4 := hB_G_21.i 66 2 rfl rfl
  have b_32 : 0 ≤ (G_21.1 66 20).toInt ∧ (G_21.1 66 20).toInt ≤ 160 := hB_G_21.i 66 20 rfl rfl
  have b_33 : 0 ≤ (G_21.1 66 23).toInt ∧ (G_21.1 66 23).toInt ≤ 40 := hB_G_21.i 66 23 rfl rfl
  have b_34 : (-1) ≤ (G_21.1 66 24).toInt ∧ (G_21.1 66 24).toInt ≤ 200 := hB_G_21.i 66 24 rfl rfl
  have b_35 : 0 ≤ (G_21.1 66 4).toInt ∧ (G_21.1 66 4).toInt ≤ 1600 := hB_G_21.i 66 4 rfl rfl
  have qc_36 : (1 : Int32).toInt = 1 := rfl
  refine loop_N (Inv := fun n H locs ls => ∃ (G_25 : GS) (x_29 : Int32), (n : Int) = 4000 - 1000 * (G_25.1 66 2).toInt + 100 * (40 - (G_25.1 66 23).toInt) + (G_25.1 66 20).toInt + x_29.toInt ∧ (0 ≤ x_29.toInt ∧ x_29.toInt ≤ 1) ∧ ((G_25.1 66 2).toInt = 0 → gC G_25 = 1 ∧ gD G_25 = gB G_25 + 1 ∧ (G_25.1 66 24).toInt = (G_25.1 66 20).toInt - gB G_25 ∧ gD G_25 ≤ (G_25.1 66 23).toInt ∧ (G_25.1 66 23).toInt ≤ 30 ∧ gM G_25 + (G_25.1 66 20).toInt ≤ 10 * (G_25.1 66 23).toInt ∧ (G_25.1 66 24).toInt ≤ 7) ∧ ((G.1 66 4).toInt ≤ (G_25.1 66 4).toInt ∧ ((G_25.1 66 4).toInt = (G.1 66 4).toInt → (G_25.1 66 6).toInt = (G.1 66 6).toInt ∨ (G_25.1 66 6).toInt ≤ 3)) ∧ Rc (St_n_formula_1 G) (1, G_21) (x_29, G_25) ∧ Wd D k A a G_25 H ∧ Bd G_25 ∧ Fr [69, 70, 71, 75] [(66, 2), (66, 3), (66, 4), (66, 6), (66, 7), (66, 8), (66, 9), (66, 19), (66, 20), (66, 21), (66, 23), (66, 24)] G G_25 ∧ Fr [69, 70, 71, 75] [(66, 2), (66, 3), (66, 4), (66, 6), (66, 7), (66, 8), (66, 9), (66, 20), (66, 21), (66, 23), (66, 24)] G_21 G_25 ∧ va_S A s.heap H locs ∧ lv_has ls 4 [(2, .int x_29), (0, .ref (a 66))]) (fun n_28 H locs ls ih_27 hI => ?_) (4000 - 1000 * (G_21.1 66 2).toInt + 100 * (40 - (G_21.1 66 23).toInt) + (G_21.1 66 20).toInt + 1 : Int).toNat ⟨G_21, 1, (Int.toNat_of_nonneg (by omega)), ⟨by omega, by omega⟩, (by omega), (by omega), Rc.rf, hW, hB_G_21, hF, Fr.rf, hS, lv_sub hl [0, 1] rfl⟩
  obtain ⟨G_25, x_29, hn_40, f_37, f_38, f_39, hX_30, hW, hB_G_25, hF, hq_26, hS, hl⟩ := hI
  have b_41 : 0 ≤ (G_25.1 66 2).toInt ∧ (G_25.1 66 2).toInt ≤ 4 := hB_G_25.i 66 2 rfl rfl
  have b_42 : 0 ≤ (G_25.1 66 20).toInt ∧ (G_25.1 66 20).toInt ≤ 160 := hB_G_25.i 66 20 rfl rfl
  have b_43 : 0 ≤ (G_25.1 66 23).toInt ∧ (G_25.1 66 23).toInt ≤ 40 := hB_G_25.i 66 23 rfl rfl
  have b_44 : (-1) ≤ (G_25.1 66 24).toInt ∧ (G_25.1 66 24).toInt ≤ 200 := hB_G_25.i 66 24 rfl rfl
  have b_45 : 0 ≤ (G_25.1 66 4).toInt ∧ (G_25.1 66 4).toInt ≤ 1600 := hB_G_25.i 66 4 rfl rfl
  have u_46 := gh_pos (G := G_25) (by omega)
  refine lv_iload_n hx hb dX12_formula_36 rfl (lv_at hl 0 rfl) ?_
  refine W.cut (σ := Unit) (pcJ := 163) (J := fun y H locs ls => ∃ (G_48 : GS), Jn_n_formula_2 x_29 G_25 G_48 ∧ Wd D k A a G_48 H ∧ Bd G_48 ∧ Fr [69, 70, 71, 75] [(66, 2), (66, 3), (66, 4), (66, 6), (66, 7), (66, 8), (66, 9), (66, 19), (66, 20), (66, 21), (66, 23), (66, 24)] G G_48 ∧ Fr [] [] G_25 G_48 ∧ va_S A s.heap H locs ∧ lv_has ls 4 [(0, .ref (a 66))]) (stJ := fun _ => []) ?_ (fun hJ_49 => ?_)
  · intro y H locs ls hI
    obtain ⟨G_48, hX_51, hW, hB_G_48, hF, hq_50, hS, hl⟩ := hI
    refine lv_aload_n hx hb dX12_formula_163 rfl (lv_at hl 0 rfl) ?_
    refine S_getI (v := (G_25.1 66 2)) (C := RX12) (T := TX12) (N := 89) hx hb hg iX12 hown hK hW kd_66 rfl 2 (by decide) (hg (Cond.fieldLink RX12 218 "SlabWalkModel" "fault" "I") m1316) (fun _ h9 => h9) rfl ((hq_50.i 66 2 (by decide) (by decide)).trans (rfl)) dX12_formula_164 ?_
    refine lv_if_ne (tgt := 182) hx hb dX12_formula_167 (by decide) (fun c_52 => ?_) (fun c_52 => ?_)
    · have c_52 : (G_25.1 66 2).toInt ≠ 0 := xI_ne rfl rfl c_52
      refine lv_aload_n hx hb dX12_formula_182 rfl (lv_at hl 0 rfl) ?_
      refine S_getI (v := (G_25.1 66 2)) (C := RX12) (T := TX12) (N := 89) hx hb hg iX12 hown hK hW kd_66 rfl 2 (by decide) (hg (Cond.fieldLink RX12 218 "SlabWalkModel" "fault" "I") m1316) (fun _ h9 => h9) rfl ((hq_50.i 66 2 (by decide) (by decide)).trans (rfl)) dX12_formula_183 ?_
      refine lv_if_ne (tgt := 194) hx hb dX12_formula_186 (by decide) (fun c_53 => ?_) (fun c_53 => ?_)
      · have c_53 : (G_25.1 66 2).toInt ≠ 0 := xI_ne rfl rfl c_53
        have g_54 : gC G_48 = gC G_25 := gC_fr (rs := []) (fs := []) (Fr.rf.call hq_50 (by decide) (by decide)) (by decide) (by decide)
        have g_55 : (G_48.1 66 19).toInt = p0.toInt := by rw [show G_48.1 66 19 = p0 from ((hq_50.i 66 19 (by decide) (by decide)).trans ((hq_26.i 66 19 (by decide) (by decide)).trans ((hq_22.i 66 19 (by decide) (by decide)).trans ((gp_ne eG_5 (by decide)).trans ((gp_ne eG_4 (by decide)).trans ((gp_ne eG_3 (by decide)).trans ((gp_ne eG_2 (fun q => absurd q.1 (by decide))).trans (gp_eq eG_1))))))))]
        have g_56 : (G_48.1 66 2).toInt = (G_25.1 66 2).toInt := by rw [show G_48.1 66 2 = (G_25.1 66 2) from ((hq_50.i 66 2 (by decide) (by decide)).trans (rfl))]
        have g_57 : (G_48.1 66 4).toInt = (G_25.1 66 4).toInt := by rw [show G_48.1 66 4 = (G_25.1 66 4) from ((hq_50.i 66 4 (by decide) (by decide)).trans (rfl))]
        have g_58 : (G_48.1 66 6).toInt = (G_25.1 66 6).toInt := by rw [show G_48.1 66 6 = (G_25.1 66 6) from ((hq_50.i 66 6 (by decide) (by decide)).trans (rfl))]
        exact W.vret hx hb hr (fun t ht _ => ⟨⟨G_48, rfl, (Q_formula_mk ⟨hB_G_48, hF, (by omega), ⟨G_5, hB_G_5, (((((Fr.rf.put eG_1 (Or.inr (by decide))).put eG_2 (Or.inl (by decide))).put eG_3 (Or.inr (by decide))).put eG_4 (Or.inr (by decide))).put eG_5 (Or.inr (by decide))), ((gp_ne eG_5 (by decide)).trans ((gp_ne eG_4 (by decide)).trans ((gp_ne eG_3 (by decide)).trans ((gp_ne eG_2 (fun q => absurd q.1 (by decide))).trans (gp_eq eG_1))))), ((gp_ne eG_5 (by decide)).trans ((gp_ne eG_4 (by decide)).trans (gp_eq eG_3))), (gp_eq eG_5), ((gp_ne eG_5 (by decide)).trans (gp_eq eG_4)), (rw_put eG_5 (by decide)).trans ((rw_put eG_4 (by decide)).trans ((rw_put eG_3 (by decide)).trans ((rw_ast eG_2).trans (congrArg (fun q => upd q (p0.toNatClampNeg) 0) (rw_put eG_1 (by decide)))))), ⟨G_21, hX_24, ⟨x_29, G_25, hX_30, f_37, f_38, f_39, hB_G_25, hq_26, ⟨G_48, hX_51, hB_G_48, hq_50, (Or.inr ⟨c_52, rfl⟩)⟩⟩⟩⟩⟩), wd_t ht hW⟩, hS.F ht⟩) hS.2.2 dX12_formula_194
      · have c_53 : (G_25.1 66 2).toInt = 0 := xI_eq rfl rfl c_53
        exfalso; omega
    · have c_52 : (G_25.1 66 2).toInt = 0 := xI_eq rfl rfl c_52
      refine lv_aload_n hx hb dX12_formula_170 rfl (lv_at hl 0 rfl) ?_
      have g_59 : gK G_48 = gK G_25 := gK_fr (rs := []) (fs := []) (Fr.rf.call hq_50 (by decide) (by decide)) (by decide) (by decide)
      refine S_calli (va_runV (As := []) (rest := []) ⟨hx, hb, hml, hown, hts⟩ (n_hasBracket l D k A a z G_48  ) (cwV 0 hts (gd_V hgd m1749 m1751 m78 m131 m1752) rfl rfl rfl (by decide +kernel) ⟨Nat.le_of_ble_eq_true rfl, Nat.le_of_ble_eq_true rfl⟩) (pre_V hW hB_G_48 hK hZ hS kd_66 rfl) rfl rfl hl.1 rfl (lv_room (Nat.le_of_ble_eq_true rfl)) dX12_formula_171 ⟨Nat.le_of_ble_eq_true rfl, Nat.le_of_ble_eq_true rfl⟩) hS (fun r_60 G_61 H locs hpo hW hS => ?_)
      have hX_64 : Q_hasBracket G_48 r_60 G_61 := hpo
      obtain ⟨hB_G_61, hq_62, f_65, hp_63, -⟩ := hpo
      have hF := hF.call hq_62 (by decide) (by decide)
      refine lv_if_eq (tgt := 182) hx hb dX12_formula_174 (by decide) (fun c_66 => ?_) (fun c_66 => ?_)
      · have c_66 : r_60.toInt = 0 := xI_eq rfl rfl c_66
        refine lv_aload_n hx hb dX12_formula_182 rfl (lv_at hl 0 rfl) ?_
        refine S_getI (v := (G_25.1 66 2)) (C := RX12) (T := TX12) (N := 89) hx hb hg iX12 hown hK hW kd_66 rfl 2 (by decide) (hg (Cond.fieldLink RX12 218 "SlabWalkModel" "fault" "I") m1316) (fun _ h9 => h9) rfl ((hq_62.i 66 2 (by decide) (by decide)).trans ((hq_50.i 66 2 (by decide) (by decide)).trans (rfl))) dX12_formula_183 ?_
        refine lv_if_ne (tgt := 194) hx hb dX12_formula_186 (by decide) (fun c_67 => ?_) (fun c_67 => ?_)
        · have c_67 : (G_25.1 66 2).toInt ≠ 0 := xI_ne rfl rfl c_67
          exfalso; omega
        · have c_67 : (G_25.1 66 2).toInt = 0 := xI_eq rfl rfl c_67
          refine lv_aload_n hx hb dX12_formula_189 rfl (lv_at hl 0 rfl) ?_
          refine lv_iconst (v := 0) hx hb dX12_formula_190 (by decide) ?_
          have g_68 : gB G_61 = gB G_25 := gB_fr (rs := []) (fs := []) ((Fr.rf.call hq_50 (by decide) (by decide)).call hq_62 (by decide) (by decide)) (by decide) (by decide)
          have g_69 : gC G_61 = gC G_25 := gC_fr (rs := []) (fs := []) ((Fr.rf.call hq_50 (by decide) (by decide)).call hq_62 (by decide) (by decide)) (by decide) (by decide)
          have g_70 : gD G_61 = gD G_25 := gD_fr (rs := []) (fs := []) ((Fr.rf.call hq_50 (by decide) (by decide)).call hq_62 (by decide) (by decide)) (by decide) (by decide)
          have g_71 : gM G_61 = gM G_25 := gM_fr (rs := []) (fs := []) ((Fr.rf.call hq_50 (by decide) (by decide)).call hq_62 (by decide) (by decide)) (by decide) (by decide)
          have g_72 : (G_61.1 66 20).toInt = (G_25.1 66 20).toInt := by rw [show G_61.1 66 20 = (G_25.1 66 20) from ((hq_62.i 66 20 (by decide) (by decide)).trans ((hq_50.i 66 20 (by decide) (by decide)).trans (rfl)))]
          have g_73 : (G_61.1 66 24).toInt = (G_25.1 66 24).toInt := by rw [show G_61.1 66 24 = (G_25.1 66 24) from ((hq_62.i 66 24 (by decide) (by decide)).trans ((hq_50.i 66 24 (by decide) (by decide)).trans (rfl)))]
          have qc_74 : (0 : Int32).toInt = 0 := rfl
          have g_75 : gK G_61 = gK G_25 := gK_fr (rs := []) (fs := []) ((Fr.rf.call hq_50 (by decide) (by decide)).call hq_62 (by decide) (by decide)) (by decide) (by decide)
          have g_76 : (G_61.1 66 20).toInt = (G_25.1 66 20).toInt := by rw [show G_61.1 66 20 = (G_25.1 66 20) from ((hq_62.i 66 20 (by decide) (by decide)).trans ((hq_50.i 66 20 (by decide) (by decide)).trans (rfl)))]
          have g_77 : (G_61.1 66 24).toInt = (G_25.1 66 24).toInt := by rw [show G_61.1 66 24 = (G_25.1 66 24) from ((hq_62.i 66 24 (by decide) (by decide)).trans ((hq_50.i 66 24 (by decide) (by decide)).trans (rfl)))]
          refine S_callv (va_runV (As := [.int 0]) (rest := []) ⟨hx, hb, hml, hown, hts⟩ (n_close l D k A a z G_61 0 (by omega)) (cwV 1 hts (gd_V hgd m1753 m1755 m79 m131 m1756) rfl rfl rfl (by decide +kernel) ⟨Nat.le_of_ble_eq_true rfl, Nat.le_of_ble_eq_true rfl⟩) (pre_V hW hB_G_61 hK hZ hS kd_66 rfl) rfl rfl hl.1 rfl (lv_room (Nat.le_of_ble_eq_true rfl)) dX12_formula_191 ⟨Nat.le_of_ble_eq_true rfl, Nat.le_of_ble_eq_true rfl⟩) hS (fun G_79 H locs hpo hW hS => ?_)
          have hX_82 : Q_close 0 G_61 G_79 := hpo
          obtain ⟨hB_G_79, hq_80, hp_81, -⟩ := hpo
          have hF := hF.call hq_80 (by decide) (by decide)
          have g_83 : (G_79.1 66 19).toInt = p0.toInt := by rw [show G_79.1 66 19 = p0 from ((hq_80.i 66 19 (by decide) (by decide)).trans ((hq_62.i 66 19 (by decide) (by decide)).trans ((hq_50.i 66 19 (by decide) (by decide)).trans ((hq_26.i 66 19 (by decide) (by decide)).trans ((hq_22.i 66 19 (by decide) (by decide)).trans ((gp_ne eG_5 (by decide)).trans ((gp_ne eG_4 (by decide)).trans ((gp_ne eG_3 (by decide)).trans ((gp_ne eG_2 (fun q => absurd q.1 (by decide))).trans (gp_eq eG_1))))))))))]
          have g_84 : (G_79.1 66 2).toInt = (G_25.1 66 2).toInt := by rw [show G_79.1 66 2 = (G_25.1 66 2) from ((hq_80.i 66 2 (by decide) (by decide)).trans ((hq_62.i 66 2 (by decide) (by decide)).trans ((hq_50.i 66 2 (by decide) (by decide)).trans (rfl))))]
          have g_85 : (G_79.1 66 4).toInt = (G_25.1 66 4).toInt := by rw [show G_79.1 66 4 = (G_25.1 66 4) from ((hq_80.i 66 4 (by decide) (by decide)).trans ((hq_62.i 66 4 (by decide) (by decide)).trans ((hq_50.i 66 4 (by decide) (by decide)).trans (rfl))))]
          have g_86 : (G_79.1 66 6).toInt = (G_25.1 66 6).toInt := by rw [show G_79.1 66 6 = (G_25.1 66 6) from ((hq_80.i 66 6 (by decide) (by decide)).trans ((hq_62.i 66 6 (by decide) (by decide)).trans ((hq_50.i 66 6 (by decide) (by decide)).trans (rfl))))]
          exact W.vret hx hb hr (fun t ht _ => ⟨⟨G_79, rfl, (Q_formula_mk ⟨hB_G_79, hF, (by omega), ⟨G_5, hB_G_5, (((((Fr.rf.put eG_1 (Or.inr (by decide))).put eG_2 (Or.inl (by decide))).put eG_3 (Or.inr (by decide))).put eG_4 (Or.inr (by decide))).put eG_5 (Or.inr (by decide))), ((gp_ne eG_5 (by decide)).trans ((gp_ne eG_4 (by decide)).trans ((gp_ne eG_3 (by decide)).trans ((gp_ne eG_2 (fun q => absurd q.1 (by decide))).trans (gp_eq eG_1))))), ((gp_ne eG_5 (by decide)).trans ((gp_ne eG_4 (by decide)).trans (gp_eq eG_3))), (gp_eq eG_5), ((gp_ne eG_5 (by decide)).trans (gp_eq eG_4)), (rw_put eG_5 (by decide)).trans ((rw_put eG_4 (by decide)).trans ((rw_put eG_3 (by decide)).trans ((rw_ast eG_2).trans (congrArg (fun q => upd q (p0.toNatClampNeg) 0) (rw_put eG_1 (by decide)))))), ⟨G_21, hX_24, ⟨x_29, G_25, hX_30, f_37, f_38, f_39, hB_G_25, hq_26, ⟨G_48, hX_51, hB_G_48, hq_50, (Or.inl ⟨c_52, ⟨r_60, G_61, hX_64, (Or.inl ⟨c_66, ⟨G_79, hX_82, rfl⟩⟩)⟩⟩)⟩⟩⟩⟩⟩), wd_t ht hW⟩, hS.F ht⟩) hS.2.2 dX12_formula_194
      · have c_66 : r_60.toInt ≠ 0 := xI_ne rfl rfl c_66
        refine lv_aload_n hx hb dX12_formula_177 rfl (lv_at hl 0 rfl) ?_
        refine lv_iconst (v := 2) hx hb dX12_formula_178 (by decide) ?_
        have qc_87 : (2 : Int32).toInt = 2 := rfl
        refine S_callv (va_runV (As := [.int 2]) (rest := []) ⟨hx, hb, hml, hown, hts⟩ (n_wrong l D k A a z G_61 2 ⟨by decide, by decide⟩) (cwV 1 hts (gd_V hgd m1670 m1672 m59 m131 m1673) rfl rfl rfl (by decide +kernel) ⟨Nat.le_of_ble_eq_true rfl, Nat.le_of_ble_eq_true rfl⟩) (pre_V hW hB_G_61 hK hZ hS kd_66 rfl) rfl rfl hl.1 rfl (lv_room (Nat.le_of_ble_eq_true rfl)) dX12_formula_179 ⟨Nat.le_of_ble_eq_true rfl, Nat.le_of_ble_eq_true rfl⟩) hS (fun G_89 H locs hpo hW hS => ?_)
        have hX_92 : Q_wrong 2 G_61 G_89 := hpo
        obtain ⟨hB_G_89, hq_90, hp_91, -⟩ := hpo
        have hF := hF.call hq_90 (by decide) (by decide)
        refine lv_aload_n hx hb dX12_formula_182 rfl (lv_at hl 0 rfl) ?_
        have b_93 : 0 ≤ (G_89.1 66 2).toInt ∧ (G_89.1 66 2).toInt ≤ 4 := hB_G_89.i 66 2 rfl rfl
        refine S_getI (v := (G_89.1 66 2)) (C := RX12) (T := TX12) (N := 89) hx hb hg iX12 hown hK hW kd_66 rfl 2 (by decide) (hg (Cond.fieldLink RX12 218 "SlabWalkModel" "fault" "I") m1316) (fun _ h9 => h9) rfl rfl dX12_formula_183 ?_
        refine lv_if_ne (tgt := 194) hx hb dX12_formula_186 (by decide) (fun c_94 => ?_) (fun c_94 => ?_)
        · have c_94 : (G_89.1 66 2).toInt ≠ 0 := xI_ne rfl rfl c_94
          have g_95 : gC G_89 = gC G_25 := gC_fr (rs := []) (fs := [(66, 2), (66, 3)]) (((Fr.rf.call hq_50 (by decide) (by decide)).call hq_62 (by decide) (by decide)).call hq_90 (by decide) (by decide)) (by decide) (by decide)
          have g_96 : (G_89.1 66 19).toInt = p0.toInt := by rw [show G_89.1 66 19 = p0 from ((hq_90.i 66 19 (by decide) (by decide)).trans ((hq_62.i 66 19 (by decide) (by decide)).trans ((hq_50.i 66 19 (by decide) (by decide)).trans ((hq_26.i 66 19 (by decide) (by decide)).trans ((hq_22.i 66 19 (by decide) (by decide)).trans ((gp_ne eG_5 (by decide)).trans ((gp_ne eG_4 (by decide)).trans ((gp_ne eG_3 (by decide)).trans ((gp_ne eG_2 (fun q => absurd q.1 (by decide))).trans (gp_eq eG_1))))))))))]
          have g_97 : (G_89.1 66 4).toInt = (G_25.1 66 4).toInt := by rw [show G_89.1 66 4 = (G_25.1 66 4) from ((hq_90.i 66 4 (by decide) (by decide)).trans ((hq_62.i 66 4 (by decide) (by decide)).trans ((hq_50.i 66 4 (by decide) (by decide)).trans (rfl))))]
          have g_98 : (G_89.1 66 6).toInt = (G_25.1 66 6).toInt := by rw [show G_89.1 66 6 = (G_25.1 66 6) from ((hq_90.i 66 6 (by decide) (by decide)).trans ((hq_62.i 66 6 (by decide) (by decide)).trans ((hq_50.i 66 6 (by decide) (by decide)).trans (rfl))))]
          exact W.vret hx hb hr (fun t ht _ => ⟨⟨G_89, rfl, (Q_formula_mk ⟨hB_G_89, hF, (by omega), ⟨G_5, hB_G_5, (((((Fr.rf.put eG_1 (Or.inr (by decide))).put eG_2 (Or.inl (by decide))).put eG_3 (Or.inr (by decide))).put eG_4 (Or.inr (by decide))).put eG_5 (Or.inr (by decide))), ((gp_ne eG_5 (by decide)).trans ((gp_ne eG_4 (by decide)).trans ((gp_ne eG_3 (by decide)).trans ((gp_ne eG_2 (fun q => absurd q.1 (by decide))).trans (gp_eq eG_1))))), ((gp_ne eG_5 (by decide)).trans ((gp_ne eG_4 (by decide)).trans (gp_eq eG_3))), (gp_eq eG_5), ((gp_ne eG_5 (by decide)).trans (gp_eq eG_4)), (rw_put eG_5 (by decide)).trans ((rw_put eG_4 (by decide)).trans ((rw_put eG_3 (by decide)).trans ((rw_ast eG_2).trans (congrArg (fun q => upd q (p0.toNatClampNeg) 0) (rw_put eG_1 (by decide)))))), ⟨G_21, hX_24, ⟨x_29, G_25, hX_30, f_37, f_38, f_39, hB_G_25, hq_26, ⟨G_48, hX_51, hB_G_48, hq_50, (Or.inl ⟨c_52, ⟨r_60, G_61, hX_64, (Or.inr ⟨c_66, ⟨G_89, hX_92, (Or.inr ⟨c_94, rfl⟩)⟩⟩)⟩⟩)⟩⟩⟩⟩⟩), wd_t ht hW⟩, hS.F ht⟩) hS.2.2 dX12_formula_194
        · have c_94 : (G_89.1 66 2).toInt = 0 := xI_eq rfl rfl c_94
          refine lv_aload_n hx hb dX12_formula_189 rfl (lv_at hl 0 rfl) ?_
          refine lv_iconst (v := 0) hx hb dX12_formula_190 (by decide) ?_
          have g_99 : gB G_89 = gB G_25 := gB_fr (rs := []) (fs := [(66, 2), (66, 3)]) (((Fr.rf.call hq_50 (by decide) (by decide)).call hq_62 (by decide) (by decide)).call hq_90 (by decide) (by decide)) (by decide) (by decide)
          have g_100 : gC G_89 = gC G_25 := gC_fr (rs := []) (fs := [(66, 2), (66, 3)]) (((Fr.rf.call hq_50 (by decide) (by decide)).call hq_62 (by decide) (by decide)).call hq_90 (by decide) (by decide)) (by decide) (by decide)
          have g_101 : gD G_89 = gD G_25 := gD_fr (rs := []) (fs := [(66, 2), (66, 3)]) (((Fr.rf.call hq_50 (by decide) (by decide)).call hq_62 (by decide) (by decide)).call hq_90 (by decide) (by decide)) (by decide) (by decide)
          have g_102 : gM G_89 = gM G_25 := gM_fr (rs := []) (fs := [(66, 2), (66, 3)]) (((Fr.rf.call hq_50 (by decide) (by decide)).call hq_62 (by decide) (by decide)).call hq_90 (by decide) (by decide)) (by decide) (by decide)
          have g_103 : (G_89.1 66 20).toInt = (G_25.1 66 20).toInt := by rw [show G_89.1 66 20 = (G_25.1 66 20) from ((hq_90.i 66 20 (by decide) (by decide)).trans ((hq_62.i 66 20 (by decide) (by decide)).trans ((hq_50.i 66 20 (by decide) (by decide)).trans (rfl))))]
          have g_104 : (G_89.1 66 24).toInt = (G_25.1 66 24).toInt := by rw [show G_89.1 66 24 = (G_25.1 66 24) from ((hq_90.i 66 24 (by decide) (by decide)).trans ((hq_62.i 66 24 (by decide) (by decide)).trans ((hq_50.i 66 24 (by decide) (by decide)).trans (rfl))))]
          have qc_105 : (0 : Int32).toInt = 0 := rfl
          have g_106 : gK G_89 = gK G_25 := gK_fr (rs := []) (fs := [(66, 2), (66, 3)]) (((Fr.rf.call hq_50 (by decide) (by decide)).call hq_62 (by decide) (by decide)).call hq_90 (by decide) (by decide)) (by decide) (by decide)
          have g_107 : (G_89.1 66 20).toInt = (G_25.1 66 20).toInt := by rw [show G_89.1 66 20 = (G_25.1 66 20) from ((hq_90.i 66 20 (by decide) (by decide)).trans ((hq_62.i 66 20 (by decide) (by decide)).trans ((hq_50.i 66 20 (by decide) (by decide)).trans (rfl))))]
          have g_108 : (G_89.1 66 24).toInt = (G_25.1 66 24).toInt := by rw [show G_89.1 66 24 = (G_25.1 66 24) from ((hq_90.i 66 24 (by decide) (by decide)).trans ((hq_62.i 66 24 (by decide) (by decide)).trans ((hq_50.i 66 24 (by decide) (by decide)).trans (rfl))))]
          refine S_callv (va_runV (As := [.int 0]) (rest := []) ⟨hx, hb, hml, hown, hts⟩ (n_close l D k A a z G_89 0 (by omega)) (cwV 1 hts (gd_V hgd m1753 m1755 m79 m131 m1756) rfl rfl rfl (by decide +kernel) ⟨Nat.le_of_ble_eq_true rfl, Nat.le_of_ble_eq_true rfl⟩) (pre_V hW hB_G_89 hK hZ hS kd_66 rfl) rfl rfl hl.1 rfl (lv_room (Nat.le_of_ble_eq_true rfl)) dX12_formula_191 ⟨Nat.le_of_ble_eq_true rfl, Nat.le_of_ble_eq_true rfl⟩) hS (fun G_110 H locs hpo hW hS => ?_)
          have hX_113 : Q_close 0 G_89 G_110 := hpo
          obtain ⟨hB_G_110, hq_111, hp_112, -⟩ := hpo
          have hF := hF.call hq_111 (by decide) (by decide)
          have g_114 : (G_110.1 66 19).toInt = p0.toInt := by rw [show G_110.1 66 19 = p0 from ((hq_111.i 66 19 (by decide) (by decide)).trans ((hq_90.i 66 19 (by decide) (by decide)).trans ((hq_62.i 66 19 (by decide) (by decide)).trans ((hq_50.i 66 19 (by decide) (by decide)).trans ((hq_26.i 66 19 (by decide) (by decide)).trans ((hq_22.i 66 19 (by decide) (by decide)).trans ((gp_ne eG_5 (by decide)).trans ((gp_ne eG_4 (by decide)).trans ((gp_ne eG_3 (by decide)).trans ((gp_ne eG_2 (fun q => absurd q.1 (by decide))).trans (gp_eq eG_1)))))))))))]
          have g_115 : (G_110.1 66 2).toInt = (G_89.1 66 2).toInt := by rw [show G_110.1 66 2 = (G_89.1 66 2) from ((hq_111.i 66 2 (by decide) (by decide)).trans (rfl))]
          have g_116 : (G_110.1 66 4).toInt = (G_25.1 66 4).toInt := by rw [show G_110.1 66 4 = (G_25.1 66 4) from ((hq_111.i 66 4 (by decide) (by decide)).trans ((hq_90.i 66 4 (by decide) (by decide)).trans ((hq_62.i 66 4 (by decide) (by decide)).trans ((hq_50.i 66 4 (by decide) (by decide)).trans (rfl)))))]
          have g_117 : (G_110.1 66 6).toInt = (G_25.1 66 6).toInt := by rw [show G_110.1 66 6 = (G_25.1 66 6) from ((hq_111.i 66 6 (by decide) (by decide)).trans ((hq_90.i 66 6 (by decide) (by decide)).trans ((hq_62.i 66 6 (by decide) (by decide)).trans ((hq_50.i 66 6 (by decide) (by decide)).trans (rfl)))))]
          exact W.vret hx hb hr (fun t ht _ => ⟨⟨G_110, rfl, (Q_formula_mk ⟨hB_G_110, hF, (by omega), ⟨G_5, hB_G_5, (((((Fr.rf.put eG_1 (Or.inr (by decide))).put eG_2 (Or.inl (by decide))).put eG_3 (Or.inr (by decide))).put eG_4 (Or.inr (by decide))).put eG_5 (Or.inr (by decide))), ((gp_ne eG_5 (by decide)).trans ((gp_ne eG_4 (by decide)).trans ((gp_ne eG_3 (by decide)).trans ((gp_ne eG_2 (fun q => absurd q.1 (by decide))).trans (gp_eq eG_1))))), ((gp_ne eG_5 (by decide)).trans ((gp_ne eG_4 (by decide)).trans (gp_eq eG_3))), (gp_eq eG_5), ((gp_ne eG_5 (by decide)).trans (gp_eq eG_4)), (rw_put eG_5 (by decide)).trans ((rw_put eG_4 (by decide)).trans ((rw_put eG_3 (by decide)).trans ((rw_ast eG_2).trans (congrArg (fun q => upd q (p0.toNatClampNeg) 0) (rw_put eG_1 (by decide)))))), ⟨G_21, hX_24, ⟨x_29, G_25, hX_30, f_37, f_38, f_39, hB_G_25, hq_26, ⟨G_48, hX_51, hB_G_48, hq_50, (Or.inl ⟨c_52, ⟨r_60, G_61, hX_64, (Or.inr ⟨c_66, ⟨G_89, hX_92, (Or.inl ⟨c_94, ⟨G_110, hX_113, rfl⟩⟩)⟩⟩)⟩⟩)⟩⟩⟩⟩⟩), wd_t ht hW⟩, hS.F ht⟩) hS.2.2 dX12_formula_194
  refine lv_if_eq (tgt := 163) hx hb dX12_formula_37 (by decide) (fun c_118 => ?_) (fun c_118 => ?_)
  · have c_118 : x_29.toInt = 0 := xI_eq rfl rfl c_118
    exact hJ_49 () _ _ _ ⟨G_25, (Jn_n_formula_2_mk (Or.inl ⟨c_118, rfl⟩)), hW, hB_G_25, hF, Fr.rf, hS, lv_sub hl [1] rfl⟩
  · have c_118 : x_29.toInt ≠ 0 := xI_ne rfl rfl c_118
    refine lv_aload_n hx hb dX12_formula_40 rfl (lv_at hl 1 rfl) ?_
    refine S_getI (v := (G_25.1 66 2)) (C := RX12) (T := TX12) (N := 89) hx hb hg iX12 hown hK hW kd_66 rfl 2 (by decide) (hg (Cond.fieldLink RX12 218 "SlabWalkModel" "fault" "I") m1316) (fun _ h9 => h9) rfl rfl dX12_formula_41 ?_
    refine lv_if_ne (tgt := 163) hx hb dX12_formula_44 (by decide) (fun c_119 => ?_) (fun c_119 => ?_)
    · have c_119 : (G_25.1 66 2).toInt ≠ 0 := xI_ne rfl rfl c_119
      exact hJ_49 () _ _ _ ⟨G_25, (Jn_n_formula_2_mk (Or.inr ⟨c_118, ⟨c_119, rfl⟩⟩)), hW, hB_G_25, hF, Fr.rf, hS, lv_sub hl [1] rfl⟩
    · have c_119 : (G_25.1 66 2).toInt = 0 := xI_eq rfl rfl c_119
      refine lv_aload_n hx hb dX12_formula_47 rfl (lv_at hl 1 rfl) ?_
      refine S_calli (va_runV (As := []) (rest := []) ⟨hx, hb, hml, hown, hts⟩ (n_signOf l D k A a z G_25  ) (cwV 0 hts (gd_V hgd m1745 m1747 m77 m131 m1748) rfl rfl rfl (by decide +kernel) ⟨Nat.le_of_ble_eq_true rfl, Nat.le_of_ble_eq_true rfl⟩) (pre_V hW hB_G_25 hK hZ hS kd_66 rfl) rfl rfl hl.1 rfl (lv_room (Nat.le_of_ble_eq_true rfl)) dX12_formula_48 ⟨Nat.le_of_ble_eq_true rfl, Nat.le_of_ble_eq_true rfl⟩) hS (fun r_120 G_121 H locs hpo hW hS => ?_)
      have hX_124 : Q_signOf G_25 r_120 G_121 := hpo
      obtain ⟨hB_G_121, hq_122, f_125, hp_123, -⟩ := hpo
      have hF := hF.call hq_122 (by decide) (by decide)
      refine lv_istore_n (lv' := [(3, .int r_120), (2, .int x_29), (0, .ref (a 66))]) hx hb dX12_formula_51 rfl hl (by decide) rfl (fun ls hl => ?_)
      refine lv_aload_n hx hb dX12_formula_52 rfl (lv_at hl 2 rfl) ?_
      refine S_getI (v := (G_25.1 66 6)) (C := RX12) (T := TX12) (N := 89) hx hb hg iX12 hown hK hW kd_66 rfl 6 (by decide) (hg (Cond.fieldLink RX12 205 "SlabWalkModel" "sort" "I") m1320) (fun _ h9 => h9) rfl ((hq_122.i 66 6 (by decide) (by decide)).trans (rfl)) dX12_formula_53 ?_
      refine lv_bipush (v := 41) hx hb dX12_formula_56 (by decide) ?_
      refine W.cut (σ := Unit) (pcJ := 100) (J := fun y H locs ls => ∃ (G_129 : GS), Jn_n_formula_3 G_25 G_121 G_129 ∧ Wd D k A a G_129 H ∧ Bd G_129 ∧ Fr [69, 70, 71, 75] [(66, 2), (66, 3), (66, 4), (66, 6), (66, 7), (66, 8), (66, 9), (66, 19), (66, 20), (66, 21), (66, 23), (66, 24)] G G_129 ∧ Fr [] [] G_121 G_129 ∧ va_S A s.heap H locs ∧ lv_has ls 4 [(3, .int r_120), (2, .int x_29), (0, .ref (a 66))]) (stJ := fun _ => []) ?_ (fun hJ_130 => ?_)
      · intro y H locs ls hI
        obtain ⟨G_129, hX_132, hW, hB_G_129, hF, hq_131, hS, hl⟩ := hI
        refine lv_iload_n hx hb dX12_formula_100 rfl (lv_at hl 0 rfl) ?_
        refine lv_if_eq (tgt := 158) hx hb dX12_formula_101 (by decide) (fun c_133 => ?_) (fun c_133 => ?_)
        · have c_133 : r_120.toInt = 0 := xI_eq rfl rfl c_133
          refine lv_iconst (v := 0) hx hb dX12_formula_158 (by decide) ?_
          refine lv_istore_n (lv' := [(2, .int 0), (3, .int r_120), (0, .ref (a 66))]) hx hb dX12_formula_159 rfl hl (by decide) rfl (fun ls hl => ?_)
          refine lv_goto (tgt := 36) hx hb dX12_formula_160 (by decide) ?_
          have g_134 : (G_129.1 66 2).toInt = (G_25.1 66 2).toInt := by rw [show G_129.1 66 2 = (G_25.1 66 2) from ((hq_131.i 66 2 (by decide) (by decide)).trans ((hq_122.i 66 2 (by decide) (by decide)).trans (rfl)))]
          have g_135 : (G_129.1 66 20).toInt = (G_25.1 66 20).toInt := by rw [show G_129.1 66 20 = (G_25.1 66 20) from ((hq_131.i 66 20 (by decide) (by decide)).trans ((hq_122.i 66 20 (by decide) (by decide)).trans (rfl)))]
          have g_136 : (G_129.1 66 23).toInt = (G_25.1 66 23).toInt := by rw [show G_129.1 66 23 = (G_25.1 66 23) from ((hq_131.i 66 23 (by decide) (by decide)).trans ((hq_122.i 66 23 (by decide) (by decide)).trans (rfl)))]
          have g_137 : gB G_129 = gB G_25 := gB_fr (rs := []) (fs := []) ((Fr.rf.call hq_122 (by decide) (by decide)).call hq_131 (by decide) (by decide)) (by decide) (by decide)
          have g_138 : gC G_129 = gC G_25 := gC_fr (rs := []) (fs := []) ((Fr.rf.call hq_122 (by decide) (by decide)).call hq_131 (by decide) (by decide)) (by decide) (by decide)
          have g_139 : gD G_129 = gD G_25 := gD_fr (rs := []) (fs := []) ((Fr.rf.call hq_122 (by decide) (by decide)).call hq_131 (by decide) (by decide)) (by decide) (by decide)
          have g_140 : gM G_129 = gM G_25 := gM_fr (rs := []) (fs := []) ((Fr.rf.call hq_122 (by decide) (by decide)).call hq_131 (by decide) (by decide)) (by decide) (by decide)
          have g_141 : (G_129.1 66 2).toInt = (G_25.1 66 2).toInt := by rw [show G_129.1 66 2 = (G_25.1 66 2) from ((hq_131.i 66 2 (by decide) (by decide)).trans ((hq_122.i 66 2 (by decide) (by decide)).trans (rfl)))]
          have g_142 : (G_129.1 66 20).toInt = (G_25.1 66 20).toInt := by rw [show G_129.1 66 20 = (G_25.1 66 20) from ((hq_131.i 66 20 (by decide) (by decide)).trans ((hq_122.i 66 20 (by decide) (by decide)).trans (rfl)))]
          have g_143 : (G_129.1 66 23).toInt = (G_25.1 66 23).toInt := by rw [show G_129.1 66 23 = (G_25.1 66 23) from ((hq_131.i 66 23 (by decide) (by decide)).trans ((hq_122.i 66 23 (by decide) (by decide)).trans (rfl)))]
          have g_144 : (G_129.1 66 24).toInt = (G_25.1 66 24).toInt := by rw [show G_129.1 66 24 = (G_25.1 66 24) from ((hq_131.i 66 24 (by decide) (by decide)).trans ((hq_122.i 66 24 (by decide) (by decide)).trans (rfl)))]
          have g_145 : (G_129.1 66 4).toInt = (G_25.1 66 4).toInt := by rw [show G_129.1 66 4 = (G_25.1 66 4) from ((hq_131.i 66 4 (by decide) (by decide)).trans ((hq_122.i 66 4 (by decide) (by decide)).trans (rfl)))]
          have g_146 : (G_129.1 66 6).toInt = (G_25.1 66 6).toInt := by rw [show G_129.1 66 6 = (G_25.1 66 6) from ((hq_131.i 66 6 (by decide) (by decide)).trans ((hq_122.i 66 6 (by decide) (by decide)).trans (rfl)))]
          have qc_147 : (0 : Int32).toInt = 0 := rfl
          exact ih_27 (4000 - 1000 * (G_129.1 66 2).toInt + 100 * (40 - (G_129.1 66 23).toInt) + (G_129.1 66 20).toInt + 0 : Int).toNat (by omega) _ _ _ ⟨G_129, 0, (Int.toNat_of_nonneg (by omega)), ⟨by omega, by omega⟩, (by omega), (by omega), (hX_30.st (St_n_formula_1_mk ⟨x_29, G_25, 0, G_129, rfl, rfl, f_37, f_38, f_39, hB_G_25, ⟨c_118, ⟨c_119, ⟨r_120, G_121, hX_124, (Or.inr ⟨G_129, hX_132, hB_G_129, hq_131, (Or.inl ⟨c_133, ⟨rfl, rfl⟩⟩)⟩)⟩⟩⟩⟩)), hW, hB_G_129, hF, (((Fr.rf.call hq_26 (by decide) (by decide)).call hq_122 (by decide) (by decide)).call hq_131 (by decide) (by decide)), hS, lv_sub hl [0, 2] rfl⟩
        · have c_133 : r_120.toInt ≠ 0 := xI_ne rfl rfl c_133
          refine lv_iload_n hx hb dX12_formula_104 rfl (lv_at hl 0 rfl) ?_
          refine S_calli (va_runS (As := [.int r_120]) (rest := []) ⟨hx, hb, hml, hown, hts⟩ (n_tight l D k A a z G_129 r_120 ) (va_cwS 1 hts (gd_S hgd m1722 m1723 m131 m1724) rfl rfl rfl (by decide +kernel) ⟨Nat.le_of_ble_eq_true rfl, Nat.le_of_ble_eq_true rfl⟩) (pre_S hW hB_G_129 hK hZ hS) rfl rfl hl.1 rfl (lv_room (Nat.le_of_ble_eq_true rfl)) dX12_formula_105 ⟨Nat.le_of_ble_eq_true rfl, Nat.le_of_ble_eq_true rfl⟩) hS (fun r_148 G_149 H locs hpo hW hS => ?_)
          have hX_152 : Q_tight r_120 G_129 r_148 G_149 := hpo
          obtain ⟨hB_G_149, hq_150, f_153, -⟩ := hpo
          have hF := hF.call hq_150 (by decide) (by decide)
          refine lv_iconst (v := 4) hx hb dX12_formula_108 (by decide) ?_
          refine W.cut (σ := Unit) (pcJ := 119) (J := fun y H locs ls => ∃ (G_157 : GS), Jn_n_formula_4 r_148 G_149 G_157 ∧ Wd D k A a G_157 H ∧ Bd G_157 ∧ Fr [69, 70, 71, 75] [(66, 2), (66, 3), (66, 4), (66, 6), (66, 7), (66, 8), (66, 9), (66, 19), (66, 20), (66, 21), (66, 23), (66, 24)] G G_157 ∧ Fr [] [] G_149 G_157 ∧ va_S A s.heap H locs ∧ lv_has ls 4 [(3, .int r_120), (2, .int x_29), (0, .ref (a 66))]) (stJ := fun _ => []) ?_ (fun hJ_158 => ?_)
          · intro y H locs ls hI
            obtain ⟨G_157, hX_160, hW, hB_G_157, hF, hq_159, hS, hl⟩ := hI
            refine lv_aload_n hx hb dX12_formula_119 rfl (lv_at hl 2 rfl) ?_
            refine lv_iload_n hx hb dX12_formula_120 rfl (lv_at hl 0 rfl) ?_
            refine S_calli (va_runS (As := [.int r_120]) (rest := [.ref (a 66)]) ⟨hx, hb, hml, hown, hts⟩ (n_tight l D k A a z G_157 r_120 ) (va_cwS 1 hts (gd_S hgd m1722 m1723 m131 m1724) rfl rfl rfl (by decide +kernel) ⟨Nat.le_of_ble_eq_true rfl, Nat.le_of_ble_eq_true rfl⟩) (pre_S hW hB_G_157 hK hZ hS) rfl rfl hl.1 rfl (lv_room (Nat.le_of_ble_eq_true rfl)) dX12_formula_121 ⟨Nat.le_of_ble_eq_true rfl, Nat.le_of_ble_eq_true rfl⟩) hS (fun r_161 G_162 H locs hpo hW hS => ?_)
            have hX_165 : Q_tight r_120 G_157 r_161 G_162 := hpo
            obtain ⟨hB_G_162, hq_163, f_166, -⟩ := hpo
            have hF := hF.call hq_163 (by decide) (by decide)
            have g_167 : gB G_162 = gB G_25 := gB_fr (rs := []) (fs := []) (((((Fr.rf.call hq_122 (by decide) (by decide)).call hq_131 (by decide) (by decide)).call hq_150 (by decide) (by decide)).call hq_159 (by decide) (by decide)).call hq_163 (by decide) (by decide)) (by decide) (by decide)
            have g_168 : gC G_162 = gC G_25 := gC_fr (rs := []) (fs := []) (((((Fr.rf.call hq_122 (by decide) (by decide)).call hq_131 (by decide) (by decide)).call hq_150 (by decide) (by decide)).call hq_159 (by decide) (by decide)).call hq_163 (by decide) (by decide)) (by decide) (by decide)
            have g_169 : gD G_162 = gD G_25 := gD_fr (rs := []) (fs := []) (((((Fr.rf.call hq_122 (by decide) (by decide)).call hq_131 (by decide) (by decide)).call hq_150 (by decide) (by decide)).call hq_159 (by decide) (by decide)).call hq_163 (by decide) (by decide)) (by decide) (by decide)
            have g_170 : gM G_162 = gM G_25 := gM_fr (rs := []) (fs := []) (((((Fr.rf.call hq_122 (by decide) (by decide)).call hq_131 (by decide) (by decide)).call hq_150 (by decide) (by decide)).call hq_159 (by decide) (by decide)).call hq_163 (by decide) (by decide)) (by decide) (by decide)
            have g_171 : (G_162.1 66 20).toInt = (G_25.1 66 20).toInt := by rw [show G_162.1 66 20 = (G_25.1 66 20) from ((hq_163.i 66 20 (by decide) (by decide)).trans ((hq_159.i 66 20 (by decide) (by decide)).trans ((hq_150.i 66 20 (by decide) (by decide)).trans ((hq_131.i 66 20 (by decide) (by decide)).trans ((hq_122.i 66 20 (by decide) (by decide)).trans (rfl))))))]
            have g_172 : (G_162.1 66 24).toInt = (G_25.1 66 24).toInt := by rw [show G_162.1 66 24 = (G_25.1 66 24) from ((hq_163.i 66 24 (by decide) (by decide)).trans ((hq_159.i 66 24 (by decide) (by decide)).trans ((hq_150.i 66 24 (by decide) (by decide)).trans ((hq_131.i 66 24 (by decide) (by decide)).trans ((hq_122.i 66 24 (by decide) (by decide)).trans (rfl))))))]
            have g_173 : gK G_162 = gK G_25 := gK_fr (rs := []) (fs := []) (((((Fr.rf.call hq_122 (by decide) (by decide)).call hq_131 (by decide) (by decide)).call hq_150 (by decide) (by decide)).call hq_159 (by decide) (by decide)).call hq_163 (by decide) (by decide)) (by decide) (by decide)
            have g_174 : (G_162.1 66 20).toInt = (G_25.1 66 20).toInt := by rw [show G_162.1 66 20 = (G_25.1 66 20) from ((hq_163.i 66 20 (by decide) (by decide)).trans ((hq_159.i 66 20 (by decide) (by decide)).trans ((hq_150.i 66 20 (by decide) (by decide)).trans ((hq_131.i 66 20 (by decide) (by decide)).trans ((hq_122.i 66 20 (by decide) (by decide)).trans (rfl))))))]
            have g_175 : (G_162.1 66 24).toInt = (G_25.1 66 24).toInt := by rw [show G_162.1 66 24 = (G_25.1 66 24) from ((hq_163.i 66 24 (by decide) (by decide)).trans ((hq_159.i 66 24 (by decide) (by decide)).trans ((hq_150.i 66 24 (by decide) (by decide)).trans ((hq_131.i 66 24 (by decide) (by decide)).trans ((hq_122.i 66 24 (by decide) (by decide)).trans (rfl))))))]
            refine S_callv (va_runV (As := [.int r_161]) (rest := []) ⟨hx, hb, hml, hown, hts⟩ (n_close l D k A a z G_162 r_161 (by omega)) (cwV 1 hts (gd_V hgd m1753 m1755 m79 m131 m1756) rfl rfl rfl (by decide +kernel) ⟨Nat.le_of_ble_eq_true rfl, Nat.le_of_ble_eq_true rfl⟩) (pre_V hW hB_G_162 hK hZ hS kd_66 rfl) rfl rfl hl.1 rfl (lv_room (Nat.le_of_ble_eq_true rfl)) dX12_formula_124 ⟨Nat.le_of_ble_eq_true rfl, Nat.le_of_ble_eq_true rfl⟩) hS (fun G_177 H locs hpo hW hS => ?_)
            have hX_180 : Q_close r_161 G_162 G_177 := hpo
            obtain ⟨hB_G_177, hq_178, hp_179, -⟩ := hpo
            have hF := hF.call hq_178 (by decide) (by decide)
            refine lv_aload_n hx hb dX12_formula_127 rfl (lv_at hl 2 rfl) ?_
            refine S_getR (n := 75) (C := RX12) (T := TX12) (N := 89) hx hb hg iX12 hown hK hW kd_66 rfl 17 (by decide) (hg (Cond.fieldLink RX12 39 "SlabWalkModel" "open" "[I") m1331) (fun _ h9 => h9) rfl dX12_formula_128 ?_
            refine lv_aload_n hx hb dX12_formula_131 rfl (lv_at hl 2 rfl) ?_
            have b_181 : 0 ≤ (G_177.1 66 20).toInt ∧ (G_177.1 66 20).toInt ≤ 160 := hB_G_177.i 66 20 rfl rfl
            refine S_getI (v := (G_177.1 66 20)) (C := RX12) (T := TX12) (N := 89) hx hb hg iX12 hown hK hW kd_66 rfl 20 (by decide) (hg (Cond.fieldLink RX12 299 "SlabWalkModel" "opens" "I") m1334) (fun _ h9 => h9) rfl rfl dX12_formula_132 ?_
            refine lv_iload_n hx hb dX12_formula_135 rfl (lv_at hl 0 rfl) ?_
            refine S_iast hx hb hK hW hS kd_75 (vin (by omega) (by omega)) dX12_formula_136 (fun G_182 H locs eG_182 hW hS => ?_)
            have hB_G_182 : Bd G_182 := hB_G_177.put (lo := (-2147483648)) (hi := 2147483647) eG_182 rfl rfl rfl (tI_rng _).1 (tI_rng _).2 (hB_G_177.2.put eG_182 rfl)
            have hF := hF.put eG_182 (Or.inl (by decide))
            refine lv_aload_n hx hb dX12_formula_137 rfl (lv_at hl 2 rfl) ?_
            refine lv_dup hx hb dX12_formula_138 rfl ?_
            refine S_getI (v := (G_177.1 66 20)) (C := RX12) (T := TX12) (N := 89) hx hb hg iX12 hown hK hW kd_66 rfl 20 (by decide) (hg (Cond.fieldLink RX12 299 "SlabWalkModel" "opens" "I") m1334) (fun _ h9 => h9) rfl ((gp_ne eG_182 (fun q => absurd q.1 (by decide))).trans (rfl)) dX12_formula_139 ?_
            refine lv_iconst (v := 1) hx hb dX12_formula_142 (by decide) ?_
            refine lv_iadd hx hb dX12_formula_143 ?_
            refine lv_topi (fun y_183 ey_183 => ?_)
            have ty_183 : y_183.toInt = (G_177.1 66 20).toInt + 1 := xI_add rfl rfl ey_183 (by omega) (by omega)
            refine S_putI (ty := .int) (C := RX12) (T := TX12) (N := 89) hx hb hg iX12 tyX12 tyX12_ok nmX12 hown hK hW hS kd_66 rfl 20 (by decide) (hg (Cond.fieldLink RX12 299 "SlabWalkModel" "opens" "I") m1334) (fun _ h9 => h9) rfl (by decide +kernel) rfl rfl rfl dX12_formula_144 (fun G_184 H locs eG_184 hW hS => ?_)
            have hB_G_184 : Bd G_184 := hB_G_182.put (V := y_183.toInt) (lo := 0) (hi := 160) eG_184 rfl rfl rfl (by omega) (by omega) (hB_G_182.2.put eG_184 rfl)
            have hF := hF.put eG_184 (Or.inr (by decide))
            have u_185 := gh_push eG_182 eG_184 (by omega) (by omega) (by omega)
            refine lv_aload_n hx hb dX12_formula_147 rfl (lv_at hl 2 rfl) ?_
            have g_186 : (G_184.1 66 4).toInt = (G_25.1 66 4).toInt := by rw [show G_184.1 66 4 = (G_25.1 66 4) from ((gp_ne eG_184 (by decide)).trans ((gp_ne eG_182 (fun q => absurd q.1 (by decide))).trans ((hq_178.i 66 4 (by decide) (by decide)).trans ((hq_163.i 66 4 (by decide) (by decide)).trans ((hq_159.i 66 4 (by decide) (by decide)).trans ((hq_150.i 66 4 (by decide) (by decide)).trans ((hq_131.i 66 4 (by decide) (by decide)).trans ((hq_122.i 66 4 (by decide) (by decide)).trans (rfl)))))))))]
            have g_187 : (G_184.1 66 6).toInt = (G_25.1 66 6).toInt := by rw [show G_184.1 66 6 = (G_25.1 66 6) from ((gp_ne eG_184 (by decide)).trans ((gp_ne eG_182 (fun q => absurd q.1 (by decide))).trans ((hq_178.i 66 6 (by decide) (by decide)).trans ((hq_163.i 66 6 (by decide) (by decide)).trans ((hq_159.i 66 6 (by decide) (by decide)).trans ((hq_150.i 66 6 (by decide) (by decide)).trans ((hq_131.i 66 6 (by decide) (by decide)).trans ((hq_122.i 66 6 (by decide) (by decide)).trans (rfl)))))))))]
            refine S_callv (va_runV (As := []) (rest := []) ⟨hx, hb, hml, hown, hts⟩ (n_token l D k A a z G_184  ) (cwV 0 hts (gd_V hgd m1602 m1604 m50 m131 m1605) rfl rfl rfl (by decide +kernel) ⟨Nat.le_of_ble_eq_true rfl, Nat.le_of_ble_eq_true rfl⟩) (pre_V hW hB_G_184 hK hZ hS kd_66 rfl) rfl rfl hl.1 rfl (lv_room (Nat.le_of_ble_eq_true rfl)) dX12_formula_148 ⟨Nat.le_of_ble_eq_true rfl, Nat.le_of_ble_eq_true rfl⟩) hS (fun G_189 H locs hpo hW hS => ?_)
            have hX_192 : Q_token G_184 G_189 := hpo
            obtain ⟨hB_G_189, hq_190, hp_191, -⟩ := hpo
            have hF := hF.call hq_190 (by decide) (by decide)
            refine lv_aload_n hx hb dX12_formula_151 rfl (lv_at hl 2 rfl) ?_
            have g_193 : (G_189.1 66 2).toInt = (G_25.1 66 2).toInt := by rw [show G_189.1 66 2 = (G_25.1 66 2) from ((hq_190.i 66 2 (by decide) (by decide)).trans ((gp_ne eG_184 (by decide)).trans ((gp_ne eG_182 (fun q => absurd q.1 (by decide))).trans ((hq_178.i 66 2 (by decide) (by decide)).trans ((hq_163.i 66 2 (by decide) (by decide)).trans ((hq_159.i 66 2 (by decide) (by decide)).trans ((hq_150.i 66 2 (by decide) (by decide)).trans ((hq_131.i 66 2 (by decide) (by decide)).trans ((hq_122.i 66 2 (by decide) (by decide)).trans (rfl))))))))))]
            have g_194 : gB G_189 = gB G_184 := gB_fr (rs := []) (fs := [(66, 4), (66, 6), (66, 7), (66, 8), (66, 9)]) (Fr.rf.call hq_190 (by decide) (by decide)) (by decide) (by decide)
            have g_195 : gC G_189 = gC G_177 := gC_fr (rs := [75]) (fs := [(66, 4), (66, 6), (66, 7), (66, 8), (66, 9), (66, 20)]) (((Fr.rf.put eG_182 (Or.inl (by decide))).put eG_184 (Or.inr (by decide))).call hq_190 (by decide) (by decide)) (by decide) (by decide)
            have g_196 : gD G_189 = gD G_177 := gD_fr (rs := [75]) (fs := [(66, 4), (66, 6), (66, 7), (66, 8), (66, 9), (66, 20)]) (((Fr.rf.put eG_182 (Or.inl (by decide))).put eG_184 (Or.inr (by decide))).call hq_190 (by decide) (by decide)) (by decide) (by decide)
            have g_197 : gM G_189 = gM G_177 := gM_fr (rs := [75]) (fs := [(66, 4), (66, 6), (66, 7), (66, 8), (66, 9), (66, 20)]) (((Fr.rf.put eG_182 (Or.inl (by decide))).put eG_184 (Or.inr (by decide))).call hq_190 (by decide) (by decide)) (by decide) (by decide)
            have g_198 : (G_189.1 66 20).toInt = y_183.toInt := by rw [show G_189.1 66 20 = y_183 from ((hq_190.i 66 20 (by decide) (by decide)).trans (gp_eq eG_184))]
            have g_199 : (G_189.1 66 23).toInt = (G_25.1 66 23).toInt := by rw [show G_189.1 66 23 = (G_25.1 66 23) from ((hq_190.i 66 23 (by decide) (by decide)).trans ((gp_ne eG_184 (by decide)).trans ((gp_ne eG_182 (fun q => absurd q.1 (by decide))).trans ((hq_178.i 66 23 (by decide) (by decide)).trans ((hq_163.i 66 23 (by decide) (by decide)).trans ((hq_159.i 66 23 (by decide) (by decide)).trans ((hq_150.i 66 23 (by decide) (by decide)).trans ((hq_131.i 66 23 (by decide) (by decide)).trans ((hq_122.i 66 23 (by decide) (by decide)).trans (rfl))))))))))]
            have b_200 : (-1) ≤ (G_177.1 66 24).toInt ∧ (G_177.1 66 24).toInt ≤ 200 := hB_G_177.i 66 24 rfl rfl
            have g_201 : (G_189.1 66 24).toInt = (G_177.1 66 24).toInt := by rw [show G_189.1 66 24 = (G_177.1 66 24) from ((hq_190.i 66 24 (by decide) (by decide)).trans ((gp_ne eG_184 (by decide)).trans (gp_ne eG_182 (fun q => absurd q.1 (by decide)))))]
            have g_202 : (G_189.1 66 23).toInt = (G_25.1 66 23).toInt := by rw [show G_189.1 66 23 = (G_25.1 66 23) from ((hq_190.i 66 23 (by decide) (by decide)).trans ((gp_ne eG_184 (by decide)).trans ((gp_ne eG_182 (fun q => absurd q.1 (by decide))).trans ((hq_178.i 66 23 (by decide) (by decide)).trans ((hq_163.i 66 23 (by decide) (by decide)).trans ((hq_159.i 66 23 (by decide) (by decide)).trans ((hq_150.i 66 23 (by decide) (by decide)).trans ((hq_131.i 66 23 (by decide) (by decide)).trans ((hq_122.i 66 23 (by decide) (by decide)).trans (rfl))))))))))]
            have b_203 : 0 ≤ (G_189.1 66 4).toInt ∧ (G_189.1 66 4).toInt ≤ 1600 := hB_G_189.i 66 4 rfl rfl
            refine S_callv (va_runV (As := []) (rest := []) ⟨hx, hb, hml, hown, hts⟩ (n_unit l D k A a z G_189  (by omega) (by omega)) (cwV 0 hts (gd_V hgd m1714 m1716 m70 m131 m1717) rfl rfl rfl (by decide +kernel) ⟨Nat.le_of_ble_eq_true rfl, Nat.le_of_ble_eq_true rfl⟩) (pre_V hW hB_G_189 hK hZ hS kd_66 rfl) rfl rfl hl.1 rfl (lv_room (Nat.le_of_ble_eq_true rfl)) dX12_formula_152 ⟨Nat.le_of_ble_eq_true rfl, Nat.le_of_ble_eq_true rfl⟩) hS (fun G_205 H locs hpo hW hS => ?_)
            have hX_208 : Q_unit G_189 G_205 := hpo
            obtain ⟨hB_G_205, hq_206, hp_207, -⟩ := hpo
            have hF := hF.call hq_206 (by decide) (by decide)
            refine lv_goto (tgt := 160) hx hb dX12_formula_155 (by decide) ?_
            refine lv_goto (tgt := 36) hx hb dX12_formula_160 (by decide) ?_
            have b_209 : 0 ≤ (G_205.1 66 2).toInt ∧ (G_205.1 66 2).toInt ≤ 4 := hB_G_205.i 66 2 rfl rfl
            have b_210 : 0 ≤ (G_205.1 66 20).toInt ∧ (G_205.1 66 20).toInt ≤ 160 := hB_G_205.i 66 20 rfl rfl
            have b_211 : 0 ≤ (G_205.1 66 23).toInt ∧ (G_205.1 66 23).toInt ≤ 40 := hB_G_205.i 66 23 rfl rfl
            have b_212 : (-1) ≤ (G_205.1 66 24).toInt ∧ (G_205.1 66 24).toInt ≤ 200 := hB_G_205.i 66 24 rfl rfl
            have b_213 : 0 ≤ (G_205.1 66 4).toInt ∧ (G_205.1 66 4).toInt ≤ 1600 := hB_G_205.i 66 4 rfl rfl
            exact ih_27 (4000 - 1000 * (G_205.1 66 2).toInt + 100 * (40 - (G_205.1 66 23).toInt) + (G_205.1 66 20).toInt + x_29.toInt : Int).toNat (by omega) _ _ _ ⟨G_205, x_29, (Int.toNat_of_nonneg (by omega)), ⟨by omega, by omega⟩, (by omega), (by omega), (hX_30.st (St_n_formula_1_mk ⟨x_29, G_25, x_29, G_205, rfl, rfl, f_37, f_38, f_39, hB_G_25, ⟨c_118, ⟨c_119, ⟨r_120, G_121, hX_124, (Or.inr ⟨G_129, hX_132, hB_G_129, hq_131, (Or.inr ⟨c_133, ⟨r_148, G_149, hX_152, (Or.inr ⟨G_157, hX_160, hB_G_157, hq_159, ⟨r_161, G_162, hX_165, ⟨G_177, hX_180, ⟨y_183, ty_183, ⟨G_184, hB_G_184, ((Fr.rf.put eG_182 (Or.inl (by decide))).put eG_184 (Or.inr (by decide))), (gp_eq eG_184), (rw_put eG_184 (by decide)).trans (rw_ast eG_182), ⟨G_189, hX_192, ⟨G_205, hX_208, ⟨rfl, rfl⟩⟩⟩⟩⟩⟩⟩⟩)⟩⟩)⟩)⟩⟩⟩⟩)), hW, hB_G_205, hF, (((((((((((Fr.rf.call hq_26 (by decide) (by decide)).call hq_122 (by decide) (by decide)).call hq_131 (by decide) (by decide)).call hq_150 (by decide) (by decide)).call hq_159 (by decide) (by decide)).call hq_163 (by decide) (by decide)).call hq_178 (by decide) (by decide)).put eG_182 (Or.inl (by decide))).put eG_184 (Or.inr (by decide))).call hq_190 (by decide) (by decide)).call hq_206 (by decide) (by decide)), hS, lv_sub hl [1, 2] rfl⟩
          refine lv_icmp_ne (tgt := 119) hx hb dX12_formula_109 (by decide) (fun c_214 => ?_) (fun c_214 => ?_)
          · have c_214 : r_148.toInt ≠ 4 := xI_ne rfl rfl c_214
            exact hJ_158 () _ _ _ ⟨G_149, (Jn_n_formula_4_mk (Or.inr ⟨c_214, rfl⟩)), hW, hB_G_149, hF, Fr.rf, hS, lv_sub hl [0, 1, 2] rfl⟩
          · have c_214 : r_148.toInt = 4 := xI_eq rfl rfl c_214
            refine lv_aload_n hx hb dX12_formula_112 rfl (lv_at hl 2 rfl) ?_
            refine S_calli (va_runV (As := []) (rest := []) ⟨hx, hb, hml, hown, hts⟩ (n_hasRelation l D k A a z G_149  ) (cwV 0 hts (gd_V hgd m1757 m1759 m80 m131 m1760) rfl rfl rfl (by decide +kernel) ⟨Nat.le_of_ble_eq_true rfl, Nat.le_of_ble_eq_true rfl⟩) (pre_V hW hB_G_149 hK hZ hS kd_66 rfl) rfl rfl hl.1 rfl (lv_room (Nat.le_of_ble_eq_true rfl)) dX12_formula_113 ⟨Nat.le_of_ble_eq_true rfl, Nat.le_of_ble_eq_true rfl⟩) hS (fun r_215 G_216 H locs hpo hW hS => ?_)
            have hX_219 : Q_hasRelation G_149 r_215 G_216 := hpo
            obtain ⟨hB_G_216, hq_217, f_220, -⟩ := hpo
            have hF := hF.call hq_217 (by decide) (by decide)
            refine lv_if_ne (tgt := 158) hx hb dX12_formula_116 (by decide) (fun c_221 => ?_) (fun c_221 => ?_)
            · have c_221 : r_215.toInt ≠ 0 := xI_ne rfl rfl c_221
              refine lv_iconst (v := 0) hx hb dX12_formula_158 (by decide) ?_
              refine lv_istore_n (lv' := [(2, .int 0), (3, .int r_120), (0, .ref (a 66))]) hx hb dX12_formula_159 rfl hl (by decide) rfl (fun ls hl => ?_)
              refine lv_goto (tgt := 36) hx hb dX12_formula_160 (by decide) ?_
              have g_222 : (G_216.1 66 2).toInt = (G_25.1 66 2).toInt := by rw [show G_216.1 66 2 = (G_25.1 66 2) from ((hq_217.i 66 2 (by decide) (by decide)).trans ((hq_150.i 66 2 (by decide) (by decide)).trans ((hq_131.i 66 2 (by decide) (by decide)).trans ((hq_122.i 66 2 (by decide) (by decide)).trans (rfl)))))]
              have g_223 : (G_216.1 66 20).toInt = (G_25.1 66 20).toInt := by rw [show G_216.1 66 20 = (G_25.1 66 20) from ((hq_217.i 66 20 (by decide) (by decide)).trans ((hq_150.i 66 20 (by decide) (by decide)).trans ((hq_131.i 66 20 (by decide) (by decide)).trans ((hq_122.i 66 20 (by decide) (by decide)).trans (rfl)))))]
              have g_224 : (G_216.1 66 23).toInt = (G_25.1 66 23).toInt := by rw [show G_216.1 66 23 = (G_25.1 66 23) from ((hq_217.i 66 23 (by decide) (by decide)).trans ((hq_150.i 66 23 (by decide) (by decide)).trans ((hq_131.i 66 23 (by decide) (by decide)).trans ((hq_122.i 66 23 (by decide) (by decide)).trans (rfl)))))]
              have g_225 : gB G_216 = gB G_25 := gB_fr (rs := []) (fs := []) ((((Fr.rf.call hq_122 (by decide) (by decide)).call hq_131 (by decide) (by decide)).call hq_150 (by decide) (by decide)).call hq_217 (by decide) (by decide)) (by decide) (by decide)
              have g_226 : gC G_216 = gC G_25 := gC_fr (rs := []) (fs := []) ((((Fr.rf.call hq_122 (by decide) (by decide)).call hq_131 (by decide) (by decide)).call hq_150 (by decide) (by decide)).call hq_217 (by decide) (by decide)) (by decide) (by decide)
              have g_227 : gD G_216 = gD G_25 := gD_fr (rs := []) (fs := []) ((((Fr.rf.call hq_122 (by decide) (by decide)).call hq_131 (by decide) (by decide)).call hq_150 (by decide) (by decide)).call hq_217 (by decide) (by decide)) (by decide) (by decide)
              have g_228 : gM G_216 = gM G_25 := gM_fr (rs := []) (fs := []) ((((Fr.rf.call hq_122 (by decide) (by decide)).call hq_131 (by decide) (by decide)).call hq_150 (by decide) (by decide)).call hq_217 (by decide) (by decide)) (by decide) (by decide)
              have g_229 : (G_216.1 66 2).toInt = (G_25.1 66 2).toInt := by rw [show G_216.1 66 2 = (G_25.1 66 2) from ((hq_217.i 66 2 (by decide) (by decide)).trans ((hq_150.i 66 2 (by decide) (by decide)).trans ((hq_131.i 66 2 (by decide) (by decide)).trans ((hq_122.i 66 2 (by decide) (by decide)).trans (rfl)))))]
              have g_230 : (G_216.1 66 20).toInt = (G_25.1 66 20).toInt := by rw [show G_216.1 66 20 = (G_25.1 66 20) from ((hq_217.i 66 20 (by decide) (by decide)).trans ((hq_150.i 66 20 (by decide) (by decide)).trans ((hq_131.i 66 20 (by decide) (by decide)).trans ((hq_122.i 66 20 (by decide) (by decide)).trans (rfl)))))]
              have g_231 : (G_216.1 66 23).toInt = (G_25.1 66 23).toInt := by rw [show G_216.1 66 23 = (G_25.1 66 23) from ((hq_217.i 66 23 (by decide) (by decide)).trans ((hq_150.i 66 23 (by decide) (by decide)).trans ((hq_131.i 66 23 (by decide) (by decide)).trans ((hq_122.i 66 23 (by decide) (by decide)).trans (rfl)))))]
              have g_232 : (G_216.1 66 24).toInt = (G_25.1 66 24).toInt := by rw [show G_216.1 66 24 = (G_25.1 66 24) from ((hq_217.i 66 24 (by decide) (by decide)).trans ((hq_150.i 66 24 (by decide) (by decide)).trans ((hq_131.i 66 24 (by decide) (by decide)).trans ((hq_122.i 66 24 (by decide) (by decide)).trans (rfl)))))]
              have g_233 : (G_216.1 66 4).toInt = (G_25.1 66 4).toInt := by rw [show G_216.1 66 4 = (G_25.1 66 4) from ((hq_217.i 66 4 (by decide) (by decide)).trans ((hq_150.i 66 4 (by decide) (by decide)).trans ((hq_131.i 66 4 (by decide) (by decide)).trans ((hq_122.i 66 4 (by decide) (by decide)).trans (rfl)))))]
              have g_234 : (G_216.1 66 6).toInt = (G_25.1 66 6).toInt := by rw [show G_216.1 66 6 = (G_25.1 66 6) from ((hq_217.i 66 6 (by decide) (by decide)).trans ((hq_150.i 66 6 (by decide) (by decide)).trans ((hq_131.i 66 6 (by decide) (by decide)).trans ((hq_122.i 66 6 (by decide) (by decide)).trans (rfl)))))]
              have qc_235 : (0 : Int32).toInt = 0 := rfl
              exact ih_27 (4000 - 1000 * (G_216.1 66 2).toInt + 100 * (40 - (G_216.1 66 23).toInt) + (G_216.1 66 20).toInt + 0 : Int).toNat (by omega) _ _ _ ⟨G_216, 0, (Int.toNat_of_nonneg (by omega)), ⟨by omega, by omega⟩, (by omega), (by omega), (hX_30.st (St_n_formula_1_mk ⟨x_29, G_25, 0, G_216, rfl, rfl, f_37, f_38, f_39, hB_G_25, ⟨c_118, ⟨c_119, ⟨r_120, G_121, hX_124, (Or.inr ⟨G_129, hX_132, hB_G_129, hq_131, (Or.inr ⟨c_133, ⟨r_148, G_149, hX_152, (Or.inl ⟨c_214, ⟨r_215, G_216, hX_219, ⟨c_221, ⟨rfl, rfl⟩⟩⟩⟩)⟩⟩)⟩)⟩⟩⟩⟩)), hW, hB_G_216, hF, (((((Fr.rf.call hq_26 (by decide) (by decide)).call hq_122 (by decide) (by decide)).call hq_131 (by decide) (by decide)).call hq_150 (by decide) (by decide)).call hq_217 (by decide) (by decide)), hS, lv_sub hl [0, 2] rfl⟩
            · have c_221 : r_215.toInt = 0 := xI_eq rfl rfl c_221
              exact hJ_158 () _ _ _ ⟨G_216, (Jn_n_formula_4_mk (Or.inl ⟨c_214, ⟨r_215, G_216, hX_219, ⟨c_221, rfl⟩⟩⟩)), hW, hB_G_216, hF, (Fr.rf.call hq_217 (by decide) (by decide)), hS, lv_sub hl [0, 1, 2] rfl⟩
      refine lv_icmp_ne (tgt := 100) hx hb dX12_formula_58 (by decide) (fun c_236 => ?_) (fun c_236 => ?_)
      · have c_236 : (G_25.1 66 6).toInt ≠ 41 := xI_ne rfl rfl c_236
        exact hJ_130 () _ _ _ ⟨G_121, (Jn_n_formula_3_mk (Or.inr ⟨c_236, rfl⟩)), hW, hB_G_121, hF, Fr.rf, hS, lv_sub hl [0, 1, 2] rfl⟩
      · have c_236 : (G_25.1 66 6).toInt = 41 := xI_eq rfl rfl c_236
        refine lv_aload_n hx hb dX12_formula_61 rfl (lv_at hl 2 rfl) ?_
        have g_237 : gK G_121 = gK G_25 := gK_fr (rs := []) (fs := []) (Fr.rf.call hq_122 (by decide) (by decide)) (by decide) (by decide)
        refine S_calli (va_runV (As := []) (rest := []) ⟨hx, hb, hml, hown, hts⟩ (n_hasBracket l D k A a z G_121  ) (cwV 0 hts (gd_V hgd m1749 m1751 m78 m131 m1752) rfl rfl rfl (by decide +kernel) ⟨Nat.le_of_ble_eq_true rfl, Nat.le_of_ble_eq_true rfl⟩) (pre_V hW hB_G_121 hK hZ hS kd_66 rfl) rfl rfl hl.1 rfl (lv_room (Nat.le_of_ble_eq_true rfl)) dX12_formula_62 ⟨Nat.le_of_ble_eq_true rfl, Nat.le_of_ble_eq_true rfl⟩) hS (fun r_238 G_239 H locs hpo hW hS => ?_)
        have hX_242 : Q_hasBracket G_121 r_238 G_239 := hpo
        obtain ⟨hB_G_239, hq_240, f_243, hp_241, -⟩ := hpo
        have hF := hF.call hq_240 (by decide) (by decide)
        refine lv_if_eq (tgt := 100) hx hb dX12_formula_65 (by decide) (fun c_244 => ?_) (fun c_244 => ?_)
        · have c_244 : r_238.toInt = 0 := xI_eq rfl rfl c_244
          exact hJ_130 () _ _ _ ⟨G_239, (Jn_n_formula_3_mk (Or.inl ⟨c_236, ⟨r_238, G_239, hX_242, ⟨c_244, rfl⟩⟩⟩)), hW, hB_G_239, hF, (Fr.rf.call hq_240 (by decide) (by decide)), hS, lv_sub hl [0, 1, 2] rfl⟩
        · have c_244 : r_238.toInt ≠ 0 := xI_ne rfl rfl c_244
          refine lv_aload_n hx hb dX12_formula_68 rfl (lv_at hl 2 rfl) ?_
          refine lv_iconst (v := 0) hx hb dX12_formula_69 (by decide) ?_
          have g_245 : gB G_239 = gB G_25 := gB_fr (rs := []) (fs := []) ((Fr.rf.call hq_122 (by decide) (by decide)).call hq_240 (by decide) (by decide)) (by decide) (by decide)
          have g_246 : gC G_239 = gC G_25 := gC_fr (rs := []) (fs := []) ((Fr.rf.call hq_122 (by decide) (by decide)).call hq_240 (by decide) (by decide)) (by decide) (by decide)
          have g_247 : gD G_239 = gD G_25 := gD_fr (rs := []) (fs := []) ((Fr.rf.call hq_122 (by decide) (by decide)).call hq_240 (by decide) (by decide)) (by decide) (by decide)
          have g_248 : gM G_239 = gM G_25 := gM_fr (rs := []) (fs := []) ((Fr.rf.call hq_122 (by decide) (by decide)).call hq_240 (by decide) (by decide)) (by decide) (by decide)
          have g_249 : (G_239.1 66 20).toInt = (G_25.1 66 20).toInt := by rw [show G_239.1 66 20 = (G_25.1 66 20) from ((hq_240.i 66 20 (by decide) (by decide)).trans ((hq_122.i 66 20 (by decide) (by decide)).trans (rfl)))]
          have g_250 : (G_239.1 66 24).toInt = (G_25.1 66 24).toInt := by rw [show G_239.1 66 24 = (G_25.1 66 24) from ((hq_240.i 66 24 (by decide) (by decide)).trans ((hq_122.i 66 24 (by decide) (by decide)).trans (rfl)))]
          have qc_251 : (0 : Int32).toInt = 0 := rfl
          have g_252 : gK G_239 = gK G_25 := gK_fr (rs := []) (fs := []) ((Fr.rf.call hq_122 (by decide) (by decide)).call hq_240 (by decide) (by decide)) (by decide) (by decide)
          have g_253 : (G_239.1 66 20).toInt = (G_25.1 66 20).toInt := by rw [show G_239.1 66 20 = (G_25.1 66 20) from ((hq_240.i 66 20 (by decide) (by decide)).trans ((hq_122.i 66 20 (by decide) (by decide)).trans (rfl)))]
          have g_254 : (G_239.1 66 24).toInt = (G_25.1 66 24).toInt := by rw [show G_239.1 66 24 = (G_25.1 66 24) from ((hq_240.i 66 24 (by decide) (by decide)).trans ((hq_122.i 66 24 (by decide) (by decide)).trans (rfl)))]
          refine S_callv (va_runV (As := [.int 0]) (rest := []) ⟨hx, hb, hml, hown, hts⟩ (n_close l D k A a z G_239 0 (by omega)) (cwV 1 hts (gd_V hgd m1753 m1755 m79 m131 m1756) rfl rfl rfl (by decide +kernel) ⟨Nat.le_of_ble_eq_true rfl, Nat.le_of_ble_eq_true rfl⟩) (pre_V hW hB_G_239 hK hZ hS kd_66 rfl) rfl rfl hl.1 rfl (lv_room (Nat.le_of_ble_eq_true rfl)) dX12_formula_70 ⟨Nat.le_of_ble_eq_true rfl, Nat.le_of_ble_eq_true rfl⟩) hS (fun G_256 H locs hpo hW hS => ?_)
          have hX_259 : Q_close 0 G_239 G_256 := hpo
          obtain ⟨hB_G_256, hq_257, hp_258, -⟩ := hpo
          have hF := hF.call hq_257 (by decide) (by decide)
          have b_260 : 0 ≤ (G_256.1 66 20).toInt ∧ (G_256.1 66 20).toInt ≤ 160 := hB_G_256.i 66 20 rfl rfl
          have u_261 := gh_pos (G := G_256) (by omega)
          refine lv_aload_n hx hb dX12_formula_73 rfl (lv_at hl 2 rfl) ?_
          refine lv_dup hx hb dX12_formula_74 rfl ?_
          refine S_getI (v := (G_256.1 66 20)) (C := RX12) (T := TX12) (N := 89) hx hb hg iX12 hown hK hW kd_66 rfl 20 (by decide) (hg (Cond.fieldLink RX12 299 "SlabWalkModel" "opens" "I") m1334) (fun _ h9 => h9) rfl rfl dX12_formula_75 ?_
          refine lv_iconst (v := 1) hx hb dX12_formula_78 (by decide) ?_
          refine lv_isub hx hb dX12_formula_79 ?_
          refine lv_topi (fun y_262 ey_262 => ?_)
          have ty_262 : y_262.toInt = (G_256.1 66 20).toInt - 1 := xI_sub rfl rfl ey_262 (by omega) (by omega)
          refine S_putI (ty := .int) (C := RX12) (T := TX12) (N := 89) hx hb hg iX12 tyX12 tyX12_ok nmX12 hown hK hW hS kd_66 rfl 20 (by decide) (hg (Cond.fieldLink RX12 299 "SlabWalkModel" "opens" "I") m1334) (fun _ h9 => h9) rfl (by decide +kernel) rfl rfl rfl dX12_formula_80 (fun G_263 H locs eG_263 hW hS => ?_)
          have hB_G_263 : Bd G_263 := hB_G_256.put (V := y_262.toInt) (lo := 0) (hi := 160) eG_263 rfl rfl rfl (by omega) (by omega) (hB_G_256.2.put eG_263 rfl)
          have hF := hF.put eG_263 (Or.inr (by decide))
          have u_264 := gh_pop eG_263 (by omega) (by omega)
          have g_265 : (G_263.1 66 20).toInt = y_262.toInt := by rw [show G_263.1 66 20 = y_262 from (gp_eq eG_263)]
          have u_266 := gh_pos (G := G_263) (by omega)
          refine lv_aload_n hx hb dX12_formula_83 rfl (lv_at hl 2 rfl) ?_
          refine lv_dup hx hb dX12_formula_84 rfl ?_
          have b_267 : (-1) ≤ (G_256.1 66 24).toInt ∧ (G_256.1 66 24).toInt ≤ 200 := hB_G_256.i 66 24 rfl rfl
          refine S_getI (v := (G_256.1 66 24)) (C := RX12) (T := TX12) (N := 89) hx hb hg iX12 hown hK hW kd_66 rfl 24 (by decide) (hg (Cond.fieldLink RX12 309 "SlabWalkModel" "deep" "I") m1338) (fun _ h9 => h9) rfl (gp_ne eG_263 (by decide)) dX12_formula_85 ?_
          refine lv_iconst (v := 1) hx hb dX12_formula_88 (by decide) ?_
          refine lv_isub hx hb dX12_formula_89 ?_
          refine lv_topi (fun y_268 ey_268 => ?_)
          have ty_268 : y_268.toInt = (G_256.1 66 24).toInt - 1 := xI_sub rfl rfl ey_268 (by omega) (by omega)
          refine S_putI (ty := .int) (C := RX12) (T := TX12) (N := 89) hx hb hg iX12 tyX12 tyX12_ok nmX12 hown hK hW hS kd_66 rfl 24 (by decide) (hg (Cond.fieldLink RX12 309 "SlabWalkModel" "deep" "I") m1338) (fun _ h9 => h9) rfl (by decide +kernel) rfl rfl rfl dX12_formula_90 (fun G_269 H locs eG_269 hW hS => ?_)
          have hB_G_269 : Bd G_269 := hB_G_263.put (V := y_268.toInt) (lo := (-1)) (hi := 200) eG_269 rfl rfl rfl (by omega) (by omega) (hB_G_263.2.put eG_269 rfl)
          have hF := hF.put eG_269 (Or.inr (by decide))
          refine lv_aload_n hx hb dX12_formula_93 rfl (lv_at hl 2 rfl) ?_
          have g_270 : (G_269.1 66 4).toInt = (G_25.1 66 4).toInt := by rw [show G_269.1 66 4 = (G_25.1 66 4) from ((gp_ne eG_269 (by decide)).trans ((gp_ne eG_263 (by decide)).trans ((hq_257.i 66 4 (by decide) (by decide)).trans ((hq_240.i 66 4 (by decide) (by decide)).trans ((hq_122.i 66 4 (by decide) (by decide)).trans (rfl))))))]
          have g_271 : (G_269.1 66 6).toInt = (G_25.1 66 6).toInt := by rw [show G_269.1 66 6 = (G_25.1 66 6) from ((gp_ne eG_269 (by decide)).trans ((gp_ne eG_263 (by decide)).trans ((hq_257.i 66 6 (by decide) (by decide)).trans ((hq_240.i 66 6 (by decide) (by decide)).trans ((hq_122.i 66 6 (by decide) (by decide)).trans (rfl))))))]
          refine S_callv (va_runV (As := []) (rest := []) ⟨hx, hb, hml, hown, hts⟩ (n_token l D k A a z G_269  ) (cwV 0 hts (gd_V hgd m1602 m1604 m50 m131 m1605) rfl rfl rfl (by decide +kernel) ⟨Nat.le_of_ble_eq_true rfl, Nat.le_of_ble_eq_true rfl⟩) (pre_V hW hB_G_269 hK hZ hS kd_66 rfl) rfl rfl hl.1 rfl (lv_room (Nat.le_of_ble_eq_true rfl)) dX12_formula_94 ⟨Nat.le_of_ble_eq_true rfl, Nat.le_of_ble_eq_true rfl⟩) hS (fun G_273 H locs hpo hW hS => ?_)
          have hX_276 : Q_token G_269 G_273 := hpo
          obtain ⟨hB_G_273, hq_274, hp_275, -⟩ := hpo
          have hF := hF.call hq_274 (by decide) (by decide)
          refine lv_goto (tgt := 160) hx hb dX12_formula_97 (by decide) ?_
          refine lv_goto (tgt := 36) hx hb dX12_formula_160 (by decide) ?_
          have g_277 : (G_273.1 66 2).toInt = (G_25.1 66 2).toInt := by rw [show G_273.1 66 2 = (G_25.1 66 2) from ((hq_274.i 66 2 (by decide) (by decide)).trans ((gp_ne eG_269 (by decide)).trans ((gp_ne eG_263 (by decide)).trans ((hq_257.i 66 2 (by decide) (by decide)).trans ((hq_240.i 66 2 (by decide) (by decide)).trans ((hq_122.i 66 2 (by decide) (by decide)).trans (rfl)))))))]
          have g_278 : (G_273.1 66 20).toInt = y_262.toInt := by rw [show G_273.1 66 20 = y_262 from ((hq_274.i 66 20 (by decide) (by decide)).trans ((gp_ne eG_269 (by decide)).trans (gp_eq eG_263)))]
          have g_279 : (G_273.1 66 23).toInt = (G_25.1 66 23).toInt := by rw [show G_273.1 66 23 = (G_25.1 66 23) from ((hq_274.i 66 23 (by decide) (by decide)).trans ((gp_ne eG_269 (by decide)).trans ((gp_ne eG_263 (by decide)).trans ((hq_257.i 66 23 (by decide) (by decide)).trans ((hq_240.i 66 23 (by decide) (by decide)).trans ((hq_122.i 66 23 (by decide) (by decide)).trans (rfl)))))))]
          have g_280 : gB G_273 = gB G_263 := gB_fr (rs := []) (fs := [(66, 4), (66, 6), (66, 7), (66, 8), (66, 9), (66, 24)]) ((Fr.rf.put eG_269 (Or.inr (by decide))).call hq_274 (by decide) (by decide)) (by decide) (by decide)
          have g_281 : gC G_273 = gC G_256 := gC_fr (rs := []) (fs := [(66, 4), (66, 6), (66, 7), (66, 8), (66, 9), (66, 20), (66, 24)]) (((Fr.rf.put eG_263 (Or.inr (by decide))).put eG_269 (Or.inr (by decide))).call hq_274 (by decide) (by decide)) (by decide) (by decide)
          have g_282 : gD G_273 = gD G_256 := gD_fr (rs := []) (fs := [(66, 4), (66, 6), (66, 7), (66, 8), (66, 9), (66, 20), (66, 24)]) (((Fr.rf.put eG_263 (Or.inr (by decide))).put eG_269 (Or.inr (by decide))).call hq_274 (by decide) (by decide)) (by decide) (by decide)
          have g_283 : gM G_273 = gM G_256 := gM_fr (rs := []) (fs := [(66, 4), (66, 6), (66, 7), (66, 8), (66, 9), (66, 20), (66, 24)]) (((Fr.rf.put eG_263 (Or.inr (by decide))).put eG_269 (Or.inr (by decide))).call hq_274 (by decide) (by decide)) (by decide) (by decide)
          have g_284 : (G_273.1 66 2).toInt = (G_25.1 66 2).toInt := by rw [show G_273.1 66 2 = (G_25.1 66 2) from ((hq_274.i 66 2 (by decide) (by decide)).trans ((gp_ne eG_269 (by decide)).trans ((gp_ne eG_263 (by decide)).trans ((hq_257.i 66 2 (by decide) (by decide)).trans ((hq_240.i 66 2 (by decide) (by decide)).trans ((hq_122.i 66 2 (by decide) (by decide)).trans (rfl)))))))]
          have g_285 : (G_273.1 66 20).toInt = y_262.toInt := by rw [show G_273.1 66 20 = y_262 from ((hq_274.i 66 20 (by decide) (by decide)).trans ((gp_ne eG_269 (by decide)).trans (gp_eq eG_263)))]
          have g_286 : (G_273.1 66 23).toInt = (G_25.1 66 23).toInt := by rw [show G_273.1 66 23 = (G_25.1 66 23) from ((hq_274.i 66 23 (by decide) (by decide)).trans ((gp_ne eG_269 (by decide)).trans ((gp_ne eG_263 (by decide)).trans ((hq_257.i 66 23 (by decide) (by decide)).trans ((hq_240.i 66 23 (by decide) (by decide)).trans ((hq_122.i 66 23 (by decide) (by decide)).trans (rfl)))))))]
          have g_287 : (G_273.1 66 24).toInt = y_268.toInt := by rw [show G_273.1 66 24 = y_268 from ((hq_274.i 66 24 (by decide) (by decide)).trans (gp_eq eG_269))]
          have b_288 : 0 ≤ (G_273.1 66 4).toInt ∧ (G_273.1 66 4).toInt ≤ 1600 := hB_G_273.i 66 4 rfl rfl
          exact ih_27 (4000 - 1000 * (G_273.1 66 2).toInt + 100 * (40 - (G_273.1 66 23).toInt) + (G_273.1 66 20).toInt + x_29.toInt : Int).toNat (by omega) _ _ _ ⟨G_273, x_29, (Int.toNat_of_nonneg (by omega)), ⟨by omega, by omega⟩, (by omega), (by omega), (hX_30.st (St_n_formula_1_mk ⟨x_29, G_25, x_29, G_273, rfl, rfl, f_37, f_38, f_39, hB_G_25, ⟨c_118, ⟨c_119, ⟨r_120, G_121, hX_124, (Or.inl ⟨c_236, ⟨r_238, G_239, hX_242, ⟨c_244, ⟨G_256, hX_259, ⟨y_262, ty_262, ⟨y_268, ty_268, ⟨G_269, hB_G_269, ((Fr.rf.put eG_263 (Or.inr (by decide))).put eG_269 (Or.inr (by decide))), ((gp_ne eG_269 (by decide)).trans (gp_eq eG_263)), (gp_eq eG_269), ⟨G_273, hX_276, ⟨rfl, rfl⟩⟩⟩⟩⟩⟩⟩⟩⟩)⟩⟩⟩⟩)), hW, hB_G_273, hF, (((((((Fr.rf.call hq_26 (by decide) (by decide)).call hq_122 (by decide) (by decide)).call hq_240 (by decide) (by decide)).call hq_257 (by decide) (by decide)).put eG_263 (Or.inr (by decide))).put eG_269 (Or.inr (by decide))).call hq_274 (by decide) (by decide)), hS, lv_sub hl [1, 2] rfl⟩
