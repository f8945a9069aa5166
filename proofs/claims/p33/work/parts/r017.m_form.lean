theorem m70 : Cond.selects RX12 yX12_unit yX12_unit ∈ gd := gd_mem 70 (by decide +kernel) (by decide +kernel)
theorem m77 : Cond.selects RX12 yX12_sign yX12_sign ∈ gd := gd_mem 77 (by decide +kernel) (by decide +kernel)
theorem m78 : Cond.selects RX12 yX12_hasBracket yX12_hasBracket ∈ gd := gd_mem 78 (by decide +kernel) (by decide +kernel)
theorem m79 : Cond.selects RX12 yX12_close yX12_close ∈ gd := gd_mem 79 (by decide +kernel) (by decide +kernel)
theorem m80 : Cond.selects RX12 yX12_hasRelation yX12_hasRelation ∈ gd := gd_mem 80 (by decide +kernel) (by decide +kernel)
theorem m1714 : Cond.methodLink RX12 333 yX12_unit ∈ gd := gdk_7 158 rfl rfl
theorem m1716 : Cond.instanceMethod yX12_unit ∈ gd := gdk_7 160 rfl rfl
theorem m1717 : Cond.code yX12_unit cX12_unit 3 none ∈ gd := gdk_7 161 rfl rfl
theorem m1745 : Cond.methodLink RX12 336 yX12_sign ∈ gd := gdk_7 189 rfl rfl
theorem m1747 : Cond.instanceMethod yX12_sign ∈ gd := gdk_7 191 rfl rfl
theorem m1748 : Cond.code yX12_sign cX12_sign 1 (some .int) ∈ gd := gdk_7 192 rfl rfl
theorem m1749 : Cond.methodLink RX12 339 yX12_hasBracket ∈ gd := gdk_7 193 rfl rfl
theorem m1751 : Cond.instanceMethod yX12_hasBracket ∈ gd := gdk_7 195 rfl rfl
theorem m1752 : Cond.code yX12_hasBracket cX12_hasBracket 3 (some .boolean) ∈ gd := gdk_7 196 rfl rfl
theorem m1753 : Cond.methodLink RX12 342 yX12_close ∈ gd := gdk_7 197 rfl rfl
theorem m1755 : Cond.instanceMethod yX12_close ∈ gd := gdk_7 199 rfl rfl
theorem m1756 : Cond.code yX12_close cX12_close 2 none ∈ gd := gdk_7 200 rfl rfl
theorem m1757 : Cond.methodLink RX12 345 yX12_hasRelation ∈ gd := gdk_7 201 rfl rfl
theorem m1759 : Cond.instanceMethod yX12_hasRelation ∈ gd := gdk_7 203 rfl rfl
theorem m1760 : Cond.code yX12_hasRelation cX12_hasRelation 2 (some .boolean) ∈ gd := gdk_7 204 rfl rfl
theorem dX12_formula_0 : decode cX12_formula 0 = .ok (.aload_n 0, 1) := dq_of (by decide +kernel)
theorem dX12_formula_1 : decode cX12_formula 1 = .ok (.iload_n 1, 1) := dq_of (by decide +kernel)
theorem dX12_formula_2 : decode cX12_formula 2 = .ok (.putfield 296, 3) := dq_of (by decide +kernel)
theorem dX12_formula_5 : decode cX12_formula 5 = .ok (.aload_n 0, 1) := dq_of (by decide +kernel)
theorem dX12_formula_6 : decode cX12_formula 6 = .ok (.getfield 27, 3) := dq_of (by decide +kernel)
theorem dX12_formula_9 : decode cX12_formula 9 = .ok (.aload_n 0, 1) := dq_of (by decide +kernel)
theorem dX12_formula_10 : decode cX12_formula 10 = .ok (.getfield 296, 3) := dq_of (by decide +kernel)
theorem dX12_formula_13 : decode cX12_formula 13 = .ok (.iconst 0, 1) := dq_of (by decide +kernel)
theorem dX12_formula_14 : decode cX12_formula 14 = .ok (.iastore, 1) := dq_of (by decide +kernel)
theorem dX12_formula_15 : decode cX12_formula 15 = .ok (.aload_n 0, 1) := dq_of (by decide +kernel)
theorem dX12_formula_16 : decode cX12_formula 16 = .ok (.iconst 0, 1) := dq_of (by decide +kernel)
theorem dX12_formula_17 : decode cX12_formula 17 = .ok (.putfield 299, 3) := dq_of (by decide +kernel)
theorem dX12_formula_20 : decode cX12_formula 20 = .ok (.aload_n 0, 1) := dq_of (by decide +kernel)
theorem dX12_formula_21 : decode cX12_formula 21 = .ok (.iconst 0, 1) := dq_of (by decide +kernel)
theorem dX12_formula_22 : decode cX12_formula 22 = .ok (.putfield 309, 3) := dq_of (by decide +kernel)
theorem dX12_formula_25 : decode cX12_formula 25 = .ok (.aload_n 0, 1) := dq_of (by decide +kernel)
theorem dX12_formula_26 : decode cX12_formula 26 = .ok (.iconst 0, 1) := dq_of (by decide +kernel)
theorem dX12_formula_27 : decode cX12_formula 27 = .ok (.putfield 315, 3) := dq_of (by decide +kernel)
theorem dX12_formula_30 : decode cX12_formula 30 = .ok (.aload_n 0, 1) := dq_of (by decide +kernel)
theorem dX12_formula_31 : decode cX12_formula 31 = .ok (.invokevirtual 333, 3) := dq_of (by decide +kernel)
theorem dX12_formula_34 : decode cX12_formula 34 = .ok (.iconst 1, 1) := dq_of (by decide +kernel)
theorem dX12_formula_35 : decode cX12_formula 35 = .ok (.istore_n 2, 1) := dq_of (by decide +kernel)
theorem dX12_formula_36 : decode cX12_formula 36 = .ok (.iload_n 2, 1) := dq_of (by decide +kernel)
theorem dX12_formula_37 : decode cX12_formula 37 = .ok (.ifCond .eq 126, 3) := dq_of (by decide +kernel)
theorem dX12_formula_40 : decode cX12_formula 40 = .ok (.aload_n 0, 1) := dq_of (by decide +kernel)
theorem dX12_formula_41 : decode cX12_formula 41 = .ok (.getfield 218, 3) := dq_of (by decide +kernel)
theorem dX12_formula_44 : decode cX12_formula 44 = .ok (.ifCond .ne 119, 3) := dq_of (by decide +kernel)
theorem dX12_formula_47 : decode cX12_formula 47 = .ok (.aload_n 0, 1) := dq_of (by decide +kernel)
theorem dX12_formula_48 : decode cX12_formula 48 = .ok (.invokevirtual 336, 3) := dq_of (by decide +kernel)
theorem dX12_formula_51 : decode cX12_formula 51 = .ok (.istore_n 3, 1) := dq_of (by decide +kernel)
theorem dX12_formula_52 : decode cX12_formula 52 = .ok (.aload_n 0, 1) := dq_of (by decide +kernel)
theorem dX12_formula_53 : decode cX12_formula 53 = .ok (.getfield 205, 3) := dq_of (by decide +kernel)
theorem dX12_formula_56 : decode cX12_formula 56 = .ok (.bipush 41, 2) := dq_of (by decide +kernel)
theorem dX12_formula_58 : decode cX12_formula 58 = .ok (.if_icmp .ne 42, 3) := dq_of (by decide +kernel)
theorem dX12_formula_61 : decode cX12_formula 61 = .ok (.aload_n 0, 1) := dq_of (by decide +kernel)
theorem dX12_formula_62 : decode cX12_formula 62 = .ok (.invokevirtual 339, 3) := dq_of (by decide +kernel)
theorem dX12_formula_65 : decode cX12_formula 65 = .ok (.ifCond .eq 35, 3) := dq_of (by decide +kernel)
theorem dX12_formula_68 : decode cX12_formula 68 = .ok (.aload_n 0, 1) := dq_of (by decide +kernel)
theorem dX12_formula_69 : decode cX12_formula 69 = .ok (.iconst 0, 1) := dq_of (by decide +kernel)
theorem dX12_formula_70 : decode cX12_formula 70 = .ok (.invokevirtual 342, 3) := dq_of (by decide +kernel)
theorem dX12_formula_73 : decode cX12_formula 73 = .ok (.aload_n 0, 1) := dq_of (by decide +kernel)
theorem dX12_formula_74 : decode cX12_formula 74 = .ok (.dup, 1) := dq_of (by decide +kernel)
theorem dX12_formula_75 : decode cX12_formula 75 = .ok (.getfield 299, 3) := dq_of (by decide +kernel)
theorem dX12_formula_78 : decode cX12_formula 78 = .ok (.iconst 1, 1) := dq_of (by decide +kernel)
theorem dX12_formula_79 : decode cX12_formula 79 = .ok (.isub, 1) := dq_of (by decide +kernel)
theorem dX12_formula_80 : decode cX12_formula 80 = .ok (.putfield 299, 3) := dq_of (by decide +kernel)
theorem dX12_formula_83 : decode cX12_formula 83 = .ok (.aload_n 0, 1) := dq_of (by decide +kernel)
theorem dX12_formula_84 : decode cX12_formula 84 = .ok (.dup, 1) := dq_of (by decide +kernel)
theorem dX12_formula_85 : decode cX12_formula 85 = .ok (.getfield 309, 3) := dq_of (by decide +kernel)
theorem dX12_formula_88 : decode cX12_formula 88 = .ok (.iconst 1, 1) := dq_of (by decide +kernel)
theorem dX12_formula_89 : decode cX12_formula 89 = .ok (.isub, 1) := dq_of (by decide +kernel)
theorem dX12_formula_90 : decode cX12_formula 90 = .ok (.putfield 309, 3) := dq_of (by decide +kernel)
theorem dX12_formula_93 : decode cX12_formula 93 = .ok (.aload_n 0, 1) := dq_of (by decide +kernel)
theorem dX12_formula_94 : decode cX12_formula 94 = .ok (.invokevirtual 279, 3) := dq_of (by decide +kernel)
theorem dX12_formula_97 : decode cX12_formula 97 = .ok (.goto 63, 3) := dq_of (by decide +kernel)
theorem dX12_formula_100 : decode cX12_formula 100 = .ok (.iload_n 3, 1) := dq_of (by decide +kernel)
theorem dX12_formula_101 : decode cX12_formula 101 = .ok (.ifCond .eq 57, 3) := dq_of (by decide +kernel)
theorem dX12_formula_104 : decode cX12_formula 104 = .ok (.iload_n 3, 1) := dq_of (by decide +kernel)
theorem dX12_formula_105 : decode cX12_formula 105 = .ok (.invokestatic 302, 3) := dq_of (by decide +kernel)
theorem dX12_formula_108 : decode cX12_formula 108 = .ok (.iconst 4, 1) := dq_of (by decide +kernel)
theorem dX12_formula_109 : decode cX12_formula 109 = .ok (.if_icmp .ne 10, 3) := dq_of (by decide +kernel)
theorem dX12_formula_112 : decode cX12_formula 112 = .ok (.aload_n 0, 1) := dq_of (by decide +kernel)
theorem dX12_formula_113 : decode cX12_formula 113 = .ok (.invokevirtual 345, 3) := dq_of (by decide +kernel)
theorem dX12_formula_116 : decode cX12_formula 116 = .ok (.ifCond .ne 42, 3) := dq_of (by decide +kernel)
theorem dX12_formula_119 : decode cX12_formula 119 = .ok (.aload_n 0, 1) := dq_of (by decide +kernel)
theorem dX12_formula_120 : decode cX12_formula 120 = .ok (.iload_n 3, 1) := dq_of (by decide +kernel)
theorem dX12_formula_121 : decode cX12_formula 121 = .ok (.invokestatic 302, 3) := dq_of (by decide +kernel)
theorem dX12_formula_124 : decode cX12_formula 124 = .ok (.invokevirtual 342, 3) := dq_of (by decide +kernel)
theorem dX12_formula_127 : decode cX12_formula 127 = .ok (.aload_n 0, 1) := dq_of (by decide +kernel)
theorem dX12_formula_128 : decode cX12_formula 128 = .ok (.getfield 39, 3) := dq_of (by decide +kernel)
theorem dX12_formula_131 : decode cX12_formula 131 = .ok (.aload_n 0, 1) := dq_of (by decide +kernel)
theorem dX12_formula_132 : decode cX12_formula 132 = .ok (.getfield 299, 3) := dq_of (by decide +kernel)
theorem dX12_formula_135 : decode cX12_formula 135 = .ok (.iload_n 3, 1) := dq_of (by decide +kernel)
theorem dX12_formula_136 : decode cX12_formula 136 = .ok (.iastore, 1) := dq_of (by decide +kernel)
theorem dX12_formula_137 : decode cX12_formula 137 = .ok (.aload_n 0, 1) := dq_of (by decide +kernel)
theorem dX12_formula_138 : decode cX12_formula 138 = .ok (.dup, 1) := dq_of (by decide +kernel)
theorem dX12_formula_139 : decode cX12_formula 139 = .ok (.getfield 299, 3) := dq_of (by decide +kernel)
theorem dX12_formula_142 : decode cX12_formula 142 = .ok (.iconst 1, 1) := dq_of (by decide +kernel)
theorem dX12_formula_143 : decode cX12_formula 143 = .ok (.iadd, 1) := dq_of (by decide +kernel)
theorem dX12_formula_144 : decode cX12_formula 144 = .ok (.putfield 299, 3) := dq_of (by decide +kernel)
theorem dX12_formula_147 : decode cX12_formula 147 = .ok (.aload_n 0, 1) := dq_of (by decide +kernel)
theorem dX12_formula_148 : decode cX12_formula 148 = .ok (.invokevirtual 279, 3) := dq_of (by decide +kernel)
theorem dX12_formula_151 : decode cX12_formula 151 = .ok (.aload_n 0, 1) := dq_of (by decide +kernel)
theorem dX12_formula_152 : decode cX12_formula 152 = .ok (.invokevirtual 333, 3) := dq_of (by decide +kernel)
theorem dX12_formula_155 : decode cX12_formula 155 = .ok (.goto 5, 3) := dq_of (by decide +kernel)
theorem dX12_formula_158 : decode cX12_formula 158 = .ok (.iconst 0, 1) := dq_of (by decide +kernel)
theorem dX12_formula_159 : decode cX12_formula 159 = .ok (.istore_n 2, 1) := dq_of (by decide +kernel)
theorem dX12_formula_160 : decode cX12_formula 160 = .ok (.goto (-124), 3) := dq_of (by decide +kernel)
theorem dX12_formula_163 : decode cX12_formula 163 = .ok (.aload_n 0, 1) := dq_of (by decide +kernel)
theorem dX12_formula_164 : decode cX12_formula 164 = .ok (.getfield 218, 3) := dq_of (by decide +kernel)
theorem dX12_formula_167 : decode cX12_formula 167 = .ok (.ifCond .ne 15, 3) := dq_of (by decide +kernel)
theorem dX12_formula_170 : decode cX12_formula 170 = .ok (.aload_n 0, 1) := dq_of (by decide +kernel)
theorem dX12_formula_171 : decode cX12_formula 171 = .ok (.invokevirtual 339, 3) := dq_of (by decide +kernel)
theorem dX12_formula_174 : decode cX12_formula 174 = .ok (.ifCond .eq 8, 3) := dq_of (by decide +kernel)
theorem dX12_formula_177 : decode cX12_formula 177 = .ok (.aload_n 0, 1) := dq_of (by decide +kernel)
theorem dX12_formula_178 : decode cX12_formula 178 = .ok (.iconst 2, 1) := dq_of (by decide +kernel)
theorem dX12_formula_179 : decode cX12_formula 179 = .ok (.invokevirtual 282, 3) := dq_of (by decide +kernel)
theorem dX12_formula_182 : decode cX12_formula 182 = .ok (.aload_n 0, 1) := dq_of (by decide +kernel)
theorem dX12_formula_183 : decode cX12_formula 183 = .ok (.getfield 218, 3) := dq_of (by decide +kernel)
theorem dX12_formula_186 : decode cX12_formula 186 = .ok (.ifCond .ne 8, 3) := dq_of (by decide +kernel)
theorem dX12_formula_189 : decode cX12_formula 189 = .ok (.aload_n 0, 1) := dq_of (by decide +kernel)
theorem dX12_formula_190 : decode cX12_formula 190 = .ok (.iconst 0, 1) := dq_of (by decide +kernel)
theorem dX12_formula_191 : decode cX12_formula 191 = .ok (.invokevirtual 342, 3) := dq_of (by decide +kernel)
theorem dX12_formula_194 : decode cX12_formula 194 = .ok (.return_, 1) := dq_of (by decide +kernel)
set_option maxHeartbeats 4000000 in
set_option maxRecDepth 100000 in
theorem n_formula (l : Launch) (D : va_G) (k : KT) (A : Nat → Prop) (a : Nat → Nat) (z : SK) (G : GS) (p0 : Int32) (ha_p0 : 0 ≤ p0.toInt ∧ p0.toInt ≤ 5) (hnf : (G.1 66 2).toInt = 0) (hE9 : gE G = 1) (hp9 : p0.toInt = (G.1 66 47).toInt) : Met l yX12_formula (WS yX12_formula cX12_formula 4 none) ({ frames := 4, cells := 0, slots := 0, locals := 86 }) (va_Pc [.ref (a 66), .int p0] (cW D k A a z G)) (va_Qv (fun (G1 : GS) => Q_formula p0 G G1) (fun (G1 : GS) t => Wd D k A a G1 t.heap) A) 0 0 A := by
  refine Met.ofW (cc := cX12_formula) (maxL := 4) (ret := none) (by decide) rfl ?_
  intro p e s m args below meth c s₁ B hml hv
  obtain ⟨rfl, hW, hB_G, hK, hZ⟩ := hv
  have hx := B.exec
  have hb := B.bytes
  have hr := B.returns
  have hts := atoms_spec (ws := WS yX12_formula cX12_formula 4 none) B.pre
  have hgd : ∀ w ∈ gd, w ∈ WS yX12_formula cX12_formula 4 none := fun w h => List.mem_cons_of_mem _ h
  have hg : ∀ w ∈ gd, w.before _ s = true := fun w h => hts w (hgd w h)
  have hown : s.vm.findClass RX12 = some m.cls := findClass_of_methodNamed B.named
  have hS : va_S A s.heap s.heap [] := va_S.rf
  have hF : Fr [69, 70, 71, 75] [(66, 2), (66, 3), (66, 4), (66, 6), (66, 7), (66, 8), (66, 9), (66, 19), (66, 20), (66, 21), (66, 23), (66, 24)] G G := Fr.rf
  have hl := lv_entry ([.ref (a 66), .int p0]) (n := 4) (Nat.le_of_ble_eq_true rfl)
  rw [lg_entry_eq]
  generalize (lg_sl ([.ref (a 66), .int p0]) ++ List.replicate (4 - (lg_sl ([.ref (a 66), .int p0])).length) Slot.unset).toArray = ls at hl ⊢
  have hl : lv_has ls 4 [(0, .ref (a 66)), (1, .int p0)] := hl
  refine lv_aload_n hx hb dX12_formula_0 rfl (lv_at hl 0 rfl) ?_
  refine lv_iload_n hx hb dX12_formula_1 rfl (lv_at hl 1 rfl) ?_
  refine S_putI (ty := .int) (C := RX12) (T := TX12) (N := 89) hx hb hg iX12 tyX12 tyX12_ok nmX12 hown hK hW hS kd_66 rfl 19 (lt_b rfl) (hg (Cond.fieldLink RX12 296 "SlabWalkModel" "form" "I") m1333) (fun _ h9 => h9) rfl (by decide +kernel) rfl rfl rfl dX12_formula_2 (fun G_1 H locs eG_1 hW hS => ?_)
  have hB_G_1 : Bd G_1 := hB_G.put (V := p0.toInt) (lo := 0) (hi := 5) eG_1 rfl rfl rfl (by omega) (by omega) (hB_G.2.put eG_1 rfl)
  have hF := hF.put eG_1 (Or.inr (by decide))
  refine lv_aload_n hx hb dX12_formula_5 rfl (lv_at hl 0 rfl) ?_
  refine S_getR (n := 71) (C := RX12) (T := TX12) (N := 89) hx hb hg iX12 hown hK hW kd_66 rfl 13 (lt_b rfl) (hg (Cond.fieldLink RX12 27 "SlabWalkModel" "nMany" "[I") m1327) (fun _ h9 => h9) rfl dX12_formula_6 ?_
  refine lv_aload_n hx hb dX12_formula_9 rfl (lv_at hl 0 rfl) ?_
  refine S_getI (v := p0) (C := RX12) (T := TX12) (N := 89) hx hb hg iX12 hown hK hW kd_66 rfl 19 (lt_b rfl) (hg (Cond.fieldLink RX12 296 "SlabWalkModel" "form" "I") m1333) (fun _ h9 => h9) rfl (gp_eq eG_1) dX12_formula_10 ?_
  refine ic_0 hx hb dX12_formula_13 ?_
  refine S_iast hx hb hK hW hS kd_71 (vin (by omega) (by omega)) dX12_formula_14 (fun G_2 H locs eG_2 hW hS => ?_)
  have hB_G_2 : Bd G_2 := hB_G_1.put (V := 0) (lo := 0) (hi := 320) eG_2 rfl rfl rfl (by omega) (by omega) (hB_G_1.2.put eG_2 rfl)
  have hF := hF.put eG_2 (Or.inl (by decide))
  refine lv_aload_n hx hb dX12_formula_15 rfl (lv_at hl 0 rfl) ?_
  refine ic_0 hx hb dX12_formula_16 ?_
  refine S_putI (ty := .int) (C := RX12) (T := TX12) (N := 89) hx hb hg iX12 tyX12 tyX12_ok nmX12 hown hK hW hS kd_66 rfl 20 (lt_b rfl) (hg (Cond.fieldLink RX12 299 "SlabWalkModel" "opens" "I") m1334) (fun _ h9 => h9) rfl (by decide +kernel) rfl rfl rfl dX12_formula_17 (fun G_3 H locs eG_3 hW hS => ?_)
  have hB_G_3 : Bd G_3 := hB_G_2.put (V := 0) (lo := 0) (hi := 160) eG_3 rfl rfl rfl (by omega) (by omega) (hB_G_2.2.put eG_3 rfl)
  have hF := hF.put eG_3 (Or.inr (by decide))
  refine lv_aload_n hx hb dX12_formula_20 rfl (lv_at hl 0 rfl) ?_
  refine ic_0 hx hb dX12_formula_21 ?_
  refine S_putI (ty := .int) (C := RX12) (T := TX12) (N := 89) hx hb hg iX12 tyX12 tyX12_ok nmX12 hown hK hW hS kd_66 rfl 24 (lt_b rfl) (hg (Cond.fieldLink RX12 309 "SlabWalkModel" "deep" "I") m1338) (fun _ h9 => h9) rfl (by decide +kernel) rfl rfl rfl dX12_formula_22 (fun G_4 H locs eG_4 hW hS => ?_)
  have hB_G_4 : Bd G_4 := hB_G_3.put (V := 0) (lo := (-1)) (hi := 200) eG_4 rfl rfl rfl (by omega) (by omega) (hB_G_3.2.put eG_4 rfl)
  have hF := hF.put eG_4 (Or.inr (by decide))
  refine lv_aload_n hx hb dX12_formula_25 rfl (lv_at hl 0 rfl) ?_
  refine ic_0 hx hb dX12_formula_26 ?_
  refine S_putI (ty := .int) (C := RX12) (T := TX12) (N := 89) hx hb hg iX12 tyX12 tyX12_ok nmX12 hown hK hW hS kd_66 rfl 23 (lt_b rfl) (hg (Cond.fieldLink RX12 315 "SlabWalkModel" "ownUnits" "I") m1337) (fun _ h9 => h9) rfl (by decide +kernel) rfl rfl rfl dX12_formula_27 (fun G_5 H locs eG_5 hW hS => ?_)
  have hB_G_5 : Bd G_5 := hB_G_4.put (V := 0) (lo := 0) (hi := 40) eG_5 rfl rfl rfl (by omega) (by omega) (hB_G_4.2.put eG_5 rfl)
  have hF := hF.put eG_5 (Or.inr (by decide))
  have u_6 := form_gh (G := G) (G1 := G_5) hE9 ((gp_ne eG_5 (by decide)).trans ((gp_ne eG_4 (by decide)).trans ((gp_ne eG_3 (by decide)).trans ((gp_ne eG_2 (fun q => absurd q.1 (Nat.ne_of_beq_eq_false rfl))).trans (gp_eq eG_1))))) hp9 (fun j hj => ((gp_ne eG_5 (fun q => absurd q.1 (Nat.ne_of_beq_eq_false rfl))).trans ((gp_ne eG_4 (fun q => absurd q.1 (Nat.ne_of_beq_eq_false rfl))).trans ((gp_ne eG_3 (fun q => absurd q.1 (Nat.ne_of_beq_eq_false rfl))).trans ((gp_ne eG_2 (fun q => absurd q.1 (Nat.ne_of_beq_eq_false rfl))).trans (gp_ne eG_1 (fun q => absurd q.1 (Nat.ne_of_beq_eq_false rfl)))))))) (fun j hj => ((gp_ne eG_5 (fun q => absurd q.1 (Nat.ne_of_beq_eq_false rfl))).trans ((gp_ne eG_4 (fun q => absurd q.1 (Nat.ne_of_beq_eq_false rfl))).trans ((gp_ne eG_3 (fun q => absurd q.1 (Nat.ne_of_beq_eq_false rfl))).trans ((gp_ne eG_2 (fun q => hj q.2)).trans (gp_ne eG_1 (fun q => absurd q.1 (Nat.ne_of_beq_eq_false rfl)))))))) ((gp_ne eG_5 (fun q => absurd q.1 (Nat.ne_of_beq_eq_false rfl))).trans ((gp_ne eG_4 (fun q => absurd q.1 (Nat.ne_of_beq_eq_false rfl))).trans ((gp_ne eG_3 (fun q => absurd q.1 (Nat.ne_of_beq_eq_false rfl))).trans (gp_eq eG_2)))) ((gp_ne eG_5 (by decide)).trans ((gp_ne eG_4 (by decide)).trans (gp_eq eG_3)))
  refine lv_aload_n hx hb dX12_formula_30 rfl (lv_at hl 0 rfl) ?_
  have b_7 : 0 ≤ (G.1 66 2).toInt ∧ (G.1 66 2).toInt ≤ 4 := bd_66_2 hB_G
  have g_8 : (G_5.1 66 2).toInt = (G.1 66 2).toInt := (congrArg Int32.toInt (show G_5.1 66 2 = (G.1 66 2) from ((gp_ne eG_5 (by decide)).trans ((gp_ne eG_4 (by decide)).trans ((gp_ne eG_3 (by decide)).trans ((gp_ne eG_2 (fun q => absurd q.1 (Nat.ne_of_beq_eq_false rfl))).trans (gp_ne eG_1 (by decide))))))))
  have fr_9 : Fr [] [(66, 23), (66, 24)] G_3 G_5 := (Fr.put (rs := []) (fs := [(66, 23), (66, 24)]) (Fr.put (rs := []) (fs := [(66, 23), (66, 24)]) Fr.rf eG_4 (Or.inr (by decide))) eG_5 (Or.inr (by decide)))
  have g_10 : gB G_5 = gB G_3 := gB_fr fr_9 (gr_q rfl) (gf_q rfl)
  have fr_11 : Fr [] [(66, 20), (66, 23), (66, 24)] G_2 G_5 := (Fr.put (rs := []) (fs := [(66, 20), (66, 23), (66, 24)]) (Fr.put (rs := []) (fs := [(66, 20), (66, 23), (66, 24)]) (Fr.put (rs := []) (fs := [(66, 20), (66, 23), (66, 24)]) Fr.rf eG_3 (Or.inr (by decide))) eG_4 (Or.inr (by decide))) eG_5 (Or.inr (by decide)))
  have g_12 : gC G_5 = gC G_2 := gC_fr fr_11 (gr_q rfl) (gf_q rfl)
  have g_13 : gD G_5 = gD G_2 := gD_fr fr_11 (gr_q rfl) (gf_q rfl)
  have g_14 : gM G_5 = gM G_2 := gM_fr fr_11 (gr_q rfl) (gf_q rfl)
  have g_15 : (G_5.1 66 20).toInt = 0 := (congrArg Int32.toInt (show G_5.1 66 20 = 0 from ((gp_ne eG_5 (by decide)).trans ((gp_ne eG_4 (by decide)).trans (gp_eq eG_3))))).trans rfl
  have g_16 : (G_5.1 66 23).toInt = 0 := (congrArg Int32.toInt (show G_5.1 66 23 = 0 from (gp_eq eG_5))).trans rfl
  have g_17 : (G_5.1 66 24).toInt = 0 := (congrArg Int32.toInt (show G_5.1 66 24 = 0 from ((gp_ne eG_5 (by decide)).trans (gp_eq eG_4)))).trans rfl
  have g_18 : (G_5.1 66 23).toInt = 0 := (congrArg Int32.toInt (show G_5.1 66 23 = 0 from (gp_eq eG_5))).trans rfl
  have b_19 : 0 ≤ (G.1 66 4).toInt ∧ (G.1 66 4).toInt ≤ 1600 := bd_66_4 hB_G
  have g_20 : (G_5.1 66 4).toInt = (G.1 66 4).toInt := (congrArg Int32.toInt (show G_5.1 66 4 = (G.1 66 4) from ((gp_ne eG_5 (by decide)).trans ((gp_ne eG_4 (by decide)).trans ((gp_ne eG_3 (by decide)).trans ((gp_ne eG_2 (fun q => absurd q.1 (Nat.ne_of_beq_eq_false rfl))).trans (gp_ne eG_1 (by decide))))))))
  have g_21 : (G_5.1 66 6).toInt = (G.1 66 6).toInt := (congrArg Int32.toInt (show G_5.1 66 6 = (G.1 66 6) from ((gp_ne eG_5 (by decide)).trans ((gp_ne eG_4 (by decide)).trans ((gp_ne eG_3 (by decide)).trans ((gp_ne eG_2 (fun q => absurd q.1 (Nat.ne_of_beq_eq_false rfl))).trans (gp_ne eG_1 (by decide))))))))
  refine S_callv (va_runV (As := []) (rest := []) ⟨hx, hb, hml, hown, hts⟩ (n_unit l D k A a z G_5  (by omega) (by omega)) (cwV 0 hts (gd_V hgd m1714 m1716 m70 m131 m1717) rfl rfl rfl hd_X12_unit ⟨Nat.le_of_ble_eq_true rfl, Nat.le_of_ble_eq_true rfl⟩) (pre_V hW hB_G_5 hK hZ hS kd_66 rfl) rfl rfl hl.1 rfl (lv_room (Nat.le_of_ble_eq_true rfl)) dX12_formula_31 ⟨Nat.le_of_ble_eq_true rfl, Nat.le_of_ble_eq_true rfl⟩) hS (fun G_23 H locs hpo hW hS => ?_)
  have hX_26 : Q_unit G_5 G_23 := hpo
  obtain ⟨hB_G_23, hq_24, hp_25, -⟩ := hpo
  have hF := hF.call9 hq_24 rfl rfl
  refine ic_1 hx hb dX12_formula_34 ?_
  refine lv_istore_n (lv' := [(2, .int 1), (0, .ref (a 66)), (1, .int p0)]) hx hb dX12_formula_35 rfl hl (lt_b rfl) rfl (fun ls hl => ?_)
  have b_33 : 0 ≤ (G_23.1 66 2).toInt ∧ (G_23.1 66 2).toInt ≤ 4 := bd_66_2 hB_G_23
  have b_34 : 0 ≤ (G_23.1 66 20).toInt ∧ (G_23.1 66 20).toInt ≤ 160 := bd_66_20 hB_G_23
  have b_35 : 0 ≤ (G_23.1 66 23).toInt ∧ (G_23.1 66 23).toInt ≤ 40 := bd_66_23 hB_G_23
  have b_36 : (-1) ≤ (G_23.1 66 24).toInt ∧ (G_23.1 66 24).toInt ≤ 200 := bd_66_24 hB_G_23
  have b_37 : 0 ≤ (G_23.1 66 4).toInt ∧ (G_23.1 66 4).toInt ≤ 1600 := bd_66_4 hB_G_23
  have qc_38 : (1 : Int32).toInt = 1 := rfl
  refine loop_N (Inv := fun n H locs ls => ∃ (G_27 : GS) (x_31 : Int32), (n : Int) = 4000 - 1000 * (G_27.1 66 2).toInt + 100 * (40 - (G_27.1 66 23).toInt) + (G_27.1 66 20).toInt + x_31.toInt ∧ (0 ≤ x_31.toInt ∧ x_31.toInt ≤ 1) ∧ ((G_27.1 66 2).toInt = 0 → gC G_27 = 1 ∧ gD G_27 = gB G_27 + 1 ∧ (G_27.1 66 24).toInt = (G_27.1 66 20).toInt - gB G_27 ∧ gD G_27 ≤ (G_27.1 66 23).toInt ∧ (G_27.1 66 23).toInt ≤ 30 ∧ gM G_27 + (G_27.1 66 20).toInt ≤ 10 * (G_27.1 66 23).toInt ∧ (G_27.1 66 24).toInt ≤ 7) ∧ ((G.1 66 4).toInt ≤ (G_27.1 66 4).toInt ∧ ((G_27.1 66 4).toInt = (G.1 66 4).toInt → (G_27.1 66 6).toInt = (G.1 66 6).toInt ∨ (G_27.1 66 6).toInt ≤ 3)) ∧ Rc (St_n_formula_1 G) (1, G_23) (x_31, G_27) ∧ Wd D k A a G_27 H ∧ Bd G_27 ∧ Fr [69, 70, 71, 75] [(66, 2), (66, 3), (66, 4), (66, 6), (66, 7), (66, 8), (66, 9), (66, 19), (66, 20), (66, 21), (66, 23), (66, 24)] G G_27 ∧ Fr [69, 70, 71, 75] [(66, 2), (66, 3), (66, 4), (66, 6), (66, 7), (66, 8), (66, 9), (66, 20), (66, 21), (66, 23), (66, 24)] G_23 G_27 ∧ va_S A s.heap H locs ∧ lv_has ls 4 [(2, .int x_31), (0, .ref (a 66))]) (fun n_30 H locs ls ih_29 hI => ?_) (4000 - 1000 * (G_23.1 66 2).toInt + 100 * (40 - (G_23.1 66 23).toInt) + (G_23.1 66 20).toInt + 1 : Int).toNat ⟨G_23, 1, (Int.toNat_of_nonneg (by omega)), ⟨by omega, by omega⟩, (by omega), (by omega), Rc.rf, hW, hB_G_23, hF, Fr.rf, hS, lv_sub hl [0, 1] rfl⟩
  obtain ⟨G_27, x_31, hn_42, f_39, f_40, f_41, hX_32, hW, hB_G_27, hF, hq_28, hS, hl⟩ := hI
  have b_43 : 0 ≤ (G_27.1 66 2).toInt ∧ (G_27.1 66 2).toInt ≤ 4 := bd_66_2 hB_G_27
  have b_44 : 0 ≤ (G_27.1 66 20).toInt ∧ (G_27.1 66 20).toInt ≤ 160 := bd_66_20 hB_G_27
  have b_45 : 0 ≤ (G_27.1 66 23).toInt ∧ (G_27.1 66 23).toInt ≤ 40 := bd_66_23 hB_G_27
  have b_46 : (-1) ≤ (G_27.1 66 24).toInt ∧ (G_27.1 66 24).toInt ≤ 200 := bd_66_24 hB_G_27
  have b_47 : 0 ≤ (G_27.1 66 4).toInt ∧ (G_27.1 66 4).toInt ≤ 1600 := bd_66_4 hB_G_27
  have u_48 := gh_pos (G := G_27) (by omega)
  refine lv_iload_n hx hb dX12_formula_36 rfl (lv_at hl 0 rfl) ?_
  refine W.cut (σ := Unit) (pcJ := 163) (J := fun y H locs ls => ∃ (G_50 : GS), Jn_n_formula_2 x_31 G_27 G_50 ∧ Wd D k A a G_50 H ∧ Bd G_50 ∧ Fr [69, 70, 71, 75] [(66, 2), (66, 3), (66, 4), (66, 6), (66, 7), (66, 8), (66, 9), (66, 19), (66, 20), (66, 21), (66, 23), (66, 24)] G G_50 ∧ Fr [] [] G_27 G_50 ∧ va_S A s.heap H locs ∧ lv_has ls 4 [(0, .ref (a 66))]) (stJ := fun _ => []) ?_ (fun hJ_51 => ?_)
  · intro y H locs ls hI
    obtain ⟨G_50, hX_53, hW, hB_G_50, hF, hq_52, hS, hl⟩ := hI
    refine lv_aload_n hx hb dX12_formula_163 rfl (lv_at hl 0 rfl) ?_
    refine S_getI (v := (G_27.1 66 2)) (C := RX12) (T := TX12) (N := 89) hx hb hg iX12 hown hK hW kd_66 rfl 2 (lt_b rfl) (hg (Cond.fieldLink RX12 218 "SlabWalkModel" "fault" "I") m1316) (fun _ h9 => h9) rfl ((hq_52.i9 66 2 rfl rfl).trans (rfl)) dX12_formula_164 ?_
    refine lv_if_ne (tgt := 182) hx hb dX12_formula_167 rfl (fun c_54 => ?_) (fun c_54 => ?_)
    · have c_54 : (G_27.1 66 2).toInt ≠ 0 := xI_ne rfl rfl c_54
      refine lv_aload_n hx hb dX12_formula_182 rfl (lv_at hl 0 rfl) ?_
      refine S_getI (v := (G_27.1 66 2)) (C := RX12) (T := TX12) (N := 89) hx hb hg iX12 hown hK hW kd_66 rfl 2 (lt_b rfl) (hg (Cond.fieldLink RX12 218 "SlabWalkModel" "fault" "I") m1316) (fun _ h9 => h9) rfl ((hq_52.i9 66 2 rfl rfl).trans (rfl)) dX12_formula_183 ?_
      refine lv_if_ne (tgt := 194) hx hb dX12_formula_186 rfl (fun c_55 => ?_) (fun c_55 => ?_)
      · have c_55 : (G_27.1 66 2).toInt ≠ 0 := xI_ne rfl rfl c_55
        have fr_56 : Fr [] [] G_27 G_50 := (Fr.call9 (rs := []) (fs := []) Fr.rf hq_52 rfl rfl)
        have g_57 : gC G_50 = gC G_27 := gC_fr fr_56 (gr_q rfl) (gf_q rfl)
        have g_58 : (G_50.1 66 19).toInt = p0.toInt := (congrArg Int32.toInt (show G_50.1 66 19 = p0 from ((hq_52.i9 66 19 rfl rfl).trans ((hq_28.i9 66 19 rfl rfl).trans ((hq_24.i9 66 19 rfl rfl).trans ((gp_ne eG_5 (by decide)).trans ((gp_ne eG_4 (by decide)).trans ((gp_ne eG_3 (by decide)).trans ((gp_ne eG_2 (fun q => absurd q.1 (Nat.ne_of_beq_eq_false rfl))).trans (gp_eq eG_1))))))))))
        have g_59 : (G_50.1 66 2).toInt = (G_27.1 66 2).toInt := (congrArg Int32.toInt (show G_50.1 66 2 = (G_27.1 66 2) from ((hq_52.i9 66 2 rfl rfl).trans (rfl))))
        have g_60 : (G_50.1 66 4).toInt = (G_27.1 66 4).toInt := (congrArg Int32.toInt (show G_50.1 66 4 = (G_27.1 66 4) from ((hq_52.i9 66 4 rfl rfl).trans (rfl))))
        have g_61 : (G_50.1 66 6).toInt = (G_27.1 66 6).toInt := (congrArg Int32.toInt (show G_50.1 66 6 = (G_27.1 66 6) from ((hq_52.i9 66 6 rfl rfl).trans (rfl))))
        exact W.vret hx hb hr (fun t ht _ => ⟨⟨G_50, rfl, (Q_formula_mk ⟨hB_G_50, hF, (by omega), ⟨G_5, hB_G_5, (Fr.put (rs := [71]) (fs := [(66, 19), (66, 20), (66, 23), (66, 24)]) (Fr.put (rs := [71]) (fs := [(66, 19), (66, 20), (66, 23), (66, 24)]) (Fr.put (rs := [71]) (fs := [(66, 19), (66, 20), (66, 23), (66, 24)]) (Fr.put (rs := [71]) (fs := [(66, 19), (66, 20), (66, 23), (66, 24)]) (Fr.put (rs := [71]) (fs := [(66, 19), (66, 20), (66, 23), (66, 24)]) Fr.rf eG_1 (Or.inr (by decide))) eG_2 (Or.inl (by decide))) eG_3 (Or.inr (by decide))) eG_4 (Or.inr (by decide))) eG_5 (Or.inr (by decide))), ((gp_ne eG_5 (by decide)).trans ((gp_ne eG_4 (by decide)).trans ((gp_ne eG_3 (by decide)).trans ((gp_ne eG_2 (fun q => absurd q.1 (Nat.ne_of_beq_eq_false rfl))).trans (gp_eq eG_1))))), ((gp_ne eG_5 (by decide)).trans ((gp_ne eG_4 (by decide)).trans (gp_eq eG_3))), (gp_eq eG_5), ((gp_ne eG_5 (by decide)).trans (gp_eq eG_4)), (rw_put eG_5 (by decide)).trans ((rw_put eG_4 (by decide)).trans ((rw_put eG_3 (by decide)).trans ((rw_ast eG_2).trans (congrArg (fun q => upd q (p0.toNatClampNeg) 0) (rw_put eG_1 (by decide)))))), ⟨G_23, hX_26, ⟨x_31, G_27, hX_32, f_39, f_40, f_41, hB_G_27, hq_28, ⟨G_50, hX_53, hB_G_50, hq_52, (Or.inr ⟨c_54, rfl⟩)⟩⟩⟩⟩⟩), wd_t ht hW⟩, hS.F ht⟩) hS.2.2 dX12_formula_194
      · have c_55 : (G_27.1 66 2).toInt = 0 := xI_eq rfl rfl c_55
        exfalso; omega
    · have c_54 : (G_27.1 66 2).toInt = 0 := xI_eq rfl rfl c_54
      refine lv_aload_n hx hb dX12_formula_170 rfl (lv_at hl 0 rfl) ?_
      have fr_62 : Fr [] [] G_27 G_50 := (Fr.call9 (rs := []) (fs := []) Fr.rf hq_52 rfl rfl)
      have g_63 : gK G_50 = gK G_27 := gK_fr fr_62 (gr_q rfl) (gf_q rfl)
      refine S_calli (va_runV (As := []) (rest := []) ⟨hx, hb, hml, hown, hts⟩ (n_hasBracket l D k A a z G_50  ) (cwV 0 hts (gd_V hgd m1749 m1751 m78 m131 m1752) rfl rfl rfl hd_X12_hasBracket ⟨Nat.le_of_ble_eq_true rfl, Nat.le_of_ble_eq_true rfl⟩) (pre_V hW hB_G_50 hK hZ hS kd_66 rfl) rfl rfl hl.1 rfl (lv_room (Nat.le_of_ble_eq_true rfl)) dX12_formula_171 ⟨Nat.le_of_ble_eq_true rfl, Nat.le_of_ble_eq_true rfl⟩) hS (fun r_64 G_65 H locs hpo hW hS => ?_)
      have hX_68 : Q_hasBracket G_50 r_64 G_65 := hpo
      obtain ⟨hB_G_65, hq_66, f_69, hp_67, -⟩ := hpo
      have hF := hF.call9 hq_66 rfl rfl
      refine lv_if_eq (tgt := 182) hx hb dX12_formula_174 rfl (fun c_70 => ?_) (fun c_70 => ?_)
      · have c_70 : r_64.toInt = 0 := xI_eq rfl rfl c_70
        refine lv_aload_n hx hb dX12_formula_182 rfl (lv_at hl 0 rfl) ?_
        refine S_getI (v := (G_27.1 66 2)) (C := RX12) (T := TX12) (N := 89) hx hb hg iX12 hown hK hW kd_66 rfl 2 (lt_b rfl) (hg (Cond.fieldLink RX12 218 "SlabWalkModel" "fault" "I") m1316) (fun _ h9 => h9) rfl ((hq_66.i9 66 2 rfl rfl).trans ((hq_52.i9 66 2 rfl rfl).trans (rfl))) dX12_formula_183 ?_
        refine lv_if_ne (tgt := 194) hx hb dX12_formula_186 rfl (fun c_71 => ?_) (fun c_71 => ?_)
        · have c_71 : (G_27.1 66 2).toInt ≠ 0 := xI_ne rfl rfl c_71
          exfalso; omega
        · have c_71 : (G_27.1 66 2).toInt = 0 := xI_eq rfl rfl c_71
          refine lv_aload_n hx hb dX12_formula_189 rfl (lv_at hl 0 rfl) ?_
          refine ic_0 hx hb dX12_formula_190 ?_
          have fr_72 : Fr [] [] G_27 G_65 := (Fr.call9 (rs := []) (fs := []) (Fr.call9 (rs := []) (fs := []) Fr.rf hq_52 rfl rfl) hq_66 rfl rfl)
          have g_73 : gB G_65 = gB G_27 := gB_fr fr_72 (gr_q rfl) (gf_q rfl)
          have g_74 : gC G_65 = gC G_27 := gC_fr fr_72 (gr_q rfl) (gf_q rfl)
          have g_75 : gD G_65 = gD G_27 := gD_fr fr_72 (gr_q rfl) (gf_q rfl)
          have g_76 : gM G_65 = gM G_27 := gM_fr fr_72 (gr_q rfl) (gf_q rfl)
          have g_77 : (G_65.1 66 20).toInt = (G_27.1 66 20).toInt := (congrArg Int32.toInt (show G_65.1 66 20 = (G_27.1 66 20) from ((hq_66.i9 66 20 rfl rfl).trans ((hq_52.i9 66 20 rfl rfl).trans (rfl)))))
          have g_78 : (G_65.1 66 24).toInt = (G_27.1 66 24).toInt := (congrArg Int32.toInt (show G_65.1 66 24 = (G_27.1 66 24) from ((hq_66.i9 66 24 rfl rfl).trans ((hq_52.i9 66 24 rfl rfl).trans (rfl)))))
          have qc_79 : (0 : Int32).toInt = 0 := rfl
          have g_80 : gK G_65 = gK G_27 := gK_fr fr_72 (gr_q rfl) (gf_q rfl)
          have g_81 : (G_65.1 66 20).toInt = (G_27.1 66 20).toInt := (congrArg Int32.toInt (show G_65.1 66 20 = (G_27.1 66 20) from ((hq_66.i9 66 20 rfl rfl).trans ((hq_52.i9 66 20 rfl rfl).trans (rfl)))))
          have g_82 : (G_65.1 66 24).toInt = (G_27.1 66 24).toInt := (congrArg Int32.toInt (show G_65.1 66 24 = (G_27.1 66 24) from ((hq_66.i9 66 24 rfl rfl).trans ((hq_52.i9 66 24 rfl rfl).trans (rfl)))))
          refine S_callv (va_runV (As := [.int 0]) (rest := []) ⟨hx, hb, hml, hown, hts⟩ (n_close l D k A a z G_65 0 (by omega)) (cwV 1 hts (gd_V hgd m1753 m1755 m79 m131 m1756) rfl rfl rfl hd_X12_close ⟨Nat.le_of_ble_eq_true rfl, Nat.le_of_ble_eq_true rfl⟩) (pre_V hW hB_G_65 hK hZ hS kd_66 rfl) rfl rfl hl.1 rfl (lv_room (Nat.le_of_ble_eq_true rfl)) dX12_formula_191 ⟨Nat.le_of_ble_eq_true rfl, Nat.le_of_ble_eq_true rfl⟩) hS (fun G_84 H locs hpo hW hS => ?_)
          have hX_87 : Q_close 0 G_65 G_84 := hpo
          obtain ⟨hB_G_84, hq_85, hp_86, -⟩ := hpo
          have hF := hF.call9 hq_85 rfl rfl
          have g_88 : (G_84.1 66 19).toInt = p0.toInt := (congrArg Int32.toInt (show G_84.1 66 19 = p0 from ((hq_85.i9 66 19 rfl rfl).trans ((hq_66.i9 66 19 rfl rfl).trans ((hq_52.i9 66 19 rfl rfl).trans ((hq_28.i9 66 19 rfl rfl).trans ((hq_24.i9 66 19 rfl rfl).trans ((gp_ne eG_5 (by decide)).trans ((gp_ne eG_4 (by decide)).trans ((gp_ne eG_3 (by decide)).trans ((gp_ne eG_2 (fun q => absurd q.1 (Nat.ne_of_beq_eq_false rfl))).trans (gp_eq eG_1))))))))))))
          have g_89 : (G_84.1 66 2).toInt = (G_27.1 66 2).toInt := (congrArg Int32.toInt (show G_84.1 66 2 = (G_27.1 66 2) from ((hq_85.i9 66 2 rfl rfl).trans ((hq_66.i9 66 2 rfl rfl).trans ((hq_52.i9 66 2 rfl rfl).trans (rfl))))))
          have g_90 : (G_84.1 66 4).toInt = (G_27.1 66 4).toInt := (congrArg Int32.toInt (show G_84.1 66 4 = (G_27.1 66 4) from ((hq_85.i9 66 4 rfl rfl).trans ((hq_66.i9 66 4 rfl rfl).trans ((hq_52.i9 66 4 rfl rfl).trans (rfl))))))
          have g_91 : (G_84.1 66 6).toInt = (G_27.1 66 6).toInt := (congrArg Int32.toInt (show G_84.1 66 6 = (G_27.1 66 6) from ((hq_85.i9 66 6 rfl rfl).trans ((hq_66.i9 66 6 rfl rfl).trans ((hq_52.i9 66 6 rfl rfl).trans (rfl))))))
          exact W.vret hx hb hr (fun t ht _ => ⟨⟨G_84, rfl, (Q_formula_mk ⟨hB_G_84, hF, (by omega), ⟨G_5, hB_G_5, (Fr.put (rs := [71]) (fs := [(66, 19), (66, 20), (66, 23), (66, 24)]) (Fr.put (rs := [71]) (fs := [(66, 19), (66, 20), (66, 23), (66, 24)]) (Fr.put (rs := [71]) (fs := [(66, 19), (66, 20), (66, 23), (66, 24)]) (Fr.put (rs := [71]) (fs := [(66, 19), (66, 20), (66, 23), (66, 24)]) (Fr.put (rs := [71]) (fs := [(66, 19), (66, 20), (66, 23), (66, 24)]) Fr.rf eG_1 (Or.inr (by decide))) eG_2 (Or.inl (by decide))) eG_3 (Or.inr (by decide))) eG_4 (Or.inr (by decide))) eG_5 (Or.inr (by decide))), ((gp_ne eG_5 (by decide)).trans ((gp_ne eG_4 (by decide)).trans ((gp_ne eG_3 (by decide)).trans ((gp_ne eG_2 (fun q => absurd q.1 (Nat.ne_of_beq_eq_false rfl))).trans (gp_eq eG_1))))), ((gp_ne eG_5 (by decide)).trans ((gp_ne eG_4 (by decide)).trans (gp_eq eG_3))), (gp_eq eG_5), ((gp_ne eG_5 (by decide)).trans (gp_eq eG_4)), (rw_put eG_5 (by decide)).trans ((rw_put eG_4 (by decide)).trans ((rw_put eG_3 (by decide)).trans ((rw_ast eG_2).trans (congrArg (fun q => upd q (p0.toNatClampNeg) 0) (rw_put eG_1 (by decide)))))), ⟨G_23, hX_26, ⟨x_31, G_27, hX_32, f_39, f_40, f_41, hB_G_27, hq_28, ⟨G_50, hX_53, hB_G_50, hq_52, (Or.inl ⟨c_54, ⟨r_64, G_65, hX_68, (Or.inl ⟨c_70, ⟨G_84, hX_87, rfl⟩⟩)⟩⟩)⟩⟩⟩⟩⟩), wd_t ht hW⟩, hS.F ht⟩) hS.2.2 dX12_formula_194
      · have c_70 : r_64.toInt ≠ 0 := xI_ne rfl rfl c_70
        refine lv_aload_n hx hb dX12_formula_177 rfl (lv_at hl 0 rfl) ?_
        refine ic_2 hx hb dX12_formula_178 ?_
        have qc_92 : (2 : Int32).toInt = 2 := rfl
        refine S_callv (va_runV (As := [.int 2]) (rest := []) ⟨hx, hb, hml, hown, hts⟩ (n_wrong l D k A a z G_65 2 ⟨by decide, by decide⟩) (cwV 1 hts (gd_V hgd m1670 m1672 m59 m131 m1673) rfl rfl rfl hd_X12_wrong ⟨Nat.le_of_ble_eq_true rfl, Nat.le_of_ble_eq_true rfl⟩) (pre_V hW hB_G_65 hK hZ hS kd_66 rfl) rfl rfl hl.1 rfl (lv_room (Nat.le_of_ble_eq_true rfl)) dX12_formula_179 ⟨Nat.le_of_ble_eq_true rfl, Nat.le_of_ble_eq_true rfl⟩) hS (fun G_94 H locs hpo hW hS => ?_)
        have hX_97 : Q_wrong 2 G_65 G_94 := hpo
        obtain ⟨hB_G_94, hq_95, hp_96, -⟩ := hpo
        have hF := hF.call9 hq_95 rfl rfl
        refine lv_aload_n hx hb dX12_formula_182 rfl (lv_at hl 0 rfl) ?_
        have b_98 : 0 ≤ (G_94.1 66 2).toInt ∧ (G_94.1 66 2).toInt ≤ 4 := bd_66_2 hB_G_94
        refine S_getI (v := (G_94.1 66 2)) (C := RX12) (T := TX12) (N := 89) hx hb hg iX12 hown hK hW kd_66 rfl 2 (lt_b rfl) (hg (Cond.fieldLink RX12 218 "SlabWalkModel" "fault" "I") m1316) (fun _ h9 => h9) rfl rfl dX12_formula_183 ?_
        refine lv_if_ne (tgt := 194) hx hb dX12_formula_186 rfl (fun c_99 => ?_) (fun c_99 => ?_)
        · have c_99 : (G_94.1 66 2).toInt ≠ 0 := xI_ne rfl rfl c_99
          have fr_100 : Fr [] [(66, 2), (66, 3)] G_27 G_94 := (Fr.call9 (rs := []) (fs := [(66, 2), (66, 3)]) (Fr.call9 (rs := []) (fs := [(66, 2), (66, 3)]) (Fr.call9 (rs := []) (fs := [(66, 2), (66, 3)]) Fr.rf hq_52 rfl rfl) hq_66 rfl rfl) hq_95 rfl rfl)
          have g_101 : gC G_94 = gC G_27 := gC_fr fr_100 (gr_q rfl) (gf_q rfl)
          have g_102 : (G_94.1 66 19).toInt = p0.toInt := (congrArg Int32.toInt (show G_94.1 66 19 = p0 from ((hq_95.i9 66 19 rfl rfl).trans ((hq_66.i9 66 19 rfl rfl).trans ((hq_52.i9 66 19 rfl rfl).trans ((hq_28.i9 66 19 rfl rfl).trans ((hq_24.i9 66 19 rfl rfl).trans ((gp_ne eG_5 (by decide)).trans ((gp_ne eG_4 (by decide)).trans ((gp_ne eG_3 (by decide)).trans ((gp_ne eG_2 (fun q => absurd q.1 (Nat.ne_of_beq_eq_false rfl))).trans (gp_eq eG_1))))))))))))
          have g_103 : (G_94.1 66 4).toInt = (G_27.1 66 4).toInt := (congrArg Int32.toInt (show G_94.1 66 4 = (G_27.1 66 4) from ((hq_95.i9 66 4 rfl rfl).trans ((hq_66.i9 66 4 rfl rfl).trans ((hq_52.i9 66 4 rfl rfl).trans (rfl))))))
          have g_104 : (G_94.1 66 6).toInt = (G_27.1 66 6).toInt := (congrArg Int32.toInt (show G_94.1 66 6 = (G_27.1 66 6) from ((hq_95.i9 66 6 rfl rfl).trans ((hq_66.i9 66 6 rfl rfl).trans ((hq_52.i9 66 6 rfl rfl).trans (rfl))))))
          exact W.vret hx hb hr (fun t ht _ => ⟨⟨G_94, rfl, (Q_formula_mk ⟨hB_G_94, hF, (by omega), ⟨G_5, hB_G_5, (Fr.put (rs := [71]) (fs := [(66, 19), (66, 20), (66, 23), (66, 24)]) (Fr.put (rs := [71]) (fs := [(66, 19), (66, 20), (66, 23), (66, 24)]) (Fr.put (rs := [71]) (fs := [(66, 19), (66, 20), (66, 23), (66, 24)]) (Fr.put (rs := [71]) (fs := [(66, 19), (66, 20), (66, 23), (66, 24)]) (Fr.put (rs := [71]) (fs := [(66, 19), (66, 20), (66, 23), (66, 24)]) Fr.rf eG_1 (Or.inr (by decide))) eG_2 (Or.inl (by decide))) eG_3 (Or.inr (by decide))) eG_4 (Or.inr (by decide))) eG_5 (Or.inr (by decide))), ((gp_ne eG_5 (by decide)).trans ((gp_ne eG_4 (by decide)).trans ((gp_ne eG_3 (by decide)).trans ((gp_ne eG_2 (fun q => absurd q.1 (Nat.ne_of_beq_eq_false rfl))).trans (gp_eq eG_1))))), ((gp_ne eG_5 (by decide)).trans ((gp_ne eG_4 (by decide)).trans (gp_eq eG_3))), (gp_eq eG_5), ((gp_ne eG_5 (by decide)).trans (gp_eq eG_4)), (rw_put eG_5 (by decide)).trans ((rw_put eG_4 (by decide)).trans ((rw_put eG_3 (by decide)).trans ((rw_ast eG_2).trans (congrArg (fun q => upd q (p0.toNatClampNeg) 0) (rw_put eG_1 (by decide)))))), ⟨G_23, hX_26, ⟨x_31, G_27, hX_32, f_39, f_40, f_41, hB_G_27, hq_28, ⟨G_50, hX_53, hB_G_50, hq_52, (Or.inl ⟨c_54, ⟨r_64, G_65, hX_68, (Or.inr ⟨c_70, ⟨G_94, hX_97, (Or.inr ⟨c_99, rfl⟩)⟩⟩)⟩⟩)⟩⟩⟩⟩⟩), wd_t ht hW⟩, hS.F ht⟩) hS.2.2 dX12_formula_194
        · have c_99 : (G_94.1 66 2).toInt = 0 := xI_eq rfl rfl c_99
          refine lv_aload_n hx hb dX12_formula_189 rfl (lv_at hl 0 rfl) ?_
          refine ic_0 hx hb dX12_formula_190 ?_
          have fr_105 : Fr [] [(66, 2), (66, 3)] G_27 G_94 := (Fr.call9 (rs := []) (fs := [(66, 2), (66, 3)]) (Fr.call9 (rs := []) (fs := [(66, 2), (66, 3)]) (Fr.call9 (rs := []) (fs := [(66, 2), (66, 3)]) Fr.rf hq_52 rfl rfl) hq_66 rfl rfl) hq_95 rfl rfl)
          have g_106 : gB G_94 = gB G_27 := gB_fr fr_105 (gr_q rfl) (gf_q rfl)
          have g_107 : gC G_94 = gC G_27 := gC_fr fr_105 (gr_q rfl) (gf_q rfl)
          have g_108 : gD G_94 = gD G_27 := gD_fr fr_105 (gr_q rfl) (gf_q rfl)
          have g_109 : gM G_94 = gM G_27 := gM_fr fr_105 (gr_q rfl) (gf_q rfl)
          have g_110 : (G_94.1 66 20).toInt = (G_27.1 66 20).toInt := (congrArg Int32.toInt (show G_94.1 66 20 = (G_27.1 66 20) from ((hq_95.i9 66 20 rfl rfl).trans ((hq_66.i9 66 20 rfl rfl).trans ((hq_52.i9 66 20 rfl rfl).trans (rfl))))))
          have g_111 : (G_94.1 66 24).toInt = (G_27.1 66 24).toInt := (congrArg Int32.toInt (show G_94.1 66 24 = (G_27.1 66 24) from ((hq_95.i9 66 24 rfl rfl).trans ((hq_66.i9 66 24 rfl rfl).trans ((hq_52.i9 66 24 rfl rfl).trans (rfl))))))
          have qc_112 : (0 : Int32).toInt = 0 := rfl
          have g_113 : gK G_94 = gK G_27 := gK_fr fr_105 (gr_q rfl) (gf_q rfl)
          have g_114 : (G_94.1 66 20).toInt = (G_27.1 66 20).toInt := (congrArg Int32.toInt (show G_94.1 66 20 = (G_27.1 66 20) from ((hq_95.i9 66 20 rfl rfl).trans ((hq_66.i9 66 20 rfl rfl).trans ((hq_52.i9 66 20 rfl rfl).trans (rfl))))))
          have g_115 : (G_94.1 66 24).toInt = (G_27.1 66 24).toInt := (congrArg Int32.toInt (show G_94.1 66 24 = (G_27.1 66 24) from ((hq_95.i9 66 24 rfl rfl).trans ((hq_66.i9 66 24 rfl rfl).trans ((hq_52.i9 66 24 rfl rfl).trans (rfl))))))
          refine S_callv (va_runV (As := [.int 0]) (rest := []) ⟨hx, hb, hml, hown, hts⟩ (n_close l D k A a z G_94 0 (by omega)) (cwV 1 hts (gd_V hgd m1753 m1755 m79 m131 m1756) rfl rfl rfl hd_X12_close ⟨Nat.le_of_ble_eq_true rfl, Nat.le_of_ble_eq_true rfl⟩) (pre_V hW hB_G_94 hK hZ hS kd_66 rfl) rfl rfl hl.1 rfl (lv_room (Nat.le_of_ble_eq_true rfl)) dX12_formula_191 ⟨Nat.le_of_ble_eq_true rfl, Nat.le_of_ble_eq_true rfl⟩) hS (fun G_117 H locs hpo hW hS => ?_)
          have hX_120 : Q_close 0 G_94 G_117 := hpo
          obtain ⟨hB_G_117, hq_118, hp_119, -⟩ := hpo
          have hF := hF.call9 hq_118 rfl rfl
          have g_121 : (G_117.1 66 19).toInt = p0.toInt := (congrArg Int32.toInt (show G_117.1 66 19 = p0 from ((hq_118.i9 66 19 rfl rfl).trans ((hq_95.i9 66 19 rfl rfl).trans ((hq_66.i9 66 19 rfl rfl).trans ((hq_52.i9 66 19 rfl rfl).trans ((hq_28.i9 66 19 rfl rfl).trans ((hq_24.i9 66 19 rfl rfl).trans ((gp_ne eG_5 (by decide)).trans ((gp_ne eG_4 (by decide)).trans ((gp_ne eG_3 (by decide)).trans ((gp_ne eG_2 (fun q => absurd q.1 (Nat.ne_of_beq_eq_false rfl))).trans (gp_eq eG_1)))))))))))))
          have g_122 : (G_117.1 66 2).toInt = (G_94.1 66 2).toInt := (congrArg Int32.toInt (show G_117.1 66 2 = (G_94.1 66 2) from ((hq_118.i9 66 2 rfl rfl).trans (rfl))))
          have g_123 : (G_117.1 66 4).toInt = (G_27.1 66 4).toInt := (congrArg Int32.toInt (show G_117.1 66 4 = (G_27.1 66 4) from ((hq_118.i9 66 4 rfl rfl).trans ((hq_95.i9 66 4 rfl rfl).trans ((hq_66.i9 66 4 rfl rfl).trans ((hq_52.i9 66 4 rfl rfl).trans (rfl)))))))
          have g_124 : (G_117.1 66 6).toInt = (G_27.1 66 6).toInt := (congrArg Int32.toInt (show G_117.1 66 6 = (G_27.1 66 6) from ((hq_118.i9 66 6 rfl rfl).trans ((hq_95.i9 66 6 rfl rfl).trans ((hq_66.i9 66 6 rfl rfl).trans ((hq_52.i9 66 6 rfl rfl).trans (rfl)))))))
          exact W.vret hx hb hr (fun t ht _ => ⟨⟨G_117, rfl, (Q_formula_mk ⟨hB_G_117, hF, (by omega), ⟨G_5, hB_G_5, (Fr.put (rs := [71]) (fs := [(66, 19), (66, 20), (66, 23), (66, 24)]) (Fr.put (rs := [71]) (fs := [(66, 19), (66, 20), (66, 23), (66, 24)]) (Fr.put (rs := [71]) (fs := [(66, 19), (66, 20), (66, 23), (66, 24)]) (Fr.put (rs := [71]) (fs := [(66, 19), (66, 20), (66, 23), (66, 24)]) (Fr.put (rs := [71]) (fs := [(66, 19), (66, 20), (66, 23), (66, 24)]) Fr.rf eG_1 (Or.inr (by decide))) eG_2 (Or.inl (by decide))) eG_3 (Or.inr (by decide))) eG_4 (Or.inr (by decide))) eG_5 (Or.inr (by decide))), ((gp_ne eG_5 (by decide)).trans ((gp_ne eG_4 (by decide)).trans ((gp_ne eG_3 (by decide)).trans ((gp_ne eG_2 (fun q => absurd q.1 (Nat.ne_of_beq_eq_false rfl))).trans (gp_eq eG_1))))), ((gp_ne eG_5 (by decide)).trans ((gp_ne eG_4 (by decide)).trans (gp_eq eG_3))), (gp_eq eG_5), ((gp_ne eG_5 (by decide)).trans (gp_eq eG_4)), (rw_put eG_5 (by decide)).trans ((rw_put eG_4 (by decide)).trans ((rw_put eG_3 (by decide)).trans ((rw_ast eG_2).trans (congrArg (fun q => upd q (p0.toNatClampNeg) 0) (rw_put eG_1 (by decide)))))), ⟨G_23, hX_26, ⟨x_31, G_27, hX_32, f_39, f_40, f_41, hB_G_27, hq_28, ⟨G_50, hX_53, hB_G_50, hq_52, (Or.inl ⟨c_54, ⟨r_64, G_65, hX_68, (Or.inr ⟨c_70, ⟨G_94, hX_97, (Or.inl ⟨c_99, ⟨G_117, hX_120, rfl⟩⟩)⟩⟩)⟩⟩)⟩⟩⟩⟩⟩), wd_t ht hW⟩, hS.F ht⟩) hS.2.2 dX12_formula_194
  refine lv_if_eq (tgt := 163) hx hb dX12_formula_37 rfl (fun c_125 => ?_) (fun c_125 => ?_)
  · have c_125 : x_31.toInt = 0 := xI_eq rfl rfl c_125
    exact hJ_51 () _ _ _ ⟨G_27, (Jn_n_formula_2_mk (Or.inl ⟨c_125, rfl⟩)), hW, hB_G_27, hF, (Fr.rf (rs := []) (fs := [])), hS, lv_sub hl [1] rfl⟩
  · have c_125 : x_31.toInt ≠ 0 := xI_ne rfl rfl c_125
    refine lv_aload_n hx hb dX12_formula_40 rfl (lv_at hl 1 rfl) ?_
    refine S_getI (v := (G_27.1 66 2)) (C := RX12) (T := TX12) (N := 89) hx hb hg iX12 hown hK hW kd_66 rfl 2 (lt_b rfl) (hg (Cond.fieldLink RX12 218 "SlabWalkModel" "fault" "I") m1316) (fun _ h9 => h9) rfl rfl dX12_formula_41 ?_
    refine lv_if_ne (tgt := 163) hx hb dX12_formula_44 rfl (fun c_126 => ?_) (fun c_126 => ?_)
    · have c_126 : (G_27.1 66 2).toInt ≠ 0 := xI_ne rfl rfl c_126
      exact hJ_51 () _ _ _ ⟨G_27, (Jn_n_formula_2_mk (Or.inr ⟨c_125, ⟨c_126, rfl⟩⟩)), hW, hB_G_27, hF, (Fr.rf (rs := []) (fs := [])), hS, lv_sub hl [1] rfl⟩
    · have c_126 : (G_27.1 66 2).toInt = 0 := xI_eq rfl rfl c_126
      refine lv_aload_n hx hb dX12_formula_47 rfl (lv_at hl 1 rfl) ?_
      refine S_calli (va_runV (As := []) (rest := []) ⟨hx, hb, hml, hown, hts⟩ (n_signOf l D k A a z G_27  ) (cwV 0 hts (gd_V hgd m1745 m1747 m77 m131 m1748) rfl rfl rfl hd_X12_sign ⟨Nat.le_of_ble_eq_true rfl, Nat.le_of_ble_eq_true rfl⟩) (pre_V hW hB_G_27 hK hZ hS kd_66 rfl) rfl rfl hl.1 rfl (lv_room (Nat.le_of_ble_eq_true rfl)) dX12_formula_48 ⟨Nat.le_of_ble_eq_true rfl, Nat.le_of_ble_eq_true rfl⟩) hS (fun r_127 G_128 H locs hpo hW hS => ?_)
      have hX_131 : Q_signOf G_27 r_127 G_128 := hpo
      obtain ⟨hB_G_128, hq_129, f_132, hp_130, -⟩ := hpo
      have hF := hF.call9 hq_129 rfl rfl
      refine lv_istore_n (lv' := [(3, .int r_127), (2, .int x_31), (0, .ref (a 66))]) hx hb dX12_formula_51 rfl hl (lt_b rfl) rfl (fun ls hl => ?_)
      refine lv_aload_n hx hb dX12_formula_52 rfl (lv_at hl 2 rfl) ?_
      refine S_getI (v := (G_27.1 66 6)) (C := RX12) (T := TX12) (N := 89) hx hb hg iX12 hown hK hW kd_66 rfl 6 (lt_b rfl) (hg (Cond.fieldLink RX12 205 "SlabWalkModel" "sort" "I") m1320) (fun _ h9 => h9) rfl ((hq_129.i9 66 6 rfl rfl).trans (rfl)) dX12_formula_53 ?_
      refine lv_bipush (v := 41) hx hb dX12_formula_56 (by decide) ?_
      refine W.cut (σ := Unit) (pcJ := 100) (J := fun y H locs ls => ∃ (G_136 : GS), Jn_n_formula_3 G_27 G_128 G_136 ∧ Wd D k A a G_136 H ∧ Bd G_136 ∧ Fr [69, 70, 71, 75] [(66, 2), (66, 3), (66, 4), (66, 6), (66, 7), (66, 8), (66, 9), (66, 19), (66, 20), (66, 21), (66, 23), (66, 24)] G G_136 ∧ Fr [] [] G_128 G_136 ∧ va_S A s.heap H locs ∧ lv_has ls 4 [(3, .int r_127), (2, .int x_31), (0, .ref (a 66))]) (stJ := fun _ => []) ?_ (fun hJ_137 => ?_)
      · intro y H locs ls hI
        obtain ⟨G_136, hX_139, hW, hB_G_136, hF, hq_138, hS, hl⟩ := hI
        refine lv_iload_n hx hb dX12_formula_100 rfl (lv_at hl 0 rfl) ?_
        refine lv_if_eq (tgt := 158) hx hb dX12_formula_101 rfl (fun c_140 => ?_) (fun c_140 => ?_)
        · have c_140 : r_127.toInt = 0 := xI_eq rfl rfl c_140
          refine ic_0 hx hb dX12_formula_158 ?_
          refine lv_istore_n (lv' := [(2, .int 0), (3, .int r_127), (0, .ref (a 66))]) hx hb dX12_formula_159 rfl hl (lt_b rfl) rfl (fun ls hl => ?_)
          refine lv_goto (tgt := 36) hx hb dX12_formula_160 rfl ?_
          have g_141 : (G_136.1 66 2).toInt = (G_27.1 66 2).toInt := (congrArg Int32.toInt (show G_136.1 66 2 = (G_27.1 66 2) from ((hq_138.i9 66 2 rfl rfl).trans ((hq_129.i9 66 2 rfl rfl).trans (rfl)))))
          have g_142 : (G_136.1 66 20).toInt = (G_27.1 66 20).toInt := (congrArg Int32.toInt (show G_136.1 66 20 = (G_27.1 66 20) from ((hq_138.i9 66 20 rfl rfl).trans ((hq_129.i9 66 20 rfl rfl).trans (rfl)))))
          have g_143 : (G_136.1 66 23).toInt = (G_27.1 66 23).toInt := (congrArg Int32.toInt (show G_136.1 66 23 = (G_27.1 66 23) from ((hq_138.i9 66 23 rfl rfl).trans ((hq_129.i9 66 23 rfl rfl).trans (rfl)))))
          have fr_144 : Fr [] [] G_27 G_136 := (Fr.call9 (rs := []) (fs := []) (Fr.call9 (rs := []) (fs := []) Fr.rf hq_129 rfl rfl) hq_138 rfl rfl)
          have g_145 : gB G_136 = gB G_27 := gB_fr fr_144 (gr_q rfl) (gf_q rfl)
          have g_146 : gC G_136 = gC G_27 := gC_fr fr_144 (gr_q rfl) (gf_q rfl)
          have g_147 : gD G_136 = gD G_27 := gD_fr fr_144 (gr_q rfl) (gf_q rfl)
          have g_148 : gM G_136 = gM G_27 := gM_fr fr_144 (gr_q rfl) (gf_q rfl)
          have g_149 : (G_136.1 66 2).toInt = (G_27.1 66 2).toInt := (congrArg Int32.toInt (show G_136.1 66 2 = (G_27.1 66 2) from ((hq_138.i9 66 2 rfl rfl).trans ((hq_129.i9 66 2 rfl rfl).trans (rfl)))))
          have g_150 : (G_136.1 66 20).toInt = (G_27.1 66 20).toInt := (congrArg Int32.toInt (show G_136.1 66 20 = (G_27.1 66 20) from ((hq_138.i9 66 20 rfl rfl).trans ((hq_129.i9 66 20 rfl rfl).trans (rfl)))))
          have g_151 : (G_136.1 66 23).toInt = (G_27.1 66 23).toInt := (congrArg Int32.toInt (show G_136.1 66 23 = (G_27.1 66 23) from ((hq_138.i9 66 23 rfl rfl).trans ((hq_129.i9 66 23 rfl rfl).trans (rfl)))))
          have g_152 : (G_136.1 66 24).toInt = (G_27.1 66 24).toInt := (congrArg Int32.toInt (show G_136.1 66 24 = (G_27.1 66 24) from ((hq_138.i9 66 24 rfl rfl).trans ((hq_129.i9 66 24 rfl rfl).trans (rfl)))))
          have g_153 : (G_136.1 66 4).toInt = (G_27.1 66 4).toInt := (congrArg Int32.toInt (show G_136.1 66 4 = (G_27.1 66 4) from ((hq_138.i9 66 4 rfl rfl).trans ((hq_129.i9 66 4 rfl rfl).trans (rfl)))))
          have g_154 : (G_136.1 66 6).toInt = (G_27.1 66 6).toInt := (congrArg Int32.toInt (show G_136.1 66 6 = (G_27.1 66 6) from ((hq_138.i9 66 6 rfl rfl).trans ((hq_129.i9 66 6 rfl rfl).trans (rfl)))))
          have qc_155 : (0 : Int32).toInt = 0 := rfl
          exact ih_29 (4000 - 1000 * (G_136.1 66 2).toInt + 100 * (40 - (G_136.1 66 23).toInt) + (G_136.1 66 20).toInt + 0 : Int).toNat (by omega) _ _ _ ⟨G_136, 0, (Int.toNat_of_nonneg (by omega)), ⟨by omega, by omega⟩, (by omega), (by omega), (hX_32.st (St_n_formula_1_mk ⟨x_31, G_27, 0, G_136, rfl, rfl, f_39, f_40, f_41, hB_G_27, ⟨c_125, ⟨c_126, ⟨r_127, G_128, hX_131, (Or.inr ⟨G_136, hX_139, hB_G_136, hq_138, (Or.inl ⟨c_140, ⟨rfl, rfl⟩⟩)⟩)⟩⟩⟩⟩)), hW, hB_G_136, hF, (Fr.call9 (rs := [69, 70, 71, 75]) (fs := [(66, 2), (66, 3), (66, 4), (66, 6), (66, 7), (66, 8), (66, 9), (66, 20), (66, 21), (66, 23), (66, 24)]) (Fr.call9 (rs := [69, 70, 71, 75]) (fs := [(66, 2), (66, 3), (66, 4), (66, 6), (66, 7), (66, 8), (66, 9), (66, 20), (66, 21), (66, 23), (66, 24)]) (Fr.call9 (rs := [69, 70, 71, 75]) (fs := [(66, 2), (66, 3), (66, 4), (66, 6), (66, 7), (66, 8), (66, 9), (66, 20), (66, 21), (66, 23), (66, 24)]) Fr.rf hq_28 rfl rfl) hq_129 rfl rfl) hq_138 rfl rfl), hS, lv_sub hl [0, 2] rfl⟩
        · have c_140 : r_127.toInt ≠ 0 := xI_ne rfl rfl c_140
          refine lv_iload_n hx hb dX12_formula_104 rfl (lv_at hl 0 rfl) ?_
          refine S_calli (va_runS (As := [.int r_127]) (rest := []) ⟨hx, hb, hml, hown, hts⟩ (n_tight l D k A a z G_136 r_127 ) (va_cwS 1 hts (gd_S hgd m1722 m1723 m131 m1724) rfl rfl rfl hd_X12_tight.2 ⟨Nat.le_of_ble_eq_true rfl, Nat.le_of_ble_eq_true rfl⟩) (pre_S hW hB_G_136 hK hZ hS) rfl rfl hl.1 rfl (lv_room (Nat.le_of_ble_eq_true rfl)) dX12_formula_105 ⟨Nat.le_of_ble_eq_true rfl, Nat.le_of_ble_eq_true rfl⟩) hS (fun r_156 G_157 H locs hpo hW hS => ?_)
          have hX_160 : Q_tight r_127 G_136 r_156 G_157 := hpo
          obtain ⟨hB_G_157, hq_158, f_161, -⟩ := hpo
          have hF := hF.call9 hq_158 rfl rfl
          refine ic_4 hx hb dX12_formula_108 ?_
          refine W.cut (σ := Unit) (pcJ := 119) (J := fun y H locs ls => ∃ (G_165 : GS), Jn_n_formula_4 r_156 G_157 G_165 ∧ Wd D k A a G_165 H ∧ Bd G_165 ∧ Fr [69, 70, 71, 75] [(66, 2), (66, 3), (66, 4), (66, 6), (66, 7), (66, 8), (66, 9), (66, 19), (66, 20), (66, 21), (66, 23), (66, 24)] G G_165 ∧ Fr [] [] G_157 G_165 ∧ va_S A s.heap H locs ∧ lv_has ls 4 [(3, .int r_127), (2, .int x_31), (0, .ref (a 66))]) (stJ := fun _ => []) ?_ (fun hJ_166 => ?_)
          · intro y H locs ls hI
            obtain ⟨G_165, hX_168, hW, hB_G_165, hF, hq_167, hS, hl⟩ := hI
            refine lv_aload_n hx hb dX12_formula_119 rfl (lv_at hl 2 rfl) ?_
            refine lv_iload_n hx hb dX12_formula_120 rfl (lv_at hl 0 rfl) ?_
            refine S_calli (va_runS (As := [.int r_127]) (rest := [.ref (a 66)]) ⟨hx, hb, hml, hown, hts⟩ (n_tight l D k A a z G_165 r_127 ) (va_cwS 1 hts (gd_S hgd m1722 m1723 m131 m1724) rfl rfl rfl hd_X12_tight.2 ⟨Nat.le_of_ble_eq_true rfl, Nat.le_of_ble_eq_true rfl⟩) (pre_S hW hB_G_165 hK hZ hS) rfl rfl hl.1 rfl (lv_room (Nat.le_of_ble_eq_true rfl)) dX12_formula_121 ⟨Nat.le_of_ble_eq_true rfl, Nat.le_of_ble_eq_true rfl⟩) hS (fun r_169 G_170 H locs hpo hW hS => ?_)
            have hX_173 : Q_tight r_127 G_165 r_169 G_170 := hpo
            obtain ⟨hB_G_170, hq_171, f_174, -⟩ := hpo
            have hF := hF.call9 hq_171 rfl rfl
            have fr_175 : Fr [] [] G_27 G_170 := (Fr.call9 (rs := []) (fs := []) (Fr.call9 (rs := []) (fs := []) (Fr.call9 (rs := []) (fs := []) (Fr.call9 (rs := []) (fs := []) (Fr.call9 (rs := []) (fs := []) Fr.rf hq_129 rfl rfl) hq_138 rfl rfl) hq_158 rfl rfl) hq_167 rfl rfl) hq_171 rfl rfl)
            have g_176 : gB G_170 = gB G_27 := gB_fr fr_175 (gr_q rfl) (gf_q rfl)
            have g_177 : gC G_170 = gC G_27 := gC_fr fr_175 (gr_q rfl) (gf_q rfl)
            have g_178 : gD G_170 = gD G_27 := gD_fr fr_175 (gr_q rfl) (gf_q rfl)
            have g_179 : gM G_170 = gM G_27 := gM_fr fr_175 (gr_q rfl) (gf_q rfl)
            have g_180 : (G_170.1 66 20).toInt = (G_27.1 66 20).toInt := (congrArg Int32.toInt (show G_170.1 66 20 = (G_27.1 66 20) from ((hq_171.i9 66 20 rfl rfl).trans ((hq_167.i9 66 20 rfl rfl).trans ((hq_158.i9 66 20 rfl rfl).trans ((hq_138.i9 66 20 rfl rfl).trans ((hq_129.i9 66 20 rfl rfl).trans (rfl))))))))
            have g_181 : (G_170.1 66 24).toInt = (G_27.1 66 24).toInt := (congrArg Int32.toInt (show G_170.1 66 24 = (G_27.1 66 24) from ((hq_171.i9 66 24 rfl rfl).trans ((hq_167.i9 66 24 rfl rfl).trans ((hq_158.i9 66 24 rfl rfl).trans ((hq_138.i9 66 24 rfl rfl).trans ((hq_129.i9 66 24 rfl rfl).trans (rfl))))))))
            have g_182 : gK G_170 = gK G_27 := gK_fr fr_175 (gr_q rfl) (gf_q rfl)
            have g_183 : (G_170.1 66 20).toInt = (G_27.1 66 20).toInt := (congrArg Int32.toInt (show G_170.1 66 20 = (G_27.1 66 20) from ((hq_171.i9 66 20 rfl rfl).trans ((hq_167.i9 66 20 rfl rfl).trans ((hq_158.i9 66 20 rfl rfl).trans ((hq_138.i9 66 20 rfl rfl).trans ((hq_129.i9 66 20 rfl rfl).trans (rfl))))))))
            have g_184 : (G_170.1 66 24).toInt = (G_27.1 66 24).toInt := (congrArg Int32.toInt (show G_170.1 66 24 = (G_27.1 66 24) from ((hq_171.i9 66 24 rfl rfl).trans ((hq_167.i9 66 24 rfl rfl).trans ((hq_158.i9 66 24 rfl rfl).trans ((hq_138.i9 66 24 rfl rfl).trans ((hq_129.i9 66 24 rfl rfl).trans (rfl))))))))
            refine S_callv (va_runV (As := [.int r_169]) (rest := []) ⟨hx, hb, hml, hown, hts⟩ (n_close l D k A a z G_170 r_169 (by omega)) (cwV 1 hts (gd_V hgd m1753 m1755 m79 m131 m1756) rfl rfl rfl hd_X12_close ⟨Nat.le_of_ble_eq_true rfl, Nat.le_of_ble_eq_true rfl⟩) (pre_V hW hB_G_170 hK hZ hS kd_66 rfl) rfl rfl hl.1 rfl (lv_room (Nat.le_of_ble_eq_true rfl)) dX12_formula_124 ⟨Nat.le_of_ble_eq_true rfl, Nat.le_of_ble_eq_true rfl⟩) hS (fun G_186 H locs hpo hW hS => ?_)
            have hX_189 : Q_close r_169 G_170 G_186 := hpo
            obtain ⟨hB_G_186, hq_187, hp_188, -⟩ := hpo
            have hF := hF.call9 hq_187 rfl rfl
            refine lv_aload_n hx hb dX12_formula_127 rfl (lv_at hl 2 rfl) ?_
            refine S_getR (n := 75) (C := RX12) (T := TX12) (N := 89) hx hb hg iX12 hown hK hW kd_66 rfl 17 (lt_b rfl) (hg (Cond.fieldLink RX12 39 "SlabWalkModel" "open" "[I") m1331) (fun _ h9 => h9) rfl dX12_formula_128 ?_
            refine lv_aload_n hx hb dX12_formula_131 rfl (lv_at hl 2 rfl) ?_
            have b_190 : 0 ≤ (G_186.1 66 20).toInt ∧ (G_186.1 66 20).toInt ≤ 160 := bd_66_20 hB_G_186
            refine S_getI (v := (G_186.1 66 20)) (C := RX12) (T := TX12) (N := 89) hx hb hg iX12 hown hK hW kd_66 rfl 20 (lt_b rfl) (hg (Cond.fieldLink RX12 299 "SlabWalkModel" "opens" "I") m1334) (fun _ h9 => h9) rfl rfl dX12_formula_132 ?_
            refine lv_iload_n hx hb dX12_formula_135 rfl (lv_at hl 0 rfl) ?_
            refine S_iast hx hb hK hW hS kd_75 (vin (by omega) (by omega)) dX12_formula_136 (fun G_191 H locs eG_191 hW hS => ?_)
            have hB_G_191 : Bd G_191 := hB_G_186.put (lo := (-2147483648)) (hi := 2147483647) eG_191 rfl rfl rfl (tI_rng _).1 (tI_rng _).2 (hB_G_186.2.put eG_191 rfl)
            have hF := hF.put eG_191 (Or.inl (by decide))
            refine lv_aload_n hx hb dX12_formula_137 rfl (lv_at hl 2 rfl) ?_
            refine lv_dup hx hb dX12_formula_138 rfl ?_
            refine S_getI (v := (G_186.1 66 20)) (C := RX12) (T := TX12) (N := 89) hx hb hg iX12 hown hK hW kd_66 rfl 20 (lt_b rfl) (hg (Cond.fieldLink RX12 299 "SlabWalkModel" "opens" "I") m1334) (fun _ h9 => h9) rfl ((gp_ne eG_191 (fun q => absurd q.1 (Nat.ne_of_beq_eq_false rfl))).trans (rfl)) dX12_formula_139 ?_
            refine ic_1 hx hb dX12_formula_142 ?_
            refine lv_iadd hx hb dX12_formula_143 ?_
            refine lv_topi (fun y_192 ey_192 => ?_)
            have ty_192 : y_192.toInt = (G_186.1 66 20).toInt + 1 := xI_add rfl rfl ey_192 (by omega) (by omega)
            refine S_putI (ty := .int) (C := RX12) (T := TX12) (N := 89) hx hb hg iX12 tyX12 tyX12_ok nmX12 hown hK hW hS kd_66 rfl 20 (lt_b rfl) (hg (Cond.fieldLink RX12 299 "SlabWalkModel" "opens" "I") m1334) (fun _ h9 => h9) rfl (by decide +kernel) rfl rfl rfl dX12_formula_144 (fun G_193 H locs eG_193 hW hS => ?_)
            have hB_G_193 : Bd G_193 := hB_G_191.put (V := y_192.toInt) (lo := 0) (hi := 160) eG_193 rfl rfl rfl (by omega) (by omega) (hB_G_191.2.put eG_193 rfl)
            have hF := hF.put eG_193 (Or.inr (by decide))
            have u_194 := gh_push eG_191 eG_193 (by omega) (by omega) (by omega)
            refine lv_aload_n hx hb dX12_formula_147 rfl (lv_at hl 2 rfl) ?_
            have g_195 : (G_193.1 66 4).toInt = (G_27.1 66 4).toInt := (congrArg Int32.toInt (show G_193.1 66 4 = (G_27.1 66 4) from ((gp_ne eG_193 (by decide)).trans ((gp_ne eG_191 (fun q => absurd q.1 (Nat.ne_of_beq_eq_false rfl))).trans ((hq_187.i9 66 4 rfl rfl).trans ((hq_171.i9 66 4 rfl rfl).trans ((hq_167.i9 66 4 rfl rfl).trans ((hq_158.i9 66 4 rfl rfl).trans ((hq_138.i9 66 4 rfl rfl).trans ((hq_129.i9 66 4 rfl rfl).trans (rfl)))))))))))
            have g_196 : (G_193.1 66 6).toInt = (G_27.1 66 6).toInt := (congrArg Int32.toInt (show G_193.1 66 6 = (G_27.1 66 6) from ((gp_ne eG_193 (by decide)).trans ((gp_ne eG_191 (fun q => absurd q.1 (Nat.ne_of_beq_eq_false rfl))).trans ((hq_187.i9 66 6 rfl rfl).trans ((hq_171.i9 66 6 rfl rfl).trans ((hq_167.i9 66 6 rfl rfl).trans ((hq_158.i9 66 6 rfl rfl).trans ((hq_138.i9 66 6 rfl rfl).trans ((hq_129.i9 66 6 rfl rfl).trans (rfl)))))))))))
            refine S_callv (va_runV (As := []) (rest := []) ⟨hx, hb, hml, hown, hts⟩ (n_token l D k A a z G_193  ) (cwV 0 hts (gd_V hgd m1602 m1604 m50 m131 m1605) rfl rfl rfl hd_X12_token ⟨Nat.le_of_ble_eq_true rfl, Nat.le_of_ble_eq_true rfl⟩) (pre_V hW hB_G_193 hK hZ hS kd_66 rfl) rfl rfl hl.1 rfl (lv_room (Nat.le_of_ble_eq_true rfl)) dX12_formula_148 ⟨Nat.le_of_ble_eq_true rfl, Nat.le_of_ble_eq_true rfl⟩) hS (fun G_198 H locs hpo hW hS => ?_)
            have hX_201 : Q_token G_193 G_198 := hpo
            obtain ⟨hB_G_198, hq_199, hp_200, -⟩ := hpo
            have hF := hF.call9 hq_199 rfl rfl
            refine lv_aload_n hx hb dX12_formula_151 rfl (lv_at hl 2 rfl) ?_
            have g_202 : (G_198.1 66 2).toInt = (G_27.1 66 2).toInt := (congrArg Int32.toInt (show G_198.1 66 2 = (G_27.1 66 2) from ((hq_199.i9 66 2 rfl rfl).trans ((gp_ne eG_193 (by decide)).trans ((gp_ne eG_191 (fun q => absurd q.1 (Nat.ne_of_beq_eq_false rfl))).trans ((hq_187.i9 66 2 rfl rfl).trans ((hq_171.i9 66 2 rfl rfl).trans ((hq_167.i9 66 2 rfl rfl).trans ((hq_158.i9 66 2 rfl rfl).trans ((hq_138.i9 66 2 rfl rfl).trans ((hq_129.i9 66 2 rfl rfl).trans (rfl))))))))))))
            have fr_203 : Fr [] [(66, 4), (66, 6), (66, 7), (66, 8), (66, 9)] G_193 G_198 := (Fr.call9 (rs := []) (fs := [(66, 4), (66, 6), (66, 7), (66, 8), (66, 9)]) Fr.rf hq_199 rfl rfl)
            have g_204 : gB G_198 = gB G_193 := gB_fr fr_203 (gr_q rfl) (gf_q rfl)
            have fr_205 : Fr [75] [(66, 4), (66, 6), (66, 7), (66, 8), (66, 9), (66, 20)] G_186 G_198 := (Fr.call9 (rs := [75]) (fs := [(66, 4), (66, 6), (66, 7), (66, 8), (66, 9), (66, 20)]) (Fr.put (rs := [75]) (fs := [(66, 4), (66, 6), (66, 7), (66, 8), (66, 9), (66, 20)]) (Fr.put (rs := [75]) (fs := [(66, 4), (66, 6), (66, 7), (66, 8), (66, 9), (66, 20)]) Fr.rf eG_191 (Or.inl (by decide))) eG_193 (Or.inr (by decide))) hq_199 rfl rfl)
            have g_206 : gC G_198 = gC G_186 := gC_fr fr_205 (gr_q rfl) (gf_q rfl)
            have g_207 : gD G_198 = gD G_186 := gD_fr fr_205 (gr_q rfl) (gf_q rfl)
            have g_208 : gM G_198 = gM G_186 := gM_fr fr_205 (gr_q rfl) (gf_q rfl)
            have g_209 : (G_198.1 66 20).toInt = y_192.toInt := (congrArg Int32.toInt (show G_198.1 66 20 = y_192 from ((hq_199.i9 66 20 rfl rfl).trans (gp_eq eG_193))))
            have g_210 : (G_198.1 66 23).toInt = (G_27.1 66 23).toInt := (congrArg Int32.toInt (show G_198.1 66 23 = (G_27.1 66 23) from ((hq_199.i9 66 23 rfl rfl).trans ((gp_ne eG_193 (by decide)).trans ((gp_ne eG_191 (fun q => absurd q.1 (Nat.ne_of_beq_eq_false rfl))).trans ((hq_187.i9 66 23 rfl rfl).trans ((hq_171.i9 66 23 rfl rfl).trans ((hq_167.i9 66 23 rfl rfl).trans ((hq_158.i9 66 23 rfl rfl).trans ((hq_138.i9 66 23 rfl rfl).trans ((hq_129.i9 66 23 rfl rfl).trans (rfl))))))))))))
            have b_211 : (-1) ≤ (G_186.1 66 24).toInt ∧ (G_186.1 66 24).toInt ≤ 200 := bd_66_24 hB_G_186
            have g_212 : (G_198.1 66 24).toInt = (G_186.1 66 24).toInt := (congrArg Int32.toInt (show G_198.1 66 24 = (G_186.1 66 24) from ((hq_199.i9 66 24 rfl rfl).trans ((gp_ne eG_193 (by decide)).trans (gp_ne eG_191 (fun q => absurd q.1 (Nat.ne_of_beq_eq_false rfl)))))))
            have g_213 : (G_198.1 66 23).toInt = (G_27.1 66 23).toInt := (congrArg Int32.toInt (show G_198.1 66 23 = (G_27.1 66 23) from ((hq_199.i9 66 23 rfl rfl).trans ((gp_ne eG_193 (by decide)).trans ((gp_ne eG_191 (fun q => absurd q.1 (Nat.ne_of_beq_eq_false rfl))).trans ((hq_187.i9 66 23 rfl rfl).trans ((hq_171.i9 66 23 rfl rfl).trans ((hq_167.i9 66 23 rfl rfl).trans ((hq_158.i9 66 23 rfl rfl).trans ((hq_138.i9 66 23 rfl rfl).trans ((hq_129.i9 66 23 rfl rfl).trans (rfl))))))))))))
            have b_214 : 0 ≤ (G_198.1 66 4).toInt ∧ (G_198.1 66 4).toInt ≤ 1600 := bd_66_4 hB_G_198
            refine S_callv (va_runV (As := []) (rest := []) ⟨hx, hb, hml, hown, hts⟩ (n_unit l D k A a z G_198  (by omega) (by omega)) (cwV 0 hts (gd_V hgd m1714 m1716 m70 m131 m1717) rfl rfl rfl hd_X12_unit ⟨Nat.le_of_ble_eq_true rfl, Nat.le_of_ble_eq_true rfl⟩) (pre_V hW hB_G_198 hK hZ hS kd_66 rfl) rfl rfl hl.1 rfl (lv_room (Nat.le_of_ble_eq_true rfl)) dX12_formula_152 ⟨Nat.le_of_ble_eq_true rfl, Nat.le_of_ble_eq_true rfl⟩) hS (fun G_216 H locs hpo hW hS => ?_)
            have hX_219 : Q_unit G_198 G_216 := hpo
            obtain ⟨hB_G_216, hq_217, hp_218, -⟩ := hpo
            have hF := hF.call9 hq_217 rfl rfl
            refine lv_goto (tgt := 160) hx hb dX12_formula_155 rfl ?_
            refine lv_goto (tgt := 36) hx hb dX12_formula_160 rfl ?_
            have b_220 : 0 ≤ (G_216.1 66 2).toInt ∧ (G_216.1 66 2).toInt ≤ 4 := bd_66_2 hB_G_216
            have b_221 : 0 ≤ (G_216.1 66 20).toInt ∧ (G_216.1 66 20).toInt ≤ 160 := bd_66_20 hB_G_216
            have b_222 : 0 ≤ (G_216.1 66 23).toInt ∧ (G_216.1 66 23).toInt ≤ 40 := bd_66_23 hB_G_216
            have b_223 : (-1) ≤ (G_216.1 66 24).toInt ∧ (G_216.1 66 24).toInt ≤ 200 := bd_66_24 hB_G_216
            have b_224 : 0 ≤ (G_216.1 66 4).toInt ∧ (G_216.1 66 4).toInt ≤ 1600 := bd_66_4 hB_G_216
            exact ih_29 (4000 - 1000 * (G_216.1 66 2).toInt + 100 * (40 - (G_216.1 66 23).toInt) + (G_216.1 66 20).toInt + x_31.toInt : Int).toNat (by omega) _ _ _ ⟨G_216, x_31, (Int.toNat_of_nonneg (by omega)), ⟨by omega, by omega⟩, (by omega), (by omega), (hX_32.st (St_n_formula_1_mk ⟨x_31, G_27, x_31, G_216, rfl, rfl, f_39, f_40, f_41, hB_G_27, ⟨c_125, ⟨c_126, ⟨r_127, G_128, hX_131, (Or.inr ⟨G_136, hX_139, hB_G_136, hq_138, (Or.inr ⟨c_140, ⟨r_156, G_157, hX_160, (Or.inr ⟨G_165, hX_168, hB_G_165, hq_167, ⟨r_169, G_170, hX_173, ⟨G_186, hX_189, ⟨y_192, ty_192, ⟨G_193, hB_G_193, (Fr.put (rs := [75]) (fs := [(66, 20)]) (Fr.put (rs := [75]) (fs := [(66, 20)]) Fr.rf eG_191 (Or.inl (by decide))) eG_193 (Or.inr (by decide))), (gp_eq eG_193), (rw_put eG_193 (by decide)).trans (rw_ast eG_191), ⟨G_198, hX_201, ⟨G_216, hX_219, ⟨rfl, rfl⟩⟩⟩⟩⟩⟩⟩⟩)⟩⟩)⟩)⟩⟩⟩⟩)), hW, hB_G_216, hF, (Fr.call9 (rs := [69, 70, 71, 75]) (fs := [(66, 2), (66, 3), (66, 4), (66, 6), (66, 7), (66, 8), (66, 9), (66, 20), (66, 21), (66, 23), (66, 24)]) (Fr.call9 (rs := [69, 70, 71, 75]) (fs := [(66, 2), (66, 3), (66, 4), (66, 6), (66, 7), (66, 8), (66, 9), (66, 20), (66, 21), (66, 23), (66, 24)]) (Fr.put (rs := [69, 70, 71, 75]) (fs := [(66, 2), (66, 3), (66, 4), (66, 6), (66, 7), (66, 8), (66, 9), (66, 20), (66, 21), (66, 23), (66, 24)]) (Fr.put (rs := [69, 70, 71, 75]) (fs := [(66, 2), (66, 3), (66, 4), (66, 6), (66, 7), (66, 8), (66, 9), (66, 20), (66, 21), (66, 23), (66, 24)]) (Fr.call9 (rs := [69, 70, 71, 75]) (fs := [(66, 2), (66, 3), (66, 4), (66, 6), (66, 7), (66, 8), (66, 9), (66, 20), (66, 21), (66, 23), (66, 24)]) (Fr.call9 (rs := [69, 70, 71, 75]) (fs := [(66, 2), (66, 3), (66, 4), (66, 6), (66, 7), (66, 8), (66, 9), (66, 20), (66, 21), (66, 23), (66, 24)]) (Fr.call9 (rs := [69, 70, 71, 75]) (fs := [(66, 2), (66, 3), (66, 4), (66, 6), (66, 7), (66, 8), (66, 9), (66, 20), (66, 21), (66, 23), (66, 24)]) (Fr.call9 (rs := [69, 70, 71, 75]) (fs := [(66, 2), (66, 3), (66, 4), (66, 6), (66, 7), (66, 8), (66, 9), (66, 20), (66, 21), (66, 23), (66, 24)]) (Fr.call9 (rs := [69, 70, 71, 75]) (fs := [(66, 2), (66, 3), (66, 4), (66, 6), (66, 7), (66, 8), (66, 9), (66, 20), (66, 21), (66, 23), (66, 24)]) (Fr.call9 (rs := [69, 70, 71, 75]) (fs := [(66, 2), (66, 3), (66, 4), (66, 6), (66, 7), (66, 8), (66, 9), (66, 20), (66, 21), (66, 23), (66, 24)]) (Fr.call9 (rs := [69, 70, 71, 75]) (fs := [(66, 2), (66, 3), (66, 4), (66, 6), (66, 7), (66, 8), (66, 9), (66, 20), (66, 21), (66, 23), (66, 24)]) Fr.rf hq_28 rfl rfl) hq_129 rfl rfl) hq_138 rfl rfl) hq_158 rfl rfl) hq_167 rfl rfl) hq_171 rfl rfl) hq_187 rfl rfl) eG_191 (Or.inl (by decide))) eG_193 (Or.inr (by decide))) hq_199 rfl rfl) hq_217 rfl rfl), hS, lv_sub hl [1, 2] rfl⟩
          refine lv_icmp_ne (tgt := 119) hx hb dX12_formula_109 rfl (fun c_225 => ?_) (fun c_225 => ?_)
          · have c_225 : r_156.toInt ≠ 4 := xI_ne rfl rfl c_225
            exact hJ_166 () _ _ _ ⟨G_157, (Jn_n_formula_4_mk (Or.inr ⟨c_225, rfl⟩)), hW, hB_G_157, hF, (Fr.rf (rs := []) (fs := [])), hS, lv_sub hl [0, 1, 2] rfl⟩
          · have c_225 : r_156.toInt = 4 := xI_eq rfl rfl c_225
            refine lv_aload_n hx hb dX12_formula_112 rfl (lv_at hl 2 rfl) ?_
            refine S_calli (va_runV (As := []) (rest := []) ⟨hx, hb, hml, hown, hts⟩ (n_hasRelation l D k A a z G_157  ) (cwV 0 hts (gd_V hgd m1757 m1759 m80 m131 m1760) rfl rfl rfl hd_X12_hasRelation ⟨Nat.le_of_ble_eq_true rfl, Nat.le_of_ble_eq_true rfl⟩) (pre_V hW hB_G_157 hK hZ hS kd_66 rfl) rfl rfl hl.1 rfl (lv_room (Nat.le_of_ble_eq_true rfl)) dX12_formula_113 ⟨Nat.le_of_ble_eq_true rfl, Nat.le_of_ble_eq_true rfl⟩) hS (fun r_226 G_227 H locs hpo hW hS => ?_)
            have hX_230 : Q_hasRelation G_157 r_226 G_227 := hpo
            obtain ⟨hB_G_227, hq_228, f_231, -⟩ := hpo
            have hF := hF.call9 hq_228 rfl rfl
            refine lv_if_ne (tgt := 158) hx hb dX12_formula_116 rfl (fun c_232 => ?_) (fun c_232 => ?_)
            · have c_232 : r_226.toInt ≠ 0 := xI_ne rfl rfl c_232
              refine ic_0 hx hb dX12_formula_158 ?_
              refine lv_istore_n (lv' := [(2, .int 0), (3, .int r_127), (0, .ref (a 66))]) hx hb dX12_formula_159 rfl hl (lt_b rfl) rfl (fun ls hl => ?_)
              refine lv_goto (tgt := 36) hx hb dX12_formula_160 rfl ?_
              have g_233 : (G_227.1 66 2).toInt = (G_27.1 66 2).toInt := (congrArg Int32.toInt (show G_227.1 66 2 = (G_27.1 66 2) from ((hq_228.i9 66 2 rfl rfl).trans ((hq_158.i9 66 2 rfl rfl).trans ((hq_138.i9 66 2 rfl rfl).trans ((hq_129.i9 66 2 rfl rfl).trans (rfl)))))))
              have g_234 : (G_227.1 66 20).toInt = (G_27.1 66 20).toInt := (congrArg Int32.toInt (show G_227.1 66 20 = (G_27.1 66 20) from ((hq_228.i9 66 20 rfl rfl).trans ((hq_158.i9 66 20 rfl rfl).trans ((hq_138.i9 66 20 rfl rfl).trans ((hq_129.i9 66 20 rfl rfl).trans (rfl)))))))
              have g_235 : (G_227.1 66 23).toInt = (G_27.1 66 23).toInt := (congrArg Int32.toInt (show G_227.1 66 23 = (G_27.1 66 23) from ((hq_228.i9 66 23 rfl rfl).trans ((hq_158.i9 66 23 rfl rfl).trans ((hq_138.i9 66 23 rfl rfl).trans ((hq_129.i9 66 23 rfl rfl).trans (rfl)))))))
              have fr_236 : Fr [] [] G_27 G_227 := (Fr.call9 (rs := []) (fs := []) (Fr.call9 (rs := []) (fs := []) (Fr.call9 (rs := []) (fs := []) (Fr.call9 (rs := []) (fs := []) Fr.rf hq_129 rfl rfl) hq_138 rfl rfl) hq_158 rfl rfl) hq_228 rfl rfl)
              have g_237 : gB G_227 = gB G_27 := gB_fr fr_236 (gr_q rfl) (gf_q rfl)
              have g_238 : gC G_227 = gC G_27 := gC_fr fr_236 (gr_q rfl) (gf_q rfl)
              have g_239 : gD G_227 = gD G_27 := gD_fr fr_236 (gr_q rfl) (gf_q rfl)
              have g_240 : gM G_227 = gM G_27 := gM_fr fr_236 (gr_q rfl) (gf_q rfl)
              have g_241 : (G_227.1 66 2).toInt = (G_27.1 66 2).toInt := (congrArg Int32.toInt (show G_227.1 66 2 = (G_27.1 66 2) from ((hq_228.i9 66 2 rfl rfl).trans ((hq_158.i9 66 2 rfl rfl).trans ((hq_138.i9 66 2 rfl rfl).trans ((hq_129.i9 66 2 rfl rfl).trans (rfl)))))))
              have g_242 : (G_227.1 66 20).toInt = (G_27.1 66 20).toInt := (congrArg Int32.toInt (show G_227.1 66 20 = (G_27.1 66 20) from ((hq_228.i9 66 20 rfl rfl).trans ((hq_158.i9 66 20 rfl rfl).trans ((hq_138.i9 66 20 rfl rfl).trans ((hq_129.i9 66 20 rfl rfl).trans (rfl)))))))
              have g_243 : (G_227.1 66 23).toInt = (G_27.1 66 23).toInt := (congrArg Int32.toInt (show G_227.1 66 23 = (G_27.1 66 23) from ((hq_228.i9 66 23 rfl rfl).trans ((hq_158.i9 66 23 rfl rfl).trans ((hq_138.i9 66 23 rfl rfl).trans ((hq_129.i9 66 23 rfl rfl).trans (rfl)))))))
              have g_244 : (G_227.1 66 24).toInt = (G_27.1 66 24).toInt := (congrArg Int32.toInt (show G_227.1 66 24 = (G_27.1 66 24) from ((hq_228.i9 66 24 rfl rfl).trans ((hq_158.i9 66 24 rfl rfl).trans ((hq_138.i9 66 24 rfl rfl).trans ((hq_129.i9 66 24 rfl rfl).trans (rfl)))))))
              have g_245 : (G_227.1 66 4).toInt = (G_27.1 66 4).toInt := (congrArg Int32.toInt (show G_227.1 66 4 = (G_27.1 66 4) from ((hq_228.i9 66 4 rfl rfl).trans ((hq_158.i9 66 4 rfl rfl).trans ((hq_138.i9 66 4 rfl rfl).trans ((hq_129.i9 66 4 rfl rfl).trans (rfl)))))))
              have g_246 : (G_227.1 66 6).toInt = (G_27.1 66 6).toInt := (congrArg Int32.toInt (show G_227.1 66 6 = (G_27.1 66 6) from ((hq_228.i9 66 6 rfl rfl).trans ((hq_158.i9 66 6 rfl rfl).trans ((hq_138.i9 66 6 rfl rfl).trans ((hq_129.i9 66 6 rfl rfl).trans (rfl)))))))
              have qc_247 : (0 : Int32).toInt = 0 := rfl
              exact ih_29 (4000 - 1000 * (G_227.1 66 2).toInt + 100 * (40 - (G_227.1 66 23).toInt) + (G_227.1 66 20).toInt + 0 : Int).toNat (by omega) _ _ _ ⟨G_227, 0, (Int.toNat_of_nonneg (by omega)), ⟨by omega, by omega⟩, (by omega), (by omega), (hX_32.st (St_n_formula_1_mk ⟨x_31, G_27, 0, G_227, rfl, rfl, f_39, f_40, f_41, hB_G_27, ⟨c_125, ⟨c_126, ⟨r_127, G_128, hX_131, (Or.inr ⟨G_136, hX_139, hB_G_136, hq_138, (Or.inr ⟨c_140, ⟨r_156, G_157, hX_160, (Or.inl ⟨c_225, ⟨r_226, G_227, hX_230, ⟨c_232, ⟨rfl, rfl⟩⟩⟩⟩)⟩⟩)⟩)⟩⟩⟩⟩)), hW, hB_G_227, hF, (Fr.call9 (rs := [69, 70, 71, 75]) (fs := [(66, 2), (66, 3), (66, 4), (66, 6), (66, 7), (66, 8), (66, 9), (66, 20), (66, 21), (66, 23), (66, 24)]) (Fr.call9 (rs := [69, 70, 71, 75]) (fs := [(66, 2), (66, 3), (66, 4), (66, 6), (66, 7), (66, 8), (66, 9), (66, 20), (66, 21), (66, 23), (66, 24)]) (Fr.call9 (rs := [69, 70, 71, 75]) (fs := [(66, 2), (66, 3), (66, 4), (66, 6), (66, 7), (66, 8), (66, 9), (66, 20), (66, 21), (66, 23), (66, 24)]) (Fr.call9 (rs := [69, 70, 71, 75]) (fs := [(66, 2), (66, 3), (66, 4), (66, 6), (66, 7), (66, 8), (66, 9), (66, 20), (66, 21), (66, 23), (66, 24)]) (Fr.call9 (rs := [69, 70, 71, 75]) (fs := [(66, 2), (66, 3), (66, 4), (66, 6), (66, 7), (66, 8), (66, 9), (66, 20), (66, 21), (66, 23), (66, 24)]) Fr.rf hq_28 rfl rfl) hq_129 rfl rfl) hq_138 rfl rfl) hq_158 rfl rfl) hq_228 rfl rfl), hS, lv_sub hl [0, 2] rfl⟩
            · have c_232 : r_226.toInt = 0 := xI_eq rfl rfl c_232
              exact hJ_166 () _ _ _ ⟨G_227, (Jn_n_formula_4_mk (Or.inl ⟨c_225, ⟨r_226, G_227, hX_230, ⟨c_232, rfl⟩⟩⟩)), hW, hB_G_227, hF, (Fr.call9 (rs := []) (fs := []) Fr.rf hq_228 rfl rfl), hS, lv_sub hl [0, 1, 2] rfl⟩
      refine lv_icmp_ne (tgt := 100) hx hb dX12_formula_58 rfl (fun c_248 => ?_) (fun c_248 => ?_)
      · have c_248 : (G_27.1 66 6).toInt ≠ 41 := xI_ne rfl rfl c_248
        exact hJ_137 () _ _ _ ⟨G_128, (Jn_n_formula_3_mk (Or.inr ⟨c_248, rfl⟩)), hW, hB_G_128, hF, (Fr.rf (rs := []) (fs := [])), hS, lv_sub hl [0, 1, 2] rfl⟩
      · have c_248 : (G_27.1 66 6).toInt = 41 := xI_eq rfl rfl c_248
        refine lv_aload_n hx hb dX12_formula_61 rfl (lv_at hl 2 rfl) ?_
        have fr_249 : Fr [] [] G_27 G_128 := (Fr.call9 (rs := []) (fs := []) Fr.rf hq_129 rfl rfl)
        have g_250 : gK G_128 = gK G_27 := gK_fr fr_249 (gr_q rfl) (gf_q rfl)
        refine S_calli (va_runV (As := []) (rest := []) ⟨hx, hb, hml, hown, hts⟩ (n_hasBracket l D k A a z G_128  ) (cwV 0 hts (gd_V hgd m1749 m1751 m78 m131 m1752) rfl rfl rfl hd_X12_hasBracket ⟨Nat.le_of_ble_eq_true rfl, Nat.le_of_ble_eq_true rfl⟩) (pre_V hW hB_G_128 hK hZ hS kd_66 rfl) rfl rfl hl.1 rfl (lv_room (Nat.le_of_ble_eq_true rfl)) dX12_formula_62 ⟨Nat.le_of_ble_eq_true rfl, Nat.le_of_ble_eq_true rfl⟩) hS (fun r_251 G_252 H locs hpo hW hS => ?_)
        have hX_255 : Q_hasBracket G_128 r_251 G_252 := hpo
        obtain ⟨hB_G_252, hq_253, f_256, hp_254, -⟩ := hpo
        have hF := hF.call9 hq_253 rfl rfl
        refine lv_if_eq (tgt := 100) hx hb dX12_formula_65 rfl (fun c_257 => ?_) (fun c_257 => ?_)
        · have c_257 : r_251.toInt = 0 := xI_eq rfl rfl c_257
          exact hJ_137 () _ _ _ ⟨G_252, (Jn_n_formula_3_mk (Or.inl ⟨c_248, ⟨r_251, G_252, hX_255, ⟨c_257, rfl⟩⟩⟩)), hW, hB_G_252, hF, (Fr.call9 (rs := []) (fs := []) Fr.rf hq_253 rfl rfl), hS, lv_sub hl [0, 1, 2] rfl⟩
        · have c_257 : r_251.toInt ≠ 0 := xI_ne rfl rfl c_257
          refine lv_aload_n hx hb dX12_formula_68 rfl (lv_at hl 2 rfl) ?_
          refine ic_0 hx hb dX12_formula_69 ?_
          have fr_258 : Fr [] [] G_27 G_252 := (Fr.call9 (rs := []) (fs := []) (Fr.call9 (rs := []) (fs := []) Fr.rf hq_129 rfl rfl) hq_253 rfl rfl)
          have g_259 : gB G_252 = gB G_27 := gB_fr fr_258 (gr_q rfl) (gf_q rfl)
          have g_260 : gC G_252 = gC G_27 := gC_fr fr_258 (gr_q rfl) (gf_q rfl)
          have g_261 : gD G_252 = gD G_27 := gD_fr fr_258 (gr_q rfl) (gf_q rfl)
          have g_262 : gM G_252 = gM G_27 := gM_fr fr_258 (gr_q rfl) (gf_q rfl)
          have g_263 : (G_252.1 66 20).toInt = (G_27.1 66 20).toInt := (congrArg Int32.toInt (show G_252.1 66 20 = (G_27.1 66 20) from ((hq_253.i9 66 20 rfl rfl).trans ((hq_129.i9 66 20 rfl rfl).trans (rfl)))))
          have g_264 : (G_252.1 66 24).toInt = (G_27.1 66 24).toInt := (congrArg Int32.toInt (show G_252.1 66 24 = (G_27.1 66 24) from ((hq_253.i9 66 24 rfl rfl).trans ((hq_129.i9 66 24 rfl rfl).trans (rfl)))))
          have qc_265 : (0 : Int32).toInt = 0 := rfl
          have g_266 : gK G_252 = gK G_27 := gK_fr fr_258 (gr_q rfl) (gf_q rfl)
          have g_267 : (G_252.1 66 20).toInt = (G_27.1 66 20).toInt := (congrArg Int32.toInt (show G_252.1 66 20 = (G_27.1 66 20) from ((hq_253.i9 66 20 rfl rfl).trans ((hq_129.i9 66 20 rfl rfl).trans (rfl)))))
          have g_268 : (G_252.1 66 24).toInt = (G_27.1 66 24).toInt := (congrArg Int32.toInt (show G_252.1 66 24 = (G_27.1 66 24) from ((hq_253.i9 66 24 rfl rfl).trans ((hq_129.i9 66 24 rfl rfl).trans (rfl)))))
          refine S_callv (va_runV (As := [.int 0]) (rest := []) ⟨hx, hb, hml, hown, hts⟩ (n_close l D k A a z G_252 0 (by omega)) (cwV 1 hts (gd_V hgd m1753 m1755 m79 m131 m1756) rfl rfl rfl hd_X12_close ⟨Nat.le_of_ble_eq_true rfl, Nat.le_of_ble_eq_true rfl⟩) (pre_V hW hB_G_252 hK hZ hS kd_66 rfl) rfl rfl hl.1 rfl (lv_room (Nat.le_of_ble_eq_true rfl)) dX12_formula_70 ⟨Nat.le_of_ble_eq_true rfl, Nat.le_of_ble_eq_true rfl⟩) hS (fun G_270 H locs hpo hW hS => ?_)
          have hX_273 : Q_close 0 G_252 G_270 := hpo
          obtain ⟨hB_G_270, hq_271, hp_272, -⟩ := hpo
          have hF := hF.call9 hq_271 rfl rfl
          have b_274 : 0 ≤ (G_270.1 66 20).toInt ∧ (G_270.1 66 20).toInt ≤ 160 := bd_66_20 hB_G_270
          have u_275 := gh_pos (G := G_270) (by omega)
          refine lv_aload_n hx hb dX12_formula_73 rfl (lv_at hl 2 rfl) ?_
          refine lv_dup hx hb dX12_formula_74 rfl ?_
          refine S_getI (v := (G_270.1 66 20)) (C := RX12) (T := TX12) (N := 89) hx hb hg iX12 hown hK hW kd_66 rfl 20 (lt_b rfl) (hg (Cond.fieldLink RX12 299 "SlabWalkModel" "opens" "I") m1334) (fun _ h9 => h9) rfl rfl dX12_formula_75 ?_
          refine ic_1 hx hb dX12_formula_78 ?_
          refine lv_isub hx hb dX12_formula_79 ?_
          refine lv_topi (fun y_276 ey_276 => ?_)
          have ty_276 : y_276.toInt = (G_270.1 66 20).toInt - 1 := xI_sub rfl rfl ey_276 (by omega) (by omega)
          refine S_putI (ty := .int) (C := RX12) (T := TX12) (N := 89) hx hb hg iX12 tyX12 tyX12_ok nmX12 hown hK hW hS kd_66 rfl 20 (lt_b rfl) (hg (Cond.fieldLink RX12 299 "SlabWalkModel" "opens" "I") m1334) (fun _ h9 => h9) rfl (by decide +kernel) rfl rfl rfl dX12_formula_80 (fun G_277 H locs eG_277 hW hS => ?_)
          have hB_G_277 : Bd G_277 := hB_G_270.put (V := y_276.toInt) (lo := 0) (hi := 160) eG_277 rfl rfl rfl (by omega) (by omega) (hB_G_270.2.put eG_277 rfl)
          have hF := hF.put eG_277 (Or.inr (by decide))
          have u_278 := gh_pop eG_277 (by omega) (by omega)
          have g_279 : (G_277.1 66 20).toInt = y_276.toInt := (congrArg Int32.toInt (show G_277.1 66 20 = y_276 from (gp_eq eG_277)))
          have u_280 := gh_pos (G := G_277) (by omega)
          refine lv_aload_n hx hb dX12_formula_83 rfl (lv_at hl 2 rfl) ?_
          refine lv_dup hx hb dX12_formula_84 rfl ?_
          have b_281 : (-1) ≤ (G_270.1 66 24).toInt ∧ (G_270.1 66 24).toInt ≤ 200 := bd_66_24 hB_G_270
          refine S_getI (v := (G_270.1 66 24)) (C := RX12) (T := TX12) (N := 89) hx hb hg iX12 hown hK hW kd_66 rfl 24 (lt_b rfl) (hg (Cond.fieldLink RX12 309 "SlabWalkModel" "deep" "I") m1338) (fun _ h9 => h9) rfl (gp_ne eG_277 (by decide)) dX12_formula_85 ?_
          refine ic_1 hx hb dX12_formula_88 ?_
          refine lv_isub hx hb dX12_formula_89 ?_
          refine lv_topi (fun y_282 ey_282 => ?_)
          have ty_282 : y_282.toInt = (G_270.1 66 24).toInt - 1 := xI_sub rfl rfl ey_282 (by omega) (by omega)
          refine S_putI (ty := .int) (C := RX12) (T := TX12) (N := 89) hx hb hg iX12 tyX12 tyX12_ok nmX12 hown hK hW hS kd_66 rfl 24 (lt_b rfl) (hg (Cond.fieldLink RX12 309 "SlabWalkModel" "deep" "I") m1338) (fun _ h9 => h9) rfl (by decide +kernel) rfl rfl rfl dX12_formula_90 (fun G_283 H locs eG_283 hW hS => ?_)
          have hB_G_283 : Bd G_283 := hB_G_277.put (V := y_282.toInt) (lo := (-1)) (hi := 200) eG_283 rfl rfl rfl (by omega) (by omega) (hB_G_277.2.put eG_283 rfl)
          have hF := hF.put eG_283 (Or.inr (by decide))
          refine lv_aload_n hx hb dX12_formula_93 rfl (lv_at hl 2 rfl) ?_
          have g_284 : (G_283.1 66 4).toInt = (G_27.1 66 4).toInt := (congrArg Int32.toInt (show G_283.1 66 4 = (G_27.1 66 4) from ((gp_ne eG_283 (by decide)).trans ((gp_ne eG_277 (by decide)).trans ((hq_271.i9 66 4 rfl rfl).trans ((hq_253.i9 66 4 rfl rfl).trans ((hq_129.i9 66 4 rfl rfl).trans (rfl))))))))
          have g_285 : (G_283.1 66 6).toInt = (G_27.1 66 6).toInt := (congrArg Int32.toInt (show G_283.1 66 6 = (G_27.1 66 6) from ((gp_ne eG_283 (by decide)).trans ((gp_ne eG_277 (by decide)).trans ((hq_271.i9 66 6 rfl rfl).trans ((hq_253.i9 66 6 rfl rfl).trans ((hq_129.i9 66 6 rfl rfl).trans (rfl))))))))
          refine S_callv (va_runV (As := []) (rest := []) ⟨hx, hb, hml, hown, hts⟩ (n_token l D k A a z G_283  ) (cwV 0 hts (gd_V hgd m1602 m1604 m50 m131 m1605) rfl rfl rfl hd_X12_token ⟨Nat.le_of_ble_eq_true rfl, Nat.le_of_ble_eq_true rfl⟩) (pre_V hW hB_G_283 hK hZ hS kd_66 rfl) rfl rfl hl.1 rfl (lv_room (Nat.le_of_ble_eq_true rfl)) dX12_formula_94 ⟨Nat.le_of_ble_eq_true rfl, Nat.le_of_ble_eq_true rfl⟩) hS (fun G_287 H locs hpo hW hS => ?_)
          have hX_290 : Q_token G_283 G_287 := hpo
          obtain ⟨hB_G_287, hq_288, hp_289, -⟩ := hpo
          have hF := hF.call9 hq_288 rfl rfl
          refine lv_goto (tgt := 160) hx hb dX12_formula_97 rfl ?_
          refine lv_goto (tgt := 36) hx hb dX12_formula_160 rfl ?_
          have g_291 : (G_287.1 66 2).toInt = (G_27.1 66 2).toInt := (congrArg Int32.toInt (show G_287.1 66 2 = (G_27.1 66 2) from ((hq_288.i9 66 2 rfl rfl).trans ((gp_ne eG_283 (by decide)).trans ((gp_ne eG_277 (by decide)).trans ((hq_271.i9 66 2 rfl rfl).trans ((hq_253.i9 66 2 rfl rfl).trans ((hq_129.i9 66 2 rfl rfl).trans (rfl)))))))))
          have g_292 : (G_287.1 66 20).toInt = y_276.toInt := (congrArg Int32.toInt (show G_287.1 66 20 = y_276 from ((hq_288.i9 66 20 rfl rfl).trans ((gp_ne eG_283 (by decide)).trans (gp_eq eG_277)))))
          have g_293 : (G_287.1 66 23).toInt = (G_27.1 66 23).toInt := (congrArg Int32.toInt (show G_287.1 66 23 = (G_27.1 66 23) from ((hq_288.i9 66 23 rfl rfl).trans ((gp_ne eG_283 (by decide)).trans ((gp_ne eG_277 (by decide)).trans ((hq_271.i9 66 23 rfl rfl).trans ((hq_253.i9 66 23 rfl rfl).trans ((hq_129.i9 66 23 rfl rfl).trans (rfl)))))))))
          have fr_294 : Fr [] [(66, 4), (66, 6), (66, 7), (66, 8), (66, 9), (66, 24)] G_277 G_287 := (Fr.call9 (rs := []) (fs := [(66, 4), (66, 6), (66, 7), (66, 8), (66, 9), (66, 24)]) (Fr.put (rs := []) (fs := [(66, 4), (66, 6), (66, 7), (66, 8), (66, 9), (66, 24)]) Fr.rf eG_283 (Or.inr (by decide))) hq_288 rfl rfl)
          have g_295 : gB G_287 = gB G_277 := gB_fr fr_294 (gr_q rfl) (gf_q rfl)
          have fr_296 : Fr [] [(66, 4), (66, 6), (66, 7), (66, 8), (66, 9), (66, 20), (66, 24)] G_270 G_287 := (Fr.call9 (rs := []) (fs := [(66, 4), (66, 6), (66, 7), (66, 8), (66, 9), (66, 20), (66, 24)]) (Fr.put (rs := []) (fs := [(66, 4), (66, 6), (66, 7), (66, 8), (66, 9), (66, 20), (66, 24)]) (Fr.put (rs := []) (fs := [(66, 4), (66, 6), (66, 7), (66, 8), (66, 9), (66, 20), (66, 24)]) Fr.rf eG_277 (Or.inr (by decide))) eG_283 (Or.inr (by decide))) hq_288 rfl rfl)
          have g_297 : gC G_287 = gC G_270 := gC_fr fr_296 (gr_q rfl) (gf_q rfl)
          have g_298 : gD G_287 = gD G_270 := gD_fr fr_296 (gr_q rfl) (gf_q rfl)
          have g_299 : gM G_287 = gM G_270 := gM_fr fr_296 (gr_q rfl) (gf_q rfl)
          have g_300 : (G_287.1 66 2).toInt = (G_27.1 66 2).toInt := (congrArg Int32.toInt (show G_287.1 66 2 = (G_27.1 66 2) from ((hq_288.i9 66 2 rfl rfl).trans ((gp_ne eG_283 (by decide)).trans ((gp_ne eG_277 (by decide)).trans ((hq_271.i9 66 2 rfl rfl).trans ((hq_253.i9 66 2 rfl rfl).trans ((hq_129.i9 66 2 rfl rfl).trans (rfl)))))))))
          have g_301 : (G_287.1 66 20).toInt = y_276.toInt := (congrArg Int32.toInt (show G_287.1 66 20 = y_276 from ((hq_288.i9 66 20 rfl rfl).trans ((gp_ne eG_283 (by decide)).trans (gp_eq eG_277)))))
          have g_302 : (G_287.1 66 23).toInt = (G_27.1 66 23).toInt := (congrArg Int32.toInt (show G_287.1 66 23 = (G_27.1 66 23) from ((hq_288.i9 66 23 rfl rfl).trans ((gp_ne eG_283 (by decide)).trans ((gp_ne eG_277 (by decide)).trans ((hq_271.i9 66 23 rfl rfl).trans ((hq_253.i9 66 23 rfl rfl).trans ((hq_129.i9 66 23 rfl rfl).trans (rfl)))))))))
          have g_303 : (G_287.1 66 24).toInt = y_282.toInt := (congrArg Int32.toInt (show G_287.1 66 24 = y_282 from ((hq_288.i9 66 24 rfl rfl).trans (gp_eq eG_283))))
          have b_304 : 0 ≤ (G_287.1 66 4).toInt ∧ (G_287.1 66 4).toInt ≤ 1600 := bd_66_4 hB_G_287
          exact ih_29 (4000 - 1000 * (G_287.1 66 2).toInt + 100 * (40 - (G_287.1 66 23).toInt) + (G_287.1 66 20).toInt + x_31.toInt : Int).toNat (by omega) _ _ _ ⟨G_287, x_31, (Int.toNat_of_nonneg (by omega)), ⟨by omega, by omega⟩, (by omega), (by omega), (hX_32.st (St_n_formula_1_mk ⟨x_31, G_27, x_31, G_287, rfl, rfl, f_39, f_40, f_41, hB_G_27, ⟨c_125, ⟨c_126, ⟨r_127, G_128, hX_131, (Or.inl ⟨c_248, ⟨r_251, G_252, hX_255, ⟨c_257, ⟨G_270, hX_273, ⟨y_276, ty_276, ⟨y_282, ty_282, ⟨G_283, hB_G_283, (Fr.put (rs := []) (fs := [(66, 20), (66, 24)]) (Fr.put (rs := []) (fs := [(66, 20), (66, 24)]) Fr.rf eG_277 (Or.inr (by decide))) eG_283 (Or.inr (by decide))), ((gp_ne eG_283 (by decide)).trans (gp_eq eG_277)), (gp_eq eG_283), ⟨G_287, hX_290, ⟨rfl, rfl⟩⟩⟩⟩⟩⟩⟩⟩⟩)⟩⟩⟩⟩)), hW, hB_G_287, hF, (Fr.call9 (rs := [69, 70, 71, 75]) (fs := [(66, 2), (66, 3), (66, 4), (66, 6), (66, 7), (66, 8), (66, 9), (66, 20), (66, 21), (66, 23), (66, 24)]) (Fr.put (rs := [69, 70, 71, 75]) (fs := [(66, 2), (66, 3), (66, 4), (66, 6), (66, 7), (66, 8), (66, 9), (66, 20), (66, 21), (66, 23), (66, 24)]) (Fr.put (rs := [69, 70, 71, 75]) (fs := [(66, 2), (66, 3), (66, 4), (66, 6), (66, 7), (66, 8), (66, 9), (66, 20), (66, 21), (66, 23), (66, 24)]) (Fr.call9 (rs := [69, 70, 71, 75]) (fs := [(66, 2), (66, 3), (66, 4), (66, 6), (66, 7), (66, 8), (66, 9), (66, 20), (66, 21), (66, 23), (66, 24)]) (Fr.call9 (rs := [69, 70, 71, 75]) (fs := [(66, 2), (66, 3), (66, 4), (66, 6), (66, 7), (66, 8), (66, 9), (66, 20), (66, 21), (66, 23), (66, 24)]) (Fr.call9 (rs := [69, 70, 71, 75]) (fs := [(66, 2), (66, 3), (66, 4), (66, 6), (66, 7), (66, 8), (66, 9), (66, 20), (66, 21), (66, 23), (66, 24)]) (Fr.call9 (rs := [69, 70, 71, 75]) (fs := [(66, 2), (66, 3), (66, 4), (66, 6), (66, 7), (66, 8), (66, 9), (66, 20), (66, 21), (66, 23), (66, 24)]) Fr.rf hq_28 rfl rfl) hq_129 rfl rfl) hq_253 rfl rfl) hq_271 rfl rfl) eG_277 (Or.inr (by decide))) eG_283 (Or.inr (by decide))) hq_288 rfl rfl), hS, lv_sub hl [1, 2] rfl⟩
