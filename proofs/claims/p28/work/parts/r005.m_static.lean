theorem m1788 : Cond.methodLink RX12 348 yX12_truth ∈ gd := gdc_7_14 8 rfl gw_methodLink
theorem m1789 : Cond.static yX12_truth ∈ gd := gdc_7_14 9 rfl gw_static
theorem m1790 : Cond.code yX12_truth cX12_truth 1 (some .int) ∈ gd := gdc_7_14 10 rfl gw_code
theorem dX12_done_1 : decode cX12_done 1 = .ok (.tableswitch 214 37 62 #[143, 197, 214, 214, 214, 127, 119, 214, 123, 214, 131, 214, 214, 214, 214, 214, 214, 214, 214, 214, 214, 214, 214, 155, 183, 169], 119) := dq_of (by decide +kernel)
noncomputable def rbX12_done_0 : List (Nat × List Nat) := [(0, [26]), (120, [27]), (121, [28]), (122, [96]), (123, [172]), (124, [27]), (125, [28]), (126, [100]), (127, [172]), (128, [27]), (129, [28]), (130, [104]), (131, [172]), (132, [28]), (133, [154, 0, 7]), (136, [3]), (137, [167, 0, 6]), (140, [27]), (141, [28]), (142, [108]), (143, [172]), (144, [28]), (145, [154, 0, 7]), (148, [3])]
theorem rcX12_done_0 : dgo (lb cX12_done) 0 rbX12_done_0 = true := by decide +kernel
theorem dX12_done_0 : decode cX12_done 0 = .ok (.iload_n 0, 1) := dk_26 (dw rcX12_done_0 0 rfl)
theorem dX12_done_120 : decode cX12_done 120 = .ok (.iload_n 1, 1) := dk_27 (dw rcX12_done_0 1 rfl)
theorem dX12_done_121 : decode cX12_done 121 = .ok (.iload_n 2, 1) := dk_28 (dw rcX12_done_0 2 rfl)
theorem dX12_done_122 : decode cX12_done 122 = .ok (.iadd, 1) := dk_96 (dw rcX12_done_0 3 rfl)
theorem dX12_done_123 : decode cX12_done 123 = .ok (.ireturn, 1) := dk_172 (dw rcX12_done_0 4 rfl)
theorem dX12_done_124 : decode cX12_done 124 = .ok (.iload_n 1, 1) := dk_27 (dw rcX12_done_0 5 rfl)
theorem dX12_done_125 : decode cX12_done 125 = .ok (.iload_n 2, 1) := dk_28 (dw rcX12_done_0 6 rfl)
theorem dX12_done_126 : decode cX12_done 126 = .ok (.isub, 1) := dk_100 (dw rcX12_done_0 7 rfl)
theorem dX12_done_127 : decode cX12_done 127 = .ok (.ireturn, 1) := dk_172 (dw rcX12_done_0 8 rfl)
theorem dX12_done_128 : decode cX12_done 128 = .ok (.iload_n 1, 1) := dk_27 (dw rcX12_done_0 9 rfl)
theorem dX12_done_129 : decode cX12_done 129 = .ok (.iload_n 2, 1) := dk_28 (dw rcX12_done_0 10 rfl)
theorem dX12_done_130 : decode cX12_done 130 = .ok (.imul, 1) := dk_104 (dw rcX12_done_0 11 rfl)
theorem dX12_done_131 : decode cX12_done 131 = .ok (.ireturn, 1) := dk_172 (dw rcX12_done_0 12 rfl)
theorem dX12_done_132 : decode cX12_done 132 = .ok (.iload_n 2, 1) := dk_28 (dw rcX12_done_0 13 rfl)
theorem dX12_done_133 : decode cX12_done 133 = .ok (.ifCond .ne 7, 3) := dk_154 (dw rcX12_done_0 14 rfl) rfl
theorem dX12_done_136 : decode cX12_done 136 = .ok (.iconst 0, 1) := dk_3 (dw rcX12_done_0 15 rfl)
theorem dX12_done_137 : decode cX12_done 137 = .ok (.goto 6, 3) := dk_167 (dw rcX12_done_0 16 rfl) rfl
theorem dX12_done_140 : decode cX12_done 140 = .ok (.iload_n 1, 1) := dk_27 (dw rcX12_done_0 17 rfl)
theorem dX12_done_141 : decode cX12_done 141 = .ok (.iload_n 2, 1) := dk_28 (dw rcX12_done_0 18 rfl)
theorem dX12_done_142 : decode cX12_done 142 = .ok (.idiv, 1) := dk_108 (dw rcX12_done_0 19 rfl)
theorem dX12_done_143 : decode cX12_done 143 = .ok (.ireturn, 1) := dk_172 (dw rcX12_done_0 20 rfl)
theorem dX12_done_144 : decode cX12_done 144 = .ok (.iload_n 2, 1) := dk_28 (dw rcX12_done_0 21 rfl)
theorem dX12_done_145 : decode cX12_done 145 = .ok (.ifCond .ne 7, 3) := dk_154 (dw rcX12_done_0 22 rfl) rfl
theorem dX12_done_148 : decode cX12_done 148 = .ok (.iconst 0, 1) := dk_3 (dw rcX12_done_0 23 rfl)
noncomputable def rbX12_done_149 : List (Nat × List Nat) := [(149, [167, 0, 6]), (152, [27]), (153, [28]), (154, [112]), (155, [172]), (156, [27]), (157, [28]), (158, [162, 0, 7]), (161, [4]), (162, [167, 0, 4]), (165, [3]), (166, [184, 1, 92]), (169, [172]), (170, [27]), (171, [28]), (172, [164, 0, 7]), (175, [4]), (176, [167, 0, 4]), (179, [3]), (180, [184, 1, 92]), (183, [172]), (184, [27]), (185, [28]), (186, [160, 0, 7])]
theorem rcX12_done_149 : dgo (lb cX12_done) 0 rbX12_done_149 = true := by decide +kernel
theorem dX12_done_149 : decode cX12_done 149 = .ok (.goto 6, 3) := dk_167 (dw rcX12_done_149 0 rfl) rfl
theorem dX12_done_152 : decode cX12_done 152 = .ok (.iload_n 1, 1) := dk_27 (dw rcX12_done_149 1 rfl)
theorem dX12_done_153 : decode cX12_done 153 = .ok (.iload_n 2, 1) := dk_28 (dw rcX12_done_149 2 rfl)
theorem dX12_done_154 : decode cX12_done 154 = .ok (.irem, 1) := dk_112 (dw rcX12_done_149 3 rfl)
theorem dX12_done_155 : decode cX12_done 155 = .ok (.ireturn, 1) := dk_172 (dw rcX12_done_149 4 rfl)
theorem dX12_done_156 : decode cX12_done 156 = .ok (.iload_n 1, 1) := dk_27 (dw rcX12_done_149 5 rfl)
theorem dX12_done_157 : decode cX12_done 157 = .ok (.iload_n 2, 1) := dk_28 (dw rcX12_done_149 6 rfl)
theorem dX12_done_158 : decode cX12_done 158 = .ok (.if_icmp .ge 7, 3) := dk_162 (dw rcX12_done_149 7 rfl) rfl
theorem dX12_done_161 : decode cX12_done 161 = .ok (.iconst 1, 1) := dk_4 (dw rcX12_done_149 8 rfl)
theorem dX12_done_162 : decode cX12_done 162 = .ok (.goto 4, 3) := dk_167 (dw rcX12_done_149 9 rfl) rfl
theorem dX12_done_165 : decode cX12_done 165 = .ok (.iconst 0, 1) := dk_3 (dw rcX12_done_149 10 rfl)
theorem dX12_done_166 : decode cX12_done 166 = .ok (.invokestatic 348, 3) := dk_184 (dw rcX12_done_149 11 rfl) rfl
theorem dX12_done_169 : decode cX12_done 169 = .ok (.ireturn, 1) := dk_172 (dw rcX12_done_149 12 rfl)
theorem dX12_done_170 : decode cX12_done 170 = .ok (.iload_n 1, 1) := dk_27 (dw rcX12_done_149 13 rfl)
theorem dX12_done_171 : decode cX12_done 171 = .ok (.iload_n 2, 1) := dk_28 (dw rcX12_done_149 14 rfl)
theorem dX12_done_172 : decode cX12_done 172 = .ok (.if_icmp .le 7, 3) := dk_164 (dw rcX12_done_149 15 rfl) rfl
theorem dX12_done_175 : decode cX12_done 175 = .ok (.iconst 1, 1) := dk_4 (dw rcX12_done_149 16 rfl)
theorem dX12_done_176 : decode cX12_done 176 = .ok (.goto 4, 3) := dk_167 (dw rcX12_done_149 17 rfl) rfl
theorem dX12_done_179 : decode cX12_done 179 = .ok (.iconst 0, 1) := dk_3 (dw rcX12_done_149 18 rfl)
theorem dX12_done_180 : decode cX12_done 180 = .ok (.invokestatic 348, 3) := dk_184 (dw rcX12_done_149 19 rfl) rfl
theorem dX12_done_183 : decode cX12_done 183 = .ok (.ireturn, 1) := dk_172 (dw rcX12_done_149 20 rfl)
theorem dX12_done_184 : decode cX12_done 184 = .ok (.iload_n 1, 1) := dk_27 (dw rcX12_done_149 21 rfl)
theorem dX12_done_185 : decode cX12_done 185 = .ok (.iload_n 2, 1) := dk_28 (dw rcX12_done_149 22 rfl)
theorem dX12_done_186 : decode cX12_done 186 = .ok (.if_icmp .ne 7, 3) := dk_160 (dw rcX12_done_149 23 rfl) rfl
noncomputable def rbX12_done_189 : List (Nat × List Nat) := [(189, [4]), (190, [167, 0, 4]), (193, [3]), (194, [184, 1, 92]), (197, [172]), (198, [27]), (199, [153, 0, 11]), (202, [28]), (203, [153, 0, 7]), (206, [4]), (207, [167, 0, 4]), (210, [3]), (211, [184, 1, 92]), (214, [172]), (215, [27]), (216, [154, 0, 7]), (219, [28]), (220, [153, 0, 7]), (223, [4]), (224, [167, 0, 4]), (227, [3]), (228, [184, 1, 92]), (231, [172])]
theorem rcX12_done_189 : dgo (lb cX12_done) 0 rbX12_done_189 = true := by decide +kernel
theorem dX12_done_189 : decode cX12_done 189 = .ok (.iconst 1, 1) := dk_4 (dw rcX12_done_189 0 rfl)
theorem dX12_done_190 : decode cX12_done 190 = .ok (.goto 4, 3) := dk_167 (dw rcX12_done_189 1 rfl) rfl
theorem dX12_done_193 : decode cX12_done 193 = .ok (.iconst 0, 1) := dk_3 (dw rcX12_done_189 2 rfl)
theorem dX12_done_194 : decode cX12_done 194 = .ok (.invokestatic 348, 3) := dk_184 (dw rcX12_done_189 3 rfl) rfl
theorem dX12_done_197 : decode cX12_done 197 = .ok (.ireturn, 1) := dk_172 (dw rcX12_done_189 4 rfl)
theorem dX12_done_198 : decode cX12_done 198 = .ok (.iload_n 1, 1) := dk_27 (dw rcX12_done_189 5 rfl)
theorem dX12_done_199 : decode cX12_done 199 = .ok (.ifCond .eq 11, 3) := dk_153 (dw rcX12_done_189 6 rfl) rfl
theorem dX12_done_202 : decode cX12_done 202 = .ok (.iload_n 2, 1) := dk_28 (dw rcX12_done_189 7 rfl)
theorem dX12_done_203 : decode cX12_done 203 = .ok (.ifCond .eq 7, 3) := dk_153 (dw rcX12_done_189 8 rfl) rfl
theorem dX12_done_206 : decode cX12_done 206 = .ok (.iconst 1, 1) := dk_4 (dw rcX12_done_189 9 rfl)
theorem dX12_done_207 : decode cX12_done 207 = .ok (.goto 4, 3) := dk_167 (dw rcX12_done_189 10 rfl) rfl
theorem dX12_done_210 : decode cX12_done 210 = .ok (.iconst 0, 1) := dk_3 (dw rcX12_done_189 11 rfl)
theorem dX12_done_211 : decode cX12_done 211 = .ok (.invokestatic 348, 3) := dk_184 (dw rcX12_done_189 12 rfl) rfl
theorem dX12_done_214 : decode cX12_done 214 = .ok (.ireturn, 1) := dk_172 (dw rcX12_done_189 13 rfl)
theorem dX12_done_215 : decode cX12_done 215 = .ok (.iload_n 1, 1) := dk_27 (dw rcX12_done_189 14 rfl)
theorem dX12_done_216 : decode cX12_done 216 = .ok (.ifCond .ne 7, 3) := dk_154 (dw rcX12_done_189 15 rfl) rfl
theorem dX12_done_219 : decode cX12_done 219 = .ok (.iload_n 2, 1) := dk_28 (dw rcX12_done_189 16 rfl)
theorem dX12_done_220 : decode cX12_done 220 = .ok (.ifCond .eq 7, 3) := dk_153 (dw rcX12_done_189 17 rfl) rfl
theorem dX12_done_223 : decode cX12_done 223 = .ok (.iconst 1, 1) := dk_4 (dw rcX12_done_189 18 rfl)
theorem dX12_done_224 : decode cX12_done 224 = .ok (.goto 4, 3) := dk_167 (dw rcX12_done_189 19 rfl) rfl
theorem dX12_done_227 : decode cX12_done 227 = .ok (.iconst 0, 1) := dk_3 (dw rcX12_done_189 20 rfl)
theorem dX12_done_228 : decode cX12_done 228 = .ok (.invokestatic 348, 3) := dk_184 (dw rcX12_done_189 21 rfl) rfl
theorem dX12_done_231 : decode cX12_done 231 = .ok (.ireturn, 1) := dk_172 (dw rcX12_done_189 22 rfl)
theorem dX12_tight_1 : decode cX12_tight 1 = .ok (.lookupswitch 85 #[(21, 79), (38, 77), (43, 83), (45, 83), (60, 81), (61, 81), (62, 81), (124, 75)], 75) := dq_of (by decide +kernel)
noncomputable def rbX12_tight_0 : List (Nat × List Nat) := [(0, [26]), (76, [4]), (77, [172]), (78, [5]), (79, [172]), (80, [6]), (81, [172]), (82, [7]), (83, [172]), (84, [8]), (85, [172]), (86, [16, 6]), (88, [172])]
theorem rcX12_tight_0 : dgo (lb cX12_tight) 0 rbX12_tight_0 = true := by decide +kernel
theorem dX12_tight_0 : decode cX12_tight 0 = .ok (.iload_n 0, 1) := dk_26 (dw rcX12_tight_0 0 rfl)
theorem dX12_tight_76 : decode cX12_tight 76 = .ok (.iconst 1, 1) := dk_4 (dw rcX12_tight_0 1 rfl)
theorem dX12_tight_77 : decode cX12_tight 77 = .ok (.ireturn, 1) := dk_172 (dw rcX12_tight_0 2 rfl)
theorem dX12_tight_78 : decode cX12_tight 78 = .ok (.iconst 2, 1) := dk_5 (dw rcX12_tight_0 3 rfl)
theorem dX12_tight_79 : decode cX12_tight 79 = .ok (.ireturn, 1) := dk_172 (dw rcX12_tight_0 4 rfl)
theorem dX12_tight_80 : decode cX12_tight 80 = .ok (.iconst 3, 1) := dk_6 (dw rcX12_tight_0 5 rfl)
theorem dX12_tight_81 : decode cX12_tight 81 = .ok (.ireturn, 1) := dk_172 (dw rcX12_tight_0 6 rfl)
theorem dX12_tight_82 : decode cX12_tight 82 = .ok (.iconst 4, 1) := dk_7 (dw rcX12_tight_0 7 rfl)
theorem dX12_tight_83 : decode cX12_tight 83 = .ok (.ireturn, 1) := dk_172 (dw rcX12_tight_0 8 rfl)
theorem dX12_tight_84 : decode cX12_tight 84 = .ok (.iconst 5, 1) := dk_8 (dw rcX12_tight_0 9 rfl)
theorem dX12_tight_85 : decode cX12_tight 85 = .ok (.ireturn, 1) := dk_172 (dw rcX12_tight_0 10 rfl)
theorem dX12_tight_86 : decode cX12_tight 86 = .ok (.bipush 6, 2) := dk_16 (dw rcX12_tight_0 11 rfl) rfl
theorem dX12_tight_88 : decode cX12_tight 88 = .ok (.ireturn, 1) := dk_172 (dw rcX12_tight_0 12 rfl)
noncomputable def rbX12_truth_0 : List (Nat × List Nat) := [(0, [26]), (1, [153, 0, 7]), (4, [4]), (5, [167, 0, 4]), (8, [3]), (9, [172])]
theorem rcX12_truth_0 : dgo (lb cX12_truth) 0 rbX12_truth_0 = true := by decide +kernel
theorem dX12_truth_0 : decode cX12_truth 0 = .ok (.iload_n 0, 1) := dk_26 (dw rcX12_truth_0 0 rfl)
theorem dX12_truth_1 : decode cX12_truth 1 = .ok (.ifCond .eq 7, 3) := dk_153 (dw rcX12_truth_0 1 rfl) rfl
theorem dX12_truth_4 : decode cX12_truth 4 = .ok (.iconst 1, 1) := dk_4 (dw rcX12_truth_0 2 rfl)
theorem dX12_truth_5 : decode cX12_truth 5 = .ok (.goto 4, 3) := dk_167 (dw rcX12_truth_0 3 rfl) rfl
theorem dX12_truth_8 : decode cX12_truth 8 = .ok (.iconst 0, 1) := dk_3 (dw rcX12_truth_0 4 rfl)
theorem dX12_truth_9 : decode cX12_truth 9 = .ok (.ireturn, 1) := dk_172 (dw rcX12_truth_0 5 rfl)
set_option maxHeartbeats 4000000 in
set_option maxRecDepth 100000 in
theorem n_tight (l : Launch) (D : va_G) (k : KT) (A : Nat → Prop) (a : Nat → Nat) (z : SK) (G : GS) (p0 : Int32)  : Met l yX12_tight (WS yX12_tight cX12_tight 1 (some .int)) ({ frames := 0, cells := 0, slots := 0, locals := 0 }) (va_Pc [.int p0] (cW D k A a z G)) (va_Qi (fun (r : Int32) (G1 : GS) => Q_tight p0 G r G1) (fun (G1 : GS) t => Wd D k A a G1 t.heap) A) 0 0 A := by
  refine Met.ofW (cc := cX12_tight) (maxL := 1) (ret := (some .int)) (by decide) rfl ?_
  intro p e s m args below meth c s₁ B hml hv
  obtain ⟨rfl, hW, hB_G, hK, hZ⟩ := hv
  have hx := B.exec
  have hb := B.bytes
  have hr := B.returns
  have hts := atoms_spec (ws := WS yX12_tight cX12_tight 1 (some .int)) B.pre
  have hgd : ∀ w ∈ gd, w ∈ WS yX12_tight cX12_tight 1 (some .int) := fun w h => List.mem_cons_of_mem _ h
  have hg : ∀ w ∈ gd, w.before _ s = true := fun w h => hts w (hgd w h)
  have hown : s.vm.findClass RX12 = some m.cls := findClass_of_methodNamed B.named
  have hS : va_S A s.heap s.heap [] := va_S.rf
  have hF : Fr [] [] G G := Fr.rf
  have hl := lv_entry ([.int p0]) (n := 1) (Nat.le_of_ble_eq_true rfl)
  rw [lg_entry_eq]
  generalize (lg_sl ([.int p0]) ++ List.replicate (1 - (lg_sl ([.int p0])).length) Slot.unset).toArray = ls at hl ⊢
  have hl : lv_has ls 1 [(0, .int p0)] := hl
  refine lv_iload_n hx hb dX12_tight_0 rfl (lv_at hl 0 rfl) ?_
  by_cases c_1 : p0 = 21
  · refine lv_lookup (tgt := 80) hx hb dX12_tight_1 (by decide) (off := 79) (by rw [c_1]; decide) (by decide) ?_
    have c_1 : p0.toInt = 21 := xI_eq rfl rfl c_1
    refine ic_3 hx hb dX12_tight_80 ?_
    exact W.iret (v := 3) hx hb hr (fun t ht _ => ⟨⟨3, G, rfl, (Q_tight_mk ⟨hB_G, hF, ⟨by decide, by decide⟩, (Or.inl ⟨c_1, ⟨rfl, rfl⟩⟩)⟩), wd_t ht hW⟩, hS.F ht⟩) hS.2.2 dX12_tight_81
  by_cases c_2 : p0 = 38
  · refine lv_lookup (tgt := 78) hx hb dX12_tight_1 (by decide) (off := 77) (by rw [c_2]; decide) (by decide) ?_
    have c_2 : p0.toInt = 38 := xI_eq rfl rfl c_2
    refine ic_2 hx hb dX12_tight_78 ?_
    exact W.iret (v := 2) hx hb hr (fun t ht _ => ⟨⟨2, G, rfl, (Q_tight_mk ⟨hB_G, hF, ⟨by decide, by decide⟩, (Or.inr ⟨(xI_ne (Y := 21) rfl rfl c_1), (Or.inl ⟨c_2, ⟨rfl, rfl⟩⟩)⟩)⟩), wd_t ht hW⟩, hS.F ht⟩) hS.2.2 dX12_tight_79
  by_cases c_3 : p0 = 43
  · refine lv_lookup (tgt := 84) hx hb dX12_tight_1 (by decide) (off := 83) (by rw [c_3]; decide) (by decide) ?_
    have c_3 : p0.toInt = 43 := xI_eq rfl rfl c_3
    refine ic_5 hx hb dX12_tight_84 ?_
    exact W.iret (v := 5) hx hb hr (fun t ht _ => ⟨⟨5, G, rfl, (Q_tight_mk ⟨hB_G, hF, ⟨by decide, by decide⟩, (Or.inr ⟨(xI_ne (Y := 21) rfl rfl c_1), (Or.inr ⟨(xI_ne (Y := 38) rfl rfl c_2), (Or.inl ⟨c_3, ⟨rfl, rfl⟩⟩)⟩)⟩)⟩), wd_t ht hW⟩, hS.F ht⟩) hS.2.2 dX12_tight_85
  by_cases c_4 : p0 = 45
  · refine lv_lookup (tgt := 84) hx hb dX12_tight_1 (by decide) (off := 83) (by rw [c_4]; decide) (by decide) ?_
    have c_4 : p0.toInt = 45 := xI_eq rfl rfl c_4
    refine ic_5 hx hb dX12_tight_84 ?_
    exact W.iret (v := 5) hx hb hr (fun t ht _ => ⟨⟨5, G, rfl, (Q_tight_mk ⟨hB_G, hF, ⟨by decide, by decide⟩, (Or.inr ⟨(xI_ne (Y := 21) rfl rfl c_1), (Or.inr ⟨(xI_ne (Y := 38) rfl rfl c_2), (Or.inr ⟨(xI_ne (Y := 43) rfl rfl c_3), (Or.inl ⟨c_4, ⟨rfl, rfl⟩⟩)⟩)⟩)⟩)⟩), wd_t ht hW⟩, hS.F ht⟩) hS.2.2 dX12_tight_85
  by_cases c_5 : p0 = 60
  · refine lv_lookup (tgt := 82) hx hb dX12_tight_1 (by decide) (off := 81) (by rw [c_5]; decide) (by decide) ?_
    have c_5 : p0.toInt = 60 := xI_eq rfl rfl c_5
    refine ic_4 hx hb dX12_tight_82 ?_
    exact W.iret (v := 4) hx hb hr (fun t ht _ => ⟨⟨4, G, rfl, (Q_tight_mk ⟨hB_G, hF, ⟨by decide, by decide⟩, (Or.inr ⟨(xI_ne (Y := 21) rfl rfl c_1), (Or.inr ⟨(xI_ne (Y := 38) rfl rfl c_2), (Or.inr ⟨(xI_ne (Y := 43) rfl rfl c_3), (Or.inr ⟨(xI_ne (Y := 45) rfl rfl c_4), (Or.inl ⟨c_5, ⟨rfl, rfl⟩⟩)⟩)⟩)⟩)⟩)⟩), wd_t ht hW⟩, hS.F ht⟩) hS.2.2 dX12_tight_83
  by_cases c_6 : p0 = 61
  · refine lv_lookup (tgt := 82) hx hb dX12_tight_1 (by decide) (off := 81) (by rw [c_6]; decide) (by decide) ?_
    have c_6 : p0.toInt = 61 := xI_eq rfl rfl c_6
    refine ic_4 hx hb dX12_tight_82 ?_
    exact W.iret (v := 4) hx hb hr (fun t ht _ => ⟨⟨4, G, rfl, (Q_tight_mk ⟨hB_G, hF, ⟨by decide, by decide⟩, (Or.inr ⟨(xI_ne (Y := 21) rfl rfl c_1), (Or.inr ⟨(xI_ne (Y := 38) rfl rfl c_2), (Or.inr ⟨(xI_ne (Y := 43) rfl rfl c_3), (Or.inr ⟨(xI_ne (Y := 45) rfl rfl c_4), (Or.inr ⟨(xI_ne (Y := 60) rfl rfl c_5), (Or.inl ⟨c_6, ⟨rfl, rfl⟩⟩)⟩)⟩)⟩)⟩)⟩)⟩), wd_t ht hW⟩, hS.F ht⟩) hS.2.2 dX12_tight_83
  by_cases c_7 : p0 = 62
  · refine lv_lookup (tgt := 82) hx hb dX12_tight_1 (by decide) (off := 81) (by rw [c_7]; decide) (by decide) ?_
    have c_7 : p0.toInt = 62 := xI_eq rfl rfl c_7
    refine ic_4 hx hb dX12_tight_82 ?_
    exact W.iret (v := 4) hx hb hr (fun t ht _ => ⟨⟨4, G, rfl, (Q_tight_mk ⟨hB_G, hF, ⟨by decide, by decide⟩, (Or.inr ⟨(xI_ne (Y := 21) rfl rfl c_1), (Or.inr ⟨(xI_ne (Y := 38) rfl rfl c_2), (Or.inr ⟨(xI_ne (Y := 43) rfl rfl c_3), (Or.inr ⟨(xI_ne (Y := 45) rfl rfl c_4), (Or.inr ⟨(xI_ne (Y := 60) rfl rfl c_5), (Or.inr ⟨(xI_ne (Y := 61) rfl rfl c_6), (Or.inl ⟨c_7, ⟨rfl, rfl⟩⟩)⟩)⟩)⟩)⟩)⟩)⟩)⟩), wd_t ht hW⟩, hS.F ht⟩) hS.2.2 dX12_tight_83
  by_cases c_8 : p0 = 124
  · refine lv_lookup (tgt := 76) hx hb dX12_tight_1 (by decide) (off := 75) (by rw [c_8]; decide) (by decide) ?_
    have c_8 : p0.toInt = 124 := xI_eq rfl rfl c_8
    refine ic_1 hx hb dX12_tight_76 ?_
    exact W.iret (v := 1) hx hb hr (fun t ht _ => ⟨⟨1, G, rfl, (Q_tight_mk ⟨hB_G, hF, ⟨by decide, by decide⟩, (Or.inr ⟨(xI_ne (Y := 21) rfl rfl c_1), (Or.inr ⟨(xI_ne (Y := 38) rfl rfl c_2), (Or.inr ⟨(xI_ne (Y := 43) rfl rfl c_3), (Or.inr ⟨(xI_ne (Y := 45) rfl rfl c_4), (Or.inr ⟨(xI_ne (Y := 60) rfl rfl c_5), (Or.inr ⟨(xI_ne (Y := 61) rfl rfl c_6), (Or.inr ⟨(xI_ne (Y := 62) rfl rfl c_7), (Or.inl ⟨c_8, ⟨rfl, rfl⟩⟩)⟩)⟩)⟩)⟩)⟩)⟩)⟩)⟩), wd_t ht hW⟩, hS.F ht⟩) hS.2.2 dX12_tight_77
  refine lv_lookup (tgt := 86) hx hb dX12_tight_1 (by decide) (off := 85) (by show Op.lookupswitch.offset [(21, 79), (38, 77), (43, 83), (45, 83), (60, 81), (61, 81), (62, 81), (124, 75)] _ _ = _; have c_1 := xI_ne (Y := 21) rfl rfl c_1; have c_2 := xI_ne (Y := 38) rfl rfl c_2; have c_3 := xI_ne (Y := 43) rfl rfl c_3; have c_4 := xI_ne (Y := 45) rfl rfl c_4; have c_5 := xI_ne (Y := 60) rfl rfl c_5; have c_6 := xI_ne (Y := 61) rfl rfl c_6; have c_7 := xI_ne (Y := 62) rfl rfl c_7; have c_8 := xI_ne (Y := 124) rfl rfl c_8; rw [Op.lookupswitch.offset_cons, if_neg (by omega), Op.lookupswitch.offset_cons, if_neg (by omega), Op.lookupswitch.offset_cons, if_neg (by omega), Op.lookupswitch.offset_cons, if_neg (by omega), Op.lookupswitch.offset_cons, if_neg (by omega), Op.lookupswitch.offset_cons, if_neg (by omega), Op.lookupswitch.offset_cons, if_neg (by omega), Op.lookupswitch.offset_cons, if_neg (by omega), Op.lookupswitch.offset_nil]) (by decide) ?_
  have c_1 := xI_ne (Y := 21) rfl rfl c_1
  have c_2 := xI_ne (Y := 38) rfl rfl c_2
  have c_3 := xI_ne (Y := 43) rfl rfl c_3
  have c_4 := xI_ne (Y := 45) rfl rfl c_4
  have c_5 := xI_ne (Y := 60) rfl rfl c_5
  have c_6 := xI_ne (Y := 61) rfl rfl c_6
  have c_7 := xI_ne (Y := 62) rfl rfl c_7
  have c_8 := xI_ne (Y := 124) rfl rfl c_8
  refine lv_bipush (v := 6) hx hb dX12_tight_86 (by decide) ?_
  exact W.iret (v := 6) hx hb hr (fun t ht _ => ⟨⟨6, G, rfl, (Q_tight_mk ⟨hB_G, hF, ⟨by decide, by decide⟩, (Or.inr ⟨c_1, (Or.inr ⟨c_2, (Or.inr ⟨c_3, (Or.inr ⟨c_4, (Or.inr ⟨c_5, (Or.inr ⟨c_6, (Or.inr ⟨c_7, (Or.inr ⟨c_8, ⟨rfl, rfl⟩⟩)⟩)⟩)⟩)⟩)⟩)⟩)⟩)⟩), wd_t ht hW⟩, hS.F ht⟩) hS.2.2 dX12_tight_88

set_option maxHeartbeats 4000000 in
set_option maxRecDepth 100000 in
theorem n_truth (l : Launch) (D : va_G) (k : KT) (A : Nat → Prop) (a : Nat → Nat) (z : SK) (G : GS) (p0 : Int32) (ha_p0 : 0 ≤ p0.toInt ∧ p0.toInt ≤ 1) : Met l yX12_truth (WS yX12_truth cX12_truth 1 (some .int)) ({ frames := 0, cells := 0, slots := 0, locals := 0 }) (va_Pc [.int p0] (cW D k A a z G)) (va_Qi (fun (r : Int32) (G1 : GS) => Q_truth p0 G r G1) (fun (G1 : GS) t => Wd D k A a G1 t.heap) A) 0 0 A := by
  refine Met.ofW (cc := cX12_truth) (maxL := 1) (ret := (some .int)) (by decide) rfl ?_
  intro p e s m args below meth c s₁ B hml hv
  obtain ⟨rfl, hW, hB_G, hK, hZ⟩ := hv
  have hx := B.exec
  have hb := B.bytes
  have hr := B.returns
  have hts := atoms_spec (ws := WS yX12_truth cX12_truth 1 (some .int)) B.pre
  have hgd : ∀ w ∈ gd, w ∈ WS yX12_truth cX12_truth 1 (some .int) := fun w h => List.mem_cons_of_mem _ h
  have hg : ∀ w ∈ gd, w.before _ s = true := fun w h => hts w (hgd w h)
  have hown : s.vm.findClass RX12 = some m.cls := findClass_of_methodNamed B.named
  have hS : va_S A s.heap s.heap [] := va_S.rf
  have hF : Fr [] [] G G := Fr.rf
  have hl := lv_entry ([.int p0]) (n := 1) (Nat.le_of_ble_eq_true rfl)
  rw [lg_entry_eq]
  generalize (lg_sl ([.int p0]) ++ List.replicate (1 - (lg_sl ([.int p0])).length) Slot.unset).toArray = ls at hl ⊢
  have hl : lv_has ls 1 [(0, .int p0)] := hl
  refine lv_iload_n hx hb dX12_truth_0 rfl (lv_at hl 0 rfl) ?_
  refine lv_if_eq (tgt := 8) hx hb dX12_truth_1 rfl (fun c_1 => ?_) (fun c_1 => ?_)
  · have c_1 : p0.toInt = 0 := xI_eq rfl rfl c_1
    refine ic_0 hx hb dX12_truth_8 ?_
    exact W.iret (v := 0) hx hb hr (fun t ht _ => ⟨⟨0, G, rfl, (Q_truth_mk ⟨hB_G, hF, ⟨by decide, by decide⟩, (by have hq : (0 : Int32).toInt = 0 := rfl; (try dsimp only); omega), (Or.inl ⟨c_1, ⟨rfl, rfl⟩⟩)⟩), wd_t ht hW⟩, hS.F ht⟩) hS.2.2 dX12_truth_9
  · have c_1 : p0.toInt ≠ 0 := xI_ne rfl rfl c_1
    refine ic_1 hx hb dX12_truth_4 ?_
    refine lv_goto (tgt := 9) hx hb dX12_truth_5 rfl ?_
    exact W.iret (v := 1) hx hb hr (fun t ht _ => ⟨⟨1, G, rfl, (Q_truth_mk ⟨hB_G, hF, ⟨by decide, by decide⟩, (by have hq : (1 : Int32).toInt = 1 := rfl; (try dsimp only); omega), (Or.inr ⟨c_1, ⟨rfl, rfl⟩⟩)⟩), wd_t ht hW⟩, hS.F ht⟩) hS.2.2 dX12_truth_9

set_option maxHeartbeats 4000000 in
set_option maxRecDepth 100000 in
theorem n_done (l : Launch) (D : va_G) (k : KT) (A : Nat → Prop) (a : Nat → Nat) (z : SK) (G : GS) (p0 : Int32) (p1 : Int32) (p2 : Int32)  : Met l yX12_done (WS yX12_done cX12_done 3 (some .int)) ({ frames := 1, cells := 0, slots := 0, locals := 20 }) (va_Pc [.int p0, .int p1, .int p2] (cW D k A a z G)) (va_Qi (fun (r : Int32) (G1 : GS) => Q_done p0 p1 p2 G r G1) (fun (G1 : GS) t => Wd D k A a G1 t.heap) A) 0 0 A := by
  refine Met.ofW (cc := cX12_done) (maxL := 3) (ret := (some .int)) (by decide) rfl ?_
  intro p e s m args below meth c s₁ B hml hv
  obtain ⟨rfl, hW, hB_G, hK, hZ⟩ := hv
  have hx := B.exec
  have hb := B.bytes
  have hr := B.returns
  have hts := atoms_spec (ws := WS yX12_done cX12_done 3 (some .int)) B.pre
  have hgd : ∀ w ∈ gd, w ∈ WS yX12_done cX12_done 3 (some .int) := fun w h => List.mem_cons_of_mem _ h
  have hg : ∀ w ∈ gd, w.before _ s = true := fun w h => hts w (hgd w h)
  have hown : s.vm.findClass RX12 = some m.cls := findClass_of_methodNamed B.named
  have hS : va_S A s.heap s.heap [] := va_S.rf
  have hF : Fr [] [] G G := Fr.rf
  have hl := lv_entry ([.int p0, .int p1, .int p2]) (n := 3) (Nat.le_of_ble_eq_true rfl)
  rw [lg_entry_eq]
  generalize (lg_sl ([.int p0, .int p1, .int p2]) ++ List.replicate (3 - (lg_sl ([.int p0, .int p1, .int p2])).length) Slot.unset).toArray = ls at hl ⊢
  have hl : lv_has ls 3 [(0, .int p0), (1, .int p1), (2, .int p2)] := hl
  refine lv_iload_n hx hb dX12_done_0 rfl (lv_at hl 0 rfl) ?_
  by_cases c_1 : p0 = 37
  · refine lv_tableIn (tgt := 144) hx hb dX12_done_1 (by rw [c_1]; decide) (by rw [c_1]; decide) (off := 143) (by rw [c_1]; decide) (by decide) ?_
    have c_1 : p0.toInt = 37 := xI_eq rfl rfl c_1
    refine lv_iload_n hx hb dX12_done_144 rfl (lv_at hl 2 rfl) ?_
    refine lv_if_ne (tgt := 152) hx hb dX12_done_145 rfl (fun c_2 => ?_) (fun c_2 => ?_)
    · have c_2 : p2.toInt ≠ 0 := xI_ne rfl rfl c_2
      refine lv_iload_n hx hb dX12_done_152 rfl (lv_at hl 1 rfl) ?_
      refine lv_iload_n hx hb dX12_done_153 rfl (lv_at hl 2 rfl) ?_
      refine lv_irem hx hb dX12_done_154 (fun q => by have q := xI_eq (Y := 0) rfl rfl q; omega) ?_
      refine lv_topi (fun y_3 ey_3 => ?_)
      exact W.iret (v := y_3) hx hb hr (fun t ht _ => ⟨⟨y_3, G, rfl, (Q_done_mk ⟨hB_G, hF, (Or.inl ⟨c_1, (Or.inr ⟨c_2, ⟨y_3, ey_3, ⟨rfl, rfl⟩⟩⟩)⟩)⟩), wd_t ht hW⟩, hS.F ht⟩) hS.2.2 dX12_done_155
    · have c_2 : p2.toInt = 0 := xI_eq rfl rfl c_2
      refine ic_0 hx hb dX12_done_148 ?_
      refine lv_goto (tgt := 155) hx hb dX12_done_149 rfl ?_
      exact W.iret (v := 0) hx hb hr (fun t ht _ => ⟨⟨0, G, rfl, (Q_done_mk ⟨hB_G, hF, (Or.inl ⟨c_1, (Or.inl ⟨c_2, ⟨rfl, rfl⟩⟩)⟩)⟩), wd_t ht hW⟩, hS.F ht⟩) hS.2.2 dX12_done_155
  by_cases c_4 : p0 = 38
  · refine lv_tableIn (tgt := 198) hx hb dX12_done_1 (by rw [c_4]; decide) (by rw [c_4]; decide) (off := 197) (by rw [c_4]; decide) (by decide) ?_
    have c_4 : p0.toInt = 38 := xI_eq rfl rfl c_4
    refine lv_iload_n hx hb dX12_done_198 rfl (lv_at hl 1 rfl) ?_
    refine lv_if_eq (tgt := 210) hx hb dX12_done_199 rfl (fun c_5 => ?_) (fun c_5 => ?_)
    · have c_5 : p1.toInt = 0 := xI_eq rfl rfl c_5
      refine ic_0 hx hb dX12_done_210 ?_
      have qc_6 : (0 : Int32).toInt = 0 := rfl
      refine S_calli (va_runS (As := [.int 0]) (rest := []) ⟨hx, hb, hml, hown, hts⟩ (n_truth l D k A a z G 0 ⟨by decide, by decide⟩) (va_cwS 1 hts (gd_S hgd m1788 m1789 m131 m1790) rfl rfl rfl hd_X12_truth.2 ⟨Nat.le_of_ble_eq_true rfl, Nat.le_of_ble_eq_true rfl⟩) (pre_S hW hB_G hK hZ hS) rfl rfl hl.1 rfl (lv_room (Nat.le_of_ble_eq_true rfl)) dX12_done_211 ⟨Nat.le_of_ble_eq_true rfl, Nat.le_of_ble_eq_true rfl⟩) hS (fun r_7 G_8 H locs hpo hW hS => ?_)
      have hX_11 : Q_truth 0 G r_7 G_8 := hpo
      obtain ⟨hB_G_8, hq_9, f_12, hp_10, -⟩ := hpo
      have hF := hF.call9 hq_9 rfl rfl
      exact W.iret (v := r_7) hx hb hr (fun t ht _ => ⟨⟨r_7, G_8, rfl, (Q_done_mk ⟨hB_G_8, hF, (Or.inr ⟨(xI_ne (Y := 37) rfl rfl c_1), (Or.inl ⟨c_4, (Or.inl ⟨c_5, ⟨r_7, G_8, hX_11, ⟨rfl, rfl⟩⟩⟩)⟩)⟩)⟩), wd_t ht hW⟩, hS.F ht⟩) hS.2.2 dX12_done_214
    · have c_5 : p1.toInt ≠ 0 := xI_ne rfl rfl c_5
      refine lv_iload_n hx hb dX12_done_202 rfl (lv_at hl 2 rfl) ?_
      refine lv_if_eq (tgt := 210) hx hb dX12_done_203 rfl (fun c_13 => ?_) (fun c_13 => ?_)
      · have c_13 : p2.toInt = 0 := xI_eq rfl rfl c_13
        refine ic_0 hx hb dX12_done_210 ?_
        have qc_14 : (0 : Int32).toInt = 0 := rfl
        refine S_calli (va_runS (As := [.int 0]) (rest := []) ⟨hx, hb, hml, hown, hts⟩ (n_truth l D k A a z G 0 ⟨by decide, by decide⟩) (va_cwS 1 hts (gd_S hgd m1788 m1789 m131 m1790) rfl rfl rfl hd_X12_truth.2 ⟨Nat.le_of_ble_eq_true rfl, Nat.le_of_ble_eq_true rfl⟩) (pre_S hW hB_G hK hZ hS) rfl rfl hl.1 rfl (lv_room (Nat.le_of_ble_eq_true rfl)) dX12_done_211 ⟨Nat.le_of_ble_eq_true rfl, Nat.le_of_ble_eq_true rfl⟩) hS (fun r_15 G_16 H locs hpo hW hS => ?_)
        have hX_19 : Q_truth 0 G r_15 G_16 := hpo
        obtain ⟨hB_G_16, hq_17, f_20, hp_18, -⟩ := hpo
        have hF := hF.call9 hq_17 rfl rfl
        exact W.iret (v := r_15) hx hb hr (fun t ht _ => ⟨⟨r_15, G_16, rfl, (Q_done_mk ⟨hB_G_16, hF, (Or.inr ⟨(xI_ne (Y := 37) rfl rfl c_1), (Or.inl ⟨c_4, (Or.inr ⟨c_5, (Or.inl ⟨c_13, ⟨r_15, G_16, hX_19, ⟨rfl, rfl⟩⟩⟩)⟩)⟩)⟩)⟩), wd_t ht hW⟩, hS.F ht⟩) hS.2.2 dX12_done_214
      · have c_13 : p2.toInt ≠ 0 := xI_ne rfl rfl c_13
        refine ic_1 hx hb dX12_done_206 ?_
        refine lv_goto (tgt := 211) hx hb dX12_done_207 rfl ?_
        have qc_21 : (1 : Int32).toInt = 1 := rfl
        refine S_calli (va_runS (As := [.int 1]) (rest := []) ⟨hx, hb, hml, hown, hts⟩ (n_truth l D k A a z G 1 ⟨by decide, by decide⟩) (va_cwS 1 hts (gd_S hgd m1788 m1789 m131 m1790) rfl rfl rfl hd_X12_truth.2 ⟨Nat.le_of_ble_eq_true rfl, Nat.le_of_ble_eq_true rfl⟩) (pre_S hW hB_G hK hZ hS) rfl rfl hl.1 rfl (lv_room (Nat.le_of_ble_eq_true rfl)) dX12_done_211 ⟨Nat.le_of_ble_eq_true rfl, Nat.le_of_ble_eq_true rfl⟩) hS (fun r_22 G_23 H locs hpo hW hS => ?_)
        have hX_26 : Q_truth 1 G r_22 G_23 := hpo
        obtain ⟨hB_G_23, hq_24, f_27, hp_25, -⟩ := hpo
        have hF := hF.call9 hq_24 rfl rfl
        exact W.iret (v := r_22) hx hb hr (fun t ht _ => ⟨⟨r_22, G_23, rfl, (Q_done_mk ⟨hB_G_23, hF, (Or.inr ⟨(xI_ne (Y := 37) rfl rfl c_1), (Or.inl ⟨c_4, (Or.inr ⟨c_5, (Or.inr ⟨c_13, ⟨r_22, G_23, hX_26, ⟨rfl, rfl⟩⟩⟩)⟩)⟩)⟩)⟩), wd_t ht hW⟩, hS.F ht⟩) hS.2.2 dX12_done_214
  by_cases c_28 : p0 = 39
  · refine lv_tableIn (tgt := 215) hx hb dX12_done_1 (by rw [c_28]; decide) (by rw [c_28]; decide) (off := 214) (by rw [c_28]; decide) (by decide) ?_
    have c_28 : p0.toInt = 39 := xI_eq rfl rfl c_28
    refine lv_iload_n hx hb dX12_done_215 rfl (lv_at hl 1 rfl) ?_
    refine lv_if_ne (tgt := 223) hx hb dX12_done_216 rfl (fun c_29 => ?_) (fun c_29 => ?_)
    · have c_29 : p1.toInt ≠ 0 := xI_ne rfl rfl c_29
      refine ic_1 hx hb dX12_done_223 ?_
      refine lv_goto (tgt := 228) hx hb dX12_done_224 rfl ?_
      have qc_30 : (1 : Int32).toInt = 1 := rfl
      refine S_calli (va_runS (As := [.int 1]) (rest := []) ⟨hx, hb, hml, hown, hts⟩ (n_truth l D k A a z G 1 ⟨by decide, by decide⟩) (va_cwS 1 hts (gd_S hgd m1788 m1789 m131 m1790) rfl rfl rfl hd_X12_truth.2 ⟨Nat.le_of_ble_eq_true rfl, Nat.le_of_ble_eq_true rfl⟩) (pre_S hW hB_G hK hZ hS) rfl rfl hl.1 rfl (lv_room (Nat.le_of_ble_eq_true rfl)) dX12_done_228 ⟨Nat.le_of_ble_eq_true rfl, Nat.le_of_ble_eq_true rfl⟩) hS (fun r_31 G_32 H locs hpo hW hS => ?_)
      have hX_35 : Q_truth 1 G r_31 G_32 := hpo
      obtain ⟨hB_G_32, hq_33, f_36, hp_34, -⟩ := hpo
      have hF := hF.call9 hq_33 rfl rfl
      exact W.iret (v := r_31) hx hb hr (fun t ht _ => ⟨⟨r_31, G_32, rfl, (Q_done_mk ⟨hB_G_32, hF, (Or.inr ⟨(xI_ne (Y := 37) rfl rfl c_1), (Or.inr ⟨(xI_ne (Y := 38) rfl rfl c_4), (Or.inl ⟨c_28, (Or.inr ⟨c_29, ⟨r_31, G_32, hX_35, ⟨rfl, rfl⟩⟩⟩)⟩)⟩)⟩)⟩), wd_t ht hW⟩, hS.F ht⟩) hS.2.2 dX12_done_231
    · have c_29 : p1.toInt = 0 := xI_eq rfl rfl c_29
      refine lv_iload_n hx hb dX12_done_219 rfl (lv_at hl 2 rfl) ?_
      refine lv_if_eq (tgt := 227) hx hb dX12_done_220 rfl (fun c_37 => ?_) (fun c_37 => ?_)
      · have c_37 : p2.toInt = 0 := xI_eq rfl rfl c_37
        refine ic_0 hx hb dX12_done_227 ?_
        have qc_38 : (0 : Int32).toInt = 0 := rfl
        refine S_calli (va_runS (As := [.int 0]) (rest := []) ⟨hx, hb, hml, hown, hts⟩ (n_truth l D k A a z G 0 ⟨by decide, by decide⟩) (va_cwS 1 hts (gd_S hgd m1788 m1789 m131 m1790) rfl rfl rfl hd_X12_truth.2 ⟨Nat.le_of_ble_eq_true rfl, Nat.le_of_ble_eq_true rfl⟩) (pre_S hW hB_G hK hZ hS) rfl rfl hl.1 rfl (lv_room (Nat.le_of_ble_eq_true rfl)) dX12_done_228 ⟨Nat.le_of_ble_eq_true rfl, Nat.le_of_ble_eq_true rfl⟩) hS (fun r_39 G_40 H locs hpo hW hS => ?_)
        have hX_43 : Q_truth 0 G r_39 G_40 := hpo
        obtain ⟨hB_G_40, hq_41, f_44, hp_42, -⟩ := hpo
        have hF := hF.call9 hq_41 rfl rfl
        exact W.iret (v := r_39) hx hb hr (fun t ht _ => ⟨⟨r_39, G_40, rfl, (Q_done_mk ⟨hB_G_40, hF, (Or.inr ⟨(xI_ne (Y := 37) rfl rfl c_1), (Or.inr ⟨(xI_ne (Y := 38) rfl rfl c_4), (Or.inl ⟨c_28, (Or.inl ⟨c_29, (Or.inl ⟨c_37, ⟨r_39, G_40, hX_43, ⟨rfl, rfl⟩⟩⟩)⟩)⟩)⟩)⟩)⟩), wd_t ht hW⟩, hS.F ht⟩) hS.2.2 dX12_done_231
      · have c_37 : p2.toInt ≠ 0 := xI_ne rfl rfl c_37
        refine ic_1 hx hb dX12_done_223 ?_
        refine lv_goto (tgt := 228) hx hb dX12_done_224 rfl ?_
        have qc_45 : (1 : Int32).toInt = 1 := rfl
        refine S_calli (va_runS (As := [.int 1]) (rest := []) ⟨hx, hb, hml, hown, hts⟩ (n_truth l D k A a z G 1 ⟨by decide, by decide⟩) (va_cwS 1 hts (gd_S hgd m1788 m1789 m131 m1790) rfl rfl rfl hd_X12_truth.2 ⟨Nat.le_of_ble_eq_true rfl, Nat.le_of_ble_eq_true rfl⟩) (pre_S hW hB_G hK hZ hS) rfl rfl hl.1 rfl (lv_room (Nat.le_of_ble_eq_true rfl)) dX12_done_228 ⟨Nat.le_of_ble_eq_true rfl, Nat.le_of_ble_eq_true rfl⟩) hS (fun r_46 G_47 H locs hpo hW hS => ?_)
        have hX_50 : Q_truth 1 G r_46 G_47 := hpo
        obtain ⟨hB_G_47, hq_48, f_51, hp_49, -⟩ := hpo
        have hF := hF.call9 hq_48 rfl rfl
        exact W.iret (v := r_46) hx hb hr (fun t ht _ => ⟨⟨r_46, G_47, rfl, (Q_done_mk ⟨hB_G_47, hF, (Or.inr ⟨(xI_ne (Y := 37) rfl rfl c_1), (Or.inr ⟨(xI_ne (Y := 38) rfl rfl c_4), (Or.inl ⟨c_28, (Or.inl ⟨c_29, (Or.inr ⟨c_37, ⟨r_46, G_47, hX_50, ⟨rfl, rfl⟩⟩⟩)⟩)⟩)⟩)⟩)⟩), wd_t ht hW⟩, hS.F ht⟩) hS.2.2 dX12_done_231
  by_cases c_52 : p0 = 40
  · refine lv_tableIn (tgt := 215) hx hb dX12_done_1 (by rw [c_52]; decide) (by rw [c_52]; decide) (off := 214) (by rw [c_52]; decide) (by decide) ?_
    have c_52 : p0.toInt = 40 := xI_eq rfl rfl c_52
    refine lv_iload_n hx hb dX12_done_215 rfl (lv_at hl 1 rfl) ?_
    refine lv_if_ne (tgt := 223) hx hb dX12_done_216 rfl (fun c_53 => ?_) (fun c_53 => ?_)
    · have c_53 : p1.toInt ≠ 0 := xI_ne rfl rfl c_53
      refine ic_1 hx hb dX12_done_223 ?_
      refine lv_goto (tgt := 228) hx hb dX12_done_224 rfl ?_
      have qc_54 : (1 : Int32).toInt = 1 := rfl
      refine S_calli (va_runS (As := [.int 1]) (rest := []) ⟨hx, hb, hml, hown, hts⟩ (n_truth l D k A a z G 1 ⟨by decide, by decide⟩) (va_cwS 1 hts (gd_S hgd m1788 m1789 m131 m1790) rfl rfl rfl hd_X12_truth.2 ⟨Nat.le_of_ble_eq_true rfl, Nat.le_of_ble_eq_true rfl⟩) (pre_S hW hB_G hK hZ hS) rfl rfl hl.1 rfl (lv_room (Nat.le_of_ble_eq_true rfl)) dX12_done_228 ⟨Nat.le_of_ble_eq_true rfl, Nat.le_of_ble_eq_true rfl⟩) hS (fun r_55 G_56 H locs hpo hW hS => ?_)
      have hX_59 : Q_truth 1 G r_55 G_56 := hpo
      obtain ⟨hB_G_56, hq_57, f_60, hp_58, -⟩ := hpo
      have hF := hF.call9 hq_57 rfl rfl
      exact W.iret (v := r_55) hx hb hr (fun t ht _ => ⟨⟨r_55, G_56, rfl, (Q_done_mk ⟨hB_G_56, hF, (Or.inr ⟨(xI_ne (Y := 37) rfl rfl c_1), (Or.inr ⟨(xI_ne (Y := 38) rfl rfl c_4), (Or.inr ⟨(xI_ne (Y := 39) rfl rfl c_28), (Or.inl ⟨c_52, (Or.inr ⟨c_53, ⟨r_55, G_56, hX_59, ⟨rfl, rfl⟩⟩⟩)⟩)⟩)⟩)⟩)⟩), wd_t ht hW⟩, hS.F ht⟩) hS.2.2 dX12_done_231
    · have c_53 : p1.toInt = 0 := xI_eq rfl rfl c_53
      refine lv_iload_n hx hb dX12_done_219 rfl (lv_at hl 2 rfl) ?_
      refine lv_if_eq (tgt := 227) hx hb dX12_done_220 rfl (fun c_61 => ?_) (fun c_61 => ?_)
      · have c_61 : p2.toInt = 0 := xI_eq rfl rfl c_61
        refine ic_0 hx hb dX12_done_227 ?_
        have qc_62 : (0 : Int32).toInt = 0 := rfl
        refine S_calli (va_runS (As := [.int 0]) (rest := []) ⟨hx, hb, hml, hown, hts⟩ (n_truth l D k A a z G 0 ⟨by decide, by decide⟩) (va_cwS 1 hts (gd_S hgd m1788 m1789 m131 m1790) rfl rfl rfl hd_X12_truth.2 ⟨Nat.le_of_ble_eq_true rfl, Nat.le_of_ble_eq_true rfl⟩) (pre_S hW hB_G hK hZ hS) rfl rfl hl.1 rfl (lv_room (Nat.le_of_ble_eq_true rfl)) dX12_done_228 ⟨Nat.le_of_ble_eq_true rfl, Nat.le_of_ble_eq_true rfl⟩) hS (fun r_63 G_64 H locs hpo hW hS => ?_)
        have hX_67 : Q_truth 0 G r_63 G_64 := hpo
        obtain ⟨hB_G_64, hq_65, f_68, hp_66, -⟩ := hpo
        have hF := hF.call9 hq_65 rfl rfl
        exact W.iret (v := r_63) hx hb hr (fun t ht _ => ⟨⟨r_63, G_64, rfl, (Q_done_mk ⟨hB_G_64, hF, (Or.inr ⟨(xI_ne (Y := 37) rfl rfl c_1), (Or.inr ⟨(xI_ne (Y := 38) rfl rfl c_4), (Or.inr ⟨(xI_ne (Y := 39) rfl rfl c_28), (Or.inl ⟨c_52, (Or.inl ⟨c_53, (Or.inl ⟨c_61, ⟨r_63, G_64, hX_67, ⟨rfl, rfl⟩⟩⟩)⟩)⟩)⟩)⟩)⟩)⟩), wd_t ht hW⟩, hS.F ht⟩) hS.2.2 dX12_done_231
      · have c_61 : p2.toInt ≠ 0 := xI_ne rfl rfl c_61
        refine ic_1 hx hb dX12_done_223 ?_
        refine lv_goto (tgt := 228) hx hb dX12_done_224 rfl ?_
        have qc_69 : (1 : Int32).toInt = 1 := rfl
        refine S_calli (va_runS (As := [.int 1]) (rest := []) ⟨hx, hb, hml, hown, hts⟩ (n_truth l D k A a z G 1 ⟨by decide, by decide⟩) (va_cwS 1 hts (gd_S hgd m1788 m1789 m131 m1790) rfl rfl rfl hd_X12_truth.2 ⟨Nat.le_of_ble_eq_true rfl, Nat.le_of_ble_eq_true rfl⟩) (pre_S hW hB_G hK hZ hS) rfl rfl hl.1 rfl (lv_room (Nat.le_of_ble_eq_true rfl)) dX12_done_228 ⟨Nat.le_of_ble_eq_true rfl, Nat.le_of_ble_eq_true rfl⟩) hS (fun r_70 G_71 H locs hpo hW hS => ?_)
        have hX_74 : Q_truth 1 G r_70 G_71 := hpo
        obtain ⟨hB_G_71, hq_72, f_75, hp_73, -⟩ := hpo
        have hF := hF.call9 hq_72 rfl rfl
        exact W.iret (v := r_70) hx hb hr (fun t ht _ => ⟨⟨r_70, G_71, rfl, (Q_done_mk ⟨hB_G_71, hF, (Or.inr ⟨(xI_ne (Y := 37) rfl rfl c_1), (Or.inr ⟨(xI_ne (Y := 38) rfl rfl c_4), (Or.inr ⟨(xI_ne (Y := 39) rfl rfl c_28), (Or.inl ⟨c_52, (Or.inl ⟨c_53, (Or.inr ⟨c_61, ⟨r_70, G_71, hX_74, ⟨rfl, rfl⟩⟩⟩)⟩)⟩)⟩)⟩)⟩)⟩), wd_t ht hW⟩, hS.F ht⟩) hS.2.2 dX12_done_231
  by_cases c_76 : p0 = 41
  · refine lv_tableIn (tgt := 215) hx hb dX12_done_1 (by rw [c_76]; decide) (by rw [c_76]; decide) (off := 214) (by rw [c_76]; decide) (by decide) ?_
    have c_76 : p0.toInt = 41 := xI_eq rfl rfl c_76
    refine lv_iload_n hx hb dX12_done_215 rfl (lv_at hl 1 rfl) ?_
    refine lv_if_ne (tgt := 223) hx hb dX12_done_216 rfl (fun c_77 => ?_) (fun c_77 => ?_)
    · have c_77 : p1.toInt ≠ 0 := xI_ne rfl rfl c_77
      refine ic_1 hx hb dX12_done_223 ?_
      refine lv_goto (tgt := 228) hx hb dX12_done_224 rfl ?_
      have qc_78 : (1 : Int32).toInt = 1 := rfl
      refine S_calli (va_runS (As := [.int 1]) (rest := []) ⟨hx, hb, hml, hown, hts⟩ (n_truth l D k A a z G 1 ⟨by decide, by decide⟩) (va_cwS 1 hts (gd_S hgd m1788 m1789 m131 m1790) rfl rfl rfl hd_X12_truth.2 ⟨Nat.le_of_ble_eq_true rfl, Nat.le_of_ble_eq_true rfl⟩) (pre_S hW hB_G hK hZ hS) rfl rfl hl.1 rfl (lv_room (Nat.le_of_ble_eq_true rfl)) dX12_done_228 ⟨Nat.le_of_ble_eq_true rfl, Nat.le_of_ble_eq_true rfl⟩) hS (fun r_79 G_80 H locs hpo hW hS => ?_)
      have hX_83 : Q_truth 1 G r_79 G_80 := hpo
      obtain ⟨hB_G_80, hq_81, f_84, hp_82, -⟩ := hpo
      have hF := hF.call9 hq_81 rfl rfl
      exact W.iret (v := r_79) hx hb hr (fun t ht _ => ⟨⟨r_79, G_80, rfl, (Q_done_mk ⟨hB_G_80, hF, (Or.inr ⟨(xI_ne (Y := 37) rfl rfl c_1), (Or.inr ⟨(xI_ne (Y := 38) rfl rfl c_4), (Or.inr ⟨(xI_ne (Y := 39) rfl rfl c_28), (Or.inr ⟨(xI_ne (Y := 40) rfl rfl c_52), (Or.inl ⟨c_76, (Or.inr ⟨c_77, ⟨r_79, G_80, hX_83, ⟨rfl, rfl⟩⟩⟩)⟩)⟩)⟩)⟩)⟩)⟩), wd_t ht hW⟩, hS.F ht⟩) hS.2.2 dX12_done_231
    · have c_77 : p1.toInt = 0 := xI_eq rfl rfl c_77
      refine lv_iload_n hx hb dX12_done_219 rfl (lv_at hl 2 rfl) ?_
      refine lv_if_eq (tgt := 227) hx hb dX12_done_220 rfl (fun c_85 => ?_) (fun c_85 => ?_)
      · have c_85 : p2.toInt = 0 := xI_eq rfl rfl c_85
        refine ic_0 hx hb dX12_done_227 ?_
        have qc_86 : (0 : Int32).toInt = 0 := rfl
        refine S_calli (va_runS (As := [.int 0]) (rest := []) ⟨hx, hb, hml, hown, hts⟩ (n_truth l D k A a z G 0 ⟨by decide, by decide⟩) (va_cwS 1 hts (gd_S hgd m1788 m1789 m131 m1790) rfl rfl rfl hd_X12_truth.2 ⟨Nat.le_of_ble_eq_true rfl, Nat.le_of_ble_eq_true rfl⟩) (pre_S hW hB_G hK hZ hS) rfl rfl hl.1 rfl (lv_room (Nat.le_of_ble_eq_true rfl)) dX12_done_228 ⟨Nat.le_of_ble_eq_true rfl, Nat.le_of_ble_eq_true rfl⟩) hS (fun r_87 G_88 H locs hpo hW hS => ?_)
        have hX_91 : Q_truth 0 G r_87 G_88 := hpo
        obtain ⟨hB_G_88, hq_89, f_92, hp_90, -⟩ := hpo
        have hF := hF.call9 hq_89 rfl rfl
        exact W.iret (v := r_87) hx hb hr (fun t ht _ => ⟨⟨r_87, G_88, rfl, (Q_done_mk ⟨hB_G_88, hF, (Or.inr ⟨(xI_ne (Y := 37) rfl rfl c_1), (Or.inr ⟨(xI_ne (Y := 38) rfl rfl c_4), (Or.inr ⟨(xI_ne (Y := 39) rfl rfl c_28), (Or.inr ⟨(xI_ne (Y := 40) rfl rfl c_52), (Or.inl ⟨c_76, (Or.inl ⟨c_77, (Or.inl ⟨c_85, ⟨r_87, G_88, hX_91, ⟨rfl, rfl⟩⟩⟩)⟩)⟩)⟩)⟩)⟩)⟩)⟩), wd_t ht hW⟩, hS.F ht⟩) hS.2.2 dX12_done_231
      · have c_85 : p2.toInt ≠ 0 := xI_ne rfl rfl c_85
        refine ic_1 hx hb dX12_done_223 ?_
        refine lv_goto (tgt := 228) hx hb dX12_done_224 rfl ?_
        have qc_93 : (1 : Int32).toInt = 1 := rfl
        refine S_calli (va_runS (As := [.int 1]) (rest := []) ⟨hx, hb, hml, hown, hts⟩ (n_truth l D k A a z G 1 ⟨by decide, by decide⟩) (va_cwS 1 hts (gd_S hgd m1788 m1789 m131 m1790) rfl rfl rfl hd_X12_truth.2 ⟨Nat.le_of_ble_eq_true rfl, Nat.le_of_ble_eq_true rfl⟩) (pre_S hW hB_G hK hZ hS) rfl rfl hl.1 rfl (lv_room (Nat.le_of_ble_eq_true rfl)) dX12_done_228 ⟨Nat.le_of_ble_eq_true rfl, Nat.le_of_ble_eq_true rfl⟩) hS (fun r_94 G_95 H locs hpo hW hS => ?_)
        have hX_98 : Q_truth 1 G r_94 G_95 := hpo
        obtain ⟨hB_G_95, hq_96, f_99, hp_97, -⟩ := hpo
        have hF := hF.call9 hq_96 rfl rfl
        exact W.iret (v := r_94) hx hb hr (fun t ht _ => ⟨⟨r_94, G_95, rfl, (Q_done_mk ⟨hB_G_95, hF, (Or.inr ⟨(xI_ne (Y := 37) rfl rfl c_1), (Or.inr ⟨(xI_ne (Y := 38) rfl rfl c_4), (Or.inr ⟨(xI_ne (Y := 39) rfl rfl c_28), (Or.inr ⟨(xI_ne (Y := 40) rfl rfl c_52), (Or.inl ⟨c_76, (Or.inl ⟨c_77, (Or.inr ⟨c_85, ⟨r_94, G_95, hX_98, ⟨rfl, rfl⟩⟩⟩)⟩)⟩)⟩)⟩)⟩)⟩)⟩), wd_t ht hW⟩, hS.F ht⟩) hS.2.2 dX12_done_231
  by_cases c_100 : p0 = 42
  · refine lv_tableIn (tgt := 128) hx hb dX12_done_1 (by rw [c_100]; decide) (by rw [c_100]; decide) (off := 127) (by rw [c_100]; decide) (by decide) ?_
    have c_100 : p0.toInt = 42 := xI_eq rfl rfl c_100
    refine lv_iload_n hx hb dX12_done_128 rfl (lv_at hl 1 rfl) ?_
    refine lv_iload_n hx hb dX12_done_129 rfl (lv_at hl 2 rfl) ?_
    refine lv_imul hx hb dX12_done_130 ?_
    refine lv_topi (fun y_101 ey_101 => ?_)
    exact W.iret (v := y_101) hx hb hr (fun t ht _ => ⟨⟨y_101, G, rfl, (Q_done_mk ⟨hB_G, hF, (Or.inr ⟨(xI_ne (Y := 37) rfl rfl c_1), (Or.inr ⟨(xI_ne (Y := 38) rfl rfl c_4), (Or.inr ⟨(xI_ne (Y := 39) rfl rfl c_28), (Or.inr ⟨(xI_ne (Y := 40) rfl rfl c_52), (Or.inr ⟨(xI_ne (Y := 41) rfl rfl c_76), (Or.inl ⟨c_100, ⟨y_101, ey_101, ⟨rfl, rfl⟩⟩⟩)⟩)⟩)⟩)⟩)⟩)⟩), wd_t ht hW⟩, hS.F ht⟩) hS.2.2 dX12_done_131
  by_cases c_102 : p0 = 43
  · refine lv_tableIn (tgt := 120) hx hb dX12_done_1 (by rw [c_102]; decide) (by rw [c_102]; decide) (off := 119) (by rw [c_102]; decide) (by decide) ?_
    have c_102 : p0.toInt = 43 := xI_eq rfl rfl c_102
    refine lv_iload_n hx hb dX12_done_120 rfl (lv_at hl 1 rfl) ?_
    refine lv_iload_n hx hb dX12_done_121 rfl (lv_at hl 2 rfl) ?_
    refine lv_iadd hx hb dX12_done_122 ?_
    refine lv_topi (fun y_103 ey_103 => ?_)
    exact W.iret (v := y_103) hx hb hr (fun t ht _ => ⟨⟨y_103, G, rfl, (Q_done_mk ⟨hB_G, hF, (Or.inr ⟨(xI_ne (Y := 37) rfl rfl c_1), (Or.inr ⟨(xI_ne (Y := 38) rfl rfl c_4), (Or.inr ⟨(xI_ne (Y := 39) rfl rfl c_28), (Or.inr ⟨(xI_ne (Y := 40) rfl rfl c_52), (Or.inr ⟨(xI_ne (Y := 41) rfl rfl c_76), (Or.inr ⟨(xI_ne (Y := 42) rfl rfl c_100), (Or.inl ⟨c_102, ⟨y_103, ey_103, ⟨rfl, rfl⟩⟩⟩)⟩)⟩)⟩)⟩)⟩)⟩)⟩), wd_t ht hW⟩, hS.F ht⟩) hS.2.2 dX12_done_123
  by_cases c_104 : p0 = 44
  · refine lv_tableIn (tgt := 215) hx hb dX12_done_1 (by rw [c_104]; decide) (by rw [c_104]; decide) (off := 214) (by rw [c_104]; decide) (by decide) ?_
    have c_104 : p0.toInt = 44 := xI_eq rfl rfl c_104
    refine lv_iload_n hx hb dX12_done_215 rfl (lv_at hl 1 rfl) ?_
    refine lv_if_ne (tgt := 223) hx hb dX12_done_216 rfl (fun c_105 => ?_) (fun c_105 => ?_)
    · have c_105 : p1.toInt ≠ 0 := xI_ne rfl rfl c_105
      refine ic_1 hx hb dX12_done_223 ?_
      refine lv_goto (tgt := 228) hx hb dX12_done_224 rfl ?_
      have qc_106 : (1 : Int32).toInt = 1 := rfl
      refine S_calli (va_runS (As := [.int 1]) (rest := []) ⟨hx, hb, hml, hown, hts⟩ (n_truth l D k A a z G 1 ⟨by decide, by decide⟩) (va_cwS 1 hts (gd_S hgd m1788 m1789 m131 m1790) rfl rfl rfl hd_X12_truth.2 ⟨Nat.le_of_ble_eq_true rfl, Nat.le_of_ble_eq_true rfl⟩) (pre_S hW hB_G hK hZ hS) rfl rfl hl.1 rfl (lv_room (Nat.le_of_ble_eq_true rfl)) dX12_done_228 ⟨Nat.le_of_ble_eq_true rfl, Nat.le_of_ble_eq_true rfl⟩) hS (fun r_107 G_108 H locs hpo hW hS => ?_)
      have hX_111 : Q_truth 1 G r_107 G_108 := hpo
      obtain ⟨hB_G_108, hq_109, f_112, hp_110, -⟩ := hpo
      have hF := hF.call9 hq_109 rfl rfl
      exact W.iret (v := r_107) hx hb hr (fun t ht _ => ⟨⟨r_107, G_108, rfl, (Q_done_mk ⟨hB_G_108, hF, (Or.inr ⟨(xI_ne (Y := 37) rfl rfl c_1), (Or.inr ⟨(xI_ne (Y := 38) rfl rfl c_4), (Or.inr ⟨(xI_ne (Y := 39) rfl rfl c_28), (Or.inr ⟨(xI_ne (Y := 40) rfl rfl c_52), (Or.inr ⟨(xI_ne (Y := 41) rfl rfl c_76), (Or.inr ⟨(xI_ne (Y := 42) rfl rfl c_100), (Or.inr ⟨(xI_ne (Y := 43) rfl rfl c_102), (Or.inl ⟨c_104, (Or.inr ⟨c_105, ⟨r_107, G_108, hX_111, ⟨rfl, rfl⟩⟩⟩)⟩)⟩)⟩)⟩)⟩)⟩)⟩)⟩)⟩), wd_t ht hW⟩, hS.F ht⟩) hS.2.2 dX12_done_231
    · have c_105 : p1.toInt = 0 := xI_eq rfl rfl c_105
      refine lv_iload_n hx hb dX12_done_219 rfl (lv_at hl 2 rfl) ?_
      refine lv_if_eq (tgt := 227) hx hb dX12_done_220 rfl (fun c_113 => ?_) (fun c_113 => ?_)
      · have c_113 : p2.toInt = 0 := xI_eq rfl rfl c_113
        refine ic_0 hx hb dX12_done_227 ?_
        have qc_114 : (0 : Int32).toInt = 0 := rfl
        refine S_calli (va_runS (As := [.int 0]) (rest := []) ⟨hx, hb, hml, hown, hts⟩ (n_truth l D k A a z G 0 ⟨by decide, by decide⟩) (va_cwS 1 hts (gd_S hgd m1788 m1789 m131 m1790) rfl rfl rfl hd_X12_truth.2 ⟨Nat.le_of_ble_eq_true rfl, Nat.le_of_ble_eq_true rfl⟩) (pre_S hW hB_G hK hZ hS) rfl rfl hl.1 rfl (lv_room (Nat.le_of_ble_eq_true rfl)) dX12_done_228 ⟨Nat.le_of_ble_eq_true rfl, Nat.le_of_ble_eq_true rfl⟩) hS (fun r_115 G_116 H locs hpo hW hS => ?_)
        have hX_119 : Q_truth 0 G r_115 G_116 := hpo
        obtain ⟨hB_G_116, hq_117, f_120, hp_118, -⟩ := hpo
        have hF := hF.call9 hq_117 rfl rfl
        exact W.iret (v := r_115) hx hb hr (fun t ht _ => ⟨⟨r_115, G_116, rfl, (Q_done_mk ⟨hB_G_116, hF, (Or.inr ⟨(xI_ne (Y := 37) rfl rfl c_1), (Or.inr ⟨(xI_ne (Y := 38) rfl rfl c_4), (Or.inr ⟨(xI_ne (Y := 39) rfl rfl c_28), (Or.inr ⟨(xI_ne (Y := 40) rfl rfl c_52), (Or.inr ⟨(xI_ne (Y := 41) rfl rfl c_76), (Or.inr ⟨(xI_ne (Y := 42) rfl rfl c_100), (Or.inr ⟨(xI_ne (Y := 43) rfl rfl c_102), (Or.inl ⟨c_104, (Or.inl ⟨c_105, (Or.inl ⟨c_113, ⟨r_115, G_116, hX_119, ⟨rfl, rfl⟩⟩⟩)⟩)⟩)⟩)⟩)⟩)⟩)⟩)⟩)⟩)⟩), wd_t ht hW⟩, hS.F ht⟩) hS.2.2 dX12_done_231
      · have c_113 : p2.toInt ≠ 0 := xI_ne rfl rfl c_113
        refine ic_1 hx hb dX12_done_223 ?_
        refine lv_goto (tgt := 228) hx hb dX12_done_224 rfl ?_
        have qc_121 : (1 : Int32).toInt = 1 := rfl
        refine S_calli (va_runS (As := [.int 1]) (rest := []) ⟨hx, hb, hml, hown, hts⟩ (n_truth l D k A a z G 1 ⟨by decide, by decide⟩) (va_cwS 1 hts (gd_S hgd m1788 m1789 m131 m1790) rfl rfl rfl hd_X12_truth.2 ⟨Nat.le_of_ble_eq_true rfl, Nat.le_of_ble_eq_true rfl⟩) (pre_S hW hB_G hK hZ hS) rfl rfl hl.1 rfl (lv_room (Nat.le_of_ble_eq_true rfl)) dX12_done_228 ⟨Nat.le_of_ble_eq_true rfl, Nat.le_of_ble_eq_true rfl⟩) hS (fun r_122 G_123 H locs hpo hW hS => ?_)
        have hX_126 : Q_truth 1 G r_122 G_123 := hpo
        obtain ⟨hB_G_123, hq_124, f_127, hp_125, -⟩ := hpo
        have hF := hF.call9 hq_124 rfl rfl
        exact W.iret (v := r_122) hx hb hr (fun t ht _ => ⟨⟨r_122, G_123, rfl, (Q_done_mk ⟨hB_G_123, hF, (Or.inr ⟨(xI_ne (Y := 37) rfl rfl c_1), (Or.inr ⟨(xI_ne (Y := 38) rfl rfl c_4), (Or.inr ⟨(xI_ne (Y := 39) rfl rfl c_28), (Or.inr ⟨(xI_ne (Y := 40) rfl rfl c_52), (Or.inr ⟨(xI_ne (Y := 41) rfl rfl c_76), (Or.inr ⟨(xI_ne (Y := 42) rfl rfl c_100), (Or.inr ⟨(xI_ne (Y := 43) rfl rfl c_102), (Or.inl ⟨c_104, (Or.inl ⟨c_105, (Or.inr ⟨c_113, ⟨r_122, G_123, hX_126, ⟨rfl, rfl⟩⟩⟩)⟩)⟩)⟩)⟩)⟩)⟩)⟩)⟩)⟩)⟩), wd_t ht hW⟩, hS.F ht⟩) hS.2.2 dX12_done_231
  by_cases c_128 : p0 = 45
  · refine lv_tableIn (tgt := 124) hx hb dX12_done_1 (by rw [c_128]; decide) (by rw [c_128]; decide) (off := 123) (by rw [c_128]; decide) (by decide) ?_
    have c_128 : p0.toInt = 45 := xI_eq rfl rfl c_128
    refine lv_iload_n hx hb dX12_done_124 rfl (lv_at hl 1 rfl) ?_
    refine lv_iload_n hx hb dX12_done_125 rfl (lv_at hl 2 rfl) ?_
    refine lv_isub hx hb dX12_done_126 ?_
    refine lv_topi (fun y_129 ey_129 => ?_)
    exact W.iret (v := y_129) hx hb hr (fun t ht _ => ⟨⟨y_129, G, rfl, (Q_done_mk ⟨hB_G, hF, (Or.inr ⟨(xI_ne (Y := 37) rfl rfl c_1), (Or.inr ⟨(xI_ne (Y := 38) rfl rfl c_4), (Or.inr ⟨(xI_ne (Y := 39) rfl rfl c_28), (Or.inr ⟨(xI_ne (Y := 40) rfl rfl c_52), (Or.inr ⟨(xI_ne (Y := 41) rfl rfl c_76), (Or.inr ⟨(xI_ne (Y := 42) rfl rfl c_100), (Or.inr ⟨(xI_ne (Y := 43) rfl rfl c_102), (Or.inr ⟨(xI_ne (Y := 44) rfl rfl c_104), (Or.inl ⟨c_128, ⟨y_129, ey_129, ⟨rfl, rfl⟩⟩⟩)⟩)⟩)⟩)⟩)⟩)⟩)⟩)⟩)⟩), wd_t ht hW⟩, hS.F ht⟩) hS.2.2 dX12_done_127
  by_cases c_130 : p0 = 46
  · refine lv_tableIn (tgt := 215) hx hb dX12_done_1 (by rw [c_130]; decide) (by rw [c_130]; decide) (off := 214) (by rw [c_130]; decide) (by decide) ?_
    have c_130 : p0.toInt = 46 := xI_eq rfl rfl c_130
    refine lv_iload_n hx hb dX12_done_215 rfl (lv_at hl 1 rfl) ?_
    refine lv_if_ne (tgt := 223) hx hb dX12_done_216 rfl (fun c_131 => ?_) (fun c_131 => ?_)
    · have c_131 : p1.toInt ≠ 0 := xI_ne rfl rfl c_131
      refine ic_1 hx hb dX12_done_223 ?_
      refine lv_goto (tgt := 228) hx hb dX12_done_224 rfl ?_
      have qc_132 : (1 : Int32).toInt = 1 := rfl
      refine S_calli (va_runS (As := [.int 1]) (rest := []) ⟨hx, hb, hml, hown, hts⟩ (n_truth l D k A a z G 1 ⟨by decide, by decide⟩) (va_cwS 1 hts (gd_S hgd m1788 m1789 m131 m1790) rfl rfl rfl hd_X12_truth.2 ⟨Nat.le_of_ble_eq_true rfl, Nat.le_of_ble_eq_true rfl⟩) (pre_S hW hB_G hK hZ hS) rfl rfl hl.1 rfl (lv_room (Nat.le_of_ble_eq_true rfl)) dX12_done_228 ⟨Nat.le_of_ble_eq_true rfl, Nat.le_of_ble_eq_true rfl⟩) hS (fun r_133 G_134 H locs hpo hW hS => ?_)
      have hX_137 : Q_truth 1 G r_133 G_134 := hpo
      obtain ⟨hB_G_134, hq_135, f_138, hp_136, -⟩ := hpo
      have hF := hF.call9 hq_135 rfl rfl
      exact W.iret (v := r_133) hx hb hr (fun t ht _ => ⟨⟨r_133, G_134, rfl, (Q_done_mk ⟨hB_G_134, hF, (Or.inr ⟨(xI_ne (Y := 37) rfl rfl c_1), (Or.inr ⟨(xI_ne (Y := 38) rfl rfl c_4), (Or.inr ⟨(xI_ne (Y := 39) rfl rfl c_28), (Or.inr ⟨(xI_ne (Y := 40) rfl rfl c_52), (Or.inr ⟨(xI_ne (Y := 41) rfl rfl c_76), (Or.inr ⟨(xI_ne (Y := 42) rfl rfl c_100), (Or.inr ⟨(xI_ne (Y := 43) rfl rfl c_102), (Or.inr ⟨(xI_ne (Y := 44) rfl rfl c_104), (Or.inr ⟨(xI_ne (Y := 45) rfl rfl c_128), (Or.inl ⟨c_130, (Or.inr ⟨c_131, ⟨r_133, G_134, hX_137, ⟨rfl, rfl⟩⟩⟩)⟩)⟩)⟩)⟩)⟩)⟩)⟩)⟩)⟩)⟩)⟩), wd_t ht hW⟩, hS.F ht⟩) hS.2.2 dX12_done_231
    · have c_131 : p1.toInt = 0 := xI_eq rfl rfl c_131
      refine lv_iload_n hx hb dX12_done_219 rfl (lv_at hl 2 rfl) ?_
      refine lv_if_eq (tgt := 227) hx hb dX12_done_220 rfl (fun c_139 => ?_) (fun c_139 => ?_)
      · have c_139 : p2.toInt = 0 := xI_eq rfl rfl c_139
        refine ic_0 hx hb dX12_done_227 ?_
        have qc_140 : (0 : Int32).toInt = 0 := rfl
        refine S_calli (va_runS (As := [.int 0]) (rest := []) ⟨hx, hb, hml, hown, hts⟩ (n_truth l D k A a z G 0 ⟨by decide, by decide⟩) (va_cwS 1 hts (gd_S hgd m1788 m1789 m131 m1790) rfl rfl rfl hd_X12_truth.2 ⟨Nat.le_of_ble_eq_true rfl, Nat.le_of_ble_eq_true rfl⟩) (pre_S hW hB_G hK hZ hS) rfl rfl hl.1 rfl (lv_room (Nat.le_of_ble_eq_true rfl)) dX12_done_228 ⟨Nat.le_of_ble_eq_true rfl, Nat.le_of_ble_eq_true rfl⟩) hS (fun r_141 G_142 H locs hpo hW hS => ?_)
        have hX_145 : Q_truth 0 G r_141 G_142 := hpo
        obtain ⟨hB_G_142, hq_143, f_146, hp_144, -⟩ := hpo
        have hF := hF.call9 hq_143 rfl rfl
        exact W.iret (v := r_141) hx hb hr (fun t ht _ => ⟨⟨r_141, G_142, rfl, (Q_done_mk ⟨hB_G_142, hF, (Or.inr ⟨(xI_ne (Y := 37) rfl rfl c_1), (Or.inr ⟨(xI_ne (Y := 38) rfl rfl c_4), (Or.inr ⟨(xI_ne (Y := 39) rfl rfl c_28), (Or.inr ⟨(xI_ne (Y := 40) rfl rfl c_52), (Or.inr ⟨(xI_ne (Y := 41) rfl rfl c_76), (Or.inr ⟨(xI_ne (Y := 42) rfl rfl c_100), (Or.inr ⟨(xI_ne (Y := 43) rfl rfl c_102), (Or.inr ⟨(xI_ne (Y := 44) rfl rfl c_104), (Or.inr ⟨(xI_ne (Y := 45) rfl rfl c_128), (Or.inl ⟨c_130, (Or.inl ⟨c_131, (Or.inl ⟨c_139, ⟨r_141, G_142, hX_145, ⟨rfl, rfl⟩⟩⟩)⟩)⟩)⟩)⟩)⟩)⟩)⟩)⟩)⟩)⟩)⟩)⟩), wd_t ht hW⟩, hS.F ht⟩) hS.2.2 dX12_done_231
      · have c_139 : p2.toInt ≠ 0 := xI_ne rfl rfl c_139
        refine ic_1 hx hb dX12_done_223 ?_
        refine lv_goto (tgt := 228) hx hb dX12_done_224 rfl ?_
        have qc_147 : (1 : Int32).toInt = 1 := rfl
        refine S_calli (va_runS (As := [.int 1]) (rest := []) ⟨hx, hb, hml, hown, hts⟩ (n_truth l D k A a z G 1 ⟨by decide, by decide⟩) (va_cwS 1 hts (gd_S hgd m1788 m1789 m131 m1790) rfl rfl rfl hd_X12_truth.2 ⟨Nat.le_of_ble_eq_true rfl, Nat.le_of_ble_eq_true rfl⟩) (pre_S hW hB_G hK hZ hS) rfl rfl hl.1 rfl (lv_room (Nat.le_of_ble_eq_true rfl)) dX12_done_228 ⟨Nat.le_of_ble_eq_true rfl, Nat.le_of_ble_eq_true rfl⟩) hS (fun r_148 G_149 H locs hpo hW hS => ?_)
        have hX_152 : Q_truth 1 G r_148 G_149 := hpo
        obtain ⟨hB_G_149, hq_150, f_153, hp_151, -⟩ := hpo
        have hF := hF.call9 hq_150 rfl rfl
        exact W.iret (v := r_148) hx hb hr (fun t ht _ => ⟨⟨r_148, G_149, rfl, (Q_done_mk ⟨hB_G_149, hF, (Or.inr ⟨(xI_ne (Y := 37) rfl rfl c_1), (Or.inr ⟨(xI_ne (Y := 38) rfl rfl c_4), (Or.inr ⟨(xI_ne (Y := 39) rfl rfl c_28), (Or.inr ⟨(xI_ne (Y := 40) rfl rfl c_52), (Or.inr ⟨(xI_ne (Y := 41) rfl rfl c_76), (Or.inr ⟨(xI_ne (Y := 42) rfl rfl c_100), (Or.inr ⟨(xI_ne (Y := 43) rfl rfl c_102), (Or.inr ⟨(xI_ne (Y := 44) rfl rfl c_104), (Or.inr ⟨(xI_ne (Y := 45) rfl rfl c_128), (Or.inl ⟨c_130, (Or.inl ⟨c_131, (Or.inr ⟨c_139, ⟨r_148, G_149, hX_152, ⟨rfl, rfl⟩⟩⟩)⟩)⟩)⟩)⟩)⟩)⟩)⟩)⟩)⟩)⟩)⟩)⟩), wd_t ht hW⟩, hS.F ht⟩) hS.2.2 dX12_done_231
  by_cases c_154 : p0 = 47
  · refine lv_tableIn (tgt := 132) hx hb dX12_done_1 (by rw [c_154]; decide) (by rw [c_154]; decide) (off := 131) (by rw [c_154]; decide) (by decide) ?_
    have c_154 : p0.toInt = 47 := xI_eq rfl rfl c_154
    refine lv_iload_n hx hb dX12_done_132 rfl (lv_at hl 2 rfl) ?_
    refine lv_if_ne (tgt := 140) hx hb dX12_done_133 rfl (fun c_155 => ?_) (fun c_155 => ?_)
    · have c_155 : p2.toInt ≠ 0 := xI_ne rfl rfl c_155
      refine lv_iload_n hx hb dX12_done_140 rfl (lv_at hl 1 rfl) ?_
      refine lv_iload_n hx hb dX12_done_141 rfl (lv_at hl 2 rfl) ?_
      refine lv_idiv hx hb dX12_done_142 (fun q => by have q := xI_eq (Y := 0) rfl rfl q; omega) ?_
      refine lv_topi (fun y_156 ey_156 => ?_)
      exact W.iret (v := y_156) hx hb hr (fun t ht _ => ⟨⟨y_156, G, rfl, (Q_done_mk ⟨hB_G, hF, (Or.inr ⟨(xI_ne (Y := 37) rfl rfl c_1), (Or.inr ⟨(xI_ne (Y := 38) rfl rfl c_4), (Or.inr ⟨(xI_ne (Y := 39) rfl rfl c_28), (Or.inr ⟨(xI_ne (Y := 40) rfl rfl c_52), (Or.inr ⟨(xI_ne (Y := 41) rfl rfl c_76), (Or.inr ⟨(xI_ne (Y := 42) rfl rfl c_100), (Or.inr ⟨(xI_ne (Y := 43) rfl rfl c_102), (Or.inr ⟨(xI_ne (Y := 44) rfl rfl c_104), (Or.inr ⟨(xI_ne (Y := 45) rfl rfl c_128), (Or.inr ⟨(xI_ne (Y := 46) rfl rfl c_130), (Or.inl ⟨c_154, (Or.inr ⟨c_155, ⟨y_156, ey_156, ⟨rfl, rfl⟩⟩⟩)⟩)⟩)⟩)⟩)⟩)⟩)⟩)⟩)⟩)⟩)⟩)⟩), wd_t ht hW⟩, hS.F ht⟩) hS.2.2 dX12_done_143
    · have c_155 : p2.toInt = 0 := xI_eq rfl rfl c_155
      refine ic_0 hx hb dX12_done_136 ?_
      refine lv_goto (tgt := 143) hx hb dX12_done_137 rfl ?_
      exact W.iret (v := 0) hx hb hr (fun t ht _ => ⟨⟨0, G, rfl, (Q_done_mk ⟨hB_G, hF, (Or.inr ⟨(xI_ne (Y := 37) rfl rfl c_1), (Or.inr ⟨(xI_ne (Y := 38) rfl rfl c_4), (Or.inr ⟨(xI_ne (Y := 39) rfl rfl c_28), (Or.inr ⟨(xI_ne (Y := 40) rfl rfl c_52), (Or.inr ⟨(xI_ne (Y := 41) rfl rfl c_76), (Or.inr ⟨(xI_ne (Y := 42) rfl rfl c_100), (Or.inr ⟨(xI_ne (Y := 43) rfl rfl c_102), (Or.inr ⟨(xI_ne (Y := 44) rfl rfl c_104), (Or.inr ⟨(xI_ne (Y := 45) rfl rfl c_128), (Or.inr ⟨(xI_ne (Y := 46) rfl rfl c_130), (Or.inl ⟨c_154, (Or.inl ⟨c_155, ⟨rfl, rfl⟩⟩)⟩)⟩)⟩)⟩)⟩)⟩)⟩)⟩)⟩)⟩)⟩)⟩), wd_t ht hW⟩, hS.F ht⟩) hS.2.2 dX12_done_143
  by_cases c_157 : p0 = 48
  · refine lv_tableIn (tgt := 215) hx hb dX12_done_1 (by rw [c_157]; decide) (by rw [c_157]; decide) (off := 214) (by rw [c_157]; decide) (by decide) ?_
    have c_157 : p0.toInt = 48 := xI_eq rfl rfl c_157
    refine lv_iload_n hx hb dX12_done_215 rfl (lv_at hl 1 rfl) ?_
    refine lv_if_ne (tgt := 223) hx hb dX12_done_216 rfl (fun c_158 => ?_) (fun c_158 => ?_)
    · have c_158 : p1.toInt ≠ 0 := xI_ne rfl rfl c_158
      refine ic_1 hx hb dX12_done_223 ?_
      refine lv_goto (tgt := 228) hx hb dX12_done_224 rfl ?_
      have qc_159 : (1 : Int32).toInt = 1 := rfl
      refine S_calli (va_runS (As := [.int 1]) (rest := []) ⟨hx, hb, hml, hown, hts⟩ (n_truth l D k A a z G 1 ⟨by decide, by decide⟩) (va_cwS 1 hts (gd_S hgd m1788 m1789 m131 m1790) rfl rfl rfl hd_X12_truth.2 ⟨Nat.le_of_ble_eq_true rfl, Nat.le_of_ble_eq_true rfl⟩) (pre_S hW hB_G hK hZ hS) rfl rfl hl.1 rfl (lv_room (Nat.le_of_ble_eq_true rfl)) dX12_done_228 ⟨Nat.le_of_ble_eq_true rfl, Nat.le_of_ble_eq_true rfl⟩) hS (fun r_160 G_161 H locs hpo hW hS => ?_)
      have hX_164 : Q_truth 1 G r_160 G_161 := hpo
      obtain ⟨hB_G_161, hq_162, f_165, hp_163, -⟩ := hpo
      have hF := hF.call9 hq_162 rfl rfl
      exact W.iret (v := r_160) hx hb hr (fun t ht _ => ⟨⟨r_160, G_161, rfl, (Q_done_mk ⟨hB_G_161, hF, (Or.inr ⟨(xI_ne (Y := 37) rfl rfl c_1), (Or.inr ⟨(xI_ne (Y := 38) rfl rfl c_4), (Or.inr ⟨(xI_ne (Y := 39) rfl rfl c_28), (Or.inr ⟨(xI_ne (Y := 40) rfl rfl c_52), (Or.inr ⟨(xI_ne (Y := 41) rfl rfl c_76), (Or.inr ⟨(xI_ne (Y := 42) rfl rfl c_100), (Or.inr ⟨(xI_ne (Y := 43) rfl rfl c_102), (Or.inr ⟨(xI_ne (Y := 44) rfl rfl c_104), (Or.inr ⟨(xI_ne (Y := 45) rfl rfl c_128), (Or.inr ⟨(xI_ne (Y := 46) rfl rfl c_130), (Or.inr ⟨(xI_ne (Y := 47) rfl rfl c_154), (Or.inl ⟨c_157, (Or.inr ⟨c_158, ⟨r_160, G_161, hX_164, ⟨rfl, rfl⟩⟩⟩)⟩)⟩)⟩)⟩)⟩)⟩)⟩)⟩)⟩)⟩)⟩)⟩)⟩), wd_t ht hW⟩, hS.F ht⟩) hS.2.2 dX12_done_231
    · have c_158 : p1.toInt = 0 := xI_eq rfl rfl c_158
      refine lv_iload_n hx hb dX12_done_219 rfl (lv_at hl 2 rfl) ?_
      refine lv_if_eq (tgt := 227) hx hb dX12_done_220 rfl (fun c_166 => ?_) (fun c_166 => ?_)
      · have c_166 : p2.toInt = 0 := xI_eq rfl rfl c_166
        refine ic_0 hx hb dX12_done_227 ?_
        have qc_167 : (0 : Int32).toInt = 0 := rfl
        refine S_calli (va_runS (As := [.int 0]) (rest := []) ⟨hx, hb, hml, hown, hts⟩ (n_truth l D k A a z G 0 ⟨by decide, by decide⟩) (va_cwS 1 hts (gd_S hgd m1788 m1789 m131 m1790) rfl rfl rfl hd_X12_truth.2 ⟨Nat.le_of_ble_eq_true rfl, Nat.le_of_ble_eq_true rfl⟩) (pre_S hW hB_G hK hZ hS) rfl rfl hl.1 rfl (lv_room (Nat.le_of_ble_eq_true rfl)) dX12_done_228 ⟨Nat.le_of_ble_eq_true rfl, Nat.le_of_ble_eq_true rfl⟩) hS (fun r_168 G_169 H locs hpo hW hS => ?_)
        have hX_172 : Q_truth 0 G r_168 G_169 := hpo
        obtain ⟨hB_G_169, hq_170, f_173, hp_171, -⟩ := hpo
        have hF := hF.call9 hq_170 rfl rfl
        exact W.iret (v := r_168) hx hb hr (fun t ht _ => ⟨⟨r_168, G_169, rfl, (Q_done_mk ⟨hB_G_169, hF, (Or.inr ⟨(xI_ne (Y := 37) rfl rfl c_1), (Or.inr ⟨(xI_ne (Y := 38) rfl rfl c_4), (Or.inr ⟨(xI_ne (Y := 39) rfl rfl c_28), (Or.inr ⟨(xI_ne (Y := 40) rfl rfl c_52), (Or.inr ⟨(xI_ne (Y := 41) rfl rfl c_76), (Or.inr ⟨(xI_ne (Y := 42) rfl rfl c_100), (Or.inr ⟨(xI_ne (Y := 43) rfl rfl c_102), (Or.inr ⟨(xI_ne (Y := 44) rfl rfl c_104), (Or.inr ⟨(xI_ne (Y := 45) rfl rfl c_128), (Or.inr ⟨(xI_ne (Y := 46) rfl rfl c_130), (Or.inr ⟨(xI_ne (Y := 47) rfl rfl c_154), (Or.inl ⟨c_157, (Or.inl ⟨c_158, (Or.inl ⟨c_166, ⟨r_168, G_169, hX_172, ⟨rfl, rfl⟩⟩⟩)⟩)⟩)⟩)⟩)⟩)⟩)⟩)⟩)⟩)⟩)⟩)⟩)⟩)⟩), wd_t ht hW⟩, hS.F ht⟩) hS.2.2 dX12_done_231
      · have c_166 : p2.toInt ≠ 0 := xI_ne rfl rfl c_166
        refine ic_1 hx hb dX12_done_223 ?_
        refine lv_goto (tgt := 228) hx hb dX12_done_224 rfl ?_
        have qc_174 : (1 : Int32).toInt = 1 := rfl
        refine S_calli (va_runS (As := [.int 1]) (rest := []) ⟨hx, hb, hml, hown, hts⟩ (n_truth l D k A a z G 1 ⟨by decide, by decide⟩) (va_cwS 1 hts (gd_S hgd m1788 m1789 m131 m1790) rfl rfl rfl hd_X12_truth.2 ⟨Nat.le_of_ble_eq_true rfl, Nat.le_of_ble_eq_true rfl⟩) (pre_S hW hB_G hK hZ hS) rfl rfl hl.1 rfl (lv_room (Nat.le_of_ble_eq_true rfl)) dX12_done_228 ⟨Nat.le_of_ble_eq_true rfl, Nat.le_of_ble_eq_true rfl⟩) hS (fun r_175 G_176 H locs hpo hW hS => ?_)
        have hX_179 : Q_truth 1 G r_175 G_176 := hpo
        obtain ⟨hB_G_176, hq_177, f_180, hp_178, -⟩ := hpo
        have hF := hF.call9 hq_177 rfl rfl
        exact W.iret (v := r_175) hx hb hr (fun t ht _ => ⟨⟨r_175, G_176, rfl, (Q_done_mk ⟨hB_G_176, hF, (Or.inr ⟨(xI_ne (Y := 37) rfl rfl c_1), (Or.inr ⟨(xI_ne (Y := 38) rfl rfl c_4), (Or.inr ⟨(xI_ne (Y := 39) rfl rfl c_28), (Or.inr ⟨(xI_ne (Y := 40) rfl rfl c_52), (Or.inr ⟨(xI_ne (Y := 41) rfl rfl c_76), (Or.inr ⟨(xI_ne (Y := 42) rfl rfl c_100), (Or.inr ⟨(xI_ne (Y := 43) rfl rfl c_102), (Or.inr ⟨(xI_ne (Y := 44) rfl rfl c_104), (Or.inr ⟨(xI_ne (Y := 45) rfl rfl c_128), (Or.inr ⟨(xI_ne (Y := 46) rfl rfl c_130), (Or.inr ⟨(xI_ne (Y := 47) rfl rfl c_154), (Or.inl ⟨c_157, (Or.inl ⟨c_158, (Or.inr ⟨c_166, ⟨r_175, G_176, hX_179, ⟨rfl, rfl⟩⟩⟩)⟩)⟩)⟩)⟩)⟩)⟩)⟩)⟩)⟩)⟩)⟩)⟩)⟩)⟩), wd_t ht hW⟩, hS.F ht⟩) hS.2.2 dX12_done_231
  by_cases c_181 : p0 = 49
  · refine lv_tableIn (tgt := 215) hx hb dX12_done_1 (by rw [c_181]; decide) (by rw [c_181]; decide) (off := 214) (by rw [c_181]; decide) (by decide) ?_
    have c_181 : p0.toInt = 49 := xI_eq rfl rfl c_181
    refine lv_iload_n hx hb dX12_done_215 rfl (lv_at hl 1 rfl) ?_
    refine lv_if_ne (tgt := 223) hx hb dX12_done_216 rfl (fun c_182 => ?_) (fun c_182 => ?_)
    · have c_182 : p1.toInt ≠ 0 := xI_ne rfl rfl c_182
      refine ic_1 hx hb dX12_done_223 ?_
      refine lv_goto (tgt := 228) hx hb dX12_done_224 rfl ?_
      have qc_183 : (1 : Int32).toInt = 1 := rfl
      refine S_calli (va_runS (As := [.int 1]) (rest := []) ⟨hx, hb, hml, hown, hts⟩ (n_truth l D k A a z G 1 ⟨by decide, by decide⟩) (va_cwS 1 hts (gd_S hgd m1788 m1789 m131 m1790) rfl rfl rfl hd_X12_truth.2 ⟨Nat.le_of_ble_eq_true rfl, Nat.le_of_ble_eq_true rfl⟩) (pre_S hW hB_G hK hZ hS) rfl rfl hl.1 rfl (lv_room (Nat.le_of_ble_eq_true rfl)) dX12_done_228 ⟨Nat.le_of_ble_eq_true rfl, Nat.le_of_ble_eq_true rfl⟩) hS (fun r_184 G_185 H locs hpo hW hS => ?_)
      have hX_188 : Q_truth 1 G r_184 G_185 := hpo
      obtain ⟨hB_G_185, hq_186, f_189, hp_187, -⟩ := hpo
      have hF := hF.call9 hq_186 rfl rfl
      exact W.iret (v := r_184) hx hb hr (fun t ht _ => ⟨⟨r_184, G_185, rfl, (Q_done_mk ⟨hB_G_185, hF, (Or.inr ⟨(xI_ne (Y := 37) rfl rfl c_1), (Or.inr ⟨(xI_ne (Y := 38) rfl rfl c_4), (Or.inr ⟨(xI_ne (Y := 39) rfl rfl c_28), (Or.inr ⟨(xI_ne (Y := 40) rfl rfl c_52), (Or.inr ⟨(xI_ne (Y := 41) rfl rfl c_76), (Or.inr ⟨(xI_ne (Y := 42) rfl rfl c_100), (Or.inr ⟨(xI_ne (Y := 43) rfl rfl c_102), (Or.inr ⟨(xI_ne (Y := 44) rfl rfl c_104), (Or.inr ⟨(xI_ne (Y := 45) rfl rfl c_128), (Or.inr ⟨(xI_ne (Y := 46) rfl rfl c_130), (Or.inr ⟨(xI_ne (Y := 47) rfl rfl c_154), (Or.inr ⟨(xI_ne (Y := 48) rfl rfl c_157), (Or.inl ⟨c_181, (Or.inr ⟨c_182, ⟨r_184, G_185, hX_188, ⟨rfl, rfl⟩⟩⟩)⟩)⟩)⟩)⟩)⟩)⟩)⟩)⟩)⟩)⟩)⟩)⟩)⟩)⟩), wd_t ht hW⟩, hS.F ht⟩) hS.2.2 dX12_done_231
    · have c_182 : p1.toInt = 0 := xI_eq rfl rfl c_182
      refine lv_iload_n hx hb dX12_done_219 rfl (lv_at hl 2 rfl) ?_
      refine lv_if_eq (tgt := 227) hx hb dX12_done_220 rfl (fun c_190 => ?_) (fun c_190 => ?_)
      · have c_190 : p2.toInt = 0 := xI_eq rfl rfl c_190
        refine ic_0 hx hb dX12_done_227 ?_
        have qc_191 : (0 : Int32).toInt = 0 := rfl
        refine S_calli (va_runS (As := [.int 0]) (rest := []) ⟨hx, hb, hml, hown, hts⟩ (n_truth l D k A a z G 0 ⟨by decide, by decide⟩) (va_cwS 1 hts (gd_S hgd m1788 m1789 m131 m1790) rfl rfl rfl hd_X12_truth.2 ⟨Nat.le_of_ble_eq_true rfl, Nat.le_of_ble_eq_true rfl⟩) (pre_S hW hB_G hK hZ hS) rfl rfl hl.1 rfl (lv_room (Nat.le_of_ble_eq_true rfl)) dX12_done_228 ⟨Nat.le_of_ble_eq_true rfl, Nat.le_of_ble_eq_true rfl⟩) hS (fun r_192 G_193 H locs hpo hW hS => ?_)
        have hX_196 : Q_truth 0 G r_192 G_193 := hpo
        obtain ⟨hB_G_193, hq_194, f_197, hp_195, -⟩ := hpo
        have hF := hF.call9 hq_194 rfl rfl
        exact W.iret (v := r_192) hx hb hr (fun t ht _ => ⟨⟨r_192, G_193, rfl, (Q_done_mk ⟨hB_G_193, hF, (Or.inr ⟨(xI_ne (Y := 37) rfl rfl c_1), (Or.inr ⟨(xI_ne (Y := 38) rfl rfl c_4), (Or.inr ⟨(xI_ne (Y := 39) rfl rfl c_28), (Or.inr ⟨(xI_ne (Y := 40) rfl rfl c_52), (Or.inr ⟨(xI_ne (Y := 41) rfl rfl c_76), (Or.inr ⟨(xI_ne (Y := 42) rfl rfl c_100), (Or.inr ⟨(xI_ne (Y := 43) rfl rfl c_102), (Or.inr ⟨(xI_ne (Y := 44) rfl rfl c_104), (Or.inr ⟨(xI_ne (Y := 45) rfl rfl c_128), (Or.inr ⟨(xI_ne (Y := 46) rfl rfl c_130), (Or.inr ⟨(xI_ne (Y := 47) rfl rfl c_154), (Or.inr ⟨(xI_ne (Y := 48) rfl rfl c_157), (Or.inl ⟨c_181, (Or.inl ⟨c_182, (Or.inl ⟨c_190, ⟨r_192, G_193, hX_196, ⟨rfl, rfl⟩⟩⟩)⟩)⟩)⟩)⟩)⟩)⟩)⟩)⟩)⟩)⟩)⟩)⟩)⟩)⟩)⟩), wd_t ht hW⟩, hS.F ht⟩) hS.2.2 dX12_done_231
      · have c_190 : p2.toInt ≠ 0 := xI_ne rfl rfl c_190
        refine ic_1 hx hb dX12_done_223 ?_
        refine lv_goto (tgt := 228) hx hb dX12_done_224 rfl ?_
        have qc_198 : (1 : Int32).toInt = 1 := rfl
        refine S_calli (va_runS (As := [.int 1]) (rest := []) ⟨hx, hb, hml, hown, hts⟩ (n_truth l D k A a z G 1 ⟨by decide, by decide⟩) (va_cwS 1 hts (gd_S hgd m1788 m1789 m131 m1790) rfl rfl rfl hd_X12_truth.2 ⟨Nat.le_of_ble_eq_true rfl, Nat.le_of_ble_eq_true rfl⟩) (pre_S hW hB_G hK hZ hS) rfl rfl hl.1 rfl (lv_room (Nat.le_of_ble_eq_true rfl)) dX12_done_228 ⟨Nat.le_of_ble_eq_true rfl, Nat.le_of_ble_eq_true rfl⟩) hS (fun r_199 G_200 H locs hpo hW hS => ?_)
        have hX_203 : Q_truth 1 G r_199 G_200 := hpo
        obtain ⟨hB_G_200, hq_201, f_204, hp_202, -⟩ := hpo
        have hF := hF.call9 hq_201 rfl rfl
        exact W.iret (v := r_199) hx hb hr (fun t ht _ => ⟨⟨r_199, G_200, rfl, (Q_done_mk ⟨hB_G_200, hF, (Or.inr ⟨(xI_ne (Y := 37) rfl rfl c_1), (Or.inr ⟨(xI_ne (Y := 38) rfl rfl c_4), (Or.inr ⟨(xI_ne (Y := 39) rfl rfl c_28), (Or.inr ⟨(xI_ne (Y := 40) rfl rfl c_52), (Or.inr ⟨(xI_ne (Y := 41) rfl rfl c_76), (Or.inr ⟨(xI_ne (Y := 42) rfl rfl c_100), (Or.inr ⟨(xI_ne (Y := 43) rfl rfl c_102), (Or.inr ⟨(xI_ne (Y := 44) rfl rfl c_104), (Or.inr ⟨(xI_ne (Y := 45) rfl rfl c_128), (Or.inr ⟨(xI_ne (Y := 46) rfl rfl c_130), (Or.inr ⟨(xI_ne (Y := 47) rfl rfl c_154), (Or.inr ⟨(xI_ne (Y := 48) rfl rfl c_157), (Or.inl ⟨c_181, (Or.inl ⟨c_182, (Or.inr ⟨c_190, ⟨r_199, G_200, hX_203, ⟨rfl, rfl⟩⟩⟩)⟩)⟩)⟩)⟩)⟩)⟩)⟩)⟩)⟩)⟩)⟩)⟩)⟩)⟩)⟩), wd_t ht hW⟩, hS.F ht⟩) hS.2.2 dX12_done_231
  by_cases c_205 : p0 = 50
  · refine lv_tableIn (tgt := 215) hx hb dX12_done_1 (by rw [c_205]; decide) (by rw [c_205]; decide) (off := 214) (by rw [c_205]; decide) (by decide) ?_
    have c_205 : p0.toInt = 50 := xI_eq rfl rfl c_205
    refine lv_iload_n hx hb dX12_done_215 rfl (lv_at hl 1 rfl) ?_
    refine lv_if_ne (tgt := 223) hx hb dX12_done_216 rfl (fun c_206 => ?_) (fun c_206 => ?_)
    · have c_206 : p1.toInt ≠ 0 := xI_ne rfl rfl c_206
      refine ic_1 hx hb dX12_done_223 ?_
      refine lv_goto (tgt := 228) hx hb dX12_done_224 rfl ?_
      have qc_207 : (1 : Int32).toInt = 1 := rfl
      refine S_calli (va_runS (As := [.int 1]) (rest := []) ⟨hx, hb, hml, hown, hts⟩ (n_truth l D k A a z G 1 ⟨by decide, by decide⟩) (va_cwS 1 hts (gd_S hgd m1788 m1789 m131 m1790) rfl rfl rfl hd_X12_truth.2 ⟨Nat.le_of_ble_eq_true rfl, Nat.le_of_ble_eq_true rfl⟩) (pre_S hW hB_G hK hZ hS) rfl rfl hl.1 rfl (lv_room (Nat.le_of_ble_eq_true rfl)) dX12_done_228 ⟨Nat.le_of_ble_eq_true rfl, Nat.le_of_ble_eq_true rfl⟩) hS (fun r_208 G_209 H locs hpo hW hS => ?_)
      have hX_212 : Q_truth 1 G r_208 G_209 := hpo
      obtain ⟨hB_G_209, hq_210, f_213, hp_211, -⟩ := hpo
      have hF := hF.call9 hq_210 rfl rfl
      exact W.iret (v := r_208) hx hb hr (fun t ht _ => ⟨⟨r_208, G_209, rfl, (Q_done_mk ⟨hB_G_209, hF, (Or.inr ⟨(xI_ne (Y := 37) rfl rfl c_1), (Or.inr ⟨(xI_ne (Y := 38) rfl rfl c_4), (Or.inr ⟨(xI_ne (Y := 39) rfl rfl c_28), (Or.inr ⟨(xI_ne (Y := 40) rfl rfl c_52), (Or.inr ⟨(xI_ne (Y := 41) rfl rfl c_76), (Or.inr ⟨(xI_ne (Y := 42) rfl rfl c_100), (Or.inr ⟨(xI_ne (Y := 43) rfl rfl c_102), (Or.inr ⟨(xI_ne (Y := 44) rfl rfl c_104), (Or.inr ⟨(xI_ne (Y := 45) rfl rfl c_128), (Or.inr ⟨(xI_ne (Y := 46) rfl rfl c_130), (Or.inr ⟨(xI_ne (Y := 47) rfl rfl c_154), (Or.inr ⟨(xI_ne (Y := 48) rfl rfl c_157), (Or.inr ⟨(xI_ne (Y := 49) rfl rfl c_181), (Or.inl ⟨c_205, (Or.inr ⟨c_206, ⟨r_208, G_209, hX_212, ⟨rfl, rfl⟩⟩⟩)⟩)⟩)⟩)⟩)⟩)⟩)⟩)⟩)⟩)⟩)⟩)⟩)⟩)⟩)⟩), wd_t ht hW⟩, hS.F ht⟩) hS.2.2 dX12_done_231
    · have c_206 : p1.toInt = 0 := xI_eq rfl rfl c_206
      refine lv_iload_n hx hb dX12_done_219 rfl (lv_at hl 2 rfl) ?_
      refine lv_if_eq (tgt := 227) hx hb dX12_done_220 rfl (fun c_214 => ?_) (fun c_214 => ?_)
      · have c_214 : p2.toInt = 0 := xI_eq rfl rfl c_214
        refine ic_0 hx hb dX12_done_227 ?_
        have qc_215 : (0 : Int32).toInt = 0 := rfl
        refine S_calli (va_runS (As := [.int 0]) (rest := []) ⟨hx, hb, hml, hown, hts⟩ (n_truth l D k A a z G 0 ⟨by decide, by decide⟩) (va_cwS 1 hts (gd_S hgd m1788 m1789 m131 m1790) rfl rfl rfl hd_X12_truth.2 ⟨Nat.le_of_ble_eq_true rfl, Nat.le_of_ble_eq_true rfl⟩) (pre_S hW hB_G hK hZ hS) rfl rfl hl.1 rfl (lv_room (Nat.le_of_ble_eq_true rfl)) dX12_done_228 ⟨Nat.le_of_ble_eq_true rfl, Nat.le_of_ble_eq_true rfl⟩) hS (fun r_216 G_217 H locs hpo hW hS => ?_)
        have hX_220 : Q_truth 0 G r_216 G_217 := hpo
        obtain ⟨hB_G_217, hq_218, f_221, hp_219, -⟩ := hpo
        have hF := hF.call9 hq_218 rfl rfl
        exact W.iret (v := r_216) hx hb hr (fun t ht _ => ⟨⟨r_216, G_217, rfl, (Q_done_mk ⟨hB_G_217, hF, (Or.inr ⟨(xI_ne (Y := 37) rfl rfl c_1), (Or.inr ⟨(xI_ne (Y := 38) rfl rfl c_4), (Or.inr ⟨(xI_ne (Y := 39) rfl rfl c_28), (Or.inr ⟨(xI_ne (Y := 40) rfl rfl c_52), (Or.inr ⟨(xI_ne (Y := 41) rfl rfl c_76), (Or.inr ⟨(xI_ne (Y := 42) rfl rfl c_100), (Or.inr ⟨(xI_ne (Y := 43) rfl rfl c_102), (Or.inr ⟨(xI_ne (Y := 44) rfl rfl c_104), (Or.inr ⟨(xI_ne (Y := 45) rfl rfl c_128), (Or.inr ⟨(xI_ne (Y := 46) rfl rfl c_130), (Or.inr ⟨(xI_ne (Y := 47) rfl rfl c_154), (Or.inr ⟨(xI_ne (Y := 48) rfl rfl c_157), (Or.inr ⟨(xI_ne (Y := 49) rfl rfl c_181), (Or.inl ⟨c_205, (Or.inl ⟨c_206, (Or.inl ⟨c_214, ⟨r_216, G_217, hX_220, ⟨rfl, rfl⟩⟩⟩)⟩)⟩)⟩)⟩)⟩)⟩)⟩)⟩)⟩)⟩)⟩)⟩)⟩)⟩)⟩)⟩), wd_t ht hW⟩, hS.F ht⟩) hS.2.2 dX12_done_231
      · have c_214 : p2.toInt ≠ 0 := xI_ne rfl rfl c_214
        refine ic_1 hx hb dX12_done_223 ?_
        refine lv_goto (tgt := 228) hx hb dX12_done_224 rfl ?_
        have qc_222 : (1 : Int32).toInt = 1 := rfl
        refine S_calli (va_runS (As := [.int 1]) (rest := []) ⟨hx, hb, hml, hown, hts⟩ (n_truth l D k A a z G 1 ⟨by decide, by decide⟩) (va_cwS 1 hts (gd_S hgd m1788 m1789 m131 m1790) rfl rfl rfl hd_X12_truth.2 ⟨Nat.le_of_ble_eq_true rfl, Nat.le_of_ble_eq_true rfl⟩) (pre_S hW hB_G hK hZ hS) rfl rfl hl.1 rfl (lv_room (Nat.le_of_ble_eq_true rfl)) dX12_done_228 ⟨Nat.le_of_ble_eq_true rfl, Nat.le_of_ble_eq_true rfl⟩) hS (fun r_223 G_224 H locs hpo hW hS => ?_)
        have hX_227 : Q_truth 1 G r_223 G_224 := hpo
        obtain ⟨hB_G_224, hq_225, f_228, hp_226, -⟩ := hpo
        have hF := hF.call9 hq_225 rfl rfl
        exact W.iret (v := r_223) hx hb hr (fun t ht _ => ⟨⟨r_223, G_224, rfl, (Q_done_mk ⟨hB_G_224, hF, (Or.inr ⟨(xI_ne (Y := 37) rfl rfl c_1), (Or.inr ⟨(xI_ne (Y := 38) rfl rfl c_4), (Or.inr ⟨(xI_ne (Y := 39) rfl rfl c_28), (Or.inr ⟨(xI_ne (Y := 40) rfl rfl c_52), (Or.inr ⟨(xI_ne (Y := 41) rfl rfl c_76), (Or.inr ⟨(xI_ne (Y := 42) rfl rfl c_100), (Or.inr ⟨(xI_ne (Y := 43) rfl rfl c_102), (Or.inr ⟨(xI_ne (Y := 44) rfl rfl c_104), (Or.inr ⟨(xI_ne (Y := 45) rfl rfl c_128), (Or.inr ⟨(xI_ne (Y := 46) rfl rfl c_130), (Or.inr ⟨(xI_ne (Y := 47) rfl rfl c_154), (Or.inr ⟨(xI_ne (Y := 48) rfl rfl c_157), (Or.inr ⟨(xI_ne (Y := 49) rfl rfl c_181), (Or.inl ⟨c_205, (Or.inl ⟨c_206, (Or.inr ⟨c_214, ⟨r_223, G_224, hX_227, ⟨rfl, rfl⟩⟩⟩)⟩)⟩)⟩)⟩)⟩)⟩)⟩)⟩)⟩)⟩)⟩)⟩)⟩)⟩)⟩)⟩), wd_t ht hW⟩, hS.F ht⟩) hS.2.2 dX12_done_231
  by_cases c_229 : p0 = 51
  · refine lv_tableIn (tgt := 215) hx hb dX12_done_1 (by rw [c_229]; decide) (by rw [c_229]; decide) (off := 214) (by rw [c_229]; decide) (by decide) ?_
    have c_229 : p0.toInt = 51 := xI_eq rfl rfl c_229
    refine lv_iload_n hx hb dX12_done_215 rfl (lv_at hl 1 rfl) ?_
    refine lv_if_ne (tgt := 223) hx hb dX12_done_216 rfl (fun c_230 => ?_) (fun c_230 => ?_)
    · have c_230 : p1.toInt ≠ 0 := xI_ne rfl rfl c_230
      refine ic_1 hx hb dX12_done_223 ?_
      refine lv_goto (tgt := 228) hx hb dX12_done_224 rfl ?_
      have qc_231 : (1 : Int32).toInt = 1 := rfl
      refine S_calli (va_runS (As := [.int 1]) (rest := []) ⟨hx, hb, hml, hown, hts⟩ (n_truth l D k A a z G 1 ⟨by decide, by decide⟩) (va_cwS 1 hts (gd_S hgd m1788 m1789 m131 m1790) rfl rfl rfl hd_X12_truth.2 ⟨Nat.le_of_ble_eq_true rfl, Nat.le_of_ble_eq_true rfl⟩) (pre_S hW hB_G hK hZ hS) rfl rfl hl.1 rfl (lv_room (Nat.le_of_ble_eq_true rfl)) dX12_done_228 ⟨Nat.le_of_ble_eq_true rfl, Nat.le_of_ble_eq_true rfl⟩) hS (fun r_232 G_233 H locs hpo hW hS => ?_)
      have hX_236 : Q_truth 1 G r_232 G_233 := hpo
      obtain ⟨hB_G_233, hq_234, f_237, hp_235, -⟩ := hpo
      have hF := hF.call9 hq_234 rfl rfl
      exact W.iret (v := r_232) hx hb hr (fun t ht _ => ⟨⟨r_232, G_233, rfl, (Q_done_mk ⟨hB_G_233, hF, (Or.inr ⟨(xI_ne (Y := 37) rfl rfl c_1), (Or.inr ⟨(xI_ne (Y := 38) rfl rfl c_4), (Or.inr ⟨(xI_ne (Y := 39) rfl rfl c_28), (Or.inr ⟨(xI_ne (Y := 40) rfl rfl c_52), (Or.inr ⟨(xI_ne (Y := 41) rfl rfl c_76), (Or.inr ⟨(xI_ne (Y := 42) rfl rfl c_100), (Or.inr ⟨(xI_ne (Y := 43) rfl rfl c_102), (Or.inr ⟨(xI_ne (Y := 44) rfl rfl c_104), (Or.inr ⟨(xI_ne (Y := 45) rfl rfl c_128), (Or.inr ⟨(xI_ne (Y := 46) rfl rfl c_130), (Or.inr ⟨(xI_ne (Y := 47) rfl rfl c_154), (Or.inr ⟨(xI_ne (Y := 48) rfl rfl c_157), (Or.inr ⟨(xI_ne (Y := 49) rfl rfl c_181), (Or.inr ⟨(xI_ne (Y := 50) rfl rfl c_205), (Or.inl ⟨c_229, (Or.inr ⟨c_230, ⟨r_232, G_233, hX_236, ⟨rfl, rfl⟩⟩⟩)⟩)⟩)⟩)⟩)⟩)⟩)⟩)⟩)⟩)⟩)⟩)⟩)⟩)⟩)⟩)⟩), wd_t ht hW⟩, hS.F ht⟩) hS.2.2 dX12_done_231
    · have c_230 : p1.toInt = 0 := xI_eq rfl rfl c_230
      refine lv_iload_n hx hb dX12_done_219 rfl (lv_at hl 2 rfl) ?_
      refine lv_if_eq (tgt := 227) hx hb dX12_done_220 rfl (fun c_238 => ?_) (fun c_238 => ?_)
      · have c_238 : p2.toInt = 0 := xI_eq rfl rfl c_238
        refine ic_0 hx hb dX12_done_227 ?_
        have qc_239 : (0 : Int32).toInt = 0 := rfl
        refine S_calli (va_runS (As := [.int 0]) (rest := []) ⟨hx, hb, hml, hown, hts⟩ (n_truth l D k A a z G 0 ⟨by decide, by decide⟩) (va_cwS 1 hts (gd_S hgd m1788 m1789 m131 m1790) rfl rfl rfl hd_X12_truth.2 ⟨Nat.le_of_ble_eq_true rfl, Nat.le_of_ble_eq_true rfl⟩) (pre_S hW hB_G hK hZ hS) rfl rfl hl.1 rfl (lv_room (Nat.le_of_ble_eq_true rfl)) dX12_done_228 ⟨Nat.le_of_ble_eq_true rfl, Nat.le_of_ble_eq_true rfl⟩) hS (fun r_240 G_241 H locs hpo hW hS => ?_)
        have hX_244 : Q_truth 0 G r_240 G_241 := hpo
        obtain ⟨hB_G_241, hq_242, f_245, hp_243, -⟩ := hpo
        have hF := hF.call9 hq_242 rfl rfl
        exact W.iret (v := r_240) hx hb hr (fun t ht _ => ⟨⟨r_240, G_241, rfl, (Q_done_mk ⟨hB_G_241, hF, (Or.inr ⟨(xI_ne (Y := 37) rfl rfl c_1), (Or.inr ⟨(xI_ne (Y := 38) rfl rfl c_4), (Or.inr ⟨(xI_ne (Y := 39) rfl rfl c_28), (Or.inr ⟨(xI_ne (Y := 40) rfl rfl c_52), (Or.inr ⟨(xI_ne (Y := 41) rfl rfl c_76), (Or.inr ⟨(xI_ne (Y := 42) rfl rfl c_100), (Or.inr ⟨(xI_ne (Y := 43) rfl rfl c_102), (Or.inr ⟨(xI_ne (Y := 44) rfl rfl c_104), (Or.inr ⟨(xI_ne (Y := 45) rfl rfl c_128), (Or.inr ⟨(xI_ne (Y := 46) rfl rfl c_130), (Or.inr ⟨(xI_ne (Y := 47) rfl rfl c_154), (Or.inr ⟨(xI_ne (Y := 48) rfl rfl c_157), (Or.inr ⟨(xI_ne (Y := 49) rfl rfl c_181), (Or.inr ⟨(xI_ne (Y := 50) rfl rfl c_205), (Or.inl ⟨c_229, (Or.inl ⟨c_230, (Or.inl ⟨c_238, ⟨r_240, G_241, hX_244, ⟨rfl, rfl⟩⟩⟩)⟩)⟩)⟩)⟩)⟩)⟩)⟩)⟩)⟩)⟩)⟩)⟩)⟩)⟩)⟩)⟩)⟩), wd_t ht hW⟩, hS.F ht⟩) hS.2.2 dX12_done_231
      · have c_238 : p2.toInt ≠ 0 := xI_ne rfl rfl c_238
        refine ic_1 hx hb dX12_done_223 ?_
        refine lv_goto (tgt := 228) hx hb dX12_done_224 rfl ?_
        have qc_246 : (1 : Int32).toInt = 1 := rfl
        refine S_calli (va_runS (As := [.int 1]) (rest := []) ⟨hx, hb, hml, hown, hts⟩ (n_truth l D k A a z G 1 ⟨by decide, by decide⟩) (va_cwS 1 hts (gd_S hgd m1788 m1789 m131 m1790) rfl rfl rfl hd_X12_truth.2 ⟨Nat.le_of_ble_eq_true rfl, Nat.le_of_ble_eq_true rfl⟩) (pre_S hW hB_G hK hZ hS) rfl rfl hl.1 rfl (lv_room (Nat.le_of_ble_eq_true rfl)) dX12_done_228 ⟨Nat.le_of_ble_eq_true rfl, Nat.le_of_ble_eq_true rfl⟩) hS (fun r_247 G_248 H locs hpo hW hS => ?_)
        have hX_251 : Q_truth 1 G r_247 G_248 := hpo
        obtain ⟨hB_G_248, hq_249, f_252, hp_250, -⟩ := hpo
        have hF := hF.call9 hq_249 rfl rfl
        exact W.iret (v := r_247) hx hb hr (fun t ht _ => ⟨⟨r_247, G_248, rfl, (Q_done_mk ⟨hB_G_248, hF, (Or.inr ⟨(xI_ne (Y := 37) rfl rfl c_1), (Or.inr ⟨(xI_ne (Y := 38) rfl rfl c_4), (Or.inr ⟨(xI_ne (Y := 39) rfl rfl c_28), (Or.inr ⟨(xI_ne (Y := 40) rfl rfl c_52), (Or.inr ⟨(xI_ne (Y := 41) rfl rfl c_76), (Or.inr ⟨(xI_ne (Y := 42) rfl rfl c_100), (Or.inr ⟨(xI_ne (Y := 43) rfl rfl c_102), (Or.inr ⟨(xI_ne (Y := 44) rfl rfl c_104), (Or.inr ⟨(xI_ne (Y := 45) rfl rfl c_128), (Or.inr ⟨(xI_ne (Y := 46) rfl rfl c_130), (Or.inr ⟨(xI_ne (Y := 47) rfl rfl c_154), (Or.inr ⟨(xI_ne (Y := 48) rfl rfl c_157), (Or.inr ⟨(xI_ne (Y := 49) rfl rfl c_181), (Or.inr ⟨(xI_ne (Y := 50) rfl rfl c_205), (Or.inl ⟨c_229, (Or.inl ⟨c_230, (Or.inr ⟨c_238, ⟨r_247, G_248, hX_251, ⟨rfl, rfl⟩⟩⟩)⟩)⟩)⟩)⟩)⟩)⟩)⟩)⟩)⟩)⟩)⟩)⟩)⟩)⟩)⟩)⟩)⟩), wd_t ht hW⟩, hS.F ht⟩) hS.2.2 dX12_done_231
  by_cases c_253 : p0 = 52
  · refine lv_tableIn (tgt := 215) hx hb dX12_done_1 (by rw [c_253]; decide) (by rw [c_253]; decide) (off := 214) (by rw [c_253]; decide) (by decide) ?_
    have c_253 : p0.toInt = 52 := xI_eq rfl rfl c_253
    refine lv_iload_n hx hb dX12_done_215 rfl (lv_at hl 1 rfl) ?_
    refine lv_if_ne (tgt := 223) hx hb dX12_done_216 rfl (fun c_254 => ?_) (fun c_254 => ?_)
    · have c_254 : p1.toInt ≠ 0 := xI_ne rfl rfl c_254
      refine ic_1 hx hb dX12_done_223 ?_
      refine lv_goto (tgt := 228) hx hb dX12_done_224 rfl ?_
      have qc_255 : (1 : Int32).toInt = 1 := rfl
      refine S_calli (va_runS (As := [.int 1]) (rest := []) ⟨hx, hb, hml, hown, hts⟩ (n_truth l D k A a z G 1 ⟨by decide, by decide⟩) (va_cwS 1 hts (gd_S hgd m1788 m1789 m131 m1790) rfl rfl rfl hd_X12_truth.2 ⟨Nat.le_of_ble_eq_true rfl, Nat.le_of_ble_eq_true rfl⟩) (pre_S hW hB_G hK hZ hS) rfl rfl hl.1 rfl (lv_room (Nat.le_of_ble_eq_true rfl)) dX12_done_228 ⟨Nat.le_of_ble_eq_true rfl, Nat.le_of_ble_eq_true rfl⟩) hS (fun r_256 G_257 H locs hpo hW hS => ?_)
      have hX_260 : Q_truth 1 G r_256 G_257 := hpo
      obtain ⟨hB_G_257, hq_258, f_261, hp_259, -⟩ := hpo
      have hF := hF.call9 hq_258 rfl rfl
      exact W.iret (v := r_256) hx hb hr (fun t ht _ => ⟨⟨r_256, G_257, rfl, (Q_done_mk ⟨hB_G_257, hF, (Or.inr ⟨(xI_ne (Y := 37) rfl rfl c_1), (Or.inr ⟨(xI_ne (Y := 38) rfl rfl c_4), (Or.inr ⟨(xI_ne (Y := 39) rfl rfl c_28), (Or.inr ⟨(xI_ne (Y := 40) rfl rfl c_52), (Or.inr ⟨(xI_ne (Y := 41) rfl rfl c_76), (Or.inr ⟨(xI_ne (Y := 42) rfl rfl c_100), (Or.inr ⟨(xI_ne (Y := 43) rfl rfl c_102), (Or.inr ⟨(xI_ne (Y := 44) rfl rfl c_104), (Or.inr ⟨(xI_ne (Y := 45) rfl rfl c_128), (Or.inr ⟨(xI_ne (Y := 46) rfl rfl c_130), (Or.inr ⟨(xI_ne (Y := 47) rfl rfl c_154), (Or.inr ⟨(xI_ne (Y := 48) rfl rfl c_157), (Or.inr ⟨(xI_ne (Y := 49) rfl rfl c_181), (Or.inr ⟨(xI_ne (Y := 50) rfl rfl c_205), (Or.inr ⟨(xI_ne (Y := 51) rfl rfl c_229), (Or.inl ⟨c_253, (Or.inr ⟨c_254, ⟨r_256, G_257, hX_260, ⟨rfl, rfl⟩⟩⟩)⟩)⟩)⟩)⟩)⟩)⟩)⟩)⟩)⟩)⟩)⟩)⟩)⟩)⟩)⟩)⟩)⟩), wd_t ht hW⟩, hS.F ht⟩) hS.2.2 dX12_done_231
    · have c_254 : p1.toInt = 0 := xI_eq rfl rfl c_254
      refine lv_iload_n hx hb dX12_done_219 rfl (lv_at hl 2 rfl) ?_
      refine lv_if_eq (tgt := 227) hx hb dX12_done_220 rfl (fun c_262 => ?_) (fun c_262 => ?_)
      · have c_262 : p2.toInt = 0 := xI_eq rfl rfl c_262
        refine ic_0 hx hb dX12_done_227 ?_
        have qc_263 : (0 : Int32).toInt = 0 := rfl
        refine S_calli (va_runS (As := [.int 0]) (rest := []) ⟨hx, hb, hml, hown, hts⟩ (n_truth l D k A a z G 0 ⟨by decide, by decide⟩) (va_cwS 1 hts (gd_S hgd m1788 m1789 m131 m1790) rfl rfl rfl hd_X12_truth.2 ⟨Nat.le_of_ble_eq_true rfl, Nat.le_of_ble_eq_true rfl⟩) (pre_S hW hB_G hK hZ hS) rfl rfl hl.1 rfl (lv_room (Nat.le_of_ble_eq_true rfl)) dX12_done_228 ⟨Nat.le_of_ble_eq_true rfl, Nat.le_of_ble_eq_true rfl⟩) hS (fun r_264 G_265 H locs hpo hW hS => ?_)
        have hX_268 : Q_truth 0 G r_264 G_265 := hpo
        obtain ⟨hB_G_265, hq_266, f_269, hp_267, -⟩ := hpo
        have hF := hF.call9 hq_266 rfl rfl
        exact W.iret (v := r_264) hx hb hr (fun t ht _ => ⟨⟨r_264, G_265, rfl, (Q_done_mk ⟨hB_G_265, hF, (Or.inr ⟨(xI_ne (Y := 37) rfl rfl c_1), (Or.inr ⟨(xI_ne (Y := 38) rfl rfl c_4), (Or.inr ⟨(xI_ne (Y := 39) rfl rfl c_28), (Or.inr ⟨(xI_ne (Y := 40) rfl rfl c_52), (Or.inr ⟨(xI_ne (Y := 41) rfl rfl c_76), (Or.inr ⟨(xI_ne (Y := 42) rfl rfl c_100), (Or.inr ⟨(xI_ne (Y := 43) rfl rfl c_102), (Or.inr ⟨(xI_ne (Y := 44) rfl rfl c_104), (Or.inr ⟨(xI_ne (Y := 45) rfl rfl c_128), (Or.inr ⟨(xI_ne (Y := 46) rfl rfl c_130), (Or.inr ⟨(xI_ne (Y := 47) rfl rfl c_154), (Or.inr ⟨(xI_ne (Y := 48) rfl rfl c_157), (Or.inr ⟨(xI_ne (Y := 49) rfl rfl c_181), (Or.inr ⟨(xI_ne (Y := 50) rfl rfl c_205), (Or.inr ⟨(xI_ne (Y := 51) rfl rfl c_229), (Or.inl ⟨c_253, (Or.inl ⟨c_254, (Or.inl ⟨c_262, ⟨r_264, G_265, hX_268, ⟨rfl, rfl⟩⟩⟩)⟩)⟩)⟩)⟩)⟩)⟩)⟩)⟩)⟩)⟩)⟩)⟩)⟩)⟩)⟩)⟩)⟩)⟩), wd_t ht hW⟩, hS.F ht⟩) hS.2.2 dX12_done_231
      · have c_262 : p2.toInt ≠ 0 := xI_ne rfl rfl c_262
        refine ic_1 hx hb dX12_done_223 ?_
        refine lv_goto (tgt := 228) hx hb dX12_done_224 rfl ?_
        have qc_270 : (1 : Int32).toInt = 1 := rfl
        refine S_calli (va_runS (As := [.int 1]) (rest := []) ⟨hx, hb, hml, hown, hts⟩ (n_truth l D k A a z G 1 ⟨by decide, by decide⟩) (va_cwS 1 hts (gd_S hgd m1788 m1789 m131 m1790) rfl rfl rfl hd_X12_truth.2 ⟨Nat.le_of_ble_eq_true rfl, Nat.le_of_ble_eq_true rfl⟩) (pre_S hW hB_G hK hZ hS) rfl rfl hl.1 rfl (lv_room (Nat.le_of_ble_eq_true rfl)) dX12_done_228 ⟨Nat.le_of_ble_eq_true rfl, Nat.le_of_ble_eq_true rfl⟩) hS (fun r_271 G_272 H locs hpo hW hS => ?_)
        have hX_275 : Q_truth 1 G r_271 G_272 := hpo
        obtain ⟨hB_G_272, hq_273, f_276, hp_274, -⟩ := hpo
        have hF := hF.call9 hq_273 rfl rfl
        exact W.iret (v := r_271) hx hb hr (fun t ht _ => ⟨⟨r_271, G_272, rfl, (Q_done_mk ⟨hB_G_272, hF, (Or.inr ⟨(xI_ne (Y := 37) rfl rfl c_1), (Or.inr ⟨(xI_ne (Y := 38) rfl rfl c_4), (Or.inr ⟨(xI_ne (Y := 39) rfl rfl c_28), (Or.inr ⟨(xI_ne (Y := 40) rfl rfl c_52), (Or.inr ⟨(xI_ne (Y := 41) rfl rfl c_76), (Or.inr ⟨(xI_ne (Y := 42) rfl rfl c_100), (Or.inr ⟨(xI_ne (Y := 43) rfl rfl c_102), (Or.inr ⟨(xI_ne (Y := 44) rfl rfl c_104), (Or.inr ⟨(xI_ne (Y := 45) rfl rfl c_128), (Or.inr ⟨(xI_ne (Y := 46) rfl rfl c_130), (Or.inr ⟨(xI_ne (Y := 47) rfl rfl c_154), (Or.inr ⟨(xI_ne (Y := 48) rfl rfl c_157), (Or.inr ⟨(xI_ne (Y := 49) rfl rfl c_181), (Or.inr ⟨(xI_ne (Y := 50) rfl rfl c_205), (Or.inr ⟨(xI_ne (Y := 51) rfl rfl c_229), (Or.inl ⟨c_253, (Or.inl ⟨c_254, (Or.inr ⟨c_262, ⟨r_271, G_272, hX_275, ⟨rfl, rfl⟩⟩⟩)⟩)⟩)⟩)⟩)⟩)⟩)⟩)⟩)⟩)⟩)⟩)⟩)⟩)⟩)⟩)⟩)⟩)⟩), wd_t ht hW⟩, hS.F ht⟩) hS.2.2 dX12_done_231
  by_cases c_277 : p0 = 53
  · refine lv_tableIn (tgt := 215) hx hb dX12_done_1 (by rw [c_277]; decide) (by rw [c_277]; decide) (off := 214) (by rw [c_277]; decide) (by decide) ?_
    have c_277 : p0.toInt = 53 := xI_eq rfl rfl c_277
    refine lv_iload_n hx hb dX12_done_215 rfl (lv_at hl 1 rfl) ?_
    refine lv_if_ne (tgt := 223) hx hb dX12_done_216 rfl (fun c_278 => ?_) (fun c_278 => ?_)
    · have c_278 : p1.toInt ≠ 0 := xI_ne rfl rfl c_278
      refine ic_1 hx hb dX12_done_223 ?_
      refine lv_goto (tgt := 228) hx hb dX12_done_224 rfl ?_
      have qc_279 : (1 : Int32).toInt = 1 := rfl
      refine S_calli (va_runS (As := [.int 1]) (rest := []) ⟨hx, hb, hml, hown, hts⟩ (n_truth l D k A a z G 1 ⟨by decide, by decide⟩) (va_cwS 1 hts (gd_S hgd m1788 m1789 m131 m1790) rfl rfl rfl hd_X12_truth.2 ⟨Nat.le_of_ble_eq_true rfl, Nat.le_of_ble_eq_true rfl⟩) (pre_S hW hB_G hK hZ hS) rfl rfl hl.1 rfl (lv_room (Nat.le_of_ble_eq_true rfl)) dX12_done_228 ⟨Nat.le_of_ble_eq_true rfl, Nat.le_of_ble_eq_true rfl⟩) hS (fun r_280 G_281 H locs hpo hW hS => ?_)
      have hX_284 : Q_truth 1 G r_280 G_281 := hpo
      obtain ⟨hB_G_281, hq_282, f_285, hp_283, -⟩ := hpo
      have hF := hF.call9 hq_282 rfl rfl
      exact W.iret (v := r_280) hx hb hr (fun t ht _ => ⟨⟨r_280, G_281, rfl, (Q_done_mk ⟨hB_G_281, hF, (Or.inr ⟨(xI_ne (Y := 37) rfl rfl c_1), (Or.inr ⟨(xI_ne (Y := 38) rfl rfl c_4), (Or.inr ⟨(xI_ne (Y := 39) rfl rfl c_28), (Or.inr ⟨(xI_ne (Y := 40) rfl rfl c_52), (Or.inr ⟨(xI_ne (Y := 41) rfl rfl c_76), (Or.inr ⟨(xI_ne (Y := 42) rfl rfl c_100), (Or.inr ⟨(xI_ne (Y := 43) rfl rfl c_102), (Or.inr ⟨(xI_ne (Y := 44) rfl rfl c_104), (Or.inr ⟨(xI_ne (Y := 45) rfl rfl c_128), (Or.inr ⟨(xI_ne (Y := 46) rfl rfl c_130), (Or.inr ⟨(xI_ne (Y := 47) rfl rfl c_154), (Or.inr ⟨(xI_ne (Y := 48) rfl rfl c_157), (Or.inr ⟨(xI_ne (Y := 49) rfl rfl c_181), (Or.inr ⟨(xI_ne (Y := 50) rfl rfl c_205), (Or.inr ⟨(xI_ne (Y := 51) rfl rfl c_229), (Or.inr ⟨(xI_ne (Y := 52) rfl rfl c_253), (Or.inl ⟨c_277, (Or.inr ⟨c_278, ⟨r_280, G_281, hX_284, ⟨rfl, rfl⟩⟩⟩)⟩)⟩)⟩)⟩)⟩)⟩)⟩)⟩)⟩)⟩)⟩)⟩)⟩)⟩)⟩)⟩)⟩)⟩), wd_t ht hW⟩, hS.F ht⟩) hS.2.2 dX12_done_231
    · have c_278 : p1.toInt = 0 := xI_eq rfl rfl c_278
      refine lv_iload_n hx hb dX12_done_219 rfl (lv_at hl 2 rfl) ?_
      refine lv_if_eq (tgt := 227) hx hb dX12_done_220 rfl (fun c_286 => ?_) (fun c_286 => ?_)
      · have c_286 : p2.toInt = 0 := xI_eq rfl rfl c_286
        refine ic_0 hx hb dX12_done_227 ?_
        have qc_287 : (0 : Int32).toInt = 0 := rfl
        refine S_calli (va_runS (As := [.int 0]) (rest := []) ⟨hx, hb, hml, hown, hts⟩ (n_truth l D k A a z G 0 ⟨by decide, by decide⟩) (va_cwS 1 hts (gd_S hgd m1788 m1789 m131 m1790) rfl rfl rfl hd_X12_truth.2 ⟨Nat.le_of_ble_eq_true rfl, Nat.le_of_ble_eq_true rfl⟩) (pre_S hW hB_G hK hZ hS) rfl rfl hl.1 rfl (lv_room (Nat.le_of_ble_eq_true rfl)) dX12_done_228 ⟨Nat.le_of_ble_eq_true rfl, Nat.le_of_ble_eq_true rfl⟩) hS (fun r_288 G_289 H locs hpo hW hS => ?_)
        have hX_292 : Q_truth 0 G r_288 G_289 := hpo
        obtain ⟨hB_G_289, hq_290, f_293, hp_291, -⟩ := hpo
        have hF := hF.call9 hq_290 rfl rfl
        exact W.iret (v := r_288) hx hb hr (fun t ht _ => ⟨⟨r_288, G_289, rfl, (Q_done_mk ⟨hB_G_289, hF, (Or.inr ⟨(xI_ne (Y := 37) rfl rfl c_1), (Or.inr ⟨(xI_ne (Y := 38) rfl rfl c_4), (Or.inr ⟨(xI_ne (Y := 39) rfl rfl c_28), (Or.inr ⟨(xI_ne (Y := 40) rfl rfl c_52), (Or.inr ⟨(xI_ne (Y := 41) rfl rfl c_76), (Or.inr ⟨(xI_ne (Y := 42) rfl rfl c_100), (Or.inr ⟨(xI_ne (Y := 43) rfl rfl c_102), (Or.inr ⟨(xI_ne (Y := 44) rfl rfl c_104), (Or.inr ⟨(xI_ne (Y := 45) rfl rfl c_128), (Or.inr ⟨(xI_ne (Y := 46) rfl rfl c_130), (Or.inr ⟨(xI_ne (Y := 47) rfl rfl c_154), (Or.inr ⟨(xI_ne (Y := 48) rfl rfl c_157), (Or.inr ⟨(xI_ne (Y := 49) rfl rfl c_181), (Or.inr ⟨(xI_ne (Y := 50) rfl rfl c_205), (Or.inr ⟨(xI_ne (Y := 51) rfl rfl c_229), (Or.inr ⟨(xI_ne (Y := 52) rfl rfl c_253), (Or.inl ⟨c_277, (Or.inl ⟨c_278, (Or.inl ⟨c_286, ⟨r_288, G_289, hX_292, ⟨rfl, rfl⟩⟩⟩)⟩)⟩)⟩)⟩)⟩)⟩)⟩)⟩)⟩)⟩)⟩)⟩)⟩)⟩)⟩)⟩)⟩)⟩)⟩), wd_t ht hW⟩, hS.F ht⟩) hS.2.2 dX12_done_231
      · have c_286 : p2.toInt ≠ 0 := xI_ne rfl rfl c_286
        refine ic_1 hx hb dX12_done_223 ?_
        refine lv_goto (tgt := 228) hx hb dX12_done_224 rfl ?_
        have qc_294 : (1 : Int32).toInt = 1 := rfl
        refine S_calli (va_runS (As := [.int 1]) (rest := []) ⟨hx, hb, hml, hown, hts⟩ (n_truth l D k A a z G 1 ⟨by decide, by decide⟩) (va_cwS 1 hts (gd_S hgd m1788 m1789 m131 m1790) rfl rfl rfl hd_X12_truth.2 ⟨Nat.le_of_ble_eq_true rfl, Nat.le_of_ble_eq_true rfl⟩) (pre_S hW hB_G hK hZ hS) rfl rfl hl.1 rfl (lv_room (Nat.le_of_ble_eq_true rfl)) dX12_done_228 ⟨Nat.le_of_ble_eq_true rfl, Nat.le_of_ble_eq_true rfl⟩) hS (fun r_295 G_296 H locs hpo hW hS => ?_)
        have hX_299 : Q_truth 1 G r_295 G_296 := hpo
        obtain ⟨hB_G_296, hq_297, f_300, hp_298, -⟩ := hpo
        have hF := hF.call9 hq_297 rfl rfl
        exact W.iret (v := r_295) hx hb hr (fun t ht _ => ⟨⟨r_295, G_296, rfl, (Q_done_mk ⟨hB_G_296, hF, (Or.inr ⟨(xI_ne (Y := 37) rfl rfl c_1), (Or.inr ⟨(xI_ne (Y := 38) rfl rfl c_4), (Or.inr ⟨(xI_ne (Y := 39) rfl rfl c_28), (Or.inr ⟨(xI_ne (Y := 40) rfl rfl c_52), (Or.inr ⟨(xI_ne (Y := 41) rfl rfl c_76), (Or.inr ⟨(xI_ne (Y := 42) rfl rfl c_100), (Or.inr ⟨(xI_ne (Y := 43) rfl rfl c_102), (Or.inr ⟨(xI_ne (Y := 44) rfl rfl c_104), (Or.inr ⟨(xI_ne (Y := 45) rfl rfl c_128), (Or.inr ⟨(xI_ne (Y := 46) rfl rfl c_130), (Or.inr ⟨(xI_ne (Y := 47) rfl rfl c_154), (Or.inr ⟨(xI_ne (Y := 48) rfl rfl c_157), (Or.inr ⟨(xI_ne (Y := 49) rfl rfl c_181), (Or.inr ⟨(xI_ne (Y := 50) rfl rfl c_205), (Or.inr ⟨(xI_ne (Y := 51) rfl rfl c_229), (Or.inr ⟨(xI_ne (Y := 52) rfl rfl c_253), (Or.inl ⟨c_277, (Or.inl ⟨c_278, (Or.inr ⟨c_286, ⟨r_295, G_296, hX_299, ⟨rfl, rfl⟩⟩⟩)⟩)⟩)⟩)⟩)⟩)⟩)⟩)⟩)⟩)⟩)⟩)⟩)⟩)⟩)⟩)⟩)⟩)⟩)⟩), wd_t ht hW⟩, hS.F ht⟩) hS.2.2 dX12_done_231
  by_cases c_301 : p0 = 54
  · refine lv_tableIn (tgt := 215) hx hb dX12_done_1 (by rw [c_301]; decide) (by rw [c_301]; decide) (off := 214) (by rw [c_301]; decide) (by decide) ?_
    have c_301 : p0.toInt = 54 := xI_eq rfl rfl c_301
    refine lv_iload_n hx hb dX12_done_215 rfl (lv_at hl 1 rfl) ?_
    refine lv_if_ne (tgt := 223) hx hb dX12_done_216 rfl (fun c_302 => ?_) (fun c_302 => ?_)
    · have c_302 : p1.toInt ≠ 0 := xI_ne rfl rfl c_302
      refine ic_1 hx hb dX12_done_223 ?_
      refine lv_goto (tgt := 228) hx hb dX12_done_224 rfl ?_
      have qc_303 : (1 : Int32).toInt = 1 := rfl
      refine S_calli (va_runS (As := [.int 1]) (rest := []) ⟨hx, hb, hml, hown, hts⟩ (n_truth l D k A a z G 1 ⟨by decide, by decide⟩) (va_cwS 1 hts (gd_S hgd m1788 m1789 m131 m1790) rfl rfl rfl hd_X12_truth.2 ⟨Nat.le_of_ble_eq_true rfl, Nat.le_of_ble_eq_true rfl⟩) (pre_S hW hB_G hK hZ hS) rfl rfl hl.1 rfl (lv_room (Nat.le_of_ble_eq_true rfl)) dX12_done_228 ⟨Nat.le_of_ble_eq_true rfl, Nat.le_of_ble_eq_true rfl⟩) hS (fun r_304 G_305 H locs hpo hW hS => ?_)
      have hX_308 : Q_truth 1 G r_304 G_305 := hpo
      obtain ⟨hB_G_305, hq_306, f_309, hp_307, -⟩ := hpo
      have hF := hF.call9 hq_306 rfl rfl
      exact W.iret (v := r_304) hx hb hr (fun t ht _ => ⟨⟨r_304, G_305, rfl, (Q_done_mk ⟨hB_G_305, hF, (Or.inr ⟨(xI_ne (Y := 37) rfl rfl c_1), (Or.inr ⟨(xI_ne (Y := 38) rfl rfl c_4), (Or.inr ⟨(xI_ne (Y := 39) rfl rfl c_28), (Or.inr ⟨(xI_ne (Y := 40) rfl rfl c_52), (Or.inr ⟨(xI_ne (Y := 41) rfl rfl c_76), (Or.inr ⟨(xI_ne (Y := 42) rfl rfl c_100), (Or.inr ⟨(xI_ne (Y := 43) rfl rfl c_102), (Or.inr ⟨(xI_ne (Y := 44) rfl rfl c_104), (Or.inr ⟨(xI_ne (Y := 45) rfl rfl c_128), (Or.inr ⟨(xI_ne (Y := 46) rfl rfl c_130), (Or.inr ⟨(xI_ne (Y := 47) rfl rfl c_154), (Or.inr ⟨(xI_ne (Y := 48) rfl rfl c_157), (Or.inr ⟨(xI_ne (Y := 49) rfl rfl c_181), (Or.inr ⟨(xI_ne (Y := 50) rfl rfl c_205), (Or.inr ⟨(xI_ne (Y := 51) rfl rfl c_229), (Or.inr ⟨(xI_ne (Y := 52) rfl rfl c_253), (Or.inr ⟨(xI_ne (Y := 53) rfl rfl c_277), (Or.inl ⟨c_301, (Or.inr ⟨c_302, ⟨r_304, G_305, hX_308, ⟨rfl, rfl⟩⟩⟩)⟩)⟩)⟩)⟩)⟩)⟩)⟩)⟩)⟩)⟩)⟩)⟩)⟩)⟩)⟩)⟩)⟩)⟩)⟩), wd_t ht hW⟩, hS.F ht⟩) hS.2.2 dX12_done_231
    · have c_302 : p1.toInt = 0 := xI_eq rfl rfl c_302
      refine lv_iload_n hx hb dX12_done_219 rfl (lv_at hl 2 rfl) ?_
      refine lv_if_eq (tgt := 227) hx hb dX12_done_220 rfl (fun c_310 => ?_) (fun c_310 => ?_)
      · have c_310 : p2.toInt = 0 := xI_eq rfl rfl c_310
        refine ic_0 hx hb dX12_done_227 ?_
        have qc_311 : (0 : Int32).toInt = 0 := rfl
        refine S_calli (va_runS (As := [.int 0]) (rest := []) ⟨hx, hb, hml, hown, hts⟩ (n_truth l D k A a z G 0 ⟨by decide, by decide⟩) (va_cwS 1 hts (gd_S hgd m1788 m1789 m131 m1790) rfl rfl rfl hd_X12_truth.2 ⟨Nat.le_of_ble_eq_true rfl, Nat.le_of_ble_eq_true rfl⟩) (pre_S hW hB_G hK hZ hS) rfl rfl hl.1 rfl (lv_room (Nat.le_of_ble_eq_true rfl)) dX12_done_228 ⟨Nat.le_of_ble_eq_true rfl, Nat.le_of_ble_eq_true rfl⟩) hS (fun r_312 G_313 H locs hpo hW hS => ?_)
        have hX_316 : Q_truth 0 G r_312 G_313 := hpo
        obtain ⟨hB_G_313, hq_314, f_317, hp_315, -⟩ := hpo
        have hF := hF.call9 hq_314 rfl rfl
        exact W.iret (v := r_312) hx hb hr (fun t ht _ => ⟨⟨r_312, G_313, rfl, (Q_done_mk ⟨hB_G_313, hF, (Or.inr ⟨(xI_ne (Y := 37) rfl rfl c_1), (Or.inr ⟨(xI_ne (Y := 38) rfl rfl c_4), (Or.inr ⟨(xI_ne (Y := 39) rfl rfl c_28), (Or.inr ⟨(xI_ne (Y := 40) rfl rfl c_52), (Or.inr ⟨(xI_ne (Y := 41) rfl rfl c_76), (Or.inr ⟨(xI_ne (Y := 42) rfl rfl c_100), (Or.inr ⟨(xI_ne (Y := 43) rfl rfl c_102), (Or.inr ⟨(xI_ne (Y := 44) rfl rfl c_104), (Or.inr ⟨(xI_ne (Y := 45) rfl rfl c_128), (Or.inr ⟨(xI_ne (Y := 46) rfl rfl c_130), (Or.inr ⟨(xI_ne (Y := 47) rfl rfl c_154), (Or.inr ⟨(xI_ne (Y := 48) rfl rfl c_157), (Or.inr ⟨(xI_ne (Y := 49) rfl rfl c_181), (Or.inr ⟨(xI_ne (Y := 50) rfl rfl c_205), (Or.inr ⟨(xI_ne (Y := 51) rfl rfl c_229), (Or.inr ⟨(xI_ne (Y := 52) rfl rfl c_253), (Or.inr ⟨(xI_ne (Y := 53) rfl rfl c_277), (Or.inl ⟨c_301, (Or.inl ⟨c_302, (Or.inl ⟨c_310, ⟨r_312, G_313, hX_316, ⟨rfl, rfl⟩⟩⟩)⟩)⟩)⟩)⟩)⟩)⟩)⟩)⟩)⟩)⟩)⟩)⟩)⟩)⟩)⟩)⟩)⟩)⟩)⟩)⟩), wd_t ht hW⟩, hS.F ht⟩) hS.2.2 dX12_done_231
      · have c_310 : p2.toInt ≠ 0 := xI_ne rfl rfl c_310
        refine ic_1 hx hb dX12_done_223 ?_
        refine lv_goto (tgt := 228) hx hb dX12_done_224 rfl ?_
        have qc_318 : (1 : Int32).toInt = 1 := rfl
        refine S_calli (va_runS (As := [.int 1]) (rest := []) ⟨hx, hb, hml, hown, hts⟩ (n_truth l D k A a z G 1 ⟨by decide, by decide⟩) (va_cwS 1 hts (gd_S hgd m1788 m1789 m131 m1790) rfl rfl rfl hd_X12_truth.2 ⟨Nat.le_of_ble_eq_true rfl, Nat.le_of_ble_eq_true rfl⟩) (pre_S hW hB_G hK hZ hS) rfl rfl hl.1 rfl (lv_room (Nat.le_of_ble_eq_true rfl)) dX12_done_228 ⟨Nat.le_of_ble_eq_true rfl, Nat.le_of_ble_eq_true rfl⟩) hS (fun r_319 G_320 H locs hpo hW hS => ?_)
        have hX_323 : Q_truth 1 G r_319 G_320 := hpo
        obtain ⟨hB_G_320, hq_321, f_324, hp_322, -⟩ := hpo
        have hF := hF.call9 hq_321 rfl rfl
        exact W.iret (v := r_319) hx hb hr (fun t ht _ => ⟨⟨r_319, G_320, rfl, (Q_done_mk ⟨hB_G_320, hF, (Or.inr ⟨(xI_ne (Y := 37) rfl rfl c_1), (Or.inr ⟨(xI_ne (Y := 38) rfl rfl c_4), (Or.inr ⟨(xI_ne (Y := 39) rfl rfl c_28), (Or.inr ⟨(xI_ne (Y := 40) rfl rfl c_52), (Or.inr ⟨(xI_ne (Y := 41) rfl rfl c_76), (Or.inr ⟨(xI_ne (Y := 42) rfl rfl c_100), (Or.inr ⟨(xI_ne (Y := 43) rfl rfl c_102), (Or.inr ⟨(xI_ne (Y := 44) rfl rfl c_104), (Or.inr ⟨(xI_ne (Y := 45) rfl rfl c_128), (Or.inr ⟨(xI_ne (Y := 46) rfl rfl c_130), (Or.inr ⟨(xI_ne (Y := 47) rfl rfl c_154), (Or.inr ⟨(xI_ne (Y := 48) rfl rfl c_157), (Or.inr ⟨(xI_ne (Y := 49) rfl rfl c_181), (Or.inr ⟨(xI_ne (Y := 50) rfl rfl c_205), (Or.inr ⟨(xI_ne (Y := 51) rfl rfl c_229), (Or.inr ⟨(xI_ne (Y := 52) rfl rfl c_253), (Or.inr ⟨(xI_ne (Y := 53) rfl rfl c_277), (Or.inl ⟨c_301, (Or.inl ⟨c_302, (Or.inr ⟨c_310, ⟨r_319, G_320, hX_323, ⟨rfl, rfl⟩⟩⟩)⟩)⟩)⟩)⟩)⟩)⟩)⟩)⟩)⟩)⟩)⟩)⟩)⟩)⟩)⟩)⟩)⟩)⟩)⟩)⟩), wd_t ht hW⟩, hS.F ht⟩) hS.2.2 dX12_done_231
  by_cases c_325 : p0 = 55
  · refine lv_tableIn (tgt := 215) hx hb dX12_done_1 (by rw [c_325]; decide) (by rw [c_325]; decide) (off := 214) (by rw [c_325]; decide) (by decide) ?_
    have c_325 : p0.toInt = 55 := xI_eq rfl rfl c_325
    refine lv_iload_n hx hb dX12_done_215 rfl (lv_at hl 1 rfl) ?_
    refine lv_if_ne (tgt := 223) hx hb dX12_done_216 rfl (fun c_326 => ?_) (fun c_326 => ?_)
    · have c_326 : p1.toInt ≠ 0 := xI_ne rfl rfl c_326
      refine ic_1 hx hb dX12_done_223 ?_
      refine lv_goto (tgt := 228) hx hb dX12_done_224 rfl ?_
      have qc_327 : (1 : Int32).toInt = 1 := rfl
      refine S_calli (va_runS (As := [.int 1]) (rest := []) ⟨hx, hb, hml, hown, hts⟩ (n_truth l D k A a z G 1 ⟨by decide, by decide⟩) (va_cwS 1 hts (gd_S hgd m1788 m1789 m131 m1790) rfl rfl rfl hd_X12_truth.2 ⟨Nat.le_of_ble_eq_true rfl, Nat.le_of_ble_eq_true rfl⟩) (pre_S hW hB_G hK hZ hS) rfl rfl hl.1 rfl (lv_room (Nat.le_of_ble_eq_true rfl)) dX12_done_228 ⟨Nat.le_of_ble_eq_true rfl, Nat.le_of_ble_eq_true rfl⟩) hS (fun r_328 G_329 H locs hpo hW hS => ?_)
      have hX_332 : Q_truth 1 G r_328 G_329 := hpo
      obtain ⟨hB_G_329, hq_330, f_333, hp_331, -⟩ := hpo
      have hF := hF.call9 hq_330 rfl rfl
      exact W.iret (v := r_328) hx hb hr (fun t ht _ => ⟨⟨r_328, G_329, rfl, (Q_done_mk ⟨hB_G_329, hF, (Or.inr ⟨(xI_ne (Y := 37) rfl rfl c_1), (Or.inr ⟨(xI_ne (Y := 38) rfl rfl c_4), (Or.inr ⟨(xI_ne (Y := 39) rfl rfl c_28), (Or.inr ⟨(xI_ne (Y := 40) rfl rfl c_52), (Or.inr ⟨(xI_ne (Y := 41) rfl rfl c_76), (Or.inr ⟨(xI_ne (Y := 42) rfl rfl c_100), (Or.inr ⟨(xI_ne (Y := 43) rfl rfl c_102), (Or.inr ⟨(xI_ne (Y := 44) rfl rfl c_104), (Or.inr ⟨(xI_ne (Y := 45) rfl rfl c_128), (Or.inr ⟨(xI_ne (Y := 46) rfl rfl c_130), (Or.inr ⟨(xI_ne (Y := 47) rfl rfl c_154), (Or.inr ⟨(xI_ne (Y := 48) rfl rfl c_157), (Or.inr ⟨(xI_ne (Y := 49) rfl rfl c_181), (Or.inr ⟨(xI_ne (Y := 50) rfl rfl c_205), (Or.inr ⟨(xI_ne (Y := 51) rfl rfl c_229), (Or.inr ⟨(xI_ne (Y := 52) rfl rfl c_253), (Or.inr ⟨(xI_ne (Y := 53) rfl rfl c_277), (Or.inr ⟨(xI_ne (Y := 54) rfl rfl c_301), (Or.inl ⟨c_325, (Or.inr ⟨c_326, ⟨r_328, G_329, hX_332, ⟨rfl, rfl⟩⟩⟩)⟩)⟩)⟩)⟩)⟩)⟩)⟩)⟩)⟩)⟩)⟩)⟩)⟩)⟩)⟩)⟩)⟩)⟩)⟩)⟩), wd_t ht hW⟩, hS.F ht⟩) hS.2.2 dX12_done_231
    · have c_326 : p1.toInt = 0 := xI_eq rfl rfl c_326
      refine lv_iload_n hx hb dX12_done_219 rfl (lv_at hl 2 rfl) ?_
      refine lv_if_eq (tgt := 227) hx hb dX12_done_220 rfl (fun c_334 => ?_) (fun c_334 => ?_)
      · have c_334 : p2.toInt = 0 := xI_eq rfl rfl c_334
        refine ic_0 hx hb dX12_done_227 ?_
        have qc_335 : (0 : Int32).toInt = 0 := rfl
        refine S_calli (va_runS (As := [.int 0]) (rest := []) ⟨hx, hb, hml, hown, hts⟩ (n_truth l D k A a z G 0 ⟨by decide, by decide⟩) (va_cwS 1 hts (gd_S hgd m1788 m1789 m131 m1790) rfl rfl rfl hd_X12_truth.2 ⟨Nat.le_of_ble_eq_true rfl, Nat.le_of_ble_eq_true rfl⟩) (pre_S hW hB_G hK hZ hS) rfl rfl hl.1 rfl (lv_room (Nat.le_of_ble_eq_true rfl)) dX12_done_228 ⟨Nat.le_of_ble_eq_true rfl, Nat.le_of_ble_eq_true rfl⟩) hS (fun r_336 G_337 H locs hpo hW hS => ?_)
        have hX_340 : Q_truth 0 G r_336 G_337 := hpo
        obtain ⟨hB_G_337, hq_338, f_341, hp_339, -⟩ := hpo
        have hF := hF.call9 hq_338 rfl rfl
        exact W.iret (v := r_336) hx hb hr (fun t ht _ => ⟨⟨r_336, G_337, rfl, (Q_done_mk ⟨hB_G_337, hF, (Or.inr ⟨(xI_ne (Y := 37) rfl rfl c_1), (Or.inr ⟨(xI_ne (Y := 38) rfl rfl c_4), (Or.inr ⟨(xI_ne (Y := 39) rfl rfl c_28), (Or.inr ⟨(xI_ne (Y := 40) rfl rfl c_52), (Or.inr ⟨(xI_ne (Y := 41) rfl rfl c_76), (Or.inr ⟨(xI_ne (Y := 42) rfl rfl c_100), (Or.inr ⟨(xI_ne (Y := 43) rfl rfl c_102), (Or.inr ⟨(xI_ne (Y := 44) rfl rfl c_104), (Or.inr ⟨(xI_ne (Y := 45) rfl rfl c_128), (Or.inr ⟨(xI_ne (Y := 46) rfl rfl c_130), (Or.inr ⟨(xI_ne (Y := 47) rfl rfl c_154), (Or.inr ⟨(xI_ne (Y := 48) rfl rfl c_157), (Or.inr ⟨(xI_ne (Y := 49) rfl rfl c_181), (Or.inr ⟨(xI_ne (Y := 50) rfl rfl c_205), (Or.inr ⟨(xI_ne (Y := 51) rfl rfl c_229), (Or.inr ⟨(xI_ne (Y := 52) rfl rfl c_253), (Or.inr ⟨(xI_ne (Y := 53) rfl rfl c_277), (Or.inr ⟨(xI_ne (Y := 54) rfl rfl c_301), (Or.inl ⟨c_325, (Or.inl ⟨c_326, (Or.inl ⟨c_334, ⟨r_336, G_337, hX_340, ⟨rfl, rfl⟩⟩⟩)⟩)⟩)⟩)⟩)⟩)⟩)⟩)⟩)⟩)⟩)⟩)⟩)⟩)⟩)⟩)⟩)⟩)⟩)⟩)⟩)⟩), wd_t ht hW⟩, hS.F ht⟩) hS.2.2 dX12_done_231
      · have c_334 : p2.toInt ≠ 0 := xI_ne rfl rfl c_334
        refine ic_1 hx hb dX12_done_223 ?_
        refine lv_goto (tgt := 228) hx hb dX12_done_224 rfl ?_
        have qc_342 : (1 : Int32).toInt = 1 := rfl
        refine S_calli (va_runS (As := [.int 1]) (rest := []) ⟨hx, hb, hml, hown, hts⟩ (n_truth l D k A a z G 1 ⟨by decide, by decide⟩) (va_cwS 1 hts (gd_S hgd m1788 m1789 m131 m1790) rfl rfl rfl hd_X12_truth.2 ⟨Nat.le_of_ble_eq_true rfl, Nat.le_of_ble_eq_true rfl⟩) (pre_S hW hB_G hK hZ hS) rfl rfl hl.1 rfl (lv_room (Nat.le_of_ble_eq_true rfl)) dX12_done_228 ⟨Nat.le_of_ble_eq_true rfl, Nat.le_of_ble_eq_true rfl⟩) hS (fun r_343 G_344 H locs hpo hW hS => ?_)
        have hX_347 : Q_truth 1 G r_343 G_344 := hpo
        obtain ⟨hB_G_344, hq_345, f_348, hp_346, -⟩ := hpo
        have hF := hF.call9 hq_345 rfl rfl
        exact W.iret (v := r_343) hx hb hr (fun t ht _ => ⟨⟨r_343, G_344, rfl, (Q_done_mk ⟨hB_G_344, hF, (Or.inr ⟨(xI_ne (Y := 37) rfl rfl c_1), (Or.inr ⟨(xI_ne (Y := 38) rfl rfl c_4), (Or.inr ⟨(xI_ne (Y := 39) rfl rfl c_28), (Or.inr ⟨(xI_ne (Y := 40) rfl rfl c_52), (Or.inr ⟨(xI_ne (Y := 41) rfl rfl c_76), (Or.inr ⟨(xI_ne (Y := 42) rfl rfl c_100), (Or.inr ⟨(xI_ne (Y := 43) rfl rfl c_102), (Or.inr ⟨(xI_ne (Y := 44) rfl rfl c_104), (Or.inr ⟨(xI_ne (Y := 45) rfl rfl c_128), (Or.inr ⟨(xI_ne (Y := 46) rfl rfl c_130), (Or.inr ⟨(xI_ne (Y := 47) rfl rfl c_154), (Or.inr ⟨(xI_ne (Y := 48) rfl rfl c_157), (Or.inr ⟨(xI_ne (Y := 49) rfl rfl c_181), (Or.inr ⟨(xI_ne (Y := 50) rfl rfl c_205), (Or.inr ⟨(xI_ne (Y := 51) rfl rfl c_229), (Or.inr ⟨(xI_ne (Y := 52) rfl rfl c_253), (Or.inr ⟨(xI_ne (Y := 53) rfl rfl c_277), (Or.inr ⟨(xI_ne (Y := 54) rfl rfl c_301), (Or.inl ⟨c_325, (Or.inl ⟨c_326, (Or.inr ⟨c_334, ⟨r_343, G_344, hX_347, ⟨rfl, rfl⟩⟩⟩)⟩)⟩)⟩)⟩)⟩)⟩)⟩)⟩)⟩)⟩)⟩)⟩)⟩)⟩)⟩)⟩)⟩)⟩)⟩)⟩)⟩), wd_t ht hW⟩, hS.F ht⟩) hS.2.2 dX12_done_231
  by_cases c_349 : p0 = 56
  · refine lv_tableIn (tgt := 215) hx hb dX12_done_1 (by rw [c_349]; decide) (by rw [c_349]; decide) (off := 214) (by rw [c_349]; decide) (by decide) ?_
    have c_349 : p0.toInt = 56 := xI_eq rfl rfl c_349
    refine lv_iload_n hx hb dX12_done_215 rfl (lv_at hl 1 rfl) ?_
    refine lv_if_ne (tgt := 223) hx hb dX12_done_216 rfl (fun c_350 => ?_) (fun c_350 => ?_)
    · have c_350 : p1.toInt ≠ 0 := xI_ne rfl rfl c_350
      refine ic_1 hx hb dX12_done_223 ?_
      refine lv_goto (tgt := 228) hx hb dX12_done_224 rfl ?_
      have qc_351 : (1 : Int32).toInt = 1 := rfl
      refine S_calli (va_runS (As := [.int 1]) (rest := []) ⟨hx, hb, hml, hown, hts⟩ (n_truth l D k A a z G 1 ⟨by decide, by decide⟩) (va_cwS 1 hts (gd_S hgd m1788 m1789 m131 m1790) rfl rfl rfl hd_X12_truth.2 ⟨Nat.le_of_ble_eq_true rfl, Nat.le_of_ble_eq_true rfl⟩) (pre_S hW hB_G hK hZ hS) rfl rfl hl.1 rfl (lv_room (Nat.le_of_ble_eq_true rfl)) dX12_done_228 ⟨Nat.le_of_ble_eq_true rfl, Nat.le_of_ble_eq_true rfl⟩) hS (fun r_352 G_353 H locs hpo hW hS => ?_)
      have hX_356 : Q_truth 1 G r_352 G_353 := hpo
      obtain ⟨hB_G_353, hq_354, f_357, hp_355, -⟩ := hpo
      have hF := hF.call9 hq_354 rfl rfl
      exact W.iret (v := r_352) hx hb hr (fun t ht _ => ⟨⟨r_352, G_353, rfl, (Q_done_mk ⟨hB_G_353, hF, (Or.inr ⟨(xI_ne (Y := 37) rfl rfl c_1), (Or.inr ⟨(xI_ne (Y := 38) rfl rfl c_4), (Or.inr ⟨(xI_ne (Y := 39) rfl rfl c_28), (Or.inr ⟨(xI_ne (Y := 40) rfl rfl c_52), (Or.inr ⟨(xI_ne (Y := 41) rfl rfl c_76), (Or.inr ⟨(xI_ne (Y := 42) rfl rfl c_100), (Or.inr ⟨(xI_ne (Y := 43) rfl rfl c_102), (Or.inr ⟨(xI_ne (Y := 44) rfl rfl c_104), (Or.inr ⟨(xI_ne (Y := 45) rfl rfl c_128), (Or.inr ⟨(xI_ne (Y := 46) rfl rfl c_130), (Or.inr ⟨(xI_ne (Y := 47) rfl rfl c_154), (Or.inr ⟨(xI_ne (Y := 48) rfl rfl c_157), (Or.inr ⟨(xI_ne (Y := 49) rfl rfl c_181), (Or.inr ⟨(xI_ne (Y := 50) rfl rfl c_205), (Or.inr ⟨(xI_ne (Y := 51) rfl rfl c_229), (Or.inr ⟨(xI_ne (Y := 52) rfl rfl c_253), (Or.inr ⟨(xI_ne (Y := 53) rfl rfl c_277), (Or.inr ⟨(xI_ne (Y := 54) rfl rfl c_301), (Or.inr ⟨(xI_ne (Y := 55) rfl rfl c_325), (Or.inl ⟨c_349, (Or.inr ⟨c_350, ⟨r_352, G_353, hX_356, ⟨rfl, rfl⟩⟩⟩)⟩)⟩)⟩)⟩)⟩)⟩)⟩)⟩)⟩)⟩)⟩)⟩)⟩)⟩)⟩)⟩)⟩)⟩)⟩)⟩)⟩), wd_t ht hW⟩, hS.F ht⟩) hS.2.2 dX12_done_231
    · have c_350 : p1.toInt = 0 := xI_eq rfl rfl c_350
      refine lv_iload_n hx hb dX12_done_219 rfl (lv_at hl 2 rfl) ?_
      refine lv_if_eq (tgt := 227) hx hb dX12_done_220 rfl (fun c_358 => ?_) (fun c_358 => ?_)
      · have c_358 : p2.toInt = 0 := xI_eq rfl rfl c_358
        refine ic_0 hx hb dX12_done_227 ?_
        have qc_359 : (0 : Int32).toInt = 0 := rfl
        refine S_calli (va_runS (As := [.int 0]) (rest := []) ⟨hx, hb, hml, hown, hts⟩ (n_truth l D k A a z G 0 ⟨by decide, by decide⟩) (va_cwS 1 hts (gd_S hgd m1788 m1789 m131 m1790) rfl rfl rfl hd_X12_truth.2 ⟨Nat.le_of_ble_eq_true rfl, Nat.le_of_ble_eq_true rfl⟩) (pre_S hW hB_G hK hZ hS) rfl rfl hl.1 rfl (lv_room (Nat.le_of_ble_eq_true rfl)) dX12_done_228 ⟨Nat.le_of_ble_eq_true rfl, Nat.le_of_ble_eq_true rfl⟩) hS (fun r_360 G_361 H locs hpo hW hS => ?_)
        have hX_364 : Q_truth 0 G r_360 G_361 := hpo
        obtain ⟨hB_G_361, hq_362, f_365, hp_363, -⟩ := hpo
        have hF := hF.call9 hq_362 rfl rfl
        exact W.iret (v := r_360) hx hb hr (fun t ht _ => ⟨⟨r_360, G_361, rfl, (Q_done_mk ⟨hB_G_361, hF, (Or.inr ⟨(xI_ne (Y := 37) rfl rfl c_1), (Or.inr ⟨(xI_ne (Y := 38) rfl rfl c_4), (Or.inr ⟨(xI_ne (Y := 39) rfl rfl c_28), (Or.inr ⟨(xI_ne (Y := 40) rfl rfl c_52), (Or.inr ⟨(xI_ne (Y := 41) rfl rfl c_76), (Or.inr ⟨(xI_ne (Y := 42) rfl rfl c_100), (Or.inr ⟨(xI_ne (Y := 43) rfl rfl c_102), (Or.inr ⟨(xI_ne (Y := 44) rfl rfl c_104), (Or.inr ⟨(xI_ne (Y := 45) rfl rfl c_128), (Or.inr ⟨(xI_ne (Y := 46) rfl rfl c_130), (Or.inr ⟨(xI_ne (Y := 47) rfl rfl c_154), (Or.inr ⟨(xI_ne (Y := 48) rfl rfl c_157), (Or.inr ⟨(xI_ne (Y := 49) rfl rfl c_181), (Or.inr ⟨(xI_ne (Y := 50) rfl rfl c_205), (Or.inr ⟨(xI_ne (Y := 51) rfl rfl c_229), (Or.inr ⟨(xI_ne (Y := 52) rfl rfl c_253), (Or.inr ⟨(xI_ne (Y := 53) rfl rfl c_277), (Or.inr ⟨(xI_ne (Y := 54) rfl rfl c_301), (Or.inr ⟨(xI_ne (Y := 55) rfl rfl c_325), (Or.inl ⟨c_349, (Or.inl ⟨c_350, (Or.inl ⟨c_358, ⟨r_360, G_361, hX_364, ⟨rfl, rfl⟩⟩⟩)⟩)⟩)⟩)⟩)⟩)⟩)⟩)⟩)⟩)⟩)⟩)⟩)⟩)⟩)⟩)⟩)⟩)⟩)⟩)⟩)⟩)⟩), wd_t ht hW⟩, hS.F ht⟩) hS.2.2 dX12_done_231
      · have c_358 : p2.toInt ≠ 0 := xI_ne rfl rfl c_358
        refine ic_1 hx hb dX12_done_223 ?_
        refine lv_goto (tgt := 228) hx hb dX12_done_224 rfl ?_
        have qc_366 : (1 : Int32).toInt = 1 := rfl
        refine S_calli (va_runS (As := [.int 1]) (rest := []) ⟨hx, hb, hml, hown, hts⟩ (n_truth l D k A a z G 1 ⟨by decide, by decide⟩) (va_cwS 1 hts (gd_S hgd m1788 m1789 m131 m1790) rfl rfl rfl hd_X12_truth.2 ⟨Nat.le_of_ble_eq_true rfl, Nat.le_of_ble_eq_true rfl⟩) (pre_S hW hB_G hK hZ hS) rfl rfl hl.1 rfl (lv_room (Nat.le_of_ble_eq_true rfl)) dX12_done_228 ⟨Nat.le_of_ble_eq_true rfl, Nat.le_of_ble_eq_true rfl⟩) hS (fun r_367 G_368 H locs hpo hW hS => ?_)
        have hX_371 : Q_truth 1 G r_367 G_368 := hpo
        obtain ⟨hB_G_368, hq_369, f_372, hp_370, -⟩ := hpo
        have hF := hF.call9 hq_369 rfl rfl
        exact W.iret (v := r_367) hx hb hr (fun t ht _ => ⟨⟨r_367, G_368, rfl, (Q_done_mk ⟨hB_G_368, hF, (Or.inr ⟨(xI_ne (Y := 37) rfl rfl c_1), (Or.inr ⟨(xI_ne (Y := 38) rfl rfl c_4), (Or.inr ⟨(xI_ne (Y := 39) rfl rfl c_28), (Or.inr ⟨(xI_ne (Y := 40) rfl rfl c_52), (Or.inr ⟨(xI_ne (Y := 41) rfl rfl c_76), (Or.inr ⟨(xI_ne (Y := 42) rfl rfl c_100), (Or.inr ⟨(xI_ne (Y := 43) rfl rfl c_102), (Or.inr ⟨(xI_ne (Y := 44) rfl rfl c_104), (Or.inr ⟨(xI_ne (Y := 45) rfl rfl c_128), (Or.inr ⟨(xI_ne (Y := 46) rfl rfl c_130), (Or.inr ⟨(xI_ne (Y := 47) rfl rfl c_154), (Or.inr ⟨(xI_ne (Y := 48) rfl rfl c_157), (Or.inr ⟨(xI_ne (Y := 49) rfl rfl c_181), (Or.inr ⟨(xI_ne (Y := 50) rfl rfl c_205), (Or.inr ⟨(xI_ne (Y := 51) rfl rfl c_229), (Or.inr ⟨(xI_ne (Y := 52) rfl rfl c_253), (Or.inr ⟨(xI_ne (Y := 53) rfl rfl c_277), (Or.inr ⟨(xI_ne (Y := 54) rfl rfl c_301), (Or.inr ⟨(xI_ne (Y := 55) rfl rfl c_325), (Or.inl ⟨c_349, (Or.inl ⟨c_350, (Or.inr ⟨c_358, ⟨r_367, G_368, hX_371, ⟨rfl, rfl⟩⟩⟩)⟩)⟩)⟩)⟩)⟩)⟩)⟩)⟩)⟩)⟩)⟩)⟩)⟩)⟩)⟩)⟩)⟩)⟩)⟩)⟩)⟩)⟩), wd_t ht hW⟩, hS.F ht⟩) hS.2.2 dX12_done_231
  by_cases c_373 : p0 = 57
  · refine lv_tableIn (tgt := 215) hx hb dX12_done_1 (by rw [c_373]; decide) (by rw [c_373]; decide) (off := 214) (by rw [c_373]; decide) (by decide) ?_
    have c_373 : p0.toInt = 57 := xI_eq rfl rfl c_373
    refine lv_iload_n hx hb dX12_done_215 rfl (lv_at hl 1 rfl) ?_
    refine lv_if_ne (tgt := 223) hx hb dX12_done_216 rfl (fun c_374 => ?_) (fun c_374 => ?_)
    · have c_374 : p1.toInt ≠ 0 := xI_ne rfl rfl c_374
      refine ic_1 hx hb dX12_done_223 ?_
      refine lv_goto (tgt := 228) hx hb dX12_done_224 rfl ?_
      have qc_375 : (1 : Int32).toInt = 1 := rfl
      refine S_calli (va_runS (As := [.int 1]) (rest := []) ⟨hx, hb, hml, hown, hts⟩ (n_truth l D k A a z G 1 ⟨by decide, by decide⟩) (va_cwS 1 hts (gd_S hgd m1788 m1789 m131 m1790) rfl rfl rfl hd_X12_truth.2 ⟨Nat.le_of_ble_eq_true rfl, Nat.le_of_ble_eq_true rfl⟩) (pre_S hW hB_G hK hZ hS) rfl rfl hl.1 rfl (lv_room (Nat.le_of_ble_eq_true rfl)) dX12_done_228 ⟨Nat.le_of_ble_eq_true rfl, Nat.le_of_ble_eq_true rfl⟩) hS (fun r_376 G_377 H locs hpo hW hS => ?_)
      have hX_380 : Q_truth 1 G r_376 G_377 := hpo
      obtain ⟨hB_G_377, hq_378, f_381, hp_379, -⟩ := hpo
      have hF := hF.call9 hq_378 rfl rfl
      exact W.iret (v := r_376) hx hb hr (fun t ht _ => ⟨⟨r_376, G_377, rfl, (Q_done_mk ⟨hB_G_377, hF, (Or.inr ⟨(xI_ne (Y := 37) rfl rfl c_1), (Or.inr ⟨(xI_ne (Y := 38) rfl rfl c_4), (Or.inr ⟨(xI_ne (Y := 39) rfl rfl c_28), (Or.inr ⟨(xI_ne (Y := 40) rfl rfl c_52), (Or.inr ⟨(xI_ne (Y := 41) rfl rfl c_76), (Or.inr ⟨(xI_ne (Y := 42) rfl rfl c_100), (Or.inr ⟨(xI_ne (Y := 43) rfl rfl c_102), (Or.inr ⟨(xI_ne (Y := 44) rfl rfl c_104), (Or.inr ⟨(xI_ne (Y := 45) rfl rfl c_128), (Or.inr ⟨(xI_ne (Y := 46) rfl rfl c_130), (Or.inr ⟨(xI_ne (Y := 47) rfl rfl c_154), (Or.inr ⟨(xI_ne (Y := 48) rfl rfl c_157), (Or.inr ⟨(xI_ne (Y := 49) rfl rfl c_181), (Or.inr ⟨(xI_ne (Y := 50) rfl rfl c_205), (Or.inr ⟨(xI_ne (Y := 51) rfl rfl c_229), (Or.inr ⟨(xI_ne (Y := 52) rfl rfl c_253), (Or.inr ⟨(xI_ne (Y := 53) rfl rfl c_277), (Or.inr ⟨(xI_ne (Y := 54) rfl rfl c_301), (Or.inr ⟨(xI_ne (Y := 55) rfl rfl c_325), (Or.inr ⟨(xI_ne (Y := 56) rfl rfl c_349), (Or.inl ⟨c_373, (Or.inr ⟨c_374, ⟨r_376, G_377, hX_380, ⟨rfl, rfl⟩⟩⟩)⟩)⟩)⟩)⟩)⟩)⟩)⟩)⟩)⟩)⟩)⟩)⟩)⟩)⟩)⟩)⟩)⟩)⟩)⟩)⟩)⟩)⟩), wd_t ht hW⟩, hS.F ht⟩) hS.2.2 dX12_done_231
    · have c_374 : p1.toInt = 0 := xI_eq rfl rfl c_374
      refine lv_iload_n hx hb dX12_done_219 rfl (lv_at hl 2 rfl) ?_
      refine lv_if_eq (tgt := 227) hx hb dX12_done_220 rfl (fun c_382 => ?_) (fun c_382 => ?_)
      · have c_382 : p2.toInt = 0 := xI_eq rfl rfl c_382
        refine ic_0 hx hb dX12_done_227 ?_
        have qc_383 : (0 : Int32).toInt = 0 := rfl
        refine S_calli (va_runS (As := [.int 0]) (rest := []) ⟨hx, hb, hml, hown, hts⟩ (n_truth l D k A a z G 0 ⟨by decide, by decide⟩) (va_cwS 1 hts (gd_S hgd m1788 m1789 m131 m1790) rfl rfl rfl hd_X12_truth.2 ⟨Nat.le_of_ble_eq_true rfl, Nat.le_of_ble_eq_true rfl⟩) (pre_S hW hB_G hK hZ hS) rfl rfl hl.1 rfl (lv_room (Nat.le_of_ble_eq_true rfl)) dX12_done_228 ⟨Nat.le_of_ble_eq_true rfl, Nat.le_of_ble_eq_true rfl⟩) hS (fun r_384 G_385 H locs hpo hW hS => ?_)
        have hX_388 : Q_truth 0 G r_384 G_385 := hpo
        obtain ⟨hB_G_385, hq_386, f_389, hp_387, -⟩ := hpo
        have hF := hF.call9 hq_386 rfl rfl
        exact W.iret (v := r_384) hx hb hr (fun t ht _ => ⟨⟨r_384, G_385, rfl, (Q_done_mk ⟨hB_G_385, hF, (Or.inr ⟨(xI_ne (Y := 37) rfl rfl c_1), (Or.inr ⟨(xI_ne (Y := 38) rfl rfl c_4), (Or.inr ⟨(xI_ne (Y := 39) rfl rfl c_28), (Or.inr ⟨(xI_ne (Y := 40) rfl rfl c_52), (Or.inr ⟨(xI_ne (Y := 41) rfl rfl c_76), (Or.inr ⟨(xI_ne (Y := 42) rfl rfl c_100), (Or.inr ⟨(xI_ne (Y := 43) rfl rfl c_102), (Or.inr ⟨(xI_ne (Y := 44) rfl rfl c_104), (Or.inr ⟨(xI_ne (Y := 45) rfl rfl c_128), (Or.inr ⟨(xI_ne (Y := 46) rfl rfl c_130), (Or.inr ⟨(xI_ne (Y := 47) rfl rfl c_154), (Or.inr ⟨(xI_ne (Y := 48) rfl rfl c_157), (Or.inr ⟨(xI_ne (Y := 49) rfl rfl c_181), (Or.inr ⟨(xI_ne (Y := 50) rfl rfl c_205), (Or.inr ⟨(xI_ne (Y := 51) rfl rfl c_229), (Or.inr ⟨(xI_ne (Y := 52) rfl rfl c_253), (Or.inr ⟨(xI_ne (Y := 53) rfl rfl c_277), (Or.inr ⟨(xI_ne (Y := 54) rfl rfl c_301), (Or.inr ⟨(xI_ne (Y := 55) rfl rfl c_325), (Or.inr ⟨(xI_ne (Y := 56) rfl rfl c_349), (Or.inl ⟨c_373, (Or.inl ⟨c_374, (Or.inl ⟨c_382, ⟨r_384, G_385, hX_388, ⟨rfl, rfl⟩⟩⟩)⟩)⟩)⟩)⟩)⟩)⟩)⟩)⟩)⟩)⟩)⟩)⟩)⟩)⟩)⟩)⟩)⟩)⟩)⟩)⟩)⟩)⟩)⟩), wd_t ht hW⟩, hS.F ht⟩) hS.2.2 dX12_done_231
      · have c_382 : p2.toInt ≠ 0 := xI_ne rfl rfl c_382
        refine ic_1 hx hb dX12_done_223 ?_
        refine lv_goto (tgt := 228) hx hb dX12_done_224 rfl ?_
        have qc_390 : (1 : Int32).toInt = 1 := rfl
        refine S_calli (va_runS (As := [.int 1]) (rest := []) ⟨hx, hb, hml, hown, hts⟩ (n_truth l D k A a z G 1 ⟨by decide, by decide⟩) (va_cwS 1 hts (gd_S hgd m1788 m1789 m131 m1790) rfl rfl rfl hd_X12_truth.2 ⟨Nat.le_of_ble_eq_true rfl, Nat.le_of_ble_eq_true rfl⟩) (pre_S hW hB_G hK hZ hS) rfl rfl hl.1 rfl (lv_room (Nat.le_of_ble_eq_true rfl)) dX12_done_228 ⟨Nat.le_of_ble_eq_true rfl, Nat.le_of_ble_eq_true rfl⟩) hS (fun r_391 G_392 H locs hpo hW hS => ?_)
        have hX_395 : Q_truth 1 G r_391 G_392 := hpo
        obtain ⟨hB_G_392, hq_393, f_396, hp_394, -⟩ := hpo
        have hF := hF.call9 hq_393 rfl rfl
        exact W.iret (v := r_391) hx hb hr (fun t ht _ => ⟨⟨r_391, G_392, rfl, (Q_done_mk ⟨hB_G_392, hF, (Or.inr ⟨(xI_ne (Y := 37) rfl rfl c_1), (Or.inr ⟨(xI_ne (Y := 38) rfl rfl c_4), (Or.inr ⟨(xI_ne (Y := 39) rfl rfl c_28), (Or.inr ⟨(xI_ne (Y := 40) rfl rfl c_52), (Or.inr ⟨(xI_ne (Y := 41) rfl rfl c_76), (Or.inr ⟨(xI_ne (Y := 42) rfl rfl c_100), (Or.inr ⟨(xI_ne (Y := 43) rfl rfl c_102), (Or.inr ⟨(xI_ne (Y := 44) rfl rfl c_104), (Or.inr ⟨(xI_ne (Y := 45) rfl rfl c_128), (Or.inr ⟨(xI_ne (Y := 46) rfl rfl c_130), (Or.inr ⟨(xI_ne (Y := 47) rfl rfl c_154), (Or.inr ⟨(xI_ne (Y := 48) rfl rfl c_157), (Or.inr ⟨(xI_ne (Y := 49) rfl rfl c_181), (Or.inr ⟨(xI_ne (Y := 50) rfl rfl c_205), (Or.inr ⟨(xI_ne (Y := 51) rfl rfl c_229), (Or.inr ⟨(xI_ne (Y := 52) rfl rfl c_253), (Or.inr ⟨(xI_ne (Y := 53) rfl rfl c_277), (Or.inr ⟨(xI_ne (Y := 54) rfl rfl c_301), (Or.inr ⟨(xI_ne (Y := 55) rfl rfl c_325), (Or.inr ⟨(xI_ne (Y := 56) rfl rfl c_349), (Or.inl ⟨c_373, (Or.inl ⟨c_374, (Or.inr ⟨c_382, ⟨r_391, G_392, hX_395, ⟨rfl, rfl⟩⟩⟩)⟩)⟩)⟩)⟩)⟩)⟩)⟩)⟩)⟩)⟩)⟩)⟩)⟩)⟩)⟩)⟩)⟩)⟩)⟩)⟩)⟩)⟩)⟩), wd_t ht hW⟩, hS.F ht⟩) hS.2.2 dX12_done_231
  by_cases c_397 : p0 = 58
  · refine lv_tableIn (tgt := 215) hx hb dX12_done_1 (by rw [c_397]; decide) (by rw [c_397]; decide) (off := 214) (by rw [c_397]; decide) (by decide) ?_
    have c_397 : p0.toInt = 58 := xI_eq rfl rfl c_397
    refine lv_iload_n hx hb dX12_done_215 rfl (lv_at hl 1 rfl) ?_
    refine lv_if_ne (tgt := 223) hx hb dX12_done_216 rfl (fun c_398 => ?_) (fun c_398 => ?_)
    · have c_398 : p1.toInt ≠ 0 := xI_ne rfl rfl c_398
      refine ic_1 hx hb dX12_done_223 ?_
      refine lv_goto (tgt := 228) hx hb dX12_done_224 rfl ?_
      have qc_399 : (1 : Int32).toInt = 1 := rfl
      refine S_calli (va_runS (As := [.int 1]) (rest := []) ⟨hx, hb, hml, hown, hts⟩ (n_truth l D k A a z G 1 ⟨by decide, by decide⟩) (va_cwS 1 hts (gd_S hgd m1788 m1789 m131 m1790) rfl rfl rfl hd_X12_truth.2 ⟨Nat.le_of_ble_eq_true rfl, Nat.le_of_ble_eq_true rfl⟩) (pre_S hW hB_G hK hZ hS) rfl rfl hl.1 rfl (lv_room (Nat.le_of_ble_eq_true rfl)) dX12_done_228 ⟨Nat.le_of_ble_eq_true rfl, Nat.le_of_ble_eq_true rfl⟩) hS (fun r_400 G_401 H locs hpo hW hS => ?_)
      have hX_404 : Q_truth 1 G r_400 G_401 := hpo
      obtain ⟨hB_G_401, hq_402, f_405, hp_403, -⟩ := hpo
      have hF := hF.call9 hq_402 rfl rfl
      exact W.iret (v := r_400) hx hb hr (fun t ht _ => ⟨⟨r_400, G_401, rfl, (Q_done_mk ⟨hB_G_401, hF, (Or.inr ⟨(xI_ne (Y := 37) rfl rfl c_1), (Or.inr ⟨(xI_ne (Y := 38) rfl rfl c_4), (Or.inr ⟨(xI_ne (Y := 39) rfl rfl c_28), (Or.inr ⟨(xI_ne (Y := 40) rfl rfl c_52), (Or.inr ⟨(xI_ne (Y := 41) rfl rfl c_76), (Or.inr ⟨(xI_ne (Y := 42) rfl rfl c_100), (Or.inr ⟨(xI_ne (Y := 43) rfl rfl c_102), (Or.inr ⟨(xI_ne (Y := 44) rfl rfl c_104), (Or.inr ⟨(xI_ne (Y := 45) rfl rfl c_128), (Or.inr ⟨(xI_ne (Y := 46) rfl rfl c_130), (Or.inr ⟨(xI_ne (Y := 47) rfl rfl c_154), (Or.inr ⟨(xI_ne (Y := 48) rfl rfl c_157), (Or.inr ⟨(xI_ne (Y := 49) rfl rfl c_181), (Or.inr ⟨(xI_ne (Y := 50) rfl rfl c_205), (Or.inr ⟨(xI_ne (Y := 51) rfl rfl c_229), (Or.inr ⟨(xI_ne (Y := 52) rfl rfl c_253), (Or.inr ⟨(xI_ne (Y := 53) rfl rfl c_277), (Or.inr ⟨(xI_ne (Y := 54) rfl rfl c_301), (Or.inr ⟨(xI_ne (Y := 55) rfl rfl c_325), (Or.inr ⟨(xI_ne (Y := 56) rfl rfl c_349), (Or.inr ⟨(xI_ne (Y := 57) rfl rfl c_373), (Or.inl ⟨c_397, (Or.inr ⟨c_398, ⟨r_400, G_401, hX_404, ⟨rfl, rfl⟩⟩⟩)⟩)⟩)⟩)⟩)⟩)⟩)⟩)⟩)⟩)⟩)⟩)⟩)⟩)⟩)⟩)⟩)⟩)⟩)⟩)⟩)⟩)⟩)⟩), wd_t ht hW⟩, hS.F ht⟩) hS.2.2 dX12_done_231
    · have c_398 : p1.toInt = 0 := xI_eq rfl rfl c_398
      refine lv_iload_n hx hb dX12_done_219 rfl (lv_at hl 2 rfl) ?_
      refine lv_if_eq (tgt := 227) hx hb dX12_done_220 rfl (fun c_406 => ?_) (fun c_406 => ?_)
      · have c_406 : p2.toInt = 0 := xI_eq rfl rfl c_406
        refine ic_0 hx hb dX12_done_227 ?_
        have qc_407 : (0 : Int32).toInt = 0 := rfl
        refine S_calli (va_runS (As := [.int 0]) (rest := []) ⟨hx, hb, hml, hown, hts⟩ (n_truth l D k A a z G 0 ⟨by decide, by decide⟩) (va_cwS 1 hts (gd_S hgd m1788 m1789 m131 m1790) rfl rfl rfl hd_X12_truth.2 ⟨Nat.le_of_ble_eq_true rfl, Nat.le_of_ble_eq_true rfl⟩) (pre_S hW hB_G hK hZ hS) rfl rfl hl.1 rfl (lv_room (Nat.le_of_ble_eq_true rfl)) dX12_done_228 ⟨Nat.le_of_ble_eq_true rfl, Nat.le_of_ble_eq_true rfl⟩) hS (fun r_408 G_409 H locs hpo hW hS => ?_)
        have hX_412 : Q_truth 0 G r_408 G_409 := hpo
        obtain ⟨hB_G_409, hq_410, f_413, hp_411, -⟩ := hpo
        have hF := hF.call9 hq_410 rfl rfl
        exact W.iret (v := r_408) hx hb hr (fun t ht _ => ⟨⟨r_408, G_409, rfl, (Q_done_mk ⟨hB_G_409, hF, (Or.inr ⟨(xI_ne (Y := 37) rfl rfl c_1), (Or.inr ⟨(xI_ne (Y := 38) rfl rfl c_4), (Or.inr ⟨(xI_ne (Y := 39) rfl rfl c_28), (Or.inr ⟨(xI_ne (Y := 40) rfl rfl c_52), (Or.inr ⟨(xI_ne (Y := 41) rfl rfl c_76), (Or.inr ⟨(xI_ne (Y := 42) rfl rfl c_100), (Or.inr ⟨(xI_ne (Y := 43) rfl rfl c_102), (Or.inr ⟨(xI_ne (Y := 44) rfl rfl c_104), (Or.inr ⟨(xI_ne (Y := 45) rfl rfl c_128), (Or.inr ⟨(xI_ne (Y := 46) rfl rfl c_130), (Or.inr ⟨(xI_ne (Y := 47) rfl rfl c_154), (Or.inr ⟨(xI_ne (Y := 48) rfl rfl c_157), (Or.inr ⟨(xI_ne (Y := 49) rfl rfl c_181), (Or.inr ⟨(xI_ne (Y := 50) rfl rfl c_205), (Or.inr ⟨(xI_ne (Y := 51) rfl rfl c_229), (Or.inr ⟨(xI_ne (Y := 52) rfl rfl c_253), (Or.inr ⟨(xI_ne (Y := 53) rfl rfl c_277), (Or.inr ⟨(xI_ne (Y := 54) rfl rfl c_301), (Or.inr ⟨(xI_ne (Y := 55) rfl rfl c_325), (Or.inr ⟨(xI_ne (Y := 56) rfl rfl c_349), (Or.inr ⟨(xI_ne (Y := 57) rfl rfl c_373), (Or.inl ⟨c_397, (Or.inl ⟨c_398, (Or.inl ⟨c_406, ⟨r_408, G_409, hX_412, ⟨rfl, rfl⟩⟩⟩)⟩)⟩)⟩)⟩)⟩)⟩)⟩)⟩)⟩)⟩)⟩)⟩)⟩)⟩)⟩)⟩)⟩)⟩)⟩)⟩)⟩)⟩)⟩)⟩), wd_t ht hW⟩, hS.F ht⟩) hS.2.2 dX12_done_231
      · have c_406 : p2.toInt ≠ 0 := xI_ne rfl rfl c_406
        refine ic_1 hx hb dX12_done_223 ?_
        refine lv_goto (tgt := 228) hx hb dX12_done_224 rfl ?_
        have qc_414 : (1 : Int32).toInt = 1 := rfl
        refine S_calli (va_runS (As := [.int 1]) (rest := []) ⟨hx, hb, hml, hown, hts⟩ (n_truth l D k A a z G 1 ⟨by decide, by decide⟩) (va_cwS 1 hts (gd_S hgd m1788 m1789 m131 m1790) rfl rfl rfl hd_X12_truth.2 ⟨Nat.le_of_ble_eq_true rfl, Nat.le_of_ble_eq_true rfl⟩) (pre_S hW hB_G hK hZ hS) rfl rfl hl.1 rfl (lv_room (Nat.le_of_ble_eq_true rfl)) dX12_done_228 ⟨Nat.le_of_ble_eq_true rfl, Nat.le_of_ble_eq_true rfl⟩) hS (fun r_415 G_416 H locs hpo hW hS => ?_)
        have hX_419 : Q_truth 1 G r_415 G_416 := hpo
        obtain ⟨hB_G_416, hq_417, f_420, hp_418, -⟩ := hpo
        have hF := hF.call9 hq_417 rfl rfl
        exact W.iret (v := r_415) hx hb hr (fun t ht _ => ⟨⟨r_415, G_416, rfl, (Q_done_mk ⟨hB_G_416, hF, (Or.inr ⟨(xI_ne (Y := 37) rfl rfl c_1), (Or.inr ⟨(xI_ne (Y := 38) rfl rfl c_4), (Or.inr ⟨(xI_ne (Y := 39) rfl rfl c_28), (Or.inr ⟨(xI_ne (Y := 40) rfl rfl c_52), (Or.inr ⟨(xI_ne (Y := 41) rfl rfl c_76), (Or.inr ⟨(xI_ne (Y := 42) rfl rfl c_100), (Or.inr ⟨(xI_ne (Y := 43) rfl rfl c_102), (Or.inr ⟨(xI_ne (Y := 44) rfl rfl c_104), (Or.inr ⟨(xI_ne (Y := 45) rfl rfl c_128), (Or.inr ⟨(xI_ne (Y := 46) rfl rfl c_130), (Or.inr ⟨(xI_ne (Y := 47) rfl rfl c_154), (Or.inr ⟨(xI_ne (Y := 48) rfl rfl c_157), (Or.inr ⟨(xI_ne (Y := 49) rfl rfl c_181), (Or.inr ⟨(xI_ne (Y := 50) rfl rfl c_205), (Or.inr ⟨(xI_ne (Y := 51) rfl rfl c_229), (Or.inr ⟨(xI_ne (Y := 52) rfl rfl c_253), (Or.inr ⟨(xI_ne (Y := 53) rfl rfl c_277), (Or.inr ⟨(xI_ne (Y := 54) rfl rfl c_301), (Or.inr ⟨(xI_ne (Y := 55) rfl rfl c_325), (Or.inr ⟨(xI_ne (Y := 56) rfl rfl c_349), (Or.inr ⟨(xI_ne (Y := 57) rfl rfl c_373), (Or.inl ⟨c_397, (Or.inl ⟨c_398, (Or.inr ⟨c_406, ⟨r_415, G_416, hX_419, ⟨rfl, rfl⟩⟩⟩)⟩)⟩)⟩)⟩)⟩)⟩)⟩)⟩)⟩)⟩)⟩)⟩)⟩)⟩)⟩)⟩)⟩)⟩)⟩)⟩)⟩)⟩)⟩)⟩), wd_t ht hW⟩, hS.F ht⟩) hS.2.2 dX12_done_231
  by_cases c_421 : p0 = 59
  · refine lv_tableIn (tgt := 215) hx hb dX12_done_1 (by rw [c_421]; decide) (by rw [c_421]; decide) (off := 214) (by rw [c_421]; decide) (by decide) ?_
    have c_421 : p0.toInt = 59 := xI_eq rfl rfl c_421
    refine lv_iload_n hx hb dX12_done_215 rfl (lv_at hl 1 rfl) ?_
    refine lv_if_ne (tgt := 223) hx hb dX12_done_216 rfl (fun c_422 => ?_) (fun c_422 => ?_)
    · have c_422 : p1.toInt ≠ 0 := xI_ne rfl rfl c_422
      refine ic_1 hx hb dX12_done_223 ?_
      refine lv_goto (tgt := 228) hx hb dX12_done_224 rfl ?_
      have qc_423 : (1 : Int32).toInt = 1 := rfl
      refine S_calli (va_runS (As := [.int 1]) (rest := []) ⟨hx, hb, hml, hown, hts⟩ (n_truth l D k A a z G 1 ⟨by decide, by decide⟩) (va_cwS 1 hts (gd_S hgd m1788 m1789 m131 m1790) rfl rfl rfl hd_X12_truth.2 ⟨Nat.le_of_ble_eq_true rfl, Nat.le_of_ble_eq_true rfl⟩) (pre_S hW hB_G hK hZ hS) rfl rfl hl.1 rfl (lv_room (Nat.le_of_ble_eq_true rfl)) dX12_done_228 ⟨Nat.le_of_ble_eq_true rfl, Nat.le_of_ble_eq_true rfl⟩) hS (fun r_424 G_425 H locs hpo hW hS => ?_)
      have hX_428 : Q_truth 1 G r_424 G_425 := hpo
      obtain ⟨hB_G_425, hq_426, f_429, hp_427, -⟩ := hpo
      have hF := hF.call9 hq_426 rfl rfl
      exact W.iret (v := r_424) hx hb hr (fun t ht _ => ⟨⟨r_424, G_425, rfl, (Q_done_mk ⟨hB_G_425, hF, (Or.inr ⟨(xI_ne (Y := 37) rfl rfl c_1), (Or.inr ⟨(xI_ne (Y := 38) rfl rfl c_4), (Or.inr ⟨(xI_ne (Y := 39) rfl rfl c_28), (Or.inr ⟨(xI_ne (Y := 40) rfl rfl c_52), (Or.inr ⟨(xI_ne (Y := 41) rfl rfl c_76), (Or.inr ⟨(xI_ne (Y := 42) rfl rfl c_100), (Or.inr ⟨(xI_ne (Y := 43) rfl rfl c_102), (Or.inr ⟨(xI_ne (Y := 44) rfl rfl c_104), (Or.inr ⟨(xI_ne (Y := 45) rfl rfl c_128), (Or.inr ⟨(xI_ne (Y := 46) rfl rfl c_130), (Or.inr ⟨(xI_ne (Y := 47) rfl rfl c_154), (Or.inr ⟨(xI_ne (Y := 48) rfl rfl c_157), (Or.inr ⟨(xI_ne (Y := 49) rfl rfl c_181), (Or.inr ⟨(xI_ne (Y := 50) rfl rfl c_205), (Or.inr ⟨(xI_ne (Y := 51) rfl rfl c_229), (Or.inr ⟨(xI_ne (Y := 52) rfl rfl c_253), (Or.inr ⟨(xI_ne (Y := 53) rfl rfl c_277), (Or.inr ⟨(xI_ne (Y := 54) rfl rfl c_301), (Or.inr ⟨(xI_ne (Y := 55) rfl rfl c_325), (Or.inr ⟨(xI_ne (Y := 56) rfl rfl c_349), (Or.inr ⟨(xI_ne (Y := 57) rfl rfl c_373), (Or.inr ⟨(xI_ne (Y := 58) rfl rfl c_397), (Or.inl ⟨c_421, (Or.inr ⟨c_422, ⟨r_424, G_425, hX_428, ⟨rfl, rfl⟩⟩⟩)⟩)⟩)⟩)⟩)⟩)⟩)⟩)⟩)⟩)⟩)⟩)⟩)⟩)⟩)⟩)⟩)⟩)⟩)⟩)⟩)⟩)⟩)⟩)⟩), wd_t ht hW⟩, hS.F ht⟩) hS.2.2 dX12_done_231
    · have c_422 : p1.toInt = 0 := xI_eq rfl rfl c_422
      refine lv_iload_n hx hb dX12_done_219 rfl (lv_at hl 2 rfl) ?_
      refine lv_if_eq (tgt := 227) hx hb dX12_done_220 rfl (fun c_430 => ?_) (fun c_430 => ?_)
      · have c_430 : p2.toInt = 0 := xI_eq rfl rfl c_430
        refine ic_0 hx hb dX12_done_227 ?_
        have qc_431 : (0 : Int32).toInt = 0 := rfl
        refine S_calli (va_runS (As := [.int 0]) (rest := []) ⟨hx, hb, hml, hown, hts⟩ (n_truth l D k A a z G 0 ⟨by decide, by decide⟩) (va_cwS 1 hts (gd_S hgd m1788 m1789 m131 m1790) rfl rfl rfl hd_X12_truth.2 ⟨Nat.le_of_ble_eq_true rfl, Nat.le_of_ble_eq_true rfl⟩) (pre_S hW hB_G hK hZ hS) rfl rfl hl.1 rfl (lv_room (Nat.le_of_ble_eq_true rfl)) dX12_done_228 ⟨Nat.le_of_ble_eq_true rfl, Nat.le_of_ble_eq_true rfl⟩) hS (fun r_432 G_433 H locs hpo hW hS => ?_)
        have hX_436 : Q_truth 0 G r_432 G_433 := hpo
        obtain ⟨hB_G_433, hq_434, f_437, hp_435, -⟩ := hpo
        have hF := hF.call9 hq_434 rfl rfl
        exact W.iret (v := r_432) hx hb hr (fun t ht _ => ⟨⟨r_432, G_433, rfl, (Q_done_mk ⟨hB_G_433, hF, (Or.inr ⟨(xI_ne (Y := 37) rfl rfl c_1), (Or.inr ⟨(xI_ne (Y := 38) rfl rfl c_4), (Or.inr ⟨(xI_ne (Y := 39) rfl rfl c_28), (Or.inr ⟨(xI_ne (Y := 40) rfl rfl c_52), (Or.inr ⟨(xI_ne (Y := 41) rfl rfl c_76), (Or.inr ⟨(xI_ne (Y := 42) rfl rfl c_100), (Or.inr ⟨(xI_ne (Y := 43) rfl rfl c_102), (Or.inr ⟨(xI_ne (Y := 44) rfl rfl c_104), (Or.inr ⟨(xI_ne (Y := 45) rfl rfl c_128), (Or.inr ⟨(xI_ne (Y := 46) rfl rfl c_130), (Or.inr ⟨(xI_ne (Y := 47) rfl rfl c_154), (Or.inr ⟨(xI_ne (Y := 48) rfl rfl c_157), (Or.inr ⟨(xI_ne (Y := 49) rfl rfl c_181), (Or.inr ⟨(xI_ne (Y := 50) rfl rfl c_205), (Or.inr ⟨(xI_ne (Y := 51) rfl rfl c_229), (Or.inr ⟨(xI_ne (Y := 52) rfl rfl c_253), (Or.inr ⟨(xI_ne (Y := 53) rfl rfl c_277), (Or.inr ⟨(xI_ne (Y := 54) rfl rfl c_301), (Or.inr ⟨(xI_ne (Y := 55) rfl rfl c_325), (Or.inr ⟨(xI_ne (Y := 56) rfl rfl c_349), (Or.inr ⟨(xI_ne (Y := 57) rfl rfl c_373), (Or.inr ⟨(xI_ne (Y := 58) rfl rfl c_397), (Or.inl ⟨c_421, (Or.inl ⟨c_422, (Or.inl ⟨c_430, ⟨r_432, G_433, hX_436, ⟨rfl, rfl⟩⟩⟩)⟩)⟩)⟩)⟩)⟩)⟩)⟩)⟩)⟩)⟩)⟩)⟩)⟩)⟩)⟩)⟩)⟩)⟩)⟩)⟩)⟩)⟩)⟩)⟩)⟩), wd_t ht hW⟩, hS.F ht⟩) hS.2.2 dX12_done_231
      · have c_430 : p2.toInt ≠ 0 := xI_ne rfl rfl c_430
        refine ic_1 hx hb dX12_done_223 ?_
        refine lv_goto (tgt := 228) hx hb dX12_done_224 rfl ?_
        have qc_438 : (1 : Int32).toInt = 1 := rfl
        refine S_calli (va_runS (As := [.int 1]) (rest := []) ⟨hx, hb, hml, hown, hts⟩ (n_truth l D k A a z G 1 ⟨by decide, by decide⟩) (va_cwS 1 hts (gd_S hgd m1788 m1789 m131 m1790) rfl rfl rfl hd_X12_truth.2 ⟨Nat.le_of_ble_eq_true rfl, Nat.le_of_ble_eq_true rfl⟩) (pre_S hW hB_G hK hZ hS) rfl rfl hl.1 rfl (lv_room (Nat.le_of_ble_eq_true rfl)) dX12_done_228 ⟨Nat.le_of_ble_eq_true rfl, Nat.le_of_ble_eq_true rfl⟩) hS (fun r_439 G_440 H locs hpo hW hS => ?_)
        have hX_443 : Q_truth 1 G r_439 G_440 := hpo
        obtain ⟨hB_G_440, hq_441, f_444, hp_442, -⟩ := hpo
        have hF := hF.call9 hq_441 rfl rfl
        exact W.iret (v := r_439) hx hb hr (fun t ht _ => ⟨⟨r_439, G_440, rfl, (Q_done_mk ⟨hB_G_440, hF, (Or.inr ⟨(xI_ne (Y := 37) rfl rfl c_1), (Or.inr ⟨(xI_ne (Y := 38) rfl rfl c_4), (Or.inr ⟨(xI_ne (Y := 39) rfl rfl c_28), (Or.inr ⟨(xI_ne (Y := 40) rfl rfl c_52), (Or.inr ⟨(xI_ne (Y := 41) rfl rfl c_76), (Or.inr ⟨(xI_ne (Y := 42) rfl rfl c_100), (Or.inr ⟨(xI_ne (Y := 43) rfl rfl c_102), (Or.inr ⟨(xI_ne (Y := 44) rfl rfl c_104), (Or.inr ⟨(xI_ne (Y := 45) rfl rfl c_128), (Or.inr ⟨(xI_ne (Y := 46) rfl rfl c_130), (Or.inr ⟨(xI_ne (Y := 47) rfl rfl c_154), (Or.inr ⟨(xI_ne (Y := 48) rfl rfl c_157), (Or.inr ⟨(xI_ne (Y := 49) rfl rfl c_181), (Or.inr ⟨(xI_ne (Y := 50) rfl rfl c_205), (Or.inr ⟨(xI_ne (Y := 51) rfl rfl c_229), (Or.inr ⟨(xI_ne (Y := 52) rfl rfl c_253), (Or.inr ⟨(xI_ne (Y := 53) rfl rfl c_277), (Or.inr ⟨(xI_ne (Y := 54) rfl rfl c_301), (Or.inr ⟨(xI_ne (Y := 55) rfl rfl c_325), (Or.inr ⟨(xI_ne (Y := 56) rfl rfl c_349), (Or.inr ⟨(xI_ne (Y := 57) rfl rfl c_373), (Or.inr ⟨(xI_ne (Y := 58) rfl rfl c_397), (Or.inl ⟨c_421, (Or.inl ⟨c_422, (Or.inr ⟨c_430, ⟨r_439, G_440, hX_443, ⟨rfl, rfl⟩⟩⟩)⟩)⟩)⟩)⟩)⟩)⟩)⟩)⟩)⟩)⟩)⟩)⟩)⟩)⟩)⟩)⟩)⟩)⟩)⟩)⟩)⟩)⟩)⟩)⟩)⟩), wd_t ht hW⟩, hS.F ht⟩) hS.2.2 dX12_done_231
  by_cases c_445 : p0 = 60
  · refine lv_tableIn (tgt := 156) hx hb dX12_done_1 (by rw [c_445]; decide) (by rw [c_445]; decide) (off := 155) (by rw [c_445]; decide) (by decide) ?_
    have c_445 : p0.toInt = 60 := xI_eq rfl rfl c_445
    refine lv_iload_n hx hb dX12_done_156 rfl (lv_at hl 1 rfl) ?_
    refine lv_iload_n hx hb dX12_done_157 rfl (lv_at hl 2 rfl) ?_
    refine lv_icmp_ge (tgt := 165) hx hb dX12_done_158 rfl (fun c_446 => ?_) (fun c_446 => ?_)
    · have c_446 : p2.toInt ≤ p1.toInt := xI_le rfl rfl c_446
      refine ic_0 hx hb dX12_done_165 ?_
      have qc_447 : (0 : Int32).toInt = 0 := rfl
      refine S_calli (va_runS (As := [.int 0]) (rest := []) ⟨hx, hb, hml, hown, hts⟩ (n_truth l D k A a z G 0 ⟨by decide, by decide⟩) (va_cwS 1 hts (gd_S hgd m1788 m1789 m131 m1790) rfl rfl rfl hd_X12_truth.2 ⟨Nat.le_of_ble_eq_true rfl, Nat.le_of_ble_eq_true rfl⟩) (pre_S hW hB_G hK hZ hS) rfl rfl hl.1 rfl (lv_room (Nat.le_of_ble_eq_true rfl)) dX12_done_166 ⟨Nat.le_of_ble_eq_true rfl, Nat.le_of_ble_eq_true rfl⟩) hS (fun r_448 G_449 H locs hpo hW hS => ?_)
      have hX_452 : Q_truth 0 G r_448 G_449 := hpo
      obtain ⟨hB_G_449, hq_450, f_453, hp_451, -⟩ := hpo
      have hF := hF.call9 hq_450 rfl rfl
      exact W.iret (v := r_448) hx hb hr (fun t ht _ => ⟨⟨r_448, G_449, rfl, (Q_done_mk ⟨hB_G_449, hF, (Or.inr ⟨(xI_ne (Y := 37) rfl rfl c_1), (Or.inr ⟨(xI_ne (Y := 38) rfl rfl c_4), (Or.inr ⟨(xI_ne (Y := 39) rfl rfl c_28), (Or.inr ⟨(xI_ne (Y := 40) rfl rfl c_52), (Or.inr ⟨(xI_ne (Y := 41) rfl rfl c_76), (Or.inr ⟨(xI_ne (Y := 42) rfl rfl c_100), (Or.inr ⟨(xI_ne (Y := 43) rfl rfl c_102), (Or.inr ⟨(xI_ne (Y := 44) rfl rfl c_104), (Or.inr ⟨(xI_ne (Y := 45) rfl rfl c_128), (Or.inr ⟨(xI_ne (Y := 46) rfl rfl c_130), (Or.inr ⟨(xI_ne (Y := 47) rfl rfl c_154), (Or.inr ⟨(xI_ne (Y := 48) rfl rfl c_157), (Or.inr ⟨(xI_ne (Y := 49) rfl rfl c_181), (Or.inr ⟨(xI_ne (Y := 50) rfl rfl c_205), (Or.inr ⟨(xI_ne (Y := 51) rfl rfl c_229), (Or.inr ⟨(xI_ne (Y := 52) rfl rfl c_253), (Or.inr ⟨(xI_ne (Y := 53) rfl rfl c_277), (Or.inr ⟨(xI_ne (Y := 54) rfl rfl c_301), (Or.inr ⟨(xI_ne (Y := 55) rfl rfl c_325), (Or.inr ⟨(xI_ne (Y := 56) rfl rfl c_349), (Or.inr ⟨(xI_ne (Y := 57) rfl rfl c_373), (Or.inr ⟨(xI_ne (Y := 58) rfl rfl c_397), (Or.inr ⟨(xI_ne (Y := 59) rfl rfl c_421), (Or.inl ⟨c_445, (Or.inl ⟨c_446, ⟨r_448, G_449, hX_452, ⟨rfl, rfl⟩⟩⟩)⟩)⟩)⟩)⟩)⟩)⟩)⟩)⟩)⟩)⟩)⟩)⟩)⟩)⟩)⟩)⟩)⟩)⟩)⟩)⟩)⟩)⟩)⟩)⟩)⟩), wd_t ht hW⟩, hS.F ht⟩) hS.2.2 dX12_done_169
    · have c_446 : p1.toInt < p2.toInt := xI_nle rfl rfl c_446
      refine ic_1 hx hb dX12_done_161 ?_
      refine lv_goto (tgt := 166) hx hb dX12_done_162 rfl ?_
      have qc_454 : (1 : Int32).toInt = 1 := rfl
      refine S_calli (va_runS (As := [.int 1]) (rest := []) ⟨hx, hb, hml, hown, hts⟩ (n_truth l D k A a z G 1 ⟨by decide, by decide⟩) (va_cwS 1 hts (gd_S hgd m1788 m1789 m131 m1790) rfl rfl rfl hd_X12_truth.2 ⟨Nat.le_of_ble_eq_true rfl, Nat.le_of_ble_eq_true rfl⟩) (pre_S hW hB_G hK hZ hS) rfl rfl hl.1 rfl (lv_room (Nat.le_of_ble_eq_true rfl)) dX12_done_166 ⟨Nat.le_of_ble_eq_true rfl, Nat.le_of_ble_eq_true rfl⟩) hS (fun r_455 G_456 H locs hpo hW hS => ?_)
      have hX_459 : Q_truth 1 G r_455 G_456 := hpo
      obtain ⟨hB_G_456, hq_457, f_460, hp_458, -⟩ := hpo
      have hF := hF.call9 hq_457 rfl rfl
      exact W.iret (v := r_455) hx hb hr (fun t ht _ => ⟨⟨r_455, G_456, rfl, (Q_done_mk ⟨hB_G_456, hF, (Or.inr ⟨(xI_ne (Y := 37) rfl rfl c_1), (Or.inr ⟨(xI_ne (Y := 38) rfl rfl c_4), (Or.inr ⟨(xI_ne (Y := 39) rfl rfl c_28), (Or.inr ⟨(xI_ne (Y := 40) rfl rfl c_52), (Or.inr ⟨(xI_ne (Y := 41) rfl rfl c_76), (Or.inr ⟨(xI_ne (Y := 42) rfl rfl c_100), (Or.inr ⟨(xI_ne (Y := 43) rfl rfl c_102), (Or.inr ⟨(xI_ne (Y := 44) rfl rfl c_104), (Or.inr ⟨(xI_ne (Y := 45) rfl rfl c_128), (Or.inr ⟨(xI_ne (Y := 46) rfl rfl c_130), (Or.inr ⟨(xI_ne (Y := 47) rfl rfl c_154), (Or.inr ⟨(xI_ne (Y := 48) rfl rfl c_157), (Or.inr ⟨(xI_ne (Y := 49) rfl rfl c_181), (Or.inr ⟨(xI_ne (Y := 50) rfl rfl c_205), (Or.inr ⟨(xI_ne (Y := 51) rfl rfl c_229), (Or.inr ⟨(xI_ne (Y := 52) rfl rfl c_253), (Or.inr ⟨(xI_ne (Y := 53) rfl rfl c_277), (Or.inr ⟨(xI_ne (Y := 54) rfl rfl c_301), (Or.inr ⟨(xI_ne (Y := 55) rfl rfl c_325), (Or.inr ⟨(xI_ne (Y := 56) rfl rfl c_349), (Or.inr ⟨(xI_ne (Y := 57) rfl rfl c_373), (Or.inr ⟨(xI_ne (Y := 58) rfl rfl c_397), (Or.inr ⟨(xI_ne (Y := 59) rfl rfl c_421), (Or.inl ⟨c_445, (Or.inr ⟨c_446, ⟨r_455, G_456, hX_459, ⟨rfl, rfl⟩⟩⟩)⟩)⟩)⟩)⟩)⟩)⟩)⟩)⟩)⟩)⟩)⟩)⟩)⟩)⟩)⟩)⟩)⟩)⟩)⟩)⟩)⟩)⟩)⟩)⟩)⟩), wd_t ht hW⟩, hS.F ht⟩) hS.2.2 dX12_done_169
  by_cases c_461 : p0 = 61
  · refine lv_tableIn (tgt := 184) hx hb dX12_done_1 (by rw [c_461]; decide) (by rw [c_461]; decide) (off := 183) (by rw [c_461]; decide) (by decide) ?_
    have c_461 : p0.toInt = 61 := xI_eq rfl rfl c_461
    refine lv_iload_n hx hb dX12_done_184 rfl (lv_at hl 1 rfl) ?_
    refine lv_iload_n hx hb dX12_done_185 rfl (lv_at hl 2 rfl) ?_
    refine lv_icmp_ne (tgt := 193) hx hb dX12_done_186 rfl (fun c_462 => ?_) (fun c_462 => ?_)
    · have c_462 : p1.toInt ≠ p2.toInt := xI_ne rfl rfl c_462
      refine ic_0 hx hb dX12_done_193 ?_
      have qc_463 : (0 : Int32).toInt = 0 := rfl
      refine S_calli (va_runS (As := [.int 0]) (rest := []) ⟨hx, hb, hml, hown, hts⟩ (n_truth l D k A a z G 0 ⟨by decide, by decide⟩) (va_cwS 1 hts (gd_S hgd m1788 m1789 m131 m1790) rfl rfl rfl hd_X12_truth.2 ⟨Nat.le_of_ble_eq_true rfl, Nat.le_of_ble_eq_true rfl⟩) (pre_S hW hB_G hK hZ hS) rfl rfl hl.1 rfl (lv_room (Nat.le_of_ble_eq_true rfl)) dX12_done_194 ⟨Nat.le_of_ble_eq_true rfl, Nat.le_of_ble_eq_true rfl⟩) hS (fun r_464 G_465 H locs hpo hW hS => ?_)
      have hX_468 : Q_truth 0 G r_464 G_465 := hpo
      obtain ⟨hB_G_465, hq_466, f_469, hp_467, -⟩ := hpo
      have hF := hF.call9 hq_466 rfl rfl
      exact W.iret (v := r_464) hx hb hr (fun t ht _ => ⟨⟨r_464, G_465, rfl, (Q_done_mk ⟨hB_G_465, hF, (Or.inr ⟨(xI_ne (Y := 37) rfl rfl c_1), (Or.inr ⟨(xI_ne (Y := 38) rfl rfl c_4), (Or.inr ⟨(xI_ne (Y := 39) rfl rfl c_28), (Or.inr ⟨(xI_ne (Y := 40) rfl rfl c_52), (Or.inr ⟨(xI_ne (Y := 41) rfl rfl c_76), (Or.inr ⟨(xI_ne (Y := 42) rfl rfl c_100), (Or.inr ⟨(xI_ne (Y := 43) rfl rfl c_102), (Or.inr ⟨(xI_ne (Y := 44) rfl rfl c_104), (Or.inr ⟨(xI_ne (Y := 45) rfl rfl c_128), (Or.inr ⟨(xI_ne (Y := 46) rfl rfl c_130), (Or.inr ⟨(xI_ne (Y := 47) rfl rfl c_154), (Or.inr ⟨(xI_ne (Y := 48) rfl rfl c_157), (Or.inr ⟨(xI_ne (Y := 49) rfl rfl c_181), (Or.inr ⟨(xI_ne (Y := 50) rfl rfl c_205), (Or.inr ⟨(xI_ne (Y := 51) rfl rfl c_229), (Or.inr ⟨(xI_ne (Y := 52) rfl rfl c_253), (Or.inr ⟨(xI_ne (Y := 53) rfl rfl c_277), (Or.inr ⟨(xI_ne (Y := 54) rfl rfl c_301), (Or.inr ⟨(xI_ne (Y := 55) rfl rfl c_325), (Or.inr ⟨(xI_ne (Y := 56) rfl rfl c_349), (Or.inr ⟨(xI_ne (Y := 57) rfl rfl c_373), (Or.inr ⟨(xI_ne (Y := 58) rfl rfl c_397), (Or.inr ⟨(xI_ne (Y := 59) rfl rfl c_421), (Or.inr ⟨(xI_ne (Y := 60) rfl rfl c_445), (Or.inl ⟨c_461, (Or.inr ⟨c_462, ⟨r_464, G_465, hX_468, ⟨rfl, rfl⟩⟩⟩)⟩)⟩)⟩)⟩)⟩)⟩)⟩)⟩)⟩)⟩)⟩)⟩)⟩)⟩)⟩)⟩)⟩)⟩)⟩)⟩)⟩)⟩)⟩)⟩)⟩)⟩), wd_t ht hW⟩, hS.F ht⟩) hS.2.2 dX12_done_197
    · have c_462 : p1.toInt = p2.toInt := xI_eq rfl rfl c_462
      refine ic_1 hx hb dX12_done_189 ?_
      refine lv_goto (tgt := 194) hx hb dX12_done_190 rfl ?_
      have qc_470 : (1 : Int32).toInt = 1 := rfl
      refine S_calli (va_runS (As := [.int 1]) (rest := []) ⟨hx, hb, hml, hown, hts⟩ (n_truth l D k A a z G 1 ⟨by decide, by decide⟩) (va_cwS 1 hts (gd_S hgd m1788 m1789 m131 m1790) rfl rfl rfl hd_X12_truth.2 ⟨Nat.le_of_ble_eq_true rfl, Nat.le_of_ble_eq_true rfl⟩) (pre_S hW hB_G hK hZ hS) rfl rfl hl.1 rfl (lv_room (Nat.le_of_ble_eq_true rfl)) dX12_done_194 ⟨Nat.le_of_ble_eq_true rfl, Nat.le_of_ble_eq_true rfl⟩) hS (fun r_471 G_472 H locs hpo hW hS => ?_)
      have hX_475 : Q_truth 1 G r_471 G_472 := hpo
      obtain ⟨hB_G_472, hq_473, f_476, hp_474, -⟩ := hpo
      have hF := hF.call9 hq_473 rfl rfl
      exact W.iret (v := r_471) hx hb hr (fun t ht _ => ⟨⟨r_471, G_472, rfl, (Q_done_mk ⟨hB_G_472, hF, (Or.inr ⟨(xI_ne (Y := 37) rfl rfl c_1), (Or.inr ⟨(xI_ne (Y := 38) rfl rfl c_4), (Or.inr ⟨(xI_ne (Y := 39) rfl rfl c_28), (Or.inr ⟨(xI_ne (Y := 40) rfl rfl c_52), (Or.inr ⟨(xI_ne (Y := 41) rfl rfl c_76), (Or.inr ⟨(xI_ne (Y := 42) rfl rfl c_100), (Or.inr ⟨(xI_ne (Y := 43) rfl rfl c_102), (Or.inr ⟨(xI_ne (Y := 44) rfl rfl c_104), (Or.inr ⟨(xI_ne (Y := 45) rfl rfl c_128), (Or.inr ⟨(xI_ne (Y := 46) rfl rfl c_130), (Or.inr ⟨(xI_ne (Y := 47) rfl rfl c_154), (Or.inr ⟨(xI_ne (Y := 48) rfl rfl c_157), (Or.inr ⟨(xI_ne (Y := 49) rfl rfl c_181), (Or.inr ⟨(xI_ne (Y := 50) rfl rfl c_205), (Or.inr ⟨(xI_ne (Y := 51) rfl rfl c_229), (Or.inr ⟨(xI_ne (Y := 52) rfl rfl c_253), (Or.inr ⟨(xI_ne (Y := 53) rfl rfl c_277), (Or.inr ⟨(xI_ne (Y := 54) rfl rfl c_301), (Or.inr ⟨(xI_ne (Y := 55) rfl rfl c_325), (Or.inr ⟨(xI_ne (Y := 56) rfl rfl c_349), (Or.inr ⟨(xI_ne (Y := 57) rfl rfl c_373), (Or.inr ⟨(xI_ne (Y := 58) rfl rfl c_397), (Or.inr ⟨(xI_ne (Y := 59) rfl rfl c_421), (Or.inr ⟨(xI_ne (Y := 60) rfl rfl c_445), (Or.inl ⟨c_461, (Or.inl ⟨c_462, ⟨r_471, G_472, hX_475, ⟨rfl, rfl⟩⟩⟩)⟩)⟩)⟩)⟩)⟩)⟩)⟩)⟩)⟩)⟩)⟩)⟩)⟩)⟩)⟩)⟩)⟩)⟩)⟩)⟩)⟩)⟩)⟩)⟩)⟩)⟩), wd_t ht hW⟩, hS.F ht⟩) hS.2.2 dX12_done_197
  by_cases c_477 : p0 = 62
  · refine lv_tableIn (tgt := 170) hx hb dX12_done_1 (by rw [c_477]; decide) (by rw [c_477]; decide) (off := 169) (by rw [c_477]; decide) (by decide) ?_
    have c_477 : p0.toInt = 62 := xI_eq rfl rfl c_477
    refine lv_iload_n hx hb dX12_done_170 rfl (lv_at hl 1 rfl) ?_
    refine lv_iload_n hx hb dX12_done_171 rfl (lv_at hl 2 rfl) ?_
    refine lv_icmp_le (tgt := 179) hx hb dX12_done_172 rfl (fun c_478 => ?_) (fun c_478 => ?_)
    · have c_478 : p1.toInt ≤ p2.toInt := xI_le rfl rfl c_478
      refine ic_0 hx hb dX12_done_179 ?_
      have qc_479 : (0 : Int32).toInt = 0 := rfl
      refine S_calli (va_runS (As := [.int 0]) (rest := []) ⟨hx, hb, hml, hown, hts⟩ (n_truth l D k A a z G 0 ⟨by decide, by decide⟩) (va_cwS 1 hts (gd_S hgd m1788 m1789 m131 m1790) rfl rfl rfl hd_X12_truth.2 ⟨Nat.le_of_ble_eq_true rfl, Nat.le_of_ble_eq_true rfl⟩) (pre_S hW hB_G hK hZ hS) rfl rfl hl.1 rfl (lv_room (Nat.le_of_ble_eq_true rfl)) dX12_done_180 ⟨Nat.le_of_ble_eq_true rfl, Nat.le_of_ble_eq_true rfl⟩) hS (fun r_480 G_481 H locs hpo hW hS => ?_)
      have hX_484 : Q_truth 0 G r_480 G_481 := hpo
      obtain ⟨hB_G_481, hq_482, f_485, hp_483, -⟩ := hpo
      have hF := hF.call9 hq_482 rfl rfl
      exact W.iret (v := r_480) hx hb hr (fun t ht _ => ⟨⟨r_480, G_481, rfl, (Q_done_mk ⟨hB_G_481, hF, (Or.inr ⟨(xI_ne (Y := 37) rfl rfl c_1), (Or.inr ⟨(xI_ne (Y := 38) rfl rfl c_4), (Or.inr ⟨(xI_ne (Y := 39) rfl rfl c_28), (Or.inr ⟨(xI_ne (Y := 40) rfl rfl c_52), (Or.inr ⟨(xI_ne (Y := 41) rfl rfl c_76), (Or.inr ⟨(xI_ne (Y := 42) rfl rfl c_100), (Or.inr ⟨(xI_ne (Y := 43) rfl rfl c_102), (Or.inr ⟨(xI_ne (Y := 44) rfl rfl c_104), (Or.inr ⟨(xI_ne (Y := 45) rfl rfl c_128), (Or.inr ⟨(xI_ne (Y := 46) rfl rfl c_130), (Or.inr ⟨(xI_ne (Y := 47) rfl rfl c_154), (Or.inr ⟨(xI_ne (Y := 48) rfl rfl c_157), (Or.inr ⟨(xI_ne (Y := 49) rfl rfl c_181), (Or.inr ⟨(xI_ne (Y := 50) rfl rfl c_205), (Or.inr ⟨(xI_ne (Y := 51) rfl rfl c_229), (Or.inr ⟨(xI_ne (Y := 52) rfl rfl c_253), (Or.inr ⟨(xI_ne (Y := 53) rfl rfl c_277), (Or.inr ⟨(xI_ne (Y := 54) rfl rfl c_301), (Or.inr ⟨(xI_ne (Y := 55) rfl rfl c_325), (Or.inr ⟨(xI_ne (Y := 56) rfl rfl c_349), (Or.inr ⟨(xI_ne (Y := 57) rfl rfl c_373), (Or.inr ⟨(xI_ne (Y := 58) rfl rfl c_397), (Or.inr ⟨(xI_ne (Y := 59) rfl rfl c_421), (Or.inr ⟨(xI_ne (Y := 60) rfl rfl c_445), (Or.inr ⟨(xI_ne (Y := 61) rfl rfl c_461), (Or.inl ⟨c_477, (Or.inl ⟨c_478, ⟨r_480, G_481, hX_484, ⟨rfl, rfl⟩⟩⟩)⟩)⟩)⟩)⟩)⟩)⟩)⟩)⟩)⟩)⟩)⟩)⟩)⟩)⟩)⟩)⟩)⟩)⟩)⟩)⟩)⟩)⟩)⟩)⟩)⟩)⟩)⟩), wd_t ht hW⟩, hS.F ht⟩) hS.2.2 dX12_done_183
    · have c_478 : p2.toInt < p1.toInt := xI_nle rfl rfl c_478
      refine ic_1 hx hb dX12_done_175 ?_
      refine lv_goto (tgt := 180) hx hb dX12_done_176 rfl ?_
      have qc_486 : (1 : Int32).toInt = 1 := rfl
      refine S_calli (va_runS (As := [.int 1]) (rest := []) ⟨hx, hb, hml, hown, hts⟩ (n_truth l D k A a z G 1 ⟨by decide, by decide⟩) (va_cwS 1 hts (gd_S hgd m1788 m1789 m131 m1790) rfl rfl rfl hd_X12_truth.2 ⟨Nat.le_of_ble_eq_true rfl, Nat.le_of_ble_eq_true rfl⟩) (pre_S hW hB_G hK hZ hS) rfl rfl hl.1 rfl (lv_room (Nat.le_of_ble_eq_true rfl)) dX12_done_180 ⟨Nat.le_of_ble_eq_true rfl, Nat.le_of_ble_eq_true rfl⟩) hS (fun r_487 G_488 H locs hpo hW hS => ?_)
      have hX_491 : Q_truth 1 G r_487 G_488 := hpo
      obtain ⟨hB_G_488, hq_489, f_492, hp_490, -⟩ := hpo
      have hF := hF.call9 hq_489 rfl rfl
      exact W.iret (v := r_487) hx hb hr (fun t ht _ => ⟨⟨r_487, G_488, rfl, (Q_done_mk ⟨hB_G_488, hF, (Or.inr ⟨(xI_ne (Y := 37) rfl rfl c_1), (Or.inr ⟨(xI_ne (Y := 38) rfl rfl c_4), (Or.inr ⟨(xI_ne (Y := 39) rfl rfl c_28), (Or.inr ⟨(xI_ne (Y := 40) rfl rfl c_52), (Or.inr ⟨(xI_ne (Y := 41) rfl rfl c_76), (Or.inr ⟨(xI_ne (Y := 42) rfl rfl c_100), (Or.inr ⟨(xI_ne (Y := 43) rfl rfl c_102), (Or.inr ⟨(xI_ne (Y := 44) rfl rfl c_104), (Or.inr ⟨(xI_ne (Y := 45) rfl rfl c_128), (Or.inr ⟨(xI_ne (Y := 46) rfl rfl c_130), (Or.inr ⟨(xI_ne (Y := 47) rfl rfl c_154), (Or.inr ⟨(xI_ne (Y := 48) rfl rfl c_157), (Or.inr ⟨(xI_ne (Y := 49) rfl rfl c_181), (Or.inr ⟨(xI_ne (Y := 50) rfl rfl c_205), (Or.inr ⟨(xI_ne (Y := 51) rfl rfl c_229), (Or.inr ⟨(xI_ne (Y := 52) rfl rfl c_253), (Or.inr ⟨(xI_ne (Y := 53) rfl rfl c_277), (Or.inr ⟨(xI_ne (Y := 54) rfl rfl c_301), (Or.inr ⟨(xI_ne (Y := 55) rfl rfl c_325), (Or.inr ⟨(xI_ne (Y := 56) rfl rfl c_349), (Or.inr ⟨(xI_ne (Y := 57) rfl rfl c_373), (Or.inr ⟨(xI_ne (Y := 58) rfl rfl c_397), (Or.inr ⟨(xI_ne (Y := 59) rfl rfl c_421), (Or.inr ⟨(xI_ne (Y := 60) rfl rfl c_445), (Or.inr ⟨(xI_ne (Y := 61) rfl rfl c_461), (Or.inl ⟨c_477, (Or.inr ⟨c_478, ⟨r_487, G_488, hX_491, ⟨rfl, rfl⟩⟩⟩)⟩)⟩)⟩)⟩)⟩)⟩)⟩)⟩)⟩)⟩)⟩)⟩)⟩)⟩)⟩)⟩)⟩)⟩)⟩)⟩)⟩)⟩)⟩)⟩)⟩)⟩)⟩), wd_t ht hW⟩, hS.F ht⟩) hS.2.2 dX12_done_183
  refine lv_tableOut (tgt := 215) hx hb dX12_done_1 (tb_out (lo := 37) (hi := 62) (by have c_1 := xI_ne (Y := 37) rfl rfl c_1; have c_4 := xI_ne (Y := 38) rfl rfl c_4; have c_28 := xI_ne (Y := 39) rfl rfl c_28; have c_52 := xI_ne (Y := 40) rfl rfl c_52; have c_76 := xI_ne (Y := 41) rfl rfl c_76; have c_100 := xI_ne (Y := 42) rfl rfl c_100; have c_102 := xI_ne (Y := 43) rfl rfl c_102; have c_104 := xI_ne (Y := 44) rfl rfl c_104; have c_128 := xI_ne (Y := 45) rfl rfl c_128; have c_130 := xI_ne (Y := 46) rfl rfl c_130; have c_154 := xI_ne (Y := 47) rfl rfl c_154; have c_157 := xI_ne (Y := 48) rfl rfl c_157; have c_181 := xI_ne (Y := 49) rfl rfl c_181; have c_205 := xI_ne (Y := 50) rfl rfl c_205; have c_229 := xI_ne (Y := 51) rfl rfl c_229; have c_253 := xI_ne (Y := 52) rfl rfl c_253; have c_277 := xI_ne (Y := 53) rfl rfl c_277; have c_301 := xI_ne (Y := 54) rfl rfl c_301; have c_325 := xI_ne (Y := 55) rfl rfl c_325; have c_349 := xI_ne (Y := 56) rfl rfl c_349; have c_373 := xI_ne (Y := 57) rfl rfl c_373; have c_397 := xI_ne (Y := 58) rfl rfl c_397; have c_421 := xI_ne (Y := 59) rfl rfl c_421; have c_445 := xI_ne (Y := 60) rfl rfl c_445; have c_461 := xI_ne (Y := 61) rfl rfl c_461; have c_477 := xI_ne (Y := 62) rfl rfl c_477; omega)) (by decide) ?_
  have c_1 := xI_ne (Y := 37) rfl rfl c_1
  have c_4 := xI_ne (Y := 38) rfl rfl c_4
  have c_28 := xI_ne (Y := 39) rfl rfl c_28
  have c_52 := xI_ne (Y := 40) rfl rfl c_52
  have c_76 := xI_ne (Y := 41) rfl rfl c_76
  have c_100 := xI_ne (Y := 42) rfl rfl c_100
  have c_102 := xI_ne (Y := 43) rfl rfl c_102
  have c_104 := xI_ne (Y := 44) rfl rfl c_104
  have c_128 := xI_ne (Y := 45) rfl rfl c_128
  have c_130 := xI_ne (Y := 46) rfl rfl c_130
  have c_154 := xI_ne (Y := 47) rfl rfl c_154
  have c_157 := xI_ne (Y := 48) rfl rfl c_157
  have c_181 := xI_ne (Y := 49) rfl rfl c_181
  have c_205 := xI_ne (Y := 50) rfl rfl c_205
  have c_229 := xI_ne (Y := 51) rfl rfl c_229
  have c_253 := xI_ne (Y := 52) rfl rfl c_253
  have c_277 := xI_ne (Y := 53) rfl rfl c_277
  have c_301 := xI_ne (Y := 54) rfl rfl c_301
  have c_325 := xI_ne (Y := 55) rfl rfl c_325
  have c_349 := xI_ne (Y := 56) rfl rfl c_349
  have c_373 := xI_ne (Y := 57) rfl rfl c_373
  have c_397 := xI_ne (Y := 58) rfl rfl c_397
  have c_421 := xI_ne (Y := 59) rfl rfl c_421
  have c_445 := xI_ne (Y := 60) rfl rfl c_445
  have c_461 := xI_ne (Y := 61) rfl rfl c_461
  have c_477 := xI_ne (Y := 62) rfl rfl c_477
  refine lv_iload_n hx hb dX12_done_215 rfl (lv_at hl 1 rfl) ?_
  refine lv_if_ne (tgt := 223) hx hb dX12_done_216 rfl (fun c_493 => ?_) (fun c_493 => ?_)
  · have c_493 : p1.toInt ≠ 0 := xI_ne rfl rfl c_493
    refine ic_1 hx hb dX12_done_223 ?_
    refine lv_goto (tgt := 228) hx hb dX12_done_224 rfl ?_
    have qc_494 : (1 : Int32).toInt = 1 := rfl
    refine S_calli (va_runS (As := [.int 1]) (rest := []) ⟨hx, hb, hml, hown, hts⟩ (n_truth l D k A a z G 1 ⟨by decide, by decide⟩) (va_cwS 1 hts (gd_S hgd m1788 m1789 m131 m1790) rfl rfl rfl hd_X12_truth.2 ⟨Nat.le_of_ble_eq_true rfl, Nat.le_of_ble_eq_true rfl⟩) (pre_S hW hB_G hK hZ hS) rfl rfl hl.1 rfl (lv_room (Nat.le_of_ble_eq_true rfl)) dX12_done_228 ⟨Nat.le_of_ble_eq_true rfl, Nat.le_of_ble_eq_true rfl⟩) hS (fun r_495 G_496 H locs hpo hW hS => ?_)
    have hX_499 : Q_truth 1 G r_495 G_496 := hpo
    obtain ⟨hB_G_496, hq_497, f_500, hp_498, -⟩ := hpo
    have hF := hF.call9 hq_497 rfl rfl
    exact W.iret (v := r_495) hx hb hr (fun t ht _ => ⟨⟨r_495, G_496, rfl, (Q_done_mk ⟨hB_G_496, hF, (Or.inr ⟨c_1, (Or.inr ⟨c_4, (Or.inr ⟨c_28, (Or.inr ⟨c_52, (Or.inr ⟨c_76, (Or.inr ⟨c_100, (Or.inr ⟨c_102, (Or.inr ⟨c_104, (Or.inr ⟨c_128, (Or.inr ⟨c_130, (Or.inr ⟨c_154, (Or.inr ⟨c_157, (Or.inr ⟨c_181, (Or.inr ⟨c_205, (Or.inr ⟨c_229, (Or.inr ⟨c_253, (Or.inr ⟨c_277, (Or.inr ⟨c_301, (Or.inr ⟨c_325, (Or.inr ⟨c_349, (Or.inr ⟨c_373, (Or.inr ⟨c_397, (Or.inr ⟨c_421, (Or.inr ⟨c_445, (Or.inr ⟨c_461, (Or.inr ⟨c_477, (Or.inr ⟨c_493, ⟨r_495, G_496, hX_499, ⟨rfl, rfl⟩⟩⟩)⟩)⟩)⟩)⟩)⟩)⟩)⟩)⟩)⟩)⟩)⟩)⟩)⟩)⟩)⟩)⟩)⟩)⟩)⟩)⟩)⟩)⟩)⟩)⟩)⟩)⟩)⟩), wd_t ht hW⟩, hS.F ht⟩) hS.2.2 dX12_done_231
  · have c_493 : p1.toInt = 0 := xI_eq rfl rfl c_493
    refine lv_iload_n hx hb dX12_done_219 rfl (lv_at hl 2 rfl) ?_
    refine lv_if_eq (tgt := 227) hx hb dX12_done_220 rfl (fun c_501 => ?_) (fun c_501 => ?_)
    · have c_501 : p2.toInt = 0 := xI_eq rfl rfl c_501
      refine ic_0 hx hb dX12_done_227 ?_
      have qc_502 : (0 : Int32).toInt = 0 := rfl
      refine S_calli (va_runS (As := [.int 0]) (rest := []) ⟨hx, hb, hml, hown, hts⟩ (n_truth l D k A a z G 0 ⟨by decide, by decide⟩) (va_cwS 1 hts (gd_S hgd m1788 m1789 m131 m1790) rfl rfl rfl hd_X12_truth.2 ⟨Nat.le_of_ble_eq_true rfl, Nat.le_of_ble_eq_true rfl⟩) (pre_S hW hB_G hK hZ hS) rfl rfl hl.1 rfl (lv_room (Nat.le_of_ble_eq_true rfl)) dX12_done_228 ⟨Nat.le_of_ble_eq_true rfl, Nat.le_of_ble_eq_true rfl⟩) hS (fun r_503 G_504 H locs hpo hW hS => ?_)
      have hX_507 : Q_truth 0 G r_503 G_504 := hpo
      obtain ⟨hB_G_504, hq_505, f_508, hp_506, -⟩ := hpo
      have hF := hF.call9 hq_505 rfl rfl
      exact W.iret (v := r_503) hx hb hr (fun t ht _ => ⟨⟨r_503, G_504, rfl, (Q_done_mk ⟨hB_G_504, hF, (Or.inr ⟨c_1, (Or.inr ⟨c_4, (Or.inr ⟨c_28, (Or.inr ⟨c_52, (Or.inr ⟨c_76, (Or.inr ⟨c_100, (Or.inr ⟨c_102, (Or.inr ⟨c_104, (Or.inr ⟨c_128, (Or.inr ⟨c_130, (Or.inr ⟨c_154, (Or.inr ⟨c_157, (Or.inr ⟨c_181, (Or.inr ⟨c_205, (Or.inr ⟨c_229, (Or.inr ⟨c_253, (Or.inr ⟨c_277, (Or.inr ⟨c_301, (Or.inr ⟨c_325, (Or.inr ⟨c_349, (Or.inr ⟨c_373, (Or.inr ⟨c_397, (Or.inr ⟨c_421, (Or.inr ⟨c_445, (Or.inr ⟨c_461, (Or.inr ⟨c_477, (Or.inl ⟨c_493, (Or.inl ⟨c_501, ⟨r_503, G_504, hX_507, ⟨rfl, rfl⟩⟩⟩)⟩)⟩)⟩)⟩)⟩)⟩)⟩)⟩)⟩)⟩)⟩)⟩)⟩)⟩)⟩)⟩)⟩)⟩)⟩)⟩)⟩)⟩)⟩)⟩)⟩)⟩)⟩)⟩), wd_t ht hW⟩, hS.F ht⟩) hS.2.2 dX12_done_231
    · have c_501 : p2.toInt ≠ 0 := xI_ne rfl rfl c_501
      refine ic_1 hx hb dX12_done_223 ?_
      refine lv_goto (tgt := 228) hx hb dX12_done_224 rfl ?_
      have qc_509 : (1 : Int32).toInt = 1 := rfl
      refine S_calli (va_runS (As := [.int 1]) (rest := []) ⟨hx, hb, hml, hown, hts⟩ (n_truth l D k A a z G 1 ⟨by decide, by decide⟩) (va_cwS 1 hts (gd_S hgd m1788 m1789 m131 m1790) rfl rfl rfl hd_X12_truth.2 ⟨Nat.le_of_ble_eq_true rfl, Nat.le_of_ble_eq_true rfl⟩) (pre_S hW hB_G hK hZ hS) rfl rfl hl.1 rfl (lv_room (Nat.le_of_ble_eq_true rfl)) dX12_done_228 ⟨Nat.le_of_ble_eq_true rfl, Nat.le_of_ble_eq_true rfl⟩) hS (fun r_510 G_511 H locs hpo hW hS => ?_)
      have hX_514 : Q_truth 1 G r_510 G_511 := hpo
      obtain ⟨hB_G_511, hq_512, f_515, hp_513, -⟩ := hpo
      have hF := hF.call9 hq_512 rfl rfl
      exact W.iret (v := r_510) hx hb hr (fun t ht _ => ⟨⟨r_510, G_511, rfl, (Q_done_mk ⟨hB_G_511, hF, (Or.inr ⟨c_1, (Or.inr ⟨c_4, (Or.inr ⟨c_28, (Or.inr ⟨c_52, (Or.inr ⟨c_76, (Or.inr ⟨c_100, (Or.inr ⟨c_102, (Or.inr ⟨c_104, (Or.inr ⟨c_128, (Or.inr ⟨c_130, (Or.inr ⟨c_154, (Or.inr ⟨c_157, (Or.inr ⟨c_181, (Or.inr ⟨c_205, (Or.inr ⟨c_229, (Or.inr ⟨c_253, (Or.inr ⟨c_277, (Or.inr ⟨c_301, (Or.inr ⟨c_325, (Or.inr ⟨c_349, (Or.inr ⟨c_373, (Or.inr ⟨c_397, (Or.inr ⟨c_421, (Or.inr ⟨c_445, (Or.inr ⟨c_461, (Or.inr ⟨c_477, (Or.inl ⟨c_493, (Or.inr ⟨c_501, ⟨r_510, G_511, hX_514, ⟨rfl, rfl⟩⟩⟩)⟩)⟩)⟩)⟩)⟩)⟩)⟩)⟩)⟩)⟩)⟩)⟩)⟩)⟩)⟩)⟩)⟩)⟩)⟩)⟩)⟩)⟩)⟩)⟩)⟩)⟩)⟩)⟩), wd_t ht hW⟩, hS.F ht⟩) hS.2.2 dX12_done_231


noncomputable def rbX12_isBox_0 : List (Nat × List Nat) := [(0, [26]), (1, [155, 0, 12]), (4, [26]), (5, [6]), (6, [162, 0, 7]), (9, [4]), (10, [167, 0, 4]), (13, [3]), (14, [172])]
theorem rcX12_isBox_0 : dgo (lb cX12_isBox) 0 rbX12_isBox_0 = true := by decide +kernel
theorem dX12_isBox_0 : decode cX12_isBox 0 = .ok (.iload_n 0, 1) := dk_26 (dw rcX12_isBox_0 0 rfl)
theorem dX12_isBox_1 : decode cX12_isBox 1 = .ok (.ifCond .lt 12, 3) := dk_155 (dw rcX12_isBox_0 1 rfl) rfl
theorem dX12_isBox_4 : decode cX12_isBox 4 = .ok (.iload_n 0, 1) := dk_26 (dw rcX12_isBox_0 2 rfl)
theorem dX12_isBox_5 : decode cX12_isBox 5 = .ok (.iconst 3, 1) := dk_6 (dw rcX12_isBox_0 3 rfl)
theorem dX12_isBox_6 : decode cX12_isBox 6 = .ok (.if_icmp .ge 7, 3) := dk_162 (dw rcX12_isBox_0 4 rfl) rfl
theorem dX12_isBox_9 : decode cX12_isBox 9 = .ok (.iconst 1, 1) := dk_4 (dw rcX12_isBox_0 5 rfl)
theorem dX12_isBox_10 : decode cX12_isBox 10 = .ok (.goto 4, 3) := dk_167 (dw rcX12_isBox_0 6 rfl) rfl
theorem dX12_isBox_13 : decode cX12_isBox 13 = .ok (.iconst 0, 1) := dk_3 (dw rcX12_isBox_0 7 rfl)
theorem dX12_isBox_14 : decode cX12_isBox 14 = .ok (.ireturn, 1) := dk_172 (dw rcX12_isBox_0 8 rfl)
noncomputable def rbX12_isIn_0 : List (Nat × List Nat) := [(0, [26]), (1, [27]), (2, [161, 0, 12]), (5, [26]), (6, [28]), (7, [163, 0, 7]), (10, [4]), (11, [167, 0, 4]), (14, [3]), (15, [172])]
theorem rcX12_isIn_0 : dgo (lb cX12_isIn) 0 rbX12_isIn_0 = true := by decide +kernel
theorem dX12_isIn_0 : decode cX12_isIn 0 = .ok (.iload_n 0, 1) := dk_26 (dw rcX12_isIn_0 0 rfl)
theorem dX12_isIn_1 : decode cX12_isIn 1 = .ok (.iload_n 1, 1) := dk_27 (dw rcX12_isIn_0 1 rfl)
theorem dX12_isIn_2 : decode cX12_isIn 2 = .ok (.if_icmp .lt 12, 3) := dk_161 (dw rcX12_isIn_0 2 rfl) rfl
theorem dX12_isIn_5 : decode cX12_isIn 5 = .ok (.iload_n 0, 1) := dk_26 (dw rcX12_isIn_0 3 rfl)
theorem dX12_isIn_6 : decode cX12_isIn 6 = .ok (.iload_n 2, 1) := dk_28 (dw rcX12_isIn_0 4 rfl)
theorem dX12_isIn_7 : decode cX12_isIn 7 = .ok (.if_icmp .gt 7, 3) := dk_163 (dw rcX12_isIn_0 5 rfl) rfl
theorem dX12_isIn_10 : decode cX12_isIn 10 = .ok (.iconst 1, 1) := dk_4 (dw rcX12_isIn_0 6 rfl)
theorem dX12_isIn_11 : decode cX12_isIn 11 = .ok (.goto 4, 3) := dk_167 (dw rcX12_isIn_0 7 rfl) rfl
theorem dX12_isIn_14 : decode cX12_isIn 14 = .ok (.iconst 0, 1) := dk_3 (dw rcX12_isIn_0 8 rfl)
theorem dX12_isIn_15 : decode cX12_isIn 15 = .ok (.ireturn, 1) := dk_172 (dw rcX12_isIn_0 9 rfl)
noncomputable def rbX12_lesser_0 : List (Nat × List Nat) := [(0, [26]), (1, [27]), (2, [162, 0, 7]), (5, [26]), (6, [167, 0, 4]), (9, [27]), (10, [172])]
theorem rcX12_lesser_0 : dgo (lb cX12_lesser) 0 rbX12_lesser_0 = true := by decide +kernel
theorem dX12_lesser_0 : decode cX12_lesser 0 = .ok (.iload_n 0, 1) := dk_26 (dw rcX12_lesser_0 0 rfl)
theorem dX12_lesser_1 : decode cX12_lesser 1 = .ok (.iload_n 1, 1) := dk_27 (dw rcX12_lesser_0 1 rfl)
theorem dX12_lesser_2 : decode cX12_lesser 2 = .ok (.if_icmp .ge 7, 3) := dk_162 (dw rcX12_lesser_0 2 rfl) rfl
theorem dX12_lesser_5 : decode cX12_lesser 5 = .ok (.iload_n 0, 1) := dk_26 (dw rcX12_lesser_0 3 rfl)
theorem dX12_lesser_6 : decode cX12_lesser 6 = .ok (.goto 4, 3) := dk_167 (dw rcX12_lesser_0 4 rfl) rfl
theorem dX12_lesser_9 : decode cX12_lesser 9 = .ok (.iload_n 1, 1) := dk_27 (dw rcX12_lesser_0 5 rfl)
theorem dX12_lesser_10 : decode cX12_lesser 10 = .ok (.ireturn, 1) := dk_172 (dw rcX12_lesser_0 6 rfl)
set_option maxHeartbeats 4000000 in
set_option maxRecDepth 100000 in
theorem n_isIn (l : Launch) (D : va_G) (k : KT) (A : Nat → Prop) (a : Nat → Nat) (z : SK) (G : GS) (p0 : Int32) (p1 : Int32) (p2 : Int32)  : Met l yX12_isIn (WS yX12_isIn cX12_isIn 3 (some .boolean)) ({ frames := 0, cells := 0, slots := 0, locals := 0 }) (va_Pc [.int p0, .int p1, .int p2] (cW D k A a z G)) (va_Qi (fun (r : Int32) (G1 : GS) => Q_isIn p0 p1 p2 G r G1) (fun (G1 : GS) t => Wd D k A a G1 t.heap) A) 0 0 A := by
  refine Met.ofW (cc := cX12_isIn) (maxL := 3) (ret := (some .boolean)) (by decide) rfl ?_
  intro p e s m args below meth c s₁ B hml hv
  obtain ⟨rfl, hW, hB_G, hK, hZ⟩ := hv
  have hx := B.exec
  have hb := B.bytes
  have hr := B.returns
  have hts := atoms_spec (ws := WS yX12_isIn cX12_isIn 3 (some .boolean)) B.pre
  have hgd : ∀ w ∈ gd, w ∈ WS yX12_isIn cX12_isIn 3 (some .boolean) := fun w h => List.mem_cons_of_mem _ h
  have hg : ∀ w ∈ gd, w.before _ s = true := fun w h => hts w (hgd w h)
  have hown : s.vm.findClass RX12 = some m.cls := findClass_of_methodNamed B.named
  have hS : va_S A s.heap s.heap [] := va_S.rf
  have hF : Fr [] [] G G := Fr.rf
  have hl := lv_entry ([.int p0, .int p1, .int p2]) (n := 3) (Nat.le_of_ble_eq_true rfl)
  rw [lg_entry_eq]
  generalize (lg_sl ([.int p0, .int p1, .int p2]) ++ List.replicate (3 - (lg_sl ([.int p0, .int p1, .int p2])).length) Slot.unset).toArray = ls at hl ⊢
  have hl : lv_has ls 3 [(0, .int p0), (1, .int p1), (2, .int p2)] := hl
  refine lv_iload_n hx hb dX12_isIn_0 rfl (lv_at hl 0 rfl) ?_
  refine lv_iload_n hx hb dX12_isIn_1 rfl (lv_at hl 1 rfl) ?_
  refine lv_icmp_lt (tgt := 14) hx hb dX12_isIn_2 rfl (fun c_1 => ?_) (fun c_1 => ?_)
  · have c_1 : p0.toInt < p1.toInt := xI_lt rfl rfl c_1
    refine ic_0 hx hb dX12_isIn_14 ?_
    exact W.zret (v := 0) hx hb hr (by decide) (fun t ht _ => ⟨⟨0, G, rfl, (Q_isIn_mk ⟨hB_G, hF, ⟨by decide, by decide⟩, (by have hq : (0 : Int32).toInt = 0 := rfl; (try dsimp only); omega), (Or.inl ⟨c_1, ⟨rfl, rfl⟩⟩)⟩), wd_t ht hW⟩, hS.F ht⟩) hS.2.2 dX12_isIn_15
  · have c_1 : p1.toInt ≤ p0.toInt := xI_nlt rfl rfl c_1
    refine lv_iload_n hx hb dX12_isIn_5 rfl (lv_at hl 0 rfl) ?_
    refine lv_iload_n hx hb dX12_isIn_6 rfl (lv_at hl 2 rfl) ?_
    refine lv_icmp_gt (tgt := 14) hx hb dX12_isIn_7 rfl (fun c_2 => ?_) (fun c_2 => ?_)
    · have c_2 : p2.toInt < p0.toInt := xI_lt rfl rfl c_2
      refine ic_0 hx hb dX12_isIn_14 ?_
      exact W.zret (v := 0) hx hb hr (by decide) (fun t ht _ => ⟨⟨0, G, rfl, (Q_isIn_mk ⟨hB_G, hF, ⟨by decide, by decide⟩, (by have hq : (0 : Int32).toInt = 0 := rfl; (try dsimp only); omega), (Or.inr ⟨c_1, (Or.inl ⟨c_2, ⟨rfl, rfl⟩⟩)⟩)⟩), wd_t ht hW⟩, hS.F ht⟩) hS.2.2 dX12_isIn_15
    · have c_2 : p0.toInt ≤ p2.toInt := xI_nlt rfl rfl c_2
      refine ic_1 hx hb dX12_isIn_10 ?_
      refine lv_goto (tgt := 15) hx hb dX12_isIn_11 rfl ?_
      exact W.zret (v := 1) hx hb hr (by decide) (fun t ht _ => ⟨⟨1, G, rfl, (Q_isIn_mk ⟨hB_G, hF, ⟨by decide, by decide⟩, (by have hq : (1 : Int32).toInt = 1 := rfl; (try dsimp only); omega), (Or.inr ⟨c_1, (Or.inr ⟨c_2, ⟨rfl, rfl⟩⟩)⟩)⟩), wd_t ht hW⟩, hS.F ht⟩) hS.2.2 dX12_isIn_15

set_option maxHeartbeats 4000000 in
set_option maxRecDepth 100000 in
theorem n_lesser (l : Launch) (D : va_G) (k : KT) (A : Nat → Prop) (a : Nat → Nat) (z : SK) (G : GS) (p0 : Int32) (p1 : Int32)  : Met l yX12_lesser (WS yX12_lesser cX12_lesser 2 (some .int)) ({ frames := 0, cells := 0, slots := 0, locals := 0 }) (va_Pc [.int p0, .int p1] (cW D k A a z G)) (va_Qi (fun (r : Int32) (G1 : GS) => Q_lesser p0 p1 G r G1) (fun (G1 : GS) t => Wd D k A a G1 t.heap) A) 0 0 A := by
  refine Met.ofW (cc := cX12_lesser) (maxL := 2) (ret := (some .int)) (by decide) rfl ?_
  intro p e s m args below meth c s₁ B hml hv
  obtain ⟨rfl, hW, hB_G, hK, hZ⟩ := hv
  have hx := B.exec
  have hb := B.bytes
  have hr := B.returns
  have hts := atoms_spec (ws := WS yX12_lesser cX12_lesser 2 (some .int)) B.pre
  have hgd : ∀ w ∈ gd, w ∈ WS yX12_lesser cX12_lesser 2 (some .int) := fun w h => List.mem_cons_of_mem _ h
  have hg : ∀ w ∈ gd, w.before _ s = true := fun w h => hts w (hgd w h)
  have hown : s.vm.findClass RX12 = some m.cls := findClass_of_methodNamed B.named
  have hS : va_S A s.heap s.heap [] := va_S.rf
  have hF : Fr [] [] G G := Fr.rf
  have hl := lv_entry ([.int p0, .int p1]) (n := 2) (Nat.le_of_ble_eq_true rfl)
  rw [lg_entry_eq]
  generalize (lg_sl ([.int p0, .int p1]) ++ List.replicate (2 - (lg_sl ([.int p0, .int p1])).length) Slot.unset).toArray = ls at hl ⊢
  have hl : lv_has ls 2 [(0, .int p0), (1, .int p1)] := hl
  refine lv_iload_n hx hb dX12_lesser_0 rfl (lv_at hl 0 rfl) ?_
  refine lv_iload_n hx hb dX12_lesser_1 rfl (lv_at hl 1 rfl) ?_
  refine lv_icmp_ge (tgt := 9) hx hb dX12_lesser_2 rfl (fun c_1 => ?_) (fun c_1 => ?_)
  · have c_1 : p1.toInt ≤ p0.toInt := xI_le rfl rfl c_1
    refine lv_iload_n hx hb dX12_lesser_9 rfl (lv_at hl 1 rfl) ?_
    exact W.iret (v := p1) hx hb hr (fun t ht _ => ⟨⟨p1, G, rfl, (Q_lesser_mk ⟨hB_G, hF, ((by first | exact ⟨(by first | exact c_1 | omega), ⟨(by first | exact ok_572 | omega), (by first | exact ok_634 | omega)⟩⟩ | omega)), (Or.inl ⟨c_1, ⟨rfl, rfl⟩⟩)⟩), wd_t ht hW⟩, hS.F ht⟩) hS.2.2 dX12_lesser_10
  · have c_1 : p0.toInt < p1.toInt := xI_nle rfl rfl c_1
    refine lv_iload_n hx hb dX12_lesser_5 rfl (lv_at hl 0 rfl) ?_
    refine lv_goto (tgt := 10) hx hb dX12_lesser_6 rfl ?_
    exact W.iret (v := p0) hx hb hr (fun t ht _ => ⟨⟨p0, G, rfl, (Q_lesser_mk ⟨hB_G, hF, ((by first | exact ⟨(by first | exact ok_572 | omega), ⟨(by first | exact ok_635 c_1 | omega), (by first | exact ok_636 | omega)⟩⟩ | omega)), (Or.inr ⟨c_1, ⟨rfl, rfl⟩⟩)⟩), wd_t ht hW⟩, hS.F ht⟩) hS.2.2 dX12_lesser_10

set_option maxHeartbeats 4000000 in
set_option maxRecDepth 100000 in
theorem n_isBox (l : Launch) (D : va_G) (k : KT) (A : Nat → Prop) (a : Nat → Nat) (z : SK) (G : GS) (p0 : Int32)  : Met l yX12_isBox (WS yX12_isBox cX12_isBox 1 (some .boolean)) ({ frames := 0, cells := 0, slots := 0, locals := 0 }) (va_Pc [.int p0] (cW D k A a z G)) (va_Qi (fun (r : Int32) (G1 : GS) => Q_isBox p0 G r G1) (fun (G1 : GS) t => Wd D k A a G1 t.heap) A) 0 0 A := by
  refine Met.ofW (cc := cX12_isBox) (maxL := 1) (ret := (some .boolean)) (by decide) rfl ?_
  intro p e s m args below meth c s₁ B hml hv
  obtain ⟨rfl, hW, hB_G, hK, hZ⟩ := hv
  have hx := B.exec
  have hb := B.bytes
  have hr := B.returns
  have hts := atoms_spec (ws := WS yX12_isBox cX12_isBox 1 (some .boolean)) B.pre
  have hgd : ∀ w ∈ gd, w ∈ WS yX12_isBox cX12_isBox 1 (some .boolean) := fun w h => List.mem_cons_of_mem _ h
  have hg : ∀ w ∈ gd, w.before _ s = true := fun w h => hts w (hgd w h)
  have hown : s.vm.findClass RX12 = some m.cls := findClass_of_methodNamed B.named
  have hS : va_S A s.heap s.heap [] := va_S.rf
  have hF : Fr [] [] G G := Fr.rf
  have hl := lv_entry ([.int p0]) (n := 1) (Nat.le_of_ble_eq_true rfl)
  rw [lg_entry_eq]
  generalize (lg_sl ([.int p0]) ++ List.replicate (1 - (lg_sl ([.int p0])).length) Slot.unset).toArray = ls at hl ⊢
  have hl : lv_has ls 1 [(0, .int p0)] := hl
  refine lv_iload_n hx hb dX12_isBox_0 rfl (lv_at hl 0 rfl) ?_
  refine lv_if_lt (tgt := 13) hx hb dX12_isBox_1 rfl (fun c_1 => ?_) (fun c_1 => ?_)
  · have c_1 : p0.toInt < 0 := xI_lt rfl rfl c_1
    refine ic_0 hx hb dX12_isBox_13 ?_
    exact W.zret (v := 0) hx hb hr (by decide) (fun t ht _ => ⟨⟨0, G, rfl, (Q_isBox_mk ⟨hB_G, hF, ⟨by decide, by decide⟩, (by have hq : (0 : Int32).toInt = 0 := rfl; (try dsimp only); omega), (Or.inl ⟨c_1, ⟨rfl, rfl⟩⟩)⟩), wd_t ht hW⟩, hS.F ht⟩) hS.2.2 dX12_isBox_14
  · have c_1 : 0 ≤ p0.toInt := xI_nlt rfl rfl c_1
    refine lv_iload_n hx hb dX12_isBox_4 rfl (lv_at hl 0 rfl) ?_
    refine ic_3 hx hb dX12_isBox_5 ?_
    refine lv_icmp_ge (tgt := 13) hx hb dX12_isBox_6 rfl (fun c_2 => ?_) (fun c_2 => ?_)
    · have c_2 : 3 ≤ p0.toInt := xI_le rfl rfl c_2
      refine ic_0 hx hb dX12_isBox_13 ?_
      exact W.zret (v := 0) hx hb hr (by decide) (fun t ht _ => ⟨⟨0, G, rfl, (Q_isBox_mk ⟨hB_G, hF, ⟨by decide, by decide⟩, (by have hq : (0 : Int32).toInt = 0 := rfl; (try dsimp only); omega), (Or.inr ⟨c_1, (Or.inl ⟨c_2, ⟨rfl, rfl⟩⟩)⟩)⟩), wd_t ht hW⟩, hS.F ht⟩) hS.2.2 dX12_isBox_14
    · have c_2 : p0.toInt < 3 := xI_nle rfl rfl c_2
      refine ic_1 hx hb dX12_isBox_9 ?_
      refine lv_goto (tgt := 14) hx hb dX12_isBox_10 rfl ?_
      exact W.zret (v := 1) hx hb hr (by decide) (fun t ht _ => ⟨⟨1, G, rfl, (Q_isBox_mk ⟨hB_G, hF, ⟨by decide, by decide⟩, (by have hq : (1 : Int32).toInt = 1 := rfl; (try dsimp only); omega), (Or.inr ⟨c_1, (Or.inr ⟨c_2, ⟨rfl, rfl⟩⟩)⟩)⟩), wd_t ht hW⟩, hS.F ht⟩) hS.2.2 dX12_isBox_14

theorem m83 : Cond.selects RX12 yX12_isStreet yX12_isStreet ∈ gd := gds_6 3 rfl
theorem m84 : Cond.selects RX12 yX12_isInch yX12_isInch ∈ gd := gds_6 4 rfl
theorem m1349 : Cond.fieldLink RX12 75 "SlabWalkModel" "marks" "[I" ∈ gd := gdc_6_2 1 rfl gw_fieldLink
theorem m1350 : Cond.fieldLink RX12 78 "SlabWalkModel" "nths" "[I" ∈ gd := gdc_6_2 2 rfl gw_fieldLink
theorem m1351 : Cond.fieldLink RX12 81 "SlabWalkModel" "inches" "[I" ∈ gd := gdc_6_2 3 rfl gw_fieldLink
theorem m1352 : Cond.fieldLink RX12 84 "SlabWalkModel" "longs" "[I" ∈ gd := gdc_6_2 4 rfl gw_fieldLink
theorem m1353 : Cond.fieldLink RX12 87 "SlabWalkModel" "lengths" "[I" ∈ gd := gdc_6_2 5 rfl gw_fieldLink
theorem m1358 : Cond.fieldLink RX12 102 "SlabWalkModel" "slips" "[I" ∈ gd := gdc_6_2 10 rfl gw_fieldLink
theorem m1366 : Cond.fieldLink RX12 425 "SlabWalkModel" "streets" "I" ∈ gd := gdc_6_3 2 rfl gw_fieldLink
theorem m1367 : Cond.fieldLink RX12 428 "SlabWalkModel" "walkers" "I" ∈ gd := gdc_6_3 3 rfl gw_fieldLink
theorem m1368 : Cond.fieldLink RX12 431 "SlabWalkModel" "rules" "I" ∈ gd := gdc_6_3 4 rfl gw_fieldLink
theorem m1379 : Cond.fieldLink RX12 121 "SlabWalkModel" "lies" "[I" ∈ gd := gdc_6_3 15 rfl gw_fieldLink
theorem m1380 : Cond.fieldLink RX12 446 "SlabWalkModel" "lain" "I" ∈ gd := gdc_6_4 0 rfl gw_fieldLink
theorem m1390 : Cond.fieldLink RX12 151 "SlabWalkModel" "now" "[I" ∈ gd := gdc_6_4 10 rfl gw_fieldLink
theorem m1398 : Cond.fieldLink RX12 169 "SlabWalkModel" "sightUntold" "[I" ∈ gd := gdc_6_5 2 rfl gw_fieldLink
theorem m1399 : Cond.fieldLink RX12 443 "SlabWalkModel" "sights" "I" ∈ gd := gdc_6_5 3 rfl gw_fieldLink
theorem m1400 : Cond.fieldLink RX12 593 "SlabWalkModel" "time" "I" ∈ gd := gdc_6_5 4 rfl gw_fieldLink
theorem m1777 : Cond.methodLink RX12 453 yX12_isStreet ∈ gd := gdc_7_13 13 rfl gw_methodLink
theorem m1779 : Cond.instanceMethod yX12_isStreet ∈ gd := gdc_7_13 15 rfl gw_instanceMethod
theorem m1780 : Cond.code yX12_isStreet cX12_isStreet 2 (some .boolean) ∈ gd := gdc_7_14 0 rfl gw_code
theorem m1781 : Cond.methodLink RX12 449 yX12_isIn ∈ gd := gdc_7_14 1 rfl gw_methodLink
theorem m1782 : Cond.static yX12_isIn ∈ gd := gdc_7_14 2 rfl gw_static
theorem m1783 : Cond.code yX12_isIn cX12_isIn 3 (some .boolean) ∈ gd := gdc_7_14 3 rfl gw_code
theorem m1784 : Cond.methodLink RX12 456 yX12_isInch ∈ gd := gdc_7_14 4 rfl gw_methodLink
theorem m1786 : Cond.instanceMethod yX12_isInch ∈ gd := gdc_7_14 6 rfl gw_instanceMethod
theorem m1787 : Cond.code yX12_isInch cX12_isInch 3 (some .boolean) ∈ gd := gdc_7_14 7 rfl gw_code
theorem m1858 : Cond.constant RX12 502 100000 ∈ gd := gdc_8_3 14 rfl gw_constant
noncomputable def rbX12_allSlips_0 : List (Nat × List Nat) := [(0, [42]), (1, [180, 0, 102]), (4, [3]), (5, [46]), (6, [42]), (7, [180, 0, 102]), (10, [4]), (11, [46]), (12, [96]), (13, [42]), (14, [180, 0, 102]), (17, [5]), (18, [46]), (19, [96]), (20, [172])]
theorem rcX12_allSlips_0 : dgo (lb cX12_allSlips) 0 rbX12_allSlips_0 = true := by decide +kernel
theorem dX12_allSlips_0 : decode cX12_allSlips 0 = .ok (.aload_n 0, 1) := dk_42 (dw rcX12_allSlips_0 0 rfl)
theorem dX12_allSlips_1 : decode cX12_allSlips 1 = .ok (.getfield 102, 3) := dk_180 (dw rcX12_allSlips_0 1 rfl) rfl
theorem dX12_allSlips_4 : decode cX12_allSlips 4 = .ok (.iconst 0, 1) := dk_3 (dw rcX12_allSlips_0 2 rfl)
theorem dX12_allSlips_5 : decode cX12_allSlips 5 = .ok (.iaload, 1) := dk_46 (dw rcX12_allSlips_0 3 rfl)
theorem dX12_allSlips_6 : decode cX12_allSlips 6 = .ok (.aload_n 0, 1) := dk_42 (dw rcX12_allSlips_0 4 rfl)
theorem dX12_allSlips_7 : decode cX12_allSlips 7 = .ok (.getfield 102, 3) := dk_180 (dw rcX12_allSlips_0 5 rfl) rfl
theorem dX12_allSlips_10 : decode cX12_allSlips 10 = .ok (.iconst 1, 1) := dk_4 (dw rcX12_allSlips_0 6 rfl)
theorem dX12_allSlips_11 : decode cX12_allSlips 11 = .ok (.iaload, 1) := dk_46 (dw rcX12_allSlips_0 7 rfl)
theorem dX12_allSlips_12 : decode cX12_allSlips 12 = .ok (.iadd, 1) := dk_96 (dw rcX12_allSlips_0 8 rfl)
theorem dX12_allSlips_13 : decode cX12_allSlips 13 = .ok (.aload_n 0, 1) := dk_42 (dw rcX12_allSlips_0 9 rfl)
theorem dX12_allSlips_14 : decode cX12_allSlips 14 = .ok (.getfield 102, 3) := dk_180 (dw rcX12_allSlips_0 10 rfl) rfl
theorem dX12_allSlips_17 : decode cX12_allSlips 17 = .ok (.iconst 2, 1) := dk_5 (dw rcX12_allSlips_0 11 rfl)
theorem dX12_allSlips_18 : decode cX12_allSlips 18 = .ok (.iaload, 1) := dk_46 (dw rcX12_allSlips_0 12 rfl)
theorem dX12_allSlips_19 : decode cX12_allSlips 19 = .ok (.iadd, 1) := dk_96 (dw rcX12_allSlips_0 13 rfl)
theorem dX12_allSlips_20 : decode cX12_allSlips 20 = .ok (.ireturn, 1) := dk_172 (dw rcX12_allSlips_0 14 rfl)
noncomputable def rbX12_areRules_0 : List (Nat × List Nat) := [(0, [27]), (1, [3]), (2, [4]), (3, [42]), (4, [180, 1, 175]), (7, [120]), (8, [4]), (9, [100]), (10, [184, 1, 193]), (13, [172])]
theorem rcX12_areRules_0 : dgo (lb cX12_areRules) 0 rbX12_areRules_0 = true := by decide +kernel
theorem dX12_areRules_0 : decode cX12_areRules 0 = .ok (.iload_n 1, 1) := dk_27 (dw rcX12_areRules_0 0 rfl)
theorem dX12_areRules_1 : decode cX12_areRules 1 = .ok (.iconst 0, 1) := dk_3 (dw rcX12_areRules_0 1 rfl)
theorem dX12_areRules_2 : decode cX12_areRules 2 = .ok (.iconst 1, 1) := dk_4 (dw rcX12_areRules_0 2 rfl)
theorem dX12_areRules_3 : decode cX12_areRules 3 = .ok (.aload_n 0, 1) := dk_42 (dw rcX12_areRules_0 3 rfl)
theorem dX12_areRules_4 : decode cX12_areRules 4 = .ok (.getfield 431, 3) := dk_180 (dw rcX12_areRules_0 4 rfl) rfl
theorem dX12_areRules_7 : decode cX12_areRules 7 = .ok (.ishl, 1) := dk_120 (dw rcX12_areRules_0 5 rfl)
theorem dX12_areRules_8 : decode cX12_areRules 8 = .ok (.iconst 1, 1) := dk_4 (dw rcX12_areRules_0 6 rfl)
theorem dX12_areRules_9 : decode cX12_areRules 9 = .ok (.isub, 1) := dk_100 (dw rcX12_areRules_0 7 rfl)
theorem dX12_areRules_10 : decode cX12_areRules 10 = .ok (.invokestatic 449, 3) := dk_184 (dw rcX12_areRules_0 8 rfl) rfl
theorem dX12_areRules_13 : decode cX12_areRules 13 = .ok (.ireturn, 1) := dk_172 (dw rcX12_areRules_0 9 rfl)
noncomputable def rbX12_fault_0 : List (Nat × List Nat) := [(0, [27]), (1, [154, 0, 10]), (4, [42]), (5, [180, 0, 218]), (8, [167, 0, 16]), (11, [27]), (12, [4]), (13, [160, 0, 10]), (16, [42]), (17, [180, 0, 13]), (20, [167, 0, 4]), (23, [2]), (24, [172])]
theorem rcX12_fault_0 : dgo (lb cX12_fault) 0 rbX12_fault_0 = true := by decide +kernel
theorem dX12_fault_0 : decode cX12_fault 0 = .ok (.iload_n 1, 1) := dk_27 (dw rcX12_fault_0 0 rfl)
theorem dX12_fault_1 : decode cX12_fault 1 = .ok (.ifCond .ne 10, 3) := dk_154 (dw rcX12_fault_0 1 rfl) rfl
theorem dX12_fault_4 : decode cX12_fault 4 = .ok (.aload_n 0, 1) := dk_42 (dw rcX12_fault_0 2 rfl)
theorem dX12_fault_5 : decode cX12_fault 5 = .ok (.getfield 218, 3) := dk_180 (dw rcX12_fault_0 3 rfl) rfl
theorem dX12_fault_8 : decode cX12_fault 8 = .ok (.goto 16, 3) := dk_167 (dw rcX12_fault_0 4 rfl) rfl
theorem dX12_fault_11 : decode cX12_fault 11 = .ok (.iload_n 1, 1) := dk_27 (dw rcX12_fault_0 5 rfl)
theorem dX12_fault_12 : decode cX12_fault 12 = .ok (.iconst 1, 1) := dk_4 (dw rcX12_fault_0 6 rfl)
theorem dX12_fault_13 : decode cX12_fault 13 = .ok (.if_icmp .ne 10, 3) := dk_160 (dw rcX12_fault_0 7 rfl) rfl
theorem dX12_fault_16 : decode cX12_fault 16 = .ok (.aload_n 0, 1) := dk_42 (dw rcX12_fault_0 8 rfl)
theorem dX12_fault_17 : decode cX12_fault 17 = .ok (.getfield 13, 3) := dk_180 (dw rcX12_fault_0 9 rfl) rfl
theorem dX12_fault_20 : decode cX12_fault 20 = .ok (.goto 4, 3) := dk_167 (dw rcX12_fault_0 10 rfl) rfl
theorem dX12_fault_23 : decode cX12_fault 23 = .ok (.iconst (-1), 1) := dk_2 (dw rcX12_fault_0 11 rfl)
theorem dX12_fault_24 : decode cX12_fault 24 = .ok (.ireturn, 1) := dk_172 (dw rcX12_fault_0 12 rfl)
theorem dX12_inch_29 : decode cX12_inch 29 = .ok (.tableswitch 100 0 4 #[35, 54, 62, 70, 78], 35) := dq_of (by decide +kernel)
noncomputable def rbX12_inch_0 : List (Nat × List Nat) := [(0, [42]), (1, [27]), (2, [182, 1, 197]), (5, [153, 0, 12]), (8, [42]), (9, [27]), (10, [28]), (11, [182, 1, 200]), (14, [154, 0, 5]), (17, [2]), (18, [172]), (19, [17, 1, 144]), (22, [27]), (23, [104]), (24, [28]), (25, [96]), (26, [54, 4]), (28, [29]), (64, [42]), (65, [180, 0, 75]), (68, [21, 4]), (70, [46]), (71, [156, 0, 7]), (74, [4])]
theorem rcX12_inch_0 : dgo (lb cX12_inch) 0 rbX12_inch_0 = true := by decide +kernel
theorem dX12_inch_0 : decode cX12_inch 0 = .ok (.aload_n 0, 1) := dk_42 (dw rcX12_inch_0 0 rfl)
theorem dX12_inch_1 : decode cX12_inch 1 = .ok (.iload_n 1, 1) := dk_27 (dw rcX12_inch_0 1 rfl)
theorem dX12_inch_2 : decode cX12_inch 2 = .ok (.invokevirtual 453, 3) := dk_182 (dw rcX12_inch_0 2 rfl) rfl
theorem dX12_inch_5 : decode cX12_inch 5 = .ok (.ifCond .eq 12, 3) := dk_153 (dw rcX12_inch_0 3 rfl) rfl
theorem dX12_inch_8 : decode cX12_inch 8 = .ok (.aload_n 0, 1) := dk_42 (dw rcX12_inch_0 4 rfl)
theorem dX12_inch_9 : decode cX12_inch 9 = .ok (.iload_n 1, 1) := dk_27 (dw rcX12_inch_0 5 rfl)
theorem dX12_inch_10 : decode cX12_inch 10 = .ok (.iload_n 2, 1) := dk_28 (dw rcX12_inch_0 6 rfl)
theorem dX12_inch_11 : decode cX12_inch 11 = .ok (.invokevirtual 456, 3) := dk_182 (dw rcX12_inch_0 7 rfl) rfl
theorem dX12_inch_14 : decode cX12_inch 14 = .ok (.ifCond .ne 5, 3) := dk_154 (dw rcX12_inch_0 8 rfl) rfl
theorem dX12_inch_17 : decode cX12_inch 17 = .ok (.iconst (-1), 1) := dk_2 (dw rcX12_inch_0 9 rfl)
theorem dX12_inch_18 : decode cX12_inch 18 = .ok (.ireturn, 1) := dk_172 (dw rcX12_inch_0 10 rfl)
theorem dX12_inch_19 : decode cX12_inch 19 = .ok (.sipush 400, 3) := dk_17 (dw rcX12_inch_0 11 rfl) rfl
theorem dX12_inch_22 : decode cX12_inch 22 = .ok (.iload_n 1, 1) := dk_27 (dw rcX12_inch_0 12 rfl)
theorem dX12_inch_23 : decode cX12_inch 23 = .ok (.imul, 1) := dk_104 (dw rcX12_inch_0 13 rfl)
theorem dX12_inch_24 : decode cX12_inch 24 = .ok (.iload_n 2, 1) := dk_28 (dw rcX12_inch_0 14 rfl)
theorem dX12_inch_25 : decode cX12_inch 25 = .ok (.iadd, 1) := dk_96 (dw rcX12_inch_0 15 rfl)
theorem dX12_inch_26 : decode cX12_inch 26 = .ok (.istore 4, 2) := dk_54 (dw rcX12_inch_0 16 rfl)
theorem dX12_inch_28 : decode cX12_inch 28 = .ok (.iload_n 3, 1) := dk_29 (dw rcX12_inch_0 17 rfl)
theorem dX12_inch_64 : decode cX12_inch 64 = .ok (.aload_n 0, 1) := dk_42 (dw rcX12_inch_0 18 rfl)
theorem dX12_inch_65 : decode cX12_inch 65 = .ok (.getfield 75, 3) := dk_180 (dw rcX12_inch_0 19 rfl) rfl
theorem dX12_inch_68 : decode cX12_inch 68 = .ok (.iload 4, 2) := dk_21 (dw rcX12_inch_0 20 rfl)
theorem dX12_inch_70 : decode cX12_inch 70 = .ok (.iaload, 1) := dk_46 (dw rcX12_inch_0 21 rfl)
theorem dX12_inch_71 : decode cX12_inch 71 = .ok (.ifCond .ge 7, 3) := dk_156 (dw rcX12_inch_0 22 rfl) rfl
theorem dX12_inch_74 : decode cX12_inch 74 = .ok (.iconst 1, 1) := dk_4 (dw rcX12_inch_0 23 rfl)
noncomputable def rbX12_inch_75 : List (Nat × List Nat) := [(75, [167, 0, 4]), (78, [3]), (79, [184, 1, 92]), (82, [172]), (83, [42]), (84, [180, 0, 78]), (87, [21, 4]), (89, [46]), (90, [172]), (91, [42]), (92, [180, 0, 81]), (95, [21, 4]), (97, [46]), (98, [172]), (99, [42]), (100, [180, 0, 84]), (103, [21, 4]), (105, [46]), (106, [172]), (107, [42]), (108, [180, 0, 75]), (111, [21, 4]), (113, [46]), (114, [156, 0, 7])]
theorem rcX12_inch_75 : dgo (lb cX12_inch) 0 rbX12_inch_75 = true := by decide +kernel
theorem dX12_inch_75 : decode cX12_inch 75 = .ok (.goto 4, 3) := dk_167 (dw rcX12_inch_75 0 rfl) rfl
theorem dX12_inch_78 : decode cX12_inch 78 = .ok (.iconst 0, 1) := dk_3 (dw rcX12_inch_75 1 rfl)
theorem dX12_inch_79 : decode cX12_inch 79 = .ok (.invokestatic 348, 3) := dk_184 (dw rcX12_inch_75 2 rfl) rfl
theorem dX12_inch_82 : decode cX12_inch 82 = .ok (.ireturn, 1) := dk_172 (dw rcX12_inch_75 3 rfl)
theorem dX12_inch_83 : decode cX12_inch 83 = .ok (.aload_n 0, 1) := dk_42 (dw rcX12_inch_75 4 rfl)
theorem dX12_inch_84 : decode cX12_inch 84 = .ok (.getfield 78, 3) := dk_180 (dw rcX12_inch_75 5 rfl) rfl
theorem dX12_inch_87 : decode cX12_inch 87 = .ok (.iload 4, 2) := dk_21 (dw rcX12_inch_75 6 rfl)
theorem dX12_inch_89 : decode cX12_inch 89 = .ok (.iaload, 1) := dk_46 (dw rcX12_inch_75 7 rfl)
theorem dX12_inch_90 : decode cX12_inch 90 = .ok (.ireturn, 1) := dk_172 (dw rcX12_inch_75 8 rfl)
theorem dX12_inch_91 : decode cX12_inch 91 = .ok (.aload_n 0, 1) := dk_42 (dw rcX12_inch_75 9 rfl)
theorem dX12_inch_92 : decode cX12_inch 92 = .ok (.getfield 81, 3) := dk_180 (dw rcX12_inch_75 10 rfl) rfl
theorem dX12_inch_95 : decode cX12_inch 95 = .ok (.iload 4, 2) := dk_21 (dw rcX12_inch_75 11 rfl)
theorem dX12_inch_97 : decode cX12_inch 97 = .ok (.iaload, 1) := dk_46 (dw rcX12_inch_75 12 rfl)
theorem dX12_inch_98 : decode cX12_inch 98 = .ok (.ireturn, 1) := dk_172 (dw rcX12_inch_75 13 rfl)
theorem dX12_inch_99 : decode cX12_inch 99 = .ok (.aload_n 0, 1) := dk_42 (dw rcX12_inch_75 14 rfl)
theorem dX12_inch_100 : decode cX12_inch 100 = .ok (.getfield 84, 3) := dk_180 (dw rcX12_inch_75 15 rfl) rfl
theorem dX12_inch_103 : decode cX12_inch 103 = .ok (.iload 4, 2) := dk_21 (dw rcX12_inch_75 16 rfl)
theorem dX12_inch_105 : decode cX12_inch 105 = .ok (.iaload, 1) := dk_46 (dw rcX12_inch_75 17 rfl)
theorem dX12_inch_106 : decode cX12_inch 106 = .ok (.ireturn, 1) := dk_172 (dw rcX12_inch_75 18 rfl)
theorem dX12_inch_107 : decode cX12_inch 107 = .ok (.aload_n 0, 1) := dk_42 (dw rcX12_inch_75 19 rfl)
theorem dX12_inch_108 : decode cX12_inch 108 = .ok (.getfield 75, 3) := dk_180 (dw rcX12_inch_75 20 rfl) rfl
theorem dX12_inch_111 : decode cX12_inch 111 = .ok (.iload 4, 2) := dk_21 (dw rcX12_inch_75 21 rfl)
theorem dX12_inch_113 : decode cX12_inch 113 = .ok (.iaload, 1) := dk_46 (dw rcX12_inch_75 22 rfl)
theorem dX12_inch_114 : decode cX12_inch 114 = .ok (.ifCond .ge 7, 3) := dk_156 (dw rcX12_inch_75 23 rfl) rfl
noncomputable def rbX12_inch_117 : List (Nat × List Nat) := [(117, [3]), (118, [167, 0, 10]), (121, [42]), (122, [180, 0, 75]), (125, [21, 4]), (127, [46]), (128, [172]), (129, [2]), (130, [172])]
theorem rcX12_inch_117 : dgo (lb cX12_inch) 0 rbX12_inch_117 = true := by decide +kernel
theorem dX12_inch_117 : decode cX12_inch 117 = .ok (.iconst 0, 1) := dk_3 (dw rcX12_inch_117 0 rfl)
theorem dX12_inch_118 : decode cX12_inch 118 = .ok (.goto 10, 3) := dk_167 (dw rcX12_inch_117 1 rfl) rfl
theorem dX12_inch_121 : decode cX12_inch 121 = .ok (.aload_n 0, 1) := dk_42 (dw rcX12_inch_117 2 rfl)
theorem dX12_inch_122 : decode cX12_inch 122 = .ok (.getfield 75, 3) := dk_180 (dw rcX12_inch_117 3 rfl) rfl
theorem dX12_inch_125 : decode cX12_inch 125 = .ok (.iload 4, 2) := dk_21 (dw rcX12_inch_117 4 rfl)
theorem dX12_inch_127 : decode cX12_inch 127 = .ok (.iaload, 1) := dk_46 (dw rcX12_inch_117 5 rfl)
theorem dX12_inch_128 : decode cX12_inch 128 = .ok (.ireturn, 1) := dk_172 (dw rcX12_inch_117 6 rfl)
theorem dX12_inch_129 : decode cX12_inch 129 = .ok (.iconst (-1), 1) := dk_2 (dw rcX12_inch_117 7 rfl)
theorem dX12_inch_130 : decode cX12_inch 130 = .ok (.ireturn, 1) := dk_172 (dw rcX12_inch_117 8 rfl)
noncomputable def rbX12_isInch_0 : List (Nat × List Nat) := [(0, [28]), (1, [3]), (2, [42]), (3, [180, 0, 87]), (6, [27]), (7, [46]), (8, [4]), (9, [100]), (10, [184, 1, 193]), (13, [172])]
theorem rcX12_isInch_0 : dgo (lb cX12_isInch) 0 rbX12_isInch_0 = true := by decide +kernel
theorem dX12_isInch_0 : decode cX12_isInch 0 = .ok (.iload_n 2, 1) := dk_28 (dw rcX12_isInch_0 0 rfl)
theorem dX12_isInch_1 : decode cX12_isInch 1 = .ok (.iconst 0, 1) := dk_3 (dw rcX12_isInch_0 1 rfl)
theorem dX12_isInch_2 : decode cX12_isInch 2 = .ok (.aload_n 0, 1) := dk_42 (dw rcX12_isInch_0 2 rfl)
theorem dX12_isInch_3 : decode cX12_isInch 3 = .ok (.getfield 87, 3) := dk_180 (dw rcX12_isInch_0 3 rfl) rfl
theorem dX12_isInch_6 : decode cX12_isInch 6 = .ok (.iload_n 1, 1) := dk_27 (dw rcX12_isInch_0 4 rfl)
theorem dX12_isInch_7 : decode cX12_isInch 7 = .ok (.iaload, 1) := dk_46 (dw rcX12_isInch_0 5 rfl)
theorem dX12_isInch_8 : decode cX12_isInch 8 = .ok (.iconst 1, 1) := dk_4 (dw rcX12_isInch_0 6 rfl)
theorem dX12_isInch_9 : decode cX12_isInch 9 = .ok (.isub, 1) := dk_100 (dw rcX12_isInch_0 7 rfl)
theorem dX12_isInch_10 : decode cX12_isInch 10 = .ok (.invokestatic 449, 3) := dk_184 (dw rcX12_isInch_0 8 rfl) rfl
theorem dX12_isInch_13 : decode cX12_isInch 13 = .ok (.ireturn, 1) := dk_172 (dw rcX12_isInch_0 9 rfl)
noncomputable def rbX12_isRule_0 : List (Nat × List Nat) := [(0, [27]), (1, [3]), (2, [42]), (3, [180, 1, 175]), (6, [4]), (7, [100]), (8, [184, 1, 193]), (11, [172])]
theorem rcX12_isRule_0 : dgo (lb cX12_isRule) 0 rbX12_isRule_0 = true := by decide +kernel
theorem dX12_isRule_0 : decode cX12_isRule 0 = .ok (.iload_n 1, 1) := dk_27 (dw rcX12_isRule_0 0 rfl)
theorem dX12_isRule_1 : decode cX12_isRule 1 = .ok (.iconst 0, 1) := dk_3 (dw rcX12_isRule_0 1 rfl)
theorem dX12_isRule_2 : decode cX12_isRule 2 = .ok (.aload_n 0, 1) := dk_42 (dw rcX12_isRule_0 2 rfl)
theorem dX12_isRule_3 : decode cX12_isRule 3 = .ok (.getfield 431, 3) := dk_180 (dw rcX12_isRule_0 3 rfl) rfl
theorem dX12_isRule_6 : decode cX12_isRule 6 = .ok (.iconst 1, 1) := dk_4 (dw rcX12_isRule_0 4 rfl)
theorem dX12_isRule_7 : decode cX12_isRule 7 = .ok (.isub, 1) := dk_100 (dw rcX12_isRule_0 5 rfl)
theorem dX12_isRule_8 : decode cX12_isRule 8 = .ok (.invokestatic 449, 3) := dk_184 (dw rcX12_isRule_0 6 rfl) rfl
theorem dX12_isRule_11 : decode cX12_isRule 11 = .ok (.ireturn, 1) := dk_172 (dw rcX12_isRule_0 7 rfl)
noncomputable def rbX12_isStreet_0 : List (Nat × List Nat) := [(0, [27]), (1, [3]), (2, [42]), (3, [180, 1, 169]), (6, [4]), (7, [100]), (8, [184, 1, 193]), (11, [172])]
theorem rcX12_isStreet_0 : dgo (lb cX12_isStreet) 0 rbX12_isStreet_0 = true := by decide +kernel
theorem dX12_isStreet_0 : decode cX12_isStreet 0 = .ok (.iload_n 1, 1) := dk_27 (dw rcX12_isStreet_0 0 rfl)
theorem dX12_isStreet_1 : decode cX12_isStreet 1 = .ok (.iconst 0, 1) := dk_3 (dw rcX12_isStreet_0 1 rfl)
theorem dX12_isStreet_2 : decode cX12_isStreet 2 = .ok (.aload_n 0, 1) := dk_42 (dw rcX12_isStreet_0 2 rfl)
theorem dX12_isStreet_3 : decode cX12_isStreet 3 = .ok (.getfield 425, 3) := dk_180 (dw rcX12_isStreet_0 3 rfl) rfl
theorem dX12_isStreet_6 : decode cX12_isStreet 6 = .ok (.iconst 1, 1) := dk_4 (dw rcX12_isStreet_0 4 rfl)
theorem dX12_isStreet_7 : decode cX12_isStreet 7 = .ok (.isub, 1) := dk_100 (dw rcX12_isStreet_0 5 rfl)
theorem dX12_isStreet_8 : decode cX12_isStreet 8 = .ok (.invokestatic 449, 3) := dk_184 (dw rcX12_isStreet_0 6 rfl) rfl
theorem dX12_isStreet_11 : decode cX12_isStreet 11 = .ok (.ireturn, 1) := dk_172 (dw rcX12_isStreet_0 7 rfl)
noncomputable def rbX12_isWalker_0 : List (Nat × List Nat) := [(0, [27]), (1, [3]), (2, [42]), (3, [180, 1, 172]), (6, [4]), (7, [100]), (8, [184, 1, 193]), (11, [172])]
theorem rcX12_isWalker_0 : dgo (lb cX12_isWalker) 0 rbX12_isWalker_0 = true := by decide +kernel
theorem dX12_isWalker_0 : decode cX12_isWalker 0 = .ok (.iload_n 1, 1) := dk_27 (dw rcX12_isWalker_0 0 rfl)
theorem dX12_isWalker_1 : decode cX12_isWalker 1 = .ok (.iconst 0, 1) := dk_3 (dw rcX12_isWalker_0 1 rfl)
theorem dX12_isWalker_2 : decode cX12_isWalker 2 = .ok (.aload_n 0, 1) := dk_42 (dw rcX12_isWalker_0 2 rfl)
theorem dX12_isWalker_3 : decode cX12_isWalker 3 = .ok (.getfield 428, 3) := dk_180 (dw rcX12_isWalker_0 3 rfl) rfl
theorem dX12_isWalker_6 : decode cX12_isWalker 6 = .ok (.iconst 1, 1) := dk_4 (dw rcX12_isWalker_0 4 rfl)
theorem dX12_isWalker_7 : decode cX12_isWalker 7 = .ok (.isub, 1) := dk_100 (dw rcX12_isWalker_0 5 rfl)
theorem dX12_isWalker_8 : decode cX12_isWalker 8 = .ok (.invokestatic 449, 3) := dk_184 (dw rcX12_isWalker_0 6 rfl) rfl
theorem dX12_isWalker_11 : decode cX12_isWalker 11 = .ok (.ireturn, 1) := dk_172 (dw rcX12_isWalker_0 7 rfl)
noncomputable def rbX12_later_0 : List (Nat × List Nat) := [(0, [27]), (1, [155, 0, 22]), (4, [27]), (5, [17, 3, 232]), (8, [163, 0, 15]), (11, [42]), (12, [180, 2, 81]), (15, [27]), (16, [96]), (17, [19, 1, 246]), (20, [164, 0, 5]), (23, [2]), (24, [172]), (25, [42]), (26, [89]), (27, [180, 2, 81]), (30, [27]), (31, [96]), (32, [181, 2, 81]), (35, [42]), (36, [180, 2, 81]), (39, [172])]
theorem rcX12_later_0 : dgo (lb cX12_later) 0 rbX12_later_0 = true := by decide +kernel
theorem dX12_later_0 : decode cX12_later 0 = .ok (.iload_n 1, 1) := dk_27 (dw rcX12_later_0 0 rfl)
theorem dX12_later_1 : decode cX12_later 1 = .ok (.ifCond .lt 22, 3) := dk_155 (dw rcX12_later_0 1 rfl) rfl
theorem dX12_later_4 : decode cX12_later 4 = .ok (.iload_n 1, 1) := dk_27 (dw rcX12_later_0 2 rfl)
theorem dX12_later_5 : decode cX12_later 5 = .ok (.sipush 1000, 3) := dk_17 (dw rcX12_later_0 3 rfl) rfl
theorem dX12_later_8 : decode cX12_later 8 = .ok (.if_icmp .gt 15, 3) := dk_163 (dw rcX12_later_0 4 rfl) rfl
theorem dX12_later_11 : decode cX12_later 11 = .ok (.aload_n 0, 1) := dk_42 (dw rcX12_later_0 5 rfl)
theorem dX12_later_12 : decode cX12_later 12 = .ok (.getfield 593, 3) := dk_180 (dw rcX12_later_0 6 rfl) rfl
theorem dX12_later_15 : decode cX12_later 15 = .ok (.iload_n 1, 1) := dk_27 (dw rcX12_later_0 7 rfl)
theorem dX12_later_16 : decode cX12_later 16 = .ok (.iadd, 1) := dk_96 (dw rcX12_later_0 8 rfl)
theorem dX12_later_17 : decode cX12_later 17 = .ok (.ldc_w 502, 3) := dk_19 (dw rcX12_later_0 9 rfl) rfl
theorem dX12_later_20 : decode cX12_later 20 = .ok (.if_icmp .le 5, 3) := dk_164 (dw rcX12_later_0 10 rfl) rfl
theorem dX12_later_23 : decode cX12_later 23 = .ok (.iconst (-1), 1) := dk_2 (dw rcX12_later_0 11 rfl)
theorem dX12_later_24 : decode cX12_later 24 = .ok (.ireturn, 1) := dk_172 (dw rcX12_later_0 12 rfl)
theorem dX12_later_25 : decode cX12_later 25 = .ok (.aload_n 0, 1) := dk_42 (dw rcX12_later_0 13 rfl)
theorem dX12_later_26 : decode cX12_later 26 = .ok (.dup, 1) := dk_89 (dw rcX12_later_0 14 rfl)
theorem dX12_later_27 : decode cX12_later 27 = .ok (.getfield 593, 3) := dk_180 (dw rcX12_later_0 15 rfl) rfl
theorem dX12_later_30 : decode cX12_later 30 = .ok (.iload_n 1, 1) := dk_27 (dw rcX12_later_0 16 rfl)
theorem dX12_later_31 : decode cX12_later 31 = .ok (.iadd, 1) := dk_96 (dw rcX12_later_0 17 rfl)
theorem dX12_later_32 : decode cX12_later 32 = .ok (.putfield 593, 3) := dk_181 (dw rcX12_later_0 18 rfl) rfl
theorem dX12_later_35 : decode cX12_later 35 = .ok (.aload_n 0, 1) := dk_42 (dw rcX12_later_0 19 rfl)
theorem dX12_later_36 : decode cX12_later 36 = .ok (.getfield 593, 3) := dk_180 (dw rcX12_later_0 20 rfl) rfl
theorem dX12_later_39 : decode cX12_later 39 = .ok (.ireturn, 1) := dk_172 (dw rcX12_later_0 21 rfl)
noncomputable def rbX12_length_0 : List (Nat × List Nat) := [(0, [42]), (1, [27]), (2, [182, 1, 197]), (5, [153, 0, 12]), (8, [42]), (9, [180, 0, 87]), (12, [27]), (13, [46]), (14, [167, 0, 4]), (17, [2]), (18, [172])]
theorem rcX12_length_0 : dgo (lb cX12_length) 0 rbX12_length_0 = true := by decide +kernel
theorem dX12_length_0 : decode cX12_length 0 = .ok (.aload_n 0, 1) := dk_42 (dw rcX12_length_0 0 rfl)
theorem dX12_length_1 : decode cX12_length 1 = .ok (.iload_n 1, 1) := dk_27 (dw rcX12_length_0 1 rfl)
theorem dX12_length_2 : decode cX12_length 2 = .ok (.invokevirtual 453, 3) := dk_182 (dw rcX12_length_0 2 rfl) rfl
theorem dX12_length_5 : decode cX12_length 5 = .ok (.ifCond .eq 12, 3) := dk_153 (dw rcX12_length_0 3 rfl) rfl
theorem dX12_length_8 : decode cX12_length 8 = .ok (.aload_n 0, 1) := dk_42 (dw rcX12_length_0 4 rfl)
theorem dX12_length_9 : decode cX12_length 9 = .ok (.getfield 87, 3) := dk_180 (dw rcX12_length_0 5 rfl) rfl
theorem dX12_length_12 : decode cX12_length 12 = .ok (.iload_n 1, 1) := dk_27 (dw rcX12_length_0 6 rfl)
theorem dX12_length_13 : decode cX12_length 13 = .ok (.iaload, 1) := dk_46 (dw rcX12_length_0 7 rfl)
theorem dX12_length_14 : decode cX12_length 14 = .ok (.goto 4, 3) := dk_167 (dw rcX12_length_0 8 rfl) rfl
theorem dX12_length_17 : decode cX12_length 17 = .ok (.iconst (-1), 1) := dk_2 (dw rcX12_length_0 9 rfl)
theorem dX12_length_18 : decode cX12_length 18 = .ok (.ireturn, 1) := dk_172 (dw rcX12_length_0 10 rfl)
noncomputable def rbX12_lies_0 : List (Nat × List Nat) := [(0, [27]), (1, [3]), (2, [42]), (3, [180, 1, 190]), (6, [4]), (7, [100]), (8, [184, 1, 193]), (11, [153, 0, 12]), (14, [42]), (15, [180, 0, 121]), (18, [27]), (19, [46]), (20, [167, 0, 4]), (23, [2]), (24, [172])]
theorem rcX12_lies_0 : dgo (lb cX12_lies) 0 rbX12_lies_0 = true := by decide +kernel
theorem dX12_lies_0 : decode cX12_lies 0 = .ok (.iload_n 1, 1) := dk_27 (dw rcX12_lies_0 0 rfl)
theorem dX12_lies_1 : decode cX12_lies 1 = .ok (.iconst 0, 1) := dk_3 (dw rcX12_lies_0 1 rfl)
theorem dX12_lies_2 : decode cX12_lies 2 = .ok (.aload_n 0, 1) := dk_42 (dw rcX12_lies_0 2 rfl)
theorem dX12_lies_3 : decode cX12_lies 3 = .ok (.getfield 446, 3) := dk_180 (dw rcX12_lies_0 3 rfl) rfl
theorem dX12_lies_6 : decode cX12_lies 6 = .ok (.iconst 1, 1) := dk_4 (dw rcX12_lies_0 4 rfl)
theorem dX12_lies_7 : decode cX12_lies 7 = .ok (.isub, 1) := dk_100 (dw rcX12_lies_0 5 rfl)
theorem dX12_lies_8 : decode cX12_lies 8 = .ok (.invokestatic 449, 3) := dk_184 (dw rcX12_lies_0 6 rfl) rfl
theorem dX12_lies_11 : decode cX12_lies 11 = .ok (.ifCond .eq 12, 3) := dk_153 (dw rcX12_lies_0 7 rfl) rfl
theorem dX12_lies_14 : decode cX12_lies 14 = .ok (.aload_n 0, 1) := dk_42 (dw rcX12_lies_0 8 rfl)
theorem dX12_lies_15 : decode cX12_lies 15 = .ok (.getfield 121, 3) := dk_180 (dw rcX12_lies_0 9 rfl) rfl
theorem dX12_lies_18 : decode cX12_lies 18 = .ok (.iload_n 1, 1) := dk_27 (dw rcX12_lies_0 10 rfl)
theorem dX12_lies_19 : decode cX12_lies 19 = .ok (.iaload, 1) := dk_46 (dw rcX12_lies_0 11 rfl)
theorem dX12_lies_20 : decode cX12_lies 20 = .ok (.goto 4, 3) := dk_167 (dw rcX12_lies_0 12 rfl) rfl
theorem dX12_lies_23 : decode cX12_lies 23 = .ok (.iconst (-1), 1) := dk_2 (dw rcX12_lies_0 13 rfl)
theorem dX12_lies_24 : decode cX12_lies 24 = .ok (.ireturn, 1) := dk_172 (dw rcX12_lies_0 14 rfl)
noncomputable def rbX12_untell_0 : List (Nat × List Nat) := [(0, [27]), (1, [3]), (2, [42]), (3, [180, 1, 187]), (6, [4]), (7, [100]), (8, [184, 1, 193]), (11, [153, 0, 12]), (14, [42]), (15, [180, 0, 169]), (18, [27]), (19, [46]), (20, [155, 0, 5]), (23, [3]), (24, [172]), (25, [42]), (26, [180, 0, 169]), (29, [27]), (30, [42]), (31, [180, 2, 81]), (34, [79]), (35, [4]), (36, [172])]
theorem rcX12_untell_0 : dgo (lb cX12_untell) 0 rbX12_untell_0 = true := by decide +kernel
theorem dX12_untell_0 : decode cX12_untell 0 = .ok (.iload_n 1, 1) := dk_27 (dw rcX12_untell_0 0 rfl)
theorem dX12_untell_1 : decode cX12_untell 1 = .ok (.iconst 0, 1) := dk_3 (dw rcX12_untell_0 1 rfl)
theorem dX12_untell_2 : decode cX12_untell 2 = .ok (.aload_n 0, 1) := dk_42 (dw rcX12_untell_0 2 rfl)
theorem dX12_untell_3 : decode cX12_untell 3 = .ok (.getfield 443, 3) := dk_180 (dw rcX12_untell_0 3 rfl) rfl
theorem dX12_untell_6 : decode cX12_untell 6 = .ok (.iconst 1, 1) := dk_4 (dw rcX12_untell_0 4 rfl)
theorem dX12_untell_7 : decode cX12_untell 7 = .ok (.isub, 1) := dk_100 (dw rcX12_untell_0 5 rfl)
theorem dX12_untell_8 : decode cX12_untell 8 = .ok (.invokestatic 449, 3) := dk_184 (dw rcX12_untell_0 6 rfl) rfl
theorem dX12_untell_11 : decode cX12_untell 11 = .ok (.ifCond .eq 12, 3) := dk_153 (dw rcX12_untell_0 7 rfl) rfl
theorem dX12_untell_14 : decode cX12_untell 14 = .ok (.aload_n 0, 1) := dk_42 (dw rcX12_untell_0 8 rfl)
theorem dX12_untell_15 : decode cX12_untell 15 = .ok (.getfield 169, 3) := dk_180 (dw rcX12_untell_0 9 rfl) rfl
theorem dX12_untell_18 : decode cX12_untell 18 = .ok (.iload_n 1, 1) := dk_27 (dw rcX12_untell_0 10 rfl)
theorem dX12_untell_19 : decode cX12_untell 19 = .ok (.iaload, 1) := dk_46 (dw rcX12_untell_0 11 rfl)
theorem dX12_untell_20 : decode cX12_untell 20 = .ok (.ifCond .lt 5, 3) := dk_155 (dw rcX12_untell_0 12 rfl) rfl
theorem dX12_untell_23 : decode cX12_untell 23 = .ok (.iconst 0, 1) := dk_3 (dw rcX12_untell_0 13 rfl)
theorem dX12_untell_24 : decode cX12_untell 24 = .ok (.ireturn, 1) := dk_172 (dw rcX12_untell_0 14 rfl)
theorem dX12_untell_25 : decode cX12_untell 25 = .ok (.aload_n 0, 1) := dk_42 (dw rcX12_untell_0 15 rfl)
theorem dX12_untell_26 : decode cX12_untell 26 = .ok (.getfield 169, 3) := dk_180 (dw rcX12_untell_0 16 rfl) rfl
theorem dX12_untell_29 : decode cX12_untell 29 = .ok (.iload_n 1, 1) := dk_27 (dw rcX12_untell_0 17 rfl)
theorem dX12_untell_30 : decode cX12_untell 30 = .ok (.aload_n 0, 1) := dk_42 (dw rcX12_untell_0 18 rfl)
theorem dX12_untell_31 : decode cX12_untell 31 = .ok (.getfield 593, 3) := dk_180 (dw rcX12_untell_0 19 rfl) rfl
theorem dX12_untell_34 : decode cX12_untell 34 = .ok (.iastore, 1) := dk_79 (dw rcX12_untell_0 20 rfl)
theorem dX12_untell_35 : decode cX12_untell 35 = .ok (.iconst 1, 1) := dk_4 (dw rcX12_untell_0 21 rfl)
theorem dX12_untell_36 : decode cX12_untell 36 = .ok (.ireturn, 1) := dk_172 (dw rcX12_untell_0 22 rfl)
noncomputable def rbX12_walker_0 : List (Nat × List Nat) := [(0, [42]), (1, [180, 0, 151]), (4, [3]), (5, [46]), (6, [155, 0, 12]), (9, [27]), (10, [3]), (11, [8]), (12, [184, 1, 193]), (15, [154, 0, 7]), (18, [2]), (19, [167, 0, 9]), (22, [42]), (23, [180, 0, 151]), (26, [27]), (27, [46]), (28, [172])]
theorem rcX12_walker_0 : dgo (lb cX12_walker) 0 rbX12_walker_0 = true := by decide +kernel
theorem dX12_walker_0 : decode cX12_walker 0 = .ok (.aload_n 0, 1) := dk_42 (dw rcX12_walker_0 0 rfl)
theorem dX12_walker_1 : decode cX12_walker 1 = .ok (.getfield 151, 3) := dk_180 (dw rcX12_walker_0 1 rfl) rfl
theorem dX12_walker_4 : decode cX12_walker 4 = .ok (.iconst 0, 1) := dk_3 (dw rcX12_walker_0 2 rfl)
theorem dX12_walker_5 : decode cX12_walker 5 = .ok (.iaload, 1) := dk_46 (dw rcX12_walker_0 3 rfl)
theorem dX12_walker_6 : decode cX12_walker 6 = .ok (.ifCond .lt 12, 3) := dk_155 (dw rcX12_walker_0 4 rfl) rfl
theorem dX12_walker_9 : decode cX12_walker 9 = .ok (.iload_n 1, 1) := dk_27 (dw rcX12_walker_0 5 rfl)
theorem dX12_walker_10 : decode cX12_walker 10 = .ok (.iconst 0, 1) := dk_3 (dw rcX12_walker_0 6 rfl)
theorem dX12_walker_11 : decode cX12_walker 11 = .ok (.iconst 5, 1) := dk_8 (dw rcX12_walker_0 7 rfl)
theorem dX12_walker_12 : decode cX12_walker 12 = .ok (.invokestatic 449, 3) := dk_184 (dw rcX12_walker_0 8 rfl) rfl
theorem dX12_walker_15 : decode cX12_walker 15 = .ok (.ifCond .ne 7, 3) := dk_154 (dw rcX12_walker_0 9 rfl) rfl
theorem dX12_walker_18 : decode cX12_walker 18 = .ok (.iconst (-1), 1) := dk_2 (dw rcX12_walker_0 10 rfl)
theorem dX12_walker_19 : decode cX12_walker 19 = .ok (.goto 9, 3) := dk_167 (dw rcX12_walker_0 11 rfl) rfl
theorem dX12_walker_22 : decode cX12_walker 22 = .ok (.aload_n 0, 1) := dk_42 (dw rcX12_walker_0 12 rfl)
theorem dX12_walker_23 : decode cX12_walker 23 = .ok (.getfield 151, 3) := dk_180 (dw rcX12_walker_0 13 rfl) rfl
theorem dX12_walker_26 : decode cX12_walker 26 = .ok (.iload_n 1, 1) := dk_27 (dw rcX12_walker_0 14 rfl)
theorem dX12_walker_27 : decode cX12_walker 27 = .ok (.iaload, 1) := dk_46 (dw rcX12_walker_0 15 rfl)
theorem dX12_walker_28 : decode cX12_walker 28 = .ok (.ireturn, 1) := dk_172 (dw rcX12_walker_0 16 rfl)
set_option maxHeartbeats 4000000 in
set_option maxRecDepth 100000 in
theorem n_isStreet (l : Launch) (D : va_G) (k : KT) (A : Nat → Prop) (a : Nat → Nat) (z : SK) (G : GS) (p0 : Int32)  : Met l yX12_isStreet (WS yX12_isStreet cX12_isStreet 2 (some .boolean)) ({ frames := 1, cells := 0, slots := 0, locals := 22 }) (va_Pc [.ref (a 66), .int p0] (cW D k A a z G)) (va_Qi (fun (r : Int32) (G1 : GS) => Q_isStreet p0 G r G1) (fun (G1 : GS) t => Wd D k A a G1 t.heap) A) 0 0 A := by
  refine Met.ofW (cc := cX12_isStreet) (maxL := 2) (ret := (some .boolean)) (by decide) rfl ?_
  intro p e s m args below meth c s₁ B hml hv
  obtain ⟨rfl, hW, hB_G, hK, hZ⟩ := hv
  have hx := B.exec
  have hb := B.bytes
  have hr := B.returns
  have hts := atoms_spec (ws := WS yX12_isStreet cX12_isStreet 2 (some .boolean)) B.pre
  have hgd : ∀ w ∈ gd, w ∈ WS yX12_isStreet cX12_isStreet 2 (some .boolean) := fun w h => List.mem_cons_of_mem _ h
  have hg : ∀ w ∈ gd, w.before _ s = true := fun w h => hts w (hgd w h)
  have hown : s.vm.findClass RX12 = some m.cls := findClass_of_methodNamed B.named
  have hS : va_S A s.heap s.heap [] := va_S.rf
  have hF : Fr [] [] G G := Fr.rf
  have hl := lv_entry ([.ref (a 66), .int p0]) (n := 2) (Nat.le_of_ble_eq_true rfl)
  rw [lg_entry_eq]
  generalize (lg_sl ([.ref (a 66), .int p0]) ++ List.replicate (2 - (lg_sl ([.ref (a 66), .int p0])).length) Slot.unset).toArray = ls at hl ⊢
  have hl : lv_has ls 2 [(0, .ref (a 66)), (1, .int p0)] := hl
  refine lv_iload_n hx hb dX12_isStreet_0 rfl (lv_at hl 1 rfl) ?_
  refine ic_0 hx hb dX12_isStreet_1 ?_
  refine lv_aload_n hx hb dX12_isStreet_2 rfl (lv_at hl 0 rfl) ?_
  have b_1 : 0 ≤ (G.1 66 52).toInt ∧ (G.1 66 52).toInt ≤ 3 := bd_66_52 hB_G
  refine S_getI (v := (G.1 66 52)) (C := RX12) (T := TX12) (N := 89) hx hb hg iX12 hown hK hW kd_66 rfl 52 (lt_b rfl) (hg (Cond.fieldLink RX12 425 "SlabWalkModel" "streets" "I") m1366) (fun _ h9 => h9) rfl rfl dX12_isStreet_3 ?_
  refine ic_1 hx hb dX12_isStreet_6 ?_
  refine lv_isub hx hb dX12_isStreet_7 ?_
  refine lv_topi (fun y_2 ey_2 => ?_)
  have ty_2 : y_2.toInt = (G.1 66 52).toInt - 1 := xI_sub rfl rfl ey_2 ((by first | exact ok_56 b_1.1 | omega)) ((by first | exact ok_637 b_1.2 | omega))
  have qc_3 : (0 : Int32).toInt = 0 := rfl
  refine S_calli (va_runS (As := [.int p0, .int 0, .int y_2]) (rest := []) ⟨hx, hb, hml, hown, hts⟩ (n_isIn l D k A a z G p0 0 y_2 ) (va_cwS 3 hts (gd_S hgd m1781 m1782 m131 m1783) rfl rfl rfl hd_X12_isIn.2 ⟨Nat.le_of_ble_eq_true rfl, Nat.le_of_ble_eq_true rfl⟩) (pre_S hW hB_G hK hZ hS) rfl rfl hl.1 rfl (lv_room (Nat.le_of_ble_eq_true rfl)) dX12_isStreet_8 ⟨Nat.le_of_ble_eq_true rfl, Nat.le_of_ble_eq_true rfl⟩) hS (fun r_4 G_5 H locs hpo hW hS => ?_)
  have hX_8 : Q_isIn p0 0 y_2 G r_4 G_5 := hpo
  obtain ⟨hB_G_5, hq_6, f_9, ⟨d_1, d_2⟩, -⟩ := hpo
  have hF := hF.call9 hq_6 rfl rfl
  exact W.zret (v := r_4) hx hb hr (nar_z ((by first | exact f_9.1 | omega)) ((by first | exact f_9.2 | omega))) (fun t ht _ => ⟨⟨r_4, G_5, rfl, (Q_isStreet_mk ⟨hB_G_5, hF, ⟨(by first | exact f_9.1 | omega), (by first | exact f_9.2 | omega)⟩, ((by first | exact (fun h9 => ⟨(by first | exact ok_638 qc_3 f_9.2 d_1 h9 | omega), ⟨(by first | exact ok_639 ty_2 f_9.2 d_1 h9 | omega), (by first | exact ok_640 b_1.2 ty_2 f_9.2 d_1 h9 | omega)⟩⟩) | omega)), ⟨y_2, ty_2, ⟨r_4, G_5, hX_8, ⟨rfl, rfl⟩⟩⟩⟩), wd_t ht hW⟩, hS.F ht⟩) hS.2.2 dX12_isStreet_11

set_option maxHeartbeats 4000000 in
set_option maxRecDepth 100000 in
theorem n_isWalker (l : Launch) (D : va_G) (k : KT) (A : Nat → Prop) (a : Nat → Nat) (z : SK) (G : GS) (p0 : Int32)  : Met l yX12_isWalker (WS yX12_isWalker cX12_isWalker 2 (some .boolean)) ({ frames := 1, cells := 0, slots := 0, locals := 22 }) (va_Pc [.ref (a 66), .int p0] (cW D k A a z G)) (va_Qi (fun (r : Int32) (G1 : GS) => Q_isWalker p0 G r G1) (fun (G1 : GS) t => Wd D k A a G1 t.heap) A) 0 0 A := by
  refine Met.ofW (cc := cX12_isWalker) (maxL := 2) (ret := (some .boolean)) (by decide) rfl ?_
  intro p e s m args below meth c s₁ B hml hv
  obtain ⟨rfl, hW, hB_G, hK, hZ⟩ := hv
  have hx := B.exec
  have hb := B.bytes
  have hr := B.returns
  have hts := atoms_spec (ws := WS yX12_isWalker cX12_isWalker 2 (some .boolean)) B.pre
  have hgd : ∀ w ∈ gd, w ∈ WS yX12_isWalker cX12_isWalker 2 (some .boolean) := fun w h => List.mem_cons_of_mem _ h
  have hg : ∀ w ∈ gd, w.before _ s = true := fun w h => hts w (hgd w h)
  have hown : s.vm.findClass RX12 = some m.cls := findClass_of_methodNamed B.named
  have hS : va_S A s.heap s.heap [] := va_S.rf
  have hF : Fr [] [] G G := Fr.rf
  have hl := lv_entry ([.ref (a 66), .int p0]) (n := 2) (Nat.le_of_ble_eq_true rfl)
  rw [lg_entry_eq]
  generalize (lg_sl ([.ref (a 66), .int p0]) ++ List.replicate (2 - (lg_sl ([.ref (a 66), .int p0])).length) Slot.unset).toArray = ls at hl ⊢
  have hl : lv_has ls 2 [(0, .ref (a 66)), (1, .int p0)] := hl
  refine lv_iload_n hx hb dX12_isWalker_0 rfl (lv_at hl 1 rfl) ?_
  refine ic_0 hx hb dX12_isWalker_1 ?_
  refine lv_aload_n hx hb dX12_isWalker_2 rfl (lv_at hl 0 rfl) ?_
  have b_1 : 0 ≤ (G.1 66 53).toInt ∧ (G.1 66 53).toInt ≤ 4 := bd_66_53 hB_G
  refine S_getI (v := (G.1 66 53)) (C := RX12) (T := TX12) (N := 89) hx hb hg iX12 hown hK hW kd_66 rfl 53 (lt_b rfl) (hg (Cond.fieldLink RX12 428 "SlabWalkModel" "walkers" "I") m1367) (fun _ h9 => h9) rfl rfl dX12_isWalker_3 ?_
  refine ic_1 hx hb dX12_isWalker_6 ?_
  refine lv_isub hx hb dX12_isWalker_7 ?_
  refine lv_topi (fun y_2 ey_2 => ?_)
  have ty_2 : y_2.toInt = (G.1 66 53).toInt - 1 := xI_sub rfl rfl ey_2 ((by first | exact ok_56 b_1.1 | omega)) ((by first | exact ok_641 b_1.2 | omega))
  have qc_3 : (0 : Int32).toInt = 0 := rfl
  refine S_calli (va_runS (As := [.int p0, .int 0, .int y_2]) (rest := []) ⟨hx, hb, hml, hown, hts⟩ (n_isIn l D k A a z G p0 0 y_2 ) (va_cwS 3 hts (gd_S hgd m1781 m1782 m131 m1783) rfl rfl rfl hd_X12_isIn.2 ⟨Nat.le_of_ble_eq_true rfl, Nat.le_of_ble_eq_true rfl⟩) (pre_S hW hB_G hK hZ hS) rfl rfl hl.1 rfl (lv_room (Nat.le_of_ble_eq_true rfl)) dX12_isWalker_8 ⟨Nat.le_of_ble_eq_true rfl, Nat.le_of_ble_eq_true rfl⟩) hS (fun r_4 G_5 H locs hpo hW hS => ?_)
  have hX_8 : Q_isIn p0 0 y_2 G r_4 G_5 := hpo
  obtain ⟨hB_G_5, hq_6, f_9, ⟨d_1, d_2⟩, -⟩ := hpo
  have hF := hF.call9 hq_6 rfl rfl
  exact W.zret (v := r_4) hx hb hr (nar_z ((by first | exact f_9.1 | omega)) ((by first | exact f_9.2 | omega))) (fun t ht _ => ⟨⟨r_4, G_5, rfl, (Q_isWalker_mk ⟨hB_G_5, hF, ⟨(by first | exact f_9.1 | omega), (by first | exact f_9.2 | omega)⟩, ((by first | exact (fun h9 => ⟨(by first | exact ok_638 qc_3 f_9.2 d_1 h9 | omega), ⟨(by first | exact ok_639 ty_2 f_9.2 d_1 h9 | omega), (by first | exact ok_642 b_1.2 ty_2 f_9.2 d_1 h9 | omega)⟩⟩) | omega)), ⟨y_2, ty_2, ⟨r_4, G_5, hX_8, ⟨rfl, rfl⟩⟩⟩⟩), wd_t ht hW⟩, hS.F ht⟩) hS.2.2 dX12_isWalker_11

set_option maxHeartbeats 4000000 in
set_option maxRecDepth 100000 in
theorem n_isRule (l : Launch) (D : va_G) (k : KT) (A : Nat → Prop) (a : Nat → Nat) (z : SK) (G : GS) (p0 : Int32)  : Met l yX12_isRule (WS yX12_isRule cX12_isRule 2 (some .boolean)) ({ frames := 1, cells := 0, slots := 0, locals := 22 }) (va_Pc [.ref (a 66), .int p0] (cW D k A a z G)) (va_Qi (fun (r : Int32) (G1 : GS) => Q_isRule p0 G r G1) (fun (G1 : GS) t => Wd D k A a G1 t.heap) A) 0 0 A := by
  refine Met.ofW (cc := cX12_isRule) (maxL := 2) (ret := (some .boolean)) (by decide) rfl ?_
  intro p e s m args below meth c s₁ B hml hv
  obtain ⟨rfl, hW, hB_G, hK, hZ⟩ := hv
  have hx := B.exec
  have hb := B.bytes
  have hr := B.returns
  have hts := atoms_spec (ws := WS yX12_isRule cX12_isRule 2 (some .boolean)) B.pre
  have hgd : ∀ w ∈ gd, w ∈ WS yX12_isRule cX12_isRule 2 (some .boolean) := fun w h => List.mem_cons_of_mem _ h
  have hg : ∀ w ∈ gd, w.before _ s = true := fun w h => hts w (hgd w h)
  have hown : s.vm.findClass RX12 = some m.cls := findClass_of_methodNamed B.named
  have hS : va_S A s.heap s.heap [] := va_S.rf
  have hF : Fr [] [] G G := Fr.rf
  have hl := lv_entry ([.ref (a 66), .int p0]) (n := 2) (Nat.le_of_ble_eq_true rfl)
  rw [lg_entry_eq]
  generalize (lg_sl ([.ref (a 66), .int p0]) ++ List.replicate (2 - (lg_sl ([.ref (a 66), .int p0])).length) Slot.unset).toArray = ls at hl ⊢
  have hl : lv_has ls 2 [(0, .ref (a 66)), (1, .int p0)] := hl
  refine lv_iload_n hx hb dX12_isRule_0 rfl (lv_at hl 1 rfl) ?_
  refine ic_0 hx hb dX12_isRule_1 ?_
  refine lv_aload_n hx hb dX12_isRule_2 rfl (lv_at hl 0 rfl) ?_
  have b_1 : 0 ≤ (G.1 66 54).toInt ∧ (G.1 66 54).toInt ≤ 6 := bd_66_54 hB_G
  refine S_getI (v := (G.1 66 54)) (C := RX12) (T := TX12) (N := 89) hx hb hg iX12 hown hK hW kd_66 rfl 54 (lt_b rfl) (hg (Cond.fieldLink RX12 431 "SlabWalkModel" "rules" "I") m1368) (fun _ h9 => h9) rfl rfl dX12_isRule_3 ?_
  refine ic_1 hx hb dX12_isRule_6 ?_
  refine lv_isub hx hb dX12_isRule_7 ?_
  refine lv_topi (fun y_2 ey_2 => ?_)
  have ty_2 : y_2.toInt = (G.1 66 54).toInt - 1 := xI_sub rfl rfl ey_2 ((by first | exact ok_56 b_1.1 | omega)) ((by first | exact ok_643 b_1.2 | omega))
  have qc_3 : (0 : Int32).toInt = 0 := rfl
  refine S_calli (va_runS (As := [.int p0, .int 0, .int y_2]) (rest := []) ⟨hx, hb, hml, hown, hts⟩ (n_isIn l D k A a z G p0 0 y_2 ) (va_cwS 3 hts (gd_S hgd m1781 m1782 m131 m1783) rfl rfl rfl hd_X12_isIn.2 ⟨Nat.le_of_ble_eq_true rfl, Nat.le_of_ble_eq_true rfl⟩) (pre_S hW hB_G hK hZ hS) rfl rfl hl.1 rfl (lv_room (Nat.le_of_ble_eq_true rfl)) dX12_isRule_8 ⟨Nat.le_of_ble_eq_true rfl, Nat.le_of_ble_eq_true rfl⟩) hS (fun r_4 G_5 H locs hpo hW hS => ?_)
  have hX_8 : Q_isIn p0 0 y_2 G r_4 G_5 := hpo
  obtain ⟨hB_G_5, hq_6, f_9, ⟨d_1, d_2⟩, -⟩ := hpo
  have hF := hF.call9 hq_6 rfl rfl
  exact W.zret (v := r_4) hx hb hr (nar_z ((by first | exact f_9.1 | omega)) ((by first | exact f_9.2 | omega))) (fun t ht _ => ⟨⟨r_4, G_5, rfl, (Q_isRule_mk ⟨hB_G_5, hF, ⟨(by first | exact f_9.1 | omega), (by first | exact f_9.2 | omega)⟩, ((by first | exact (fun h9 => ⟨(by first | exact ok_638 qc_3 f_9.2 d_1 h9 | omega), ⟨(by first | exact ok_639 ty_2 f_9.2 d_1 h9 | omega), (by first | exact ok_644 b_1.2 ty_2 f_9.2 d_1 h9 | omega)⟩⟩) | omega)), ⟨y_2, ty_2, ⟨r_4, G_5, hX_8, ⟨rfl, rfl⟩⟩⟩⟩), wd_t ht hW⟩, hS.F ht⟩) hS.2.2 dX12_isRule_11

set_option maxHeartbeats 4000000 in
set_option maxRecDepth 100000 in
theorem n_areRules (l : Launch) (D : va_G) (k : KT) (A : Nat → Prop) (a : Nat → Nat) (z : SK) (G : GS) (p0 : Int32)  : Met l yX12_areRules (WS yX12_areRules cX12_areRules 2 (some .boolean)) ({ frames := 1, cells := 0, slots := 0, locals := 22 }) (va_Pc [.ref (a 66), .int p0] (cW D k A a z G)) (va_Qi (fun (r : Int32) (G1 : GS) => Q_areRules p0 G r G1) (fun (G1 : GS) t => Wd D k A a G1 t.heap) A) 0 0 A := by
  refine Met.ofW (cc := cX12_areRules) (maxL := 2) (ret := (some .boolean)) (by decide) rfl ?_
  intro p e s m args below meth c s₁ B hml hv
  obtain ⟨rfl, hW, hB_G, hK, hZ⟩ := hv
  have hx := B.exec
  have hb := B.bytes
  have hr := B.returns
  have hts := atoms_spec (ws := WS yX12_areRules cX12_areRules 2 (some .boolean)) B.pre
  have hgd : ∀ w ∈ gd, w ∈ WS yX12_areRules cX12_areRules 2 (some .boolean) := fun w h => List.mem_cons_of_mem _ h
  have hg : ∀ w ∈ gd, w.before _ s = true := fun w h => hts w (hgd w h)
  have hown : s.vm.findClass RX12 = some m.cls := findClass_of_methodNamed B.named
  have hS : va_S A s.heap s.heap [] := va_S.rf
  have hF : Fr [] [] G G := Fr.rf
  have hl := lv_entry ([.ref (a 66), .int p0]) (n := 2) (Nat.le_of_ble_eq_true rfl)
  rw [lg_entry_eq]
  generalize (lg_sl ([.ref (a 66), .int p0]) ++ List.replicate (2 - (lg_sl ([.ref (a 66), .int p0])).length) Slot.unset).toArray = ls at hl ⊢
  have hl : lv_has ls 2 [(0, .ref (a 66)), (1, .int p0)] := hl
  refine lv_iload_n hx hb dX12_areRules_0 rfl (lv_at hl 1 rfl) ?_
  refine ic_0 hx hb dX12_areRules_1 ?_
  refine ic_1 hx hb dX12_areRules_2 ?_
  refine lv_aload_n hx hb dX12_areRules_3 rfl (lv_at hl 0 rfl) ?_
  have b_1 : 0 ≤ (G.1 66 54).toInt ∧ (G.1 66 54).toInt ≤ 6 := bd_66_54 hB_G
  refine S_getI (v := (G.1 66 54)) (C := RX12) (T := TX12) (N := 89) hx hb hg iX12 hown hK hW kd_66 rfl 54 (lt_b rfl) (hg (Cond.fieldLink RX12 431 "SlabWalkModel" "rules" "I") m1368) (fun _ h9 => h9) rfl rfl dX12_areRules_4 ?_
  refine lv_ishl hx hb dX12_areRules_7 ?_
  refine lv_topi (fun y_2 ey_2 => ?_)
  have ty_2 := sh6 (Y := (G.1 66 54).toInt) rfl ey_2 rfl (by omega) (by omega)
  refine ic_1 hx hb dX12_areRules_8 ?_
  refine lv_isub hx hb dX12_areRules_9 ?_
  refine lv_topi (fun y_3 ey_3 => ?_)
  have ty_3 : y_3.toInt = y_2.toInt - 1 := xI_sub rfl rfl ey_3 ((by first | exact ok_275 ty_2.1 | omega)) ((by first | exact ok_462 ty_2.2 | omega))
  have qc_4 : (0 : Int32).toInt = 0 := rfl
  refine S_calli (va_runS (As := [.int p0, .int 0, .int y_3]) (rest := []) ⟨hx, hb, hml, hown, hts⟩ (n_isIn l D k A a z G p0 0 y_3 ) (va_cwS 3 hts (gd_S hgd m1781 m1782 m131 m1783) rfl rfl rfl hd_X12_isIn.2 ⟨Nat.le_of_ble_eq_true rfl, Nat.le_of_ble_eq_true rfl⟩) (pre_S hW hB_G hK hZ hS) rfl rfl hl.1 rfl (lv_room (Nat.le_of_ble_eq_true rfl)) dX12_areRules_10 ⟨Nat.le_of_ble_eq_true rfl, Nat.le_of_ble_eq_true rfl⟩) hS (fun r_5 G_6 H locs hpo hW hS => ?_)
  have hX_9 : Q_isIn p0 0 y_3 G r_5 G_6 := hpo
  obtain ⟨hB_G_6, hq_7, f_10, ⟨d_1, d_2⟩, -⟩ := hpo
  have hF := hF.call9 hq_7 rfl rfl
  exact W.zret (v := r_5) hx hb hr (nar_z ((by first | exact f_10.1 | omega)) ((by first | exact f_10.2 | omega))) (fun t ht _ => ⟨⟨r_5, G_6, rfl, (Q_areRules_mk ⟨hB_G_6, hF, ⟨(by first | exact f_10.1 | omega), (by first | exact f_10.2 | omega)⟩, ((by first | exact (fun h9 => ⟨(by first | exact ok_638 qc_4 f_10.2 d_1 h9 | omega), (by first | exact ok_645 ty_2.2 ty_3 f_10.2 d_1 h9 | omega)⟩) | omega)), ⟨y_2, ey_2, ⟨y_3, ty_3, ⟨r_5, G_6, hX_9, ⟨rfl, rfl⟩⟩⟩⟩⟩), wd_t ht hW⟩, hS.F ht⟩) hS.2.2 dX12_areRules_13

set_option maxHeartbeats 4000000 in
set_option maxRecDepth 100000 in
theorem n_isInch (l : Launch) (D : va_G) (k : KT) (A : Nat → Prop) (a : Nat → Nat) (z : SK) (G : GS) (p0 : Int32) (p1 : Int32) (ha_p0 : 0 ≤ p0.toInt ∧ p0.toInt ≤ 2) : Met l yX12_isInch (WS yX12_isInch cX12_isInch 3 (some .boolean)) ({ frames := 1, cells := 0, slots := 0, locals := 22 }) (va_Pc [.ref (a 66), .int p0, .int p1] (cW D k A a z G)) (va_Qi (fun (r : Int32) (G1 : GS) => Q_isInch p0 p1 G r G1) (fun (G1 : GS) t => Wd D k A a G1 t.heap) A) 0 0 A := by
  refine Met.ofW (cc := cX12_isInch) (maxL := 3) (ret := (some .boolean)) (by decide) rfl ?_
  intro p e s m args below meth c s₁ B hml hv
  obtain ⟨rfl, hW, hB_G, hK, hZ⟩ := hv
  have hx := B.exec
  have hb := B.bytes
  have hr := B.returns
  have hts := atoms_spec (ws := WS yX12_isInch cX12_isInch 3 (some .boolean)) B.pre
  have hgd : ∀ w ∈ gd, w ∈ WS yX12_isInch cX12_isInch 3 (some .boolean) := fun w h => List.mem_cons_of_mem _ h
  have hg : ∀ w ∈ gd, w.before _ s = true := fun w h => hts w (hgd w h)
  have hown : s.vm.findClass RX12 = some m.cls := findClass_of_methodNamed B.named
  have hS : va_S A s.heap s.heap [] := va_S.rf
  have hF : Fr [] [] G G := Fr.rf
  have hl := lv_entry ([.ref (a 66), .int p0, .int p1]) (n := 3) (Nat.le_of_ble_eq_true rfl)
  rw [lg_entry_eq]
  generalize (lg_sl ([.ref (a 66), .int p0, .int p1]) ++ List.replicate (3 - (lg_sl ([.ref (a 66), .int p0, .int p1])).length) Slot.unset).toArray = ls at hl ⊢
  have hl : lv_has ls 3 [(0, .ref (a 66)), (1, .int p0), (2, .int p1)] := hl
  refine lv_iload_n hx hb dX12_isInch_0 rfl (lv_at hl 2 rfl) ?_
  refine ic_0 hx hb dX12_isInch_1 ?_
  refine lv_aload_n hx hb dX12_isInch_2 rfl (lv_at hl 0 rfl) ?_
  refine S_getR (n := 91) (C := RX12) (T := TX12) (N := 89) hx hb hg iX12 hown hK hW kd_66 rfl 39 (lt_b rfl) (hg (Cond.fieldLink RX12 87 "SlabWalkModel" "lengths" "[I") m1353) (fun _ h9 => h9) rfl dX12_isInch_3 ?_
  refine lv_iload_n hx hb dX12_isInch_6 rfl (lv_at hl 1 rfl) ?_
  refine S_iald hx hb hK hW kd_91 (vin ((by first | exact ha_p0.1 | omega)) ((by first | exact ok_174 ha_p0.2 | omega))) dX12_isInch_7 (fun y_1 ey_1 => ?_)
  have ty_1 : 0 ≤ y_1.toInt ∧ y_1.toInt ≤ 400 := bv_91 hB_G ey_1
  refine ic_1 hx hb dX12_isInch_8 ?_
  refine lv_isub hx hb dX12_isInch_9 ?_
  refine lv_topi (fun y_2 ey_2 => ?_)
  have ty_2 : y_2.toInt = y_1.toInt - 1 := xI_sub rfl rfl ey_2 ((by first | exact ok_56 ty_1.1 | omega)) ((by first | exact ok_57 ty_1.2 | omega))
  have qc_3 : (0 : Int32).toInt = 0 := rfl
  refine S_calli (va_runS (As := [.int p1, .int 0, .int y_2]) (rest := []) ⟨hx, hb, hml, hown, hts⟩ (n_isIn l D k A a z G p1 0 y_2 ) (va_cwS 3 hts (gd_S hgd m1781 m1782 m131 m1783) rfl rfl rfl hd_X12_isIn.2 ⟨Nat.le_of_ble_eq_true rfl, Nat.le_of_ble_eq_true rfl⟩) (pre_S hW hB_G hK hZ hS) rfl rfl hl.1 rfl (lv_room (Nat.le_of_ble_eq_true rfl)) dX12_isInch_10 ⟨Nat.le_of_ble_eq_true rfl, Nat.le_of_ble_eq_true rfl⟩) hS (fun r_4 G_5 H locs hpo hW hS => ?_)
  have hX_8 : Q_isIn p1 0 y_2 G r_4 G_5 := hpo
  obtain ⟨hB_G_5, hq_6, f_9, ⟨d_1, d_2⟩, -⟩ := hpo
  have hF := hF.call9 hq_6 rfl rfl
  exact W.zret (v := r_4) hx hb hr (nar_z ((by first | exact f_9.1 | omega)) ((by first | exact f_9.2 | omega))) (fun t ht _ => ⟨⟨r_4, G_5, rfl, (Q_isInch_mk ⟨hB_G_5, hF, ⟨(by first | exact f_9.1 | omega), (by first | exact f_9.2 | omega)⟩, ((by first | exact (fun h9 => ⟨(by first | exact ok_638 qc_3 f_9.2 d_1 h9 | omega), (by first | exact ok_646 ty_1.2 ty_2 f_9.2 d_1 h9 | omega)⟩) | omega)), ⟨y_1, ey_1, ⟨y_2, ty_2, ⟨r_4, G_5, hX_8, ⟨rfl, rfl⟩⟩⟩⟩⟩), wd_t ht hW⟩, hS.F ht⟩) hS.2.2 dX12_isInch_13

set_option maxHeartbeats 4000000 in
set_option maxRecDepth 100000 in
theorem n_fault (l : Launch) (D : va_G) (k : KT) (A : Nat → Prop) (a : Nat → Nat) (z : SK) (G : GS) (p0 : Int32)  : Met l yX12_fault (WS yX12_fault cX12_fault 2 (some .int)) ({ frames := 0, cells := 0, slots := 0, locals := 0 }) (va_Pc [.ref (a 66), .int p0] (cW D k A a z G)) (va_Qi (fun (r : Int32) (G1 : GS) => Q_fault p0 G r G1) (fun (G1 : GS) t => Wd D k A a G1 t.heap) A) 0 0 A := by
  refine Met.ofW (cc := cX12_fault) (maxL := 2) (ret := (some .int)) (by decide) rfl ?_
  intro p e s m args below meth c s₁ B hml hv
  obtain ⟨rfl, hW, hB_G, hK, hZ⟩ := hv
  have hx := B.exec
  have hb := B.bytes
  have hr := B.returns
  have hts := atoms_spec (ws := WS yX12_fault cX12_fault 2 (some .int)) B.pre
  have hgd : ∀ w ∈ gd, w ∈ WS yX12_fault cX12_fault 2 (some .int) := fun w h => List.mem_cons_of_mem _ h
  have hg : ∀ w ∈ gd, w.before _ s = true := fun w h => hts w (hgd w h)
  have hown : s.vm.findClass RX12 = some m.cls := findClass_of_methodNamed B.named
  have hS : va_S A s.heap s.heap [] := va_S.rf
  have hF : Fr [] [] G G := Fr.rf
  have hl := lv_entry ([.ref (a 66), .int p0]) (n := 2) (Nat.le_of_ble_eq_true rfl)
  rw [lg_entry_eq]
  generalize (lg_sl ([.ref (a 66), .int p0]) ++ List.replicate (2 - (lg_sl ([.ref (a 66), .int p0])).length) Slot.unset).toArray = ls at hl ⊢
  have hl : lv_has ls 2 [(0, .ref (a 66)), (1, .int p0)] := hl
  refine lv_iload_n hx hb dX12_fault_0 rfl (lv_at hl 1 rfl) ?_
  refine lv_if_ne (tgt := 11) hx hb dX12_fault_1 rfl (fun c_1 => ?_) (fun c_1 => ?_)
  · have c_1 : p0.toInt ≠ 0 := xI_ne rfl rfl c_1
    refine lv_iload_n hx hb dX12_fault_11 rfl (lv_at hl 1 rfl) ?_
    refine ic_1 hx hb dX12_fault_12 ?_
    refine lv_icmp_ne (tgt := 23) hx hb dX12_fault_13 rfl (fun c_2 => ?_) (fun c_2 => ?_)
    · have c_2 : p0.toInt ≠ 1 := xI_ne rfl rfl c_2
      refine ic_m1 hx hb dX12_fault_23 ?_
      exact W.iret (v := (-1)) hx hb hr (fun t ht _ => ⟨⟨(-1), G, rfl, (Q_fault_mk ⟨hB_G, hF, (Or.inr ⟨c_1, (Or.inr ⟨c_2, ⟨rfl, rfl⟩⟩)⟩)⟩), wd_t ht hW⟩, hS.F ht⟩) hS.2.2 dX12_fault_24
    · have c_2 : p0.toInt = 1 := xI_eq rfl rfl c_2
      refine lv_aload_n hx hb dX12_fault_16 rfl (lv_at hl 0 rfl) ?_
      have b_3 : (-1) ≤ (G.1 66 3).toInt ∧ (G.1 66 3).toInt ≤ 1600 := bd_66_3 hB_G
      refine S_getI (v := (G.1 66 3)) (C := RX12) (T := TX12) (N := 89) hx hb hg iX12 hown hK hW kd_66 rfl 3 (lt_b rfl) (hg (Cond.fieldLink RX12 13 "SlabWalkModel" "faultPlace" "I") m1317) (fun _ h9 => h9) rfl rfl dX12_fault_17 ?_
      refine lv_goto (tgt := 24) hx hb dX12_fault_20 rfl ?_
      exact W.iret (v := (G.1 66 3)) hx hb hr (fun t ht _ => ⟨⟨(G.1 66 3), G, rfl, (Q_fault_mk ⟨hB_G, hF, (Or.inr ⟨c_1, (Or.inl ⟨c_2, ⟨rfl, rfl⟩⟩)⟩)⟩), wd_t ht hW⟩, hS.F ht⟩) hS.2.2 dX12_fault_24
  · have c_1 : p0.toInt = 0 := xI_eq rfl rfl c_1
    refine lv_aload_n hx hb dX12_fault_4 rfl (lv_at hl 0 rfl) ?_
    have b_4 : 0 ≤ (G.1 66 2).toInt ∧ (G.1 66 2).toInt ≤ 4 := bd_66_2 hB_G
    refine S_getI (v := (G.1 66 2)) (C := RX12) (T := TX12) (N := 89) hx hb hg iX12 hown hK hW kd_66 rfl 2 (lt_b rfl) (hg (Cond.fieldLink RX12 218 "SlabWalkModel" "fault" "I") m1316) (fun _ h9 => h9) rfl rfl dX12_fault_5 ?_
    refine lv_goto (tgt := 24) hx hb dX12_fault_8 rfl ?_
    exact W.iret (v := (G.1 66 2)) hx hb hr (fun t ht _ => ⟨⟨(G.1 66 2), G, rfl, (Q_fault_mk ⟨hB_G, hF, (Or.inl ⟨c_1, ⟨rfl, rfl⟩⟩)⟩), wd_t ht hW⟩, hS.F ht⟩) hS.2.2 dX12_fault_24

set_option maxHeartbeats 4000000 in
set_option maxRecDepth 100000 in
theorem n_length (l : Launch) (D : va_G) (k : KT) (A : Nat → Prop) (a : Nat → Nat) (z : SK) (G : GS) (p0 : Int32)  : Met l yX12_length (WS yX12_length cX12_length 2 (some .int)) ({ frames := 2, cells := 0, slots := 0, locals := 43 }) (va_Pc [.ref (a 66), .int p0] (cW D k A a z G)) (va_Qi (fun (r : Int32) (G1 : GS) => Q_length p0 G r G1) (fun (G1 : GS) t => Wd D k A a G1 t.heap) A) 0 0 A := by
  refine Met.ofW (cc := cX12_length) (maxL := 2) (ret := (some .int)) (by decide) rfl ?_
  intro p e s m args below meth c s₁ B hml hv
  obtain ⟨rfl, hW, hB_G, hK, hZ⟩ := hv
  have hx := B.exec
  have hb := B.bytes
  have hr := B.returns
  have hts := atoms_spec (ws := WS yX12_length cX12_length 2 (some .int)) B.pre
  have hgd : ∀ w ∈ gd, w ∈ WS yX12_length cX12_length 2 (some .int) := fun w h => List.mem_cons_of_mem _ h
  have hg : ∀ w ∈ gd, w.before _ s = true := fun w h => hts w (hgd w h)
  have hown : s.vm.findClass RX12 = some m.cls := findClass_of_methodNamed B.named
  have hS : va_S A s.heap s.heap [] := va_S.rf
  have hF : Fr [] [] G G := Fr.rf
  have hl := lv_entry ([.ref (a 66), .int p0]) (n := 2) (Nat.le_of_ble_eq_true rfl)
  rw [lg_entry_eq]
  generalize (lg_sl ([.ref (a 66), .int p0]) ++ List.replicate (2 - (lg_sl ([.ref (a 66), .int p0])).length) Slot.unset).toArray = ls at hl ⊢
  have hl : lv_has ls 2 [(0, .ref (a 66)), (1, .int p0)] := hl
  refine lv_aload_n hx hb dX12_length_0 rfl (lv_at hl 0 rfl) ?_
  refine lv_iload_n hx hb dX12_length_1 rfl (lv_at hl 1 rfl) ?_
  refine S_calli (va_runV (As := [.int p0]) (rest := []) ⟨hx, hb, hml, hown, hts⟩ (n_isStreet l D k A a z G p0 ) (cwV 1 hts (gd_V hgd m1777 m1779 m83 m131 m1780) rfl rfl rfl hd_X12_isStreet ⟨Nat.le_of_ble_eq_true rfl, Nat.le_of_ble_eq_true rfl⟩) (pre_W hW hB_G hK hZ hS kd_66 rfl) rfl rfl hl.1 rfl (lv_room (Nat.le_of_ble_eq_true rfl)) dX12_length_2 ⟨Nat.le_of_ble_eq_true rfl, Nat.le_of_ble_eq_true rfl⟩) hS (fun r_1 G_2 H locs hpo hW hS => ?_)
  have hX_5 : Q_isStreet p0 G r_1 G_2 := hpo
  obtain ⟨hB_G_2, hq_3, f_6, hp_4, -⟩ := hpo
  have hF := hF.call9 hq_3 rfl rfl
  refine lv_if_eq (tgt := 17) hx hb dX12_length_5 rfl (fun c_7 => ?_) (fun c_7 => ?_)
  · have c_7 : r_1.toInt = 0 := xI_eq rfl rfl c_7
    refine ic_m1 hx hb dX12_length_17 ?_
    exact W.iret (v := (-1)) hx hb hr (fun t ht _ => ⟨⟨(-1), G_2, rfl, (Q_length_mk ⟨hB_G_2, hF, ⟨r_1, G_2, hX_5, (Or.inl ⟨c_7, ⟨rfl, rfl⟩⟩)⟩⟩), wd_t ht hW⟩, hS.F ht⟩) hS.2.2 dX12_length_18
  · have c_7 : r_1.toInt ≠ 0 := xI_ne rfl rfl c_7
    refine lv_aload_n hx hb dX12_length_8 rfl (lv_at hl 0 rfl) ?_
    refine S_getR (n := 91) (C := RX12) (T := TX12) (N := 89) hx hb hg iX12 hown hK hW kd_66 rfl 39 (lt_b rfl) (hg (Cond.fieldLink RX12 87 "SlabWalkModel" "lengths" "[I") m1353) (fun _ h9 => h9) rfl dX12_length_9 ?_
    refine lv_iload_n hx hb dX12_length_12 rfl (lv_at hl 1 rfl) ?_
    refine S_iald hx hb hK hW kd_91 (vin ((by first | exact ok_647 f_6.1 f_6.2 hp_4 c_7 | omega)) ((by first | exact ok_648 f_6.1 f_6.2 hp_4 c_7 | omega))) dX12_length_13 (fun y_8 ey_8 => ?_)
    have ty_8 : 0 ≤ y_8.toInt ∧ y_8.toInt ≤ 400 := bv_91 hB_G_2 ey_8
    refine lv_goto (tgt := 18) hx hb dX12_length_14 rfl ?_
    exact W.iret (v := y_8) hx hb hr (fun t ht _ => ⟨⟨y_8, G_2, rfl, (Q_length_mk ⟨hB_G_2, hF, ⟨r_1, G_2, hX_5, (Or.inr ⟨c_7, ⟨y_8, ey_8, ⟨rfl, rfl⟩⟩⟩)⟩⟩), wd_t ht hW⟩, hS.F ht⟩) hS.2.2 dX12_length_18

set_option maxHeartbeats 4000000 in
set_option maxRecDepth 100000 in
theorem n_inch (l : Launch) (D : va_G) (k : KT) (A : Nat → Prop) (a : Nat → Nat) (z : SK) (G : GS) (p0 : Int32) (p1 : Int32) (p2 : Int32)  : Met l yX12_inch (WS yX12_inch cX12_inch 5 (some .int)) ({ frames := 2, cells := 0, slots := 0, locals := 44 }) (va_Pc [.ref (a 66), .int p0, .int p1, .int p2] (cW D k A a z G)) (va_Qi (fun (r : Int32) (G1 : GS) => Q_inch p0 p1 p2 G r G1) (fun (G1 : GS) t => Wd D k A a G1 t.heap) A) 0 0 A := by
  refine Met.ofW (cc := cX12_inch) (maxL := 5) (ret := (some .int)) (by decide) rfl ?_
  intro p e s m args below meth c s₁ B hml hv
  obtain ⟨rfl, hW, hB_G, hK, hZ⟩ := hv
  have hx := B.exec
  have hb := B.bytes
  have hr := B.returns
  have hts := atoms_spec (ws := WS yX12_inch cX12_inch 5 (some .int)) B.pre
  have hgd : ∀ w ∈ gd, w ∈ WS yX12_inch cX12_inch 5 (some .int) := fun w h => List.mem_cons_of_mem _ h
  have hg : ∀ w ∈ gd, w.before _ s = true := fun w h => hts w (hgd w h)
  have hown : s.vm.findClass RX12 = some m.cls := findClass_of_methodNamed B.named
  have hS : va_S A s.heap s.heap [] := va_S.rf
  have hF : Fr [] [] G G := Fr.rf
  have hl := lv_entry ([.ref (a 66), .int p0, .int p1, .int p2]) (n := 5) (Nat.le_of_ble_eq_true rfl)
  rw [lg_entry_eq]
  generalize (lg_sl ([.ref (a 66), .int p0, .int p1, .int p2]) ++ List.replicate (5 - (lg_sl ([.ref (a 66), .int p0, .int p1, .int p2])).length) Slot.unset).toArray = ls at hl ⊢
  have hl : lv_has ls 5 [(0, .ref (a 66)), (1, .int p0), (2, .int p1), (3, .int p2)] := hl
  refine lv_aload_n hx hb dX12_inch_0 rfl (lv_at hl 0 rfl) ?_
  refine lv_iload_n hx hb dX12_inch_1 rfl (lv_at hl 1 rfl) ?_
  refine S_calli (va_runV (As := [.int p0]) (rest := []) ⟨hx, hb, hml, hown, hts⟩ (n_isStreet l D k A a z G p0 ) (cwV 1 hts (gd_V hgd m1777 m1779 m83 m131 m1780) rfl rfl rfl hd_X12_isStreet ⟨Nat.le_of_ble_eq_true rfl, Nat.le_of_ble_eq_true rfl⟩) (pre_W hW hB_G hK hZ hS kd_66 rfl) rfl rfl hl.1 rfl (lv_room (Nat.le_of_ble_eq_true rfl)) dX12_inch_2 ⟨Nat.le_of_ble_eq_true rfl, Nat.le_of_ble_eq_true rfl⟩) hS (fun r_1 G_2 H locs hpo hW hS => ?_)
  have hX_5 : Q_isStreet p0 G r_1 G_2 := hpo
  obtain ⟨hB_G_2, hq_3, f_6, hp_4, -⟩ := hpo
  have hF := hF.call9 hq_3 rfl rfl
  refine lv_if_eq (tgt := 17) hx hb dX12_inch_5 rfl (fun c_7 => ?_) (fun c_7 => ?_)
  · have c_7 : r_1.toInt = 0 := xI_eq rfl rfl c_7
    refine ic_m1 hx hb dX12_inch_17 ?_
    exact W.iret (v := (-1)) hx hb hr (fun t ht _ => ⟨⟨(-1), G_2, rfl, (Q_inch_mk ⟨hB_G_2, hF, ⟨r_1, G_2, hX_5, (Or.inl ⟨c_7, ⟨rfl, rfl⟩⟩)⟩⟩), wd_t ht hW⟩, hS.F ht⟩) hS.2.2 dX12_inch_18
  · have c_7 : r_1.toInt ≠ 0 := xI_ne rfl rfl c_7
    refine lv_aload_n hx hb dX12_inch_8 rfl (lv_at hl 0 rfl) ?_
    refine lv_iload_n hx hb dX12_inch_9 rfl (lv_at hl 1 rfl) ?_
    refine lv_iload_n hx hb dX12_inch_10 rfl (lv_at hl 2 rfl) ?_
    refine S_calli (va_runV (As := [.int p0, .int p1]) (rest := []) ⟨hx, hb, hml, hown, hts⟩ (n_isInch l D k A a z G_2 p0 p1 ⟨(by first | exact ok_647 f_6.1 f_6.2 hp_4 c_7 | omega), (by first | exact ok_649 f_6.1 f_6.2 hp_4 c_7 | omega)⟩) (cwV 2 hts (gd_V hgd m1784 m1786 m84 m131 m1787) rfl rfl rfl hd_X12_isInch ⟨Nat.le_of_ble_eq_true rfl, Nat.le_of_ble_eq_true rfl⟩) (pre_W hW hB_G_2 hK hZ hS kd_66 rfl) rfl rfl hl.1 rfl (lv_room (Nat.le_of_ble_eq_true rfl)) dX12_inch_11 ⟨Nat.le_of_ble_eq_true rfl, Nat.le_of_ble_eq_true rfl⟩) hS (fun r_8 G_9 H locs hpo hW hS => ?_)
    have hX_12 : Q_isInch p0 p1 G_2 r_8 G_9 := hpo
    obtain ⟨hB_G_9, hq_10, f_13, hp_11, -⟩ := hpo
    have hF := hF.call9 hq_10 rfl rfl
    refine lv_if_ne (tgt := 19) hx hb dX12_inch_14 rfl (fun c_14 => ?_) (fun c_14 => ?_)
    · have c_14 : r_8.toInt ≠ 0 := xI_ne rfl rfl c_14
      refine lv_sipush (v := 400) hx hb dX12_inch_19 (by decide) ?_
      refine lv_iload_n hx hb dX12_inch_22 rfl (lv_at hl 1 rfl) ?_
      refine lv_imul hx hb dX12_inch_23 ?_
      refine lv_topi (fun y_15 ey_15 => ?_)
      have ty_15 : y_15.toInt = 400 * p0.toInt := xI_mul rfl rfl ey_15 ((by first | exact ok_650 f_6.1 f_6.2 hp_4 c_7 | omega)) ((by first | exact ok_651 f_6.1 f_6.2 hp_4 c_7 | omega))
      refine lv_iload_n hx hb dX12_inch_24 rfl (lv_at hl 2 rfl) ?_
      refine lv_iadd hx hb dX12_inch_25 ?_
      refine lv_topi (fun y_16 ey_16 => ?_)
      have ty_16 : y_16.toInt = y_15.toInt + p1.toInt := xI_add rfl rfl ey_16 ((by first | exact ok_652 f_6.1 f_6.2 hp_4 c_7 f_13.1 f_13.2 hp_11 c_14 ty_15 | omega)) ((by first | exact ok_653 f_6.1 f_6.2 hp_4 c_7 f_13.1 f_13.2 hp_11 c_14 ty_15 | omega))
      refine lv_istore (lv' := [(4, .int y_16), (0, .ref (a 66)), (1, .int p0), (2, .int p1), (3, .int p2)]) hx hb dX12_inch_26 hl (lt_b rfl) rfl (fun ls hl => ?_)
      refine lv_iload_n hx hb dX12_inch_28 rfl (lv_at hl 4 rfl) ?_
      by_cases c_17 : p2 = 0
      · refine lv_tableIn (tgt := 64) hx hb dX12_inch_29 (by rw [c_17]; decide) (by rw [c_17]; decide) (off := 35) (by rw [c_17]; decide) (by decide) ?_
        have c_17 : p2.toInt = 0 := xI_eq rfl rfl c_17
        refine lv_aload_n hx hb dX12_inch_64 rfl (lv_at hl 1 rfl) ?_
        refine S_getR (n := 87) (C := RX12) (T := TX12) (N := 89) hx hb hg iX12 hown hK hW kd_66 rfl 35 (lt_b rfl) (hg (Cond.fieldLink RX12 75 "SlabWalkModel" "marks" "[I") m1349) (fun _ h9 => h9) rfl dX12_inch_65 ?_
        refine lv_iload hx hb dX12_inch_68 (lv_at hl 0 rfl) ?_
        refine S_iald hx hb hK hW kd_87 (vin ((by first | exact ok_654 f_6.1 f_6.2 hp_4 c_7 f_13.1 f_13.2 hp_11 c_14 ty_15 ty_16 | omega)) ((by first | exact ok_655 f_6.1 f_6.2 hp_4 c_7 f_13.1 f_13.2 hp_11 c_14 ty_15 ty_16 | omega))) dX12_inch_70 (fun y_18 ey_18 => ?_)
        refine lv_if_ge (tgt := 78) hx hb dX12_inch_71 rfl (fun c_19 => ?_) (fun c_19 => ?_)
        · have c_19 : 0 ≤ y_18.toInt := xI_le rfl rfl c_19
          refine ic_0 hx hb dX12_inch_78 ?_
          have qc_20 : (0 : Int32).toInt = 0 := rfl
          refine S_calli (va_runS (As := [.int 0]) (rest := []) ⟨hx, hb, hml, hown, hts⟩ (n_truth l D k A a z G_9 0 ⟨by decide, by decide⟩) (va_cwS 1 hts (gd_S hgd m1788 m1789 m131 m1790) rfl rfl rfl hd_X12_truth.2 ⟨Nat.le_of_ble_eq_true rfl, Nat.le_of_ble_eq_true rfl⟩) (pre_S hW hB_G_9 hK hZ hS) rfl rfl hl.1 rfl (lv_room (Nat.le_of_ble_eq_true rfl)) dX12_inch_79 ⟨Nat.le_of_ble_eq_true rfl, Nat.le_of_ble_eq_true rfl⟩) hS (fun r_21 G_22 H locs hpo hW hS => ?_)
          have hX_25 : Q_truth 0 G_9 r_21 G_22 := hpo
          obtain ⟨hB_G_22, hq_23, f_26, hp_24, -⟩ := hpo
          have hF := hF.call9 hq_23 rfl rfl
          exact W.iret (v := r_21) hx hb hr (fun t ht _ => ⟨⟨r_21, G_22, rfl, (Q_inch_mk ⟨hB_G_22, hF, ⟨r_1, G_2, hX_5, (Or.inr ⟨c_7, ⟨r_8, G_9, hX_12, (Or.inr ⟨c_14, ⟨y_15, ty_15, ⟨y_16, ty_16, (Or.inl ⟨c_17, ⟨y_18, ey_18, (Or.inl ⟨c_19, ⟨r_21, G_22, hX_25, ⟨rfl, rfl⟩⟩⟩)⟩⟩)⟩⟩⟩)⟩⟩)⟩⟩), wd_t ht hW⟩, hS.F ht⟩) hS.2.2 dX12_inch_82
        · have c_19 : y_18.toInt < 0 := xI_nle rfl rfl c_19
          refine ic_1 hx hb dX12_inch_74 ?_
          refine lv_goto (tgt := 79) hx hb dX12_inch_75 rfl ?_
          have qc_27 : (1 : Int32).toInt = 1 := rfl
          refine S_calli (va_runS (As := [.int 1]) (rest := []) ⟨hx, hb, hml, hown, hts⟩ (n_truth l D k A a z G_9 1 ⟨by decide, by decide⟩) (va_cwS 1 hts (gd_S hgd m1788 m1789 m131 m1790) rfl rfl rfl hd_X12_truth.2 ⟨Nat.le_of_ble_eq_true rfl, Nat.le_of_ble_eq_true rfl⟩) (pre_S hW hB_G_9 hK hZ hS) rfl rfl hl.1 rfl (lv_room (Nat.le_of_ble_eq_true rfl)) dX12_inch_79 ⟨Nat.le_of_ble_eq_true rfl, Nat.le_of_ble_eq_true rfl⟩) hS (fun r_28 G_29 H locs hpo hW hS => ?_)
          have hX_32 : Q_truth 1 G_9 r_28 G_29 := hpo
          obtain ⟨hB_G_29, hq_30, f_33, hp_31, -⟩ := hpo
          have hF := hF.call9 hq_30 rfl rfl
          exact W.iret (v := r_28) hx hb hr (fun t ht _ => ⟨⟨r_28, G_29, rfl, (Q_inch_mk ⟨hB_G_29, hF, ⟨r_1, G_2, hX_5, (Or.inr ⟨c_7, ⟨r_8, G_9, hX_12, (Or.inr ⟨c_14, ⟨y_15, ty_15, ⟨y_16, ty_16, (Or.inl ⟨c_17, ⟨y_18, ey_18, (Or.inr ⟨c_19, ⟨r_28, G_29, hX_32, ⟨rfl, rfl⟩⟩⟩)⟩⟩)⟩⟩⟩)⟩⟩)⟩⟩), wd_t ht hW⟩, hS.F ht⟩) hS.2.2 dX12_inch_82
      by_cases c_34 : p2 = 1
      · refine lv_tableIn (tgt := 83) hx hb dX12_inch_29 (by rw [c_34]; decide) (by rw [c_34]; decide) (off := 54) (by rw [c_34]; decide) (by decide) ?_
        have c_34 : p2.toInt = 1 := xI_eq rfl rfl c_34
        refine lv_aload_n hx hb dX12_inch_83 rfl (lv_at hl 1 rfl) ?_
        refine S_getR (n := 88) (C := RX12) (T := TX12) (N := 89) hx hb hg iX12 hown hK hW kd_66 rfl 36 (lt_b rfl) (hg (Cond.fieldLink RX12 78 "SlabWalkModel" "nths" "[I") m1350) (fun _ h9 => h9) rfl dX12_inch_84 ?_
        refine lv_iload hx hb dX12_inch_87 (lv_at hl 0 rfl) ?_
        refine S_iald hx hb hK hW kd_88 (vin ((by first | exact ok_654 f_6.1 f_6.2 hp_4 c_7 f_13.1 f_13.2 hp_11 c_14 ty_15 ty_16 | omega)) ((by first | exact ok_655 f_6.1 f_6.2 hp_4 c_7 f_13.1 f_13.2 hp_11 c_14 ty_15 ty_16 | omega))) dX12_inch_89 (fun y_35 ey_35 => ?_)
        exact W.iret (v := y_35) hx hb hr (fun t ht _ => ⟨⟨y_35, G_9, rfl, (Q_inch_mk ⟨hB_G_9, hF, ⟨r_1, G_2, hX_5, (Or.inr ⟨c_7, ⟨r_8, G_9, hX_12, (Or.inr ⟨c_14, ⟨y_15, ty_15, ⟨y_16, ty_16, (Or.inr ⟨(xI_ne (Y := 0) rfl rfl c_17), (Or.inl ⟨c_34, ⟨y_35, ey_35, ⟨rfl, rfl⟩⟩⟩)⟩)⟩⟩⟩)⟩⟩)⟩⟩), wd_t ht hW⟩, hS.F ht⟩) hS.2.2 dX12_inch_90
      by_cases c_36 : p2 = 2
      · refine lv_tableIn (tgt := 91) hx hb dX12_inch_29 (by rw [c_36]; decide) (by rw [c_36]; decide) (off := 62) (by rw [c_36]; decide) (by decide) ?_
        have c_36 : p2.toInt = 2 := xI_eq rfl rfl c_36
        refine lv_aload_n hx hb dX12_inch_91 rfl (lv_at hl 1 rfl) ?_
        refine S_getR (n := 89) (C := RX12) (T := TX12) (N := 89) hx hb hg iX12 hown hK hW kd_66 rfl 37 (lt_b rfl) (hg (Cond.fieldLink RX12 81 "SlabWalkModel" "inches" "[I") m1351) (fun _ h9 => h9) rfl dX12_inch_92 ?_
        refine lv_iload hx hb dX12_inch_95 (lv_at hl 0 rfl) ?_
        refine S_iald hx hb hK hW kd_89 (vin ((by first | exact ok_654 f_6.1 f_6.2 hp_4 c_7 f_13.1 f_13.2 hp_11 c_14 ty_15 ty_16 | omega)) ((by first | exact ok_655 f_6.1 f_6.2 hp_4 c_7 f_13.1 f_13.2 hp_11 c_14 ty_15 ty_16 | omega))) dX12_inch_97 (fun y_37 ey_37 => ?_)
        exact W.iret (v := y_37) hx hb hr (fun t ht _ => ⟨⟨y_37, G_9, rfl, (Q_inch_mk ⟨hB_G_9, hF, ⟨r_1, G_2, hX_5, (Or.inr ⟨c_7, ⟨r_8, G_9, hX_12, (Or.inr ⟨c_14, ⟨y_15, ty_15, ⟨y_16, ty_16, (Or.inr ⟨(xI_ne (Y := 0) rfl rfl c_17), (Or.inr ⟨(xI_ne (Y := 1) rfl rfl c_34), (Or.inl ⟨c_36, ⟨y_37, ey_37, ⟨rfl, rfl⟩⟩⟩)⟩)⟩)⟩⟩⟩)⟩⟩)⟩⟩), wd_t ht hW⟩, hS.F ht⟩) hS.2.2 dX12_inch_98
      by_cases c_38 : p2 = 3
      · refine lv_tableIn (tgt := 99) hx hb dX12_inch_29 (by rw [c_38]; decide) (by rw [c_38]; decide) (off := 70) (by rw [c_38]; decide) (by decide) ?_
        have c_38 : p2.toInt = 3 := xI_eq rfl rfl c_38
        refine lv_aload_n hx hb dX12_inch_99 rfl (lv_at hl 1 rfl) ?_
        refine S_getR (n := 90) (C := RX12) (T := TX12) (N := 89) hx hb hg iX12 hown hK hW kd_66 rfl 38 (lt_b rfl) (hg (Cond.fieldLink RX12 84 "SlabWalkModel" "longs" "[I") m1352) (fun _ h9 => h9) rfl dX12_inch_100 ?_
        refine lv_iload hx hb dX12_inch_103 (lv_at hl 0 rfl) ?_
        refine S_iald hx hb hK hW kd_90 (vin ((by first | exact ok_654 f_6.1 f_6.2 hp_4 c_7 f_13.1 f_13.2 hp_11 c_14 ty_15 ty_16 | omega)) ((by first | exact ok_655 f_6.1 f_6.2 hp_4 c_7 f_13.1 f_13.2 hp_11 c_14 ty_15 ty_16 | omega))) dX12_inch_105 (fun y_39 ey_39 => ?_)
        exact W.iret (v := y_39) hx hb hr (fun t ht _ => ⟨⟨y_39, G_9, rfl, (Q_inch_mk ⟨hB_G_9, hF, ⟨r_1, G_2, hX_5, (Or.inr ⟨c_7, ⟨r_8, G_9, hX_12, (Or.inr ⟨c_14, ⟨y_15, ty_15, ⟨y_16, ty_16, (Or.inr ⟨(xI_ne (Y := 0) rfl rfl c_17), (Or.inr ⟨(xI_ne (Y := 1) rfl rfl c_34), (Or.inr ⟨(xI_ne (Y := 2) rfl rfl c_36), (Or.inl ⟨c_38, ⟨y_39, ey_39, ⟨rfl, rfl⟩⟩⟩)⟩)⟩)⟩)⟩⟩⟩)⟩⟩)⟩⟩), wd_t ht hW⟩, hS.F ht⟩) hS.2.2 dX12_inch_106
      by_cases c_40 : p2 = 4
      · refine lv_tableIn (tgt := 107) hx hb dX12_inch_29 (by rw [c_40]; decide) (by rw [c_40]; decide) (off := 78) (by rw [c_40]; decide) (by decide) ?_
        have c_40 : p2.toInt = 4 := xI_eq rfl rfl c_40
        refine lv_aload_n hx hb dX12_inch_107 rfl (lv_at hl 1 rfl) ?_
        refine S_getR (n := 87) (C := RX12) (T := TX12) (N := 89) hx hb hg iX12 hown hK hW kd_66 rfl 35 (lt_b rfl) (hg (Cond.fieldLink RX12 75 "SlabWalkModel" "marks" "[I") m1349) (fun _ h9 => h9) rfl dX12_inch_108 ?_
        refine lv_iload hx hb dX12_inch_111 (lv_at hl 0 rfl) ?_
        refine S_iald hx hb hK hW kd_87 (vin ((by first | exact ok_654 f_6.1 f_6.2 hp_4 c_7 f_13.1 f_13.2 hp_11 c_14 ty_15 ty_16 | omega)) ((by first | exact ok_655 f_6.1 f_6.2 hp_4 c_7 f_13.1 f_13.2 hp_11 c_14 ty_15 ty_16 | omega))) dX12_inch_113 (fun y_41 ey_41 => ?_)
        refine lv_if_ge (tgt := 121) hx hb dX12_inch_114 rfl (fun c_42 => ?_) (fun c_42 => ?_)
        · have c_42 : 0 ≤ y_41.toInt := xI_le rfl rfl c_42
          refine lv_aload_n hx hb dX12_inch_121 rfl (lv_at hl 1 rfl) ?_
          refine S_getR (n := 87) (C := RX12) (T := TX12) (N := 89) hx hb hg iX12 hown hK hW kd_66 rfl 35 (lt_b rfl) (hg (Cond.fieldLink RX12 75 "SlabWalkModel" "marks" "[I") m1349) (fun _ h9 => h9) rfl dX12_inch_122 ?_
          refine lv_iload hx hb dX12_inch_125 (lv_at hl 0 rfl) ?_
          refine S_iald hx hb hK hW kd_87 (vin ((by first | exact ok_654 f_6.1 f_6.2 hp_4 c_7 f_13.1 f_13.2 hp_11 c_14 ty_15 ty_16 | omega)) ((by first | exact ok_655 f_6.1 f_6.2 hp_4 c_7 f_13.1 f_13.2 hp_11 c_14 ty_15 ty_16 | omega))) dX12_inch_127 (fun y_43 ey_43 => ?_)
          exact W.iret (v := y_43) hx hb hr (fun t ht _ => ⟨⟨y_43, G_9, rfl, (Q_inch_mk ⟨hB_G_9, hF, ⟨r_1, G_2, hX_5, (Or.inr ⟨c_7, ⟨r_8, G_9, hX_12, (Or.inr ⟨c_14, ⟨y_15, ty_15, ⟨y_16, ty_16, (Or.inr ⟨(xI_ne (Y := 0) rfl rfl c_17), (Or.inr ⟨(xI_ne (Y := 1) rfl rfl c_34), (Or.inr ⟨(xI_ne (Y := 2) rfl rfl c_36), (Or.inr ⟨(xI_ne (Y := 3) rfl rfl c_38), (Or.inl ⟨c_40, ⟨y_41, ey_41, (Or.inl ⟨c_42, ⟨y_43, ey_43, ⟨rfl, rfl⟩⟩⟩)⟩⟩)⟩)⟩)⟩)⟩)⟩⟩⟩)⟩⟩)⟩⟩), wd_t ht hW⟩, hS.F ht⟩) hS.2.2 dX12_inch_128
        · have c_42 : y_41.toInt < 0 := xI_nle rfl rfl c_42
          refine ic_0 hx hb dX12_inch_117 ?_
          refine lv_goto (tgt := 128) hx hb dX12_inch_118 rfl ?_
          exact W.iret (v := 0) hx hb hr (fun t ht _ => ⟨⟨0, G_9, rfl, (Q_inch_mk ⟨hB_G_9, hF, ⟨r_1, G_2, hX_5, (Or.inr ⟨c_7, ⟨r_8, G_9, hX_12, (Or.inr ⟨c_14, ⟨y_15, ty_15, ⟨y_16, ty_16, (Or.inr ⟨(xI_ne (Y := 0) rfl rfl c_17), (Or.inr ⟨(xI_ne (Y := 1) rfl rfl c_34), (Or.inr ⟨(xI_ne (Y := 2) rfl rfl c_36), (Or.inr ⟨(xI_ne (Y := 3) rfl rfl c_38), (Or.inl ⟨c_40, ⟨y_41, ey_41, (Or.inr ⟨c_42, ⟨rfl, rfl⟩⟩)⟩⟩)⟩)⟩)⟩)⟩)⟩⟩⟩)⟩⟩)⟩⟩), wd_t ht hW⟩, hS.F ht⟩) hS.2.2 dX12_inch_128
      refine lv_tableOut (tgt := 129) hx hb dX12_inch_29 (tb_out (lo := 0) (hi := 4) (by have c_17 := xI_ne (Y := 0) rfl rfl c_17; have c_34 := xI_ne (Y := 1) rfl rfl c_34; have c_36 := xI_ne (Y := 2) rfl rfl c_36; have c_38 := xI_ne (Y := 3) rfl rfl c_38; have c_40 := xI_ne (Y := 4) rfl rfl c_40; omega)) (by decide) ?_
      have c_17 := xI_ne (Y := 0) rfl rfl c_17
      have c_34 := xI_ne (Y := 1) rfl rfl c_34
      have c_36 := xI_ne (Y := 2) rfl rfl c_36
      have c_38 := xI_ne (Y := 3) rfl rfl c_38
      have c_40 := xI_ne (Y := 4) rfl rfl c_40
      refine ic_m1 hx hb dX12_inch_129 ?_
      exact W.iret (v := (-1)) hx hb hr (fun t ht _ => ⟨⟨(-1), G_9, rfl, (Q_inch_mk ⟨hB_G_9, hF, ⟨r_1, G_2, hX_5, (Or.inr ⟨c_7, ⟨r_8, G_9, hX_12, (Or.inr ⟨c_14, ⟨y_15, ty_15, ⟨y_16, ty_16, (Or.inr ⟨c_17, (Or.inr ⟨c_34, (Or.inr ⟨c_36, (Or.inr ⟨c_38, (Or.inr ⟨c_40, ⟨rfl, rfl⟩⟩)⟩)⟩)⟩)⟩)⟩⟩⟩)⟩⟩)⟩⟩), wd_t ht hW⟩, hS.F ht⟩) hS.2.2 dX12_inch_130
    · have c_14 : r_8.toInt = 0 := xI_eq rfl rfl c_14
      refine ic_m1 hx hb dX12_inch_17 ?_
      exact W.iret (v := (-1)) hx hb hr (fun t ht _ => ⟨⟨(-1), G_9, rfl, (Q_inch_mk ⟨hB_G_9, hF, ⟨r_1, G_2, hX_5, (Or.inr ⟨c_7, ⟨r_8, G_9, hX_12, (Or.inl ⟨c_14, ⟨rfl, rfl⟩⟩)⟩⟩)⟩⟩), wd_t ht hW⟩, hS.F ht⟩) hS.2.2 dX12_inch_18

set_option maxHeartbeats 4000000 in
set_option maxRecDepth 100000 in
theorem n_allSlips (l : Launch) (D : va_G) (k : KT) (A : Nat → Prop) (a : Nat → Nat) (z : SK) (G : GS)   : Met l yX12_allSlips (WS yX12_allSlips cX12_allSlips 1 (some .int)) ({ frames := 0, cells := 0, slots := 0, locals := 0 }) (va_Pc [.ref (a 66)] (cW D k A a z G)) (va_Qi (fun (r : Int32) (G1 : GS) => Q_allSlips G r G1) (fun (G1 : GS) t => Wd D k A a G1 t.heap) A) 0 0 A := by
  refine Met.ofW (cc := cX12_allSlips) (maxL := 1) (ret := (some .int)) (by decide) rfl ?_
  intro p e s m args below meth c s₁ B hml hv
  obtain ⟨rfl, hW, hB_G, hK, hZ⟩ := hv
  have hx := B.exec
  have hb := B.bytes
  have hr := B.returns
  have hts := atoms_spec (ws := WS yX12_allSlips cX12_allSlips 1 (some .int)) B.pre
  have hgd : ∀ w ∈ gd, w ∈ WS yX12_allSlips cX12_allSlips 1 (some .int) := fun w h => List.mem_cons_of_mem _ h
  have hg : ∀ w ∈ gd, w.before _ s = true := fun w h => hts w (hgd w h)
  have hown : s.vm.findClass RX12 = some m.cls := findClass_of_methodNamed B.named
  have hS : va_S A s.heap s.heap [] := va_S.rf
  have hF : Fr [] [] G G := Fr.rf
  have hl := lv_entry ([.ref (a 66)]) (n := 1) (Nat.le_of_ble_eq_true rfl)
  rw [lg_entry_eq]
  generalize (lg_sl ([.ref (a 66)]) ++ List.replicate (1 - (lg_sl ([.ref (a 66)])).length) Slot.unset).toArray = ls at hl ⊢
  have hl : lv_has ls 1 [(0, .ref (a 66))] := hl
  refine lv_aload_n hx hb dX12_allSlips_0 rfl (lv_at hl 0 rfl) ?_
  refine S_getR (n := 96) (C := RX12) (T := TX12) (N := 89) hx hb hg iX12 hown hK hW kd_66 rfl 44 (lt_b rfl) (hg (Cond.fieldLink RX12 102 "SlabWalkModel" "slips" "[I") m1358) (fun _ h9 => h9) rfl dX12_allSlips_1 ?_
  refine ic_0 hx hb dX12_allSlips_4 ?_
  refine S_iald hx hb hK hW kd_96 (vin (by decide) (by decide)) dX12_allSlips_5 (fun y_1 ey_1 => ?_)
  have ty_1 : 0 ≤ y_1.toInt ∧ y_1.toInt ≤ 9 := bv_96 hB_G ey_1
  refine lv_aload_n hx hb dX12_allSlips_6 rfl (lv_at hl 0 rfl) ?_
  refine S_getR (n := 96) (C := RX12) (T := TX12) (N := 89) hx hb hg iX12 hown hK hW kd_66 rfl 44 (lt_b rfl) (hg (Cond.fieldLink RX12 102 "SlabWalkModel" "slips" "[I") m1358) (fun _ h9 => h9) rfl dX12_allSlips_7 ?_
  refine ic_1 hx hb dX12_allSlips_10 ?_
  refine S_iald hx hb hK hW kd_96 (vin (by decide) (by decide)) dX12_allSlips_11 (fun y_2 ey_2 => ?_)
  have ty_2 : 0 ≤ y_2.toInt ∧ y_2.toInt ≤ 9 := bv_96 hB_G ey_2
  refine lv_iadd hx hb dX12_allSlips_12 ?_
  refine lv_topi (fun y_3 ey_3 => ?_)
  have ty_3 : y_3.toInt = y_1.toInt + y_2.toInt := xI_add rfl rfl ey_3 ((by first | exact ok_15 ty_1.1 ty_2.1 | omega)) ((by first | exact ok_16 ty_1.2 ty_2.2 | omega))
  refine lv_aload_n hx hb dX12_allSlips_13 rfl (lv_at hl 0 rfl) ?_
  refine S_getR (n := 96) (C := RX12) (T := TX12) (N := 89) hx hb hg iX12 hown hK hW kd_66 rfl 44 (lt_b rfl) (hg (Cond.fieldLink RX12 102 "SlabWalkModel" "slips" "[I") m1358) (fun _ h9 => h9) rfl dX12_allSlips_14 ?_
  refine ic_2 hx hb dX12_allSlips_17 ?_
  refine S_iald hx hb hK hW kd_96 (vin (by decide) (by decide)) dX12_allSlips_18 (fun y_4 ey_4 => ?_)
  have ty_4 : 0 ≤ y_4.toInt ∧ y_4.toInt ≤ 9 := bv_96 hB_G ey_4
  refine lv_iadd hx hb dX12_allSlips_19 ?_
  refine lv_topi (fun y_5 ey_5 => ?_)
  have ty_5 : y_5.toInt = y_3.toInt + y_4.toInt := xI_add rfl rfl ey_5 ((by first | exact ok_17 ty_1.1 ty_2.1 ty_3 ty_4.1 | omega)) ((by first | exact ok_18 ty_1.2 ty_2.2 ty_3 ty_4.2 | omega))
  have g_6 : (G.1 96 0).toInt = y_1.toInt := (congrArg Int32.toInt (show G.1 96 0 = y_1 from ey_1.symm))
  have g_7 : (G.1 96 1).toInt = y_2.toInt := (congrArg Int32.toInt (show G.1 96 1 = y_2 from ey_2.symm))
  have g_8 : (G.1 96 2).toInt = y_4.toInt := (congrArg Int32.toInt (show G.1 96 2 = y_4 from ey_4.symm))
  exact W.iret (v := y_5) hx hb hr (fun t ht _ => ⟨⟨y_5, G, rfl, (Q_allSlips_mk ⟨hB_G, hF, ⟨(by first | exact ok_19 ty_1.1 ty_2.1 ty_3 ty_4.1 ty_5 | omega), (by first | exact ok_20 ty_1.2 ty_2.2 ty_3 ty_4.2 ty_5 | omega)⟩, ((by first | exact ok_656 ty_3 ty_5 g_6 g_7 g_8 | omega)), ⟨y_1, ey_1, ⟨y_2, ey_2, ⟨y_3, ty_3, ⟨y_4, ey_4, ⟨y_5, ty_5, ⟨rfl, rfl⟩⟩⟩⟩⟩⟩⟩), wd_t ht hW⟩, hS.F ht⟩) hS.2.2 dX12_allSlips_20

set_option maxHeartbeats 4000000 in
set_option maxRecDepth 100000 in
theorem n_later (l : Launch) (D : va_G) (k : KT) (A : Nat → Prop) (a : Nat → Nat) (z : SK) (G : GS) (p0 : Int32)  : Met l yX12_later (WS yX12_later cX12_later 2 (some .int)) ({ frames := 0, cells := 0, slots := 0, locals := 0 }) (va_Pc [.ref (a 66), .int p0] (cW D k A a z G)) (va_Qi (fun (r : Int32) (G1 : GS) => Q_later p0 G r G1) (fun (G1 : GS) t => Wd D k A a G1 t.heap) A) 0 0 A := by
  refine Met.ofW (cc := cX12_later) (maxL := 2) (ret := (some .int)) (by decide) rfl ?_
  intro p e s m args below meth c s₁ B hml hv
  obtain ⟨rfl, hW, hB_G, hK, hZ⟩ := hv
  have hx := B.exec
  have hb := B.bytes
  have hr := B.returns
  have hts := atoms_spec (ws := WS yX12_later cX12_later 2 (some .int)) B.pre
  have hgd : ∀ w ∈ gd, w ∈ WS yX12_later cX12_later 2 (some .int) := fun w h => List.mem_cons_of_mem _ h
  have hg : ∀ w ∈ gd, w.before _ s = true := fun w h => hts w (hgd w h)
  have hown : s.vm.findClass RX12 = some m.cls := findClass_of_methodNamed B.named
  have hS : va_S A s.heap s.heap [] := va_S.rf
  have hF : Fr [] [(66, 86)] G G := Fr.rf
  have hl := lv_entry ([.ref (a 66), .int p0]) (n := 2) (Nat.le_of_ble_eq_true rfl)
  rw [lg_entry_eq]
  generalize (lg_sl ([.ref (a 66), .int p0]) ++ List.replicate (2 - (lg_sl ([.ref (a 66), .int p0])).length) Slot.unset).toArray = ls at hl ⊢
  have hl : lv_has ls 2 [(0, .ref (a 66)), (1, .int p0)] := hl
  refine lv_iload_n hx hb dX12_later_0 rfl (lv_at hl 1 rfl) ?_
  refine lv_if_lt (tgt := 23) hx hb dX12_later_1 rfl (fun c_1 => ?_) (fun c_1 => ?_)
  · have c_1 : p0.toInt < 0 := xI_lt rfl rfl c_1
    refine ic_m1 hx hb dX12_later_23 ?_
    have b_2 : 0 ≤ (G.1 66 86).toInt ∧ (G.1 66 86).toInt ≤ 100000 := bd_66_86 hB_G
    exact W.iret (v := (-1)) hx hb hr (fun t ht _ => ⟨⟨(-1), G, rfl, (Q_later_mk ⟨hB_G, hF, (by have hq : ((-1) : Int32).toInt = (-1) := rfl; (try dsimp only); omega), (Or.inl ⟨c_1, ⟨rfl, rfl⟩⟩)⟩), wd_t ht hW⟩, hS.F ht⟩) hS.2.2 dX12_later_24
  · have c_1 : 0 ≤ p0.toInt := xI_nlt rfl rfl c_1
    refine lv_iload_n hx hb dX12_later_4 rfl (lv_at hl 1 rfl) ?_
    refine lv_sipush (v := 1000) hx hb dX12_later_5 (by decide) ?_
    refine lv_icmp_gt (tgt := 23) hx hb dX12_later_8 rfl (fun c_3 => ?_) (fun c_3 => ?_)
    · have c_3 : 1000 < p0.toInt := xI_lt rfl rfl c_3
      refine ic_m1 hx hb dX12_later_23 ?_
      have b_4 : 0 ≤ (G.1 66 86).toInt ∧ (G.1 66 86).toInt ≤ 100000 := bd_66_86 hB_G
      exact W.iret (v := (-1)) hx hb hr (fun t ht _ => ⟨⟨(-1), G, rfl, (Q_later_mk ⟨hB_G, hF, (by have hq : ((-1) : Int32).toInt = (-1) := rfl; (try dsimp only); omega), (Or.inr ⟨c_1, (Or.inl ⟨c_3, ⟨rfl, rfl⟩⟩)⟩)⟩), wd_t ht hW⟩, hS.F ht⟩) hS.2.2 dX12_later_24
    · have c_3 : p0.toInt ≤ 1000 := xI_nlt rfl rfl c_3
      refine lv_aload_n hx hb dX12_later_11 rfl (lv_at hl 0 rfl) ?_
      have b_5 : 0 ≤ (G.1 66 86).toInt ∧ (G.1 66 86).toInt ≤ 100000 := bd_66_86 hB_G
      refine S_getI (v := (G.1 66 86)) (C := RX12) (T := TX12) (N := 89) hx hb hg iX12 hown hK hW kd_66 rfl 86 (lt_b rfl) (hg (Cond.fieldLink RX12 593 "SlabWalkModel" "time" "I") m1400) (fun _ h9 => h9) rfl rfl dX12_later_12 ?_
      refine lv_iload_n hx hb dX12_later_15 rfl (lv_at hl 1 rfl) ?_
      refine lv_iadd hx hb dX12_later_16 ?_
      refine lv_topi (fun y_6 ey_6 => ?_)
      have ty_6 : y_6.toInt = (G.1 66 86).toInt + p0.toInt := xI_add rfl rfl ey_6 ((by first | exact ok_27 c_1 b_5.1 | omega)) ((by first | exact ok_499 c_3 b_5.2 | omega))
      refine lv_ldcw (v := 100000) hx hb hown (hg (Cond.constant RX12 502 100000) m1858) dX12_later_17 ?_
      refine lv_icmp_le (tgt := 25) hx hb dX12_later_20 rfl (fun c_7 => ?_) (fun c_7 => ?_)
      · have c_7 : y_6.toInt ≤ 100000 := xI_le rfl rfl c_7
        refine lv_aload_n hx hb dX12_later_25 rfl (lv_at hl 0 rfl) ?_
        refine lv_dup hx hb dX12_later_26 rfl ?_
        refine S_getI (v := (G.1 66 86)) (C := RX12) (T := TX12) (N := 89) hx hb hg iX12 hown hK hW kd_66 rfl 86 (lt_b rfl) (hg (Cond.fieldLink RX12 593 "SlabWalkModel" "time" "I") m1400) (fun _ h9 => h9) rfl rfl dX12_later_27 ?_
        refine lv_iload_n hx hb dX12_later_30 rfl (lv_at hl 1 rfl) ?_
        refine lv_iadd hx hb dX12_later_31 ?_
        refine lv_topi (fun y_8 ey_8 => ?_)
        have ty_8 : y_8.toInt = (G.1 66 86).toInt + p0.toInt := xI_add rfl rfl ey_8 ((by first | exact ok_27 c_1 b_5.1 | omega)) ((by first | exact ok_499 c_3 b_5.2 | omega))
        refine S_putI (ty := .int) (C := RX12) (T := TX12) (N := 89) hx hb hg iX12 tyX12 tyX12_ok nmX12 hown hK hW hS kd_66 rfl 86 (lt_b rfl) (hg (Cond.fieldLink RX12 593 "SlabWalkModel" "time" "I") m1400) (fun _ h9 => h9) rfl (by decide +kernel) rfl rfl rfl dX12_later_32 (fun G_9 H locs eG_9 hW hS => ?_)
        have hB_G_9 : Bd G_9 := hB_G.put (V := y_8.toInt) (lo := 0) (hi := 100000) eG_9 rfl rfl rfl ((by first | exact ok_116 c_1 b_5.1 ty_8 | omega)) ((by first | exact ok_500 c_3 b_5.2 ty_6 c_7 ty_8 | omega)) (hB_G.2.put eG_9 rfl)
        have hF := hF.put eG_9 (Or.inr (by decide))
        refine lv_aload_n hx hb dX12_later_35 rfl (lv_at hl 0 rfl) ?_
        refine S_getI (v := y_8) (C := RX12) (T := TX12) (N := 89) hx hb hg iX12 hown hK hW kd_66 rfl 86 (lt_b rfl) (hg (Cond.fieldLink RX12 593 "SlabWalkModel" "time" "I") m1400) (fun _ h9 => h9) rfl (gp_eq eG_9) dX12_later_36 ?_
        have g_10 : (G_9.1 66 86).toInt = y_8.toInt := (congrArg Int32.toInt (show G_9.1 66 86 = y_8 from (gp_eq eG_9)))
        exact W.iret (v := y_8) hx hb hr (fun t ht _ => ⟨⟨y_8, G_9, rfl, (Q_later_mk ⟨hB_G_9, hF, ((by first | exact ⟨(fun h9 => ⟨(by first | exact ty_8 | omega), (by first | exact ok_501 ty_8 g_10 | omega)⟩), (fun h9 => ⟨(by first | exact ok_502 c_1 c_3 b_5.1 b_5.2 ty_6 c_7 ty_8 h9 | omega), (by first | exact ok_503 c_1 c_3 ty_6 c_7 ty_8 g_10 h9 | omega)⟩)⟩ | omega)), (Or.inr ⟨c_1, (Or.inr ⟨c_3, ⟨y_6, ty_6, (Or.inl ⟨c_7, ⟨y_8, ty_8, ⟨rfl, (Fr.put (rs := []) (fs := [(66, 86)]) Fr.rf eG_9 (Or.inr (by decide))), (gp_eq eG_9)⟩⟩⟩)⟩⟩)⟩)⟩), wd_t ht hW⟩, hS.F ht⟩) hS.2.2 dX12_later_39
      · have c_7 : 100000 < y_6.toInt := xI_nle rfl rfl c_7
        refine ic_m1 hx hb dX12_later_23 ?_
        exact W.iret (v := (-1)) hx hb hr (fun t ht _ => ⟨⟨(-1), G, rfl, (Q_later_mk ⟨hB_G, hF, (by have hq : ((-1) : Int32).toInt = (-1) := rfl; (try dsimp only); omega), (Or.inr ⟨c_1, (Or.inr ⟨c_3, ⟨y_6, ty_6, (Or.inr ⟨c_7, ⟨rfl, rfl⟩⟩)⟩⟩)⟩)⟩), wd_t ht hW⟩, hS.F ht⟩) hS.2.2 dX12_later_24

set_option maxHeartbeats 4000000 in
set_option maxRecDepth 100000 in
theorem n_walker (l : Launch) (D : va_G) (k : KT) (A : Nat → Prop) (a : Nat → Nat) (z : SK) (G : GS) (p0 : Int32)  : Met l yX12_walker (WS yX12_walker cX12_walker 2 (some .int)) ({ frames := 1, cells := 0, slots := 0, locals := 22 }) (va_Pc [.ref (a 66), .int p0] (cW D k A a z G)) (va_Qi (fun (r : Int32) (G1 : GS) => Q_walker p0 G r G1) (fun (G1 : GS) t => Wd D k A a G1 t.heap) A) 0 0 A := by
  refine Met.ofW (cc := cX12_walker) (maxL := 2) (ret := (some .int)) (by decide) rfl ?_
  intro p e s m args below meth c s₁ B hml hv
  obtain ⟨rfl, hW, hB_G, hK, hZ⟩ := hv
  have hx := B.exec
  have hb := B.bytes
  have hr := B.returns
  have hts := atoms_spec (ws := WS yX12_walker cX12_walker 2 (some .int)) B.pre
  have hgd : ∀ w ∈ gd, w ∈ WS yX12_walker cX12_walker 2 (some .int) := fun w h => List.mem_cons_of_mem _ h
  have hg : ∀ w ∈ gd, w.before _ s = true := fun w h => hts w (hgd w h)
  have hown : s.vm.findClass RX12 = some m.cls := findClass_of_methodNamed B.named
  have hS : va_S A s.heap s.heap [] := va_S.rf
  have hF : Fr [] [] G G := Fr.rf
  have hl := lv_entry ([.ref (a 66), .int p0]) (n := 2) (Nat.le_of_ble_eq_true rfl)
  rw [lg_entry_eq]
  generalize (lg_sl ([.ref (a 66), .int p0]) ++ List.replicate (2 - (lg_sl ([.ref (a 66), .int p0])).length) Slot.unset).toArray = ls at hl ⊢
  have hl : lv_has ls 2 [(0, .ref (a 66)), (1, .int p0)] := hl
  refine lv_aload_n hx hb dX12_walker_0 rfl (lv_at hl 0 rfl) ?_
  refine S_getR (n := 110) (C := RX12) (T := TX12) (N := 89) hx hb hg iX12 hown hK hW kd_66 rfl 76 (lt_b rfl) (hg (Cond.fieldLink RX12 151 "SlabWalkModel" "now" "[I") m1390) (fun _ h9 => h9) rfl dX12_walker_1 ?_
  refine ic_0 hx hb dX12_walker_4 ?_
  refine S_iald hx hb hK hW kd_110 (vin (by decide) (by decide)) dX12_walker_5 (fun y_1 ey_1 => ?_)
  have ty_1 := hB_G.now0 110 (by decide) ey_1
  refine lv_if_lt (tgt := 18) hx hb dX12_walker_6 rfl (fun c_2 => ?_) (fun c_2 => ?_)
  · have c_2 : y_1.toInt < 0 := xI_lt rfl rfl c_2
    refine ic_m1 hx hb dX12_walker_18 ?_
    refine lv_goto (tgt := 28) hx hb dX12_walker_19 rfl ?_
    exact W.iret (v := (-1)) hx hb hr (fun t ht _ => ⟨⟨(-1), G, rfl, (Q_walker_mk ⟨hB_G, hF, ⟨y_1, ey_1, (Or.inl ⟨c_2, ⟨rfl, rfl⟩⟩)⟩⟩), wd_t ht hW⟩, hS.F ht⟩) hS.2.2 dX12_walker_28
  · have c_2 : 0 ≤ y_1.toInt := xI_nlt rfl rfl c_2
    refine lv_iload_n hx hb dX12_walker_9 rfl (lv_at hl 1 rfl) ?_
    refine ic_0 hx hb dX12_walker_10 ?_
    refine ic_5 hx hb dX12_walker_11 ?_
    have qc_3 : (0 : Int32).toInt = 0 := rfl
    have qc_4 : (5 : Int32).toInt = 5 := rfl
    refine S_calli (va_runS (As := [.int p0, .int 0, .int 5]) (rest := []) ⟨hx, hb, hml, hown, hts⟩ (n_isIn l D k A a z G p0 0 5 ) (va_cwS 3 hts (gd_S hgd m1781 m1782 m131 m1783) rfl rfl rfl hd_X12_isIn.2 ⟨Nat.le_of_ble_eq_true rfl, Nat.le_of_ble_eq_true rfl⟩) (pre_S hW hB_G hK hZ hS) rfl rfl hl.1 rfl (lv_room (Nat.le_of_ble_eq_true rfl)) dX12_walker_12 ⟨Nat.le_of_ble_eq_true rfl, Nat.le_of_ble_eq_true rfl⟩) hS (fun r_5 G_6 H locs hpo hW hS => ?_)
    have hX_9 : Q_isIn p0 0 5 G r_5 G_6 := hpo
    obtain ⟨hB_G_6, hq_7, f_10, ⟨d_1, d_2⟩, -⟩ := hpo
    have hF := hF.call9 hq_7 rfl rfl
    refine lv_if_ne (tgt := 22) hx hb dX12_walker_15 rfl (fun c_11 => ?_) (fun c_11 => ?_)
    · have c_11 : r_5.toInt ≠ 0 := xI_ne rfl rfl c_11
      refine lv_aload_n hx hb dX12_walker_22 rfl (lv_at hl 0 rfl) ?_
      refine S_getR (n := 110) (C := RX12) (T := TX12) (N := 89) hx hb hg iX12 hown hK hW kd_66 rfl 76 (lt_b rfl) (hg (Cond.fieldLink RX12 151 "SlabWalkModel" "now" "[I") m1390) (fun _ h9 => h9) rfl dX12_walker_23 ?_
      refine lv_iload_n hx hb dX12_walker_26 rfl (lv_at hl 1 rfl) ?_
      refine S_iald hx hb hK hW kd_110 (vin ((by first | exact ok_415 qc_3 f_10.1 f_10.2 d_1 c_11 | omega)) ((by first | exact ok_657 qc_4 f_10.1 f_10.2 d_1 c_11 | omega))) dX12_walker_27 (fun y_12 ey_12 => ?_)
      have ty_12 := hB_G_6.now 110 (by decide) ey_12 (by omega)
      exact W.iret (v := y_12) hx hb hr (fun t ht _ => ⟨⟨y_12, G_6, rfl, (Q_walker_mk ⟨hB_G_6, hF, ⟨y_1, ey_1, (Or.inr ⟨c_2, ⟨r_5, G_6, hX_9, (Or.inr ⟨c_11, ⟨y_12, ey_12, ⟨rfl, rfl⟩⟩⟩)⟩⟩)⟩⟩), wd_t ht hW⟩, hS.F ht⟩) hS.2.2 dX12_walker_28
    · have c_11 : r_5.toInt = 0 := xI_eq rfl rfl c_11
      refine ic_m1 hx hb dX12_walker_18 ?_
      refine lv_goto (tgt := 28) hx hb dX12_walker_19 rfl ?_
      exact W.iret (v := (-1)) hx hb hr (fun t ht _ => ⟨⟨(-1), G_6, rfl, (Q_walker_mk ⟨hB_G_6, hF, ⟨y_1, ey_1, (Or.inr ⟨c_2, ⟨r_5, G_6, hX_9, (Or.inl ⟨c_11, ⟨rfl, rfl⟩⟩)⟩⟩)⟩⟩), wd_t ht hW⟩, hS.F ht⟩) hS.2.2 dX12_walker_28

set_option maxHeartbeats 4000000 in
set_option maxRecDepth 100000 in
theorem n_lies (l : Launch) (D : va_G) (k : KT) (A : Nat → Prop) (a : Nat → Nat) (z : SK) (G : GS) (p0 : Int32)  : Met l yX12_lies (WS yX12_lies cX12_lies 2 (some .int)) ({ frames := 1, cells := 0, slots := 0, locals := 22 }) (va_Pc [.ref (a 66), .int p0] (cW D k A a z G)) (va_Qi (fun (r : Int32) (G1 : GS) => Q_lies p0 G r G1) (fun (G1 : GS) t => Wd D k A a G1 t.heap) A) 0 0 A := by
  refine Met.ofW (cc := cX12_lies) (maxL := 2) (ret := (some .int)) (by decide) rfl ?_
  intro p e s m args below meth c s₁ B hml hv
  obtain ⟨rfl, hW, hB_G, hK, hZ⟩ := hv
  have hx := B.exec
  have hb := B.bytes
  have hr := B.returns
  have hts := atoms_spec (ws := WS yX12_lies cX12_lies 2 (some .int)) B.pre
  have hgd : ∀ w ∈ gd, w ∈ WS yX12_lies cX12_lies 2 (some .int) := fun w h => List.mem_cons_of_mem _ h
  have hg : ∀ w ∈ gd, w.before _ s = true := fun w h => hts w (hgd w h)
  have hown : s.vm.findClass RX12 = some m.cls := findClass_of_methodNamed B.named
  have hS : va_S A s.heap s.heap [] := va_S.rf
  have hF : Fr [] [] G G := Fr.rf
  have hl := lv_entry ([.ref (a 66), .int p0]) (n := 2) (Nat.le_of_ble_eq_true rfl)
  rw [lg_entry_eq]
  generalize (lg_sl ([.ref (a 66), .int p0]) ++ List.replicate (2 - (lg_sl ([.ref (a 66), .int p0])).length) Slot.unset).toArray = ls at hl ⊢
  have hl : lv_has ls 2 [(0, .ref (a 66)), (1, .int p0)] := hl
  refine lv_iload_n hx hb dX12_lies_0 rfl (lv_at hl 1 rfl) ?_
  refine ic_0 hx hb dX12_lies_1 ?_
  refine lv_aload_n hx hb dX12_lies_2 rfl (lv_at hl 0 rfl) ?_
  have b_1 : 0 ≤ (G.1 66 66).toInt ∧ (G.1 66 66).toInt ≤ 400 := bd_66_66 hB_G
  refine S_getI (v := (G.1 66 66)) (C := RX12) (T := TX12) (N := 89) hx hb hg iX12 hown hK hW kd_66 rfl 66 (lt_b rfl) (hg (Cond.fieldLink RX12 446 "SlabWalkModel" "lain" "I") m1380) (fun _ h9 => h9) rfl rfl dX12_lies_3 ?_
  refine ic_1 hx hb dX12_lies_6 ?_
  refine lv_isub hx hb dX12_lies_7 ?_
  refine lv_topi (fun y_2 ey_2 => ?_)
  have ty_2 : y_2.toInt = (G.1 66 66).toInt - 1 := xI_sub rfl rfl ey_2 ((by first | exact ok_56 b_1.1 | omega)) ((by first | exact ok_57 b_1.2 | omega))
  have qc_3 : (0 : Int32).toInt = 0 := rfl
  refine S_calli (va_runS (As := [.int p0, .int 0, .int y_2]) (rest := []) ⟨hx, hb, hml, hown, hts⟩ (n_isIn l D k A a z G p0 0 y_2 ) (va_cwS 3 hts (gd_S hgd m1781 m1782 m131 m1783) rfl rfl rfl hd_X12_isIn.2 ⟨Nat.le_of_ble_eq_true rfl, Nat.le_of_ble_eq_true rfl⟩) (pre_S hW hB_G hK hZ hS) rfl rfl hl.1 rfl (lv_room (Nat.le_of_ble_eq_true rfl)) dX12_lies_8 ⟨Nat.le_of_ble_eq_true rfl, Nat.le_of_ble_eq_true rfl⟩) hS (fun r_4 G_5 H locs hpo hW hS => ?_)
  have hX_8 : Q_isIn p0 0 y_2 G r_4 G_5 := hpo
  obtain ⟨hB_G_5, hq_6, f_9, ⟨d_1, d_2⟩, -⟩ := hpo
  have hF := hF.call9 hq_6 rfl rfl
  refine lv_if_eq (tgt := 23) hx hb dX12_lies_11 rfl (fun c_10 => ?_) (fun c_10 => ?_)
  · have c_10 : r_4.toInt = 0 := xI_eq rfl rfl c_10
    refine ic_m1 hx hb dX12_lies_23 ?_
    exact W.iret (v := (-1)) hx hb hr (fun t ht _ => ⟨⟨(-1), G_5, rfl, (Q_lies_mk ⟨hB_G_5, hF, ⟨y_2, ty_2, ⟨r_4, G_5, hX_8, (Or.inl ⟨c_10, ⟨rfl, rfl⟩⟩)⟩⟩⟩), wd_t ht hW⟩, hS.F ht⟩) hS.2.2 dX12_lies_24
  · have c_10 : r_4.toInt ≠ 0 := xI_ne rfl rfl c_10
    refine lv_aload_n hx hb dX12_lies_14 rfl (lv_at hl 0 rfl) ?_
    refine S_getR (n := 100) (C := RX12) (T := TX12) (N := 89) hx hb hg iX12 hown hK hW kd_66 rfl 65 (lt_b rfl) (hg (Cond.fieldLink RX12 121 "SlabWalkModel" "lies" "[I") m1379) (fun _ h9 => h9) rfl dX12_lies_15 ?_
    refine lv_iload_n hx hb dX12_lies_18 rfl (lv_at hl 1 rfl) ?_
    refine S_iald hx hb hK hW kd_100 (vin ((by first | exact ok_415 qc_3 f_9.1 f_9.2 d_1 c_10 | omega)) ((by first | exact ok_658 b_1.2 ty_2 f_9.1 f_9.2 d_1 c_10 | omega))) dX12_lies_19 (fun y_11 ey_11 => ?_)
    refine lv_goto (tgt := 24) hx hb dX12_lies_20 rfl ?_
    exact W.iret (v := y_11) hx hb hr (fun t ht _ => ⟨⟨y_11, G_5, rfl, (Q_lies_mk ⟨hB_G_5, hF, ⟨y_2, ty_2, ⟨r_4, G_5, hX_8, (Or.inr ⟨c_10, ⟨y_11, ey_11, ⟨rfl, rfl⟩⟩⟩)⟩⟩⟩), wd_t ht hW⟩, hS.F ht⟩) hS.2.2 dX12_lies_24

set_option maxHeartbeats 4000000 in
set_option maxRecDepth 100000 in
theorem n_untell (l : Launch) (D : va_G) (k : KT) (A : Nat → Prop) (a : Nat → Nat) (z : SK) (G : GS) (p0 : Int32)  : Met l yX12_untell (WS yX12_untell cX12_untell 2 (some .boolean)) ({ frames := 1, cells := 0, slots := 0, locals := 22 }) (va_Pc [.ref (a 66), .int p0] (cW D k A a z G)) (va_Qi (fun (r : Int32) (G1 : GS) => Q_untell p0 G r G1) (fun (G1 : GS) t => Wd D k A a G1 t.heap) A) 0 0 A := by
  refine Met.ofW (cc := cX12_untell) (maxL := 2) (ret := (some .boolean)) (by decide) rfl ?_
  intro p e s m args below meth c s₁ B hml hv
  obtain ⟨rfl, hW, hB_G, hK, hZ⟩ := hv
  have hx := B.exec
  have hb := B.bytes
  have hr := B.returns
  have hts := atoms_spec (ws := WS yX12_untell cX12_untell 2 (some .boolean)) B.pre
  have hgd : ∀ w ∈ gd, w ∈ WS yX12_untell cX12_untell 2 (some .boolean) := fun w h => List.mem_cons_of_mem _ h
  have hg : ∀ w ∈ gd, w.before _ s = true := fun w h => hts w (hgd w h)
  have hown : s.vm.findClass RX12 = some m.cls := findClass_of_methodNamed B.named
  have hS : va_S A s.heap s.heap [] := va_S.rf
  have hF : Fr [116] [] G G := Fr.rf
  have hl := lv_entry ([.ref (a 66), .int p0]) (n := 2) (Nat.le_of_ble_eq_true rfl)
  rw [lg_entry_eq]
  generalize (lg_sl ([.ref (a 66), .int p0]) ++ List.replicate (2 - (lg_sl ([.ref (a 66), .int p0])).length) Slot.unset).toArray = ls at hl ⊢
  have hl : lv_has ls 2 [(0, .ref (a 66)), (1, .int p0)] := hl
  refine lv_iload_n hx hb dX12_untell_0 rfl (lv_at hl 1 rfl) ?_
  refine ic_0 hx hb dX12_untell_1 ?_
  refine lv_aload_n hx hb dX12_untell_2 rfl (lv_at hl 0 rfl) ?_
  have b_1 : 0 ≤ (G.1 66 85).toInt ∧ (G.1 66 85).toInt ≤ 20 := bd_66_85 hB_G
  refine S_getI (v := (G.1 66 85)) (C := RX12) (T := TX12) (N := 89) hx hb hg iX12 hown hK hW kd_66 rfl 85 (lt_b rfl) (hg (Cond.fieldLink RX12 443 "SlabWalkModel" "sights" "I") m1399) (fun _ h9 => h9) rfl rfl dX12_untell_3 ?_
  refine ic_1 hx hb dX12_untell_6 ?_
  refine lv_isub hx hb dX12_untell_7 ?_
  refine lv_topi (fun y_2 ey_2 => ?_)
  have ty_2 : y_2.toInt = (G.1 66 85).toInt - 1 := xI_sub rfl rfl ey_2 ((by first | exact ok_56 b_1.1 | omega)) ((by first | exact ok_659 b_1.2 | omega))
  have qc_3 : (0 : Int32).toInt = 0 := rfl
  refine S_calli (va_runS (As := [.int p0, .int 0, .int y_2]) (rest := []) ⟨hx, hb, hml, hown, hts⟩ (n_isIn l D k A a z G p0 0 y_2 ) (va_cwS 3 hts (gd_S hgd m1781 m1782 m131 m1783) rfl rfl rfl hd_X12_isIn.2 ⟨Nat.le_of_ble_eq_true rfl, Nat.le_of_ble_eq_true rfl⟩) (pre_S hW hB_G hK hZ hS) rfl rfl hl.1 rfl (lv_room (Nat.le_of_ble_eq_true rfl)) dX12_untell_8 ⟨Nat.le_of_ble_eq_true rfl, Nat.le_of_ble_eq_true rfl⟩) hS (fun r_4 G_5 H locs hpo hW hS => ?_)
  have hX_8 : Q_isIn p0 0 y_2 G r_4 G_5 := hpo
  obtain ⟨hB_G_5, hq_6, f_9, ⟨d_1, d_2⟩, -⟩ := hpo
  have hF := hF.call9 hq_6 rfl rfl
  refine lv_if_eq (tgt := 23) hx hb dX12_untell_11 rfl (fun c_10 => ?_) (fun c_10 => ?_)
  · have c_10 : r_4.toInt = 0 := xI_eq rfl rfl c_10
    refine ic_0 hx hb dX12_untell_23 ?_
    exact W.zret (v := 0) hx hb hr (by decide) (fun t ht _ => ⟨⟨0, G_5, rfl, (Q_untell_mk ⟨hB_G_5, hF, ⟨by decide, by decide⟩, ⟨y_2, ty_2, ⟨r_4, G_5, hX_8, (Or.inl ⟨c_10, ⟨rfl, rfl⟩⟩)⟩⟩⟩), wd_t ht hW⟩, hS.F ht⟩) hS.2.2 dX12_untell_24
  · have c_10 : r_4.toInt ≠ 0 := xI_ne rfl rfl c_10
    refine lv_aload_n hx hb dX12_untell_14 rfl (lv_at hl 0 rfl) ?_
    refine S_getR (n := 116) (C := RX12) (T := TX12) (N := 89) hx hb hg iX12 hown hK hW kd_66 rfl 84 (lt_b rfl) (hg (Cond.fieldLink RX12 169 "SlabWalkModel" "sightUntold" "[I") m1398) (fun _ h9 => h9) rfl dX12_untell_15 ?_
    refine lv_iload_n hx hb dX12_untell_18 rfl (lv_at hl 1 rfl) ?_
    refine S_iald hx hb hK hW kd_116 (vin ((by first | exact ok_415 qc_3 f_9.1 f_9.2 d_1 c_10 | omega)) ((by first | exact ok_660 b_1.2 ty_2 f_9.1 f_9.2 d_1 c_10 | omega))) dX12_untell_19 (fun y_11 ey_11 => ?_)
    refine lv_if_lt (tgt := 25) hx hb dX12_untell_20 rfl (fun c_12 => ?_) (fun c_12 => ?_)
    · have c_12 : y_11.toInt < 0 := xI_lt rfl rfl c_12
      refine lv_aload_n hx hb dX12_untell_25 rfl (lv_at hl 0 rfl) ?_
      refine S_getR (n := 116) (C := RX12) (T := TX12) (N := 89) hx hb hg iX12 hown hK hW kd_66 rfl 84 (lt_b rfl) (hg (Cond.fieldLink RX12 169 "SlabWalkModel" "sightUntold" "[I") m1398) (fun _ h9 => h9) rfl dX12_untell_26 ?_
      refine lv_iload_n hx hb dX12_untell_29 rfl (lv_at hl 1 rfl) ?_
      refine lv_aload_n hx hb dX12_untell_30 rfl (lv_at hl 0 rfl) ?_
      have b_13 : 0 ≤ (G.1 66 86).toInt ∧ (G.1 66 86).toInt ≤ 100000 := bd_66_86 hB_G
      refine S_getI (v := (G.1 66 86)) (C := RX12) (T := TX12) (N := 89) hx hb hg iX12 hown hK hW kd_66 rfl 86 (lt_b rfl) (hg (Cond.fieldLink RX12 593 "SlabWalkModel" "time" "I") m1400) (fun _ h9 => h9) rfl (hq_6.i9 66 86 rfl rfl) dX12_untell_31 ?_
      refine S_iast hx hb hK hW hS kd_116 (vin ((by first | exact ok_415 qc_3 f_9.1 f_9.2 d_1 c_10 | omega)) ((by first | exact ok_660 b_1.2 ty_2 f_9.1 f_9.2 d_1 c_10 | omega))) dX12_untell_34 (fun G_14 H locs eG_14 hW hS => ?_)
      have hB_G_14 : Bd G_14 := hB_G_5.put (lo := (-2147483648)) (hi := 2147483647) eG_14 rfl rfl rfl (tI_rng _).1 (tI_rng _).2 (hB_G_5.2.put eG_14 rfl)
      have hF := hF.put eG_14 (Or.inl (by decide))
      refine ic_1 hx hb dX12_untell_35 ?_
      exact W.zret (v := 1) hx hb hr (by decide) (fun t ht _ => ⟨⟨1, G_14, rfl, (Q_untell_mk ⟨hB_G_14, hF, ⟨by decide, by decide⟩, ⟨y_2, ty_2, ⟨r_4, G_5, hX_8, (Or.inr ⟨c_10, ⟨y_11, ey_11, (Or.inl ⟨c_12, ⟨rfl, (Fr.put (rs := [116]) (fs := []) Fr.rf eG_14 (Or.inl (by decide))), rw_ast eG_14⟩⟩)⟩⟩)⟩⟩⟩), wd_t ht hW⟩, hS.F ht⟩) hS.2.2 dX12_untell_36
    · have c_12 : 0 ≤ y_11.toInt := xI_nlt rfl rfl c_12
      refine ic_0 hx hb dX12_untell_23 ?_
      exact W.zret (v := 0) hx hb hr (by decide) (fun t ht _ => ⟨⟨0, G_5, rfl, (Q_untell_mk ⟨hB_G_5, hF, ⟨by decide, by decide⟩, ⟨y_2, ty_2, ⟨r_4, G_5, hX_8, (Or.inr ⟨c_10, ⟨y_11, ey_11, (Or.inr ⟨c_12, ⟨rfl, rfl⟩⟩)⟩⟩)⟩⟩⟩), wd_t ht hW⟩, hS.F ht⟩) hS.2.2 dX12_untell_24

theorem m106 : Cond.selects RX12 yX12_allSlips yX12_allSlips ∈ gd := gds_7 10 rfl
theorem m1336 : Cond.fieldLink RX12 434 "SlabWalkModel" "units" "I" ∈ gd := gdc_6_1 4 rfl gw_fieldLink
theorem m1392 : Cond.fieldLink RX12 437 "SlabWalkModel" "acts" "I" ∈ gd := gdc_6_4 12 rfl gw_fieldLink
theorem m1393 : Cond.fieldLink RX12 440 "SlabWalkModel" "undone" "I" ∈ gd := gdc_6_4 13 rfl gw_fieldLink
theorem m1397 : Cond.fieldLink RX12 166 "SlabWalkModel" "sightTold" "[I" ∈ gd := gdc_6_5 1 rfl gw_fieldLink
theorem m1955 : Cond.methodLink RX12 553 yX12_allSlips ∈ gd := gdc_8_9 15 rfl gw_methodLink
theorem m1957 : Cond.instanceMethod yX12_allSlips ∈ gd := gdc_8_10 1 rfl gw_instanceMethod
theorem m1958 : Cond.code yX12_allSlips cX12_allSlips 1 (some .int) ∈ gd := gdc_8_10 2 rfl gw_code
theorem dX12_about_1 : decode cX12_about 1 = .ok (.tableswitch 162 0 14 #[75, 80, 85, 90, 98, 106, 114, 122, 127, 132, 137, 142, 147, 152, 157], 75) := dq_of (by decide +kernel)
noncomputable def rbX12_about_0 : List (Nat × List Nat) := [(0, [27]), (76, [42]), (77, [180, 1, 169]), (80, [172]), (81, [42]), (82, [180, 1, 172]), (85, [172]), (86, [42]), (87, [180, 1, 175]), (90, [172]), (91, [42]), (92, [180, 0, 151]), (95, [16, 6]), (97, [46]), (98, [172]), (99, [42]), (100, [180, 0, 151]), (103, [16, 7]), (105, [46]), (106, [172]), (107, [42]), (108, [180, 0, 151]), (111, [16, 8]), (113, [46])]
theorem rcX12_about_0 : dgo (lb cX12_about) 0 rbX12_about_0 = true := by decide +kernel
theorem dX12_about_0 : decode cX12_about 0 = .ok (.iload_n 1, 1) := dk_27 (dw rcX12_about_0 0 rfl)
theorem dX12_about_76 : decode cX12_about 76 = .ok (.aload_n 0, 1) := dk_42 (dw rcX12_about_0 1 rfl)
theorem dX12_about_77 : decode cX12_about 77 = .ok (.getfield 425, 3) := dk_180 (dw rcX12_about_0 2 rfl) rfl
theorem dX12_about_80 : decode cX12_about 80 = .ok (.ireturn, 1) := dk_172 (dw rcX12_about_0 3 rfl)
theorem dX12_about_81 : decode cX12_about 81 = .ok (.aload_n 0, 1) := dk_42 (dw rcX12_about_0 4 rfl)
theorem dX12_about_82 : decode cX12_about 82 = .ok (.getfield 428, 3) := dk_180 (dw rcX12_about_0 5 rfl) rfl
theorem dX12_about_85 : decode cX12_about 85 = .ok (.ireturn, 1) := dk_172 (dw rcX12_about_0 6 rfl)
theorem dX12_about_86 : decode cX12_about 86 = .ok (.aload_n 0, 1) := dk_42 (dw rcX12_about_0 7 rfl)
theorem dX12_about_87 : decode cX12_about 87 = .ok (.getfield 431, 3) := dk_180 (dw rcX12_about_0 8 rfl) rfl
theorem dX12_about_90 : decode cX12_about 90 = .ok (.ireturn, 1) := dk_172 (dw rcX12_about_0 9 rfl)
theorem dX12_about_91 : decode cX12_about 91 = .ok (.aload_n 0, 1) := dk_42 (dw rcX12_about_0 10 rfl)
theorem dX12_about_92 : decode cX12_about 92 = .ok (.getfield 151, 3) := dk_180 (dw rcX12_about_0 11 rfl) rfl
theorem dX12_about_95 : decode cX12_about 95 = .ok (.bipush 6, 2) := dk_16 (dw rcX12_about_0 12 rfl) rfl
theorem dX12_about_97 : decode cX12_about 97 = .ok (.iaload, 1) := dk_46 (dw rcX12_about_0 13 rfl)
theorem dX12_about_98 : decode cX12_about 98 = .ok (.ireturn, 1) := dk_172 (dw rcX12_about_0 14 rfl)
theorem dX12_about_99 : decode cX12_about 99 = .ok (.aload_n 0, 1) := dk_42 (dw rcX12_about_0 15 rfl)
theorem dX12_about_100 : decode cX12_about 100 = .ok (.getfield 151, 3) := dk_180 (dw rcX12_about_0 16 rfl) rfl
theorem dX12_about_103 : decode cX12_about 103 = .ok (.bipush 7, 2) := dk_16 (dw rcX12_about_0 17 rfl) rfl
theorem dX12_about_105 : decode cX12_about 105 = .ok (.iaload, 1) := dk_46 (dw rcX12_about_0 18 rfl)
theorem dX12_about_106 : decode cX12_about 106 = .ok (.ireturn, 1) := dk_172 (dw rcX12_about_0 19 rfl)
theorem dX12_about_107 : decode cX12_about 107 = .ok (.aload_n 0, 1) := dk_42 (dw rcX12_about_0 20 rfl)
theorem dX12_about_108 : decode cX12_about 108 = .ok (.getfield 151, 3) := dk_180 (dw rcX12_about_0 21 rfl) rfl
theorem dX12_about_111 : decode cX12_about 111 = .ok (.bipush 8, 2) := dk_16 (dw rcX12_about_0 22 rfl) rfl
theorem dX12_about_113 : decode cX12_about 113 = .ok (.iaload, 1) := dk_46 (dw rcX12_about_0 23 rfl)
noncomputable def rbX12_about_114 : List (Nat × List Nat) := [(114, [172]), (115, [42]), (116, [180, 0, 151]), (119, [16, 9]), (121, [46]), (122, [172]), (123, [42]), (124, [180, 1, 181]), (127, [172]), (128, [42]), (129, [180, 1, 184]), (132, [172]), (133, [42]), (134, [180, 1, 187]), (137, [172]), (138, [42]), (139, [180, 2, 81]), (142, [172]), (143, [42]), (144, [180, 0, 178]), (147, [172]), (148, [42]), (149, [180, 1, 178]), (152, [172])]
theorem rcX12_about_114 : dgo (lb cX12_about) 0 rbX12_about_114 = true := by decide +kernel
theorem dX12_about_114 : decode cX12_about 114 = .ok (.ireturn, 1) := dk_172 (dw rcX12_about_114 0 rfl)
theorem dX12_about_115 : decode cX12_about 115 = .ok (.aload_n 0, 1) := dk_42 (dw rcX12_about_114 1 rfl)
theorem dX12_about_116 : decode cX12_about 116 = .ok (.getfield 151, 3) := dk_180 (dw rcX12_about_114 2 rfl) rfl
theorem dX12_about_119 : decode cX12_about 119 = .ok (.bipush 9, 2) := dk_16 (dw rcX12_about_114 3 rfl) rfl
theorem dX12_about_121 : decode cX12_about 121 = .ok (.iaload, 1) := dk_46 (dw rcX12_about_114 4 rfl)
theorem dX12_about_122 : decode cX12_about 122 = .ok (.ireturn, 1) := dk_172 (dw rcX12_about_114 5 rfl)
theorem dX12_about_123 : decode cX12_about 123 = .ok (.aload_n 0, 1) := dk_42 (dw rcX12_about_114 6 rfl)
theorem dX12_about_124 : decode cX12_about 124 = .ok (.getfield 437, 3) := dk_180 (dw rcX12_about_114 7 rfl) rfl
theorem dX12_about_127 : decode cX12_about 127 = .ok (.ireturn, 1) := dk_172 (dw rcX12_about_114 8 rfl)
theorem dX12_about_128 : decode cX12_about 128 = .ok (.aload_n 0, 1) := dk_42 (dw rcX12_about_114 9 rfl)
theorem dX12_about_129 : decode cX12_about 129 = .ok (.getfield 440, 3) := dk_180 (dw rcX12_about_114 10 rfl) rfl
theorem dX12_about_132 : decode cX12_about 132 = .ok (.ireturn, 1) := dk_172 (dw rcX12_about_114 11 rfl)
theorem dX12_about_133 : decode cX12_about 133 = .ok (.aload_n 0, 1) := dk_42 (dw rcX12_about_114 12 rfl)
theorem dX12_about_134 : decode cX12_about 134 = .ok (.getfield 443, 3) := dk_180 (dw rcX12_about_114 13 rfl) rfl
theorem dX12_about_137 : decode cX12_about 137 = .ok (.ireturn, 1) := dk_172 (dw rcX12_about_114 14 rfl)
theorem dX12_about_138 : decode cX12_about 138 = .ok (.aload_n 0, 1) := dk_42 (dw rcX12_about_114 15 rfl)
theorem dX12_about_139 : decode cX12_about 139 = .ok (.getfield 593, 3) := dk_180 (dw rcX12_about_114 16 rfl) rfl
theorem dX12_about_142 : decode cX12_about 142 = .ok (.ireturn, 1) := dk_172 (dw rcX12_about_114 17 rfl)
theorem dX12_about_143 : decode cX12_about 143 = .ok (.aload_n 0, 1) := dk_42 (dw rcX12_about_114 18 rfl)
theorem dX12_about_144 : decode cX12_about 144 = .ok (.getfield 178, 3) := dk_180 (dw rcX12_about_114 19 rfl) rfl
theorem dX12_about_147 : decode cX12_about 147 = .ok (.ireturn, 1) := dk_172 (dw rcX12_about_114 20 rfl)
theorem dX12_about_148 : decode cX12_about 148 = .ok (.aload_n 0, 1) := dk_42 (dw rcX12_about_114 21 rfl)
theorem dX12_about_149 : decode cX12_about 149 = .ok (.getfield 434, 3) := dk_180 (dw rcX12_about_114 22 rfl) rfl
theorem dX12_about_152 : decode cX12_about 152 = .ok (.ireturn, 1) := dk_172 (dw rcX12_about_114 23 rfl)
noncomputable def rbX12_about_153 : List (Nat × List Nat) := [(153, [42]), (154, [180, 1, 190]), (157, [172]), (158, [42]), (159, [182, 2, 41]), (162, [172]), (163, [2]), (164, [172])]
theorem rcX12_about_153 : dgo (lb cX12_about) 0 rbX12_about_153 = true := by decide +kernel
theorem dX12_about_153 : decode cX12_about 153 = .ok (.aload_n 0, 1) := dk_42 (dw rcX12_about_153 0 rfl)
theorem dX12_about_154 : decode cX12_about 154 = .ok (.getfield 446, 3) := dk_180 (dw rcX12_about_153 1 rfl) rfl
theorem dX12_about_157 : decode cX12_about 157 = .ok (.ireturn, 1) := dk_172 (dw rcX12_about_153 2 rfl)
theorem dX12_about_158 : decode cX12_about 158 = .ok (.aload_n 0, 1) := dk_42 (dw rcX12_about_153 3 rfl)
theorem dX12_about_159 : decode cX12_about 159 = .ok (.invokevirtual 553, 3) := dk_182 (dw rcX12_about_153 4 rfl) rfl
theorem dX12_about_162 : decode cX12_about 162 = .ok (.ireturn, 1) := dk_172 (dw rcX12_about_153 5 rfl)
theorem dX12_about_163 : decode cX12_about 163 = .ok (.iconst (-1), 1) := dk_2 (dw rcX12_about_153 6 rfl)
theorem dX12_about_164 : decode cX12_about 164 = .ok (.ireturn, 1) := dk_172 (dw rcX12_about_153 7 rfl)
noncomputable def rbX12_counts_0 : List (Nat × List Nat) := [(0, [42]), (1, [180, 0, 166]), (4, [27]), (5, [46]), (6, [28]), (7, [163, 0, 26]), (10, [42]), (11, [180, 0, 169]), (14, [27]), (15, [46]), (16, [155, 0, 13]), (19, [42]), (20, [180, 0, 169]), (23, [27]), (24, [46]), (25, [28]), (26, [164, 0, 7]), (29, [4]), (30, [167, 0, 4]), (33, [3]), (34, [172])]
theorem rcX12_counts_0 : dgo (lb cX12_counts) 0 rbX12_counts_0 = true := by decide +kernel
theorem dX12_counts_0 : decode cX12_counts 0 = .ok (.aload_n 0, 1) := dk_42 (dw rcX12_counts_0 0 rfl)
theorem dX12_counts_1 : decode cX12_counts 1 = .ok (.getfield 166, 3) := dk_180 (dw rcX12_counts_0 1 rfl) rfl
theorem dX12_counts_4 : decode cX12_counts 4 = .ok (.iload_n 1, 1) := dk_27 (dw rcX12_counts_0 2 rfl)
theorem dX12_counts_5 : decode cX12_counts 5 = .ok (.iaload, 1) := dk_46 (dw rcX12_counts_0 3 rfl)
theorem dX12_counts_6 : decode cX12_counts 6 = .ok (.iload_n 2, 1) := dk_28 (dw rcX12_counts_0 4 rfl)
theorem dX12_counts_7 : decode cX12_counts 7 = .ok (.if_icmp .gt 26, 3) := dk_163 (dw rcX12_counts_0 5 rfl) rfl
theorem dX12_counts_10 : decode cX12_counts 10 = .ok (.aload_n 0, 1) := dk_42 (dw rcX12_counts_0 6 rfl)
theorem dX12_counts_11 : decode cX12_counts 11 = .ok (.getfield 169, 3) := dk_180 (dw rcX12_counts_0 7 rfl) rfl
theorem dX12_counts_14 : decode cX12_counts 14 = .ok (.iload_n 1, 1) := dk_27 (dw rcX12_counts_0 8 rfl)
theorem dX12_counts_15 : decode cX12_counts 15 = .ok (.iaload, 1) := dk_46 (dw rcX12_counts_0 9 rfl)
theorem dX12_counts_16 : decode cX12_counts 16 = .ok (.ifCond .lt 13, 3) := dk_155 (dw rcX12_counts_0 10 rfl) rfl
theorem dX12_counts_19 : decode cX12_counts 19 = .ok (.aload_n 0, 1) := dk_42 (dw rcX12_counts_0 11 rfl)
theorem dX12_counts_20 : decode cX12_counts 20 = .ok (.getfield 169, 3) := dk_180 (dw rcX12_counts_0 12 rfl) rfl
theorem dX12_counts_23 : decode cX12_counts 23 = .ok (.iload_n 1, 1) := dk_27 (dw rcX12_counts_0 13 rfl)
theorem dX12_counts_24 : decode cX12_counts 24 = .ok (.iaload, 1) := dk_46 (dw rcX12_counts_0 14 rfl)
theorem dX12_counts_25 : decode cX12_counts 25 = .ok (.iload_n 2, 1) := dk_28 (dw rcX12_counts_0 15 rfl)
theorem dX12_counts_26 : decode cX12_counts 26 = .ok (.if_icmp .le 7, 3) := dk_164 (dw rcX12_counts_0 16 rfl) rfl
theorem dX12_counts_29 : decode cX12_counts 29 = .ok (.iconst 1, 1) := dk_4 (dw rcX12_counts_0 17 rfl)
theorem dX12_counts_30 : decode cX12_counts 30 = .ok (.goto 4, 3) := dk_167 (dw rcX12_counts_0 18 rfl) rfl
theorem dX12_counts_33 : decode cX12_counts 33 = .ok (.iconst 0, 1) := dk_3 (dw rcX12_counts_0 19 rfl)
theorem dX12_counts_34 : decode cX12_counts 34 = .ok (.ireturn, 1) := dk_172 (dw rcX12_counts_0 20 rfl)
set_option maxHeartbeats 4000000 in
set_option maxRecDepth 100000 in
theorem n_counts (l : Launch) (D : va_G) (k : KT) (A : Nat → Prop) (a : Nat → Nat) (z : SK) (G : GS) (p0 : Int32) (p1 : Int32) (ha_p0 : 0 ≤ p0.toInt ∧ p0.toInt ≤ 19) : Met l yX12_counts (WS yX12_counts cX12_counts 3 (some .boolean)) ({ frames := 0, cells := 0, slots := 0, locals := 0 }) (va_Pc [.ref (a 66), .int p0, .int p1] (cW D k A a z G)) (va_Qi (fun (r : Int32) (G1 : GS) => Q_counts p0 p1 G r G1) (fun (G1 : GS) t => Wd D k A a G1 t.heap) A) 0 0 A := by
  refine Met.ofW (cc := cX12_counts) (maxL := 3) (ret := (some .boolean)) (by decide) rfl ?_
  intro p e s m args below meth c s₁ B hml hv
  obtain ⟨rfl, hW, hB_G, hK, hZ⟩ := hv
  have hx := B.exec
  have hb := B.bytes
  have hr := B.returns
  have hts := atoms_spec (ws := WS yX12_counts cX12_counts 3 (some .boolean)) B.pre
  have hgd : ∀ w ∈ gd, w ∈ WS yX12_counts cX12_counts 3 (some .boolean) := fun w h => List.mem_cons_of_mem _ h
  have hg : ∀ w ∈ gd, w.before _ s = true := fun w h => hts w (hgd w h)
  have hown : s.vm.findClass RX12 = some m.cls := findClass_of_methodNamed B.named
  have hS : va_S A s.heap s.heap [] := va_S.rf
  have hF : Fr [] [] G G := Fr.rf
  have hl := lv_entry ([.ref (a 66), .int p0, .int p1]) (n := 3) (Nat.le_of_ble_eq_true rfl)
  rw [lg_entry_eq]
  generalize (lg_sl ([.ref (a 66), .int p0, .int p1]) ++ List.replicate (3 - (lg_sl ([.ref (a 66), .int p0, .int p1])).length) Slot.unset).toArray = ls at hl ⊢
  have hl : lv_has ls 3 [(0, .ref (a 66)), (1, .int p0), (2, .int p1)] := hl
  refine lv_aload_n hx hb dX12_counts_0 rfl (lv_at hl 0 rfl) ?_
  refine S_getR (n := 115) (C := RX12) (T := TX12) (N := 89) hx hb hg iX12 hown hK hW kd_66 rfl 83 (lt_b rfl) (hg (Cond.fieldLink RX12 166 "SlabWalkModel" "sightTold" "[I") m1397) (fun _ h9 => h9) rfl dX12_counts_1 ?_
  refine lv_iload_n hx hb dX12_counts_4 rfl (lv_at hl 1 rfl) ?_
  refine S_iald hx hb hK hW kd_115 (vin ((by first | exact ha_p0.1 | omega)) ((by first | exact ok_199 ha_p0.2 | omega))) dX12_counts_5 (fun y_1 ey_1 => ?_)
  refine lv_iload_n hx hb dX12_counts_6 rfl (lv_at hl 2 rfl) ?_
  refine lv_icmp_gt (tgt := 33) hx hb dX12_counts_7 rfl (fun c_2 => ?_) (fun c_2 => ?_)
  · have c_2 : p1.toInt < y_1.toInt := xI_lt rfl rfl c_2
    refine ic_0 hx hb dX12_counts_33 ?_
    exact W.zret (v := 0) hx hb hr (by decide) (fun t ht _ => ⟨⟨0, G, rfl, (Q_counts_mk ⟨hB_G, hF, ⟨by decide, by decide⟩, ⟨y_1, ey_1, (Or.inl ⟨c_2, ⟨rfl, rfl⟩⟩)⟩⟩), wd_t ht hW⟩, hS.F ht⟩) hS.2.2 dX12_counts_34
  · have c_2 : y_1.toInt ≤ p1.toInt := xI_nlt rfl rfl c_2
    refine lv_aload_n hx hb dX12_counts_10 rfl (lv_at hl 0 rfl) ?_
    refine S_getR (n := 116) (C := RX12) (T := TX12) (N := 89) hx hb hg iX12 hown hK hW kd_66 rfl 84 (lt_b rfl) (hg (Cond.fieldLink RX12 169 "SlabWalkModel" "sightUntold" "[I") m1398) (fun _ h9 => h9) rfl dX12_counts_11 ?_
    refine lv_iload_n hx hb dX12_counts_14 rfl (lv_at hl 1 rfl) ?_
    refine S_iald hx hb hK hW kd_116 (vin ((by first | exact ha_p0.1 | omega)) ((by first | exact ok_199 ha_p0.2 | omega))) dX12_counts_15 (fun y_3 ey_3 => ?_)
    refine lv_if_lt (tgt := 29) hx hb dX12_counts_16 rfl (fun c_4 => ?_) (fun c_4 => ?_)
    · have c_4 : y_3.toInt < 0 := xI_lt rfl rfl c_4
      refine ic_1 hx hb dX12_counts_29 ?_
      refine lv_goto (tgt := 34) hx hb dX12_counts_30 rfl ?_
      exact W.zret (v := 1) hx hb hr (by decide) (fun t ht _ => ⟨⟨1, G, rfl, (Q_counts_mk ⟨hB_G, hF, ⟨by decide, by decide⟩, ⟨y_1, ey_1, (Or.inr ⟨c_2, ⟨y_3, ey_3, (Or.inl ⟨c_4, ⟨rfl, rfl⟩⟩)⟩⟩)⟩⟩), wd_t ht hW⟩, hS.F ht⟩) hS.2.2 dX12_counts_34
    · have c_4 : 0 ≤ y_3.toInt := xI_nlt rfl rfl c_4
      refine lv_aload_n hx hb dX12_counts_19 rfl (lv_at hl 0 rfl) ?_
      refine S_getR (n := 116) (C := RX12) (T := TX12) (N := 89) hx hb hg iX12 hown hK hW kd_66 rfl 84 (lt_b rfl) (hg (Cond.fieldLink RX12 169 "SlabWalkModel" "sightUntold" "[I") m1398) (fun _ h9 => h9) rfl dX12_counts_20 ?_
      refine lv_iload_n hx hb dX12_counts_23 rfl (lv_at hl 1 rfl) ?_
      refine S_iald hx hb hK hW kd_116 (vin ((by first | exact ha_p0.1 | omega)) ((by first | exact ok_199 ha_p0.2 | omega))) dX12_counts_24 (fun y_5 ey_5 => ?_)
      refine lv_iload_n hx hb dX12_counts_25 rfl (lv_at hl 2 rfl) ?_
      refine lv_icmp_le (tgt := 33) hx hb dX12_counts_26 rfl (fun c_6 => ?_) (fun c_6 => ?_)
      · have c_6 : y_5.toInt ≤ p1.toInt := xI_le rfl rfl c_6
        refine ic_0 hx hb dX12_counts_33 ?_
        exact W.zret (v := 0) hx hb hr (by decide) (fun t ht _ => ⟨⟨0, G, rfl, (Q_counts_mk ⟨hB_G, hF, ⟨by decide, by decide⟩, ⟨y_1, ey_1, (Or.inr ⟨c_2, ⟨y_3, ey_3, (Or.inr ⟨c_4, ⟨y_5, ey_5, (Or.inl ⟨c_6, ⟨rfl, rfl⟩⟩)⟩⟩)⟩⟩)⟩⟩), wd_t ht hW⟩, hS.F ht⟩) hS.2.2 dX12_counts_34
      · have c_6 : p1.toInt < y_5.toInt := xI_nle rfl rfl c_6
        refine ic_1 hx hb dX12_counts_29 ?_
        refine lv_goto (tgt := 34) hx hb dX12_counts_30 rfl ?_
        exact W.zret (v := 1) hx hb hr (by decide) (fun t ht _ => ⟨⟨1, G, rfl, (Q_counts_mk ⟨hB_G, hF, ⟨by decide, by decide⟩, ⟨y_1, ey_1, (Or.inr ⟨c_2, ⟨y_3, ey_3, (Or.inr ⟨c_4, ⟨y_5, ey_5, (Or.inr ⟨c_6, ⟨rfl, rfl⟩⟩)⟩⟩)⟩⟩)⟩⟩), wd_t ht hW⟩, hS.F ht⟩) hS.2.2 dX12_counts_34

set_option maxHeartbeats 4000000 in
set_option maxRecDepth 100000 in
theorem n_about (l : Launch) (D : va_G) (k : KT) (A : Nat → Prop) (a : Nat → Nat) (z : SK) (G : GS) (p0 : Int32)  : Met l yX12_about (WS yX12_about cX12_about 2 (some .int)) ({ frames := 1, cells := 0, slots := 0, locals := 20 }) (va_Pc [.ref (a 66), .int p0] (cW D k A a z G)) (va_Qi (fun (r : Int32) (G1 : GS) => Q_about p0 G r G1) (fun (G1 : GS) t => Wd D k A a G1 t.heap) A) 0 0 A := by
  refine Met.ofW (cc := cX12_about) (maxL := 2) (ret := (some .int)) (by decide) rfl ?_
  intro p e s m args below meth c s₁ B hml hv
  obtain ⟨rfl, hW, hB_G, hK, hZ⟩ := hv
  have hx := B.exec
  have hb := B.bytes
  have hr := B.returns
  have hts := atoms_spec (ws := WS yX12_about cX12_about 2 (some .int)) B.pre
  have hgd : ∀ w ∈ gd, w ∈ WS yX12_about cX12_about 2 (some .int) := fun w h => List.mem_cons_of_mem _ h
  have hg : ∀ w ∈ gd, w.before _ s = true := fun w h => hts w (hgd w h)
  have hown : s.vm.findClass RX12 = some m.cls := findClass_of_methodNamed B.named
  have hS : va_S A s.heap s.heap [] := va_S.rf
  have hF : Fr [] [] G G := Fr.rf
  have hl := lv_entry ([.ref (a 66), .int p0]) (n := 2) (Nat.le_of_ble_eq_true rfl)
  rw [lg_entry_eq]
  generalize (lg_sl ([.ref (a 66), .int p0]) ++ List.replicate (2 - (lg_sl ([.ref (a 66), .int p0])).length) Slot.unset).toArray = ls at hl ⊢
  have hl : lv_has ls 2 [(0, .ref (a 66)), (1, .int p0)] := hl
  refine lv_iload_n hx hb dX12_about_0 rfl (lv_at hl 1 rfl) ?_
  by_cases c_1 : p0 = 0
  · refine lv_tableIn (tgt := 76) hx hb dX12_about_1 (by rw [c_1]; decide) (by rw [c_1]; decide) (off := 75) (by rw [c_1]; decide) (by decide) ?_
    have c_1 : p0.toInt = 0 := xI_eq rfl rfl c_1
    refine lv_aload_n hx hb dX12_about_76 rfl (lv_at hl 0 rfl) ?_
    have b_2 : 0 ≤ (G.1 66 52).toInt ∧ (G.1 66 52).toInt ≤ 3 := bd_66_52 hB_G
    refine S_getI (v := (G.1 66 52)) (C := RX12) (T := TX12) (N := 89) hx hb hg iX12 hown hK hW kd_66 rfl 52 (lt_b rfl) (hg (Cond.fieldLink RX12 425 "SlabWalkModel" "streets" "I") m1366) (fun _ h9 => h9) rfl rfl dX12_about_77 ?_
    exact W.iret (v := (G.1 66 52)) hx hb hr (fun t ht _ => ⟨⟨(G.1 66 52), G, rfl, (Q_about_mk ⟨hB_G, hF, (Or.inl ⟨c_1, ⟨rfl, rfl⟩⟩)⟩), wd_t ht hW⟩, hS.F ht⟩) hS.2.2 dX12_about_80
  by_cases c_3 : p0 = 1
  · refine lv_tableIn (tgt := 81) hx hb dX12_about_1 (by rw [c_3]; decide) (by rw [c_3]; decide) (off := 80) (by rw [c_3]; decide) (by decide) ?_
    have c_3 : p0.toInt = 1 := xI_eq rfl rfl c_3
    refine lv_aload_n hx hb dX12_about_81 rfl (lv_at hl 0 rfl) ?_
    have b_4 : 0 ≤ (G.1 66 53).toInt ∧ (G.1 66 53).toInt ≤ 4 := bd_66_53 hB_G
    refine S_getI (v := (G.1 66 53)) (C := RX12) (T := TX12) (N := 89) hx hb hg iX12 hown hK hW kd_66 rfl 53 (lt_b rfl) (hg (Cond.fieldLink RX12 428 "SlabWalkModel" "walkers" "I") m1367) (fun _ h9 => h9) rfl rfl dX12_about_82 ?_
    exact W.iret (v := (G.1 66 53)) hx hb hr (fun t ht _ => ⟨⟨(G.1 66 53), G, rfl, (Q_about_mk ⟨hB_G, hF, (Or.inr ⟨(xI_ne (Y := 0) rfl rfl c_1), (Or.inl ⟨c_3, ⟨rfl, rfl⟩⟩)⟩)⟩), wd_t ht hW⟩, hS.F ht⟩) hS.2.2 dX12_about_85
  by_cases c_5 : p0 = 2
  · refine lv_tableIn (tgt := 86) hx hb dX12_about_1 (by rw [c_5]; decide) (by rw [c_5]; decide) (off := 85) (by rw [c_5]; decide) (by decide) ?_
    have c_5 : p0.toInt = 2 := xI_eq rfl rfl c_5
    refine lv_aload_n hx hb dX12_about_86 rfl (lv_at hl 0 rfl) ?_
    have b_6 : 0 ≤ (G.1 66 54).toInt ∧ (G.1 66 54).toInt ≤ 6 := bd_66_54 hB_G
    refine S_getI (v := (G.1 66 54)) (C := RX12) (T := TX12) (N := 89) hx hb hg iX12 hown hK hW kd_66 rfl 54 (lt_b rfl) (hg (Cond.fieldLink RX12 431 "SlabWalkModel" "rules" "I") m1368) (fun _ h9 => h9) rfl rfl dX12_about_87 ?_
    exact W.iret (v := (G.1 66 54)) hx hb hr (fun t ht _ => ⟨⟨(G.1 66 54), G, rfl, (Q_about_mk ⟨hB_G, hF, (Or.inr ⟨(xI_ne (Y := 0) rfl rfl c_1), (Or.inr ⟨(xI_ne (Y := 1) rfl rfl c_3), (Or.inl ⟨c_5, ⟨rfl, rfl⟩⟩)⟩)⟩)⟩), wd_t ht hW⟩, hS.F ht⟩) hS.2.2 dX12_about_90
  by_cases c_7 : p0 = 3
  · refine lv_tableIn (tgt := 91) hx hb dX12_about_1 (by rw [c_7]; decide) (by rw [c_7]; decide) (off := 90) (by rw [c_7]; decide) (by decide) ?_
    have c_7 : p0.toInt = 3 := xI_eq rfl rfl c_7
    refine lv_aload_n hx hb dX12_about_91 rfl (lv_at hl 0 rfl) ?_
    refine S_getR (n := 110) (C := RX12) (T := TX12) (N := 89) hx hb hg iX12 hown hK hW kd_66 rfl 76 (lt_b rfl) (hg (Cond.fieldLink RX12 151 "SlabWalkModel" "now" "[I") m1390) (fun _ h9 => h9) rfl dX12_about_92 ?_
    refine lv_bipush (v := 6) hx hb dX12_about_95 (by decide) ?_
    refine S_iald hx hb hK hW kd_110 (vin (by decide) (by decide)) dX12_about_97 (fun y_8 ey_8 => ?_)
    exact W.iret (v := y_8) hx hb hr (fun t ht _ => ⟨⟨y_8, G, rfl, (Q_about_mk ⟨hB_G, hF, (Or.inr ⟨(xI_ne (Y := 0) rfl rfl c_1), (Or.inr ⟨(xI_ne (Y := 1) rfl rfl c_3), (Or.inr ⟨(xI_ne (Y := 2) rfl rfl c_5), (Or.inl ⟨c_7, ⟨y_8, ey_8, ⟨rfl, rfl⟩⟩⟩)⟩)⟩)⟩)⟩), wd_t ht hW⟩, hS.F ht⟩) hS.2.2 dX12_about_98
  by_cases c_9 : p0 = 4
  · refine lv_tableIn (tgt := 99) hx hb dX12_about_1 (by rw [c_9]; decide) (by rw [c_9]; decide) (off := 98) (by rw [c_9]; decide) (by decide) ?_
    have c_9 : p0.toInt = 4 := xI_eq rfl rfl c_9
    refine lv_aload_n hx hb dX12_about_99 rfl (lv_at hl 0 rfl) ?_
    refine S_getR (n := 110) (C := RX12) (T := TX12) (N := 89) hx hb hg iX12 hown hK hW kd_66 rfl 76 (lt_b rfl) (hg (Cond.fieldLink RX12 151 "SlabWalkModel" "now" "[I") m1390) (fun _ h9 => h9) rfl dX12_about_100 ?_
    refine lv_bipush (v := 7) hx hb dX12_about_103 (by decide) ?_
    refine S_iald hx hb hK hW kd_110 (vin (by decide) (by decide)) dX12_about_105 (fun y_10 ey_10 => ?_)
    exact W.iret (v := y_10) hx hb hr (fun t ht _ => ⟨⟨y_10, G, rfl, (Q_about_mk ⟨hB_G, hF, (Or.inr ⟨(xI_ne (Y := 0) rfl rfl c_1), (Or.inr ⟨(xI_ne (Y := 1) rfl rfl c_3), (Or.inr ⟨(xI_ne (Y := 2) rfl rfl c_5), (Or.inr ⟨(xI_ne (Y := 3) rfl rfl c_7), (Or.inl ⟨c_9, ⟨y_10, ey_10, ⟨rfl, rfl⟩⟩⟩)⟩)⟩)⟩)⟩)⟩), wd_t ht hW⟩, hS.F ht⟩) hS.2.2 dX12_about_106
  by_cases c_11 : p0 = 5
  · refine lv_tableIn (tgt := 107) hx hb dX12_about_1 (by rw [c_11]; decide) (by rw [c_11]; decide) (off := 106) (by rw [c_11]; decide) (by decide) ?_
    have c_11 : p0.toInt = 5 := xI_eq rfl rfl c_11
    refine lv_aload_n hx hb dX12_about_107 rfl (lv_at hl 0 rfl) ?_
    refine S_getR (n := 110) (C := RX12) (T := TX12) (N := 89) hx hb hg iX12 hown hK hW kd_66 rfl 76 (lt_b rfl) (hg (Cond.fieldLink RX12 151 "SlabWalkModel" "now" "[I") m1390) (fun _ h9 => h9) rfl dX12_about_108 ?_
    refine lv_bipush (v := 8) hx hb dX12_about_111 (by decide) ?_
    refine S_iald hx hb hK hW kd_110 (vin (by decide) (by decide)) dX12_about_113 (fun y_12 ey_12 => ?_)
    exact W.iret (v := y_12) hx hb hr (fun t ht _ => ⟨⟨y_12, G, rfl, (Q_about_mk ⟨hB_G, hF, (Or.inr ⟨(xI_ne (Y := 0) rfl rfl c_1), (Or.inr ⟨(xI_ne (Y := 1) rfl rfl c_3), (Or.inr ⟨(xI_ne (Y := 2) rfl rfl c_5), (Or.inr ⟨(xI_ne (Y := 3) rfl rfl c_7), (Or.inr ⟨(xI_ne (Y := 4) rfl rfl c_9), (Or.inl ⟨c_11, ⟨y_12, ey_12, ⟨rfl, rfl⟩⟩⟩)⟩)⟩)⟩)⟩)⟩)⟩), wd_t ht hW⟩, hS.F ht⟩) hS.2.2 dX12_about_114
  by_cases c_13 : p0 = 6
  · refine lv_tableIn (tgt := 115) hx hb dX12_about_1 (by rw [c_13]; decide) (by rw [c_13]; decide) (off := 114) (by rw [c_13]; decide) (by decide) ?_
    have c_13 : p0.toInt = 6 := xI_eq rfl rfl c_13
    refine lv_aload_n hx hb dX12_about_115 rfl (lv_at hl 0 rfl) ?_
    refine S_getR (n := 110) (C := RX12) (T := TX12) (N := 89) hx hb hg iX12 hown hK hW kd_66 rfl 76 (lt_b rfl) (hg (Cond.fieldLink RX12 151 "SlabWalkModel" "now" "[I") m1390) (fun _ h9 => h9) rfl dX12_about_116 ?_
    refine lv_bipush (v := 9) hx hb dX12_about_119 (by decide) ?_
    refine S_iald hx hb hK hW kd_110 (vin (by decide) (by decide)) dX12_about_121 (fun y_14 ey_14 => ?_)
    exact W.iret (v := y_14) hx hb hr (fun t ht _ => ⟨⟨y_14, G, rfl, (Q_about_mk ⟨hB_G, hF, (Or.inr ⟨(xI_ne (Y := 0) rfl rfl c_1), (Or.inr ⟨(xI_ne (Y := 1) rfl rfl c_3), (Or.inr ⟨(xI_ne (Y := 2) rfl rfl c_5), (Or.inr ⟨(xI_ne (Y := 3) rfl rfl c_7), (Or.inr ⟨(xI_ne (Y := 4) rfl rfl c_9), (Or.inr ⟨(xI_ne (Y := 5) rfl rfl c_11), (Or.inl ⟨c_13, ⟨y_14, ey_14, ⟨rfl, rfl⟩⟩⟩)⟩)⟩)⟩)⟩)⟩)⟩)⟩), wd_t ht hW⟩, hS.F ht⟩) hS.2.2 dX12_about_122
  by_cases c_15 : p0 = 7
  · refine lv_tableIn (tgt := 123) hx hb dX12_about_1 (by rw [c_15]; decide) (by rw [c_15]; decide) (off := 122) (by rw [c_15]; decide) (by decide) ?_
    have c_15 : p0.toInt = 7 := xI_eq rfl rfl c_15
    refine lv_aload_n hx hb dX12_about_123 rfl (lv_at hl 0 rfl) ?_
    have b_16 : 0 ≤ (G.1 66 78).toInt ∧ (G.1 66 78).toInt ≤ 40 := bd_66_78 hB_G
    refine S_getI (v := (G.1 66 78)) (C := RX12) (T := TX12) (N := 89) hx hb hg iX12 hown hK hW kd_66 rfl 78 (lt_b rfl) (hg (Cond.fieldLink RX12 437 "SlabWalkModel" "acts" "I") m1392) (fun _ h9 => h9) rfl rfl dX12_about_124 ?_
    exact W.iret (v := (G.1 66 78)) hx hb hr (fun t ht _ => ⟨⟨(G.1 66 78), G, rfl, (Q_about_mk ⟨hB_G, hF, (Or.inr ⟨(xI_ne (Y := 0) rfl rfl c_1), (Or.inr ⟨(xI_ne (Y := 1) rfl rfl c_3), (Or.inr ⟨(xI_ne (Y := 2) rfl rfl c_5), (Or.inr ⟨(xI_ne (Y := 3) rfl rfl c_7), (Or.inr ⟨(xI_ne (Y := 4) rfl rfl c_9), (Or.inr ⟨(xI_ne (Y := 5) rfl rfl c_11), (Or.inr ⟨(xI_ne (Y := 6) rfl rfl c_13), (Or.inl ⟨c_15, ⟨rfl, rfl⟩⟩)⟩)⟩)⟩)⟩)⟩)⟩)⟩)⟩), wd_t ht hW⟩, hS.F ht⟩) hS.2.2 dX12_about_127
  by_cases c_17 : p0 = 8
  · refine lv_tableIn (tgt := 128) hx hb dX12_about_1 (by rw [c_17]; decide) (by rw [c_17]; decide) (off := 127) (by rw [c_17]; decide) (by decide) ?_
    have c_17 : p0.toInt = 8 := xI_eq rfl rfl c_17
    refine lv_aload_n hx hb dX12_about_128 rfl (lv_at hl 0 rfl) ?_
    have b_18 : 0 ≤ (G.1 66 79).toInt ∧ (G.1 66 79).toInt ≤ 40 := bd_66_79 hB_G
    refine S_getI (v := (G.1 66 79)) (C := RX12) (T := TX12) (N := 89) hx hb hg iX12 hown hK hW kd_66 rfl 79 (lt_b rfl) (hg (Cond.fieldLink RX12 440 "SlabWalkModel" "undone" "I") m1393) (fun _ h9 => h9) rfl rfl dX12_about_129 ?_
    exact W.iret (v := (G.1 66 79)) hx hb hr (fun t ht _ => ⟨⟨(G.1 66 79), G, rfl, (Q_about_mk ⟨hB_G, hF, (Or.inr ⟨(xI_ne (Y := 0) rfl rfl c_1), (Or.inr ⟨(xI_ne (Y := 1) rfl rfl c_3), (Or.inr ⟨(xI_ne (Y := 2) rfl rfl c_5), (Or.inr ⟨(xI_ne (Y := 3) rfl rfl c_7), (Or.inr ⟨(xI_ne (Y := 4) rfl rfl c_9), (Or.inr ⟨(xI_ne (Y := 5) rfl rfl c_11), (Or.inr ⟨(xI_ne (Y := 6) rfl rfl c_13), (Or.inr ⟨(xI_ne (Y := 7) rfl rfl c_15), (Or.inl ⟨c_17, ⟨rfl, rfl⟩⟩)⟩)⟩)⟩)⟩)⟩)⟩)⟩)⟩)⟩), wd_t ht hW⟩, hS.F ht⟩) hS.2.2 dX12_about_132
  by_cases c_19 : p0 = 9
  · refine lv_tableIn (tgt := 133) hx hb dX12_about_1 (by rw [c_19]; decide) (by rw [c_19]; decide) (off := 132) (by rw [c_19]; decide) (by decide) ?_
    have c_19 : p0.toInt = 9 := xI_eq rfl rfl c_19
    refine lv_aload_n hx hb dX12_about_133 rfl (lv_at hl 0 rfl) ?_
    have b_20 : 0 ≤ (G.1 66 85).toInt ∧ (G.1 66 85).toInt ≤ 20 := bd_66_85 hB_G
    refine S_getI (v := (G.1 66 85)) (C := RX12) (T := TX12) (N := 89) hx hb hg iX12 hown hK hW kd_66 rfl 85 (lt_b rfl) (hg (Cond.fieldLink RX12 443 "SlabWalkModel" "sights" "I") m1399) (fun _ h9 => h9) rfl rfl dX12_about_134 ?_
    exact W.iret (v := (G.1 66 85)) hx hb hr (fun t ht _ => ⟨⟨(G.1 66 85), G, rfl, (Q_about_mk ⟨hB_G, hF, (Or.inr ⟨(xI_ne (Y := 0) rfl rfl c_1), (Or.inr ⟨(xI_ne (Y := 1) rfl rfl c_3), (Or.inr ⟨(xI_ne (Y := 2) rfl rfl c_5), (Or.inr ⟨(xI_ne (Y := 3) rfl rfl c_7), (Or.inr ⟨(xI_ne (Y := 4) rfl rfl c_9), (Or.inr ⟨(xI_ne (Y := 5) rfl rfl c_11), (Or.inr ⟨(xI_ne (Y := 6) rfl rfl c_13), (Or.inr ⟨(xI_ne (Y := 7) rfl rfl c_15), (Or.inr ⟨(xI_ne (Y := 8) rfl rfl c_17), (Or.inl ⟨c_19, ⟨rfl, rfl⟩⟩)⟩)⟩)⟩)⟩)⟩)⟩)⟩)⟩)⟩)⟩), wd_t ht hW⟩, hS.F ht⟩) hS.2.2 dX12_about_137
  by_cases c_21 : p0 = 10
  · refine lv_tableIn (tgt := 138) hx hb dX12_about_1 (by rw [c_21]; decide) (by rw [c_21]; decide) (off := 137) (by rw [c_21]; decide) (by decide) ?_
    have c_21 : p0.toInt = 10 := xI_eq rfl rfl c_21
    refine lv_aload_n hx hb dX12_about_138 rfl (lv_at hl 0 rfl) ?_
    have b_22 : 0 ≤ (G.1 66 86).toInt ∧ (G.1 66 86).toInt ≤ 100000 := bd_66_86 hB_G
    refine S_getI (v := (G.1 66 86)) (C := RX12) (T := TX12) (N := 89) hx hb hg iX12 hown hK hW kd_66 rfl 86 (lt_b rfl) (hg (Cond.fieldLink RX12 593 "SlabWalkModel" "time" "I") m1400) (fun _ h9 => h9) rfl rfl dX12_about_139 ?_
    exact W.iret (v := (G.1 66 86)) hx hb hr (fun t ht _ => ⟨⟨(G.1 66 86), G, rfl, (Q_about_mk ⟨hB_G, hF, (Or.inr ⟨(xI_ne (Y := 0) rfl rfl c_1), (Or.inr ⟨(xI_ne (Y := 1) rfl rfl c_3), (Or.inr ⟨(xI_ne (Y := 2) rfl rfl c_5), (Or.inr ⟨(xI_ne (Y := 3) rfl rfl c_7), (Or.inr ⟨(xI_ne (Y := 4) rfl rfl c_9), (Or.inr ⟨(xI_ne (Y := 5) rfl rfl c_11), (Or.inr ⟨(xI_ne (Y := 6) rfl rfl c_13), (Or.inr ⟨(xI_ne (Y := 7) rfl rfl c_15), (Or.inr ⟨(xI_ne (Y := 8) rfl rfl c_17), (Or.inr ⟨(xI_ne (Y := 9) rfl rfl c_19), (Or.inl ⟨c_21, ⟨rfl, rfl⟩⟩)⟩)⟩)⟩)⟩)⟩)⟩)⟩)⟩)⟩)⟩)⟩), wd_t ht hW⟩, hS.F ht⟩) hS.2.2 dX12_about_142
  by_cases c_23 : p0 = 11
  · refine lv_tableIn (tgt := 143) hx hb dX12_about_1 (by rw [c_23]; decide) (by rw [c_23]; decide) (off := 142) (by rw [c_23]; decide) (by decide) ?_
    have c_23 : p0.toInt = 11 := xI_eq rfl rfl c_23
    refine lv_aload_n hx hb dX12_about_143 rfl (lv_at hl 0 rfl) ?_
    have b_24 : 0 ≤ (G.1 66 1).toInt ∧ (G.1 66 1).toInt ≤ 1600 := bd_66_1 hB_G
    refine S_getI (v := (G.1 66 1)) (C := RX12) (T := TX12) (N := 89) hx hb hg iX12 hown hK hW kd_66 rfl 1 (lt_b rfl) (hg (Cond.fieldLink RX12 178 "SlabWalkModel" "taped" "I") m1315) (fun _ h9 => h9) rfl rfl dX12_about_144 ?_
    exact W.iret (v := (G.1 66 1)) hx hb hr (fun t ht _ => ⟨⟨(G.1 66 1), G, rfl, (Q_about_mk ⟨hB_G, hF, (Or.inr ⟨(xI_ne (Y := 0) rfl rfl c_1), (Or.inr ⟨(xI_ne (Y := 1) rfl rfl c_3), (Or.inr ⟨(xI_ne (Y := 2) rfl rfl c_5), (Or.inr ⟨(xI_ne (Y := 3) rfl rfl c_7), (Or.inr ⟨(xI_ne (Y := 4) rfl rfl c_9), (Or.inr ⟨(xI_ne (Y := 5) rfl rfl c_11), (Or.inr ⟨(xI_ne (Y := 6) rfl rfl c_13), (Or.inr ⟨(xI_ne (Y := 7) rfl rfl c_15), (Or.inr ⟨(xI_ne (Y := 8) rfl rfl c_17), (Or.inr ⟨(xI_ne (Y := 9) rfl rfl c_19), (Or.inr ⟨(xI_ne (Y := 10) rfl rfl c_21), (Or.inl ⟨c_23, ⟨rfl, rfl⟩⟩)⟩)⟩)⟩)⟩)⟩)⟩)⟩)⟩)⟩)⟩)⟩)⟩), wd_t ht hW⟩, hS.F ht⟩) hS.2.2 dX12_about_147
  by_cases c_25 : p0 = 12
  · refine lv_tableIn (tgt := 148) hx hb dX12_about_1 (by rw [c_25]; decide) (by rw [c_25]; decide) (off := 147) (by rw [c_25]; decide) (by decide) ?_
    have c_25 : p0.toInt = 12 := xI_eq rfl rfl c_25
    refine lv_aload_n hx hb dX12_about_148 rfl (lv_at hl 0 rfl) ?_
    refine S_getI (v := (G.1 66 22)) (C := RX12) (T := TX12) (N := 89) hx hb hg iX12 hown hK hW kd_66 rfl 22 (lt_b rfl) (hg (Cond.fieldLink RX12 434 "SlabWalkModel" "units" "I") m1336) (fun _ h9 => h9) rfl rfl dX12_about_149 ?_
    exact W.iret (v := (G.1 66 22)) hx hb hr (fun t ht _ => ⟨⟨(G.1 66 22), G, rfl, (Q_about_mk ⟨hB_G, hF, (Or.inr ⟨(xI_ne (Y := 0) rfl rfl c_1), (Or.inr ⟨(xI_ne (Y := 1) rfl rfl c_3), (Or.inr ⟨(xI_ne (Y := 2) rfl rfl c_5), (Or.inr ⟨(xI_ne (Y := 3) rfl rfl c_7), (Or.inr ⟨(xI_ne (Y := 4) rfl rfl c_9), (Or.inr ⟨(xI_ne (Y := 5) rfl rfl c_11), (Or.inr ⟨(xI_ne (Y := 6) rfl rfl c_13), (Or.inr ⟨(xI_ne (Y := 7) rfl rfl c_15), (Or.inr ⟨(xI_ne (Y := 8) rfl rfl c_17), (Or.inr ⟨(xI_ne (Y := 9) rfl rfl c_19), (Or.inr ⟨(xI_ne (Y := 10) rfl rfl c_21), (Or.inr ⟨(xI_ne (Y := 11) rfl rfl c_23), (Or.inl ⟨c_25, ⟨rfl, rfl⟩⟩)⟩)⟩)⟩)⟩)⟩)⟩)⟩)⟩)⟩)⟩)⟩)⟩)⟩), wd_t ht hW⟩, hS.F ht⟩) hS.2.2 dX12_about_152
  by_cases c_26 : p0 = 13
  · refine lv_tableIn (tgt := 153) hx hb dX12_about_1 (by rw [c_26]; decide) (by rw [c_26]; decide) (off := 152) (by rw [c_26]; decide) (by decide) ?_
    have c_26 : p0.toInt = 13 := xI_eq rfl rfl c_26
    refine lv_aload_n hx hb dX12_about_153 rfl (lv_at hl 0 rfl) ?_
    have b_27 : 0 ≤ (G.1 66 66).toInt ∧ (G.1 66 66).toInt ≤ 400 := bd_66_66 hB_G
    refine S_getI (v := (G.1 66 66)) (C := RX12) (T := TX12) (N := 89) hx hb hg iX12 hown hK hW kd_66 rfl 66 (lt_b rfl) (hg (Cond.fieldLink RX12 446 "SlabWalkModel" "lain" "I") m1380) (fun _ h9 => h9) rfl rfl dX12_about_154 ?_
    exact W.iret (v := (G.1 66 66)) hx hb hr (fun t ht _ => ⟨⟨(G.1 66 66), G, rfl, (Q_about_mk ⟨hB_G, hF, (Or.inr ⟨(xI_ne (Y := 0) rfl rfl c_1), (Or.inr ⟨(xI_ne (Y := 1) rfl rfl c_3), (Or.inr ⟨(xI_ne (Y := 2) rfl rfl c_5), (Or.inr ⟨(xI_ne (Y := 3) rfl rfl c_7), (Or.inr ⟨(xI_ne (Y := 4) rfl rfl c_9), (Or.inr ⟨(xI_ne (Y := 5) rfl rfl c_11), (Or.inr ⟨(xI_ne (Y := 6) rfl rfl c_13), (Or.inr ⟨(xI_ne (Y := 7) rfl rfl c_15), (Or.inr ⟨(xI_ne (Y := 8) rfl rfl c_17), (Or.inr ⟨(xI_ne (Y := 9) rfl rfl c_19), (Or.inr ⟨(xI_ne (Y := 10) rfl rfl c_21), (Or.inr ⟨(xI_ne (Y := 11) rfl rfl c_23), (Or.inr ⟨(xI_ne (Y := 12) rfl rfl c_25), (Or.inl ⟨c_26, ⟨rfl, rfl⟩⟩)⟩)⟩)⟩)⟩)⟩)⟩)⟩)⟩)⟩)⟩)⟩)⟩)⟩)⟩), wd_t ht hW⟩, hS.F ht⟩) hS.2.2 dX12_about_157
  by_cases c_28 : p0 = 14
  · refine lv_tableIn (tgt := 158) hx hb dX12_about_1 (by rw [c_28]; decide) (by rw [c_28]; decide) (off := 157) (by rw [c_28]; decide) (by decide) ?_
    have c_28 : p0.toInt = 14 := xI_eq rfl rfl c_28
    refine lv_aload_n hx hb dX12_about_158 rfl (lv_at hl 0 rfl) ?_
    refine S_calli (va_runV (As := []) (rest := []) ⟨hx, hb, hml, hown, hts⟩ (n_allSlips l D k A a z G  ) (cwV 0 hts (gd_V hgd m1955 m1957 m106 m131 m1958) rfl rfl rfl hd_X12_allSlips ⟨Nat.le_of_ble_eq_true rfl, Nat.le_of_ble_eq_true rfl⟩) (pre_W hW hB_G hK hZ hS kd_66 rfl) rfl rfl hl.1 rfl (lv_room (Nat.le_of_ble_eq_true rfl)) dX12_about_159 ⟨Nat.le_of_ble_eq_true rfl, Nat.le_of_ble_eq_true rfl⟩) hS (fun r_29 G_30 H locs hpo hW hS => ?_)
    have hX_33 : Q_allSlips G r_29 G_30 := hpo
    obtain ⟨hB_G_30, hq_31, f_34, hp_32, -⟩ := hpo
    have hF := hF.call9 hq_31 rfl rfl
    exact W.iret (v := r_29) hx hb hr (fun t ht _ => ⟨⟨r_29, G_30, rfl, (Q_about_mk ⟨hB_G_30, hF, (Or.inr ⟨(xI_ne (Y := 0) rfl rfl c_1), (Or.inr ⟨(xI_ne (Y := 1) rfl rfl c_3), (Or.inr ⟨(xI_ne (Y := 2) rfl rfl c_5), (Or.inr ⟨(xI_ne (Y := 3) rfl rfl c_7), (Or.inr ⟨(xI_ne (Y := 4) rfl rfl c_9), (Or.inr ⟨(xI_ne (Y := 5) rfl rfl c_11), (Or.inr ⟨(xI_ne (Y := 6) rfl rfl c_13), (Or.inr ⟨(xI_ne (Y := 7) rfl rfl c_15), (Or.inr ⟨(xI_ne (Y := 8) rfl rfl c_17), (Or.inr ⟨(xI_ne (Y := 9) rfl rfl c_19), (Or.inr ⟨(xI_ne (Y := 10) rfl rfl c_21), (Or.inr ⟨(xI_ne (Y := 11) rfl rfl c_23), (Or.inr ⟨(xI_ne (Y := 12) rfl rfl c_25), (Or.inr ⟨(xI_ne (Y := 13) rfl rfl c_26), (Or.inl ⟨c_28, ⟨r_29, G_30, hX_33, ⟨rfl, rfl⟩⟩⟩)⟩)⟩)⟩)⟩)⟩)⟩)⟩)⟩)⟩)⟩)⟩)⟩)⟩)⟩)⟩), wd_t ht hW⟩, hS.F ht⟩) hS.2.2 dX12_about_162
  refine lv_tableOut (tgt := 163) hx hb dX12_about_1 (tb_out (lo := 0) (hi := 14) (by have c_1 := xI_ne (Y := 0) rfl rfl c_1; have c_3 := xI_ne (Y := 1) rfl rfl c_3; have c_5 := xI_ne (Y := 2) rfl rfl c_5; have c_7 := xI_ne (Y := 3) rfl rfl c_7; have c_9 := xI_ne (Y := 4) rfl rfl c_9; have c_11 := xI_ne (Y := 5) rfl rfl c_11; have c_13 := xI_ne (Y := 6) rfl rfl c_13; have c_15 := xI_ne (Y := 7) rfl rfl c_15; have c_17 := xI_ne (Y := 8) rfl rfl c_17; have c_19 := xI_ne (Y := 9) rfl rfl c_19; have c_21 := xI_ne (Y := 10) rfl rfl c_21; have c_23 := xI_ne (Y := 11) rfl rfl c_23; have c_25 := xI_ne (Y := 12) rfl rfl c_25; have c_26 := xI_ne (Y := 13) rfl rfl c_26; have c_28 := xI_ne (Y := 14) rfl rfl c_28; omega)) (by decide) ?_
  have c_1 := xI_ne (Y := 0) rfl rfl c_1
  have c_3 := xI_ne (Y := 1) rfl rfl c_3
  have c_5 := xI_ne (Y := 2) rfl rfl c_5
  have c_7 := xI_ne (Y := 3) rfl rfl c_7
  have c_9 := xI_ne (Y := 4) rfl rfl c_9
  have c_11 := xI_ne (Y := 5) rfl rfl c_11
  have c_13 := xI_ne (Y := 6) rfl rfl c_13
  have c_15 := xI_ne (Y := 7) rfl rfl c_15
  have c_17 := xI_ne (Y := 8) rfl rfl c_17
  have c_19 := xI_ne (Y := 9) rfl rfl c_19
  have c_21 := xI_ne (Y := 10) rfl rfl c_21
  have c_23 := xI_ne (Y := 11) rfl rfl c_23
  have c_25 := xI_ne (Y := 12) rfl rfl c_25
  have c_26 := xI_ne (Y := 13) rfl rfl c_26
  have c_28 := xI_ne (Y := 14) rfl rfl c_28
  refine ic_m1 hx hb dX12_about_163 ?_
  exact W.iret (v := (-1)) hx hb hr (fun t ht _ => ⟨⟨(-1), G, rfl, (Q_about_mk ⟨hB_G, hF, (Or.inr ⟨c_1, (Or.inr ⟨c_3, (Or.inr ⟨c_5, (Or.inr ⟨c_7, (Or.inr ⟨c_9, (Or.inr ⟨c_11, (Or.inr ⟨c_13, (Or.inr ⟨c_15, (Or.inr ⟨c_17, (Or.inr ⟨c_19, (Or.inr ⟨c_21, (Or.inr ⟨c_23, (Or.inr ⟨c_25, (Or.inr ⟨c_26, (Or.inr ⟨c_28, ⟨rfl, rfl⟩⟩)⟩)⟩)⟩)⟩)⟩)⟩)⟩)⟩)⟩)⟩)⟩)⟩)⟩)⟩)⟩), wd_t ht hW⟩, hS.F ht⟩) hS.2.2 dX12_about_164

theorem m111 : Cond.selects RX12 yX12_act yX12_act ∈ gd := gds_7 15 rfl
theorem m113 : Cond.selects RX12 yX12_isRule yX12_isRule ∈ gd := gds_8 1 rfl
theorem m114 : Cond.selects RX12 yX12_exchange yX12_exchange ∈ gd := gds_8 2 rfl
theorem m1391 : Cond.fieldLink RX12 154 "SlabWalkModel" "were" "[I" ∈ gd := gdc_6_4 11 rfl gw_fieldLink
theorem m1991 : Cond.methodLink RX12 581 yX12_act ∈ gd := gdc_8_12 3 rfl gw_methodLink
theorem m1993 : Cond.instanceMethod yX12_act ∈ gd := gdc_8_12 5 rfl gw_instanceMethod
theorem m1994 : Cond.code yX12_act cX12_act 2 none ∈ gd := gdc_8_12 6 rfl gw_code
theorem m2007 : Cond.methodLink RX12 587 yX12_isRule ∈ gd := gdc_8_13 3 rfl gw_methodLink
theorem m2009 : Cond.instanceMethod yX12_isRule ∈ gd := gdc_8_13 5 rfl gw_instanceMethod
theorem m2010 : Cond.code yX12_isRule cX12_isRule 2 (some .boolean) ∈ gd := gdc_8_13 6 rfl gw_code
theorem m2023 : Cond.methodLink RX12 590 yX12_exchange ∈ gd := gdc_8_14 3 rfl gw_methodLink
theorem m2025 : Cond.instanceMethod yX12_exchange ∈ gd := gdc_8_14 5 rfl gw_instanceMethod
theorem m2026 : Cond.code yX12_exchange cX12_exchange 4 none ∈ gd := gdc_8_14 6 rfl gw_code
noncomputable def rbX12_act_0 : List (Nat × List Nat) := [(0, [42]), (1, [180, 1, 181]), (4, [16, 40]), (6, [160, 0, 43]), (9, [3]), (10, [60]), (11, [27]), (12, [17, 2, 112]), (15, [162, 0, 24]), (18, [42]), (19, [180, 0, 154]), (22, [27]), (23, [42]), (24, [180, 0, 154]), (27, [16, 16]), (29, [27]), (30, [96]), (31, [46]), (32, [79]), (33, [132, 1, 1]), (36, [167, 255, 231]), (39, [42]), (40, [89]), (41, [180, 1, 181])]
theorem rcX12_act_0 : dgo (lb cX12_act) 0 rbX12_act_0 = true := by decide +kernel
theorem dX12_act_0 : decode cX12_act 0 = .ok (.aload_n 0, 1) := dk_42 (dw rcX12_act_0 0 rfl)
theorem dX12_act_1 : decode cX12_act 1 = .ok (.getfield 437, 3) := dk_180 (dw rcX12_act_0 1 rfl) rfl
theorem dX12_act_4 : decode cX12_act 4 = .ok (.bipush 40, 2) := dk_16 (dw rcX12_act_0 2 rfl) rfl
theorem dX12_act_6 : decode cX12_act 6 = .ok (.if_icmp .ne 43, 3) := dk_160 (dw rcX12_act_0 3 rfl) rfl
theorem dX12_act_9 : decode cX12_act 9 = .ok (.iconst 0, 1) := dk_3 (dw rcX12_act_0 4 rfl)
theorem dX12_act_10 : decode cX12_act 10 = .ok (.istore_n 1, 1) := dk_60 (dw rcX12_act_0 5 rfl)
theorem dX12_act_11 : decode cX12_act 11 = .ok (.iload_n 1, 1) := dk_27 (dw rcX12_act_0 6 rfl)
theorem dX12_act_12 : decode cX12_act 12 = .ok (.sipush 624, 3) := dk_17 (dw rcX12_act_0 7 rfl) rfl
theorem dX12_act_15 : decode cX12_act 15 = .ok (.if_icmp .ge 24, 3) := dk_162 (dw rcX12_act_0 8 rfl) rfl
theorem dX12_act_18 : decode cX12_act 18 = .ok (.aload_n 0, 1) := dk_42 (dw rcX12_act_0 9 rfl)
theorem dX12_act_19 : decode cX12_act 19 = .ok (.getfield 154, 3) := dk_180 (dw rcX12_act_0 10 rfl) rfl
theorem dX12_act_22 : decode cX12_act 22 = .ok (.iload_n 1, 1) := dk_27 (dw rcX12_act_0 11 rfl)
theorem dX12_act_23 : decode cX12_act 23 = .ok (.aload_n 0, 1) := dk_42 (dw rcX12_act_0 12 rfl)
theorem dX12_act_24 : decode cX12_act 24 = .ok (.getfield 154, 3) := dk_180 (dw rcX12_act_0 13 rfl) rfl
theorem dX12_act_27 : decode cX12_act 27 = .ok (.bipush 16, 2) := dk_16 (dw rcX12_act_0 14 rfl) rfl
theorem dX12_act_29 : decode cX12_act 29 = .ok (.iload_n 1, 1) := dk_27 (dw rcX12_act_0 15 rfl)
theorem dX12_act_30 : decode cX12_act 30 = .ok (.iadd, 1) := dk_96 (dw rcX12_act_0 16 rfl)
theorem dX12_act_31 : decode cX12_act 31 = .ok (.iaload, 1) := dk_46 (dw rcX12_act_0 17 rfl)
theorem dX12_act_32 : decode cX12_act 32 = .ok (.iastore, 1) := dk_79 (dw rcX12_act_0 18 rfl)
theorem dX12_act_33 : decode cX12_act 33 = .ok (.iinc 1 1, 3) := dk_132 (dw rcX12_act_0 19 rfl) rfl
theorem dX12_act_36 : decode cX12_act 36 = .ok (.goto (-25), 3) := dk_167 (dw rcX12_act_0 20 rfl) rfl
theorem dX12_act_39 : decode cX12_act 39 = .ok (.aload_n 0, 1) := dk_42 (dw rcX12_act_0 21 rfl)
theorem dX12_act_40 : decode cX12_act 40 = .ok (.dup, 1) := dk_89 (dw rcX12_act_0 22 rfl)
theorem dX12_act_41 : decode cX12_act 41 = .ok (.getfield 437, 3) := dk_180 (dw rcX12_act_0 23 rfl) rfl
noncomputable def rbX12_act_44 : List (Nat × List Nat) := [(44, [4]), (45, [100]), (46, [181, 1, 181]), (49, [3]), (50, [60]), (51, [27]), (52, [16, 10]), (54, [162, 0, 29]), (57, [42]), (58, [180, 0, 154]), (61, [16, 16]), (63, [42]), (64, [180, 1, 181]), (67, [104]), (68, [27]), (69, [96]), (70, [42]), (71, [180, 0, 151]), (74, [27]), (75, [46]), (76, [79]), (77, [132, 1, 1]), (80, [167, 255, 227]), (83, [42])]
theorem rcX12_act_44 : dgo (lb cX12_act) 0 rbX12_act_44 = true := by decide +kernel
theorem dX12_act_44 : decode cX12_act 44 = .ok (.iconst 1, 1) := dk_4 (dw rcX12_act_44 0 rfl)
theorem dX12_act_45 : decode cX12_act 45 = .ok (.isub, 1) := dk_100 (dw rcX12_act_44 1 rfl)
theorem dX12_act_46 : decode cX12_act 46 = .ok (.putfield 437, 3) := dk_181 (dw rcX12_act_44 2 rfl) rfl
theorem dX12_act_49 : decode cX12_act 49 = .ok (.iconst 0, 1) := dk_3 (dw rcX12_act_44 3 rfl)
theorem dX12_act_50 : decode cX12_act 50 = .ok (.istore_n 1, 1) := dk_60 (dw rcX12_act_44 4 rfl)
theorem dX12_act_51 : decode cX12_act 51 = .ok (.iload_n 1, 1) := dk_27 (dw rcX12_act_44 5 rfl)
theorem dX12_act_52 : decode cX12_act 52 = .ok (.bipush 10, 2) := dk_16 (dw rcX12_act_44 6 rfl) rfl
theorem dX12_act_54 : decode cX12_act 54 = .ok (.if_icmp .ge 29, 3) := dk_162 (dw rcX12_act_44 7 rfl) rfl
theorem dX12_act_57 : decode cX12_act 57 = .ok (.aload_n 0, 1) := dk_42 (dw rcX12_act_44 8 rfl)
theorem dX12_act_58 : decode cX12_act 58 = .ok (.getfield 154, 3) := dk_180 (dw rcX12_act_44 9 rfl) rfl
theorem dX12_act_61 : decode cX12_act 61 = .ok (.bipush 16, 2) := dk_16 (dw rcX12_act_44 10 rfl) rfl
theorem dX12_act_63 : decode cX12_act 63 = .ok (.aload_n 0, 1) := dk_42 (dw rcX12_act_44 11 rfl)
theorem dX12_act_64 : decode cX12_act 64 = .ok (.getfield 437, 3) := dk_180 (dw rcX12_act_44 12 rfl) rfl
theorem dX12_act_67 : decode cX12_act 67 = .ok (.imul, 1) := dk_104 (dw rcX12_act_44 13 rfl)
theorem dX12_act_68 : decode cX12_act 68 = .ok (.iload_n 1, 1) := dk_27 (dw rcX12_act_44 14 rfl)
theorem dX12_act_69 : decode cX12_act 69 = .ok (.iadd, 1) := dk_96 (dw rcX12_act_44 15 rfl)
theorem dX12_act_70 : decode cX12_act 70 = .ok (.aload_n 0, 1) := dk_42 (dw rcX12_act_44 16 rfl)
theorem dX12_act_71 : decode cX12_act 71 = .ok (.getfield 151, 3) := dk_180 (dw rcX12_act_44 17 rfl) rfl
theorem dX12_act_74 : decode cX12_act 74 = .ok (.iload_n 1, 1) := dk_27 (dw rcX12_act_44 18 rfl)
theorem dX12_act_75 : decode cX12_act 75 = .ok (.iaload, 1) := dk_46 (dw rcX12_act_44 19 rfl)
theorem dX12_act_76 : decode cX12_act 76 = .ok (.iastore, 1) := dk_79 (dw rcX12_act_44 20 rfl)
theorem dX12_act_77 : decode cX12_act 77 = .ok (.iinc 1 1, 3) := dk_132 (dw rcX12_act_44 21 rfl) rfl
theorem dX12_act_80 : decode cX12_act 80 = .ok (.goto (-29), 3) := dk_167 (dw rcX12_act_44 22 rfl) rfl
theorem dX12_act_83 : decode cX12_act 83 = .ok (.aload_n 0, 1) := dk_42 (dw rcX12_act_44 23 rfl)
noncomputable def rbX12_act_84 : List (Nat × List Nat) := [(84, [89]), (85, [180, 1, 181]), (88, [4]), (89, [96]), (90, [181, 1, 181]), (93, [42]), (94, [3]), (95, [181, 1, 184]), (98, [177])]
theorem rcX12_act_84 : dgo (lb cX12_act) 0 rbX12_act_84 = true := by decide +kernel
theorem dX12_act_84 : decode cX12_act 84 = .ok (.dup, 1) := dk_89 (dw rcX12_act_84 0 rfl)
theorem dX12_act_85 : decode cX12_act 85 = .ok (.getfield 437, 3) := dk_180 (dw rcX12_act_84 1 rfl) rfl
theorem dX12_act_88 : decode cX12_act 88 = .ok (.iconst 1, 1) := dk_4 (dw rcX12_act_84 2 rfl)
theorem dX12_act_89 : decode cX12_act 89 = .ok (.iadd, 1) := dk_96 (dw rcX12_act_84 3 rfl)
theorem dX12_act_90 : decode cX12_act 90 = .ok (.putfield 437, 3) := dk_181 (dw rcX12_act_84 4 rfl) rfl
theorem dX12_act_93 : decode cX12_act 93 = .ok (.aload_n 0, 1) := dk_42 (dw rcX12_act_84 5 rfl)
theorem dX12_act_94 : decode cX12_act 94 = .ok (.iconst 0, 1) := dk_3 (dw rcX12_act_84 6 rfl)
theorem dX12_act_95 : decode cX12_act 95 = .ok (.putfield 440, 3) := dk_181 (dw rcX12_act_84 7 rfl) rfl
theorem dX12_act_98 : decode cX12_act 98 = .ok (.return_, 1) := dk_177 (dw rcX12_act_84 8 rfl)
noncomputable def rbX12_day_0 : List (Nat × List Nat) := [(0, [42]), (1, [180, 0, 151]), (4, [16, 6]), (6, [46]), (7, [17, 3, 232]), (10, [160, 0, 5]), (13, [2]), (14, [172]), (15, [42]), (16, [182, 2, 69]), (19, [42]), (20, [180, 0, 151]), (23, [16, 6]), (25, [92]), (26, [46]), (27, [4]), (28, [96]), (29, [79]), (30, [42]), (31, [180, 0, 151]), (34, [16, 6]), (36, [46]), (37, [172])]
theorem rcX12_day_0 : dgo (lb cX12_day) 0 rbX12_day_0 = true := by decide +kernel
theorem dX12_day_0 : decode cX12_day 0 = .ok (.aload_n 0, 1) := dk_42 (dw rcX12_day_0 0 rfl)
theorem dX12_day_1 : decode cX12_day 1 = .ok (.getfield 151, 3) := dk_180 (dw rcX12_day_0 1 rfl) rfl
theorem dX12_day_4 : decode cX12_day 4 = .ok (.bipush 6, 2) := dk_16 (dw rcX12_day_0 2 rfl) rfl
theorem dX12_day_6 : decode cX12_day 6 = .ok (.iaload, 1) := dk_46 (dw rcX12_day_0 3 rfl)
theorem dX12_day_7 : decode cX12_day 7 = .ok (.sipush 1000, 3) := dk_17 (dw rcX12_day_0 4 rfl) rfl
theorem dX12_day_10 : decode cX12_day 10 = .ok (.if_icmp .ne 5, 3) := dk_160 (dw rcX12_day_0 5 rfl) rfl
theorem dX12_day_13 : decode cX12_day 13 = .ok (.iconst (-1), 1) := dk_2 (dw rcX12_day_0 6 rfl)
theorem dX12_day_14 : decode cX12_day 14 = .ok (.ireturn, 1) := dk_172 (dw rcX12_day_0 7 rfl)
theorem dX12_day_15 : decode cX12_day 15 = .ok (.aload_n 0, 1) := dk_42 (dw rcX12_day_0 8 rfl)
theorem dX12_day_16 : decode cX12_day 16 = .ok (.invokevirtual 581, 3) := dk_182 (dw rcX12_day_0 9 rfl) rfl
theorem dX12_day_19 : decode cX12_day 19 = .ok (.aload_n 0, 1) := dk_42 (dw rcX12_day_0 10 rfl)
theorem dX12_day_20 : decode cX12_day 20 = .ok (.getfield 151, 3) := dk_180 (dw rcX12_day_0 11 rfl) rfl
theorem dX12_day_23 : decode cX12_day 23 = .ok (.bipush 6, 2) := dk_16 (dw rcX12_day_0 12 rfl) rfl
theorem dX12_day_25 : decode cX12_day 25 = .ok (.dup2, 1) := dk_92 (dw rcX12_day_0 13 rfl)
theorem dX12_day_26 : decode cX12_day 26 = .ok (.iaload, 1) := dk_46 (dw rcX12_day_0 14 rfl)
theorem dX12_day_27 : decode cX12_day 27 = .ok (.iconst 1, 1) := dk_4 (dw rcX12_day_0 15 rfl)
theorem dX12_day_28 : decode cX12_day 28 = .ok (.iadd, 1) := dk_96 (dw rcX12_day_0 16 rfl)
theorem dX12_day_29 : decode cX12_day 29 = .ok (.iastore, 1) := dk_79 (dw rcX12_day_0 17 rfl)
theorem dX12_day_30 : decode cX12_day 30 = .ok (.aload_n 0, 1) := dk_42 (dw rcX12_day_0 18 rfl)
theorem dX12_day_31 : decode cX12_day 31 = .ok (.getfield 151, 3) := dk_180 (dw rcX12_day_0 19 rfl) rfl
theorem dX12_day_34 : decode cX12_day 34 = .ok (.bipush 6, 2) := dk_16 (dw rcX12_day_0 20 rfl) rfl
theorem dX12_day_36 : decode cX12_day 36 = .ok (.iaload, 1) := dk_46 (dw rcX12_day_0 21 rfl)
theorem dX12_day_37 : decode cX12_day 37 = .ok (.ireturn, 1) := dk_172 (dw rcX12_day_0 22 rfl)
noncomputable def rbX12_exchange_0 : List (Nat × List Nat) := [(0, [3]), (1, [61]), (2, [28]), (3, [16, 10]), (5, [162, 0, 39]), (8, [42]), (9, [180, 0, 154]), (12, [27]), (13, [28]), (14, [96]), (15, [46]), (16, [62]), (17, [42]), (18, [180, 0, 154]), (21, [27]), (22, [28]), (23, [96]), (24, [42]), (25, [180, 0, 151]), (28, [28]), (29, [46]), (30, [79]), (31, [42]), (32, [180, 0, 151])]
theorem rcX12_exchange_0 : dgo (lb cX12_exchange) 0 rbX12_exchange_0 = true := by decide +kernel
theorem dX12_exchange_0 : decode cX12_exchange 0 = .ok (.iconst 0, 1) := dk_3 (dw rcX12_exchange_0 0 rfl)
theorem dX12_exchange_1 : decode cX12_exchange 1 = .ok (.istore_n 2, 1) := dk_61 (dw rcX12_exchange_0 1 rfl)
theorem dX12_exchange_2 : decode cX12_exchange 2 = .ok (.iload_n 2, 1) := dk_28 (dw rcX12_exchange_0 2 rfl)
theorem dX12_exchange_3 : decode cX12_exchange 3 = .ok (.bipush 10, 2) := dk_16 (dw rcX12_exchange_0 3 rfl) rfl
theorem dX12_exchange_5 : decode cX12_exchange 5 = .ok (.if_icmp .ge 39, 3) := dk_162 (dw rcX12_exchange_0 4 rfl) rfl
theorem dX12_exchange_8 : decode cX12_exchange 8 = .ok (.aload_n 0, 1) := dk_42 (dw rcX12_exchange_0 5 rfl)
theorem dX12_exchange_9 : decode cX12_exchange 9 = .ok (.getfield 154, 3) := dk_180 (dw rcX12_exchange_0 6 rfl) rfl
theorem dX12_exchange_12 : decode cX12_exchange 12 = .ok (.iload_n 1, 1) := dk_27 (dw rcX12_exchange_0 7 rfl)
theorem dX12_exchange_13 : decode cX12_exchange 13 = .ok (.iload_n 2, 1) := dk_28 (dw rcX12_exchange_0 8 rfl)
theorem dX12_exchange_14 : decode cX12_exchange 14 = .ok (.iadd, 1) := dk_96 (dw rcX12_exchange_0 9 rfl)
theorem dX12_exchange_15 : decode cX12_exchange 15 = .ok (.iaload, 1) := dk_46 (dw rcX12_exchange_0 10 rfl)
theorem dX12_exchange_16 : decode cX12_exchange 16 = .ok (.istore_n 3, 1) := dk_62 (dw rcX12_exchange_0 11 rfl)
theorem dX12_exchange_17 : decode cX12_exchange 17 = .ok (.aload_n 0, 1) := dk_42 (dw rcX12_exchange_0 12 rfl)
theorem dX12_exchange_18 : decode cX12_exchange 18 = .ok (.getfield 154, 3) := dk_180 (dw rcX12_exchange_0 13 rfl) rfl
theorem dX12_exchange_21 : decode cX12_exchange 21 = .ok (.iload_n 1, 1) := dk_27 (dw rcX12_exchange_0 14 rfl)
theorem dX12_exchange_22 : decode cX12_exchange 22 = .ok (.iload_n 2, 1) := dk_28 (dw rcX12_exchange_0 15 rfl)
theorem dX12_exchange_23 : decode cX12_exchange 23 = .ok (.iadd, 1) := dk_96 (dw rcX12_exchange_0 16 rfl)
theorem dX12_exchange_24 : decode cX12_exchange 24 = .ok (.aload_n 0, 1) := dk_42 (dw rcX12_exchange_0 17 rfl)
theorem dX12_exchange_25 : decode cX12_exchange 25 = .ok (.getfield 151, 3) := dk_180 (dw rcX12_exchange_0 18 rfl) rfl
theorem dX12_exchange_28 : decode cX12_exchange 28 = .ok (.iload_n 2, 1) := dk_28 (dw rcX12_exchange_0 19 rfl)
theorem dX12_exchange_29 : decode cX12_exchange 29 = .ok (.iaload, 1) := dk_46 (dw rcX12_exchange_0 20 rfl)
theorem dX12_exchange_30 : decode cX12_exchange 30 = .ok (.iastore, 1) := dk_79 (dw rcX12_exchange_0 21 rfl)
theorem dX12_exchange_31 : decode cX12_exchange 31 = .ok (.aload_n 0, 1) := dk_42 (dw rcX12_exchange_0 22 rfl)
theorem dX12_exchange_32 : decode cX12_exchange 32 = .ok (.getfield 151, 3) := dk_180 (dw rcX12_exchange_0 23 rfl) rfl
noncomputable def rbX12_exchange_35 : List (Nat × List Nat) := [(35, [28]), (36, [29]), (37, [79]), (38, [132, 2, 1]), (41, [167, 255, 217]), (44, [177])]
theorem rcX12_exchange_35 : dgo (lb cX12_exchange) 0 rbX12_exchange_35 = true := by decide +kernel
theorem dX12_exchange_35 : decode cX12_exchange 35 = .ok (.iload_n 2, 1) := dk_28 (dw rcX12_exchange_35 0 rfl)
theorem dX12_exchange_36 : decode cX12_exchange 36 = .ok (.iload_n 3, 1) := dk_29 (dw rcX12_exchange_35 1 rfl)
theorem dX12_exchange_37 : decode cX12_exchange 37 = .ok (.iastore, 1) := dk_79 (dw rcX12_exchange_35 2 rfl)
theorem dX12_exchange_38 : decode cX12_exchange 38 = .ok (.iinc 2 1, 3) := dk_132 (dw rcX12_exchange_35 3 rfl) rfl
theorem dX12_exchange_41 : decode cX12_exchange 41 = .ok (.goto (-39), 3) := dk_167 (dw rcX12_exchange_35 4 rfl) rfl
theorem dX12_exchange_44 : decode cX12_exchange 44 = .ok (.return_, 1) := dk_177 (dw rcX12_exchange_35 5 rfl)
noncomputable def rbX12_force_0 : List (Nat × List Nat) := [(0, [42]), (1, [27]), (2, [182, 2, 75]), (5, [154, 0, 5]), (8, [2]), (9, [172]), (10, [42]), (11, [182, 2, 69]), (14, [42]), (15, [180, 0, 151]), (18, [16, 8]), (20, [92]), (21, [46]), (22, [4]), (23, [27]), (24, [120]), (25, [130]), (26, [79]), (27, [42]), (28, [180, 0, 151]), (31, [16, 8]), (33, [46]), (34, [27]), (35, [122])]
theorem rcX12_force_0 : dgo (lb cX12_force) 0 rbX12_force_0 = true := by decide +kernel
theorem dX12_force_0 : decode cX12_force 0 = .ok (.aload_n 0, 1) := dk_42 (dw rcX12_force_0 0 rfl)
theorem dX12_force_1 : decode cX12_force 1 = .ok (.iload_n 1, 1) := dk_27 (dw rcX12_force_0 1 rfl)
theorem dX12_force_2 : decode cX12_force 2 = .ok (.invokevirtual 587, 3) := dk_182 (dw rcX12_force_0 2 rfl) rfl
theorem dX12_force_5 : decode cX12_force 5 = .ok (.ifCond .ne 5, 3) := dk_154 (dw rcX12_force_0 3 rfl) rfl
theorem dX12_force_8 : decode cX12_force 8 = .ok (.iconst (-1), 1) := dk_2 (dw rcX12_force_0 4 rfl)
theorem dX12_force_9 : decode cX12_force 9 = .ok (.ireturn, 1) := dk_172 (dw rcX12_force_0 5 rfl)
theorem dX12_force_10 : decode cX12_force 10 = .ok (.aload_n 0, 1) := dk_42 (dw rcX12_force_0 6 rfl)
theorem dX12_force_11 : decode cX12_force 11 = .ok (.invokevirtual 581, 3) := dk_182 (dw rcX12_force_0 7 rfl) rfl
theorem dX12_force_14 : decode cX12_force 14 = .ok (.aload_n 0, 1) := dk_42 (dw rcX12_force_0 8 rfl)
theorem dX12_force_15 : decode cX12_force 15 = .ok (.getfield 151, 3) := dk_180 (dw rcX12_force_0 9 rfl) rfl
theorem dX12_force_18 : decode cX12_force 18 = .ok (.bipush 8, 2) := dk_16 (dw rcX12_force_0 10 rfl) rfl
theorem dX12_force_20 : decode cX12_force 20 = .ok (.dup2, 1) := dk_92 (dw rcX12_force_0 11 rfl)
theorem dX12_force_21 : decode cX12_force 21 = .ok (.iaload, 1) := dk_46 (dw rcX12_force_0 12 rfl)
theorem dX12_force_22 : decode cX12_force 22 = .ok (.iconst 1, 1) := dk_4 (dw rcX12_force_0 13 rfl)
theorem dX12_force_23 : decode cX12_force 23 = .ok (.iload_n 1, 1) := dk_27 (dw rcX12_force_0 14 rfl)
theorem dX12_force_24 : decode cX12_force 24 = .ok (.ishl, 1) := dk_120 (dw rcX12_force_0 15 rfl)
theorem dX12_force_25 : decode cX12_force 25 = .ok (.ixor, 1) := dk_130 (dw rcX12_force_0 16 rfl)
theorem dX12_force_26 : decode cX12_force 26 = .ok (.iastore, 1) := dk_79 (dw rcX12_force_0 17 rfl)
theorem dX12_force_27 : decode cX12_force 27 = .ok (.aload_n 0, 1) := dk_42 (dw rcX12_force_0 18 rfl)
theorem dX12_force_28 : decode cX12_force 28 = .ok (.getfield 151, 3) := dk_180 (dw rcX12_force_0 19 rfl) rfl
theorem dX12_force_31 : decode cX12_force 31 = .ok (.bipush 8, 2) := dk_16 (dw rcX12_force_0 20 rfl) rfl
theorem dX12_force_33 : decode cX12_force 33 = .ok (.iaload, 1) := dk_46 (dw rcX12_force_0 21 rfl)
theorem dX12_force_34 : decode cX12_force 34 = .ok (.iload_n 1, 1) := dk_27 (dw rcX12_force_0 22 rfl)
theorem dX12_force_35 : decode cX12_force 35 = .ok (.ishr, 1) := dk_122 (dw rcX12_force_0 23 rfl)
noncomputable def rbX12_force_36 : List (Nat × List Nat) := [(36, [4]), (37, [126]), (38, [172])]
theorem rcX12_force_36 : dgo (lb cX12_force) 0 rbX12_force_36 = true := by decide +kernel
theorem dX12_force_36 : decode cX12_force 36 = .ok (.iconst 1, 1) := dk_4 (dw rcX12_force_36 0 rfl)
theorem dX12_force_37 : decode cX12_force 37 = .ok (.iand, 1) := dk_126 (dw rcX12_force_36 1 rfl)
theorem dX12_force_38 : decode cX12_force 38 = .ok (.ireturn, 1) := dk_172 (dw rcX12_force_36 2 rfl)
noncomputable def rbX12_rain_0 : List (Nat × List Nat) := [(0, [42]), (1, [182, 2, 69]), (4, [42]), (5, [180, 0, 151]), (8, [16, 9]), (10, [4]), (11, [42]), (12, [180, 0, 151]), (15, [16, 9]), (17, [46]), (18, [100]), (19, [79]), (20, [42]), (21, [180, 0, 151]), (24, [16, 9]), (26, [46]), (27, [4]), (28, [160, 0, 7]), (31, [4]), (32, [167, 0, 4]), (35, [3]), (36, [172])]
theorem rcX12_rain_0 : dgo (lb cX12_rain) 0 rbX12_rain_0 = true := by decide +kernel
theorem dX12_rain_0 : decode cX12_rain 0 = .ok (.aload_n 0, 1) := dk_42 (dw rcX12_rain_0 0 rfl)
theorem dX12_rain_1 : decode cX12_rain 1 = .ok (.invokevirtual 581, 3) := dk_182 (dw rcX12_rain_0 1 rfl) rfl
theorem dX12_rain_4 : decode cX12_rain 4 = .ok (.aload_n 0, 1) := dk_42 (dw rcX12_rain_0 2 rfl)
theorem dX12_rain_5 : decode cX12_rain 5 = .ok (.getfield 151, 3) := dk_180 (dw rcX12_rain_0 3 rfl) rfl
theorem dX12_rain_8 : decode cX12_rain 8 = .ok (.bipush 9, 2) := dk_16 (dw rcX12_rain_0 4 rfl) rfl
theorem dX12_rain_10 : decode cX12_rain 10 = .ok (.iconst 1, 1) := dk_4 (dw rcX12_rain_0 5 rfl)
theorem dX12_rain_11 : decode cX12_rain 11 = .ok (.aload_n 0, 1) := dk_42 (dw rcX12_rain_0 6 rfl)
theorem dX12_rain_12 : decode cX12_rain 12 = .ok (.getfield 151, 3) := dk_180 (dw rcX12_rain_0 7 rfl) rfl
theorem dX12_rain_15 : decode cX12_rain 15 = .ok (.bipush 9, 2) := dk_16 (dw rcX12_rain_0 8 rfl) rfl
theorem dX12_rain_17 : decode cX12_rain 17 = .ok (.iaload, 1) := dk_46 (dw rcX12_rain_0 9 rfl)
theorem dX12_rain_18 : decode cX12_rain 18 = .ok (.isub, 1) := dk_100 (dw rcX12_rain_0 10 rfl)
theorem dX12_rain_19 : decode cX12_rain 19 = .ok (.iastore, 1) := dk_79 (dw rcX12_rain_0 11 rfl)
theorem dX12_rain_20 : decode cX12_rain 20 = .ok (.aload_n 0, 1) := dk_42 (dw rcX12_rain_0 12 rfl)
theorem dX12_rain_21 : decode cX12_rain 21 = .ok (.getfield 151, 3) := dk_180 (dw rcX12_rain_0 13 rfl) rfl
theorem dX12_rain_24 : decode cX12_rain 24 = .ok (.bipush 9, 2) := dk_16 (dw rcX12_rain_0 14 rfl) rfl
theorem dX12_rain_26 : decode cX12_rain 26 = .ok (.iaload, 1) := dk_46 (dw rcX12_rain_0 15 rfl)
theorem dX12_rain_27 : decode cX12_rain 27 = .ok (.iconst 1, 1) := dk_4 (dw rcX12_rain_0 16 rfl)
theorem dX12_rain_28 : decode cX12_rain 28 = .ok (.if_icmp .ne 7, 3) := dk_160 (dw rcX12_rain_0 17 rfl) rfl
theorem dX12_rain_31 : decode cX12_rain 31 = .ok (.iconst 1, 1) := dk_4 (dw rcX12_rain_0 18 rfl)
theorem dX12_rain_32 : decode cX12_rain 32 = .ok (.goto 4, 3) := dk_167 (dw rcX12_rain_0 19 rfl) rfl
theorem dX12_rain_35 : decode cX12_rain 35 = .ok (.iconst 0, 1) := dk_3 (dw rcX12_rain_0 20 rfl)
theorem dX12_rain_36 : decode cX12_rain 36 = .ok (.ireturn, 1) := dk_172 (dw rcX12_rain_0 21 rfl)
noncomputable def rbX12_redo_0 : List (Nat × List Nat) := [(0, [42]), (1, [180, 1, 184]), (4, [154, 0, 5]), (7, [3]), (8, [172]), (9, [42]), (10, [16, 16]), (12, [42]), (13, [180, 1, 181]), (16, [104]), (17, [182, 2, 78]), (20, [42]), (21, [89]), (22, [180, 1, 181]), (25, [4]), (26, [96]), (27, [181, 1, 181]), (30, [42]), (31, [89]), (32, [180, 1, 184]), (35, [4]), (36, [100]), (37, [181, 1, 184]), (40, [4])]
theorem rcX12_redo_0 : dgo (lb cX12_redo) 0 rbX12_redo_0 = true := by decide +kernel
theorem dX12_redo_0 : decode cX12_redo 0 = .ok (.aload_n 0, 1) := dk_42 (dw rcX12_redo_0 0 rfl)
theorem dX12_redo_1 : decode cX12_redo 1 = .ok (.getfield 440, 3) := dk_180 (dw rcX12_redo_0 1 rfl) rfl
theorem dX12_redo_4 : decode cX12_redo 4 = .ok (.ifCond .ne 5, 3) := dk_154 (dw rcX12_redo_0 2 rfl) rfl
theorem dX12_redo_7 : decode cX12_redo 7 = .ok (.iconst 0, 1) := dk_3 (dw rcX12_redo_0 3 rfl)
theorem dX12_redo_8 : decode cX12_redo 8 = .ok (.ireturn, 1) := dk_172 (dw rcX12_redo_0 4 rfl)
theorem dX12_redo_9 : decode cX12_redo 9 = .ok (.aload_n 0, 1) := dk_42 (dw rcX12_redo_0 5 rfl)
theorem dX12_redo_10 : decode cX12_redo 10 = .ok (.bipush 16, 2) := dk_16 (dw rcX12_redo_0 6 rfl) rfl
theorem dX12_redo_12 : decode cX12_redo 12 = .ok (.aload_n 0, 1) := dk_42 (dw rcX12_redo_0 7 rfl)
theorem dX12_redo_13 : decode cX12_redo 13 = .ok (.getfield 437, 3) := dk_180 (dw rcX12_redo_0 8 rfl) rfl
theorem dX12_redo_16 : decode cX12_redo 16 = .ok (.imul, 1) := dk_104 (dw rcX12_redo_0 9 rfl)
theorem dX12_redo_17 : decode cX12_redo 17 = .ok (.invokevirtual 590, 3) := dk_182 (dw rcX12_redo_0 10 rfl) rfl
theorem dX12_redo_20 : decode cX12_redo 20 = .ok (.aload_n 0, 1) := dk_42 (dw rcX12_redo_0 11 rfl)
theorem dX12_redo_21 : decode cX12_redo 21 = .ok (.dup, 1) := dk_89 (dw rcX12_redo_0 12 rfl)
theorem dX12_redo_22 : decode cX12_redo 22 = .ok (.getfield 437, 3) := dk_180 (dw rcX12_redo_0 13 rfl) rfl
theorem dX12_redo_25 : decode cX12_redo 25 = .ok (.iconst 1, 1) := dk_4 (dw rcX12_redo_0 14 rfl)
theorem dX12_redo_26 : decode cX12_redo 26 = .ok (.iadd, 1) := dk_96 (dw rcX12_redo_0 15 rfl)
theorem dX12_redo_27 : decode cX12_redo 27 = .ok (.putfield 437, 3) := dk_181 (dw rcX12_redo_0 16 rfl) rfl
theorem dX12_redo_30 : decode cX12_redo 30 = .ok (.aload_n 0, 1) := dk_42 (dw rcX12_redo_0 17 rfl)
theorem dX12_redo_31 : decode cX12_redo 31 = .ok (.dup, 1) := dk_89 (dw rcX12_redo_0 18 rfl)
theorem dX12_redo_32 : decode cX12_redo 32 = .ok (.getfield 440, 3) := dk_180 (dw rcX12_redo_0 19 rfl) rfl
theorem dX12_redo_35 : decode cX12_redo 35 = .ok (.iconst 1, 1) := dk_4 (dw rcX12_redo_0 20 rfl)
theorem dX12_redo_36 : decode cX12_redo 36 = .ok (.isub, 1) := dk_100 (dw rcX12_redo_0 21 rfl)
theorem dX12_redo_37 : decode cX12_redo 37 = .ok (.putfield 440, 3) := dk_181 (dw rcX12_redo_0 22 rfl) rfl
theorem dX12_redo_40 : decode cX12_redo 40 = .ok (.iconst 1, 1) := dk_4 (dw rcX12_redo_0 23 rfl)
theorem dX12_redo_41 : decode cX12_redo 41 = .ok (.ireturn, 1) := dq_of (by decide +kernel)
noncomputable def rbX12_undo_0 : List (Nat × List Nat) := [(0, [42]), (1, [180, 1, 181]), (4, [154, 0, 5]), (7, [3]), (8, [172]), (9, [42]), (10, [89]), (11, [180, 1, 181]), (14, [4]), (15, [100]), (16, [181, 1, 181]), (19, [42]), (20, [89]), (21, [180, 1, 184]), (24, [4]), (25, [96]), (26, [181, 1, 184]), (29, [42]), (30, [16, 16]), (32, [42]), (33, [180, 1, 181]), (36, [104]), (37, [182, 2, 78]), (40, [4])]
theorem rcX12_undo_0 : dgo (lb cX12_undo) 0 rbX12_undo_0 = true := by decide +kernel
theorem dX12_undo_0 : decode cX12_undo 0 = .ok (.aload_n 0, 1) := dk_42 (dw rcX12_undo_0 0 rfl)
theorem dX12_undo_1 : decode cX12_undo 1 = .ok (.getfield 437, 3) := dk_180 (dw rcX12_undo_0 1 rfl) rfl
theorem dX12_undo_4 : decode cX12_undo 4 = .ok (.ifCond .ne 5, 3) := dk_154 (dw rcX12_undo_0 2 rfl) rfl
theorem dX12_undo_7 : decode cX12_undo 7 = .ok (.iconst 0, 1) := dk_3 (dw rcX12_undo_0 3 rfl)
theorem dX12_undo_8 : decode cX12_undo 8 = .ok (.ireturn, 1) := dk_172 (dw rcX12_undo_0 4 rfl)
theorem dX12_undo_9 : decode cX12_undo 9 = .ok (.aload_n 0, 1) := dk_42 (dw rcX12_undo_0 5 rfl)
theorem dX12_undo_10 : decode cX12_undo 10 = .ok (.dup, 1) := dk_89 (dw rcX12_undo_0 6 rfl)
theorem dX12_undo_11 : decode cX12_undo 11 = .ok (.getfield 437, 3) := dk_180 (dw rcX12_undo_0 7 rfl) rfl
theorem dX12_undo_14 : decode cX12_undo 14 = .ok (.iconst 1, 1) := dk_4 (dw rcX12_undo_0 8 rfl)
theorem dX12_undo_15 : decode cX12_undo 15 = .ok (.isub, 1) := dk_100 (dw rcX12_undo_0 9 rfl)
theorem dX12_undo_16 : decode cX12_undo 16 = .ok (.putfield 437, 3) := dk_181 (dw rcX12_undo_0 10 rfl) rfl
theorem dX12_undo_19 : decode cX12_undo 19 = .ok (.aload_n 0, 1) := dk_42 (dw rcX12_undo_0 11 rfl)
theorem dX12_undo_20 : decode cX12_undo 20 = .ok (.dup, 1) := dk_89 (dw rcX12_undo_0 12 rfl)
theorem dX12_undo_21 : decode cX12_undo 21 = .ok (.getfield 440, 3) := dk_180 (dw rcX12_undo_0 13 rfl) rfl
theorem dX12_undo_24 : decode cX12_undo 24 = .ok (.iconst 1, 1) := dk_4 (dw rcX12_undo_0 14 rfl)
theorem dX12_undo_25 : decode cX12_undo 25 = .ok (.iadd, 1) := dk_96 (dw rcX12_undo_0 15 rfl)
theorem dX12_undo_26 : decode cX12_undo 26 = .ok (.putfield 440, 3) := dk_181 (dw rcX12_undo_0 16 rfl) rfl
theorem dX12_undo_29 : decode cX12_undo 29 = .ok (.aload_n 0, 1) := dk_42 (dw rcX12_undo_0 17 rfl)
theorem dX12_undo_30 : decode cX12_undo 30 = .ok (.bipush 16, 2) := dk_16 (dw rcX12_undo_0 18 rfl) rfl
theorem dX12_undo_32 : decode cX12_undo 32 = .ok (.aload_n 0, 1) := dk_42 (dw rcX12_undo_0 19 rfl)
theorem dX12_undo_33 : decode cX12_undo 33 = .ok (.getfield 437, 3) := dk_180 (dw rcX12_undo_0 20 rfl) rfl
theorem dX12_undo_36 : decode cX12_undo 36 = .ok (.imul, 1) := dk_104 (dw rcX12_undo_0 21 rfl)
theorem dX12_undo_37 : decode cX12_undo 37 = .ok (.invokevirtual 590, 3) := dk_182 (dw rcX12_undo_0 22 rfl) rfl
theorem dX12_undo_40 : decode cX12_undo 40 = .ok (.iconst 1, 1) := dk_4 (dw rcX12_undo_0 23 rfl)
theorem dX12_undo_41 : decode cX12_undo 41 = .ok (.ireturn, 1) := dq_of (by decide +kernel)
set_option maxHeartbeats 4000000 in
set_option maxRecDepth 100000 in
theorem n_act (l : Launch) (D : va_G) (k : KT) (A : Nat → Prop) (a : Nat → Nat) (z : SK) (G : GS)   : Met l yX12_act (WS yX12_act cX12_act 2 none) ({ frames := 0, cells := 0, slots := 0, locals := 0 }) (va_Pc [.ref (a 66)] (cW D k A a z G)) (va_Qv (fun (G1 : GS) => Q_act G G1) (fun (G1 : GS) t => Wd D k A a G1 t.heap) A) 0 0 A := by
  refine Met.ofW (cc := cX12_act) (maxL := 2) (ret := none) (by decide) rfl ?_
  intro p e s m args below meth c s₁ B hml hv
  obtain ⟨rfl, hW, hB_G, hK, hZ⟩ := hv
  have hx := B.exec
  have hb := B.bytes
  have hr := B.returns
  have hts := atoms_spec (ws := WS yX12_act cX12_act 2 none) B.pre
  have hgd : ∀ w ∈ gd, w ∈ WS yX12_act cX12_act 2 none := fun w h => List.mem_cons_of_mem _ h
  have hg : ∀ w ∈ gd, w.before _ s = true := fun w h => hts w (hgd w h)
  have hown : s.vm.findClass RX12 = some m.cls := findClass_of_methodNamed B.named
  have hS : va_S A s.heap s.heap [] := va_S.rf
  have hF : Fr [111] [(66, 78), (66, 79)] G G := Fr.rf
  have hl := lv_entry ([.ref (a 66)]) (n := 2) (Nat.le_of_ble_eq_true rfl)
  rw [lg_entry_eq]
  generalize (lg_sl ([.ref (a 66)]) ++ List.replicate (2 - (lg_sl ([.ref (a 66)])).length) Slot.unset).toArray = ls at hl ⊢
  have hl : lv_has ls 2 [(0, .ref (a 66))] := hl
  refine lv_aload_n hx hb dX12_act_0 rfl (lv_at hl 0 rfl) ?_
  have b_1 : 0 ≤ (G.1 66 78).toInt ∧ (G.1 66 78).toInt ≤ 40 := bd_66_78 hB_G
  refine S_getI (v := (G.1 66 78)) (C := RX12) (T := TX12) (N := 89) hx hb hg iX12 hown hK hW kd_66 rfl 78 (lt_b rfl) (hg (Cond.fieldLink RX12 437 "SlabWalkModel" "acts" "I") m1392) (fun _ h9 => h9) rfl rfl dX12_act_1 ?_
  refine lv_bipush (v := 40) hx hb dX12_act_4 (by decide) ?_
  refine lv_icmp_ne (tgt := 49) hx hb dX12_act_6 rfl (fun c_2 => ?_) (fun c_2 => ?_)
  · have c_2 : (G.1 66 78).toInt ≠ 40 := xI_ne rfl rfl c_2
    refine ic_0 hx hb dX12_act_49 ?_
    refine lv_istore_n (lv' := [(1, .int 0), (0, .ref (a 66))]) hx hb dX12_act_50 rfl hl (lt_b rfl) rfl (fun ls hl => ?_)
    have qc_9 : (0 : Int32).toInt = 0 := rfl
    refine loop_N (Inv := fun n H locs ls => ∃ (G_3 : GS) (x_7 : Int32), (n : Int) = 10 - x_7.toInt ∧ (0 ≤ x_7.toInt ∧ x_7.toInt ≤ 10) ∧ Rc (St_n_act_1 G) (0, G) (x_7, G_3) ∧ Wd D k A a G_3 H ∧ Bd G_3 ∧ Fr [111] [(66, 78), (66, 79)] G G_3 ∧ Fr [111] [] G G_3 ∧ va_S A s.heap H locs ∧ lv_has ls 2 [(1, .int x_7), (0, .ref (a 66))]) (fun n_6 H locs ls ih_5 hI => ?_) (10 - 0 : Int).toNat ⟨G, 0, (Int.toNat_of_nonneg ((by decide))), ⟨(by decide), (by decide)⟩, Rc.rf, hW, hB_G, hF, Fr.rf, hS, lv_sub hl [0, 1] rfl⟩
    obtain ⟨G_3, x_7, hn_11, f_10, hX_8, hW, hB_G_3, hF, hq_4, hS, hl⟩ := hI
    refine lv_iload_n hx hb dX12_act_51 rfl (lv_at hl 0 rfl) ?_
    refine lv_bipush (v := 10) hx hb dX12_act_52 (by decide) ?_
    refine lv_icmp_ge (tgt := 83) hx hb dX12_act_54 rfl (fun c_12 => ?_) (fun c_12 => ?_)
    · have c_12 : 10 ≤ x_7.toInt := xI_le rfl rfl c_12
      refine lv_aload_n hx hb dX12_act_83 rfl (lv_at hl 1 rfl) ?_
      refine lv_dup hx hb dX12_act_84 rfl ?_
      refine S_getI (v := (G.1 66 78)) (C := RX12) (T := TX12) (N := 89) hx hb hg iX12 hown hK hW kd_66 rfl 78 (lt_b rfl) (hg (Cond.fieldLink RX12 437 "SlabWalkModel" "acts" "I") m1392) (fun _ h9 => h9) rfl ((hq_4.i9 66 78 rfl rfl).trans (rfl)) dX12_act_85 ?_
      refine ic_1 hx hb dX12_act_88 ?_
      refine lv_iadd hx hb dX12_act_89 ?_
      refine lv_topi (fun y_13 ey_13 => ?_)
      have ty_13 : y_13.toInt = (G.1 66 78).toInt + 1 := xI_add rfl rfl ey_13 ((by first | exact ok_21 b_1.1 | omega)) ((by first | exact ok_201 b_1.2 | omega))
      refine S_putI (ty := .int) (C := RX12) (T := TX12) (N := 89) hx hb hg iX12 tyX12 tyX12_ok nmX12 hown hK hW hS kd_66 rfl 78 (lt_b rfl) (hg (Cond.fieldLink RX12 437 "SlabWalkModel" "acts" "I") m1392) (fun _ h9 => h9) rfl (by decide +kernel) rfl rfl rfl dX12_act_90 (fun G_14 H locs eG_14 hW hS => ?_)
      have hB_G_14 : Bd G_14 := hB_G_3.put (V := y_13.toInt) (lo := 0) (hi := 40) eG_14 rfl rfl rfl ((by first | exact ok_23 b_1.1 ty_13 | omega)) ((by first | exact ok_661 b_1.2 c_2 ty_13 | omega)) (hB_G_3.2.put eG_14 rfl)
      have hF := hF.put eG_14 (Or.inr (by decide))
      refine lv_aload_n hx hb dX12_act_93 rfl (lv_at hl 1 rfl) ?_
      refine ic_0 hx hb dX12_act_94 ?_
      refine S_putI (ty := .int) (C := RX12) (T := TX12) (N := 89) hx hb hg iX12 tyX12 tyX12_ok nmX12 hown hK hW hS kd_66 rfl 79 (lt_b rfl) (hg (Cond.fieldLink RX12 440 "SlabWalkModel" "undone" "I") m1393) (fun _ h9 => h9) rfl (by decide +kernel) rfl rfl rfl dX12_act_95 (fun G_15 H locs eG_15 hW hS => ?_)
      have hB_G_15 : Bd G_15 := hB_G_14.put (V := 0) (lo := 0) (hi := 40) eG_15 rfl rfl rfl (by decide) (by decide) (hB_G_14.2.put eG_15 rfl)
      have hF := hF.put eG_15 (Or.inr (by decide))
      have g_16 : (G_15.1 66 78).toInt = y_13.toInt := (congrArg Int32.toInt (show G_15.1 66 78 = y_13 from ((gp_ne eG_15 (by decide)).trans (gp_eq eG_14))))
      have g_17 : (G_15.1 66 79).toInt = 0 := (congrArg Int32.toInt (show G_15.1 66 79 = 0 from (gp_eq eG_15))).trans rfl
      exact W.vret hx hb hr (fun t ht _ => ⟨⟨G_15, rfl, (Q_act_mk ⟨hB_G_15, hF, ((by first | exact ⟨(by first | exact ok_662 b_1.2 c_2 ty_13 g_16 g_17 | omega), (by first | exact ok_663 b_1.1 ty_13 g_16 | omega)⟩ | omega)), (Or.inr ⟨c_2, ⟨x_7, G_3, hX_8, f_10, hB_G_3, hq_4, ⟨c_12, ⟨y_13, ty_13, ⟨(Fr.put (rs := []) (fs := [(66, 78), (66, 79)]) (Fr.put (rs := []) (fs := [(66, 78), (66, 79)]) Fr.rf eG_14 (Or.inr (by decide))) eG_15 (Or.inr (by decide))), ((gp_ne eG_15 (by decide)).trans (gp_eq eG_14)), (gp_eq eG_15)⟩⟩⟩⟩⟩)⟩), wd_t ht hW⟩, hS.F ht⟩) hS.2.2 dX12_act_98
    · have c_12 : x_7.toInt < 10 := xI_nle rfl rfl c_12
      refine lv_aload_n hx hb dX12_act_57 rfl (lv_at hl 1 rfl) ?_
      refine S_getR (n := 111) (C := RX12) (T := TX12) (N := 89) hx hb hg iX12 hown hK hW kd_66 rfl 77 (lt_b rfl) (hg (Cond.fieldLink RX12 154 "SlabWalkModel" "were" "[I") m1391) (fun _ h9 => h9) rfl dX12_act_58 ?_
      refine lv_bipush (v := 16) hx hb dX12_act_61 (by decide) ?_
      refine lv_aload_n hx hb dX12_act_63 rfl (lv_at hl 1 rfl) ?_
      refine S_getI (v := (G.1 66 78)) (C := RX12) (T := TX12) (N := 89) hx hb hg iX12 hown hK hW kd_66 rfl 78 (lt_b rfl) (hg (Cond.fieldLink RX12 437 "SlabWalkModel" "acts" "I") m1392) (fun _ h9 => h9) rfl ((hq_4.i9 66 78 rfl rfl).trans (rfl)) dX12_act_64 ?_
      refine lv_imul hx hb dX12_act_67 ?_
      refine lv_topi (fun y_18 ey_18 => ?_)
      have ty_18 : y_18.toInt = 16 * (G.1 66 78).toInt := xI_mul rfl rfl ey_18 ((by first | exact ok_664 b_1.1 | omega)) ((by first | exact ok_665 b_1.2 | omega))
      refine lv_iload_n hx hb dX12_act_68 rfl (lv_at hl 0 rfl) ?_
      refine lv_iadd hx hb dX12_act_69 ?_
      refine lv_topi (fun y_19 ey_19 => ?_)
      have ty_19 : y_19.toInt = y_18.toInt + x_7.toInt := xI_add rfl rfl ey_19 ((by first | exact ok_666 b_1.1 f_10.1 ty_18 | omega)) ((by first | exact ok_667 b_1.2 f_10.2 ty_18 | omega))
      refine lv_aload_n hx hb dX12_act_70 rfl (lv_at hl 1 rfl) ?_
      refine S_getR (n := 110) (C := RX12) (T := TX12) (N := 89) hx hb hg iX12 hown hK hW kd_66 rfl 76 (lt_b rfl) (hg (Cond.fieldLink RX12 151 "SlabWalkModel" "now" "[I") m1390) (fun _ h9 => h9) rfl dX12_act_71 ?_
      refine lv_iload_n hx hb dX12_act_74 rfl (lv_at hl 0 rfl) ?_
      refine S_iald hx hb hK hW kd_110 (vin ((by first | exact f_10.1 | omega)) ((by first | exact ok_668 f_10.2 | omega))) dX12_act_75 (fun y_20 ey_20 => ?_)
      have ty_20 := hB_G_3.now 110 (by decide) ey_20 (by omega)
      refine S_iast hx hb hK hW hS kd_111 (vin ((by first | exact ok_669 b_1.1 f_10.1 ty_18 ty_19 | omega)) ((by first | exact ok_670 b_1.2 c_2 c_12 ty_18 ty_19 | omega))) dX12_act_76 (fun G_21 H locs eG_21 hW hS => ?_)
      have hB_G_21 : Bd G_21 := hB_G_3.putNow 111 (by decide) eG_21 (by omega) (by omega) (by omega) rfl
      have hF := hF.put eG_21 (Or.inl (by decide))
      obtain ⟨y_22, ey_22⟩ : ∃ q, q = x_7 + 1 := ⟨_, rfl⟩
      have ty_22 : y_22.toInt = x_7.toInt + 1 := xI_add rfl rfl ey_22 ((by first | exact ok_21 f_10.1 | omega)) ((by first | exact ok_47 f_10.2 | omega))
      refine lv_iinc (v := y_22) (lv' := [(1, .int y_22), (0, .ref (a 66))]) hx hb dX12_act_77 hl (k := 0) rfl (by rw [ey_22]; rfl) (lt_b rfl) rfl (fun ls hl => ?_)
      refine lv_goto (tgt := 51) hx hb dX12_act_80 rfl ?_
      exact ih_5 (10 - y_22.toInt : Int).toNat (by omega) _ _ _ ⟨G_21, y_22, (Int.toNat_of_nonneg ((by first | exact ok_48 f_10.2 c_12 ty_22 | omega))), ⟨(by first | exact ok_23 f_10.1 ty_22 | omega), (by first | exact ok_49 f_10.2 c_12 ty_22 | omega)⟩, (hX_8.st (St_n_act_1_mk ⟨x_7, G_3, y_22, G_21, rfl, rfl, f_10, hB_G_3, ⟨c_12, ⟨y_18, ty_18, ⟨y_19, ty_19, ⟨y_20, ey_20, ⟨y_22, ty_22, ⟨rfl, (Fr.put (rs := [111]) (fs := []) Fr.rf eG_21 (Or.inl (by decide))), rw_ast eG_21⟩⟩⟩⟩⟩⟩⟩)), hW, hB_G_21, hF, (Fr.put (rs := [111]) (fs := []) (Fr.call9 (rs := [111]) (fs := []) Fr.rf hq_4 rfl rfl) eG_21 (Or.inl (by decide))), hS, lv_sub hl [0, 1] rfl⟩
  · have c_2 : (G.1 66 78).toInt = 40 := xI_eq rfl rfl c_2
    refine ic_0 hx hb dX12_act_9 ?_
    refine lv_istore_n (lv' := [(1, .int 0), (0, .ref (a 66))]) hx hb dX12_act_10 rfl hl (lt_b rfl) rfl (fun ls hl => ?_)
    have qc_29 : (0 : Int32).toInt = 0 := rfl
    refine loop_N (Inv := fun n H locs ls => ∃ (G_23 : GS) (x_27 : Int32), (n : Int) = 624 - x_27.toInt ∧ (0 ≤ x_27.toInt ∧ x_27.toInt ≤ 624) ∧ Rc (St_n_act_2) (0, G) (x_27, G_23) ∧ Wd D k A a G_23 H ∧ Bd G_23 ∧ Fr [111] [(66, 78), (66, 79)] G G_23 ∧ Fr [111] [] G G_23 ∧ va_S A s.heap H locs ∧ lv_has ls 2 [(1, .int x_27), (0, .ref (a 66))]) (fun n_26 H locs ls ih_25 hI => ?_) (624 - 0 : Int).toNat ⟨G, 0, (Int.toNat_of_nonneg ((by decide))), ⟨(by decide), (by decide)⟩, Rc.rf, hW, hB_G, hF, Fr.rf, hS, lv_sub hl [0, 1] rfl⟩
    obtain ⟨G_23, x_27, hn_31, f_30, hX_28, hW, hB_G_23, hF, hq_24, hS, hl⟩ := hI
    refine lv_iload_n hx hb dX12_act_11 rfl (lv_at hl 0 rfl) ?_
    refine lv_sipush (v := 624) hx hb dX12_act_12 (by decide) ?_
    refine lv_icmp_ge (tgt := 39) hx hb dX12_act_15 rfl (fun c_32 => ?_) (fun c_32 => ?_)
    · have c_32 : 624 ≤ x_27.toInt := xI_le rfl rfl c_32
      refine lv_aload_n hx hb dX12_act_39 rfl (lv_at hl 1 rfl) ?_
      refine lv_dup hx hb dX12_act_40 rfl ?_
      refine S_getI (v := (G.1 66 78)) (C := RX12) (T := TX12) (N := 89) hx hb hg iX12 hown hK hW kd_66 rfl 78 (lt_b rfl) (hg (Cond.fieldLink RX12 437 "SlabWalkModel" "acts" "I") m1392) (fun _ h9 => h9) rfl ((hq_24.i9 66 78 rfl rfl).trans (rfl)) dX12_act_41 ?_
      refine ic_1 hx hb dX12_act_44 ?_
      refine lv_isub hx hb dX12_act_45 ?_
      refine lv_topi (fun y_33 ey_33 => ?_)
      have ty_33 : y_33.toInt = (G.1 66 78).toInt - 1 := xI_sub rfl rfl ey_33 ((by first | exact ok_671 c_2 | omega)) ((by first | exact ok_207 b_1.2 | omega))
      refine S_putI (ty := .int) (C := RX12) (T := TX12) (N := 89) hx hb hg iX12 tyX12 tyX12_ok nmX12 hown hK hW hS kd_66 rfl 78 (lt_b rfl) (hg (Cond.fieldLink RX12 437 "SlabWalkModel" "acts" "I") m1392) (fun _ h9 => h9) rfl (by decide +kernel) rfl rfl rfl dX12_act_46 (fun G_34 H locs eG_34 hW hS => ?_)
      have hB_G_34 : Bd G_34 := hB_G_23.put (V := y_33.toInt) (lo := 0) (hi := 40) eG_34 rfl rfl rfl ((by first | exact ok_672 c_2 ty_33 | omega)) ((by first | exact ok_208 b_1.2 ty_33 | omega)) (hB_G_23.2.put eG_34 rfl)
      have hF := hF.put eG_34 (Or.inr (by decide))
      refine ic_0 hx hb dX12_act_49 ?_
      refine lv_istore_n (lv' := [(1, .int 0), (0, .ref (a 66))]) hx hb dX12_act_50 rfl hl (lt_b rfl) rfl (fun ls hl => ?_)
      have qc_41 : (0 : Int32).toInt = 0 := rfl
      refine loop_N (Inv := fun n H locs ls => ∃ (G_35 : GS) (x_39 : Int32), (n : Int) = 10 - x_39.toInt ∧ (0 ≤ x_39.toInt ∧ x_39.toInt ≤ 10) ∧ Rc (St_n_act_3 y_33) (0, G_34) (x_39, G_35) ∧ Wd D k A a G_35 H ∧ Bd G_35 ∧ Fr [111] [(66, 78), (66, 79)] G G_35 ∧ Fr [111] [] G_34 G_35 ∧ va_S A s.heap H locs ∧ lv_has ls 2 [(1, .int x_39), (0, .ref (a 66))]) (fun n_38 H locs ls ih_37 hI => ?_) (10 - 0 : Int).toNat ⟨G_34, 0, (Int.toNat_of_nonneg ((by decide))), ⟨(by decide), (by decide)⟩, Rc.rf, hW, hB_G_34, hF, Fr.rf, hS, lv_sub hl [0, 1] rfl⟩
      obtain ⟨G_35, x_39, hn_43, f_42, hX_40, hW, hB_G_35, hF, hq_36, hS, hl⟩ := hI
      refine lv_iload_n hx hb dX12_act_51 rfl (lv_at hl 0 rfl) ?_
      refine lv_bipush (v := 10) hx hb dX12_act_52 (by decide) ?_
      refine lv_icmp_ge (tgt := 83) hx hb dX12_act_54 rfl (fun c_44 => ?_) (fun c_44 => ?_)
      · have c_44 : 10 ≤ x_39.toInt := xI_le rfl rfl c_44
        refine lv_aload_n hx hb dX12_act_83 rfl (lv_at hl 1 rfl) ?_
        refine lv_dup hx hb dX12_act_84 rfl ?_
        refine S_getI (v := y_33) (C := RX12) (T := TX12) (N := 89) hx hb hg iX12 hown hK hW kd_66 rfl 78 (lt_b rfl) (hg (Cond.fieldLink RX12 437 "SlabWalkModel" "acts" "I") m1392) (fun _ h9 => h9) rfl ((hq_36.i9 66 78 rfl rfl).trans (gp_eq eG_34)) dX12_act_85 ?_
        refine ic_1 hx hb dX12_act_88 ?_
        refine lv_iadd hx hb dX12_act_89 ?_
        refine lv_topi (fun y_45 ey_45 => ?_)
        have ty_45 : y_45.toInt = y_33.toInt + 1 := xI_add rfl rfl ey_45 ((by first | exact ok_673 c_2 ty_33 | omega)) ((by first | exact ok_674 b_1.2 ty_33 | omega))
        refine S_putI (ty := .int) (C := RX12) (T := TX12) (N := 89) hx hb hg iX12 tyX12 tyX12_ok nmX12 hown hK hW hS kd_66 rfl 78 (lt_b rfl) (hg (Cond.fieldLink RX12 437 "SlabWalkModel" "acts" "I") m1392) (fun _ h9 => h9) rfl (by decide +kernel) rfl rfl rfl dX12_act_90 (fun G_46 H locs eG_46 hW hS => ?_)
        have hB_G_46 : Bd G_46 := hB_G_35.put (V := y_45.toInt) (lo := 0) (hi := 40) eG_46 rfl rfl rfl ((by first | exact ok_675 c_2 ty_33 ty_45 | omega)) ((by first | exact ok_676 b_1.2 ty_33 ty_45 | omega)) (hB_G_35.2.put eG_46 rfl)
        have hF := hF.put eG_46 (Or.inr (by decide))
        refine lv_aload_n hx hb dX12_act_93 rfl (lv_at hl 1 rfl) ?_
        refine ic_0 hx hb dX12_act_94 ?_
        refine S_putI (ty := .int) (C := RX12) (T := TX12) (N := 89) hx hb hg iX12 tyX12 tyX12_ok nmX12 hown hK hW hS kd_66 rfl 79 (lt_b rfl) (hg (Cond.fieldLink RX12 440 "SlabWalkModel" "undone" "I") m1393) (fun _ h9 => h9) rfl (by decide +kernel) rfl rfl rfl dX12_act_95 (fun G_47 H locs eG_47 hW hS => ?_)
        have hB_G_47 : Bd G_47 := hB_G_46.put (V := 0) (lo := 0) (hi := 40) eG_47 rfl rfl rfl (by decide) (by decide) (hB_G_46.2.put eG_47 rfl)
        have hF := hF.put eG_47 (Or.inr (by decide))
        have g_48 : (G_47.1 66 78).toInt = y_45.toInt := (congrArg Int32.toInt (show G_47.1 66 78 = y_45 from ((gp_ne eG_47 (by decide)).trans (gp_eq eG_46))))
        have g_49 : (G_47.1 66 79).toInt = 0 := (congrArg Int32.toInt (show G_47.1 66 79 = 0 from (gp_eq eG_47))).trans rfl
        exact W.vret hx hb hr (fun t ht _ => ⟨⟨G_47, rfl, (Q_act_mk ⟨hB_G_47, hF, ((by first | exact ⟨(by first | exact ok_677 b_1.2 ty_33 ty_45 g_48 g_49 | omega), (by first | exact ok_678 c_2 ty_33 ty_45 g_48 | omega)⟩ | omega)), (Or.inl ⟨c_2, ⟨x_27, G_23, hX_28, f_30, hB_G_23, hq_24, ⟨c_32, ⟨y_33, ty_33, ⟨G_34, hB_G_34, (Fr.put (rs := []) (fs := [(66, 78)]) Fr.rf eG_34 (Or.inr (by decide))), (gp_eq eG_34), ⟨x_39, G_35, hX_40, f_42, hB_G_35, hq_36, ⟨c_44, ⟨y_45, ty_45, ⟨(Fr.put (rs := []) (fs := [(66, 78), (66, 79)]) (Fr.put (rs := []) (fs := [(66, 78), (66, 79)]) Fr.rf eG_46 (Or.inr (by decide))) eG_47 (Or.inr (by decide))), ((gp_ne eG_47 (by decide)).trans (gp_eq eG_46)), (gp_eq eG_47)⟩⟩⟩⟩⟩⟩⟩⟩⟩)⟩), wd_t ht hW⟩, hS.F ht⟩) hS.2.2 dX12_act_98
      · have c_44 : x_39.toInt < 10 := xI_nle rfl rfl c_44
        refine lv_aload_n hx hb dX12_act_57 rfl (lv_at hl 1 rfl) ?_
        refine S_getR (n := 111) (C := RX12) (T := TX12) (N := 89) hx hb hg iX12 hown hK hW kd_66 rfl 77 (lt_b rfl) (hg (Cond.fieldLink RX12 154 "SlabWalkModel" "were" "[I") m1391) (fun _ h9 => h9) rfl dX12_act_58 ?_
        refine lv_bipush (v := 16) hx hb dX12_act_61 (by decide) ?_
        refine lv_aload_n hx hb dX12_act_63 rfl (lv_at hl 1 rfl) ?_
        refine S_getI (v := y_33) (C := RX12) (T := TX12) (N := 89) hx hb hg iX12 hown hK hW kd_66 rfl 78 (lt_b rfl) (hg (Cond.fieldLink RX12 437 "SlabWalkModel" "acts" "I") m1392) (fun _ h9 => h9) rfl ((hq_36.i9 66 78 rfl rfl).trans (gp_eq eG_34)) dX12_act_64 ?_
        refine lv_imul hx hb dX12_act_67 ?_
        refine lv_topi (fun y_50 ey_50 => ?_)
        have ty_50 : y_50.toInt = 16 * y_33.toInt := xI_mul rfl rfl ey_50 ((by first | exact ok_679 c_2 ty_33 | omega)) ((by first | exact ok_680 b_1.2 ty_33 | omega))
        refine lv_iload_n hx hb dX12_act_68 rfl (lv_at hl 0 rfl) ?_
        refine lv_iadd hx hb dX12_act_69 ?_
        refine lv_topi (fun y_51 ey_51 => ?_)
        have ty_51 : y_51.toInt = y_50.toInt + x_39.toInt := xI_add rfl rfl ey_51 ((by first | exact ok_681 c_2 ty_33 f_42.1 ty_50 | omega)) ((by first | exact ok_682 b_1.2 ty_33 f_42.2 ty_50 | omega))
        refine lv_aload_n hx hb dX12_act_70 rfl (lv_at hl 1 rfl) ?_
        refine S_getR (n := 110) (C := RX12) (T := TX12) (N := 89) hx hb hg iX12 hown hK hW kd_66 rfl 76 (lt_b rfl) (hg (Cond.fieldLink RX12 151 "SlabWalkModel" "now" "[I") m1390) (fun _ h9 => h9) rfl dX12_act_71 ?_
        refine lv_iload_n hx hb dX12_act_74 rfl (lv_at hl 0 rfl) ?_
        refine S_iald hx hb hK hW kd_110 (vin ((by first | exact f_42.1 | omega)) ((by first | exact ok_668 f_42.2 | omega))) dX12_act_75 (fun y_52 ey_52 => ?_)
        have ty_52 := hB_G_35.now 110 (by decide) ey_52 (by first | (clear hn_31 f_30 c_32 hn_43; omega) | omega)
        refine S_iast hx hb hK hW hS kd_111 (vin ((by first | exact ok_683 c_2 ty_33 f_42.1 ty_50 ty_51 | omega)) ((by first | exact ok_684 b_1.2 ty_33 f_42.2 ty_50 ty_51 | omega))) dX12_act_76 (fun G_53 H locs eG_53 hW hS => ?_)
        have hB_G_53 : Bd G_53 := hB_G_35.putNow 111 (by decide) eG_53 (by first | (clear hn_31 f_30 c_32 hn_43; omega) | omega) (by first | (clear hn_31 f_30 c_32 hn_43; omega) | omega) (by first | (clear hn_31 f_30 c_32 hn_43; omega) | omega) rfl
        have hF := hF.put eG_53 (Or.inl (by decide))
        obtain ⟨y_54, ey_54⟩ : ∃ q, q = x_39 + 1 := ⟨_, rfl⟩
        have ty_54 : y_54.toInt = x_39.toInt + 1 := xI_add rfl rfl ey_54 ((by first | exact ok_21 f_42.1 | omega)) ((by first | exact ok_47 f_42.2 | omega))
        refine lv_iinc (v := y_54) (lv' := [(1, .int y_54), (0, .ref (a 66))]) hx hb dX12_act_77 hl (k := 0) rfl (by rw [ey_54]; rfl) (lt_b rfl) rfl (fun ls hl => ?_)
        refine lv_goto (tgt := 51) hx hb dX12_act_80 rfl ?_
        exact ih_37 (10 - y_54.toInt : Int).toNat ((by first | (clear hn_31 f_30 c_32; omega) | omega)) _ _ _ ⟨G_53, y_54, (Int.toNat_of_nonneg ((by first | exact ok_48 f_42.2 c_44 ty_54 | omega))), ⟨(by first | exact ok_23 f_42.1 ty_54 | omega), (by first | exact ok_49 f_42.2 c_44 ty_54 | omega)⟩, (hX_40.st (St_n_act_3_mk ⟨x_39, G_35, y_54, G_53, rfl, rfl, f_42, hB_G_35, ⟨c_44, ⟨y_50, ty_50, ⟨y_51, ty_51, ⟨y_52, ey_52, ⟨y_54, ty_54, ⟨rfl, (Fr.put (rs := [111]) (fs := []) Fr.rf eG_53 (Or.inl (by decide))), rw_ast eG_53⟩⟩⟩⟩⟩⟩⟩)), hW, hB_G_53, hF, (Fr.put (rs := [111]) (fs := []) (Fr.call9 (rs := [111]) (fs := []) Fr.rf hq_36 rfl rfl) eG_53 (Or.inl (by decide))), hS, lv_sub hl [0, 1] rfl⟩
    · have c_32 : x_27.toInt < 624 := xI_nle rfl rfl c_32
      refine lv_aload_n hx hb dX12_act_18 rfl (lv_at hl 1 rfl) ?_
      refine S_getR (n := 111) (C := RX12) (T := TX12) (N := 89) hx hb hg iX12 hown hK hW kd_66 rfl 77 (lt_b rfl) (hg (Cond.fieldLink RX12 154 "SlabWalkModel" "were" "[I") m1391) (fun _ h9 => h9) rfl dX12_act_19 ?_
      refine lv_iload_n hx hb dX12_act_22 rfl (lv_at hl 0 rfl) ?_
      refine lv_aload_n hx hb dX12_act_23 rfl (lv_at hl 1 rfl) ?_
      refine S_getR (n := 111) (C := RX12) (T := TX12) (N := 89) hx hb hg iX12 hown hK hW kd_66 rfl 77 (lt_b rfl) (hg (Cond.fieldLink RX12 154 "SlabWalkModel" "were" "[I") m1391) (fun _ h9 => h9) rfl dX12_act_24 ?_
      refine lv_bipush (v := 16) hx hb dX12_act_27 (by decide) ?_
      refine lv_iload_n hx hb dX12_act_29 rfl (lv_at hl 0 rfl) ?_
      refine lv_iadd hx hb dX12_act_30 ?_
      refine lv_topi (fun y_55 ey_55 => ?_)
      have ty_55 : y_55.toInt = 16 + x_27.toInt := xI_add rfl rfl ey_55 ((by first | exact ok_685 f_30.1 | omega)) ((by first | exact ok_686 f_30.2 | omega))
      refine S_iald hx hb hK hW kd_111 (vin ((by first | exact ok_687 f_30.1 ty_55 | omega)) ((by first | exact ok_688 f_30.2 c_32 ty_55 | omega))) dX12_act_31 (fun y_56 ey_56 => ?_)
      have ty_56 := hB_G_23.now 111 (by decide) ey_56 (by first | (clear b_1 c_2 hn_31; omega) | omega)
      refine S_iast hx hb hK hW hS kd_111 (vin ((by first | exact f_30.1 | omega)) ((by first | exact ok_689 f_30.2 | omega))) dX12_act_32 (fun G_57 H locs eG_57 hW hS => ?_)
      have hB_G_57 : Bd G_57 := hB_G_23.putNow 111 (by decide) eG_57 (by first | (clear b_1 c_2 hn_31; omega) | omega) (by first | (clear b_1 c_2 hn_31; omega) | omega) (by first | (clear b_1 c_2 hn_31; omega) | omega) rfl
      have hF := hF.put eG_57 (Or.inl (by decide))
      obtain ⟨y_58, ey_58⟩ : ∃ q, q = x_27 + 1 := ⟨_, rfl⟩
      have ty_58 : y_58.toInt = x_27.toInt + 1 := xI_add rfl rfl ey_58 ((by first | exact ok_21 f_30.1 | omega)) ((by first | exact ok_690 f_30.2 | omega))
      refine lv_iinc (v := y_58) (lv' := [(1, .int y_58), (0, .ref (a 66))]) hx hb dX12_act_33 hl (k := 0) rfl (by rw [ey_58]; rfl) (lt_b rfl) rfl (fun ls hl => ?_)
      refine lv_goto (tgt := 11) hx hb dX12_act_36 rfl ?_
      exact ih_25 (624 - y_58.toInt : Int).toNat (by omega) _ _ _ ⟨G_57, y_58, (Int.toNat_of_nonneg ((by first | exact ok_691 f_30.2 c_32 ty_58 | omega))), ⟨(by first | exact ok_23 f_30.1 ty_58 | omega), (by first | exact ok_692 f_30.2 c_32 ty_58 | omega)⟩, (hX_28.st (St_n_act_2_mk ⟨x_27, G_23, y_58, G_57, rfl, rfl, f_30, hB_G_23, ⟨c_32, ⟨y_55, ty_55, ⟨y_56, ey_56, ⟨y_58, ty_58, ⟨rfl, (Fr.put (rs := [111]) (fs := []) Fr.rf eG_57 (Or.inl (by decide))), rw_ast eG_57⟩⟩⟩⟩⟩⟩)), hW, hB_G_57, hF, (Fr.put (rs := [111]) (fs := []) (Fr.call9 (rs := [111]) (fs := []) Fr.rf hq_24 rfl rfl) eG_57 (Or.inl (by decide))), hS, lv_sub hl [0, 1] rfl⟩

set_option maxHeartbeats 4000000 in
set_option maxRecDepth 100000 in
theorem n_exchange (l : Launch) (D : va_G) (k : KT) (A : Nat → Prop) (a : Nat → Nat) (z : SK) (G : GS) (p0 : Int32) (ha_p0 : 0 ≤ p0.toInt ∧ p0.toInt ≤ 624) (hx16 : p0.toInt % 16 = 0) : Met l yX12_exchange (WS yX12_exchange cX12_exchange 4 none) ({ frames := 0, cells := 0, slots := 0, locals := 0 }) (va_Pc [.ref (a 66), .int p0] (cW D k A a z G)) (va_Qv (fun (G1 : GS) => Q_exchange p0 G G1) (fun (G1 : GS) t => Wd D k A a G1 t.heap) A) 0 0 A := by
  refine Met.ofW (cc := cX12_exchange) (maxL := 4) (ret := none) (by decide) rfl ?_
  intro p e s m args below meth c s₁ B hml hv
  obtain ⟨rfl, hW, hB_G, hK, hZ⟩ := hv
  have hx := B.exec
  have hb := B.bytes
  have hr := B.returns
  have hts := atoms_spec (ws := WS yX12_exchange cX12_exchange 4 none) B.pre
  have hgd : ∀ w ∈ gd, w ∈ WS yX12_exchange cX12_exchange 4 none := fun w h => List.mem_cons_of_mem _ h
  have hg : ∀ w ∈ gd, w.before _ s = true := fun w h => hts w (hgd w h)
  have hown : s.vm.findClass RX12 = some m.cls := findClass_of_methodNamed B.named
  have hS : va_S A s.heap s.heap [] := va_S.rf
  have hF : Fr [110, 111] [] G G := Fr.rf
  have hl := lv_entry ([.ref (a 66), .int p0]) (n := 4) (Nat.le_of_ble_eq_true rfl)
  rw [lg_entry_eq]
  generalize (lg_sl ([.ref (a 66), .int p0]) ++ List.replicate (4 - (lg_sl ([.ref (a 66), .int p0])).length) Slot.unset).toArray = ls at hl ⊢
  have hl : lv_has ls 4 [(0, .ref (a 66)), (1, .int p0)] := hl
  refine ic_0 hx hb dX12_exchange_0 ?_
  refine lv_istore_n (lv' := [(2, .int 0), (0, .ref (a 66)), (1, .int p0)]) hx hb dX12_exchange_1 rfl hl (lt_b rfl) rfl (fun ls hl => ?_)
  have qc_7 : (0 : Int32).toInt = 0 := rfl
  refine loop_N (Inv := fun n H locs ls => ∃ (G_1 : GS) (x_5 : Int32), (n : Int) = 10 - x_5.toInt ∧ (0 ≤ x_5.toInt ∧ x_5.toInt ≤ 10) ∧ Rc (St_n_exchange_1 p0) (0, G) (x_5, G_1) ∧ Wd D k A a G_1 H ∧ Bd G_1 ∧ Fr [110, 111] [] G G_1 ∧ Fr [110, 111] [] G G_1 ∧ va_S A s.heap H locs ∧ lv_has ls 4 [(2, .int x_5), (0, .ref (a 66)), (1, .int p0)]) (fun n_4 H locs ls ih_3 hI => ?_) (10 - 0 : Int).toNat ⟨G, 0, (Int.toNat_of_nonneg ((by decide))), ⟨(by decide), (by decide)⟩, Rc.rf, hW, hB_G, hF, Fr.rf, hS, lv_sub hl [0, 1, 2] rfl⟩
  obtain ⟨G_1, x_5, hn_9, f_8, hX_6, hW, hB_G_1, hF, hq_2, hS, hl⟩ := hI
  refine lv_iload_n hx hb dX12_exchange_2 rfl (lv_at hl 0 rfl) ?_
  refine lv_bipush (v := 10) hx hb dX12_exchange_3 (by decide) ?_
  refine lv_icmp_ge (tgt := 44) hx hb dX12_exchange_5 rfl (fun c_10 => ?_) (fun c_10 => ?_)
  · have c_10 : 10 ≤ x_5.toInt := xI_le rfl rfl c_10
    exact W.vret hx hb hr (fun t ht _ => ⟨⟨G_1, rfl, (Q_exchange_mk ⟨hB_G_1, hF, ⟨x_5, G_1, hX_6, f_8, hB_G_1, hq_2, ⟨c_10, rfl⟩⟩⟩), wd_t ht hW⟩, hS.F ht⟩) hS.2.2 dX12_exchange_44
  · have c_10 : x_5.toInt < 10 := xI_nle rfl rfl c_10
    refine lv_aload_n hx hb dX12_exchange_8 rfl (lv_at hl 1 rfl) ?_
    refine S_getR (n := 111) (C := RX12) (T := TX12) (N := 89) hx hb hg iX12 hown hK hW kd_66 rfl 77 (lt_b rfl) (hg (Cond.fieldLink RX12 154 "SlabWalkModel" "were" "[I") m1391) (fun _ h9 => h9) rfl dX12_exchange_9 ?_
    refine lv_iload_n hx hb dX12_exchange_12 rfl (lv_at hl 2 rfl) ?_
    refine lv_iload_n hx hb dX12_exchange_13 rfl (lv_at hl 0 rfl) ?_
    refine lv_iadd hx hb dX12_exchange_14 ?_
    refine lv_topi (fun y_11 ey_11 => ?_)
    have ty_11 : y_11.toInt = p0.toInt + x_5.toInt := xI_add rfl rfl ey_11 ((by first | exact ok_15 ha_p0.1 f_8.1 | omega)) ((by first | exact ok_693 ha_p0.2 f_8.2 | omega))
    refine S_iald hx hb hK hW kd_111 (vin ((by first | exact ok_105 ha_p0.1 f_8.1 ty_11 | omega)) ((by first | exact ok_694 ha_p0.2 f_8.2 ty_11 | omega))) dX12_exchange_15 (fun y_12 ey_12 => ?_)
    have ty_12 := hB_G_1.now 111 (by decide) ey_12 (by omega)
    refine lv_istore_n (lv' := [(3, .int y_12), (2, .int x_5), (0, .ref (a 66)), (1, .int p0)]) hx hb dX12_exchange_16 rfl hl (lt_b rfl) rfl (fun ls hl => ?_)
    refine lv_aload_n hx hb dX12_exchange_17 rfl (lv_at hl 2 rfl) ?_
    refine S_getR (n := 111) (C := RX12) (T := TX12) (N := 89) hx hb hg iX12 hown hK hW kd_66 rfl 77 (lt_b rfl) (hg (Cond.fieldLink RX12 154 "SlabWalkModel" "were" "[I") m1391) (fun _ h9 => h9) rfl dX12_exchange_18 ?_
    refine lv_iload_n hx hb dX12_exchange_21 rfl (lv_at hl 3 rfl) ?_
    refine lv_iload_n hx hb dX12_exchange_22 rfl (lv_at hl 1 rfl) ?_
    refine lv_iadd hx hb dX12_exchange_23 ?_
    refine lv_topi (fun y_13 ey_13 => ?_)
    have ty_13 : y_13.toInt = p0.toInt + x_5.toInt := xI_add rfl rfl ey_13 ((by first | exact ok_15 ha_p0.1 f_8.1 | omega)) ((by first | exact ok_693 ha_p0.2 f_8.2 | omega))
    refine lv_aload_n hx hb dX12_exchange_24 rfl (lv_at hl 2 rfl) ?_
    refine S_getR (n := 110) (C := RX12) (T := TX12) (N := 89) hx hb hg iX12 hown hK hW kd_66 rfl 76 (lt_b rfl) (hg (Cond.fieldLink RX12 151 "SlabWalkModel" "now" "[I") m1390) (fun _ h9 => h9) rfl dX12_exchange_25 ?_
    refine lv_iload_n hx hb dX12_exchange_28 rfl (lv_at hl 1 rfl) ?_
    refine S_iald hx hb hK hW kd_110 (vin ((by first | exact f_8.1 | omega)) ((by first | exact ok_668 f_8.2 | omega))) dX12_exchange_29 (fun y_14 ey_14 => ?_)
    have ty_14 := hB_G_1.now 110 (by decide) ey_14 (by omega)
    refine S_iast hx hb hK hW hS kd_111 (vin ((by first | exact ok_105 ha_p0.1 f_8.1 ty_13 | omega)) ((by first | exact ok_694 ha_p0.2 f_8.2 ty_13 | omega))) dX12_exchange_30 (fun G_15 H locs eG_15 hW hS => ?_)
    have hB_G_15 : Bd G_15 := hB_G_1.putNow 111 (by decide) eG_15 (by omega) (by omega) (by omega) rfl
    have hF := hF.put eG_15 (Or.inl (by decide))
    refine lv_aload_n hx hb dX12_exchange_31 rfl (lv_at hl 2 rfl) ?_
    refine S_getR (n := 110) (C := RX12) (T := TX12) (N := 89) hx hb hg iX12 hown hK hW kd_66 rfl 76 (lt_b rfl) (hg (Cond.fieldLink RX12 151 "SlabWalkModel" "now" "[I") m1390) (fun _ h9 => h9) rfl dX12_exchange_32 ?_
    refine lv_iload_n hx hb dX12_exchange_35 rfl (lv_at hl 1 rfl) ?_
    refine lv_iload_n hx hb dX12_exchange_36 rfl (lv_at hl 0 rfl) ?_
    refine S_iast hx hb hK hW hS kd_110 (vin ((by first | exact f_8.1 | omega)) ((by first | exact ok_668 f_8.2 | omega))) dX12_exchange_37 (fun G_16 H locs eG_16 hW hS => ?_)
    have hB_G_16 : Bd G_16 := hB_G_15.putNow 110 (by decide) eG_16 (by omega) (by omega) (by omega) rfl
    have hF := hF.put eG_16 (Or.inl (by decide))
    obtain ⟨y_17, ey_17⟩ : ∃ q, q = x_5 + 1 := ⟨_, rfl⟩
    have ty_17 : y_17.toInt = x_5.toInt + 1 := xI_add rfl rfl ey_17 ((by first | exact ok_21 f_8.1 | omega)) ((by first | exact ok_47 f_8.2 | omega))
    refine lv_iinc (v := y_17) (lv' := [(2, .int y_17), (3, .int y_12), (0, .ref (a 66)), (1, .int p0)]) hx hb dX12_exchange_38 hl (k := 1) rfl (by rw [ey_17]; rfl) (lt_b rfl) rfl (fun ls hl => ?_)
    refine lv_goto (tgt := 2) hx hb dX12_exchange_41 rfl ?_
    exact ih_3 (10 - y_17.toInt : Int).toNat (by omega) _ _ _ ⟨G_16, y_17, (Int.toNat_of_nonneg ((by first | exact ok_48 f_8.2 c_10 ty_17 | omega))), ⟨(by first | exact ok_23 f_8.1 ty_17 | omega), (by first | exact ok_49 f_8.2 c_10 ty_17 | omega)⟩, (hX_6.st (St_n_exchange_1_mk ⟨x_5, G_1, y_17, G_16, rfl, rfl, f_8, hB_G_1, ⟨c_10, ⟨y_11, ty_11, ⟨y_12, ey_12, ⟨y_13, ty_13, ⟨y_14, ey_14, ⟨y_17, ty_17, ⟨rfl, (Fr.put (rs := [110, 111]) (fs := []) (Fr.put (rs := [110, 111]) (fs := []) Fr.rf eG_15 (Or.inl (by decide))) eG_16 (Or.inl (by decide))), (rw_ast eG_16).trans (congrArg (fun q => upd q (x_5.toNatClampNeg) y_12) (rw_put eG_15 (by decide))), (rw_put eG_16 (by decide)).trans (rw_ast eG_15)⟩⟩⟩⟩⟩⟩⟩⟩)), hW, hB_G_16, hF, (Fr.put (rs := [110, 111]) (fs := []) (Fr.put (rs := [110, 111]) (fs := []) (Fr.call9 (rs := [110, 111]) (fs := []) Fr.rf hq_2 rfl rfl) eG_15 (Or.inl (by decide))) eG_16 (Or.inl (by decide))), hS, lv_sub hl [0, 2, 3] rfl⟩

set_option maxHeartbeats 4000000 in
set_option maxRecDepth 100000 in
theorem n_undo (l : Launch) (D : va_G) (k : KT) (A : Nat → Prop) (a : Nat → Nat) (z : SK) (G : GS)  (hac : (G.1 66 78).toInt + (G.1 66 79).toInt ≤ 40) : Met l yX12_undo (WS yX12_undo cX12_undo 1 (some .boolean)) ({ frames := 1, cells := 0, slots := 0, locals := 23 }) (va_Pc [.ref (a 66)] (cW D k A a z G)) (va_Qi (fun (r : Int32) (G1 : GS) => Q_undo G r G1) (fun (G1 : GS) t => Wd D k A a G1 t.heap) A) 0 0 A := by
  refine Met.ofW (cc := cX12_undo) (maxL := 1) (ret := (some .boolean)) (by decide) rfl ?_
  intro p e s m args below meth c s₁ B hml hv
  obtain ⟨rfl, hW, hB_G, hK, hZ⟩ := hv
  have hx := B.exec
  have hb := B.bytes
  have hr := B.returns
  have hts := atoms_spec (ws := WS yX12_undo cX12_undo 1 (some .boolean)) B.pre
  have hgd : ∀ w ∈ gd, w ∈ WS yX12_undo cX12_undo 1 (some .boolean) := fun w h => List.mem_cons_of_mem _ h
  have hg : ∀ w ∈ gd, w.before _ s = true := fun w h => hts w (hgd w h)
  have hown : s.vm.findClass RX12 = some m.cls := findClass_of_methodNamed B.named
  have hS : va_S A s.heap s.heap [] := va_S.rf
  have hF : Fr [110, 111] [(66, 78), (66, 79)] G G := Fr.rf
  have hl := lv_entry ([.ref (a 66)]) (n := 1) (Nat.le_of_ble_eq_true rfl)
  rw [lg_entry_eq]
  generalize (lg_sl ([.ref (a 66)]) ++ List.replicate (1 - (lg_sl ([.ref (a 66)])).length) Slot.unset).toArray = ls at hl ⊢
  have hl : lv_has ls 1 [(0, .ref (a 66))] := hl
  refine lv_aload_n hx hb dX12_undo_0 rfl (lv_at hl 0 rfl) ?_
  have b_1 : 0 ≤ (G.1 66 78).toInt ∧ (G.1 66 78).toInt ≤ 40 := bd_66_78 hB_G
  refine S_getI (v := (G.1 66 78)) (C := RX12) (T := TX12) (N := 89) hx hb hg iX12 hown hK hW kd_66 rfl 78 (lt_b rfl) (hg (Cond.fieldLink RX12 437 "SlabWalkModel" "acts" "I") m1392) (fun _ h9 => h9) rfl rfl dX12_undo_1 ?_
  refine lv_if_ne (tgt := 9) hx hb dX12_undo_4 rfl (fun c_2 => ?_) (fun c_2 => ?_)
  · have c_2 : (G.1 66 78).toInt ≠ 0 := xI_ne rfl rfl c_2
    refine lv_aload_n hx hb dX12_undo_9 rfl (lv_at hl 0 rfl) ?_
    refine lv_dup hx hb dX12_undo_10 rfl ?_
    refine S_getI (v := (G.1 66 78)) (C := RX12) (T := TX12) (N := 89) hx hb hg iX12 hown hK hW kd_66 rfl 78 (lt_b rfl) (hg (Cond.fieldLink RX12 437 "SlabWalkModel" "acts" "I") m1392) (fun _ h9 => h9) rfl rfl dX12_undo_11 ?_
    refine ic_1 hx hb dX12_undo_14 ?_
    refine lv_isub hx hb dX12_undo_15 ?_
    refine lv_topi (fun y_3 ey_3 => ?_)
    have ty_3 : y_3.toInt = (G.1 66 78).toInt - 1 := xI_sub rfl rfl ey_3 ((by first | exact ok_56 b_1.1 | omega)) ((by first | exact ok_207 b_1.2 | omega))
    refine S_putI (ty := .int) (C := RX12) (T := TX12) (N := 89) hx hb hg iX12 tyX12 tyX12_ok nmX12 hown hK hW hS kd_66 rfl 78 (lt_b rfl) (hg (Cond.fieldLink RX12 437 "SlabWalkModel" "acts" "I") m1392) (fun _ h9 => h9) rfl (by decide +kernel) rfl rfl rfl dX12_undo_16 (fun G_4 H locs eG_4 hW hS => ?_)
    have hB_G_4 : Bd G_4 := hB_G.put (V := y_3.toInt) (lo := 0) (hi := 40) eG_4 rfl rfl rfl ((by first | exact ok_695 b_1.1 c_2 ty_3 | omega)) ((by first | exact ok_208 b_1.2 ty_3 | omega)) (hB_G.2.put eG_4 rfl)
    have hF := hF.put eG_4 (Or.inr (by decide))
    refine lv_aload_n hx hb dX12_undo_19 rfl (lv_at hl 0 rfl) ?_
    refine lv_dup hx hb dX12_undo_20 rfl ?_
    have b_5 : 0 ≤ (G.1 66 79).toInt ∧ (G.1 66 79).toInt ≤ 40 := bd_66_79 hB_G
    refine S_getI (v := (G.1 66 79)) (C := RX12) (T := TX12) (N := 89) hx hb hg iX12 hown hK hW kd_66 rfl 79 (lt_b rfl) (hg (Cond.fieldLink RX12 440 "SlabWalkModel" "undone" "I") m1393) (fun _ h9 => h9) rfl (gp_ne eG_4 (by decide)) dX12_undo_21 ?_
    refine ic_1 hx hb dX12_undo_24 ?_
    refine lv_iadd hx hb dX12_undo_25 ?_
    refine lv_topi (fun y_6 ey_6 => ?_)
    have ty_6 : y_6.toInt = (G.1 66 79).toInt + 1 := xI_add rfl rfl ey_6 ((by first | exact ok_21 b_5.1 | omega)) ((by first | exact ok_201 b_5.2 | omega))
    refine S_putI (ty := .int) (C := RX12) (T := TX12) (N := 89) hx hb hg iX12 tyX12 tyX12_ok nmX12 hown hK hW hS kd_66 rfl 79 (lt_b rfl) (hg (Cond.fieldLink RX12 440 "SlabWalkModel" "undone" "I") m1393) (fun _ h9 => h9) rfl (by decide +kernel) rfl rfl rfl dX12_undo_26 (fun G_7 H locs eG_7 hW hS => ?_)
    have hB_G_7 : Bd G_7 := hB_G_4.put (V := y_6.toInt) (lo := 0) (hi := 40) eG_7 rfl rfl rfl ((by first | exact ok_23 b_5.1 ty_6 | omega)) ((by first | exact ok_696 hac b_1.1 c_2 b_5.2 ty_6 | omega)) (hB_G_4.2.put eG_7 rfl)
    have hF := hF.put eG_7 (Or.inr (by decide))
    refine lv_aload_n hx hb dX12_undo_29 rfl (lv_at hl 0 rfl) ?_
    refine lv_bipush (v := 16) hx hb dX12_undo_30 (by decide) ?_
    refine lv_aload_n hx hb dX12_undo_32 rfl (lv_at hl 0 rfl) ?_
    refine S_getI (v := y_3) (C := RX12) (T := TX12) (N := 89) hx hb hg iX12 hown hK hW kd_66 rfl 78 (lt_b rfl) (hg (Cond.fieldLink RX12 437 "SlabWalkModel" "acts" "I") m1392) (fun _ h9 => h9) rfl ((gp_ne eG_7 (by decide)).trans (gp_eq eG_4)) dX12_undo_33 ?_
    refine lv_imul hx hb dX12_undo_36 ?_
    refine lv_topi (fun y_8 ey_8 => ?_)
    have ty_8 : y_8.toInt = 16 * y_3.toInt := xI_mul rfl rfl ey_8 ((by first | exact ok_697 b_1.1 ty_3 | omega)) ((by first | exact ok_680 b_1.2 ty_3 | omega))
    refine S_callv (va_runV (As := [.int y_8]) (rest := []) ⟨hx, hb, hml, hown, hts⟩ (n_exchange l D k A a z G_7 y_8 ⟨(by first | exact ok_698 b_1.1 c_2 ty_3 ty_8 | omega), (by first | exact ok_699 b_1.2 ty_3 ty_8 | omega)⟩ (by omega)) (cwV 1 hts (gd_V hgd m2023 m2025 m114 m131 m2026) rfl rfl rfl hd_X12_exchange ⟨Nat.le_of_ble_eq_true rfl, Nat.le_of_ble_eq_true rfl⟩) (pre_W hW hB_G_7 hK hZ hS kd_66 rfl) rfl rfl hl.1 rfl (lv_room (Nat.le_of_ble_eq_true rfl)) dX12_undo_37 ⟨Nat.le_of_ble_eq_true rfl, Nat.le_of_ble_eq_true rfl⟩) hS (fun G_10 H locs hpo hW hS => ?_)
    have hX_13 : Q_exchange y_8 G_7 G_10 := hpo
    obtain ⟨hB_G_10, hq_11, -⟩ := hpo
    have hF := hF.call9 hq_11 rfl rfl
    refine ic_1 hx hb dX12_undo_40 ?_
    have g_14 : (G_10.1 66 78).toInt = y_3.toInt := (congrArg Int32.toInt (show G_10.1 66 78 = y_3 from ((hq_11.i9 66 78 rfl rfl).trans ((gp_ne eG_7 (by decide)).trans (gp_eq eG_4)))))
    have g_15 : (G_10.1 66 79).toInt = y_6.toInt := (congrArg Int32.toInt (show G_10.1 66 79 = y_6 from ((hq_11.i9 66 79 rfl rfl).trans (gp_eq eG_7))))
    exact W.zret (v := 1) hx hb hr (by decide) (fun t ht _ => ⟨⟨1, G_10, rfl, (Q_undo_mk ⟨hB_G_10, hF, ⟨by decide, by decide⟩, (by have hq : (1 : Int32).toInt = 1 := rfl; (try dsimp only); omega), (Or.inr ⟨c_2, ⟨y_3, ty_3, ⟨y_6, ty_6, ⟨y_8, ty_8, ⟨G_7, hB_G_7, (Fr.put (rs := []) (fs := [(66, 78), (66, 79)]) (Fr.put (rs := []) (fs := [(66, 78), (66, 79)]) Fr.rf eG_4 (Or.inr (by decide))) eG_7 (Or.inr (by decide))), ((gp_ne eG_7 (by decide)).trans (gp_eq eG_4)), (gp_eq eG_7), ⟨G_10, hX_13, ⟨rfl, rfl⟩⟩⟩⟩⟩⟩⟩)⟩), wd_t ht hW⟩, hS.F ht⟩) hS.2.2 dX12_undo_41
  · have c_2 : (G.1 66 78).toInt = 0 := xI_eq rfl rfl c_2
    refine ic_0 hx hb dX12_undo_7 ?_
    have b_16 : 0 ≤ (G.1 66 79).toInt ∧ (G.1 66 79).toInt ≤ 40 := bd_66_79 hB_G
    exact W.zret (v := 0) hx hb hr (by decide) (fun t ht _ => ⟨⟨0, G, rfl, (Q_undo_mk ⟨hB_G, hF, ⟨by decide, by decide⟩, (by have hq : (0 : Int32).toInt = 0 := rfl; (try dsimp only); omega), (Or.inl ⟨c_2, ⟨rfl, rfl⟩⟩)⟩), wd_t ht hW⟩, hS.F ht⟩) hS.2.2 dX12_undo_8

set_option maxHeartbeats 4000000 in
set_option maxRecDepth 100000 in
theorem n_redo (l : Launch) (D : va_G) (k : KT) (A : Nat → Prop) (a : Nat → Nat) (z : SK) (G : GS)  (hac : (G.1 66 78).toInt + (G.1 66 79).toInt ≤ 40) : Met l yX12_redo (WS yX12_redo cX12_redo 1 (some .boolean)) ({ frames := 1, cells := 0, slots := 0, locals := 23 }) (va_Pc [.ref (a 66)] (cW D k A a z G)) (va_Qi (fun (r : Int32) (G1 : GS) => Q_redo G r G1) (fun (G1 : GS) t => Wd D k A a G1 t.heap) A) 0 0 A := by
  refine Met.ofW (cc := cX12_redo) (maxL := 1) (ret := (some .boolean)) (by decide) rfl ?_
  intro p e s m args below meth c s₁ B hml hv
  obtain ⟨rfl, hW, hB_G, hK, hZ⟩ := hv
  have hx := B.exec
  have hb := B.bytes
  have hr := B.returns
  have hts := atoms_spec (ws := WS yX12_redo cX12_redo 1 (some .boolean)) B.pre
  have hgd : ∀ w ∈ gd, w ∈ WS yX12_redo cX12_redo 1 (some .boolean) := fun w h => List.mem_cons_of_mem _ h
  have hg : ∀ w ∈ gd, w.before _ s = true := fun w h => hts w (hgd w h)
  have hown : s.vm.findClass RX12 = some m.cls := findClass_of_methodNamed B.named
  have hS : va_S A s.heap s.heap [] := va_S.rf
  have hF : Fr [110, 111] [(66, 78), (66, 79)] G G := Fr.rf
  have hl := lv_entry ([.ref (a 66)]) (n := 1) (Nat.le_of_ble_eq_true rfl)
  rw [lg_entry_eq]
  generalize (lg_sl ([.ref (a 66)]) ++ List.replicate (1 - (lg_sl ([.ref (a 66)])).length) Slot.unset).toArray = ls at hl ⊢
  have hl : lv_has ls 1 [(0, .ref (a 66))] := hl
  refine lv_aload_n hx hb dX12_redo_0 rfl (lv_at hl 0 rfl) ?_
  have b_1 : 0 ≤ (G.1 66 79).toInt ∧ (G.1 66 79).toInt ≤ 40 := bd_66_79 hB_G
  refine S_getI (v := (G.1 66 79)) (C := RX12) (T := TX12) (N := 89) hx hb hg iX12 hown hK hW kd_66 rfl 79 (lt_b rfl) (hg (Cond.fieldLink RX12 440 "SlabWalkModel" "undone" "I") m1393) (fun _ h9 => h9) rfl rfl dX12_redo_1 ?_
  refine lv_if_ne (tgt := 9) hx hb dX12_redo_4 rfl (fun c_2 => ?_) (fun c_2 => ?_)
  · have c_2 : (G.1 66 79).toInt ≠ 0 := xI_ne rfl rfl c_2
    refine lv_aload_n hx hb dX12_redo_9 rfl (lv_at hl 0 rfl) ?_
    refine lv_bipush (v := 16) hx hb dX12_redo_10 (by decide) ?_
    refine lv_aload_n hx hb dX12_redo_12 rfl (lv_at hl 0 rfl) ?_
    have b_3 : 0 ≤ (G.1 66 78).toInt ∧ (G.1 66 78).toInt ≤ 40 := bd_66_78 hB_G
    refine S_getI (v := (G.1 66 78)) (C := RX12) (T := TX12) (N := 89) hx hb hg iX12 hown hK hW kd_66 rfl 78 (lt_b rfl) (hg (Cond.fieldLink RX12 437 "SlabWalkModel" "acts" "I") m1392) (fun _ h9 => h9) rfl rfl dX12_redo_13 ?_
    refine lv_imul hx hb dX12_redo_16 ?_
    refine lv_topi (fun y_4 ey_4 => ?_)
    have ty_4 : y_4.toInt = 16 * (G.1 66 78).toInt := xI_mul rfl rfl ey_4 ((by first | exact ok_664 b_3.1 | omega)) ((by first | exact ok_665 b_3.2 | omega))
    refine S_callv (va_runV (As := [.int y_4]) (rest := []) ⟨hx, hb, hml, hown, hts⟩ (n_exchange l D k A a z G y_4 ⟨(by first | exact ok_700 b_3.1 ty_4 | omega), (by first | exact ok_701 hac b_1.1 c_2 b_3.2 ty_4 | omega)⟩ (by omega)) (cwV 1 hts (gd_V hgd m2023 m2025 m114 m131 m2026) rfl rfl rfl hd_X12_exchange ⟨Nat.le_of_ble_eq_true rfl, Nat.le_of_ble_eq_true rfl⟩) (pre_W hW hB_G hK hZ hS kd_66 rfl) rfl rfl hl.1 rfl (lv_room (Nat.le_of_ble_eq_true rfl)) dX12_redo_17 ⟨Nat.le_of_ble_eq_true rfl, Nat.le_of_ble_eq_true rfl⟩) hS (fun G_6 H locs hpo hW hS => ?_)
    have hX_9 : Q_exchange y_4 G G_6 := hpo
    obtain ⟨hB_G_6, hq_7, -⟩ := hpo
    have hF := hF.call9 hq_7 rfl rfl
    refine lv_aload_n hx hb dX12_redo_20 rfl (lv_at hl 0 rfl) ?_
    refine lv_dup hx hb dX12_redo_21 rfl ?_
    refine S_getI (v := (G.1 66 78)) (C := RX12) (T := TX12) (N := 89) hx hb hg iX12 hown hK hW kd_66 rfl 78 (lt_b rfl) (hg (Cond.fieldLink RX12 437 "SlabWalkModel" "acts" "I") m1392) (fun _ h9 => h9) rfl ((hq_7.i9 66 78 rfl rfl).trans (rfl)) dX12_redo_22 ?_
    refine ic_1 hx hb dX12_redo_25 ?_
    refine lv_iadd hx hb dX12_redo_26 ?_
    refine lv_topi (fun y_10 ey_10 => ?_)
    have ty_10 : y_10.toInt = (G.1 66 78).toInt + 1 := xI_add rfl rfl ey_10 ((by first | exact ok_21 b_3.1 | omega)) ((by first | exact ok_201 b_3.2 | omega))
    refine S_putI (ty := .int) (C := RX12) (T := TX12) (N := 89) hx hb hg iX12 tyX12 tyX12_ok nmX12 hown hK hW hS kd_66 rfl 78 (lt_b rfl) (hg (Cond.fieldLink RX12 437 "SlabWalkModel" "acts" "I") m1392) (fun _ h9 => h9) rfl (by decide +kernel) rfl rfl rfl dX12_redo_27 (fun G_11 H locs eG_11 hW hS => ?_)
    have hB_G_11 : Bd G_11 := hB_G_6.put (V := y_10.toInt) (lo := 0) (hi := 40) eG_11 rfl rfl rfl ((by first | exact ok_23 b_3.1 ty_10 | omega)) ((by first | exact ok_702 hac b_1.1 c_2 b_3.2 ty_10 | omega)) (hB_G_6.2.put eG_11 rfl)
    have hF := hF.put eG_11 (Or.inr (by decide))
    refine lv_aload_n hx hb dX12_redo_30 rfl (lv_at hl 0 rfl) ?_
    refine lv_dup hx hb dX12_redo_31 rfl ?_
    refine S_getI (v := (G.1 66 79)) (C := RX12) (T := TX12) (N := 89) hx hb hg iX12 hown hK hW kd_66 rfl 79 (lt_b rfl) (hg (Cond.fieldLink RX12 440 "SlabWalkModel" "undone" "I") m1393) (fun _ h9 => h9) rfl ((gp_ne eG_11 (by decide)).trans ((hq_7.i9 66 79 rfl rfl).trans (rfl))) dX12_redo_32 ?_
    refine ic_1 hx hb dX12_redo_35 ?_
    refine lv_isub hx hb dX12_redo_36 ?_
    refine lv_topi (fun y_12 ey_12 => ?_)
    have ty_12 : y_12.toInt = (G.1 66 79).toInt - 1 := xI_sub rfl rfl ey_12 ((by first | exact ok_56 b_1.1 | omega)) ((by first | exact ok_207 b_1.2 | omega))
    refine S_putI (ty := .int) (C := RX12) (T := TX12) (N := 89) hx hb hg iX12 tyX12 tyX12_ok nmX12 hown hK hW hS kd_66 rfl 79 (lt_b rfl) (hg (Cond.fieldLink RX12 440 "SlabWalkModel" "undone" "I") m1393) (fun _ h9 => h9) rfl (by decide +kernel) rfl rfl rfl dX12_redo_37 (fun G_13 H locs eG_13 hW hS => ?_)
    have hB_G_13 : Bd G_13 := hB_G_11.put (V := y_12.toInt) (lo := 0) (hi := 40) eG_13 rfl rfl rfl ((by first | exact ok_695 b_1.1 c_2 ty_12 | omega)) ((by first | exact ok_208 b_1.2 ty_12 | omega)) (hB_G_11.2.put eG_13 rfl)
    have hF := hF.put eG_13 (Or.inr (by decide))
    refine ic_1 hx hb dX12_redo_40 ?_
    have g_14 : (G_13.1 66 78).toInt = y_10.toInt := (congrArg Int32.toInt (show G_13.1 66 78 = y_10 from ((gp_ne eG_13 (by decide)).trans (gp_eq eG_11))))
    have g_15 : (G_13.1 66 79).toInt = y_12.toInt := (congrArg Int32.toInt (show G_13.1 66 79 = y_12 from (gp_eq eG_13)))
    exact W.zret (v := 1) hx hb hr (by decide) (fun t ht _ => ⟨⟨1, G_13, rfl, (Q_redo_mk ⟨hB_G_13, hF, ⟨by decide, by decide⟩, (by have hq : (1 : Int32).toInt = 1 := rfl; (try dsimp only); omega), (Or.inr ⟨c_2, ⟨y_4, ty_4, ⟨G_6, hX_9, ⟨y_10, ty_10, ⟨y_12, ty_12, ⟨rfl, (Fr.put (rs := []) (fs := [(66, 78), (66, 79)]) (Fr.put (rs := []) (fs := [(66, 78), (66, 79)]) Fr.rf eG_11 (Or.inr (by decide))) eG_13 (Or.inr (by decide))), ((gp_ne eG_13 (by decide)).trans (gp_eq eG_11)), (gp_eq eG_13)⟩⟩⟩⟩⟩⟩)⟩), wd_t ht hW⟩, hS.F ht⟩) hS.2.2 dX12_redo_41
  · have c_2 : (G.1 66 79).toInt = 0 := xI_eq rfl rfl c_2
    refine ic_0 hx hb dX12_redo_7 ?_
    have b_16 : 0 ≤ (G.1 66 78).toInt ∧ (G.1 66 78).toInt ≤ 40 := bd_66_78 hB_G
    exact W.zret (v := 0) hx hb hr (by decide) (fun t ht _ => ⟨⟨0, G, rfl, (Q_redo_mk ⟨hB_G, hF, ⟨by decide, by decide⟩, (by have hq : (0 : Int32).toInt = 0 := rfl; (try dsimp only); omega), (Or.inl ⟨c_2, ⟨rfl, rfl⟩⟩)⟩), wd_t ht hW⟩, hS.F ht⟩) hS.2.2 dX12_redo_8

set_option maxHeartbeats 4000000 in
set_option maxRecDepth 100000 in
theorem n_rain (l : Launch) (D : va_G) (k : KT) (A : Nat → Prop) (a : Nat → Nat) (z : SK) (G : GS)  (hac : (G.1 66 78).toInt + (G.1 66 79).toInt ≤ 40) : Met l yX12_rain (WS yX12_rain cX12_rain 1 (some .boolean)) ({ frames := 1, cells := 0, slots := 0, locals := 21 }) (va_Pc [.ref (a 66)] (cW D k A a z G)) (va_Qi (fun (r : Int32) (G1 : GS) => Q_rain G r G1) (fun (G1 : GS) t => Wd D k A a G1 t.heap) A) 0 0 A := by
  refine Met.ofW (cc := cX12_rain) (maxL := 1) (ret := (some .boolean)) (by decide) rfl ?_
  intro p e s m args below meth c s₁ B hml hv
  obtain ⟨rfl, hW, hB_G, hK, hZ⟩ := hv
  have hx := B.exec
  have hb := B.bytes
  have hr := B.returns
  have hts := atoms_spec (ws := WS yX12_rain cX12_rain 1 (some .boolean)) B.pre
  have hgd : ∀ w ∈ gd, w ∈ WS yX12_rain cX12_rain 1 (some .boolean) := fun w h => List.mem_cons_of_mem _ h
  have hg : ∀ w ∈ gd, w.before _ s = true := fun w h => hts w (hgd w h)
  have hown : s.vm.findClass RX12 = some m.cls := findClass_of_methodNamed B.named
  have hS : va_S A s.heap s.heap [] := va_S.rf
  have hF : Fr [110, 111] [(66, 78), (66, 79)] G G := Fr.rf
  have hl := lv_entry ([.ref (a 66)]) (n := 1) (Nat.le_of_ble_eq_true rfl)
  rw [lg_entry_eq]
  generalize (lg_sl ([.ref (a 66)]) ++ List.replicate (1 - (lg_sl ([.ref (a 66)])).length) Slot.unset).toArray = ls at hl ⊢
  have hl : lv_has ls 1 [(0, .ref (a 66))] := hl
  refine lv_aload_n hx hb dX12_rain_0 rfl (lv_at hl 0 rfl) ?_
  refine S_callv (va_runV (As := []) (rest := []) ⟨hx, hb, hml, hown, hts⟩ (n_act l D k A a z G  ) (cwV 0 hts (gd_V hgd m1991 m1993 m111 m131 m1994) rfl rfl rfl hd_X12_act ⟨Nat.le_of_ble_eq_true rfl, Nat.le_of_ble_eq_true rfl⟩) (pre_W hW hB_G hK hZ hS kd_66 rfl) rfl rfl hl.1 rfl (lv_room (Nat.le_of_ble_eq_true rfl)) dX12_rain_1 ⟨Nat.le_of_ble_eq_true rfl, Nat.le_of_ble_eq_true rfl⟩) hS (fun G_2 H locs hpo hW hS => ?_)
  have hX_5 : Q_act G G_2 := hpo
  obtain ⟨hB_G_2, hq_3, hp_4, -⟩ := hpo
  have hF := hF.call9 hq_3 rfl rfl
  refine lv_aload_n hx hb dX12_rain_4 rfl (lv_at hl 0 rfl) ?_
  refine S_getR (n := 110) (C := RX12) (T := TX12) (N := 89) hx hb hg iX12 hown hK hW kd_66 rfl 76 (lt_b rfl) (hg (Cond.fieldLink RX12 151 "SlabWalkModel" "now" "[I") m1390) (fun _ h9 => h9) rfl dX12_rain_5 ?_
  refine lv_bipush (v := 9) hx hb dX12_rain_8 (by decide) ?_
  refine ic_1 hx hb dX12_rain_10 ?_
  refine lv_aload_n hx hb dX12_rain_11 rfl (lv_at hl 0 rfl) ?_
  refine S_getR (n := 110) (C := RX12) (T := TX12) (N := 89) hx hb hg iX12 hown hK hW kd_66 rfl 76 (lt_b rfl) (hg (Cond.fieldLink RX12 151 "SlabWalkModel" "now" "[I") m1390) (fun _ h9 => h9) rfl dX12_rain_12 ?_
  refine lv_bipush (v := 9) hx hb dX12_rain_15 (by decide) ?_
  refine S_iald hx hb hK hW kd_110 (vin (by decide) (by decide)) dX12_rain_17 (fun y_6 ey_6 => ?_)
  refine lv_isub hx hb dX12_rain_18 ?_
  refine lv_topi (fun y_7 ey_7 => ?_)
  refine S_iast hx hb hK hW hS kd_110 (vin (by decide) (by decide)) dX12_rain_19 (fun G_8 H locs eG_8 hW hS => ?_)
  have qc_9 : (9 : Int32).toInt = 9 := rfl
  have hB_G_8 : Bd G_8 := hB_G_2.putNow 110 (by decide) eG_8 (by omega) (by omega) (by omega) rfl
  have hF := hF.put eG_8 (Or.inl (by decide))
  refine lv_aload_n hx hb dX12_rain_20 rfl (lv_at hl 0 rfl) ?_
  refine S_getR (n := 110) (C := RX12) (T := TX12) (N := 89) hx hb hg iX12 hown hK hW kd_66 rfl 76 (lt_b rfl) (hg (Cond.fieldLink RX12 151 "SlabWalkModel" "now" "[I") m1390) (fun _ h9 => h9) rfl dX12_rain_21 ?_
  refine lv_bipush (v := 9) hx hb dX12_rain_24 (by decide) ?_
  refine S_iald hx hb hK hW kd_110 (vin (by decide) (by decide)) dX12_rain_26 (fun y_10 ey_10 => ?_)
  refine ic_1 hx hb dX12_rain_27 ?_
  refine lv_icmp_ne (tgt := 35) hx hb dX12_rain_28 rfl (fun c_11 => ?_) (fun c_11 => ?_)
  · have c_11 : y_10.toInt ≠ 1 := xI_ne rfl rfl c_11
    refine ic_0 hx hb dX12_rain_35 ?_
    have b_12 : 0 ≤ (G_2.1 66 78).toInt ∧ (G_2.1 66 78).toInt ≤ 40 := bd_66_78 hB_G_2
    have g_13 : (G_8.1 66 78).toInt = (G_2.1 66 78).toInt := (congrArg Int32.toInt (show G_8.1 66 78 = (G_2.1 66 78) from (gp_ne eG_8 (fun q => absurd q.1 (Nat.ne_of_beq_eq_false rfl)))))
    have b_14 : 0 ≤ (G_2.1 66 79).toInt ∧ (G_2.1 66 79).toInt ≤ 40 := bd_66_79 hB_G_2
    have g_15 : (G_8.1 66 79).toInt = (G_2.1 66 79).toInt := (congrArg Int32.toInt (show G_8.1 66 79 = (G_2.1 66 79) from (gp_ne eG_8 (fun q => absurd q.1 (Nat.ne_of_beq_eq_false rfl)))))
    exact W.zret (v := 0) hx hb hr (by decide) (fun t ht _ => ⟨⟨0, G_8, rfl, (Q_rain_mk ⟨hB_G_8, hF, ⟨by decide, by decide⟩, (by have hq : (0 : Int32).toInt = 0 := rfl; (try dsimp only); omega), ⟨G_2, hX_5, ⟨y_6, ey_6, ⟨y_7, ey_7, ⟨y_10, ey_10.trans (congrFun (rw_ast eG_8) _), (Or.inr ⟨c_11, ⟨rfl, (Fr.put (rs := [110]) (fs := []) Fr.rf eG_8 (Or.inl (by decide))), rw_ast eG_8⟩⟩)⟩⟩⟩⟩⟩), wd_t ht hW⟩, hS.F ht⟩) hS.2.2 dX12_rain_36
  · have c_11 : y_10.toInt = 1 := xI_eq rfl rfl c_11
    refine ic_1 hx hb dX12_rain_31 ?_
    refine lv_goto (tgt := 36) hx hb dX12_rain_32 rfl ?_
    have b_16 : 0 ≤ (G_2.1 66 78).toInt ∧ (G_2.1 66 78).toInt ≤ 40 := bd_66_78 hB_G_2
    have g_17 : (G_8.1 66 78).toInt = (G_2.1 66 78).toInt := (congrArg Int32.toInt (show G_8.1 66 78 = (G_2.1 66 78) from (gp_ne eG_8 (fun q => absurd q.1 (Nat.ne_of_beq_eq_false rfl)))))
    have b_18 : 0 ≤ (G_2.1 66 79).toInt ∧ (G_2.1 66 79).toInt ≤ 40 := bd_66_79 hB_G_2
    have g_19 : (G_8.1 66 79).toInt = (G_2.1 66 79).toInt := (congrArg Int32.toInt (show G_8.1 66 79 = (G_2.1 66 79) from (gp_ne eG_8 (fun q => absurd q.1 (Nat.ne_of_beq_eq_false rfl)))))
    exact W.zret (v := 1) hx hb hr (by decide) (fun t ht _ => ⟨⟨1, G_8, rfl, (Q_rain_mk ⟨hB_G_8, hF, ⟨by decide, by decide⟩, (by have hq : (1 : Int32).toInt = 1 := rfl; (try dsimp only); omega), ⟨G_2, hX_5, ⟨y_6, ey_6, ⟨y_7, ey_7, ⟨y_10, ey_10.trans (congrFun (rw_ast eG_8) _), (Or.inl ⟨c_11, ⟨rfl, (Fr.put (rs := [110]) (fs := []) Fr.rf eG_8 (Or.inl (by decide))), rw_ast eG_8⟩⟩)⟩⟩⟩⟩⟩), wd_t ht hW⟩, hS.F ht⟩) hS.2.2 dX12_rain_36

set_option maxHeartbeats 4000000 in
set_option maxRecDepth 100000 in
theorem n_day (l : Launch) (D : va_G) (k : KT) (A : Nat → Prop) (a : Nat → Nat) (z : SK) (G : GS)  (hac : (G.1 66 78).toInt + (G.1 66 79).toInt ≤ 40) : Met l yX12_day (WS yX12_day cX12_day 1 (some .int)) ({ frames := 1, cells := 0, slots := 0, locals := 21 }) (va_Pc [.ref (a 66)] (cW D k A a z G)) (va_Qi (fun (r : Int32) (G1 : GS) => Q_day G r G1) (fun (G1 : GS) t => Wd D k A a G1 t.heap) A) 0 0 A := by
  refine Met.ofW (cc := cX12_day) (maxL := 1) (ret := (some .int)) (by decide) rfl ?_
  intro p e s m args below meth c s₁ B hml hv
  obtain ⟨rfl, hW, hB_G, hK, hZ⟩ := hv
  have hx := B.exec
  have hb := B.bytes
  have hr := B.returns
  have hts := atoms_spec (ws := WS yX12_day cX12_day 1 (some .int)) B.pre
  have hgd : ∀ w ∈ gd, w ∈ WS yX12_day cX12_day 1 (some .int) := fun w h => List.mem_cons_of_mem _ h
  have hg : ∀ w ∈ gd, w.before _ s = true := fun w h => hts w (hgd w h)
  have hown : s.vm.findClass RX12 = some m.cls := findClass_of_methodNamed B.named
  have hS : va_S A s.heap s.heap [] := va_S.rf
  have hF : Fr [110, 111] [(66, 78), (66, 79)] G G := Fr.rf
  have hl := lv_entry ([.ref (a 66)]) (n := 1) (Nat.le_of_ble_eq_true rfl)
  rw [lg_entry_eq]
  generalize (lg_sl ([.ref (a 66)]) ++ List.replicate (1 - (lg_sl ([.ref (a 66)])).length) Slot.unset).toArray = ls at hl ⊢
  have hl : lv_has ls 1 [(0, .ref (a 66))] := hl
  refine lv_aload_n hx hb dX12_day_0 rfl (lv_at hl 0 rfl) ?_
  refine S_getR (n := 110) (C := RX12) (T := TX12) (N := 89) hx hb hg iX12 hown hK hW kd_66 rfl 76 (lt_b rfl) (hg (Cond.fieldLink RX12 151 "SlabWalkModel" "now" "[I") m1390) (fun _ h9 => h9) rfl dX12_day_1 ?_
  refine lv_bipush (v := 6) hx hb dX12_day_4 (by decide) ?_
  refine S_iald hx hb hK hW kd_110 (vin (by decide) (by decide)) dX12_day_6 (fun y_1 ey_1 => ?_)
  refine lv_sipush (v := 1000) hx hb dX12_day_7 (by decide) ?_
  refine lv_icmp_ne (tgt := 15) hx hb dX12_day_10 rfl (fun c_2 => ?_) (fun c_2 => ?_)
  · have c_2 : y_1.toInt ≠ 1000 := xI_ne rfl rfl c_2
    refine lv_aload_n hx hb dX12_day_15 rfl (lv_at hl 0 rfl) ?_
    refine S_callv (va_runV (As := []) (rest := []) ⟨hx, hb, hml, hown, hts⟩ (n_act l D k A a z G  ) (cwV 0 hts (gd_V hgd m1991 m1993 m111 m131 m1994) rfl rfl rfl hd_X12_act ⟨Nat.le_of_ble_eq_true rfl, Nat.le_of_ble_eq_true rfl⟩) (pre_W hW hB_G hK hZ hS kd_66 rfl) rfl rfl hl.1 rfl (lv_room (Nat.le_of_ble_eq_true rfl)) dX12_day_16 ⟨Nat.le_of_ble_eq_true rfl, Nat.le_of_ble_eq_true rfl⟩) hS (fun G_4 H locs hpo hW hS => ?_)
    have hX_7 : Q_act G G_4 := hpo
    obtain ⟨hB_G_4, hq_5, hp_6, -⟩ := hpo
    have hF := hF.call9 hq_5 rfl rfl
    refine lv_aload_n hx hb dX12_day_19 rfl (lv_at hl 0 rfl) ?_
    refine S_getR (n := 110) (C := RX12) (T := TX12) (N := 89) hx hb hg iX12 hown hK hW kd_66 rfl 76 (lt_b rfl) (hg (Cond.fieldLink RX12 151 "SlabWalkModel" "now" "[I") m1390) (fun _ h9 => h9) rfl dX12_day_20 ?_
    refine lv_bipush (v := 6) hx hb dX12_day_23 (by decide) ?_
    refine lv_dup2_11 hx hb dX12_day_25 rfl rfl ?_
    refine S_iald hx hb hK hW kd_110 (vin (by decide) (by decide)) dX12_day_26 (fun y_8 ey_8 => ?_)
    refine ic_1 hx hb dX12_day_27 ?_
    refine lv_iadd hx hb dX12_day_28 ?_
    refine lv_topi (fun y_9 ey_9 => ?_)
    refine S_iast hx hb hK hW hS kd_110 (vin (by decide) (by decide)) dX12_day_29 (fun G_10 H locs eG_10 hW hS => ?_)
    have qc_11 : (6 : Int32).toInt = 6 := rfl
    have hB_G_10 : Bd G_10 := hB_G_4.putNow 110 (by decide) eG_10 (by omega) (by omega) (by omega) rfl
    have hF := hF.put eG_10 (Or.inl (by decide))
    refine lv_aload_n hx hb dX12_day_30 rfl (lv_at hl 0 rfl) ?_
    refine S_getR (n := 110) (C := RX12) (T := TX12) (N := 89) hx hb hg iX12 hown hK hW kd_66 rfl 76 (lt_b rfl) (hg (Cond.fieldLink RX12 151 "SlabWalkModel" "now" "[I") m1390) (fun _ h9 => h9) rfl dX12_day_31 ?_
    refine lv_bipush (v := 6) hx hb dX12_day_34 (by decide) ?_
    refine S_iald hx hb hK hW kd_110 (vin (by decide) (by decide)) dX12_day_36 (fun y_12 ey_12 => ?_)
    have b_13 : 0 ≤ (G_4.1 66 78).toInt ∧ (G_4.1 66 78).toInt ≤ 40 := bd_66_78 hB_G_4
    have g_14 : (G_10.1 66 78).toInt = (G_4.1 66 78).toInt := (congrArg Int32.toInt (show G_10.1 66 78 = (G_4.1 66 78) from (gp_ne eG_10 (fun q => absurd q.1 (Nat.ne_of_beq_eq_false rfl)))))
    have b_15 : 0 ≤ (G_4.1 66 79).toInt ∧ (G_4.1 66 79).toInt ≤ 40 := bd_66_79 hB_G_4
    have g_16 : (G_10.1 66 79).toInt = (G_4.1 66 79).toInt := (congrArg Int32.toInt (show G_10.1 66 79 = (G_4.1 66 79) from (gp_ne eG_10 (fun q => absurd q.1 (Nat.ne_of_beq_eq_false rfl)))))
    exact W.iret (v := y_12) hx hb hr (fun t ht _ => ⟨⟨y_12, G_10, rfl, (Q_day_mk ⟨hB_G_10, hF, ((by first | exact ok_504 hp_6.1 g_14 g_16 | omega)), ⟨y_1, ey_1, (Or.inr ⟨c_2, ⟨G_4, hX_7, ⟨y_8, ey_8, ⟨y_9, ey_9, ⟨y_12, ey_12.trans (congrFun (rw_ast eG_10) _), ⟨rfl, (Fr.put (rs := [110]) (fs := []) Fr.rf eG_10 (Or.inl (by decide))), rw_ast eG_10⟩⟩⟩⟩⟩⟩)⟩⟩), wd_t ht hW⟩, hS.F ht⟩) hS.2.2 dX12_day_37
  · have c_2 : y_1.toInt = 1000 := xI_eq rfl rfl c_2
    refine ic_m1 hx hb dX12_day_13 ?_
    have b_17 : 0 ≤ (G.1 66 78).toInt ∧ (G.1 66 78).toInt ≤ 40 := bd_66_78 hB_G
    have b_18 : 0 ≤ (G.1 66 79).toInt ∧ (G.1 66 79).toInt ≤ 40 := bd_66_79 hB_G
    exact W.iret (v := (-1)) hx hb hr (fun t ht _ => ⟨⟨(-1), G, rfl, (Q_day_mk ⟨hB_G, hF, (by have hq : ((-1) : Int32).toInt = (-1) := rfl; (try dsimp only); omega), ⟨y_1, ey_1, (Or.inl ⟨c_2, ⟨rfl, rfl⟩⟩)⟩⟩), wd_t ht hW⟩, hS.F ht⟩) hS.2.2 dX12_day_14

set_option maxHeartbeats 4000000 in
set_option maxRecDepth 100000 in
theorem n_force (l : Launch) (D : va_G) (k : KT) (A : Nat → Prop) (a : Nat → Nat) (z : SK) (G : GS) (p0 : Int32) (hac : (G.1 66 78).toInt + (G.1 66 79).toInt ≤ 40) : Met l yX12_force (WS yX12_force cX12_force 2 (some .int)) ({ frames := 2, cells := 0, slots := 0, locals := 43 }) (va_Pc [.ref (a 66), .int p0] (cW D k A a z G)) (va_Qi (fun (r : Int32) (G1 : GS) => Q_force p0 G r G1) (fun (G1 : GS) t => Wd D k A a G1 t.heap) A) 0 0 A := by
  refine Met.ofW (cc := cX12_force) (maxL := 2) (ret := (some .int)) (by decide) rfl ?_
  intro p e s m args below meth c s₁ B hml hv
  obtain ⟨rfl, hW, hB_G, hK, hZ⟩ := hv
  have hx := B.exec
  have hb := B.bytes
  have hr := B.returns
  have hts := atoms_spec (ws := WS yX12_force cX12_force 2 (some .int)) B.pre
  have hgd : ∀ w ∈ gd, w ∈ WS yX12_force cX12_force 2 (some .int) := fun w h => List.mem_cons_of_mem _ h
  have hg : ∀ w ∈ gd, w.before _ s = true := fun w h => hts w (hgd w h)
  have hown : s.vm.findClass RX12 = some m.cls := findClass_of_methodNamed B.named
  have hS : va_S A s.heap s.heap [] := va_S.rf
  have hF : Fr [110, 111] [(66, 78), (66, 79)] G G := Fr.rf
  have hl := lv_entry ([.ref (a 66), .int p0]) (n := 2) (Nat.le_of_ble_eq_true rfl)
  rw [lg_entry_eq]
  generalize (lg_sl ([.ref (a 66), .int p0]) ++ List.replicate (2 - (lg_sl ([.ref (a 66), .int p0])).length) Slot.unset).toArray = ls at hl ⊢
  have hl : lv_has ls 2 [(0, .ref (a 66)), (1, .int p0)] := hl
  refine lv_aload_n hx hb dX12_force_0 rfl (lv_at hl 0 rfl) ?_
  refine lv_iload_n hx hb dX12_force_1 rfl (lv_at hl 1 rfl) ?_
  refine S_calli (va_runV (As := [.int p0]) (rest := []) ⟨hx, hb, hml, hown, hts⟩ (n_isRule l D k A a z G p0 ) (cwV 1 hts (gd_V hgd m2007 m2009 m113 m131 m2010) rfl rfl rfl hd_X12_isRule ⟨Nat.le_of_ble_eq_true rfl, Nat.le_of_ble_eq_true rfl⟩) (pre_W hW hB_G hK hZ hS kd_66 rfl) rfl rfl hl.1 rfl (lv_room (Nat.le_of_ble_eq_true rfl)) dX12_force_2 ⟨Nat.le_of_ble_eq_true rfl, Nat.le_of_ble_eq_true rfl⟩) hS (fun r_1 G_2 H locs hpo hW hS => ?_)
  have hX_5 : Q_isRule p0 G r_1 G_2 := hpo
  obtain ⟨hB_G_2, hq_3, f_6, hp_4, -⟩ := hpo
  have hF := hF.call9 hq_3 rfl rfl
  refine lv_if_ne (tgt := 10) hx hb dX12_force_5 rfl (fun c_7 => ?_) (fun c_7 => ?_)
  · have c_7 : r_1.toInt ≠ 0 := xI_ne rfl rfl c_7
    refine lv_aload_n hx hb dX12_force_10 rfl (lv_at hl 0 rfl) ?_
    refine S_callv (va_runV (As := []) (rest := []) ⟨hx, hb, hml, hown, hts⟩ (n_act l D k A a z G_2  ) (cwV 0 hts (gd_V hgd m1991 m1993 m111 m131 m1994) rfl rfl rfl hd_X12_act ⟨Nat.le_of_ble_eq_true rfl, Nat.le_of_ble_eq_true rfl⟩) (pre_W hW hB_G_2 hK hZ hS kd_66 rfl) rfl rfl hl.1 rfl (lv_room (Nat.le_of_ble_eq_true rfl)) dX12_force_11 ⟨Nat.le_of_ble_eq_true rfl, Nat.le_of_ble_eq_true rfl⟩) hS (fun G_9 H locs hpo hW hS => ?_)
    have hX_12 : Q_act G_2 G_9 := hpo
    obtain ⟨hB_G_9, hq_10, hp_11, -⟩ := hpo
    have hF := hF.call9 hq_10 rfl rfl
    refine lv_aload_n hx hb dX12_force_14 rfl (lv_at hl 0 rfl) ?_
    refine S_getR (n := 110) (C := RX12) (T := TX12) (N := 89) hx hb hg iX12 hown hK hW kd_66 rfl 76 (lt_b rfl) (hg (Cond.fieldLink RX12 151 "SlabWalkModel" "now" "[I") m1390) (fun _ h9 => h9) rfl dX12_force_15 ?_
    refine lv_bipush (v := 8) hx hb dX12_force_18 (by decide) ?_
    refine lv_dup2_11 hx hb dX12_force_20 rfl rfl ?_
    refine S_iald hx hb hK hW kd_110 (vin (by decide) (by decide)) dX12_force_21 (fun y_13 ey_13 => ?_)
    refine ic_1 hx hb dX12_force_22 ?_
    refine lv_iload_n hx hb dX12_force_23 rfl (lv_at hl 1 rfl) ?_
    refine lv_ishl hx hb dX12_force_24 ?_
    refine lv_topi (fun y_14 ey_14 => ?_)
    have ty_14 := sh5 (Y := p0.toInt) rfl ey_14 rfl (by omega) (by omega)
    refine lv_ixor hx hb dX12_force_25 ?_
    refine lv_topi (fun y_15 ey_15 => ?_)
    refine S_iast hx hb hK hW hS kd_110 (vin (by decide) (by decide)) dX12_force_26 (fun G_16 H locs eG_16 hW hS => ?_)
    have qc_17 : (8 : Int32).toInt = 8 := rfl
    have hB_G_16 : Bd G_16 := hB_G_9.putNow 110 (by decide) eG_16 (by first | (clear hac f_6 hp_4 c_7 hp_11 ty_14; omega) | omega) (by first | (clear hac f_6 hp_4 c_7 hp_11 ty_14; omega) | omega) (by first | (clear hac f_6 hp_4 c_7 hp_11 ty_14; omega) | omega) rfl
    have hF := hF.put eG_16 (Or.inl (by decide))
    refine lv_aload_n hx hb dX12_force_27 rfl (lv_at hl 0 rfl) ?_
    refine S_getR (n := 110) (C := RX12) (T := TX12) (N := 89) hx hb hg iX12 hown hK hW kd_66 rfl 76 (lt_b rfl) (hg (Cond.fieldLink RX12 151 "SlabWalkModel" "now" "[I") m1390) (fun _ h9 => h9) rfl dX12_force_28 ?_
    refine lv_bipush (v := 8) hx hb dX12_force_31 (by decide) ?_
    refine S_iald hx hb hK hW kd_110 (vin (by decide) (by decide)) dX12_force_33 (fun y_18 ey_18 => ?_)
    refine lv_iload_n hx hb dX12_force_34 rfl (lv_at hl 1 rfl) ?_
    refine lv_ishr hx hb dX12_force_35 ?_
    refine lv_topi (fun y_19 ey_19 => ?_)
    refine ic_1 hx hb dX12_force_36 ?_
    refine lv_iand hx hb dX12_force_37 ?_
    refine lv_topi (fun y_20 ey_20 => ?_)
    have ty_20 := xI_and (Y := 1) rfl ey_20 (by decide)
    have b_21 : 0 ≤ (G_9.1 66 78).toInt ∧ (G_9.1 66 78).toInt ≤ 40 := bd_66_78 hB_G_9
    have g_22 : (G_16.1 66 78).toInt = (G_9.1 66 78).toInt := (congrArg Int32.toInt (show G_16.1 66 78 = (G_9.1 66 78) from (gp_ne eG_16 (fun q => absurd q.1 (Nat.ne_of_beq_eq_false rfl)))))
    have b_23 : 0 ≤ (G_9.1 66 79).toInt ∧ (G_9.1 66 79).toInt ≤ 40 := bd_66_79 hB_G_9
    have g_24 : (G_16.1 66 79).toInt = (G_9.1 66 79).toInt := (congrArg Int32.toInt (show G_16.1 66 79 = (G_9.1 66 79) from (gp_ne eG_16 (fun q => absurd q.1 (Nat.ne_of_beq_eq_false rfl)))))
    exact W.iret (v := y_20) hx hb hr (fun t ht _ => ⟨⟨y_20, G_16, rfl, (Q_force_mk ⟨hB_G_16, hF, ((by first | exact ok_504 hp_11.1 g_22 g_24 | omega)), ⟨r_1, G_2, hX_5, (Or.inr ⟨c_7, ⟨G_9, hX_12, ⟨y_13, ey_13, ⟨y_14, ey_14, ⟨y_15, ey_15, ⟨y_18, ey_18.trans (congrFun (rw_ast eG_16) _), ⟨y_19, ey_19, ⟨y_20, ey_20, ⟨rfl, (Fr.put (rs := [110]) (fs := []) Fr.rf eG_16 (Or.inl (by decide))), rw_ast eG_16⟩⟩⟩⟩⟩⟩⟩⟩⟩)⟩⟩), wd_t ht hW⟩, hS.F ht⟩) hS.2.2 dX12_force_38
  · have c_7 : r_1.toInt = 0 := xI_eq rfl rfl c_7
    refine ic_m1 hx hb dX12_force_8 ?_
    have b_25 : 0 ≤ (G.1 66 78).toInt ∧ (G.1 66 78).toInt ≤ 40 := bd_66_78 hB_G
    have g_26 : (G_2.1 66 78).toInt = (G.1 66 78).toInt := (congrArg Int32.toInt (show G_2.1 66 78 = (G.1 66 78) from (hq_3.i9 66 78 rfl rfl)))
    have b_27 : 0 ≤ (G.1 66 79).toInt ∧ (G.1 66 79).toInt ≤ 40 := bd_66_79 hB_G
    have g_28 : (G_2.1 66 79).toInt = (G.1 66 79).toInt := (congrArg Int32.toInt (show G_2.1 66 79 = (G.1 66 79) from (hq_3.i9 66 79 rfl rfl)))
    exact W.iret (v := (-1)) hx hb hr (fun t ht _ => ⟨⟨(-1), G_2, rfl, (Q_force_mk ⟨hB_G_2, hF, (by have hq : ((-1) : Int32).toInt = (-1) := rfl; (try dsimp only); omega), ⟨r_1, G_2, hX_5, (Or.inl ⟨c_7, ⟨rfl, rfl⟩⟩)⟩⟩), wd_t ht hW⟩, hS.F ht⟩) hS.2.2 dX12_force_9

theorem m1401 : Cond.fieldLink RX12 172 "SlabWalkModel" "hasBox" "[Z" ∈ gd := gdc_6_5 5 rfl gw_fieldLink
theorem m1402 : Cond.fieldLink RX12 175 "SlabWalkModel" "boxes" "[I" ∈ gd := gdc_6_5 6 rfl gw_fieldLink
theorem m2070 : Cond.methodLink RX12 603 yX12_isBox ∈ gd := gdc_9_2 2 rfl gw_methodLink
theorem m2071 : Cond.static yX12_isBox ∈ gd := gdc_9_2 3 rfl gw_static
theorem m2072 : Cond.code yX12_isBox cX12_isBox 1 (some .boolean) ∈ gd := gdc_9_2 4 rfl gw_code
noncomputable def rbX12_back_0 : List (Nat × List Nat) := [(0, [27]), (1, [184, 2, 91]), (4, [153, 0, 12]), (7, [42]), (8, [180, 0, 172]), (11, [27]), (12, [51]), (13, [154, 0, 5]), (16, [2]), (17, [172]), (18, [3]), (19, [61]), (20, [28]), (21, [16, 10]), (23, [162, 0, 26]), (26, [42]), (27, [180, 0, 151]), (30, [28]), (31, [42]), (32, [180, 0, 175]), (35, [16, 16]), (37, [27]), (38, [104]), (39, [28])]
theorem rcX12_back_0 : dgo (lb cX12_back) 0 rbX12_back_0 = true := by decide +kernel
theorem dX12_back_0 : decode cX12_back 0 = .ok (.iload_n 1, 1) := dk_27 (dw rcX12_back_0 0 rfl)
theorem dX12_back_1 : decode cX12_back 1 = .ok (.invokestatic 603, 3) := dk_184 (dw rcX12_back_0 1 rfl) rfl
theorem dX12_back_4 : decode cX12_back 4 = .ok (.ifCond .eq 12, 3) := dk_153 (dw rcX12_back_0 2 rfl) rfl
theorem dX12_back_7 : decode cX12_back 7 = .ok (.aload_n 0, 1) := dk_42 (dw rcX12_back_0 3 rfl)
theorem dX12_back_8 : decode cX12_back 8 = .ok (.getfield 172, 3) := dk_180 (dw rcX12_back_0 4 rfl) rfl
theorem dX12_back_11 : decode cX12_back 11 = .ok (.iload_n 1, 1) := dk_27 (dw rcX12_back_0 5 rfl)
theorem dX12_back_12 : decode cX12_back 12 = .ok (.baload, 1) := dk_51 (dw rcX12_back_0 6 rfl)
theorem dX12_back_13 : decode cX12_back 13 = .ok (.ifCond .ne 5, 3) := dk_154 (dw rcX12_back_0 7 rfl) rfl
theorem dX12_back_16 : decode cX12_back 16 = .ok (.iconst (-1), 1) := dk_2 (dw rcX12_back_0 8 rfl)
theorem dX12_back_17 : decode cX12_back 17 = .ok (.ireturn, 1) := dk_172 (dw rcX12_back_0 9 rfl)
theorem dX12_back_18 : decode cX12_back 18 = .ok (.iconst 0, 1) := dk_3 (dw rcX12_back_0 10 rfl)
theorem dX12_back_19 : decode cX12_back 19 = .ok (.istore_n 2, 1) := dk_61 (dw rcX12_back_0 11 rfl)
theorem dX12_back_20 : decode cX12_back 20 = .ok (.iload_n 2, 1) := dk_28 (dw rcX12_back_0 12 rfl)
theorem dX12_back_21 : decode cX12_back 21 = .ok (.bipush 10, 2) := dk_16 (dw rcX12_back_0 13 rfl) rfl
theorem dX12_back_23 : decode cX12_back 23 = .ok (.if_icmp .ge 26, 3) := dk_162 (dw rcX12_back_0 14 rfl) rfl
theorem dX12_back_26 : decode cX12_back 26 = .ok (.aload_n 0, 1) := dk_42 (dw rcX12_back_0 15 rfl)
theorem dX12_back_27 : decode cX12_back 27 = .ok (.getfield 151, 3) := dk_180 (dw rcX12_back_0 16 rfl) rfl
theorem dX12_back_30 : decode cX12_back 30 = .ok (.iload_n 2, 1) := dk_28 (dw rcX12_back_0 17 rfl)
theorem dX12_back_31 : decode cX12_back 31 = .ok (.aload_n 0, 1) := dk_42 (dw rcX12_back_0 18 rfl)
theorem dX12_back_32 : decode cX12_back 32 = .ok (.getfield 175, 3) := dk_180 (dw rcX12_back_0 19 rfl) rfl
theorem dX12_back_35 : decode cX12_back 35 = .ok (.bipush 16, 2) := dk_16 (dw rcX12_back_0 20 rfl) rfl
theorem dX12_back_37 : decode cX12_back 37 = .ok (.iload_n 1, 1) := dk_27 (dw rcX12_back_0 21 rfl)
theorem dX12_back_38 : decode cX12_back 38 = .ok (.imul, 1) := dk_104 (dw rcX12_back_0 22 rfl)
theorem dX12_back_39 : decode cX12_back 39 = .ok (.iload_n 2, 1) := dk_28 (dw rcX12_back_0 23 rfl)
noncomputable def rbX12_back_40 : List (Nat × List Nat) := [(40, [96]), (41, [46]), (42, [79]), (43, [132, 2, 1]), (46, [167, 255, 230]), (49, [42]), (50, [3]), (51, [181, 1, 181]), (54, [42]), (55, [3]), (56, [181, 1, 184]), (59, [42]), (60, [180, 0, 151]), (63, [16, 6]), (65, [46]), (66, [172])]
theorem rcX12_back_40 : dgo (lb cX12_back) 0 rbX12_back_40 = true := by decide +kernel
theorem dX12_back_40 : decode cX12_back 40 = .ok (.iadd, 1) := dk_96 (dw rcX12_back_40 0 rfl)
theorem dX12_back_41 : decode cX12_back 41 = .ok (.iaload, 1) := dk_46 (dw rcX12_back_40 1 rfl)
theorem dX12_back_42 : decode cX12_back 42 = .ok (.iastore, 1) := dk_79 (dw rcX12_back_40 2 rfl)
theorem dX12_back_43 : decode cX12_back 43 = .ok (.iinc 2 1, 3) := dk_132 (dw rcX12_back_40 3 rfl) rfl
theorem dX12_back_46 : decode cX12_back 46 = .ok (.goto (-26), 3) := dk_167 (dw rcX12_back_40 4 rfl) rfl
theorem dX12_back_49 : decode cX12_back 49 = .ok (.aload_n 0, 1) := dk_42 (dw rcX12_back_40 5 rfl)
theorem dX12_back_50 : decode cX12_back 50 = .ok (.iconst 0, 1) := dk_3 (dw rcX12_back_40 6 rfl)
theorem dX12_back_51 : decode cX12_back 51 = .ok (.putfield 437, 3) := dk_181 (dw rcX12_back_40 7 rfl) rfl
theorem dX12_back_54 : decode cX12_back 54 = .ok (.aload_n 0, 1) := dk_42 (dw rcX12_back_40 8 rfl)
theorem dX12_back_55 : decode cX12_back 55 = .ok (.iconst 0, 1) := dk_3 (dw rcX12_back_40 9 rfl)
theorem dX12_back_56 : decode cX12_back 56 = .ok (.putfield 440, 3) := dk_181 (dw rcX12_back_40 10 rfl) rfl
theorem dX12_back_59 : decode cX12_back 59 = .ok (.aload_n 0, 1) := dk_42 (dw rcX12_back_40 11 rfl)
theorem dX12_back_60 : decode cX12_back 60 = .ok (.getfield 151, 3) := dk_180 (dw rcX12_back_40 12 rfl) rfl
theorem dX12_back_63 : decode cX12_back 63 = .ok (.bipush 6, 2) := dk_16 (dw rcX12_back_40 13 rfl) rfl
theorem dX12_back_65 : decode cX12_back 65 = .ok (.iaload, 1) := dk_46 (dw rcX12_back_40 14 rfl)
theorem dX12_back_66 : decode cX12_back 66 = .ok (.ireturn, 1) := dk_172 (dw rcX12_back_40 15 rfl)
noncomputable def rbX12_image_0 : List (Nat × List Nat) := [(0, [27]), (1, [184, 2, 91]), (4, [154, 0, 5]), (7, [2]), (8, [172]), (9, [42]), (10, [180, 0, 172]), (13, [27]), (14, [4]), (15, [84]), (16, [3]), (17, [61]), (18, [28]), (19, [16, 10]), (21, [162, 0, 26]), (24, [42]), (25, [180, 0, 175]), (28, [16, 16]), (30, [27]), (31, [104]), (32, [28]), (33, [96]), (34, [42]), (35, [180, 0, 151])]
theorem rcX12_image_0 : dgo (lb cX12_image) 0 rbX12_image_0 = true := by decide +kernel
theorem dX12_image_0 : decode cX12_image 0 = .ok (.iload_n 1, 1) := dk_27 (dw rcX12_image_0 0 rfl)
theorem dX12_image_1 : decode cX12_image 1 = .ok (.invokestatic 603, 3) := dk_184 (dw rcX12_image_0 1 rfl) rfl
theorem dX12_image_4 : decode cX12_image 4 = .ok (.ifCond .ne 5, 3) := dk_154 (dw rcX12_image_0 2 rfl) rfl
theorem dX12_image_7 : decode cX12_image 7 = .ok (.iconst (-1), 1) := dk_2 (dw rcX12_image_0 3 rfl)
theorem dX12_image_8 : decode cX12_image 8 = .ok (.ireturn, 1) := dk_172 (dw rcX12_image_0 4 rfl)
theorem dX12_image_9 : decode cX12_image 9 = .ok (.aload_n 0, 1) := dk_42 (dw rcX12_image_0 5 rfl)
theorem dX12_image_10 : decode cX12_image 10 = .ok (.getfield 172, 3) := dk_180 (dw rcX12_image_0 6 rfl) rfl
theorem dX12_image_13 : decode cX12_image 13 = .ok (.iload_n 1, 1) := dk_27 (dw rcX12_image_0 7 rfl)
theorem dX12_image_14 : decode cX12_image 14 = .ok (.iconst 1, 1) := dk_4 (dw rcX12_image_0 8 rfl)
theorem dX12_image_15 : decode cX12_image 15 = .ok (.bastore, 1) := dk_84 (dw rcX12_image_0 9 rfl)
theorem dX12_image_16 : decode cX12_image 16 = .ok (.iconst 0, 1) := dk_3 (dw rcX12_image_0 10 rfl)
theorem dX12_image_17 : decode cX12_image 17 = .ok (.istore_n 2, 1) := dk_61 (dw rcX12_image_0 11 rfl)
theorem dX12_image_18 : decode cX12_image 18 = .ok (.iload_n 2, 1) := dk_28 (dw rcX12_image_0 12 rfl)
theorem dX12_image_19 : decode cX12_image 19 = .ok (.bipush 10, 2) := dk_16 (dw rcX12_image_0 13 rfl) rfl
theorem dX12_image_21 : decode cX12_image 21 = .ok (.if_icmp .ge 26, 3) := dk_162 (dw rcX12_image_0 14 rfl) rfl
theorem dX12_image_24 : decode cX12_image 24 = .ok (.aload_n 0, 1) := dk_42 (dw rcX12_image_0 15 rfl)
theorem dX12_image_25 : decode cX12_image 25 = .ok (.getfield 175, 3) := dk_180 (dw rcX12_image_0 16 rfl) rfl
theorem dX12_image_28 : decode cX12_image 28 = .ok (.bipush 16, 2) := dk_16 (dw rcX12_image_0 17 rfl) rfl
theorem dX12_image_30 : decode cX12_image 30 = .ok (.iload_n 1, 1) := dk_27 (dw rcX12_image_0 18 rfl)
theorem dX12_image_31 : decode cX12_image 31 = .ok (.imul, 1) := dk_104 (dw rcX12_image_0 19 rfl)
theorem dX12_image_32 : decode cX12_image 32 = .ok (.iload_n 2, 1) := dk_28 (dw rcX12_image_0 20 rfl)
theorem dX12_image_33 : decode cX12_image 33 = .ok (.iadd, 1) := dk_96 (dw rcX12_image_0 21 rfl)
theorem dX12_image_34 : decode cX12_image 34 = .ok (.aload_n 0, 1) := dk_42 (dw rcX12_image_0 22 rfl)
theorem dX12_image_35 : decode cX12_image 35 = .ok (.getfield 151, 3) := dk_180 (dw rcX12_image_0 23 rfl) rfl
noncomputable def rbX12_image_38 : List (Nat × List Nat) := [(38, [28]), (39, [46]), (40, [79]), (41, [132, 2, 1]), (44, [167, 255, 230]), (47, [42]), (48, [180, 0, 151]), (51, [16, 6]), (53, [46]), (54, [172])]
theorem rcX12_image_38 : dgo (lb cX12_image) 0 rbX12_image_38 = true := by decide +kernel
theorem dX12_image_38 : decode cX12_image 38 = .ok (.iload_n 2, 1) := dk_28 (dw rcX12_image_38 0 rfl)
theorem dX12_image_39 : decode cX12_image 39 = .ok (.iaload, 1) := dk_46 (dw rcX12_image_38 1 rfl)
theorem dX12_image_40 : decode cX12_image 40 = .ok (.iastore, 1) := dk_79 (dw rcX12_image_38 2 rfl)
theorem dX12_image_41 : decode cX12_image 41 = .ok (.iinc 2 1, 3) := dk_132 (dw rcX12_image_38 3 rfl) rfl
theorem dX12_image_44 : decode cX12_image 44 = .ok (.goto (-26), 3) := dk_167 (dw rcX12_image_38 4 rfl) rfl
theorem dX12_image_47 : decode cX12_image 47 = .ok (.aload_n 0, 1) := dk_42 (dw rcX12_image_38 5 rfl)
theorem dX12_image_48 : decode cX12_image 48 = .ok (.getfield 151, 3) := dk_180 (dw rcX12_image_38 6 rfl) rfl
theorem dX12_image_51 : decode cX12_image 51 = .ok (.bipush 6, 2) := dk_16 (dw rcX12_image_38 7 rfl) rfl
theorem dX12_image_53 : decode cX12_image 53 = .ok (.iaload, 1) := dk_46 (dw rcX12_image_38 8 rfl)
theorem dX12_image_54 : decode cX12_image 54 = .ok (.ireturn, 1) := dk_172 (dw rcX12_image_38 9 rfl)
set_option maxHeartbeats 4000000 in
set_option maxRecDepth 100000 in
theorem n_image (l : Launch) (D : va_G) (k : KT) (A : Nat → Prop) (a : Nat → Nat) (z : SK) (G : GS) (p0 : Int32) (hac : (G.1 66 78).toInt + (G.1 66 79).toInt ≤ 40) : Met l yX12_image (WS yX12_image cX12_image 3 (some .int)) ({ frames := 1, cells := 0, slots := 0, locals := 20 }) (va_Pc [.ref (a 66), .int p0] (cW D k A a z G)) (va_Qi (fun (r : Int32) (G1 : GS) => Q_image p0 G r G1) (fun (G1 : GS) t => Wd D k A a G1 t.heap) A) 0 0 A := by
  refine Met.ofW (cc := cX12_image) (maxL := 3) (ret := (some .int)) (by decide) rfl ?_
  intro p e s m args below meth c s₁ B hml hv
  obtain ⟨rfl, hW, hB_G, hK, hZ⟩ := hv
  have hx := B.exec
  have hb := B.bytes
  have hr := B.returns
  have hts := atoms_spec (ws := WS yX12_image cX12_image 3 (some .int)) B.pre
  have hgd : ∀ w ∈ gd, w ∈ WS yX12_image cX12_image 3 (some .int) := fun w h => List.mem_cons_of_mem _ h
  have hg : ∀ w ∈ gd, w.before _ s = true := fun w h => hts w (hgd w h)
  have hown : s.vm.findClass RX12 = some m.cls := findClass_of_methodNamed B.named
  have hS : va_S A s.heap s.heap [] := va_S.rf
  have hF : Fr [117, 118] [] G G := Fr.rf
  have hl := lv_entry ([.ref (a 66), .int p0]) (n := 3) (Nat.le_of_ble_eq_true rfl)
  rw [lg_entry_eq]
  generalize (lg_sl ([.ref (a 66), .int p0]) ++ List.replicate (3 - (lg_sl ([.ref (a 66), .int p0])).length) Slot.unset).toArray = ls at hl ⊢
  have hl : lv_has ls 3 [(0, .ref (a 66)), (1, .int p0)] := hl
  refine lv_iload_n hx hb dX12_image_0 rfl (lv_at hl 1 rfl) ?_
  refine S_calli (va_runS (As := [.int p0]) (rest := []) ⟨hx, hb, hml, hown, hts⟩ (n_isBox l D k A a z G p0 ) (va_cwS 1 hts (gd_S hgd m2070 m2071 m131 m2072) rfl rfl rfl hd_X12_isBox.2 ⟨Nat.le_of_ble_eq_true rfl, Nat.le_of_ble_eq_true rfl⟩) (pre_S hW hB_G hK hZ hS) rfl rfl hl.1 rfl (lv_room (Nat.le_of_ble_eq_true rfl)) dX12_image_1 ⟨Nat.le_of_ble_eq_true rfl, Nat.le_of_ble_eq_true rfl⟩) hS (fun r_1 G_2 H locs hpo hW hS => ?_)
  have hX_5 : Q_isBox p0 G r_1 G_2 := hpo
  obtain ⟨hB_G_2, hq_3, f_6, hp_4, -⟩ := hpo
  have hF := hF.call9 hq_3 rfl rfl
  refine lv_if_ne (tgt := 9) hx hb dX12_image_4 rfl (fun c_7 => ?_) (fun c_7 => ?_)
  · have c_7 : r_1.toInt ≠ 0 := xI_ne rfl rfl c_7
    refine lv_aload_n hx hb dX12_image_9 rfl (lv_at hl 0 rfl) ?_
    refine S_getR (n := 117) (C := RX12) (T := TX12) (N := 89) hx hb hg iX12 hown hK hW kd_66 rfl 87 (lt_b rfl) (hg (Cond.fieldLink RX12 172 "SlabWalkModel" "hasBox" "[Z") m1401) (fun _ h9 => h9) rfl dX12_image_10 ?_
    refine lv_iload_n hx hb dX12_image_13 rfl (lv_at hl 1 rfl) ?_
    refine ic_1 hx hb dX12_image_14 ?_
    refine S_zast hx hb hK hW hS kd_117 (vin ((by first | exact ok_703 f_6.1 f_6.2 hp_4 c_7 | omega)) ((by first | exact ok_704 f_6.1 f_6.2 hp_4 c_7 | omega))) dX12_image_15 (fun G_8 H locs eG_8 hW hS => ?_)
    have hB_G_8 : Bd G_8 := hB_G_2.put (lo := 0) (hi := 1) eG_8 rfl rfl rfl nz_bool.1 nz_bool.2 (hB_G_2.2.put eG_8 rfl)
    have hF := hF.put eG_8 (Or.inl (by decide))
    refine ic_0 hx hb dX12_image_16 ?_
    refine lv_istore_n (lv' := [(2, .int 0), (0, .ref (a 66)), (1, .int p0)]) hx hb dX12_image_17 rfl hl (lt_b rfl) rfl (fun ls hl => ?_)
    have qc_15 : (0 : Int32).toInt = 0 := rfl
    refine loop_N (Inv := fun n H locs ls => ∃ (G_9 : GS) (x_13 : Int32), (n : Int) = 10 - x_13.toInt ∧ (0 ≤ x_13.toInt ∧ x_13.toInt ≤ 10) ∧ Rc (St_n_image_1 p0) (0, G_8) (x_13, G_9) ∧ Wd D k A a G_9 H ∧ Bd G_9 ∧ Fr [117, 118] [] G G_9 ∧ Fr [118] [] G_8 G_9 ∧ va_S A s.heap H locs ∧ lv_has ls 3 [(2, .int x_13), (0, .ref (a 66)), (1, .int p0)]) (fun n_12 H locs ls ih_11 hI => ?_) (10 - 0 : Int).toNat ⟨G_8, 0, (Int.toNat_of_nonneg ((by decide))), ⟨(by decide), (by decide)⟩, Rc.rf, hW, hB_G_8, hF, Fr.rf, hS, lv_sub hl [0, 1, 2] rfl⟩
    obtain ⟨G_9, x_13, hn_17, f_16, hX_14, hW, hB_G_9, hF, hq_10, hS, hl⟩ := hI
    refine lv_iload_n hx hb dX12_image_18 rfl (lv_at hl 0 rfl) ?_
    refine lv_bipush (v := 10) hx hb dX12_image_19 (by decide) ?_
    refine lv_icmp_ge (tgt := 47) hx hb dX12_image_21 rfl (fun c_18 => ?_) (fun c_18 => ?_)
    · have c_18 : 10 ≤ x_13.toInt := xI_le rfl rfl c_18
      refine lv_aload_n hx hb dX12_image_47 rfl (lv_at hl 1 rfl) ?_
      refine S_getR (n := 110) (C := RX12) (T := TX12) (N := 89) hx hb hg iX12 hown hK hW kd_66 rfl 76 (lt_b rfl) (hg (Cond.fieldLink RX12 151 "SlabWalkModel" "now" "[I") m1390) (fun _ h9 => h9) rfl dX12_image_48 ?_
      refine lv_bipush (v := 6) hx hb dX12_image_51 (by decide) ?_
      refine S_iald hx hb hK hW kd_110 (vin (by decide) (by decide)) dX12_image_53 (fun y_19 ey_19 => ?_)
      have b_20 : 0 ≤ (G.1 66 78).toInt ∧ (G.1 66 78).toInt ≤ 40 := bd_66_78 hB_G
      have g_21 : (G_9.1 66 78).toInt = (G.1 66 78).toInt := (congrArg Int32.toInt (show G_9.1 66 78 = (G.1 66 78) from ((hq_10.i9 66 78 rfl rfl).trans ((gp_ne eG_8 (fun q => absurd q.1 (Nat.ne_of_beq_eq_false rfl))).trans (hq_3.i9 66 78 rfl rfl)))))
      have b_22 : 0 ≤ (G.1 66 79).toInt ∧ (G.1 66 79).toInt ≤ 40 := bd_66_79 hB_G
      have g_23 : (G_9.1 66 79).toInt = (G.1 66 79).toInt := (congrArg Int32.toInt (show G_9.1 66 79 = (G.1 66 79) from ((hq_10.i9 66 79 rfl rfl).trans ((gp_ne eG_8 (fun q => absurd q.1 (Nat.ne_of_beq_eq_false rfl))).trans (hq_3.i9 66 79 rfl rfl)))))
      exact W.iret (v := y_19) hx hb hr (fun t ht _ => ⟨⟨y_19, G_9, rfl, (Q_image_mk ⟨hB_G_9, hF, ((by first | exact ok_504 hac g_21 g_23 | omega)), ⟨r_1, G_2, hX_5, (Or.inr ⟨c_7, ⟨G_8, hB_G_8, (Fr.put (rs := [117]) (fs := []) Fr.rf eG_8 (Or.inl (by decide))), rw_ast eG_8, ⟨x_13, G_9, hX_14, f_16, hB_G_9, hq_10, ⟨c_18, ⟨y_19, ey_19, ⟨rfl, rfl⟩⟩⟩⟩⟩⟩)⟩⟩), wd_t ht hW⟩, hS.F ht⟩) hS.2.2 dX12_image_54
    · have c_18 : x_13.toInt < 10 := xI_nle rfl rfl c_18
      refine lv_aload_n hx hb dX12_image_24 rfl (lv_at hl 1 rfl) ?_
      refine S_getR (n := 118) (C := RX12) (T := TX12) (N := 89) hx hb hg iX12 hown hK hW kd_66 rfl 88 (lt_b rfl) (hg (Cond.fieldLink RX12 175 "SlabWalkModel" "boxes" "[I") m1402) (fun _ h9 => h9) rfl dX12_image_25 ?_
      refine lv_bipush (v := 16) hx hb dX12_image_28 (by decide) ?_
      refine lv_iload_n hx hb dX12_image_30 rfl (lv_at hl 2 rfl) ?_
      refine lv_imul hx hb dX12_image_31 ?_
      refine lv_topi (fun y_24 ey_24 => ?_)
      have ty_24 : y_24.toInt = 16 * p0.toInt := xI_mul rfl rfl ey_24 ((by first | exact ok_705 f_6.1 f_6.2 hp_4 c_7 | omega)) ((by first | exact ok_706 f_6.1 f_6.2 hp_4 c_7 | omega))
      refine lv_iload_n hx hb dX12_image_32 rfl (lv_at hl 0 rfl) ?_
      refine lv_iadd hx hb dX12_image_33 ?_
      refine lv_topi (fun y_25 ey_25 => ?_)
      have ty_25 : y_25.toInt = y_24.toInt + x_13.toInt := xI_add rfl rfl ey_25 ((by first | exact ok_707 f_6.1 f_6.2 hp_4 c_7 f_16.1 ty_24 | omega)) ((by first | exact ok_708 f_6.1 f_6.2 hp_4 c_7 f_16.2 ty_24 | omega))
      refine lv_aload_n hx hb dX12_image_34 rfl (lv_at hl 1 rfl) ?_
      refine S_getR (n := 110) (C := RX12) (T := TX12) (N := 89) hx hb hg iX12 hown hK hW kd_66 rfl 76 (lt_b rfl) (hg (Cond.fieldLink RX12 151 "SlabWalkModel" "now" "[I") m1390) (fun _ h9 => h9) rfl dX12_image_35 ?_
      refine lv_iload_n hx hb dX12_image_38 rfl (lv_at hl 0 rfl) ?_
      refine S_iald hx hb hK hW kd_110 (vin ((by first | exact f_16.1 | omega)) ((by first | exact ok_668 f_16.2 | omega))) dX12_image_39 (fun y_26 ey_26 => ?_)
      have ty_26 := hB_G_9.now 110 (by decide) ey_26 (by omega)
      refine S_iast hx hb hK hW hS kd_118 (vin ((by first | exact ok_709 f_6.1 f_6.2 hp_4 c_7 f_16.1 ty_24 ty_25 | omega)) ((by first | exact ok_710 f_6.1 f_6.2 hp_4 c_7 f_16.2 ty_24 ty_25 | omega))) dX12_image_40 (fun G_27 H locs eG_27 hW hS => ?_)
      have hB_G_27 : Bd G_27 := hB_G_9.putNow 118 (by decide) eG_27 (by omega) (by omega) (by omega) rfl
      have hF := hF.put eG_27 (Or.inl (by decide))
      obtain ⟨y_28, ey_28⟩ : ∃ q, q = x_13 + 1 := ⟨_, rfl⟩
      have ty_28 : y_28.toInt = x_13.toInt + 1 := xI_add rfl rfl ey_28 ((by first | exact ok_21 f_16.1 | omega)) ((by first | exact ok_47 f_16.2 | omega))
      refine lv_iinc (v := y_28) (lv' := [(2, .int y_28), (0, .ref (a 66)), (1, .int p0)]) hx hb dX12_image_41 hl (k := 0) rfl (by rw [ey_28]; rfl) (lt_b rfl) rfl (fun ls hl => ?_)
      refine lv_goto (tgt := 18) hx hb dX12_image_44 rfl ?_
      exact ih_11 (10 - y_28.toInt : Int).toNat (by omega) _ _ _ ⟨G_27, y_28, (Int.toNat_of_nonneg ((by first | exact ok_48 f_16.2 c_18 ty_28 | omega))), ⟨(by first | exact ok_23 f_16.1 ty_28 | omega), (by first | exact ok_49 f_16.2 c_18 ty_28 | omega)⟩, (hX_14.st (St_n_image_1_mk ⟨x_13, G_9, y_28, G_27, rfl, rfl, f_16, hB_G_9, ⟨c_18, ⟨y_24, ty_24, ⟨y_25, ty_25, ⟨y_26, ey_26, ⟨y_28, ty_28, ⟨rfl, (Fr.put (rs := [118]) (fs := []) Fr.rf eG_27 (Or.inl (by decide))), rw_ast eG_27⟩⟩⟩⟩⟩⟩⟩)), hW, hB_G_27, hF, (Fr.put (rs := [118]) (fs := []) (Fr.call9 (rs := [118]) (fs := []) Fr.rf hq_10 rfl rfl) eG_27 (Or.inl (by decide))), hS, lv_sub hl [0, 1, 2] rfl⟩
  · have c_7 : r_1.toInt = 0 := xI_eq rfl rfl c_7
    refine ic_m1 hx hb dX12_image_7 ?_
    have b_29 : 0 ≤ (G.1 66 78).toInt ∧ (G.1 66 78).toInt ≤ 40 := bd_66_78 hB_G
    have g_30 : (G_2.1 66 78).toInt = (G.1 66 78).toInt := (congrArg Int32.toInt (show G_2.1 66 78 = (G.1 66 78) from (hq_3.i9 66 78 rfl rfl)))
    have b_31 : 0 ≤ (G.1 66 79).toInt ∧ (G.1 66 79).toInt ≤ 40 := bd_66_79 hB_G
    have g_32 : (G_2.1 66 79).toInt = (G.1 66 79).toInt := (congrArg Int32.toInt (show G_2.1 66 79 = (G.1 66 79) from (hq_3.i9 66 79 rfl rfl)))
    exact W.iret (v := (-1)) hx hb hr (fun t ht _ => ⟨⟨(-1), G_2, rfl, (Q_image_mk ⟨hB_G_2, hF, (by have hq : ((-1) : Int32).toInt = (-1) := rfl; (try dsimp only); omega), ⟨r_1, G_2, hX_5, (Or.inl ⟨c_7, ⟨rfl, rfl⟩⟩)⟩⟩), wd_t ht hW⟩, hS.F ht⟩) hS.2.2 dX12_image_8

set_option maxHeartbeats 4000000 in
set_option maxRecDepth 100000 in
theorem n_back (l : Launch) (D : va_G) (k : KT) (A : Nat → Prop) (a : Nat → Nat) (z : SK) (G : GS) (p0 : Int32) (hac : (G.1 66 78).toInt + (G.1 66 79).toInt ≤ 40) : Met l yX12_back (WS yX12_back cX12_back 3 (some .int)) ({ frames := 1, cells := 0, slots := 0, locals := 20 }) (va_Pc [.ref (a 66), .int p0] (cW D k A a z G)) (va_Qi (fun (r : Int32) (G1 : GS) => Q_back p0 G r G1) (fun (G1 : GS) t => Wd D k A a G1 t.heap) A) 0 0 A := by
  refine Met.ofW (cc := cX12_back) (maxL := 3) (ret := (some .int)) (by decide) rfl ?_
  intro p e s m args below meth c s₁ B hml hv
  obtain ⟨rfl, hW, hB_G, hK, hZ⟩ := hv
  have hx := B.exec
  have hb := B.bytes
  have hr := B.returns
  have hts := atoms_spec (ws := WS yX12_back cX12_back 3 (some .int)) B.pre
  have hgd : ∀ w ∈ gd, w ∈ WS yX12_back cX12_back 3 (some .int) := fun w h => List.mem_cons_of_mem _ h
  have hg : ∀ w ∈ gd, w.before _ s = true := fun w h => hts w (hgd w h)
  have hown : s.vm.findClass RX12 = some m.cls := findClass_of_methodNamed B.named
  have hS : va_S A s.heap s.heap [] := va_S.rf
  have hF : Fr [110] [(66, 78), (66, 79)] G G := Fr.rf
  have hl := lv_entry ([.ref (a 66), .int p0]) (n := 3) (Nat.le_of_ble_eq_true rfl)
  rw [lg_entry_eq]
  generalize (lg_sl ([.ref (a 66), .int p0]) ++ List.replicate (3 - (lg_sl ([.ref (a 66), .int p0])).length) Slot.unset).toArray = ls at hl ⊢
  have hl : lv_has ls 3 [(0, .ref (a 66)), (1, .int p0)] := hl
  refine lv_iload_n hx hb dX12_back_0 rfl (lv_at hl 1 rfl) ?_
  refine S_calli (va_runS (As := [.int p0]) (rest := []) ⟨hx, hb, hml, hown, hts⟩ (n_isBox l D k A a z G p0 ) (va_cwS 1 hts (gd_S hgd m2070 m2071 m131 m2072) rfl rfl rfl hd_X12_isBox.2 ⟨Nat.le_of_ble_eq_true rfl, Nat.le_of_ble_eq_true rfl⟩) (pre_S hW hB_G hK hZ hS) rfl rfl hl.1 rfl (lv_room (Nat.le_of_ble_eq_true rfl)) dX12_back_1 ⟨Nat.le_of_ble_eq_true rfl, Nat.le_of_ble_eq_true rfl⟩) hS (fun r_1 G_2 H locs hpo hW hS => ?_)
  have hX_5 : Q_isBox p0 G r_1 G_2 := hpo
  obtain ⟨hB_G_2, hq_3, f_6, hp_4, -⟩ := hpo
  have hF := hF.call9 hq_3 rfl rfl
  refine lv_if_eq (tgt := 16) hx hb dX12_back_4 rfl (fun c_7 => ?_) (fun c_7 => ?_)
  · have c_7 : r_1.toInt = 0 := xI_eq rfl rfl c_7
    refine ic_m1 hx hb dX12_back_16 ?_
    have b_8 : 0 ≤ (G.1 66 78).toInt ∧ (G.1 66 78).toInt ≤ 40 := bd_66_78 hB_G
    have g_9 : (G_2.1 66 78).toInt = (G.1 66 78).toInt := (congrArg Int32.toInt (show G_2.1 66 78 = (G.1 66 78) from (hq_3.i9 66 78 rfl rfl)))
    have b_10 : 0 ≤ (G.1 66 79).toInt ∧ (G.1 66 79).toInt ≤ 40 := bd_66_79 hB_G
    have g_11 : (G_2.1 66 79).toInt = (G.1 66 79).toInt := (congrArg Int32.toInt (show G_2.1 66 79 = (G.1 66 79) from (hq_3.i9 66 79 rfl rfl)))
    exact W.iret (v := (-1)) hx hb hr (fun t ht _ => ⟨⟨(-1), G_2, rfl, (Q_back_mk ⟨hB_G_2, hF, (by have hq : ((-1) : Int32).toInt = (-1) := rfl; (try dsimp only); omega), ⟨r_1, G_2, hX_5, (Or.inl ⟨c_7, ⟨rfl, rfl⟩⟩)⟩⟩), wd_t ht hW⟩, hS.F ht⟩) hS.2.2 dX12_back_17
  · have c_7 : r_1.toInt ≠ 0 := xI_ne rfl rfl c_7
    refine lv_aload_n hx hb dX12_back_7 rfl (lv_at hl 0 rfl) ?_
    refine S_getR (n := 117) (C := RX12) (T := TX12) (N := 89) hx hb hg iX12 hown hK hW kd_66 rfl 87 (lt_b rfl) (hg (Cond.fieldLink RX12 172 "SlabWalkModel" "hasBox" "[Z") m1401) (fun _ h9 => h9) rfl dX12_back_8 ?_
    refine lv_iload_n hx hb dX12_back_11 rfl (lv_at hl 1 rfl) ?_
    refine S_zald hx hb hK hW kd_117 (vin ((by first | exact ok_703 f_6.1 f_6.2 hp_4 c_7 | omega)) ((by first | exact ok_704 f_6.1 f_6.2 hp_4 c_7 | omega))) dX12_back_12 (fun y_12 ey_12 => ?_)
    have ty_12 : 0 ≤ y_12.toInt ∧ y_12.toInt ≤ 1 := bv_117 hB_G_2 ey_12
    refine lv_if_ne (tgt := 18) hx hb dX12_back_13 rfl (fun c_13 => ?_) (fun c_13 => ?_)
    · have c_13 : y_12.toInt ≠ 0 := xI_ne rfl rfl c_13
      refine ic_0 hx hb dX12_back_18 ?_
      refine lv_istore_n (lv' := [(2, .int 0), (0, .ref (a 66)), (1, .int p0)]) hx hb dX12_back_19 rfl hl (lt_b rfl) rfl (fun ls hl => ?_)
      have qc_20 : (0 : Int32).toInt = 0 := rfl
      refine loop_N (Inv := fun n H locs ls => ∃ (G_14 : GS) (x_18 : Int32), (n : Int) = 10 - x_18.toInt ∧ (0 ≤ x_18.toInt ∧ x_18.toInt ≤ 10) ∧ Rc (St_n_back_1 p0) (0, G_2) (x_18, G_14) ∧ Wd D k A a G_14 H ∧ Bd G_14 ∧ Fr [110] [(66, 78), (66, 79)] G G_14 ∧ Fr [110] [] G_2 G_14 ∧ va_S A s.heap H locs ∧ lv_has ls 3 [(2, .int x_18), (0, .ref (a 66)), (1, .int p0)]) (fun n_17 H locs ls ih_16 hI => ?_) (10 - 0 : Int).toNat ⟨G_2, 0, (Int.toNat_of_nonneg ((by decide))), ⟨(by decide), (by decide)⟩, Rc.rf, hW, hB_G_2, hF, Fr.rf, hS, lv_sub hl [0, 1, 2] rfl⟩
      obtain ⟨G_14, x_18, hn_22, f_21, hX_19, hW, hB_G_14, hF, hq_15, hS, hl⟩ := hI
      refine lv_iload_n hx hb dX12_back_20 rfl (lv_at hl 0 rfl) ?_
      refine lv_bipush (v := 10) hx hb dX12_back_21 (by decide) ?_
      refine lv_icmp_ge (tgt := 49) hx hb dX12_back_23 rfl (fun c_23 => ?_) (fun c_23 => ?_)
      · have c_23 : 10 ≤ x_18.toInt := xI_le rfl rfl c_23
        refine lv_aload_n hx hb dX12_back_49 rfl (lv_at hl 1 rfl) ?_
        refine ic_0 hx hb dX12_back_50 ?_
        refine S_putI (ty := .int) (C := RX12) (T := TX12) (N := 89) hx hb hg iX12 tyX12 tyX12_ok nmX12 hown hK hW hS kd_66 rfl 78 (lt_b rfl) (hg (Cond.fieldLink RX12 437 "SlabWalkModel" "acts" "I") m1392) (fun _ h9 => h9) rfl (by decide +kernel) rfl rfl rfl dX12_back_51 (fun G_24 H locs eG_24 hW hS => ?_)
        have hB_G_24 : Bd G_24 := hB_G_14.put (V := 0) (lo := 0) (hi := 40) eG_24 rfl rfl rfl (by decide) (by decide) (hB_G_14.2.put eG_24 rfl)
        have hF := hF.put eG_24 (Or.inr (by decide))
        refine lv_aload_n hx hb dX12_back_54 rfl (lv_at hl 1 rfl) ?_
        refine ic_0 hx hb dX12_back_55 ?_
        refine S_putI (ty := .int) (C := RX12) (T := TX12) (N := 89) hx hb hg iX12 tyX12 tyX12_ok nmX12 hown hK hW hS kd_66 rfl 79 (lt_b rfl) (hg (Cond.fieldLink RX12 440 "SlabWalkModel" "undone" "I") m1393) (fun _ h9 => h9) rfl (by decide +kernel) rfl rfl rfl dX12_back_56 (fun G_25 H locs eG_25 hW hS => ?_)
        have hB_G_25 : Bd G_25 := hB_G_24.put (V := 0) (lo := 0) (hi := 40) eG_25 rfl rfl rfl (by decide) (by decide) (hB_G_24.2.put eG_25 rfl)
        have hF := hF.put eG_25 (Or.inr (by decide))
        refine lv_aload_n hx hb dX12_back_59 rfl (lv_at hl 1 rfl) ?_
        refine S_getR (n := 110) (C := RX12) (T := TX12) (N := 89) hx hb hg iX12 hown hK hW kd_66 rfl 76 (lt_b rfl) (hg (Cond.fieldLink RX12 151 "SlabWalkModel" "now" "[I") m1390) (fun _ h9 => h9) rfl dX12_back_60 ?_
        refine lv_bipush (v := 6) hx hb dX12_back_63 (by decide) ?_
        refine S_iald hx hb hK hW kd_110 (vin (by decide) (by decide)) dX12_back_65 (fun y_26 ey_26 => ?_)
        have g_27 : (G_25.1 66 78).toInt = 0 := (congrArg Int32.toInt (show G_25.1 66 78 = 0 from ((gp_ne eG_25 (by decide)).trans (gp_eq eG_24)))).trans rfl
        have g_28 : (G_25.1 66 79).toInt = 0 := (congrArg Int32.toInt (show G_25.1 66 79 = 0 from (gp_eq eG_25))).trans rfl
        exact W.iret (v := y_26) hx hb hr (fun t ht _ => ⟨⟨y_26, G_25, rfl, (Q_back_mk ⟨hB_G_25, hF, ((by first | exact ok_200 g_27 g_28 | omega)), ⟨r_1, G_2, hX_5, (Or.inr ⟨c_7, ⟨y_12, ey_12, (Or.inr ⟨c_13, ⟨x_18, G_14, hX_19, f_21, hB_G_14, hq_15, ⟨c_23, ⟨y_26, ey_26.trans (congrFun ((rw_put eG_25 (by decide)).trans (rw_put eG_24 (by decide))) _), ⟨rfl, (Fr.put (rs := []) (fs := [(66, 78), (66, 79)]) (Fr.put (rs := []) (fs := [(66, 78), (66, 79)]) Fr.rf eG_24 (Or.inr (by decide))) eG_25 (Or.inr (by decide))), ((gp_ne eG_25 (by decide)).trans (gp_eq eG_24)), (gp_eq eG_25)⟩⟩⟩⟩⟩)⟩⟩)⟩⟩), wd_t ht hW⟩, hS.F ht⟩) hS.2.2 dX12_back_66
      · have c_23 : x_18.toInt < 10 := xI_nle rfl rfl c_23
        refine lv_aload_n hx hb dX12_back_26 rfl (lv_at hl 1 rfl) ?_
        refine S_getR (n := 110) (C := RX12) (T := TX12) (N := 89) hx hb hg iX12 hown hK hW kd_66 rfl 76 (lt_b rfl) (hg (Cond.fieldLink RX12 151 "SlabWalkModel" "now" "[I") m1390) (fun _ h9 => h9) rfl dX12_back_27 ?_
        refine lv_iload_n hx hb dX12_back_30 rfl (lv_at hl 0 rfl) ?_
        refine lv_aload_n hx hb dX12_back_31 rfl (lv_at hl 1 rfl) ?_
        refine S_getR (n := 118) (C := RX12) (T := TX12) (N := 89) hx hb hg iX12 hown hK hW kd_66 rfl 88 (lt_b rfl) (hg (Cond.fieldLink RX12 175 "SlabWalkModel" "boxes" "[I") m1402) (fun _ h9 => h9) rfl dX12_back_32 ?_
        refine lv_bipush (v := 16) hx hb dX12_back_35 (by decide) ?_
        refine lv_iload_n hx hb dX12_back_37 rfl (lv_at hl 2 rfl) ?_
        refine lv_imul hx hb dX12_back_38 ?_
        refine lv_topi (fun y_29 ey_29 => ?_)
        have ty_29 : y_29.toInt = 16 * p0.toInt := xI_mul rfl rfl ey_29 ((by first | exact ok_705 f_6.1 f_6.2 hp_4 c_7 | omega)) ((by first | exact ok_706 f_6.1 f_6.2 hp_4 c_7 | omega))
        refine lv_iload_n hx hb dX12_back_39 rfl (lv_at hl 0 rfl) ?_
        refine lv_iadd hx hb dX12_back_40 ?_
        refine lv_topi (fun y_30 ey_30 => ?_)
        have ty_30 : y_30.toInt = y_29.toInt + x_18.toInt := xI_add rfl rfl ey_30 ((by first | exact ok_707 f_6.1 f_6.2 hp_4 c_7 f_21.1 ty_29 | omega)) ((by first | exact ok_708 f_6.1 f_6.2 hp_4 c_7 f_21.2 ty_29 | omega))
        refine S_iald hx hb hK hW kd_118 (vin ((by first | exact ok_709 f_6.1 f_6.2 hp_4 c_7 f_21.1 ty_29 ty_30 | omega)) ((by first | exact ok_710 f_6.1 f_6.2 hp_4 c_7 f_21.2 ty_29 ty_30 | omega))) dX12_back_41 (fun y_31 ey_31 => ?_)
        have ty_31 := hB_G_14.now 118 (by decide) ey_31 (by first | (clear hac ty_12 c_13 hn_22; omega) | omega)
        refine S_iast hx hb hK hW hS kd_110 (vin ((by first | exact f_21.1 | omega)) ((by first | exact ok_668 f_21.2 | omega))) dX12_back_42 (fun G_32 H locs eG_32 hW hS => ?_)
        have hB_G_32 : Bd G_32 := hB_G_14.putNow 110 (by decide) eG_32 (by first | (clear hac ty_12 c_13 hn_22; omega) | omega) (by first | (clear hac ty_12 c_13 hn_22; omega) | omega) (by first | (clear hac ty_12 c_13 hn_22; omega) | omega) rfl
        have hF := hF.put eG_32 (Or.inl (by decide))
        obtain ⟨y_33, ey_33⟩ : ∃ q, q = x_18 + 1 := ⟨_, rfl⟩
        have ty_33 : y_33.toInt = x_18.toInt + 1 := xI_add rfl rfl ey_33 ((by first | exact ok_21 f_21.1 | omega)) ((by first | exact ok_47 f_21.2 | omega))
        refine lv_iinc (v := y_33) (lv' := [(2, .int y_33), (0, .ref (a 66)), (1, .int p0)]) hx hb dX12_back_43 hl (k := 0) rfl (by rw [ey_33]; rfl) (lt_b rfl) rfl (fun ls hl => ?_)
        refine lv_goto (tgt := 20) hx hb dX12_back_46 rfl ?_
        exact ih_16 (10 - y_33.toInt : Int).toNat ((by first | (clear hac ty_12 c_13; omega) | omega)) _ _ _ ⟨G_32, y_33, (Int.toNat_of_nonneg ((by first | exact ok_48 f_21.2 c_23 ty_33 | omega))), ⟨(by first | exact ok_23 f_21.1 ty_33 | omega), (by first | exact ok_49 f_21.2 c_23 ty_33 | omega)⟩, (hX_19.st (St_n_back_1_mk ⟨x_18, G_14, y_33, G_32, rfl, rfl, f_21, hB_G_14, ⟨c_23, ⟨y_29, ty_29, ⟨y_30, ty_30, ⟨y_31, ey_31, ⟨y_33, ty_33, ⟨rfl, (Fr.put (rs := [110]) (fs := []) Fr.rf eG_32 (Or.inl (by decide))), rw_ast eG_32⟩⟩⟩⟩⟩⟩⟩)), hW, hB_G_32, hF, (Fr.put (rs := [110]) (fs := []) (Fr.call9 (rs := [110]) (fs := []) Fr.rf hq_15 rfl rfl) eG_32 (Or.inl (by decide))), hS, lv_sub hl [0, 1, 2] rfl⟩
    · have c_13 : y_12.toInt = 0 := xI_eq rfl rfl c_13
      refine ic_m1 hx hb dX12_back_16 ?_
      have b_34 : 0 ≤ (G.1 66 78).toInt ∧ (G.1 66 78).toInt ≤ 40 := bd_66_78 hB_G
      have g_35 : (G_2.1 66 78).toInt = (G.1 66 78).toInt := (congrArg Int32.toInt (show G_2.1 66 78 = (G.1 66 78) from (hq_3.i9 66 78 rfl rfl)))
      have b_36 : 0 ≤ (G.1 66 79).toInt ∧ (G.1 66 79).toInt ≤ 40 := bd_66_79 hB_G
      have g_37 : (G_2.1 66 79).toInt = (G.1 66 79).toInt := (congrArg Int32.toInt (show G_2.1 66 79 = (G.1 66 79) from (hq_3.i9 66 79 rfl rfl)))
      exact W.iret (v := (-1)) hx hb hr (fun t ht _ => ⟨⟨(-1), G_2, rfl, (Q_back_mk ⟨hB_G_2, hF, (by have hq : ((-1) : Int32).toInt = (-1) := rfl; (try dsimp only); omega), ⟨r_1, G_2, hX_5, (Or.inr ⟨c_7, ⟨y_12, ey_12, (Or.inl ⟨c_13, ⟨rfl, rfl⟩⟩)⟩⟩)⟩⟩), wd_t ht hW⟩, hS.F ht⟩) hS.2.2 dX12_back_17
