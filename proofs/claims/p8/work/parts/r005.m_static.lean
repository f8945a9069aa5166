theorem m1788 : Cond.methodLink RX12 348 yX12_truth ∈ gd := gdc_7_14 8 rfl gw_methodLink
theorem m1789 : Cond.static yX12_truth ∈ gd := gdc_7_14 9 rfl gw_static
theorem m1790 : Cond.code yX12_truth cX12_truth 1 (some .int) ∈ gd := gdc_7_14 10 rfl gw_code
theorem dX12_done_1 : decode cX12_done 1 = .ok (.tableswitch 214 37 62 #[143, 197, 214, 214, 214, 127, 119, 214, 123, 214, 131, 214, 214, 214, 214, 214, 214, 214, 214, 214, 214, 214, 214, 155, 183, 169], 119) := dq_of (by decide +kernel)
def rbX12_done_0 : List (Nat × List Nat) := [(0, [26]), (120, [27]), (121, [28]), (122, [96]), (123, [172]), (124, [27]), (125, [28]), (126, [100]), (127, [172]), (128, [27]), (129, [28]), (130, [104]), (131, [172]), (132, [28]), (133, [154, 0, 7]), (136, [3]), (137, [167, 0, 6]), (140, [27]), (141, [28]), (142, [108]), (143, [172]), (144, [28]), (145, [154, 0, 7]), (148, [3])]
theorem rcX12_done_0 : dgo (lb cX12_done) 0 rbX12_done_0 = true := by decide +kernel
theorem dX12_done_0 : decode cX12_done 0 = .ok (.iload_n 0, 1) := dk_26 (dw rcX12_done_0 0 rfl)
theorem dX12_done_120 : decode cX12_done 120 = .ok (.iload_n 1, 1) := dk_27 (dw rcX12_done_0 1 rfl)
theorem dX12_done_121 : decode cX12_done 121 = .ok (.iload_n 2, 1) := dk_28 (dw rcX12_done_0 2 rfl)
theorem dX12_done_122 : decode cX12_done 122 = .ok (.iadd, 1) := dk_96 (dw rcX12_done_0 3 rfl)
theorem dX12_done_123 : decode cX12_done 123 = .ok (.ireturn, 1) := dk_172 (dw rcX12_done_0 4 rfl)
theorem dX12_done_124 : decode cX12_done 124 = .ok (.iload_n 1, 1) := dk_27 (dw rcX12_done_0 5 rfl)
theorem dX12_done_125 : decode cX12_done 125 = .ok (.iload_n 2, 1) := dk_28 (dw rcX12_done_0 6 rfl)
theorem dX12_done_126 : decode cX12_done 126 = .ok (.isub, 1) := dk_100 (dw rcX12_done_0 7 rfl)
theorem dX12_done_127 : decode cX12_done 127 = .ok (.ireturn, 1) := dk_172 (dw rcX12_done_0 8 rfl)
theorem dX12_done_128 : decode cX12_done 128 = .ok (.iload_n 1, 1) := dk_27 (dw rcX12_done_0 9 rfl)
theorem dX12_done_129 : decode cX12_done 129 = .ok (.iload_n 2, 1) := dk_28 (dw rcX12_done_0 10 rfl)
theorem dX12_done_130 : decode cX12_done 130 = .ok (.imul, 1) := dk_104 (dw rcX12_done_0 11 rfl)
theorem dX12_done_131 : decode cX12_done 131 = .ok (.ireturn, 1) := dk_172 (dw rcX12_done_0 12 rfl)
theorem dX12_done_132 : decode cX12_done 132 = .ok (.iload_n 2, 1) := dk_28 (dw rcX12_done_0 13 rfl)
theorem dX12_done_133 : decode cX12_done 133 = .ok (.ifCond .ne 7, 3) := dk_154 (dw rcX12_done_0 14 rfl) rfl
theorem dX12_done_136 : decode cX12_done 136 = .ok (.iconst 0, 1) := dk_3 (dw rcX12_done_0 15 rfl)
theorem dX12_done_137 : decode cX12_done 137 = .ok (.goto 6, 3) := dk_167 (dw rcX12_done_0 16 rfl) rfl
theorem dX12_done_140 : decode cX12_done 140 = .ok (.iload_n 1, 1) := dk_27 (dw rcX12_done_0 17 rfl)
theorem dX12_done_141 : decode cX12_done 141 = .ok (.iload_n 2, 1) := dk_28 (dw rcX12_done_0 18 rfl)
theorem dX12_done_142 : decode cX12_done 142 = .ok (.idiv, 1) := dk_108 (dw rcX12_done_0 19 rfl)
theorem dX12_done_143 : decode cX12_done 143 = .ok (.ireturn, 1) := dk_172 (dw rcX12_done_0 20 rfl)
theorem dX12_done_144 : decode cX12_done 144 = .ok (.iload_n 2, 1) := dk_28 (dw rcX12_done_0 21 rfl)
theorem dX12_done_145 : decode cX12_done 145 = .ok (.ifCond .ne 7, 3) := dk_154 (dw rcX12_done_0 22 rfl) rfl
theorem dX12_done_148 : decode cX12_done 148 = .ok (.iconst 0, 1) := dk_3 (dw rcX12_done_0 23 rfl)
def rbX12_done_149 : List (Nat × List Nat) := [(149, [167, 0, 6]), (152, [27]), (153, [28]), (154, [112]), (155, [172]), (156, [27]), (157, [28]), (158, [162, 0, 7]), (161, [4]), (162, [167, 0, 4]), (165, [3]), (166, [184, 1, 92]), (169, [172]), (170, [27]), (171, [28]), (172, [164, 0, 7]), (175, [4]), (176, [167, 0, 4]), (179, [3]), (180, [184, 1, 92]), (183, [172]), (184, [27]), (185, [28]), (186, [160, 0, 7])]
theorem rcX12_done_149 : dgo (lb cX12_done) 0 rbX12_done_149 = true := by decide +kernel
theorem dX12_done_149 : decode cX12_done 149 = .ok (.goto 6, 3) := dk_167 (dw rcX12_done_149 0 rfl) rfl
theorem dX12_done_152 : decode cX12_done 152 = .ok (.iload_n 1, 1) := dk_27 (dw rcX12_done_149 1 rfl)
theorem dX12_done_153 : decode cX12_done 153 = .ok (.iload_n 2, 1) := dk_28 (dw rcX12_done_149 2 rfl)
theorem dX12_done_154 : decode cX12_done 154 = .ok (.irem, 1) := dk_112 (dw rcX12_done_149 3 rfl)
theorem dX12_done_155 : decode cX12_done 155 = .ok (.ireturn, 1) := dk_172 (dw rcX12_done_149 4 rfl)
theorem dX12_done_156 : decode cX12_done 156 = .ok (.iload_n 1, 1) := dk_27 (dw rcX12_done_149 5 rfl)
theorem dX12_done_157 : decode cX12_done 157 = .ok (.iload_n 2, 1) := dk_28 (dw rcX12_done_149 6 rfl)
theorem dX12_done_158 : decode cX12_done 158 = .ok (.if_icmp .ge 7, 3) := dk_162 (dw rcX12_done_149 7 rfl) rfl
theorem dX12_done_161 : decode cX12_done 161 = .ok (.iconst 1, 1) := dk_4 (dw rcX12_done_149 8 rfl)
theorem dX12_done_162 : decode cX12_done 162 = .ok (.goto 4, 3) := dk_167 (dw rcX12_done_149 9 rfl) rfl
theorem dX12_done_165 : decode cX12_done 165 = .ok (.iconst 0, 1) := dk_3 (dw rcX12_done_149 10 rfl)
theorem dX12_done_166 : decode cX12_done 166 = .ok (.invokestatic 348, 3) := dk_184 (dw rcX12_done_149 11 rfl) rfl
theorem dX12_done_169 : decode cX12_done 169 = .ok (.ireturn, 1) := dk_172 (dw rcX12_done_149 12 rfl)
theorem dX12_done_170 : decode cX12_done 170 = .ok (.iload_n 1, 1) := dk_27 (dw rcX12_done_149 13 rfl)
theorem dX12_done_171 : decode cX12_done 171 = .ok (.iload_n 2, 1) := dk_28 (dw rcX12_done_149 14 rfl)
theorem dX12_done_172 : decode cX12_done 172 = .ok (.if_icmp .le 7, 3) := dk_164 (dw rcX12_done_149 15 rfl) rfl
theorem dX12_done_175 : decode cX12_done 175 = .ok (.iconst 1, 1) := dk_4 (dw rcX12_done_149 16 rfl)
theorem dX12_done_176 : decode cX12_done 176 = .ok (.goto 4, 3) := dk_167 (dw rcX12_done_149 17 rfl) rfl
theorem dX12_done_179 : decode cX12_done 179 = .ok (.iconst 0, 1) := dk_3 (dw rcX12_done_149 18 rfl)
theorem dX12_done_180 : decode cX12_done 180 = .ok (.invokestatic 348, 3) := dk_184 (dw rcX12_done_149 19 rfl) rfl
theorem dX12_done_183 : decode cX12_done 183 = .ok (.ireturn, 1) := dk_172 (dw rcX12_done_149 20 rfl)
theorem dX12_done_184 : decode cX12_done 184 = .ok (.iload_n 1, 1) := dk_27 (dw rcX12_done_149 21 rfl)
theorem dX12_done_185 : decode cX12_done 185 = .ok (.iload_n 2, 1) := dk_28 (dw rcX12_done_149 22 rfl)
theorem dX12_done_186 : decode cX12_done 186 = .ok (.if_icmp .ne 7, 3) := dk_160 (dw rcX12_done_149 23 rfl) rfl
def rbX12_done_189 : List (Nat × List Nat) := [(189, [4]), (190, [167, 0, 4]), (193, [3]), (194, [184, 1, 92]), (197, [172]), (198, [27]), (199, [153, 0, 11]), (202, [28]), (203, [153, 0, 7]), (206, [4]), (207, [167, 0, 4]), (210, [3]), (211, [184, 1, 92]), (214, [172]), (215, [27]), (216, [154, 0, 7]), (219, [28]), (220, [153, 0, 7]), (223, [4]), (224, [167, 0, 4]), (227, [3]), (228, [184, 1, 92]), (231, [172])]
theorem rcX12_done_189 : dgo (lb cX12_done) 0 rbX12_done_189 = true := by decide +kernel
theorem dX12_done_189 : decode cX12_done 189 = .ok (.iconst 1, 1) := dk_4 (dw rcX12_done_189 0 rfl)
theorem dX12_done_190 : decode cX12_done 190 = .ok (.goto 4, 3) := dk_167 (dw rcX12_done_189 1 rfl) rfl
theorem dX12_done_193 : decode cX12_done 193 = .ok (.iconst 0, 1) := dk_3 (dw rcX12_done_189 2 rfl)
theorem dX12_done_194 : decode cX12_done 194 = .ok (.invokestatic 348, 3) := dk_184 (dw rcX12_done_189 3 rfl) rfl
theorem dX12_done_197 : decode cX12_done 197 = .ok (.ireturn, 1) := dk_172 (dw rcX12_done_189 4 rfl)
theorem dX12_done_198 : decode cX12_done 198 = .ok (.iload_n 1, 1) := dk_27 (dw rcX12_done_189 5 rfl)
theorem dX12_done_199 : decode cX12_done 199 = .ok (.ifCond .eq 11, 3) := dk_153 (dw rcX12_done_189 6 rfl) rfl
theorem dX12_done_202 : decode cX12_done 202 = .ok (.iload_n 2, 1) := dk_28 (dw rcX12_done_189 7 rfl)
theorem dX12_done_203 : decode cX12_done 203 = .ok (.ifCond .eq 7, 3) := dk_153 (dw rcX12_done_189 8 rfl) rfl
theorem dX12_done_206 : decode cX12_done 206 = .ok (.iconst 1, 1) := dk_4 (dw rcX12_done_189 9 rfl)
theorem dX12_done_207 : decode cX12_done 207 = .ok (.goto 4, 3) := dk_167 (dw rcX12_done_189 10 rfl) rfl
theorem dX12_done_210 : decode cX12_done 210 = .ok (.iconst 0, 1) := dk_3 (dw rcX12_done_189 11 rfl)
theorem dX12_done_211 : decode cX12_done 211 = .ok (.invokestatic 348, 3) := dk_184 (dw rcX12_done_189 12 rfl) rfl
theorem dX12_done_214 : decode cX12_done 214 = .ok (.ireturn, 1) := dk_172 (dw rcX12_done_189 13 rfl)
theorem dX12_done_215 : decode cX12_done 215 = .ok (.iload_n 1, 1) := dk_27 (dw rcX12_done_189 14 rfl)
theorem dX12_done_216 : decode cX12_done 216 = .ok (.ifCond .ne 7, 3) := dk_154 (dw rcX12_done_189 15 rfl) rfl
theorem dX12_done_219 : decode cX12_done 219 = .ok (.iload_n 2, 1) := dk_28 (dw rcX12_done_189 16 rfl)
theorem dX12_done_220 : decode cX12_done 220 = .ok (.ifCond .eq 7, 3) := dk_153 (dw rcX12_done_189 17 rfl) rfl
theorem dX12_done_223 : decode cX12_done 223 = .ok (.iconst 1, 1) := dk_4 (dw rcX12_done_189 18 rfl)
theorem dX12_done_224 : decode cX12_done 224 = .ok (.goto 4, 3) := dk_167 (dw rcX12_done_189 19 rfl) rfl
theorem dX12_done_227 : decode cX12_done 227 = .ok (.iconst 0, 1) := dk_3 (dw rcX12_done_189 20 rfl)
theorem dX12_done_228 : decode cX12_done 228 = .ok (.invokestatic 348, 3) := dk_184 (dw rcX12_done_189 21 rfl) rfl
theorem dX12_done_231 : decode cX12_done 231 = .ok (.ireturn, 1) := dk_172 (dw rcX12_done_189 22 rfl)
theorem dX12_tight_1 : decode cX12_tight 1 = .ok (.lookupswitch 85 #[(21, 79), (38, 77), (43, 83), (45, 83), (60, 81), (61, 81), (62, 81), (124, 75)], 75) := dq_of (by decide +kernel)
def rbX12_tight_0 : List (Nat × List Nat) := [(0, [26]), (76, [4]), (77, [172]), (78, [5]), (79, [172]), (80, [6]), (81, [172]), (82, [7]), (83, [172]), (84, [8]), (85, [172]), (86, [16, 6]), (88, [172])]
theorem rcX12_tight_0 : dgo (lb cX12_tight) 0 rbX12_tight_0 = true := by decide +kernel
theorem dX12_tight_0 : decode cX12_tight 0 = .ok (.iload_n 0, 1) := dk_26 (dw rcX12_tight_0 0 rfl)
theorem dX12_tight_76 : decode cX12_tight 76 = .ok (.iconst 1, 1) := dk_4 (dw rcX12_tight_0 1 rfl)
theorem dX12_tight_77 : decode cX12_tight 77 = .ok (.ireturn, 1) := dk_172 (dw rcX12_tight_0 2 rfl)
theorem dX12_tight_78 : decode cX12_tight 78 = .ok (.iconst 2, 1) := dk_5 (dw rcX12_tight_0 3 rfl)
theorem dX12_tight_79 : decode cX12_tight 79 = .ok (.ireturn, 1) := dk_172 (dw rcX12_tight_0 4 rfl)
theorem dX12_tight_80 : decode cX12_tight 80 = .ok (.iconst 3, 1) := dk_6 (dw rcX12_tight_0 5 rfl)
theorem dX12_tight_81 : decode cX12_tight 81 = .ok (.ireturn, 1) := dk_172 (dw rcX12_tight_0 6 rfl)
theorem dX12_tight_82 : decode cX12_tight 82 = .ok (.iconst 4, 1) := dk_7 (dw rcX12_tight_0 7 rfl)
theorem dX12_tight_83 : decode cX12_tight 83 = .ok (.ireturn, 1) := dk_172 (dw rcX12_tight_0 8 rfl)
theorem dX12_tight_84 : decode cX12_tight 84 = .ok (.iconst 5, 1) := dk_8 (dw rcX12_tight_0 9 rfl)
theorem dX12_tight_85 : decode cX12_tight 85 = .ok (.ireturn, 1) := dk_172 (dw rcX12_tight_0 10 rfl)
theorem dX12_tight_86 : decode cX12_tight 86 = .ok (.bipush 6, 2) := dk_16 (dw rcX12_tight_0 11 rfl) rfl
theorem dX12_tight_88 : decode cX12_tight 88 = .ok (.ireturn, 1) := dk_172 (dw rcX12_tight_0 12 rfl)
def rbX12_truth_0 : List (Nat × List Nat) := [(0, [26]), (1, [153, 0, 7]), (4, [4]), (5, [167, 0, 4]), (8, [3]), (9, [172])]
theorem rcX12_truth_0 : dgo (lb cX12_truth) 0 rbX12_truth_0 = true := by decide +kernel
theorem dX12_truth_0 : decode cX12_truth 0 = .ok (.iload_n 0, 1) := dk_26 (dw rcX12_truth_0 0 rfl)
theorem dX12_truth_1 : decode cX12_truth 1 = .ok (.ifCond .eq 7, 3) := dk_153 (dw rcX12_truth_0 1 rfl) rfl
theorem dX12_truth_4 : decode cX12_truth 4 = .ok (.iconst 1, 1) := dk_4 (dw rcX12_truth_0 2 rfl)
theorem dX12_truth_5 : decode cX12_truth 5 = .ok (.goto 4, 3) := dk_167 (dw rcX12_truth_0 3 rfl) rfl
theorem dX12_truth_8 : decode cX12_truth 8 = .ok (.iconst 0, 1) := dk_3 (dw rcX12_truth_0 4 rfl)
theorem dX12_truth_9 : decode cX12_truth 9 = .ok (.ireturn, 1) := dk_172 (dw rcX12_truth_0 5 rfl)
set_option maxHeartbeats 4000000 in
set_option maxRecDepth 100000 in
theorem n_tight (l : Launch) (D : va_G) (k : KT) (A : Nat → Prop) (a : Nat → Nat) (z : SK) (G : GS) (p0 : Int32)  : Met l yX12_tight (WS yX12_tight cX12_tight 1 (some .int)) ({ frames := 0, cells := 0, slots := 0, locals := 0 }) (va_Pc [.int p0] (cW D k A a z G)) (va_Qi (fun (r : Int32) (G1 : GS) => Q_tight p0 G r G1) (fun (G1 : GS) t => Wd D k A a G1 t.heap) A) 0 0 A := by
  refine Met.ofW (cc := cX12_tight) (maxL := 1) (ret := (some .int)) (by decide) rfl ?_
  intro p e s m args below meth c s₁ B hml hv
  obtain ⟨rfl, hW, hB_G, hK, hZ⟩ := hv
  have hx := B.exec
  have hb := B.bytes
  have hr := B.returns
  have hts := atoms_spec (ws := WS yX12_tight cX12_tight 1 (some .int)) B.pre
  have hgd : ∀ w ∈ gd, w ∈ WS yX12_tight cX12_tight 1 (some .int) := fun w h => List.mem_cons_of_mem _ h
  have hg : ∀ w ∈ gd, w.before _ s = true := fun w h => hts w (hgd w h)
  have hown : s.vm.findClass RX12 = some m.cls := findClass_of_methodNamed B.named
  have hS : va_S A s.heap s.heap [] := va_S.rf
  have hF : Fr [] [] G G := Fr.rf
  have hl := lv_entry ([.int p0]) (n := 1) (Nat.le_of_ble_eq_true rfl)
  rw [lg_entry_eq]
  generalize (lg_sl ([.int p0]) ++ List.replicate (1 - (lg_sl ([.int p0])).length) Slot.unset).toArray = ls at hl ⊢
  have hl : lv_has ls 1 [(0, .int p0)] := hl
  refine lv_iload_n hx hb dX12_tight_0 rfl (lv_at hl 0 rfl) ?_
  by_cases c_1 : p0 = 21
  · refine lv_lookup (tgt := 80) hx hb dX12_tight_1 (by decide) (off := 79) (by rw [c_1]; decide) (by decide) ?_
    have c_1 : p0.toInt = 21 := xI_eq rfl rfl c_1
    refine ic_3 hx hb dX12_tight_80 ?_
    exact W.iret (v := 3) hx hb hr (fun t ht _ => ⟨⟨3, G, rfl, (Q_tight_mk ⟨hB_G, hF, ⟨by decide, by decide⟩, (Or.inl ⟨c_1, ⟨rfl, rfl⟩⟩)⟩), wd_t ht hW⟩, hS.F ht⟩) hS.2.2 dX12_tight_81
  by_cases c_2 : p0 = 38
  · refine lv_lookup (tgt := 78) hx hb dX12_tight_1 (by decide) (off := 77) (by rw [c_2]; decide) (by decide) ?_
    have c_2 : p0.toInt = 38 := xI_eq rfl rfl c_2
    refine ic_2 hx hb dX12_tight_78 ?_
    exact W.iret (v := 2) hx hb hr (fun t ht _ => ⟨⟨2, G, rfl, (Q_tight_mk ⟨hB_G, hF, ⟨by decide, by decide⟩, (Or.inr ⟨(xI_ne (Y := 21) rfl rfl c_1), (Or.inl ⟨c_2, ⟨rfl, rfl⟩⟩)⟩)⟩), wd_t ht hW⟩, hS.F ht⟩) hS.2.2 dX12_tight_79
  by_cases c_3 : p0 = 43
  · refine lv_lookup (tgt := 84) hx hb dX12_tight_1 (by decide) (off := 83) (by rw [c_3]; decide) (by decide) ?_
    have c_3 : p0.toInt = 43 := xI_eq rfl rfl c_3
    refine ic_5 hx hb dX12_tight_84 ?_
    exact W.iret (v := 5) hx hb hr (fun t ht _ => ⟨⟨5, G, rfl, (Q_tight_mk ⟨hB_G, hF, ⟨by decide, by decide⟩, (Or.inr ⟨(xI_ne (Y := 21) rfl rfl c_1), (Or.inr ⟨(xI_ne (Y := 38) rfl rfl c_2), (Or.inl ⟨c_3, ⟨rfl, rfl⟩⟩)⟩)⟩)⟩), wd_t ht hW⟩, hS.F ht⟩) hS.2.2 dX12_tight_85
  by_cases c_4 : p0 = 45
  · refine lv_lookup (tgt := 84) hx hb dX12_tight_1 (by decide) (off := 83) (by rw [c_4]; decide) (by decide) ?_
    have c_4 : p0.toInt = 45 := xI_eq rfl rfl c_4
    refine ic_5 hx hb dX12_tight_84 ?_
    exact W.iret (v := 5) hx hb hr (fun t ht _ => ⟨⟨5, G, rfl, (Q_tight_mk ⟨hB_G, hF, ⟨by decide, by decide⟩, (Or.inr ⟨(xI_ne (Y := 21) rfl rfl c_1), (Or.inr ⟨(xI_ne (Y := 38) rfl rfl c_2), (Or.inr ⟨(xI_ne (Y := 43) rfl rfl c_3), (Or.inl ⟨c_4, ⟨rfl, rfl⟩⟩)⟩)⟩)⟩)⟩), wd_t ht hW⟩, hS.F ht⟩) hS.2.2 dX12_tight_85
  by_cases c_5 : p0 = 60
  · refine lv_lookup (tgt := 82) hx hb dX12_tight_1 (by decide) (off := 81) (by rw [c_5]; decide) (by decide) ?_
    have c_5 : p0.toInt = 60 := xI_eq rfl rfl c_5
    refine ic_4 hx hb dX12_tight_82 ?_
    exact W.iret (v := 4) hx hb hr (fun t ht _ => ⟨⟨4, G, rfl, (Q_tight_mk ⟨hB_G, hF, ⟨by decide, by decide⟩, (Or.inr ⟨(xI_ne (Y := 21) rfl rfl c_1), (Or.inr ⟨(xI_ne (Y := 38) rfl rfl c_2), (Or.inr ⟨(xI_ne (Y := 43) rfl rfl c_3), (Or.inr ⟨(xI_ne (Y := 45) rfl rfl c_4), (Or.inl ⟨c_5, ⟨rfl, rfl⟩⟩)⟩)⟩)⟩)⟩)⟩), wd_t ht hW⟩, hS.F ht⟩) hS.2.2 dX12_tight_83
  by_cases c_6 : p0 = 61
  · refine lv_lookup (tgt := 82) hx hb dX12_tight_1 (by decide) (off := 81) (by rw [c_6]; decide) (by decide) ?_
    have c_6 : p0.toInt = 61 := xI_eq rfl rfl c_6
    refine ic_4 hx hb dX12_tight_82 ?_
    exact W.iret (v := 4) hx hb hr (fun t ht _ => ⟨⟨4, G, rfl, (Q_tight_mk ⟨hB_G, hF, ⟨by decide, by decide⟩, (Or.inr ⟨(xI_ne (Y := 21) rfl rfl c_1), (Or.inr ⟨(xI_ne (Y := 38) rfl rfl c_2), (Or.inr ⟨(xI_ne (Y := 43) rfl rfl c_3), (Or.inr ⟨(xI_ne (Y := 45) rfl rfl c_4), (Or.inr ⟨(xI_ne (Y := 60) rfl rfl c_5), (Or.inl ⟨c_6, ⟨rfl, rfl⟩⟩)⟩)⟩)⟩)⟩)⟩)⟩), wd_t ht hW⟩, hS.F ht⟩) hS.2.2 dX12_tight_83
  by_cases c_7 : p0 = 62
  · refine lv_lookup (tgt := 82) hx hb dX12_tight_1 (by decide) (off := 81) (by rw [c_7]; decide) (by decide) ?_
    have c_7 : p0.toInt = 62 := xI_eq rfl rfl c_7
    refine ic_4 hx hb dX12_tight_82 ?_
    exact W.iret (v := 4) hx hb hr (fun t ht _ => ⟨⟨4, G, rfl, (Q_tight_mk ⟨hB_G, hF, ⟨by decide, by decide⟩, (Or.inr ⟨(xI_ne (Y := 21) rfl rfl c_1), (Or.inr ⟨(xI_ne (Y := 38) rfl rfl c_2), (Or.inr ⟨(xI_ne (Y := 43) rfl rfl c_3), (Or.inr ⟨(xI_ne (Y := 45) rfl rfl c_4), (Or.inr ⟨(xI_ne (Y := 60) rfl rfl c_5), (Or.inr ⟨(xI_ne (Y := 61) rfl rfl c_6), (Or.inl ⟨c_7, ⟨rfl, rfl⟩⟩)⟩)⟩)⟩)⟩)⟩)⟩)⟩), wd_t ht hW⟩, hS.F ht⟩) hS.2.2 dX12_tight_83
  by_cases c_8 : p0 = 124
  · refine lv_lookup (tgt := 76) hx hb dX12_tight_1 (by decide) (off := 75) (by rw [c_8]; decide) (by decide) ?_
    have c_8 : p0.toInt = 124 := xI_eq rfl rfl c_8
    refine ic_1 hx hb dX12_tight_76 ?_
    exact W.iret (v := 1) hx hb hr (fun t ht _ => ⟨⟨1, G, rfl, (Q_tight_mk ⟨hB_G, hF, ⟨by decide, by decide⟩, (Or.inr ⟨(xI_ne (Y := 21) rfl rfl c_1), (Or.inr ⟨(xI_ne (Y := 38) rfl rfl c_2), (Or.inr ⟨(xI_ne (Y := 43) rfl rfl c_3), (Or.inr ⟨(xI_ne (Y := 45) rfl rfl c_4), (Or.inr ⟨(xI_ne (Y := 60) rfl rfl c_5), (Or.inr ⟨(xI_ne (Y := 61) rfl rfl c_6), (Or.inr ⟨(xI_ne (Y := 62) rfl rfl c_7), (Or.inl ⟨c_8, ⟨rfl, rfl⟩⟩)⟩)⟩)⟩)⟩)⟩)⟩)⟩)⟩), wd_t ht hW⟩, hS.F ht⟩) hS.2.2 dX12_tight_77
  refine lv_lookup (tgt := 86) hx hb dX12_tight_1 (by decide) (off := 85) (by show Op.lookupswitch.offset [(21, 79), (38, 77), (43, 83), (45, 83), (60, 81), (61, 81), (62, 81), (124, 75)] _ _ = _; have c_1 := xI_ne (Y := 21) rfl rfl c_1; have c_2 := xI_ne (Y := 38) rfl rfl c_2; have c_3 := xI_ne (Y := 43) rfl rfl c_3; have c_4 := xI_ne (Y := 45) rfl rfl c_4; have c_5 := xI_ne (Y := 60) rfl rfl c_5; have c_6 := xI_ne (Y := 61) rfl rfl c_6; have c_7 := xI_ne (Y := 62) rfl rfl c_7; have c_8 := xI_ne (Y := 124) rfl rfl c_8; rw [Op.lookupswitch.offset_cons, if_neg (by omega), Op.lookupswitch.offset_cons, if_neg (by omega), Op.lookupswitch.offset_cons, if_neg (by omega), Op.lookupswitch.offset_cons, if_neg (by omega), Op.lookupswitch.offset_cons, if_neg (by omega), Op.lookupswitch.offset_cons, if_neg (by omega), Op.lookupswitch.offset_cons, if_neg (by omega), Op.lookupswitch.offset_cons, if_neg (by omega), Op.lookupswitch.offset_nil]) (by decide) ?_
  have c_1 := xI_ne (Y := 21) rfl rfl c_1
  have c_2 := xI_ne (Y := 38) rfl rfl c_2
  have c_3 := xI_ne (Y := 43) rfl rfl c_3
  have c_4 := xI_ne (Y := 45) rfl rfl c_4
  have c_5 := xI_ne (Y := 60) rfl rfl c_5
  have c_6 := xI_ne (Y := 61) rfl rfl c_6
  have c_7 := xI_ne (Y := 62) rfl rfl c_7
  have c_8 := xI_ne (Y := 124) rfl rfl c_8
  refine lv_bipush (v := 6) hx hb dX12_tight_86 (by decide) ?_
  exact W.iret (v := 6) hx hb hr (fun t ht _ => ⟨⟨6, G, rfl, (Q_tight_mk ⟨hB_G, hF, ⟨by decide, by decide⟩, (Or.inr ⟨c_1, (Or.inr ⟨c_2, (Or.inr ⟨c_3, (Or.inr ⟨c_4, (Or.inr ⟨c_5, (Or.inr ⟨c_6, (Or.inr ⟨c_7, (Or.inr ⟨c_8, ⟨rfl, rfl⟩⟩)⟩)⟩)⟩)⟩)⟩)⟩)⟩)⟩), wd_t ht hW⟩, hS.F ht⟩) hS.2.2 dX12_tight_88

set_option maxHeartbeats 4000000 in
set_option maxRecDepth 100000 in
theorem n_truth (l : Launch) (D : va_G) (k : KT) (A : Nat → Prop) (a : Nat → Nat) (z : SK) (G : GS) (p0 : Int32) (ha_p0 : 0 ≤ p0.toInt ∧ p0.toInt ≤ 1) : Met l yX12_truth (WS yX12_truth cX12_truth 1 (some .int)) ({ frames := 0, cells := 0, slots := 0, locals := 0 }) (va_Pc [.int p0] (cW D k A a z G)) (va_Qi (fun (r : Int32) (G1 : GS) => Q_truth p0 G r G1) (fun (G1 : GS) t => Wd D k A a G1 t.heap) A) 0 0 A := by
  refine Met.ofW (cc := cX12_truth) (maxL := 1) (ret := (some .int)) (by decide) rfl ?_
  intro p e s m args below meth c s₁ B hml hv
  obtain ⟨rfl, hW, hB_G, hK, hZ⟩ := hv
  have hx := B.exec
  have hb := B.bytes
  have hr := B.returns
  have hts := atoms_spec (ws := WS yX12_truth cX12_truth 1 (some .int)) B.pre
  have hgd : ∀ w ∈ gd, w ∈ WS yX12_truth cX12_truth 1 (some .int) := fun w h => List.mem_cons_of_mem _ h
  have hg : ∀ w ∈ gd, w.before _ s = true := fun w h => hts w (hgd w h)
  have hown : s.vm.findClass RX12 = some m.cls := findClass_of_methodNamed B.named
  have hS : va_S A s.heap s.heap [] := va_S.rf
  have hF : Fr [] [] G G := Fr.rf
  have hl := lv_entry ([.int p0]) (n := 1) (Nat.le_of_ble_eq_true rfl)
  rw [lg_entry_eq]
  generalize (lg_sl ([.int p0]) ++ List.replicate (1 - (lg_sl ([.int p0])).length) Slot.unset).toArray = ls at hl ⊢
  have hl : lv_has ls 1 [(0, .int p0)] := hl
  refine lv_iload_n hx hb dX12_truth_0 rfl (lv_at hl 0 rfl) ?_
  refine lv_if_eq (tgt := 8) hx hb dX12_truth_1 rfl (fun c_1 => ?_) (fun c_1 => ?_)
  · have c_1 : p0.toInt = 0 := xI_eq rfl rfl c_1
    refine ic_0 hx hb dX12_truth_8 ?_
    exact W.iret (v := 0) hx hb hr (fun t ht _ => ⟨⟨0, G, rfl, (Q_truth_mk ⟨hB_G, hF, ⟨by decide, by decide⟩, (by have hq : (0 : Int32).toInt = 0 := rfl; (try dsimp only); omega), (Or.inl ⟨c_1, ⟨rfl, rfl⟩⟩)⟩), wd_t ht hW⟩, hS.F ht⟩) hS.2.2 dX12_truth_9
  · have c_1 : p0.toInt ≠ 0 := xI_ne rfl rfl c_1
    refine ic_1 hx hb dX12_truth_4 ?_
    refine lv_goto (tgt := 9) hx hb dX12_truth_5 rfl ?_
    exact W.iret (v := 1) hx hb hr (fun t ht _ => ⟨⟨1, G, rfl, (Q_truth_mk ⟨hB_G, hF, ⟨by decide, by decide⟩, (by have hq : (1 : Int32).toInt = 1 := rfl; (try dsimp only); omega), (Or.inr ⟨c_1, ⟨rfl, rfl⟩⟩)⟩), wd_t ht hW⟩, hS.F ht⟩) hS.2.2 dX12_truth_9

set_option maxHeartbeats 4000000 in
set_option maxRecDepth 100000 in
theorem n_done (l : Launch) (D : va_G) (k : KT) (A : Nat → Prop) (a : Nat → Nat) (z : SK) (G : GS) (p0 : Int32) (p1 : Int32) (p2 : Int32)  : Met l yX12_done (WS yX12_done cX12_done 3 (some .int)) ({ frames := 1, cells := 0, slots := 0, locals := 20 }) (va_Pc [.int p0, .int p1, .int p2] (cW D k A a z G)) (va_Qi (fun (r : Int32) (G1 : GS) => Q_done p0 p1 p2 G r G1) (fun (G1 : GS) t => Wd D k A a G1 t.heap) A) 0 0 A := by
  refine Met.ofW (cc := cX12_done) (maxL := 3) (ret := (some .int)) (by decide) rfl ?_
  intro p e s m args below meth c s₁ B hml hv
  obtain ⟨rfl, hW, hB_G, hK, hZ⟩ := hv
  have hx := B.exec
  have hb := B.bytes
  have hr := B.returns
  have hts := atoms_spec (ws := WS yX12_done cX12_done 3 (some .int)) B.pre
  have hgd : ∀ w ∈ gd, w ∈ WS yX12_done cX12_done 3 (some .int) := fun w h => List.mem_cons_of_mem _ h
  have hg : ∀ w ∈ gd, w.before _ s = true := fun w h => hts w (hgd w h)
  have hown : s.vm.findClass RX12 = some m.cls := findClass_of_methodNamed B.named
  have hS : va_S A s.heap s.heap [] := va_S.rf
  have hF : Fr [] [] G G := Fr.rf
  have hl := lv_entry ([.int p0, .int p1, .int p2]) (n := 3) (Nat.le_of_ble_eq_true rfl)
  rw [lg_entry_eq]
  generalize (lg_sl ([.int p0, .int p1, .int p2]) ++ List.replicate (3 - (lg_sl ([.int p0, .int p1, .int p2])).length) Slot.unset).toArray = ls at hl ⊢
  have hl : lv_has ls 3 [(0, .int p0), (1, .int p1), (2, .int p2)] := hl
  refine lv_iload_n hx hb dX12_done_0 rfl (lv_at hl 0 rfl) ?_
  by_cases c_1 : p0 = 37
  · refine lv_tableIn (tgt := 144) hx hb dX12_done_1 (by rw [c_1]; decide) (by rw [c_1]; decide) (off := 143) (by rw [c_1]; decide) (by decide) ?_
    have c_1 : p0.toInt = 37 := xI_eq rfl rfl c_1
    refine lv_iload_n hx hb dX12_done_144 rfl (lv_at hl 2 rfl) ?_
    refine lv_if_ne (tgt := 152) hx hb dX12_done_145 rfl (fun c_2 => ?_) (fun c_2 => ?_)
    · have c_2 : p2.toInt ≠ 0 := xI_ne rfl rfl c_2
      refine lv_iload_n hx hb dX12_done_152 rfl (lv_at hl 1 rfl) ?_
      refine lv_iload_n hx hb dX12_done_153 rfl (lv_at hl 2 rfl) ?_
      refine lv_irem hx hb dX12_done_154 (fun q => by have q := xI_eq (Y := 0) rfl rfl q; omega) ?_
      refine lv_topi (fun y_3 ey_3 => ?_)
      exact W.iret (v := y_3) hx hb hr (fun t ht _ => ⟨⟨y_3, G, rfl, (Q_done_mk ⟨hB_G, hF, (Or.inl ⟨c_1, (Or.inr ⟨c_2, ⟨y_3, ey_3, ⟨rfl, rfl⟩⟩⟩)⟩)⟩), wd_t ht hW⟩, hS.F ht⟩) hS.2.2 dX12_done_155
    · have c_2 : p2.toInt = 0 := xI_eq rfl rfl c_2
      refine ic_0 hx hb dX12_done_148 ?_
      refine lv_goto (tgt := 155) hx hb dX12_done_149 rfl ?_
      exact W.iret (v := 0) hx hb hr (fun t ht _ => ⟨⟨0, G, rfl, (Q_done_mk ⟨hB_G, hF, (Or.inl ⟨c_1, (Or.inl ⟨c_2, ⟨rfl, rfl⟩⟩)⟩)⟩), wd_t ht hW⟩, hS.F ht⟩) hS.2.2 dX12_done_155
  by_cases c_4 : p0 = 38
  · refine lv_tableIn (tgt := 198) hx hb dX12_done_1 (by rw [c_4]; decide) (by rw [c_4]; decide) (off := 197) (by rw [c_4]; decide) (by decide) ?_
    have c_4 : p0.toInt = 38 := xI_eq rfl rfl c_4
    refine lv_iload_n hx hb dX12_done_198 rfl (lv_at hl 1 rfl) ?_
    refine lv_if_eq (tgt := 210) hx hb dX12_done_199 rfl (fun c_5 => ?_) (fun c_5 => ?_)
    · have c_5 : p1.toInt = 0 := xI_eq rfl rfl c_5
      refine ic_0 hx hb dX12_done_210 ?_
      have qc_6 : (0 : Int32).toInt = 0 := rfl
      refine S_calli (va_runS (As := [.int 0]) (rest := []) ⟨hx, hb, hml, hown, hts⟩ (n_truth l D k A a z G 0 ⟨by decide, by decide⟩) (va_cwS 1 hts (gd_S hgd m1788 m1789 m131 m1790) rfl rfl rfl hd_X12_truth.2 ⟨Nat.le_of_ble_eq_true rfl, Nat.le_of_ble_eq_true rfl⟩) (pre_S hW hB_G hK hZ hS) rfl rfl hl.1 rfl (lv_room (Nat.le_of_ble_eq_true rfl)) dX12_done_211 ⟨Nat.le_of_ble_eq_true rfl, Nat.le_of_ble_eq_true rfl⟩) hS (fun r_7 G_8 H locs hpo hW hS => ?_)
      have hX_11 : Q_truth 0 G r_7 G_8 := hpo
      obtain ⟨hB_G_8, hq_9, f_12, hp_10, -⟩ := hpo
      have hF := hF.call9 hq_9 rfl rfl
      exact W.iret (v := r_7) hx hb hr (fun t ht _ => ⟨⟨r_7, G_8, rfl, (Q_done_mk ⟨hB_G_8, hF, (Or.inr ⟨(xI_ne (Y := 37) rfl rfl c_1), (Or.inl ⟨c_4, (Or.inl ⟨c_5, ⟨r_7, G_8, hX_11, ⟨rfl, rfl⟩⟩⟩)⟩)⟩)⟩), wd_t ht hW⟩, hS.F ht⟩) hS.2.2 dX12_done_214
    · have c_5 : p1.toInt ≠ 0 := xI_ne rfl rfl c_5
      refine lv_iload_n hx hb dX12_done_202 rfl (lv_at hl 2 rfl) ?_
      refine lv_if_eq (tgt := 210) hx hb dX12_done_203 rfl (fun c_13 => ?_) (fun c_13 => ?_)
      · have c_13 : p2.toInt = 0 := xI_eq rfl rfl c_13
        refine ic_0 hx hb dX12_done_210 ?_
        have qc_14 : (0 : Int32).toInt = 0 := rfl
        refine S_calli (va_runS (As := [.int 0]) (rest := []) ⟨hx, hb, hml, hown, hts⟩ (n_truth l D k A a z G 0 ⟨by decide, by decide⟩) (va_cwS 1 hts (gd_S hgd m1788 m1789 m131 m1790) rfl rfl rfl hd_X12_truth.2 ⟨Nat.le_of_ble_eq_true rfl, Nat.le_of_ble_eq_true rfl⟩) (pre_S hW hB_G hK hZ hS) rfl rfl hl.1 rfl (lv_room (Nat.le_of_ble_eq_true rfl)) dX12_done_211 ⟨Nat.le_of_ble_eq_true rfl, Nat.le_of_ble_eq_true rfl⟩) hS (fun r_15 G_16 H locs hpo hW hS => ?_)
        have hX_19 : Q_truth 0 G r_15 G_16 := hpo
        obtain ⟨hB_G_16, hq_17, f_20, hp_18, -⟩ := hpo
        have hF := hF.call9 hq_17 rfl rfl
        exact W.iret (v := r_15) hx hb hr (fun t ht _ => ⟨⟨r_15, G_16, rfl, (Q_done_mk ⟨hB_G_16, hF, (Or.inr ⟨(xI_ne (Y := 37) rfl rfl c_1), (Or.inl ⟨c_4, (Or.inr ⟨c_5, (Or.inl ⟨c_13, ⟨r_15, G_16, hX_19, ⟨rfl, rfl⟩⟩⟩)⟩)⟩)⟩)⟩), wd_t ht hW⟩, hS.F ht⟩) hS.2.2 dX12_done_214
      · have c_13 : p2.toInt ≠ 0 := xI_ne rfl rfl c_13
        refine ic_1 hx hb dX12_done_206 ?_
        refine lv_goto (tgt := 211) hx hb dX12_done_207 rfl ?_
        have qc_21 : (1 : Int32).toInt = 1 := rfl
        refine S_calli (va_runS (As := [.int 1]) (rest := []) ⟨hx, hb, hml, hown, hts⟩ (n_truth l D k A a z G 1 ⟨by decide, by decide⟩) (va_cwS 1 hts (gd_S hgd m1788 m1789 m131 m1790) rfl rfl rfl hd_X12_truth.2 ⟨Nat.le_of_ble_eq_true rfl, Nat.le_of_ble_eq_true rfl⟩) (pre_S hW hB_G hK hZ hS) rfl rfl hl.1 rfl (lv_room (Nat.le_of_ble_eq_true rfl)) dX12_done_211 ⟨Nat.le_of_ble_eq_true rfl, Nat.le_of_ble_eq_true rfl⟩) hS (fun r_22 G_23 H locs hpo hW hS => ?_)
        have hX_26 : Q_truth 1 G r_22 G_23 := hpo
        obtain ⟨hB_G_23, hq_24, f_27, hp_25, -⟩ := hpo
        have hF := hF.call9 hq_24 rfl rfl
        exact W.iret (v := r_22) hx hb hr (fun t ht _ => ⟨⟨r_22, G_23, rfl, (Q_done_mk ⟨hB_G_23, hF, (Or.inr ⟨(xI_ne (Y := 37) rfl rfl c_1), (Or.inl ⟨c_4, (Or.inr ⟨c_5, (Or.inr ⟨c_13, ⟨r_22, G_23, hX_26, ⟨rfl, rfl⟩⟩⟩)⟩)⟩)⟩)⟩), wd_t ht hW⟩, hS.F ht⟩) hS.2.2 dX12_done_214
  by_cases c_28 : p0 = 39
  · refine lv_tableIn (tgt := 215) hx hb dX12_done_1 (by rw [c_28]; decide) (by rw [c_28]; decide) (off := 214) (by rw [c_28]; decide) (by decide) ?_
    have c_28 : p0.toInt = 39 := xI_eq rfl rfl c_28
    refine lv_iload_n hx hb dX12_done_215 rfl (lv_at hl 1 rfl) ?_
    refine lv_if_ne (tgt := 223) hx hb dX12_done_216 rfl (fun c_29 => ?_) (fun c_29 => ?_)
    · have c_29 : p1.toInt ≠ 0 := xI_ne rfl rfl c_29
      refine ic_1 hx hb dX12_done_223 ?_
      refine lv_goto (tgt := 228) hx hb dX12_done_224 rfl ?_
      have qc_30 : (1 : Int32).toInt = 1 := rfl
      refine S_calli (va_runS (As := [.int 1]) (rest := []) ⟨hx, hb, hml, hown, hts⟩ (n_truth l D k A a z G 1 ⟨by decide, by decide⟩) (va_cwS 1 hts (gd_S hgd m1788 m1789 m131 m1790) rfl rfl rfl hd_X12_truth.2 ⟨Nat.le_of_ble_eq_true rfl, Nat.le_of_ble_eq_true rfl⟩) (pre_S hW hB_G hK hZ hS) rfl rfl hl.1 rfl (lv_room (Nat.le_of_ble_eq_true rfl)) dX12_done_228 ⟨Nat.le_of_ble_eq_true rfl, Nat.le_of_ble_eq_true rfl⟩) hS (fun r_31 G_32 H locs hpo hW hS => ?_)
      have hX_35 : Q_truth 1 G r_31 G_32 := hpo
      obtain ⟨hB_G_32, hq_33, f_36, hp_34, -⟩ := hpo
      have hF := hF.call9 hq_33 rfl rfl
      exact W.iret (v := r_31) hx hb hr (fun t ht _ => ⟨⟨r_31, G_32, rfl, (Q_done_mk ⟨hB_G_32, hF, (Or.inr ⟨(xI_ne (Y := 37) rfl rfl c_1), (Or.inr ⟨(xI_ne (Y := 38) rfl rfl c_4), (Or.inl ⟨c_28, (Or.inr ⟨c_29, ⟨r_31, G_32, hX_35, ⟨rfl, rfl⟩⟩⟩)⟩)⟩)⟩)⟩), wd_t ht hW⟩, hS.F ht⟩) hS.2.2 dX12_done_231
    · have c_29 : p1.toInt = 0 := xI_eq rfl rfl c_29
      refine lv_iload_n hx hb dX12_done_219 rfl (lv_at hl 2 rfl) ?_
      refine lv_if_eq (tgt := 227) hx hb dX12_done_220 rfl (fun c_37 => ?_) (fun c_37 => ?_)
      · have c_37 : p2.toInt = 0 := xI_eq rfl rfl c_37
        refine ic_0 hx hb dX12_done_227 ?_
        have qc_38 : (0 : Int32).toInt = 0 := rfl
        refine S_calli (va_runS (As := [.int 0]) (rest := []) ⟨hx, hb, hml, hown, hts⟩ (n_truth l D k A a z G 0 ⟨by decide, by decide⟩) (va_cwS 1 hts (gd_S hgd m1788 m1789 m131 m1790) rfl rfl rfl hd_X12_truth.2 ⟨Nat.le_of_ble_eq_true rfl, Nat.le_of_ble_eq_true rfl⟩) (pre_S hW hB_G hK hZ hS) rfl rfl hl.1 rfl (lv_room (Nat.le_of_ble_eq_true rfl)) dX12_done_228 ⟨Nat.le_of_ble_eq_true rfl, Nat.le_of_ble_eq_true rfl⟩) hS (fun r_39 G_40 H locs hpo hW hS => ?_)
        have hX_43 : Q_truth 0 G r_39 G_40 := hpo
        obtain ⟨hB_G_40, hq_41, f_44, hp_42, -⟩ := hpo
        have hF := hF.call9 hq_41 rfl rfl
        exact W.iret (v := r_39) hx hb hr (fun t ht _ => ⟨⟨r_39, G_40, rfl, (Q_done_mk ⟨hB_G_40, hF, (Or.inr ⟨(xI_ne (Y := 37) rfl rfl c_1), (Or.inr ⟨(xI_ne (Y := 38) rfl rfl c_4), (Or.inl ⟨c_28, (Or.inl ⟨c_29, (Or.inl ⟨c_37, ⟨r_39, G_40, hX_43, ⟨rfl, rfl⟩⟩⟩)⟩)⟩)⟩)⟩)⟩), wd_t ht hW⟩, hS.F ht⟩) hS.2.2 dX12_done_231
      · have c_37 : p2.toInt ≠ 0 := xI_ne rfl rfl c_37
        refine ic_1 hx hb dX12_done_223 ?_
        refine lv_goto (tgt := 228) hx hb dX12_done_224 rfl ?_
        have qc_45 : (1 : Int32).toInt = 1 := rfl
        refine S_calli (va_runS (As := [.int 1]) (rest := []) ⟨hx, hb, hml, hown, hts⟩ (n_truth l D k A a z G 1 ⟨by decide, by decide⟩) (va_cwS 1 hts (gd_S hgd m1788 m1789 m131 m1790) rfl rfl rfl hd_X12_truth.2 ⟨Nat.le_of_ble_eq_true rfl, Nat.le_of_ble_eq_true rfl⟩) (pre_S hW hB_G hK hZ hS) rfl rfl hl.1 rfl (lv_room (Nat.le_of_ble_eq_true rfl)) dX12_done_228 ⟨Nat.le_of_ble_eq_true rfl, Nat.le_of_ble_eq_true rfl⟩) hS (fun r_46 G_47 H locs hpo hW hS => ?_)
        have hX_50 : Q_truth 1 G r_46 G_47 := hpo
        obtain ⟨hB_G_47, hq_48, f_51, hp_49, -⟩ := hpo
        have hF := hF.call9 hq_48 rfl rfl
        exact W.iret (v := r_46) hx hb hr (fun t ht _ => ⟨⟨r_46, G_47, rfl, (Q_done_mk ⟨hB_G_47, hF, (Or.inr ⟨(xI_ne (Y := 37) rfl rfl c_1), (Or.inr ⟨(xI_ne (Y := 38) rfl rfl c_4), (Or.inl ⟨c_28, (Or.inl ⟨c_29, (Or.inr ⟨c_37, ⟨r_46, G_47, hX_50, ⟨rfl, rfl⟩⟩⟩)⟩)⟩)⟩)⟩)⟩), wd_t ht hW⟩, hS.F ht⟩) hS.2.2 dX12_done_231
  by_cases c_52 : p0 = 40
  · refine lv_tableIn (tgt := 215) hx hb dX12_done_1 (by rw [c_52]; decide) (by rw [c_52]; decide) (off := 214) (by rw [c_52]; decide) (by decide) ?_
    have c_52 : p0.toInt = 40 := xI_eq rfl rfl c_52
    refine lv_iload_n hx hb dX12_done_215 rfl (lv_at hl 1 rfl) ?_
    refine lv_if_ne (tgt := 223) hx hb dX12_done_216 rfl (fun c_53 => ?_) (fun c_53 => ?_)
    · have c_53 : p1.toInt ≠ 0 := xI_ne rfl rfl c_53
      refine ic_1 hx hb dX12_done_223 ?_
      refine lv_goto (tgt := 228) hx hb dX12_done_224 rfl ?_
      have qc_54 : (1 : Int32).toInt = 1 := rfl
      refine S_calli (va_runS (As := [.int 1]) (rest := []) ⟨hx, hb, hml, hown, hts⟩ (n_truth l D k A a z G 1 ⟨by decide, by decide⟩) (va_cwS 1 hts (gd_S hgd m1788 m1789 m131 m1790) rfl rfl rfl hd_X12_truth.2 ⟨Nat.le_of_ble_eq_true rfl, Nat.le_of_ble_eq_true rfl⟩) (pre_S hW hB_G hK hZ hS) rfl rfl hl.1 rfl (lv_room (Nat.le_of_ble_eq_true rfl)) dX12_done_228 ⟨Nat.le_of_ble_eq_true rfl, Nat.le_of_ble_eq_true rfl⟩) hS (fun r_55 G_56 H locs hpo hW hS => ?_)
      have hX_59 : Q_truth 1 G r_55 G_56 := hpo
      obtain ⟨hB_G_56, hq_57, f_60, hp_58, -⟩ := hpo
      have hF := hF.call9 hq_57 rfl rfl
      exact W.iret (v := r_55) hx hb hr (fun t ht _ => ⟨⟨r_55, G_56, rfl, (Q_done_mk ⟨hB_G_56, hF, (Or.inr ⟨(xI_ne (Y := 37) rfl rfl c_1), (Or.inr ⟨(xI_ne (Y := 38) rfl rfl c_4), (Or.inr ⟨(xI_ne (Y := 39) rfl rfl c_28), (Or.inl ⟨c_52, (Or.inr ⟨c_53, ⟨r_55, G_56, hX_59, ⟨rfl, rfl⟩⟩⟩)⟩)⟩)⟩)⟩)⟩), wd_t ht hW⟩, hS.F ht⟩) hS.2.2 dX12_done_231
    · have c_53 : p1.toInt = 0 := xI_eq rfl rfl c_53
      refine lv_iload_n hx hb dX12_done_219 rfl (lv_at hl 2 rfl) ?_
      refine lv_if_eq (tgt := 227) hx hb dX12_done_220 rfl (fun c_61 => ?_) (fun c_61 => ?_)
      · have c_61 : p2.toInt = 0 := xI_eq rfl rfl c_61
        refine ic_0 hx hb dX12_done_227 ?_
        have qc_62 : (0 : Int32).toInt = 0 := rfl
        refine S_calli (va_runS (As := [.int 0]) (rest := []) ⟨hx, hb, hml, hown, hts⟩ (n_truth l D k A a z G 0 ⟨by decide, by decide⟩) (va_cwS 1 hts (gd_S hgd m1788 m1789 m131 m1790) rfl rfl rfl hd_X12_truth.2 ⟨Nat.le_of_ble_eq_true rfl, Nat.le_of_ble_eq_true rfl⟩) (pre_S hW hB_G hK hZ hS) rfl rfl hl.1 rfl (lv_room (Nat.le_of_ble_eq_true rfl)) dX12_done_228 ⟨Nat.le_of_ble_eq_true rfl, Nat.le_of_ble_eq_true rfl⟩) hS (fun r_63 G_64 H locs hpo hW hS => ?_)
        have hX_67 : Q_truth 0 G r_63 G_64 := hpo
        obtain ⟨hB_G_64, hq_65, f_68, hp_66, -⟩ := hpo
        have hF := hF.call9 hq_65 rfl rfl
        exact W.iret (v := r_63) hx hb hr (fun t ht _ => ⟨⟨r_63, G_64, rfl, (Q_done_mk ⟨hB_G_64, hF, (Or.inr ⟨(xI_ne (Y := 37) rfl rfl c_1), (Or.inr ⟨(xI_ne (Y := 38) rfl rfl c_4), (Or.inr ⟨(xI_ne (Y := 39) rfl rfl c_28), (Or.inl ⟨c_52, (Or.inl ⟨c_53, (Or.inl ⟨c_61, ⟨r_63, G_64, hX_67, ⟨rfl, rfl⟩⟩⟩)⟩)⟩)⟩)⟩)⟩)⟩), wd_t ht hW⟩, hS.F ht⟩) hS.2.2 dX12_done_231
      · have c_61 : p2.toInt ≠ 0 := xI_ne rfl rfl c_61
        refine ic_1 hx hb dX12_done_223 ?_
        refine lv_goto (tgt := 228) hx hb dX12_done_224 rfl ?_
        have qc_69 : (1 : Int32).toInt = 1 := rfl
        refine S_calli (va_runS (As := [.int 1]) (rest := []) ⟨hx, hb, hml, hown, hts⟩ (n_truth l D k A a z G 1 ⟨by decide, by decide⟩) (va_cwS 1 hts (gd_S hgd m1788 m1789 m131 m1790) rfl rfl rfl hd_X12_truth.2 ⟨Nat.le_of_ble_eq_true rfl, Nat.le_of_ble_eq_true rfl⟩) (pre_S hW hB_G hK hZ hS) rfl rfl hl.1 rfl (lv_room (Nat.le_of_ble_eq_true rfl)) dX12_done_228 ⟨Nat.le_of_ble_eq_true rfl, Nat.le_of_ble_eq_true rfl⟩) hS (fun r_70 G_71 H locs hpo hW hS => ?_)
        have hX_74 : Q_truth 1 G r_70 G_71 := hpo
        obtain ⟨hB_G_71, hq_72, f_75, hp_73, -⟩ := hpo
        have hF := hF.call9 hq_72 rfl rfl
        exact W.iret (v := r_70) hx hb hr (fun t ht _ => ⟨⟨r_70, G_71, rfl, (Q_done_mk ⟨hB_G_71, hF, (Or.inr ⟨(xI_ne (Y := 37) rfl rfl c_1), (Or.inr ⟨(xI_ne (Y := 38) rfl rfl c_4), (Or.inr ⟨(xI_ne (Y := 39) rfl rfl c_28), (Or.inl ⟨c_52, (Or.inl ⟨c_53, (Or.inr ⟨c_61, ⟨r_70, G_71, hX_74, ⟨rfl, rfl⟩⟩⟩)⟩)⟩)⟩)⟩)⟩)⟩), wd_t ht hW⟩, hS.F ht⟩) hS.2.2 dX12_done_231
  by_cases c_76 : p0 = 41
  · refine lv_tableIn (tgt := 215) hx hb dX12_done_1 (by rw [c_76]; decide) (by rw [c_76]; decide) (off := 214) (by rw [c_76]; decide) (by decide) ?_
    have c_76 : p0.toInt = 41 := xI_eq rfl rfl c_76
    refine lv_iload_n hx hb dX12_done_215 rfl (lv_at hl 1 rfl) ?_
    refine lv_if_ne (tgt := 223) hx hb dX12_done_216 rfl (fun c_77 => ?_) (fun c_77 => ?_)
    · have c_77 : p1.toInt ≠ 0 := xI_ne rfl rfl c_77
      refine ic_1 hx hb dX12_done_223 ?_
      refine lv_goto (tgt := 228) hx hb dX12_done_224 rfl ?_
      have qc_78 : (1 : Int32).toInt = 1 := rfl
      refine S_calli (va_runS (As := [.int 1]) (rest := []) ⟨hx, hb, hml, hown, hts⟩ (n_truth l D k A a z G 1 ⟨by decide, by decide⟩) (va_cwS 1 hts (gd_S hgd m1788 m1789 m131 m1790) rfl rfl rfl hd_X12_truth.2 ⟨Nat.le_of_ble_eq_true rfl, Nat.le_of_ble_eq_true rfl⟩) (pre_S hW hB_G hK hZ hS) rfl rfl hl.1 rfl (lv_room (Nat.le_of_ble_eq_true rfl)) dX12_done_228 ⟨Nat.le_of_ble_eq_true rfl, Nat.le_of_ble_eq_true rfl⟩) hS (fun r_79 G_80 H locs hpo hW hS => ?_)
      have hX_83 : Q_truth 1 G r_79 G_80 := hpo
      obtain ⟨hB_G_80, hq_81, f_84, hp_82, -⟩ := hpo
      have hF := hF.call9 hq_81 rfl rfl
      exact W.iret (v := r_79) hx hb hr (fun t ht _ => ⟨⟨r_79, G_80, rfl, (Q_done_mk ⟨hB_G_80, hF, (Or.inr ⟨(xI_ne (Y := 37) rfl rfl c_1), (Or.inr ⟨(xI_ne (Y := 38) rfl rfl c_4), (Or.inr ⟨(xI_ne (Y := 39) rfl rfl c_28), (Or.inr ⟨(xI_ne (Y := 40) rfl rfl c_52), (Or.inl ⟨c_76, (Or.inr ⟨c_77, ⟨r_79, G_80, hX_83, ⟨rfl, rfl⟩⟩⟩)⟩)⟩)⟩)⟩)⟩)⟩), wd_t ht hW⟩, hS.F ht⟩) hS.2.2 dX12_done_231
    · have c_77 : p1.toInt = 0 := xI_eq rfl rfl c_77
      refine lv_iload_n hx hb dX12_done_219 rfl (lv_at hl 2 rfl) ?_
      refine lv_if_eq (tgt := 227) hx hb dX12_done_220 rfl (fun c_85 => ?_) (fun c_85 => ?_)
      · have c_85 : p2.toInt = 0 := xI_eq rfl rfl c_85
        refine ic_0 hx hb dX12_done_227 ?_
        have qc_86 : (0 : Int32).toInt = 0 := rfl
        refine S_calli (va_runS (As := [.int 0]) (rest := []) ⟨hx, hb, hml, hown, hts⟩ (n_truth l D k A a z G 0 ⟨by decide, by decide⟩) (va_cwS 1 hts (gd_S hgd m1788 m1789 m131 m1790) rfl rfl rfl hd_X12_truth.2 ⟨Nat.le_of_ble_eq_true rfl, Nat.le_of_ble_eq_true rfl⟩) (pre_S hW hB_G hK hZ hS) rfl rfl hl.1 rfl (lv_room (Nat.le_of_ble_eq_true rfl)) dX12_done_228 ⟨Nat.le_of_ble_eq_true rfl, Nat.le_of_ble_eq_true rfl⟩) hS (fun r_87 G_88 H locs hpo hW hS => ?_)
        have hX_91 : Q_truth 0 G r_87 G_88 := hpo
        obtain ⟨hB_G_88, hq_89, f_92, hp_90, -⟩ := hpo
        have hF := hF.call9 hq_89 rfl rfl
        exact W.iret (v := r_87) hx hb hr (fun t ht _ => ⟨⟨r_87, G_88, rfl, (Q_done_mk ⟨hB_G_88, hF, (Or.inr ⟨(xI_ne (Y := 37) rfl rfl c_1), (Or.inr ⟨(xI_ne (Y := 38) rfl rfl c_4), (Or.inr ⟨(xI_ne (Y := 39) rfl rfl c_28), (Or.inr ⟨(xI_ne (Y := 40) rfl rfl c_52), (Or.inl ⟨c_76, (Or.inl ⟨c_77, (Or.inl ⟨c_85, ⟨r_87, G_88, hX_91, ⟨rfl, rfl⟩⟩⟩)⟩)⟩)⟩)⟩)⟩)⟩)⟩), wd_t ht hW⟩, hS.F ht⟩) hS.2.2 dX12_done_231
      · have c_85 : p2.toInt ≠ 0 := xI_ne rfl rfl c_85
        refine ic_1 hx hb dX12_done_223 ?_
        refine lv_goto (tgt := 228) hx hb dX12_done_224 rfl ?_
        have qc_93 : (1 : Int32).toInt = 1 := rfl
        refine S_calli (va_runS (As := [.int 1]) (rest := []) ⟨hx, hb, hml, hown, hts⟩ (n_truth l D k A a z G 1 ⟨by decide, by decide⟩) (va_cwS 1 hts (gd_S hgd m1788 m1789 m131 m1790) rfl rfl rfl hd_X12_truth.2 ⟨Nat.le_of_ble_eq_true rfl, Nat.le_of_ble_eq_true rfl⟩) (pre_S hW hB_G hK hZ hS) rfl rfl hl.1 rfl (lv_room (Nat.le_of_ble_eq_true rfl)) dX12_done_228 ⟨Nat.le_of_ble_eq_true rfl, Nat.le_of_ble_eq_true rfl⟩) hS (fun r_94 G_95 H locs hpo hW hS => ?_)
        have hX_98 : Q_truth 1 G r_94 G_95 := hpo
        obtain ⟨hB_G_95, hq_96, f_99, hp_97, -⟩ := hpo
        have hF := hF.call9 hq_96 rfl rfl
        exact W.iret (v := r_94) hx hb hr (fun t ht _ => ⟨⟨r_94, G_95, rfl, (Q_done_mk ⟨hB_G_95, hF, (Or.inr ⟨(xI_ne (Y := 37) rfl rfl c_1), (Or.inr ⟨(xI_ne (Y := 38) rfl rfl c_4), (Or.inr ⟨(xI_ne (Y := 39) rfl rfl c_28), (Or.inr ⟨(xI_ne (Y := 40) rfl rfl c_52), (Or.inl ⟨c_76, (Or.inl ⟨c_77, (Or.inr ⟨c_85, ⟨r_94, G_95, hX_98, ⟨rfl, rfl⟩⟩⟩)⟩)⟩)⟩)⟩)⟩)⟩)⟩), wd_t ht hW⟩, hS.F ht⟩) hS.2.2 dX12_done_231
  by_cases c_100 : p0 = 42
  · refine lv_tableIn (tgt := 128) hx hb dX12_done_1 (by rw [c_100]; decide) (by rw [c_100]; decide) (off := 127) (by rw [c_100]; decide) (by decide) ?_
    have c_100 : p0.toInt = 42 := xI_eq rfl rfl c_100
    refine lv_iload_n hx hb dX12_done_128 rfl (lv_at hl 1 rfl) ?_
    refine lv_iload_n hx hb dX12_done_129 rfl (lv_at hl 2 rfl) ?_
    refine lv_imul hx hb dX12_done_130 ?_
    refine lv_topi (fun y_101 ey_101 => ?_)
    exact W.iret (v := y_101) hx hb hr (fun t ht _ => ⟨⟨y_101, G, rfl, (Q_done_mk ⟨hB_G, hF, (Or.inr ⟨(xI_ne (Y := 37) rfl rfl c_1), (Or.inr ⟨(xI_ne (Y := 38) rfl rfl c_4), (Or.inr ⟨(xI_ne (Y := 39) rfl rfl c_28), (Or.inr ⟨(xI_ne (Y := 40) rfl rfl c_52), (Or.inr ⟨(xI_ne (Y := 41) rfl rfl c_76), (Or.inl ⟨c_100, ⟨y_101, ey_101, ⟨rfl, rfl⟩⟩⟩)⟩)⟩)⟩)⟩)⟩)⟩), wd_t ht hW⟩, hS.F ht⟩) hS.2.2 dX12_done_131
  by_cases c_102 : p0 = 43
  · refine lv_tableIn (tgt := 120) hx hb dX12_done_1 (by rw [c_102]; decide) (by rw [c_102]; decide) (off := 119) (by rw [c_102]; decide) (by decide) ?_
    have c_102 : p0.toInt = 43 := xI_eq rfl rfl c_102
    refine lv_iload_n hx hb dX12_done_120 rfl (lv_at hl 1 rfl) ?_
    refine lv_iload_n hx hb dX12_done_121 rfl (lv_at hl 2 rfl) ?_
    refine lv_iadd hx hb dX12_done_122 ?_
    refine lv_topi (fun y_103 ey_103 => ?_)
    exact W.iret (v := y_103) hx hb hr (fun t ht _ => ⟨⟨y_103, G, rfl, (Q_done_mk ⟨hB_G, hF, (Or.inr ⟨(xI_ne (Y := 37) rfl rfl c_1), (Or.inr ⟨(xI_ne (Y := 38) rfl rfl c_4), (Or.inr ⟨(xI_ne (Y := 39) rfl rfl c_28), (Or.inr ⟨(xI_ne (Y := 40) rfl rfl c_52), (Or.inr ⟨(xI_ne (Y := 41) rfl rfl c_76), (Or.inr ⟨(xI_ne (Y := 42) rfl rfl c_100), (Or.inl ⟨c_102, ⟨y_103, ey_103, ⟨rfl, rfl⟩⟩⟩)⟩)⟩)⟩)⟩)⟩)⟩)⟩), wd_t ht hW⟩, hS.F ht⟩) hS.2.2 dX12_done_123
  by_cases c_104 : p0 = 44
  · refine lv_tableIn (tgt := 215) hx hb dX12_done_1 (by rw [c_104]; decide) (by rw [c_104]; decide) (off := 214) (by rw [c_104]; decide) (by decide) ?_
    have c_104 : p0.toInt = 44 := xI_eq rfl rfl c_104
    refine lv_iload_n hx hb dX12_done_215 rfl (lv_at hl 1 rfl) ?_
    refine lv_if_ne (tgt := 223) hx hb dX12_done_216 rfl (fun c_105 => ?_) (fun c_105 => ?_)
    · have c_105 : p1.toInt ≠ 0 := xI_ne rfl rfl c_105
      refine ic_1 hx hb dX12_done_223 ?_
      refine lv_goto (tgt := 228) hx hb dX12_done_224 rfl ?_
      have qc_106 : (1 : Int32).toInt = 1 := rfl
      refine S_calli (va_runS (As := [.int 1]) (rest := []) ⟨hx, hb, hml, hown, hts⟩ (n_truth l D k A a z G 1 ⟨by decide, by decide⟩) (va_cwS 1 hts (gd_S hgd m1788 m1789 m131 m1790) rfl rfl rfl hd_X12_truth.2 ⟨Nat.le_of_ble_eq_true rfl, Nat.le_of_ble_eq_true rfl⟩) (pre_S hW hB_G hK hZ hS) rfl rfl hl.1 rfl (lv_room (Nat.le_of_ble_eq_true rfl)) dX12_done_228 ⟨Nat.le_of_ble_eq_true rfl, Nat.le_of_ble_eq_true rfl⟩) hS (fun r_107 G_108 H locs hpo hW hS => ?_)
      have hX_111 : Q_truth 1 G r_107 G_108 := hpo
      obtain ⟨hB_G_108, hq_109, f_112, hp_110, -⟩ := hpo
      have hF := hF.call9 hq_109 rfl rfl
      exact W.iret (v := r_107) hx hb hr (fun t ht _ => ⟨⟨r_107, G_108, rfl, (Q_done_mk ⟨hB_G_108, hF, (Or.inr ⟨(xI_ne (Y := 37) rfl rfl c_1), (Or.inr ⟨(xI_ne (Y := 38) rfl rfl c_4), (Or.inr ⟨(xI_ne (Y := 39) rfl rfl c_28), (Or.inr ⟨(xI_ne (Y := 40) rfl rfl c_52), (Or.inr ⟨(xI_ne (Y := 41) rfl rfl c_76), (Or.inr ⟨(xI_ne (Y := 42) rfl rfl c_100), (Or.inr ⟨(xI_ne (Y := 43) rfl rfl c_102), (Or.inl ⟨c_104, (Or.inr ⟨c_105, ⟨r_107, G_108, hX_111, ⟨rfl, rfl⟩⟩⟩)⟩)⟩)⟩)⟩)⟩)⟩)⟩)⟩)⟩), wd_t ht hW⟩, hS.F ht⟩) hS.2.2 dX12_done_231
    · have c_105 : p1.toInt = 0 := xI_eq rfl rfl c_105
      refine lv_iload_n hx hb dX12_done_219 rfl (lv_at hl 2 rfl) ?_
      refine lv_if_eq (tgt := 227) hx hb dX12_done_220 rfl (fun c_113 => ?_) (fun c_113 => ?_)
      · have c_113 : p2.toInt = 0 := xI_eq rfl rfl c_113
        refine ic_0 hx hb dX12_done_227 ?_
        have qc_114 : (0 : Int32).toInt = 0 := rfl
        refine S_calli (va_runS (As := [.int 0]) (rest := []) ⟨hx, hb, hml, hown, hts⟩ (n_truth l D k A a z G 0 ⟨by decide, by decide⟩) (va_cwS 1 hts (gd_S hgd m1788 m1789 m131 m1790) rfl rfl rfl hd_X12_truth.2 ⟨Nat.le_of_ble_eq_true rfl, Nat.le_of_ble_eq_true rfl⟩) (pre_S hW hB_G hK hZ hS) rfl rfl hl.1 rfl (lv_room (Nat.le_of_ble_eq_true rfl)) dX12_done_228 ⟨Nat.le_of_ble_eq_true rfl, Nat.le_of_ble_eq_true rfl⟩) hS (fun r_115 G_116 H locs hpo hW hS => ?_)
        have hX_119 : Q_truth 0 G r_115 G_116 := hpo
        obtain ⟨hB_G_116, hq_117, f_120, hp_118, -⟩ := hpo
        have hF := hF.call9 hq_117 rfl rfl
        exact W.iret (v := r_115) hx hb hr (fun t ht _ => ⟨⟨r_115, G_116, rfl, (Q_done_mk ⟨hB_G_116, hF, (Or.inr ⟨(xI_ne (Y := 37) rfl rfl c_1), (Or.inr ⟨(xI_ne (Y := 38) rfl rfl c_4), (Or.inr ⟨(xI_ne (Y := 39) rfl rfl c_28), (Or.inr ⟨(xI_ne (Y := 40) rfl rfl c_52), (Or.inr ⟨(xI_ne (Y := 41) rfl rfl c_76), (Or.inr ⟨(xI_ne (Y := 42) rfl rfl c_100), (Or.inr ⟨(xI_ne (Y := 43) rfl rfl c_102), (Or.inl ⟨c_104, (Or.inl ⟨c_105, (Or.inl ⟨c_113, ⟨r_115, G_116, hX_119, ⟨rfl, rfl⟩⟩⟩)⟩)⟩)⟩)⟩)⟩)⟩)⟩)⟩)⟩)⟩), wd_t ht hW⟩, hS.F ht⟩) hS.2.2 dX12_done_231
      · have c_113 : p2.toInt ≠ 0 := xI_ne rfl rfl c_113
        refine ic_1 hx hb dX12_done_223 ?_
        refine lv_goto (tgt := 228) hx hb dX12_done_224 rfl ?_
        have qc_121 : (1 : Int32).toInt = 1 := rfl
        refine S_calli (va_runS (As := [.int 1]) (rest := []) ⟨hx, hb, hml, hown, hts⟩ (n_truth l D k A a z G 1 ⟨by decide, by decide⟩) (va_cwS 1 hts (gd_S hgd m1788 m1789 m131 m1790) rfl rfl rfl hd_X12_truth.2 ⟨Nat.le_of_ble_eq_true rfl, Nat.le_of_ble_eq_true rfl⟩) (pre_S hW hB_G hK hZ hS) rfl rfl hl.1 rfl (lv_room (Nat.le_of_ble_eq_true rfl)) dX12_done_228 ⟨Nat.le_of_ble_eq_true rfl, Nat.le_of_ble_eq_true rfl⟩) hS (fun r_122 G_123 H locs hpo hW hS => ?_)
        have hX_126 : Q_truth 1 G r_122 G_123 := hpo
        obtain ⟨hB_G_123, hq_124, f_127, hp_125, -⟩ := hpo
        have hF := hF.call9 hq_124 rfl rfl
        exact W.iret (v := r_122) hx hb hr (fun t ht _ => ⟨⟨r_122, G_123, rfl, (Q_done_mk ⟨hB_G_123, hF, (Or.inr ⟨(xI_ne (Y := 37) rfl rfl c_1), (Or.inr ⟨(xI_ne (Y := 38) rfl rfl c_4), (Or.inr ⟨(xI_ne (Y := 39) rfl rfl c_28), (Or.inr ⟨(xI_ne (Y := 40) rfl rfl c_52), (Or.inr ⟨(xI_ne (Y := 41) rfl rfl c_76), (Or.inr ⟨(xI_ne (Y := 42) rfl rfl c_100), (Or.inr ⟨(xI_ne (Y := 43) rfl rfl c_102), (Or.inl ⟨c_104, (Or.inl ⟨c_105, (Or.inr ⟨c_113, ⟨r_122, G_123, hX_126, ⟨rfl, rfl⟩⟩⟩)⟩)⟩)⟩)⟩)⟩)⟩)⟩)⟩)⟩)⟩), wd_t ht hW⟩, hS.F ht⟩) hS.2.2 dX12_done_231
  by_cases c_128 : p0 = 45
  · refine lv_tableIn (tgt := 124) hx hb dX12_done_1 (by rw [c_128]; decide) (by rw [c_128]; decide) (off := 123) (by rw [c_128]; decide) (by decide) ?_
    have c_128 : p0.toInt = 45 := xI_eq rfl rfl c_128
    refine lv_iload_n hx hb dX12_done_124 rfl (lv_at hl 1 rfl) ?_
    refine lv_iload_n hx hb dX12_done_125 rfl (lv_at hl 2 rfl) ?_
    refine lv_isub hx hb dX12_done_126 ?_
    refine lv_topi (fun y_129 ey_129 => ?_)
    exact W.iret (v := y_129) hx hb hr (fun t ht _ => ⟨⟨y_129, G, rfl, (Q_done_mk ⟨hB_G, hF, (Or.inr ⟨(xI_ne (Y := 37) rfl rfl c_1), (Or.inr ⟨(xI_ne (Y := 38) rfl rfl c_4), (Or.inr ⟨(xI_ne (Y := 39) rfl rfl c_28), (Or.inr ⟨(xI_ne (Y := 40) rfl rfl c_52), (Or.inr ⟨(xI_ne (Y := 41) rfl rfl c_76), (Or.inr ⟨(xI_ne (Y := 42) rfl rfl c_100), (Or.inr ⟨(xI_ne (Y := 43) rfl rfl c_102), (Or.inr ⟨(xI_ne (Y := 44) rfl rfl c_104), (Or.inl ⟨c_128, ⟨y_129, ey_129, ⟨rfl, rfl⟩⟩⟩)⟩)⟩)⟩)⟩)⟩)⟩)⟩)⟩)⟩), wd_t ht hW⟩, hS.F ht⟩) hS.2.2 dX12_done_127
  by_cases c_130 : p0 = 46
  · refine lv_tableIn (tgt := 215) hx hb dX12_done_1 (by rw [c_130]; decide) (by rw [c_130]; decide) (off := 214) (by rw [c_130]; decide) (by decide) ?_
    have c_130 : p0.toInt = 46 := xI_eq rfl rfl c_130
    refine lv_iload_n hx hb dX12_done_215 rfl (lv_at hl 1 rfl) ?_
    refine lv_if_ne (tgt := 223) hx hb dX12_done_216 rfl (fun c_131 => ?_) (fun c_131 => ?_)
    · have c_131 : p1.toInt ≠ 0 := xI_ne rfl rfl c_131
      refine ic_1 hx hb dX12_done_223 ?_
      refine lv_goto (tgt := 228) hx hb dX12_done_224 rfl ?_
      have qc_132 : (1 : Int32).toInt = 1 := rfl
      refine S_calli (va_runS (As := [.int 1]) (rest := []) ⟨hx, hb, hml, hown, hts⟩ (n_truth l D k A a z G 1 ⟨by decide, by decide⟩) (va_cwS 1 hts (gd_S hgd m1788 m1789 m131 m1790) rfl rfl rfl hd_X12_truth.2 ⟨Nat.le_of_ble_eq_true rfl, Nat.le_of_ble_eq_true rfl⟩) (pre_S hW hB_G hK hZ hS) rfl rfl hl.1 rfl (lv_room (Nat.le_of_ble_eq_true rfl)) dX12_done_228 ⟨Nat.le_of_ble_eq_true rfl, Nat.le_of_ble_eq_true rfl⟩) hS (fun r_133 G_134 H locs hpo hW hS => ?_)
      have hX_137 : Q_truth 1 G r_133 G_134 := hpo
      obtain ⟨hB_G_134, hq_135, f_138, hp_136, -⟩ := hpo
      have hF := hF.call9 hq_135 rfl rfl
      exact W.iret (v := r_133) hx hb hr (fun t ht _ => ⟨⟨r_133, G_134, rfl, (Q_done_mk ⟨hB_G_134, hF, (Or.inr ⟨(xI_ne (Y := 37) rfl rfl c_1), (Or.inr ⟨(xI_ne (Y := 38) rfl rfl c_4), (Or.inr ⟨(xI_ne (Y := 39) rfl rfl c_28), (Or.inr ⟨(xI_ne (Y := 40) rfl rfl c_52), (Or.inr ⟨(xI_ne (Y := 41) rfl rfl c_76), (Or.inr ⟨(xI_ne (Y := 42) rfl rfl c_100), (Or.inr ⟨(xI_ne (Y := 43) rfl rfl c_102), (Or.inr ⟨(xI_ne (Y := 44) rfl rfl c_104), (Or.inr ⟨(xI_ne (Y := 45) rfl rfl c_128), (Or.inl ⟨c_130, (Or.inr ⟨c_131, ⟨r_133, G_134, hX_137, ⟨rfl, rfl⟩⟩⟩)⟩)⟩)⟩)⟩)⟩)⟩)⟩)⟩)⟩)⟩)⟩), wd_t ht hW⟩, hS.F ht⟩) hS.2.2 dX12_done_231
    · have c_131 : p1.toInt = 0 := xI_eq rfl rfl c_131
      refine lv_iload_n hx hb dX12_done_219 rfl (lv_at hl 2 rfl) ?_
      refine lv_if_eq (tgt := 227) hx hb dX12_done_220 rfl (fun c_139 => ?_) (fun c_139 => ?_)
      · have c_139 : p2.toInt = 0 := xI_eq rfl rfl c_139
        refine ic_0 hx hb dX12_done_227 ?_
        have qc_140 : (0 : Int32).toInt = 0 := rfl
        refine S_calli (va_runS (As := [.int 0]) (rest := []) ⟨hx, hb, hml, hown, hts⟩ (n_truth l D k A a z G 0 ⟨by decide, by decide⟩) (va_cwS 1 hts (gd_S hgd m1788 m1789 m131 m1790) rfl rfl rfl hd_X12_truth.2 ⟨Nat.le_of_ble_eq_true rfl, Nat.le_of_ble_eq_true rfl⟩) (pre_S hW hB_G hK hZ hS) rfl rfl hl.1 rfl (lv_room (Nat.le_of_ble_eq_true rfl)) dX12_done_228 ⟨Nat.le_of_ble_eq_true rfl, Nat.le_of_ble_eq_true rfl⟩) hS (fun r_141 G_142 H locs hpo hW hS => ?_)
        have hX_145 : Q_truth 0 G r_141 G_142 := hpo
        obtain ⟨hB_G_142, hq_143, f_146, hp_144, -⟩ := hpo
        have hF := hF.call9 hq_143 rfl rfl
        exact W.iret (v := r_141) hx hb hr (fun t ht _ => ⟨⟨r_141, G_142, rfl, (Q_done_mk ⟨hB_G_142, hF, (Or.inr ⟨(xI_ne (Y := 37) rfl rfl c_1), (Or.inr ⟨(xI_ne (Y := 38) rfl rfl c_4), (Or.inr ⟨(xI_ne (Y := 39) rfl rfl c_28), (Or.inr ⟨(xI_ne (Y := 40) rfl rfl c_52), (Or.inr ⟨(xI_ne (Y := 41) rfl rfl c_76), (Or.inr ⟨(xI_ne (Y := 42) rfl rfl c_100), (Or.inr ⟨(xI_ne (Y := 43) rfl rfl c_102), (Or.inr ⟨(xI_ne (Y := 44) rfl rfl c_104), (Or.inr ⟨(xI_ne (Y := 45) rfl rfl c_128), (Or.inl ⟨c_130, (Or.inl ⟨c_131, (Or.inl ⟨c_139, ⟨r_141, G_142, hX_145, ⟨rfl, rfl⟩⟩⟩)⟩)⟩)⟩)⟩)⟩)⟩)⟩)⟩)⟩)⟩)⟩)⟩), wd_t ht hW⟩, hS.F ht⟩) hS.2.2 dX12_done_231
      · have c_139 : p2.toInt ≠ 0 := xI_ne rfl rfl c_139
        refine ic_1 hx hb dX12_done_223 ?_
        refine lv_goto (tgt := 228) hx hb dX12_done_224 rfl ?_
        have qc_147 : (1 : Int32).toInt = 1 := rfl
        refine S_calli (va_runS (As := [.int 1]) (rest := []) ⟨hx, hb, hml, hown, hts⟩ (n_truth l D k A a z G 1 ⟨by decide, by decide⟩) (va_cwS 1 hts (gd_S hgd m1788 m1789 m131 m1790) rfl rfl rfl hd_X12_truth.2 ⟨Nat.le_of_ble_eq_true rfl, Nat.le_of_ble_eq_true rfl⟩) (pre_S hW hB_G hK hZ hS) rfl rfl hl.1 rfl (lv_room (Nat.le_of_ble_eq_true rfl)) dX12_done_228 ⟨Nat.le_of_ble_eq_true rfl, Nat.le_of_ble_eq_true rfl⟩) hS (fun r_148 G_149 H locs hpo hW hS => ?_)
        have hX_152 : Q_truth 1 G r_148 G_149 := hpo
        obtain ⟨hB_G_149, hq_150, f_153, hp_151, -⟩ := hpo
        have hF := hF.call9 hq_150 rfl rfl
        exact W.iret (v := r_148) hx hb hr (fun t ht _ => ⟨⟨r_148, G_149, rfl, (Q_done_mk ⟨hB_G_149, hF, (Or.inr ⟨(xI_ne (Y := 37) rfl rfl c_1), (Or.inr ⟨(xI_ne (Y := 38) rfl rfl c_4), (Or.inr ⟨(xI_ne (Y := 39) rfl rfl c_28), (Or.inr ⟨(xI_ne (Y := 40) rfl rfl c_52), (Or.inr ⟨(xI_ne (Y := 41) rfl rfl c_76), (Or.inr ⟨(xI_ne (Y := 42) rfl rfl c_100), (Or.inr ⟨(xI_ne (Y := 43) rfl rfl c_102), (Or.inr ⟨(xI_ne (Y := 44) rfl rfl c_104), (Or.inr ⟨(xI_ne (Y := 45) rfl rfl c_128), (Or.inl ⟨c_130, (Or.inl ⟨c_131, (Or.inr ⟨c_139, ⟨r_148, G_149, hX_152, ⟨rfl, rfl⟩⟩⟩)⟩)⟩)⟩)⟩)⟩)⟩)⟩)⟩)⟩)⟩)⟩)⟩), wd_t ht hW⟩, hS.F ht⟩) hS.2.2 dX12_done_231
  by_cases c_154 : p0 = 47
  · refine lv_tableIn (tgt := 132) hx hb dX12_done_1 (by rw [c_154]; decide) (by rw [c_154]; decide) (off := 131) (by rw [c_154]; decide) (by decide) ?_
    have c_154 : p0.toInt = 47 := xI_eq rfl rfl c_154
    refine lv_iload_n hx hb dX12_done_132 rfl (lv_at hl 2 rfl) ?_
    refine lv_if_ne (tgt := 140) hx hb dX12_done_133 rfl (fun c_155 => ?_) (fun c_155 => ?_)
    · have c_155 : p2.toInt ≠ 0 := xI_ne rfl rfl c_155
      refine lv_iload_n hx hb dX12_done_140 rfl (lv_at hl 1 rfl) ?_
      refine lv_iload_n hx hb dX12_done_141 rfl (lv_at hl 2 rfl) ?_
      refine lv_idiv hx hb dX12_done_142 (fun q => by have q := xI_eq (Y := 0) rfl rfl q; omega) ?_
      refine lv_topi (fun y_156 ey_156 => ?_)
      exact W.iret (v := y_156) hx hb hr (fun t ht _ => ⟨⟨y_156, G, rfl, (Q_done_mk ⟨hB_G, hF, (Or.inr ⟨(xI_ne (Y := 37) rfl rfl c_1), (Or.inr ⟨(xI_ne (Y := 38) rfl rfl c_4), (Or.inr ⟨(xI_ne (Y := 39) rfl rfl c_28), (Or.inr ⟨(xI_ne (Y := 40) rfl rfl c_52), (Or.inr ⟨(xI_ne (Y := 41) rfl rfl c_76), (Or.inr ⟨(xI_ne (Y := 42) rfl rfl c_100), (Or.inr ⟨(xI_ne (Y := 43) rfl rfl c_102), (Or.inr ⟨(xI_ne (Y := 44) rfl rfl c_104), (Or.inr ⟨(xI_ne (Y := 45) rfl rfl c_128), (Or.inr ⟨(xI_ne (Y := 46) rfl rfl c_130), (Or.inl ⟨c_154, (Or.inr ⟨c_155, ⟨y_156, ey_156, ⟨rfl, rfl⟩⟩⟩)⟩)⟩)⟩)⟩)⟩)⟩)⟩)⟩)⟩)⟩)⟩)⟩), wd_t ht hW⟩, hS.F ht⟩) hS.2.2 dX12_done_143
    · have c_155 : p2.toInt = 0 := xI_eq rfl rfl c_155
      refine ic_0 hx hb dX12_done_136 ?_
      refine lv_goto (tgt := 143) hx hb dX12_done_137 rfl ?_
      exact W.iret (v := 0) hx hb hr (fun t ht _ => ⟨⟨0, G, rfl, (Q_done_mk ⟨hB_G, hF, (Or.inr ⟨(xI_ne (Y := 37) rfl rfl c_1), (Or.inr ⟨(xI_ne (Y := 38) rfl rfl c_4), (Or.inr ⟨(xI_ne (Y := 39) rfl rfl c_28), (Or.inr ⟨(xI_ne (Y := 40) rfl rfl c_52), (Or.inr ⟨(xI_ne (Y := 41) rfl rfl c_76), (Or.inr ⟨(xI_ne (Y := 42) rfl rfl c_100), (Or.inr ⟨(xI_ne (Y := 43) rfl rfl c_102), (Or.inr ⟨(xI_ne (Y := 44) rfl rfl c_104), (Or.inr ⟨(xI_ne (Y := 45) rfl rfl c_128), (Or.inr ⟨(xI_ne (Y := 46) rfl rfl c_130), (Or.inl ⟨c_154, (Or.inl ⟨c_155, ⟨rfl, rfl⟩⟩)⟩)⟩)⟩)⟩)⟩)⟩)⟩)⟩)⟩)⟩)⟩)⟩), wd_t ht hW⟩, hS.F ht⟩) hS.2.2 dX12_done_143
  by_cases c_157 : p0 = 48
  · refine lv_tableIn (tgt := 215) hx hb dX12_done_1 (by rw [c_157]; decide) (by rw [c_157]; decide) (off := 214) (by rw [c_157]; decide) (by decide) ?_
    have c_157 : p0.toInt = 48 := xI_eq rfl rfl c_157
    refine lv_iload_n hx hb dX12_done_215 rfl (lv_at hl 1 rfl) ?_
    refine lv_if_ne (tgt := 223) hx hb dX12_done_216 rfl (fun c_158 => ?_) (fun c_158 => ?_)
    · have c_158 : p1.toInt ≠ 0 := xI_ne rfl rfl c_158
      refine ic_1 hx hb dX12_done_223 ?_
      refine lv_goto (tgt := 228) hx hb dX12_done_224 rfl ?_
      have qc_159 : (1 : Int32).toInt = 1 := rfl
      refine S_calli (va_runS (As := [.int 1]) (rest := []) ⟨hx, hb, hml, hown, hts⟩ (n_truth l D k A a z G 1 ⟨by decide, by decide⟩) (va_cwS 1 hts (gd_S hgd m1788 m1789 m131 m1790) rfl rfl rfl hd_X12_truth.2 ⟨Nat.le_of_ble_eq_true rfl, Nat.le_of_ble_eq_true rfl⟩) (pre_S hW hB_G hK hZ hS) rfl rfl hl.1 rfl (lv_room (Nat.le_of_ble_eq_true rfl)) dX12_done_228 ⟨Nat.le_of_ble_eq_true rfl, Nat.le_of_ble_eq_true rfl⟩) hS (fun r_160 G_161 H locs hpo hW hS => ?_)
      have hX_164 : Q_truth 1 G r_160 G_161 := hpo
      obtain ⟨hB_G_161, hq_162, f_165, hp_163, -⟩ := hpo
      have hF := hF.call9 hq_162 rfl rfl
      exact W.iret (v := r_160) hx hb hr (fun t ht _ => ⟨⟨r_160, G_161, rfl, (Q_done_mk ⟨hB_G_161, hF, (Or.inr ⟨(xI_ne (Y := 37) rfl rfl c_1), (Or.inr ⟨(xI_ne (Y := 38) rfl rfl c_4), (Or.inr ⟨(xI_ne (Y := 39) rfl rfl c_28), (Or.inr ⟨(xI_ne (Y := 40) rfl rfl c_52), (Or.inr ⟨(xI_ne (Y := 41) rfl rfl c_76), (Or.inr ⟨(xI_ne (Y := 42) rfl rfl c_100), (Or.inr ⟨(xI_ne (Y := 43) rfl rfl c_102), (Or.inr ⟨(xI_ne (Y := 44) rfl rfl c_104), (Or.inr ⟨(xI_ne (Y := 45) rfl rfl c_128), (Or.inr ⟨(xI_ne (Y := 46) rfl rfl c_130), (Or.inr ⟨(xI_ne (Y := 47) rfl rfl c_154), (Or.inl ⟨c_157, (Or.inr ⟨c_158, ⟨r_160, G_161, hX_164, ⟨rfl, rfl⟩⟩⟩)⟩)⟩)⟩)⟩)⟩)⟩)⟩)⟩)⟩)⟩)⟩)⟩)⟩), wd_t ht hW⟩, hS.F ht⟩) hS.2.2 dX12_done_231
    · have c_158 : p1.toInt = 0 := xI_eq rfl rfl c_158
      refine lv_iload_n hx hb dX12_done_219 rfl (lv_at hl 2 rfl) ?_
      refine lv_if_eq (tgt := 227) hx hb dX12_done_220 rfl (fun c_166 => ?_) (fun c_166 => ?_)
      · have c_166 : p2.toInt = 0 := xI_eq rfl rfl c_166
        refine ic_0 hx hb dX12_done_227 ?_
        have qc_167 : (0 : Int32).toInt = 0 := rfl
        refine S_calli (va_runS (As := [.int 0]) (rest := []) ⟨hx, hb, hml, hown, hts⟩ (n_truth l D k A a z G 0 ⟨by decide, by decide⟩) (va_cwS 1 hts (gd_S hgd m1788 m1789 m131 m1790) rfl rfl rfl hd_X12_truth.2 ⟨Nat.le_of_ble_eq_true rfl, Nat.le_of_ble_eq_true rfl⟩) (pre_S hW hB_G hK hZ hS) rfl rfl hl.1 rfl (lv_room (Nat.le_of_ble_eq_true rfl)) dX12_done_228 ⟨Nat.le_of_ble_eq_true rfl, Nat.le_of_ble_eq_true rfl⟩) hS (fun r_168 G_169 H locs hpo hW hS => ?_)
        have hX_172 : Q_truth 0 G r_168 G_169 := hpo
        obtain ⟨hB_G_169, hq_170, f_173, hp_171, -⟩ := hpo
        have hF := hF.call9 hq_170 rfl rfl
        exact W.iret (v := r_168) hx hb hr (fun t ht _ => ⟨⟨r_168, G_169, rfl, (Q_done_mk ⟨hB_G_169, hF, (Or.inr ⟨(xI_ne (Y := 37) rfl rfl c_1), (Or.inr ⟨(xI_ne (Y := 38) rfl rfl c_4), (Or.inr ⟨(xI_ne (Y := 39) rfl rfl c_28), (Or.inr ⟨(xI_ne (Y := 40) rfl rfl c_52), (Or.inr ⟨(xI_ne (Y := 41) rfl rfl c_76), (Or.inr ⟨(xI_ne (Y := 42) rfl rfl c_100), (Or.inr ⟨(xI_ne (Y := 43) rfl rfl c_102), (Or.inr ⟨(xI_ne (Y := 44) rfl rfl c_104), (Or.inr ⟨(xI_ne (Y := 45) rfl rfl c_128), (Or.inr ⟨(xI_ne (Y := 46) rfl rfl c_130), (Or.inr ⟨(xI_ne (Y := 47) rfl rfl c_154), (Or.inl ⟨c_157, (Or.inl ⟨c_158, (Or.inl ⟨c_166, ⟨r_168, G_169, hX_172, ⟨rfl, rfl⟩⟩⟩)⟩)⟩)⟩)⟩)⟩)⟩)⟩)⟩)⟩)⟩)⟩)⟩)⟩)⟩), wd_t ht hW⟩, hS.F ht⟩) hS.2.2 dX12_done_231
      · have c_166 : p2.toInt ≠ 0 := xI_ne rfl rfl c_166
        refine ic_1 hx hb dX12_done_223 ?_
        refine lv_goto (tgt := 228) hx hb dX12_done_224 rfl ?_
        have qc_174 : (1 : Int32).toInt = 1 := rfl
        refine S_calli (va_runS (As := [.int 1]) (rest := []) ⟨hx, hb, hml, hown, hts⟩ (n_truth l D k A a z G 1 ⟨by decide, by decide⟩) (va_cwS 1 hts (gd_S hgd m1788 m1789 m131 m1790) rfl rfl rfl hd_X12_truth.2 ⟨Nat.le_of_ble_eq_true rfl, Nat.le_of_ble_eq_true rfl⟩) (pre_S hW hB_G hK hZ hS) rfl rfl hl.1 rfl (lv_room (Nat.le_of_ble_eq_true rfl)) dX12_done_228 ⟨Nat.le_of_ble_eq_true rfl, Nat.le_of_ble_eq_true rfl⟩) hS (fun r_175 G_176 H locs hpo hW hS => ?_)
        have hX_179 : Q_truth 1 G r_175 G_176 := hpo
        obtain ⟨hB_G_176, hq_177, f_180, hp_178, -⟩ := hpo
        have hF := hF.call9 hq_177 rfl rfl
        exact W.iret (v := r_175) hx hb hr (fun t ht _ => ⟨⟨r_175, G_176, rfl, (Q_done_mk ⟨hB_G_176, hF, (Or.inr ⟨(xI_ne (Y := 37) rfl rfl c_1), (Or.inr ⟨(xI_ne (Y := 38) rfl rfl c_4), (Or.inr ⟨(xI_ne (Y := 39) rfl rfl c_28), (Or.inr ⟨(xI_ne (Y := 40) rfl rfl c_52), (Or.inr ⟨(xI_ne (Y := 41) rfl rfl c_76), (Or.inr ⟨(xI_ne (Y := 42) rfl rfl c_100), (Or.inr ⟨(xI_ne (Y := 43) rfl rfl c_102), (Or.inr ⟨(xI_ne (Y := 44) rfl rfl c_104), (Or.inr ⟨(xI_ne (Y := 45) rfl rfl c_128), (Or.inr ⟨(xI_ne (Y := 46) rfl rfl c_130), (Or.inr ⟨(xI_ne (Y := 47) rfl rfl c_154), (Or.inl ⟨c_157, (Or.inl ⟨c_158, (Or.inr ⟨c_166, ⟨r_175, G_176, hX_179, ⟨rfl, rfl⟩⟩⟩)⟩)⟩)⟩)⟩)⟩)⟩)⟩)⟩)⟩)⟩)⟩)⟩)⟩)⟩), wd_t ht hW⟩, hS.F ht⟩) hS.2.2 dX12_done_231
  by_cases c_181 : p0 = 49
  · refine lv_tableIn (tgt := 215) hx hb dX12_done_1 (by rw [c_181]; decide) (by rw [c_181]; decide) (off := 214) (by rw [c_181]; decide) (by decide) ?_
    have c_181 : p0.toInt = 49 := xI_eq rfl rfl c_181
    refine lv_iload_n hx hb dX12_done_215 rfl (lv_at hl 1 rfl) ?_
    refine lv_if_ne (tgt := 223) hx hb dX12_done_216 rfl (fun c_182 => ?_) (fun c_182 => ?_)
    · have c_182 : p1.toInt ≠ 0 := xI_ne rfl rfl c_182
      refine ic_1 hx hb dX12_done_223 ?_
      refine lv_goto (tgt := 228) hx hb dX12_done_224 rfl ?_
      have qc_183 : (1 : Int32).toInt = 1 := rfl
      refine S_calli (va_runS (As := [.int 1]) (rest := []) ⟨hx, hb, hml, hown, hts⟩ (n_truth l D k A a z G 1 ⟨by decide, by decide⟩) (va_cwS 1 hts (gd_S hgd m1788 m1789 m131 m1790) rfl rfl rfl hd_X12_truth.2 ⟨Nat.le_of_ble_eq_true rfl, Nat.le_of_ble_eq_true rfl⟩) (pre_S hW hB_G hK hZ hS) rfl rfl hl.1 rfl (lv_room (Nat.le_of_ble_eq_true rfl)) dX12_done_228 ⟨Nat.le_of_ble_eq_true rfl, Nat.le_of_ble_eq_true rfl⟩) hS (fun r_184 G_185 H locs hpo hW hS => ?_)
      have hX_188 : Q_truth 1 G r_184 G_185 := hpo
      obtain ⟨hB_G_185, hq_186, f_189, hp_187, -⟩ := hpo
      have hF := hF.call9 hq_186 rfl rfl
      exact W.iret (v := r_184) hx hb hr (fun t ht _ => ⟨⟨r_184, G_185, rfl, (Q_done_mk ⟨hB_G_185, hF, (Or.inr ⟨(xI_ne (Y := 37) rfl rfl c_1), (Or.inr ⟨(xI_ne (Y := 38) rfl rfl c_4), (Or.inr ⟨(xI_ne (Y := 39) rfl rfl c_28), (Or.inr ⟨(xI_ne (Y := 40) rfl rfl c_52), (Or.inr ⟨(xI_ne (Y := 41) rfl rfl c_76), (Or.inr ⟨(xI_ne (Y := 42) rfl rfl c_100), (Or.inr ⟨(xI_ne (Y := 43) rfl rfl c_102), (Or.inr ⟨(xI_ne (Y := 44) rfl rfl c_104), (Or.inr ⟨(xI_ne (Y := 45) rfl rfl c_128), (Or.inr ⟨(xI_ne (Y := 46) rfl rfl c_130), (Or.inr ⟨(xI_ne (Y := 47) rfl rfl c_154), (Or.inr ⟨(xI_ne (Y := 48) rfl rfl c_157), (Or.inl ⟨c_181, (Or.inr ⟨c_182, ⟨r_184, G_185, hX_188, ⟨rfl, rfl⟩⟩⟩)⟩)⟩)⟩)⟩)⟩)⟩)⟩)⟩)⟩)⟩)⟩)⟩)⟩)⟩), wd_t ht hW⟩, hS.F ht⟩) hS.2.2 dX12_done_231
    · have c_182 : p1.toInt = 0 := xI_eq rfl rfl c_182
      refine lv_iload_n hx hb dX12_done_219 rfl (lv_at hl 2 rfl) ?_
      refine lv_if_eq (tgt := 227) hx hb dX12_done_220 rfl (fun c_190 => ?_) (fun c_190 => ?_)
      · have c_190 : p2.toInt = 0 := xI_eq rfl rfl c_190
        refine ic_0 hx hb dX12_done_227 ?_
        have qc_191 : (0 : Int32).toInt = 0 := rfl
        refine S_calli (va_runS (As := [.int 0]) (rest := []) ⟨hx, hb, hml, hown, hts⟩ (n_truth l D k A a z G 0 ⟨by decide, by decide⟩) (va_cwS 1 hts (gd_S hgd m1788 m1789 m131 m1790) rfl rfl rfl hd_X12_truth.2 ⟨Nat.le_of_ble_eq_true rfl, Nat.le_of_ble_eq_true rfl⟩) (pre_S hW hB_G hK hZ hS) rfl rfl hl.1 rfl (lv_room (Nat.le_of_ble_eq_true rfl)) dX12_done_228 ⟨Nat.le_of_ble_eq_true rfl, Nat.le_of_ble_eq_true rfl⟩) hS (fun r_192 G_193 H locs hpo hW hS => ?_)
        have hX_196 : Q_truth 0 G r_192 G_193 := hpo
        obtain ⟨hB_G_193, hq_194, f_197, hp_195, -⟩ := hpo
        have hF := hF.call9 hq_194 rfl rfl
        exact W.iret (v := r_192) hx hb hr (fun t ht _ => ⟨⟨r_192, G_193, rfl, (Q_done_mk ⟨hB_G_193, hF, (Or.inr ⟨(xI_ne (Y := 37) rfl rfl c_1), (Or.inr ⟨(xI_ne (Y := 38) rfl rfl c_4), (Or.inr ⟨(xI_ne (Y := 39) rfl rfl c_28), (Or.inr ⟨(xI_ne (Y := 40) rfl rfl c_52), (Or.inr ⟨(xI_ne (Y := 41) rfl rfl c_76), (Or.inr ⟨(xI_ne (Y := 42) rfl rfl c_100), (Or.inr ⟨(xI_ne (Y := 43) rfl rfl c_102), (Or.inr ⟨(xI_ne (Y := 44) rfl rfl c_104), (Or.inr ⟨(xI_ne (Y := 45) rfl rfl c_128), (Or.inr ⟨(xI_ne (Y := 46) rfl rfl c_130), (Or.inr ⟨(xI_ne (Y := 47) rfl rfl c_154), (Or.inr ⟨(xI_ne (Y := 48) rfl rfl c_157), (Or.inl ⟨c_181, (Or.inl ⟨c_182, (Or.inl ⟨c_190, ⟨r_192, G_193, hX_196, ⟨rfl, rfl⟩⟩⟩)⟩)⟩)⟩)⟩)⟩)⟩)⟩)⟩)⟩)⟩)⟩)⟩)⟩)⟩)⟩), wd_t ht hW⟩, hS.F ht⟩) hS.2.2 dX12_done_231
      · have c_190 : p2.toInt ≠ 0 := xI_ne rfl rfl c_190
        refine ic_1 hx hb dX12_done_223 ?_
        refine lv_goto (tgt := 228) hx hb dX12_done_224 rfl ?_
        have qc_198 : (1 : Int32).toInt = 1 := rfl
        refine S_calli (va_runS (As := [.int 1]) (rest := []) ⟨hx, hb, hml, hown, hts⟩ (n_truth l D k A a z G 1 ⟨by decide, by decide⟩) (va_cwS 1 hts (gd_S hgd m1788 m1789 m131 m1790) rfl rfl rfl hd_X12_truth.2 ⟨Nat.le_of_ble_eq_true rfl, Nat.le_of_ble_eq_true rfl⟩) (pre_S hW hB_G hK hZ hS) rfl rfl hl.1 rfl (lv_room (Nat.le_of_ble_eq_true rfl)) dX12_done_228 ⟨Nat.le_of_ble_eq_true rfl, Nat.le_of_ble_eq_true rfl⟩) hS (fun r_199 G_200 H locs hpo hW hS => ?_)
        have hX_203 : Q_truth 1 G r_199 G_200 := hpo
        obtain ⟨hB_G_200, hq_201, f_204, hp_202, -⟩ := hpo
        have hF := hF.call9 hq_201 rfl rfl
        exact W.iret (v := r_199) hx hb hr (fun t ht _ => ⟨⟨r_199, G_200, rfl, (Q_done_mk ⟨hB_G_200, hF, (Or.inr ⟨(xI_ne (Y := 37) rfl rfl c_1), (Or.inr ⟨(xI_ne (Y := 38) rfl rfl c_4), (Or.inr ⟨(xI_ne (Y := 39) rfl rfl c_28), (Or.inr ⟨(xI_ne (Y := 40) rfl rfl c_52), (Or.inr ⟨(xI_ne (Y := 41) rfl rfl c_76), (Or.inr ⟨(xI_ne (Y := 42) rfl rfl c_100), (Or.inr ⟨(xI_ne (Y := 43) rfl rfl c_102), (Or.inr ⟨(xI_ne (Y := 44) rfl rfl c_104), (Or.inr ⟨(xI_ne (Y := 45) rfl rfl c_128), (Or.inr ⟨(xI_ne (Y := 46) rfl rfl c_130), (Or.inr ⟨(xI_ne (Y := 47) rfl rfl c_154), (Or.inr ⟨(xI_ne (Y := 48) rfl rfl c_157), (Or.inl ⟨c_181, (Or.inl ⟨c_182, (Or.inr ⟨c_190, ⟨r_199, G_200, hX_203, ⟨rfl, rfl⟩⟩⟩)⟩)⟩)⟩)⟩)⟩)⟩)⟩)⟩)⟩)⟩)⟩)⟩)⟩)⟩)⟩), wd_t ht hW⟩, hS.F ht⟩) hS.2.2 dX12_done_231
  by_cases c_205 : p0 = 50
  · refine lv_tableIn (tgt := 215) hx hb dX12_done_1 (by rw [c_205]; decide) (by rw [c_205]; decide) (off := 214) (by rw [c_205]; decide) (by decide) ?_
    have c_205 : p0.toInt = 50 := xI_eq rfl rfl c_205
    refine lv_iload_n hx hb dX12_done_215 rfl (lv_at hl 1 rfl) ?_
    refine lv_if_ne (tgt := 223) hx hb dX12_done_216 rfl (fun c_206 => ?_) (fun c_206 => ?_)
    · have c_206 : p1.toInt ≠ 0 := xI_ne rfl rfl c_206
      refine ic_1 hx hb dX12_done_223 ?_
      refine lv_goto (tgt := 228) hx hb dX12_done_224 rfl ?_
      have qc_207 : (1 : Int32).toInt = 1 := rfl
      refine S_calli (va_runS (As := [.int 1]) (rest := []) ⟨hx, hb, hml, hown, hts⟩ (n_truth l D k A a z G 1 ⟨by decide, by decide⟩) (va_cwS 1 hts (gd_S hgd m1788 m1789 m131 m1790) rfl rfl rfl hd_X12_truth.2 ⟨Nat.le_of_ble_eq_true rfl, Nat.le_of_ble_eq_true rfl⟩) (pre_S hW hB_G hK hZ hS) rfl rfl hl.1 rfl (lv_room (Nat.le_of_ble_eq_true rfl)) dX12_done_228 ⟨Nat.le_of_ble_eq_true rfl, Nat.le_of_ble_eq_true rfl⟩) hS (fun r_208 G_209 H locs hpo hW hS => ?_)
      have hX_212 : Q_truth 1 G r_208 G_209 := hpo
      obtain ⟨hB_G_209, hq_210, f_213, hp_211, -⟩ := hpo
      have hF := hF.call9 hq_210 rfl rfl
      exact W.iret (v := r_208) hx hb hr (fun t ht _ => ⟨⟨r_208, G_209, rfl, (Q_done_mk ⟨hB_G_209, hF, (Or.inr ⟨(xI_ne (Y := 37) rfl rfl c_1), (Or.inr ⟨(xI_ne (Y := 38) rfl rfl c_4), (Or.inr ⟨(xI_ne (Y := 39) rfl rfl c_28), (Or.inr ⟨(xI_ne (Y := 40) rfl rfl c_52), (Or.inr ⟨(xI_ne (Y := 41) rfl rfl c_76), (Or.inr ⟨(xI_ne (Y := 42) rfl rfl c_100), (Or.inr ⟨(xI_ne (Y := 43) rfl rfl c_102), (Or.inr ⟨(xI_ne (Y := 44) rfl rfl c_104), (Or.inr ⟨(xI_ne (Y := 45) rfl rfl c_128), (Or.inr ⟨(xI_ne (Y := 46) rfl rfl c_130), (Or.inr ⟨(xI_ne (Y := 47) rfl rfl c_154), (Or.inr ⟨(xI_ne (Y := 48) rfl rfl c_157), (Or.inr ⟨(xI_ne (Y := 49) rfl rfl c_181), (Or.inl ⟨c_205, (Or.inr ⟨c_206, ⟨r_208, G_209, hX_212, ⟨rfl, rfl⟩⟩⟩)⟩)⟩)⟩)⟩)⟩)⟩)⟩)⟩)⟩)⟩)⟩)⟩)⟩)⟩)⟩), wd_t ht hW⟩, hS.F ht⟩) hS.2.2 dX12_done_231
    · have c_206 : p1.toInt = 0 := xI_eq rfl rfl c_206
      refine lv_iload_n hx hb dX12_done_219 rfl (lv_at hl 2 rfl) ?_
      refine lv_if_eq (tgt := 227) hx hb dX12_done_220 rfl (fun c_214 => ?_) (fun c_214 => ?_)
      · have c_214 : p2.toInt = 0 := xI_eq rfl rfl c_214
        refine ic_0 hx hb dX12_done_227 ?_
        have qc_215 : (0 : Int32).toInt = 0 := rfl
        refine S_calli (va_runS (As := [.int 0]) (rest := []) ⟨hx, hb, hml, hown, hts⟩ (n_truth l D k A a z G 0 ⟨by decide, by decide⟩) (va_cwS 1 hts (gd_S hgd m1788 m1789 m131 m1790) rfl rfl rfl hd_X12_truth.2 ⟨Nat.le_of_ble_eq_true rfl, Nat.le_of_ble_eq_true rfl⟩) (pre_S hW hB_G hK hZ hS) rfl rfl hl.1 rfl (lv_room (Nat.le_of_ble_eq_true rfl)) dX12_done_228 ⟨Nat.le_of_ble_eq_true rfl, Nat.le_of_ble_eq_true rfl⟩) hS (fun r_216 G_217 H locs hpo hW hS => ?_)
        have hX_220 : Q_truth 0 G r_216 G_217 := hpo
        obtain ⟨hB_G_217, hq_218, f_221, hp_219, -⟩ := hpo
        have hF := hF.call9 hq_218 rfl rfl
        exact W.iret (v := r_216) hx hb hr (fun t ht _ => ⟨⟨r_216, G_217, rfl, (Q_done_mk ⟨hB_G_217, hF, (Or.inr ⟨(xI_ne (Y := 37) rfl rfl c_1), (Or.inr ⟨(xI_ne (Y := 38) rfl rfl c_4), (Or.inr ⟨(xI_ne (Y := 39) rfl rfl c_28), (Or.inr ⟨(xI_ne (Y := 40) rfl rfl c_52), (Or.inr ⟨(xI_ne (Y := 41) rfl rfl c_76), (Or.inr ⟨(xI_ne (Y := 42) rfl rfl c_100), (Or.inr ⟨(xI_ne (Y := 43) rfl rfl c_102), (Or.inr ⟨(xI_ne (Y := 44) rfl rfl c_104), (Or.inr ⟨(xI_ne (Y := 45) rfl rfl c_128), (Or.inr ⟨(xI_ne (Y := 46) rfl rfl c_130), (Or.inr ⟨(xI_ne (Y := 47) rfl rfl c_154), (Or.inr ⟨(xI_ne (Y := 48) rfl rfl c_157), (Or.inr ⟨(xI_ne (Y := 49) rfl rfl c_181), (Or.inl ⟨c_205, (Or.inl ⟨c_206, (Or.inl ⟨c_214, ⟨r_216, G_217, hX_220, ⟨rfl, rfl⟩⟩⟩)⟩)⟩)⟩)⟩)⟩)⟩)⟩)⟩)⟩)⟩)⟩)⟩)⟩)⟩)⟩)⟩), wd_t ht hW⟩, hS.F ht⟩) hS.2.2 dX12_done_231
      · have c_214 : p2.toInt ≠ 0 := xI_ne rfl rfl c_214
        refine ic_1 hx hb dX12_done_223 ?_
        refine lv_goto (tgt := 228) hx hb dX12_done_224 rfl ?_
        have qc_222 : (1 : Int32).toInt = 1 := rfl
        refine S_calli (va_runS (As := [.int 1]) (rest := []) ⟨hx, hb, hml, hown, hts⟩ (n_truth l D k A a z G 1 ⟨by decide, by decide⟩) (va_cwS 1 hts (gd_S hgd m1788 m1789 m131 m1790) rfl rfl rfl hd_X12_truth.2 ⟨Nat.le_of_ble_eq_true rfl, Nat.le_of_ble_eq_true rfl⟩) (pre_S hW hB_G hK hZ hS) rfl rfl hl.1 rfl (lv_room (Nat.le_of_ble_eq_true rfl)) dX12_done_228 ⟨Nat.le_of_ble_eq_true rfl, Nat.le_of_ble_eq_true rfl⟩) hS (fun r_223 G_224 H locs hpo hW hS => ?_)
        have hX_227 : Q_truth 1 G r_223 G_224 := hpo
        obtain ⟨hB_G_224, hq_225, f_228, hp_226, -⟩ := hpo
        have hF := hF.call9 hq_225 rfl rfl
        exact W.iret (v := r_223) hx hb hr (fun t ht _ => ⟨⟨r_223, G_224, rfl, (Q_done_mk ⟨hB_G_224, hF, (Or.inr ⟨(xI_ne (Y := 37) rfl rfl c_1), (Or.inr ⟨(xI_ne (Y := 38) rfl rfl c_4), (Or.inr ⟨(xI_ne (Y := 39) rfl rfl c_28), (Or.inr ⟨(xI_ne (Y := 40) rfl rfl c_52), (Or.inr ⟨(xI_ne (Y := 41) rfl rfl c_76), (Or.inr ⟨(xI_ne (Y := 42) rfl rfl c_100), (Or.inr ⟨(xI_ne (Y := 43) rfl rfl c_102), (Or.inr ⟨(xI_ne (Y := 44) rfl rfl c_104), (Or.inr ⟨(xI_ne (Y := 45) rfl rfl c_128), (Or.inr ⟨(xI_ne (Y := 46) rfl rfl c_130), (Or.inr ⟨(xI_ne (Y := 47) rfl rfl c_154), (Or.inr ⟨(xI_ne (Y := 48) rfl rfl c_157), (Or.inr ⟨(xI_ne (Y := 49) rfl rfl c_181), (Or.inl ⟨c_205, (Or.inl ⟨c_206, (Or.inr ⟨c_214, ⟨r_223, G_224, hX_227, ⟨rfl, rfl⟩⟩⟩)⟩)⟩)⟩)⟩)⟩)⟩)⟩)⟩)⟩)⟩)⟩)⟩)⟩)⟩)⟩)⟩), wd_t ht hW⟩, hS.F ht⟩) hS.2.2 dX12_done_231
  by_cases c_229 : p0 = 51
  · refine lv_tableIn (tgt := 215) hx hb dX12_done_1 (by rw [c_229]; decide) (by rw [c_229]; decide) (off := 214) (by rw [c_229]; decide) (by decide) ?_
    have c_229 : p0.toInt = 51 := xI_eq rfl rfl c_229
    refine lv_iload_n hx hb dX12_done_215 rfl (lv_at hl 1 rfl) ?_
    refine lv_if_ne (tgt := 223) hx hb dX12_done_216 rfl (fun c_230 => ?_) (fun c_230 => ?_)
    · have c_230 : p1.toInt ≠ 0 := xI_ne rfl rfl c_230
      refine ic_1 hx hb dX12_done_223 ?_
      refine lv_goto (tgt := 228) hx hb dX12_done_224 rfl ?_
      have qc_231 : (1 : Int32).toInt = 1 := rfl
      refine S_calli (va_runS (As := [.int 1]) (rest := []) ⟨hx, hb, hml, hown, hts⟩ (n_truth l D k A a z G 1 ⟨by decide, by decide⟩) (va_cwS 1 hts (gd_S hgd m1788 m1789 m131 m1790) rfl rfl rfl hd_X12_truth.2 ⟨Nat.le_of_ble_eq_true rfl, Nat.le_of_ble_eq_true rfl⟩) (pre_S hW hB_G hK hZ hS) rfl rfl hl.1 rfl (lv_room (Nat.le_of_ble_eq_true rfl)) dX12_done_228 ⟨Nat.le_of_ble_eq_true rfl, Nat.le_of_ble_eq_true rfl⟩) hS (fun r_232 G_233 H locs hpo hW hS => ?_)
      have hX_236 : Q_truth 1 G r_232 G_233 := hpo
      obtain ⟨hB_G_233, hq_234, f_237, hp_235, -⟩ := hpo
      have hF := hF.call9 hq_234 rfl rfl
      exact W.iret (v := r_232) hx hb hr (fun t ht _ => ⟨⟨r_232, G_233, rfl, (Q_done_mk ⟨hB_G_233, hF, (Or.inr ⟨(xI_ne (Y := 37) rfl rfl c_1), (Or.inr ⟨(xI_ne (Y := 38) rfl rfl c_4), (Or.inr ⟨(xI_ne (Y := 39) rfl rfl c_28), (Or.inr ⟨(xI_ne (Y := 40) rfl rfl c_52), (Or.inr ⟨(xI_ne (Y := 41) rfl rfl c_76), (Or.inr ⟨(xI_ne (Y := 42) rfl rfl c_100), (Or.inr ⟨(xI_ne (Y := 43) rfl rfl c_102), (Or.inr ⟨(xI_ne (Y := 44) rfl rfl c_104), (Or.inr ⟨(xI_ne (Y := 45) rfl rfl c_128), (Or.inr ⟨(xI_ne (Y := 46) rfl rfl c_130), (Or.inr ⟨(xI_ne (Y := 47) rfl rfl c_154), (Or.inr ⟨(xI_ne (Y := 48) rfl rfl c_157), (Or.inr ⟨(xI_ne (Y := 49) rfl rfl c_181), (Or.inr ⟨(xI_ne (Y := 50) rfl rfl c_205), (Or.inl ⟨c_229, (Or.inr ⟨c_230, ⟨r_232, G_233, hX_236, ⟨rfl, rfl⟩⟩⟩)⟩)⟩)⟩)⟩)⟩)⟩)⟩)⟩)⟩)⟩)⟩)⟩)⟩)⟩)⟩)⟩), wd_t ht hW⟩, hS.F ht⟩) hS.2.2 dX12_done_231
    · have c_230 : p1.toInt = 0 := xI_eq rfl rfl c_230
      refine lv_iload_n hx hb dX12_done_219 rfl (lv_at hl 2 rfl) ?_
      refine lv_if_eq (tgt := 227) hx hb dX12_done_220 rfl (fun c_238 => ?_) (fun c_238 => ?_)
      · have c_238 : p2.toInt = 0 := xI_eq rfl rfl c_238
        refine ic_0 hx hb dX12_done_227 ?_
        have qc_239 : (0 : Int32).toInt = 0 := rfl
        refine S_calli (va_runS (As := [.int 0]) (rest := []) ⟨hx, hb, hml, hown, hts⟩ (n_truth l D k A a z G 0 ⟨by decide, by decide⟩) (va_cwS 1 hts (gd_S hgd m1788 m1789 m131 m1790) rfl rfl rfl hd_X12_truth.2 ⟨Nat.le_of_ble_eq_true rfl, Nat.le_of_ble_eq_true rfl⟩) (pre_S hW hB_G hK hZ hS) rfl rfl hl.1 rfl (lv_room (Nat.le_of_ble_eq_true rfl)) dX12_done_228 ⟨Nat.le_of_ble_eq_true rfl, Nat.le_of_ble_eq_true rfl⟩) hS (fun r_240 G_241 H locs hpo hW hS => ?_)
        have hX_244 : Q_truth 0 G r_240 G_241 := hpo
        obtain ⟨hB_G_241, hq_242, f_245, hp_243, -⟩ := hpo
        have hF := hF.call9 hq_242 rfl rfl
        exact W.iret (v := r_240) hx hb hr (fun t ht _ => ⟨⟨r_240, G_241, rfl, (Q_done_mk ⟨hB_G_241, hF, (Or.inr ⟨(xI_ne (Y := 37) rfl rfl c_1), (Or.inr ⟨(xI_ne (Y := 38) rfl rfl c_4), (Or.inr ⟨(xI_ne (Y := 39) rfl rfl c_28), (Or.inr ⟨(xI_ne (Y := 40) rfl rfl c_52), (Or.inr ⟨(xI_ne (Y := 41) rfl rfl c_76), (Or.inr ⟨(xI_ne (Y := 42) rfl rfl c_100), (Or.inr ⟨(xI_ne (Y := 43) rfl rfl c_102), (Or.inr ⟨(xI_ne (Y := 44) rfl rfl c_104), (Or.inr ⟨(xI_ne (Y := 45) rfl rfl c_128), (Or.inr ⟨(xI_ne (Y := 46) rfl rfl c_130), (Or.inr ⟨(xI_ne (Y := 47) rfl rfl c_154), (Or.inr ⟨(xI_ne (Y := 48) rfl rfl c_157), (Or.inr ⟨(xI_ne (Y := 49) rfl rfl c_181), (Or.inr ⟨(xI_ne (Y := 50) rfl rfl c_205), (Or.inl ⟨c_229, (Or.inl ⟨c_230, (Or.inl ⟨c_238, ⟨r_240, G_241, hX_244, ⟨rfl, rfl⟩⟩⟩)⟩)⟩)⟩)⟩)⟩)⟩)⟩)⟩)⟩)⟩)⟩)⟩)⟩)⟩)⟩)⟩)⟩), wd_t ht hW⟩, hS.F ht⟩) hS.2.2 dX12_done_231
      · have c_238 : p2.toInt ≠ 0 := xI_ne rfl rfl c_238
        refine ic_1 hx hb dX12_done_223 ?_
        refine lv_goto (tgt := 228) hx hb dX12_done_224 rfl ?_
        have qc_246 : (1 : Int32).toInt = 1 := rfl
        refine S_calli (va_runS (As := [.int 1]) (rest := []) ⟨hx, hb, hml, hown, hts⟩ (n_truth l D k A a z G 1 ⟨by decide, by decide⟩) (va_cwS 1 hts (gd_S hgd m1788 m1789 m131 m1790) rfl rfl rfl hd_X12_truth.2 ⟨Nat.le_of_ble_eq_true rfl, Nat.le_of_ble_eq_true rfl⟩) (pre_S hW hB_G hK hZ hS) rfl rfl hl.1 rfl (lv_room (Nat.le_of_ble_eq_true rfl)) dX12_done_228 ⟨Nat.le_of_ble_eq_true rfl, Nat.le_of_ble_eq_true rfl⟩) hS (fun r_247 G_248 H locs hpo hW hS => ?_)
        have hX_251 : Q_truth 1 G r_247 G_248 := hpo
        obtain ⟨hB_G_248, hq_249, f_252, hp_250, -⟩ := hpo
        have hF := hF.call9 hq_249 rfl rfl
        exact W.iret (v := r_247) hx hb hr (fun t ht _ => ⟨⟨r_247, G_248, rfl, (Q_done_mk ⟨hB_G_248, hF, (Or.inr ⟨(xI_ne (Y := 37) rfl rfl c_1), (Or.inr ⟨(xI_ne (Y := 38) rfl rfl c_4), (Or.inr ⟨(xI_ne (Y := 39) rfl rfl c_28), (Or.inr ⟨(xI_ne (Y := 40) rfl rfl c_52), (Or.inr ⟨(xI_ne (Y := 41) rfl rfl c_76), (Or.inr ⟨(xI_ne (Y := 42) rfl rfl c_100), (Or.inr ⟨(xI_ne (Y := 43) rfl rfl c_102), (Or.inr ⟨(xI_ne (Y := 44) rfl rfl c_104), (Or.inr ⟨(xI_ne (Y := 45) rfl rfl c_128), (Or.inr ⟨(xI_ne (Y := 46) rfl rfl c_130), (Or.inr ⟨(xI_ne (Y := 47) rfl rfl c_154), (Or.inr ⟨(xI_ne (Y := 48) rfl rfl c_157), (Or.inr ⟨(xI_ne (Y := 49) rfl rfl c_181), (Or.inr ⟨(xI_ne (Y := 50) rfl rfl c_205), (Or.inl ⟨c_229, (Or.inl ⟨c_230, (Or.inr ⟨c_238, ⟨r_247, G_248, hX_251, ⟨rfl, rfl⟩⟩⟩)⟩)⟩)⟩)⟩)⟩)⟩)⟩)⟩)⟩)⟩)⟩)⟩)⟩)⟩)⟩)⟩)⟩), wd_t ht hW⟩, hS.F ht⟩) hS.2.2 dX12_done_231
  by_cases c_253 : p0 = 52
  · refine lv_tableIn (tgt := 215) hx hb dX12_done_1 (by rw [c_253]; decide) (by rw [c_253]; decide) (off := 214) (by rw [c_253]; decide) (by decide) ?_
    have c_253 : p0.toInt = 52 := xI_eq rfl rfl c_253
    refine lv_iload_n hx hb dX12_done_215 rfl (lv_at hl 1 rfl) ?_
    refine lv_if_ne (tgt := 223) hx hb dX12_done_216 rfl (fun c_254 => ?_) (fun c_254 => ?_)
    · have c_254 : p1.toInt ≠ 0 := xI_ne rfl rfl c_254
      refine ic_1 hx hb dX12_done_223 ?_
      refine lv_goto (tgt := 228) hx hb dX12_done_224 rfl ?_
      have qc_255 : (1 : Int32).toInt = 1 := rfl
      refine S_calli (va_runS (As := [.int 1]) (rest := []) ⟨hx, hb, hml, hown, hts⟩ (n_truth l D k A a z G 1 ⟨by decide, by decide⟩) (va_cwS 1 hts (gd_S hgd m1788 m1789 m131 m1790) rfl rfl rfl hd_X12_truth.2 ⟨Nat.le_of_ble_eq_true rfl, Nat.le_of_ble_eq_true rfl⟩) (pre_S hW hB_G hK hZ hS) rfl rfl hl.1 rfl (lv_room (Nat.le_of_ble_eq_true rfl)) dX12_done_228 ⟨Nat.le_of_ble_eq_true rfl, Nat.le_of_ble_eq_true rfl⟩) hS (fun r_256 G_257 H locs hpo hW hS => ?_)
      have hX_260 : Q_truth 1 G r_256 G_257 := hpo
      obtain ⟨hB_G_257, hq_258, f_261, hp_259, -⟩ := hpo
      have hF := hF.call9 hq_258 rfl rfl
      exact W.iret (v := r_256) hx hb hr (fun t ht _ => ⟨⟨r_256, G_257, rfl, (Q_done_mk ⟨hB_G_257, hF, (Or.inr ⟨(xI_ne (Y := 37) rfl rfl c_1), (Or.inr ⟨(xI_ne (Y := 38) rfl rfl c_4), (Or.inr ⟨(xI_ne (Y := 39) rfl rfl c_28), (Or.inr ⟨(xI_ne (Y := 40) rfl rfl c_52), (Or.inr ⟨(xI_ne (Y := 41) rfl rfl c_76), (Or.inr ⟨(xI_ne (Y := 42) rfl rfl c_100), (Or.inr ⟨(xI_ne (Y := 43) rfl rfl c_102), (Or.inr ⟨(xI_ne (Y := 44) rfl rfl c_104), (Or.inr ⟨(xI_ne (Y := 45) rfl rfl c_128), (Or.inr ⟨(xI_ne (Y := 46) rfl rfl c_130), (Or.inr ⟨(xI_ne (Y := 47) rfl rfl c_154), (Or.inr ⟨(xI_ne (Y := 48) rfl rfl c_157), (Or.inr ⟨(xI_ne (Y := 49) rfl rfl c_181), (Or.inr ⟨(xI_ne (Y := 50) rfl rfl c_205), (Or.inr ⟨(xI_ne (Y := 51) rfl rfl c_229), (Or.inl ⟨c_253, (Or.inr ⟨c_254, ⟨r_256, G_257, hX_260, ⟨rfl, rfl⟩⟩⟩)⟩)⟩)⟩)⟩)⟩)⟩)⟩)⟩)⟩)⟩)⟩)⟩)⟩)⟩)⟩)⟩)⟩), wd_t ht hW⟩, hS.F ht⟩) hS.2.2 dX12_done_231
    · have c_254 : p1.toInt = 0 := xI_eq rfl rfl c_254
      refine lv_iload_n hx hb dX12_done_219 rfl (lv_at hl 2 rfl) ?_
      refine lv_if_eq (tgt := 227) hx hb dX12_done_220 rfl (fun c_262 => ?_) (fun c_262 => ?_)
      · have c_262 : p2.toInt = 0 := xI_eq rfl rfl c_262
        refine ic_0 hx hb dX12_done_227 ?_
        have qc_263 : (0 : Int32).toInt = 0 := rfl
        refine S_calli (va_runS (As := [.int 0]) (rest := []) ⟨hx, hb, hml, hown, hts⟩ (n_truth l D k A a z G 0 ⟨by decide, by decide⟩) (va_cwS 1 hts (gd_S hgd m1788 m1789 m131 m1790) rfl rfl rfl hd_X12_truth.2 ⟨Nat.le_of_ble_eq_true rfl, Nat.le_of_ble_eq_true rfl⟩) (pre_S hW hB_G hK hZ hS) rfl rfl hl.1 rfl (lv_room (Nat.le_of_ble_eq_true rfl)) dX12_done_228 ⟨Nat.le_of_ble_eq_true rfl, Nat.le_of_ble_eq_true rfl⟩) hS (fun r_264 G_265 H locs hpo hW hS => ?_)
        have hX_268 : Q_truth 0 G r_264 G_265 := hpo
        obtain ⟨hB_G_265, hq_266, f_269, hp_267, -⟩ := hpo
        have hF := hF.call9 hq_266 rfl rfl
        exact W.iret (v := r_264) hx hb hr (fun t ht _ => ⟨⟨r_264, G_265, rfl, (Q_done_mk ⟨hB_G_265, hF, (Or.inr ⟨(xI_ne (Y := 37) rfl rfl c_1), (Or.inr ⟨(xI_ne (Y := 38) rfl rfl c_4), (Or.inr ⟨(xI_ne (Y := 39) rfl rfl c_28), (Or.inr ⟨(xI_ne (Y := 40) rfl rfl c_52), (Or.inr ⟨(xI_ne (Y := 41) rfl rfl c_76), (Or.inr ⟨(xI_ne (Y := 42) rfl rfl c_100), (Or.inr ⟨(xI_ne (Y := 43) rfl rfl c_102), (Or.inr ⟨(xI_ne (Y := 44) rfl rfl c_104), (Or.inr ⟨(xI_ne (Y := 45) rfl rfl c_128), (Or.inr ⟨(xI_ne (Y := 46) rfl rfl c_130), (Or.inr ⟨(xI_ne (Y := 47) rfl rfl c_154), (Or.inr ⟨(xI_ne (Y := 48) rfl rfl c_157), (Or.inr ⟨(xI_ne (Y := 49) rfl rfl c_181), (Or.inr ⟨(xI_ne (Y := 50) rfl rfl c_205), (Or.inr ⟨(xI_ne (Y := 51) rfl rfl c_229), (Or.inl ⟨c_253, (Or.inl ⟨c_254, (Or.inl ⟨c_262, ⟨r_264, G_265, hX_268, ⟨rfl, rfl⟩⟩⟩)⟩)⟩)⟩)⟩)⟩)⟩)⟩)⟩)⟩)⟩)⟩)⟩)⟩)⟩)⟩)⟩)⟩)⟩), wd_t ht hW⟩, hS.F ht⟩) hS.2.2 dX12_done_231
      · have c_262 : p2.toInt ≠ 0 := xI_ne rfl rfl c_262
        refine ic_1 hx hb dX12_done_223 ?_
        refine lv_goto (tgt := 228) hx hb dX12_done_224 rfl ?_
        have qc_270 : (1 : Int32).toInt = 1 := rfl
        refine S_calli (va_runS (As := [.int 1]) (rest := []) ⟨hx, hb, hml, hown, hts⟩ (n_truth l D k A a z G 1 ⟨by decide, by decide⟩) (va_cwS 1 hts (gd_S hgd m1788 m1789 m131 m1790) rfl rfl rfl hd_X12_truth.2 ⟨Nat.le_of_ble_eq_true rfl, Nat.le_of_ble_eq_true rfl⟩) (pre_S hW hB_G hK hZ hS) rfl rfl hl.1 rfl (lv_room (Nat.le_of_ble_eq_true rfl)) dX12_done_228 ⟨Nat.le_of_ble_eq_true rfl, Nat.le_of_ble_eq_true rfl⟩) hS (fun r_271 G_272 H locs hpo hW hS => ?_)
        have hX_275 : Q_truth 1 G r_271 G_272 := hpo
        obtain ⟨hB_G_272, hq_273, f_276, hp_274, -⟩ := hpo
        have hF := hF.call9 hq_273 rfl rfl
        exact W.iret (v := r_271) hx hb hr (fun t ht _ => ⟨⟨r_271, G_272, rfl, (Q_done_mk ⟨hB_G_272, hF, (Or.inr ⟨(xI_ne (Y := 37) rfl rfl c_1), (Or.inr ⟨(xI_ne (Y := 38) rfl rfl c_4), (Or.inr ⟨(xI_ne (Y := 39) rfl rfl c_28), (Or.inr ⟨(xI_ne (Y := 40) rfl rfl c_52), (Or.inr ⟨(xI_ne (Y := 41) rfl rfl c_76), (Or.inr ⟨(xI_ne (Y := 42) rfl rfl c_100), (Or.inr ⟨(xI_ne (Y := 43) rfl rfl c_102), (Or.inr ⟨(xI_ne (Y := 44) rfl rfl c_104), (Or.inr ⟨(xI_ne (Y := 45) rfl rfl c_128), (Or.inr ⟨(xI_ne (Y := 46) rfl rfl c_130), (Or.inr ⟨(xI_ne (Y := 47) rfl rfl c_154), (Or.inr ⟨(xI_ne (Y := 48) rfl rfl c_157), (Or.inr ⟨(xI_ne (Y := 49) rfl rfl c_181), (Or.inr ⟨(xI_ne (Y := 50) rfl rfl c_205), (Or.inr ⟨(xI_ne (Y := 51) rfl rfl c_229), (Or.inl ⟨c_253, (Or.inl ⟨c_254, (Or.inr ⟨c_262, ⟨r_271, G_272, hX_275, ⟨rfl, rfl⟩⟩⟩)⟩)⟩)⟩)⟩)⟩)⟩)⟩)⟩)⟩)⟩)⟩)⟩)⟩)⟩)⟩)⟩)⟩)⟩), wd_t ht hW⟩, hS.F ht⟩) hS.2.2 dX12_done_231
  by_cases c_277 : p0 = 53
  · refine lv_tableIn (tgt := 215) hx hb dX12_done_1 (by rw [c_277]; decide) (by rw [c_277]; decide) (off := 214) (by rw [c_277]; decide) (by decide) ?_
    have c_277 : p0.toInt = 53 := xI_eq rfl rfl c_277
    refine lv_iload_n hx hb dX12_done_215 rfl (lv_at hl 1 rfl) ?_
    refine lv_if_ne (tgt := 223) hx hb dX12_done_216 rfl (fun c_278 => ?_) (fun c_278 => ?_)
    · have c_278 : p1.toInt ≠ 0 := xI_ne rfl rfl c_278
      refine ic_1 hx hb dX12_done_223 ?_
      refine lv_goto (tgt := 228) hx hb dX12_done_224 rfl ?_
      have qc_279 : (1 : Int32).toInt = 1 := rfl
      refine S_calli (va_runS (As := [.int 1]) (rest := []) ⟨hx, hb, hml, hown, hts⟩ (n_truth l D k A a z G 1 ⟨by decide, by decide⟩) (va_cwS 1 hts (gd_S hgd m1788 m1789 m131 m1790) rfl rfl rfl hd_X12_truth.2 ⟨Nat.le_of_ble_eq_true rfl, Nat.le_of_ble_eq_true rfl⟩) (pre_S hW hB_G hK hZ hS) rfl rfl hl.1 rfl (lv_room (Nat.le_of_ble_eq_true rfl)) dX12_done_228 ⟨Nat.le_of_ble_eq_true rfl, Nat.le_of_ble_eq_true rfl⟩) hS (fun r_280 G_281 H locs hpo hW hS => ?_)
      have hX_284 : Q_truth 1 G r_280 G_281 := hpo
      obtain ⟨hB_G_281, hq_282, f_285, hp_283, -⟩ := hpo
      have hF := hF.call9 hq_282 rfl rfl
      exact W.iret (v := r_280) hx hb hr (fun t ht _ => ⟨⟨r_280, G_281, rfl, (Q_done_mk ⟨hB_G_281, hF, (Or.inr ⟨(xI_ne (Y := 37) rfl rfl c_1), (Or.inr ⟨(xI_ne (Y := 38) rfl rfl c_4), (Or.inr ⟨(xI_ne (Y := 39) rfl rfl c_28), (Or.inr ⟨(xI_ne (Y := 40) rfl rfl c_52), (Or.inr ⟨(xI_ne (Y := 41) rfl rfl c_76), (Or.inr ⟨(xI_ne (Y := 42) rfl rfl c_100), (Or.inr ⟨(xI_ne (Y := 43) rfl rfl c_102), (Or.inr ⟨(xI_ne (Y := 44) rfl rfl c_104), (Or.inr ⟨(xI_ne (Y := 45) rfl rfl c_128), (Or.inr ⟨(xI_ne (Y := 46) rfl rfl c_130), (Or.inr ⟨(xI_ne (Y := 47) rfl rfl c_154), (Or.inr ⟨(xI_ne (Y := 48) rfl rfl c_157), (Or.inr ⟨(xI_ne (Y := 49) rfl rfl c_181), (Or.inr ⟨(xI_ne (Y := 50) rfl rfl c_205), (Or.inr ⟨(xI_ne (Y := 51) rfl rfl c_229), (Or.inr ⟨(xI_ne (Y := 52) rfl rfl c_253), (Or.inl ⟨c_277, (Or.inr ⟨c_278, ⟨r_280, G_281, hX_284, ⟨rfl, rfl⟩⟩⟩)⟩)⟩)⟩)⟩)⟩)⟩)⟩)⟩)⟩)⟩)⟩)⟩)⟩)⟩)⟩)⟩)⟩)⟩), wd_t ht hW⟩, hS.F ht⟩) hS.2.2 dX12_done_231
    · have c_278 : p1.toInt = 0 := xI_eq rfl rfl c_278
      refine lv_iload_n hx hb dX12_done_219 rfl (lv_at hl 2 rfl) ?_
      refine lv_if_eq (tgt := 227) hx hb dX12_done_220 rfl (fun c_286 => ?_) (fun c_286 => ?_)
      · have c_286 : p2.toInt = 0 := xI_eq rfl rfl c_286
        refine ic_0 hx hb dX12_done_227 ?_
        have qc_287 : (0 : Int32).toInt = 0 := rfl
        refine S_calli (va_runS (As := [.int 0]) (rest := []) ⟨hx, hb, hml, hown, hts⟩ (n_truth l D k A a z G 0 ⟨by decide, by decide⟩) (va_cwS 1 hts (gd_S hgd m1788 m1789 m131 m1790) rfl rfl rfl hd_X12_truth.2 ⟨Nat.le_of_ble_eq_true rfl, Nat.le_of_ble_eq_true rfl⟩) (pre_S hW hB_G hK hZ hS) rfl rfl hl.1 rfl (lv_room (Nat.le_of_ble_eq_true rfl)) dX12_done_228 ⟨Nat.le_of_ble_eq_true rfl, Nat.le_of_ble_eq_true rfl⟩) hS (fun r_288 G_289 H locs hpo hW hS => ?_)
        have hX_292 : Q_truth 0 G r_288 G_289 := hpo
        obtain ⟨hB_G_289, hq_290, f_293, hp_291, -⟩ := hpo
        have hF := hF.call9 hq_290 rfl rfl
        exact W.iret (v := r_288) hx hb hr (fun t ht _ => ⟨⟨r_288, G_289, rfl, (Q_done_mk ⟨hB_G_289, hF, (Or.inr ⟨(xI_ne (Y := 37) rfl rfl c_1), (Or.inr ⟨(xI_ne (Y := 38) rfl rfl c_4), (Or.inr ⟨(xI_ne (Y := 39) rfl rfl c_28), (Or.inr ⟨(xI_ne (Y := 40) rfl rfl c_52), (Or.inr ⟨(xI_ne (Y := 41) rfl rfl c_76), (Or.inr ⟨(xI_ne (Y := 42) rfl rfl c_100), (Or.inr ⟨(xI_ne (Y := 43) rfl rfl c_102), (Or.inr ⟨(xI_ne (Y := 44) rfl rfl c_104), (Or.inr ⟨(xI_ne (Y := 45) rfl rfl c_128), (Or.inr ⟨(xI_ne (Y := 46) rfl rfl c_130), (Or.inr ⟨(xI_ne (Y := 47) rfl rfl c_154), (Or.inr ⟨(xI_ne (Y := 48) rfl rfl c_157), (Or.inr ⟨(xI_ne (Y := 49) rfl rfl c_181), (Or.inr ⟨(xI_ne (Y := 50) rfl rfl c_205), (Or.inr ⟨(xI_ne (Y := 51) rfl rfl c_229), (Or.inr ⟨(xI_ne (Y := 52) rfl rfl c_253), (Or.inl ⟨c_277, (Or.inl ⟨c_278, (Or.inl ⟨c_286, ⟨r_288, G_289, hX_292, ⟨rfl, rfl⟩⟩⟩)⟩)⟩)⟩)⟩)⟩)⟩)⟩)⟩)⟩)⟩)⟩)⟩)⟩)⟩)⟩)⟩)⟩)⟩)⟩), wd_t ht hW⟩, hS.F ht⟩) hS.2.2 dX12_done_231
      · have c_286 : p2.toInt ≠ 0 := xI_ne rfl rfl c_286
        refine ic_1 hx hb dX12_done_223 ?_
        refine lv_goto (tgt := 228) hx hb dX12_done_224 rfl ?_
        have qc_294 : (1 : Int32).toInt = 1 := rfl
        refine S_calli (va_runS (As := [.int 1]) (rest := []) ⟨hx, hb, hml, hown, hts⟩ (n_truth l D k A a z G 1 ⟨by decide, by decide⟩) (va_cwS 1 hts (gd_S hgd m1788 m1789 m131 m1790) rfl rfl rfl hd_X12_truth.2 ⟨Nat.le_of_ble_eq_true rfl, Nat.le_of_ble_eq_true rfl⟩) (pre_S hW hB_G hK hZ hS) rfl rfl hl.1 rfl (lv_room (Nat.le_of_ble_eq_true rfl)) dX12_done_228 ⟨Nat.le_of_ble_eq_true rfl, Nat.le_of_ble_eq_true rfl⟩) hS (fun r_295 G_296 H locs hpo hW hS => ?_)
        have hX_299 : Q_truth 1 G r_295 G_296 := hpo
        obtain ⟨hB_G_296, hq_297, f_300, hp_298, -⟩ := hpo
        have hF := hF.call9 hq_297 rfl rfl
        exact W.iret (v := r_295) hx hb hr (fun t ht _ => ⟨⟨r_295, G_296, rfl, (Q_done_mk ⟨hB_G_296, hF, (Or.inr ⟨(xI_ne (Y := 37) rfl rfl c_1), (Or.inr ⟨(xI_ne (Y := 38) rfl rfl c_4), (Or.inr ⟨(xI_ne (Y := 39) rfl rfl c_28), (Or.inr ⟨(xI_ne (Y := 40) rfl rfl c_52), (Or.inr ⟨(xI_ne (Y := 41) rfl rfl c_76), (Or.inr ⟨(xI_ne (Y := 42) rfl rfl c_100), (Or.inr ⟨(xI_ne (Y := 43) rfl rfl c_102), (Or.inr ⟨(xI_ne (Y := 44) rfl rfl c_104), (Or.inr ⟨(xI_ne (Y := 45) rfl rfl c_128), (Or.inr ⟨(xI_ne (Y := 46) rfl rfl c_130), (Or.inr ⟨(xI_ne (Y := 47) rfl rfl c_154), (Or.inr ⟨(xI_ne (Y := 48) rfl rfl c_157), (Or.inr ⟨(xI_ne (Y := 49) rfl rfl c_181), (Or.inr ⟨(xI_ne (Y := 50) rfl rfl c_205), (Or.inr ⟨(xI_ne (Y := 51) rfl rfl c_229), (Or.inr ⟨(xI_ne (Y := 52) rfl rfl c_253), (Or.inl ⟨c_277, (Or.inl ⟨c_278, (Or.inr ⟨c_286, ⟨r_295, G_296, hX_299, ⟨rfl, rfl⟩⟩⟩)⟩)⟩)⟩)⟩)⟩)⟩)⟩)⟩)⟩)⟩)⟩)⟩)⟩)⟩)⟩)⟩)⟩)⟩)⟩), wd_t ht hW⟩, hS.F ht⟩) hS.2.2 dX12_done_231
  by_cases c_301 : p0 = 54
  · refine lv_tableIn (tgt := 215) hx hb dX12_done_1 (by rw [c_301]; decide) (by rw [c_301]; decide) (off := 214) (by rw [c_301]; decide) (by decide) ?_
    have c_301 : p0.toInt = 54 := xI_eq rfl rfl c_301
    refine lv_iload_n hx hb dX12_done_215 rfl (lv_at hl 1 rfl) ?_
    refine lv_if_ne (tgt := 223) hx hb dX12_done_216 rfl (fun c_302 => ?_) (fun c_302 => ?_)
    · have c_302 : p1.toInt ≠ 0 := xI_ne rfl rfl c_302
      refine ic_1 hx hb dX12_done_223 ?_
      refine lv_goto (tgt := 228) hx hb dX12_done_224 rfl ?_
      have qc_303 : (1 : Int32).toInt = 1 := rfl
      refine S_calli (va_runS (As := [.int 1]) (rest := []) ⟨hx, hb, hml, hown, hts⟩ (n_truth l D k A a z G 1 ⟨by decide, by decide⟩) (va_cwS 1 hts (gd_S hgd m1788 m1789 m131 m1790) rfl rfl rfl hd_X12_truth.2 ⟨Nat.le_of_ble_eq_true rfl, Nat.le_of_ble_eq_true rfl⟩) (pre_S hW hB_G hK hZ hS) rfl rfl hl.1 rfl (lv_room (Nat.le_of_ble_eq_true rfl)) dX12_done_228 ⟨Nat.le_of_ble_eq_true rfl, Nat.le_of_ble_eq_true rfl⟩) hS (fun r_304 G_305 H locs hpo hW hS => ?_)
      have hX_308 : Q_truth 1 G r_304 G_305 := hpo
      obtain ⟨hB_G_305, hq_306, f_309, hp_307, -⟩ := hpo
      have hF := hF.call9 hq_306 rfl rfl
      exact W.iret (v := r_304) hx hb hr (fun t ht _ => ⟨⟨r_304, G_305, rfl, (Q_done_mk ⟨hB_G_305, hF, (Or.inr ⟨(xI_ne (Y := 37) rfl rfl c_1), (Or.inr ⟨(xI_ne (Y := 38) rfl rfl c_4), (Or.inr ⟨(xI_ne (Y := 39) rfl rfl c_28), (Or.inr ⟨(xI_ne (Y := 40) rfl rfl c_52), (Or.inr ⟨(xI_ne (Y := 41) rfl rfl c_76), (Or.inr ⟨(xI_ne (Y := 42) rfl rfl c_100), (Or.inr ⟨(xI_ne (Y := 43) rfl rfl c_102), (Or.inr ⟨(xI_ne (Y := 44) rfl rfl c_104), (Or.inr ⟨(xI_ne (Y := 45) rfl rfl c_128), (Or.inr ⟨(xI_ne (Y := 46) rfl rfl c_130), (Or.inr ⟨(xI_ne (Y := 47) rfl rfl c_154), (Or.inr ⟨(xI_ne (Y := 48) rfl rfl c_157), (Or.inr ⟨(xI_ne (Y := 49) rfl rfl c_181), (Or.inr ⟨(xI_ne (Y := 50) rfl rfl c_205), (Or.inr ⟨(xI_ne (Y := 51) rfl rfl c_229), (Or.inr ⟨(xI_ne (Y := 52) rfl rfl c_253), (Or.inr ⟨(xI_ne (Y := 53) rfl rfl c_277), (Or.inl ⟨c_301, (Or.inr ⟨c_302, ⟨r_304, G_305, hX_308, ⟨rfl, rfl⟩⟩⟩)⟩)⟩)⟩)⟩)⟩)⟩)⟩)⟩)⟩)⟩)⟩)⟩)⟩)⟩)⟩)⟩)⟩)⟩)⟩), wd_t ht hW⟩, hS.F ht⟩) hS.2.2 dX12_done_231
    · have c_302 : p1.toInt = 0 := xI_eq rfl rfl c_302
      refine lv_iload_n hx hb dX12_done_219 rfl (lv_at hl 2 rfl) ?_
      refine lv_if_eq (tgt := 227) hx hb dX12_done_220 rfl (fun c_310 => ?_) (fun c_310 => ?_)
      · have c_310 : p2.toInt = 0 := xI_eq rfl rfl c_310
        refine ic_0 hx hb dX12_done_227 ?_
        have qc_311 : (0 : Int32).toInt = 0 := rfl
        refine S_calli (va_runS (As := [.int 0]) (rest := []) ⟨hx, hb, hml, hown, hts⟩ (n_truth l D k A a z G 0 ⟨by decide, by decide⟩) (va_cwS 1 hts (gd_S hgd m1788 m1789 m131 m1790) rfl rfl rfl hd_X12_truth.2 ⟨Nat.le_of_ble_eq_true rfl, Nat.le_of_ble_eq_true rfl⟩) (pre_S hW hB_G hK hZ hS) rfl rfl hl.1 rfl (lv_room (Nat.le_of_ble_eq_true rfl)) dX12_done_228 ⟨Nat.le_of_ble_eq_true rfl, Nat.le_of_ble_eq_true rfl⟩) hS (fun r_312 G_313 H locs hpo hW hS => ?_)
        have hX_316 : Q_truth 0 G r_312 G_313 := hpo
        obtain ⟨hB_G_313, hq_314, f_317, hp_315, -⟩ := hpo
        have hF := hF.call9 hq_314 rfl rfl
        exact W.iret (v := r_312) hx hb hr (fun t ht _ => ⟨⟨r_312, G_313, rfl, (Q_done_mk ⟨hB_G_313, hF, (Or.inr ⟨(xI_ne (Y := 37) rfl rfl c_1), (Or.inr ⟨(xI_ne (Y := 38) rfl rfl c_4), (Or.inr ⟨(xI_ne (Y := 39) rfl rfl c_28), (Or.inr ⟨(xI_ne (Y := 40) rfl rfl c_52), (Or.inr ⟨(xI_ne (Y := 41) rfl rfl c_76), (Or.inr ⟨(xI_ne (Y := 42) rfl rfl c_100), (Or.inr ⟨(xI_ne (Y := 43) rfl rfl c_102), (Or.inr ⟨(xI_ne (Y := 44) rfl rfl c_104), (Or.inr ⟨(xI_ne (Y := 45) rfl rfl c_128), (Or.inr ⟨(xI_ne (Y := 46) rfl rfl c_130), (Or.inr ⟨(xI_ne (Y := 47) rfl rfl c_154), (Or.inr ⟨(xI_ne (Y := 48) rfl rfl c_157), (Or.inr ⟨(xI_ne (Y := 49) rfl rfl c_181), (Or.inr ⟨(xI_ne (Y := 50) rfl rfl c_205), (Or.inr ⟨(xI_ne (Y := 51) rfl rfl c_229), (Or.inr ⟨(xI_ne (Y := 52) rfl rfl c_253), (Or.inr ⟨(xI_ne (Y := 53) rfl rfl c_277), (Or.inl ⟨c_301, (Or.inl ⟨c_302, (Or.inl ⟨c_310, ⟨r_312, G_313, hX_316, ⟨rfl, rfl⟩⟩⟩)⟩)⟩)⟩)⟩)⟩)⟩)⟩)⟩)⟩)⟩)⟩)⟩)⟩)⟩)⟩)⟩)⟩)⟩)⟩)⟩), wd_t ht hW⟩, hS.F ht⟩) hS.2.2 dX12_done_231
      · have c_310 : p2.toInt ≠ 0 := xI_ne rfl rfl c_310
        refine ic_1 hx hb dX12_done_223 ?_
        refine lv_goto (tgt := 228) hx hb dX12_done_224 rfl ?_
        have qc_318 : (1 : Int32).toInt = 1 := rfl
        refine S_calli (va_runS (As := [.int 1]) (rest := []) ⟨hx, hb, hml, hown, hts⟩ (n_truth l D k A a z G 1 ⟨by decide, by decide⟩) (va_cwS 1 hts (gd_S hgd m1788 m1789 m131 m1790) rfl rfl rfl hd_X12_truth.2 ⟨Nat.le_of_ble_eq_true rfl, Nat.le_of_ble_eq_true rfl⟩) (pre_S hW hB_G hK hZ hS) rfl rfl hl.1 rfl (lv_room (Nat.le_of_ble_eq_true rfl)) dX12_done_228 ⟨Nat.le_of_ble_eq_true rfl, Nat.le_of_ble_eq_true rfl⟩) hS (fun r_319 G_320 H locs hpo hW hS => ?_)
        have hX_323 : Q_truth 1 G r_319 G_320 := hpo
        obtain ⟨hB_G_320, hq_321, f_324, hp_322, -⟩ := hpo
        have hF := hF.call9 hq_321 rfl rfl
        exact W.iret (v := r_319) hx hb hr (fun t ht _ => ⟨⟨r_319, G_320, rfl, (Q_done_mk ⟨hB_G_320, hF, (Or.inr ⟨(xI_ne (Y := 37) rfl rfl c_1), (Or.inr ⟨(xI_ne (Y := 38) rfl rfl c_4), (Or.inr ⟨(xI_ne (Y := 39) rfl rfl c_28), (Or.inr ⟨(xI_ne (Y := 40) rfl rfl c_52), (Or.inr ⟨(xI_ne (Y := 41) rfl rfl c_76), (Or.inr ⟨(xI_ne (Y := 42) rfl rfl c_100), (Or.inr ⟨(xI_ne (Y := 43) rfl rfl c_102), (Or.inr ⟨(xI_ne (Y := 44) rfl rfl c_104), (Or.inr ⟨(xI_ne (Y := 45) rfl rfl c_128), (Or.inr ⟨(xI_ne (Y := 46) rfl rfl c_130), (Or.inr ⟨(xI_ne (Y := 47) rfl rfl c_154), (Or.inr ⟨(xI_ne (Y := 48) rfl rfl c_157), (Or.inr ⟨(xI_ne (Y := 49) rfl rfl c_181), (Or.inr ⟨(xI_ne (Y := 50) rfl rfl c_205), (Or.inr ⟨(xI_ne (Y := 51) rfl rfl c_229), (Or.inr ⟨(xI_ne (Y := 52) rfl rfl c_253), (Or.inr ⟨(xI_ne (Y := 53) rfl rfl c_277), (Or.inl ⟨c_301, (Or.inl ⟨c_302, (Or.inr ⟨c_310, ⟨r_319, G_320, hX_323, ⟨rfl, rfl⟩⟩⟩)⟩)⟩)⟩)⟩)⟩)⟩)⟩)⟩)⟩)⟩)⟩)⟩)⟩)⟩)⟩)⟩)⟩)⟩)⟩)⟩), wd_t ht hW⟩, hS.F ht⟩) hS.2.2 dX12_done_231
  by_cases c_325 : p0 = 55
  · refine lv_tableIn (tgt := 215) hx hb dX12_done_1 (by rw [c_325]; decide) (by rw [c_325]; decide) (off := 214) (by rw [c_325]; decide) (by decide) ?_
    have c_325 : p0.toInt = 55 := xI_eq rfl rfl c_325
    refine lv_iload_n hx hb dX12_done_215 rfl (lv_at hl 1 rfl) ?_
    refine lv_if_ne (tgt := 223) hx hb dX12_done_216 rfl (fun c_326 => ?_) (fun c_326 => ?_)
    · have c_326 : p1.toInt ≠ 0 := xI_ne rfl rfl c_326
      refine ic_1 hx hb dX12_done_223 ?_
      refine lv_goto (tgt := 228) hx hb dX12_done_224 rfl ?_
      have qc_327 : (1 : Int32).toInt = 1 := rfl
      refine S_calli (va_runS (As := [.int 1]) (rest := []) ⟨hx, hb, hml, hown, hts⟩ (n_truth l D k A a z G 1 ⟨by decide, by decide⟩) (va_cwS 1 hts (gd_S hgd m1788 m1789 m131 m1790) rfl rfl rfl hd_X12_truth.2 ⟨Nat.le_of_ble_eq_true rfl, Nat.le_of_ble_eq_true rfl⟩) (pre_S hW hB_G hK hZ hS) rfl rfl hl.1 rfl (lv_room (Nat.le_of_ble_eq_true rfl)) dX12_done_228 ⟨Nat.le_of_ble_eq_true rfl, Nat.le_of_ble_eq_true rfl⟩) hS (fun r_328 G_329 H locs hpo hW hS => ?_)
      have hX_332 : Q_truth 1 G r_328 G_329 := hpo
      obtain ⟨hB_G_329, hq_330, f_333, hp_331, -⟩ := hpo
      have hF := hF.call9 hq_330 rfl rfl
      exact W.iret (v := r_328) hx hb hr (fun t ht _ => ⟨⟨r_328, G_329, rfl, (Q_done_mk ⟨hB_G_329, hF, (Or.inr ⟨(xI_ne (Y := 37) rfl rfl c_1), (Or.inr ⟨(xI_ne (Y := 38) rfl rfl c_4), (Or.inr ⟨(xI_ne (Y := 39) rfl rfl c_28), (Or.inr ⟨(xI_ne (Y := 40) rfl rfl c_52), (Or.inr ⟨(xI_ne (Y := 41) rfl rfl c_76), (Or.inr ⟨(xI_ne (Y := 42) rfl rfl c_100), (Or.inr ⟨(xI_ne (Y := 43) rfl rfl c_102), (Or.inr ⟨(xI_ne (Y := 44) rfl rfl c_104), (Or.inr ⟨(xI_ne (Y := 45) rfl rfl c_128), (Or.inr ⟨(xI_ne (Y := 46) rfl rfl c_130), (Or.inr ⟨(xI_ne (Y := 47) rfl rfl c_154), (Or.inr ⟨(xI_ne (Y := 48) rfl rfl c_157), (Or.inr ⟨(xI_ne (Y := 49) rfl rfl c_181), (Or.inr ⟨(xI_ne (Y := 50) rfl rfl c_205), (Or.inr ⟨(xI_ne (Y := 51) rfl rfl c_229), (Or.inr ⟨(xI_ne (Y := 52) rfl rfl c_253), (Or.inr ⟨(xI_ne (Y := 53) rfl rfl c_277), (Or.inr ⟨(xI_ne (Y := 54) rfl rfl c_301), (Or.inl ⟨c_325, (Or.inr ⟨c_326, ⟨r_328, G_329, hX_332, ⟨rfl, rfl⟩⟩⟩)⟩)⟩)⟩)⟩)⟩)⟩)⟩)⟩)⟩)⟩)⟩)⟩)⟩)⟩)⟩)⟩)⟩)⟩)⟩)⟩), wd_t ht hW⟩, hS.F ht⟩) hS.2.2 dX12_done_231
    · have c_326 : p1.toInt = 0 := xI_eq rfl rfl c_326
      refine lv_iload_n hx hb dX12_done_219 rfl (lv_at hl 2 rfl) ?_
      refine lv_if_eq (tgt := 227) hx hb dX12_done_220 rfl (fun c_334 => ?_) (fun c_334 => ?_)
      · have c_334 : p2.toInt = 0 := xI_eq rfl rfl c_334
        refine ic_0 hx hb dX12_done_227 ?_
        have qc_335 : (0 : Int32).toInt = 0 := rfl
        refine S_calli (va_runS (As := [.int 0]) (rest := []) ⟨hx, hb, hml, hown, hts⟩ (n_truth l D k A a z G 0 ⟨by decide, by decide⟩) (va_cwS 1 hts (gd_S hgd m1788 m1789 m131 m1790) rfl rfl rfl hd_X12_truth.2 ⟨Nat.le_of_ble_eq_true rfl, Nat.le_of_ble_eq_true rfl⟩) (pre_S hW hB_G hK hZ hS) rfl rfl hl.1 rfl (lv_room (Nat.le_of_ble_eq_true rfl)) dX12_done_228 ⟨Nat.le_of_ble_eq_true rfl, Nat.le_of_ble_eq_true rfl⟩) hS (fun r_336 G_337 H locs hpo hW hS => ?_)
        have hX_340 : Q_truth 0 G r_336 G_337 := hpo
        obtain ⟨hB_G_337, hq_338, f_341, hp_339, -⟩ := hpo
        have hF := hF.call9 hq_338 rfl rfl
        exact W.iret (v := r_336) hx hb hr (fun t ht _ => ⟨⟨r_336, G_337, rfl, (Q_done_mk ⟨hB_G_337, hF, (Or.inr ⟨(xI_ne (Y := 37) rfl rfl c_1), (Or.inr ⟨(xI_ne (Y := 38) rfl rfl c_4), (Or.inr ⟨(xI_ne (Y := 39) rfl rfl c_28), (Or.inr ⟨(xI_ne (Y := 40) rfl rfl c_52), (Or.inr ⟨(xI_ne (Y := 41) rfl rfl c_76), (Or.inr ⟨(xI_ne (Y := 42) rfl rfl c_100), (Or.inr ⟨(xI_ne (Y := 43) rfl rfl c_102), (Or.inr ⟨(xI_ne (Y := 44) rfl rfl c_104), (Or.inr ⟨(xI_ne (Y := 45) rfl rfl c_128), (Or.inr ⟨(xI_ne (Y := 46) rfl rfl c_130), (Or.inr ⟨(xI_ne (Y := 47) rfl rfl c_154), (Or.inr ⟨(xI_ne (Y := 48) rfl rfl c_157), (Or.inr ⟨(xI_ne (Y := 49) rfl rfl c_181), (Or.inr ⟨(xI_ne (Y := 50) rfl rfl c_205), (Or.inr ⟨(xI_ne (Y := 51) rfl rfl c_229), (Or.inr ⟨(xI_ne (Y := 52) rfl rfl c_253), (Or.inr ⟨(xI_ne (Y := 53) rfl rfl c_277), (Or.inr ⟨(xI_ne (Y := 54) rfl rfl c_301), (Or.inl ⟨c_325, (Or.inl ⟨c_326, (Or.inl ⟨c_334, ⟨r_336, G_337, hX_340, ⟨rfl, rfl⟩⟩⟩)⟩)⟩)⟩)⟩)⟩)⟩)⟩)⟩)⟩)⟩)⟩)⟩)⟩)⟩)⟩)⟩)⟩)⟩)⟩)⟩)⟩), wd_t ht hW⟩, hS.F ht⟩) hS.2.2 dX12_done_231
      · have c_334 : p2.toInt ≠ 0 := xI_ne rfl rfl c_334
        refine ic_1 hx hb dX12_done_223 ?_
        refine lv_goto (tgt := 228) hx hb dX12_done_224 rfl ?_
        have qc_342 : (1 : Int32).toInt = 1 := rfl
        refine S_calli (va_runS (As := [.int 1]) (rest := []) ⟨hx, hb, hml, hown, hts⟩ (n_truth l D k A a z G 1 ⟨by decide, by decide⟩) (va_cwS 1 hts (gd_S hgd m1788 m1789 m131 m1790) rfl rfl rfl hd_X12_truth.2 ⟨Nat.le_of_ble_eq_true rfl, Nat.le_of_ble_eq_true rfl⟩) (pre_S hW hB_G hK hZ hS) rfl rfl hl.1 rfl (lv_room (Nat.le_of_ble_eq_true rfl)) dX12_done_228 ⟨Nat.le_of_ble_eq_true rfl, Nat.le_of_ble_eq_true rfl⟩) hS (fun r_343 G_344 H locs hpo hW hS => ?_)
        have hX_347 : Q_truth 1 G r_343 G_344 := hpo
        obtain ⟨hB_G_344, hq_345, f_348, hp_346, -⟩ := hpo
        have hF := hF.call9 hq_345 rfl rfl
        exact W.iret (v := r_343) hx hb hr (fun t ht _ => ⟨⟨r_343, G_344, rfl, (Q_done_mk ⟨hB_G_344, hF, (Or.inr ⟨(xI_ne (Y := 37) rfl rfl c_1), (Or.inr ⟨(xI_ne (Y := 38) rfl rfl c_4), (Or.inr ⟨(xI_ne (Y := 39) rfl rfl c_28), (Or.inr ⟨(xI_ne (Y := 40) rfl rfl c_52), (Or.inr ⟨(xI_ne (Y := 41) rfl rfl c_76), (Or.inr ⟨(xI_ne (Y := 42) rfl rfl c_100), (Or.inr ⟨(xI_ne (Y := 43) rfl rfl c_102), (Or.inr ⟨(xI_ne (Y := 44) rfl rfl c_104), (Or.inr ⟨(xI_ne (Y := 45) rfl rfl c_128), (Or.inr ⟨(xI_ne (Y := 46) rfl rfl c_130), (Or.inr ⟨(xI_ne (Y := 47) rfl rfl c_154), (Or.inr ⟨(xI_ne (Y := 48) rfl rfl c_157), (Or.inr ⟨(xI_ne (Y := 49) rfl rfl c_181), (Or.inr ⟨(xI_ne (Y := 50) rfl rfl c_205), (Or.inr ⟨(xI_ne (Y := 51) rfl rfl c_229), (Or.inr ⟨(xI_ne (Y := 52) rfl rfl c_253), (Or.inr ⟨(xI_ne (Y := 53) rfl rfl c_277), (Or.inr ⟨(xI_ne (Y := 54) rfl rfl c_301), (Or.inl ⟨c_325, (Or.inl ⟨c_326, (Or.inr ⟨c_334, ⟨r_343, G_344, hX_347, ⟨rfl, rfl⟩⟩⟩)⟩)⟩)⟩)⟩)⟩)⟩)⟩)⟩)⟩)⟩)⟩)⟩)⟩)⟩)⟩)⟩)⟩)⟩)⟩)⟩)⟩), wd_t ht hW⟩, hS.F ht⟩) hS.2.2 dX12_done_231
  by_cases c_349 : p0 = 56
  · refine lv_tableIn (tgt := 215) hx hb dX12_done_1 (by rw [c_349]; decide) (by rw [c_349]; decide) (off := 214) (by rw [c_349]; decide) (by decide) ?_
    have c_349 : p0.toInt = 56 := xI_eq rfl rfl c_349
    refine lv_iload_n hx hb dX12_done_215 rfl (lv_at hl 1 rfl) ?_
    refine lv_if_ne (tgt := 223) hx hb dX12_done_216 rfl (fun c_350 => ?_) (fun c_350 => ?_)
    · have c_350 : p1.toInt ≠ 0 := xI_ne rfl rfl c_350
      refine ic_1 hx hb dX12_done_223 ?_
      refine lv_goto (tgt := 228) hx hb dX12_done_224 rfl ?_
      have qc_351 : (1 : Int32).toInt = 1 := rfl
      refine S_calli (va_runS (As := [.int 1]) (rest := []) ⟨hx, hb, hml, hown, hts⟩ (n_truth l D k A a z G 1 ⟨by decide, by decide⟩) (va_cwS 1 hts (gd_S hgd m1788 m1789 m131 m1790) rfl rfl rfl hd_X12_truth.2 ⟨Nat.le_of_ble_eq_true rfl, Nat.le_of_ble_eq_true rfl⟩) (pre_S hW hB_G hK hZ hS) rfl rfl hl.1 rfl (lv_room (Nat.le_of_ble_eq_true rfl)) dX12_done_228 ⟨Nat.le_of_ble_eq_true rfl, Nat.le_of_ble_eq_true rfl⟩) hS (fun r_352 G_353 H locs hpo hW hS => ?_)
      have hX_356 : Q_truth 1 G r_352 G_353 := hpo
      obtain ⟨hB_G_353, hq_354, f_357, hp_355, -⟩ := hpo
      have hF := hF.call9 hq_354 rfl rfl
      exact W.iret (v := r_352) hx hb hr (fun t ht _ => ⟨⟨r_352, G_353, rfl, (Q_done_mk ⟨hB_G_353, hF, (Or.inr ⟨(xI_ne (Y := 37) rfl rfl c_1), (Or.inr ⟨(xI_ne (Y := 38) rfl rfl c_4), (Or.inr ⟨(xI_ne (Y := 39) rfl rfl c_28), (Or.inr ⟨(xI_ne (Y := 40) rfl rfl c_52), (Or.inr ⟨(xI_ne (Y := 41) rfl rfl c_76), (Or.inr ⟨(xI_ne (Y := 42) rfl rfl c_100), (Or.inr ⟨(xI_ne (Y := 43) rfl rfl c_102), (Or.inr ⟨(xI_ne (Y := 44) rfl rfl c_104), (Or.inr ⟨(xI_ne (Y := 45) rfl rfl c_128), (Or.inr ⟨(xI_ne (Y := 46) rfl rfl c_130), (Or.inr ⟨(xI_ne (Y := 47) rfl rfl c_154), (Or.inr ⟨(xI_ne (Y := 48) rfl rfl c_157), (Or.inr ⟨(xI_ne (Y := 49) rfl rfl c_181), (Or.inr ⟨(xI_ne (Y := 50) rfl rfl c_205), (Or.inr ⟨(xI_ne (Y := 51) rfl rfl c_229), (Or.inr ⟨(xI_ne (Y := 52) rfl rfl c_253), (Or.inr ⟨(xI_ne (Y := 53) rfl rfl c_277), (Or.inr ⟨(xI_ne (Y := 54) rfl rfl c_301), (Or.inr ⟨(xI_ne (Y := 55) rfl rfl c_325), (Or.inl ⟨c_349, (Or.inr ⟨c_350, ⟨r_352, G_353, hX_356, ⟨rfl, rfl⟩⟩⟩)⟩)⟩)⟩)⟩)⟩)⟩)⟩)⟩)⟩)⟩)⟩)⟩)⟩)⟩)⟩)⟩)⟩)⟩)⟩)⟩)⟩), wd_t ht hW⟩, hS.F ht⟩) hS.2.2 dX12_done_231
    · have c_350 : p1.toInt = 0 := xI_eq rfl rfl c_350
      refine lv_iload_n hx hb dX12_done_219 rfl (lv_at hl 2 rfl) ?_
      refine lv_if_eq (tgt := 227) hx hb dX12_done_220 rfl (fun c_358 => ?_) (fun c_358 => ?_)
      · have c_358 : p2.toInt = 0 := xI_eq rfl rfl c_358
        refine ic_0 hx hb dX12_done_227 ?_
        have qc_359 : (0 : Int32).toInt = 0 := rfl
        refine S_calli (va_runS (As := [.int 0]) (rest := []) ⟨hx, hb, hml, hown, hts⟩ (n_truth l D k A a z G 0 ⟨by decide, by decide⟩) (va_cwS 1 hts (gd_S hgd m1788 m1789 m131 m1790) rfl rfl rfl hd_X12_truth.2 ⟨Nat.le_of_ble_eq_true rfl, Nat.le_of_ble_eq_true rfl⟩) (pre_S hW hB_G hK hZ hS) rfl rfl hl.1 rfl (lv_room (Nat.le_of_ble_eq_true rfl)) dX12_done_228 ⟨Nat.le_of_ble_eq_true rfl, Nat.le_of_ble_eq_true rfl⟩) hS (fun r_360 G_361 H locs hpo hW hS => ?_)
        have hX_364 : Q_truth 0 G r_360 G_361 := hpo
        obtain ⟨hB_G_361, hq_362, f_365, hp_363, -⟩ := hpo
        have hF := hF.call9 hq_362 rfl rfl
        exact W.iret (v := r_360) hx hb hr (fun t ht _ => ⟨⟨r_360, G_361, rfl, (Q_done_mk ⟨hB_G_361, hF, (Or.inr ⟨(xI_ne (Y := 37) rfl rfl c_1), (Or.inr ⟨(xI_ne (Y := 38) rfl rfl c_4), (Or.inr ⟨(xI_ne (Y := 39) rfl rfl c_28), (Or.inr ⟨(xI_ne (Y := 40) rfl rfl c_52), (Or.inr ⟨(xI_ne (Y := 41) rfl rfl c_76), (Or.inr ⟨(xI_ne (Y := 42) rfl rfl c_100), (Or.inr ⟨(xI_ne (Y := 43) rfl rfl c_102), (Or.inr ⟨(xI_ne (Y := 44) rfl rfl c_104), (Or.inr ⟨(xI_ne (Y := 45) rfl rfl c_128), (Or.inr ⟨(xI_ne (Y := 46) rfl rfl c_130), (Or.inr ⟨(xI_ne (Y := 47) rfl rfl c_154), (Or.inr ⟨(xI_ne (Y := 48) rfl rfl c_157), (Or.inr ⟨(xI_ne (Y := 49) rfl rfl c_181), (Or.inr ⟨(xI_ne (Y := 50) rfl rfl c_205), (Or.inr ⟨(xI_ne (Y := 51) rfl rfl c_229), (Or.inr ⟨(xI_ne (Y := 52) rfl rfl c_253), (Or.inr ⟨(xI_ne (Y := 53) rfl rfl c_277), (Or.inr ⟨(xI_ne (Y := 54) rfl rfl c_301), (Or.inr ⟨(xI_ne (Y := 55) rfl rfl c_325), (Or.inl ⟨c_349, (Or.inl ⟨c_350, (Or.inl ⟨c_358, ⟨r_360, G_361, hX_364, ⟨rfl, rfl⟩⟩⟩)⟩)⟩)⟩)⟩)⟩)⟩)⟩)⟩)⟩)⟩)⟩)⟩)⟩)⟩)⟩)⟩)⟩)⟩)⟩)⟩)⟩)⟩), wd_t ht hW⟩, hS.F ht⟩) hS.2.2 dX12_done_231
      · have c_358 : p2.toInt ≠ 0 := xI_ne rfl rfl c_358
        refine ic_1 hx hb dX12_done_223 ?_
        refine lv_goto (tgt := 228) hx hb dX12_done_224 rfl ?_
        have qc_366 : (1 : Int32).toInt = 1 := rfl
        refine S_calli (va_runS (As := [.int 1]) (rest := []) ⟨hx, hb, hml, hown, hts⟩ (n_truth l D k A a z G 1 ⟨by decide, by decide⟩) (va_cwS 1 hts (gd_S hgd m1788 m1789 m131 m1790) rfl rfl rfl hd_X12_truth.2 ⟨Nat.le_of_ble_eq_true rfl, Nat.le_of_ble_eq_true rfl⟩) (pre_S hW hB_G hK hZ hS) rfl rfl hl.1 rfl (lv_room (Nat.le_of_ble_eq_true rfl)) dX12_done_228 ⟨Nat.le_of_ble_eq_true rfl, Nat.le_of_ble_eq_true rfl⟩) hS (fun r_367 G_368 H locs hpo hW hS => ?_)
        have hX_371 : Q_truth 1 G r_367 G_368 := hpo
        obtain ⟨hB_G_368, hq_369, f_372, hp_370, -⟩ := hpo
        have hF := hF.call9 hq_369 rfl rfl
        exact W.iret (v := r_367) hx hb hr (fun t ht _ => ⟨⟨r_367, G_368, rfl, (Q_done_mk ⟨hB_G_368, hF, (Or.inr ⟨(xI_ne (Y := 37) rfl rfl c_1), (Or.inr ⟨(xI_ne (Y := 38) rfl rfl c_4), (Or.inr ⟨(xI_ne (Y := 39) rfl rfl c_28), (Or.inr ⟨(xI_ne (Y := 40) rfl rfl c_52), (Or.inr ⟨(xI_ne (Y := 41) rfl rfl c_76), (Or.inr ⟨(xI_ne (Y := 42) rfl rfl c_100), (Or.inr ⟨(xI_ne (Y := 43) rfl rfl c_102), (Or.inr ⟨(xI_ne (Y := 44) rfl rfl c_104), (Or.inr ⟨(xI_ne (Y := 45) rfl rfl c_128), (Or.inr ⟨(xI_ne (Y := 46) rfl rfl c_130), (Or.inr ⟨(xI_ne (Y := 47) rfl rfl c_154), (Or.inr ⟨(xI_ne (Y := 48) rfl rfl c_157), (Or.inr ⟨(xI_ne (Y := 49) rfl rfl c_181), (Or.inr ⟨(xI_ne (Y := 50) rfl rfl c_205), (Or.inr ⟨(xI_ne (Y := 51) rfl rfl c_229), (Or.inr ⟨(xI_ne (Y := 52) rfl rfl c_253), (Or.inr ⟨(xI_ne (Y := 53) rfl rfl c_277), (Or.inr ⟨(xI_ne (Y := 54) rfl rfl c_301), (Or.inr ⟨(xI_ne (Y := 55) rfl rfl c_325), (Or.inl ⟨c_349, (Or.inl ⟨c_350, (Or.inr ⟨c_358, ⟨r_367, G_368, hX_371, ⟨rfl, rfl⟩⟩⟩)⟩)⟩)⟩)⟩)⟩)⟩)⟩)⟩)⟩)⟩)⟩)⟩)⟩)⟩)⟩)⟩)⟩)⟩)⟩)⟩)⟩)⟩), wd_t ht hW⟩, hS.F ht⟩) hS.2.2 dX12_done_231
  by_cases c_373 : p0 = 57
  · refine lv_tableIn (tgt := 215) hx hb dX12_done_1 (by rw [c_373]; decide) (by rw [c_373]; decide) (off := 214) (by rw [c_373]; decide) (by decide) ?_
    have c_373 : p0.toInt = 57 := xI_eq rfl rfl c_373
    refine lv_iload_n hx hb dX12_done_215 rfl (lv_at hl 1 rfl) ?_
    refine lv_if_ne (tgt := 223) hx hb dX12_done_216 rfl (fun c_374 => ?_) (fun c_374 => ?_)
    · have c_374 : p1.toInt ≠ 0 := xI_ne rfl rfl c_374
      refine ic_1 hx hb dX12_done_223 ?_
      refine lv_goto (tgt := 228) hx hb dX12_done_224 rfl ?_
      have qc_375 : (1 : Int32).toInt = 1 := rfl
      refine S_calli (va_runS (As := [.int 1]) (rest := []) ⟨hx, hb, hml, hown, hts⟩ (n_truth l D k A a z G 1 ⟨by decide, by decide⟩) (va_cwS 1 hts (gd_S hgd m1788 m1789 m131 m1790) rfl rfl rfl hd_X12_truth.2 ⟨Nat.le_of_ble_eq_true rfl, Nat.le_of_ble_eq_true rfl⟩) (pre_S hW hB_G hK hZ hS) rfl rfl hl.1 rfl (lv_room (Nat.le_of_ble_eq_true rfl)) dX12_done_228 ⟨Nat.le_of_ble_eq_true rfl, Nat.le_of_ble_eq_true rfl⟩) hS (fun r_376 G_377 H locs hpo hW hS => ?_)
      have hX_380 : Q_truth 1 G r_376 G_377 := hpo
      obtain ⟨hB_G_377, hq_378, f_381, hp_379, -⟩ := hpo
      have hF := hF.call9 hq_378 rfl rfl
      exact W.iret (v := r_376) hx hb hr (fun t ht _ => ⟨⟨r_376, G_377, rfl, (Q_done_mk ⟨hB_G_377, hF, (Or.inr ⟨(xI_ne (Y := 37) rfl rfl c_1), (Or.inr ⟨(xI_ne (Y := 38) rfl rfl c_4), (Or.inr ⟨(xI_ne (Y := 39) rfl rfl c_28), (Or.inr ⟨(xI_ne (Y := 40) rfl rfl c_52), (Or.inr ⟨(xI_ne (Y := 41) rfl rfl c_76), (Or.inr ⟨(xI_ne (Y := 42) rfl rfl c_100), (Or.inr ⟨(xI_ne (Y := 43) rfl rfl c_102), (Or.inr ⟨(xI_ne (Y := 44) rfl rfl c_104), (Or.inr ⟨(xI_ne (Y := 45) rfl rfl c_128), (Or.inr ⟨(xI_ne (Y := 46) rfl rfl c_130), (Or.inr ⟨(xI_ne (Y := 47) rfl rfl c_154), (Or.inr ⟨(xI_ne (Y := 48) rfl rfl c_157), (Or.inr ⟨(xI_ne (Y := 49) rfl rfl c_181), (Or.inr ⟨(xI_ne (Y := 50) rfl rfl c_205), (Or.inr ⟨(xI_ne (Y := 51) rfl rfl c_229), (Or.inr ⟨(xI_ne (Y := 52) rfl rfl c_253), (Or.inr ⟨(xI_ne (Y := 53) rfl rfl c_277), (Or.inr ⟨(xI_ne (Y := 54) rfl rfl c_301), (Or.inr ⟨(xI_ne (Y := 55) rfl rfl c_325), (Or.inr ⟨(xI_ne (Y := 56) rfl rfl c_349), (Or.inl ⟨c_373, (Or.inr ⟨c_374, ⟨r_376, G_377, hX_380, ⟨rfl, rfl⟩⟩⟩)⟩)⟩)⟩)⟩)⟩)⟩)⟩)⟩)⟩)⟩)⟩)⟩)⟩)⟩)⟩)⟩)⟩)⟩)⟩)⟩)⟩)⟩), wd_t ht hW⟩, hS.F ht⟩) hS.2.2 dX12_done_231
    · have c_374 : p1.toInt = 0 := xI_eq rfl rfl c_374
      refine lv_iload_n hx hb dX12_done_219 rfl (lv_at hl 2 rfl) ?_
      refine lv_if_eq (tgt := 227) hx hb dX12_done_220 rfl (fun c_382 => ?_) (fun c_382 => ?_)
      · have c_382 : p2.toInt = 0 := xI_eq rfl rfl c_382
        refine ic_0 hx hb dX12_done_227 ?_
        have qc_383 : (0 : Int32).toInt = 0 := rfl
        refine S_calli (va_runS (As := [.int 0]) (rest := []) ⟨hx, hb, hml, hown, hts⟩ (n_truth l D k A a z G 0 ⟨by decide, by decide⟩) (va_cwS 1 hts (gd_S hgd m1788 m1789 m131 m1790) rfl rfl rfl hd_X12_truth.2 ⟨Nat.le_of_ble_eq_true rfl, Nat.le_of_ble_eq_true rfl⟩) (pre_S hW hB_G hK hZ hS) rfl rfl hl.1 rfl (lv_room (Nat.le_of_ble_eq_true rfl)) dX12_done_228 ⟨Nat.le_of_ble_eq_true rfl, Nat.le_of_ble_eq_true rfl⟩) hS (fun r_384 G_385 H locs hpo hW hS => ?_)
        have hX_388 : Q_truth 0 G r_384 G_385 := hpo
        obtain ⟨hB_G_385, hq_386, f_389, hp_387, -⟩ := hpo
        have hF := hF.call9 hq_386 rfl rfl
        exact W.iret (v := r_384) hx hb hr (fun t ht _ => ⟨⟨r_384, G_385, rfl, (Q_done_mk ⟨hB_G_385, hF, (Or.inr ⟨(xI_ne (Y := 37) rfl rfl c_1), (Or.inr ⟨(xI_ne (Y := 38) rfl rfl c_4), (Or.inr ⟨(xI_ne (Y := 39) rfl rfl c_28), (Or.inr ⟨(xI_ne (Y := 40) rfl rfl c_52), (Or.inr ⟨(xI_ne (Y := 41) rfl rfl c_76), (Or.inr ⟨(xI_ne (Y := 42) rfl rfl c_100), (Or.inr ⟨(xI_ne (Y := 43) rfl rfl c_102), (Or.inr ⟨(xI_ne (Y := 44) rfl rfl c_104), (Or.inr ⟨(xI_ne (Y := 45) rfl rfl c_128), (Or.inr ⟨(xI_ne (Y := 46) rfl rfl c_130), (Or.inr ⟨(xI_ne (Y := 47) rfl rfl c_154), (Or.inr ⟨(xI_ne (Y := 48) rfl rfl c_157), (Or.inr ⟨(xI_ne (Y := 49) rfl rfl c_181), (Or.inr ⟨(xI_ne (Y := 50) rfl rfl c_205), (Or.inr ⟨(xI_ne (Y := 51) rfl rfl c_229), (Or.inr ⟨(xI_ne (Y := 52) rfl rfl c_253), (Or.inr ⟨(xI_ne (Y := 53) rfl rfl c_277), (Or.inr ⟨(xI_ne (Y := 54) rfl rfl c_301), (Or.inr ⟨(xI_ne (Y := 55) rfl rfl c_325), (Or.inr ⟨(xI_ne (Y := 56) rfl rfl c_349), (Or.inl ⟨c_373, (Or.inl ⟨c_374, (Or.inl ⟨c_382, ⟨r_384, G_385, hX_388, ⟨rfl, rfl⟩⟩⟩)⟩)⟩)⟩)⟩)⟩)⟩)⟩)⟩)⟩)⟩)⟩)⟩)⟩)⟩)⟩)⟩)⟩)⟩)⟩)⟩)⟩)⟩)⟩), wd_t ht hW⟩, hS.F ht⟩) hS.2.2 dX12_done_231
      · have c_382 : p2.toInt ≠ 0 := xI_ne rfl rfl c_382
        refine ic_1 hx hb dX12_done_223 ?_
        refine lv_goto (tgt := 228) hx hb dX12_done_224 rfl ?_
        have qc_390 : (1 : Int32).toInt = 1 := rfl
        refine S_calli (va_runS (As := [.int 1]) (rest := []) ⟨hx, hb, hml, hown, hts⟩ (n_truth l D k A a z G 1 ⟨by decide, by decide⟩) (va_cwS 1 hts (gd_S hgd m1788 m1789 m131 m1790) rfl rfl rfl hd_X12_truth.2 ⟨Nat.le_of_ble_eq_true rfl, Nat.le_of_ble_eq_true rfl⟩) (pre_S hW hB_G hK hZ hS) rfl rfl hl.1 rfl (lv_room (Nat.le_of_ble_eq_true rfl)) dX12_done_228 ⟨Nat.le_of_ble_eq_true rfl, Nat.le_of_ble_eq_true rfl⟩) hS (fun r_391 G_392 H locs hpo hW hS => ?_)
        have hX_395 : Q_truth 1 G r_391 G_392 := hpo
        obtain ⟨hB_G_392, hq_393, f_396, hp_394, -⟩ := hpo
        have hF := hF.call9 hq_393 rfl rfl
        exact W.iret (v := r_391) hx hb hr (fun t ht _ => ⟨⟨r_391, G_392, rfl, (Q_done_mk ⟨hB_G_392, hF, (Or.inr ⟨(xI_ne (Y := 37) rfl rfl c_1), (Or.inr ⟨(xI_ne (Y := 38) rfl rfl c_4), (Or.inr ⟨(xI_ne (Y := 39) rfl rfl c_28), (Or.inr ⟨(xI_ne (Y := 40) rfl rfl c_52), (Or.inr ⟨(xI_ne (Y := 41) rfl rfl c_76), (Or.inr ⟨(xI_ne (Y := 42) rfl rfl c_100), (Or.inr ⟨(xI_ne (Y := 43) rfl rfl c_102), (Or.inr ⟨(xI_ne (Y := 44) rfl rfl c_104), (Or.inr ⟨(xI_ne (Y := 45) rfl rfl c_128), (Or.inr ⟨(xI_ne (Y := 46) rfl rfl c_130), (Or.inr ⟨(xI_ne (Y := 47) rfl rfl c_154), (Or.inr ⟨(xI_ne (Y := 48) rfl rfl c_157), (Or.inr ⟨(xI_ne (Y := 49) rfl rfl c_181), (Or.inr ⟨(xI_ne (Y := 50) rfl rfl c_205), (Or.inr ⟨(xI_ne (Y := 51) rfl rfl c_229), (Or.inr ⟨(xI_ne (Y := 52) rfl rfl c_253), (Or.inr ⟨(xI_ne (Y := 53) rfl rfl c_277), (Or.inr ⟨(xI_ne (Y := 54) rfl rfl c_301), (Or.inr ⟨(xI_ne (Y := 55) rfl rfl c_325), (Or.inr ⟨(xI_ne (Y := 56) rfl rfl c_349), (Or.inl ⟨c_373, (Or.inl ⟨c_374, (Or.inr ⟨c_382, ⟨r_391, G_392, hX_395, ⟨rfl, rfl⟩⟩⟩)⟩)⟩)⟩)⟩)⟩)⟩)⟩)⟩)⟩)⟩)⟩)⟩)⟩)⟩)⟩)⟩)⟩)⟩)⟩)⟩)⟩)⟩)⟩), wd_t ht hW⟩, hS.F ht⟩) hS.2.2 dX12_done_231
  by_cases c_397 : p0 = 58
  · refine lv_tableIn (tgt := 215) hx hb dX12_done_1 (by rw [c_397]; decide) (by rw [c_397]; decide) (off := 214) (by rw [c_397]; decide) (by decide) ?_
    have c_397 : p0.toInt = 58 := xI_eq rfl rfl c_397
    refine lv_iload_n hx hb dX12_done_215 rfl (lv_at hl 1 rfl) ?_
    refine lv_if_ne (tgt := 223) hx hb dX12_done_216 rfl (fun c_398 => ?_) (fun c_398 => ?_)
    · have c_398 : p1.toInt ≠ 0 := xI_ne rfl rfl c_398
      refine ic_1 hx hb dX12_done_223 ?_
      refine lv_goto (tgt := 228) hx hb dX12_done_224 rfl ?_
      have qc_399 : (1 : Int32).toInt = 1 := rfl
      refine S_calli (va_runS (As := [.int 1]) (rest := []) ⟨hx, hb, hml, hown, hts⟩ (n_truth l D k A a z G 1 ⟨by decide, by decide⟩) (va_cwS 1 hts (gd_S hgd m1788 m1789 m131 m1790) rfl rfl rfl hd_X12_truth.2 ⟨Nat.le_of_ble_eq_true rfl, Nat.le_of_ble_eq_true rfl⟩) (pre_S hW hB_G hK hZ hS) rfl rfl hl.1 rfl (lv_room (Nat.le_of_ble_eq_true rfl)) dX12_done_228 ⟨Nat.le_of_ble_eq_true rfl, Nat.le_of_ble_eq_true rfl⟩) hS (fun r_400 G_401 H locs hpo hW hS => ?_)
      have hX_404 : Q_truth 1 G r_400 G_401 := hpo
      obtain ⟨hB_G_401, hq_402, f_405, hp_403, -⟩ := hpo
      have hF := hF.call9 hq_402 rfl rfl
      exact W.iret (v := r_400) hx hb hr (fun t ht _ => ⟨⟨r_400, G_401, rfl, (Q_done_mk ⟨hB_G_401, hF, (Or.inr ⟨(xI_ne (Y := 37) rfl rfl c_1), (Or.inr ⟨(xI_ne (Y := 38) rfl rfl c_4), (Or.inr ⟨(xI_ne (Y := 39) rfl rfl c_28), (Or.inr ⟨(xI_ne (Y := 40) rfl rfl c_52), (Or.inr ⟨(xI_ne (Y := 41) rfl rfl c_76), (Or.inr ⟨(xI_ne (Y := 42) rfl rfl c_100), (Or.inr ⟨(xI_ne (Y := 43) rfl rfl c_102), (Or.inr ⟨(xI_ne (Y := 44) rfl rfl c_104), (Or.inr ⟨(xI_ne (Y := 45) rfl rfl c_128), (Or.inr ⟨(xI_ne (Y := 46) rfl rfl c_130), (Or.inr ⟨(xI_ne (Y := 47) rfl rfl c_154), (Or.inr ⟨(xI_ne (Y := 48) rfl rfl c_157), (Or.inr ⟨(xI_ne (Y := 49) rfl rfl c_181), (Or.inr ⟨(xI_ne (Y := 50) rfl rfl c_205), (Or.inr ⟨(xI_ne (Y := 51) rfl rfl c_229), (Or.inr ⟨(xI_ne (Y := 52) rfl rfl c_253), (Or.inr ⟨(xI_ne (Y := 53) rfl rfl c_277), (Or.inr ⟨(xI_ne (Y := 54) rfl rfl c_301), (Or.inr ⟨(xI_ne (Y := 55) rfl rfl c_325), (Or.inr ⟨(xI_ne (Y := 56) rfl rfl c_349), (Or.inr ⟨(xI_ne (Y := 57) rfl rfl c_373), (Or.inl ⟨c_397, (Or.inr ⟨c_398, ⟨r_400, G_401, hX_404, ⟨rfl, rfl⟩⟩⟩)⟩)⟩)⟩)⟩)⟩)⟩)⟩)⟩)⟩)⟩)⟩)⟩)⟩)⟩)⟩)⟩)⟩)⟩)⟩)⟩)⟩)⟩)⟩), wd_t ht hW⟩, hS.F ht⟩) hS.2.2 dX12_done_231
    · have c_398 : p1.toInt = 0 := xI_eq rfl rfl c_398
      refine lv_iload_n hx hb dX12_done_219 rfl (lv_at hl 2 rfl) ?_
      refine lv_if_eq (tgt := 227) hx hb dX12_done_220 rfl (fun c_406 => ?_) (fun c_406 => ?_)
      · have c_406 : p2.toInt = 0 := xI_eq rfl rfl c_406
        refine ic_0 hx hb dX12_done_227 ?_
        have qc_407 : (0 : Int32).toInt = 0 := rfl
        refine S_calli (va_runS (As := [.int 0]) (rest := []) ⟨hx, hb, hml, hown, hts⟩ (n_truth l D k A a z G 0 ⟨by decide, by decide⟩) (va_cwS 1 hts (gd_S hgd m1788 m1789 m131 m1790) rfl rfl rfl hd_X12_truth.2 ⟨Nat.le_of_ble_eq_true rfl, Nat.le_of_ble_eq_true rfl⟩) (pre_S hW hB_G hK hZ hS) rfl rfl hl.1 rfl (lv_room (Nat.le_of_ble_eq_true rfl)) dX12_done_228 ⟨Nat.le_of_ble_eq_true rfl, Nat.le_of_ble_eq_true rfl⟩) hS (fun r_408 G_409 H locs hpo hW hS => ?_)
        have hX_412 : Q_truth 0 G r_408 G_409 := hpo
        obtain ⟨hB_G_409, hq_410, f_413, hp_411, -⟩ := hpo
        have hF := hF.call9 hq_410 rfl rfl
        exact W.iret (v := r_408) hx hb hr (fun t ht _ => ⟨⟨r_408, G_409, rfl, (Q_done_mk ⟨hB_G_409, hF, (Or.inr ⟨(xI_ne (Y := 37) rfl rfl c_1), (Or.inr ⟨(xI_ne (Y := 38) rfl rfl c_4), (Or.inr ⟨(xI_ne (Y := 39) rfl rfl c_28), (Or.inr ⟨(xI_ne (Y := 40) rfl rfl c_52), (Or.inr ⟨(xI_ne (Y := 41) rfl rfl c_76), (Or.inr ⟨(xI_ne (Y := 42) rfl rfl c_100), (Or.inr ⟨(xI_ne (Y := 43) rfl rfl c_102), (Or.inr ⟨(xI_ne (Y := 44) rfl rfl c_104), (Or.inr ⟨(xI_ne (Y := 45) rfl rfl c_128), (Or.inr ⟨(xI_ne (Y := 46) rfl rfl c_130), (Or.inr ⟨(xI_ne (Y := 47) rfl rfl c_154), (Or.inr ⟨(xI_ne (Y := 48) rfl rfl c_157), (Or.inr ⟨(xI_ne (Y := 49) rfl rfl c_181), (Or.inr ⟨(xI_ne (Y := 50) rfl rfl c_205), (Or.inr ⟨(xI_ne (Y := 51) rfl rfl c_229), (Or.inr ⟨(xI_ne (Y := 52) rfl rfl c_253), (Or.inr ⟨(xI_ne (Y := 53) rfl rfl c_277), (Or.inr ⟨(xI_ne (Y := 54) rfl rfl c_301), (Or.inr ⟨(xI_ne (Y := 55) rfl rfl c_325), (Or.inr ⟨(xI_ne (Y := 56) rfl rfl c_349), (Or.inr ⟨(xI_ne (Y := 57) rfl rfl c_373), (Or.inl ⟨c_397, (Or.inl ⟨c_398, (Or.inl ⟨c_406, ⟨r_408, G_409, hX_412, ⟨rfl, rfl⟩⟩⟩)⟩)⟩)⟩)⟩)⟩)⟩)⟩)⟩)⟩)⟩)⟩)⟩)⟩)⟩)⟩)⟩)⟩)⟩)⟩)⟩)⟩)⟩)⟩)⟩), wd_t ht hW⟩, hS.F ht⟩) hS.2.2 dX12_done_231
      · have c_406 : p2.toInt ≠ 0 := xI_ne rfl rfl c_406
        refine ic_1 hx hb dX12_done_223 ?_
        refine lv_goto (tgt := 228) hx hb dX12_done_224 rfl ?_
        have qc_414 : (1 : Int32).toInt = 1 := rfl
        refine S_calli (va_runS (As := [.int 1]) (rest := []) ⟨hx, hb, hml, hown, hts⟩ (n_truth l D k A a z G 1 ⟨by decide, by decide⟩) (va_cwS 1 hts (gd_S hgd m1788 m1789 m131 m1790) rfl rfl rfl hd_X12_truth.2 ⟨Nat.le_of_ble_eq_true rfl, Nat.le_of_ble_eq_true rfl⟩) (pre_S hW hB_G hK hZ hS) rfl rfl hl.1 rfl (lv_room (Nat.le_of_ble_eq_true rfl)) dX12_done_228 ⟨Nat.le_of_ble_eq_true rfl, Nat.le_of_ble_eq_true rfl⟩) hS (fun r_415 G_416 H locs hpo hW hS => ?_)
        have hX_419 : Q_truth 1 G r_415 G_416 := hpo
        obtain ⟨hB_G_416, hq_417, f_420, hp_418, -⟩ := hpo
        have hF := hF.call9 hq_417 rfl rfl
        exact W.iret (v := r_415) hx hb hr (fun t ht _ => ⟨⟨r_415, G_416, rfl, (Q_done_mk ⟨hB_G_416, hF, (Or.inr ⟨(xI_ne (Y := 37) rfl rfl c_1), (Or.inr ⟨(xI_ne (Y := 38) rfl rfl c_4), (Or.inr ⟨(xI_ne (Y := 39) rfl rfl c_28), (Or.inr ⟨(xI_ne (Y := 40) rfl rfl c_52), (Or.inr ⟨(xI_ne (Y := 41) rfl rfl c_76), (Or.inr ⟨(xI_ne (Y := 42) rfl rfl c_100), (Or.inr ⟨(xI_ne (Y := 43) rfl rfl c_102), (Or.inr ⟨(xI_ne (Y := 44) rfl rfl c_104), (Or.inr ⟨(xI_ne (Y := 45) rfl rfl c_128), (Or.inr ⟨(xI_ne (Y := 46) rfl rfl c_130), (Or.inr ⟨(xI_ne (Y := 47) rfl rfl c_154), (Or.inr ⟨(xI_ne (Y := 48) rfl rfl c_157), (Or.inr ⟨(xI_ne (Y := 49) rfl rfl c_181), (Or.inr ⟨(xI_ne (Y := 50) rfl rfl c_205), (Or.inr ⟨(xI_ne (Y := 51) rfl rfl c_229), (Or.inr ⟨(xI_ne (Y := 52) rfl rfl c_253), (Or.inr ⟨(xI_ne (Y := 53) rfl rfl c_277), (Or.inr ⟨(xI_ne (Y := 54) rfl rfl c_301), (Or.inr ⟨(xI_ne (Y := 55) rfl rfl c_325), (Or.inr ⟨(xI_ne (Y := 56) rfl rfl c_349), (Or.inr ⟨(xI_ne (Y := 57) rfl rfl c_373), (Or.inl ⟨c_397, (Or.inl ⟨c_398, (Or.inr ⟨c_406, ⟨r_415, G_416, hX_419, ⟨rfl, rfl⟩⟩⟩)⟩)⟩)⟩)⟩)⟩)⟩)⟩)⟩)⟩)⟩)⟩)⟩)⟩)⟩)⟩)⟩)⟩)⟩)⟩)⟩)⟩)⟩)⟩)⟩), wd_t ht hW⟩, hS.F ht⟩) hS.2.2 dX12_done_231
  by_cases c_421 : p0 = 59
  · refine lv_tableIn (tgt := 215) hx hb dX12_done_1 (by rw [c_421]; decide) (by rw [c_421]; decide) (off := 214) (by rw [c_421]; decide) (by decide) ?_
    have c_421 : p0.toInt = 59 := xI_eq rfl rfl c_421
    refine lv_iload_n hx hb dX12_done_215 rfl (lv_at hl 1 rfl) ?_
    refine lv_if_ne (tgt := 223) hx hb dX12_done_216 rfl (fun c_422 => ?_) (fun c_422 => ?_)
    · have c_422 : p1.toInt ≠ 0 := xI_ne rfl rfl c_422
      refine ic_1 hx hb dX12_done_223 ?_
      refine lv_goto (tgt := 228) hx hb dX12_done_224 rfl ?_
      have qc_423 : (1 : Int32).toInt = 1 := rfl
      refine S_calli (va_runS (As := [.int 1]) (rest := []) ⟨hx, hb, hml, hown, hts⟩ (n_truth l D k A a z G 1 ⟨by decide, by decide⟩) (va_cwS 1 hts (gd_S hgd m1788 m1789 m131 m1790) rfl rfl rfl hd_X12_truth.2 ⟨Nat.le_of_ble_eq_true rfl, Nat.le_of_ble_eq_true rfl⟩) (pre_S hW hB_G hK hZ hS) rfl rfl hl.1 rfl (lv_room (Nat.le_of_ble_eq_true rfl)) dX12_done_228 ⟨Nat.le_of_ble_eq_true rfl, Nat.le_of_ble_eq_true rfl⟩) hS (fun r_424 G_425 H locs hpo hW hS => ?_)
      have hX_428 : Q_truth 1 G r_424 G_425 := hpo
      obtain ⟨hB_G_425, hq_426, f_429, hp_427, -⟩ := hpo
      have hF := hF.call9 hq_426 rfl rfl
      exact W.iret (v := r_424) hx hb hr (fun t ht _ => ⟨⟨r_424, G_425, rfl, (Q_done_mk ⟨hB_G_425, hF, (Or.inr ⟨(xI_ne (Y := 37) rfl rfl c_1), (Or.inr ⟨(xI_ne (Y := 38) rfl rfl c_4), (Or.inr ⟨(xI_ne (Y := 39) rfl rfl c_28), (Or.inr ⟨(xI_ne (Y := 40) rfl rfl c_52), (Or.inr ⟨(xI_ne (Y := 41) rfl rfl c_76), (Or.inr ⟨(xI_ne (Y := 42) rfl rfl c_100), (Or.inr ⟨(xI_ne (Y := 43) rfl rfl c_102), (Or.inr ⟨(xI_ne (Y := 44) rfl rfl c_104), (Or.inr ⟨(xI_ne (Y := 45) rfl rfl c_128), (Or.inr ⟨(xI_ne (Y := 46) rfl rfl c_130), (Or.inr ⟨(xI_ne (Y := 47) rfl rfl c_154), (Or.inr ⟨(xI_ne (Y := 48) rfl rfl c_157), (Or.inr ⟨(xI_ne (Y := 49) rfl rfl c_181), (Or.inr ⟨(xI_ne (Y := 50) rfl rfl c_205), (Or.inr ⟨(xI_ne (Y := 51) rfl rfl c_229), (Or.inr ⟨(xI_ne (Y := 52) rfl rfl c_253), (Or.inr ⟨(xI_ne (Y := 53) rfl rfl c_277), (Or.inr ⟨(xI_ne (Y := 54) rfl rfl c_301), (Or.inr ⟨(xI_ne (Y := 55) rfl rfl c_325), (Or.inr ⟨(xI_ne (Y := 56) rfl rfl c_349), (Or.inr ⟨(xI_ne (Y := 57) rfl rfl c_373), (Or.inr ⟨(xI_ne (Y := 58) rfl rfl c_397), (Or.inl ⟨c_421, (Or.inr ⟨c_422, ⟨r_424, G_425, hX_428, ⟨rfl, rfl⟩⟩⟩)⟩)⟩)⟩)⟩)⟩)⟩)⟩)⟩)⟩)⟩)⟩)⟩)⟩)⟩)⟩)⟩)⟩)⟩)⟩)⟩)⟩)⟩)⟩)⟩), wd_t ht hW⟩, hS.F ht⟩) hS.2.2 dX12_done_231
    · have c_422 : p1.toInt = 0 := xI_eq rfl rfl c_422
      refine lv_iload_n hx hb dX12_done_219 rfl (lv_at hl 2 rfl) ?_
      refine lv_if_eq (tgt := 227) hx hb dX12_done_220 rfl (fun c_430 => ?_) (fun c_430 => ?_)
      · have c_430 : p2.toInt = 0 := xI_eq rfl rfl c_430
        refine ic_0 hx hb dX12_done_227 ?_
        have qc_431 : (0 : Int32).toInt = 0 := rfl
        refine S_calli (va_runS (As := [.int 0]) (rest := []) ⟨hx, hb, hml, hown, hts⟩ (n_truth l D k A a z G 0 ⟨by decide, by decide⟩) (va_cwS 1 hts (gd_S hgd m1788 m1789 m131 m1790) rfl rfl rfl hd_X12_truth.2 ⟨Nat.le_of_ble_eq_true rfl, Nat.le_of_ble_eq_true rfl⟩) (pre_S hW hB_G hK hZ hS) rfl rfl hl.1 rfl (lv_room (Nat.le_of_ble_eq_true rfl)) dX12_done_228 ⟨Nat.le_of_ble_eq_true rfl, Nat.le_of_ble_eq_true rfl⟩) hS (fun r_432 G_433 H locs hpo hW hS => ?_)
        have hX_436 : Q_truth 0 G r_432 G_433 := hpo
        obtain ⟨hB_G_433, hq_434, f_437, hp_435, -⟩ := hpo
        have hF := hF.call9 hq_434 rfl rfl
        exact W.iret (v := r_432) hx hb hr (fun t ht _ => ⟨⟨r_432, G_433, rfl, (Q_done_mk ⟨hB_G_433, hF, (Or.inr ⟨(xI_ne (Y := 37) rfl rfl c_1), (Or.inr ⟨(xI_ne (Y := 38) rfl rfl c_4), (Or.inr ⟨(xI_ne (Y := 39) rfl rfl c_28), (Or.inr ⟨(xI_ne (Y := 40) rfl rfl c_52), (Or.inr ⟨(xI_ne (Y := 41) rfl rfl c_76), (Or.inr ⟨(xI_ne (Y := 42) rfl rfl c_100), (Or.inr ⟨(xI_ne (Y := 43) rfl rfl c_102), (Or.inr ⟨(xI_ne (Y := 44) rfl rfl c_104), (Or.inr ⟨(xI_ne (Y := 45) rfl rfl c_128), (Or.inr ⟨(xI_ne (Y := 46) rfl rfl c_130), (Or.inr ⟨(xI_ne (Y := 47) rfl rfl c_154), (Or.inr ⟨(xI_ne (Y := 48) rfl rfl c_157), (Or.inr ⟨(xI_ne (Y := 49) rfl rfl c_181), (Or.inr ⟨(xI_ne (Y := 50) rfl rfl c_205), (Or.inr ⟨(xI_ne (Y := 51) rfl rfl c_229), (Or.inr ⟨(xI_ne (Y := 52) rfl rfl c_253), (Or.inr ⟨(xI_ne (Y := 53) rfl rfl c_277), (Or.inr ⟨(xI_ne (Y := 54) rfl rfl c_301), (Or.inr ⟨(xI_ne (Y := 55) rfl rfl c_325), (Or.inr ⟨(xI_ne (Y := 56) rfl rfl c_349), (Or.inr ⟨(xI_ne (Y := 57) rfl rfl c_373), (Or.inr ⟨(xI_ne (Y := 58) rfl rfl c_397), (Or.inl ⟨c_421, (Or.inl ⟨c_422, (Or.inl ⟨c_430, ⟨r_432, G_433, hX_436, ⟨rfl, rfl⟩⟩⟩)⟩)⟩)⟩)⟩)⟩)⟩)⟩)⟩)⟩)⟩)⟩)⟩)⟩)⟩)⟩)⟩)⟩)⟩)⟩)⟩)⟩)⟩)⟩)⟩)⟩), wd_t ht hW⟩, hS.F ht⟩) hS.2.2 dX12_done_231
      · have c_430 : p2.toInt ≠ 0 := xI_ne rfl rfl c_430
        refine ic_1 hx hb dX12_done_223 ?_
        refine lv_goto (tgt := 228) hx hb dX12_done_224 rfl ?_
        have qc_438 : (1 : Int32).toInt = 1 := rfl
        refine S_calli (va_runS (As := [.int 1]) (rest := []) ⟨hx, hb, hml, hown, hts⟩ (n_truth l D k A a z G 1 ⟨by decide, by decide⟩) (va_cwS 1 hts (gd_S hgd m1788 m1789 m131 m1790) rfl rfl rfl hd_X12_truth.2 ⟨Nat.le_of_ble_eq_true rfl, Nat.le_of_ble_eq_true rfl⟩) (pre_S hW hB_G hK hZ hS) rfl rfl hl.1 rfl (lv_room (Nat.le_of_ble_eq_true rfl)) dX12_done_228 ⟨Nat.le_of_ble_eq_true rfl, Nat.le_of_ble_eq_true rfl⟩) hS (fun r_439 G_440 H locs hpo hW hS => ?_)
        have hX_443 : Q_truth 1 G r_439 G_440 := hpo
        obtain ⟨hB_G_440, hq_441, f_444, hp_442, -⟩ := hpo
        have hF := hF.call9 hq_441 rfl rfl
        exact W.iret (v := r_439) hx hb hr (fun t ht _ => ⟨⟨r_439, G_440, rfl, (Q_done_mk ⟨hB_G_440, hF, (Or.inr ⟨(xI_ne (Y := 37) rfl rfl c_1), (Or.inr ⟨(xI_ne (Y := 38) rfl rfl c_4), (Or.inr ⟨(xI_ne (Y := 39) rfl rfl c_28), (Or.inr ⟨(xI_ne (Y := 40) rfl rfl c_52), (Or.inr ⟨(xI_ne (Y := 41) rfl rfl c_76), (Or.inr ⟨(xI_ne (Y := 42) rfl rfl c_100), (Or.inr ⟨(xI_ne (Y := 43) rfl rfl c_102), (Or.inr ⟨(xI_ne (Y := 44) rfl rfl c_104), (Or.inr ⟨(xI_ne (Y := 45) rfl rfl c_128), (Or.inr ⟨(xI_ne (Y := 46) rfl rfl c_130), (Or.inr ⟨(xI_ne (Y := 47) rfl rfl c_154), (Or.inr ⟨(xI_ne (Y := 48) rfl rfl c_157), (Or.inr ⟨(xI_ne (Y := 49) rfl rfl c_181), (Or.inr ⟨(xI_ne (Y := 50) rfl rfl c_205), (Or.inr ⟨(xI_ne (Y := 51) rfl rfl c_229), (Or.inr ⟨(xI_ne (Y := 52) rfl rfl c_253), (Or.inr ⟨(xI_ne (Y := 53) rfl rfl c_277), (Or.inr ⟨(xI_ne (Y := 54) rfl rfl c_301), (Or.inr ⟨(xI_ne (Y := 55) rfl rfl c_325), (Or.inr ⟨(xI_ne (Y := 56) rfl rfl c_349), (Or.inr ⟨(xI_ne (Y := 57) rfl rfl c_373), (Or.inr ⟨(xI_ne (Y := 58) rfl rfl c_397), (Or.inl ⟨c_421, (Or.inl ⟨c_422, (Or.inr ⟨c_430, ⟨r_439, G_440, hX_443, ⟨rfl, rfl⟩⟩⟩)⟩)⟩)⟩)⟩)⟩)⟩)⟩)⟩)⟩)⟩)⟩)⟩)⟩)⟩)⟩)⟩)⟩)⟩)⟩)⟩)⟩)⟩)⟩)⟩)⟩), wd_t ht hW⟩, hS.F ht⟩) hS.2.2 dX12_done_231
  by_cases c_445 : p0 = 60
  · refine lv_tableIn (tgt := 156) hx hb dX12_done_1 (by rw [c_445]; decide) (by rw [c_445]; decide) (off := 155) (by rw [c_445]; decide) (by decide) ?_
    have c_445 : p0.toInt = 60 := xI_eq rfl rfl c_445
    refine lv_iload_n hx hb dX12_done_156 rfl (lv_at hl 1 rfl) ?_
    refine lv_iload_n hx hb dX12_done_157 rfl (lv_at hl 2 rfl) ?_
    refine lv_icmp_ge (tgt := 165) hx hb dX12_done_158 rfl (fun c_446 => ?_) (fun c_446 => ?_)
    · have c_446 : p2.toInt ≤ p1.toInt := xI_le rfl rfl c_446
      refine ic_0 hx hb dX12_done_165 ?_
      have qc_447 : (0 : Int32).toInt = 0 := rfl
      refine S_calli (va_runS (As := [.int 0]) (rest := []) ⟨hx, hb, hml, hown, hts⟩ (n_truth l D k A a z G 0 ⟨by decide, by decide⟩) (va_cwS 1 hts (gd_S hgd m1788 m1789 m131 m1790) rfl rfl rfl hd_X12_truth.2 ⟨Nat.le_of_ble_eq_true rfl, Nat.le_of_ble_eq_true rfl⟩) (pre_S hW hB_G hK hZ hS) rfl rfl hl.1 rfl (lv_room (Nat.le_of_ble_eq_true rfl)) dX12_done_166 ⟨Nat.le_of_ble_eq_true rfl, Nat.le_of_ble_eq_true rfl⟩) hS (fun r_448 G_449 H locs hpo hW hS => ?_)
      have hX_452 : Q_truth 0 G r_448 G_449 := hpo
      obtain ⟨hB_G_449, hq_450, f_453, hp_451, -⟩ := hpo
      have hF := hF.call9 hq_450 rfl rfl
      exact W.iret (v := r_448) hx hb hr (fun t ht _ => ⟨⟨r_448, G_449, rfl, (Q_done_mk ⟨hB_G_449, hF, (Or.inr ⟨(xI_ne (Y := 37) rfl rfl c_1), (Or.inr ⟨(xI_ne (Y := 38) rfl rfl c_4), (Or.inr ⟨(xI_ne (Y := 39) rfl rfl c_28), (Or.inr ⟨(xI_ne (Y := 40) rfl rfl c_52), (Or.inr ⟨(xI_ne (Y := 41) rfl rfl c_76), (Or.inr ⟨(xI_ne (Y := 42) rfl rfl c_100), (Or.inr ⟨(xI_ne (Y := 43) rfl rfl c_102), (Or.inr ⟨(xI_ne (Y := 44) rfl rfl c_104), (Or.inr ⟨(xI_ne (Y := 45) rfl rfl c_128), (Or.inr ⟨(xI_ne (Y := 46) rfl rfl c_130), (Or.inr ⟨(xI_ne (Y := 47) rfl rfl c_154), (Or.inr ⟨(xI_ne (Y := 48) rfl rfl c_157), (Or.inr ⟨(xI_ne (Y := 49) rfl rfl c_181), (Or.inr ⟨(xI_ne (Y := 50) rfl rfl c_205), (Or.inr ⟨(xI_ne (Y := 51) rfl rfl c_229), (Or.inr ⟨(xI_ne (Y := 52) rfl rfl c_253), (Or.inr ⟨(xI_ne (Y := 53) rfl rfl c_277), (Or.inr ⟨(xI_ne (Y := 54) rfl rfl c_301), (Or.inr ⟨(xI_ne (Y := 55) rfl rfl c_325), (Or.inr ⟨(xI_ne (Y := 56) rfl rfl c_349), (Or.inr ⟨(xI_ne (Y := 57) rfl rfl c_373), (Or.inr ⟨(xI_ne (Y := 58) rfl rfl c_397), (Or.inr ⟨(xI_ne (Y := 59) rfl rfl c_421), (Or.inl ⟨c_445, (Or.inl ⟨c_446, ⟨r_448, G_449, hX_452, ⟨rfl, rfl⟩⟩⟩)⟩)⟩)⟩)⟩)⟩)⟩)⟩)⟩)⟩)⟩)⟩)⟩)⟩)⟩)⟩)⟩)⟩)⟩)⟩)⟩)⟩)⟩)⟩)⟩)⟩), wd_t ht hW⟩, hS.F ht⟩) hS.2.2 dX12_done_169
    · have c_446 : p1.toInt < p2.toInt := xI_nle rfl rfl c_446
      refine ic_1 hx hb dX12_done_161 ?_
      refine lv_goto (tgt := 166) hx hb dX12_done_162 rfl ?_
      have qc_454 : (1 : Int32).toInt = 1 := rfl
      refine S_calli (va_runS (As := [.int 1]) (rest := []) ⟨hx, hb, hml, hown, hts⟩ (n_truth l D k A a z G 1 ⟨by decide, by decide⟩) (va_cwS 1 hts (gd_S hgd m1788 m1789 m131 m1790) rfl rfl rfl hd_X12_truth.2 ⟨Nat.le_of_ble_eq_true rfl, Nat.le_of_ble_eq_true rfl⟩) (pre_S hW hB_G hK hZ hS) rfl rfl hl.1 rfl (lv_room (Nat.le_of_ble_eq_true rfl)) dX12_done_166 ⟨Nat.le_of_ble_eq_true rfl, Nat.le_of_ble_eq_true rfl⟩) hS (fun r_455 G_456 H locs hpo hW hS => ?_)
      have hX_459 : Q_truth 1 G r_455 G_456 := hpo
      obtain ⟨hB_G_456, hq_457, f_460, hp_458, -⟩ := hpo
      have hF := hF.call9 hq_457 rfl rfl
      exact W.iret (v := r_455) hx hb hr (fun t ht _ => ⟨⟨r_455, G_456, rfl, (Q_done_mk ⟨hB_G_456, hF, (Or.inr ⟨(xI_ne (Y := 37) rfl rfl c_1), (Or.inr ⟨(xI_ne (Y := 38) rfl rfl c_4), (Or.inr ⟨(xI_ne (Y := 39) rfl rfl c_28), (Or.inr ⟨(xI_ne (Y := 40) rfl rfl c_52), (Or.inr ⟨(xI_ne (Y := 41) rfl rfl c_76), (Or.inr ⟨(xI_ne (Y := 42) rfl rfl c_100), (Or.inr ⟨(xI_ne (Y := 43) rfl rfl c_102), (Or.inr ⟨(xI_ne (Y := 44) rfl rfl c_104), (Or.inr ⟨(xI_ne (Y := 45) rfl rfl c_128), (Or.inr ⟨(xI_ne (Y := 46) rfl rfl c_130), (Or.inr ⟨(xI_ne (Y := 47) rfl rfl c_154), (Or.inr ⟨(xI_ne (Y := 48) rfl rfl c_157), (Or.inr ⟨(xI_ne (Y := 49) rfl rfl c_181), (Or.inr ⟨(xI_ne (Y := 50) rfl rfl c_205), (Or.inr ⟨(xI_ne (Y := 51) rfl rfl c_229), (Or.inr ⟨(xI_ne (Y := 52) rfl rfl c_253), (Or.inr ⟨(xI_ne (Y := 53) rfl rfl c_277), (Or.inr ⟨(xI_ne (Y := 54) rfl rfl c_301), (Or.inr ⟨(xI_ne (Y := 55) rfl rfl c_325), (Or.inr ⟨(xI_ne (Y := 56) rfl rfl c_349), (Or.inr ⟨(xI_ne (Y := 57) rfl rfl c_373), (Or.inr ⟨(xI_ne (Y := 58) rfl rfl c_397), (Or.inr ⟨(xI_ne (Y := 59) rfl rfl c_421), (Or.inl ⟨c_445, (Or.inr ⟨c_446, ⟨r_455, G_456, hX_459, ⟨rfl, rfl⟩⟩⟩)⟩)⟩)⟩)⟩)⟩)⟩)⟩)⟩)⟩)⟩)⟩)⟩)⟩)⟩)⟩)⟩)⟩)⟩)⟩)⟩)⟩)⟩)⟩)⟩)⟩), wd_t ht hW⟩, hS.F ht⟩) hS.2.2 dX12_done_169
  by_cases c_461 : p0 = 61
  · refine lv_tableIn (tgt := 184) hx hb dX12_done_1 (by rw [c_461]; decide) (by rw [c_461]; decide) (off := 183) (by rw [c_461]; decide) (by decide) ?_
    have c_461 : p0.toInt = 61 := xI_eq rfl rfl c_461
    refine lv_iload_n hx hb dX12_done_184 rfl (lv_at hl 1 rfl) ?_
    refine lv_iload_n hx hb dX12_done_185 rfl (lv_at hl 2 rfl) ?_
    refine lv_icmp_ne (tgt := 193) hx hb dX12_done_186 rfl (fun c_462 => ?_) (fun c_462 => ?_)
    · have c_462 : p1.toInt ≠ p2.toInt := xI_ne rfl rfl c_462
      refine ic_0 hx hb dX12_done_193 ?_
      have qc_463 : (0 : Int32).toInt = 0 := rfl
      refine S_calli (va_runS (As := [.int 0]) (rest := []) ⟨hx, hb, hml, hown, hts⟩ (n_truth l D k A a z G 0 ⟨by decide, by decide⟩) (va_cwS 1 hts (gd_S hgd m1788 m1789 m131 m1790) rfl rfl rfl hd_X12_truth.2 ⟨Nat.le_of_ble_eq_true rfl, Nat.le_of_ble_eq_true rfl⟩) (pre_S hW hB_G hK hZ hS) rfl rfl hl.1 rfl (lv_room (Nat.le_of_ble_eq_true rfl)) dX12_done_194 ⟨Nat.le_of_ble_eq_true rfl, Nat.le_of_ble_eq_true rfl⟩) hS (fun r_464 G_465 H locs hpo hW hS => ?_)
      have hX_468 : Q_truth 0 G r_464 G_465 := hpo
      obtain ⟨hB_G_465, hq_466, f_469, hp_467, -⟩ := hpo
      have hF := hF.call9 hq_466 rfl rfl
      exact W.iret (v := r_464) hx hb hr (fun t ht _ => ⟨⟨r_464, G_465, rfl, (Q_done_mk ⟨hB_G_465, hF, (Or.inr ⟨(xI_ne (Y := 37) rfl rfl c_1), (Or.inr ⟨(xI_ne (Y := 38) rfl rfl c_4), (Or.inr ⟨(xI_ne (Y := 39) rfl rfl c_28), (Or.inr ⟨(xI_ne (Y := 40) rfl rfl c_52), (Or.inr ⟨(xI_ne (Y := 41) rfl rfl c_76), (Or.inr ⟨(xI_ne (Y := 42) rfl rfl c_100), (Or.inr ⟨(xI_ne (Y := 43) rfl rfl c_102), (Or.inr ⟨(xI_ne (Y := 44) rfl rfl c_104), (Or.inr ⟨(xI_ne (Y := 45) rfl rfl c_128), (Or.inr ⟨(xI_ne (Y := 46) rfl rfl c_130), (Or.inr ⟨(xI_ne (Y := 47) rfl rfl c_154), (Or.inr ⟨(xI_ne (Y := 48) rfl rfl c_157), (Or.inr ⟨(xI_ne (Y := 49) rfl rfl c_181), (Or.inr ⟨(xI_ne (Y := 50) rfl rfl c_205), (Or.inr ⟨(xI_ne (Y := 51) rfl rfl c_229), (Or.inr ⟨(xI_ne (Y := 52) rfl rfl c_253), (Or.inr ⟨(xI_ne (Y := 53) rfl rfl c_277), (Or.inr ⟨(xI_ne (Y := 54) rfl rfl c_301), (Or.inr ⟨(xI_ne (Y := 55) rfl rfl c_325), (Or.inr ⟨(xI_ne (Y := 56) rfl rfl c_349), (Or.inr ⟨(xI_ne (Y := 57) rfl rfl c_373), (Or.inr ⟨(xI_ne (Y := 58) rfl rfl c_397), (Or.inr ⟨(xI_ne (Y := 59) rfl rfl c_421), (Or.inr ⟨(xI_ne (Y := 60) rfl rfl c_445), (Or.inl ⟨c_461, (Or.inr ⟨c_462, ⟨r_464, G_465, hX_468, ⟨rfl, rfl⟩⟩⟩)⟩)⟩)⟩)⟩)⟩)⟩)⟩)⟩)⟩)⟩)⟩)⟩)⟩)⟩)⟩)⟩)⟩)⟩)⟩)⟩)⟩)⟩)⟩)⟩)⟩)⟩), wd_t ht hW⟩, hS.F ht⟩) hS.2.2 dX12_done_197
    · have c_462 : p1.toInt = p2.toInt := xI_eq rfl rfl c_462
      refine ic_1 hx hb dX12_done_189 ?_
      refine lv_goto (tgt := 194) hx hb dX12_done_190 rfl ?_
      have qc_470 : (1 : Int32).toInt = 1 := rfl
      refine S_calli (va_runS (As := [.int 1]) (rest := []) ⟨hx, hb, hml, hown, hts⟩ (n_truth l D k A a z G 1 ⟨by decide, by decide⟩) (va_cwS 1 hts (gd_S hgd m1788 m1789 m131 m1790) rfl rfl rfl hd_X12_truth.2 ⟨Nat.le_of_ble_eq_true rfl, Nat.le_of_ble_eq_true rfl⟩) (pre_S hW hB_G hK hZ hS) rfl rfl hl.1 rfl (lv_room (Nat.le_of_ble_eq_true rfl)) dX12_done_194 ⟨Nat.le_of_ble_eq_true rfl, Nat.le_of_ble_eq_true rfl⟩) hS (fun r_471 G_472 H locs hpo hW hS => ?_)
      have hX_475 : Q_truth 1 G r_471 G_472 := hpo
      obtain ⟨hB_G_472, hq_473, f_476, hp_474, -⟩ := hpo
      have hF := hF.call9 hq_473 rfl rfl
      exact W.iret (v := r_471) hx hb hr (fun t ht _ => ⟨⟨r_471, G_472, rfl, (Q_done_mk ⟨hB_G_472, hF, (Or.inr ⟨(xI_ne (Y := 37) rfl rfl c_1), (Or.inr ⟨(xI_ne (Y := 38) rfl rfl c_4), (Or.inr ⟨(xI_ne (Y := 39) rfl rfl c_28), (Or.inr ⟨(xI_ne (Y := 40) rfl rfl c_52), (Or.inr ⟨(xI_ne (Y := 41) rfl rfl c_76), (Or.inr ⟨(xI_ne (Y := 42) rfl rfl c_100), (Or.inr ⟨(xI_ne (Y := 43) rfl rfl c_102), (Or.inr ⟨(xI_ne (Y := 44) rfl rfl c_104), (Or.inr ⟨(xI_ne (Y := 45) rfl rfl c_128), (Or.inr ⟨(xI_ne (Y := 46) rfl rfl c_130), (Or.inr ⟨(xI_ne (Y := 47) rfl rfl c_154), (Or.inr ⟨(xI_ne (Y := 48) rfl rfl c_157), (Or.inr ⟨(xI_ne (Y := 49) rfl rfl c_181), (Or.inr ⟨(xI_ne (Y := 50) rfl rfl c_205), (Or.inr ⟨(xI_ne (Y := 51) rfl rfl c_229), (Or.inr ⟨(xI_ne (Y := 52) rfl rfl c_253), (Or.inr ⟨(xI_ne (Y := 53) rfl rfl c_277), (Or.inr ⟨(xI_ne (Y := 54) rfl rfl c_301), (Or.inr ⟨(xI_ne (Y := 55) rfl rfl c_325), (Or.inr ⟨(xI_ne (Y := 56) rfl rfl c_349), (Or.inr ⟨(xI_ne (Y := 57) rfl rfl c_373), (Or.inr ⟨(xI_ne (Y := 58) rfl rfl c_397), (Or.inr ⟨(xI_ne (Y := 59) rfl rfl c_421), (Or.inr ⟨(xI_ne (Y := 60) rfl rfl c_445), (Or.inl ⟨c_461, (Or.inl ⟨c_462, ⟨r_471, G_472, hX_475, ⟨rfl, rfl⟩⟩⟩)⟩)⟩)⟩)⟩)⟩)⟩)⟩)⟩)⟩)⟩)⟩)⟩)⟩)⟩)⟩)⟩)⟩)⟩)⟩)⟩)⟩)⟩)⟩)⟩)⟩)⟩), wd_t ht hW⟩, hS.F ht⟩) hS.2.2 dX12_done_197
  by_cases c_477 : p0 = 62
  · refine lv_tableIn (tgt := 170) hx hb dX12_done_1 (by rw [c_477]; decide) (by rw [c_477]; decide) (off := 169) (by rw [c_477]; decide) (by decide) ?_
    have c_477 : p0.toInt = 62 := xI_eq rfl rfl c_477
    refine lv_iload_n hx hb dX12_done_170 rfl (lv_at hl 1 rfl) ?_
    refine lv_iload_n hx hb dX12_done_171 rfl (lv_at hl 2 rfl) ?_
    refine lv_icmp_le (tgt := 179) hx hb dX12_done_172 rfl (fun c_478 => ?_) (fun c_478 => ?_)
    · have c_478 : p1.toInt ≤ p2.toInt := xI_le rfl rfl c_478
      refine ic_0 hx hb dX12_done_179 ?_
      have qc_479 : (0 : Int32).toInt = 0 := rfl
      refine S_calli (va_runS (As := [.int 0]) (rest := []) ⟨hx, hb, hml, hown, hts⟩ (n_truth l D k A a z G 0 ⟨by decide, by decide⟩) (va_cwS 1 hts (gd_S hgd m1788 m1789 m131 m1790) rfl rfl rfl hd_X12_truth.2 ⟨Nat.le_of_ble_eq_true rfl, Nat.le_of_ble_eq_true rfl⟩) (pre_S hW hB_G hK hZ hS) rfl rfl hl.1 rfl (lv_room (Nat.le_of_ble_eq_true rfl)) dX12_done_180 ⟨Nat.le_of_ble_eq_true rfl, Nat.le_of_ble_eq_true rfl⟩) hS (fun r_480 G_481 H locs hpo hW hS => ?_)
      have hX_484 : Q_truth 0 G r_480 G_481 := hpo
      obtain ⟨hB_G_481, hq_482, f_485, hp_483, -⟩ := hpo
      have hF := hF.call9 hq_482 rfl rfl
      exact W.iret (v := r_480) hx hb hr (fun t ht _ => ⟨⟨r_480, G_481, rfl, (Q_done_mk ⟨hB_G_481, hF, (Or.inr ⟨(xI_ne (Y := 37) rfl rfl c_1), (Or.inr ⟨(xI_ne (Y := 38) rfl rfl c_4), (Or.inr ⟨(xI_ne (Y := 39) rfl rfl c_28), (Or.inr ⟨(xI_ne (Y := 40) rfl rfl c_52), (Or.inr ⟨(xI_ne (Y := 41) rfl rfl c_76), (Or.inr ⟨(xI_ne (Y := 42) rfl rfl c_100), (Or.inr ⟨(xI_ne (Y := 43) rfl rfl c_102), (Or.inr ⟨(xI_ne (Y := 44) rfl rfl c_104), (Or.inr ⟨(xI_ne (Y := 45) rfl rfl c_128), (Or.inr ⟨(xI_ne (Y := 46) rfl rfl c_130), (Or.inr ⟨(xI_ne (Y := 47) rfl rfl c_154), (Or.inr ⟨(xI_ne (Y := 48) rfl rfl c_157), (Or.inr ⟨(xI_ne (Y := 49) rfl rfl c_181), (Or.inr ⟨(xI_ne (Y := 50) rfl rfl c_205), (Or.inr ⟨(xI_ne (Y := 51) rfl rfl c_229), (Or.inr ⟨(xI_ne (Y := 52) rfl rfl c_253), (Or.inr ⟨(xI_ne (Y := 53) rfl rfl c_277), (Or.inr ⟨(xI_ne (Y := 54) rfl rfl c_301), (Or.inr ⟨(xI_ne (Y := 55) rfl rfl c_325), (Or.inr ⟨(xI_ne (Y := 56) rfl rfl c_349), (Or.inr ⟨(xI_ne (Y := 57) rfl rfl c_373), (Or.inr ⟨(xI_ne (Y := 58) rfl rfl c_397), (Or.inr ⟨(xI_ne (Y := 59) rfl rfl c_421), (Or.inr ⟨(xI_ne (Y := 60) rfl rfl c_445), (Or.inr ⟨(xI_ne (Y := 61) rfl rfl c_461), (Or.inl ⟨c_477, (Or.inl ⟨c_478, ⟨r_480, G_481, hX_484, ⟨rfl, rfl⟩⟩⟩)⟩)⟩)⟩)⟩)⟩)⟩)⟩)⟩)⟩)⟩)⟩)⟩)⟩)⟩)⟩)⟩)⟩)⟩)⟩)⟩)⟩)⟩)⟩)⟩)⟩)⟩)⟩), wd_t ht hW⟩, hS.F ht⟩) hS.2.2 dX12_done_183
    · have c_478 : p2.toInt < p1.toInt := xI_nle rfl rfl c_478
      refine ic_1 hx hb dX12_done_175 ?_
      refine lv_goto (tgt := 180) hx hb dX12_done_176 rfl ?_
      have qc_486 : (1 : Int32).toInt = 1 := rfl
      refine S_calli (va_runS (As := [.int 1]) (rest := []) ⟨hx, hb, hml, hown, hts⟩ (n_truth l D k A a z G 1 ⟨by decide, by decide⟩) (va_cwS 1 hts (gd_S hgd m1788 m1789 m131 m1790) rfl rfl rfl hd_X12_truth.2 ⟨Nat.le_of_ble_eq_true rfl, Nat.le_of_ble_eq_true rfl⟩) (pre_S hW hB_G hK hZ hS) rfl rfl hl.1 rfl (lv_room (Nat.le_of_ble_eq_true rfl)) dX12_done_180 ⟨Nat.le_of_ble_eq_true rfl, Nat.le_of_ble_eq_true rfl⟩) hS (fun r_487 G_488 H locs hpo hW hS => ?_)
      have hX_491 : Q_truth 1 G r_487 G_488 := hpo
      obtain ⟨hB_G_488, hq_489, f_492, hp_490, -⟩ := hpo
      have hF := hF.call9 hq_489 rfl rfl
      exact W.iret (v := r_487) hx hb hr (fun t ht _ => ⟨⟨r_487, G_488, rfl, (Q_done_mk ⟨hB_G_488, hF, (Or.inr ⟨(xI_ne (Y := 37) rfl rfl c_1), (Or.inr ⟨(xI_ne (Y := 38) rfl rfl c_4), (Or.inr ⟨(xI_ne (Y := 39) rfl rfl c_28), (Or.inr ⟨(xI_ne (Y := 40) rfl rfl c_52), (Or.inr ⟨(xI_ne (Y := 41) rfl rfl c_76), (Or.inr ⟨(xI_ne (Y := 42) rfl rfl c_100), (Or.inr ⟨(xI_ne (Y := 43) rfl rfl c_102), (Or.inr ⟨(xI_ne (Y := 44) rfl rfl c_104), (Or.inr ⟨(xI_ne (Y := 45) rfl rfl c_128), (Or.inr ⟨(xI_ne (Y := 46) rfl rfl c_130), (Or.inr ⟨(xI_ne (Y := 47) rfl rfl c_154), (Or.inr ⟨(xI_ne (Y := 48) rfl rfl c_157), (Or.inr ⟨(xI_ne (Y := 49) rfl rfl c_181), (Or.inr ⟨(xI_ne (Y := 50) rfl rfl c_205), (Or.inr ⟨(xI_ne (Y := 51) rfl rfl c_229), (Or.inr ⟨(xI_ne (Y := 52) rfl rfl c_253), (Or.inr ⟨(xI_ne (Y := 53) rfl rfl c_277), (Or.inr ⟨(xI_ne (Y := 54) rfl rfl c_301), (Or.inr ⟨(xI_ne (Y := 55) rfl rfl c_325), (Or.inr ⟨(xI_ne (Y := 56) rfl rfl c_349), (Or.inr ⟨(xI_ne (Y := 57) rfl rfl c_373), (Or.inr ⟨(xI_ne (Y := 58) rfl rfl c_397), (Or.inr ⟨(xI_ne (Y := 59) rfl rfl c_421), (Or.inr ⟨(xI_ne (Y := 60) rfl rfl c_445), (Or.inr ⟨(xI_ne (Y := 61) rfl rfl c_461), (Or.inl ⟨c_477, (Or.inr ⟨c_478, ⟨r_487, G_488, hX_491, ⟨rfl, rfl⟩⟩⟩)⟩)⟩)⟩)⟩)⟩)⟩)⟩)⟩)⟩)⟩)⟩)⟩)⟩)⟩)⟩)⟩)⟩)⟩)⟩)⟩)⟩)⟩)⟩)⟩)⟩)⟩)⟩), wd_t ht hW⟩, hS.F ht⟩) hS.2.2 dX12_done_183
  refine lv_tableOut (tgt := 215) hx hb dX12_done_1 (tb_out (lo := 37) (hi := 62) (by have c_1 := xI_ne (Y := 37) rfl rfl c_1; have c_4 := xI_ne (Y := 38) rfl rfl c_4; have c_28 := xI_ne (Y := 39) rfl rfl c_28; have c_52 := xI_ne (Y := 40) rfl rfl c_52; have c_76 := xI_ne (Y := 41) rfl rfl c_76; have c_100 := xI_ne (Y := 42) rfl rfl c_100; have c_102 := xI_ne (Y := 43) rfl rfl c_102; have c_104 := xI_ne (Y := 44) rfl rfl c_104; have c_128 := xI_ne (Y := 45) rfl rfl c_128; have c_130 := xI_ne (Y := 46) rfl rfl c_130; have c_154 := xI_ne (Y := 47) rfl rfl c_154; have c_157 := xI_ne (Y := 48) rfl rfl c_157; have c_181 := xI_ne (Y := 49) rfl rfl c_181; have c_205 := xI_ne (Y := 50) rfl rfl c_205; have c_229 := xI_ne (Y := 51) rfl rfl c_229; have c_253 := xI_ne (Y := 52) rfl rfl c_253; have c_277 := xI_ne (Y := 53) rfl rfl c_277; have c_301 := xI_ne (Y := 54) rfl rfl c_301; have c_325 := xI_ne (Y := 55) rfl rfl c_325; have c_349 := xI_ne (Y := 56) rfl rfl c_349; have c_373 := xI_ne (Y := 57) rfl rfl c_373; have c_397 := xI_ne (Y := 58) rfl rfl c_397; have c_421 := xI_ne (Y := 59) rfl rfl c_421; have c_445 := xI_ne (Y := 60) rfl rfl c_445; have c_461 := xI_ne (Y := 61) rfl rfl c_461; have c_477 := xI_ne (Y := 62) rfl rfl c_477; omega)) (by decide) ?_
  have c_1 := xI_ne (Y := 37) rfl rfl c_1
  have c_4 := xI_ne (Y := 38) rfl rfl c_4
  have c_28 := xI_ne (Y := 39) rfl rfl c_28
  have c_52 := xI_ne (Y := 40) rfl rfl c_52
  have c_76 := xI_ne (Y := 41) rfl rfl c_76
  have c_100 := xI_ne (Y := 42) rfl rfl c_100
  have c_102 := xI_ne (Y := 43) rfl rfl c_102
  have c_104 := xI_ne (Y := 44) rfl rfl c_104
  have c_128 := xI_ne (Y := 45) rfl rfl c_128
  have c_130 := xI_ne (Y := 46) rfl rfl c_130
  have c_154 := xI_ne (Y := 47) rfl rfl c_154
  have c_157 := xI_ne (Y := 48) rfl rfl c_157
  have c_181 := xI_ne (Y := 49) rfl rfl c_181
  have c_205 := xI_ne (Y := 50) rfl rfl c_205
  have c_229 := xI_ne (Y := 51) rfl rfl c_229
  have c_253 := xI_ne (Y := 52) rfl rfl c_253
  have c_277 := xI_ne (Y := 53) rfl rfl c_277
  have c_301 := xI_ne (Y := 54) rfl rfl c_301
  have c_325 := xI_ne (Y := 55) rfl rfl c_325
  have c_349 := xI_ne (Y := 56) rfl rfl c_349
  have c_373 := xI_ne (Y := 57) rfl rfl c_373
  have c_397 := xI_ne (Y := 58) rfl rfl c_397
  have c_421 := xI_ne (Y := 59) rfl rfl c_421
  have c_445 := xI_ne (Y := 60) rfl rfl c_445
  have c_461 := xI_ne (Y := 61) rfl rfl c_461
  have c_477 := xI_ne (Y := 62) rfl rfl c_477
  refine lv_iload_n hx hb dX12_done_215 rfl (lv_at hl 1 rfl) ?_
  refine lv_if_ne (tgt := 223) hx hb dX12_done_216 rfl (fun c_493 => ?_) (fun c_493 => ?_)
  · have c_493 : p1.toInt ≠ 0 := xI_ne rfl rfl c_493
    refine ic_1 hx hb dX12_done_223 ?_
    refine lv_goto (tgt := 228) hx hb dX12_done_224 rfl ?_
    have qc_494 : (1 : Int32).toInt = 1 := rfl
    refine S_calli (va_runS (As := [.int 1]) (rest := []) ⟨hx, hb, hml, hown, hts⟩ (n_truth l D k A a z G 1 ⟨by decide, by decide⟩) (va_cwS 1 hts (gd_S hgd m1788 m1789 m131 m1790) rfl rfl rfl hd_X12_truth.2 ⟨Nat.le_of_ble_eq_true rfl, Nat.le_of_ble_eq_true rfl⟩) (pre_S hW hB_G hK hZ hS) rfl rfl hl.1 rfl (lv_room (Nat.le_of_ble_eq_true rfl)) dX12_done_228 ⟨Nat.le_of_ble_eq_true rfl, Nat.le_of_ble_eq_true rfl⟩) hS (fun r_495 G_496 H locs hpo hW hS => ?_)
    have hX_499 : Q_truth 1 G r_495 G_496 := hpo
    obtain ⟨hB_G_496, hq_497, f_500, hp_498, -⟩ := hpo
    have hF := hF.call9 hq_497 rfl rfl
    exact W.iret (v := r_495) hx hb hr (fun t ht _ => ⟨⟨r_495, G_496, rfl, (Q_done_mk ⟨hB_G_496, hF, (Or.inr ⟨c_1, (Or.inr ⟨c_4, (Or.inr ⟨c_28, (Or.inr ⟨c_52, (Or.inr ⟨c_76, (Or.inr ⟨c_100, (Or.inr ⟨c_102, (Or.inr ⟨c_104, (Or.inr ⟨c_128, (Or.inr ⟨c_130, (Or.inr ⟨c_154, (Or.inr ⟨c_157, (Or.inr ⟨c_181, (Or.inr ⟨c_205, (Or.inr ⟨c_229, (Or.inr ⟨c_253, (Or.inr ⟨c_277, (Or.inr ⟨c_301, (Or.inr ⟨c_325, (Or.inr ⟨c_349, (Or.inr ⟨c_373, (Or.inr ⟨c_397, (Or.inr ⟨c_421, (Or.inr ⟨c_445, (Or.inr ⟨c_461, (Or.inr ⟨c_477, (Or.inr ⟨c_493, ⟨r_495, G_496, hX_499, ⟨rfl, rfl⟩⟩⟩)⟩)⟩)⟩)⟩)⟩)⟩)⟩)⟩)⟩)⟩)⟩)⟩)⟩)⟩)⟩)⟩)⟩)⟩)⟩)⟩)⟩)⟩)⟩)⟩)⟩)⟩)⟩), wd_t ht hW⟩, hS.F ht⟩) hS.2.2 dX12_done_231
  · have c_493 : p1.toInt = 0 := xI_eq rfl rfl c_493
    refine lv_iload_n hx hb dX12_done_219 rfl (lv_at hl 2 rfl) ?_
    refine lv_if_eq (tgt := 227) hx hb dX12_done_220 rfl (fun c_501 => ?_) (fun c_501 => ?_)
    · have c_501 : p2.toInt = 0 := xI_eq rfl rfl c_501
      refine ic_0 hx hb dX12_done_227 ?_
      have qc_502 : (0 : Int32).toInt = 0 := rfl
      refine S_calli (va_runS (As := [.int 0]) (rest := []) ⟨hx, hb, hml, hown, hts⟩ (n_truth l D k A a z G 0 ⟨by decide, by decide⟩) (va_cwS 1 hts (gd_S hgd m1788 m1789 m131 m1790) rfl rfl rfl hd_X12_truth.2 ⟨Nat.le_of_ble_eq_true rfl, Nat.le_of_ble_eq_true rfl⟩) (pre_S hW hB_G hK hZ hS) rfl rfl hl.1 rfl (lv_room (Nat.le_of_ble_eq_true rfl)) dX12_done_228 ⟨Nat.le_of_ble_eq_true rfl, Nat.le_of_ble_eq_true rfl⟩) hS (fun r_503 G_504 H locs hpo hW hS => ?_)
      have hX_507 : Q_truth 0 G r_503 G_504 := hpo
      obtain ⟨hB_G_504, hq_505, f_508, hp_506, -⟩ := hpo
      have hF := hF.call9 hq_505 rfl rfl
      exact W.iret (v := r_503) hx hb hr (fun t ht _ => ⟨⟨r_503, G_504, rfl, (Q_done_mk ⟨hB_G_504, hF, (Or.inr ⟨c_1, (Or.inr ⟨c_4, (Or.inr ⟨c_28, (Or.inr ⟨c_52, (Or.inr ⟨c_76, (Or.inr ⟨c_100, (Or.inr ⟨c_102, (Or.inr ⟨c_104, (Or.inr ⟨c_128, (Or.inr ⟨c_130, (Or.inr ⟨c_154, (Or.inr ⟨c_157, (Or.inr ⟨c_181, (Or.inr ⟨c_205, (Or.inr ⟨c_229, (Or.inr ⟨c_253, (Or.inr ⟨c_277, (Or.inr ⟨c_301, (Or.inr ⟨c_325, (Or.inr ⟨c_349, (Or.inr ⟨c_373, (Or.inr ⟨c_397, (Or.inr ⟨c_421, (Or.inr ⟨c_445, (Or.inr ⟨c_461, (Or.inr ⟨c_477, (Or.inl ⟨c_493, (Or.inl ⟨c_501, ⟨r_503, G_504, hX_507, ⟨rfl, rfl⟩⟩⟩)⟩)⟩)⟩)⟩)⟩)⟩)⟩)⟩)⟩)⟩)⟩)⟩)⟩)⟩)⟩)⟩)⟩)⟩)⟩)⟩)⟩)⟩)⟩)⟩)⟩)⟩)⟩)⟩), wd_t ht hW⟩, hS.F ht⟩) hS.2.2 dX12_done_231
    · have c_501 : p2.toInt ≠ 0 := xI_ne rfl rfl c_501
      refine ic_1 hx hb dX12_done_223 ?_
      refine lv_goto (tgt := 228) hx hb dX12_done_224 rfl ?_
      have qc_509 : (1 : Int32).toInt = 1 := rfl
      refine S_calli (va_runS (As := [.int 1]) (rest := []) ⟨hx, hb, hml, hown, hts⟩ (n_truth l D k A a z G 1 ⟨by decide, by decide⟩) (va_cwS 1 hts (gd_S hgd m1788 m1789 m131 m1790) rfl rfl rfl hd_X12_truth.2 ⟨Nat.le_of_ble_eq_true rfl, Nat.le_of_ble_eq_true rfl⟩) (pre_S hW hB_G hK hZ hS) rfl rfl hl.1 rfl (lv_room (Nat.le_of_ble_eq_true rfl)) dX12_done_228 ⟨Nat.le_of_ble_eq_true rfl, Nat.le_of_ble_eq_true rfl⟩) hS (fun r_510 G_511 H locs hpo hW hS => ?_)
      have hX_514 : Q_truth 1 G r_510 G_511 := hpo
      obtain ⟨hB_G_511, hq_512, f_515, hp_513, -⟩ := hpo
      have hF := hF.call9 hq_512 rfl rfl
      exact W.iret (v := r_510) hx hb hr (fun t ht _ => ⟨⟨r_510, G_511, rfl, (Q_done_mk ⟨hB_G_511, hF, (Or.inr ⟨c_1, (Or.inr ⟨c_4, (Or.inr ⟨c_28, (Or.inr ⟨c_52, (Or.inr ⟨c_76, (Or.inr ⟨c_100, (Or.inr ⟨c_102, (Or.inr ⟨c_104, (Or.inr ⟨c_128, (Or.inr ⟨c_130, (Or.inr ⟨c_154, (Or.inr ⟨c_157, (Or.inr ⟨c_181, (Or.inr ⟨c_205, (Or.inr ⟨c_229, (Or.inr ⟨c_253, (Or.inr ⟨c_277, (Or.inr ⟨c_301, (Or.inr ⟨c_325, (Or.inr ⟨c_349, (Or.inr ⟨c_373, (Or.inr ⟨c_397, (Or.inr ⟨c_421, (Or.inr ⟨c_445, (Or.inr ⟨c_461, (Or.inr ⟨c_477, (Or.inl ⟨c_493, (Or.inr ⟨c_501, ⟨r_510, G_511, hX_514, ⟨rfl, rfl⟩⟩⟩)⟩)⟩)⟩)⟩)⟩)⟩)⟩)⟩)⟩)⟩)⟩)⟩)⟩)⟩)⟩)⟩)⟩)⟩)⟩)⟩)⟩)⟩)⟩)⟩)⟩)⟩)⟩)⟩), wd_t ht hW⟩, hS.F ht⟩) hS.2.2 dX12_done_231
