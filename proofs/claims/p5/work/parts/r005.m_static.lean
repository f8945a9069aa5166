theorem m1788 : Cond.methodLink RX12 348 yX12_truth ∈ gd := gd_mem 1788 (by decide +kernel) (by decide +kernel)
theorem m1789 : Cond.static yX12_truth ∈ gd := gd_mem 1789 (by decide +kernel) (by decide +kernel)
theorem m1790 : Cond.code yX12_truth cX12_truth 1 (some .int) ∈ gd := gd_mem 1790 (by decide +kernel) (by decide +kernel)
theorem dX12_done_0 : decode cX12_done 0 = .ok (.iload_n 0, 1) := by decide +kernel
theorem dX12_done_1 : decode cX12_done 1 = .ok (.tableswitch 214 37 62 #[143, 197, 214, 214, 214, 127, 119, 214, 123, 214, 131, 214, 214, 214, 214, 214, 214, 214, 214, 214, 214, 214, 214, 155, 183, 169], 119) := by decide +kernel
theorem dX12_done_120 : decode cX12_done 120 = .ok (.iload_n 1, 1) := by decide +kernel
theorem dX12_done_121 : decode cX12_done 121 = .ok (.iload_n 2, 1) := by decide +kernel
theorem dX12_done_122 : decode cX12_done 122 = .ok (.iadd, 1) := by decide +kernel
theorem dX12_done_123 : decode cX12_done 123 = .ok (.ireturn, 1) := by decide +kernel
theorem dX12_done_124 : decode cX12_done 124 = .ok (.iload_n 1, 1) := by decide +kernel
theorem dX12_done_125 : decode cX12_done 125 = .ok (.iload_n 2, 1) := by decide +kernel
theorem dX12_done_126 : decode cX12_done 126 = .ok (.isub, 1) := by decide +kernel
theorem dX12_done_127 : decode cX12_done 127 = .ok (.ireturn, 1) := by decide +kernel
theorem dX12_done_128 : decode cX12_done 128 = .ok (.iload_n 1, 1) := by decide +kernel
theorem dX12_done_129 : decode cX12_done 129 = .ok (.iload_n 2, 1) := by decide +kernel
theorem dX12_done_130 : decode cX12_done 130 = .ok (.imul, 1) := by decide +kernel
theorem dX12_done_131 : decode cX12_done 131 = .ok (.ireturn, 1) := by decide +kernel
theorem dX12_done_132 : decode cX12_done 132 = .ok (.iload_n 2, 1) := by decide +kernel
theorem dX12_done_133 : decode cX12_done 133 = .ok (.ifCond .ne 7, 3) := by decide +kernel
theorem dX12_done_136 : decode cX12_done 136 = .ok (.iconst 0, 1) := by decide +kernel
theorem dX12_done_137 : decode cX12_done 137 = .ok (.goto 6, 3) := by decide +kernel
theorem dX12_done_140 : decode cX12_done 140 = .ok (.iload_n 1, 1) := by decide +kernel
theorem dX12_done_141 : decode cX12_done 141 = .ok (.iload_n 2, 1) := by decide +kernel
theorem dX12_done_142 : decode cX12_done 142 = .ok (.idiv, 1) := by decide +kernel
theorem dX12_done_143 : decode cX12_done 143 = .ok (.ireturn, 1) := by decide +kernel
theorem dX12_done_144 : decode cX12_done 144 = .ok (.iload_n 2, 1) := by decide +kernel
theorem dX12_done_145 : decode cX12_done 145 = .ok (.ifCond .ne 7, 3) := by decide +kernel
theorem dX12_done_148 : decode cX12_done 148 = .ok (.iconst 0, 1) := by decide +kernel
theorem dX12_done_149 : decode cX12_done 149 = .ok (.goto 6, 3) := by decide +kernel
theorem dX12_done_152 : decode cX12_done 152 = .ok (.iload_n 1, 1) := by decide +kernel
theorem dX12_done_153 : decode cX12_done 153 = .ok (.iload_n 2, 1) := by decide +kernel
theorem dX12_done_154 : decode cX12_done 154 = .ok (.irem, 1) := by decide +kernel
theorem dX12_done_155 : decode cX12_done 155 = .ok (.ireturn, 1) := by decide +kernel
theorem dX12_done_156 : decode cX12_done 156 = .ok (.iload_n 1, 1) := by decide +kernel
theorem dX12_done_157 : decode cX12_done 157 = .ok (.iload_n 2, 1) := by decide +kernel
theorem dX12_done_158 : decode cX12_done 158 = .ok (.if_icmp .ge 7, 3) := by decide +kernel
theorem dX12_done_161 : decode cX12_done 161 = .ok (.iconst 1, 1) := by decide +kernel
theorem dX12_done_162 : decode cX12_done 162 = .ok (.goto 4, 3) := by decide +kernel
theorem dX12_done_165 : decode cX12_done 165 = .ok (.iconst 0, 1) := by decide +kernel
theorem dX12_done_166 : decode cX12_done 166 = .ok (.invokestatic 348, 3) := by decide +kernel
theorem dX12_done_169 : decode cX12_done 169 = .ok (.ireturn, 1) := by decide +kernel
theorem dX12_done_170 : decode cX12_done 170 = .ok (.iload_n 1, 1) := by decide +kernel
theorem dX12_done_171 : decode cX12_done 171 = .ok (.iload_n 2, 1) := by decide +kernel
theorem dX12_done_172 : decode cX12_done 172 = .ok (.if_icmp .le 7, 3) := by decide +kernel
theorem dX12_done_175 : decode cX12_done 175 = .ok (.iconst 1, 1) := by decide +kernel
theorem dX12_done_176 : decode cX12_done 176 = .ok (.goto 4, 3) := by decide +kernel
theorem dX12_done_179 : decode cX12_done 179 = .ok (.iconst 0, 1) := by decide +kernel
theorem dX12_done_180 : decode cX12_done 180 = .ok (.invokestatic 348, 3) := by decide +kernel
theorem dX12_done_183 : decode cX12_done 183 = .ok (.ireturn, 1) := by decide +kernel
theorem dX12_done_184 : decode cX12_done 184 = .ok (.iload_n 1, 1) := by decide +kernel
theorem dX12_done_185 : decode cX12_done 185 = .ok (.iload_n 2, 1) := by decide +kernel
theorem dX12_done_186 : decode cX12_done 186 = .ok (.if_icmp .ne 7, 3) := by decide +kernel
theorem dX12_done_189 : decode cX12_done 189 = .ok (.iconst 1, 1) := by decide +kernel
theorem dX12_done_190 : decode cX12_done 190 = .ok (.goto 4, 3) := by decide +kernel
theorem dX12_done_193 : decode cX12_done 193 = .ok (.iconst 0, 1) := by decide +kernel
theorem dX12_done_194 : decode cX12_done 194 = .ok (.invokestatic 348, 3) := by decide +kernel
theorem dX12_done_197 : decode cX12_done 197 = .ok (.ireturn, 1) := by decide +kernel
theorem dX12_done_198 : decode cX12_done 198 = .ok (.iload_n 1, 1) := by decide +kernel
theorem dX12_done_199 : decode cX12_done 199 = .ok (.ifCond .eq 11, 3) := by decide +kernel
theorem dX12_done_202 : decode cX12_done 202 = .ok (.iload_n 2, 1) := by decide +kernel
theorem dX12_done_203 : decode cX12_done 203 = .ok (.ifCond .eq 7, 3) := by decide +kernel
theorem dX12_done_206 : decode cX12_done 206 = .ok (.iconst 1, 1) := by decide +kernel
theorem dX12_done_207 : decode cX12_done 207 = .ok (.goto 4, 3) := by decide +kernel
theorem dX12_done_210 : decode cX12_done 210 = .ok (.iconst 0, 1) := by decide +kernel
theorem dX12_done_211 : decode cX12_done 211 = .ok (.invokestatic 348, 3) := by decide +kernel
theorem dX12_done_214 : decode cX12_done 214 = .ok (.ireturn, 1) := by decide +kernel
theorem dX12_done_215 : decode cX12_done 215 = .ok (.iload_n 1, 1) := by decide +kernel
theorem dX12_done_216 : decode cX12_done 216 = .ok (.ifCond .ne 7, 3) := by decide +kernel
theorem dX12_done_219 : decode cX12_done 219 = .ok (.iload_n 2, 1) := by decide +kernel
theorem dX12_done_220 : decode cX12_done 220 = .ok (.ifCond .eq 7, 3) := by decide +kernel
theorem dX12_done_223 : decode cX12_done 223 = .ok (.iconst 1, 1) := by decide +kernel
theorem dX12_done_224 : decode cX12_done 224 = .ok (.goto 4, 3) := by decide +kernel
theorem dX12_done_227 : decode cX12_done 227 = .ok (.iconst 0, 1) := by decide +kernel
theorem dX12_done_228 : decode cX12_done 228 = .ok (.invokestatic 348, 3) := by decide +kernel
theorem dX12_done_231 : decode cX12_done 231 = .ok (.ireturn, 1) := by decide +kernel
theorem dX12_tight_0 : decode cX12_tight 0 = .ok (.iload_n 0, 1) := by decide +kernel
theorem dX12_tight_1 : decode cX12_tight 1 = .ok (.lookupswitch 85 #[(21, 79), (38, 77), (43, 83), (45, 83), (60, 81), (61, 81), (62, 81), (124, 75)], 75) := by decide +kernel
theorem dX12_tight_76 : decode cX12_tight 76 = .ok (.iconst 1, 1) := by decide +kernel
theorem dX12_tight_77 : decode cX12_tight 77 = .ok (.ireturn, 1) := by decide +kernel
theorem dX12_tight_78 : decode cX12_tight 78 = .ok (.iconst 2, 1) := by decide +kernel
theorem dX12_tight_79 : decode cX12_tight 79 = .ok (.ireturn, 1) := by decide +kernel
theorem dX12_tight_80 : decode cX12_tight 80 = .ok (.iconst 3, 1) := by decide +kernel
theorem dX12_tight_81 : decode cX12_tight 81 = .ok (.ireturn, 1) := by decide +kernel
theorem dX12_tight_82 : decode cX12_tight 82 = .ok (.iconst 4, 1) := by decide +kernel
theorem dX12_tight_83 : decode cX12_tight 83 = .ok (.ireturn, 1) := by decide +kernel
theorem dX12_tight_84 : decode cX12_tight 84 = .ok (.iconst 5, 1) := by decide +kernel
theorem dX12_tight_85 : decode cX12_tight 85 = .ok (.ireturn, 1) := by decide +kernel
theorem dX12_tight_86 : decode cX12_tight 86 = .ok (.bipush 6, 2) := by decide +kernel
theorem dX12_tight_88 : decode cX12_tight 88 = .ok (.ireturn, 1) := by decide +kernel
theorem dX12_truth_0 : decode cX12_truth 0 = .ok (.iload_n 0, 1) := by decide +kernel
theorem dX12_truth_1 : decode cX12_truth 1 = .ok (.ifCond .eq 7, 3) := by decide +kernel
theorem dX12_truth_4 : decode cX12_truth 4 = .ok (.iconst 1, 1) := by decide +kernel
theorem dX12_truth_5 : decode cX12_truth 5 = .ok (.goto 4, 3) := by decide +kernel
theorem dX12_truth_8 : decode cX12_truth 8 = .ok (.iconst 0, 1) := by decide +kernel
theorem dX12_truth_9 : decode cX12_truth 9 = .ok (.ireturn, 1) := by decide +kernel
set_option maxHeartbeats 4000000 in
set_option maxRecDepth 100000 in
theorem n_tight (l : Launch) (D : va_G) (k : KT) (A : Nat → Prop) (a : Nat → Nat) (z : SK) (G : GS) (p0 : Int32)  : Met l yX12_tight (WS yX12_tight cX12_tight 1 (some .int)) ({ frames := 0, cells := 0, slots := 0, locals := 0 }) (va_Pc [.int p0] (cW D k A a z G)) (va_Qi (fun (r : Int32) (G1 : GS) => Q_tight p0 G r G1) (fun (G1 : GS) t => Wd D k A a G1 t.heap) A) 0 0 A := by
  refine Met.ofW (cc := cX12_tight) (maxL := 1) (ret := (some .int)) (by decide) rfl ?_
  intro p e s m args below meth c s₁ B hml hv
  obtain ⟨rfl, hW, hB_G, hK, hZ⟩ := hv
  have hx := B.exec
  have hb := B.bytes
  have hr := B.returns
  have hts := atoms_spec (ws := WS yX12_tight cX12_tight 1 (some .int)) B.pre
  have hgd : ∀ w ∈ gd, w ∈ WS yX12_tight cX12_tight 1 (some .int) := fun w h => List.mem_cons_of_mem _ h
  have hg : ∀ w ∈ gd, w.before _ s = true := fun w h => hts w (hgd w h)
  have hown : s.vm.findClass RX12 = some m.cls := findClass_of_methodNamed B.named
  have hS : va_S A s.heap s.heap [] := va_S.rf
  have hF : Fr [] [] G G := Fr.rf
  have hl := lv_entry ([.int p0]) (n := 1) (Nat.le_of_ble_eq_true rfl)
  rw [lg_entry_eq]
  generalize (lg_sl ([.int p0]) ++ List.replicate (1 - (lg_sl ([.int p0])).length) Slot.unset).toArray = ls at hl ⊢
  have hl : lv_has ls 1 [(0, .int p0)] := hl
  refine lv_iload_n hx hb dX12_tight_0 rfl (lv_at hl 0 rfl) ?_
  by_cases c_1 : p0 = 21
  · refine lv_lookup (tgt := 80) hx hb dX12_tight_1 (by decide) (off := 79) (by rw [c_1]; decide) (by decide) ?_
    have c_1 : p0.toInt = 21 := xI_eq rfl rfl c_1
    refine lv_iconst (v := 3) hx hb dX12_tight_80 (by decide) ?_
    exact W.iret (v := 3) hx hb hr (fun t ht _ => ⟨⟨3, G, rfl, (Q_tight_mk ⟨hB_G, hF, ⟨by decide, by decide⟩, (Or.inl ⟨c_1, ⟨rfl, rfl⟩⟩)⟩), wd_t ht hW⟩, hS.F ht⟩) hS.2.2 dX12_tight_81
  by_cases c_2 : p0 = 38
  · refine lv_lookup (tgt := 78) hx hb dX12_tight_1 (by decide) (off := 77) (by rw [c_2]; decide) (by decide) ?_
    have c_2 : p0.toInt = 38 := xI_eq rfl rfl c_2
    refine lv_iconst (v := 2) hx hb dX12_tight_78 (by decide) ?_
    exact W.iret (v := 2) hx hb hr (fun t ht _ => ⟨⟨2, G, rfl, (Q_tight_mk ⟨hB_G, hF, ⟨by decide, by decide⟩, (Or.inr ⟨(xI_ne (Y := 21) rfl rfl c_1), (Or.inl ⟨c_2, ⟨rfl, rfl⟩⟩)⟩)⟩), wd_t ht hW⟩, hS.F ht⟩) hS.2.2 dX12_tight_79
  by_cases c_3 : p0 = 43
  · refine lv_lookup (tgt := 84) hx hb dX12_tight_1 (by decide) (off := 83) (by rw [c_3]; decide) (by decide) ?_
    have c_3 : p0.toInt = 43 := xI_eq rfl rfl c_3
    refine lv_iconst (v := 5) hx hb dX12_tight_84 (by decide) ?_
    exact W.iret (v := 5) hx hb hr (fun t ht _ => ⟨⟨5, G, rfl, (Q_tight_mk ⟨hB_G, hF, ⟨by decide, by decide⟩, (Or.inr ⟨(xI_ne (Y := 21) rfl rfl c_1), (Or.inr ⟨(xI_ne (Y := 38) rfl rfl c_2), (Or.inl ⟨c_3, ⟨rfl, rfl⟩⟩)⟩)⟩)⟩), wd_t ht hW⟩, hS.F ht⟩) hS.2.2 dX12_tight_85
  by_cases c_4 : p0 = 45
  · refine lv_lookup (tgt := 84) hx hb dX12_tight_1 (by decide) (off := 83) (by rw [c_4]; decide) (by decide) ?_
    have c_4 : p0.toInt = 45 := xI_eq rfl rfl c_4
    refine lv_iconst (v := 5) hx hb dX12_tight_84 (by decide) ?_
    exact W.iret (v := 5) hx hb hr (fun t ht _ => ⟨⟨5, G, rfl, (Q_tight_mk ⟨hB_G, hF, ⟨by decide, by decide⟩, (Or.inr ⟨(xI_ne (Y := 21) rfl rfl c_1), (Or.inr ⟨(xI_ne (Y := 38) rfl rfl c_2), (Or.inr ⟨(xI_ne (Y := 43) rfl rfl c_3), (Or.inl ⟨c_4, ⟨rfl, rfl⟩⟩)⟩)⟩)⟩)⟩), wd_t ht hW⟩, hS.F ht⟩) hS.2.2 dX12_tight_85
  by_cases c_5 : p0 = 60
  · refine lv_lookup (tgt := 82) hx hb dX12_tight_1 (by decide) (off := 81) (by rw [c_5]; decide) (by decide) ?_
    have c_5 : p0.toInt = 60 := xI_eq rfl rfl c_5
    refine lv_iconst (v := 4) hx hb dX12_tight_82 (by decide) ?_
    exact W.iret (v := 4) hx hb hr (fun t ht _ => ⟨⟨4, G, rfl, (Q_tight_mk ⟨hB_G, hF, ⟨by decide, by decide⟩, (Or.inr ⟨(xI_ne (Y := 21) rfl rfl c_1), (Or.inr ⟨(xI_ne (Y := 38) rfl rfl c_2), (Or.inr ⟨(xI_ne (Y := 43) rfl rfl c_3), (Or.inr ⟨(xI_ne (Y := 45) rfl rfl c_4), (Or.inl ⟨c_5, ⟨rfl, rfl⟩⟩)⟩)⟩)⟩)⟩)⟩), wd_t ht hW⟩, hS.F ht⟩) hS.2.2 dX12_tight_83
  by_cases c_6 : p0 = 61
  · refine lv_lookup (tgt := 82) hx hb dX12_tight_1 (by decide) (off := 81) (by rw [c_6]; decide) (by decide) ?_
    have c_6 : p0.toInt = 61 := xI_eq rfl rfl c_6
    refine lv_iconst (v := 4) hx hb dX12_tight_82 (by decide) ?_
    exact W.iret (v := 4) hx hb hr (fun t ht _ => ⟨⟨4, G, rfl, (Q_tight_mk ⟨hB_G, hF, ⟨by decide, by decide⟩, (Or.inr ⟨(xI_ne (Y := 21) rfl rfl c_1), (Or.inr ⟨(xI_ne (Y := 38) rfl rfl c_2), (Or.inr ⟨(xI_ne (Y := 43) rfl rfl c_3), (Or.inr ⟨(xI_ne (Y := 45) rfl rfl c_4), (Or.inr ⟨(xI_ne (Y := 60) rfl rfl c_5), (Or.inl ⟨c_6, ⟨rfl, rfl⟩⟩)⟩)⟩)⟩)⟩)⟩)⟩), wd_t ht hW⟩, hS.F ht⟩) hS.2.2 dX12_tight_83
  by_cases c_7 : p0 = 62
  · refine lv_lookup (tgt := 82) hx hb dX12_tight_1 (by decide) (off := 81) (by rw [c_7]; decide) (by decide) ?_
    have c_7 : p0.toInt = 62 := xI_eq rfl rfl c_7
    refine lv_iconst (v := 4) hx hb dX12_tight_82 (by decide) ?_
    exact W.iret (v := 4) hx hb hr (fun t ht _ => ⟨⟨4, G, rfl, (Q_tight_mk ⟨hB_G, hF, ⟨by decide, by decide⟩, (Or.inr ⟨(xI_ne (Y := 21) rfl rfl c_1), (Or.inr ⟨(xI_ne (Y := 38) rfl rfl c_2), (Or.inr ⟨(xI_ne (Y := 43) rfl rfl c_3), (Or.inr ⟨(xI_ne (Y := 45) rfl rfl c_4), (Or.inr ⟨(xI_ne (Y := 60) rfl rfl c_5), (Or.inr ⟨(xI_ne (Y := 61) rfl rfl c_6), (Or.inl ⟨c_7, ⟨rfl, rfl⟩⟩)⟩)⟩)⟩)⟩)⟩)⟩)⟩), wd_t ht hW⟩, hS.F ht⟩) hS.2.2 dX12_tight_83
  by_cases c_8 : p0 = 124
  · refine lv_lookup (tgt := 76) hx hb dX12_tight_1 (by decide) (off := 75) (by rw [c_8]; decide) (by decide) ?_
    have c_8 : p0.toInt = 124 := xI_eq rfl rfl c_8
    refine lv_iconst (v := 1) hx hb dX12_tight_76 (by decide) ?_
    exact W.iret (v := 1) hx hb hr (fun t ht _ => ⟨⟨1, G, rfl, (Q_tight_mk ⟨hB_G, hF, ⟨by decide, by decide⟩, (Or.inr ⟨(xI_ne (Y := 21) rfl rfl c_1), (Or.inr ⟨(xI_ne (Y := 38) rfl rfl c_2), (Or.inr ⟨(xI_ne (Y := 43) rfl rfl c_3), (Or.inr ⟨(xI_ne (Y := 45) rfl rfl c_4), (Or.inr ⟨(xI_ne (Y := 60) rfl rfl c_5), (Or.inr ⟨(xI_ne (Y := 61) rfl rfl c_6), (Or.inr ⟨(xI_ne (Y := 62) rfl rfl c_7), (Or.inl ⟨c_8, ⟨rfl, rfl⟩⟩)⟩)⟩)⟩)⟩)⟩)⟩)⟩)⟩), wd_t ht hW⟩, hS.F ht⟩) hS.2.2 dX12_tight_77
  refine lv_lookup (tgt := 86) hx hb dX12_tight_1 (by decide) (off := 85) (by show Op.lookupswitch.offset [(21, 79), (38, 77), (43, 83), (45, 83), (60, 81), (61, 81), (62, 81), (124, 75)] _ _ = _; have c_1 := xI_ne (Y := 21) rfl rfl c_1; have c_2 := xI_ne (Y := 38) rfl rfl c_2; have c_3 := xI_ne (Y := 43) rfl rfl c_3; have c_4 := xI_ne (Y := 45) rfl rfl c_4; have c_5 := xI_ne (Y := 60) rfl rfl c_5; have c_6 := xI_ne (Y := 61) rfl rfl c_6; have c_7 := xI_ne (Y := 62) rfl rfl c_7; have c_8 := xI_ne (Y := 124) rfl rfl c_8; rw [Op.lookupswitch.offset_cons, if_neg (by omega), Op.lookupswitch.offset_cons, if_neg (by omega), Op.lookupswitch.offset_cons, if_neg (by omega), Op.lookupswitch.offset_cons, if_neg (by omega), Op.lookupswitch.offset_cons, if_neg (by omega), Op.lookupswitch.offset_cons, if_neg (by omega), Op.lookupswitch.offset_cons, if_neg (by omega), Op.lookupswitch.offset_cons, if_neg (by omega), Op.lookupswitch.offset_nil]) (by decide) ?_
  have c_1 := xI_ne (Y := 21) rfl rfl c_1
  have c_2 := xI_ne (Y := 38) rfl rfl c_2
  have c_3 := xI_ne (Y := 43) rfl rfl c_3
  have c_4 := xI_ne (Y := 45) rfl rfl c_4
  have c_5 := xI_ne (Y := 60) rfl rfl c_5
  have c_6 := xI_ne (Y := 61) rfl rfl c_6
  have c_7 := xI_ne (Y := 62) rfl rfl c_7
  have c_8 := xI_ne (Y := 124) rfl rfl c_8
  refine lv_bipush (v := 6) hx hb dX12_tight_86 (by decide) ?_
  exact W.iret (v := 6) hx hb hr (fun t ht _ => ⟨⟨6, G, rfl, (Q_tight_mk ⟨hB_G, hF, ⟨by decide, by decide⟩, (Or.inr ⟨c_1, (Or.inr ⟨c_2, (Or.inr ⟨c_3, (Or.inr ⟨c_4, (Or.inr ⟨c_5, (Or.inr ⟨c_6, (Or.inr ⟨c_7, (Or.inr ⟨c_8, ⟨rfl, rfl⟩⟩)⟩)⟩)⟩)⟩)⟩)⟩)⟩)⟩), wd_t ht hW⟩, hS.F ht⟩) hS.2.2 dX12_tight_88

set_option maxHeartbeats 4000000 in
set_option maxRecDepth 100000 in
theorem n_truth (l : Launch) (D : va_G) (k : KT) (A : Nat → Prop) (a : Nat → Nat) (z : SK) (G : GS) (p0 : Int32) (ha_p0 : 0 ≤ p0.toInt ∧ p0.toInt ≤ 1) : Met l yX12_truth (WS yX12_truth cX12_truth 1 (some .int)) ({ frames := 0, cells := 0, slots := 0, locals := 0 }) (va_Pc [.int p0] (cW D k A a z G)) (va_Qi (fun (r : Int32) (G1 : GS) => Q_truth p0 G r G1) (fun (G1 : GS) t => Wd D k A a G1 t.heap) A) 0 0 A := by
  refine Met.ofW (cc := cX12_truth) (maxL := 1) (ret := (some .int)) (by decide) rfl ?_
  intro p e s m args below meth c s₁ B hml hv
  obtain ⟨rfl, hW, hB_G, hK, hZ⟩ := hv
  have hx := B.exec
  have hb := B.bytes
  have hr := B.returns
  have hts := atoms_spec (ws := WS yX12_truth cX12_truth 1 (some .int)) B.pre
  have hgd : ∀ w ∈ gd, w ∈ WS yX12_truth cX12_truth 1 (some .int) := fun w h => List.mem_cons_of_mem _ h
  have hg : ∀ w ∈ gd, w.before _ s = true := fun w h => hts w (hgd w h)
  have hown : s.vm.findClass RX12 = some m.cls := findClass_of_methodNamed B.named
  have hS : va_S A s.heap s.heap [] := va_S.rf
  have hF : Fr [] [] G G := Fr.rf
  have hl := lv_entry ([.int p0]) (n := 1) (Nat.le_of_ble_eq_true rfl)
  rw [lg_entry_eq]
  generalize (lg_sl ([.int p0]) ++ List.replicate (1 - (lg_sl ([.int p0])).length) Slot.unset).toArray = ls at hl ⊢
  have hl : lv_has ls 1 [(0, .int p0)] := hl
  refine lv_iload_n hx hb dX12_truth_0 rfl (lv_at hl 0 rfl) ?_
  refine lv_if_eq (tgt := 8) hx hb dX12_truth_1 (by decide) (fun c_1 => ?_) (fun c_1 => ?_)
  · have c_1 : p0.toInt = 0 := xI_eq rfl rfl c_1
    refine lv_iconst (v := 0) hx hb dX12_truth_8 (by decide) ?_
    exact W.iret (v := 0) hx hb hr (fun t ht _ => ⟨⟨0, G, rfl, (Q_truth_mk ⟨hB_G, hF, ⟨by decide, by decide⟩, (by have hq : (0 : Int32).toInt = 0 := rfl; (try dsimp only); omega), (Or.inl ⟨c_1, ⟨rfl, rfl⟩⟩)⟩), wd_t ht hW⟩, hS.F ht⟩) hS.2.2 dX12_truth_9
  · have c_1 : p0.toInt ≠ 0 := xI_ne rfl rfl c_1
    refine lv_iconst (v := 1) hx hb dX12_truth_4 (by decide) ?_
    refine lv_goto (tgt := 9) hx hb dX12_truth_5 (by decide) ?_
    exact W.iret (v := 1) hx hb hr (fun t ht _ => ⟨⟨1, G, rfl, (Q_truth_mk ⟨hB_G, hF, ⟨by decide, by decide⟩, (by have hq : (1 : Int32).toInt = 1 := rfl; (try dsimp only); omega), (Or.inr ⟨c_1, ⟨rfl, rfl⟩⟩)⟩), wd_t ht hW⟩, hS.F ht⟩) hS.2.2 dX12_truth_9

set_option maxHeartbeats 4000000 in
set_option maxRecDepth 100000 in
theorem n_done (l : Launch) (D : va_G) (k : KT) (A : Nat → Prop) (a : Nat → Nat) (z : SK) (G : GS) (p0 : Int32) (p1 : Int32) (p2 : Int32)  : Met l yX12_done (WS yX12_done cX12_done 3 (some .int)) ({ frames := 1, cells := 0, slots := 0, locals := 20 }) (va_Pc [.int p0, .int p1, .int p2] (cW D k A a z G)) (va_Qi (fun (r : Int32) (G1 : GS) => Bd G1 ∧ Fr [] [] G G1) (fun (G1 : GS) t => Wd D k A a G1 t.heap) A) 0 0 A := by
  refine Met.ofW (cc := cX12_done) (maxL := 3) (ret := (some .int)) (by decide) rfl ?_
  intro p e s m args below meth c s₁ B hml hv
  obtain ⟨rfl, hW, hB_G, hK, hZ⟩ := hv
  have hx := B.exec
  have hb := B.bytes
  have hr := B.returns
  have hts := atoms_spec (ws := WS yX12_done cX12_done 3 (some .int)) B.pre
  have hgd : ∀ w ∈ gd, w ∈ WS yX12_done cX12_done 3 (some .int) := fun w h => List.mem_cons_of_mem _ h
  have hg : ∀ w ∈ gd, w.before _ s = true := fun w h => hts w (hgd w h)
  have hown : s.vm.findClass RX12 = some m.cls := findClass_of_methodNamed B.named
  have hS : va_S A s.heap s.heap [] := va_S.rf
  have hF : Fr [] [] G G := Fr.rf
  have hl := lv_entry ([.int p0, .int p1, .int p2]) (n := 3) (Nat.le_of_ble_eq_true rfl)
  rw [lg_entry_eq]
  generalize (lg_sl ([.int p0, .int p1, .int p2]) ++ List.replicate (3 - (lg_sl ([.int p0, .int p1, .int p2])).length) Slot.unset).toArray = ls at hl ⊢
  have hl : lv_has ls 3 [(0, .int p0), (1, .int p1), (2, .int p2)] := hl
  refine lv_iload_n hx hb dX12_done_0 rfl (lv_at hl 0 rfl) ?_
  by_cases c_1 : p0 = 37
  · refine lv_tableIn (tgt := 144) hx hb dX12_done_1 (by rw [c_1]; decide) (by rw [c_1]; decide) (off := 143) (by rw [c_1]; decide) (by decide) ?_
    have c_1 : p0.toInt = 37 := xI_eq rfl rfl c_1
    refine lv_iload_n hx hb dX12_done_144 rfl (lv_at hl 2 rfl) ?_
    refine lv_if_ne (tgt := 152) hx hb dX12_done_145 (by decide) (fun c_2 => ?_) (fun c_2 => ?_)
    · have c_2 : p2.toInt ≠ 0 := xI_ne rfl rfl c_2
      refine lv_iload_n hx hb dX12_done_152 rfl (lv_at hl 1 rfl) ?_
      refine lv_iload_n hx hb dX12_done_153 rfl (lv_at hl 2 rfl) ?_
      refine lv_irem hx hb dX12_done_154 (fun q => by have q := xI_eq (Y := 0) rfl rfl q; omega) ?_
      refine lv_topi (fun y_3 ey_3 => ?_)
      exact W.iret (v := y_3) hx hb hr (fun t ht _ => ⟨⟨y_3, G, rfl, ⟨hB_G, hF⟩, wd_t ht hW⟩, hS.F ht⟩) hS.2.2 dX12_done_155
    · have c_2 : p2.toInt = 0 := xI_eq rfl rfl c_2
      refine lv_iconst (v := 0) hx hb dX12_done_148 (by decide) ?_
      refine lv_goto (tgt := 155) hx hb dX12_done_149 (by decide) ?_
      exact W.iret (v := 0) hx hb hr (fun t ht _ => ⟨⟨0, G, rfl, ⟨hB_G, hF⟩, wd_t ht hW⟩, hS.F ht⟩) hS.2.2 dX12_done_155
  by_cases c_4 : p0 = 38
  · refine lv_tableIn (tgt := 198) hx hb dX12_done_1 (by rw [c_4]; decide) (by rw [c_4]; decide) (off := 197) (by rw [c_4]; decide) (by decide) ?_
    have c_4 : p0.toInt = 38 := xI_eq rfl rfl c_4
    refine lv_iload_n hx hb dX12_done_198 rfl (lv_at hl 1 rfl) ?_
    refine lv_if_eq (tgt := 210) hx hb dX12_done_199 (by decide) (fun c_5 => ?_) (fun c_5 => ?_)
    · have c_5 : p1.toInt = 0 := xI_eq rfl rfl c_5
      refine lv_iconst (v := 0) hx hb dX12_done_210 (by decide) ?_
      have qc_6 : (0 : Int32).toInt = 0 := rfl
      refine S_calli (va_runS (As := [.int 0]) (rest := []) ⟨hx, hb, hml, hown, hts⟩ (n_truth l D k A a z G 0 ⟨by decide, by decide⟩) (va_cwS 1 hts (gd_S hgd m1788 m1789 m131 m1790) rfl rfl rfl (by decide +kernel) ⟨Nat.le_of_ble_eq_true rfl, Nat.le_of_ble_eq_true rfl⟩) (pre_S hW hB_G hK hZ hS) rfl rfl hl.1 rfl (lv_room (Nat.le_of_ble_eq_true rfl)) dX12_done_211 ⟨Nat.le_of_ble_eq_true rfl, Nat.le_of_ble_eq_true rfl⟩) hS (fun r_7 G_8 H locs hpo hW hS => ?_)
      obtain ⟨hB_G_8, hq_9, f_11, hp_10, -⟩ := hpo
      have hF := hF.call hq_9 (by decide) (by decide)
      exact W.iret (v := r_7) hx hb hr (fun t ht _ => ⟨⟨r_7, G_8, rfl, ⟨hB_G_8, hF⟩, wd_t ht hW⟩, hS.F ht⟩) hS.2.2 dX12_done_214
    · have c_5 : p1.toInt ≠ 0 := xI_ne rfl rfl c_5
      refine lv_iload_n hx hb dX12_done_202 rfl (lv_at hl 2 rfl) ?_
      refine lv_if_eq (tgt := 210) hx hb dX12_done_203 (by decide) (fun c_12 => ?_) (fun c_12 => ?_)
      · have c_12 : p2.toInt = 0 := xI_eq rfl rfl c_12
        refine lv_iconst (v := 0) hx hb dX12_done_210 (by decide) ?_
        have qc_13 : (0 : Int32).toInt = 0 := rfl
        refine S_calli (va_runS (As := [.int 0]) (rest := []) ⟨hx, hb, hml, hown, hts⟩ (n_truth l D k A a z G 0 ⟨by decide, by decide⟩) (va_cwS 1 hts (gd_S hgd m1788 m1789 m131 m1790) rfl rfl rfl (by decide +kernel) ⟨Nat.le_of_ble_eq_true rfl, Nat.le_of_ble_eq_true rfl⟩) (pre_S hW hB_G hK hZ hS) rfl rfl hl.1 rfl (lv_room (Nat.le_of_ble_eq_true rfl)) dX12_done_211 ⟨Nat.le_of_ble_eq_true rfl, Nat.le_of_ble_eq_true rfl⟩) hS (fun r_14 G_15 H locs hpo hW hS => ?_)
        obtain ⟨hB_G_15, hq_16, f_18, hp_17, -⟩ := hpo
        have hF := hF.call hq_16 (by decide) (by decide)
        exact W.iret (v := r_14) hx hb hr (fun t ht _ => ⟨⟨r_14, G_15, rfl, ⟨hB_G_15, hF⟩, wd_t ht hW⟩, hS.F ht⟩) hS.2.2 dX12_done_214
      · have c_12 : p2.toInt ≠ 0 := xI_ne rfl rfl c_12
        refine lv_iconst (v := 1) hx hb dX12_done_206 (by decide) ?_
        refine lv_goto (tgt := 211) hx hb dX12_done_207 (by decide) ?_
        have qc_19 : (1 : Int32).toInt = 1 := rfl
        refine S_calli (va_runS (As := [.int 1]) (rest := []) ⟨hx, hb, hml, hown, hts⟩ (n_truth l D k A a z G 1 ⟨by decide, by decide⟩) (va_cwS 1 hts (gd_S hgd m1788 m1789 m131 m1790) rfl rfl rfl (by decide +kernel) ⟨Nat.le_of_ble_eq_true rfl, Nat.le_of_ble_eq_true rfl⟩) (pre_S hW hB_G hK hZ hS) rfl rfl hl.1 rfl (lv_room (Nat.le_of_ble_eq_true rfl)) dX12_done_211 ⟨Nat.le_of_ble_eq_true rfl, Nat.le_of_ble_eq_true rfl⟩) hS (fun r_20 G_21 H locs hpo hW hS => ?_)
        obtain ⟨hB_G_21, hq_22, f_24, hp_23, -⟩ := hpo
        have hF := hF.call hq_22 (by decide) (by decide)
        exact W.iret (v := r_20) hx hb hr (fun t ht _ => ⟨⟨r_20, G_21, rfl, ⟨hB_G_21, hF⟩, wd_t ht hW⟩, hS.F ht⟩) hS.2.2 dX12_done_214
  by_cases c_25 : p0 = 39
  · refine lv_tableIn (tgt := 215) hx hb dX12_done_1 (by rw [c_25]; decide) (by rw [c_25]; decide) (off := 214) (by rw [c_25]; decide) (by decide) ?_
    have c_25 : p0.toInt = 39 := xI_eq rfl rfl c_25
    refine lv_iload_n hx hb dX12_done_215 rfl (lv_at hl 1 rfl) ?_
    refine lv_if_ne (tgt := 223) hx hb dX12_done_216 (by decide) (fun c_26 => ?_) (fun c_26 => ?_)
    · have c_26 : p1.toInt ≠ 0 := xI_ne rfl rfl c_26
      refine lv_iconst (v := 1) hx hb dX12_done_223 (by decide) ?_
      refine lv_goto (tgt := 228) hx hb dX12_done_224 (by decide) ?_
      have qc_27 : (1 : Int32).toInt = 1 := rfl
      refine S_calli (va_runS (As := [.int 1]) (rest := []) ⟨hx, hb, hml, hown, hts⟩ (n_truth l D k A a z G 1 ⟨by decide, by decide⟩) (va_cwS 1 hts (gd_S hgd m1788 m1789 m131 m1790) rfl rfl rfl (by decide +kernel) ⟨Nat.le_of_ble_eq_true rfl, Nat.le_of_ble_eq_true rfl⟩) (pre_S hW hB_G hK hZ hS) rfl rfl hl.1 rfl (lv_room (Nat.le_of_ble_eq_true rfl)) dX12_done_228 ⟨Nat.le_of_ble_eq_true rfl, Nat.le_of_ble_eq_true rfl⟩) hS (fun r_28 G_29 H locs hpo hW hS => ?_)
      obtain ⟨hB_G_29, hq_30, f_32, hp_31, -⟩ := hpo
      have hF := hF.call hq_30 (by decide) (by decide)
      exact W.iret (v := r_28) hx hb hr (fun t ht _ => ⟨⟨r_28, G_29, rfl, ⟨hB_G_29, hF⟩, wd_t ht hW⟩, hS.F ht⟩) hS.2.2 dX12_done_231
    · have c_26 : p1.toInt = 0 := xI_eq rfl rfl c_26
      refine lv_iload_n hx hb dX12_done_219 rfl (lv_at hl 2 rfl) ?_
      refine lv_if_eq (tgt := 227) hx hb dX12_done_220 (by decide) (fun c_33 => ?_) (fun c_33 => ?_)
      · have c_33 : p2.toInt = 0 := xI_eq rfl rfl c_33
        refine lv_iconst (v := 0) hx hb dX12_done_227 (by decide) ?_
        have qc_34 : (0 : Int32).toInt = 0 := rfl
        refine S_calli (va_runS (As := [.int 0]) (rest := []) ⟨hx, hb, hml, hown, hts⟩ (n_truth l D k A a z G 0 ⟨by decide, by decide⟩) (va_cwS 1 hts (gd_S hgd m1788 m1789 m131 m1790) rfl rfl rfl (by decide +kernel) ⟨Nat.le_of_ble_eq_true rfl, Nat.le_of_ble_eq_true rfl⟩) (pre_S hW hB_G hK hZ hS) rfl rfl hl.1 rfl (lv_room (Nat.le_of_ble_eq_true rfl)) dX12_done_228 ⟨Nat.le_of_ble_eq_true rfl, Nat.le_of_ble_eq_true rfl⟩) hS (fun r_35 G_36 H locs hpo hW hS => ?_)
        obtain ⟨hB_G_36, hq_37, f_39, hp_38, -⟩ := hpo
        have hF := hF.call hq_37 (by decide) (by decide)
        exact W.iret (v := r_35) hx hb hr (fun t ht _ => ⟨⟨r_35, G_36, rfl, ⟨hB_G_36, hF⟩, wd_t ht hW⟩, hS.F ht⟩) hS.2.2 dX12_done_231
      · have c_33 : p2.toInt ≠ 0 := xI_ne rfl rfl c_33
        refine lv_iconst (v := 1) hx hb dX12_done_223 (by decide) ?_
        refine lv_goto (tgt := 228) hx hb dX12_done_224 (by decide) ?_
        have qc_40 : (1 : Int32).toInt = 1 := rfl
        refine S_calli (va_runS (As := [.int 1]) (rest := []) ⟨hx, hb, hml, hown, hts⟩ (n_truth l D k A a z G 1 ⟨by decide, by decide⟩) (va_cwS 1 hts (gd_S hgd m1788 m1789 m131 m1790) rfl rfl rfl (by decide +kernel) ⟨Nat.le_of_ble_eq_true rfl, Nat.le_of_ble_eq_true rfl⟩) (pre_S hW hB_G hK hZ hS) rfl rfl hl.1 rfl (lv_room (Nat.le_of_ble_eq_true rfl)) dX12_done_228 ⟨Nat.le_of_ble_eq_true rfl, Nat.le_of_ble_eq_true rfl⟩) hS (fun r_41 G_42 H locs hpo hW hS => ?_)
        obtain ⟨hB_G_42, hq_43, f_45, hp_44, -⟩ := hpo
        have hF := hF.call hq_43 (by decide) (by decide)
        exact W.iret (v := r_41) hx hb hr (fun t ht _ => ⟨⟨r_41, G_42, rfl, ⟨hB_G_42, hF⟩, wd_t ht hW⟩, hS.F ht⟩) hS.2.2 dX12_done_231
  by_cases c_46 : p0 = 40
  · refine lv_tableIn (tgt := 215) hx hb dX12_done_1 (by rw [c_46]; decide) (by rw [c_46]; decide) (off := 214) (by rw [c_46]; decide) (by decide) ?_
    have c_46 : p0.toInt = 40 := xI_eq rfl rfl c_46
    refine lv_iload_n hx hb dX12_done_215 rfl (lv_at hl 1 rfl) ?_
    refine lv_if_ne (tgt := 223) hx hb dX12_done_216 (by decide) (fun c_47 => ?_) (fun c_47 => ?_)
    · have c_47 : p1.toInt ≠ 0 := xI_ne rfl rfl c_47
      refine lv_iconst (v := 1) hx hb dX12_done_223 (by decide) ?_
      refine lv_goto (tgt := 228) hx hb dX12_done_224 (by decide) ?_
      have qc_48 : (1 : Int32).toInt = 1 := rfl
      refine S_calli (va_runS (As := [.int 1]) (rest := []) ⟨hx, hb, hml, hown, hts⟩ (n_truth l D k A a z G 1 ⟨by decide, by decide⟩) (va_cwS 1 hts (gd_S hgd m1788 m1789 m131 m1790) rfl rfl rfl (by decide +kernel) ⟨Nat.le_of_ble_eq_true rfl, Nat.le_of_ble_eq_true rfl⟩) (pre_S hW hB_G hK hZ hS) rfl rfl hl.1 rfl (lv_room (Nat.le_of_ble_eq_true rfl)) dX12_done_228 ⟨Nat.le_of_ble_eq_true rfl, Nat.le_of_ble_eq_true rfl⟩) hS (fun r_49 G_50 H locs hpo hW hS => ?_)
      obtain ⟨hB_G_50, hq_51, f_53, hp_52, -⟩ := hpo
      have hF := hF.call hq_51 (by decide) (by decide)
      exact W.iret (v := r_49) hx hb hr (fun t ht _ => ⟨⟨r_49, G_50, rfl, ⟨hB_G_50, hF⟩, wd_t ht hW⟩, hS.F ht⟩) hS.2.2 dX12_done_231
    · have c_47 : p1.toInt = 0 := xI_eq rfl rfl c_47
      refine lv_iload_n hx hb dX12_done_219 rfl (lv_at hl 2 rfl) ?_
      refine lv_if_eq (tgt := 227) hx hb dX12_done_220 (by decide) (fun c_54 => ?_) (fun c_54 => ?_)
      · have c_54 : p2.toInt = 0 := xI_eq rfl rfl c_54
        refine lv_iconst (v := 0) hx hb dX12_done_227 (by decide) ?_
        have qc_55 : (0 : Int32).toInt = 0 := rfl
        refine S_calli (va_runS (As := [.int 0]) (rest := []) ⟨hx, hb, hml, hown, hts⟩ (n_truth l D k A a z G 0 ⟨by decide, by decide⟩) (va_cwS 1 hts (gd_S hgd m1788 m1789 m131 m1790) rfl rfl rfl (by decide +kernel) ⟨Nat.le_of_ble_eq_true rfl, Nat.le_of_ble_eq_true rfl⟩) (pre_S hW hB_G hK hZ hS) rfl rfl hl.1 rfl (lv_room (Nat.le_of_ble_eq_true rfl)) dX12_done_228 ⟨Nat.le_of_ble_eq_true rfl, Nat.le_of_ble_eq_true rfl⟩) hS (fun r_56 G_57 H locs hpo hW hS => ?_)
        obtain ⟨hB_G_57, hq_58, f_60, hp_59, -⟩ := hpo
        have hF := hF.call hq_58 (by decide) (by decide)
        exact W.iret (v := r_56) hx hb hr (fun t ht _ => ⟨⟨r_56, G_57, rfl, ⟨hB_G_57, hF⟩, wd_t ht hW⟩, hS.F ht⟩) hS.2.2 dX12_done_231
      · have c_54 : p2.toInt ≠ 0 := xI_ne rfl rfl c_54
        refine lv_iconst (v := 1) hx hb dX12_done_223 (by decide) ?_
        refine lv_goto (tgt := 228) hx hb dX12_done_224 (by decide) ?_
        have qc_61 : (1 : Int32).toInt = 1 := rfl
        refine S_calli (va_runS (As := [.int 1]) (rest := []) ⟨hx, hb, hml, hown, hts⟩ (n_truth l D k A a z G 1 ⟨by decide, by decide⟩) (va_cwS 1 hts (gd_S hgd m1788 m1789 m131 m1790) rfl rfl rfl (by decide +kernel) ⟨Nat.le_of_ble_eq_true rfl, Nat.le_of_ble_eq_true rfl⟩) (pre_S hW hB_G hK hZ hS) rfl rfl hl.1 rfl (lv_room (Nat.le_of_ble_eq_true rfl)) dX12_done_228 ⟨Nat.le_of_ble_eq_true rfl, Nat.le_of_ble_eq_true rfl⟩) hS (fun r_62 G_63 H locs hpo hW hS => ?_)
        obtain ⟨hB_G_63, hq_64, f_66, hp_65, -⟩ := hpo
        have hF := hF.call hq_64 (by decide) (by decide)
        exact W.iret (v := r_62) hx hb hr (fun t ht _ => ⟨⟨r_62, G_63, rfl, ⟨hB_G_63, hF⟩, wd_t ht hW⟩, hS.F ht⟩) hS.2.2 dX12_done_231
  by_cases c_67 : p0 = 41
  · refine lv_tableIn (tgt := 215) hx hb dX12_done_1 (by rw [c_67]; decide) (by rw [c_67]; decide) (off := 214) (by rw [c_67]; decide) (by decide) ?_
    have c_67 : p0.toInt = 41 := xI_eq rfl rfl c_67
    refine lv_iload_n hx hb dX12_done_215 rfl (lv_at hl 1 rfl) ?_
    refine lv_if_ne (tgt := 223) hx hb dX12_done_216 (by decide) (fun c_68 => ?_) (fun c_68 => ?_)
    · have c_68 : p1.toInt ≠ 0 := xI_ne rfl rfl c_68
      refine lv_iconst (v := 1) hx hb dX12_done_223 (by decide) ?_
      refine lv_goto (tgt := 228) hx hb dX12_done_224 (by decide) ?_
      have qc_69 : (1 : Int32).toInt = 1 := rfl
      refine S_calli (va_runS (As := [.int 1]) (rest := []) ⟨hx, hb, hml, hown, hts⟩ (n_truth l D k A a z G 1 ⟨by decide, by decide⟩) (va_cwS 1 hts (gd_S hgd m1788 m1789 m131 m1790) rfl rfl rfl (by decide +kernel) ⟨Nat.le_of_ble_eq_true rfl, Nat.le_of_ble_eq_true rfl⟩) (pre_S hW hB_G hK hZ hS) rfl rfl hl.1 rfl (lv_room (Nat.le_of_ble_eq_true rfl)) dX12_done_228 ⟨Nat.le_of_ble_eq_true rfl, Nat.le_of_ble_eq_true rfl⟩) hS (fun r_70 G_71 H locs hpo hW hS => ?_)
      obtain ⟨hB_G_71, hq_72, f_74, hp_73, -⟩ := hpo
      have hF := hF.call hq_72 (by decide) (by decide)
      exact W.iret (v := r_70) hx hb hr (fun t ht _ => ⟨⟨r_70, G_71, rfl, ⟨hB_G_71, hF⟩, wd_t ht hW⟩, hS.F ht⟩) hS.2.2 dX12_done_231
    · have c_68 : p1.toInt = 0 := xI_eq rfl rfl c_68
      refine lv_iload_n hx hb dX12_done_219 rfl (lv_at hl 2 rfl) ?_
      refine lv_if_eq (tgt := 227) hx hb dX12_done_220 (by decide) (fun c_75 => ?_) (fun c_75 => ?_)
      · have c_75 : p2.toInt = 0 := xI_eq rfl rfl c_75
        refine lv_iconst (v := 0) hx hb dX12_done_227 (by decide) ?_
        have qc_76 : (0 : Int32).toInt = 0 := rfl
        refine S_calli (va_runS (As := [.int 0]) (rest := []) ⟨hx, hb, hml, hown, hts⟩ (n_truth l D k A a z G 0 ⟨by decide, by decide⟩) (va_cwS 1 hts (gd_S hgd m1788 m1789 m131 m1790) rfl rfl rfl (by decide +kernel) ⟨Nat.le_of_ble_eq_true rfl, Nat.le_of_ble_eq_true rfl⟩) (pre_S hW hB_G hK hZ hS) rfl rfl hl.1 rfl (lv_room (Nat.le_of_ble_eq_true rfl)) dX12_done_228 ⟨Nat.le_of_ble_eq_true rfl, Nat.le_of_ble_eq_true rfl⟩) hS (fun r_77 G_78 H locs hpo hW hS => ?_)
        obtain ⟨hB_G_78, hq_79, f_81, hp_80, -⟩ := hpo
        have hF := hF.call hq_79 (by decide) (by decide)
        exact W.iret (v := r_77) hx hb hr (fun t ht _ => ⟨⟨r_77, G_78, rfl, ⟨hB_G_78, hF⟩, wd_t ht hW⟩, hS.F ht⟩) hS.2.2 dX12_done_231
      · have c_75 : p2.toInt ≠ 0 := xI_ne rfl rfl c_75
        refine lv_iconst (v := 1) hx hb dX12_done_223 (by decide) ?_
        refine lv_goto (tgt := 228) hx hb dX12_done_224 (by decide) ?_
        have qc_82 : (1 : Int32).toInt = 1 := rfl
        refine S_calli (va_runS (As := [.int 1]) (rest := []) ⟨hx, hb, hml, hown, hts⟩ (n_truth l D k A a z G 1 ⟨by decide, by decide⟩) (va_cwS 1 hts (gd_S hgd m1788 m1789 m131 m1790) rfl rfl rfl (by decide +kernel) ⟨Nat.le_of_ble_eq_true rfl, Nat.le_of_ble_eq_true rfl⟩) (pre_S hW hB_G hK hZ hS) rfl rfl hl.1 rfl (lv_room (Nat.le_of_ble_eq_true rfl)) dX12_done_228 ⟨Nat.le_of_ble_eq_true rfl, Nat.le_of_ble_eq_true rfl⟩) hS (fun r_83 G_84 H locs hpo hW hS => ?_)
        obtain ⟨hB_G_84, hq_85, f_87, hp_86, -⟩ := hpo
        have hF := hF.call hq_85 (by decide) (by decide)
        exact W.iret (v := r_83) hx hb hr (fun t ht _ => ⟨⟨r_83, G_84, rfl, ⟨hB_G_84, hF⟩, wd_t ht hW⟩, hS.F ht⟩) hS.2.2 dX12_done_231
  by_cases c_88 : p0 = 42
  · refine lv_tableIn (tgt := 128) hx hb dX12_done_1 (by rw [c_88]; decide) (by rw [c_88]; decide) (off := 127) (by rw [c_88]; decide) (by decide) ?_
    have c_88 : p0.toInt = 42 := xI_eq rfl rfl c_88
    refine lv_iload_n hx hb dX12_done_128 rfl (lv_at hl 1 rfl) ?_
    refine lv_iload_n hx hb dX12_done_129 rfl (lv_at hl 2 rfl) ?_
    refine lv_imul hx hb dX12_done_130 ?_
    refine lv_topi (fun y_89 ey_89 => ?_)
    exact W.iret (v := y_89) hx hb hr (fun t ht _ => ⟨⟨y_89, G, rfl, ⟨hB_G, hF⟩, wd_t ht hW⟩, hS.F ht⟩) hS.2.2 dX12_done_131
  by_cases c_90 : p0 = 43
  · refine lv_tableIn (tgt := 120) hx hb dX12_done_1 (by rw [c_90]; decide) (by rw [c_90]; decide) (off := 119) (by rw [c_90]; decide) (by decide) ?_
    have c_90 : p0.toInt = 43 := xI_eq rfl rfl c_90
    refine lv_iload_n hx hb dX12_done_120 rfl (lv_at hl 1 rfl) ?_
    refine lv_iload_n hx hb dX12_done_121 rfl (lv_at hl 2 rfl) ?_
    refine lv_iadd hx hb dX12_done_122 ?_
    refine lv_topi (fun y_91 ey_91 => ?_)
    exact W.iret (v := y_91) hx hb hr (fun t ht _ => ⟨⟨y_91, G, rfl, ⟨hB_G, hF⟩, wd_t ht hW⟩, hS.F ht⟩) hS.2.2 dX12_done_123
  by_cases c_92 : p0 = 44
  · refine lv_tableIn (tgt := 215) hx hb dX12_done_1 (by rw [c_92]; decide) (by rw [c_92]; decide) (off := 214) (by rw [c_92]; decide) (by decide) ?_
    have c_92 : p0.toInt = 44 := xI_eq rfl rfl c_92
    refine lv_iload_n hx hb dX12_done_215 rfl (lv_at hl 1 rfl) ?_
    refine lv_if_ne (tgt := 223) hx hb dX12_done_216 (by decide) (fun c_93 => ?_) (fun c_93 => ?_)
    · have c_93 : p1.toInt ≠ 0 := xI_ne rfl rfl c_93
      refine lv_iconst (v := 1) hx hb dX12_done_223 (by decide) ?_
      refine lv_goto (tgt := 228) hx hb dX12_done_224 (by decide) ?_
      have qc_94 : (1 : Int32).toInt = 1 := rfl
      refine S_calli (va_runS (As := [.int 1]) (rest := []) ⟨hx, hb, hml, hown, hts⟩ (n_truth l D k A a z G 1 ⟨by decide, by decide⟩) (va_cwS 1 hts (gd_S hgd m1788 m1789 m131 m1790) rfl rfl rfl (by decide +kernel) ⟨Nat.le_of_ble_eq_true rfl, Nat.le_of_ble_eq_true rfl⟩) (pre_S hW hB_G hK hZ hS) rfl rfl hl.1 rfl (lv_room (Nat.le_of_ble_eq_true rfl)) dX12_done_228 ⟨Nat.le_of_ble_eq_true rfl, Nat.le_of_ble_eq_true rfl⟩) hS (fun r_95 G_96 H locs hpo hW hS => ?_)
      obtain ⟨hB_G_96, hq_97, f_99, hp_98, -⟩ := hpo
      have hF := hF.call hq_97 (by decide) (by decide)
      exact W.iret (v := r_95) hx hb hr (fun t ht _ => ⟨⟨r_95, G_96, rfl, ⟨hB_G_96, hF⟩, wd_t ht hW⟩, hS.F ht⟩) hS.2.2 dX12_done_231
    · have c_93 : p1.toInt = 0 := xI_eq rfl rfl c_93
      refine lv_iload_n hx hb dX12_done_219 rfl (lv_at hl 2 rfl) ?_
      refine lv_if_eq (tgt := 227) hx hb dX12_done_220 (by decide) (fun c_100 => ?_) (fun c_100 => ?_)
      · have c_100 : p2.toInt = 0 := xI_eq rfl rfl c_100
        refine lv_iconst (v := 0) hx hb dX12_done_227 (by decide) ?_
        have qc_101 : (0 : Int32).toInt = 0 := rfl
        refine S_calli (va_runS (As := [.int 0]) (rest := []) ⟨hx, hb, hml, hown, hts⟩ (n_truth l D k A a z G 0 ⟨by decide, by decide⟩) (va_cwS 1 hts (gd_S hgd m1788 m1789 m131 m1790) rfl rfl rfl (by decide +kernel) ⟨Nat.le_of_ble_eq_true rfl, Nat.le_of_ble_eq_true rfl⟩) (pre_S hW hB_G hK hZ hS) rfl rfl hl.1 rfl (lv_room (Nat.le_of_ble_eq_true rfl)) dX12_done_228 ⟨Nat.le_of_ble_eq_true rfl, Nat.le_of_ble_eq_true rfl⟩) hS (fun r_102 G_103 H locs hpo hW hS => ?_)
        obtain ⟨hB_G_103, hq_104, f_106, hp_105, -⟩ := hpo
        have hF := hF.call hq_104 (by decide) (by decide)
        exact W.iret (v := r_102) hx hb hr (fun t ht _ => ⟨⟨r_102, G_103, rfl, ⟨hB_G_103, hF⟩, wd_t ht hW⟩, hS.F ht⟩) hS.2.2 dX12_done_231
      · have c_100 : p2.toInt ≠ 0 := xI_ne rfl rfl c_100
        refine lv_iconst (v := 1) hx hb dX12_done_223 (by decide) ?_
        refine lv_goto (tgt := 228) hx hb dX12_done_224 (by decide) ?_
        have qc_107 : (1 : Int32).toInt = 1 := rfl
        refine S_calli (va_runS (As := [.int 1]) (rest := []) ⟨hx, hb, hml, hown, hts⟩ (n_truth l D k A a z G 1 ⟨by decide, by decide⟩) (va_cwS 1 hts (gd_S hgd m1788 m1789 m131 m1790) rfl rfl rfl (by decide +kernel) ⟨Nat.le_of_ble_eq_true rfl, Nat.le_of_ble_eq_true rfl⟩) (pre_S hW hB_G hK hZ hS) rfl rfl hl.1 rfl (lv_room (Nat.le_of_ble_eq_true rfl)) dX12_done_228 ⟨Nat.le_of_ble_eq_true rfl, Nat.le_of_ble_eq_true rfl⟩) hS (fun r_108 G_109 H locs hpo hW hS => ?_)
        obtain ⟨hB_G_109, hq_110, f_112, hp_111, -⟩ := hpo
        have hF := hF.call hq_110 (by decide) (by decide)
        exact W.iret (v := r_108) hx hb hr (fun t ht _ => ⟨⟨r_108, G_109, rfl, ⟨hB_G_109, hF⟩, wd_t ht hW⟩, hS.F ht⟩) hS.2.2 dX12_done_231
  by_cases c_113 : p0 = 45
  · refine lv_tableIn (tgt := 124) hx hb dX12_done_1 (by rw [c_113]; decide) (by rw [c_113]; decide) (off := 123) (by rw [c_113]; decide) (by decide) ?_
    have c_113 : p0.toInt = 45 := xI_eq rfl rfl c_113
    refine lv_iload_n hx hb dX12_done_124 rfl (lv_at hl 1 rfl) ?_
    refine lv_iload_n hx hb dX12_done_125 rfl (lv_at hl 2 rfl) ?_
    refine lv_isub hx hb dX12_done_126 ?_
    refine lv_topi (fun y_114 ey_114 => ?_)
    exact W.iret (v := y_114) hx hb hr (fun t ht _ => ⟨⟨y_114, G, rfl, ⟨hB_G, hF⟩, wd_t ht hW⟩, hS.F ht⟩) hS.2.2 dX12_done_127
  by_cases c_115 : p0 = 46
  · refine lv_tableIn (tgt := 215) hx hb dX12_done_1 (by rw [c_115]; decide) (by rw [c_115]; decide) (off := 214) (by rw [c_115]; decide) (by decide) ?_
    have c_115 : p0.toInt = 46 := xI_eq rfl rfl c_115
    refine lv_iload_n hx hb dX12_done_215 rfl (lv_at hl 1 rfl) ?_
    refine lv_if_ne (tgt := 223) hx hb dX12_done_216 (by decide) (fun c_116 => ?_) (fun c_116 => ?_)
    · have c_116 : p1.toInt ≠ 0 := xI_ne rfl rfl c_116
      refine lv_iconst (v := 1) hx hb dX12_done_223 (by decide) ?_
      refine lv_goto (tgt := 228) hx hb dX12_done_224 (by decide) ?_
      have qc_117 : (1 : Int32).toInt = 1 := rfl
      refine S_calli (va_runS (As := [.int 1]) (rest := []) ⟨hx, hb, hml, hown, hts⟩ (n_truth l D k A a z G 1 ⟨by decide, by decide⟩) (va_cwS 1 hts (gd_S hgd m1788 m1789 m131 m1790) rfl rfl rfl (by decide +kernel) ⟨Nat.le_of_ble_eq_true rfl, Nat.le_of_ble_eq_true rfl⟩) (pre_S hW hB_G hK hZ hS) rfl rfl hl.1 rfl (lv_room (Nat.le_of_ble_eq_true rfl)) dX12_done_228 ⟨Nat.le_of_ble_eq_true rfl, Nat.le_of_ble_eq_true rfl⟩) hS (fun r_118 G_119 H locs hpo hW hS => ?_)
      obtain ⟨hB_G_119, hq_120, f_122, hp_121, -⟩ := hpo
      have hF := hF.call hq_120 (by decide) (by decide)
      exact W.iret (v := r_118) hx hb hr (fun t ht _ => ⟨⟨r_118, G_119, rfl, ⟨hB_G_119, hF⟩, wd_t ht hW⟩, hS.F ht⟩) hS.2.2 dX12_done_231
    · have c_116 : p1.toInt = 0 := xI_eq rfl rfl c_116
      refine lv_iload_n hx hb dX12_done_219 rfl (lv_at hl 2 rfl) ?_
      refine lv_if_eq (tgt := 227) hx hb dX12_done_220 (by decide) (fun c_123 => ?_) (fun c_123 => ?_)
      · have c_123 : p2.toInt = 0 := xI_eq rfl rfl c_123
        refine lv_iconst (v := 0) hx hb dX12_done_227 (by decide) ?_
        have qc_124 : (0 : Int32).toInt = 0 := rfl
        refine S_calli (va_runS (As := [.int 0]) (rest := []) ⟨hx, hb, hml, hown, hts⟩ (n_truth l D k A a z G 0 ⟨by decide, by decide⟩) (va_cwS 1 hts (gd_S hgd m1788 m1789 m131 m1790) rfl rfl rfl (by decide +kernel) ⟨Nat.le_of_ble_eq_true rfl, Nat.le_of_ble_eq_true rfl⟩) (pre_S hW hB_G hK hZ hS) rfl rfl hl.1 rfl (lv_room (Nat.le_of_ble_eq_true rfl)) dX12_done_228 ⟨Nat.le_of_ble_eq_true rfl, Nat.le_of_ble_eq_true rfl⟩) hS (fun r_125 G_126 H locs hpo hW hS => ?_)
        obtain ⟨hB_G_126, hq_127, f_129, hp_128, -⟩ := hpo
        have hF := hF.call hq_127 (by decide) (by decide)
        exact W.iret (v := r_125) hx hb hr (fun t ht _ => ⟨⟨r_125, G_126, rfl, ⟨hB_G_126, hF⟩, wd_t ht hW⟩, hS.F ht⟩) hS.2.2 dX12_done_231
      · have c_123 : p2.toInt ≠ 0 := xI_ne rfl rfl c_123
        refine lv_iconst (v := 1) hx hb dX12_done_223 (by decide) ?_
        refine lv_goto (tgt := 228) hx hb dX12_done_224 (by decide) ?_
        have qc_130 : (1 : Int32).toInt = 1 := rfl
        refine S_calli (va_runS (As := [.int 1]) (rest := []) ⟨hx, hb, hml, hown, hts⟩ (n_truth l D k A a z G 1 ⟨by decide, by decide⟩) (va_cwS 1 hts (gd_S hgd m1788 m1789 m131 m1790) rfl rfl rfl (by decide +kernel) ⟨Nat.le_of_ble_eq_true rfl, Nat.le_of_ble_eq_true rfl⟩) (pre_S hW hB_G hK hZ hS) rfl rfl hl.1 rfl (lv_room (Nat.le_of_ble_eq_true rfl)) dX12_done_228 ⟨Nat.le_of_ble_eq_true rfl, Nat.le_of_ble_eq_true rfl⟩) hS (fun r_131 G_132 H locs hpo hW hS => ?_)
        obtain ⟨hB_G_132, hq_133, f_135, hp_134, -⟩ := hpo
        have hF := hF.call hq_133 (by decide) (by decide)
        exact W.iret (v := r_131) hx hb hr (fun t ht _ => ⟨⟨r_131, G_132, rfl, ⟨hB_G_132, hF⟩, wd_t ht hW⟩, hS.F ht⟩) hS.2.2 dX12_done_231
  by_cases c_136 : p0 = 47
  · refine lv_tableIn (tgt := 132) hx hb dX12_done_1 (by rw [c_136]; decide) (by rw [c_136]; decide) (off := 131) (by rw [c_136]; decide) (by decide) ?_
    have c_136 : p0.toInt = 47 := xI_eq rfl rfl c_136
    refine lv_iload_n hx hb dX12_done_132 rfl (lv_at hl 2 rfl) ?_
    refine lv_if_ne (tgt := 140) hx hb dX12_done_133 (by decide) (fun c_137 => ?_) (fun c_137 => ?_)
    · have c_137 : p2.toInt ≠ 0 := xI_ne rfl rfl c_137
      refine lv_iload_n hx hb dX12_done_140 rfl (lv_at hl 1 rfl) ?_
      refine lv_iload_n hx hb dX12_done_141 rfl (lv_at hl 2 rfl) ?_
      refine lv_idiv hx hb dX12_done_142 (fun q => by have q := xI_eq (Y := 0) rfl rfl q; omega) ?_
      refine lv_topi (fun y_138 ey_138 => ?_)
      exact W.iret (v := y_138) hx hb hr (fun t ht _ => ⟨⟨y_138, G, rfl, ⟨hB_G, hF⟩, wd_t ht hW⟩, hS.F ht⟩) hS.2.2 dX12_done_143
    · have c_137 : p2.toInt = 0 := xI_eq rfl rfl c_137
      refine lv_iconst (v := 0) hx hb dX12_done_136 (by decide) ?_
      refine lv_goto (tgt := 143) hx hb dX12_done_137 (by decide) ?_
      exact W.iret (v := 0) hx hb hr (fun t ht _ => ⟨⟨0, G, rfl, ⟨hB_G, hF⟩, wd_t ht hW⟩, hS.F ht⟩) hS.2.2 dX12_done_143
  by_cases c_139 : p0 = 48
  · refine lv_tableIn (tgt := 215) hx hb dX12_done_1 (by rw [c_139]; decide) (by rw [c_139]; decide) (off := 214) (by rw [c_139]; decide) (by decide) ?_
    have c_139 : p0.toInt = 48 := xI_eq rfl rfl c_139
    refine lv_iload_n hx hb dX12_done_215 rfl (lv_at hl 1 rfl) ?_
    refine lv_if_ne (tgt := 223) hx hb dX12_done_216 (by decide) (fun c_140 => ?_) (fun c_140 => ?_)
    · have c_140 : p1.toInt ≠ 0 := xI_ne rfl rfl c_140
      refine lv_iconst (v := 1) hx hb dX12_done_223 (by decide) ?_
      refine lv_goto (tgt := 228) hx hb dX12_done_224 (by decide) ?_
      have qc_141 : (1 : Int32).toInt = 1 := rfl
      refine S_calli (va_runS (As := [.int 1]) (rest := []) ⟨hx, hb, hml, hown, hts⟩ (n_truth l D k A a z G 1 ⟨by decide, by decide⟩) (va_cwS 1 hts (gd_S hgd m1788 m1789 m131 m1790) rfl rfl rfl (by decide +kernel) ⟨Nat.le_of_ble_eq_true rfl, Nat.le_of_ble_eq_true rfl⟩) (pre_S hW hB_G hK hZ hS) rfl rfl hl.1 rfl (lv_room (Nat.le_of_ble_eq_true rfl)) dX12_done_228 ⟨Nat.le_of_ble_eq_true rfl, Nat.le_of_ble_eq_true rfl⟩) hS (fun r_142 G_143 H locs hpo hW hS => ?_)
      obtain ⟨hB_G_143, hq_144, f_146, hp_145, -⟩ := hpo
      have hF := hF.call hq_144 (by decide) (by decide)
      exact W.iret (v := r_142) hx hb hr (fun t ht _ => ⟨⟨r_142, G_143, rfl, ⟨hB_G_143, hF⟩, wd_t ht hW⟩, hS.F ht⟩) hS.2.2 dX12_done_231
    · have c_140 : p1.toInt = 0 := xI_eq rfl rfl c_140
      refine lv_iload_n hx hb dX12_done_219 rfl (lv_at hl 2 rfl) ?_
      refine lv_if_eq (tgt := 227) hx hb dX12_done_220 (by decide) (fun c_147 => ?_) (fun c_147 => ?_)
      · have c_147 : p2.toInt = 0 := xI_eq rfl rfl c_147
        refine lv_iconst (v := 0) hx hb dX12_done_227 (by decide) ?_
        have qc_148 : (0 : Int32).toInt = 0 := rfl
        refine S_calli (va_runS (As := [.int 0]) (rest := []) ⟨hx, hb, hml, hown, hts⟩ (n_truth l D k A a z G 0 ⟨by decide, by decide⟩) (va_cwS 1 hts (gd_S hgd m1788 m1789 m131 m1790) rfl rfl rfl (by decide +kernel) ⟨Nat.le_of_ble_eq_true rfl, Nat.le_of_ble_eq_true rfl⟩) (pre_S hW hB_G hK hZ hS) rfl rfl hl.1 rfl (lv_room (Nat.le_of_ble_eq_true rfl)) dX12_done_228 ⟨Nat.le_of_ble_eq_true rfl, Nat.le_of_ble_eq_true rfl⟩) hS (fun r_149 G_150 H locs hpo hW hS => ?_)
        obtain ⟨hB_G_150, hq_151, f_153, hp_152, -⟩ := hpo
        have hF := hF.call hq_151 (by decide) (by decide)
        exact W.iret (v := r_149) hx hb hr (fun t ht _ => ⟨⟨r_149, G_150, rfl, ⟨hB_G_150, hF⟩, wd_t ht hW⟩, hS.F ht⟩) hS.2.2 dX12_done_231
      · have c_147 : p2.toInt ≠ 0 := xI_ne rfl rfl c_147
        refine lv_iconst (v := 1) hx hb dX12_done_223 (by decide) ?_
        refine lv_goto (tgt := 228) hx hb dX12_done_224 (by decide) ?_
        have qc_154 : (1 : Int32).toInt = 1 := rfl
        refine S_calli (va_runS (As := [.int 1]) (rest := []) ⟨hx, hb, hml, hown, hts⟩ (n_truth l D k A a z G 1 ⟨by decide, by decide⟩) (va_cwS 1 hts (gd_S hgd m1788 m1789 m131 m1790) rfl rfl rfl (by decide +kernel) ⟨Nat.le_of_ble_eq_true rfl, Nat.le_of_ble_eq_true rfl⟩) (pre_S hW hB_G hK hZ hS) rfl rfl hl.1 rfl (lv_room (Nat.le_of_ble_eq_true rfl)) dX12_done_228 ⟨Nat.le_of_ble_eq_true rfl, Nat.le_of_ble_eq_true rfl⟩) hS (fun r_155 G_156 H locs hpo hW hS => ?_)
        obtain ⟨hB_G_156, hq_157, f_159, hp_158, -⟩ := hpo
        have hF := hF.call hq_157 (by decide) (by decide)
        exact W.iret (v := r_155) hx hb hr (fun t ht _ => ⟨⟨r_155, G_156, rfl, ⟨hB_G_156, hF⟩, wd_t ht hW⟩, hS.F ht⟩) hS.2.2 dX12_done_231
  by_cases c_160 : p0 = 49
  · refine lv_tableIn (tgt := 215) hx hb dX12_done_1 (by rw [c_160]; decide) (by rw [c_160]; decide) (off := 214) (by rw [c_160]; decide) (by decide) ?_
    have c_160 : p0.toInt = 49 := xI_eq rfl rfl c_160
    refine lv_iload_n hx hb dX12_done_215 rfl (lv_at hl 1 rfl) ?_
    refine lv_if_ne (tgt := 223) hx hb dX12_done_216 (by decide) (fun c_161 => ?_) (fun c_161 => ?_)
    · have c_161 : p1.toInt ≠ 0 := xI_ne rfl rfl c_161
      refine lv_iconst (v := 1) hx hb dX12_done_223 (by decide) ?_
      refine lv_goto (tgt := 228) hx hb dX12_done_224 (by decide) ?_
      have qc_162 : (1 : Int32).toInt = 1 := rfl
      refine S_calli (va_runS (As := [.int 1]) (rest := []) ⟨hx, hb, hml, hown, hts⟩ (n_truth l D k A a z G 1 ⟨by decide, by decide⟩) (va_cwS 1 hts (gd_S hgd m1788 m1789 m131 m1790) rfl rfl rfl (by decide +kernel) ⟨Nat.le_of_ble_eq_true rfl, Nat.le_of_ble_eq_true rfl⟩) (pre_S hW hB_G hK hZ hS) rfl rfl hl.1 rfl (lv_room (Nat.le_of_ble_eq_true rfl)) dX12_done_228 ⟨Nat.le_of_ble_eq_true rfl, Nat.le_of_ble_eq_true rfl⟩) hS (fun r_163 G_164 H locs hpo hW hS => ?_)
      obtain ⟨hB_G_164, hq_165, f_167, hp_166, -⟩ := hpo
      have hF := hF.call hq_165 (by decide) (by decide)
      exact W.iret (v := r_163) hx hb hr (fun t ht _ => ⟨⟨r_163, G_164, rfl, ⟨hB_G_164, hF⟩, wd_t ht hW⟩, hS.F ht⟩) hS.2.2 dX12_done_231
    · have c_161 : p1.toInt = 0 := xI_eq rfl rfl c_161
      refine lv_iload_n hx hb dX12_done_219 rfl (lv_at hl 2 rfl) ?_
      refine lv_if_eq (tgt := 227) hx hb dX12_done_220 (by decide) (fun c_168 => ?_) (fun c_168 => ?_)
      · have c_168 : p2.toInt = 0 := xI_eq rfl rfl c_168
        refine lv_iconst (v := 0) hx hb dX12_done_227 (by decide) ?_
        have qc_169 : (0 : Int32).toInt = 0 := rfl
        refine S_calli (va_runS (As := [.int 0]) (rest := []) ⟨hx, hb, hml, hown, hts⟩ (n_truth l D k A a z G 0 ⟨by decide, by decide⟩) (va_cwS 1 hts (gd_S hgd m1788 m1789 m131 m1790) rfl rfl rfl (by decide +kernel) ⟨Nat.le_of_ble_eq_true rfl, Nat.le_of_ble_eq_true rfl⟩) (pre_S hW hB_G hK hZ hS) rfl rfl hl.1 rfl (lv_room (Nat.le_of_ble_eq_true rfl)) dX12_done_228 ⟨Nat.le_of_ble_eq_true rfl, Nat.le_of_ble_eq_true rfl⟩) hS (fun r_170 G_171 H locs hpo hW hS => ?_)
        obtain ⟨hB_G_171, hq_172, f_174, hp_173, -⟩ := hpo
        have hF := hF.call hq_172 (by decide) (by decide)
        exact W.iret (v := r_170) hx hb hr (fun t ht _ => ⟨⟨r_170, G_171, rfl, ⟨hB_G_171, hF⟩, wd_t ht hW⟩, hS.F ht⟩) hS.2.2 dX12_done_231
      · have c_168 : p2.toInt ≠ 0 := xI_ne rfl rfl c_168
        refine lv_iconst (v := 1) hx hb dX12_done_223 (by decide) ?_
        refine lv_goto (tgt := 228) hx hb dX12_done_224 (by decide) ?_
        have qc_175 : (1 : Int32).toInt = 1 := rfl
        refine S_calli (va_runS (As := [.int 1]) (rest := []) ⟨hx, hb, hml, hown, hts⟩ (n_truth l D k A a z G 1 ⟨by decide, by decide⟩) (va_cwS 1 hts (gd_S hgd m1788 m1789 m131 m1790) rfl rfl rfl (by decide +kernel) ⟨Nat.le_of_ble_eq_true rfl, Nat.le_of_ble_eq_true rfl⟩) (pre_S hW hB_G hK hZ hS) rfl rfl hl.1 rfl (lv_room (Nat.le_of_ble_eq_true rfl)) dX12_done_228 ⟨Nat.le_of_ble_eq_true rfl, Nat.le_of_ble_eq_true rfl⟩) hS (fun r_176 G_177 H locs hpo hW hS => ?_)
        obtain ⟨hB_G_177, hq_178, f_180, hp_179, -⟩ := hpo
        have hF := hF.call hq_178 (by decide) (by decide)
        exact W.iret (v := r_176) hx hb hr (fun t ht _ => ⟨⟨r_176, G_177, rfl, ⟨hB_G_177, hF⟩, wd_t ht hW⟩, hS.F ht⟩) hS.2.2 dX12_done_231
  by_cases c_181 : p0 = 50
  · refine lv_tableIn (tgt := 215) hx hb dX12_done_1 (by rw [c_181]; decide) (by rw [c_181]; decide) (off := 214) (by rw [c_181]; decide) (by decide) ?_
    have c_181 : p0.toInt = 50 := xI_eq rfl rfl c_181
    refine lv_iload_n hx hb dX12_done_215 rfl (lv_at hl 1 rfl) ?_
    refine lv_if_ne (tgt := 223) hx hb dX12_done_216 (by decide) (fun c_182 => ?_) (fun c_182 => ?_)
    · have c_182 : p1.toInt ≠ 0 := xI_ne rfl rfl c_182
      refine lv_iconst (v := 1) hx hb dX12_done_223 (by decide) ?_
      refine lv_goto (tgt := 228) hx hb dX12_done_224 (by decide) ?_
      have qc_183 : (1 : Int32).toInt = 1 := rfl
      refine S_calli (va_runS (As := [.int 1]) (rest := []) ⟨hx, hb, hml, hown, hts⟩ (n_truth l D k A a z G 1 ⟨by decide, by decide⟩) (va_cwS 1 hts (gd_S hgd m1788 m1789 m131 m1790) rfl rfl rfl (by decide +kernel) ⟨Nat.le_of_ble_eq_true rfl, Nat.le_of_ble_eq_true rfl⟩) (pre_S hW hB_G hK hZ hS) rfl rfl hl.1 rfl (lv_room (Nat.le_of_ble_eq_true rfl)) dX12_done_228 ⟨Nat.le_of_ble_eq_true rfl, Nat.le_of_ble_eq_true rfl⟩) hS (fun r_184 G_185 H locs hpo hW hS => ?_)
      obtain ⟨hB_G_185, hq_186, f_188, hp_187, -⟩ := hpo
      have hF := hF.call hq_186 (by decide) (by decide)
      exact W.iret (v := r_184) hx hb hr (fun t ht _ => ⟨⟨r_184, G_185, rfl, ⟨hB_G_185, hF⟩, wd_t ht hW⟩, hS.F ht⟩) hS.2.2 dX12_done_231
    · have c_182 : p1.toInt = 0 := xI_eq rfl rfl c_182
      refine lv_iload_n hx hb dX12_done_219 rfl (lv_at hl 2 rfl) ?_
      refine lv_if_eq (tgt := 227) hx hb dX12_done_220 (by decide) (fun c_189 => ?_) (fun c_189 => ?_)
      · have c_189 : p2.toInt = 0 := xI_eq rfl rfl c_189
        refine lv_iconst (v := 0) hx hb dX12_done_227 (by decide) ?_
        have qc_190 : (0 : Int32).toInt = 0 := rfl
        refine S_calli (va_runS (As := [.int 0]) (rest := []) ⟨hx, hb, hml, hown, hts⟩ (n_truth l D k A a z G 0 ⟨by decide, by decide⟩) (va_cwS 1 hts (gd_S hgd m1788 m1789 m131 m1790) rfl rfl rfl (by decide +kernel) ⟨Nat.le_of_ble_eq_true rfl, Nat.le_of_ble_eq_true rfl⟩) (pre_S hW hB_G hK hZ hS) rfl rfl hl.1 rfl (lv_room (Nat.le_of_ble_eq_true rfl)) dX12_done_228 ⟨Nat.le_of_ble_eq_true rfl, Nat.le_of_ble_eq_true rfl⟩) hS (fun r_191 G_192 H locs hpo hW hS => ?_)
        obtain ⟨hB_G_192, hq_193, f_195, hp_194, -⟩ := hpo
        have hF := hF.call hq_193 (by decide) (by decide)
        exact W.iret (v := r_191) hx hb hr (fun t ht _ => ⟨⟨r_191, G_192, rfl, ⟨hB_G_192, hF⟩, wd_t ht hW⟩, hS.F ht⟩) hS.2.2 dX12_done_231
      · have c_189 : p2.toInt ≠ 0 := xI_ne rfl rfl c_189
        refine lv_iconst (v := 1) hx hb dX12_done_223 (by decide) ?_
        refine lv_goto (tgt := 228) hx hb dX12_done_224 (by decide) ?_
        have qc_196 : (1 : Int32).toInt = 1 := rfl
        refine S_calli (va_runS (As := [.int 1]) (rest := []) ⟨hx, hb, hml, hown, hts⟩ (n_truth l D k A a z G 1 ⟨by decide, by decide⟩) (va_cwS 1 hts (gd_S hgd m1788 m1789 m131 m1790) rfl rfl rfl (by decide +kernel) ⟨Nat.le_of_ble_eq_true rfl, Nat.le_of_ble_eq_true rfl⟩) (pre_S hW hB_G hK hZ hS) rfl rfl hl.1 rfl (lv_room (Nat.le_of_ble_eq_true rfl)) dX12_done_228 ⟨Nat.le_of_ble_eq_true rfl, Nat.le_of_ble_eq_true rfl⟩) hS (fun r_197 G_198 H locs hpo hW hS => ?_)
        obtain ⟨hB_G_198, hq_199, f_201, hp_200, -⟩ := hpo
        have hF := hF.call hq_199 (by decide) (by decide)
        exact W.iret (v := r_197) hx hb hr (fun t ht _ => ⟨⟨r_197, G_198, rfl, ⟨hB_G_198, hF⟩, wd_t ht hW⟩, hS.F ht⟩) hS.2.2 dX12_done_231
  by_cases c_202 : p0 = 51
  · refine lv_tableIn (tgt := 215) hx hb dX12_done_1 (by rw [c_202]; decide) (by rw [c_202]; decide) (off := 214) (by rw [c_202]; decide) (by decide) ?_
    have c_202 : p0.toInt = 51 := xI_eq rfl rfl c_202
    refine lv_iload_n hx hb dX12_done_215 rfl (lv_at hl 1 rfl) ?_
    refine lv_if_ne (tgt := 223) hx hb dX12_done_216 (by decide) (fun c_203 => ?_) (fun c_203 => ?_)
    · have c_203 : p1.toInt ≠ 0 := xI_ne rfl rfl c_203
      refine lv_iconst (v := 1) hx hb dX12_done_223 (by decide) ?_
      refine lv_goto (tgt := 228) hx hb dX12_done_224 (by decide) ?_
      have qc_204 : (1 : Int32).toInt = 1 := rfl
      refine S_calli (va_runS (As := [.int 1]) (rest := []) ⟨hx, hb, hml, hown, hts⟩ (n_truth l D k A a z G 1 ⟨by decide, by decide⟩) (va_cwS 1 hts (gd_S hgd m1788 m1789 m131 m1790) rfl rfl rfl (by decide +kernel) ⟨Nat.le_of_ble_eq_true rfl, Nat.le_of_ble_eq_true rfl⟩) (pre_S hW hB_G hK hZ hS) rfl rfl hl.1 rfl (lv_room (Nat.le_of_ble_eq_true rfl)) dX12_done_228 ⟨Nat.le_of_ble_eq_true rfl, Nat.le_of_ble_eq_true rfl⟩) hS (fun r_205 G_206 H locs hpo hW hS => ?_)
      obtain ⟨hB_G_206, hq_207, f_209, hp_208, -⟩ := hpo
      have hF := hF.call hq_207 (by decide) (by decide)
      exact W.iret (v := r_205) hx hb hr (fun t ht _ => ⟨⟨r_205, G_206, rfl, ⟨hB_G_206, hF⟩, wd_t ht hW⟩, hS.F ht⟩) hS.2.2 dX12_done_231
    · have c_203 : p1.toInt = 0 := xI_eq rfl rfl c_203
      refine lv_iload_n hx hb dX12_done_219 rfl (lv_at hl 2 rfl) ?_
      refine lv_if_eq (tgt := 227) hx hb dX12_done_220 (by decide) (fun c_210 => ?_) (fun c_210 => ?_)
      · have c_210 : p2.toInt = 0 := xI_eq rfl rfl c_210
        refine lv_iconst (v := 0) hx hb dX12_done_227 (by decide) ?_
        have qc_211 : (0 : Int32).toInt = 0 := rfl
        refine S_calli (va_runS (As := [.int 0]) (rest := []) ⟨hx, hb, hml, hown, hts⟩ (n_truth l D k A a z G 0 ⟨by decide, by decide⟩) (va_cwS 1 hts (gd_S hgd m1788 m1789 m131 m1790) rfl rfl rfl (by decide +kernel) ⟨Nat.le_of_ble_eq_true rfl, Nat.le_of_ble_eq_true rfl⟩) (pre_S hW hB_G hK hZ hS) rfl rfl hl.1 rfl (lv_room (Nat.le_of_ble_eq_true rfl)) dX12_done_228 ⟨Nat.le_of_ble_eq_true rfl, Nat.le_of_ble_eq_true rfl⟩) hS (fun r_212 G_213 H locs hpo hW hS => ?_)
        obtain ⟨hB_G_213, hq_214, f_216, hp_215, -⟩ := hpo
        have hF := hF.call hq_214 (by decide) (by decide)
        exact W.iret (v := r_212) hx hb hr (fun t ht _ => ⟨⟨r_212, G_213, rfl, ⟨hB_G_213, hF⟩, wd_t ht hW⟩, hS.F ht⟩) hS.2.2 dX12_done_231
      · have c_210 : p2.toInt ≠ 0 := xI_ne rfl rfl c_210
        refine lv_iconst (v := 1) hx hb dX12_done_223 (by decide) ?_
        refine lv_goto (tgt := 228) hx hb dX12_done_224 (by decide) ?_
        have qc_217 : (1 : Int32).toInt = 1 := rfl
        refine S_calli (va_runS (As := [.int 1]) (rest := []) ⟨hx, hb, hml, hown, hts⟩ (n_truth l D k A a z G 1 ⟨by decide, by decide⟩) (va_cwS 1 hts (gd_S hgd m1788 m1789 m131 m1790) rfl rfl rfl (by decide +kernel) ⟨Nat.le_of_ble_eq_true rfl, Nat.le_of_ble_eq_true rfl⟩) (pre_S hW hB_G hK hZ hS) rfl rfl hl.1 rfl (lv_room (Nat.le_of_ble_eq_true rfl)) dX12_done_228 ⟨Nat.le_of_ble_eq_true rfl, Nat.le_of_ble_eq_true rfl⟩) hS (fun r_218 G_219 H locs hpo hW hS => ?_)
        obtain ⟨hB_G_219, hq_220, f_222, hp_221, -⟩ := hpo
        have hF := hF.call hq_220 (by decide) (by decide)
        exact W.iret (v := r_218) hx hb hr (fun t ht _ => ⟨⟨r_218, G_219, rfl, ⟨hB_G_219, hF⟩, wd_t ht hW⟩, hS.F ht⟩) hS.2.2 dX12_done_231
  by_cases c_223 : p0 = 52
  · refine lv_tableIn (tgt := 215) hx hb dX12_done_1 (by rw [c_223]; decide) (by rw [c_223]; decide) (off := 214) (by rw [c_223]; decide) (by decide) ?_
    have c_223 : p0.toInt = 52 := xI_eq rfl rfl c_223
    refine lv_iload_n hx hb dX12_done_215 rfl (lv_at hl 1 rfl) ?_
    refine lv_if_ne (tgt := 223) hx hb dX12_done_216 (by decide) (fun c_224 => ?_) (fun c_224 => ?_)
    · have c_224 : p1.toInt ≠ 0 := xI_ne rfl rfl c_224
      refine lv_iconst (v := 1) hx hb dX12_done_223 (by decide) ?_
      refine lv_goto (tgt := 228) hx hb dX12_done_224 (by decide) ?_
      have qc_225 : (1 : Int32).toInt = 1 := rfl
      refine S_calli (va_runS (As := [.int 1]) (rest := []) ⟨hx, hb, hml, hown, hts⟩ (n_truth l D k A a z G 1 ⟨by decide, by decide⟩) (va_cwS 1 hts (gd_S hgd m1788 m1789 m131 m1790) rfl rfl rfl (by decide +kernel) ⟨Nat.le_of_ble_eq_true rfl, Nat.le_of_ble_eq_true rfl⟩) (pre_S hW hB_G hK hZ hS) rfl rfl hl.1 rfl (lv_room (Nat.le_of_ble_eq_true rfl)) dX12_done_228 ⟨Nat.le_of_ble_eq_true rfl, Nat.le_of_ble_eq_true rfl⟩) hS (fun r_226 G_227 H locs hpo hW hS => ?_)
      obtain ⟨hB_G_227, hq_228, f_230, hp_229, -⟩ := hpo
      have hF := hF.call hq_228 (by decide) (by decide)
      exact W.iret (v := r_226) hx hb hr (fun t ht _ => ⟨⟨r_226, G_227, rfl, ⟨hB_G_227, hF⟩, wd_t ht hW⟩, hS.F ht⟩) hS.2.2 dX12_done_231
    · have c_224 : p1.toInt = 0 := xI_eq rfl rfl c_224
      refine lv_iload_n hx hb dX12_done_219 rfl (lv_at hl 2 rfl) ?_
      refine lv_if_eq (tgt := 227) hx hb dX12_done_220 (by decide) (fun c_231 => ?_) (fun c_231 => ?_)
      · have c_231 : p2.toInt = 0 := xI_eq rfl rfl c_231
        refine lv_iconst (v := 0) hx hb dX12_done_227 (by decide) ?_
        have qc_232 : (0 : Int32).toInt = 0 := rfl
        refine S_calli (va_runS (As := [.int 0]) (rest := []) ⟨hx, hb, hml, hown, hts⟩ (n_truth l D k A a z G 0 ⟨by decide, by decide⟩) (va_cwS 1 hts (gd_S hgd m1788 m1789 m131 m1790) rfl rfl rfl (by decide +kernel) ⟨Nat.le_of_ble_eq_true rfl, Nat.le_of_ble_eq_true rfl⟩) (pre_S hW hB_G hK hZ hS) rfl rfl hl.1 rfl (lv_room (Nat.le_of_ble_eq_true rfl)) dX12_done_228 ⟨Nat.le_of_ble_eq_true rfl, Nat.le_of_ble_eq_true rfl⟩) hS (fun r_233 G_234 H locs hpo hW hS => ?_)
        obtain ⟨hB_G_234, hq_235, f_237, hp_236, -⟩ := hpo
        have hF := hF.call hq_235 (by decide) (by decide)
        exact W.iret (v := r_233) hx hb hr (fun t ht _ => ⟨⟨r_233, G_234, rfl, ⟨hB_G_234, hF⟩, wd_t ht hW⟩, hS.F ht⟩) hS.2.2 dX12_done_231
      · have c_231 : p2.toInt ≠ 0 := xI_ne rfl rfl c_231
        refine lv_iconst (v := 1) hx hb dX12_done_223 (by decide) ?_
        refine lv_goto (tgt := 228) hx hb dX12_done_224 (by decide) ?_
        have qc_238 : (1 : Int32).toInt = 1 := rfl
        refine S_calli (va_runS (As := [.int 1]) (rest := []) ⟨hx, hb, hml, hown, hts⟩ (n_truth l D k A a z G 1 ⟨by decide, by decide⟩) (va_cwS 1 hts (gd_S hgd m1788 m1789 m131 m1790) rfl rfl rfl (by decide +kernel) ⟨Nat.le_of_ble_eq_true rfl, Nat.le_of_ble_eq_true rfl⟩) (pre_S hW hB_G hK hZ hS) rfl rfl hl.1 rfl (lv_room (Nat.le_of_ble_eq_true rfl)) dX12_done_228 ⟨Nat.le_of_ble_eq_true rfl, Nat.le_of_ble_eq_true rfl⟩) hS (fun r_239 G_240 H locs hpo hW hS => ?_)
        obtain ⟨hB_G_240, hq_241, f_243, hp_242, -⟩ := hpo
        have hF := hF.call hq_241 (by decide) (by decide)
        exact W.iret (v := r_239) hx hb hr (fun t ht _ => ⟨⟨r_239, G_240, rfl, ⟨hB_G_240, hF⟩, wd_t ht hW⟩, hS.F ht⟩) hS.2.2 dX12_done_231
  by_cases c_244 : p0 = 53
  · refine lv_tableIn (tgt := 215) hx hb dX12_done_1 (by rw [c_244]; decide) (by rw [c_244]; decide) (off := 214) (by rw [c_244]; decide) (by decide) ?_
    have c_244 : p0.toInt = 53 := xI_eq rfl rfl c_244
    refine lv_iload_n hx hb dX12_done_215 rfl (lv_at hl 1 rfl) ?_
    refine lv_if_ne (tgt := 223) hx hb dX12_done_216 (by decide) (fun c_245 => ?_) (fun c_245 => ?_)
    · have c_245 : p1.toInt ≠ 0 := xI_ne rfl rfl c_245
      refine lv_iconst (v := 1) hx hb dX12_done_223 (by decide) ?_
      refine lv_goto (tgt := 228) hx hb dX12_done_224 (by decide) ?_
      have qc_246 : (1 : Int32).toInt = 1 := rfl
      refine S_calli (va_runS (As := [.int 1]) (rest := []) ⟨hx, hb, hml, hown, hts⟩ (n_truth l D k A a z G 1 ⟨by decide, by decide⟩) (va_cwS 1 hts (gd_S hgd m1788 m1789 m131 m1790) rfl rfl rfl (by decide +kernel) ⟨Nat.le_of_ble_eq_true rfl, Nat.le_of_ble_eq_true rfl⟩) (pre_S hW hB_G hK hZ hS) rfl rfl hl.1 rfl (lv_room (Nat.le_of_ble_eq_true rfl)) dX12_done_228 ⟨Nat.le_of_ble_eq_true rfl, Nat.le_of_ble_eq_true rfl⟩) hS (fun r_247 G_248 H locs hpo hW hS => ?_)
      obtain ⟨hB_G_248, hq_249, f_251, hp_250, -⟩ := hpo
      have hF := hF.call hq_249 (by decide) (by decide)
      exact W.iret (v := r_247) hx hb hr (fun t ht _ => ⟨⟨r_247, G_248, rfl, ⟨hB_G_248, hF⟩, wd_t ht hW⟩, hS.F ht⟩) hS.2.2 dX12_done_231
    · have c_245 : p1.toInt = 0 := xI_eq rfl rfl c_245
      refine lv_iload_n hx hb dX12_done_219 rfl (lv_at hl 2 rfl) ?_
      refine lv_if_eq (tgt := 227) hx hb dX12_done_220 (by decide) (fun c_252 => ?_) (fun c_252 => ?_)
      · have c_252 : p2.toInt = 0 := xI_eq rfl rfl c_252
        refine lv_iconst (v := 0) hx hb dX12_done_227 (by decide) ?_
        have qc_253 : (0 : Int32).toInt = 0 := rfl
        refine S_calli (va_runS (As := [.int 0]) (rest := []) ⟨hx, hb, hml, hown, hts⟩ (n_truth l D k A a z G 0 ⟨by decide, by decide⟩) (va_cwS 1 hts (gd_S hgd m1788 m1789 m131 m1790) rfl rfl rfl (by decide +kernel) ⟨Nat.le_of_ble_eq_true rfl, Nat.le_of_ble_eq_true rfl⟩) (pre_S hW hB_G hK hZ hS) rfl rfl hl.1 rfl (lv_room (Nat.le_of_ble_eq_true rfl)) dX12_done_228 ⟨Nat.le_of_ble_eq_true rfl, Nat.le_of_ble_eq_true rfl⟩) hS (fun r_254 G_255 H locs hpo hW hS => ?_)
        obtain ⟨hB_G_255, hq_256, f_258, hp_257, -⟩ := hpo
        have hF := hF.call hq_256 (by decide) (by decide)
        exact W.iret (v := r_254) hx hb hr (fun t ht _ => ⟨⟨r_254, G_255, rfl, ⟨hB_G_255, hF⟩, wd_t ht hW⟩, hS.F ht⟩) hS.2.2 dX12_done_231
      · have c_252 : p2.toInt ≠ 0 := xI_ne rfl rfl c_252
        refine lv_iconst (v := 1) hx hb dX12_done_223 (by decide) ?_
        refine lv_goto (tgt := 228) hx hb dX12_done_224 (by decide) ?_
        have qc_259 : (1 : Int32).toInt = 1 := rfl
        refine S_calli (va_runS (As := [.int 1]) (rest := []) ⟨hx, hb, hml, hown, hts⟩ (n_truth l D k A a z G 1 ⟨by decide, by decide⟩) (va_cwS 1 hts (gd_S hgd m1788 m1789 m131 m1790) rfl rfl rfl (by decide +kernel) ⟨Nat.le_of_ble_eq_true rfl, Nat.le_of_ble_eq_true rfl⟩) (pre_S hW hB_G hK hZ hS) rfl rfl hl.1 rfl (lv_room (Nat.le_of_ble_eq_true rfl)) dX12_done_228 ⟨Nat.le_of_ble_eq_true rfl, Nat.le_of_ble_eq_true rfl⟩) hS (fun r_260 G_261 H locs hpo hW hS => ?_)
        obtain ⟨hB_G_261, hq_262, f_264, hp_263, -⟩ := hpo
        have hF := hF.call hq_262 (by decide) (by decide)
        exact W.iret (v := r_260) hx hb hr (fun t ht _ => ⟨⟨r_260, G_261, rfl, ⟨hB_G_261, hF⟩, wd_t ht hW⟩, hS.F ht⟩) hS.2.2 dX12_done_231
  by_cases c_265 : p0 = 54
  · refine lv_tableIn (tgt := 215) hx hb dX12_done_1 (by rw [c_265]; decide) (by rw [c_265]; decide) (off := 214) (by rw [c_265]; decide) (by decide) ?_
    have c_265 : p0.toInt = 54 := xI_eq rfl rfl c_265
    refine lv_iload_n hx hb dX12_done_215 rfl (lv_at hl 1 rfl) ?_
    refine lv_if_ne (tgt := 223) hx hb dX12_done_216 (by decide) (fun c_266 => ?_) (fun c_266 => ?_)
    · have c_266 : p1.toInt ≠ 0 := xI_ne rfl rfl c_266
      refine lv_iconst (v := 1) hx hb dX12_done_223 (by decide) ?_
      refine lv_goto (tgt := 228) hx hb dX12_done_224 (by decide) ?_
      have qc_267 : (1 : Int32).toInt = 1 := rfl
      refine S_calli (va_runS (As := [.int 1]) (rest := []) ⟨hx, hb, hml, hown, hts⟩ (n_truth l D k A a z G 1 ⟨by decide, by decide⟩) (va_cwS 1 hts (gd_S hgd m1788 m1789 m131 m1790) rfl rfl rfl (by decide +kernel) ⟨Nat.le_of_ble_eq_true rfl, Nat.le_of_ble_eq_true rfl⟩) (pre_S hW hB_G hK hZ hS) rfl rfl hl.1 rfl (lv_room (Nat.le_of_ble_eq_true rfl)) dX12_done_228 ⟨Nat.le_of_ble_eq_true rfl, Nat.le_of_ble_eq_true rfl⟩) hS (fun r_268 G_269 H locs hpo hW hS => ?_)
      obtain ⟨hB_G_269, hq_270, f_272, hp_271, -⟩ := hpo
      have hF := hF.call hq_270 (by decide) (by decide)
      exact W.iret (v := r_268) hx hb hr (fun t ht _ => ⟨⟨r_268, G_269, rfl, ⟨hB_G_269, hF⟩, wd_t ht hW⟩, hS.F ht⟩) hS.2.2 dX12_done_231
    · have c_266 : p1.toInt = 0 := xI_eq rfl rfl c_266
      refine lv_iload_n hx hb dX12_done_219 rfl (lv_at hl 2 rfl) ?_
      refine lv_if_eq (tgt := 227) hx hb dX12_done_220 (by decide) (fun c_273 => ?_) (fun c_273 => ?_)
      · have c_273 : p2.toInt = 0 := xI_eq rfl rfl c_273
        refine lv_iconst (v := 0) hx hb dX12_done_227 (by decide) ?_
        have qc_274 : (0 : Int32).toInt = 0 := rfl
        refine S_calli (va_runS (As := [.int 0]) (rest := []) ⟨hx, hb, hml, hown, hts⟩ (n_truth l D k A a z G 0 ⟨by decide, by decide⟩) (va_cwS 1 hts (gd_S hgd m1788 m1789 m131 m1790) rfl rfl rfl (by decide +kernel) ⟨Nat.le_of_ble_eq_true rfl, Nat.le_of_ble_eq_true rfl⟩) (pre_S hW hB_G hK hZ hS) rfl rfl hl.1 rfl (lv_room (Nat.le_of_ble_eq_true rfl)) dX12_done_228 ⟨Nat.le_of_ble_eq_true rfl, Nat.le_of_ble_eq_true rfl⟩) hS (fun r_275 G_276 H locs hpo hW hS => ?_)
        obtain ⟨hB_G_276, hq_277, f_279, hp_278, -⟩ := hpo
        have hF := hF.call hq_277 (by decide) (by decide)
        exact W.iret (v := r_275) hx hb hr (fun t ht _ => ⟨⟨r_275, G_276, rfl, ⟨hB_G_276, hF⟩, wd_t ht hW⟩, hS.F ht⟩) hS.2.2 dX12_done_231
      · have c_273 : p2.toInt ≠ 0 := xI_ne rfl rfl c_273
        refine lv_iconst (v := 1) hx hb dX12_done_223 (by decide) ?_
        refine lv_goto (tgt := 228) hx hb dX12_done_224 (by decide) ?_
        have qc_280 : (1 : Int32).toInt = 1 := rfl
        refine S_calli (va_runS (As := [.int 1]) (rest := []) ⟨hx, hb, hml, hown, hts⟩ (n_truth l D k A a z G 1 ⟨by decide, by decide⟩) (va_cwS 1 hts (gd_S hgd m1788 m1789 m131 m1790) rfl rfl rfl (by decide +kernel) ⟨Nat.le_of_ble_eq_true rfl, Nat.le_of_ble_eq_true rfl⟩) (pre_S hW hB_G hK hZ hS) rfl rfl hl.1 rfl (lv_room (Nat.le_of_ble_eq_true rfl)) dX12_done_228 ⟨Nat.le_of_ble_eq_true rfl, Nat.le_of_ble_eq_true rfl⟩) hS (fun r_281 G_282 H locs hpo hW hS => ?_)
        obtain ⟨hB_G_282, hq_283, f_285, hp_284, -⟩ := hpo
        have hF := hF.call hq_283 (by decide) (by decide)
        exact W.iret (v := r_281) hx hb hr (fun t ht _ => ⟨⟨r_281, G_282, rfl, ⟨hB_G_282, hF⟩, wd_t ht hW⟩, hS.F ht⟩) hS.2.2 dX12_done_231
  by_cases c_286 : p0 = 55
  · refine lv_tableIn (tgt := 215) hx hb dX12_done_1 (by rw [c_286]; decide) (by rw [c_286]; decide) (off := 214) (by rw [c_286]; decide) (by decide) ?_
    have c_286 : p0.toInt = 55 := xI_eq rfl rfl c_286
    refine lv_iload_n hx hb dX12_done_215 rfl (lv_at hl 1 rfl) ?_
    refine lv_if_ne (tgt := 223) hx hb dX12_done_216 (by decide) (fun c_287 => ?_) (fun c_287 => ?_)
    · have c_287 : p1.toInt ≠ 0 := xI_ne rfl rfl c_287
      refine lv_iconst (v := 1) hx hb dX12_done_223 (by decide) ?_
      refine lv_goto (tgt := 228) hx hb dX12_done_224 (by decide) ?_
      have qc_288 : (1 : Int32).toInt = 1 := rfl
      refine S_calli (va_runS (As := [.int 1]) (rest := []) ⟨hx, hb, hml, hown, hts⟩ (n_truth l D k A a z G 1 ⟨by decide, by decide⟩) (va_cwS 1 hts (gd_S hgd m1788 m1789 m131 m1790) rfl rfl rfl (by decide +kernel) ⟨Nat.le_of_ble_eq_true rfl, Nat.le_of_ble_eq_true rfl⟩) (pre_S hW hB_G hK hZ hS) rfl rfl hl.1 rfl (lv_room (Nat.le_of_ble_eq_true rfl)) dX12_done_228 ⟨Nat.le_of_ble_eq_true rfl, Nat.le_of_ble_eq_true rfl⟩) hS (fun r_289 G_290 H locs hpo hW hS => ?_)
      obtain ⟨hB_G_290, hq_291, f_293, hp_292, -⟩ := hpo
      have hF := hF.call hq_291 (by decide) (by decide)
      exact W.iret (v := r_289) hx hb hr (fun t ht _ => ⟨⟨r_289, G_290, rfl, ⟨hB_G_290, hF⟩, wd_t ht hW⟩, hS.F ht⟩) hS.2.2 dX12_done_231
    · have c_287 : p1.toInt = 0 := xI_eq rfl rfl c_287
      refine lv_iload_n hx hb dX12_done_219 rfl (lv_at hl 2 rfl) ?_
      refine lv_if_eq (tgt := 227) hx hb dX12_done_220 (by decide) (fun c_294 => ?_) (fun c_294 => ?_)
      · have c_294 : p2.toInt = 0 := xI_eq rfl rfl c_294
        refine lv_iconst (v := 0) hx hb dX12_done_227 (by decide) ?_
        have qc_295 : (0 : Int32).toInt = 0 := rfl
        refine S_calli (va_runS (As := [.int 0]) (rest := []) ⟨hx, hb, hml, hown, hts⟩ (n_truth l D k A a z G 0 ⟨by decide, by decide⟩) (va_cwS 1 hts (gd_S hgd m1788 m1789 m131 m1790) rfl rfl rfl (by decide +kernel) ⟨Nat.le_of_ble_eq_true rfl, Nat.le_of_ble_eq_true rfl⟩) (pre_S hW hB_G hK hZ hS) rfl rfl hl.1 rfl (lv_room (Nat.le_of_ble_eq_true rfl)) dX12_done_228 ⟨Nat.le_of_ble_eq_true rfl, Nat.le_of_ble_eq_true rfl⟩) hS (fun r_296 G_297 H locs hpo hW hS => ?_)
        obtain ⟨hB_G_297, hq_298, f_300, hp_299, -⟩ := hpo
        have hF := hF.call hq_298 (by decide) (by decide)
        exact W.iret (v := r_296) hx hb hr (fun t ht _ => ⟨⟨r_296, G_297, rfl, ⟨hB_G_297, hF⟩, wd_t ht hW⟩, hS.F ht⟩) hS.2.2 dX12_done_231
      · have c_294 : p2.toInt ≠ 0 := xI_ne rfl rfl c_294
        refine lv_iconst (v := 1) hx hb dX12_done_223 (by decide) ?_
        refine lv_goto (tgt := 228) hx hb dX12_done_224 (by decide) ?_
        have qc_301 : (1 : Int32).toInt = 1 := rfl
        refine S_calli (va_runS (As := [.int 1]) (rest := []) ⟨hx, hb, hml, hown, hts⟩ (n_truth l D k A a z G 1 ⟨by decide, by decide⟩) (va_cwS 1 hts (gd_S hgd m1788 m1789 m131 m1790) rfl rfl rfl (by decide +kernel) ⟨Nat.le_of_ble_eq_true rfl, Nat.le_of_ble_eq_true rfl⟩) (pre_S hW hB_G hK hZ hS) rfl rfl hl.1 rfl (lv_room (Nat.le_of_ble_eq_true rfl)) dX12_done_228 ⟨Nat.le_of_ble_eq_true rfl, Nat.le_of_ble_eq_true rfl⟩) hS (fun r_302 G_303 H locs hpo hW hS => ?_)
        obtain ⟨hB_G_303, hq_304, f_306, hp_305, -⟩ := hpo
        have hF := hF.call hq_304 (by decide) (by decide)
        exact W.iret (v := r_302) hx hb hr (fun t ht _ => ⟨⟨r_302, G_303, rfl, ⟨hB_G_303, hF⟩, wd_t ht hW⟩, hS.F ht⟩) hS.2.2 dX12_done_231
  by_cases c_307 : p0 = 56
  · refine lv_tableIn (tgt := 215) hx hb dX12_done_1 (by rw [c_307]; decide) (by rw [c_307]; decide) (off := 214) (by rw [c_307]; decide) (by decide) ?_
    have c_307 : p0.toInt = 56 := xI_eq rfl rfl c_307
    refine lv_iload_n hx hb dX12_done_215 rfl (lv_at hl 1 rfl) ?_
    refine lv_if_ne (tgt := 223) hx hb dX12_done_216 (by decide) (fun c_308 => ?_) (fun c_308 => ?_)
    · have c_308 : p1.toInt ≠ 0 := xI_ne rfl rfl c_308
      refine lv_iconst (v := 1) hx hb dX12_done_223 (by decide) ?_
      refine lv_goto (tgt := 228) hx hb dX12_done_224 (by decide) ?_
      have qc_309 : (1 : Int32).toInt = 1 := rfl
      refine S_calli (va_runS (As := [.int 1]) (rest := []) ⟨hx, hb, hml, hown, hts⟩ (n_truth l D k A a z G 1 ⟨by decide, by decide⟩) (va_cwS 1 hts (gd_S hgd m1788 m1789 m131 m1790) rfl rfl rfl (by decide +kernel) ⟨Nat.le_of_ble_eq_true rfl, Nat.le_of_ble_eq_true rfl⟩) (pre_S hW hB_G hK hZ hS) rfl rfl hl.1 rfl (lv_room (Nat.le_of_ble_eq_true rfl)) dX12_done_228 ⟨Nat.le_of_ble_eq_true rfl, Nat.le_of_ble_eq_true rfl⟩) hS (fun r_310 G_311 H locs hpo hW hS => ?_)
      obtain ⟨hB_G_311, hq_312, f_314, hp_313, -⟩ := hpo
      have hF := hF.call hq_312 (by decide) (by decide)
      exact W.iret (v := r_310) hx hb hr (fun t ht _ => ⟨⟨r_310, G_311, rfl, ⟨hB_G_311, hF⟩, wd_t ht hW⟩, hS.F ht⟩) hS.2.2 dX12_done_231
    · have c_308 : p1.toInt = 0 := xI_eq rfl rfl c_308
      refine lv_iload_n hx hb dX12_done_219 rfl (lv_at hl 2 rfl) ?_
      refine lv_if_eq (tgt := 227) hx hb dX12_done_220 (by decide) (fun c_315 => ?_) (fun c_315 => ?_)
      · have c_315 : p2.toInt = 0 := xI_eq rfl rfl c_315
        refine lv_iconst (v := 0) hx hb dX12_done_227 (by decide) ?_
        have qc_316 : (0 : Int32).toInt = 0 := rfl
        refine S_calli (va_runS (As := [.int 0]) (rest := []) ⟨hx, hb, hml, hown, hts⟩ (n_truth l D k A a z G 0 ⟨by decide, by decide⟩) (va_cwS 1 hts (gd_S hgd m1788 m1789 m131 m1790) rfl rfl rfl (by decide +kernel) ⟨Nat.le_of_ble_eq_true rfl, Nat.le_of_ble_eq_true rfl⟩) (pre_S hW hB_G hK hZ hS) rfl rfl hl.1 rfl (lv_room (Nat.le_of_ble_eq_true rfl)) dX12_done_228 ⟨Nat.le_of_ble_eq_true rfl, Nat.le_of_ble_eq_true rfl⟩) hS (fun r_317 G_318 H locs hpo hW hS => ?_)
        obtain ⟨hB_G_318, hq_319, f_321, hp_320, -⟩ := hpo
        have hF := hF.call hq_319 (by decide) (by decide)
        exact W.iret (v := r_317) hx hb hr (fun t ht _ => ⟨⟨r_317, G_318, rfl, ⟨hB_G_318, hF⟩, wd_t ht hW⟩, hS.F ht⟩) hS.2.2 dX12_done_231
      · have c_315 : p2.toInt ≠ 0 := xI_ne rfl rfl c_315
        refine lv_iconst (v := 1) hx hb dX12_done_223 (by decide) ?_
        refine lv_goto (tgt := 228) hx hb dX12_done_224 (by decide) ?_
        have qc_322 : (1 : Int32).toInt = 1 := rfl
        refine S_calli (va_runS (As := [.int 1]) (rest := []) ⟨hx, hb, hml, hown, hts⟩ (n_truth l D k A a z G 1 ⟨by decide, by decide⟩) (va_cwS 1 hts (gd_S hgd m1788 m1789 m131 m1790) rfl rfl rfl (by decide +kernel) ⟨Nat.le_of_ble_eq_true rfl, Nat.le_of_ble_eq_true rfl⟩) (pre_S hW hB_G hK hZ hS) rfl rfl hl.1 rfl (lv_room (Nat.le_of_ble_eq_true rfl)) dX12_done_228 ⟨Nat.le_of_ble_eq_true rfl, Nat.le_of_ble_eq_true rfl⟩) hS (fun r_323 G_324 H locs hpo hW hS => ?_)
        obtain ⟨hB_G_324, hq_325, f_327, hp_326, -⟩ := hpo
        have hF := hF.call hq_325 (by decide) (by decide)
        exact W.iret (v := r_323) hx hb hr (fun t ht _ => ⟨⟨r_323, G_324, rfl, ⟨hB_G_324, hF⟩, wd_t ht hW⟩, hS.F ht⟩) hS.2.2 dX12_done_231
  by_cases c_328 : p0 = 57
  · refine lv_tableIn (tgt := 215) hx hb dX12_done_1 (by rw [c_328]; decide) (by rw [c_328]; decide) (off := 214) (by rw [c_328]; decide) (by decide) ?_
    have c_328 : p0.toInt = 57 := xI_eq rfl rfl c_328
    refine lv_iload_n hx hb dX12_done_215 rfl (lv_at hl 1 rfl) ?_
    refine lv_if_ne (tgt := 223) hx hb dX12_done_216 (by decide) (fun c_329 => ?_) (fun c_329 => ?_)
    · have c_329 : p1.toInt ≠ 0 := xI_ne rfl rfl c_329
      refine lv_iconst (v := 1) hx hb dX12_done_223 (by decide) ?_
      refine lv_goto (tgt := 228) hx hb dX12_done_224 (by decide) ?_
      have qc_330 : (1 : Int32).toInt = 1 := rfl
      refine S_calli (va_runS (As := [.int 1]) (rest := []) ⟨hx, hb, hml, hown, hts⟩ (n_truth l D k A a z G 1 ⟨by decide, by decide⟩) (va_cwS 1 hts (gd_S hgd m1788 m1789 m131 m1790) rfl rfl rfl (by decide +kernel) ⟨Nat.le_of_ble_eq_true rfl, Nat.le_of_ble_eq_true rfl⟩) (pre_S hW hB_G hK hZ hS) rfl rfl hl.1 rfl (lv_room (Nat.le_of_ble_eq_true rfl)) dX12_done_228 ⟨Nat.le_of_ble_eq_true rfl, Nat.le_of_ble_eq_true rfl⟩) hS (fun r_331 G_332 H locs hpo hW hS => ?_)
      obtain ⟨hB_G_332, hq_333, f_335, hp_334, -⟩ := hpo
      have hF := hF.call hq_333 (by decide) (by decide)
      exact W.iret (v := r_331) hx hb hr (fun t ht _ => ⟨⟨r_331, G_332, rfl, ⟨hB_G_332, hF⟩, wd_t ht hW⟩, hS.F ht⟩) hS.2.2 dX12_done_231
    · have c_329 : p1.toInt = 0 := xI_eq rfl rfl c_329
      refine lv_iload_n hx hb dX12_done_219 rfl (lv_at hl 2 rfl) ?_
      refine lv_if_eq (tgt := 227) hx hb dX12_done_220 (by decide) (fun c_336 => ?_) (fun c_336 => ?_)
      · have c_336 : p2.toInt = 0 := xI_eq rfl rfl c_336
        refine lv_iconst (v := 0) hx hb dX12_done_227 (by decide) ?_
        have qc_337 : (0 : Int32).toInt = 0 := rfl
        refine S_calli (va_runS (As := [.int 0]) (rest := []) ⟨hx, hb, hml, hown, hts⟩ (n_truth l D k A a z G 0 ⟨by decide, by decide⟩) (va_cwS 1 hts (gd_S hgd m1788 m1789 m131 m1790) rfl rfl rfl (by decide +kernel) ⟨Nat.le_of_ble_eq_true rfl, Nat.le_of_ble_eq_true rfl⟩) (pre_S hW hB_G hK hZ hS) rfl rfl hl.1 rfl (lv_room (Nat.le_of_ble_eq_true rfl)) dX12_done_228 ⟨Nat.le_of_ble_eq_true rfl, Nat.le_of_ble_eq_true rfl⟩) hS (fun r_338 G_339 H locs hpo hW hS => ?_)
        obtain ⟨hB_G_339, hq_340, f_342, hp_341, -⟩ := hpo
        have hF := hF.call hq_340 (by decide) (by decide)
        exact W.iret (v := r_338) hx hb hr (fun t ht _ => ⟨⟨r_338, G_339, rfl, ⟨hB_G_339, hF⟩, wd_t ht hW⟩, hS.F ht⟩) hS.2.2 dX12_done_231
      · have c_336 : p2.toInt ≠ 0 := xI_ne rfl rfl c_336
        refine lv_iconst (v := 1) hx hb dX12_done_223 (by decide) ?_
        refine lv_goto (tgt := 228) hx hb dX12_done_224 (by decide) ?_
        have qc_343 : (1 : Int32).toInt = 1 := rfl
        refine S_calli (va_runS (As := [.int 1]) (rest := []) ⟨hx, hb, hml, hown, hts⟩ (n_truth l D k A a z G 1 ⟨by decide, by decide⟩) (va_cwS 1 hts (gd_S hgd m1788 m1789 m131 m1790) rfl rfl rfl (by decide +kernel) ⟨Nat.le_of_ble_eq_true rfl, Nat.le_of_ble_eq_true rfl⟩) (pre_S hW hB_G hK hZ hS) rfl rfl hl.1 rfl (lv_room (Nat.le_of_ble_eq_true rfl)) dX12_done_228 ⟨Nat.le_of_ble_eq_true rfl, Nat.le_of_ble_eq_true rfl⟩) hS (fun r_344 G_345 H locs hpo hW hS => ?_)
        obtain ⟨hB_G_345, hq_346, f_348, hp_347, -⟩ := hpo
        have hF := hF.call hq_346 (by decide) (by decide)
        exact W.iret (v := r_344) hx hb hr (fun t ht _ => ⟨⟨r_344, G_345, rfl, ⟨hB_G_345, hF⟩, wd_t ht hW⟩, hS.F ht⟩) hS.2.2 dX12_done_231
  by_cases c_349 : p0 = 58
  · refine lv_tableIn (tgt := 215) hx hb dX12_done_1 (by rw [c_349]; decide) (by rw [c_349]; decide) (off := 214) (by rw [c_349]; decide) (by decide) ?_
    have c_349 : p0.toInt = 58 := xI_eq rfl rfl c_349
    refine lv_iload_n hx hb dX12_done_215 rfl (lv_at hl 1 rfl) ?_
    refine lv_if_ne (tgt := 223) hx hb dX12_done_216 (by decide) (fun c_350 => ?_) (fun c_350 => ?_)
    · have c_350 : p1.toInt ≠ 0 := xI_ne rfl rfl c_350
      refine lv_iconst (v := 1) hx hb dX12_done_223 (by decide) ?_
      refine lv_goto (tgt := 228) hx hb dX12_done_224 (by decide) ?_
      have qc_351 : (1 : Int32).toInt = 1 := rfl
      refine S_calli (va_runS (As := [.int 1]) (rest := []) ⟨hx, hb, hml, hown, hts⟩ (n_truth l D k A a z G 1 ⟨by decide, by decide⟩) (va_cwS 1 hts (gd_S hgd m1788 m1789 m131 m1790) rfl rfl rfl (by decide +kernel) ⟨Nat.le_of_ble_eq_true rfl, Nat.le_of_ble_eq_true rfl⟩) (pre_S hW hB_G hK hZ hS) rfl rfl hl.1 rfl (lv_room (Nat.le_of_ble_eq_true rfl)) dX12_done_228 ⟨Nat.le_of_ble_eq_true rfl, Nat.le_of_ble_eq_true rfl⟩) hS (fun r_352 G_353 H locs hpo hW hS => ?_)
      obtain ⟨hB_G_353, hq_354, f_356, hp_355, -⟩ := hpo
      have hF := hF.call hq_354 (by decide) (by decide)
      exact W.iret (v := r_352) hx hb hr (fun t ht _ => ⟨⟨r_352, G_353, rfl, ⟨hB_G_353, hF⟩, wd_t ht hW⟩, hS.F ht⟩) hS.2.2 dX12_done_231
    · have c_350 : p1.toInt = 0 := xI_eq rfl rfl c_350
      refine lv_iload_n hx hb dX12_done_219 rfl (lv_at hl 2 rfl) ?_
      refine lv_if_eq (tgt := 227) hx hb dX12_done_220 (by decide) (fun c_357 => ?_) (fun c_357 => ?_)
      · have c_357 : p2.toInt = 0 := xI_eq rfl rfl c_357
        refine lv_iconst (v := 0) hx hb dX12_done_227 (by decide) ?_
        have qc_358 : (0 : Int32).toInt = 0 := rfl
        refine S_calli (va_runS (As := [.int 0]) (rest := []) ⟨hx, hb, hml, hown, hts⟩ (n_truth l D k A a z G 0 ⟨by decide, by decide⟩) (va_cwS 1 hts (gd_S hgd m1788 m1789 m131 m1790) rfl rfl rfl (by decide +kernel) ⟨Nat.le_of_ble_eq_true rfl, Nat.le_of_ble_eq_true rfl⟩) (pre_S hW hB_G hK hZ hS) rfl rfl hl.1 rfl (lv_room (Nat.le_of_ble_eq_true rfl)) dX12_done_228 ⟨Nat.le_of_ble_eq_true rfl, Nat.le_of_ble_eq_true rfl⟩) hS (fun r_359 G_360 H locs hpo hW hS => ?_)
        obtain ⟨hB_G_360, hq_361, f_363, hp_362, -⟩ := hpo
        have hF := hF.call hq_361 (by decide) (by decide)
        exact W.iret (v := r_359) hx hb hr (fun t ht _ => ⟨⟨r_359, G_360, rfl, ⟨hB_G_360, hF⟩, wd_t ht hW⟩, hS.F ht⟩) hS.2.2 dX12_done_231
      · have c_357 : p2.toInt ≠ 0 := xI_ne rfl rfl c_357
        refine lv_iconst (v := 1) hx hb dX12_done_223 (by decide) ?_
        refine lv_goto (tgt := 228) hx hb dX12_done_224 (by decide) ?_
        have qc_364 : (1 : Int32).toInt = 1 := rfl
        refine S_calli (va_runS (As := [.int 1]) (rest := []) ⟨hx, hb, hml, hown, hts⟩ (n_truth l D k A a z G 1 ⟨by decide, by decide⟩) (va_cwS 1 hts (gd_S hgd m1788 m1789 m131 m1790) rfl rfl rfl (by decide +kernel) ⟨Nat.le_of_ble_eq_true rfl, Nat.le_of_ble_eq_true rfl⟩) (pre_S hW hB_G hK hZ hS) rfl rfl hl.1 rfl (lv_room (Nat.le_of_ble_eq_true rfl)) dX12_done_228 ⟨Nat.le_of_ble_eq_true rfl, Nat.le_of_ble_eq_true rfl⟩) hS (fun r_365 G_366 H locs hpo hW hS => ?_)
        obtain ⟨hB_G_366, hq_367, f_369, hp_368, -⟩ := hpo
        have hF := hF.call hq_367 (by decide) (by decide)
        exact W.iret (v := r_365) hx hb hr (fun t ht _ => ⟨⟨r_365, G_366, rfl, ⟨hB_G_366, hF⟩, wd_t ht hW⟩, hS.F ht⟩) hS.2.2 dX12_done_231
  by_cases c_370 : p0 = 59
  · refine lv_tableIn (tgt := 215) hx hb dX12_done_1 (by rw [c_370]; decide) (by rw [c_370]; decide) (off := 214) (by rw [c_370]; decide) (by decide) ?_
    have c_370 : p0.toInt = 59 := xI_eq rfl rfl c_370
    refine lv_iload_n hx hb dX12_done_215 rfl (lv_at hl 1 rfl) ?_
    refine lv_if_ne (tgt := 223) hx hb dX12_done_216 (by decide) (fun c_371 => ?_) (fun c_371 => ?_)
    · have c_371 : p1.toInt ≠ 0 := xI_ne rfl rfl c_371
      refine lv_iconst (v := 1) hx hb dX12_done_223 (by decide) ?_
      refine lv_goto (tgt := 228) hx hb dX12_done_224 (by decide) ?_
      have qc_372 : (1 : Int32).toInt = 1 := rfl
      refine S_calli (va_runS (As := [.int 1]) (rest := []) ⟨hx, hb, hml, hown, hts⟩ (n_truth l D k A a z G 1 ⟨by decide, by decide⟩) (va_cwS 1 hts (gd_S hgd m1788 m1789 m131 m1790) rfl rfl rfl (by decide +kernel) ⟨Nat.le_of_ble_eq_true rfl, Nat.le_of_ble_eq_true rfl⟩) (pre_S hW hB_G hK hZ hS) rfl rfl hl.1 rfl (lv_room (Nat.le_of_ble_eq_true rfl)) dX12_done_228 ⟨Nat.le_of_ble_eq_true rfl, Nat.le_of_ble_eq_true rfl⟩) hS (fun r_373 G_374 H locs hpo hW hS => ?_)
      obtain ⟨hB_G_374, hq_375, f_377, hp_376, -⟩ := hpo
      have hF := hF.call hq_375 (by decide) (by decide)
      exact W.iret (v := r_373) hx hb hr (fun t ht _ => ⟨⟨r_373, G_374, rfl, ⟨hB_G_374, hF⟩, wd_t ht hW⟩, hS.F ht⟩) hS.2.2 dX12_done_231
    · have c_371 : p1.toInt = 0 := xI_eq rfl rfl c_371
      refine lv_iload_n hx hb dX12_done_219 rfl (lv_at hl 2 rfl) ?_
      refine lv_if_eq (tgt := 227) hx hb dX12_done_220 (by decide) (fun c_378 => ?_) (fun c_378 => ?_)
      · have c_378 : p2.toInt = 0 := xI_eq rfl rfl c_378
        refine lv_iconst (v := 0) hx hb dX12_done_227 (by decide) ?_
        have qc_379 : (0 : Int32).toInt = 0 := rfl
        refine S_calli (va_runS (As := [.int 0]) (rest := []) ⟨hx, hb, hml, hown, hts⟩ (n_truth l D k A a z G 0 ⟨by decide, by decide⟩) (va_cwS 1 hts (gd_S hgd m1788 m1789 m131 m1790) rfl rfl rfl (by decide +kernel) ⟨Nat.le_of_ble_eq_true rfl, Nat.le_of_ble_eq_true rfl⟩) (pre_S hW hB_G hK hZ hS) rfl rfl hl.1 rfl (lv_room (Nat.le_of_ble_eq_true rfl)) dX12_done_228 ⟨Nat.le_of_ble_eq_true rfl, Nat.le_of_ble_eq_true rfl⟩) hS (fun r_380 G_381 H locs hpo hW hS => ?_)
        obtain ⟨hB_G_381, hq_382, f_384, hp_383, -⟩ := hpo
        have hF := hF.call hq_382 (by decide) (by decide)
        exact W.iret (v := r_380) hx hb hr (fun t ht _ => ⟨⟨r_380, G_381, rfl, ⟨hB_G_381, hF⟩, wd_t ht hW⟩, hS.F ht⟩) hS.2.2 dX12_done_231
      · have c_378 : p2.toInt ≠ 0 := xI_ne rfl rfl c_378
        refine lv_iconst (v := 1) hx hb dX12_done_223 (by decide) ?_
        refine lv_goto (tgt := 228) hx hb dX12_done_224 (by decide) ?_
        have qc_385 : (1 : Int32).toInt = 1 := rfl
        refine S_calli (va_runS (As := [.int 1]) (rest := []) ⟨hx, hb, hml, hown, hts⟩ (n_truth l D k A a z G 1 ⟨by decide, by decide⟩) (va_cwS 1 hts (gd_S hgd m1788 m1789 m131 m1790) rfl rfl rfl (by decide +kernel) ⟨Nat.le_of_ble_eq_true rfl, Nat.le_of_ble_eq_true rfl⟩) (pre_S hW hB_G hK hZ hS) rfl rfl hl.1 rfl (lv_room (Nat.le_of_ble_eq_true rfl)) dX12_done_228 ⟨Nat.le_of_ble_eq_true rfl, Nat.le_of_ble_eq_true rfl⟩) hS (fun r_386 G_387 H locs hpo hW hS => ?_)
        obtain ⟨hB_G_387, hq_388, f_390, hp_389, -⟩ := hpo
        have hF := hF.call hq_388 (by decide) (by decide)
        exact W.iret (v := r_386) hx hb hr (fun t ht _ => ⟨⟨r_386, G_387, rfl, ⟨hB_G_387, hF⟩, wd_t ht hW⟩, hS.F ht⟩) hS.2.2 dX12_done_231
  by_cases c_391 : p0 = 60
  · refine lv_tableIn (tgt := 156) hx hb dX12_done_1 (by rw [c_391]; decide) (by rw [c_391]; decide) (off := 155) (by rw [c_391]; decide) (by decide) ?_
    have c_391 : p0.toInt = 60 := xI_eq rfl rfl c_391
    refine lv_iload_n hx hb dX12_done_156 rfl (lv_at hl 1 rfl) ?_
    refine lv_iload_n hx hb dX12_done_157 rfl (lv_at hl 2 rfl) ?_
    refine lv_icmp_ge (tgt := 165) hx hb dX12_done_158 (by decide) (fun c_392 => ?_) (fun c_392 => ?_)
    · have c_392 : p2.toInt ≤ p1.toInt := xI_le rfl rfl c_392
      refine lv_iconst (v := 0) hx hb dX12_done_165 (by decide) ?_
      have qc_393 : (0 : Int32).toInt = 0 := rfl
      refine S_calli (va_runS (As := [.int 0]) (rest := []) ⟨hx, hb, hml, hown, hts⟩ (n_truth l D k A a z G 0 ⟨by decide, by decide⟩) (va_cwS 1 hts (gd_S hgd m1788 m1789 m131 m1790) rfl rfl rfl (by decide +kernel) ⟨Nat.le_of_ble_eq_true rfl, Nat.le_of_ble_eq_true rfl⟩) (pre_S hW hB_G hK hZ hS) rfl rfl hl.1 rfl (lv_room (Nat.le_of_ble_eq_true rfl)) dX12_done_166 ⟨Nat.le_of_ble_eq_true rfl, Nat.le_of_ble_eq_true rfl⟩) hS (fun r_394 G_395 H locs hpo hW hS => ?_)
      obtain ⟨hB_G_395, hq_396, f_398, hp_397, -⟩ := hpo
      have hF := hF.call hq_396 (by decide) (by decide)
      exact W.iret (v := r_394) hx hb hr (fun t ht _ => ⟨⟨r_394, G_395, rfl, ⟨hB_G_395, hF⟩, wd_t ht hW⟩, hS.F ht⟩) hS.2.2 dX12_done_169
    · have c_392 : p1.toInt < p2.toInt := xI_nle rfl rfl c_392
      refine lv_iconst (v := 1) hx hb dX12_done_161 (by decide) ?_
      refine lv_goto (tgt := 166) hx hb dX12_done_162 (by decide) ?_
      have qc_399 : (1 : Int32).toInt = 1 := rfl
      refine S_calli (va_runS (As := [.int 1]) (rest := []) ⟨hx, hb, hml, hown, hts⟩ (n_truth l D k A a z G 1 ⟨by decide, by decide⟩) (va_cwS 1 hts (gd_S hgd m1788 m1789 m131 m1790) rfl rfl rfl (by decide +kernel) ⟨Nat.le_of_ble_eq_true rfl, Nat.le_of_ble_eq_true rfl⟩) (pre_S hW hB_G hK hZ hS) rfl rfl hl.1 rfl (lv_room (Nat.le_of_ble_eq_true rfl)) dX12_done_166 ⟨Nat.le_of_ble_eq_true rfl, Nat.le_of_ble_eq_true rfl⟩) hS (fun r_400 G_401 H locs hpo hW hS => ?_)
      obtain ⟨hB_G_401, hq_402, f_404, hp_403, -⟩ := hpo
      have hF := hF.call hq_402 (by decide) (by decide)
      exact W.iret (v := r_400) hx hb hr (fun t ht _ => ⟨⟨r_400, G_401, rfl, ⟨hB_G_401, hF⟩, wd_t ht hW⟩, hS.F ht⟩) hS.2.2 dX12_done_169
  by_cases c_405 : p0 = 61
  · refine lv_tableIn (tgt := 184) hx hb dX12_done_1 (by rw [c_405]; decide) (by rw [c_405]; decide) (off := 183) (by rw [c_405]; decide) (by decide) ?_
    have c_405 : p0.toInt = 61 := xI_eq rfl rfl c_405
    refine lv_iload_n hx hb dX12_done_184 rfl (lv_at hl 1 rfl) ?_
    refine lv_iload_n hx hb dX12_done_185 rfl (lv_at hl 2 rfl) ?_
    refine lv_icmp_ne (tgt := 193) hx hb dX12_done_186 (by decide) (fun c_406 => ?_) (fun c_406 => ?_)
    · have c_406 : p1.toInt ≠ p2.toInt := xI_ne rfl rfl c_406
      refine lv_iconst (v := 0) hx hb dX12_done_193 (by decide) ?_
      have qc_407 : (0 : Int32).toInt = 0 := rfl
      refine S_calli (va_runS (As := [.int 0]) (rest := []) ⟨hx, hb, hml, hown, hts⟩ (n_truth l D k A a z G 0 ⟨by decide, by decide⟩) (va_cwS 1 hts (gd_S hgd m1788 m1789 m131 m1790) rfl rfl rfl (by decide +kernel) ⟨Nat.le_of_ble_eq_true rfl, Nat.le_of_ble_eq_true rfl⟩) (pre_S hW hB_G hK hZ hS) rfl rfl hl.1 rfl (lv_room (Nat.le_of_ble_eq_true rfl)) dX12_done_194 ⟨Nat.le_of_ble_eq_true rfl, Nat.le_of_ble_eq_true rfl⟩) hS (fun r_408 G_409 H locs hpo hW hS => ?_)
      obtain ⟨hB_G_409, hq_410, f_412, hp_411, -⟩ := hpo
      have hF := hF.call hq_410 (by decide) (by decide)
      exact W.iret (v := r_408) hx hb hr (fun t ht _ => ⟨⟨r_408, G_409, rfl, ⟨hB_G_409, hF⟩, wd_t ht hW⟩, hS.F ht⟩) hS.2.2 dX12_done_197
    · have c_406 : p1.toInt = p2.toInt := xI_eq rfl rfl c_406
      refine lv_iconst (v := 1) hx hb dX12_done_189 (by decide) ?_
      refine lv_goto (tgt := 194) hx hb dX12_done_190 (by decide) ?_
      have qc_413 : (1 : Int32).toInt = 1 := rfl
      refine S_calli (va_runS (As := [.int 1]) (rest := []) ⟨hx, hb, hml, hown, hts⟩ (n_truth l D k A a z G 1 ⟨by decide, by decide⟩) (va_cwS 1 hts (gd_S hgd m1788 m1789 m131 m1790) rfl rfl rfl (by decide +kernel) ⟨Nat.le_of_ble_eq_true rfl, Nat.le_of_ble_eq_true rfl⟩) (pre_S hW hB_G hK hZ hS) rfl rfl hl.1 rfl (lv_room (Nat.le_of_ble_eq_true rfl)) dX12_done_194 ⟨Nat.le_of_ble_eq_true rfl, Nat.le_of_ble_eq_true rfl⟩) hS (fun r_414 G_415 H locs hpo hW hS => ?_)
      obtain ⟨hB_G_415, hq_416, f_418, hp_417, -⟩ := hpo
      have hF := hF.call hq_416 (by decide) (by decide)
      exact W.iret (v := r_414) hx hb hr (fun t ht _ => ⟨⟨r_414, G_415, rfl, ⟨hB_G_415, hF⟩, wd_t ht hW⟩, hS.F ht⟩) hS.2.2 dX12_done_197
  by_cases c_419 : p0 = 62
  · refine lv_tableIn (tgt := 170) hx hb dX12_done_1 (by rw [c_419]; decide) (by rw [c_419]; decide) (off := 169) (by rw [c_419]; decide) (by decide) ?_
    have c_419 : p0.toInt = 62 := xI_eq rfl rfl c_419
    refine lv_iload_n hx hb dX12_done_170 rfl (lv_at hl 1 rfl) ?_
    refine lv_iload_n hx hb dX12_done_171 rfl (lv_at hl 2 rfl) ?_
    refine lv_icmp_le (tgt := 179) hx hb dX12_done_172 (by decide) (fun c_420 => ?_) (fun c_420 => ?_)
    · have c_420 : p1.toInt ≤ p2.toInt := xI_le rfl rfl c_420
      refine lv_iconst (v := 0) hx hb dX12_done_179 (by decide) ?_
      have qc_421 : (0 : Int32).toInt = 0 := rfl
      refine S_calli (va_runS (As := [.int 0]) (rest := []) ⟨hx, hb, hml, hown, hts⟩ (n_truth l D k A a z G 0 ⟨by decide, by decide⟩) (va_cwS 1 hts (gd_S hgd m1788 m1789 m131 m1790) rfl rfl rfl (by decide +kernel) ⟨Nat.le_of_ble_eq_true rfl, Nat.le_of_ble_eq_true rfl⟩) (pre_S hW hB_G hK hZ hS) rfl rfl hl.1 rfl (lv_room (Nat.le_of_ble_eq_true rfl)) dX12_done_180 ⟨Nat.le_of_ble_eq_true rfl, Nat.le_of_ble_eq_true rfl⟩) hS (fun r_422 G_423 H locs hpo hW hS => ?_)
      obtain ⟨hB_G_423, hq_424, f_426, hp_425, -⟩ := hpo
      have hF := hF.call hq_424 (by decide) (by decide)
      exact W.iret (v := r_422) hx hb hr (fun t ht _ => ⟨⟨r_422, G_423, rfl, ⟨hB_G_423, hF⟩, wd_t ht hW⟩, hS.F ht⟩) hS.2.2 dX12_done_183
    · have c_420 : p2.toInt < p1.toInt := xI_nle rfl rfl c_420
      refine lv_iconst (v := 1) hx hb dX12_done_175 (by decide) ?_
      refine lv_goto (tgt := 180) hx hb dX12_done_176 (by decide) ?_
      have qc_427 : (1 : Int32).toInt = 1 := rfl
      refine S_calli (va_runS (As := [.int 1]) (rest := []) ⟨hx, hb, hml, hown, hts⟩ (n_truth l D k A a z G 1 ⟨by decide, by decide⟩) (va_cwS 1 hts (gd_S hgd m1788 m1789 m131 m1790) rfl rfl rfl (by decide +kernel) ⟨Nat.le_of_ble_eq_true rfl, Nat.le_of_ble_eq_true rfl⟩) (pre_S hW hB_G hK hZ hS) rfl rfl hl.1 rfl (lv_room (Nat.le_of_ble_eq_true rfl)) dX12_done_180 ⟨Nat.le_of_ble_eq_true rfl, Nat.le_of_ble_eq_true rfl⟩) hS (fun r_428 G_429 H locs hpo hW hS => ?_)
      obtain ⟨hB_G_429, hq_430, f_432, hp_431, -⟩ := hpo
      have hF := hF.call hq_430 (by decide) (by decide)
      exact W.iret (v := r_428) hx hb hr (fun t ht _ => ⟨⟨r_428, G_429, rfl, ⟨hB_G_429, hF⟩, wd_t ht hW⟩, hS.F ht⟩) hS.2.2 dX12_done_183
  refine lv_tableOut (tgt := 215) hx hb dX12_done_1 (tb_out (lo := 37) (hi := 62) (by have c_1 := xI_ne (Y := 37) rfl rfl c_1; have c_4 := xI_ne (Y := 38) rfl rfl c_4; have c_25 := xI_ne (Y := 39) rfl rfl c_25; have c_46 := xI_ne (Y := 40) rfl rfl c_46; have c_67 := xI_ne (Y := 41) rfl rfl c_67; have c_88 := xI_ne (Y := 42) rfl rfl c_88; have c_90 := xI_ne (Y := 43) rfl rfl c_90; have c_92 := xI_ne (Y := 44) rfl rfl c_92; have c_113 := xI_ne (Y := 45) rfl rfl c_113; have c_115 := xI_ne (Y := 46) rfl rfl c_115; have c_136 := xI_ne (Y := 47) rfl rfl c_136; have c_139 := xI_ne (Y := 48) rfl rfl c_139; have c_160 := xI_ne (Y := 49) rfl rfl c_160; have c_181 := xI_ne (Y := 50) rfl rfl c_181; have c_202 := xI_ne (Y := 51) rfl rfl c_202; have c_223 := xI_ne (Y := 52) rfl rfl c_223; have c_244 := xI_ne (Y := 53) rfl rfl c_244; have c_265 := xI_ne (Y := 54) rfl rfl c_265; have c_286 := xI_ne (Y := 55) rfl rfl c_286; have c_307 := xI_ne (Y := 56) rfl rfl c_307; have c_328 := xI_ne (Y := 57) rfl rfl c_328; have c_349 := xI_ne (Y := 58) rfl rfl c_349; have c_370 := xI_ne (Y := 59) rfl rfl c_370; have c_391 := xI_ne (Y := 60) rfl rfl c_391; have c_405 := xI_ne (Y := 61) rfl rfl c_405; have c_419 := xI_ne (Y := 62) rfl rfl c_419; omega)) (by decide) ?_
  have c_1 := xI_ne (Y := 37) rfl rfl c_1
  have c_4 := xI_ne (Y := 38) rfl rfl c_4
  have c_25 := xI_ne (Y := 39) rfl rfl c_25
  have c_46 := xI_ne (Y := 40) rfl rfl c_46
  have c_67 := xI_ne (Y := 41) rfl rfl c_67
  have c_88 := xI_ne (Y := 42) rfl rfl c_88
  have c_90 := xI_ne (Y := 43) rfl rfl c_90
  have c_92 := xI_ne (Y := 44) rfl rfl c_92
  have c_113 := xI_ne (Y := 45) rfl rfl c_113
  have c_115 := xI_ne (Y := 46) rfl rfl c_115
  have c_136 := xI_ne (Y := 47) rfl rfl c_136
  have c_139 := xI_ne (Y := 48) rfl rfl c_139
  have c_160 := xI_ne (Y := 49) rfl rfl c_160
  have c_181 := xI_ne (Y := 50) rfl rfl c_181
  have c_202 := xI_ne (Y := 51) rfl rfl c_202
  have c_223 := xI_ne (Y := 52) rfl rfl c_223
  have c_244 := xI_ne (Y := 53) rfl rfl c_244
  have c_265 := xI_ne (Y := 54) rfl rfl c_265
  have c_286 := xI_ne (Y := 55) rfl rfl c_286
  have c_307 := xI_ne (Y := 56) rfl rfl c_307
  have c_328 := xI_ne (Y := 57) rfl rfl c_328
  have c_349 := xI_ne (Y := 58) rfl rfl c_349
  have c_370 := xI_ne (Y := 59) rfl rfl c_370
  have c_391 := xI_ne (Y := 60) rfl rfl c_391
  have c_405 := xI_ne (Y := 61) rfl rfl c_405
  have c_419 := xI_ne (Y := 62) rfl rfl c_419
  refine lv_iload_n hx hb dX12_done_215 rfl (lv_at hl 1 rfl) ?_
  refine lv_if_ne (tgt := 223) hx hb dX12_done_216 (by decide) (fun c_433 => ?_) (fun c_433 => ?_)
  · have c_433 : p1.toInt ≠ 0 := xI_ne rfl rfl c_433
    refine lv_iconst (v := 1) hx hb dX12_done_223 (by decide) ?_
    refine lv_goto (tgt := 228) hx hb dX12_done_224 (by decide) ?_
    have qc_434 : (1 : Int32).toInt = 1 := rfl
    refine S_calli (va_runS (As := [.int 1]) (rest := []) ⟨hx, hb, hml, hown, hts⟩ (n_truth l D k A a z G 1 ⟨by decide, by decide⟩) (va_cwS 1 hts (gd_S hgd m1788 m1789 m131 m1790) rfl rfl rfl (by decide +kernel) ⟨Nat.le_of_ble_eq_true rfl, Nat.le_of_ble_eq_true rfl⟩) (pre_S hW hB_G hK hZ hS) rfl rfl hl.1 rfl (lv_room (Nat.le_of_ble_eq_true rfl)) dX12_done_228 ⟨Nat.le_of_ble_eq_true rfl, Nat.le_of_ble_eq_true rfl⟩) hS (fun r_435 G_436 H locs hpo hW hS => ?_)
    obtain ⟨hB_G_436, hq_437, f_439, hp_438, -⟩ := hpo
    have hF := hF.call hq_437 (by decide) (by decide)
    exact W.iret (v := r_435) hx hb hr (fun t ht _ => ⟨⟨r_435, G_436, rfl, ⟨hB_G_436, hF⟩, wd_t ht hW⟩, hS.F ht⟩) hS.2.2 dX12_done_231
  · have c_433 : p1.toInt = 0 := xI_eq rfl rfl c_433
    refine lv_iload_n hx hb dX12_done_219 rfl (lv_at hl 2 rfl) ?_
    refine lv_if_eq (tgt := 227) hx hb dX12_done_220 (by decide) (fun c_440 => ?_) (fun c_440 => ?_)
    · have c_440 : p2.toInt = 0 := xI_eq rfl rfl c_440
      refine lv_iconst (v := 0) hx hb dX12_done_227 (by decide) ?_
      have qc_441 : (0 : Int32).toInt = 0 := rfl
      refine S_calli (va_runS (As := [.int 0]) (rest := []) ⟨hx, hb, hml, hown, hts⟩ (n_truth l D k A a z G 0 ⟨by decide, by decide⟩) (va_cwS 1 hts (gd_S hgd m1788 m1789 m131 m1790) rfl rfl rfl (by decide +kernel) ⟨Nat.le_of_ble_eq_true rfl, Nat.le_of_ble_eq_true rfl⟩) (pre_S hW hB_G hK hZ hS) rfl rfl hl.1 rfl (lv_room (Nat.le_of_ble_eq_true rfl)) dX12_done_228 ⟨Nat.le_of_ble_eq_true rfl, Nat.le_of_ble_eq_true rfl⟩) hS (fun r_442 G_443 H locs hpo hW hS => ?_)
      obtain ⟨hB_G_443, hq_444, f_446, hp_445, -⟩ := hpo
      have hF := hF.call hq_444 (by decide) (by decide)
      exact W.iret (v := r_442) hx hb hr (fun t ht _ => ⟨⟨r_442, G_443, rfl, ⟨hB_G_443, hF⟩, wd_t ht hW⟩, hS.F ht⟩) hS.2.2 dX12_done_231
    · have c_440 : p2.toInt ≠ 0 := xI_ne rfl rfl c_440
      refine lv_iconst (v := 1) hx hb dX12_done_223 (by decide) ?_
      refine lv_goto (tgt := 228) hx hb dX12_done_224 (by decide) ?_
      have qc_447 : (1 : Int32).toInt = 1 := rfl
      refine S_calli (va_runS (As := [.int 1]) (rest := []) ⟨hx, hb, hml, hown, hts⟩ (n_truth l D k A a z G 1 ⟨by decide, by decide⟩) (va_cwS 1 hts (gd_S hgd m1788 m1789 m131 m1790) rfl rfl rfl (by decide +kernel) ⟨Nat.le_of_ble_eq_true rfl, Nat.le_of_ble_eq_true rfl⟩) (pre_S hW hB_G hK hZ hS) rfl rfl hl.1 rfl (lv_room (Nat.le_of_ble_eq_true rfl)) dX12_done_228 ⟨Nat.le_of_ble_eq_true rfl, Nat.le_of_ble_eq_true rfl⟩) hS (fun r_448 G_449 H locs hpo hW hS => ?_)
      obtain ⟨hB_G_449, hq_450, f_452, hp_451, -⟩ := hpo
      have hF := hF.call hq_450 (by decide) (by decide)
      exact W.iret (v := r_448) hx hb hr (fun t ht _ => ⟨⟨r_448, G_449, rfl, ⟨hB_G_449, hF⟩, wd_t ht hW⟩, hS.F ht⟩) hS.2.2 dX12_done_231
