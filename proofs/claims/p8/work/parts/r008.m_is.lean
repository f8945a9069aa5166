theorem m106 : Cond.selects RX12 yX12_allSlips yX12_allSlips ∈ gd := gds_7 10 rfl
theorem m1336 : Cond.fieldLink RX12 434 "SlabWalkModel" "units" "I" ∈ gd := gdc_6_1 4 rfl gw_fieldLink
theorem m1392 : Cond.fieldLink RX12 437 "SlabWalkModel" "acts" "I" ∈ gd := gdc_6_4 12 rfl gw_fieldLink
theorem m1393 : Cond.fieldLink RX12 440 "SlabWalkModel" "undone" "I" ∈ gd := gdc_6_4 13 rfl gw_fieldLink
theorem m1397 : Cond.fieldLink RX12 166 "SlabWalkModel" "sightTold" "[I" ∈ gd := gdc_6_5 1 rfl gw_fieldLink
theorem m1955 : Cond.methodLink RX12 553 yX12_allSlips ∈ gd := gdc_8_9 15 rfl gw_methodLink
theorem m1957 : Cond.instanceMethod yX12_allSlips ∈ gd := gdc_8_10 1 rfl gw_instanceMethod
theorem m1958 : Cond.code yX12_allSlips cX12_allSlips 1 (some .int) ∈ gd := gdc_8_10 2 rfl gw_code
theorem dX12_about_1 : decode cX12_about 1 = .ok (.tableswitch 162 0 14 #[75, 80, 85, 90, 98, 106, 114, 122, 127, 132, 137, 142, 147, 152, 157], 75) := dq_of (by decide +kernel)
def rbX12_about_0 : List (Nat × List Nat) := [(0, [27]), (76, [42]), (77, [180, 1, 169]), (80, [172]), (81, [42]), (82, [180, 1, 172]), (85, [172]), (86, [42]), (87, [180, 1, 175]), (90, [172]), (91, [42]), (92, [180, 0, 151]), (95, [16, 6]), (97, [46]), (98, [172]), (99, [42]), (100, [180, 0, 151]), (103, [16, 7]), (105, [46]), (106, [172]), (107, [42]), (108, [180, 0, 151]), (111, [16, 8]), (113, [46])]
theorem rcX12_about_0 : dgo (lb cX12_about) 0 rbX12_about_0 = true := by decide +kernel
theorem dX12_about_0 : decode cX12_about 0 = .ok (.iload_n 1, 1) := dk_27 (dw rcX12_about_0 0 rfl)
theorem dX12_about_76 : decode cX12_about 76 = .ok (.aload_n 0, 1) := dk_42 (dw rcX12_about_0 1 rfl)
theorem dX12_about_77 : decode cX12_about 77 = .ok (.getfield 425, 3) := dk_180 (dw rcX12_about_0 2 rfl) rfl
theorem dX12_about_80 : decode cX12_about 80 = .ok (.ireturn, 1) := dk_172 (dw rcX12_about_0 3 rfl)
theorem dX12_about_81 : decode cX12_about 81 = .ok (.aload_n 0, 1) := dk_42 (dw rcX12_about_0 4 rfl)
theorem dX12_about_82 : decode cX12_about 82 = .ok (.getfield 428, 3) := dk_180 (dw rcX12_about_0 5 rfl) rfl
theorem dX12_about_85 : decode cX12_about 85 = .ok (.ireturn, 1) := dk_172 (dw rcX12_about_0 6 rfl)
theorem dX12_about_86 : decode cX12_about 86 = .ok (.aload_n 0, 1) := dk_42 (dw rcX12_about_0 7 rfl)
theorem dX12_about_87 : decode cX12_about 87 = .ok (.getfield 431, 3) := dk_180 (dw rcX12_about_0 8 rfl) rfl
theorem dX12_about_90 : decode cX12_about 90 = .ok (.ireturn, 1) := dk_172 (dw rcX12_about_0 9 rfl)
theorem dX12_about_91 : decode cX12_about 91 = .ok (.aload_n 0, 1) := dk_42 (dw rcX12_about_0 10 rfl)
theorem dX12_about_92 : decode cX12_about 92 = .ok (.getfield 151, 3) := dk_180 (dw rcX12_about_0 11 rfl) rfl
theorem dX12_about_95 : decode cX12_about 95 = .ok (.bipush 6, 2) := dk_16 (dw rcX12_about_0 12 rfl) rfl
theorem dX12_about_97 : decode cX12_about 97 = .ok (.iaload, 1) := dk_46 (dw rcX12_about_0 13 rfl)
theorem dX12_about_98 : decode cX12_about 98 = .ok (.ireturn, 1) := dk_172 (dw rcX12_about_0 14 rfl)
theorem dX12_about_99 : decode cX12_about 99 = .ok (.aload_n 0, 1) := dk_42 (dw rcX12_about_0 15 rfl)
theorem dX12_about_100 : decode cX12_about 100 = .ok (.getfield 151, 3) := dk_180 (dw rcX12_about_0 16 rfl) rfl
theorem dX12_about_103 : decode cX12_about 103 = .ok (.bipush 7, 2) := dk_16 (dw rcX12_about_0 17 rfl) rfl
theorem dX12_about_105 : decode cX12_about 105 = .ok (.iaload, 1) := dk_46 (dw rcX12_about_0 18 rfl)
theorem dX12_about_106 : decode cX12_about 106 = .ok (.ireturn, 1) := dk_172 (dw rcX12_about_0 19 rfl)
theorem dX12_about_107 : decode cX12_about 107 = .ok (.aload_n 0, 1) := dk_42 (dw rcX12_about_0 20 rfl)
theorem dX12_about_108 : decode cX12_about 108 = .ok (.getfield 151, 3) := dk_180 (dw rcX12_about_0 21 rfl) rfl
theorem dX12_about_111 : decode cX12_about 111 = .ok (.bipush 8, 2) := dk_16 (dw rcX12_about_0 22 rfl) rfl
theorem dX12_about_113 : decode cX12_about 113 = .ok (.iaload, 1) := dk_46 (dw rcX12_about_0 23 rfl)
def rbX12_about_114 : List (Nat × List Nat) := [(114, [172]), (115, [42]), (116, [180, 0, 151]), (119, [16, 9]), (121, [46]), (122, [172]), (123, [42]), (124, [180, 1, 181]), (127, [172]), (128, [42]), (129, [180, 1, 184]), (132, [172]), (133, [42]), (134, [180, 1, 187]), (137, [172]), (138, [42]), (139, [180, 2, 81]), (142, [172]), (143, [42]), (144, [180, 0, 178]), (147, [172]), (148, [42]), (149, [180, 1, 178]), (152, [172])]
theorem rcX12_about_114 : dgo (lb cX12_about) 0 rbX12_about_114 = true := by decide +kernel
theorem dX12_about_114 : decode cX12_about 114 = .ok (.ireturn, 1) := dk_172 (dw rcX12_about_114 0 rfl)
theorem dX12_about_115 : decode cX12_about 115 = .ok (.aload_n 0, 1) := dk_42 (dw rcX12_about_114 1 rfl)
theorem dX12_about_116 : decode cX12_about 116 = .ok (.getfield 151, 3) := dk_180 (dw rcX12_about_114 2 rfl) rfl
theorem dX12_about_119 : decode cX12_about 119 = .ok (.bipush 9, 2) := dk_16 (dw rcX12_about_114 3 rfl) rfl
theorem dX12_about_121 : decode cX12_about 121 = .ok (.iaload, 1) := dk_46 (dw rcX12_about_114 4 rfl)
theorem dX12_about_122 : decode cX12_about 122 = .ok (.ireturn, 1) := dk_172 (dw rcX12_about_114 5 rfl)
theorem dX12_about_123 : decode cX12_about 123 = .ok (.aload_n 0, 1) := dk_42 (dw rcX12_about_114 6 rfl)
theorem dX12_about_124 : decode cX12_about 124 = .ok (.getfield 437, 3) := dk_180 (dw rcX12_about_114 7 rfl) rfl
theorem dX12_about_127 : decode cX12_about 127 = .ok (.ireturn, 1) := dk_172 (dw rcX12_about_114 8 rfl)
theorem dX12_about_128 : decode cX12_about 128 = .ok (.aload_n 0, 1) := dk_42 (dw rcX12_about_114 9 rfl)
theorem dX12_about_129 : decode cX12_about 129 = .ok (.getfield 440, 3) := dk_180 (dw rcX12_about_114 10 rfl) rfl
theorem dX12_about_132 : decode cX12_about 132 = .ok (.ireturn, 1) := dk_172 (dw rcX12_about_114 11 rfl)
theorem dX12_about_133 : decode cX12_about 133 = .ok (.aload_n 0, 1) := dk_42 (dw rcX12_about_114 12 rfl)
theorem dX12_about_134 : decode cX12_about 134 = .ok (.getfield 443, 3) := dk_180 (dw rcX12_about_114 13 rfl) rfl
theorem dX12_about_137 : decode cX12_about 137 = .ok (.ireturn, 1) := dk_172 (dw rcX12_about_114 14 rfl)
theorem dX12_about_138 : decode cX12_about 138 = .ok (.aload_n 0, 1) := dk_42 (dw rcX12_about_114 15 rfl)
theorem dX12_about_139 : decode cX12_about 139 = .ok (.getfield 593, 3) := dk_180 (dw rcX12_about_114 16 rfl) rfl
theorem dX12_about_142 : decode cX12_about 142 = .ok (.ireturn, 1) := dk_172 (dw rcX12_about_114 17 rfl)
theorem dX12_about_143 : decode cX12_about 143 = .ok (.aload_n 0, 1) := dk_42 (dw rcX12_about_114 18 rfl)
theorem dX12_about_144 : decode cX12_about 144 = .ok (.getfield 178, 3) := dk_180 (dw rcX12_about_114 19 rfl) rfl
theorem dX12_about_147 : decode cX12_about 147 = .ok (.ireturn, 1) := dk_172 (dw rcX12_about_114 20 rfl)
theorem dX12_about_148 : decode cX12_about 148 = .ok (.aload_n 0, 1) := dk_42 (dw rcX12_about_114 21 rfl)
theorem dX12_about_149 : decode cX12_about 149 = .ok (.getfield 434, 3) := dk_180 (dw rcX12_about_114 22 rfl) rfl
theorem dX12_about_152 : decode cX12_about 152 = .ok (.ireturn, 1) := dk_172 (dw rcX12_about_114 23 rfl)
def rbX12_about_153 : List (Nat × List Nat) := [(153, [42]), (154, [180, 1, 190]), (157, [172]), (158, [42]), (159, [182, 2, 41]), (162, [172]), (163, [2]), (164, [172])]
theorem rcX12_about_153 : dgo (lb cX12_about) 0 rbX12_about_153 = true := by decide +kernel
theorem dX12_about_153 : decode cX12_about 153 = .ok (.aload_n 0, 1) := dk_42 (dw rcX12_about_153 0 rfl)
theorem dX12_about_154 : decode cX12_about 154 = .ok (.getfield 446, 3) := dk_180 (dw rcX12_about_153 1 rfl) rfl
theorem dX12_about_157 : decode cX12_about 157 = .ok (.ireturn, 1) := dk_172 (dw rcX12_about_153 2 rfl)
theorem dX12_about_158 : decode cX12_about 158 = .ok (.aload_n 0, 1) := dk_42 (dw rcX12_about_153 3 rfl)
theorem dX12_about_159 : decode cX12_about 159 = .ok (.invokevirtual 553, 3) := dk_182 (dw rcX12_about_153 4 rfl) rfl
theorem dX12_about_162 : decode cX12_about 162 = .ok (.ireturn, 1) := dk_172 (dw rcX12_about_153 5 rfl)
theorem dX12_about_163 : decode cX12_about 163 = .ok (.iconst (-1), 1) := dk_2 (dw rcX12_about_153 6 rfl)
theorem dX12_about_164 : decode cX12_about 164 = .ok (.ireturn, 1) := dk_172 (dw rcX12_about_153 7 rfl)
def rbX12_counts_0 : List (Nat × List Nat) := [(0, [42]), (1, [180, 0, 166]), (4, [27]), (5, [46]), (6, [28]), (7, [163, 0, 26]), (10, [42]), (11, [180, 0, 169]), (14, [27]), (15, [46]), (16, [155, 0, 13]), (19, [42]), (20, [180, 0, 169]), (23, [27]), (24, [46]), (25, [28]), (26, [164, 0, 7]), (29, [4]), (30, [167, 0, 4]), (33, [3]), (34, [172])]
theorem rcX12_counts_0 : dgo (lb cX12_counts) 0 rbX12_counts_0 = true := by decide +kernel
theorem dX12_counts_0 : decode cX12_counts 0 = .ok (.aload_n 0, 1) := dk_42 (dw rcX12_counts_0 0 rfl)
theorem dX12_counts_1 : decode cX12_counts 1 = .ok (.getfield 166, 3) := dk_180 (dw rcX12_counts_0 1 rfl) rfl
theorem dX12_counts_4 : decode cX12_counts 4 = .ok (.iload_n 1, 1) := dk_27 (dw rcX12_counts_0 2 rfl)
theorem dX12_counts_5 : decode cX12_counts 5 = .ok (.iaload, 1) := dk_46 (dw rcX12_counts_0 3 rfl)
theorem dX12_counts_6 : decode cX12_counts 6 = .ok (.iload_n 2, 1) := dk_28 (dw rcX12_counts_0 4 rfl)
theorem dX12_counts_7 : decode cX12_counts 7 = .ok (.if_icmp .gt 26, 3) := dk_163 (dw rcX12_counts_0 5 rfl) rfl
theorem dX12_counts_10 : decode cX12_counts 10 = .ok (.aload_n 0, 1) := dk_42 (dw rcX12_counts_0 6 rfl)
theorem dX12_counts_11 : decode cX12_counts 11 = .ok (.getfield 169, 3) := dk_180 (dw rcX12_counts_0 7 rfl) rfl
theorem dX12_counts_14 : decode cX12_counts 14 = .ok (.iload_n 1, 1) := dk_27 (dw rcX12_counts_0 8 rfl)
theorem dX12_counts_15 : decode cX12_counts 15 = .ok (.iaload, 1) := dk_46 (dw rcX12_counts_0 9 rfl)
theorem dX12_counts_16 : decode cX12_counts 16 = .ok (.ifCond .lt 13, 3) := dk_155 (dw rcX12_counts_0 10 rfl) rfl
theorem dX12_counts_19 : decode cX12_counts 19 = .ok (.aload_n 0, 1) := dk_42 (dw rcX12_counts_0 11 rfl)
theorem dX12_counts_20 : decode cX12_counts 20 = .ok (.getfield 169, 3) := dk_180 (dw rcX12_counts_0 12 rfl) rfl
theorem dX12_counts_23 : decode cX12_counts 23 = .ok (.iload_n 1, 1) := dk_27 (dw rcX12_counts_0 13 rfl)
theorem dX12_counts_24 : decode cX12_counts 24 = .ok (.iaload, 1) := dk_46 (dw rcX12_counts_0 14 rfl)
theorem dX12_counts_25 : decode cX12_counts 25 = .ok (.iload_n 2, 1) := dk_28 (dw rcX12_counts_0 15 rfl)
theorem dX12_counts_26 : decode cX12_counts 26 = .ok (.if_icmp .le 7, 3) := dk_164 (dw rcX12_counts_0 16 rfl) rfl
theorem dX12_counts_29 : decode cX12_counts 29 = .ok (.iconst 1, 1) := dk_4 (dw rcX12_counts_0 17 rfl)
theorem dX12_counts_30 : decode cX12_counts 30 = .ok (.goto 4, 3) := dk_167 (dw rcX12_counts_0 18 rfl) rfl
theorem dX12_counts_33 : decode cX12_counts 33 = .ok (.iconst 0, 1) := dk_3 (dw rcX12_counts_0 19 rfl)
theorem dX12_counts_34 : decode cX12_counts 34 = .ok (.ireturn, 1) := dk_172 (dw rcX12_counts_0 20 rfl)
set_option maxHeartbeats 4000000 in
set_option maxRecDepth 100000 in
theorem n_counts (l : Launch) (D : va_G) (k : KT) (A : Nat → Prop) (a : Nat → Nat) (z : SK) (G : GS) (p0 : Int32) (p1 : Int32) (ha_p0 : 0 ≤ p0.toInt ∧ p0.toInt ≤ 19) : Met l yX12_counts (WS yX12_counts cX12_counts 3 (some .boolean)) ({ frames := 0, cells := 0, slots := 0, locals := 0 }) (va_Pc [.ref (a 66), .int p0, .int p1] (cW D k A a z G)) (va_Qi (fun (r : Int32) (G1 : GS) => Q_counts p0 p1 G r G1) (fun (G1 : GS) t => Wd D k A a G1 t.heap) A) 0 0 A := by
  refine Met.ofW (cc := cX12_counts) (maxL := 3) (ret := (some .boolean)) (by decide) rfl ?_
  intro p e s m args below meth c s₁ B hml hv
  obtain ⟨rfl, hW, hB_G, hK, hZ⟩ := hv
  have hx := B.exec
  have hb := B.bytes
  have hr := B.returns
  have hts := atoms_spec (ws := WS yX12_counts cX12_counts 3 (some .boolean)) B.pre
  have hgd : ∀ w ∈ gd, w ∈ WS yX12_counts cX12_counts 3 (some .boolean) := fun w h => List.mem_cons_of_mem _ h
  have hg : ∀ w ∈ gd, w.before _ s = true := fun w h => hts w (hgd w h)
  have hown : s.vm.findClass RX12 = some m.cls := findClass_of_methodNamed B.named
  have hS : va_S A s.heap s.heap [] := va_S.rf
  have hF : Fr [] [] G G := Fr.rf
  have hl := lv_entry ([.ref (a 66), .int p0, .int p1]) (n := 3) (Nat.le_of_ble_eq_true rfl)
  rw [lg_entry_eq]
  generalize (lg_sl ([.ref (a 66), .int p0, .int p1]) ++ List.replicate (3 - (lg_sl ([.ref (a 66), .int p0, .int p1])).length) Slot.unset).toArray = ls at hl ⊢
  have hl : lv_has ls 3 [(0, .ref (a 66)), (1, .int p0), (2, .int p1)] := hl
  refine lv_aload_n hx hb dX12_counts_0 rfl (lv_at hl 0 rfl) ?_
  refine S_getR (n := 115) (C := RX12) (T := TX12) (N := 89) hx hb hg iX12 hown hK hW kd_66 rfl 83 (lt_b rfl) (hg (Cond.fieldLink RX12 166 "SlabWalkModel" "sightTold" "[I") m1397) (fun _ h9 => h9) rfl dX12_counts_1 ?_
  refine lv_iload_n hx hb dX12_counts_4 rfl (lv_at hl 1 rfl) ?_
  refine S_iald hx hb hK hW kd_115 (vin (by omega) (by omega)) dX12_counts_5 (fun y_1 ey_1 => ?_)
  refine lv_iload_n hx hb dX12_counts_6 rfl (lv_at hl 2 rfl) ?_
  refine lv_icmp_gt (tgt := 33) hx hb dX12_counts_7 rfl (fun c_2 => ?_) (fun c_2 => ?_)
  · have c_2 : p1.toInt < y_1.toInt := xI_lt rfl rfl c_2
    refine ic_0 hx hb dX12_counts_33 ?_
    exact W.zret (v := 0) hx hb hr (by decide) (fun t ht _ => ⟨⟨0, G, rfl, (Q_counts_mk ⟨hB_G, hF, ⟨by decide, by decide⟩, ⟨y_1, ey_1, (Or.inl ⟨c_2, ⟨rfl, rfl⟩⟩)⟩⟩), wd_t ht hW⟩, hS.F ht⟩) hS.2.2 dX12_counts_34
  · have c_2 : y_1.toInt ≤ p1.toInt := xI_nlt rfl rfl c_2
    refine lv_aload_n hx hb dX12_counts_10 rfl (lv_at hl 0 rfl) ?_
    refine S_getR (n := 116) (C := RX12) (T := TX12) (N := 89) hx hb hg iX12 hown hK hW kd_66 rfl 84 (lt_b rfl) (hg (Cond.fieldLink RX12 169 "SlabWalkModel" "sightUntold" "[I") m1398) (fun _ h9 => h9) rfl dX12_counts_11 ?_
    refine lv_iload_n hx hb dX12_counts_14 rfl (lv_at hl 1 rfl) ?_
    refine S_iald hx hb hK hW kd_116 (vin (by omega) (by omega)) dX12_counts_15 (fun y_3 ey_3 => ?_)
    refine lv_if_lt (tgt := 29) hx hb dX12_counts_16 rfl (fun c_4 => ?_) (fun c_4 => ?_)
    · have c_4 : y_3.toInt < 0 := xI_lt rfl rfl c_4
      refine ic_1 hx hb dX12_counts_29 ?_
      refine lv_goto (tgt := 34) hx hb dX12_counts_30 rfl ?_
      exact W.zret (v := 1) hx hb hr (by decide) (fun t ht _ => ⟨⟨1, G, rfl, (Q_counts_mk ⟨hB_G, hF, ⟨by decide, by decide⟩, ⟨y_1, ey_1, (Or.inr ⟨c_2, ⟨y_3, ey_3, (Or.inl ⟨c_4, ⟨rfl, rfl⟩⟩)⟩⟩)⟩⟩), wd_t ht hW⟩, hS.F ht⟩) hS.2.2 dX12_counts_34
    · have c_4 : 0 ≤ y_3.toInt := xI_nlt rfl rfl c_4
      refine lv_aload_n hx hb dX12_counts_19 rfl (lv_at hl 0 rfl) ?_
      refine S_getR (n := 116) (C := RX12) (T := TX12) (N := 89) hx hb hg iX12 hown hK hW kd_66 rfl 84 (lt_b rfl) (hg (Cond.fieldLink RX12 169 "SlabWalkModel" "sightUntold" "[I") m1398) (fun _ h9 => h9) rfl dX12_counts_20 ?_
      refine lv_iload_n hx hb dX12_counts_23 rfl (lv_at hl 1 rfl) ?_
      refine S_iald hx hb hK hW kd_116 (vin (by omega) (by omega)) dX12_counts_24 (fun y_5 ey_5 => ?_)
      refine lv_iload_n hx hb dX12_counts_25 rfl (lv_at hl 2 rfl) ?_
      refine lv_icmp_le (tgt := 33) hx hb dX12_counts_26 rfl (fun c_6 => ?_) (fun c_6 => ?_)
      · have c_6 : y_5.toInt ≤ p1.toInt := xI_le rfl rfl c_6
        refine ic_0 hx hb dX12_counts_33 ?_
        exact W.zret (v := 0) hx hb hr (by decide) (fun t ht _ => ⟨⟨0, G, rfl, (Q_counts_mk ⟨hB_G, hF, ⟨by decide, by decide⟩, ⟨y_1, ey_1, (Or.inr ⟨c_2, ⟨y_3, ey_3, (Or.inr ⟨c_4, ⟨y_5, ey_5, (Or.inl ⟨c_6, ⟨rfl, rfl⟩⟩)⟩⟩)⟩⟩)⟩⟩), wd_t ht hW⟩, hS.F ht⟩) hS.2.2 dX12_counts_34
      · have c_6 : p1.toInt < y_5.toInt := xI_nle rfl rfl c_6
        refine ic_1 hx hb dX12_counts_29 ?_
        refine lv_goto (tgt := 34) hx hb dX12_counts_30 rfl ?_
        exact W.zret (v := 1) hx hb hr (by decide) (fun t ht _ => ⟨⟨1, G, rfl, (Q_counts_mk ⟨hB_G, hF, ⟨by decide, by decide⟩, ⟨y_1, ey_1, (Or.inr ⟨c_2, ⟨y_3, ey_3, (Or.inr ⟨c_4, ⟨y_5, ey_5, (Or.inr ⟨c_6, ⟨rfl, rfl⟩⟩)⟩⟩)⟩⟩)⟩⟩), wd_t ht hW⟩, hS.F ht⟩) hS.2.2 dX12_counts_34

set_option maxHeartbeats 4000000 in
set_option maxRecDepth 100000 in
theorem n_about (l : Launch) (D : va_G) (k : KT) (A : Nat → Prop) (a : Nat → Nat) (z : SK) (G : GS) (p0 : Int32)  : Met l yX12_about (WS yX12_about cX12_about 2 (some .int)) ({ frames := 1, cells := 0, slots := 0, locals := 20 }) (va_Pc [.ref (a 66), .int p0] (cW D k A a z G)) (va_Qi (fun (r : Int32) (G1 : GS) => Q_about p0 G r G1) (fun (G1 : GS) t => Wd D k A a G1 t.heap) A) 0 0 A := by
  refine Met.ofW (cc := cX12_about) (maxL := 2) (ret := (some .int)) (by decide) rfl ?_
  intro p e s m args below meth c s₁ B hml hv
  obtain ⟨rfl, hW, hB_G, hK, hZ⟩ := hv
  have hx := B.exec
  have hb := B.bytes
  have hr := B.returns
  have hts := atoms_spec (ws := WS yX12_about cX12_about 2 (some .int)) B.pre
  have hgd : ∀ w ∈ gd, w ∈ WS yX12_about cX12_about 2 (some .int) := fun w h => List.mem_cons_of_mem _ h
  have hg : ∀ w ∈ gd, w.before _ s = true := fun w h => hts w (hgd w h)
  have hown : s.vm.findClass RX12 = some m.cls := findClass_of_methodNamed B.named
  have hS : va_S A s.heap s.heap [] := va_S.rf
  have hF : Fr [] [] G G := Fr.rf
  have hl := lv_entry ([.ref (a 66), .int p0]) (n := 2) (Nat.le_of_ble_eq_true rfl)
  rw [lg_entry_eq]
  generalize (lg_sl ([.ref (a 66), .int p0]) ++ List.replicate (2 - (lg_sl ([.ref (a 66), .int p0])).length) Slot.unset).toArray = ls at hl ⊢
  have hl : lv_has ls 2 [(0, .ref (a 66)), (1, .int p0)] := hl
  refine lv_iload_n hx hb dX12_about_0 rfl (lv_at hl 1 rfl) ?_
  by_cases c_1 : p0 = 0
  · refine lv_tableIn (tgt := 76) hx hb dX12_about_1 (by rw [c_1]; decide) (by rw [c_1]; decide) (off := 75) (by rw [c_1]; decide) (by decide) ?_
    have c_1 : p0.toInt = 0 := xI_eq rfl rfl c_1
    refine lv_aload_n hx hb dX12_about_76 rfl (lv_at hl 0 rfl) ?_
    have b_2 : 0 ≤ (G.1 66 52).toInt ∧ (G.1 66 52).toInt ≤ 3 := bd_66_52 hB_G
    refine S_getI (v := (G.1 66 52)) (C := RX12) (T := TX12) (N := 89) hx hb hg iX12 hown hK hW kd_66 rfl 52 (lt_b rfl) (hg (Cond.fieldLink RX12 425 "SlabWalkModel" "streets" "I") m1366) (fun _ h9 => h9) rfl rfl dX12_about_77 ?_
    exact W.iret (v := (G.1 66 52)) hx hb hr (fun t ht _ => ⟨⟨(G.1 66 52), G, rfl, (Q_about_mk ⟨hB_G, hF, (Or.inl ⟨c_1, ⟨rfl, rfl⟩⟩)⟩), wd_t ht hW⟩, hS.F ht⟩) hS.2.2 dX12_about_80
  by_cases c_3 : p0 = 1
  · refine lv_tableIn (tgt := 81) hx hb dX12_about_1 (by rw [c_3]; decide) (by rw [c_3]; decide) (off := 80) (by rw [c_3]; decide) (by decide) ?_
    have c_3 : p0.toInt = 1 := xI_eq rfl rfl c_3
    refine lv_aload_n hx hb dX12_about_81 rfl (lv_at hl 0 rfl) ?_
    have b_4 : 0 ≤ (G.1 66 53).toInt ∧ (G.1 66 53).toInt ≤ 4 := bd_66_53 hB_G
    refine S_getI (v := (G.1 66 53)) (C := RX12) (T := TX12) (N := 89) hx hb hg iX12 hown hK hW kd_66 rfl 53 (lt_b rfl) (hg (Cond.fieldLink RX12 428 "SlabWalkModel" "walkers" "I") m1367) (fun _ h9 => h9) rfl rfl dX12_about_82 ?_
    exact W.iret (v := (G.1 66 53)) hx hb hr (fun t ht _ => ⟨⟨(G.1 66 53), G, rfl, (Q_about_mk ⟨hB_G, hF, (Or.inr ⟨(xI_ne (Y := 0) rfl rfl c_1), (Or.inl ⟨c_3, ⟨rfl, rfl⟩⟩)⟩)⟩), wd_t ht hW⟩, hS.F ht⟩) hS.2.2 dX12_about_85
  by_cases c_5 : p0 = 2
  · refine lv_tableIn (tgt := 86) hx hb dX12_about_1 (by rw [c_5]; decide) (by rw [c_5]; decide) (off := 85) (by rw [c_5]; decide) (by decide) ?_
    have c_5 : p0.toInt = 2 := xI_eq rfl rfl c_5
    refine lv_aload_n hx hb dX12_about_86 rfl (lv_at hl 0 rfl) ?_
    have b_6 : 0 ≤ (G.1 66 54).toInt ∧ (G.1 66 54).toInt ≤ 6 := bd_66_54 hB_G
    refine S_getI (v := (G.1 66 54)) (C := RX12) (T := TX12) (N := 89) hx hb hg iX12 hown hK hW kd_66 rfl 54 (lt_b rfl) (hg (Cond.fieldLink RX12 431 "SlabWalkModel" "rules" "I") m1368) (fun _ h9 => h9) rfl rfl dX12_about_87 ?_
    exact W.iret (v := (G.1 66 54)) hx hb hr (fun t ht _ => ⟨⟨(G.1 66 54), G, rfl, (Q_about_mk ⟨hB_G, hF, (Or.inr ⟨(xI_ne (Y := 0) rfl rfl c_1), (Or.inr ⟨(xI_ne (Y := 1) rfl rfl c_3), (Or.inl ⟨c_5, ⟨rfl, rfl⟩⟩)⟩)⟩)⟩), wd_t ht hW⟩, hS.F ht⟩) hS.2.2 dX12_about_90
  by_cases c_7 : p0 = 3
  · refine lv_tableIn (tgt := 91) hx hb dX12_about_1 (by rw [c_7]; decide) (by rw [c_7]; decide) (off := 90) (by rw [c_7]; decide) (by decide) ?_
    have c_7 : p0.toInt = 3 := xI_eq rfl rfl c_7
    refine lv_aload_n hx hb dX12_about_91 rfl (lv_at hl 0 rfl) ?_
    refine S_getR (n := 110) (C := RX12) (T := TX12) (N := 89) hx hb hg iX12 hown hK hW kd_66 rfl 76 (lt_b rfl) (hg (Cond.fieldLink RX12 151 "SlabWalkModel" "now" "[I") m1390) (fun _ h9 => h9) rfl dX12_about_92 ?_
    refine lv_bipush (v := 6) hx hb dX12_about_95 (by decide) ?_
    refine S_iald hx hb hK hW kd_110 (vin (by decide) (by decide)) dX12_about_97 (fun y_8 ey_8 => ?_)
    exact W.iret (v := y_8) hx hb hr (fun t ht _ => ⟨⟨y_8, G, rfl, (Q_about_mk ⟨hB_G, hF, (Or.inr ⟨(xI_ne (Y := 0) rfl rfl c_1), (Or.inr ⟨(xI_ne (Y := 1) rfl rfl c_3), (Or.inr ⟨(xI_ne (Y := 2) rfl rfl c_5), (Or.inl ⟨c_7, ⟨y_8, ey_8, ⟨rfl, rfl⟩⟩⟩)⟩)⟩)⟩)⟩), wd_t ht hW⟩, hS.F ht⟩) hS.2.2 dX12_about_98
  by_cases c_9 : p0 = 4
  · refine lv_tableIn (tgt := 99) hx hb dX12_about_1 (by rw [c_9]; decide) (by rw [c_9]; decide) (off := 98) (by rw [c_9]; decide) (by decide) ?_
    have c_9 : p0.toInt = 4 := xI_eq rfl rfl c_9
    refine lv_aload_n hx hb dX12_about_99 rfl (lv_at hl 0 rfl) ?_
    refine S_getR (n := 110) (C := RX12) (T := TX12) (N := 89) hx hb hg iX12 hown hK hW kd_66 rfl 76 (lt_b rfl) (hg (Cond.fieldLink RX12 151 "SlabWalkModel" "now" "[I") m1390) (fun _ h9 => h9) rfl dX12_about_100 ?_
    refine lv_bipush (v := 7) hx hb dX12_about_103 (by decide) ?_
    refine S_iald hx hb hK hW kd_110 (vin (by decide) (by decide)) dX12_about_105 (fun y_10 ey_10 => ?_)
    exact W.iret (v := y_10) hx hb hr (fun t ht _ => ⟨⟨y_10, G, rfl, (Q_about_mk ⟨hB_G, hF, (Or.inr ⟨(xI_ne (Y := 0) rfl rfl c_1), (Or.inr ⟨(xI_ne (Y := 1) rfl rfl c_3), (Or.inr ⟨(xI_ne (Y := 2) rfl rfl c_5), (Or.inr ⟨(xI_ne (Y := 3) rfl rfl c_7), (Or.inl ⟨c_9, ⟨y_10, ey_10, ⟨rfl, rfl⟩⟩⟩)⟩)⟩)⟩)⟩)⟩), wd_t ht hW⟩, hS.F ht⟩) hS.2.2 dX12_about_106
  by_cases c_11 : p0 = 5
  · refine lv_tableIn (tgt := 107) hx hb dX12_about_1 (by rw [c_11]; decide) (by rw [c_11]; decide) (off := 106) (by rw [c_11]; decide) (by decide) ?_
    have c_11 : p0.toInt = 5 := xI_eq rfl rfl c_11
    refine lv_aload_n hx hb dX12_about_107 rfl (lv_at hl 0 rfl) ?_
    refine S_getR (n := 110) (C := RX12) (T := TX12) (N := 89) hx hb hg iX12 hown hK hW kd_66 rfl 76 (lt_b rfl) (hg (Cond.fieldLink RX12 151 "SlabWalkModel" "now" "[I") m1390) (fun _ h9 => h9) rfl dX12_about_108 ?_
    refine lv_bipush (v := 8) hx hb dX12_about_111 (by decide) ?_
    refine S_iald hx hb hK hW kd_110 (vin (by decide) (by decide)) dX12_about_113 (fun y_12 ey_12 => ?_)
    exact W.iret (v := y_12) hx hb hr (fun t ht _ => ⟨⟨y_12, G, rfl, (Q_about_mk ⟨hB_G, hF, (Or.inr ⟨(xI_ne (Y := 0) rfl rfl c_1), (Or.inr ⟨(xI_ne (Y := 1) rfl rfl c_3), (Or.inr ⟨(xI_ne (Y := 2) rfl rfl c_5), (Or.inr ⟨(xI_ne (Y := 3) rfl rfl c_7), (Or.inr ⟨(xI_ne (Y := 4) rfl rfl c_9), (Or.inl ⟨c_11, ⟨y_12, ey_12, ⟨rfl, rfl⟩⟩⟩)⟩)⟩)⟩)⟩)⟩)⟩), wd_t ht hW⟩, hS.F ht⟩) hS.2.2 dX12_about_114
  by_cases c_13 : p0 = 6
  · refine lv_tableIn (tgt := 115) hx hb dX12_about_1 (by rw [c_13]; decide) (by rw [c_13]; decide) (off := 114) (by rw [c_13]; decide) (by decide) ?_
    have c_13 : p0.toInt = 6 := xI_eq rfl rfl c_13
    refine lv_aload_n hx hb dX12_about_115 rfl (lv_at hl 0 rfl) ?_
    refine S_getR (n := 110) (C := RX12) (T := TX12) (N := 89) hx hb hg iX12 hown hK hW kd_66 rfl 76 (lt_b rfl) (hg (Cond.fieldLink RX12 151 "SlabWalkModel" "now" "[I") m1390) (fun _ h9 => h9) rfl dX12_about_116 ?_
    refine lv_bipush (v := 9) hx hb dX12_about_119 (by decide) ?_
    refine S_iald hx hb hK hW kd_110 (vin (by decide) (by decide)) dX12_about_121 (fun y_14 ey_14 => ?_)
    exact W.iret (v := y_14) hx hb hr (fun t ht _ => ⟨⟨y_14, G, rfl, (Q_about_mk ⟨hB_G, hF, (Or.inr ⟨(xI_ne (Y := 0) rfl rfl c_1), (Or.inr ⟨(xI_ne (Y := 1) rfl rfl c_3), (Or.inr ⟨(xI_ne (Y := 2) rfl rfl c_5), (Or.inr ⟨(xI_ne (Y := 3) rfl rfl c_7), (Or.inr ⟨(xI_ne (Y := 4) rfl rfl c_9), (Or.inr ⟨(xI_ne (Y := 5) rfl rfl c_11), (Or.inl ⟨c_13, ⟨y_14, ey_14, ⟨rfl, rfl⟩⟩⟩)⟩)⟩)⟩)⟩)⟩)⟩)⟩), wd_t ht hW⟩, hS.F ht⟩) hS.2.2 dX12_about_122
  by_cases c_15 : p0 = 7
  · refine lv_tableIn (tgt := 123) hx hb dX12_about_1 (by rw [c_15]; decide) (by rw [c_15]; decide) (off := 122) (by rw [c_15]; decide) (by decide) ?_
    have c_15 : p0.toInt = 7 := xI_eq rfl rfl c_15
    refine lv_aload_n hx hb dX12_about_123 rfl (lv_at hl 0 rfl) ?_
    have b_16 : 0 ≤ (G.1 66 78).toInt ∧ (G.1 66 78).toInt ≤ 40 := bd_66_78 hB_G
    refine S_getI (v := (G.1 66 78)) (C := RX12) (T := TX12) (N := 89) hx hb hg iX12 hown hK hW kd_66 rfl 78 (lt_b rfl) (hg (Cond.fieldLink RX12 437 "SlabWalkModel" "acts" "I") m1392) (fun _ h9 => h9) rfl rfl dX12_about_124 ?_
    exact W.iret (v := (G.1 66 78)) hx hb hr (fun t ht _ => ⟨⟨(G.1 66 78), G, rfl, (Q_about_mk ⟨hB_G, hF, (Or.inr ⟨(xI_ne (Y := 0) rfl rfl c_1), (Or.inr ⟨(xI_ne (Y := 1) rfl rfl c_3), (Or.inr ⟨(xI_ne (Y := 2) rfl rfl c_5), (Or.inr ⟨(xI_ne (Y := 3) rfl rfl c_7), (Or.inr ⟨(xI_ne (Y := 4) rfl rfl c_9), (Or.inr ⟨(xI_ne (Y := 5) rfl rfl c_11), (Or.inr ⟨(xI_ne (Y := 6) rfl rfl c_13), (Or.inl ⟨c_15, ⟨rfl, rfl⟩⟩)⟩)⟩)⟩)⟩)⟩)⟩)⟩)⟩), wd_t ht hW⟩, hS.F ht⟩) hS.2.2 dX12_about_127
  by_cases c_17 : p0 = 8
  · refine lv_tableIn (tgt := 128) hx hb dX12_about_1 (by rw [c_17]; decide) (by rw [c_17]; decide) (off := 127) (by rw [c_17]; decide) (by decide) ?_
    have c_17 : p0.toInt = 8 := xI_eq rfl rfl c_17
    refine lv_aload_n hx hb dX12_about_128 rfl (lv_at hl 0 rfl) ?_
    have b_18 : 0 ≤ (G.1 66 79).toInt ∧ (G.1 66 79).toInt ≤ 40 := bd_66_79 hB_G
    refine S_getI (v := (G.1 66 79)) (C := RX12) (T := TX12) (N := 89) hx hb hg iX12 hown hK hW kd_66 rfl 79 (lt_b rfl) (hg (Cond.fieldLink RX12 440 "SlabWalkModel" "undone" "I") m1393) (fun _ h9 => h9) rfl rfl dX12_about_129 ?_
    exact W.iret (v := (G.1 66 79)) hx hb hr (fun t ht _ => ⟨⟨(G.1 66 79), G, rfl, (Q_about_mk ⟨hB_G, hF, (Or.inr ⟨(xI_ne (Y := 0) rfl rfl c_1), (Or.inr ⟨(xI_ne (Y := 1) rfl rfl c_3), (Or.inr ⟨(xI_ne (Y := 2) rfl rfl c_5), (Or.inr ⟨(xI_ne (Y := 3) rfl rfl c_7), (Or.inr ⟨(xI_ne (Y := 4) rfl rfl c_9), (Or.inr ⟨(xI_ne (Y := 5) rfl rfl c_11), (Or.inr ⟨(xI_ne (Y := 6) rfl rfl c_13), (Or.inr ⟨(xI_ne (Y := 7) rfl rfl c_15), (Or.inl ⟨c_17, ⟨rfl, rfl⟩⟩)⟩)⟩)⟩)⟩)⟩)⟩)⟩)⟩)⟩), wd_t ht hW⟩, hS.F ht⟩) hS.2.2 dX12_about_132
  by_cases c_19 : p0 = 9
  · refine lv_tableIn (tgt := 133) hx hb dX12_about_1 (by rw [c_19]; decide) (by rw [c_19]; decide) (off := 132) (by rw [c_19]; decide) (by decide) ?_
    have c_19 : p0.toInt = 9 := xI_eq rfl rfl c_19
    refine lv_aload_n hx hb dX12_about_133 rfl (lv_at hl 0 rfl) ?_
    have b_20 : 0 ≤ (G.1 66 85).toInt ∧ (G.1 66 85).toInt ≤ 20 := bd_66_85 hB_G
    refine S_getI (v := (G.1 66 85)) (C := RX12) (T := TX12) (N := 89) hx hb hg iX12 hown hK hW kd_66 rfl 85 (lt_b rfl) (hg (Cond.fieldLink RX12 443 "SlabWalkModel" "sights" "I") m1399) (fun _ h9 => h9) rfl rfl dX12_about_134 ?_
    exact W.iret (v := (G.1 66 85)) hx hb hr (fun t ht _ => ⟨⟨(G.1 66 85), G, rfl, (Q_about_mk ⟨hB_G, hF, (Or.inr ⟨(xI_ne (Y := 0) rfl rfl c_1), (Or.inr ⟨(xI_ne (Y := 1) rfl rfl c_3), (Or.inr ⟨(xI_ne (Y := 2) rfl rfl c_5), (Or.inr ⟨(xI_ne (Y := 3) rfl rfl c_7), (Or.inr ⟨(xI_ne (Y := 4) rfl rfl c_9), (Or.inr ⟨(xI_ne (Y := 5) rfl rfl c_11), (Or.inr ⟨(xI_ne (Y := 6) rfl rfl c_13), (Or.inr ⟨(xI_ne (Y := 7) rfl rfl c_15), (Or.inr ⟨(xI_ne (Y := 8) rfl rfl c_17), (Or.inl ⟨c_19, ⟨rfl, rfl⟩⟩)⟩)⟩)⟩)⟩)⟩)⟩)⟩)⟩)⟩)⟩), wd_t ht hW⟩, hS.F ht⟩) hS.2.2 dX12_about_137
  by_cases c_21 : p0 = 10
  · refine lv_tableIn (tgt := 138) hx hb dX12_about_1 (by rw [c_21]; decide) (by rw [c_21]; decide) (off := 137) (by rw [c_21]; decide) (by decide) ?_
    have c_21 : p0.toInt = 10 := xI_eq rfl rfl c_21
    refine lv_aload_n hx hb dX12_about_138 rfl (lv_at hl 0 rfl) ?_
    have b_22 : 0 ≤ (G.1 66 86).toInt ∧ (G.1 66 86).toInt ≤ 100000 := bd_66_86 hB_G
    refine S_getI (v := (G.1 66 86)) (C := RX12) (T := TX12) (N := 89) hx hb hg iX12 hown hK hW kd_66 rfl 86 (lt_b rfl) (hg (Cond.fieldLink RX12 593 "SlabWalkModel" "time" "I") m1400) (fun _ h9 => h9) rfl rfl dX12_about_139 ?_
    exact W.iret (v := (G.1 66 86)) hx hb hr (fun t ht _ => ⟨⟨(G.1 66 86), G, rfl, (Q_about_mk ⟨hB_G, hF, (Or.inr ⟨(xI_ne (Y := 0) rfl rfl c_1), (Or.inr ⟨(xI_ne (Y := 1) rfl rfl c_3), (Or.inr ⟨(xI_ne (Y := 2) rfl rfl c_5), (Or.inr ⟨(xI_ne (Y := 3) rfl rfl c_7), (Or.inr ⟨(xI_ne (Y := 4) rfl rfl c_9), (Or.inr ⟨(xI_ne (Y := 5) rfl rfl c_11), (Or.inr ⟨(xI_ne (Y := 6) rfl rfl c_13), (Or.inr ⟨(xI_ne (Y := 7) rfl rfl c_15), (Or.inr ⟨(xI_ne (Y := 8) rfl rfl c_17), (Or.inr ⟨(xI_ne (Y := 9) rfl rfl c_19), (Or.inl ⟨c_21, ⟨rfl, rfl⟩⟩)⟩)⟩)⟩)⟩)⟩)⟩)⟩)⟩)⟩)⟩)⟩), wd_t ht hW⟩, hS.F ht⟩) hS.2.2 dX12_about_142
  by_cases c_23 : p0 = 11
  · refine lv_tableIn (tgt := 143) hx hb dX12_about_1 (by rw [c_23]; decide) (by rw [c_23]; decide) (off := 142) (by rw [c_23]; decide) (by decide) ?_
    have c_23 : p0.toInt = 11 := xI_eq rfl rfl c_23
    refine lv_aload_n hx hb dX12_about_143 rfl (lv_at hl 0 rfl) ?_
    have b_24 : 0 ≤ (G.1 66 1).toInt ∧ (G.1 66 1).toInt ≤ 1600 := bd_66_1 hB_G
    refine S_getI (v := (G.1 66 1)) (C := RX12) (T := TX12) (N := 89) hx hb hg iX12 hown hK hW kd_66 rfl 1 (lt_b rfl) (hg (Cond.fieldLink RX12 178 "SlabWalkModel" "taped" "I") m1315) (fun _ h9 => h9) rfl rfl dX12_about_144 ?_
    exact W.iret (v := (G.1 66 1)) hx hb hr (fun t ht _ => ⟨⟨(G.1 66 1), G, rfl, (Q_about_mk ⟨hB_G, hF, (Or.inr ⟨(xI_ne (Y := 0) rfl rfl c_1), (Or.inr ⟨(xI_ne (Y := 1) rfl rfl c_3), (Or.inr ⟨(xI_ne (Y := 2) rfl rfl c_5), (Or.inr ⟨(xI_ne (Y := 3) rfl rfl c_7), (Or.inr ⟨(xI_ne (Y := 4) rfl rfl c_9), (Or.inr ⟨(xI_ne (Y := 5) rfl rfl c_11), (Or.inr ⟨(xI_ne (Y := 6) rfl rfl c_13), (Or.inr ⟨(xI_ne (Y := 7) rfl rfl c_15), (Or.inr ⟨(xI_ne (Y := 8) rfl rfl c_17), (Or.inr ⟨(xI_ne (Y := 9) rfl rfl c_19), (Or.inr ⟨(xI_ne (Y := 10) rfl rfl c_21), (Or.inl ⟨c_23, ⟨rfl, rfl⟩⟩)⟩)⟩)⟩)⟩)⟩)⟩)⟩)⟩)⟩)⟩)⟩)⟩), wd_t ht hW⟩, hS.F ht⟩) hS.2.2 dX12_about_147
  by_cases c_25 : p0 = 12
  · refine lv_tableIn (tgt := 148) hx hb dX12_about_1 (by rw [c_25]; decide) (by rw [c_25]; decide) (off := 147) (by rw [c_25]; decide) (by decide) ?_
    have c_25 : p0.toInt = 12 := xI_eq rfl rfl c_25
    refine lv_aload_n hx hb dX12_about_148 rfl (lv_at hl 0 rfl) ?_
    refine S_getI (v := (G.1 66 22)) (C := RX12) (T := TX12) (N := 89) hx hb hg iX12 hown hK hW kd_66 rfl 22 (lt_b rfl) (hg (Cond.fieldLink RX12 434 "SlabWalkModel" "units" "I") m1336) (fun _ h9 => h9) rfl rfl dX12_about_149 ?_
    exact W.iret (v := (G.1 66 22)) hx hb hr (fun t ht _ => ⟨⟨(G.1 66 22), G, rfl, (Q_about_mk ⟨hB_G, hF, (Or.inr ⟨(xI_ne (Y := 0) rfl rfl c_1), (Or.inr ⟨(xI_ne (Y := 1) rfl rfl c_3), (Or.inr ⟨(xI_ne (Y := 2) rfl rfl c_5), (Or.inr ⟨(xI_ne (Y := 3) rfl rfl c_7), (Or.inr ⟨(xI_ne (Y := 4) rfl rfl c_9), (Or.inr ⟨(xI_ne (Y := 5) rfl rfl c_11), (Or.inr ⟨(xI_ne (Y := 6) rfl rfl c_13), (Or.inr ⟨(xI_ne (Y := 7) rfl rfl c_15), (Or.inr ⟨(xI_ne (Y := 8) rfl rfl c_17), (Or.inr ⟨(xI_ne (Y := 9) rfl rfl c_19), (Or.inr ⟨(xI_ne (Y := 10) rfl rfl c_21), (Or.inr ⟨(xI_ne (Y := 11) rfl rfl c_23), (Or.inl ⟨c_25, ⟨rfl, rfl⟩⟩)⟩)⟩)⟩)⟩)⟩)⟩)⟩)⟩)⟩)⟩)⟩)⟩)⟩), wd_t ht hW⟩, hS.F ht⟩) hS.2.2 dX12_about_152
  by_cases c_26 : p0 = 13
  · refine lv_tableIn (tgt := 153) hx hb dX12_about_1 (by rw [c_26]; decide) (by rw [c_26]; decide) (off := 152) (by rw [c_26]; decide) (by decide) ?_
    have c_26 : p0.toInt = 13 := xI_eq rfl rfl c_26
    refine lv_aload_n hx hb dX12_about_153 rfl (lv_at hl 0 rfl) ?_
    have b_27 : 0 ≤ (G.1 66 66).toInt ∧ (G.1 66 66).toInt ≤ 400 := bd_66_66 hB_G
    refine S_getI (v := (G.1 66 66)) (C := RX12) (T := TX12) (N := 89) hx hb hg iX12 hown hK hW kd_66 rfl 66 (lt_b rfl) (hg (Cond.fieldLink RX12 446 "SlabWalkModel" "lain" "I") m1380) (fun _ h9 => h9) rfl rfl dX12_about_154 ?_
    exact W.iret (v := (G.1 66 66)) hx hb hr (fun t ht _ => ⟨⟨(G.1 66 66), G, rfl, (Q_about_mk ⟨hB_G, hF, (Or.inr ⟨(xI_ne (Y := 0) rfl rfl c_1), (Or.inr ⟨(xI_ne (Y := 1) rfl rfl c_3), (Or.inr ⟨(xI_ne (Y := 2) rfl rfl c_5), (Or.inr ⟨(xI_ne (Y := 3) rfl rfl c_7), (Or.inr ⟨(xI_ne (Y := 4) rfl rfl c_9), (Or.inr ⟨(xI_ne (Y := 5) rfl rfl c_11), (Or.inr ⟨(xI_ne (Y := 6) rfl rfl c_13), (Or.inr ⟨(xI_ne (Y := 7) rfl rfl c_15), (Or.inr ⟨(xI_ne (Y := 8) rfl rfl c_17), (Or.inr ⟨(xI_ne (Y := 9) rfl rfl c_19), (Or.inr ⟨(xI_ne (Y := 10) rfl rfl c_21), (Or.inr ⟨(xI_ne (Y := 11) rfl rfl c_23), (Or.inr ⟨(xI_ne (Y := 12) rfl rfl c_25), (Or.inl ⟨c_26, ⟨rfl, rfl⟩⟩)⟩)⟩)⟩)⟩)⟩)⟩)⟩)⟩)⟩)⟩)⟩)⟩)⟩)⟩), wd_t ht hW⟩, hS.F ht⟩) hS.2.2 dX12_about_157
  by_cases c_28 : p0 = 14
  · refine lv_tableIn (tgt := 158) hx hb dX12_about_1 (by rw [c_28]; decide) (by rw [c_28]; decide) (off := 157) (by rw [c_28]; decide) (by decide) ?_
    have c_28 : p0.toInt = 14 := xI_eq rfl rfl c_28
    refine lv_aload_n hx hb dX12_about_158 rfl (lv_at hl 0 rfl) ?_
    refine S_calli (va_runV (As := []) (rest := []) ⟨hx, hb, hml, hown, hts⟩ (n_allSlips l D k A a z G  ) (cwV 0 hts (gd_V hgd m1955 m1957 m106 m131 m1958) rfl rfl rfl hd_X12_allSlips ⟨Nat.le_of_ble_eq_true rfl, Nat.le_of_ble_eq_true rfl⟩) (pre_W hW hB_G hK hZ hS kd_66 rfl) rfl rfl hl.1 rfl (lv_room (Nat.le_of_ble_eq_true rfl)) dX12_about_159 ⟨Nat.le_of_ble_eq_true rfl, Nat.le_of_ble_eq_true rfl⟩) hS (fun r_29 G_30 H locs hpo hW hS => ?_)
    have hX_33 : Q_allSlips G r_29 G_30 := hpo
    obtain ⟨hB_G_30, hq_31, f_34, hp_32, -⟩ := hpo
    have hF := hF.call9 hq_31 rfl rfl
    exact W.iret (v := r_29) hx hb hr (fun t ht _ => ⟨⟨r_29, G_30, rfl, (Q_about_mk ⟨hB_G_30, hF, (Or.inr ⟨(xI_ne (Y := 0) rfl rfl c_1), (Or.inr ⟨(xI_ne (Y := 1) rfl rfl c_3), (Or.inr ⟨(xI_ne (Y := 2) rfl rfl c_5), (Or.inr ⟨(xI_ne (Y := 3) rfl rfl c_7), (Or.inr ⟨(xI_ne (Y := 4) rfl rfl c_9), (Or.inr ⟨(xI_ne (Y := 5) rfl rfl c_11), (Or.inr ⟨(xI_ne (Y := 6) rfl rfl c_13), (Or.inr ⟨(xI_ne (Y := 7) rfl rfl c_15), (Or.inr ⟨(xI_ne (Y := 8) rfl rfl c_17), (Or.inr ⟨(xI_ne (Y := 9) rfl rfl c_19), (Or.inr ⟨(xI_ne (Y := 10) rfl rfl c_21), (Or.inr ⟨(xI_ne (Y := 11) rfl rfl c_23), (Or.inr ⟨(xI_ne (Y := 12) rfl rfl c_25), (Or.inr ⟨(xI_ne (Y := 13) rfl rfl c_26), (Or.inl ⟨c_28, ⟨r_29, G_30, hX_33, ⟨rfl, rfl⟩⟩⟩)⟩)⟩)⟩)⟩)⟩)⟩)⟩)⟩)⟩)⟩)⟩)⟩)⟩)⟩)⟩), wd_t ht hW⟩, hS.F ht⟩) hS.2.2 dX12_about_162
  refine lv_tableOut (tgt := 163) hx hb dX12_about_1 (tb_out (lo := 0) (hi := 14) (by have c_1 := xI_ne (Y := 0) rfl rfl c_1; have c_3 := xI_ne (Y := 1) rfl rfl c_3; have c_5 := xI_ne (Y := 2) rfl rfl c_5; have c_7 := xI_ne (Y := 3) rfl rfl c_7; have c_9 := xI_ne (Y := 4) rfl rfl c_9; have c_11 := xI_ne (Y := 5) rfl rfl c_11; have c_13 := xI_ne (Y := 6) rfl rfl c_13; have c_15 := xI_ne (Y := 7) rfl rfl c_15; have c_17 := xI_ne (Y := 8) rfl rfl c_17; have c_19 := xI_ne (Y := 9) rfl rfl c_19; have c_21 := xI_ne (Y := 10) rfl rfl c_21; have c_23 := xI_ne (Y := 11) rfl rfl c_23; have c_25 := xI_ne (Y := 12) rfl rfl c_25; have c_26 := xI_ne (Y := 13) rfl rfl c_26; have c_28 := xI_ne (Y := 14) rfl rfl c_28; omega)) (by decide) ?_
  have c_1 := xI_ne (Y := 0) rfl rfl c_1
  have c_3 := xI_ne (Y := 1) rfl rfl c_3
  have c_5 := xI_ne (Y := 2) rfl rfl c_5
  have c_7 := xI_ne (Y := 3) rfl rfl c_7
  have c_9 := xI_ne (Y := 4) rfl rfl c_9
  have c_11 := xI_ne (Y := 5) rfl rfl c_11
  have c_13 := xI_ne (Y := 6) rfl rfl c_13
  have c_15 := xI_ne (Y := 7) rfl rfl c_15
  have c_17 := xI_ne (Y := 8) rfl rfl c_17
  have c_19 := xI_ne (Y := 9) rfl rfl c_19
  have c_21 := xI_ne (Y := 10) rfl rfl c_21
  have c_23 := xI_ne (Y := 11) rfl rfl c_23
  have c_25 := xI_ne (Y := 12) rfl rfl c_25
  have c_26 := xI_ne (Y := 13) rfl rfl c_26
  have c_28 := xI_ne (Y := 14) rfl rfl c_28
  refine ic_m1 hx hb dX12_about_163 ?_
  exact W.iret (v := (-1)) hx hb hr (fun t ht _ => ⟨⟨(-1), G, rfl, (Q_about_mk ⟨hB_G, hF, (Or.inr ⟨c_1, (Or.inr ⟨c_3, (Or.inr ⟨c_5, (Or.inr ⟨c_7, (Or.inr ⟨c_9, (Or.inr ⟨c_11, (Or.inr ⟨c_13, (Or.inr ⟨c_15, (Or.inr ⟨c_17, (Or.inr ⟨c_19, (Or.inr ⟨c_21, (Or.inr ⟨c_23, (Or.inr ⟨c_25, (Or.inr ⟨c_26, (Or.inr ⟨c_28, ⟨rfl, rfl⟩⟩)⟩)⟩)⟩)⟩)⟩)⟩)⟩)⟩)⟩)⟩)⟩)⟩)⟩)⟩)⟩), wd_t ht hW⟩, hS.F ht⟩) hS.2.2 dX12_about_164
