theorem m35 : Cond.selects RX10 yX10_firstHeel yX10_firstHeel ∈ gd := gd_mem 35 (by decide +kernel) (by decide +kernel)
theorem m1044 : Cond.methodLink RX10 82 Lib.Math.max.name ∈ gd := gdk_4 208 rfl rfl
theorem m1045 : Cond.methodLink RX10 78 yX10_firstHeel ∈ gd := gdk_4 209 rfl rfl
theorem m1047 : Cond.instanceMethod yX10_firstHeel ∈ gd := gdk_4 211 rfl rfl
theorem m1048 : Cond.code yX10_firstHeel cX10_firstHeel 7 (some .int) ∈ gd := gdk_4 212 rfl rfl
theorem dX10_comesEvenly_0 : decode cX10_comesEvenly 0 = .ok (.aload_n 0, 1) := dq_of (by decide +kernel)
theorem dX10_comesEvenly_1 : decode cX10_comesEvenly 1 = .ok (.aload_n 1, 1) := dq_of (by decide +kernel)
theorem dX10_comesEvenly_2 : decode cX10_comesEvenly 2 = .ok (.iload_n 2, 1) := dq_of (by decide +kernel)
theorem dX10_comesEvenly_3 : decode cX10_comesEvenly 3 = .ok (.iload_n 2, 1) := dq_of (by decide +kernel)
theorem dX10_comesEvenly_4 : decode cX10_comesEvenly 4 = .ok (.invokevirtual 78, 3) := dq_of (by decide +kernel)
theorem dX10_comesEvenly_7 : decode cX10_comesEvenly 7 = .ok (.aload_n 1, 1) := dq_of (by decide +kernel)
theorem dX10_comesEvenly_8 : decode cX10_comesEvenly 8 = .ok (.getfield 64, 3) := dq_of (by decide +kernel)
theorem dX10_comesEvenly_11 : decode cX10_comesEvenly 11 = .ok (.if_icmp .ge 7, 3) := dq_of (by decide +kernel)
theorem dX10_comesEvenly_14 : decode cX10_comesEvenly 14 = .ok (.iconst 1, 1) := dq_of (by decide +kernel)
theorem dX10_comesEvenly_15 : decode cX10_comesEvenly 15 = .ok (.goto 4, 3) := dq_of (by decide +kernel)
theorem dX10_comesEvenly_18 : decode cX10_comesEvenly 18 = .ok (.iconst 0, 1) := dq_of (by decide +kernel)
theorem dX10_comesEvenly_19 : decode cX10_comesEvenly 19 = .ok (.ireturn, 1) := dq_of (by decide +kernel)
theorem dX10_mostEven_0 : decode cX10_mostEven 0 = .ok (.aload_n 1, 1) := dq_of (by decide +kernel)
theorem dX10_mostEven_1 : decode cX10_mostEven 1 = .ok (.getfield 64, 3) := dq_of (by decide +kernel)
theorem dX10_mostEven_4 : decode cX10_mostEven 4 = .ok (.aload_n 1, 1) := dq_of (by decide +kernel)
theorem dX10_mostEven_5 : decode cX10_mostEven 5 = .ok (.getfield 58, 3) := dq_of (by decide +kernel)
theorem dX10_mostEven_8 : decode cX10_mostEven 8 = .ok (.invokestatic 49, 3) := dq_of (by decide +kernel)
theorem dX10_mostEven_11 : decode cX10_mostEven 11 = .ok (.istore_n 3, 1) := dq_of (by decide +kernel)
theorem dX10_mostEven_12 : decode cX10_mostEven 12 = .ok (.ldc 44, 2) := dq_of (by decide +kernel)
theorem dX10_mostEven_14 : decode cX10_mostEven 14 = .ok (.istore 4, 2) := dq_of (by decide +kernel)
theorem dX10_mostEven_16 : decode cX10_mostEven 16 = .ok (.iconst (-1), 1) := dq_of (by decide +kernel)
theorem dX10_mostEven_17 : decode cX10_mostEven 17 = .ok (.istore 5, 2) := dq_of (by decide +kernel)
theorem dX10_mostEven_19 : decode cX10_mostEven 19 = .ok (.aload_n 1, 1) := dq_of (by decide +kernel)
theorem dX10_mostEven_20 : decode cX10_mostEven 20 = .ok (.getfield 61, 3) := dq_of (by decide +kernel)
theorem dX10_mostEven_23 : decode cX10_mostEven 23 = .ok (.istore 6, 2) := dq_of (by decide +kernel)
theorem dX10_mostEven_25 : decode cX10_mostEven 25 = .ok (.aload_n 1, 1) := dq_of (by decide +kernel)
theorem dX10_mostEven_26 : decode cX10_mostEven 26 = .ok (.getfield 61, 3) := dq_of (by decide +kernel)
theorem dX10_mostEven_29 : decode cX10_mostEven 29 = .ok (.istore 7, 2) := dq_of (by decide +kernel)
theorem dX10_mostEven_31 : decode cX10_mostEven 31 = .ok (.iload 7, 2) := dq_of (by decide +kernel)
theorem dX10_mostEven_33 : decode cX10_mostEven 33 = .ok (.aload_n 1, 1) := dq_of (by decide +kernel)
theorem dX10_mostEven_34 : decode cX10_mostEven 34 = .ok (.getfield 64, 3) := dq_of (by decide +kernel)
theorem dX10_mostEven_37 : decode cX10_mostEven 37 = .ok (.if_icmp .gt 76, 3) := dq_of (by decide +kernel)
theorem dX10_mostEven_40 : decode cX10_mostEven 40 = .ok (.iload 6, 2) := dq_of (by decide +kernel)
theorem dX10_mostEven_42 : decode cX10_mostEven 42 = .ok (.iload 7, 2) := dq_of (by decide +kernel)
theorem dX10_mostEven_44 : decode cX10_mostEven 44 = .ok (.invokestatic 82, 3) := dq_of (by decide +kernel)
theorem dX10_mostEven_47 : decode cX10_mostEven 47 = .ok (.istore 6, 2) := dq_of (by decide +kernel)
theorem dX10_mostEven_49 : decode cX10_mostEven 49 = .ok (.iload 6, 2) := dq_of (by decide +kernel)
theorem dX10_mostEven_51 : decode cX10_mostEven 51 = .ok (.aload_n 1, 1) := dq_of (by decide +kernel)
theorem dX10_mostEven_52 : decode cX10_mostEven 52 = .ok (.getfield 64, 3) := dq_of (by decide +kernel)
theorem dX10_mostEven_55 : decode cX10_mostEven 55 = .ok (.if_icmp .gt 22, 3) := dq_of (by decide +kernel)
theorem dX10_mostEven_58 : decode cX10_mostEven 58 = .ok (.aload_n 0, 1) := dq_of (by decide +kernel)
theorem dX10_mostEven_59 : decode cX10_mostEven 59 = .ok (.aload_n 1, 1) := dq_of (by decide +kernel)
theorem dX10_mostEven_60 : decode cX10_mostEven 60 = .ok (.iload 7, 2) := dq_of (by decide +kernel)
theorem dX10_mostEven_62 : decode cX10_mostEven 62 = .ok (.iload 6, 2) := dq_of (by decide +kernel)
theorem dX10_mostEven_64 : decode cX10_mostEven 64 = .ok (.invokevirtual 78, 3) := dq_of (by decide +kernel)
theorem dX10_mostEven_67 : decode cX10_mostEven 67 = .ok (.iload_n 3, 1) := dq_of (by decide +kernel)
theorem dX10_mostEven_68 : decode cX10_mostEven 68 = .ok (.if_icmp .lt 9, 3) := dq_of (by decide +kernel)
theorem dX10_mostEven_71 : decode cX10_mostEven 71 = .ok (.iinc 6 1, 3) := dq_of (by decide +kernel)
theorem dX10_mostEven_74 : decode cX10_mostEven 74 = .ok (.goto (-25), 3) := dq_of (by decide +kernel)
theorem dX10_mostEven_77 : decode cX10_mostEven 77 = .ok (.iload 6, 2) := dq_of (by decide +kernel)
theorem dX10_mostEven_79 : decode cX10_mostEven 79 = .ok (.aload_n 1, 1) := dq_of (by decide +kernel)
theorem dX10_mostEven_80 : decode cX10_mostEven 80 = .ok (.getfield 64, 3) := dq_of (by decide +kernel)
theorem dX10_mostEven_83 : decode cX10_mostEven 83 = .ok (.if_icmp .gt 24, 3) := dq_of (by decide +kernel)
theorem dX10_mostEven_86 : decode cX10_mostEven 86 = .ok (.iload 6, 2) := dq_of (by decide +kernel)
theorem dX10_mostEven_88 : decode cX10_mostEven 88 = .ok (.iload 7, 2) := dq_of (by decide +kernel)
theorem dX10_mostEven_90 : decode cX10_mostEven 90 = .ok (.isub, 1) := dq_of (by decide +kernel)
theorem dX10_mostEven_91 : decode cX10_mostEven 91 = .ok (.iload 4, 2) := dq_of (by decide +kernel)
theorem dX10_mostEven_93 : decode cX10_mostEven 93 = .ok (.if_icmp .ge 14, 3) := dq_of (by decide +kernel)
theorem dX10_mostEven_96 : decode cX10_mostEven 96 = .ok (.iload 6, 2) := dq_of (by decide +kernel)
theorem dX10_mostEven_98 : decode cX10_mostEven 98 = .ok (.iload 7, 2) := dq_of (by decide +kernel)
theorem dX10_mostEven_100 : decode cX10_mostEven 100 = .ok (.isub, 1) := dq_of (by decide +kernel)
theorem dX10_mostEven_101 : decode cX10_mostEven 101 = .ok (.istore 4, 2) := dq_of (by decide +kernel)
theorem dX10_mostEven_103 : decode cX10_mostEven 103 = .ok (.iload 7, 2) := dq_of (by decide +kernel)
theorem dX10_mostEven_105 : decode cX10_mostEven 105 = .ok (.istore 5, 2) := dq_of (by decide +kernel)
theorem dX10_mostEven_107 : decode cX10_mostEven 107 = .ok (.iinc 7 1, 3) := dq_of (by decide +kernel)
theorem dX10_mostEven_110 : decode cX10_mostEven 110 = .ok (.goto (-79), 3) := dq_of (by decide +kernel)
theorem dX10_mostEven_113 : decode cX10_mostEven 113 = .ok (.iload 5, 2) := dq_of (by decide +kernel)
theorem dX10_mostEven_115 : decode cX10_mostEven 115 = .ok (.iconst (-1), 1) := dq_of (by decide +kernel)
theorem dX10_mostEven_116 : decode cX10_mostEven 116 = .ok (.if_icmp .eq 8, 3) := dq_of (by decide +kernel)
theorem dX10_mostEven_119 : decode cX10_mostEven 119 = .ok (.iload_n 2, 1) := dq_of (by decide +kernel)
theorem dX10_mostEven_120 : decode cX10_mostEven 120 = .ok (.iconst 1, 1) := dq_of (by decide +kernel)
theorem dX10_mostEven_121 : decode cX10_mostEven 121 = .ok (.if_icmp .ne 8, 3) := dq_of (by decide +kernel)
theorem dX10_mostEven_124 : decode cX10_mostEven 124 = .ok (.iload 5, 2) := dq_of (by decide +kernel)
theorem dX10_mostEven_126 : decode cX10_mostEven 126 = .ok (.goto 5, 3) := dq_of (by decide +kernel)
theorem dX10_mostEven_129 : decode cX10_mostEven 129 = .ok (.iload 4, 2) := dq_of (by decide +kernel)
theorem dX10_mostEven_131 : decode cX10_mostEven 131 = .ok (.ireturn, 1) := dq_of (by decide +kernel)
set_option maxHeartbeats 4000000 in
set_option maxRecDepth 100000 in
theorem k_tEvenly (l : Launch) (D : va_G) (k : KT) (A : Nat → Prop) (a : Nat → Nat) (z : SK) (G : GS) (p0 : Int32) (ha_p0 : 0 ≤ p0.toInt ∧ p0.toInt ≤ 60) (hci : (G.1 7 6).toInt ≤ 399 ∧ (G.1 7 3).toInt ≤ (G.1 7 4).toInt ∧ ((G.1 7 7).toInt ≤ 0 ∨ (G.1 7 7).toInt + (G.1 7 4).toInt ≤ (G.1 7 6).toInt + 1)) (hs : p0.toInt ≤ (G.1 7 4).toInt) : Met l yX10_comesEvenly (WS yX10_comesEvenly cX10_comesEvenly 3 (some .boolean)) ({ frames := 1, cells := 0, slots := 0, locals := 26 }) (va_Pc [.ref (a 8), .ref (a 7), .int p0] (cW D k A a z G)) (va_Qi (fun (r : Int32) (G1 : GS) => P_tEvenly p0 G r G1) (fun (G1 : GS) t => Wd D k A a G1 t.heap) A) 0 0 A := by
  refine Met.ofW (cc := cX10_comesEvenly) (maxL := 3) (ret := (some .boolean)) (by decide) rfl ?_
  intro p e s m args below meth c s₁ B hml hv
  obtain ⟨rfl, hW, hB_G, hK, hZ⟩ := hv
  have hx := B.exec
  have hb := B.bytes
  have hr := B.returns
  have hts := atoms_spec (ws := WS yX10_comesEvenly cX10_comesEvenly 3 (some .boolean)) B.pre
  have hgd : ∀ w ∈ gd, w ∈ WS yX10_comesEvenly cX10_comesEvenly 3 (some .boolean) := fun w h => List.mem_cons_of_mem _ h
  have hg : ∀ w ∈ gd, w.before _ s = true := fun w h => hts w (hgd w h)
  have hown : s.vm.findClass RX10 = some m.cls := findClass_of_methodNamed B.named
  have hS : va_S A s.heap s.heap [] := va_S.rf
  have hF : Fr [42] [] G G := Fr.rf
  have hl := lv_entry ([.ref (a 8), .ref (a 7), .int p0]) (n := 3) (Nat.le_of_ble_eq_true rfl)
  rw [lg_entry_eq]
  generalize (lg_sl ([.ref (a 8), .ref (a 7), .int p0]) ++ List.replicate (3 - (lg_sl ([.ref (a 8), .ref (a 7), .int p0])).length) Slot.unset).toArray = ls at hl ⊢
  have hl : lv_has ls 3 [(0, .ref (a 8)), (1, .ref (a 7)), (2, .int p0)] := hl
  have b_1 : (-1) ≤ (G.1 7 6).toInt ∧ (G.1 7 6).toInt ≤ 400 := bd_7_6 hB_G
  refine lv_aload_n hx hb dX10_comesEvenly_0 rfl (lv_at hl 0 rfl) ?_
  refine lv_aload_n hx hb dX10_comesEvenly_1 rfl (lv_at hl 1 rfl) ?_
  refine lv_iload_n hx hb dX10_comesEvenly_2 rfl (lv_at hl 2 rfl) ?_
  refine lv_iload_n hx hb dX10_comesEvenly_3 rfl (lv_at hl 2 rfl) ?_
  have b_2 : 0 ≤ (G.1 7 3).toInt ∧ (G.1 7 3).toInt ≤ 60 := bd_7_3 hB_G
  have b_3 : 0 ≤ (G.1 7 4).toInt ∧ (G.1 7 4).toInt ≤ 60 := bd_7_4 hB_G
  have b_4 : 0 ≤ (G.1 7 7).toInt ∧ (G.1 7 7).toInt ≤ 400 := bd_7_7 hB_G
  refine S_calli (va_runV (As := [.ref (a 7), .int p0, .int p0]) (rest := []) ⟨hx, hb, hml, hown, hts⟩ (k_tFirst l D k A a z G p0 p0 ⟨by omega, by omega⟩ ⟨by omega, by omega⟩ (by omega) (by omega)) (cwV 3 hts (gd_V hgd m1045 m1047 m35 m124 m1048) rfl rfl rfl hd_X10_firstHeel ⟨Nat.le_of_ble_eq_true rfl, Nat.le_of_ble_eq_true rfl⟩) (pre_V hW hB_G hK hZ hS kd_8 rfl) rfl rfl hl.1 rfl (lv_room (Nat.le_of_ble_eq_true rfl)) dX10_comesEvenly_4 ⟨Nat.le_of_ble_eq_true rfl, Nat.le_of_ble_eq_true rfl⟩) hS (fun r_5 G_6 H locs hpo hW hS => ?_)
  have hX_9 : P_tFirst p0 p0 G r_5 G_6 := hpo
  obtain ⟨hB_G_6, hq_7, -⟩ := hpo
  have hF := hF.call9 hq_7 rfl rfl
  refine lv_aload_n hx hb dX10_comesEvenly_7 rfl (lv_at hl 1 rfl) ?_
  refine S_getI (v := (G.1 7 4)) (C := RX0) (T := TX0) (N := 8) hx hb hg iX0 hown hK hW kd_7 rfl 4 (lt_b rfl) (hg (Cond.fieldLink RX10 64 "SlabWalk$Course" "most" "I") m383) (fun _ h9 => h9) rfl ((hq_7.i9 7 4 rfl rfl).trans (rfl)) dX10_comesEvenly_8 ?_
  refine lv_icmp_ge (tgt := 18) hx hb dX10_comesEvenly_11 rfl (fun c_10 => ?_) (fun c_10 => ?_)
  · have c_10 : (G.1 7 4).toInt ≤ r_5.toInt := xI_le rfl rfl c_10
    refine ic_0 hx hb dX10_comesEvenly_18 ?_
    exact W.zret (v := 0) hx hb hr (by decide) (fun t ht _ => ⟨⟨0, G_6, rfl, (P_tEvenly_mk ⟨hB_G_6, hF, ⟨by decide, by decide⟩, ⟨r_5, G_6, hX_9, (Or.inl ⟨c_10, ⟨rfl, rfl⟩⟩)⟩⟩), wd_t ht hW⟩, hS.F ht⟩) hS.2.2 dX10_comesEvenly_19
  · have c_10 : r_5.toInt < (G.1 7 4).toInt := xI_nle rfl rfl c_10
    refine ic_1 hx hb dX10_comesEvenly_14 ?_
    refine lv_goto (tgt := 19) hx hb dX10_comesEvenly_15 rfl ?_
    exact W.zret (v := 1) hx hb hr (by decide) (fun t ht _ => ⟨⟨1, G_6, rfl, (P_tEvenly_mk ⟨hB_G_6, hF, ⟨by decide, by decide⟩, ⟨r_5, G_6, hX_9, (Or.inr ⟨c_10, ⟨rfl, rfl⟩⟩)⟩⟩), wd_t ht hW⟩, hS.F ht⟩) hS.2.2 dX10_comesEvenly_19

set_option maxHeartbeats 4000000 in
set_option maxRecDepth 100000 in
theorem k_tMost (l : Launch) (D : va_G) (k : KT) (A : Nat → Prop) (a : Nat → Nat) (z : SK) (G : GS) (p0 : Int32) (hci : (G.1 7 6).toInt ≤ 399 ∧ (G.1 7 3).toInt ≤ (G.1 7 4).toInt ∧ ((G.1 7 7).toInt ≤ 0 ∨ (G.1 7 7).toInt + (G.1 7 4).toInt ≤ (G.1 7 6).toInt + 1)) : Met l yX10_mostEven (WS yX10_mostEven cX10_mostEven 8 (some .int)) ({ frames := 1, cells := 0, slots := 0, locals := 26 }) (va_Pc [.ref (a 8), .ref (a 7), .int p0] (cW D k A a z G)) (va_Qi (fun (r : Int32) (G1 : GS) => P_tMost p0 G r G1) (fun (G1 : GS) t => Wd D k A a G1 t.heap) A) 0 0 A := by
  refine Met.ofW (cc := cX10_mostEven) (maxL := 8) (ret := (some .int)) (by decide) rfl ?_
  intro p e s m args below meth c s₁ B hml hv
  obtain ⟨rfl, hW, hB_G, hK, hZ⟩ := hv
  have hx := B.exec
  have hb := B.bytes
  have hr := B.returns
  have hts := atoms_spec (ws := WS yX10_mostEven cX10_mostEven 8 (some .int)) B.pre
  have hgd : ∀ w ∈ gd, w ∈ WS yX10_mostEven cX10_mostEven 8 (some .int) := fun w h => List.mem_cons_of_mem _ h
  have hg : ∀ w ∈ gd, w.before _ s = true := fun w h => hts w (hgd w h)
  have hown : s.vm.findClass RX10 = some m.cls := findClass_of_methodNamed B.named
  have hS : va_S A s.heap s.heap [] := va_S.rf
  have hF : Fr [42] [] G G := Fr.rf
  have hl := lv_entry ([.ref (a 8), .ref (a 7), .int p0]) (n := 8) (Nat.le_of_ble_eq_true rfl)
  rw [lg_entry_eq]
  generalize (lg_sl ([.ref (a 8), .ref (a 7), .int p0]) ++ List.replicate (8 - (lg_sl ([.ref (a 8), .ref (a 7), .int p0])).length) Slot.unset).toArray = ls at hl ⊢
  have hl : lv_has ls 8 [(0, .ref (a 8)), (1, .ref (a 7)), (2, .int p0)] := hl
  have b_1 : (-1) ≤ (G.1 7 6).toInt ∧ (G.1 7 6).toInt ≤ 400 := bd_7_6 hB_G
  refine lv_aload_n hx hb dX10_mostEven_0 rfl (lv_at hl 1 rfl) ?_
  have b_2 : 0 ≤ (G.1 7 4).toInt ∧ (G.1 7 4).toInt ≤ 60 := bd_7_4 hB_G
  refine S_getI (v := (G.1 7 4)) (C := RX0) (T := TX0) (N := 8) hx hb hg iX0 hown hK hW kd_7 rfl 4 (lt_b rfl) (hg (Cond.fieldLink RX10 64 "SlabWalk$Course" "most" "I") m383) (fun _ h9 => h9) rfl rfl dX10_mostEven_1 ?_
  refine lv_aload_n hx hb dX10_mostEven_4 rfl (lv_at hl 1 rfl) ?_
  have b_3 : 0 ≤ (G.1 7 7).toInt ∧ (G.1 7 7).toInt ≤ 400 := bd_7_7 hB_G
  refine S_getI (v := (G.1 7 7)) (C := RX0) (T := TX0) (N := 8) hx hb hg iX0 hown hK hW kd_7 rfl 7 (lt_b rfl) (hg (Cond.fieldLink RX10 58 "SlabWalk$Course" "end" "I") m394) (fun _ h9 => h9) rfl rfl dX10_mostEven_5 ?_
  refine va_mmin hx hb (by rw [hml]; exact hl.1.symm) hown (hg (Cond.methodLink RX10 49 Lib.Math.min.name) m1001) (hg (Cond.static Lib.Math.min.name) m636) (hg (Cond.initialized "java/lang/Math") m132) (hg (Cond.code Lib.Math.min.name Lib.Math.min.code 2 (some .int)) m637) (Nat.le_of_ble_eq_true rfl) (Nat.le_of_ble_eq_true rfl) (Nat.le_of_ble_eq_true rfl) (Nat.le_of_ble_eq_true rfl) dX10_mostEven_8 ?_
  refine lv_topi (fun y_4 ey_4 => ?_)
  have ty_4 := xI_min (X := (G.1 7 4).toInt) (Y := (G.1 7 7).toInt) rfl rfl ey_4
  refine lv_istore_n (lv' := [(3, .int y_4), (0, .ref (a 8)), (1, .ref (a 7)), (2, .int p0)]) hx hb dX10_mostEven_11 rfl hl (lt_b rfl) rfl (fun ls hl => ?_)
  refine lv_ldc (v := 1000000) hx hb hown (hg (Cond.constant RX10 44 1000000) m997) dX10_mostEven_12 ?_
  refine lv_istore (lv' := [(4, .int 1000000), (3, .int y_4), (0, .ref (a 8)), (1, .ref (a 7)), (2, .int p0)]) hx hb dX10_mostEven_14 hl (lt_b rfl) rfl (fun ls hl => ?_)
  refine ic_m1 hx hb dX10_mostEven_16 ?_
  refine lv_istore (lv' := [(5, .int (-1)), (4, .int 1000000), (3, .int y_4), (0, .ref (a 8)), (1, .ref (a 7)), (2, .int p0)]) hx hb dX10_mostEven_17 hl (lt_b rfl) rfl (fun ls hl => ?_)
  refine lv_aload_n hx hb dX10_mostEven_19 rfl (lv_at hl 4 rfl) ?_
  have b_5 : 0 ≤ (G.1 7 3).toInt ∧ (G.1 7 3).toInt ≤ 60 := bd_7_3 hB_G
  refine S_getI (v := (G.1 7 3)) (C := RX0) (T := TX0) (N := 8) hx hb hg iX0 hown hK hW kd_7 rfl 3 (lt_b rfl) (hg (Cond.fieldLink RX10 61 "SlabWalk$Course" "least" "I") m378) (fun _ h9 => h9) rfl rfl dX10_mostEven_20 ?_
  refine lv_istore (lv' := [(6, .int (G.1 7 3)), (5, .int (-1)), (4, .int 1000000), (3, .int y_4), (0, .ref (a 8)), (1, .ref (a 7)), (2, .int p0)]) hx hb dX10_mostEven_23 hl (lt_b rfl) rfl (fun ls hl => ?_)
  refine lv_aload_n hx hb dX10_mostEven_25 rfl (lv_at hl 5 rfl) ?_
  refine S_getI (v := (G.1 7 3)) (C := RX0) (T := TX0) (N := 8) hx hb hg iX0 hown hK hW kd_7 rfl 3 (lt_b rfl) (hg (Cond.fieldLink RX10 61 "SlabWalk$Course" "least" "I") m378) (fun _ h9 => h9) rfl rfl dX10_mostEven_26 ?_
  refine lv_istore (lv' := [(7, .int (G.1 7 3)), (6, .int (G.1 7 3)), (5, .int (-1)), (4, .int 1000000), (3, .int y_4), (0, .ref (a 8)), (1, .ref (a 7)), (2, .int p0)]) hx hb dX10_mostEven_29 hl (lt_b rfl) rfl (fun ls hl => ?_)
  have qc_15 : ((-1) : Int32).toInt = (-1) := rfl
  have qc_16 : (1000000 : Int32).toInt = 1000000 := rfl
  refine loop_N (Inv := fun n H locs ls => ∃ (G_6 : GS) (x_10 : Int32) (x_11 : Int32) (x_12 : Int32) (x_13 : Int32), (n : Int) = 61 - x_10.toInt ∧ (0 ≤ x_10.toInt ∧ x_10.toInt ≤ 61) ∧ (0 ≤ x_11.toInt ∧ x_11.toInt ≤ 63) ∧ ((-1) ≤ x_12.toInt ∧ x_12.toInt ≤ 60) ∧ (x_13.toInt ≤ 1000000) ∧ Rc (St_k_tMost_1 y_4 G) ((G.1 7 3), (G.1 7 3), (-1), 1000000, G) (x_10, x_11, x_12, x_13, G_6) ∧ Wd D k A a G_6 H ∧ Bd G_6 ∧ Fr [42] [] G G_6 ∧ Fr [42] [] G G_6 ∧ va_S A s.heap H locs ∧ lv_has ls 8 [(7, .int x_10), (6, .int x_11), (5, .int x_12), (4, .int x_13), (3, .int y_4), (0, .ref (a 8)), (1, .ref (a 7)), (2, .int p0)]) (fun n_9 H locs ls ih_8 hI => ?_) (61 - (G.1 7 3).toInt : Int).toNat ⟨G, (G.1 7 3), (G.1 7 3), (-1), 1000000, (Int.toNat_of_nonneg (by omega)), ⟨by omega, by omega⟩, ⟨by omega, by omega⟩, ⟨by omega, by omega⟩, (by omega), Rc.rf, hW, hB_G, hF, Fr.rf, hS, lv_sub hl [0, 1, 2, 3, 4, 5, 6, 7] rfl⟩
  obtain ⟨G_6, x_10, x_11, x_12, x_13, hn_21, f_17, f_18, f_19, f_20, hX_14, hW, hB_G_6, hF, hq_7, hS, hl⟩ := hI
  refine lv_iload hx hb dX10_mostEven_31 (lv_at hl 0 rfl) ?_
  refine lv_aload_n hx hb dX10_mostEven_33 rfl (lv_at hl 6 rfl) ?_
  refine S_getI (v := (G.1 7 4)) (C := RX0) (T := TX0) (N := 8) hx hb hg iX0 hown hK hW kd_7 rfl 4 (lt_b rfl) (hg (Cond.fieldLink RX10 64 "SlabWalk$Course" "most" "I") m383) (fun _ h9 => h9) rfl ((hq_7.i9 7 4 rfl rfl).trans (rfl)) dX10_mostEven_34 ?_
  refine lv_icmp_gt (tgt := 113) hx hb dX10_mostEven_37 rfl (fun c_22 => ?_) (fun c_22 => ?_)
  · have c_22 : (G.1 7 4).toInt < x_10.toInt := xI_lt rfl rfl c_22
    refine lv_iload hx hb dX10_mostEven_113 (lv_at hl 2 rfl) ?_
    refine ic_m1 hx hb dX10_mostEven_115 ?_
    refine lv_icmp_eq (tgt := 124) hx hb dX10_mostEven_116 rfl (fun c_23 => ?_) (fun c_23 => ?_)
    · have c_23 : x_12.toInt = (-1) := xI_eq rfl rfl c_23
      refine lv_iload hx hb dX10_mostEven_124 (lv_at hl 2 rfl) ?_
      refine lv_goto (tgt := 131) hx hb dX10_mostEven_126 rfl ?_
      exact W.iret (v := x_12) hx hb hr (fun t ht _ => ⟨⟨x_12, G_6, rfl, (P_tMost_mk ⟨hB_G_6, hF, ⟨y_4, ty_4, ⟨x_10, x_11, x_12, x_13, G_6, hX_14, f_17, f_18, f_19, f_20, hB_G_6, hq_7, ⟨c_22, (Or.inl ⟨c_23, ⟨rfl, rfl⟩⟩)⟩⟩⟩⟩), wd_t ht hW⟩, hS.F ht⟩) hS.2.2 dX10_mostEven_131
    · have c_23 : x_12.toInt ≠ (-1) := xI_ne rfl rfl c_23
      refine lv_iload_n hx hb dX10_mostEven_119 rfl (lv_at hl 7 rfl) ?_
      refine ic_1 hx hb dX10_mostEven_120 ?_
      refine lv_icmp_ne (tgt := 129) hx hb dX10_mostEven_121 rfl (fun c_24 => ?_) (fun c_24 => ?_)
      · have c_24 : p0.toInt ≠ 1 := xI_ne rfl rfl c_24
        refine lv_iload hx hb dX10_mostEven_129 (lv_at hl 3 rfl) ?_
        exact W.iret (v := x_13) hx hb hr (fun t ht _ => ⟨⟨x_13, G_6, rfl, (P_tMost_mk ⟨hB_G_6, hF, ⟨y_4, ty_4, ⟨x_10, x_11, x_12, x_13, G_6, hX_14, f_17, f_18, f_19, f_20, hB_G_6, hq_7, ⟨c_22, (Or.inr ⟨c_23, (Or.inr ⟨c_24, ⟨rfl, rfl⟩⟩)⟩)⟩⟩⟩⟩), wd_t ht hW⟩, hS.F ht⟩) hS.2.2 dX10_mostEven_131
      · have c_24 : p0.toInt = 1 := xI_eq rfl rfl c_24
        refine lv_iload hx hb dX10_mostEven_124 (lv_at hl 2 rfl) ?_
        refine lv_goto (tgt := 131) hx hb dX10_mostEven_126 rfl ?_
        exact W.iret (v := x_12) hx hb hr (fun t ht _ => ⟨⟨x_12, G_6, rfl, (P_tMost_mk ⟨hB_G_6, hF, ⟨y_4, ty_4, ⟨x_10, x_11, x_12, x_13, G_6, hX_14, f_17, f_18, f_19, f_20, hB_G_6, hq_7, ⟨c_22, (Or.inr ⟨c_23, (Or.inl ⟨c_24, ⟨rfl, rfl⟩⟩)⟩)⟩⟩⟩⟩), wd_t ht hW⟩, hS.F ht⟩) hS.2.2 dX10_mostEven_131
  · have c_22 : x_10.toInt ≤ (G.1 7 4).toInt := xI_nlt rfl rfl c_22
    refine lv_iload hx hb dX10_mostEven_40 (lv_at hl 1 rfl) ?_
    refine lv_iload hx hb dX10_mostEven_42 (lv_at hl 0 rfl) ?_
    refine va_mmax hx hb (by rw [hml]; exact hl.1.symm) hown (hg (Cond.methodLink RX10 82 Lib.Math.max.name) m1044) (hg (Cond.static Lib.Math.max.name) m728) (hg (Cond.initialized "java/lang/Math") m132) (hg (Cond.code Lib.Math.max.name Lib.Math.max.code 2 (some .int)) m729) (Nat.le_of_ble_eq_true rfl) (Nat.le_of_ble_eq_true rfl) (Nat.le_of_ble_eq_true rfl) (Nat.le_of_ble_eq_true rfl) dX10_mostEven_44 ?_
    refine lv_topi (fun y_25 ey_25 => ?_)
    have ty_25 := xI_max (X := x_11.toInt) (Y := x_10.toInt) rfl rfl ey_25
    refine lv_istore (lv' := [(6, .int y_25), (7, .int x_10), (5, .int x_12), (4, .int x_13), (3, .int y_4), (0, .ref (a 8)), (1, .ref (a 7)), (2, .int p0)]) hx hb dX10_mostEven_47 hl (lt_b rfl) rfl (fun ls hl => ?_)
    refine loop_N (Inv := fun n H locs ls => ∃ (G_26 : GS) (x_30 : Int32), (n : Int) = 63 - x_30.toInt ∧ (0 ≤ x_30.toInt ∧ x_30.toInt ≤ 63) ∧ Rc (St_k_tMost_2 y_4 x_10 G) (y_25, G_6) (x_30, G_26) ∧ Wd D k A a G_26 H ∧ Bd G_26 ∧ Fr [42] [] G G_26 ∧ Fr [42] [] G_6 G_26 ∧ va_S A s.heap H locs ∧ lv_has ls 8 [(6, .int x_30), (7, .int x_10), (5, .int x_12), (4, .int x_13), (3, .int y_4), (0, .ref (a 8)), (1, .ref (a 7)), (2, .int p0)]) (fun n_29 H locs ls ih_28 hI => ?_) (63 - y_25.toInt : Int).toNat ⟨G_6, y_25, (Int.toNat_of_nonneg (by omega)), ⟨by omega, by omega⟩, Rc.rf, hW, hB_G_6, hF, Fr.rf, hS, lv_sub hl [0, 1, 2, 3, 4, 5, 6, 7] rfl⟩
    obtain ⟨G_26, x_30, hn_33, f_32, hX_31, hW, hB_G_26, hF, hq_27, hS, hl⟩ := hI
    refine lv_iload hx hb dX10_mostEven_49 (lv_at hl 0 rfl) ?_
    refine lv_aload_n hx hb dX10_mostEven_51 rfl (lv_at hl 6 rfl) ?_
    refine S_getI (v := (G.1 7 4)) (C := RX0) (T := TX0) (N := 8) hx hb hg iX0 hown hK hW kd_7 rfl 4 (lt_b rfl) (hg (Cond.fieldLink RX10 64 "SlabWalk$Course" "most" "I") m383) (fun _ h9 => h9) rfl ((hq_27.i9 7 4 rfl rfl).trans ((hq_7.i9 7 4 rfl rfl).trans (rfl))) dX10_mostEven_52 ?_
    refine W.cut (σ := Unit) (pcJ := 77) (J := fun y H locs ls => ∃ (G_42 : GS), Jn_k_tMost_3 y_4 x_10 x_30 G G_26 G_42 ∧ Wd D k A a G_42 H ∧ Bd G_42 ∧ Fr [42] [] G G_42 ∧ Fr [42] [] G_26 G_42 ∧ va_S A s.heap H locs ∧ lv_has ls 8 [(6, .int x_30), (7, .int x_10), (5, .int x_12), (4, .int x_13), (3, .int y_4), (0, .ref (a 8)), (1, .ref (a 7)), (2, .int p0)]) (stJ := fun _ => []) ?_ (fun hJ_43 => ?_)
    · intro y H locs ls hI
      obtain ⟨G_42, hX_45, hW, hB_G_42, hF, hq_44, hS, hl⟩ := hI
      refine lv_iload hx hb dX10_mostEven_77 (lv_at hl 0 rfl) ?_
      refine lv_aload_n hx hb dX10_mostEven_79 rfl (lv_at hl 6 rfl) ?_
      refine S_getI (v := (G.1 7 4)) (C := RX0) (T := TX0) (N := 8) hx hb hg iX0 hown hK hW kd_7 rfl 4 (lt_b rfl) (hg (Cond.fieldLink RX10 64 "SlabWalk$Course" "most" "I") m383) (fun _ h9 => h9) rfl ((hq_44.i9 7 4 rfl rfl).trans ((hq_27.i9 7 4 rfl rfl).trans ((hq_7.i9 7 4 rfl rfl).trans (rfl)))) dX10_mostEven_80 ?_
      refine lv_icmp_gt (tgt := 107) hx hb dX10_mostEven_83 rfl (fun c_46 => ?_) (fun c_46 => ?_)
      · have c_46 : (G.1 7 4).toInt < x_30.toInt := xI_lt rfl rfl c_46
        obtain ⟨y_47, ey_47⟩ : ∃ q, q = x_10 + 1 := ⟨_, rfl⟩
        have ty_47 : y_47.toInt = x_10.toInt + 1 := xI_add rfl rfl ey_47 (by omega) (by omega)
        refine lv_iinc (v := y_47) (lv' := [(7, .int y_47), (6, .int x_30), (5, .int x_12), (4, .int x_13), (3, .int y_4), (0, .ref (a 8)), (1, .ref (a 7)), (2, .int p0)]) hx hb dX10_mostEven_107 hl (k := 1) rfl (by rw [ey_47]; rfl) (lt_b rfl) rfl (fun ls hl => ?_)
        refine lv_goto (tgt := 31) hx hb dX10_mostEven_110 rfl ?_
        exact ih_8 (61 - y_47.toInt : Int).toNat (by omega) _ _ _ ⟨G_42, y_47, x_30, x_12, x_13, (Int.toNat_of_nonneg (by omega)), ⟨by omega, by omega⟩, ⟨by omega, by omega⟩, ⟨by omega, by omega⟩, (by omega), (hX_14.st (St_k_tMost_1_mk ⟨x_10, x_11, x_12, x_13, G_6, y_47, x_30, x_12, x_13, G_42, rfl, rfl, f_17, f_18, f_19, f_20, hB_G_6, ⟨c_22, ⟨y_25, ty_25, ⟨x_30, G_26, hX_31, f_32, hB_G_26, hq_27, ⟨G_42, hX_45, hB_G_42, hq_44, (Or.inl ⟨c_46, ⟨y_47, ty_47, ⟨rfl, rfl, rfl, rfl, rfl⟩⟩⟩)⟩⟩⟩⟩⟩)), hW, hB_G_42, hF, (Fr.call9 (rs := [42]) (fs := []) (Fr.call9 (rs := [42]) (fs := []) (Fr.call9 (rs := [42]) (fs := []) Fr.rf hq_7 rfl rfl) hq_27 rfl rfl) hq_44 rfl rfl), hS, lv_sub hl [0, 1, 2, 3, 4, 5, 6, 7] rfl⟩
      · have c_46 : x_30.toInt ≤ (G.1 7 4).toInt := xI_nlt rfl rfl c_46
        refine lv_iload hx hb dX10_mostEven_86 (lv_at hl 0 rfl) ?_
        refine lv_iload hx hb dX10_mostEven_88 (lv_at hl 1 rfl) ?_
        refine lv_isub hx hb dX10_mostEven_90 ?_
        refine lv_topi (fun y_48 ey_48 => ?_)
        have ty_48 : y_48.toInt = x_30.toInt - x_10.toInt := xI_sub rfl rfl ey_48 (by omega) (by omega)
        refine lv_iload hx hb dX10_mostEven_91 (lv_at hl 3 rfl) ?_
        refine lv_icmp_ge (tgt := 107) hx hb dX10_mostEven_93 rfl (fun c_49 => ?_) (fun c_49 => ?_)
        · have c_49 : x_13.toInt ≤ y_48.toInt := xI_le rfl rfl c_49
          obtain ⟨y_50, ey_50⟩ : ∃ q, q = x_10 + 1 := ⟨_, rfl⟩
          have ty_50 : y_50.toInt = x_10.toInt + 1 := xI_add rfl rfl ey_50 (by omega) (by omega)
          refine lv_iinc (v := y_50) (lv' := [(7, .int y_50), (6, .int x_30), (5, .int x_12), (4, .int x_13), (3, .int y_4), (0, .ref (a 8)), (1, .ref (a 7)), (2, .int p0)]) hx hb dX10_mostEven_107 hl (k := 1) rfl (by rw [ey_50]; rfl) (lt_b rfl) rfl (fun ls hl => ?_)
          refine lv_goto (tgt := 31) hx hb dX10_mostEven_110 rfl ?_
          exact ih_8 (61 - y_50.toInt : Int).toNat (by omega) _ _ _ ⟨G_42, y_50, x_30, x_12, x_13, (Int.toNat_of_nonneg (by omega)), ⟨by omega, by omega⟩, ⟨by omega, by omega⟩, ⟨by omega, by omega⟩, (by omega), (hX_14.st (St_k_tMost_1_mk ⟨x_10, x_11, x_12, x_13, G_6, y_50, x_30, x_12, x_13, G_42, rfl, rfl, f_17, f_18, f_19, f_20, hB_G_6, ⟨c_22, ⟨y_25, ty_25, ⟨x_30, G_26, hX_31, f_32, hB_G_26, hq_27, ⟨G_42, hX_45, hB_G_42, hq_44, (Or.inr ⟨c_46, ⟨y_48, ty_48, (Or.inl ⟨c_49, ⟨y_50, ty_50, ⟨rfl, rfl, rfl, rfl, rfl⟩⟩⟩)⟩⟩)⟩⟩⟩⟩⟩)), hW, hB_G_42, hF, (Fr.call9 (rs := [42]) (fs := []) (Fr.call9 (rs := [42]) (fs := []) (Fr.call9 (rs := [42]) (fs := []) Fr.rf hq_7 rfl rfl) hq_27 rfl rfl) hq_44 rfl rfl), hS, lv_sub hl [0, 1, 2, 3, 4, 5, 6, 7] rfl⟩
        · have c_49 : y_48.toInt < x_13.toInt := xI_nle rfl rfl c_49
          refine lv_iload hx hb dX10_mostEven_96 (lv_at hl 0 rfl) ?_
          refine lv_iload hx hb dX10_mostEven_98 (lv_at hl 1 rfl) ?_
          refine lv_isub hx hb dX10_mostEven_100 ?_
          refine lv_topi (fun y_51 ey_51 => ?_)
          have ty_51 : y_51.toInt = x_30.toInt - x_10.toInt := xI_sub rfl rfl ey_51 (by omega) (by omega)
          refine lv_istore (lv' := [(4, .int y_51), (6, .int x_30), (7, .int x_10), (5, .int x_12), (3, .int y_4), (0, .ref (a 8)), (1, .ref (a 7)), (2, .int p0)]) hx hb dX10_mostEven_101 hl (lt_b rfl) rfl (fun ls hl => ?_)
          refine lv_iload hx hb dX10_mostEven_103 (lv_at hl 2 rfl) ?_
          refine lv_istore (lv' := [(5, .int x_10), (4, .int y_51), (6, .int x_30), (7, .int x_10), (3, .int y_4), (0, .ref (a 8)), (1, .ref (a 7)), (2, .int p0)]) hx hb dX10_mostEven_105 hl (lt_b rfl) rfl (fun ls hl => ?_)
          obtain ⟨y_52, ey_52⟩ : ∃ q, q = x_10 + 1 := ⟨_, rfl⟩
          have ty_52 : y_52.toInt = x_10.toInt + 1 := xI_add rfl rfl ey_52 (by omega) (by omega)
          refine lv_iinc (v := y_52) (lv' := [(7, .int y_52), (5, .int x_10), (4, .int y_51), (6, .int x_30), (3, .int y_4), (0, .ref (a 8)), (1, .ref (a 7)), (2, .int p0)]) hx hb dX10_mostEven_107 hl (k := 3) rfl (by rw [ey_52]; rfl) (lt_b rfl) rfl (fun ls hl => ?_)
          refine lv_goto (tgt := 31) hx hb dX10_mostEven_110 rfl ?_
          exact ih_8 (61 - y_52.toInt : Int).toNat (by omega) _ _ _ ⟨G_42, y_52, x_30, x_10, y_51, (Int.toNat_of_nonneg (by omega)), ⟨by omega, by omega⟩, ⟨by omega, by omega⟩, ⟨by omega, by omega⟩, (by omega), (hX_14.st (St_k_tMost_1_mk ⟨x_10, x_11, x_12, x_13, G_6, y_52, x_30, x_10, y_51, G_42, rfl, rfl, f_17, f_18, f_19, f_20, hB_G_6, ⟨c_22, ⟨y_25, ty_25, ⟨x_30, G_26, hX_31, f_32, hB_G_26, hq_27, ⟨G_42, hX_45, hB_G_42, hq_44, (Or.inr ⟨c_46, ⟨y_48, ty_48, (Or.inr ⟨c_49, ⟨y_51, ty_51, ⟨y_52, ty_52, ⟨rfl, rfl, rfl, rfl, rfl⟩⟩⟩⟩)⟩⟩)⟩⟩⟩⟩⟩)), hW, hB_G_42, hF, (Fr.call9 (rs := [42]) (fs := []) (Fr.call9 (rs := [42]) (fs := []) (Fr.call9 (rs := [42]) (fs := []) Fr.rf hq_7 rfl rfl) hq_27 rfl rfl) hq_44 rfl rfl), hS, lv_sub hl [0, 3, 1, 2, 4, 5, 6, 7] rfl⟩
    refine lv_icmp_gt (tgt := 77) hx hb dX10_mostEven_55 rfl (fun c_53 => ?_) (fun c_53 => ?_)
    · have c_53 : (G.1 7 4).toInt < x_30.toInt := xI_lt rfl rfl c_53
      exact hJ_43 () _ _ _ ⟨G_26, (Jn_k_tMost_3_mk (Or.inl ⟨c_53, rfl⟩)), hW, hB_G_26, hF, (Fr.rf (rs := [42]) (fs := [])), hS, lv_sub hl [0, 1, 2, 3, 4, 5, 6, 7] rfl⟩
    · have c_53 : x_30.toInt ≤ (G.1 7 4).toInt := xI_nlt rfl rfl c_53
      refine lv_aload_n hx hb dX10_mostEven_58 rfl (lv_at hl 5 rfl) ?_
      refine lv_aload_n hx hb dX10_mostEven_59 rfl (lv_at hl 6 rfl) ?_
      refine lv_iload hx hb dX10_mostEven_60 (lv_at hl 1 rfl) ?_
      refine lv_iload hx hb dX10_mostEven_62 (lv_at hl 0 rfl) ?_
      have g_54 : (G_26.1 7 3).toInt = (G.1 7 3).toInt := (congrArg Int32.toInt (show G_26.1 7 3 = (G.1 7 3) from ((hq_27.i9 7 3 rfl rfl).trans ((hq_7.i9 7 3 rfl rfl).trans (rfl)))))
      have g_55 : (G_26.1 7 4).toInt = (G.1 7 4).toInt := (congrArg Int32.toInt (show G_26.1 7 4 = (G.1 7 4) from ((hq_27.i9 7 4 rfl rfl).trans ((hq_7.i9 7 4 rfl rfl).trans (rfl)))))
      have g_56 : (G_26.1 7 6).toInt = (G.1 7 6).toInt := (congrArg Int32.toInt (show G_26.1 7 6 = (G.1 7 6) from ((hq_27.i9 7 6 rfl rfl).trans ((hq_7.i9 7 6 rfl rfl).trans (rfl)))))
      have g_57 : (G_26.1 7 7).toInt = (G.1 7 7).toInt := (congrArg Int32.toInt (show G_26.1 7 7 = (G.1 7 7) from ((hq_27.i9 7 7 rfl rfl).trans ((hq_7.i9 7 7 rfl rfl).trans (rfl)))))
      have g_58 : (G_26.1 7 4).toInt = (G.1 7 4).toInt := (congrArg Int32.toInt (show G_26.1 7 4 = (G.1 7 4) from ((hq_27.i9 7 4 rfl rfl).trans ((hq_7.i9 7 4 rfl rfl).trans (rfl)))))
      refine S_calli (va_runV (As := [.ref (a 7), .int x_10, .int x_30]) (rest := []) ⟨hx, hb, hml, hown, hts⟩ (k_tFirst l D k A a z G_26 x_10 x_30 ⟨by omega, by omega⟩ ⟨by omega, by omega⟩ (by omega) (by omega)) (cwV 3 hts (gd_V hgd m1045 m1047 m35 m124 m1048) rfl rfl rfl hd_X10_firstHeel ⟨Nat.le_of_ble_eq_true rfl, Nat.le_of_ble_eq_true rfl⟩) (pre_V hW hB_G_26 hK hZ hS kd_8 rfl) rfl rfl hl.1 rfl (lv_room (Nat.le_of_ble_eq_true rfl)) dX10_mostEven_64 ⟨Nat.le_of_ble_eq_true rfl, Nat.le_of_ble_eq_true rfl⟩) hS (fun r_59 G_60 H locs hpo hW hS => ?_)
      have hX_63 : P_tFirst x_10 x_30 G_26 r_59 G_60 := hpo
      obtain ⟨hB_G_60, hq_61, -⟩ := hpo
      have hF := hF.call9 hq_61 rfl rfl
      refine lv_iload_n hx hb dX10_mostEven_67 rfl (lv_at hl 4 rfl) ?_
      refine lv_icmp_lt (tgt := 77) hx hb dX10_mostEven_68 rfl (fun c_64 => ?_) (fun c_64 => ?_)
      · have c_64 : r_59.toInt < y_4.toInt := xI_lt rfl rfl c_64
        exact hJ_43 () _ _ _ ⟨G_60, (Jn_k_tMost_3_mk (Or.inr ⟨c_53, ⟨r_59, G_60, hX_63, ⟨c_64, rfl⟩⟩⟩)), hW, hB_G_60, hF, (Fr.call9 (rs := [42]) (fs := []) Fr.rf hq_61 rfl rfl), hS, lv_sub hl [0, 1, 2, 3, 4, 5, 6, 7] rfl⟩
      · have c_64 : y_4.toInt ≤ r_59.toInt := xI_nlt rfl rfl c_64
        obtain ⟨y_65, ey_65⟩ : ∃ q, q = x_30 + 1 := ⟨_, rfl⟩
        have ty_65 : y_65.toInt = x_30.toInt + 1 := xI_add rfl rfl ey_65 (by omega) (by omega)
        refine lv_iinc (v := y_65) (lv' := [(6, .int y_65), (7, .int x_10), (5, .int x_12), (4, .int x_13), (3, .int y_4), (0, .ref (a 8)), (1, .ref (a 7)), (2, .int p0)]) hx hb dX10_mostEven_71 hl (k := 0) rfl (by rw [ey_65]; rfl) (lt_b rfl) rfl (fun ls hl => ?_)
        refine lv_goto (tgt := 49) hx hb dX10_mostEven_74 rfl ?_
        exact ih_28 (63 - y_65.toInt : Int).toNat (by omega) _ _ _ ⟨G_60, y_65, (Int.toNat_of_nonneg (by omega)), ⟨by omega, by omega⟩, (hX_31.st (St_k_tMost_2_mk ⟨x_30, G_26, y_65, G_60, rfl, rfl, f_32, hB_G_26, ⟨c_53, ⟨r_59, G_60, hX_63, ⟨c_64, ⟨y_65, ty_65, ⟨rfl, rfl⟩⟩⟩⟩⟩⟩)), hW, hB_G_60, hF, (Fr.call9 (rs := [42]) (fs := []) (Fr.call9 (rs := [42]) (fs := []) Fr.rf hq_27 rfl rfl) hq_61 rfl rfl), hS, lv_sub hl [0, 1, 2, 3, 4, 5, 6, 7] rfl⟩
