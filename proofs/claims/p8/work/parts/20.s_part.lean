
theorem dX6_part_1 : decode cX6_part 1 = .ok (.tableswitch 59 0 3 #[31, 35, 43, 51], 31) := dq_of (by decide +kernel)
def rbX6_part_0 : List (Nat × List Nat) := [(0, [27]), (32, [26]), (33, [4]), (34, [126]), (35, [172]), (36, [26]), (37, [8]), (38, [122]), (39, [17, 1, 255]), (42, [126]), (43, [172]), (44, [26]), (45, [16, 14]), (47, [122]), (48, [16, 63]), (50, [126]), (51, [172]), (52, [26]), (53, [16, 20]), (55, [122]), (56, [16, 63]), (58, [126]), (59, [172]), (60, [26])]
theorem rcX6_part_0 : dgo (lb cX6_part) 0 rbX6_part_0 = true := by decide +kernel
theorem dX6_part_0 : decode cX6_part 0 = .ok (.iload_n 1, 1) := dk_27 (dw rcX6_part_0 0 rfl)
theorem dX6_part_32 : decode cX6_part 32 = .ok (.iload_n 0, 1) := dk_26 (dw rcX6_part_0 1 rfl)
theorem dX6_part_33 : decode cX6_part 33 = .ok (.iconst 1, 1) := dk_4 (dw rcX6_part_0 2 rfl)
theorem dX6_part_34 : decode cX6_part 34 = .ok (.iand, 1) := dk_126 (dw rcX6_part_0 3 rfl)
theorem dX6_part_35 : decode cX6_part 35 = .ok (.ireturn, 1) := dk_172 (dw rcX6_part_0 4 rfl)
theorem dX6_part_36 : decode cX6_part 36 = .ok (.iload_n 0, 1) := dk_26 (dw rcX6_part_0 5 rfl)
theorem dX6_part_37 : decode cX6_part 37 = .ok (.iconst 5, 1) := dk_8 (dw rcX6_part_0 6 rfl)
theorem dX6_part_38 : decode cX6_part 38 = .ok (.ishr, 1) := dk_122 (dw rcX6_part_0 7 rfl)
theorem dX6_part_39 : decode cX6_part 39 = .ok (.sipush 511, 3) := dk_17 (dw rcX6_part_0 8 rfl) rfl
theorem dX6_part_42 : decode cX6_part 42 = .ok (.iand, 1) := dk_126 (dw rcX6_part_0 9 rfl)
theorem dX6_part_43 : decode cX6_part 43 = .ok (.ireturn, 1) := dk_172 (dw rcX6_part_0 10 rfl)
theorem dX6_part_44 : decode cX6_part 44 = .ok (.iload_n 0, 1) := dk_26 (dw rcX6_part_0 11 rfl)
theorem dX6_part_45 : decode cX6_part 45 = .ok (.bipush 14, 2) := dk_16 (dw rcX6_part_0 12 rfl) rfl
theorem dX6_part_47 : decode cX6_part 47 = .ok (.ishr, 1) := dk_122 (dw rcX6_part_0 13 rfl)
theorem dX6_part_48 : decode cX6_part 48 = .ok (.bipush 63, 2) := dk_16 (dw rcX6_part_0 14 rfl) rfl
theorem dX6_part_50 : decode cX6_part 50 = .ok (.iand, 1) := dk_126 (dw rcX6_part_0 15 rfl)
theorem dX6_part_51 : decode cX6_part 51 = .ok (.ireturn, 1) := dk_172 (dw rcX6_part_0 16 rfl)
theorem dX6_part_52 : decode cX6_part 52 = .ok (.iload_n 0, 1) := dk_26 (dw rcX6_part_0 17 rfl)
theorem dX6_part_53 : decode cX6_part 53 = .ok (.bipush 20, 2) := dk_16 (dw rcX6_part_0 18 rfl) rfl
theorem dX6_part_55 : decode cX6_part 55 = .ok (.ishr, 1) := dk_122 (dw rcX6_part_0 19 rfl)
theorem dX6_part_56 : decode cX6_part 56 = .ok (.bipush 63, 2) := dk_16 (dw rcX6_part_0 20 rfl) rfl
theorem dX6_part_58 : decode cX6_part 58 = .ok (.iand, 1) := dk_126 (dw rcX6_part_0 21 rfl)
theorem dX6_part_59 : decode cX6_part 59 = .ok (.ireturn, 1) := dk_172 (dw rcX6_part_0 22 rfl)
theorem dX6_part_60 : decode cX6_part 60 = .ok (.iload_n 0, 1) := dk_26 (dw rcX6_part_0 23 rfl)
def rbX6_part_61 : List (Nat × List Nat) := [(61, [4]), (62, [122]), (63, [16, 15]), (65, [126]), (66, [172])]
theorem rcX6_part_61 : dgo (lb cX6_part) 0 rbX6_part_61 = true := by decide +kernel
theorem dX6_part_61 : decode cX6_part 61 = .ok (.iconst 1, 1) := dk_4 (dw rcX6_part_61 0 rfl)
theorem dX6_part_62 : decode cX6_part 62 = .ok (.ishr, 1) := dk_122 (dw rcX6_part_61 1 rfl)
theorem dX6_part_63 : decode cX6_part 63 = .ok (.bipush 15, 2) := dk_16 (dw rcX6_part_61 2 rfl) rfl
theorem dX6_part_65 : decode cX6_part 65 = .ok (.iand, 1) := dk_126 (dw rcX6_part_61 3 rfl)
theorem dX6_part_66 : decode cX6_part 66 = .ok (.ireturn, 1) := dk_172 (dw rcX6_part_61 4 rfl)
set_option maxHeartbeats 4000000 in
set_option maxRecDepth 100000 in
theorem k_part (l : Launch) (D : va_G) (k : KT) (A : Nat → Prop) (a : Nat → Nat) (z : SK) (G : GS) (p0 : Int32) (p1 : Int32)  : Met l yX6_part (WS yX6_part cX6_part 2 (some .int)) ({ frames := 0, cells := 0, slots := 0, locals := 0 }) (va_Pc [.int p0, .int p1] (cW D k A a z G)) (va_Qi (fun (r : Int32) (G1 : GS) => P_part p0 p1 G r G1) (fun (G1 : GS) t => Wd D k A a G1 t.heap) A) 0 0 A := by
  refine Met.ofW (cc := cX6_part) (maxL := 2) (ret := (some .int)) (by decide) rfl ?_
  intro p e s m args below meth c s₁ B hml hv
  obtain ⟨rfl, hW, hB_G, hK, hZ⟩ := hv
  have hx := B.exec
  have hb := B.bytes
  have hr := B.returns
  have hts := atoms_spec (ws := WS yX6_part cX6_part 2 (some .int)) B.pre
  have hgd : ∀ w ∈ gd, w ∈ WS yX6_part cX6_part 2 (some .int) := fun w h => List.mem_cons_of_mem _ h
  have hg : ∀ w ∈ gd, w.before _ s = true := fun w h => hts w (hgd w h)
  have hown : s.vm.findClass RX6 = some m.cls := findClass_of_methodNamed B.named
  have hS : va_S A s.heap s.heap [] := va_S.rf
  have hF : Fr [] [] G G := Fr.rf
  have hl := lv_entry ([.int p0, .int p1]) (n := 2) (Nat.le_of_ble_eq_true rfl)
  rw [lg_entry_eq]
  generalize (lg_sl ([.int p0, .int p1]) ++ List.replicate (2 - (lg_sl ([.int p0, .int p1])).length) Slot.unset).toArray = ls at hl ⊢
  have hl : lv_has ls 2 [(0, .int p0), (1, .int p1)] := hl
  refine lv_iload_n hx hb dX6_part_0 rfl (lv_at hl 1 rfl) ?_
  by_cases c_1 : p1 = 0
  · refine lv_tableIn (tgt := 32) hx hb dX6_part_1 (by rw [c_1]; decide) (by rw [c_1]; decide) (off := 31) (by rw [c_1]; decide) (by decide) ?_
    have c_1 : p1.toInt = 0 := xI_eq rfl rfl c_1
    refine lv_iload_n hx hb dX6_part_32 rfl (lv_at hl 0 rfl) ?_
    refine ic_1 hx hb dX6_part_33 ?_
    refine lv_iand hx hb dX6_part_34 ?_
    refine lv_topi (fun y_2 ey_2 => ?_)
    have ty_2 := xI_and (Y := 1) rfl ey_2 (by decide)
    exact W.iret (v := y_2) hx hb hr (fun t ht _ => ⟨⟨y_2, G, rfl, (P_part_mk ⟨hB_G, hF, (Or.inl ⟨c_1, ⟨y_2, ey_2, ⟨rfl, rfl⟩⟩⟩)⟩), wd_t ht hW⟩, hS.F ht⟩) hS.2.2 dX6_part_35
  by_cases c_3 : p1 = 1
  · refine lv_tableIn (tgt := 36) hx hb dX6_part_1 (by rw [c_3]; decide) (by rw [c_3]; decide) (off := 35) (by rw [c_3]; decide) (by decide) ?_
    have c_3 : p1.toInt = 1 := xI_eq rfl rfl c_3
    refine lv_iload_n hx hb dX6_part_36 rfl (lv_at hl 0 rfl) ?_
    refine ic_5 hx hb dX6_part_37 ?_
    refine lv_ishr hx hb dX6_part_38 ?_
    refine lv_topi (fun y_4 ey_4 => ?_)
    refine lv_sipush (v := 511) hx hb dX6_part_39 (by decide) ?_
    refine lv_iand hx hb dX6_part_42 ?_
    refine lv_topi (fun y_5 ey_5 => ?_)
    have ty_5 := xI_and (Y := 511) rfl ey_5 (by decide)
    exact W.iret (v := y_5) hx hb hr (fun t ht _ => ⟨⟨y_5, G, rfl, (P_part_mk ⟨hB_G, hF, (Or.inr ⟨(xI_ne (Y := 0) rfl rfl c_1), (Or.inl ⟨c_3, ⟨y_4, ey_4, ⟨y_5, ey_5, ⟨rfl, rfl⟩⟩⟩⟩)⟩)⟩), wd_t ht hW⟩, hS.F ht⟩) hS.2.2 dX6_part_43
  by_cases c_6 : p1 = 2
  · refine lv_tableIn (tgt := 44) hx hb dX6_part_1 (by rw [c_6]; decide) (by rw [c_6]; decide) (off := 43) (by rw [c_6]; decide) (by decide) ?_
    have c_6 : p1.toInt = 2 := xI_eq rfl rfl c_6
    refine lv_iload_n hx hb dX6_part_44 rfl (lv_at hl 0 rfl) ?_
    refine lv_bipush (v := 14) hx hb dX6_part_45 (by decide) ?_
    refine lv_ishr hx hb dX6_part_47 ?_
    refine lv_topi (fun y_7 ey_7 => ?_)
    refine lv_bipush (v := 63) hx hb dX6_part_48 (by decide) ?_
    refine lv_iand hx hb dX6_part_50 ?_
    refine lv_topi (fun y_8 ey_8 => ?_)
    have ty_8 := xI_and (Y := 63) rfl ey_8 (by decide)
    exact W.iret (v := y_8) hx hb hr (fun t ht _ => ⟨⟨y_8, G, rfl, (P_part_mk ⟨hB_G, hF, (Or.inr ⟨(xI_ne (Y := 0) rfl rfl c_1), (Or.inr ⟨(xI_ne (Y := 1) rfl rfl c_3), (Or.inl ⟨c_6, ⟨y_7, ey_7, ⟨y_8, ey_8, ⟨rfl, rfl⟩⟩⟩⟩)⟩)⟩)⟩), wd_t ht hW⟩, hS.F ht⟩) hS.2.2 dX6_part_51
  by_cases c_9 : p1 = 3
  · refine lv_tableIn (tgt := 52) hx hb dX6_part_1 (by rw [c_9]; decide) (by rw [c_9]; decide) (off := 51) (by rw [c_9]; decide) (by decide) ?_
    have c_9 : p1.toInt = 3 := xI_eq rfl rfl c_9
    refine lv_iload_n hx hb dX6_part_52 rfl (lv_at hl 0 rfl) ?_
    refine lv_bipush (v := 20) hx hb dX6_part_53 (by decide) ?_
    refine lv_ishr hx hb dX6_part_55 ?_
    refine lv_topi (fun y_10 ey_10 => ?_)
    refine lv_bipush (v := 63) hx hb dX6_part_56 (by decide) ?_
    refine lv_iand hx hb dX6_part_58 ?_
    refine lv_topi (fun y_11 ey_11 => ?_)
    have ty_11 := xI_and (Y := 63) rfl ey_11 (by decide)
    exact W.iret (v := y_11) hx hb hr (fun t ht _ => ⟨⟨y_11, G, rfl, (P_part_mk ⟨hB_G, hF, (Or.inr ⟨(xI_ne (Y := 0) rfl rfl c_1), (Or.inr ⟨(xI_ne (Y := 1) rfl rfl c_3), (Or.inr ⟨(xI_ne (Y := 2) rfl rfl c_6), (Or.inl ⟨c_9, ⟨y_10, ey_10, ⟨y_11, ey_11, ⟨rfl, rfl⟩⟩⟩⟩)⟩)⟩)⟩)⟩), wd_t ht hW⟩, hS.F ht⟩) hS.2.2 dX6_part_59
  refine lv_tableOut (tgt := 60) hx hb dX6_part_1 (tb_out (lo := 0) (hi := 3) (by have c_1 := xI_ne (Y := 0) rfl rfl c_1; have c_3 := xI_ne (Y := 1) rfl rfl c_3; have c_6 := xI_ne (Y := 2) rfl rfl c_6; have c_9 := xI_ne (Y := 3) rfl rfl c_9; omega)) (by decide) ?_
  have c_1 := xI_ne (Y := 0) rfl rfl c_1
  have c_3 := xI_ne (Y := 1) rfl rfl c_3
  have c_6 := xI_ne (Y := 2) rfl rfl c_6
  have c_9 := xI_ne (Y := 3) rfl rfl c_9
  refine lv_iload_n hx hb dX6_part_60 rfl (lv_at hl 0 rfl) ?_
  refine ic_1 hx hb dX6_part_61 ?_
  refine lv_ishr hx hb dX6_part_62 ?_
  refine lv_topi (fun y_12 ey_12 => ?_)
  refine lv_bipush (v := 15) hx hb dX6_part_63 (by decide) ?_
  refine lv_iand hx hb dX6_part_65 ?_
  refine lv_topi (fun y_13 ey_13 => ?_)
  have ty_13 := xI_and (Y := 15) rfl ey_13 (by decide)
  exact W.iret (v := y_13) hx hb hr (fun t ht _ => ⟨⟨y_13, G, rfl, (P_part_mk ⟨hB_G, hF, (Or.inr ⟨c_1, (Or.inr ⟨c_3, (Or.inr ⟨c_6, (Or.inr ⟨c_9, ⟨y_12, ey_12, ⟨y_13, ey_13, ⟨rfl, rfl⟩⟩⟩⟩)⟩)⟩)⟩)⟩), wd_t ht hW⟩, hS.F ht⟩) hS.2.2 dX6_part_66
