theorem m89 : Cond.selects RX12 yX12_isAsked yX12_isAsked ∈ gd := gds_6 9 rfl
theorem m91 : Cond.selects RX12 yX12_layStreet yX12_layStreet ∈ gd := gds_6 11 rfl
theorem m1826 : Cond.methodLink RX12 490 yX12_isAsked ∈ gd := gdk_8 30 rfl rfl
theorem m1828 : Cond.instanceMethod yX12_isAsked ∈ gd := gdk_8 32 rfl rfl
theorem m1829 : Cond.code yX12_isAsked cX12_isAsked 4 (some .boolean) ∈ gd := gdk_8 33 rfl rfl
theorem m1834 : Cond.methodLink RX12 493 yX12_layStreet ∈ gd := gdk_8 38 rfl rfl
theorem m1836 : Cond.instanceMethod yX12_layStreet ∈ gd := gdk_8 40 rfl rfl
theorem m1837 : Cond.code yX12_layStreet cX12_layStreet 6 none ∈ gd := gdk_8 41 rfl rfl
def rbX12_foot_0 : List (Nat × List Nat) := [(0, [42]), (1, [27]), (2, [28]), (3, [29]), (4, [182, 1, 234]), (7, [153, 0, 13]), (10, [42]), (11, [28]), (12, [21, 4]), (14, [182, 1, 200]), (17, [154, 0, 5]), (20, [2]), (21, [172]), (22, [42]), (23, [27]), (24, [28]), (25, [29]), (26, [182, 1, 237]), (29, [42]), (30, [180, 0, 115]), (33, [21, 4]), (35, [51]), (36, [184, 1, 92]), (39, [172])]
theorem rcX12_foot_0 : dgo (lb cX12_foot) 0 rbX12_foot_0 = true := by decide +kernel
theorem dX12_foot_0 : decode cX12_foot 0 = .ok (.aload_n 0, 1) := dk_42 (dw rcX12_foot_0 0 rfl)
theorem dX12_foot_1 : decode cX12_foot 1 = .ok (.iload_n 1, 1) := dk_27 (dw rcX12_foot_0 1 rfl)
theorem dX12_foot_2 : decode cX12_foot 2 = .ok (.iload_n 2, 1) := dk_28 (dw rcX12_foot_0 2 rfl)
theorem dX12_foot_3 : decode cX12_foot 3 = .ok (.iload_n 3, 1) := dk_29 (dw rcX12_foot_0 3 rfl)
theorem dX12_foot_4 : decode cX12_foot 4 = .ok (.invokevirtual 490, 3) := dk_182 (dw rcX12_foot_0 4 rfl) rfl
theorem dX12_foot_7 : decode cX12_foot 7 = .ok (.ifCond .eq 13, 3) := dk_153 (dw rcX12_foot_0 5 rfl) rfl
theorem dX12_foot_10 : decode cX12_foot 10 = .ok (.aload_n 0, 1) := dk_42 (dw rcX12_foot_0 6 rfl)
theorem dX12_foot_11 : decode cX12_foot 11 = .ok (.iload_n 2, 1) := dk_28 (dw rcX12_foot_0 7 rfl)
theorem dX12_foot_12 : decode cX12_foot 12 = .ok (.iload 4, 2) := dk_21 (dw rcX12_foot_0 8 rfl)
theorem dX12_foot_14 : decode cX12_foot 14 = .ok (.invokevirtual 456, 3) := dk_182 (dw rcX12_foot_0 9 rfl) rfl
theorem dX12_foot_17 : decode cX12_foot 17 = .ok (.ifCond .ne 5, 3) := dk_154 (dw rcX12_foot_0 10 rfl) rfl
theorem dX12_foot_20 : decode cX12_foot 20 = .ok (.iconst (-1), 1) := dk_2 (dw rcX12_foot_0 11 rfl)
theorem dX12_foot_21 : decode cX12_foot 21 = .ok (.ireturn, 1) := dk_172 (dw rcX12_foot_0 12 rfl)
theorem dX12_foot_22 : decode cX12_foot 22 = .ok (.aload_n 0, 1) := dk_42 (dw rcX12_foot_0 13 rfl)
theorem dX12_foot_23 : decode cX12_foot 23 = .ok (.iload_n 1, 1) := dk_27 (dw rcX12_foot_0 14 rfl)
theorem dX12_foot_24 : decode cX12_foot 24 = .ok (.iload_n 2, 1) := dk_28 (dw rcX12_foot_0 15 rfl)
theorem dX12_foot_25 : decode cX12_foot 25 = .ok (.iload_n 3, 1) := dk_29 (dw rcX12_foot_0 16 rfl)
theorem dX12_foot_26 : decode cX12_foot 26 = .ok (.invokevirtual 493, 3) := dk_182 (dw rcX12_foot_0 17 rfl) rfl
theorem dX12_foot_29 : decode cX12_foot 29 = .ok (.aload_n 0, 1) := dk_42 (dw rcX12_foot_0 18 rfl)
theorem dX12_foot_30 : decode cX12_foot 30 = .ok (.getfield 115, 3) := dk_180 (dw rcX12_foot_0 19 rfl) rfl
theorem dX12_foot_33 : decode cX12_foot 33 = .ok (.iload 4, 2) := dk_21 (dw rcX12_foot_0 20 rfl)
theorem dX12_foot_35 : decode cX12_foot 35 = .ok (.baload, 1) := dk_51 (dw rcX12_foot_0 21 rfl)
theorem dX12_foot_36 : decode cX12_foot 36 = .ok (.invokestatic 348, 3) := dk_184 (dw rcX12_foot_0 22 rfl) rfl
theorem dX12_foot_39 : decode cX12_foot 39 = .ok (.ireturn, 1) := dk_172 (dw rcX12_foot_0 23 rfl)
set_option maxHeartbeats 4000000 in
set_option maxRecDepth 100000 in
theorem n_foot (l : Launch) (D : va_G) (k : KT) (A : Nat → Prop) (a : Nat → Nat) (z : SK) (G : GS) (p0 : Int32) (p1 : Int32) (p2 : Int32) (p3 : Int32) (hP9 : gP G = 1) : Met l yX12_foot (WS yX12_foot cX12_foot 5 (some .int)) ({ frames := 5, cells := 0, slots := 0, locals := 117 }) (va_Pc [.ref (a 66), .int p0, .int p1, .int p2, .int p3] (cW D k A a z G)) (va_Qi (fun (r : Int32) (G1 : GS) => Q_foot p0 p1 p2 p3 G r G1) (fun (G1 : GS) t => Wd D k A a G1 t.heap) A) 0 0 A := by
  refine Met.ofW (cc := cX12_foot) (maxL := 5) (ret := (some .int)) (by decide) rfl ?_
  intro p e s m args below meth c s₁ B hml hv
  obtain ⟨rfl, hW, hB_G, hK, hZ⟩ := hv
  have hx := B.exec
  have hb := B.bytes
  have hr := B.returns
  have hts := atoms_spec (ws := WS yX12_foot cX12_foot 5 (some .int)) B.pre
  have hgd : ∀ w ∈ gd, w ∈ WS yX12_foot cX12_foot 5 (some .int) := fun w h => List.mem_cons_of_mem _ h
  have hg : ∀ w ∈ gd, w.before _ s = true := fun w h => hts w (hgd w h)
  have hown : s.vm.findClass RX12 = some m.cls := findClass_of_methodNamed B.named
  have hS : va_S A s.heap s.heap [] := va_S.rf
  have hF : Fr [76, 97, 98] [(66, 59), (66, 60), (66, 61), (66, 62), (66, 63)] G G := Fr.rf
  have hl := lv_entry ([.ref (a 66), .int p0, .int p1, .int p2, .int p3]) (n := 5) (Nat.le_of_ble_eq_true rfl)
  rw [lg_entry_eq]
  generalize (lg_sl ([.ref (a 66), .int p0, .int p1, .int p2, .int p3]) ++ List.replicate (5 - (lg_sl ([.ref (a 66), .int p0, .int p1, .int p2, .int p3])).length) Slot.unset).toArray = ls at hl ⊢
  have hl : lv_has ls 5 [(0, .ref (a 66)), (1, .int p0), (2, .int p1), (3, .int p2), (4, .int p3)] := hl
  refine lv_aload_n hx hb dX12_foot_0 rfl (lv_at hl 0 rfl) ?_
  refine lv_iload_n hx hb dX12_foot_1 rfl (lv_at hl 1 rfl) ?_
  refine lv_iload_n hx hb dX12_foot_2 rfl (lv_at hl 2 rfl) ?_
  refine lv_iload_n hx hb dX12_foot_3 rfl (lv_at hl 3 rfl) ?_
  refine S_calli (va_runV (As := [.int p0, .int p1, .int p2]) (rest := []) ⟨hx, hb, hml, hown, hts⟩ (n_isAsked l D k A a z G p0 p1 p2 ) (cwV 3 hts (gd_V hgd m1826 m1828 m89 m131 m1829) rfl rfl rfl hd_X12_isAsked ⟨Nat.le_of_ble_eq_true rfl, Nat.le_of_ble_eq_true rfl⟩) (pre_V hW hB_G hK hZ hS kd_66 rfl) rfl rfl hl.1 rfl (lv_room (Nat.le_of_ble_eq_true rfl)) dX12_foot_4 ⟨Nat.le_of_ble_eq_true rfl, Nat.le_of_ble_eq_true rfl⟩) hS (fun r_1 G_2 H locs hpo hW hS => ?_)
  have hX_5 : Q_isAsked p0 p1 p2 G r_1 G_2 := hpo
  obtain ⟨hB_G_2, hq_3, f_6, hp_4, -⟩ := hpo
  have hF := hF.call9 hq_3 rfl rfl
  refine lv_if_eq (tgt := 20) hx hb dX12_foot_7 rfl (fun c_7 => ?_) (fun c_7 => ?_)
  · have c_7 : r_1.toInt = 0 := xI_eq rfl rfl c_7
    refine ic_m1 hx hb dX12_foot_20 ?_
    exact W.iret (v := (-1)) hx hb hr (fun t ht _ => ⟨⟨(-1), G_2, rfl, (Q_foot_mk ⟨hB_G_2, hF, ⟨r_1, G_2, hX_5, (Or.inl ⟨c_7, ⟨rfl, rfl⟩⟩)⟩⟩), wd_t ht hW⟩, hS.F ht⟩) hS.2.2 dX12_foot_21
  · have c_7 : r_1.toInt ≠ 0 := xI_ne rfl rfl c_7
    refine lv_aload_n hx hb dX12_foot_10 rfl (lv_at hl 0 rfl) ?_
    refine lv_iload_n hx hb dX12_foot_11 rfl (lv_at hl 2 rfl) ?_
    refine lv_iload hx hb dX12_foot_12 (lv_at hl 4 rfl) ?_
    refine S_calli (va_runV (As := [.int p1, .int p3]) (rest := []) ⟨hx, hb, hml, hown, hts⟩ (n_isInch l D k A a z G_2 p1 p3 ⟨by omega, by omega⟩) (cwV 2 hts (gd_V hgd m1784 m1786 m84 m131 m1787) rfl rfl rfl hd_X12_isInch ⟨Nat.le_of_ble_eq_true rfl, Nat.le_of_ble_eq_true rfl⟩) (pre_V hW hB_G_2 hK hZ hS kd_66 rfl) rfl rfl hl.1 rfl (lv_room (Nat.le_of_ble_eq_true rfl)) dX12_foot_14 ⟨Nat.le_of_ble_eq_true rfl, Nat.le_of_ble_eq_true rfl⟩) hS (fun r_8 G_9 H locs hpo hW hS => ?_)
    have hX_12 : Q_isInch p1 p3 G_2 r_8 G_9 := hpo
    obtain ⟨hB_G_9, hq_10, f_13, hp_11, -⟩ := hpo
    have hF := hF.call9 hq_10 rfl rfl
    refine lv_if_ne (tgt := 22) hx hb dX12_foot_17 rfl (fun c_14 => ?_) (fun c_14 => ?_)
    · have c_14 : r_8.toInt ≠ 0 := xI_ne rfl rfl c_14
      refine lv_aload_n hx hb dX12_foot_22 rfl (lv_at hl 0 rfl) ?_
      refine lv_iload_n hx hb dX12_foot_23 rfl (lv_at hl 1 rfl) ?_
      refine lv_iload_n hx hb dX12_foot_24 rfl (lv_at hl 2 rfl) ?_
      refine lv_iload_n hx hb dX12_foot_25 rfl (lv_at hl 3 rfl) ?_
      have fr_15 : Fr [] [] G G_9 := (Fr.call9 (rs := []) (fs := []) (Fr.call9 (rs := []) (fs := []) Fr.rf hq_3 rfl rfl) hq_10 rfl rfl)
      have g_16 : gP G_9 = gP G := gP_fr fr_15 (gr_q rfl) (gf_q rfl)
      refine S_callv (va_runV (As := [.int p0, .int p1, .int p2]) (rest := []) ⟨hx, hb, hml, hown, hts⟩ (n_layStreet l D k A a z G_9 p0 p1 p2 ⟨(by first | (clear hP9 f_13 hp_11 c_14 g_16; omega) | omega), (by first | (clear hP9 f_13 hp_11 c_14 g_16; omega) | omega)⟩ ⟨(by first | (clear hP9 f_13 hp_11 c_14 g_16; omega) | omega), (by first | (clear hP9 f_13 hp_11 c_14 g_16; omega) | omega)⟩ ((by first | (clear f_6 hp_4 c_7 f_13 hp_11 c_14; omega) | omega))) (cwV 3 hts (gd_V hgd m1834 m1836 m91 m131 m1837) rfl rfl rfl hd_X12_layStreet ⟨Nat.le_of_ble_eq_true rfl, Nat.le_of_ble_eq_true rfl⟩) (pre_V hW hB_G_9 hK hZ hS kd_66 rfl) rfl rfl hl.1 rfl (lv_room (Nat.le_of_ble_eq_true rfl)) dX12_foot_26 ⟨Nat.le_of_ble_eq_true rfl, Nat.le_of_ble_eq_true rfl⟩) hS (fun G_18 H locs hpo hW hS => ?_)
      have hX_21 : Q_layStreet p0 p1 p2 G_9 G_18 := hpo
      obtain ⟨hB_G_18, hq_19, hp_20, -⟩ := hpo
      have hF := hF.call9 hq_19 rfl rfl
      refine lv_aload_n hx hb dX12_foot_29 rfl (lv_at hl 0 rfl) ?_
      refine S_getR (n := 98) (C := RX12) (T := TX12) (N := 89) hx hb hg iX12 hown hK hW kd_66 rfl 58 (lt_b rfl) (hg (Cond.fieldLink RX12 115 "SlabWalkModel" "lawful" "[Z") m1372) (fun _ h9 => h9) rfl dX12_foot_30 ?_
      refine lv_iload hx hb dX12_foot_33 (lv_at hl 4 rfl) ?_
      refine S_zald hx hb hK hW kd_98 (vin ((by first | (clear hP9 f_6 hp_4 c_7 g_16 hp_20; omega) | omega)) ((by first | (clear hP9 f_6 hp_4 c_7 g_16 hp_20; omega) | omega))) dX12_foot_35 (fun y_22 ey_22 => ?_)
      have ty_22 := hB_G_18.law ey_22
      refine S_calli (va_runS (As := [.int y_22]) (rest := []) ⟨hx, hb, hml, hown, hts⟩ (n_truth l D k A a z G_18 y_22 ⟨(by first | (clear hP9 f_6 hp_4 c_7 f_13 hp_11 c_14 g_16 hp_20; omega) | omega), (by first | (clear hP9 f_6 hp_4 c_7 f_13 hp_11 c_14 g_16 hp_20; omega) | omega)⟩) (va_cwS 1 hts (gd_S hgd m1788 m1789 m131 m1790) rfl rfl rfl hd_X12_truth.2 ⟨Nat.le_of_ble_eq_true rfl, Nat.le_of_ble_eq_true rfl⟩) (pre_S hW hB_G_18 hK hZ hS) rfl rfl hl.1 rfl (lv_room (Nat.le_of_ble_eq_true rfl)) dX12_foot_36 ⟨Nat.le_of_ble_eq_true rfl, Nat.le_of_ble_eq_true rfl⟩) hS (fun r_23 G_24 H locs hpo hW hS => ?_)
      have hX_27 : Q_truth y_22 G_18 r_23 G_24 := hpo
      obtain ⟨hB_G_24, hq_25, f_28, hp_26, -⟩ := hpo
      have hF := hF.call9 hq_25 rfl rfl
      exact W.iret (v := r_23) hx hb hr (fun t ht _ => ⟨⟨r_23, G_24, rfl, (Q_foot_mk ⟨hB_G_24, hF, ⟨r_1, G_2, hX_5, (Or.inr ⟨c_7, ⟨r_8, G_9, hX_12, (Or.inr ⟨c_14, ⟨G_18, hX_21, ⟨y_22, ey_22, ⟨r_23, G_24, hX_27, ⟨rfl, rfl⟩⟩⟩⟩⟩)⟩⟩)⟩⟩), wd_t ht hW⟩, hS.F ht⟩) hS.2.2 dX12_foot_39
    · have c_14 : r_8.toInt = 0 := xI_eq rfl rfl c_14
      refine ic_m1 hx hb dX12_foot_20 ?_
      exact W.iret (v := (-1)) hx hb hr (fun t ht _ => ⟨⟨(-1), G_9, rfl, (Q_foot_mk ⟨hB_G_9, hF, ⟨r_1, G_2, hX_5, (Or.inr ⟨c_7, ⟨r_8, G_9, hX_12, (Or.inl ⟨c_14, ⟨rfl, rfl⟩⟩)⟩⟩)⟩⟩), wd_t ht hW⟩, hS.F ht⟩) hS.2.2 dX12_foot_21
