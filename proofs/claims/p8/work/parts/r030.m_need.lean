theorem m94 : Cond.selects RX12 yX12_layNeed yX12_layNeed ∈ gd := gds_6 14 rfl
theorem m1850 : Cond.methodLink RX12 496 yX12_layNeed ∈ gd := gdc_8_3 6 rfl gw_methodLink
theorem m1852 : Cond.instanceMethod yX12_layNeed ∈ gd := gdc_8_3 8 rfl gw_instanceMethod
theorem m1853 : Cond.code yX12_layNeed cX12_layNeed 6 none ∈ gd := gdc_8_3 9 rfl gw_code
def rbX12_layNeeds_0 : List (Nat × List Nat) := [(0, [17, 1, 143]), (3, [60]), (4, [27]), (5, [155, 0, 28]), (8, [3]), (9, [61]), (10, [28]), (11, [5]), (12, [162, 0, 15]), (15, [42]), (16, [27]), (17, [28]), (18, [182, 1, 240]), (21, [132, 2, 1]), (24, [167, 255, 242]), (27, [132, 1, 255]), (30, [167, 255, 230]), (33, [177])]
theorem rcX12_layNeeds_0 : dgo (lb cX12_layNeeds) 0 rbX12_layNeeds_0 = true := by decide +kernel
theorem dX12_layNeeds_0 : decode cX12_layNeeds 0 = .ok (.sipush 399, 3) := dk_17 (dw rcX12_layNeeds_0 0 rfl) rfl
theorem dX12_layNeeds_3 : decode cX12_layNeeds 3 = .ok (.istore_n 1, 1) := dk_60 (dw rcX12_layNeeds_0 1 rfl)
theorem dX12_layNeeds_4 : decode cX12_layNeeds 4 = .ok (.iload_n 1, 1) := dk_27 (dw rcX12_layNeeds_0 2 rfl)
theorem dX12_layNeeds_5 : decode cX12_layNeeds 5 = .ok (.ifCond .lt 28, 3) := dk_155 (dw rcX12_layNeeds_0 3 rfl) rfl
theorem dX12_layNeeds_8 : decode cX12_layNeeds 8 = .ok (.iconst 0, 1) := dk_3 (dw rcX12_layNeeds_0 4 rfl)
theorem dX12_layNeeds_9 : decode cX12_layNeeds 9 = .ok (.istore_n 2, 1) := dk_61 (dw rcX12_layNeeds_0 5 rfl)
theorem dX12_layNeeds_10 : decode cX12_layNeeds 10 = .ok (.iload_n 2, 1) := dk_28 (dw rcX12_layNeeds_0 6 rfl)
theorem dX12_layNeeds_11 : decode cX12_layNeeds 11 = .ok (.iconst 2, 1) := dk_5 (dw rcX12_layNeeds_0 7 rfl)
theorem dX12_layNeeds_12 : decode cX12_layNeeds 12 = .ok (.if_icmp .ge 15, 3) := dk_162 (dw rcX12_layNeeds_0 8 rfl) rfl
theorem dX12_layNeeds_15 : decode cX12_layNeeds 15 = .ok (.aload_n 0, 1) := dk_42 (dw rcX12_layNeeds_0 9 rfl)
theorem dX12_layNeeds_16 : decode cX12_layNeeds 16 = .ok (.iload_n 1, 1) := dk_27 (dw rcX12_layNeeds_0 10 rfl)
theorem dX12_layNeeds_17 : decode cX12_layNeeds 17 = .ok (.iload_n 2, 1) := dk_28 (dw rcX12_layNeeds_0 11 rfl)
theorem dX12_layNeeds_18 : decode cX12_layNeeds 18 = .ok (.invokevirtual 496, 3) := dk_182 (dw rcX12_layNeeds_0 12 rfl) rfl
theorem dX12_layNeeds_21 : decode cX12_layNeeds 21 = .ok (.iinc 2 1, 3) := dk_132 (dw rcX12_layNeeds_0 13 rfl) rfl
theorem dX12_layNeeds_24 : decode cX12_layNeeds 24 = .ok (.goto (-14), 3) := dk_167 (dw rcX12_layNeeds_0 14 rfl) rfl
theorem dX12_layNeeds_27 : decode cX12_layNeeds 27 = .ok (.iinc 1 (-1), 3) := dk_132 (dw rcX12_layNeeds_0 15 rfl) rfl
theorem dX12_layNeeds_30 : decode cX12_layNeeds 30 = .ok (.goto (-26), 3) := dk_167 (dw rcX12_layNeeds_0 16 rfl) rfl
theorem dX12_layNeeds_33 : decode cX12_layNeeds 33 = .ok (.return_, 1) := dk_177 (dw rcX12_layNeeds_0 17 rfl)
set_option maxHeartbeats 4000000 in
set_option maxRecDepth 100000 in
theorem n_layNeeds (l : Launch) (D : va_G) (k : KT) (A : Nat → Prop) (a : Nat → Nat) (z : SK) (G : GS)  (hle1 : 1 ≤ (G.1 66 61).toInt) (hml9 : (G.1 66 61).toInt ≤ (G.1 66 62).toInt ∧ (G.1 66 62).toInt ≤ (G.1 66 63).toInt) (h400 : (G.1 98 400).toInt = 0) : Met l yX12_layNeeds (WS yX12_layNeeds cX12_layNeeds 3 none) ({ frames := 3, cells := 0, slots := 0, locals := 67 }) (va_Pc [.ref (a 66)] (cW D k A a z G)) (va_Qv (fun (G1 : GS) => Q_layNeeds G G1) (fun (G1 : GS) t => Wd D k A a G1 t.heap) A) 0 0 A := by
  refine Met.ofW (cc := cX12_layNeeds) (maxL := 3) (ret := none) (by decide) rfl ?_
  intro p e s m args below meth c s₁ B hml hv
  obtain ⟨rfl, hW, hB_G, hK, hZ⟩ := hv
  have hx := B.exec
  have hb := B.bytes
  have hr := B.returns
  have hts := atoms_spec (ws := WS yX12_layNeeds cX12_layNeeds 3 none) B.pre
  have hgd : ∀ w ∈ gd, w ∈ WS yX12_layNeeds cX12_layNeeds 3 none := fun w h => List.mem_cons_of_mem _ h
  have hg : ∀ w ∈ gd, w.before _ s = true := fun w h => hts w (hgd w h)
  have hown : s.vm.findClass RX12 = some m.cls := findClass_of_methodNamed B.named
  have hS : va_S A s.heap s.heap [] := va_S.rf
  have hF : Fr [99] [] G G := Fr.rf
  have hl := lv_entry ([.ref (a 66)]) (n := 3) (Nat.le_of_ble_eq_true rfl)
  rw [lg_entry_eq]
  generalize (lg_sl ([.ref (a 66)]) ++ List.replicate (3 - (lg_sl ([.ref (a 66)])).length) Slot.unset).toArray = ls at hl ⊢
  have hl : lv_has ls 3 [(0, .ref (a 66))] := hl
  refine lv_sipush (v := 399) hx hb dX12_layNeeds_0 (by decide) ?_
  have hq_1 : PRG G (399 : Int32).toInt 0 := PRG_0 G
  refine lv_istore_n (lv' := [(1, .int 399), (0, .ref (a 66))]) hx hb dX12_layNeeds_3 rfl hl (lt_b rfl) rfl (fun ls hl => ?_)
  have qc_8 : (399 : Int32).toInt = 399 := rfl
  refine loop_N (Inv := fun n H locs ls => ∃ (G_2 : GS) (x_6 : Int32), (n : Int) = x_6.toInt - (-1) ∧ ((-1) ≤ x_6.toInt ∧ x_6.toInt ≤ 399) ∧ (PRG G_2 x_6.toInt 0) ∧ Rc (St_n_layNeeds_1) (399, G) (x_6, G_2) ∧ Wd D k A a G_2 H ∧ Bd G_2 ∧ Fr [99] [] G G_2 ∧ Fr [99] [] G G_2 ∧ va_S A s.heap H locs ∧ lv_has ls 3 [(1, .int x_6), (0, .ref (a 66))]) (fun n_5 H locs ls ih_4 hI => ?_) (399 - (-1) : Int).toNat ⟨G, 399, (Int.toNat_of_nonneg ((by first | (clear hle1 hml9 h400; omega) | omega))), ⟨(by first | (clear hle1 hml9 h400; omega) | omega), (by first | (clear hle1 hml9 h400; omega) | omega)⟩, (by assumption), Rc.rf, hW, hB_G, hF, Fr.rf, hS, lv_sub hl [0, 1] rfl⟩
  obtain ⟨G_2, x_6, hn_11, f_9, f_10, hX_7, hW, hB_G_2, hF, hq_3, hS, hl⟩ := hI
  refine lv_iload_n hx hb dX12_layNeeds_4 rfl (lv_at hl 0 rfl) ?_
  refine lv_if_lt (tgt := 33) hx hb dX12_layNeeds_5 rfl (fun c_12 => ?_) (fun c_12 => ?_)
  · have c_12 : x_6.toInt < 0 := xI_lt rfl rfl c_12
    have hqE_ : PRG G_2 (-1) 0 := by rw [show (-1 : Int) = x_6.toInt from by omega]; assumption
    exact W.vret hx hb hr (fun t ht _ => ⟨⟨G_2, rfl, (Q_layNeeds_mk ⟨hB_G_2, hF, (show PRG G_2 (-1) 0 from hqE_), ⟨x_6, G_2, hX_7, f_9, f_10, hB_G_2, hq_3, ⟨c_12, rfl⟩⟩⟩), wd_t ht hW⟩, hS.F ht⟩) hS.2.2 dX12_layNeeds_33
  · have c_12 : 0 ≤ x_6.toInt := xI_nlt rfl rfl c_12
    refine ic_0 hx hb dX12_layNeeds_8 ?_
    have hq_13 : PRG G_2 x_6.toInt (0 : Int32).toInt := by assumption
    refine lv_istore_n (lv' := [(2, .int 0), (1, .int x_6), (0, .ref (a 66))]) hx hb dX12_layNeeds_9 rfl hl (lt_b rfl) rfl (fun ls hl => ?_)
    have qc_20 : (0 : Int32).toInt = 0 := rfl
    refine loop_N (Inv := fun n H locs ls => ∃ (G_14 : GS) (x_18 : Int32), (n : Int) = 2 - x_18.toInt ∧ (0 ≤ x_18.toInt ∧ x_18.toInt ≤ 2) ∧ (PRG G_14 x_6.toInt x_18.toInt) ∧ Rc (St_n_layNeeds_2 x_6) (0, G_2) (x_18, G_14) ∧ Wd D k A a G_14 H ∧ Bd G_14 ∧ Fr [99] [] G G_14 ∧ Fr [99] [] G_2 G_14 ∧ va_S A s.heap H locs ∧ lv_has ls 3 [(2, .int x_18), (1, .int x_6), (0, .ref (a 66))]) (fun n_17 H locs ls ih_16 hI => ?_) (2 - 0 : Int).toNat ⟨G_2, 0, (Int.toNat_of_nonneg ((by first | (clear hle1 hml9 h400 hn_11 f_9 c_12; omega) | omega))), ⟨(by first | (clear hle1 hml9 h400 hn_11 f_9 c_12; omega) | omega), (by first | (clear hle1 hml9 h400 hn_11 f_9 c_12; omega) | omega)⟩, (by assumption), Rc.rf, hW, hB_G_2, hF, Fr.rf, hS, lv_sub hl [0, 1, 2] rfl⟩
    obtain ⟨G_14, x_18, hn_23, f_21, f_22, hX_19, hW, hB_G_14, hF, hq_15, hS, hl⟩ := hI
    refine lv_iload_n hx hb dX12_layNeeds_10 rfl (lv_at hl 0 rfl) ?_
    refine ic_2 hx hb dX12_layNeeds_11 ?_
    refine lv_icmp_ge (tgt := 27) hx hb dX12_layNeeds_12 rfl (fun c_24 => ?_) (fun c_24 => ?_)
    · have c_24 : 2 ≤ x_18.toInt := xI_le rfl rfl c_24
      obtain ⟨y_25, ey_25⟩ : ∃ q, q = x_6 + (-1) := ⟨_, rfl⟩
      have ty_25 : y_25.toInt = x_6.toInt + (-1) := xI_add rfl rfl ey_25 ((by first | (clear hle1 hml9 h400 hn_11 hn_23 f_21 c_24; omega) | omega)) ((by first | (clear hle1 hml9 h400 hn_11 hn_23 f_21 c_24; omega) | omega))
      refine lv_iinc (v := y_25) (lv' := [(1, .int y_25), (2, .int x_18), (0, .ref (a 66))]) hx hb dX12_layNeeds_27 hl (k := 1) rfl (by rw [ey_25]; rfl) (lt_b rfl) rfl (fun ls hl => ?_)
      have hq_26 : PRG G_14 y_25.toInt 0 := PRG_dn (show PRG G_14 x_6.toInt x_18.toInt by assumption) (by omega) (by omega)
      refine lv_goto (tgt := 4) hx hb dX12_layNeeds_30 rfl ?_
      exact ih_4 (y_25.toInt - (-1) : Int).toNat ((by first | (clear hle1 hml9 h400 hn_23 f_21 c_24; omega) | omega)) _ _ _ ⟨G_14, y_25, (Int.toNat_of_nonneg ((by first | (clear hle1 hml9 h400 hn_11 hn_23 f_21 c_24; omega) | omega))), ⟨(by first | (clear hle1 hml9 h400 hn_11 hn_23 f_21 c_24; omega) | omega), (by first | (clear hle1 hml9 h400 hn_11 hn_23 f_21 c_24; omega) | omega)⟩, (by assumption), (hX_7.st (St_n_layNeeds_1_mk ⟨x_6, G_2, y_25, G_14, rfl, rfl, f_9, f_10, hB_G_2, ⟨c_12, ⟨x_18, G_14, hX_19, f_21, f_22, hB_G_14, hq_15, ⟨c_24, ⟨y_25, ty_25, ⟨rfl, rfl⟩⟩⟩⟩⟩⟩)), hW, hB_G_14, hF, (Fr.call9 (rs := [99]) (fs := []) (Fr.call9 (rs := [99]) (fs := []) Fr.rf hq_3 rfl rfl) hq_15 rfl rfl), hS, lv_sub hl [0, 2] rfl⟩
    · have c_24 : x_18.toInt < 2 := xI_nle rfl rfl c_24
      refine lv_aload_n hx hb dX12_layNeeds_15 rfl (lv_at hl 2 rfl) ?_
      refine lv_iload_n hx hb dX12_layNeeds_16 rfl (lv_at hl 1 rfl) ?_
      refine lv_iload_n hx hb dX12_layNeeds_17 rfl (lv_at hl 0 rfl) ?_
      have b_27 : 0 ≤ (G.1 66 61).toInt ∧ (G.1 66 61).toInt ≤ 60 := bd_66_61 hB_G
      have g_28 : (G_14.1 66 61).toInt = (G.1 66 61).toInt := (congrArg Int32.toInt (show G_14.1 66 61 = (G.1 66 61) from ((hq_15.i9 66 61 rfl rfl).trans (hq_3.i9 66 61 rfl rfl))))
      have g_29 : (G_14.1 66 61).toInt = (G.1 66 61).toInt := (congrArg Int32.toInt (show G_14.1 66 61 = (G.1 66 61) from ((hq_15.i9 66 61 rfl rfl).trans ((hq_3.i9 66 61 rfl rfl).trans (rfl)))))
      have b_30 : 0 ≤ (G.1 66 62).toInt ∧ (G.1 66 62).toInt ≤ 60 := bd_66_62 hB_G
      have g_31 : (G_14.1 66 62).toInt = (G.1 66 62).toInt := (congrArg Int32.toInt (show G_14.1 66 62 = (G.1 66 62) from ((hq_15.i9 66 62 rfl rfl).trans (hq_3.i9 66 62 rfl rfl))))
      have b_32 : 0 ≤ (G.1 66 63).toInt ∧ (G.1 66 63).toInt ≤ 99 := bd_66_63 hB_G
      have g_33 : (G_14.1 66 63).toInt = (G.1 66 63).toInt := (congrArg Int32.toInt (show G_14.1 66 63 = (G.1 66 63) from ((hq_15.i9 66 63 rfl rfl).trans (hq_3.i9 66 63 rfl rfl))))
      have b_34 : 0 ≤ (G.1 98 400).toInt ∧ (G.1 98 400).toInt ≤ 1 := bd_98_400 hB_G
      have g_35 : (G_14.1 98 400).toInt = (G.1 98 400).toInt := (congrArg Int32.toInt (show G_14.1 98 400 = (G.1 98 400) from ((hq_15.i9 98 400 rfl rfl).trans (hq_3.i9 98 400 rfl rfl))))
      refine S_callv (va_runV (As := [.int x_6, .int x_18]) (rest := []) ⟨hx, hb, hml, hown, hts⟩ (n_layNeed l D k A a z G_14 x_6 x_18 ⟨(by first | (clear hle1 hml9 h400 hn_11 hn_23 f_21 c_24 b_27 g_28 g_29 b_30 g_31 b_32 g_33 b_34 g_35; omega) | omega), (by first | (clear hle1 hml9 h400 hn_11 hn_23 f_21 c_24 b_27 g_28 g_29 b_30 g_31 b_32 g_33 b_34 g_35; omega) | omega)⟩ ⟨(by first | (clear hle1 hml9 h400 hn_11 f_9 c_12 hn_23 b_27 g_28 g_29 b_30 g_31 b_32 g_33 b_34 g_35; omega) | omega), (by first | (clear hle1 hml9 h400 hn_11 f_9 c_12 hn_23 b_27 g_28 g_29 b_30 g_31 b_32 g_33 b_34 g_35; omega) | omega)⟩ ((by first | (clear h400 hn_11 f_9 c_12 hn_23 f_21 c_24 b_34 g_35; omega) | omega)) ((by first | exact ⟨((by first | (clear h400 hn_11 f_9 c_12 hn_23 f_21 c_24 b_34 g_35; omega) | omega)), ((by first | (clear h400 hn_11 f_9 c_12 hn_23 f_21 c_24 b_34 g_35; omega) | omega))⟩ | omega)) ((by first | (clear hle1 hml9 hn_11 f_9 c_12 hn_23 f_21 c_24 b_27 g_28 g_29 b_30 g_31 b_32 g_33; omega) | omega)) (by assumption)) (cwV 2 hts (gd_V hgd m1850 m1852 m94 m131 m1853) rfl rfl rfl hd_X12_layNeed ⟨Nat.le_of_ble_eq_true rfl, Nat.le_of_ble_eq_true rfl⟩) (pre_W hW hB_G_14 hK hZ hS kd_66 rfl) rfl rfl hl.1 rfl (lv_room (Nat.le_of_ble_eq_true rfl)) dX12_layNeeds_18 ⟨Nat.le_of_ble_eq_true rfl, Nat.le_of_ble_eq_true rfl⟩) hS (fun G_37 H locs hpo hW hS => ?_)
      have hX_40 : Q_layNeed x_6 x_18 G_14 G_37 := hpo
      obtain ⟨hB_G_37, hq_38, hp_39, -⟩ := hpo
      have hF := hF.call9 hq_38 rfl rfl
      obtain ⟨y_41, ey_41⟩ : ∃ q, q = x_18 + 1 := ⟨_, rfl⟩
      have ty_41 : y_41.toInt = x_18.toInt + 1 := xI_add rfl rfl ey_41 ((by first | (clear hle1 hml9 h400 hn_11 f_9 c_12 hn_23 b_27 g_28 g_29 b_30 g_31 b_32 g_33 b_34 g_35; omega) | omega)) ((by first | (clear hle1 hml9 h400 hn_11 f_9 c_12 hn_23 b_27 g_28 g_29 b_30 g_31 b_32 g_33 b_34 g_35; omega) | omega))
      refine lv_iinc (v := y_41) (lv' := [(2, .int y_41), (1, .int x_6), (0, .ref (a 66))]) hx hb dX12_layNeeds_21 hl (k := 0) rfl (by rw [ey_41]; rfl) (lt_b rfl) rfl (fun ls hl => ?_)
      have hq_42 : PRG G_37 x_6.toInt y_41.toInt := by rw [ty_41]; assumption
      refine lv_goto (tgt := 10) hx hb dX12_layNeeds_24 rfl ?_
      exact ih_16 (2 - y_41.toInt : Int).toNat ((by first | (clear hle1 hml9 h400 hn_11 f_9 c_12 b_27 g_28 g_29 b_30 g_31 b_32 g_33 b_34 g_35; omega) | omega)) _ _ _ ⟨G_37, y_41, (Int.toNat_of_nonneg ((by first | (clear hle1 hml9 h400 hn_11 f_9 c_12 hn_23 b_27 g_28 g_29 b_30 g_31 b_32 g_33 b_34 g_35; omega) | omega))), ⟨(by first | (clear hle1 hml9 h400 hn_11 f_9 c_12 hn_23 b_27 g_28 g_29 b_30 g_31 b_32 g_33 b_34 g_35; omega) | omega), (by first | (clear hle1 hml9 h400 hn_11 f_9 c_12 hn_23 b_27 g_28 g_29 b_30 g_31 b_32 g_33 b_34 g_35; omega) | omega)⟩, (by assumption), (hX_19.st (St_n_layNeeds_2_mk ⟨x_18, G_14, y_41, G_37, rfl, rfl, f_21, f_22, hB_G_14, ⟨c_24, ⟨G_37, hX_40, ⟨y_41, ty_41, ⟨rfl, rfl⟩⟩⟩⟩⟩)), hW, hB_G_37, hF, (Fr.call9 (rs := [99]) (fs := []) (Fr.call9 (rs := [99]) (fs := []) Fr.rf hq_15 rfl rfl) hq_38 rfl rfl), hS, lv_sub hl [0, 1, 2] rfl⟩
