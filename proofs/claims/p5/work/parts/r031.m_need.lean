theorem m94 : Cond.selects RX12 yX12_layNeed yX12_layNeed ∈ gd := gd_mem 94 (by decide +kernel) (by decide +kernel)
theorem m1850 : Cond.methodLink RX12 496 yX12_layNeed ∈ gd := gd_mem 1850 (by decide +kernel) (by decide +kernel)
theorem m1852 : Cond.instanceMethod yX12_layNeed ∈ gd := gd_mem 1852 (by decide +kernel) (by decide +kernel)
theorem m1853 : Cond.code yX12_layNeed cX12_layNeed 6 none ∈ gd := gd_mem 1853 (by decide +kernel) (by decide +kernel)
theorem dX12_layNeeds_0 : decode cX12_layNeeds 0 = .ok (.sipush 399, 3) := by decide +kernel
theorem dX12_layNeeds_3 : decode cX12_layNeeds 3 = .ok (.istore_n 1, 1) := by decide +kernel
theorem dX12_layNeeds_4 : decode cX12_layNeeds 4 = .ok (.iload_n 1, 1) := by decide +kernel
theorem dX12_layNeeds_5 : decode cX12_layNeeds 5 = .ok (.ifCond .lt 28, 3) := by decide +kernel
theorem dX12_layNeeds_8 : decode cX12_layNeeds 8 = .ok (.iconst 0, 1) := by decide +kernel
theorem dX12_layNeeds_9 : decode cX12_layNeeds 9 = .ok (.istore_n 2, 1) := by decide +kernel
theorem dX12_layNeeds_10 : decode cX12_layNeeds 10 = .ok (.iload_n 2, 1) := by decide +kernel
theorem dX12_layNeeds_11 : decode cX12_layNeeds 11 = .ok (.iconst 2, 1) := by decide +kernel
theorem dX12_layNeeds_12 : decode cX12_layNeeds 12 = .ok (.if_icmp .ge 15, 3) := by decide +kernel
theorem dX12_layNeeds_15 : decode cX12_layNeeds 15 = .ok (.aload_n 0, 1) := by decide +kernel
theorem dX12_layNeeds_16 : decode cX12_layNeeds 16 = .ok (.iload_n 1, 1) := by decide +kernel
theorem dX12_layNeeds_17 : decode cX12_layNeeds 17 = .ok (.iload_n 2, 1) := by decide +kernel
theorem dX12_layNeeds_18 : decode cX12_layNeeds 18 = .ok (.invokevirtual 496, 3) := by decide +kernel
theorem dX12_layNeeds_21 : decode cX12_layNeeds 21 = .ok (.iinc 2 1, 3) := by decide +kernel
theorem dX12_layNeeds_24 : decode cX12_layNeeds 24 = .ok (.goto (-14), 3) := by decide +kernel
theorem dX12_layNeeds_27 : decode cX12_layNeeds 27 = .ok (.iinc 1 (-1), 3) := by decide +kernel
theorem dX12_layNeeds_30 : decode cX12_layNeeds 30 = .ok (.goto (-26), 3) := by decide +kernel
theorem dX12_layNeeds_33 : decode cX12_layNeeds 33 = .ok (.return_, 1) := by decide +kernel
set_option maxHeartbeats 4000000 in
set_option maxRecDepth 100000 in
theorem n_layNeeds (l : Launch) (D : va_G) (k : KT) (A : Nat → Prop) (a : Nat → Nat) (z : SK) (G : GS)  (hle1 : 1 ≤ (G.1 66 61).toInt) (hml9 : (G.1 66 61).toInt ≤ (G.1 66 62).toInt ∧ (G.1 66 62).toInt ≤ (G.1 66 63).toInt) (h400 : (G.1 98 400).toInt = 0) : Met l yX12_layNeeds (WS yX12_layNeeds cX12_layNeeds 3 none) ({ frames := 3, cells := 0, slots := 0, locals := 67 }) (va_Pc [.ref (a 66)] (cW D k A a z G)) (va_Qv (fun (G1 : GS) => Bd G1 ∧ Fr [99] [] G G1 ∧ (PRG G1 (-1) 0)) (fun (G1 : GS) t => Wd D k A a G1 t.heap) A) 0 0 A := by
  refine Met.ofW (cc := cX12_layNeeds) (maxL := 3) (ret := none) (by decide) rfl ?_
  intro p e s m args below meth c s₁ B hml hv
  obtain ⟨rfl, hW, hB_G, hK, hZ⟩ := hv
  have hx := B.exec
  have hb := B.bytes
  have hr := B.returns
  have hts := atoms_spec (ws := WS yX12_layNeeds cX12_layNeeds 3 none) B.pre
  have hgd : ∀ w ∈ gd, w ∈ WS yX12_layNeeds cX12_layNeeds 3 none := fun w h => List.mem_cons_of_mem _ h
  have hg : ∀ w ∈ gd, w.before _ s = true := fun w h => hts w (hgd w h)
  have hown : s.vm.findClass RX12 = some m.cls := findClass_of_methodNamed B.named
  have hS : va_S A s.heap s.heap [] := va_S.rf
  have hF : Fr [99] [] G G := Fr.rf
  have hl := lv_entry ([.ref (a 66)]) (n := 3) (Nat.le_of_ble_eq_true rfl)
  rw [lg_entry_eq]
  generalize (lg_sl ([.ref (a 66)]) ++ List.replicate (3 - (lg_sl ([.ref (a 66)])).length) Slot.unset).toArray = ls at hl ⊢
  have hl : lv_has ls 3 [(0, .ref (a 66))] := hl
  refine lv_sipush (v := 399) hx hb dX12_layNeeds_0 (by decide) ?_
  have hq_1 : PRG G (399 : Int32).toInt 0 := PRG_0 G
  refine lv_istore_n (lv' := [(1, .int 399), (0, .ref (a 66))]) hx hb dX12_layNeeds_3 rfl hl (by decide) rfl (fun ls hl => ?_)
  have qc_7 : (399 : Int32).toInt = 399 := rfl
  refine loop_N (Inv := fun n H locs ls => ∃ (G_2 : GS) (x_6 : Int32), (n : Int) = x_6.toInt - (-1) ∧ ((-1) ≤ x_6.toInt ∧ x_6.toInt ≤ 399) ∧ (PRG G_2 x_6.toInt 0) ∧ Wd D k A a G_2 H ∧ Bd G_2 ∧ Fr [99] [] G G_2 ∧ Fr [99] [] G G_2 ∧ va_S A s.heap H locs ∧ lv_has ls 3 [(1, .int x_6), (0, .ref (a 66))]) (fun n_5 H locs ls ih_4 hI => ?_) (399 - (-1) : Int).toNat ⟨G, 399, (Int.toNat_of_nonneg (by omega)), ⟨by omega, by omega⟩, (by assumption), hW, hB_G, hF, Fr.rf, hS, lv_sub hl [0, 1] rfl⟩
  obtain ⟨G_2, x_6, hn_10, f_8, f_9, hW, hB_G_2, hF, hq_3, hS, hl⟩ := hI
  refine lv_iload_n hx hb dX12_layNeeds_4 rfl (lv_at hl 0 rfl) ?_
  refine lv_if_lt (tgt := 33) hx hb dX12_layNeeds_5 (by decide) (fun c_11 => ?_) (fun c_11 => ?_)
  · have c_11 : x_6.toInt < 0 := xI_lt rfl rfl c_11
    have hqE_ : PRG G_2 (-1) 0 := by rw [show (-1 : Int) = x_6.toInt from by omega]; assumption
    exact W.vret hx hb hr (fun t ht _ => ⟨⟨G_2, rfl, ⟨hB_G_2, hF, (show PRG G_2 (-1) 0 from hqE_)⟩, wd_t ht hW⟩, hS.F ht⟩) hS.2.2 dX12_layNeeds_33
  · have c_11 : 0 ≤ x_6.toInt := xI_nlt rfl rfl c_11
    refine lv_iconst (v := 0) hx hb dX12_layNeeds_8 (by decide) ?_
    have hq_12 : PRG G_2 x_6.toInt (0 : Int32).toInt := by assumption
    refine lv_istore_n (lv' := [(2, .int 0), (1, .int x_6), (0, .ref (a 66))]) hx hb dX12_layNeeds_9 rfl hl (by decide) rfl (fun ls hl => ?_)
    have qc_18 : (0 : Int32).toInt = 0 := rfl
    refine loop_N (Inv := fun n H locs ls => ∃ (G_13 : GS) (x_17 : Int32), (n : Int) = 2 - x_17.toInt ∧ (0 ≤ x_17.toInt ∧ x_17.toInt ≤ 2) ∧ (PRG G_13 x_6.toInt x_17.toInt) ∧ Wd D k A a G_13 H ∧ Bd G_13 ∧ Fr [99] [] G G_13 ∧ Fr [99] [] G_2 G_13 ∧ va_S A s.heap H locs ∧ lv_has ls 3 [(2, .int x_17), (1, .int x_6), (0, .ref (a 66))]) (fun n_16 H locs ls ih_15 hI => ?_) (2 - 0 : Int).toNat ⟨G_2, 0, (Int.toNat_of_nonneg (by omega)), ⟨by omega, by omega⟩, (by assumption), hW, hB_G_2, hF, Fr.rf, hS, lv_sub hl [0, 1, 2] rfl⟩
    obtain ⟨G_13, x_17, hn_21, f_19, f_20, hW, hB_G_13, hF, hq_14, hS, hl⟩ := hI
    refine lv_iload_n hx hb dX12_layNeeds_10 rfl (lv_at hl 0 rfl) ?_
    refine lv_iconst (v := 2) hx hb dX12_layNeeds_11 (by decide) ?_
    refine lv_icmp_ge (tgt := 27) hx hb dX12_layNeeds_12 (by decide) (fun c_22 => ?_) (fun c_22 => ?_)
    · have c_22 : 2 ≤ x_17.toInt := xI_le rfl rfl c_22
      obtain ⟨y_23, ey_23⟩ : ∃ q, q = x_6 + (-1) := ⟨_, rfl⟩
      have ty_23 : y_23.toInt = x_6.toInt + (-1) := xI_add rfl rfl ey_23 (by omega) (by omega)
      refine lv_iinc (v := y_23) (lv' := [(1, .int y_23), (2, .int x_17), (0, .ref (a 66))]) hx hb dX12_layNeeds_27 hl (k := 1) rfl (by rw [ey_23]; rfl) (by decide) rfl (fun ls hl => ?_)
      have hq_24 : PRG G_13 y_23.toInt 0 := PRG_dn (show PRG G_13 x_6.toInt x_17.toInt by assumption) (by omega) (by omega)
      refine lv_goto (tgt := 4) hx hb dX12_layNeeds_30 (by decide) ?_
      exact ih_4 (y_23.toInt - (-1) : Int).toNat (by omega) _ _ _ ⟨G_13, y_23, (Int.toNat_of_nonneg (by omega)), ⟨by omega, by omega⟩, (by assumption), hW, hB_G_13, hF, ((Fr.rf.call hq_3 (by decide) (by decide)).call hq_14 (by decide) (by decide)), hS, lv_sub hl [0, 2] rfl⟩
    · have c_22 : x_17.toInt < 2 := xI_nle rfl rfl c_22
      refine lv_aload_n hx hb dX12_layNeeds_15 rfl (lv_at hl 2 rfl) ?_
      refine lv_iload_n hx hb dX12_layNeeds_16 rfl (lv_at hl 1 rfl) ?_
      refine lv_iload_n hx hb dX12_layNeeds_17 rfl (lv_at hl 0 rfl) ?_
      have b_25 : 0 ≤ (G.1 66 61).toInt ∧ (G.1 66 61).toInt ≤ 60 := hB_G.i 66 61 rfl rfl
      have g_26 : (G_13.1 66 61).toInt = (G.1 66 61).toInt := by rw [show G_13.1 66 61 = (G.1 66 61) from ((hq_14.i 66 61 (by decide) (by decide)).trans (hq_3.i 66 61 (by decide) (by decide)))]
      have g_27 : (G_13.1 66 61).toInt = (G.1 66 61).toInt := by rw [show G_13.1 66 61 = (G.1 66 61) from ((hq_14.i 66 61 (by decide) (by decide)).trans ((hq_3.i 66 61 (by decide) (by decide)).trans (rfl)))]
      have b_28 : 0 ≤ (G.1 66 62).toInt ∧ (G.1 66 62).toInt ≤ 60 := hB_G.i 66 62 rfl rfl
      have g_29 : (G_13.1 66 62).toInt = (G.1 66 62).toInt := by rw [show G_13.1 66 62 = (G.1 66 62) from ((hq_14.i 66 62 (by decide) (by decide)).trans (hq_3.i 66 62 (by decide) (by decide)))]
      have b_30 : 0 ≤ (G.1 66 63).toInt ∧ (G.1 66 63).toInt ≤ 99 := hB_G.i 66 63 rfl rfl
      have g_31 : (G_13.1 66 63).toInt = (G.1 66 63).toInt := by rw [show G_13.1 66 63 = (G.1 66 63) from ((hq_14.i 66 63 (by decide) (by decide)).trans (hq_3.i 66 63 (by decide) (by decide)))]
      have b_32 : 0 ≤ (G.1 98 400).toInt ∧ (G.1 98 400).toInt ≤ 1 := hB_G.i 98 400 rfl rfl
      have g_33 : (G_13.1 98 400).toInt = (G.1 98 400).toInt := by rw [show G_13.1 98 400 = (G.1 98 400) from ((hq_14.i 98 400 (by decide) (by decide)).trans (hq_3.i 98 400 (by decide) (by decide)))]
      refine S_callv (va_runV (As := [.int x_6, .int x_17]) (rest := []) ⟨hx, hb, hml, hown, hts⟩ (n_layNeed l D k A a z G_13 x_6 x_17 ⟨by omega, by omega⟩ ⟨by omega, by omega⟩ (by omega) (by omega) (by omega) (by assumption)) (cwV 2 hts (gd_V hgd m1850 m1852 m94 m131 m1853) rfl rfl rfl (by decide +kernel) ⟨Nat.le_of_ble_eq_true rfl, Nat.le_of_ble_eq_true rfl⟩) (pre_V hW hB_G_13 hK hZ hS kd_66 rfl) rfl rfl hl.1 rfl (lv_room (Nat.le_of_ble_eq_true rfl)) dX12_layNeeds_18 ⟨Nat.le_of_ble_eq_true rfl, Nat.le_of_ble_eq_true rfl⟩) hS (fun G_35 H locs hpo hW hS => ?_)
      obtain ⟨hB_G_35, hq_36, hp_37⟩ := hpo
      have hF := hF.call hq_36 (by decide) (by decide)
      obtain ⟨y_38, ey_38⟩ : ∃ q, q = x_17 + 1 := ⟨_, rfl⟩
      have ty_38 : y_38.toInt = x_17.toInt + 1 := xI_add rfl rfl ey_38 (by omega) (by omega)
      refine lv_iinc (v := y_38) (lv' := [(2, .int y_38), (1, .int x_6), (0, .ref (a 66))]) hx hb dX12_layNeeds_21 hl (k := 0) rfl (by rw [ey_38]; rfl) (by decide) rfl (fun ls hl => ?_)
      have hq_39 : PRG G_35 x_6.toInt y_38.toInt := by rw [ty_38]; assumption
      refine lv_goto (tgt := 10) hx hb dX12_layNeeds_24 (by decide) ?_
      exact ih_15 (2 - y_38.toInt : Int).toNat (by omega) _ _ _ ⟨G_35, y_38, (Int.toNat_of_nonneg (by omega)), ⟨by omega, by omega⟩, (by assumption), hW, hB_G_35, hF, ((Fr.rf.call hq_14 (by decide) (by decide)).call hq_36 (by decide) (by decide)), hS, lv_sub hl [0, 1, 2] rfl⟩
