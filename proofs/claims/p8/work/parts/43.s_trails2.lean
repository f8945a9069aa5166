theorem m443 : Cond.fieldLink RX10 26 "SlabWalk$Trails" "winning" "[I" ∈ gd := gdc_2_5 7 rfl gw_fieldLink
theorem m445 : Cond.fieldLink RX10 30 "SlabWalk$Trails" "leaving" "[Z" ∈ gd := gdc_2_5 9 rfl gw_fieldLink
def rbX10_winningFrom_0 : List (Nat × List Nat) := [(0, [3]), (1, [62]), (2, [29]), (3, [16, 6]), (5, [162, 0, 52]), (8, [4]), (9, [29]), (10, [120]), (11, [28]), (12, [163, 0, 45]), (15, [27]), (16, [4]), (17, [29]), (18, [120]), (19, [128]), (20, [54, 4]), (22, [21, 4]), (24, [27]), (25, [159, 0, 26]), (28, [42]), (29, [180, 0, 30]), (32, [21, 4]), (34, [51]), (35, [153, 0, 16])]
theorem rcX10_winningFrom_0 : dgo (lb cX10_winningFrom) 0 rbX10_winningFrom_0 = true := by decide +kernel
theorem dX10_winningFrom_0 : decode cX10_winningFrom 0 = .ok (.iconst 0, 1) := dk_3 (dw rcX10_winningFrom_0 0 rfl)
theorem dX10_winningFrom_1 : decode cX10_winningFrom 1 = .ok (.istore_n 3, 1) := dk_62 (dw rcX10_winningFrom_0 1 rfl)
theorem dX10_winningFrom_2 : decode cX10_winningFrom 2 = .ok (.iload_n 3, 1) := dk_29 (dw rcX10_winningFrom_0 2 rfl)
theorem dX10_winningFrom_3 : decode cX10_winningFrom 3 = .ok (.bipush 6, 2) := dk_16 (dw rcX10_winningFrom_0 3 rfl) rfl
theorem dX10_winningFrom_5 : decode cX10_winningFrom 5 = .ok (.if_icmp .ge 52, 3) := dk_162 (dw rcX10_winningFrom_0 4 rfl) rfl
theorem dX10_winningFrom_8 : decode cX10_winningFrom 8 = .ok (.iconst 1, 1) := dk_4 (dw rcX10_winningFrom_0 5 rfl)
theorem dX10_winningFrom_9 : decode cX10_winningFrom 9 = .ok (.iload_n 3, 1) := dk_29 (dw rcX10_winningFrom_0 6 rfl)
theorem dX10_winningFrom_10 : decode cX10_winningFrom 10 = .ok (.ishl, 1) := dk_120 (dw rcX10_winningFrom_0 7 rfl)
theorem dX10_winningFrom_11 : decode cX10_winningFrom 11 = .ok (.iload_n 2, 1) := dk_28 (dw rcX10_winningFrom_0 8 rfl)
theorem dX10_winningFrom_12 : decode cX10_winningFrom 12 = .ok (.if_icmp .gt 45, 3) := dk_163 (dw rcX10_winningFrom_0 9 rfl) rfl
theorem dX10_winningFrom_15 : decode cX10_winningFrom 15 = .ok (.iload_n 1, 1) := dk_27 (dw rcX10_winningFrom_0 10 rfl)
theorem dX10_winningFrom_16 : decode cX10_winningFrom 16 = .ok (.iconst 1, 1) := dk_4 (dw rcX10_winningFrom_0 11 rfl)
theorem dX10_winningFrom_17 : decode cX10_winningFrom 17 = .ok (.iload_n 3, 1) := dk_29 (dw rcX10_winningFrom_0 12 rfl)
theorem dX10_winningFrom_18 : decode cX10_winningFrom 18 = .ok (.ishl, 1) := dk_120 (dw rcX10_winningFrom_0 13 rfl)
theorem dX10_winningFrom_19 : decode cX10_winningFrom 19 = .ok (.ior, 1) := dk_128 (dw rcX10_winningFrom_0 14 rfl)
theorem dX10_winningFrom_20 : decode cX10_winningFrom 20 = .ok (.istore 4, 2) := dk_54 (dw rcX10_winningFrom_0 15 rfl)
theorem dX10_winningFrom_22 : decode cX10_winningFrom 22 = .ok (.iload 4, 2) := dk_21 (dw rcX10_winningFrom_0 16 rfl)
theorem dX10_winningFrom_24 : decode cX10_winningFrom 24 = .ok (.iload_n 1, 1) := dk_27 (dw rcX10_winningFrom_0 17 rfl)
theorem dX10_winningFrom_25 : decode cX10_winningFrom 25 = .ok (.if_icmp .eq 26, 3) := dk_159 (dw rcX10_winningFrom_0 18 rfl) rfl
theorem dX10_winningFrom_28 : decode cX10_winningFrom 28 = .ok (.aload_n 0, 1) := dk_42 (dw rcX10_winningFrom_0 19 rfl)
theorem dX10_winningFrom_29 : decode cX10_winningFrom 29 = .ok (.getfield 30, 3) := dk_180 (dw rcX10_winningFrom_0 20 rfl) rfl
theorem dX10_winningFrom_32 : decode cX10_winningFrom 32 = .ok (.iload 4, 2) := dk_21 (dw rcX10_winningFrom_0 21 rfl)
theorem dX10_winningFrom_34 : decode cX10_winningFrom 34 = .ok (.baload, 1) := dk_51 (dw rcX10_winningFrom_0 22 rfl)
theorem dX10_winningFrom_35 : decode cX10_winningFrom 35 = .ok (.ifCond .eq 16, 3) := dk_153 (dw rcX10_winningFrom_0 23 rfl) rfl
def rbX10_winningFrom_38 : List (Nat × List Nat) := [(38, [42]), (39, [180, 0, 26]), (42, [21, 4]), (44, [46]), (45, [2]), (46, [160, 0, 5]), (49, [29]), (50, [172]), (51, [132, 3, 1]), (54, [167, 255, 204]), (57, [2]), (58, [172])]
theorem rcX10_winningFrom_38 : dgo (lb cX10_winningFrom) 0 rbX10_winningFrom_38 = true := by decide +kernel
theorem dX10_winningFrom_38 : decode cX10_winningFrom 38 = .ok (.aload_n 0, 1) := dk_42 (dw rcX10_winningFrom_38 0 rfl)
theorem dX10_winningFrom_39 : decode cX10_winningFrom 39 = .ok (.getfield 26, 3) := dk_180 (dw rcX10_winningFrom_38 1 rfl) rfl
theorem dX10_winningFrom_42 : decode cX10_winningFrom 42 = .ok (.iload 4, 2) := dk_21 (dw rcX10_winningFrom_38 2 rfl)
theorem dX10_winningFrom_44 : decode cX10_winningFrom 44 = .ok (.iaload, 1) := dk_46 (dw rcX10_winningFrom_38 3 rfl)
theorem dX10_winningFrom_45 : decode cX10_winningFrom 45 = .ok (.iconst (-1), 1) := dk_2 (dw rcX10_winningFrom_38 4 rfl)
theorem dX10_winningFrom_46 : decode cX10_winningFrom 46 = .ok (.if_icmp .ne 5, 3) := dk_160 (dw rcX10_winningFrom_38 5 rfl) rfl
theorem dX10_winningFrom_49 : decode cX10_winningFrom 49 = .ok (.iload_n 3, 1) := dk_29 (dw rcX10_winningFrom_38 6 rfl)
theorem dX10_winningFrom_50 : decode cX10_winningFrom 50 = .ok (.ireturn, 1) := dk_172 (dw rcX10_winningFrom_38 7 rfl)
theorem dX10_winningFrom_51 : decode cX10_winningFrom 51 = .ok (.iinc 3 1, 3) := dk_132 (dw rcX10_winningFrom_38 8 rfl) rfl
theorem dX10_winningFrom_54 : decode cX10_winningFrom 54 = .ok (.goto (-52), 3) := dk_167 (dw rcX10_winningFrom_38 9 rfl) rfl
theorem dX10_winningFrom_57 : decode cX10_winningFrom 57 = .ok (.iconst (-1), 1) := dk_2 (dw rcX10_winningFrom_38 10 rfl)
theorem dX10_winningFrom_58 : decode cX10_winningFrom 58 = .ok (.ireturn, 1) := dk_172 (dw rcX10_winningFrom_38 11 rfl)
set_option maxHeartbeats 4000000 in
set_option maxRecDepth 100000 in
theorem k_tWin (l : Launch) (D : va_G) (k : KT) (A : Nat → Prop) (a : Nat → Nat) (z : SK) (G : GS) (p0 : Int32) (p1 : Int32) (ha_p0 : 0 ≤ p0.toInt ∧ p0.toInt ≤ 63) (ha_p1 : 0 ≤ p1.toInt ∧ p1.toInt ≤ 63) : Met l yX10_winningFrom (WS yX10_winningFrom cX10_winningFrom 5 (some .int)) ({ frames := 0, cells := 0, slots := 0, locals := 0 }) (va_Pc [.ref (a 8), .int p0, .int p1] (cW D k A a z G)) (va_Qi (fun (r : Int32) (G1 : GS) => P_tWin p0 p1 G r G1) (fun (G1 : GS) t => Wd D k A a G1 t.heap) A) 0 0 A := by
  refine Met.ofW (cc := cX10_winningFrom) (maxL := 5) (ret := (some .int)) (by decide) rfl ?_
  intro p e s m args below meth c s₁ B hml hv
  obtain ⟨rfl, hW, hB_G, hK, hZ⟩ := hv
  have hx := B.exec
  have hb := B.bytes
  have hr := B.returns
  have hts := atoms_spec (ws := WS yX10_winningFrom cX10_winningFrom 5 (some .int)) B.pre
  have hgd : ∀ w ∈ gd, w ∈ WS yX10_winningFrom cX10_winningFrom 5 (some .int) := fun w h => List.mem_cons_of_mem _ h
  have hg : ∀ w ∈ gd, w.before _ s = true := fun w h => hts w (hgd w h)
  have hown : s.vm.findClass RX10 = some m.cls := findClass_of_methodNamed B.named
  have hS : va_S A s.heap s.heap [] := va_S.rf
  have hF : Fr [] [] G G := Fr.rf
  have hl := lv_entry ([.ref (a 8), .int p0, .int p1]) (n := 5) (Nat.le_of_ble_eq_true rfl)
  rw [lg_entry_eq]
  generalize (lg_sl ([.ref (a 8), .int p0, .int p1]) ++ List.replicate (5 - (lg_sl ([.ref (a 8), .int p0, .int p1])).length) Slot.unset).toArray = ls at hl ⊢
  have hl : lv_has ls 5 [(0, .ref (a 8)), (1, .int p0), (2, .int p1)] := hl
  refine ic_0 hx hb dX10_winningFrom_0 ?_
  refine lv_istore_n (lv' := [(3, .int 0), (0, .ref (a 8)), (1, .int p0), (2, .int p1)]) hx hb dX10_winningFrom_1 rfl hl (lt_b rfl) rfl (fun ls hl => ?_)
  have qc_7 : (0 : Int32).toInt = 0 := rfl
  refine loop_N (Inv := fun n H locs ls => ∃ (G_1 : GS) (x_5 : Int32), (n : Int) = 6 - x_5.toInt ∧ (0 ≤ x_5.toInt ∧ x_5.toInt ≤ 6) ∧ Rc (St_k_tWin_1 p0 p1) (0, G) (x_5, G_1) ∧ Wd D k A a G_1 H ∧ Bd G_1 ∧ Fr [] [] G G_1 ∧ Fr [] [] G G_1 ∧ va_S A s.heap H locs ∧ lv_has ls 5 [(3, .int x_5), (0, .ref (a 8)), (1, .int p0), (2, .int p1)]) (fun n_4 H locs ls ih_3 hI => ?_) (6 - 0 : Int).toNat ⟨G, 0, (Int.toNat_of_nonneg (by omega)), ⟨by omega, by omega⟩, Rc.rf, hW, hB_G, hF, Fr.rf, hS, lv_sub hl [0, 1, 2, 3] rfl⟩
  obtain ⟨G_1, x_5, hn_9, f_8, hX_6, hW, hB_G_1, hF, hq_2, hS, hl⟩ := hI
  refine lv_iload_n hx hb dX10_winningFrom_2 rfl (lv_at hl 0 rfl) ?_
  refine lv_bipush (v := 6) hx hb dX10_winningFrom_3 (by decide) ?_
  refine lv_icmp_ge (tgt := 57) hx hb dX10_winningFrom_5 rfl (fun c_10 => ?_) (fun c_10 => ?_)
  · have c_10 : 6 ≤ x_5.toInt := xI_le rfl rfl c_10
    refine ic_m1 hx hb dX10_winningFrom_57 ?_
    exact W.iret (v := (-1)) hx hb hr (fun t ht _ => ⟨⟨(-1), G_1, rfl, (P_tWin_mk ⟨hB_G_1, hF, ⟨x_5, G_1, hX_6, f_8, hB_G_1, hq_2, (Or.inl ⟨c_10, ⟨rfl, rfl⟩⟩)⟩⟩), wd_t ht hW⟩, hS.F ht⟩) hS.2.2 dX10_winningFrom_58
  · have c_10 : x_5.toInt < 6 := xI_nle rfl rfl c_10
    refine ic_1 hx hb dX10_winningFrom_8 ?_
    refine lv_iload_n hx hb dX10_winningFrom_9 rfl (lv_at hl 0 rfl) ?_
    refine lv_ishl hx hb dX10_winningFrom_10 ?_
    refine lv_topi (fun y_11 ey_11 => ?_)
    have ty_11 := sh5 (Y := x_5.toInt) rfl ey_11 rfl (by omega) (by omega)
    refine lv_iload_n hx hb dX10_winningFrom_11 rfl (lv_at hl 3 rfl) ?_
    refine lv_icmp_gt (tgt := 57) hx hb dX10_winningFrom_12 rfl (fun c_12 => ?_) (fun c_12 => ?_)
    · have c_12 : p1.toInt < y_11.toInt := xI_lt rfl rfl c_12
      refine ic_m1 hx hb dX10_winningFrom_57 ?_
      exact W.iret (v := (-1)) hx hb hr (fun t ht _ => ⟨⟨(-1), G_1, rfl, (P_tWin_mk ⟨hB_G_1, hF, ⟨x_5, G_1, hX_6, f_8, hB_G_1, hq_2, (Or.inr ⟨c_10, ⟨y_11, ey_11, (Or.inl ⟨c_12, ⟨rfl, rfl⟩⟩)⟩⟩)⟩⟩), wd_t ht hW⟩, hS.F ht⟩) hS.2.2 dX10_winningFrom_58
    · have c_12 : y_11.toInt ≤ p1.toInt := xI_nlt rfl rfl c_12
      refine lv_iload_n hx hb dX10_winningFrom_15 rfl (lv_at hl 2 rfl) ?_
      refine ic_1 hx hb dX10_winningFrom_16 ?_
      refine lv_iload_n hx hb dX10_winningFrom_17 rfl (lv_at hl 0 rfl) ?_
      refine lv_ishl hx hb dX10_winningFrom_18 ?_
      refine lv_topi (fun y_13 ey_13 => ?_)
      have ty_13 := sh5 (Y := x_5.toInt) rfl ey_13 rfl (by omega) (by omega)
      refine lv_ior hx hb dX10_winningFrom_19 ?_
      refine lv_topi (fun y_14 ey_14 => ?_)
      have ty_14 := or6 ey_14 ⟨by omega, by omega⟩ ⟨by omega, by omega⟩
      refine lv_istore (lv' := [(4, .int y_14), (3, .int x_5), (0, .ref (a 8)), (1, .int p0), (2, .int p1)]) hx hb dX10_winningFrom_20 hl (lt_b rfl) rfl (fun ls hl => ?_)
      refine lv_iload hx hb dX10_winningFrom_22 (lv_at hl 0 rfl) ?_
      refine lv_iload_n hx hb dX10_winningFrom_24 rfl (lv_at hl 3 rfl) ?_
      refine lv_icmp_eq (tgt := 51) hx hb dX10_winningFrom_25 rfl (fun c_15 => ?_) (fun c_15 => ?_)
      · have c_15 : y_14.toInt = p0.toInt := xI_eq rfl rfl c_15
        obtain ⟨y_16, ey_16⟩ : ∃ q, q = x_5 + 1 := ⟨_, rfl⟩
        have ty_16 : y_16.toInt = x_5.toInt + 1 := xI_add rfl rfl ey_16 ((by first | (clear ha_p0 ha_p1 hn_9 c_12 c_15; omega) | omega)) ((by first | (clear ha_p0 ha_p1 hn_9 c_12 c_15; omega) | omega))
        refine lv_iinc (v := y_16) (lv' := [(3, .int y_16), (4, .int y_14), (0, .ref (a 8)), (1, .int p0), (2, .int p1)]) hx hb dX10_winningFrom_51 hl (k := 1) rfl (by rw [ey_16]; rfl) (lt_b rfl) rfl (fun ls hl => ?_)
        refine lv_goto (tgt := 2) hx hb dX10_winningFrom_54 rfl ?_
        exact ih_3 (6 - y_16.toInt : Int).toNat ((by first | (clear ha_p0 ha_p1 c_12 c_15; omega) | omega)) _ _ _ ⟨G_1, y_16, (Int.toNat_of_nonneg ((by first | (clear ha_p0 ha_p1 hn_9 c_12 c_15; omega) | omega))), ⟨(by first | (clear ha_p0 ha_p1 hn_9 c_12 c_15; omega) | omega), (by first | (clear ha_p0 ha_p1 hn_9 c_12 c_15; omega) | omega)⟩, (hX_6.st (St_k_tWin_1_mk ⟨x_5, G_1, y_16, G_1, rfl, rfl, f_8, hB_G_1, ⟨c_10, ⟨y_11, ey_11, ⟨c_12, ⟨y_13, ey_13, ⟨y_14, ey_14, (Or.inl ⟨c_15, ⟨y_16, ty_16, ⟨rfl, rfl⟩⟩⟩)⟩⟩⟩⟩⟩⟩)), hW, hB_G_1, hF, (Fr.call9 (rs := []) (fs := []) Fr.rf hq_2 rfl rfl), hS, lv_sub hl [0, 2, 3, 4] rfl⟩
      · have c_15 : y_14.toInt ≠ p0.toInt := xI_ne rfl rfl c_15
        refine lv_aload_n hx hb dX10_winningFrom_28 rfl (lv_at hl 2 rfl) ?_
        refine S_getR (n := 47) (C := RX10) (T := TX10) (N := 5) hx hb hg iX10 hown hK hW kd_8 rfl 4 (lt_b rfl) (hg (Cond.fieldLink RX10 30 "SlabWalk$Trails" "leaving" "[Z") m445) (fun _ h9 => h9) rfl dX10_winningFrom_29 ?_
        refine lv_iload hx hb dX10_winningFrom_32 (lv_at hl 0 rfl) ?_
        refine S_zald hx hb hK hW kd_47 (vin ((by first | (clear ha_p1 hn_9 f_8 c_10 c_12; omega) | omega)) ((by first | (clear ha_p1 hn_9 f_8 c_10 c_12; omega) | omega))) dX10_winningFrom_34 (fun y_17 ey_17 => ?_)
        have ty_17 : 0 ≤ y_17.toInt ∧ y_17.toInt ≤ 1 := bv_47 hB_G_1 ey_17
        refine lv_if_eq (tgt := 51) hx hb dX10_winningFrom_35 rfl (fun c_18 => ?_) (fun c_18 => ?_)
        · have c_18 : y_17.toInt = 0 := xI_eq rfl rfl c_18
          obtain ⟨y_19, ey_19⟩ : ∃ q, q = x_5 + 1 := ⟨_, rfl⟩
          have ty_19 : y_19.toInt = x_5.toInt + 1 := xI_add rfl rfl ey_19 ((by first | (clear ha_p0 ha_p1 hn_9 c_12 c_15 ty_17 c_18; omega) | omega)) ((by first | (clear ha_p0 ha_p1 hn_9 c_12 c_15 ty_17 c_18; omega) | omega))
          refine lv_iinc (v := y_19) (lv' := [(3, .int y_19), (4, .int y_14), (0, .ref (a 8)), (1, .int p0), (2, .int p1)]) hx hb dX10_winningFrom_51 hl (k := 1) rfl (by rw [ey_19]; rfl) (lt_b rfl) rfl (fun ls hl => ?_)
          refine lv_goto (tgt := 2) hx hb dX10_winningFrom_54 rfl ?_
          exact ih_3 (6 - y_19.toInt : Int).toNat ((by first | (clear ha_p0 ha_p1 c_12 c_15 ty_17 c_18; omega) | omega)) _ _ _ ⟨G_1, y_19, (Int.toNat_of_nonneg ((by first | (clear ha_p0 ha_p1 hn_9 c_12 c_15 ty_17 c_18; omega) | omega))), ⟨(by first | (clear ha_p0 ha_p1 hn_9 c_12 c_15 ty_17 c_18; omega) | omega), (by first | (clear ha_p0 ha_p1 hn_9 c_12 c_15 ty_17 c_18; omega) | omega)⟩, (hX_6.st (St_k_tWin_1_mk ⟨x_5, G_1, y_19, G_1, rfl, rfl, f_8, hB_G_1, ⟨c_10, ⟨y_11, ey_11, ⟨c_12, ⟨y_13, ey_13, ⟨y_14, ey_14, (Or.inr ⟨c_15, ⟨y_17, ey_17, (Or.inl ⟨c_18, ⟨y_19, ty_19, ⟨rfl, rfl⟩⟩⟩)⟩⟩)⟩⟩⟩⟩⟩⟩)), hW, hB_G_1, hF, (Fr.call9 (rs := []) (fs := []) Fr.rf hq_2 rfl rfl), hS, lv_sub hl [0, 2, 3, 4] rfl⟩
        · have c_18 : y_17.toInt ≠ 0 := xI_ne rfl rfl c_18
          refine lv_aload_n hx hb dX10_winningFrom_38 rfl (lv_at hl 2 rfl) ?_
          refine S_getR (n := 46) (C := RX10) (T := TX10) (N := 5) hx hb hg iX10 hown hK hW kd_8 rfl 3 (lt_b rfl) (hg (Cond.fieldLink RX10 26 "SlabWalk$Trails" "winning" "[I") m443) (fun _ h9 => h9) rfl dX10_winningFrom_39 ?_
          refine lv_iload hx hb dX10_winningFrom_42 (lv_at hl 0 rfl) ?_
          refine S_iald hx hb hK hW kd_46 (vin ((by first | (clear ha_p1 hn_9 f_8 c_10 c_12 ty_17 c_18; omega) | omega)) ((by first | (clear ha_p1 hn_9 f_8 c_10 c_12 ty_17 c_18; omega) | omega))) dX10_winningFrom_44 (fun y_20 ey_20 => ?_)
          refine ic_m1 hx hb dX10_winningFrom_45 ?_
          refine lv_icmp_ne (tgt := 51) hx hb dX10_winningFrom_46 rfl (fun c_21 => ?_) (fun c_21 => ?_)
          · have c_21 : y_20.toInt ≠ (-1) := xI_ne rfl rfl c_21
            obtain ⟨y_22, ey_22⟩ : ∃ q, q = x_5 + 1 := ⟨_, rfl⟩
            have ty_22 : y_22.toInt = x_5.toInt + 1 := xI_add rfl rfl ey_22 ((by first | (clear ha_p0 ha_p1 hn_9 c_12 c_15 ty_17 c_18 c_21; omega) | omega)) ((by first | (clear ha_p0 ha_p1 hn_9 c_12 c_15 ty_17 c_18 c_21; omega) | omega))
            refine lv_iinc (v := y_22) (lv' := [(3, .int y_22), (4, .int y_14), (0, .ref (a 8)), (1, .int p0), (2, .int p1)]) hx hb dX10_winningFrom_51 hl (k := 1) rfl (by rw [ey_22]; rfl) (lt_b rfl) rfl (fun ls hl => ?_)
            refine lv_goto (tgt := 2) hx hb dX10_winningFrom_54 rfl ?_
            exact ih_3 (6 - y_22.toInt : Int).toNat ((by first | (clear ha_p0 ha_p1 c_12 c_15 ty_17 c_18 c_21; omega) | omega)) _ _ _ ⟨G_1, y_22, (Int.toNat_of_nonneg ((by first | (clear ha_p0 ha_p1 hn_9 c_12 c_15 ty_17 c_18 c_21; omega) | omega))), ⟨(by first | (clear ha_p0 ha_p1 hn_9 c_12 c_15 ty_17 c_18 c_21; omega) | omega), (by first | (clear ha_p0 ha_p1 hn_9 c_12 c_15 ty_17 c_18 c_21; omega) | omega)⟩, (hX_6.st (St_k_tWin_1_mk ⟨x_5, G_1, y_22, G_1, rfl, rfl, f_8, hB_G_1, ⟨c_10, ⟨y_11, ey_11, ⟨c_12, ⟨y_13, ey_13, ⟨y_14, ey_14, (Or.inr ⟨c_15, ⟨y_17, ey_17, (Or.inr ⟨c_18, ⟨y_20, ey_20, ⟨c_21, ⟨y_22, ty_22, ⟨rfl, rfl⟩⟩⟩⟩⟩)⟩⟩)⟩⟩⟩⟩⟩⟩)), hW, hB_G_1, hF, (Fr.call9 (rs := []) (fs := []) Fr.rf hq_2 rfl rfl), hS, lv_sub hl [0, 2, 3, 4] rfl⟩
          · have c_21 : y_20.toInt = (-1) := xI_eq rfl rfl c_21
            refine lv_iload_n hx hb dX10_winningFrom_49 rfl (lv_at hl 1 rfl) ?_
            exact W.iret (v := x_5) hx hb hr (fun t ht _ => ⟨⟨x_5, G_1, rfl, (P_tWin_mk ⟨hB_G_1, hF, ⟨x_5, G_1, hX_6, f_8, hB_G_1, hq_2, (Or.inr ⟨c_10, ⟨y_11, ey_11, (Or.inr ⟨c_12, ⟨y_13, ey_13, ⟨y_14, ey_14, ⟨c_15, ⟨y_17, ey_17, ⟨c_18, ⟨y_20, ey_20, ⟨c_21, ⟨rfl, rfl⟩⟩⟩⟩⟩⟩⟩⟩⟩)⟩⟩)⟩⟩), wd_t ht hW⟩, hS.F ht⟩) hS.2.2 dX10_winningFrom_50
