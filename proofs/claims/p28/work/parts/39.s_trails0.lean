theorem m997 : Cond.constant RX10 44 1000000 ∈ gd := gdc_4_10 1 rfl gw_constant
theorem m1001 : Cond.methodLink RX10 49 Lib.Math.min.name ∈ gd := gdc_4_10 5 rfl gw_methodLink
noncomputable def rbX10_leastOf_0 : List (Nat × List Nat) := [(0, [18, 44]), (2, [62]), (3, [27]), (4, [54, 4]), (6, [21, 4]), (8, [28]), (9, [163, 0, 26]), (12, [21, 4]), (14, [17, 1, 146]), (17, [162, 0, 18]), (20, [29]), (21, [42]), (22, [21, 4]), (24, [46]), (25, [184, 0, 49]), (28, [62]), (29, [132, 4, 1]), (32, [167, 255, 230]), (35, [29]), (36, [172])]
theorem rcX10_leastOf_0 : dgo (lb cX10_leastOf) 0 rbX10_leastOf_0 = true := by decide +kernel
theorem dX10_leastOf_0 : decode cX10_leastOf 0 = .ok (.ldc 44, 2) := dk_18 (dw rcX10_leastOf_0 0 rfl)
theorem dX10_leastOf_2 : decode cX10_leastOf 2 = .ok (.istore_n 3, 1) := dk_62 (dw rcX10_leastOf_0 1 rfl)
theorem dX10_leastOf_3 : decode cX10_leastOf 3 = .ok (.iload_n 1, 1) := dk_27 (dw rcX10_leastOf_0 2 rfl)
theorem dX10_leastOf_4 : decode cX10_leastOf 4 = .ok (.istore 4, 2) := dk_54 (dw rcX10_leastOf_0 3 rfl)
theorem dX10_leastOf_6 : decode cX10_leastOf 6 = .ok (.iload 4, 2) := dk_21 (dw rcX10_leastOf_0 4 rfl)
theorem dX10_leastOf_8 : decode cX10_leastOf 8 = .ok (.iload_n 2, 1) := dk_28 (dw rcX10_leastOf_0 5 rfl)
theorem dX10_leastOf_9 : decode cX10_leastOf 9 = .ok (.if_icmp .gt 26, 3) := dk_163 (dw rcX10_leastOf_0 6 rfl) rfl
theorem dX10_leastOf_12 : decode cX10_leastOf 12 = .ok (.iload 4, 2) := dk_21 (dw rcX10_leastOf_0 7 rfl)
theorem dX10_leastOf_14 : decode cX10_leastOf 14 = .ok (.sipush 402, 3) := dk_17 (dw rcX10_leastOf_0 8 rfl) rfl
theorem dX10_leastOf_17 : decode cX10_leastOf 17 = .ok (.if_icmp .ge 18, 3) := dk_162 (dw rcX10_leastOf_0 9 rfl) rfl
theorem dX10_leastOf_20 : decode cX10_leastOf 20 = .ok (.iload_n 3, 1) := dk_29 (dw rcX10_leastOf_0 10 rfl)
theorem dX10_leastOf_21 : decode cX10_leastOf 21 = .ok (.aload_n 0, 1) := dk_42 (dw rcX10_leastOf_0 11 rfl)
theorem dX10_leastOf_22 : decode cX10_leastOf 22 = .ok (.iload 4, 2) := dk_21 (dw rcX10_leastOf_0 12 rfl)
theorem dX10_leastOf_24 : decode cX10_leastOf 24 = .ok (.iaload, 1) := dk_46 (dw rcX10_leastOf_0 13 rfl)
theorem dX10_leastOf_25 : decode cX10_leastOf 25 = .ok (.invokestatic 49, 3) := dk_184 (dw rcX10_leastOf_0 14 rfl) rfl
theorem dX10_leastOf_28 : decode cX10_leastOf 28 = .ok (.istore_n 3, 1) := dk_62 (dw rcX10_leastOf_0 15 rfl)
theorem dX10_leastOf_29 : decode cX10_leastOf 29 = .ok (.iinc 4 1, 3) := dk_132 (dw rcX10_leastOf_0 16 rfl) rfl
theorem dX10_leastOf_32 : decode cX10_leastOf 32 = .ok (.goto (-26), 3) := dk_167 (dw rcX10_leastOf_0 17 rfl) rfl
theorem dX10_leastOf_35 : decode cX10_leastOf 35 = .ok (.iload_n 3, 1) := dk_29 (dw rcX10_leastOf_0 18 rfl)
theorem dX10_leastOf_36 : decode cX10_leastOf 36 = .ok (.ireturn, 1) := dk_172 (dw rcX10_leastOf_0 19 rfl)
noncomputable def rbX10_rowOf_0 : List (Nat × List Nat) := [(0, [5]), (1, [26]), (2, [4]), (3, [126]), (4, [104]), (5, [27]), (6, [153, 0, 7]), (9, [4]), (10, [167, 0, 4]), (13, [3]), (14, [96]), (15, [172])]
theorem rcX10_rowOf_0 : dgo (lb cX10_rowOf) 0 rbX10_rowOf_0 = true := by decide +kernel
theorem dX10_rowOf_0 : decode cX10_rowOf 0 = .ok (.iconst 2, 1) := dk_5 (dw rcX10_rowOf_0 0 rfl)
theorem dX10_rowOf_1 : decode cX10_rowOf 1 = .ok (.iload_n 0, 1) := dk_26 (dw rcX10_rowOf_0 1 rfl)
theorem dX10_rowOf_2 : decode cX10_rowOf 2 = .ok (.iconst 1, 1) := dk_4 (dw rcX10_rowOf_0 2 rfl)
theorem dX10_rowOf_3 : decode cX10_rowOf 3 = .ok (.iand, 1) := dk_126 (dw rcX10_rowOf_0 3 rfl)
theorem dX10_rowOf_4 : decode cX10_rowOf 4 = .ok (.imul, 1) := dk_104 (dw rcX10_rowOf_0 4 rfl)
theorem dX10_rowOf_5 : decode cX10_rowOf 5 = .ok (.iload_n 1, 1) := dk_27 (dw rcX10_rowOf_0 5 rfl)
theorem dX10_rowOf_6 : decode cX10_rowOf 6 = .ok (.ifCond .eq 7, 3) := dk_153 (dw rcX10_rowOf_0 6 rfl) rfl
theorem dX10_rowOf_9 : decode cX10_rowOf 9 = .ok (.iconst 1, 1) := dk_4 (dw rcX10_rowOf_0 7 rfl)
theorem dX10_rowOf_10 : decode cX10_rowOf 10 = .ok (.goto 4, 3) := dk_167 (dw rcX10_rowOf_0 8 rfl) rfl
theorem dX10_rowOf_13 : decode cX10_rowOf 13 = .ok (.iconst 0, 1) := dk_3 (dw rcX10_rowOf_0 9 rfl)
theorem dX10_rowOf_14 : decode cX10_rowOf 14 = .ok (.iadd, 1) := dk_96 (dw rcX10_rowOf_0 10 rfl)
theorem dX10_rowOf_15 : decode cX10_rowOf 15 = .ok (.ireturn, 1) := dk_172 (dw rcX10_rowOf_0 11 rfl)
set_option maxHeartbeats 4000000 in
set_option maxRecDepth 100000 in
theorem k_tLeast_42 (l : Launch) (D : va_G) (k : KT) (A : Nat → Prop) (a : Nat → Nat) (z : SK) (G : GS) (p0 : Int32) (p1 : Int32) (ha_p0 : 0 ≤ p0.toInt ∧ p0.toInt ≤ 1000) : Met l yX10_leastOf (WS yX10_leastOf cX10_leastOf 5 (some .int)) ({ frames := 1, cells := 0, slots := 0, locals := 13 }) (va_Pc [.ref (a 42), .int p0, .int p1] (cW D k A a z G)) (va_Qi (fun (r : Int32) (G1 : GS) => P_tLeast_42 p0 p1 G r G1) (fun (G1 : GS) t => Wd D k A a G1 t.heap) A) 0 0 A := by
  refine Met.ofW (cc := cX10_leastOf) (maxL := 5) (ret := (some .int)) (by decide) rfl ?_
  intro p e s m args below meth c s₁ B hml hv
  obtain ⟨rfl, hW, hB_G, hK, hZ⟩ := hv
  have hx := B.exec
  have hb := B.bytes
  have hr := B.returns
  have hts := atoms_spec (ws := WS yX10_leastOf cX10_leastOf 5 (some .int)) B.pre
  have hgd : ∀ w ∈ gd, w ∈ WS yX10_leastOf cX10_leastOf 5 (some .int) := fun w h => List.mem_cons_of_mem _ h
  have hg : ∀ w ∈ gd, w.before _ s = true := fun w h => hts w (hgd w h)
  have hown : s.vm.findClass RX10 = some m.cls := findClass_of_methodNamed B.named
  have hS : va_S A s.heap s.heap [] := va_S.rf
  have hF : Fr [] [] G G := Fr.rf
  have hl := lv_entry ([.ref (a 42), .int p0, .int p1]) (n := 5) (Nat.le_of_ble_eq_true rfl)
  rw [lg_entry_eq]
  generalize (lg_sl ([.ref (a 42), .int p0, .int p1]) ++ List.replicate (5 - (lg_sl ([.ref (a 42), .int p0, .int p1])).length) Slot.unset).toArray = ls at hl ⊢
  have hl : lv_has ls 5 [(0, .ref (a 42)), (1, .int p0), (2, .int p1)] := hl
  refine lv_ldc (v := 1000000) hx hb hown (hg (Cond.constant RX10 44 1000000) m997) dX10_leastOf_0 ?_
  refine lv_istore_n (lv' := [(3, .int 1000000), (0, .ref (a 42)), (1, .int p0), (2, .int p1)]) hx hb dX10_leastOf_2 rfl hl (lt_b rfl) rfl (fun ls hl => ?_)
  refine lv_iload_n hx hb dX10_leastOf_3 rfl (lv_at hl 2 rfl) ?_
  refine lv_istore (lv' := [(4, .int p0), (3, .int 1000000), (0, .ref (a 42)), (1, .int p0), (2, .int p1)]) hx hb dX10_leastOf_4 hl (lt_b rfl) rfl (fun ls hl => ?_)
  have qc_8 : (1000000 : Int32).toInt = 1000000 := rfl
  refine loop_N (Inv := fun n H locs ls => ∃ (G_1 : GS) (x_5 : Int32) (x_6 : Int32), (n : Int) = 1000 - x_5.toInt ∧ (0 ≤ x_5.toInt ∧ x_5.toInt ≤ 1000) ∧ (x_6.toInt ≤ 1000000) ∧ Rc (St_k_tLeast_42_1 p1) (p0, 1000000, G) (x_5, x_6, G_1) ∧ Wd D k A a G_1 H ∧ Bd G_1 ∧ Fr [] [] G G_1 ∧ Fr [] [] G G_1 ∧ va_S A s.heap H locs ∧ lv_has ls 5 [(4, .int x_5), (3, .int x_6), (0, .ref (a 42)), (2, .int p1)]) (fun n_4 H locs ls ih_3 hI => ?_) (1000 - p0.toInt : Int).toNat ⟨G, p0, 1000000, (Int.toNat_of_nonneg ((by first | exact ok_288 ha_p0.2 | omega))), ⟨(by first | exact ha_p0.1 | omega), (by first | exact ha_p0.2 | omega)⟩, ((by decide)), Rc.rf, hW, hB_G, hF, Fr.rf, hS, lv_sub hl [0, 1, 2, 4] rfl⟩
  obtain ⟨G_1, x_5, x_6, hn_11, f_9, f_10, hX_7, hW, hB_G_1, hF, hq_2, hS, hl⟩ := hI
  refine lv_iload hx hb dX10_leastOf_6 (lv_at hl 0 rfl) ?_
  refine lv_iload_n hx hb dX10_leastOf_8 rfl (lv_at hl 3 rfl) ?_
  refine lv_icmp_gt (tgt := 35) hx hb dX10_leastOf_9 rfl (fun c_12 => ?_) (fun c_12 => ?_)
  · have c_12 : p1.toInt < x_5.toInt := xI_lt rfl rfl c_12
    refine lv_iload_n hx hb dX10_leastOf_35 rfl (lv_at hl 1 rfl) ?_
    exact W.iret (v := x_6) hx hb hr (fun t ht _ => ⟨⟨x_6, G_1, rfl, (P_tLeast_42_mk ⟨hB_G_1, hF, ⟨x_5, x_6, G_1, hX_7, f_9, f_10, hB_G_1, hq_2, (Or.inl ⟨c_12, ⟨rfl, rfl⟩⟩)⟩⟩), wd_t ht hW⟩, hS.F ht⟩) hS.2.2 dX10_leastOf_36
  · have c_12 : x_5.toInt ≤ p1.toInt := xI_nlt rfl rfl c_12
    refine lv_iload hx hb dX10_leastOf_12 (lv_at hl 0 rfl) ?_
    refine lv_sipush (v := 402) hx hb dX10_leastOf_14 (by decide) ?_
    refine lv_icmp_ge (tgt := 35) hx hb dX10_leastOf_17 rfl (fun c_13 => ?_) (fun c_13 => ?_)
    · have c_13 : 402 ≤ x_5.toInt := xI_le rfl rfl c_13
      refine lv_iload_n hx hb dX10_leastOf_35 rfl (lv_at hl 1 rfl) ?_
      exact W.iret (v := x_6) hx hb hr (fun t ht _ => ⟨⟨x_6, G_1, rfl, (P_tLeast_42_mk ⟨hB_G_1, hF, ⟨x_5, x_6, G_1, hX_7, f_9, f_10, hB_G_1, hq_2, (Or.inr ⟨c_12, ⟨c_13, ⟨rfl, rfl⟩⟩⟩)⟩⟩), wd_t ht hW⟩, hS.F ht⟩) hS.2.2 dX10_leastOf_36
    · have c_13 : x_5.toInt < 402 := xI_nle rfl rfl c_13
      refine lv_iload_n hx hb dX10_leastOf_20 rfl (lv_at hl 1 rfl) ?_
      refine lv_aload_n hx hb dX10_leastOf_21 rfl (lv_at hl 2 rfl) ?_
      refine lv_iload hx hb dX10_leastOf_22 (lv_at hl 0 rfl) ?_
      refine S_iald hx hb hK hW kd_42 (vin ((by first | exact f_9.1 | omega)) ((by first | exact ok_289 c_13 | omega))) dX10_leastOf_24 (fun y_14 ey_14 => ?_)
      refine va_mmin hx hb (by rw [hml]; exact hl.1.symm) hown (hg (Cond.methodLink RX10 49 Lib.Math.min.name) m1001) (hg (Cond.static Lib.Math.min.name) m636) (hg (Cond.initialized "java/lang/Math") m132) (hg (Cond.code Lib.Math.min.name Lib.Math.min.code 2 (some .int)) m637) (Nat.le_of_ble_eq_true rfl) (Nat.le_of_ble_eq_true rfl) (Nat.le_of_ble_eq_true rfl) (Nat.le_of_ble_eq_true rfl) dX10_leastOf_25 ?_
      refine lv_topi (fun y_15 ey_15 => ?_)
      have ty_15 := xI_min (X := x_6.toInt) (Y := y_14.toInt) rfl rfl ey_15
      refine lv_istore_n (lv' := [(3, .int y_15), (4, .int x_5), (0, .ref (a 42)), (2, .int p1)]) hx hb dX10_leastOf_28 rfl hl (lt_b rfl) rfl (fun ls hl => ?_)
      obtain ⟨y_16, ey_16⟩ : ∃ q, q = x_5 + 1 := ⟨_, rfl⟩
      have ty_16 : y_16.toInt = x_5.toInt + 1 := xI_add rfl rfl ey_16 ((by first | exact ok_21 f_9.1 | omega)) ((by first | exact ok_290 c_13 | omega))
      refine lv_iinc (v := y_16) (lv' := [(4, .int y_16), (3, .int y_15), (0, .ref (a 42)), (2, .int p1)]) hx hb dX10_leastOf_29 hl (k := 1) rfl (by rw [ey_16]; rfl) (lt_b rfl) rfl (fun ls hl => ?_)
      refine lv_goto (tgt := 6) hx hb dX10_leastOf_32 rfl ?_
      exact ih_3 (1000 - y_16.toInt : Int).toNat ((by first | (clear ha_p0 f_10 ty_15; omega) | omega)) _ _ _ ⟨G_1, y_16, y_15, (Int.toNat_of_nonneg ((by first | exact ok_291 c_13 ty_16 | omega))), ⟨(by first | exact ok_23 f_9.1 ty_16 | omega), (by first | exact ok_292 c_13 ty_16 | omega)⟩, ((by first | exact ok_293 f_10 ty_15 | omega)), (hX_7.st (St_k_tLeast_42_1_mk ⟨x_5, x_6, G_1, y_16, y_15, G_1, rfl, rfl, f_9, f_10, hB_G_1, ⟨c_12, ⟨c_13, ⟨y_14, ey_14, ⟨y_15, ty_15, ⟨y_16, ty_16, ⟨rfl, rfl, rfl⟩⟩⟩⟩⟩⟩⟩)), hW, hB_G_1, hF, (Fr.call9 (rs := []) (fs := []) Fr.rf hq_2 rfl rfl), hS, lv_sub hl [0, 1, 2, 3] rfl⟩

set_option maxHeartbeats 4000000 in
set_option maxRecDepth 100000 in
theorem k_tLeast_43 (l : Launch) (D : va_G) (k : KT) (A : Nat → Prop) (a : Nat → Nat) (z : SK) (G : GS) (p0 : Int32) (p1 : Int32) (ha_p0 : 0 ≤ p0.toInt ∧ p0.toInt ≤ 1000) : Met l yX10_leastOf (WS yX10_leastOf cX10_leastOf 5 (some .int)) ({ frames := 1, cells := 0, slots := 0, locals := 13 }) (va_Pc [.ref (a 43), .int p0, .int p1] (cW D k A a z G)) (va_Qi (fun (r : Int32) (G1 : GS) => P_tLeast_43 p0 p1 G r G1) (fun (G1 : GS) t => Wd D k A a G1 t.heap) A) 0 0 A := by
  refine Met.ofW (cc := cX10_leastOf) (maxL := 5) (ret := (some .int)) (by decide) rfl ?_
  intro p e s m args below meth c s₁ B hml hv
  obtain ⟨rfl, hW, hB_G, hK, hZ⟩ := hv
  have hx := B.exec
  have hb := B.bytes
  have hr := B.returns
  have hts := atoms_spec (ws := WS yX10_leastOf cX10_leastOf 5 (some .int)) B.pre
  have hgd : ∀ w ∈ gd, w ∈ WS yX10_leastOf cX10_leastOf 5 (some .int) := fun w h => List.mem_cons_of_mem _ h
  have hg : ∀ w ∈ gd, w.before _ s = true := fun w h => hts w (hgd w h)
  have hown : s.vm.findClass RX10 = some m.cls := findClass_of_methodNamed B.named
  have hS : va_S A s.heap s.heap [] := va_S.rf
  have hF : Fr [] [] G G := Fr.rf
  have hl := lv_entry ([.ref (a 43), .int p0, .int p1]) (n := 5) (Nat.le_of_ble_eq_true rfl)
  rw [lg_entry_eq]
  generalize (lg_sl ([.ref (a 43), .int p0, .int p1]) ++ List.replicate (5 - (lg_sl ([.ref (a 43), .int p0, .int p1])).length) Slot.unset).toArray = ls at hl ⊢
  have hl : lv_has ls 5 [(0, .ref (a 43)), (1, .int p0), (2, .int p1)] := hl
  refine lv_ldc (v := 1000000) hx hb hown (hg (Cond.constant RX10 44 1000000) m997) dX10_leastOf_0 ?_
  refine lv_istore_n (lv' := [(3, .int 1000000), (0, .ref (a 43)), (1, .int p0), (2, .int p1)]) hx hb dX10_leastOf_2 rfl hl (lt_b rfl) rfl (fun ls hl => ?_)
  refine lv_iload_n hx hb dX10_leastOf_3 rfl (lv_at hl 2 rfl) ?_
  refine lv_istore (lv' := [(4, .int p0), (3, .int 1000000), (0, .ref (a 43)), (1, .int p0), (2, .int p1)]) hx hb dX10_leastOf_4 hl (lt_b rfl) rfl (fun ls hl => ?_)
  have qc_8 : (1000000 : Int32).toInt = 1000000 := rfl
  refine loop_N (Inv := fun n H locs ls => ∃ (G_1 : GS) (x_5 : Int32) (x_6 : Int32), (n : Int) = 1000 - x_5.toInt ∧ (0 ≤ x_5.toInt ∧ x_5.toInt ≤ 1000) ∧ (x_6.toInt ≤ 1000000) ∧ Rc (St_k_tLeast_43_1 p1) (p0, 1000000, G) (x_5, x_6, G_1) ∧ Wd D k A a G_1 H ∧ Bd G_1 ∧ Fr [] [] G G_1 ∧ Fr [] [] G G_1 ∧ va_S A s.heap H locs ∧ lv_has ls 5 [(4, .int x_5), (3, .int x_6), (0, .ref (a 43)), (2, .int p1)]) (fun n_4 H locs ls ih_3 hI => ?_) (1000 - p0.toInt : Int).toNat ⟨G, p0, 1000000, (Int.toNat_of_nonneg ((by first | exact ok_288 ha_p0.2 | omega))), ⟨(by first | exact ha_p0.1 | omega), (by first | exact ha_p0.2 | omega)⟩, ((by decide)), Rc.rf, hW, hB_G, hF, Fr.rf, hS, lv_sub hl [0, 1, 2, 4] rfl⟩
  obtain ⟨G_1, x_5, x_6, hn_11, f_9, f_10, hX_7, hW, hB_G_1, hF, hq_2, hS, hl⟩ := hI
  refine lv_iload hx hb dX10_leastOf_6 (lv_at hl 0 rfl) ?_
  refine lv_iload_n hx hb dX10_leastOf_8 rfl (lv_at hl 3 rfl) ?_
  refine lv_icmp_gt (tgt := 35) hx hb dX10_leastOf_9 rfl (fun c_12 => ?_) (fun c_12 => ?_)
  · have c_12 : p1.toInt < x_5.toInt := xI_lt rfl rfl c_12
    refine lv_iload_n hx hb dX10_leastOf_35 rfl (lv_at hl 1 rfl) ?_
    exact W.iret (v := x_6) hx hb hr (fun t ht _ => ⟨⟨x_6, G_1, rfl, (P_tLeast_43_mk ⟨hB_G_1, hF, ⟨x_5, x_6, G_1, hX_7, f_9, f_10, hB_G_1, hq_2, (Or.inl ⟨c_12, ⟨rfl, rfl⟩⟩)⟩⟩), wd_t ht hW⟩, hS.F ht⟩) hS.2.2 dX10_leastOf_36
  · have c_12 : x_5.toInt ≤ p1.toInt := xI_nlt rfl rfl c_12
    refine lv_iload hx hb dX10_leastOf_12 (lv_at hl 0 rfl) ?_
    refine lv_sipush (v := 402) hx hb dX10_leastOf_14 (by decide) ?_
    refine lv_icmp_ge (tgt := 35) hx hb dX10_leastOf_17 rfl (fun c_13 => ?_) (fun c_13 => ?_)
    · have c_13 : 402 ≤ x_5.toInt := xI_le rfl rfl c_13
      refine lv_iload_n hx hb dX10_leastOf_35 rfl (lv_at hl 1 rfl) ?_
      exact W.iret (v := x_6) hx hb hr (fun t ht _ => ⟨⟨x_6, G_1, rfl, (P_tLeast_43_mk ⟨hB_G_1, hF, ⟨x_5, x_6, G_1, hX_7, f_9, f_10, hB_G_1, hq_2, (Or.inr ⟨c_12, ⟨c_13, ⟨rfl, rfl⟩⟩⟩)⟩⟩), wd_t ht hW⟩, hS.F ht⟩) hS.2.2 dX10_leastOf_36
    · have c_13 : x_5.toInt < 402 := xI_nle rfl rfl c_13
      refine lv_iload_n hx hb dX10_leastOf_20 rfl (lv_at hl 1 rfl) ?_
      refine lv_aload_n hx hb dX10_leastOf_21 rfl (lv_at hl 2 rfl) ?_
      refine lv_iload hx hb dX10_leastOf_22 (lv_at hl 0 rfl) ?_
      refine S_iald hx hb hK hW kd_43 (vin ((by first | exact f_9.1 | omega)) ((by first | exact ok_289 c_13 | omega))) dX10_leastOf_24 (fun y_14 ey_14 => ?_)
      refine va_mmin hx hb (by rw [hml]; exact hl.1.symm) hown (hg (Cond.methodLink RX10 49 Lib.Math.min.name) m1001) (hg (Cond.static Lib.Math.min.name) m636) (hg (Cond.initialized "java/lang/Math") m132) (hg (Cond.code Lib.Math.min.name Lib.Math.min.code 2 (some .int)) m637) (Nat.le_of_ble_eq_true rfl) (Nat.le_of_ble_eq_true rfl) (Nat.le_of_ble_eq_true rfl) (Nat.le_of_ble_eq_true rfl) dX10_leastOf_25 ?_
      refine lv_topi (fun y_15 ey_15 => ?_)
      have ty_15 := xI_min (X := x_6.toInt) (Y := y_14.toInt) rfl rfl ey_15
      refine lv_istore_n (lv' := [(3, .int y_15), (4, .int x_5), (0, .ref (a 43)), (2, .int p1)]) hx hb dX10_leastOf_28 rfl hl (lt_b rfl) rfl (fun ls hl => ?_)
      obtain ⟨y_16, ey_16⟩ : ∃ q, q = x_5 + 1 := ⟨_, rfl⟩
      have ty_16 : y_16.toInt = x_5.toInt + 1 := xI_add rfl rfl ey_16 ((by first | exact ok_21 f_9.1 | omega)) ((by first | exact ok_290 c_13 | omega))
      refine lv_iinc (v := y_16) (lv' := [(4, .int y_16), (3, .int y_15), (0, .ref (a 43)), (2, .int p1)]) hx hb dX10_leastOf_29 hl (k := 1) rfl (by rw [ey_16]; rfl) (lt_b rfl) rfl (fun ls hl => ?_)
      refine lv_goto (tgt := 6) hx hb dX10_leastOf_32 rfl ?_
      exact ih_3 (1000 - y_16.toInt : Int).toNat ((by first | (clear ha_p0 f_10 ty_15; omega) | omega)) _ _ _ ⟨G_1, y_16, y_15, (Int.toNat_of_nonneg ((by first | exact ok_291 c_13 ty_16 | omega))), ⟨(by first | exact ok_23 f_9.1 ty_16 | omega), (by first | exact ok_292 c_13 ty_16 | omega)⟩, ((by first | exact ok_293 f_10 ty_15 | omega)), (hX_7.st (St_k_tLeast_43_1_mk ⟨x_5, x_6, G_1, y_16, y_15, G_1, rfl, rfl, f_9, f_10, hB_G_1, ⟨c_12, ⟨c_13, ⟨y_14, ey_14, ⟨y_15, ty_15, ⟨y_16, ty_16, ⟨rfl, rfl, rfl⟩⟩⟩⟩⟩⟩⟩)), hW, hB_G_1, hF, (Fr.call9 (rs := []) (fs := []) Fr.rf hq_2 rfl rfl), hS, lv_sub hl [0, 1, 2, 3] rfl⟩

set_option maxHeartbeats 4000000 in
set_option maxRecDepth 100000 in
theorem k_tLeast_44 (l : Launch) (D : va_G) (k : KT) (A : Nat → Prop) (a : Nat → Nat) (z : SK) (G : GS) (p0 : Int32) (p1 : Int32) (ha_p0 : 0 ≤ p0.toInt ∧ p0.toInt ≤ 1000) : Met l yX10_leastOf (WS yX10_leastOf cX10_leastOf 5 (some .int)) ({ frames := 1, cells := 0, slots := 0, locals := 13 }) (va_Pc [.ref (a 44), .int p0, .int p1] (cW D k A a z G)) (va_Qi (fun (r : Int32) (G1 : GS) => P_tLeast_44 p0 p1 G r G1) (fun (G1 : GS) t => Wd D k A a G1 t.heap) A) 0 0 A := by
  refine Met.ofW (cc := cX10_leastOf) (maxL := 5) (ret := (some .int)) (by decide) rfl ?_
  intro p e s m args below meth c s₁ B hml hv
  obtain ⟨rfl, hW, hB_G, hK, hZ⟩ := hv
  have hx := B.exec
  have hb := B.bytes
  have hr := B.returns
  have hts := atoms_spec (ws := WS yX10_leastOf cX10_leastOf 5 (some .int)) B.pre
  have hgd : ∀ w ∈ gd, w ∈ WS yX10_leastOf cX10_leastOf 5 (some .int) := fun w h => List.mem_cons_of_mem _ h
  have hg : ∀ w ∈ gd, w.before _ s = true := fun w h => hts w (hgd w h)
  have hown : s.vm.findClass RX10 = some m.cls := findClass_of_methodNamed B.named
  have hS : va_S A s.heap s.heap [] := va_S.rf
  have hF : Fr [] [] G G := Fr.rf
  have hl := lv_entry ([.ref (a 44), .int p0, .int p1]) (n := 5) (Nat.le_of_ble_eq_true rfl)
  rw [lg_entry_eq]
  generalize (lg_sl ([.ref (a 44), .int p0, .int p1]) ++ List.replicate (5 - (lg_sl ([.ref (a 44), .int p0, .int p1])).length) Slot.unset).toArray = ls at hl ⊢
  have hl : lv_has ls 5 [(0, .ref (a 44)), (1, .int p0), (2, .int p1)] := hl
  refine lv_ldc (v := 1000000) hx hb hown (hg (Cond.constant RX10 44 1000000) m997) dX10_leastOf_0 ?_
  refine lv_istore_n (lv' := [(3, .int 1000000), (0, .ref (a 44)), (1, .int p0), (2, .int p1)]) hx hb dX10_leastOf_2 rfl hl (lt_b rfl) rfl (fun ls hl => ?_)
  refine lv_iload_n hx hb dX10_leastOf_3 rfl (lv_at hl 2 rfl) ?_
  refine lv_istore (lv' := [(4, .int p0), (3, .int 1000000), (0, .ref (a 44)), (1, .int p0), (2, .int p1)]) hx hb dX10_leastOf_4 hl (lt_b rfl) rfl (fun ls hl => ?_)
  have qc_8 : (1000000 : Int32).toInt = 1000000 := rfl
  refine loop_N (Inv := fun n H locs ls => ∃ (G_1 : GS) (x_5 : Int32) (x_6 : Int32), (n : Int) = 1000 - x_5.toInt ∧ (0 ≤ x_5.toInt ∧ x_5.toInt ≤ 1000) ∧ (x_6.toInt ≤ 1000000) ∧ Rc (St_k_tLeast_44_1 p1) (p0, 1000000, G) (x_5, x_6, G_1) ∧ Wd D k A a G_1 H ∧ Bd G_1 ∧ Fr [] [] G G_1 ∧ Fr [] [] G G_1 ∧ va_S A s.heap H locs ∧ lv_has ls 5 [(4, .int x_5), (3, .int x_6), (0, .ref (a 44)), (2, .int p1)]) (fun n_4 H locs ls ih_3 hI => ?_) (1000 - p0.toInt : Int).toNat ⟨G, p0, 1000000, (Int.toNat_of_nonneg ((by first | exact ok_288 ha_p0.2 | omega))), ⟨(by first | exact ha_p0.1 | omega), (by first | exact ha_p0.2 | omega)⟩, ((by decide)), Rc.rf, hW, hB_G, hF, Fr.rf, hS, lv_sub hl [0, 1, 2, 4] rfl⟩
  obtain ⟨G_1, x_5, x_6, hn_11, f_9, f_10, hX_7, hW, hB_G_1, hF, hq_2, hS, hl⟩ := hI
  refine lv_iload hx hb dX10_leastOf_6 (lv_at hl 0 rfl) ?_
  refine lv_iload_n hx hb dX10_leastOf_8 rfl (lv_at hl 3 rfl) ?_
  refine lv_icmp_gt (tgt := 35) hx hb dX10_leastOf_9 rfl (fun c_12 => ?_) (fun c_12 => ?_)
  · have c_12 : p1.toInt < x_5.toInt := xI_lt rfl rfl c_12
    refine lv_iload_n hx hb dX10_leastOf_35 rfl (lv_at hl 1 rfl) ?_
    exact W.iret (v := x_6) hx hb hr (fun t ht _ => ⟨⟨x_6, G_1, rfl, (P_tLeast_44_mk ⟨hB_G_1, hF, ⟨x_5, x_6, G_1, hX_7, f_9, f_10, hB_G_1, hq_2, (Or.inl ⟨c_12, ⟨rfl, rfl⟩⟩)⟩⟩), wd_t ht hW⟩, hS.F ht⟩) hS.2.2 dX10_leastOf_36
  · have c_12 : x_5.toInt ≤ p1.toInt := xI_nlt rfl rfl c_12
    refine lv_iload hx hb dX10_leastOf_12 (lv_at hl 0 rfl) ?_
    refine lv_sipush (v := 402) hx hb dX10_leastOf_14 (by decide) ?_
    refine lv_icmp_ge (tgt := 35) hx hb dX10_leastOf_17 rfl (fun c_13 => ?_) (fun c_13 => ?_)
    · have c_13 : 402 ≤ x_5.toInt := xI_le rfl rfl c_13
      refine lv_iload_n hx hb dX10_leastOf_35 rfl (lv_at hl 1 rfl) ?_
      exact W.iret (v := x_6) hx hb hr (fun t ht _ => ⟨⟨x_6, G_1, rfl, (P_tLeast_44_mk ⟨hB_G_1, hF, ⟨x_5, x_6, G_1, hX_7, f_9, f_10, hB_G_1, hq_2, (Or.inr ⟨c_12, ⟨c_13, ⟨rfl, rfl⟩⟩⟩)⟩⟩), wd_t ht hW⟩, hS.F ht⟩) hS.2.2 dX10_leastOf_36
    · have c_13 : x_5.toInt < 402 := xI_nle rfl rfl c_13
      refine lv_iload_n hx hb dX10_leastOf_20 rfl (lv_at hl 1 rfl) ?_
      refine lv_aload_n hx hb dX10_leastOf_21 rfl (lv_at hl 2 rfl) ?_
      refine lv_iload hx hb dX10_leastOf_22 (lv_at hl 0 rfl) ?_
      refine S_iald hx hb hK hW kd_44 (vin ((by first | exact f_9.1 | omega)) ((by first | exact ok_289 c_13 | omega))) dX10_leastOf_24 (fun y_14 ey_14 => ?_)
      refine va_mmin hx hb (by rw [hml]; exact hl.1.symm) hown (hg (Cond.methodLink RX10 49 Lib.Math.min.name) m1001) (hg (Cond.static Lib.Math.min.name) m636) (hg (Cond.initialized "java/lang/Math") m132) (hg (Cond.code Lib.Math.min.name Lib.Math.min.code 2 (some .int)) m637) (Nat.le_of_ble_eq_true rfl) (Nat.le_of_ble_eq_true rfl) (Nat.le_of_ble_eq_true rfl) (Nat.le_of_ble_eq_true rfl) dX10_leastOf_25 ?_
      refine lv_topi (fun y_15 ey_15 => ?_)
      have ty_15 := xI_min (X := x_6.toInt) (Y := y_14.toInt) rfl rfl ey_15
      refine lv_istore_n (lv' := [(3, .int y_15), (4, .int x_5), (0, .ref (a 44)), (2, .int p1)]) hx hb dX10_leastOf_28 rfl hl (lt_b rfl) rfl (fun ls hl => ?_)
      obtain ⟨y_16, ey_16⟩ : ∃ q, q = x_5 + 1 := ⟨_, rfl⟩
      have ty_16 : y_16.toInt = x_5.toInt + 1 := xI_add rfl rfl ey_16 ((by first | exact ok_21 f_9.1 | omega)) ((by first | exact ok_290 c_13 | omega))
      refine lv_iinc (v := y_16) (lv' := [(4, .int y_16), (3, .int y_15), (0, .ref (a 44)), (2, .int p1)]) hx hb dX10_leastOf_29 hl (k := 1) rfl (by rw [ey_16]; rfl) (lt_b rfl) rfl (fun ls hl => ?_)
      refine lv_goto (tgt := 6) hx hb dX10_leastOf_32 rfl ?_
      exact ih_3 (1000 - y_16.toInt : Int).toNat ((by first | (clear ha_p0 f_10 ty_15; omega) | omega)) _ _ _ ⟨G_1, y_16, y_15, (Int.toNat_of_nonneg ((by first | exact ok_291 c_13 ty_16 | omega))), ⟨(by first | exact ok_23 f_9.1 ty_16 | omega), (by first | exact ok_292 c_13 ty_16 | omega)⟩, ((by first | exact ok_293 f_10 ty_15 | omega)), (hX_7.st (St_k_tLeast_44_1_mk ⟨x_5, x_6, G_1, y_16, y_15, G_1, rfl, rfl, f_9, f_10, hB_G_1, ⟨c_12, ⟨c_13, ⟨y_14, ey_14, ⟨y_15, ty_15, ⟨y_16, ty_16, ⟨rfl, rfl, rfl⟩⟩⟩⟩⟩⟩⟩)), hW, hB_G_1, hF, (Fr.call9 (rs := []) (fs := []) Fr.rf hq_2 rfl rfl), hS, lv_sub hl [0, 1, 2, 3] rfl⟩

set_option maxHeartbeats 4000000 in
set_option maxRecDepth 100000 in
theorem k_tLeast_45 (l : Launch) (D : va_G) (k : KT) (A : Nat → Prop) (a : Nat → Nat) (z : SK) (G : GS) (p0 : Int32) (p1 : Int32) (ha_p0 : 0 ≤ p0.toInt ∧ p0.toInt ≤ 1000) : Met l yX10_leastOf (WS yX10_leastOf cX10_leastOf 5 (some .int)) ({ frames := 1, cells := 0, slots := 0, locals := 13 }) (va_Pc [.ref (a 45), .int p0, .int p1] (cW D k A a z G)) (va_Qi (fun (r : Int32) (G1 : GS) => P_tLeast_45 p0 p1 G r G1) (fun (G1 : GS) t => Wd D k A a G1 t.heap) A) 0 0 A := by
  refine Met.ofW (cc := cX10_leastOf) (maxL := 5) (ret := (some .int)) (by decide) rfl ?_
  intro p e s m args below meth c s₁ B hml hv
  obtain ⟨rfl, hW, hB_G, hK, hZ⟩ := hv
  have hx := B.exec
  have hb := B.bytes
  have hr := B.returns
  have hts := atoms_spec (ws := WS yX10_leastOf cX10_leastOf 5 (some .int)) B.pre
  have hgd : ∀ w ∈ gd, w ∈ WS yX10_leastOf cX10_leastOf 5 (some .int) := fun w h => List.mem_cons_of_mem _ h
  have hg : ∀ w ∈ gd, w.before _ s = true := fun w h => hts w (hgd w h)
  have hown : s.vm.findClass RX10 = some m.cls := findClass_of_methodNamed B.named
  have hS : va_S A s.heap s.heap [] := va_S.rf
  have hF : Fr [] [] G G := Fr.rf
  have hl := lv_entry ([.ref (a 45), .int p0, .int p1]) (n := 5) (Nat.le_of_ble_eq_true rfl)
  rw [lg_entry_eq]
  generalize (lg_sl ([.ref (a 45), .int p0, .int p1]) ++ List.replicate (5 - (lg_sl ([.ref (a 45), .int p0, .int p1])).length) Slot.unset).toArray = ls at hl ⊢
  have hl : lv_has ls 5 [(0, .ref (a 45)), (1, .int p0), (2, .int p1)] := hl
  refine lv_ldc (v := 1000000) hx hb hown (hg (Cond.constant RX10 44 1000000) m997) dX10_leastOf_0 ?_
  refine lv_istore_n (lv' := [(3, .int 1000000), (0, .ref (a 45)), (1, .int p0), (2, .int p1)]) hx hb dX10_leastOf_2 rfl hl (lt_b rfl) rfl (fun ls hl => ?_)
  refine lv_iload_n hx hb dX10_leastOf_3 rfl (lv_at hl 2 rfl) ?_
  refine lv_istore (lv' := [(4, .int p0), (3, .int 1000000), (0, .ref (a 45)), (1, .int p0), (2, .int p1)]) hx hb dX10_leastOf_4 hl (lt_b rfl) rfl (fun ls hl => ?_)
  have qc_8 : (1000000 : Int32).toInt = 1000000 := rfl
  refine loop_N (Inv := fun n H locs ls => ∃ (G_1 : GS) (x_5 : Int32) (x_6 : Int32), (n : Int) = 1000 - x_5.toInt ∧ (0 ≤ x_5.toInt ∧ x_5.toInt ≤ 1000) ∧ (x_6.toInt ≤ 1000000) ∧ Rc (St_k_tLeast_45_1 p1) (p0, 1000000, G) (x_5, x_6, G_1) ∧ Wd D k A a G_1 H ∧ Bd G_1 ∧ Fr [] [] G G_1 ∧ Fr [] [] G G_1 ∧ va_S A s.heap H locs ∧ lv_has ls 5 [(4, .int x_5), (3, .int x_6), (0, .ref (a 45)), (2, .int p1)]) (fun n_4 H locs ls ih_3 hI => ?_) (1000 - p0.toInt : Int).toNat ⟨G, p0, 1000000, (Int.toNat_of_nonneg ((by first | exact ok_288 ha_p0.2 | omega))), ⟨(by first | exact ha_p0.1 | omega), (by first | exact ha_p0.2 | omega)⟩, ((by decide)), Rc.rf, hW, hB_G, hF, Fr.rf, hS, lv_sub hl [0, 1, 2, 4] rfl⟩
  obtain ⟨G_1, x_5, x_6, hn_11, f_9, f_10, hX_7, hW, hB_G_1, hF, hq_2, hS, hl⟩ := hI
  refine lv_iload hx hb dX10_leastOf_6 (lv_at hl 0 rfl) ?_
  refine lv_iload_n hx hb dX10_leastOf_8 rfl (lv_at hl 3 rfl) ?_
  refine lv_icmp_gt (tgt := 35) hx hb dX10_leastOf_9 rfl (fun c_12 => ?_) (fun c_12 => ?_)
  · have c_12 : p1.toInt < x_5.toInt := xI_lt rfl rfl c_12
    refine lv_iload_n hx hb dX10_leastOf_35 rfl (lv_at hl 1 rfl) ?_
    exact W.iret (v := x_6) hx hb hr (fun t ht _ => ⟨⟨x_6, G_1, rfl, (P_tLeast_45_mk ⟨hB_G_1, hF, ⟨x_5, x_6, G_1, hX_7, f_9, f_10, hB_G_1, hq_2, (Or.inl ⟨c_12, ⟨rfl, rfl⟩⟩)⟩⟩), wd_t ht hW⟩, hS.F ht⟩) hS.2.2 dX10_leastOf_36
  · have c_12 : x_5.toInt ≤ p1.toInt := xI_nlt rfl rfl c_12
    refine lv_iload hx hb dX10_leastOf_12 (lv_at hl 0 rfl) ?_
    refine lv_sipush (v := 402) hx hb dX10_leastOf_14 (by decide) ?_
    refine lv_icmp_ge (tgt := 35) hx hb dX10_leastOf_17 rfl (fun c_13 => ?_) (fun c_13 => ?_)
    · have c_13 : 402 ≤ x_5.toInt := xI_le rfl rfl c_13
      refine lv_iload_n hx hb dX10_leastOf_35 rfl (lv_at hl 1 rfl) ?_
      exact W.iret (v := x_6) hx hb hr (fun t ht _ => ⟨⟨x_6, G_1, rfl, (P_tLeast_45_mk ⟨hB_G_1, hF, ⟨x_5, x_6, G_1, hX_7, f_9, f_10, hB_G_1, hq_2, (Or.inr ⟨c_12, ⟨c_13, ⟨rfl, rfl⟩⟩⟩)⟩⟩), wd_t ht hW⟩, hS.F ht⟩) hS.2.2 dX10_leastOf_36
    · have c_13 : x_5.toInt < 402 := xI_nle rfl rfl c_13
      refine lv_iload_n hx hb dX10_leastOf_20 rfl (lv_at hl 1 rfl) ?_
      refine lv_aload_n hx hb dX10_leastOf_21 rfl (lv_at hl 2 rfl) ?_
      refine lv_iload hx hb dX10_leastOf_22 (lv_at hl 0 rfl) ?_
      refine S_iald hx hb hK hW kd_45 (vin ((by first | exact f_9.1 | omega)) ((by first | exact ok_289 c_13 | omega))) dX10_leastOf_24 (fun y_14 ey_14 => ?_)
      refine va_mmin hx hb (by rw [hml]; exact hl.1.symm) hown (hg (Cond.methodLink RX10 49 Lib.Math.min.name) m1001) (hg (Cond.static Lib.Math.min.name) m636) (hg (Cond.initialized "java/lang/Math") m132) (hg (Cond.code Lib.Math.min.name Lib.Math.min.code 2 (some .int)) m637) (Nat.le_of_ble_eq_true rfl) (Nat.le_of_ble_eq_true rfl) (Nat.le_of_ble_eq_true rfl) (Nat.le_of_ble_eq_true rfl) dX10_leastOf_25 ?_
      refine lv_topi (fun y_15 ey_15 => ?_)
      have ty_15 := xI_min (X := x_6.toInt) (Y := y_14.toInt) rfl rfl ey_15
      refine lv_istore_n (lv' := [(3, .int y_15), (4, .int x_5), (0, .ref (a 45)), (2, .int p1)]) hx hb dX10_leastOf_28 rfl hl (lt_b rfl) rfl (fun ls hl => ?_)
      obtain ⟨y_16, ey_16⟩ : ∃ q, q = x_5 + 1 := ⟨_, rfl⟩
      have ty_16 : y_16.toInt = x_5.toInt + 1 := xI_add rfl rfl ey_16 ((by first | exact ok_21 f_9.1 | omega)) ((by first | exact ok_290 c_13 | omega))
      refine lv_iinc (v := y_16) (lv' := [(4, .int y_16), (3, .int y_15), (0, .ref (a 45)), (2, .int p1)]) hx hb dX10_leastOf_29 hl (k := 1) rfl (by rw [ey_16]; rfl) (lt_b rfl) rfl (fun ls hl => ?_)
      refine lv_goto (tgt := 6) hx hb dX10_leastOf_32 rfl ?_
      exact ih_3 (1000 - y_16.toInt : Int).toNat ((by first | (clear ha_p0 f_10 ty_15; omega) | omega)) _ _ _ ⟨G_1, y_16, y_15, (Int.toNat_of_nonneg ((by first | exact ok_291 c_13 ty_16 | omega))), ⟨(by first | exact ok_23 f_9.1 ty_16 | omega), (by first | exact ok_292 c_13 ty_16 | omega)⟩, ((by first | exact ok_293 f_10 ty_15 | omega)), (hX_7.st (St_k_tLeast_45_1_mk ⟨x_5, x_6, G_1, y_16, y_15, G_1, rfl, rfl, f_9, f_10, hB_G_1, ⟨c_12, ⟨c_13, ⟨y_14, ey_14, ⟨y_15, ty_15, ⟨y_16, ty_16, ⟨rfl, rfl, rfl⟩⟩⟩⟩⟩⟩⟩)), hW, hB_G_1, hF, (Fr.call9 (rs := []) (fs := []) Fr.rf hq_2 rfl rfl), hS, lv_sub hl [0, 1, 2, 3] rfl⟩

set_option maxHeartbeats 4000000 in
set_option maxRecDepth 100000 in
theorem k_tRow (l : Launch) (D : va_G) (k : KT) (A : Nat → Prop) (a : Nat → Nat) (z : SK) (G : GS) (p0 : Int32) (p1 : Int32)  : Met l yX10_rowOf (WS yX10_rowOf cX10_rowOf 2 (some .int)) ({ frames := 0, cells := 0, slots := 0, locals := 0 }) (va_Pc [.int p0, .int p1] (cW D k A a z G)) (va_Qi (fun (r : Int32) (G1 : GS) => P_tRow p0 p1 G r G1) (fun (G1 : GS) t => Wd D k A a G1 t.heap) A) 0 0 A := by
  refine Met.ofW (cc := cX10_rowOf) (maxL := 2) (ret := (some .int)) (by decide) rfl ?_
  intro p e s m args below meth c s₁ B hml hv
  obtain ⟨rfl, hW, hB_G, hK, hZ⟩ := hv
  have hx := B.exec
  have hb := B.bytes
  have hr := B.returns
  have hts := atoms_spec (ws := WS yX10_rowOf cX10_rowOf 2 (some .int)) B.pre
  have hgd : ∀ w ∈ gd, w ∈ WS yX10_rowOf cX10_rowOf 2 (some .int) := fun w h => List.mem_cons_of_mem _ h
  have hg : ∀ w ∈ gd, w.before _ s = true := fun w h => hts w (hgd w h)
  have hown : s.vm.findClass RX10 = some m.cls := findClass_of_methodNamed B.named
  have hS : va_S A s.heap s.heap [] := va_S.rf
  have hF : Fr [] [] G G := Fr.rf
  have hl := lv_entry ([.int p0, .int p1]) (n := 2) (Nat.le_of_ble_eq_true rfl)
  rw [lg_entry_eq]
  generalize (lg_sl ([.int p0, .int p1]) ++ List.replicate (2 - (lg_sl ([.int p0, .int p1])).length) Slot.unset).toArray = ls at hl ⊢
  have hl : lv_has ls 2 [(0, .int p0), (1, .int p1)] := hl
  refine ic_2 hx hb dX10_rowOf_0 ?_
  refine lv_iload_n hx hb dX10_rowOf_1 rfl (lv_at hl 0 rfl) ?_
  refine ic_1 hx hb dX10_rowOf_2 ?_
  refine lv_iand hx hb dX10_rowOf_3 ?_
  refine lv_topi (fun y_1 ey_1 => ?_)
  have ty_1 := xI_and (Y := 1) rfl ey_1 (by decide)
  refine lv_imul hx hb dX10_rowOf_4 ?_
  refine lv_topi (fun y_2 ey_2 => ?_)
  have ty_2 : y_2.toInt = 2 * y_1.toInt := xI_mul rfl rfl ey_2 ((by first | exact ok_294 ty_1.1 | omega)) ((by first | exact ok_295 ty_1.2 | omega))
  refine lv_iload_n hx hb dX10_rowOf_5 rfl (lv_at hl 1 rfl) ?_
  refine lv_if_eq (tgt := 13) hx hb dX10_rowOf_6 rfl (fun c_3 => ?_) (fun c_3 => ?_)
  · have c_3 : p1.toInt = 0 := xI_eq rfl rfl c_3
    refine ic_0 hx hb dX10_rowOf_13 ?_
    refine lv_iadd hx hb dX10_rowOf_14 ?_
    refine lv_topi (fun y_4 ey_4 => ?_)
    have ty_4 : y_4.toInt = y_2.toInt + 0 := xI_add rfl rfl ey_4 ((by first | exact ok_296 ty_1.1 ty_2 | omega)) ((by first | exact ok_297 ty_1.2 ty_2 | omega))
    exact W.iret (v := y_4) hx hb hr (fun t ht _ => ⟨⟨y_4, G, rfl, (P_tRow_mk ⟨hB_G, hF, ⟨(by first | exact ok_298 ty_1.1 ty_2 ty_4 | omega), (by first | exact ok_299 ty_1.2 ty_2 ty_4 | omega)⟩, ⟨y_1, ey_1, ⟨y_2, ty_2, (Or.inl ⟨c_3, ⟨y_4, ty_4, ⟨rfl, rfl⟩⟩⟩)⟩⟩⟩), wd_t ht hW⟩, hS.F ht⟩) hS.2.2 dX10_rowOf_15
  · have c_3 : p1.toInt ≠ 0 := xI_ne rfl rfl c_3
    refine ic_1 hx hb dX10_rowOf_9 ?_
    refine lv_goto (tgt := 14) hx hb dX10_rowOf_10 rfl ?_
    refine lv_iadd hx hb dX10_rowOf_14 ?_
    refine lv_topi (fun y_5 ey_5 => ?_)
    have ty_5 : y_5.toInt = y_2.toInt + 1 := xI_add rfl rfl ey_5 ((by first | exact ok_300 ty_1.1 ty_2 | omega)) ((by first | exact ok_301 ty_1.2 ty_2 | omega))
    exact W.iret (v := y_5) hx hb hr (fun t ht _ => ⟨⟨y_5, G, rfl, (P_tRow_mk ⟨hB_G, hF, ⟨(by first | exact ok_302 ty_1.1 ty_2 ty_5 | omega), (by first | exact ok_303 ty_1.2 ty_2 ty_5 | omega)⟩, ⟨y_1, ey_1, ⟨y_2, ty_2, (Or.inr ⟨c_3, ⟨y_5, ty_5, ⟨rfl, rfl⟩⟩⟩)⟩⟩⟩), wd_t ht hW⟩, hS.F ht⟩) hS.2.2 dX10_rowOf_15

theorem m33 : Cond.selects RX10 yX10_findFeetFrom yX10_findFeetFrom ∈ gd := gds_3 1 rfl
theorem m123 : Cond.initialized RX0 ∈ gd := gdc_1_0 7 rfl gw_initialized
theorem m124 : Cond.initialized RX10 ∈ gd := gdc_1_0 8 rfl gw_initialized
theorem m373 : Cond.fieldLink RX10 55 "SlabWalk$Course" "lawful" "[Z" ∈ gd := gdc_2_1 1 rfl gw_fieldLink
theorem m378 : Cond.fieldLink RX10 61 "SlabWalk$Course" "least" "I" ∈ gd := gdc_2_1 6 rfl gw_fieldLink
theorem m383 : Cond.fieldLink RX10 64 "SlabWalk$Course" "most" "I" ∈ gd := gdc_2_1 11 rfl gw_fieldLink
theorem m386 : Cond.fieldLink RX10 71 "SlabWalk$Course" "leap" "I" ∈ gd := gdc_2_1 14 rfl gw_fieldLink
theorem m388 : Cond.fieldLink RX10 34 "SlabWalk$Course" "last" "I" ∈ gd := gdc_2_2 0 rfl gw_fieldLink
theorem m394 : Cond.fieldLink RX10 58 "SlabWalk$Course" "end" "I" ∈ gd := gdc_2_2 6 rfl gw_fieldLink
theorem m440 : Cond.fieldLink RX10 13 "SlabWalk$Trails" "rows" "[[I" ∈ gd := gdc_2_5 4 rfl gw_fieldLink
theorem m993 : Cond.methodLink RX10 40 yX10_findFeetFrom ∈ gd := gdc_4_9 13 rfl gw_methodLink
theorem m995 : Cond.instanceMethod yX10_findFeetFrom ∈ gd := gdc_4_9 15 rfl gw_instanceMethod
theorem m996 : Cond.code yX10_findFeetFrom cX10_findFeetFrom 8 none ∈ gd := gdc_4_10 0 rfl gw_code
theorem m998 : Cond.methodLink RX10 67 yX10_leastOf ∈ gd := gdc_4_10 2 rfl gw_methodLink
theorem m999 : Cond.static yX10_leastOf ∈ gd := gdc_4_10 3 rfl gw_static
theorem m1000 : Cond.code yX10_leastOf cX10_leastOf 5 (some .int) ∈ gd := gdc_4_10 4 rfl gw_code
theorem m1002 : Cond.methodLink RX10 45 yX0_lastFirst ∈ gd := gdc_4_10 6 rfl gw_methodLink
theorem m1003 : Cond.instanceMethod yX0_lastFirst ∈ gd := gdc_4_10 7 rfl gw_instanceMethod
theorem m1004 : Cond.selects RX0 yX0_lastFirst yX0_lastFirst ∈ gd := gdc_4_10 8 rfl gw_selects
theorem m1005 : Cond.code yX0_lastFirst cX0_lastFirst 1 (some .int) ∈ gd := gdc_4_10 9 rfl gw_code
theorem m1011 : Cond.methodLink RX10 74 yX10_rowOf ∈ gd := gdc_4_10 15 rfl gw_methodLink
theorem m1012 : Cond.static yX10_rowOf ∈ gd := gdc_4_11 0 rfl gw_static
theorem m1013 : Cond.code yX10_rowOf cX10_rowOf 2 (some .int) ∈ gd := gdc_4_11 1 rfl gw_code
noncomputable def rbX10_fewestFeet_0 : List (Nat × List Nat) := [(0, [43]), (1, [180, 0, 34]), (4, [62]), (5, [29]), (6, [155, 0, 32]), (9, [3]), (10, [54, 4]), (12, [21, 4]), (14, [5]), (15, [162, 0, 17]), (18, [42]), (19, [43]), (20, [29]), (21, [21, 4]), (23, [182, 0, 40]), (26, [132, 4, 1]), (29, [167, 255, 239]), (32, [132, 3, 255]), (35, [167, 255, 226]), (38, [18, 44]), (40, [62]), (41, [3]), (42, [54, 4]), (44, [21, 4])]
theorem rcX10_fewestFeet_0 : dgo (lb cX10_fewestFeet) 0 rbX10_fewestFeet_0 = true := by decide +kernel
theorem dX10_fewestFeet_0 : decode cX10_fewestFeet 0 = .ok (.aload_n 1, 1) := dk_43 (dw rcX10_fewestFeet_0 0 rfl)
theorem dX10_fewestFeet_1 : decode cX10_fewestFeet 1 = .ok (.getfield 34, 3) := dk_180 (dw rcX10_fewestFeet_0 1 rfl) rfl
theorem dX10_fewestFeet_4 : decode cX10_fewestFeet 4 = .ok (.istore_n 3, 1) := dk_62 (dw rcX10_fewestFeet_0 2 rfl)
theorem dX10_fewestFeet_5 : decode cX10_fewestFeet 5 = .ok (.iload_n 3, 1) := dk_29 (dw rcX10_fewestFeet_0 3 rfl)
theorem dX10_fewestFeet_6 : decode cX10_fewestFeet 6 = .ok (.ifCond .lt 32, 3) := dk_155 (dw rcX10_fewestFeet_0 4 rfl) rfl
theorem dX10_fewestFeet_9 : decode cX10_fewestFeet 9 = .ok (.iconst 0, 1) := dk_3 (dw rcX10_fewestFeet_0 5 rfl)
theorem dX10_fewestFeet_10 : decode cX10_fewestFeet 10 = .ok (.istore 4, 2) := dk_54 (dw rcX10_fewestFeet_0 6 rfl)
theorem dX10_fewestFeet_12 : decode cX10_fewestFeet 12 = .ok (.iload 4, 2) := dk_21 (dw rcX10_fewestFeet_0 7 rfl)
theorem dX10_fewestFeet_14 : decode cX10_fewestFeet 14 = .ok (.iconst 2, 1) := dk_5 (dw rcX10_fewestFeet_0 8 rfl)
theorem dX10_fewestFeet_15 : decode cX10_fewestFeet 15 = .ok (.if_icmp .ge 17, 3) := dk_162 (dw rcX10_fewestFeet_0 9 rfl) rfl
theorem dX10_fewestFeet_18 : decode cX10_fewestFeet 18 = .ok (.aload_n 0, 1) := dk_42 (dw rcX10_fewestFeet_0 10 rfl)
theorem dX10_fewestFeet_19 : decode cX10_fewestFeet 19 = .ok (.aload_n 1, 1) := dk_43 (dw rcX10_fewestFeet_0 11 rfl)
theorem dX10_fewestFeet_20 : decode cX10_fewestFeet 20 = .ok (.iload_n 3, 1) := dk_29 (dw rcX10_fewestFeet_0 12 rfl)
theorem dX10_fewestFeet_21 : decode cX10_fewestFeet 21 = .ok (.iload 4, 2) := dk_21 (dw rcX10_fewestFeet_0 13 rfl)
theorem dX10_fewestFeet_23 : decode cX10_fewestFeet 23 = .ok (.invokevirtual 40, 3) := dk_182 (dw rcX10_fewestFeet_0 14 rfl) rfl
theorem dX10_fewestFeet_26 : decode cX10_fewestFeet 26 = .ok (.iinc 4 1, 3) := dk_132 (dw rcX10_fewestFeet_0 15 rfl) rfl
theorem dX10_fewestFeet_29 : decode cX10_fewestFeet 29 = .ok (.goto (-17), 3) := dk_167 (dw rcX10_fewestFeet_0 16 rfl) rfl
theorem dX10_fewestFeet_32 : decode cX10_fewestFeet 32 = .ok (.iinc 3 (-1), 3) := dk_132 (dw rcX10_fewestFeet_0 17 rfl) rfl
theorem dX10_fewestFeet_35 : decode cX10_fewestFeet 35 = .ok (.goto (-30), 3) := dk_167 (dw rcX10_fewestFeet_0 18 rfl) rfl
theorem dX10_fewestFeet_38 : decode cX10_fewestFeet 38 = .ok (.ldc 44, 2) := dk_18 (dw rcX10_fewestFeet_0 19 rfl)
theorem dX10_fewestFeet_40 : decode cX10_fewestFeet 40 = .ok (.istore_n 3, 1) := dk_62 (dw rcX10_fewestFeet_0 20 rfl)
theorem dX10_fewestFeet_41 : decode cX10_fewestFeet 41 = .ok (.iconst 0, 1) := dk_3 (dw rcX10_fewestFeet_0 21 rfl)
theorem dX10_fewestFeet_42 : decode cX10_fewestFeet 42 = .ok (.istore 4, 2) := dk_54 (dw rcX10_fewestFeet_0 22 rfl)
theorem dX10_fewestFeet_44 : decode cX10_fewestFeet 44 = .ok (.iload 4, 2) := dk_21 (dw rcX10_fewestFeet_0 23 rfl)
noncomputable def rbX10_fewestFeet_46 : List (Nat × List Nat) := [(46, [43]), (47, [182, 0, 45]), (50, [163, 0, 55]), (53, [28]), (54, [5]), (55, [160, 0, 7]), (58, [29]), (59, [167, 0, 16]), (62, [29]), (63, [42]), (64, [180, 0, 13]), (67, [5]), (68, [50]), (69, [21, 4]), (71, [46]), (72, [184, 0, 49]), (75, [62]), (76, [28]), (77, [4]), (78, [160, 0, 7]), (81, [29]), (82, [167, 0, 16]), (85, [29]), (86, [42])]
theorem rcX10_fewestFeet_46 : dgo (lb cX10_fewestFeet) 0 rbX10_fewestFeet_46 = true := by decide +kernel
theorem dX10_fewestFeet_46 : decode cX10_fewestFeet 46 = .ok (.aload_n 1, 1) := dk_43 (dw rcX10_fewestFeet_46 0 rfl)
theorem dX10_fewestFeet_47 : decode cX10_fewestFeet 47 = .ok (.invokevirtual 45, 3) := dk_182 (dw rcX10_fewestFeet_46 1 rfl) rfl
theorem dX10_fewestFeet_50 : decode cX10_fewestFeet 50 = .ok (.if_icmp .gt 55, 3) := dk_163 (dw rcX10_fewestFeet_46 2 rfl) rfl
theorem dX10_fewestFeet_53 : decode cX10_fewestFeet 53 = .ok (.iload_n 2, 1) := dk_28 (dw rcX10_fewestFeet_46 3 rfl)
theorem dX10_fewestFeet_54 : decode cX10_fewestFeet 54 = .ok (.iconst 2, 1) := dk_5 (dw rcX10_fewestFeet_46 4 rfl)
theorem dX10_fewestFeet_55 : decode cX10_fewestFeet 55 = .ok (.if_icmp .ne 7, 3) := dk_160 (dw rcX10_fewestFeet_46 5 rfl) rfl
theorem dX10_fewestFeet_58 : decode cX10_fewestFeet 58 = .ok (.iload_n 3, 1) := dk_29 (dw rcX10_fewestFeet_46 6 rfl)
theorem dX10_fewestFeet_59 : decode cX10_fewestFeet 59 = .ok (.goto 16, 3) := dk_167 (dw rcX10_fewestFeet_46 7 rfl) rfl
theorem dX10_fewestFeet_62 : decode cX10_fewestFeet 62 = .ok (.iload_n 3, 1) := dk_29 (dw rcX10_fewestFeet_46 8 rfl)
theorem dX10_fewestFeet_63 : decode cX10_fewestFeet 63 = .ok (.aload_n 0, 1) := dk_42 (dw rcX10_fewestFeet_46 9 rfl)
theorem dX10_fewestFeet_64 : decode cX10_fewestFeet 64 = .ok (.getfield 13, 3) := dk_180 (dw rcX10_fewestFeet_46 10 rfl) rfl
theorem dX10_fewestFeet_67 : decode cX10_fewestFeet 67 = .ok (.iconst 2, 1) := dk_5 (dw rcX10_fewestFeet_46 11 rfl)
theorem dX10_fewestFeet_68 : decode cX10_fewestFeet 68 = .ok (.aaload, 1) := dk_50 (dw rcX10_fewestFeet_46 12 rfl)
theorem dX10_fewestFeet_69 : decode cX10_fewestFeet 69 = .ok (.iload 4, 2) := dk_21 (dw rcX10_fewestFeet_46 13 rfl)
theorem dX10_fewestFeet_71 : decode cX10_fewestFeet 71 = .ok (.iaload, 1) := dk_46 (dw rcX10_fewestFeet_46 14 rfl)
theorem dX10_fewestFeet_72 : decode cX10_fewestFeet 72 = .ok (.invokestatic 49, 3) := dk_184 (dw rcX10_fewestFeet_46 15 rfl) rfl
theorem dX10_fewestFeet_75 : decode cX10_fewestFeet 75 = .ok (.istore_n 3, 1) := dk_62 (dw rcX10_fewestFeet_46 16 rfl)
theorem dX10_fewestFeet_76 : decode cX10_fewestFeet 76 = .ok (.iload_n 2, 1) := dk_28 (dw rcX10_fewestFeet_46 17 rfl)
theorem dX10_fewestFeet_77 : decode cX10_fewestFeet 77 = .ok (.iconst 1, 1) := dk_4 (dw rcX10_fewestFeet_46 18 rfl)
theorem dX10_fewestFeet_78 : decode cX10_fewestFeet 78 = .ok (.if_icmp .ne 7, 3) := dk_160 (dw rcX10_fewestFeet_46 19 rfl) rfl
theorem dX10_fewestFeet_81 : decode cX10_fewestFeet 81 = .ok (.iload_n 3, 1) := dk_29 (dw rcX10_fewestFeet_46 20 rfl)
theorem dX10_fewestFeet_82 : decode cX10_fewestFeet 82 = .ok (.goto 16, 3) := dk_167 (dw rcX10_fewestFeet_46 21 rfl) rfl
theorem dX10_fewestFeet_85 : decode cX10_fewestFeet 85 = .ok (.iload_n 3, 1) := dk_29 (dw rcX10_fewestFeet_46 22 rfl)
theorem dX10_fewestFeet_86 : decode cX10_fewestFeet 86 = .ok (.aload_n 0, 1) := dk_42 (dw rcX10_fewestFeet_46 23 rfl)
noncomputable def rbX10_fewestFeet_87 : List (Nat × List Nat) := [(87, [180, 0, 13]), (90, [3]), (91, [50]), (92, [21, 4]), (94, [46]), (95, [184, 0, 49]), (98, [62]), (99, [132, 4, 1]), (102, [167, 255, 198]), (105, [29]), (106, [18, 44]), (108, [161, 0, 7]), (111, [2]), (112, [167, 0, 4]), (115, [29]), (116, [172])]
theorem rcX10_fewestFeet_87 : dgo (lb cX10_fewestFeet) 0 rbX10_fewestFeet_87 = true := by decide +kernel
theorem dX10_fewestFeet_87 : decode cX10_fewestFeet 87 = .ok (.getfield 13, 3) := dk_180 (dw rcX10_fewestFeet_87 0 rfl) rfl
theorem dX10_fewestFeet_90 : decode cX10_fewestFeet 90 = .ok (.iconst 0, 1) := dk_3 (dw rcX10_fewestFeet_87 1 rfl)
theorem dX10_fewestFeet_91 : decode cX10_fewestFeet 91 = .ok (.aaload, 1) := dk_50 (dw rcX10_fewestFeet_87 2 rfl)
theorem dX10_fewestFeet_92 : decode cX10_fewestFeet 92 = .ok (.iload 4, 2) := dk_21 (dw rcX10_fewestFeet_87 3 rfl)
theorem dX10_fewestFeet_94 : decode cX10_fewestFeet 94 = .ok (.iaload, 1) := dk_46 (dw rcX10_fewestFeet_87 4 rfl)
theorem dX10_fewestFeet_95 : decode cX10_fewestFeet 95 = .ok (.invokestatic 49, 3) := dk_184 (dw rcX10_fewestFeet_87 5 rfl) rfl
theorem dX10_fewestFeet_98 : decode cX10_fewestFeet 98 = .ok (.istore_n 3, 1) := dk_62 (dw rcX10_fewestFeet_87 6 rfl)
theorem dX10_fewestFeet_99 : decode cX10_fewestFeet 99 = .ok (.iinc 4 1, 3) := dk_132 (dw rcX10_fewestFeet_87 7 rfl) rfl
theorem dX10_fewestFeet_102 : decode cX10_fewestFeet 102 = .ok (.goto (-58), 3) := dk_167 (dw rcX10_fewestFeet_87 8 rfl) rfl
theorem dX10_fewestFeet_105 : decode cX10_fewestFeet 105 = .ok (.iload_n 3, 1) := dk_29 (dw rcX10_fewestFeet_87 9 rfl)
theorem dX10_fewestFeet_106 : decode cX10_fewestFeet 106 = .ok (.ldc 44, 2) := dk_18 (dw rcX10_fewestFeet_87 10 rfl)
theorem dX10_fewestFeet_108 : decode cX10_fewestFeet 108 = .ok (.if_icmp .lt 7, 3) := dk_161 (dw rcX10_fewestFeet_87 11 rfl) rfl
theorem dX10_fewestFeet_111 : decode cX10_fewestFeet 111 = .ok (.iconst (-1), 1) := dk_2 (dw rcX10_fewestFeet_87 12 rfl)
theorem dX10_fewestFeet_112 : decode cX10_fewestFeet 112 = .ok (.goto 4, 3) := dk_167 (dw rcX10_fewestFeet_87 13 rfl) rfl
theorem dX10_fewestFeet_115 : decode cX10_fewestFeet 115 = .ok (.iload_n 3, 1) := dk_29 (dw rcX10_fewestFeet_87 14 rfl)
theorem dX10_fewestFeet_116 : decode cX10_fewestFeet 116 = .ok (.ireturn, 1) := dk_172 (dw rcX10_fewestFeet_87 15 rfl)
noncomputable def rbX10_findFeetFrom_0 : List (Nat × List Nat) := [(0, [18, 44]), (2, [54, 4]), (4, [18, 44]), (6, [54, 5]), (8, [43]), (9, [180, 0, 55]), (12, [28]), (13, [51]), (14, [153, 0, 31]), (17, [28]), (18, [43]), (19, [180, 0, 58]), (22, [161, 0, 23]), (25, [29]), (26, [4]), (27, [160, 0, 7]), (30, [4]), (31, [167, 0, 5]), (34, [18, 44]), (36, [54, 5]), (38, [21, 5]), (40, [54, 4]), (42, [167, 0, 91]), (45, [43])]
theorem rcX10_findFeetFrom_0 : dgo (lb cX10_findFeetFrom) 0 rbX10_findFeetFrom_0 = true := by decide +kernel
theorem dX10_findFeetFrom_0 : decode cX10_findFeetFrom 0 = .ok (.ldc 44, 2) := dk_18 (dw rcX10_findFeetFrom_0 0 rfl)
theorem dX10_findFeetFrom_2 : decode cX10_findFeetFrom 2 = .ok (.istore 4, 2) := dk_54 (dw rcX10_findFeetFrom_0 1 rfl)
theorem dX10_findFeetFrom_4 : decode cX10_findFeetFrom 4 = .ok (.ldc 44, 2) := dk_18 (dw rcX10_findFeetFrom_0 2 rfl)
theorem dX10_findFeetFrom_6 : decode cX10_findFeetFrom 6 = .ok (.istore 5, 2) := dk_54 (dw rcX10_findFeetFrom_0 3 rfl)
theorem dX10_findFeetFrom_8 : decode cX10_findFeetFrom 8 = .ok (.aload_n 1, 1) := dk_43 (dw rcX10_findFeetFrom_0 4 rfl)
theorem dX10_findFeetFrom_9 : decode cX10_findFeetFrom 9 = .ok (.getfield 55, 3) := dk_180 (dw rcX10_findFeetFrom_0 5 rfl) rfl
theorem dX10_findFeetFrom_12 : decode cX10_findFeetFrom 12 = .ok (.iload_n 2, 1) := dk_28 (dw rcX10_findFeetFrom_0 6 rfl)
theorem dX10_findFeetFrom_13 : decode cX10_findFeetFrom 13 = .ok (.baload, 1) := dk_51 (dw rcX10_findFeetFrom_0 7 rfl)
theorem dX10_findFeetFrom_14 : decode cX10_findFeetFrom 14 = .ok (.ifCond .eq 31, 3) := dk_153 (dw rcX10_findFeetFrom_0 8 rfl) rfl
theorem dX10_findFeetFrom_17 : decode cX10_findFeetFrom 17 = .ok (.iload_n 2, 1) := dk_28 (dw rcX10_findFeetFrom_0 9 rfl)
theorem dX10_findFeetFrom_18 : decode cX10_findFeetFrom 18 = .ok (.aload_n 1, 1) := dk_43 (dw rcX10_findFeetFrom_0 10 rfl)
theorem dX10_findFeetFrom_19 : decode cX10_findFeetFrom 19 = .ok (.getfield 58, 3) := dk_180 (dw rcX10_findFeetFrom_0 11 rfl) rfl
theorem dX10_findFeetFrom_22 : decode cX10_findFeetFrom 22 = .ok (.if_icmp .lt 23, 3) := dk_161 (dw rcX10_findFeetFrom_0 12 rfl) rfl
theorem dX10_findFeetFrom_25 : decode cX10_findFeetFrom 25 = .ok (.iload_n 3, 1) := dk_29 (dw rcX10_findFeetFrom_0 13 rfl)
theorem dX10_findFeetFrom_26 : decode cX10_findFeetFrom 26 = .ok (.iconst 1, 1) := dk_4 (dw rcX10_findFeetFrom_0 14 rfl)
theorem dX10_findFeetFrom_27 : decode cX10_findFeetFrom 27 = .ok (.if_icmp .ne 7, 3) := dk_160 (dw rcX10_findFeetFrom_0 15 rfl) rfl
theorem dX10_findFeetFrom_30 : decode cX10_findFeetFrom 30 = .ok (.iconst 1, 1) := dk_4 (dw rcX10_findFeetFrom_0 16 rfl)
theorem dX10_findFeetFrom_31 : decode cX10_findFeetFrom 31 = .ok (.goto 5, 3) := dk_167 (dw rcX10_findFeetFrom_0 17 rfl) rfl
theorem dX10_findFeetFrom_34 : decode cX10_findFeetFrom 34 = .ok (.ldc 44, 2) := dk_18 (dw rcX10_findFeetFrom_0 18 rfl)
theorem dX10_findFeetFrom_36 : decode cX10_findFeetFrom 36 = .ok (.istore 5, 2) := dk_54 (dw rcX10_findFeetFrom_0 19 rfl)
theorem dX10_findFeetFrom_38 : decode cX10_findFeetFrom 38 = .ok (.iload 5, 2) := dk_21 (dw rcX10_findFeetFrom_0 20 rfl)
theorem dX10_findFeetFrom_40 : decode cX10_findFeetFrom 40 = .ok (.istore 4, 2) := dk_54 (dw rcX10_findFeetFrom_0 21 rfl)
theorem dX10_findFeetFrom_42 : decode cX10_findFeetFrom 42 = .ok (.goto 91, 3) := dk_167 (dw rcX10_findFeetFrom_0 22 rfl) rfl
theorem dX10_findFeetFrom_45 : decode cX10_findFeetFrom 45 = .ok (.aload_n 1, 1) := dk_43 (dw rcX10_findFeetFrom_0 23 rfl)
noncomputable def rbX10_findFeetFrom_46 : List (Nat × List Nat) := [(46, [180, 0, 55]), (49, [28]), (50, [51]), (51, [153, 0, 82]), (54, [5]), (55, [4]), (56, [29]), (57, [100]), (58, [104]), (59, [54, 6]), (61, [4]), (62, [42]), (63, [180, 0, 13]), (66, [21, 6]), (68, [50]), (69, [28]), (70, [43]), (71, [180, 0, 61]), (74, [96]), (75, [28]), (76, [43]), (77, [180, 0, 64]), (80, [96]), (81, [184, 0, 67])]
theorem rcX10_findFeetFrom_46 : dgo (lb cX10_findFeetFrom) 0 rbX10_findFeetFrom_46 = true := by decide +kernel
theorem dX10_findFeetFrom_46 : decode cX10_findFeetFrom 46 = .ok (.getfield 55, 3) := dk_180 (dw rcX10_findFeetFrom_46 0 rfl) rfl
theorem dX10_findFeetFrom_49 : decode cX10_findFeetFrom 49 = .ok (.iload_n 2, 1) := dk_28 (dw rcX10_findFeetFrom_46 1 rfl)
theorem dX10_findFeetFrom_50 : decode cX10_findFeetFrom 50 = .ok (.baload, 1) := dk_51 (dw rcX10_findFeetFrom_46 2 rfl)
theorem dX10_findFeetFrom_51 : decode cX10_findFeetFrom 51 = .ok (.ifCond .eq 82, 3) := dk_153 (dw rcX10_findFeetFrom_46 3 rfl) rfl
theorem dX10_findFeetFrom_54 : decode cX10_findFeetFrom 54 = .ok (.iconst 2, 1) := dk_5 (dw rcX10_findFeetFrom_46 4 rfl)
theorem dX10_findFeetFrom_55 : decode cX10_findFeetFrom 55 = .ok (.iconst 1, 1) := dk_4 (dw rcX10_findFeetFrom_46 5 rfl)
theorem dX10_findFeetFrom_56 : decode cX10_findFeetFrom 56 = .ok (.iload_n 3, 1) := dk_29 (dw rcX10_findFeetFrom_46 6 rfl)
theorem dX10_findFeetFrom_57 : decode cX10_findFeetFrom 57 = .ok (.isub, 1) := dk_100 (dw rcX10_findFeetFrom_46 7 rfl)
theorem dX10_findFeetFrom_58 : decode cX10_findFeetFrom 58 = .ok (.imul, 1) := dk_104 (dw rcX10_findFeetFrom_46 8 rfl)
theorem dX10_findFeetFrom_59 : decode cX10_findFeetFrom 59 = .ok (.istore 6, 2) := dk_54 (dw rcX10_findFeetFrom_46 9 rfl)
theorem dX10_findFeetFrom_61 : decode cX10_findFeetFrom 61 = .ok (.iconst 1, 1) := dk_4 (dw rcX10_findFeetFrom_46 10 rfl)
theorem dX10_findFeetFrom_62 : decode cX10_findFeetFrom 62 = .ok (.aload_n 0, 1) := dk_42 (dw rcX10_findFeetFrom_46 11 rfl)
theorem dX10_findFeetFrom_63 : decode cX10_findFeetFrom 63 = .ok (.getfield 13, 3) := dk_180 (dw rcX10_findFeetFrom_46 12 rfl) rfl
theorem dX10_findFeetFrom_66 : decode cX10_findFeetFrom 66 = .ok (.iload 6, 2) := dk_21 (dw rcX10_findFeetFrom_46 13 rfl)
theorem dX10_findFeetFrom_68 : decode cX10_findFeetFrom 68 = .ok (.aaload, 1) := dk_50 (dw rcX10_findFeetFrom_46 14 rfl)
theorem dX10_findFeetFrom_69 : decode cX10_findFeetFrom 69 = .ok (.iload_n 2, 1) := dk_28 (dw rcX10_findFeetFrom_46 15 rfl)
theorem dX10_findFeetFrom_70 : decode cX10_findFeetFrom 70 = .ok (.aload_n 1, 1) := dk_43 (dw rcX10_findFeetFrom_46 16 rfl)
theorem dX10_findFeetFrom_71 : decode cX10_findFeetFrom 71 = .ok (.getfield 61, 3) := dk_180 (dw rcX10_findFeetFrom_46 17 rfl) rfl
theorem dX10_findFeetFrom_74 : decode cX10_findFeetFrom 74 = .ok (.iadd, 1) := dk_96 (dw rcX10_findFeetFrom_46 18 rfl)
theorem dX10_findFeetFrom_75 : decode cX10_findFeetFrom 75 = .ok (.iload_n 2, 1) := dk_28 (dw rcX10_findFeetFrom_46 19 rfl)
theorem dX10_findFeetFrom_76 : decode cX10_findFeetFrom 76 = .ok (.aload_n 1, 1) := dk_43 (dw rcX10_findFeetFrom_46 20 rfl)
theorem dX10_findFeetFrom_77 : decode cX10_findFeetFrom 77 = .ok (.getfield 64, 3) := dk_180 (dw rcX10_findFeetFrom_46 21 rfl) rfl
theorem dX10_findFeetFrom_80 : decode cX10_findFeetFrom 80 = .ok (.iadd, 1) := dk_96 (dw rcX10_findFeetFrom_46 22 rfl)
theorem dX10_findFeetFrom_81 : decode cX10_findFeetFrom 81 = .ok (.invokestatic 67, 3) := dk_184 (dw rcX10_findFeetFrom_46 23 rfl) rfl
noncomputable def rbX10_findFeetFrom_84 : List (Nat × List Nat) := [(84, [96]), (85, [54, 5]), (87, [42]), (88, [180, 0, 13]), (91, [21, 6]), (93, [4]), (94, [96]), (95, [50]), (96, [28]), (97, [43]), (98, [180, 0, 64]), (101, [96]), (102, [4]), (103, [96]), (104, [28]), (105, [43]), (106, [180, 0, 71]), (109, [96]), (110, [43]), (111, [180, 0, 34]), (114, [184, 0, 49]), (117, [184, 0, 67]), (120, [54, 7]), (122, [21, 5])]
theorem rcX10_findFeetFrom_84 : dgo (lb cX10_findFeetFrom) 0 rbX10_findFeetFrom_84 = true := by decide +kernel
theorem dX10_findFeetFrom_84 : decode cX10_findFeetFrom 84 = .ok (.iadd, 1) := dk_96 (dw rcX10_findFeetFrom_84 0 rfl)
theorem dX10_findFeetFrom_85 : decode cX10_findFeetFrom 85 = .ok (.istore 5, 2) := dk_54 (dw rcX10_findFeetFrom_84 1 rfl)
theorem dX10_findFeetFrom_87 : decode cX10_findFeetFrom 87 = .ok (.aload_n 0, 1) := dk_42 (dw rcX10_findFeetFrom_84 2 rfl)
theorem dX10_findFeetFrom_88 : decode cX10_findFeetFrom 88 = .ok (.getfield 13, 3) := dk_180 (dw rcX10_findFeetFrom_84 3 rfl) rfl
theorem dX10_findFeetFrom_91 : decode cX10_findFeetFrom 91 = .ok (.iload 6, 2) := dk_21 (dw rcX10_findFeetFrom_84 4 rfl)
theorem dX10_findFeetFrom_93 : decode cX10_findFeetFrom 93 = .ok (.iconst 1, 1) := dk_4 (dw rcX10_findFeetFrom_84 5 rfl)
theorem dX10_findFeetFrom_94 : decode cX10_findFeetFrom 94 = .ok (.iadd, 1) := dk_96 (dw rcX10_findFeetFrom_84 6 rfl)
theorem dX10_findFeetFrom_95 : decode cX10_findFeetFrom 95 = .ok (.aaload, 1) := dk_50 (dw rcX10_findFeetFrom_84 7 rfl)
theorem dX10_findFeetFrom_96 : decode cX10_findFeetFrom 96 = .ok (.iload_n 2, 1) := dk_28 (dw rcX10_findFeetFrom_84 8 rfl)
theorem dX10_findFeetFrom_97 : decode cX10_findFeetFrom 97 = .ok (.aload_n 1, 1) := dk_43 (dw rcX10_findFeetFrom_84 9 rfl)
theorem dX10_findFeetFrom_98 : decode cX10_findFeetFrom 98 = .ok (.getfield 64, 3) := dk_180 (dw rcX10_findFeetFrom_84 10 rfl) rfl
theorem dX10_findFeetFrom_101 : decode cX10_findFeetFrom 101 = .ok (.iadd, 1) := dk_96 (dw rcX10_findFeetFrom_84 11 rfl)
theorem dX10_findFeetFrom_102 : decode cX10_findFeetFrom 102 = .ok (.iconst 1, 1) := dk_4 (dw rcX10_findFeetFrom_84 12 rfl)
theorem dX10_findFeetFrom_103 : decode cX10_findFeetFrom 103 = .ok (.iadd, 1) := dk_96 (dw rcX10_findFeetFrom_84 13 rfl)
theorem dX10_findFeetFrom_104 : decode cX10_findFeetFrom 104 = .ok (.iload_n 2, 1) := dk_28 (dw rcX10_findFeetFrom_84 14 rfl)
theorem dX10_findFeetFrom_105 : decode cX10_findFeetFrom 105 = .ok (.aload_n 1, 1) := dk_43 (dw rcX10_findFeetFrom_84 15 rfl)
theorem dX10_findFeetFrom_106 : decode cX10_findFeetFrom 106 = .ok (.getfield 71, 3) := dk_180 (dw rcX10_findFeetFrom_84 16 rfl) rfl
theorem dX10_findFeetFrom_109 : decode cX10_findFeetFrom 109 = .ok (.iadd, 1) := dk_96 (dw rcX10_findFeetFrom_84 17 rfl)
theorem dX10_findFeetFrom_110 : decode cX10_findFeetFrom 110 = .ok (.aload_n 1, 1) := dk_43 (dw rcX10_findFeetFrom_84 18 rfl)
theorem dX10_findFeetFrom_111 : decode cX10_findFeetFrom 111 = .ok (.getfield 34, 3) := dk_180 (dw rcX10_findFeetFrom_84 19 rfl) rfl
theorem dX10_findFeetFrom_114 : decode cX10_findFeetFrom 114 = .ok (.invokestatic 49, 3) := dk_184 (dw rcX10_findFeetFrom_84 20 rfl) rfl
theorem dX10_findFeetFrom_117 : decode cX10_findFeetFrom 117 = .ok (.invokestatic 67, 3) := dk_184 (dw rcX10_findFeetFrom_84 21 rfl) rfl
theorem dX10_findFeetFrom_120 : decode cX10_findFeetFrom 120 = .ok (.istore 7, 2) := dk_54 (dw rcX10_findFeetFrom_84 22 rfl)
theorem dX10_findFeetFrom_122 : decode cX10_findFeetFrom 122 = .ok (.iload 5, 2) := dk_21 (dw rcX10_findFeetFrom_84 23 rfl)
noncomputable def rbX10_findFeetFrom_124 : List (Nat × List Nat) := [(124, [4]), (125, [21, 7]), (127, [96]), (128, [184, 0, 49]), (131, [54, 4]), (133, [42]), (134, [180, 0, 13]), (137, [5]), (138, [29]), (139, [104]), (140, [50]), (141, [28]), (142, [21, 4]), (144, [79]), (145, [42]), (146, [180, 0, 13]), (149, [5]), (150, [29]), (151, [104]), (152, [4]), (153, [96]), (154, [50]), (155, [28]), (156, [21, 5])]
theorem rcX10_findFeetFrom_124 : dgo (lb cX10_findFeetFrom) 0 rbX10_findFeetFrom_124 = true := by decide +kernel
theorem dX10_findFeetFrom_124 : decode cX10_findFeetFrom 124 = .ok (.iconst 1, 1) := dk_4 (dw rcX10_findFeetFrom_124 0 rfl)
theorem dX10_findFeetFrom_125 : decode cX10_findFeetFrom 125 = .ok (.iload 7, 2) := dk_21 (dw rcX10_findFeetFrom_124 1 rfl)
theorem dX10_findFeetFrom_127 : decode cX10_findFeetFrom 127 = .ok (.iadd, 1) := dk_96 (dw rcX10_findFeetFrom_124 2 rfl)
theorem dX10_findFeetFrom_128 : decode cX10_findFeetFrom 128 = .ok (.invokestatic 49, 3) := dk_184 (dw rcX10_findFeetFrom_124 3 rfl) rfl
theorem dX10_findFeetFrom_131 : decode cX10_findFeetFrom 131 = .ok (.istore 4, 2) := dk_54 (dw rcX10_findFeetFrom_124 4 rfl)
theorem dX10_findFeetFrom_133 : decode cX10_findFeetFrom 133 = .ok (.aload_n 0, 1) := dk_42 (dw rcX10_findFeetFrom_124 5 rfl)
theorem dX10_findFeetFrom_134 : decode cX10_findFeetFrom 134 = .ok (.getfield 13, 3) := dk_180 (dw rcX10_findFeetFrom_124 6 rfl) rfl
theorem dX10_findFeetFrom_137 : decode cX10_findFeetFrom 137 = .ok (.iconst 2, 1) := dk_5 (dw rcX10_findFeetFrom_124 7 rfl)
theorem dX10_findFeetFrom_138 : decode cX10_findFeetFrom 138 = .ok (.iload_n 3, 1) := dk_29 (dw rcX10_findFeetFrom_124 8 rfl)
theorem dX10_findFeetFrom_139 : decode cX10_findFeetFrom 139 = .ok (.imul, 1) := dk_104 (dw rcX10_findFeetFrom_124 9 rfl)
theorem dX10_findFeetFrom_140 : decode cX10_findFeetFrom 140 = .ok (.aaload, 1) := dk_50 (dw rcX10_findFeetFrom_124 10 rfl)
theorem dX10_findFeetFrom_141 : decode cX10_findFeetFrom 141 = .ok (.iload_n 2, 1) := dk_28 (dw rcX10_findFeetFrom_124 11 rfl)
theorem dX10_findFeetFrom_142 : decode cX10_findFeetFrom 142 = .ok (.iload 4, 2) := dk_21 (dw rcX10_findFeetFrom_124 12 rfl)
theorem dX10_findFeetFrom_144 : decode cX10_findFeetFrom 144 = .ok (.iastore, 1) := dk_79 (dw rcX10_findFeetFrom_124 13 rfl)
theorem dX10_findFeetFrom_145 : decode cX10_findFeetFrom 145 = .ok (.aload_n 0, 1) := dk_42 (dw rcX10_findFeetFrom_124 14 rfl)
theorem dX10_findFeetFrom_146 : decode cX10_findFeetFrom 146 = .ok (.getfield 13, 3) := dk_180 (dw rcX10_findFeetFrom_124 15 rfl) rfl
theorem dX10_findFeetFrom_149 : decode cX10_findFeetFrom 149 = .ok (.iconst 2, 1) := dk_5 (dw rcX10_findFeetFrom_124 16 rfl)
theorem dX10_findFeetFrom_150 : decode cX10_findFeetFrom 150 = .ok (.iload_n 3, 1) := dk_29 (dw rcX10_findFeetFrom_124 17 rfl)
theorem dX10_findFeetFrom_151 : decode cX10_findFeetFrom 151 = .ok (.imul, 1) := dk_104 (dw rcX10_findFeetFrom_124 18 rfl)
theorem dX10_findFeetFrom_152 : decode cX10_findFeetFrom 152 = .ok (.iconst 1, 1) := dk_4 (dw rcX10_findFeetFrom_124 19 rfl)
theorem dX10_findFeetFrom_153 : decode cX10_findFeetFrom 153 = .ok (.iadd, 1) := dk_96 (dw rcX10_findFeetFrom_124 20 rfl)
theorem dX10_findFeetFrom_154 : decode cX10_findFeetFrom 154 = .ok (.aaload, 1) := dk_50 (dw rcX10_findFeetFrom_124 21 rfl)
theorem dX10_findFeetFrom_155 : decode cX10_findFeetFrom 155 = .ok (.iload_n 2, 1) := dk_28 (dw rcX10_findFeetFrom_124 22 rfl)
theorem dX10_findFeetFrom_156 : decode cX10_findFeetFrom 156 = .ok (.iload 5, 2) := dk_21 (dw rcX10_findFeetFrom_124 23 rfl)
noncomputable def rbX10_findFeetFrom_158 : List (Nat × List Nat) := [(158, [79]), (159, [177])]
theorem rcX10_findFeetFrom_158 : dgo (lb cX10_findFeetFrom) 0 rbX10_findFeetFrom_158 = true := by decide +kernel
theorem dX10_findFeetFrom_158 : decode cX10_findFeetFrom 158 = .ok (.iastore, 1) := dk_79 (dw rcX10_findFeetFrom_158 0 rfl)
theorem dX10_findFeetFrom_159 : decode cX10_findFeetFrom 159 = .ok (.return_, 1) := dk_177 (dw rcX10_findFeetFrom_158 1 rfl)
noncomputable def rbX10_isThereWay_0 : List (Nat × List Nat) := [(0, [42]), (1, [180, 0, 13]), (4, [3]), (5, [50]), (6, [77]), (7, [42]), (8, [180, 0, 13]), (11, [4]), (12, [50]), (13, [78]), (14, [44]), (15, [43]), (16, [180, 0, 34]), (19, [4]), (20, [96]), (21, [18, 44]), (23, [79]), (24, [45]), (25, [43]), (26, [180, 0, 34]), (29, [4]), (30, [96]), (31, [18, 44]), (33, [79])]
theorem rcX10_isThereWay_0 : dgo (lb cX10_isThereWay) 0 rbX10_isThereWay_0 = true := by decide +kernel
theorem dX10_isThereWay_0 : decode cX10_isThereWay 0 = .ok (.aload_n 0, 1) := dk_42 (dw rcX10_isThereWay_0 0 rfl)
theorem dX10_isThereWay_1 : decode cX10_isThereWay 1 = .ok (.getfield 13, 3) := dk_180 (dw rcX10_isThereWay_0 1 rfl) rfl
theorem dX10_isThereWay_4 : decode cX10_isThereWay 4 = .ok (.iconst 0, 1) := dk_3 (dw rcX10_isThereWay_0 2 rfl)
theorem dX10_isThereWay_5 : decode cX10_isThereWay 5 = .ok (.aaload, 1) := dk_50 (dw rcX10_isThereWay_0 3 rfl)
theorem dX10_isThereWay_6 : decode cX10_isThereWay 6 = .ok (.astore_n 2, 1) := dk_77 (dw rcX10_isThereWay_0 4 rfl)
theorem dX10_isThereWay_7 : decode cX10_isThereWay 7 = .ok (.aload_n 0, 1) := dk_42 (dw rcX10_isThereWay_0 5 rfl)
theorem dX10_isThereWay_8 : decode cX10_isThereWay 8 = .ok (.getfield 13, 3) := dk_180 (dw rcX10_isThereWay_0 6 rfl) rfl
theorem dX10_isThereWay_11 : decode cX10_isThereWay 11 = .ok (.iconst 1, 1) := dk_4 (dw rcX10_isThereWay_0 7 rfl)
theorem dX10_isThereWay_12 : decode cX10_isThereWay 12 = .ok (.aaload, 1) := dk_50 (dw rcX10_isThereWay_0 8 rfl)
theorem dX10_isThereWay_13 : decode cX10_isThereWay 13 = .ok (.astore_n 3, 1) := dk_78 (dw rcX10_isThereWay_0 9 rfl)
theorem dX10_isThereWay_14 : decode cX10_isThereWay 14 = .ok (.aload_n 2, 1) := dk_44 (dw rcX10_isThereWay_0 10 rfl)
theorem dX10_isThereWay_15 : decode cX10_isThereWay 15 = .ok (.aload_n 1, 1) := dk_43 (dw rcX10_isThereWay_0 11 rfl)
theorem dX10_isThereWay_16 : decode cX10_isThereWay 16 = .ok (.getfield 34, 3) := dk_180 (dw rcX10_isThereWay_0 12 rfl) rfl
theorem dX10_isThereWay_19 : decode cX10_isThereWay 19 = .ok (.iconst 1, 1) := dk_4 (dw rcX10_isThereWay_0 13 rfl)
theorem dX10_isThereWay_20 : decode cX10_isThereWay 20 = .ok (.iadd, 1) := dk_96 (dw rcX10_isThereWay_0 14 rfl)
theorem dX10_isThereWay_21 : decode cX10_isThereWay 21 = .ok (.ldc 44, 2) := dk_18 (dw rcX10_isThereWay_0 15 rfl)
theorem dX10_isThereWay_23 : decode cX10_isThereWay 23 = .ok (.iastore, 1) := dk_79 (dw rcX10_isThereWay_0 16 rfl)
theorem dX10_isThereWay_24 : decode cX10_isThereWay 24 = .ok (.aload_n 3, 1) := dk_45 (dw rcX10_isThereWay_0 17 rfl)
theorem dX10_isThereWay_25 : decode cX10_isThereWay 25 = .ok (.aload_n 1, 1) := dk_43 (dw rcX10_isThereWay_0 18 rfl)
theorem dX10_isThereWay_26 : decode cX10_isThereWay 26 = .ok (.getfield 34, 3) := dk_180 (dw rcX10_isThereWay_0 19 rfl) rfl
theorem dX10_isThereWay_29 : decode cX10_isThereWay 29 = .ok (.iconst 1, 1) := dk_4 (dw rcX10_isThereWay_0 20 rfl)
theorem dX10_isThereWay_30 : decode cX10_isThereWay 30 = .ok (.iadd, 1) := dk_96 (dw rcX10_isThereWay_0 21 rfl)
theorem dX10_isThereWay_31 : decode cX10_isThereWay 31 = .ok (.ldc 44, 2) := dk_18 (dw rcX10_isThereWay_0 22 rfl)
theorem dX10_isThereWay_33 : decode cX10_isThereWay 33 = .ok (.iastore, 1) := dk_79 (dw rcX10_isThereWay_0 23 rfl)
noncomputable def rbX10_isThereWay_34 : List (Nat × List Nat) := [(34, [43]), (35, [180, 0, 34]), (38, [54, 4]), (40, [21, 4]), (42, [155, 0, 149]), (45, [21, 4]), (47, [43]), (48, [180, 0, 58]), (51, [161, 0, 7]), (54, [4]), (55, [167, 0, 4]), (58, [3]), (59, [54, 5]), (61, [21, 5]), (63, [154, 0, 22]), (66, [44]), (67, [21, 4]), (69, [43]), (70, [180, 0, 61]), (73, [96]), (74, [46]), (75, [21, 4]), (77, [43]), (78, [180, 0, 64])]
theorem rcX10_isThereWay_34 : dgo (lb cX10_isThereWay) 0 rbX10_isThereWay_34 = true := by decide +kernel
theorem dX10_isThereWay_34 : decode cX10_isThereWay 34 = .ok (.aload_n 1, 1) := dk_43 (dw rcX10_isThereWay_34 0 rfl)
theorem dX10_isThereWay_35 : decode cX10_isThereWay 35 = .ok (.getfield 34, 3) := dk_180 (dw rcX10_isThereWay_34 1 rfl) rfl
theorem dX10_isThereWay_38 : decode cX10_isThereWay 38 = .ok (.istore 4, 2) := dk_54 (dw rcX10_isThereWay_34 2 rfl)
theorem dX10_isThereWay_40 : decode cX10_isThereWay 40 = .ok (.iload 4, 2) := dk_21 (dw rcX10_isThereWay_34 3 rfl)
theorem dX10_isThereWay_42 : decode cX10_isThereWay 42 = .ok (.ifCond .lt 149, 3) := dk_155 (dw rcX10_isThereWay_34 4 rfl) rfl
theorem dX10_isThereWay_45 : decode cX10_isThereWay 45 = .ok (.iload 4, 2) := dk_21 (dw rcX10_isThereWay_34 5 rfl)
theorem dX10_isThereWay_47 : decode cX10_isThereWay 47 = .ok (.aload_n 1, 1) := dk_43 (dw rcX10_isThereWay_34 6 rfl)
theorem dX10_isThereWay_48 : decode cX10_isThereWay 48 = .ok (.getfield 58, 3) := dk_180 (dw rcX10_isThereWay_34 7 rfl) rfl
theorem dX10_isThereWay_51 : decode cX10_isThereWay 51 = .ok (.if_icmp .lt 7, 3) := dk_161 (dw rcX10_isThereWay_34 8 rfl) rfl
theorem dX10_isThereWay_54 : decode cX10_isThereWay 54 = .ok (.iconst 1, 1) := dk_4 (dw rcX10_isThereWay_34 9 rfl)
theorem dX10_isThereWay_55 : decode cX10_isThereWay 55 = .ok (.goto 4, 3) := dk_167 (dw rcX10_isThereWay_34 10 rfl) rfl
theorem dX10_isThereWay_58 : decode cX10_isThereWay 58 = .ok (.iconst 0, 1) := dk_3 (dw rcX10_isThereWay_34 11 rfl)
theorem dX10_isThereWay_59 : decode cX10_isThereWay 59 = .ok (.istore 5, 2) := dk_54 (dw rcX10_isThereWay_34 12 rfl)
theorem dX10_isThereWay_61 : decode cX10_isThereWay 61 = .ok (.iload 5, 2) := dk_21 (dw rcX10_isThereWay_34 13 rfl)
theorem dX10_isThereWay_63 : decode cX10_isThereWay 63 = .ok (.ifCond .ne 22, 3) := dk_154 (dw rcX10_isThereWay_34 14 rfl) rfl
theorem dX10_isThereWay_66 : decode cX10_isThereWay 66 = .ok (.aload_n 2, 1) := dk_44 (dw rcX10_isThereWay_34 15 rfl)
theorem dX10_isThereWay_67 : decode cX10_isThereWay 67 = .ok (.iload 4, 2) := dk_21 (dw rcX10_isThereWay_34 16 rfl)
theorem dX10_isThereWay_69 : decode cX10_isThereWay 69 = .ok (.aload_n 1, 1) := dk_43 (dw rcX10_isThereWay_34 17 rfl)
theorem dX10_isThereWay_70 : decode cX10_isThereWay 70 = .ok (.getfield 61, 3) := dk_180 (dw rcX10_isThereWay_34 18 rfl) rfl
theorem dX10_isThereWay_73 : decode cX10_isThereWay 73 = .ok (.iadd, 1) := dk_96 (dw rcX10_isThereWay_34 19 rfl)
theorem dX10_isThereWay_74 : decode cX10_isThereWay 74 = .ok (.iaload, 1) := dk_46 (dw rcX10_isThereWay_34 20 rfl)
theorem dX10_isThereWay_75 : decode cX10_isThereWay 75 = .ok (.iload 4, 2) := dk_21 (dw rcX10_isThereWay_34 21 rfl)
theorem dX10_isThereWay_77 : decode cX10_isThereWay 77 = .ok (.aload_n 1, 1) := dk_43 (dw rcX10_isThereWay_34 22 rfl)
theorem dX10_isThereWay_78 : decode cX10_isThereWay 78 = .ok (.getfield 64, 3) := dk_180 (dw rcX10_isThereWay_34 23 rfl) rfl
noncomputable def rbX10_isThereWay_81 : List (Nat × List Nat) := [(81, [96]), (82, [163, 0, 7]), (85, [4]), (86, [167, 0, 4]), (89, [3]), (90, [54, 6]), (92, [21, 6]), (94, [154, 0, 24]), (97, [45]), (98, [21, 4]), (100, [43]), (101, [180, 0, 64]), (104, [96]), (105, [4]), (106, [96]), (107, [46]), (108, [21, 4]), (110, [43]), (111, [180, 0, 71]), (114, [96]), (115, [163, 0, 7]), (118, [4]), (119, [167, 0, 4]), (122, [3])]
theorem rcX10_isThereWay_81 : dgo (lb cX10_isThereWay) 0 rbX10_isThereWay_81 = true := by decide +kernel
theorem dX10_isThereWay_81 : decode cX10_isThereWay 81 = .ok (.iadd, 1) := dk_96 (dw rcX10_isThereWay_81 0 rfl)
theorem dX10_isThereWay_82 : decode cX10_isThereWay 82 = .ok (.if_icmp .gt 7, 3) := dk_163 (dw rcX10_isThereWay_81 1 rfl) rfl
theorem dX10_isThereWay_85 : decode cX10_isThereWay 85 = .ok (.iconst 1, 1) := dk_4 (dw rcX10_isThereWay_81 2 rfl)
theorem dX10_isThereWay_86 : decode cX10_isThereWay 86 = .ok (.goto 4, 3) := dk_167 (dw rcX10_isThereWay_81 3 rfl) rfl
theorem dX10_isThereWay_89 : decode cX10_isThereWay 89 = .ok (.iconst 0, 1) := dk_3 (dw rcX10_isThereWay_81 4 rfl)
theorem dX10_isThereWay_90 : decode cX10_isThereWay 90 = .ok (.istore 6, 2) := dk_54 (dw rcX10_isThereWay_81 5 rfl)
theorem dX10_isThereWay_92 : decode cX10_isThereWay 92 = .ok (.iload 6, 2) := dk_21 (dw rcX10_isThereWay_81 6 rfl)
theorem dX10_isThereWay_94 : decode cX10_isThereWay 94 = .ok (.ifCond .ne 24, 3) := dk_154 (dw rcX10_isThereWay_81 7 rfl) rfl
theorem dX10_isThereWay_97 : decode cX10_isThereWay 97 = .ok (.aload_n 3, 1) := dk_45 (dw rcX10_isThereWay_81 8 rfl)
theorem dX10_isThereWay_98 : decode cX10_isThereWay 98 = .ok (.iload 4, 2) := dk_21 (dw rcX10_isThereWay_81 9 rfl)
theorem dX10_isThereWay_100 : decode cX10_isThereWay 100 = .ok (.aload_n 1, 1) := dk_43 (dw rcX10_isThereWay_81 10 rfl)
theorem dX10_isThereWay_101 : decode cX10_isThereWay 101 = .ok (.getfield 64, 3) := dk_180 (dw rcX10_isThereWay_81 11 rfl) rfl
theorem dX10_isThereWay_104 : decode cX10_isThereWay 104 = .ok (.iadd, 1) := dk_96 (dw rcX10_isThereWay_81 12 rfl)
theorem dX10_isThereWay_105 : decode cX10_isThereWay 105 = .ok (.iconst 1, 1) := dk_4 (dw rcX10_isThereWay_81 13 rfl)
theorem dX10_isThereWay_106 : decode cX10_isThereWay 106 = .ok (.iadd, 1) := dk_96 (dw rcX10_isThereWay_81 14 rfl)
theorem dX10_isThereWay_107 : decode cX10_isThereWay 107 = .ok (.iaload, 1) := dk_46 (dw rcX10_isThereWay_81 15 rfl)
theorem dX10_isThereWay_108 : decode cX10_isThereWay 108 = .ok (.iload 4, 2) := dk_21 (dw rcX10_isThereWay_81 16 rfl)
theorem dX10_isThereWay_110 : decode cX10_isThereWay 110 = .ok (.aload_n 1, 1) := dk_43 (dw rcX10_isThereWay_81 17 rfl)
theorem dX10_isThereWay_111 : decode cX10_isThereWay 111 = .ok (.getfield 71, 3) := dk_180 (dw rcX10_isThereWay_81 18 rfl) rfl
theorem dX10_isThereWay_114 : decode cX10_isThereWay 114 = .ok (.iadd, 1) := dk_96 (dw rcX10_isThereWay_81 19 rfl)
theorem dX10_isThereWay_115 : decode cX10_isThereWay 115 = .ok (.if_icmp .gt 7, 3) := dk_163 (dw rcX10_isThereWay_81 20 rfl) rfl
theorem dX10_isThereWay_118 : decode cX10_isThereWay 118 = .ok (.iconst 1, 1) := dk_4 (dw rcX10_isThereWay_81 21 rfl)
theorem dX10_isThereWay_119 : decode cX10_isThereWay 119 = .ok (.goto 4, 3) := dk_167 (dw rcX10_isThereWay_81 22 rfl) rfl
theorem dX10_isThereWay_122 : decode cX10_isThereWay 122 = .ok (.iconst 0, 1) := dk_3 (dw rcX10_isThereWay_81 23 rfl)
noncomputable def rbX10_isThereWay_123 : List (Nat × List Nat) := [(123, [54, 7]), (125, [45]), (126, [21, 4]), (128, [43]), (129, [180, 0, 55]), (132, [21, 4]), (134, [51]), (135, [153, 0, 13]), (138, [21, 6]), (140, [153, 0, 8]), (143, [21, 4]), (145, [167, 0, 9]), (148, [45]), (149, [21, 4]), (151, [4]), (152, [96]), (153, [46]), (154, [79]), (155, [44]), (156, [21, 4]), (158, [43]), (159, [180, 0, 55]), (162, [21, 4]), (164, [51])]
theorem rcX10_isThereWay_123 : dgo (lb cX10_isThereWay) 0 rbX10_isThereWay_123 = true := by decide +kernel
theorem dX10_isThereWay_123 : decode cX10_isThereWay 123 = .ok (.istore 7, 2) := dk_54 (dw rcX10_isThereWay_123 0 rfl)
theorem dX10_isThereWay_125 : decode cX10_isThereWay 125 = .ok (.aload_n 3, 1) := dk_45 (dw rcX10_isThereWay_123 1 rfl)
theorem dX10_isThereWay_126 : decode cX10_isThereWay 126 = .ok (.iload 4, 2) := dk_21 (dw rcX10_isThereWay_123 2 rfl)
theorem dX10_isThereWay_128 : decode cX10_isThereWay 128 = .ok (.aload_n 1, 1) := dk_43 (dw rcX10_isThereWay_123 3 rfl)
theorem dX10_isThereWay_129 : decode cX10_isThereWay 129 = .ok (.getfield 55, 3) := dk_180 (dw rcX10_isThereWay_123 4 rfl) rfl
theorem dX10_isThereWay_132 : decode cX10_isThereWay 132 = .ok (.iload 4, 2) := dk_21 (dw rcX10_isThereWay_123 5 rfl)
theorem dX10_isThereWay_134 : decode cX10_isThereWay 134 = .ok (.baload, 1) := dk_51 (dw rcX10_isThereWay_123 6 rfl)
theorem dX10_isThereWay_135 : decode cX10_isThereWay 135 = .ok (.ifCond .eq 13, 3) := dk_153 (dw rcX10_isThereWay_123 7 rfl) rfl
theorem dX10_isThereWay_138 : decode cX10_isThereWay 138 = .ok (.iload 6, 2) := dk_21 (dw rcX10_isThereWay_123 8 rfl)
theorem dX10_isThereWay_140 : decode cX10_isThereWay 140 = .ok (.ifCond .eq 8, 3) := dk_153 (dw rcX10_isThereWay_123 9 rfl) rfl
theorem dX10_isThereWay_143 : decode cX10_isThereWay 143 = .ok (.iload 4, 2) := dk_21 (dw rcX10_isThereWay_123 10 rfl)
theorem dX10_isThereWay_145 : decode cX10_isThereWay 145 = .ok (.goto 9, 3) := dk_167 (dw rcX10_isThereWay_123 11 rfl) rfl
theorem dX10_isThereWay_148 : decode cX10_isThereWay 148 = .ok (.aload_n 3, 1) := dk_45 (dw rcX10_isThereWay_123 12 rfl)
theorem dX10_isThereWay_149 : decode cX10_isThereWay 149 = .ok (.iload 4, 2) := dk_21 (dw rcX10_isThereWay_123 13 rfl)
theorem dX10_isThereWay_151 : decode cX10_isThereWay 151 = .ok (.iconst 1, 1) := dk_4 (dw rcX10_isThereWay_123 14 rfl)
theorem dX10_isThereWay_152 : decode cX10_isThereWay 152 = .ok (.iadd, 1) := dk_96 (dw rcX10_isThereWay_123 15 rfl)
theorem dX10_isThereWay_153 : decode cX10_isThereWay 153 = .ok (.iaload, 1) := dk_46 (dw rcX10_isThereWay_123 16 rfl)
theorem dX10_isThereWay_154 : decode cX10_isThereWay 154 = .ok (.iastore, 1) := dk_79 (dw rcX10_isThereWay_123 17 rfl)
theorem dX10_isThereWay_155 : decode cX10_isThereWay 155 = .ok (.aload_n 2, 1) := dk_44 (dw rcX10_isThereWay_123 18 rfl)
theorem dX10_isThereWay_156 : decode cX10_isThereWay 156 = .ok (.iload 4, 2) := dk_21 (dw rcX10_isThereWay_123 19 rfl)
theorem dX10_isThereWay_158 : decode cX10_isThereWay 158 = .ok (.aload_n 1, 1) := dk_43 (dw rcX10_isThereWay_123 20 rfl)
theorem dX10_isThereWay_159 : decode cX10_isThereWay 159 = .ok (.getfield 55, 3) := dk_180 (dw rcX10_isThereWay_123 21 rfl) rfl
theorem dX10_isThereWay_162 : decode cX10_isThereWay 162 = .ok (.iload 4, 2) := dk_21 (dw rcX10_isThereWay_123 22 rfl)
theorem dX10_isThereWay_164 : decode cX10_isThereWay 164 = .ok (.baload, 1) := dk_51 (dw rcX10_isThereWay_123 23 rfl)
noncomputable def rbX10_isThereWay_165 : List (Nat × List Nat) := [(165, [153, 0, 13]), (168, [21, 7]), (170, [153, 0, 8]), (173, [21, 4]), (175, [167, 0, 9]), (178, [44]), (179, [21, 4]), (181, [4]), (182, [96]), (183, [46]), (184, [79]), (185, [132, 4, 255]), (188, [167, 255, 108]), (191, [44]), (192, [3]), (193, [46]), (194, [43]), (195, [180, 0, 64]), (198, [162, 0, 7]), (201, [4]), (202, [167, 0, 4]), (205, [3]), (206, [172])]
theorem rcX10_isThereWay_165 : dgo (lb cX10_isThereWay) 0 rbX10_isThereWay_165 = true := by decide +kernel
theorem dX10_isThereWay_165 : decode cX10_isThereWay 165 = .ok (.ifCond .eq 13, 3) := dk_153 (dw rcX10_isThereWay_165 0 rfl) rfl
theorem dX10_isThereWay_168 : decode cX10_isThereWay 168 = .ok (.iload 7, 2) := dk_21 (dw rcX10_isThereWay_165 1 rfl)
theorem dX10_isThereWay_170 : decode cX10_isThereWay 170 = .ok (.ifCond .eq 8, 3) := dk_153 (dw rcX10_isThereWay_165 2 rfl) rfl
theorem dX10_isThereWay_173 : decode cX10_isThereWay 173 = .ok (.iload 4, 2) := dk_21 (dw rcX10_isThereWay_165 3 rfl)
theorem dX10_isThereWay_175 : decode cX10_isThereWay 175 = .ok (.goto 9, 3) := dk_167 (dw rcX10_isThereWay_165 4 rfl) rfl
theorem dX10_isThereWay_178 : decode cX10_isThereWay 178 = .ok (.aload_n 2, 1) := dk_44 (dw rcX10_isThereWay_165 5 rfl)
theorem dX10_isThereWay_179 : decode cX10_isThereWay 179 = .ok (.iload 4, 2) := dk_21 (dw rcX10_isThereWay_165 6 rfl)
theorem dX10_isThereWay_181 : decode cX10_isThereWay 181 = .ok (.iconst 1, 1) := dk_4 (dw rcX10_isThereWay_165 7 rfl)
theorem dX10_isThereWay_182 : decode cX10_isThereWay 182 = .ok (.iadd, 1) := dk_96 (dw rcX10_isThereWay_165 8 rfl)
theorem dX10_isThereWay_183 : decode cX10_isThereWay 183 = .ok (.iaload, 1) := dk_46 (dw rcX10_isThereWay_165 9 rfl)
theorem dX10_isThereWay_184 : decode cX10_isThereWay 184 = .ok (.iastore, 1) := dk_79 (dw rcX10_isThereWay_165 10 rfl)
theorem dX10_isThereWay_185 : decode cX10_isThereWay 185 = .ok (.iinc 4 (-1), 3) := dk_132 (dw rcX10_isThereWay_165 11 rfl) rfl
theorem dX10_isThereWay_188 : decode cX10_isThereWay 188 = .ok (.goto (-148), 3) := dk_167 (dw rcX10_isThereWay_165 12 rfl) rfl
theorem dX10_isThereWay_191 : decode cX10_isThereWay 191 = .ok (.aload_n 2, 1) := dk_44 (dw rcX10_isThereWay_165 13 rfl)
theorem dX10_isThereWay_192 : decode cX10_isThereWay 192 = .ok (.iconst 0, 1) := dk_3 (dw rcX10_isThereWay_165 14 rfl)
theorem dX10_isThereWay_193 : decode cX10_isThereWay 193 = .ok (.iaload, 1) := dk_46 (dw rcX10_isThereWay_165 15 rfl)
theorem dX10_isThereWay_194 : decode cX10_isThereWay 194 = .ok (.aload_n 1, 1) := dk_43 (dw rcX10_isThereWay_165 16 rfl)
theorem dX10_isThereWay_195 : decode cX10_isThereWay 195 = .ok (.getfield 64, 3) := dk_180 (dw rcX10_isThereWay_165 17 rfl) rfl
theorem dX10_isThereWay_198 : decode cX10_isThereWay 198 = .ok (.if_icmp .ge 7, 3) := dk_162 (dw rcX10_isThereWay_165 18 rfl) rfl
theorem dX10_isThereWay_201 : decode cX10_isThereWay 201 = .ok (.iconst 1, 1) := dk_4 (dw rcX10_isThereWay_165 19 rfl)
theorem dX10_isThereWay_202 : decode cX10_isThereWay 202 = .ok (.goto 4, 3) := dk_167 (dw rcX10_isThereWay_165 20 rfl) rfl
theorem dX10_isThereWay_205 : decode cX10_isThereWay 205 = .ok (.iconst 0, 1) := dk_3 (dw rcX10_isThereWay_165 21 rfl)
theorem dX10_isThereWay_206 : decode cX10_isThereWay 206 = .ok (.ireturn, 1) := dk_172 (dw rcX10_isThereWay_165 22 rfl)
noncomputable def rbX10_layHeels_0 : List (Nat × List Nat) := [(0, [3]), (1, [54, 4]), (3, [43]), (4, [182, 0, 45]), (7, [54, 5]), (9, [3]), (10, [54, 6]), (12, [3]), (13, [54, 7]), (15, [28]), (16, [54, 8]), (18, [21, 8]), (20, [158, 0, 146]), (23, [21, 7]), (25, [45]), (26, [190]), (27, [162, 0, 139]), (30, [21, 7]), (32, [154, 0, 8]), (35, [18, 44]), (37, [167, 0, 14]), (40, [45]), (41, [21, 7]), (43, [4])]
theorem rcX10_layHeels_0 : dgo (lb cX10_layHeels) 0 rbX10_layHeels_0 = true := by decide +kernel
theorem dX10_layHeels_0 : decode cX10_layHeels 0 = .ok (.iconst 0, 1) := dk_3 (dw rcX10_layHeels_0 0 rfl)
theorem dX10_layHeels_1 : decode cX10_layHeels 1 = .ok (.istore 4, 2) := dk_54 (dw rcX10_layHeels_0 1 rfl)
theorem dX10_layHeels_3 : decode cX10_layHeels 3 = .ok (.aload_n 1, 1) := dk_43 (dw rcX10_layHeels_0 2 rfl)
theorem dX10_layHeels_4 : decode cX10_layHeels 4 = .ok (.invokevirtual 45, 3) := dk_182 (dw rcX10_layHeels_0 3 rfl) rfl
theorem dX10_layHeels_7 : decode cX10_layHeels 7 = .ok (.istore 5, 2) := dk_54 (dw rcX10_layHeels_0 4 rfl)
theorem dX10_layHeels_9 : decode cX10_layHeels 9 = .ok (.iconst 0, 1) := dk_3 (dw rcX10_layHeels_0 5 rfl)
theorem dX10_layHeels_10 : decode cX10_layHeels 10 = .ok (.istore 6, 2) := dk_54 (dw rcX10_layHeels_0 6 rfl)
theorem dX10_layHeels_12 : decode cX10_layHeels 12 = .ok (.iconst 0, 1) := dk_3 (dw rcX10_layHeels_0 7 rfl)
theorem dX10_layHeels_13 : decode cX10_layHeels 13 = .ok (.istore 7, 2) := dk_54 (dw rcX10_layHeels_0 8 rfl)
theorem dX10_layHeels_15 : decode cX10_layHeels 15 = .ok (.iload_n 2, 1) := dk_28 (dw rcX10_layHeels_0 9 rfl)
theorem dX10_layHeels_16 : decode cX10_layHeels 16 = .ok (.istore 8, 2) := dk_54 (dw rcX10_layHeels_0 10 rfl)
theorem dX10_layHeels_18 : decode cX10_layHeels 18 = .ok (.iload 8, 2) := dk_21 (dw rcX10_layHeels_0 11 rfl)
theorem dX10_layHeels_20 : decode cX10_layHeels 20 = .ok (.ifCond .le 146, 3) := dk_158 (dw rcX10_layHeels_0 12 rfl) rfl
theorem dX10_layHeels_23 : decode cX10_layHeels 23 = .ok (.iload 7, 2) := dk_21 (dw rcX10_layHeels_0 13 rfl)
theorem dX10_layHeels_25 : decode cX10_layHeels 25 = .ok (.aload_n 3, 1) := dk_45 (dw rcX10_layHeels_0 14 rfl)
theorem dX10_layHeels_26 : decode cX10_layHeels 26 = .ok (.arraylength, 1) := dk_190 (dw rcX10_layHeels_0 15 rfl)
theorem dX10_layHeels_27 : decode cX10_layHeels 27 = .ok (.if_icmp .ge 139, 3) := dk_162 (dw rcX10_layHeels_0 16 rfl) rfl
theorem dX10_layHeels_30 : decode cX10_layHeels 30 = .ok (.iload 7, 2) := dk_21 (dw rcX10_layHeels_0 17 rfl)
theorem dX10_layHeels_32 : decode cX10_layHeels 32 = .ok (.ifCond .ne 8, 3) := dk_154 (dw rcX10_layHeels_0 18 rfl) rfl
theorem dX10_layHeels_35 : decode cX10_layHeels 35 = .ok (.ldc 44, 2) := dk_18 (dw rcX10_layHeels_0 19 rfl)
theorem dX10_layHeels_37 : decode cX10_layHeels 37 = .ok (.goto 14, 3) := dk_167 (dw rcX10_layHeels_0 20 rfl) rfl
theorem dX10_layHeels_40 : decode cX10_layHeels 40 = .ok (.aload_n 3, 1) := dk_45 (dw rcX10_layHeels_0 21 rfl)
theorem dX10_layHeels_41 : decode cX10_layHeels 41 = .ok (.iload 7, 2) := dk_21 (dw rcX10_layHeels_0 22 rfl)
theorem dX10_layHeels_43 : decode cX10_layHeels 43 = .ok (.iconst 1, 1) := dk_4 (dw rcX10_layHeels_0 23 rfl)
noncomputable def rbX10_layHeels_44 : List (Nat × List Nat) := [(44, [100]), (45, [46]), (46, [43]), (47, [180, 0, 64]), (50, [96]), (51, [54, 9]), (53, [21, 4]), (55, [54, 10]), (57, [21, 10]), (59, [21, 5]), (61, [162, 0, 39]), (64, [42]), (65, [180, 0, 13]), (68, [21, 8]), (70, [21, 10]), (72, [21, 9]), (74, [164, 0, 7]), (77, [4]), (78, [167, 0, 4]), (81, [3]), (82, [184, 0, 74]), (85, [50]), (86, [21, 10]), (88, [46])]
theorem rcX10_layHeels_44 : dgo (lb cX10_layHeels) 0 rbX10_layHeels_44 = true := by decide +kernel
theorem dX10_layHeels_44 : decode cX10_layHeels 44 = .ok (.isub, 1) := dk_100 (dw rcX10_layHeels_44 0 rfl)
theorem dX10_layHeels_45 : decode cX10_layHeels 45 = .ok (.iaload, 1) := dk_46 (dw rcX10_layHeels_44 1 rfl)
theorem dX10_layHeels_46 : decode cX10_layHeels 46 = .ok (.aload_n 1, 1) := dk_43 (dw rcX10_layHeels_44 2 rfl)
theorem dX10_layHeels_47 : decode cX10_layHeels 47 = .ok (.getfield 64, 3) := dk_180 (dw rcX10_layHeels_44 3 rfl) rfl
theorem dX10_layHeels_50 : decode cX10_layHeels 50 = .ok (.iadd, 1) := dk_96 (dw rcX10_layHeels_44 4 rfl)
theorem dX10_layHeels_51 : decode cX10_layHeels 51 = .ok (.istore 9, 2) := dk_54 (dw rcX10_layHeels_44 5 rfl)
theorem dX10_layHeels_53 : decode cX10_layHeels 53 = .ok (.iload 4, 2) := dk_21 (dw rcX10_layHeels_44 6 rfl)
theorem dX10_layHeels_55 : decode cX10_layHeels 55 = .ok (.istore 10, 2) := dk_54 (dw rcX10_layHeels_44 7 rfl)
theorem dX10_layHeels_57 : decode cX10_layHeels 57 = .ok (.iload 10, 2) := dk_21 (dw rcX10_layHeels_44 8 rfl)
theorem dX10_layHeels_59 : decode cX10_layHeels 59 = .ok (.iload 5, 2) := dk_21 (dw rcX10_layHeels_44 9 rfl)
theorem dX10_layHeels_61 : decode cX10_layHeels 61 = .ok (.if_icmp .ge 39, 3) := dk_162 (dw rcX10_layHeels_44 10 rfl) rfl
theorem dX10_layHeels_64 : decode cX10_layHeels 64 = .ok (.aload_n 0, 1) := dk_42 (dw rcX10_layHeels_44 11 rfl)
theorem dX10_layHeels_65 : decode cX10_layHeels 65 = .ok (.getfield 13, 3) := dk_180 (dw rcX10_layHeels_44 12 rfl) rfl
theorem dX10_layHeels_68 : decode cX10_layHeels 68 = .ok (.iload 8, 2) := dk_21 (dw rcX10_layHeels_44 13 rfl)
theorem dX10_layHeels_70 : decode cX10_layHeels 70 = .ok (.iload 10, 2) := dk_21 (dw rcX10_layHeels_44 14 rfl)
theorem dX10_layHeels_72 : decode cX10_layHeels 72 = .ok (.iload 9, 2) := dk_21 (dw rcX10_layHeels_44 15 rfl)
theorem dX10_layHeels_74 : decode cX10_layHeels 74 = .ok (.if_icmp .le 7, 3) := dk_164 (dw rcX10_layHeels_44 16 rfl) rfl
theorem dX10_layHeels_77 : decode cX10_layHeels 77 = .ok (.iconst 1, 1) := dk_4 (dw rcX10_layHeels_44 17 rfl)
theorem dX10_layHeels_78 : decode cX10_layHeels 78 = .ok (.goto 4, 3) := dk_167 (dw rcX10_layHeels_44 18 rfl) rfl
theorem dX10_layHeels_81 : decode cX10_layHeels 81 = .ok (.iconst 0, 1) := dk_3 (dw rcX10_layHeels_44 19 rfl)
theorem dX10_layHeels_82 : decode cX10_layHeels 82 = .ok (.invokestatic 74, 3) := dk_184 (dw rcX10_layHeels_44 20 rfl) rfl
theorem dX10_layHeels_85 : decode cX10_layHeels 85 = .ok (.aaload, 1) := dk_50 (dw rcX10_layHeels_44 21 rfl)
theorem dX10_layHeels_86 : decode cX10_layHeels 86 = .ok (.iload 10, 2) := dk_21 (dw rcX10_layHeels_44 22 rfl)
theorem dX10_layHeels_88 : decode cX10_layHeels 88 = .ok (.iaload, 1) := dk_46 (dw rcX10_layHeels_44 23 rfl)
noncomputable def rbX10_layHeels_89 : List (Nat × List Nat) := [(89, [21, 8]), (91, [159, 0, 9]), (94, [132, 10, 1]), (97, [167, 255, 216]), (100, [45]), (101, [21, 7]), (103, [132, 7, 1]), (106, [21, 10]), (108, [79]), (109, [21, 10]), (111, [21, 9]), (113, [164, 0, 7]), (116, [4]), (117, [167, 0, 4]), (120, [3]), (121, [54, 6]), (123, [21, 10]), (125, [43]), (126, [180, 0, 61]), (129, [96]), (130, [54, 4]), (132, [21, 10]), (134, [21, 6]), (136, [153, 0, 10])]
theorem rcX10_layHeels_89 : dgo (lb cX10_layHeels) 0 rbX10_layHeels_89 = true := by decide +kernel
theorem dX10_layHeels_89 : decode cX10_layHeels 89 = .ok (.iload 8, 2) := dk_21 (dw rcX10_layHeels_89 0 rfl)
theorem dX10_layHeels_91 : decode cX10_layHeels 91 = .ok (.if_icmp .eq 9, 3) := dk_159 (dw rcX10_layHeels_89 1 rfl) rfl
theorem dX10_layHeels_94 : decode cX10_layHeels 94 = .ok (.iinc 10 1, 3) := dk_132 (dw rcX10_layHeels_89 2 rfl) rfl
theorem dX10_layHeels_97 : decode cX10_layHeels 97 = .ok (.goto (-40), 3) := dk_167 (dw rcX10_layHeels_89 3 rfl) rfl
theorem dX10_layHeels_100 : decode cX10_layHeels 100 = .ok (.aload_n 3, 1) := dk_45 (dw rcX10_layHeels_89 4 rfl)
theorem dX10_layHeels_101 : decode cX10_layHeels 101 = .ok (.iload 7, 2) := dk_21 (dw rcX10_layHeels_89 5 rfl)
theorem dX10_layHeels_103 : decode cX10_layHeels 103 = .ok (.iinc 7 1, 3) := dk_132 (dw rcX10_layHeels_89 6 rfl) rfl
theorem dX10_layHeels_106 : decode cX10_layHeels 106 = .ok (.iload 10, 2) := dk_21 (dw rcX10_layHeels_89 7 rfl)
theorem dX10_layHeels_108 : decode cX10_layHeels 108 = .ok (.iastore, 1) := dk_79 (dw rcX10_layHeels_89 8 rfl)
theorem dX10_layHeels_109 : decode cX10_layHeels 109 = .ok (.iload 10, 2) := dk_21 (dw rcX10_layHeels_89 9 rfl)
theorem dX10_layHeels_111 : decode cX10_layHeels 111 = .ok (.iload 9, 2) := dk_21 (dw rcX10_layHeels_89 10 rfl)
theorem dX10_layHeels_113 : decode cX10_layHeels 113 = .ok (.if_icmp .le 7, 3) := dk_164 (dw rcX10_layHeels_89 11 rfl) rfl
theorem dX10_layHeels_116 : decode cX10_layHeels 116 = .ok (.iconst 1, 1) := dk_4 (dw rcX10_layHeels_89 12 rfl)
theorem dX10_layHeels_117 : decode cX10_layHeels 117 = .ok (.goto 4, 3) := dk_167 (dw rcX10_layHeels_89 13 rfl) rfl
theorem dX10_layHeels_120 : decode cX10_layHeels 120 = .ok (.iconst 0, 1) := dk_3 (dw rcX10_layHeels_89 14 rfl)
theorem dX10_layHeels_121 : decode cX10_layHeels 121 = .ok (.istore 6, 2) := dk_54 (dw rcX10_layHeels_89 15 rfl)
theorem dX10_layHeels_123 : decode cX10_layHeels 123 = .ok (.iload 10, 2) := dk_21 (dw rcX10_layHeels_89 16 rfl)
theorem dX10_layHeels_125 : decode cX10_layHeels 125 = .ok (.aload_n 1, 1) := dk_43 (dw rcX10_layHeels_89 17 rfl)
theorem dX10_layHeels_126 : decode cX10_layHeels 126 = .ok (.getfield 61, 3) := dk_180 (dw rcX10_layHeels_89 18 rfl) rfl
theorem dX10_layHeels_129 : decode cX10_layHeels 129 = .ok (.iadd, 1) := dk_96 (dw rcX10_layHeels_89 19 rfl)
theorem dX10_layHeels_130 : decode cX10_layHeels 130 = .ok (.istore 4, 2) := dk_54 (dw rcX10_layHeels_89 20 rfl)
theorem dX10_layHeels_132 : decode cX10_layHeels 132 = .ok (.iload 10, 2) := dk_21 (dw rcX10_layHeels_89 21 rfl)
theorem dX10_layHeels_134 : decode cX10_layHeels 134 = .ok (.iload 6, 2) := dk_21 (dw rcX10_layHeels_89 22 rfl)
theorem dX10_layHeels_136 : decode cX10_layHeels 136 = .ok (.ifCond .eq 10, 3) := dk_153 (dw rcX10_layHeels_89 23 rfl) rfl
noncomputable def rbX10_layHeels_139 : List (Nat × List Nat) := [(139, [43]), (140, [180, 0, 64]), (143, [167, 0, 7]), (146, [43]), (147, [180, 0, 71]), (150, [96]), (151, [43]), (152, [180, 0, 34]), (155, [184, 0, 49]), (158, [54, 5]), (160, [132, 8, 255]), (163, [167, 255, 111]), (166, [21, 7]), (168, [172])]
theorem rcX10_layHeels_139 : dgo (lb cX10_layHeels) 0 rbX10_layHeels_139 = true := by decide +kernel
theorem dX10_layHeels_139 : decode cX10_layHeels 139 = .ok (.aload_n 1, 1) := dk_43 (dw rcX10_layHeels_139 0 rfl)
theorem dX10_layHeels_140 : decode cX10_layHeels 140 = .ok (.getfield 64, 3) := dk_180 (dw rcX10_layHeels_139 1 rfl) rfl
theorem dX10_layHeels_143 : decode cX10_layHeels 143 = .ok (.goto 7, 3) := dk_167 (dw rcX10_layHeels_139 2 rfl) rfl
theorem dX10_layHeels_146 : decode cX10_layHeels 146 = .ok (.aload_n 1, 1) := dk_43 (dw rcX10_layHeels_139 3 rfl)
theorem dX10_layHeels_147 : decode cX10_layHeels 147 = .ok (.getfield 71, 3) := dk_180 (dw rcX10_layHeels_139 4 rfl) rfl
theorem dX10_layHeels_150 : decode cX10_layHeels 150 = .ok (.iadd, 1) := dk_96 (dw rcX10_layHeels_139 5 rfl)
theorem dX10_layHeels_151 : decode cX10_layHeels 151 = .ok (.aload_n 1, 1) := dk_43 (dw rcX10_layHeels_139 6 rfl)
theorem dX10_layHeels_152 : decode cX10_layHeels 152 = .ok (.getfield 34, 3) := dk_180 (dw rcX10_layHeels_139 7 rfl) rfl
theorem dX10_layHeels_155 : decode cX10_layHeels 155 = .ok (.invokestatic 49, 3) := dk_184 (dw rcX10_layHeels_139 8 rfl) rfl
theorem dX10_layHeels_158 : decode cX10_layHeels 158 = .ok (.istore 5, 2) := dk_54 (dw rcX10_layHeels_139 9 rfl)
theorem dX10_layHeels_160 : decode cX10_layHeels 160 = .ok (.iinc 8 (-1), 3) := dk_132 (dw rcX10_layHeels_139 10 rfl) rfl
theorem dX10_layHeels_163 : decode cX10_layHeels 163 = .ok (.goto (-145), 3) := dk_167 (dw rcX10_layHeels_139 11 rfl) rfl
theorem dX10_layHeels_166 : decode cX10_layHeels 166 = .ok (.iload 7, 2) := dk_21 (dw rcX10_layHeels_139 12 rfl)
theorem dX10_layHeels_168 : decode cX10_layHeels 168 = .ok (.ireturn, 1) := dk_172 (dw rcX10_layHeels_139 13 rfl)
set_option maxHeartbeats 4000000 in
set_option maxRecDepth 100000 in
theorem k_tFrom_0 (l : Launch) (D : va_G) (k : KT) (A : Nat → Prop) (a : Nat → Nat) (z : SK) (G : GS) (p0 : Int32) (ha_p0 : 0 ≤ p0.toInt ∧ p0.toInt ≤ 399) (hci : (G.1 7 6).toInt ≤ 399 ∧ (G.1 7 3).toInt ≤ (G.1 7 4).toInt ∧ ((G.1 7 7).toInt ≤ 0 ∨ (G.1 7 7).toInt + (G.1 7 4).toInt ≤ (G.1 7 6).toInt + 1)) : Met l yX10_findFeetFrom (WS yX10_findFeetFrom cX10_findFeetFrom 8 none) ({ frames := 2, cells := 0, slots := 0, locals := 37 }) (va_Pc [.ref (a 8), .ref (a 7), .int p0, .int 0] (cW D k A a z G)) (va_Qv (fun (G1 : GS) => P_tFrom_0 p0 G G1) (fun (G1 : GS) t => Wd D k A a G1 t.heap) A) 0 0 A := by
  refine Met.ofW (cc := cX10_findFeetFrom) (maxL := 8) (ret := none) (by decide) rfl ?_
  intro p e s m args below meth c s₁ B hml hv
  obtain ⟨rfl, hW, hB_G, hK, hZ⟩ := hv
  have hx := B.exec
  have hb := B.bytes
  have hr := B.returns
  have hts := atoms_spec (ws := WS yX10_findFeetFrom cX10_findFeetFrom 8 none) B.pre
  have hgd : ∀ w ∈ gd, w ∈ WS yX10_findFeetFrom cX10_findFeetFrom 8 none := fun w h => List.mem_cons_of_mem _ h
  have hg : ∀ w ∈ gd, w.before _ s = true := fun w h => hts w (hgd w h)
  have hown : s.vm.findClass RX10 = some m.cls := findClass_of_methodNamed B.named
  have hS : va_S A s.heap s.heap [] := va_S.rf
  have hF : Fr [42, 43] [] G G := Fr.rf
  have hl := lv_entry ([.ref (a 8), .ref (a 7), .int p0, .int 0]) (n := 8) (Nat.le_of_ble_eq_true rfl)
  rw [lg_entry_eq]
  generalize (lg_sl ([.ref (a 8), .ref (a 7), .int p0, .int 0]) ++ List.replicate (8 - (lg_sl ([.ref (a 8), .ref (a 7), .int p0, .int 0])).length) Slot.unset).toArray = ls at hl ⊢
  have hl : lv_has ls 8 [(0, .ref (a 8)), (1, .ref (a 7)), (2, .int p0), (3, .int 0)] := hl
  have b_1 : (-1) ≤ (G.1 7 6).toInt ∧ (G.1 7 6).toInt ≤ 400 := bd_7_6 hB_G
  refine lv_ldc (v := 1000000) hx hb hown (hg (Cond.constant RX10 44 1000000) m997) dX10_findFeetFrom_0 ?_
  refine lv_istore (lv' := [(4, .int 1000000), (0, .ref (a 8)), (1, .ref (a 7)), (2, .int p0), (3, .int 0)]) hx hb dX10_findFeetFrom_2 hl (lt_b rfl) rfl (fun ls hl => ?_)
  refine lv_ldc (v := 1000000) hx hb hown (hg (Cond.constant RX10 44 1000000) m997) dX10_findFeetFrom_4 ?_
  refine lv_istore (lv' := [(5, .int 1000000), (4, .int 1000000), (0, .ref (a 8)), (1, .ref (a 7)), (2, .int p0), (3, .int 0)]) hx hb dX10_findFeetFrom_6 hl (lt_b rfl) rfl (fun ls hl => ?_)
  refine lv_aload_n hx hb dX10_findFeetFrom_8 rfl (lv_at hl 3 rfl) ?_
  refine S_getR (n := 40) (C := RX0) (T := TX0) (N := 8) hx hb hg iX0 hown hK hW kd_7 rfl 0 (lt_b rfl) (hg (Cond.fieldLink RX10 55 "SlabWalk$Course" "lawful" "[Z") m373) (fun _ h9 => h9) rfl dX10_findFeetFrom_9 ?_
  refine lv_iload_n hx hb dX10_findFeetFrom_12 rfl (lv_at hl 4 rfl) ?_
  refine S_zald hx hb hK hW kd_40 (vin ((by first | exact ha_p0.1 | omega)) ((by first | exact ok_189 ha_p0.2 | omega))) dX10_findFeetFrom_13 (fun y_2 ey_2 => ?_)
  have ty_2 : 0 ≤ y_2.toInt ∧ y_2.toInt ≤ 1 := bv_40 hB_G ey_2
  refine W.cut (σ := Unit) (pcJ := 45) (J := fun y H locs ls => ∃ (G_9 : GS), Jn_k_tFrom_0_1 p0 y_2 G G_9 ∧ Wd D k A a G_9 H ∧ Bd G_9 ∧ Fr [42, 43] [] G G_9 ∧ Fr [] [] G G_9 ∧ va_S A s.heap H locs ∧ lv_has ls 8 [(5, .int 1000000), (4, .int 1000000), (0, .ref (a 8)), (1, .ref (a 7)), (2, .int p0), (3, .int 0)]) (stJ := fun _ => []) ?_ (fun hJ_10 => ?_)
  · intro y H locs ls hI
    obtain ⟨G_9, hX_12, hW, hB_G_9, hF, hq_11, hS, hl⟩ := hI
    refine lv_aload_n hx hb dX10_findFeetFrom_45 rfl (lv_at hl 3 rfl) ?_
    refine S_getR (n := 40) (C := RX0) (T := TX0) (N := 8) hx hb hg iX0 hown hK hW kd_7 rfl 0 (lt_b rfl) (hg (Cond.fieldLink RX10 55 "SlabWalk$Course" "lawful" "[Z") m373) (fun _ h9 => h9) rfl dX10_findFeetFrom_46 ?_
    refine lv_iload_n hx hb dX10_findFeetFrom_49 rfl (lv_at hl 4 rfl) ?_
    refine S_zald hx hb hK hW kd_40 (vin ((by first | exact ha_p0.1 | omega)) ((by first | exact ok_189 ha_p0.2 | omega))) dX10_findFeetFrom_50 (fun y_13 ey_13 => ?_)
    have ty_13 : 0 ≤ y_13.toInt ∧ y_13.toInt ≤ 1 := bv_40 hB_G_9 ey_13
    refine W.cut (σ := Unit) (pcJ := 133) (J := fun y H locs ls => ∃ (G_19 : GS) (x_14 : Int32) (x_15 : Int32), Jn_k_tFrom_0_2 p0 y_13 G G_9 x_14 x_15 G_19 ∧ Wd D k A a G_19 H ∧ Bd G_19 ∧ Fr [42, 43] [] G G_19 ∧ Fr [] [] G_9 G_19 ∧ va_S A s.heap H locs ∧ lv_has ls 8 [(5, .int x_14), (4, .int x_15), (0, .ref (a 8)), (2, .int p0), (3, .int 0)]) (stJ := fun _ => []) ?_ (fun hJ_20 => ?_)
    · intro y H locs ls hI
      obtain ⟨G_19, x_14, x_15, hX_22, hW, hB_G_19, hF, hq_21, hS, hl⟩ := hI
      refine lv_aload_n hx hb dX10_findFeetFrom_133 rfl (lv_at hl 2 rfl) ?_
      refine S_getR (n := 41) (C := RX10) (T := TX10) (N := 5) hx hb hg iX10 hown hK hW kd_8 rfl 0 (lt_b rfl) (hg (Cond.fieldLink RX10 13 "SlabWalk$Trails" "rows" "[[I") m440) (fun _ h9 => h9) rfl dX10_findFeetFrom_134 ?_
      refine ic_2 hx hb dX10_findFeetFrom_137 ?_
      refine lv_iload_n hx hb dX10_findFeetFrom_138 rfl (lv_at hl 4 rfl) ?_
      refine lv_imul hx hb dX10_findFeetFrom_139 ?_
      refine lv_topi (fun y_23 ey_23 => ?_)
      obtain rfl : y_23 = 0 := ey_23.trans (by decide)
      refine S_aald hx hb hK hW kd_41 (vin (by decide) (by decide)) dX10_findFeetFrom_140 ?_
      refine rows_at (n := 42) (rows_c hB_G_19 0 (by decide)) ?_
      refine lv_iload_n hx hb dX10_findFeetFrom_141 rfl (lv_at hl 3 rfl) ?_
      refine lv_iload hx hb dX10_findFeetFrom_142 (lv_at hl 1 rfl) ?_
      refine S_iast hx hb hK hW hS kd_42 (vin ((by first | exact ha_p0.1 | omega)) ((by first | exact ok_304 ha_p0.2 | omega))) dX10_findFeetFrom_144 (fun G_24 H locs eG_24 hW hS => ?_)
      have hB_G_24 : Bd G_24 := hB_G_19.put (lo := (-2147483648)) (hi := 2147483647) eG_24 rfl rfl rfl (tI_rng _).1 (tI_rng _).2 (hB_G_19.2.put eG_24 rfl)
      have hF := hF.put eG_24 (Or.inl (by decide))
      refine lv_aload_n hx hb dX10_findFeetFrom_145 rfl (lv_at hl 2 rfl) ?_
      refine S_getR (n := 41) (C := RX10) (T := TX10) (N := 5) hx hb hg iX10 hown hK hW kd_8 rfl 0 (lt_b rfl) (hg (Cond.fieldLink RX10 13 "SlabWalk$Trails" "rows" "[[I") m440) (fun _ h9 => h9) rfl dX10_findFeetFrom_146 ?_
      refine ic_2 hx hb dX10_findFeetFrom_149 ?_
      refine lv_iload_n hx hb dX10_findFeetFrom_150 rfl (lv_at hl 4 rfl) ?_
      refine lv_imul hx hb dX10_findFeetFrom_151 ?_
      refine lv_topi (fun y_25 ey_25 => ?_)
      obtain rfl : y_25 = 0 := ey_25.trans (by decide)
      refine ic_1 hx hb dX10_findFeetFrom_152 ?_
      refine lv_iadd hx hb dX10_findFeetFrom_153 ?_
      refine lv_topi (fun y_26 ey_26 => ?_)
      obtain rfl : y_26 = 1 := ey_26.trans (by decide)
      refine S_aald hx hb hK hW kd_41 (vin (by decide) (by decide)) dX10_findFeetFrom_154 ?_
      refine rows_at (n := 43) (rows_c hB_G_24 1 (by decide)) ?_
      refine lv_iload_n hx hb dX10_findFeetFrom_155 rfl (lv_at hl 3 rfl) ?_
      refine lv_iload hx hb dX10_findFeetFrom_156 (lv_at hl 0 rfl) ?_
      refine S_iast hx hb hK hW hS kd_43 (vin ((by first | exact ha_p0.1 | omega)) ((by first | exact ok_304 ha_p0.2 | omega))) dX10_findFeetFrom_158 (fun G_27 H locs eG_27 hW hS => ?_)
      have hB_G_27 : Bd G_27 := hB_G_24.put (lo := (-2147483648)) (hi := 2147483647) eG_27 rfl rfl rfl (tI_rng _).1 (tI_rng _).2 (hB_G_24.2.put eG_27 rfl)
      have hF := hF.put eG_27 (Or.inl (by decide))
      exact W.vret hx hb hr (fun t ht _ => ⟨⟨G_27, rfl, (P_tFrom_0_mk ⟨hB_G_27, hF, ⟨y_2, ey_2, (Or.inr ⟨G_9, hX_12, hB_G_9, hq_11, ⟨y_13, ey_13, ⟨x_14, x_15, G_19, hX_22, hB_G_19, hq_21, ⟨(Fr.put (rs := [42, 43]) (fs := []) (Fr.put (rs := [42, 43]) (fs := []) Fr.rf eG_24 (Or.inl (by decide))) eG_27 (Or.inl (by decide))), (rw_put eG_27 (by decide)).trans (rw_ast eG_24), (rw_ast eG_27).trans (congrArg (fun q => upd q (p0.toNatClampNeg) x_14) (rw_put eG_24 (by decide)))⟩⟩⟩⟩)⟩⟩), wd_t ht hW⟩, hS.F ht⟩) hS.2.2 dX10_findFeetFrom_159
    refine lv_if_eq (tgt := 133) hx hb dX10_findFeetFrom_51 rfl (fun c_28 => ?_) (fun c_28 => ?_)
    · have c_28 : y_13.toInt = 0 := xI_eq rfl rfl c_28
      have qc_29 : (1000000 : Int32).toInt = 1000000 := rfl
      exact hJ_20 () _ _ _ ⟨G_9, 1000000, 1000000, (Jn_k_tFrom_0_2_mk (Or.inl ⟨c_28, ⟨rfl, rfl, rfl⟩⟩)), hW, hB_G_9, hF, (Fr.rf (rs := []) (fs := [])), hS, lv_sub hl [0, 1, 2, 4, 5] rfl⟩
    · have c_28 : y_13.toInt ≠ 0 := xI_ne rfl rfl c_28
      refine ic_2 hx hb dX10_findFeetFrom_54 ?_
      refine ic_1 hx hb dX10_findFeetFrom_55 ?_
      refine lv_iload_n hx hb dX10_findFeetFrom_56 rfl (lv_at hl 5 rfl) ?_
      refine lv_isub hx hb dX10_findFeetFrom_57 ?_
      refine lv_topi (fun y_30 ey_30 => ?_)
      obtain rfl : y_30 = 1 := ey_30.trans (by decide)
      refine lv_imul hx hb dX10_findFeetFrom_58 ?_
      refine lv_topi (fun y_31 ey_31 => ?_)
      obtain rfl : y_31 = 2 := ey_31.trans (by decide)
      refine lv_istore (lv' := [(6, .int 2), (5, .int 1000000), (4, .int 1000000), (0, .ref (a 8)), (1, .ref (a 7)), (2, .int p0), (3, .int 0)]) hx hb dX10_findFeetFrom_59 hl (lt_b rfl) rfl (fun ls hl => ?_)
      refine ic_1 hx hb dX10_findFeetFrom_61 ?_
      refine lv_aload_n hx hb dX10_findFeetFrom_62 rfl (lv_at hl 3 rfl) ?_
      refine S_getR (n := 41) (C := RX10) (T := TX10) (N := 5) hx hb hg iX10 hown hK hW kd_8 rfl 0 (lt_b rfl) (hg (Cond.fieldLink RX10 13 "SlabWalk$Trails" "rows" "[[I") m440) (fun _ h9 => h9) rfl dX10_findFeetFrom_63 ?_
      refine lv_iload hx hb dX10_findFeetFrom_66 (lv_at hl 0 rfl) ?_
      refine S_aald hx hb hK hW kd_41 (vin (by decide) (by decide)) dX10_findFeetFrom_68 ?_
      refine rows_at (n := 44) (rows_c hB_G_9 2 (by decide)) ?_
      refine lv_iload_n hx hb dX10_findFeetFrom_69 rfl (lv_at hl 5 rfl) ?_
      refine lv_aload_n hx hb dX10_findFeetFrom_70 rfl (lv_at hl 4 rfl) ?_
      have b_32 : 0 ≤ (G.1 7 3).toInt ∧ (G.1 7 3).toInt ≤ 60 := bd_7_3 hB_G
      refine S_getI (v := (G.1 7 3)) (C := RX0) (T := TX0) (N := 8) hx hb hg iX0 hown hK hW kd_7 rfl 3 (lt_b rfl) (hg (Cond.fieldLink RX10 61 "SlabWalk$Course" "least" "I") m378) (fun _ h9 => h9) rfl (hq_11.i9 7 3 rfl rfl) dX10_findFeetFrom_71 ?_
      refine lv_iadd hx hb dX10_findFeetFrom_74 ?_
      refine lv_topi (fun y_33 ey_33 => ?_)
      have ty_33 : y_33.toInt = p0.toInt + (G.1 7 3).toInt := xI_add rfl rfl ey_33 ((by first | exact ok_15 ha_p0.1 b_32.1 | omega)) ((by first | exact ok_305 ha_p0.2 b_32.2 | omega))
      refine lv_iload_n hx hb dX10_findFeetFrom_75 rfl (lv_at hl 5 rfl) ?_
      refine lv_aload_n hx hb dX10_findFeetFrom_76 rfl (lv_at hl 4 rfl) ?_
      have b_34 : 0 ≤ (G.1 7 4).toInt ∧ (G.1 7 4).toInt ≤ 60 := bd_7_4 hB_G
      refine S_getI (v := (G.1 7 4)) (C := RX0) (T := TX0) (N := 8) hx hb hg iX0 hown hK hW kd_7 rfl 4 (lt_b rfl) (hg (Cond.fieldLink RX10 64 "SlabWalk$Course" "most" "I") m383) (fun _ h9 => h9) rfl (hq_11.i9 7 4 rfl rfl) dX10_findFeetFrom_77 ?_
      refine lv_iadd hx hb dX10_findFeetFrom_80 ?_
      refine lv_topi (fun y_35 ey_35 => ?_)
      have ty_35 : y_35.toInt = p0.toInt + (G.1 7 4).toInt := xI_add rfl rfl ey_35 ((by first | exact ok_15 ha_p0.1 b_34.1 | omega)) ((by first | exact ok_305 ha_p0.2 b_34.2 | omega))
      refine S_calli (va_runS (As := [.ref (a 44), .int y_33, .int y_35]) (rest := [.int 1]) ⟨hx, hb, hml, hown, hts⟩ (k_tLeast_44 l D k A a z G_9 y_33 y_35 ⟨(by first | exact ok_105 ha_p0.1 b_32.1 ty_33 | omega), (by first | exact ok_306 ha_p0.2 b_32.2 ty_33 | omega)⟩) (va_cwS 3 hts (gd_S hgd m998 m999 m124 m1000) rfl rfl rfl hd_X10_leastOf.2 ⟨Nat.le_of_ble_eq_true rfl, Nat.le_of_ble_eq_true rfl⟩) (pre_S hW hB_G_9 hK hZ hS) rfl rfl hl.1 rfl (lv_room (Nat.le_of_ble_eq_true rfl)) dX10_findFeetFrom_81 ⟨Nat.le_of_ble_eq_true rfl, Nat.le_of_ble_eq_true rfl⟩) hS (fun r_36 G_37 H locs hpo hW hS => ?_)
      have hX_40 : P_tLeast_44 y_33 y_35 G_9 r_36 G_37 := hpo
      obtain ⟨hB_G_37, hq_38, -⟩ := hpo
      have hF := hF.call9 hq_38 rfl rfl
      refine lv_iadd hx hb dX10_findFeetFrom_84 ?_
      refine lv_topi (fun y_41 ey_41 => ?_)
      refine lv_istore (lv' := [(5, .int y_41), (6, .int 2), (4, .int 1000000), (0, .ref (a 8)), (1, .ref (a 7)), (2, .int p0), (3, .int 0)]) hx hb dX10_findFeetFrom_85 hl (lt_b rfl) rfl (fun ls hl => ?_)
      refine lv_aload_n hx hb dX10_findFeetFrom_87 rfl (lv_at hl 3 rfl) ?_
      refine S_getR (n := 41) (C := RX10) (T := TX10) (N := 5) hx hb hg iX10 hown hK hW kd_8 rfl 0 (lt_b rfl) (hg (Cond.fieldLink RX10 13 "SlabWalk$Trails" "rows" "[[I") m440) (fun _ h9 => h9) rfl dX10_findFeetFrom_88 ?_
      refine lv_iload hx hb dX10_findFeetFrom_91 (lv_at hl 1 rfl) ?_
      refine ic_1 hx hb dX10_findFeetFrom_93 ?_
      refine lv_iadd hx hb dX10_findFeetFrom_94 ?_
      refine lv_topi (fun y_42 ey_42 => ?_)
      obtain rfl : y_42 = 3 := ey_42.trans (by decide)
      refine S_aald hx hb hK hW kd_41 (vin (by decide) (by decide)) dX10_findFeetFrom_95 ?_
      refine rows_at (n := 45) (rows_c hB_G_37 3 (by decide)) ?_
      refine lv_iload_n hx hb dX10_findFeetFrom_96 rfl (lv_at hl 5 rfl) ?_
      refine lv_aload_n hx hb dX10_findFeetFrom_97 rfl (lv_at hl 4 rfl) ?_
      refine S_getI (v := (G.1 7 4)) (C := RX0) (T := TX0) (N := 8) hx hb hg iX0 hown hK hW kd_7 rfl 4 (lt_b rfl) (hg (Cond.fieldLink RX10 64 "SlabWalk$Course" "most" "I") m383) (fun _ h9 => h9) rfl ((hq_38.i9 7 4 rfl rfl).trans ((hq_11.i9 7 4 rfl rfl).trans (rfl))) dX10_findFeetFrom_98 ?_
      refine lv_iadd hx hb dX10_findFeetFrom_101 ?_
      refine lv_topi (fun y_43 ey_43 => ?_)
      have ty_43 : y_43.toInt = p0.toInt + (G.1 7 4).toInt := xI_add rfl rfl ey_43 ((by first | exact ok_15 ha_p0.1 b_34.1 | omega)) ((by first | exact ok_305 ha_p0.2 b_34.2 | omega))
      refine ic_1 hx hb dX10_findFeetFrom_102 ?_
      refine lv_iadd hx hb dX10_findFeetFrom_103 ?_
      refine lv_topi (fun y_44 ey_44 => ?_)
      have ty_44 : y_44.toInt = y_43.toInt + 1 := xI_add rfl rfl ey_44 ((by first | exact ok_307 ha_p0.1 b_34.1 ty_43 | omega)) ((by first | exact ok_308 ha_p0.2 b_34.2 ty_43 | omega))
      refine lv_iload_n hx hb dX10_findFeetFrom_104 rfl (lv_at hl 5 rfl) ?_
      refine lv_aload_n hx hb dX10_findFeetFrom_105 rfl (lv_at hl 4 rfl) ?_
      have b_45 : 0 ≤ (G.1 7 5).toInt ∧ (G.1 7 5).toInt ≤ 99 := bd_7_5 hB_G
      refine S_getI (v := (G.1 7 5)) (C := RX0) (T := TX0) (N := 8) hx hb hg iX0 hown hK hW kd_7 rfl 5 (lt_b rfl) (hg (Cond.fieldLink RX10 71 "SlabWalk$Course" "leap" "I") m386) (fun _ h9 => h9) rfl ((hq_38.i9 7 5 rfl rfl).trans (hq_11.i9 7 5 rfl rfl)) dX10_findFeetFrom_106 ?_
      refine lv_iadd hx hb dX10_findFeetFrom_109 ?_
      refine lv_topi (fun y_46 ey_46 => ?_)
      have ty_46 : y_46.toInt = p0.toInt + (G.1 7 5).toInt := xI_add rfl rfl ey_46 ((by first | exact ok_15 ha_p0.1 b_45.1 | omega)) ((by first | exact ok_309 ha_p0.2 b_45.2 | omega))
      refine lv_aload_n hx hb dX10_findFeetFrom_110 rfl (lv_at hl 4 rfl) ?_
      refine S_getI (v := (G.1 7 6)) (C := RX0) (T := TX0) (N := 8) hx hb hg iX0 hown hK hW kd_7 rfl 6 (lt_b rfl) (hg (Cond.fieldLink RX10 34 "SlabWalk$Course" "last" "I") m388) (fun _ h9 => h9) rfl ((hq_38.i9 7 6 rfl rfl).trans ((hq_11.i9 7 6 rfl rfl).trans (rfl))) dX10_findFeetFrom_111 ?_
      refine va_mmin hx hb (by rw [hml]; exact hl.1.symm) hown (hg (Cond.methodLink RX10 49 Lib.Math.min.name) m1001) (hg (Cond.static Lib.Math.min.name) m636) (hg (Cond.initialized "java/lang/Math") m132) (hg (Cond.code Lib.Math.min.name Lib.Math.min.code 2 (some .int)) m637) (Nat.le_of_ble_eq_true rfl) (Nat.le_of_ble_eq_true rfl) (Nat.le_of_ble_eq_true rfl) (Nat.le_of_ble_eq_true rfl) dX10_findFeetFrom_114 ?_
      refine lv_topi (fun y_47 ey_47 => ?_)
      have ty_47 := xI_min (X := y_46.toInt) (Y := (G.1 7 6).toInt) rfl rfl ey_47
      refine S_calli (va_runS (As := [.ref (a 45), .int y_44, .int y_47]) (rest := []) ⟨hx, hb, hml, hown, hts⟩ (k_tLeast_45 l D k A a z G_37 y_44 y_47 ⟨(by first | exact ok_310 ha_p0.1 b_34.1 ty_43 ty_44 | omega), (by first | exact ok_311 ha_p0.2 b_34.2 ty_43 ty_44 | omega)⟩) (va_cwS 3 hts (gd_S hgd m998 m999 m124 m1000) rfl rfl rfl hd_X10_leastOf.2 ⟨Nat.le_of_ble_eq_true rfl, Nat.le_of_ble_eq_true rfl⟩) (pre_S hW hB_G_37 hK hZ hS) rfl rfl hl.1 rfl (lv_room (Nat.le_of_ble_eq_true rfl)) dX10_findFeetFrom_117 ⟨Nat.le_of_ble_eq_true rfl, Nat.le_of_ble_eq_true rfl⟩) hS (fun r_48 G_49 H locs hpo hW hS => ?_)
      have hX_52 : P_tLeast_45 y_44 y_47 G_37 r_48 G_49 := hpo
      obtain ⟨hB_G_49, hq_50, -⟩ := hpo
      have hF := hF.call9 hq_50 rfl rfl
      refine lv_istore (lv' := [(7, .int r_48), (5, .int y_41), (6, .int 2), (4, .int 1000000), (0, .ref (a 8)), (1, .ref (a 7)), (2, .int p0), (3, .int 0)]) hx hb dX10_findFeetFrom_120 hl (lt_b rfl) rfl (fun ls hl => ?_)
      refine lv_iload hx hb dX10_findFeetFrom_122 (lv_at hl 1 rfl) ?_
      refine ic_1 hx hb dX10_findFeetFrom_124 ?_
      refine lv_iload hx hb dX10_findFeetFrom_125 (lv_at hl 0 rfl) ?_
      refine lv_iadd hx hb dX10_findFeetFrom_127 ?_
      refine lv_topi (fun y_53 ey_53 => ?_)
      refine va_mmin hx hb (by rw [hml]; exact hl.1.symm) hown (hg (Cond.methodLink RX10 49 Lib.Math.min.name) m1001) (hg (Cond.static Lib.Math.min.name) m636) (hg (Cond.initialized "java/lang/Math") m132) (hg (Cond.code Lib.Math.min.name Lib.Math.min.code 2 (some .int)) m637) (Nat.le_of_ble_eq_true rfl) (Nat.le_of_ble_eq_true rfl) (Nat.le_of_ble_eq_true rfl) (Nat.le_of_ble_eq_true rfl) dX10_findFeetFrom_128 ?_
      refine lv_topi (fun y_54 ey_54 => ?_)
      have ty_54 := xI_min (X := y_41.toInt) (Y := y_53.toInt) rfl rfl ey_54
      refine lv_istore (lv' := [(4, .int y_54), (7, .int r_48), (5, .int y_41), (6, .int 2), (0, .ref (a 8)), (1, .ref (a 7)), (2, .int p0), (3, .int 0)]) hx hb dX10_findFeetFrom_131 hl (lt_b rfl) rfl (fun ls hl => ?_)
      exact hJ_20 () _ _ _ ⟨G_49, y_41, y_54, (Jn_k_tFrom_0_2_mk (Or.inr ⟨c_28, ⟨y_33, ty_33, ⟨y_35, ty_35, ⟨r_36, G_37, hX_40, ⟨y_41, ey_41, ⟨y_43, ty_43, ⟨y_44, ty_44, ⟨y_46, ty_46, ⟨y_47, ty_47, ⟨r_48, G_49, hX_52, ⟨y_53, ey_53, ⟨y_54, ty_54, ⟨rfl, rfl, rfl⟩⟩⟩⟩⟩⟩⟩⟩⟩⟩⟩⟩⟩)), hW, hB_G_49, hF, (Fr.call9 (rs := []) (fs := []) (Fr.call9 (rs := []) (fs := []) Fr.rf hq_38 rfl rfl) hq_50 rfl rfl), hS, lv_sub hl [2, 0, 4, 6, 7] rfl⟩
  refine lv_if_eq (tgt := 45) hx hb dX10_findFeetFrom_14 rfl (fun c_55 => ?_) (fun c_55 => ?_)
  · have c_55 : y_2.toInt = 0 := xI_eq rfl rfl c_55
    exact hJ_10 () _ _ _ ⟨G, (Jn_k_tFrom_0_1_mk (Or.inl ⟨c_55, rfl⟩)), hW, hB_G, hF, (Fr.rf (rs := []) (fs := [])), hS, lv_sub hl [0, 1, 2, 3, 4, 5] rfl⟩
  · have c_55 : y_2.toInt ≠ 0 := xI_ne rfl rfl c_55
    refine lv_iload_n hx hb dX10_findFeetFrom_17 rfl (lv_at hl 4 rfl) ?_
    refine lv_aload_n hx hb dX10_findFeetFrom_18 rfl (lv_at hl 3 rfl) ?_
    have b_56 : 0 ≤ (G.1 7 7).toInt ∧ (G.1 7 7).toInt ≤ 400 := bd_7_7 hB_G
    refine S_getI (v := (G.1 7 7)) (C := RX0) (T := TX0) (N := 8) hx hb hg iX0 hown hK hW kd_7 rfl 7 (lt_b rfl) (hg (Cond.fieldLink RX10 58 "SlabWalk$Course" "end" "I") m394) (fun _ h9 => h9) rfl rfl dX10_findFeetFrom_19 ?_
    refine lv_icmp_lt (tgt := 45) hx hb dX10_findFeetFrom_22 rfl (fun c_57 => ?_) (fun c_57 => ?_)
    · have c_57 : p0.toInt < (G.1 7 7).toInt := xI_lt rfl rfl c_57
      exact hJ_10 () _ _ _ ⟨G, (Jn_k_tFrom_0_1_mk (Or.inr ⟨c_55, ⟨c_57, rfl⟩⟩)), hW, hB_G, hF, (Fr.rf (rs := []) (fs := [])), hS, lv_sub hl [0, 1, 2, 3, 4, 5] rfl⟩
    · have c_57 : (G.1 7 7).toInt ≤ p0.toInt := xI_nlt rfl rfl c_57
      refine lv_iload_n hx hb dX10_findFeetFrom_25 rfl (lv_at hl 5 rfl) ?_
      refine ic_1 hx hb dX10_findFeetFrom_26 ?_
      refine lv_icmp_ne (tgt := 34) hx hb dX10_findFeetFrom_27 rfl (fun c_58 => ?_) (fun c_58 => ?_)
      · have c_58 : (0 : Int) ≠ (1 : Int) := xI_ne rfl rfl c_58
        refine lv_ldc (v := 1000000) hx hb hown (hg (Cond.constant RX10 44 1000000) m997) dX10_findFeetFrom_34 ?_
        refine lv_istore (lv' := [(5, .int 1000000), (4, .int 1000000), (0, .ref (a 8)), (1, .ref (a 7)), (2, .int p0), (3, .int 0)]) hx hb dX10_findFeetFrom_36 hl (lt_b rfl) rfl (fun ls hl => ?_)
        refine lv_iload hx hb dX10_findFeetFrom_38 (lv_at hl 0 rfl) ?_
        refine lv_istore (lv' := [(4, .int 1000000), (5, .int 1000000), (0, .ref (a 8)), (1, .ref (a 7)), (2, .int p0), (3, .int 0)]) hx hb dX10_findFeetFrom_40 hl (lt_b rfl) rfl (fun ls hl => ?_)
        refine lv_goto (tgt := 133) hx hb dX10_findFeetFrom_42 rfl ?_
        refine lv_aload_n hx hb dX10_findFeetFrom_133 rfl (lv_at hl 2 rfl) ?_
        refine S_getR (n := 41) (C := RX10) (T := TX10) (N := 5) hx hb hg iX10 hown hK hW kd_8 rfl 0 (lt_b rfl) (hg (Cond.fieldLink RX10 13 "SlabWalk$Trails" "rows" "[[I") m440) (fun _ h9 => h9) rfl dX10_findFeetFrom_134 ?_
        refine ic_2 hx hb dX10_findFeetFrom_137 ?_
        refine lv_iload_n hx hb dX10_findFeetFrom_138 rfl (lv_at hl 5 rfl) ?_
        refine lv_imul hx hb dX10_findFeetFrom_139 ?_
        refine lv_topi (fun y_59 ey_59 => ?_)
        obtain rfl : y_59 = 0 := ey_59.trans (by decide)
        refine S_aald hx hb hK hW kd_41 (vin (by decide) (by decide)) dX10_findFeetFrom_140 ?_
        refine rows_at (n := 42) (rows_c hB_G 0 (by decide)) ?_
        refine lv_iload_n hx hb dX10_findFeetFrom_141 rfl (lv_at hl 4 rfl) ?_
        refine lv_iload hx hb dX10_findFeetFrom_142 (lv_at hl 0 rfl) ?_
        refine S_iast hx hb hK hW hS kd_42 (vin ((by first | exact ha_p0.1 | omega)) ((by first | exact ok_304 ha_p0.2 | omega))) dX10_findFeetFrom_144 (fun G_60 H locs eG_60 hW hS => ?_)
        have hB_G_60 : Bd G_60 := hB_G.put (lo := (-2147483648)) (hi := 2147483647) eG_60 rfl rfl rfl (tI_rng _).1 (tI_rng _).2 (hB_G.2.put eG_60 rfl)
        have hF := hF.put eG_60 (Or.inl (by decide))
        refine lv_aload_n hx hb dX10_findFeetFrom_145 rfl (lv_at hl 2 rfl) ?_
        refine S_getR (n := 41) (C := RX10) (T := TX10) (N := 5) hx hb hg iX10 hown hK hW kd_8 rfl 0 (lt_b rfl) (hg (Cond.fieldLink RX10 13 "SlabWalk$Trails" "rows" "[[I") m440) (fun _ h9 => h9) rfl dX10_findFeetFrom_146 ?_
        refine ic_2 hx hb dX10_findFeetFrom_149 ?_
        refine lv_iload_n hx hb dX10_findFeetFrom_150 rfl (lv_at hl 5 rfl) ?_
        refine lv_imul hx hb dX10_findFeetFrom_151 ?_
        refine lv_topi (fun y_61 ey_61 => ?_)
        obtain rfl : y_61 = 0 := ey_61.trans (by decide)
        refine ic_1 hx hb dX10_findFeetFrom_152 ?_
        refine lv_iadd hx hb dX10_findFeetFrom_153 ?_
        refine lv_topi (fun y_62 ey_62 => ?_)
        obtain rfl : y_62 = 1 := ey_62.trans (by decide)
        refine S_aald hx hb hK hW kd_41 (vin (by decide) (by decide)) dX10_findFeetFrom_154 ?_
        refine rows_at (n := 43) (rows_c hB_G_60 1 (by decide)) ?_
        refine lv_iload_n hx hb dX10_findFeetFrom_155 rfl (lv_at hl 4 rfl) ?_
        refine lv_iload hx hb dX10_findFeetFrom_156 (lv_at hl 1 rfl) ?_
        refine S_iast hx hb hK hW hS kd_43 (vin ((by first | exact ha_p0.1 | omega)) ((by first | exact ok_304 ha_p0.2 | omega))) dX10_findFeetFrom_158 (fun G_63 H locs eG_63 hW hS => ?_)
        have hB_G_63 : Bd G_63 := hB_G_60.put (lo := (-2147483648)) (hi := 2147483647) eG_63 rfl rfl rfl (tI_rng _).1 (tI_rng _).2 (hB_G_60.2.put eG_63 rfl)
        have hF := hF.put eG_63 (Or.inl (by decide))
        exact W.vret hx hb hr (fun t ht _ => ⟨⟨G_63, rfl, (P_tFrom_0_mk ⟨hB_G_63, hF, ⟨y_2, ey_2, (Or.inl ⟨c_55, ⟨c_57, ⟨(Fr.put (rs := [42, 43]) (fs := []) (Fr.put (rs := [42, 43]) (fs := []) Fr.rf eG_60 (Or.inl (by decide))) eG_63 (Or.inl (by decide))), (rw_put eG_63 (by decide)).trans (rw_ast eG_60), (rw_ast eG_63).trans (congrArg (fun q => upd q (p0.toNatClampNeg) 1000000) (rw_put eG_60 (by decide)))⟩⟩⟩)⟩⟩), wd_t ht hW⟩, hS.F ht⟩) hS.2.2 dX10_findFeetFrom_159
      · have c_58 : (0 : Int) = (1 : Int) := xI_eq rfl rfl c_58
        exfalso; first | exact ok_312 c_58 | omega

set_option maxHeartbeats 4000000 in
set_option maxRecDepth 100000 in
theorem k_tFrom_1 (l : Launch) (D : va_G) (k : KT) (A : Nat → Prop) (a : Nat → Nat) (z : SK) (G : GS) (p0 : Int32) (ha_p0 : 0 ≤ p0.toInt ∧ p0.toInt ≤ 399) (hci : (G.1 7 6).toInt ≤ 399 ∧ (G.1 7 3).toInt ≤ (G.1 7 4).toInt ∧ ((G.1 7 7).toInt ≤ 0 ∨ (G.1 7 7).toInt + (G.1 7 4).toInt ≤ (G.1 7 6).toInt + 1)) : Met l yX10_findFeetFrom (WS yX10_findFeetFrom cX10_findFeetFrom 8 none) ({ frames := 2, cells := 0, slots := 0, locals := 37 }) (va_Pc [.ref (a 8), .ref (a 7), .int p0, .int 1] (cW D k A a z G)) (va_Qv (fun (G1 : GS) => P_tFrom_1 p0 G G1) (fun (G1 : GS) t => Wd D k A a G1 t.heap) A) 0 0 A := by
  refine Met.ofW (cc := cX10_findFeetFrom) (maxL := 8) (ret := none) (by decide) rfl ?_
  intro p e s m args below meth c s₁ B hml hv
  obtain ⟨rfl, hW, hB_G, hK, hZ⟩ := hv
  have hx := B.exec
  have hb := B.bytes
  have hr := B.returns
  have hts := atoms_spec (ws := WS yX10_findFeetFrom cX10_findFeetFrom 8 none) B.pre
  have hgd : ∀ w ∈ gd, w ∈ WS yX10_findFeetFrom cX10_findFeetFrom 8 none := fun w h => List.mem_cons_of_mem _ h
  have hg : ∀ w ∈ gd, w.before _ s = true := fun w h => hts w (hgd w h)
  have hown : s.vm.findClass RX10 = some m.cls := findClass_of_methodNamed B.named
  have hS : va_S A s.heap s.heap [] := va_S.rf
  have hF : Fr [44, 45] [] G G := Fr.rf
  have hl := lv_entry ([.ref (a 8), .ref (a 7), .int p0, .int 1]) (n := 8) (Nat.le_of_ble_eq_true rfl)
  rw [lg_entry_eq]
  generalize (lg_sl ([.ref (a 8), .ref (a 7), .int p0, .int 1]) ++ List.replicate (8 - (lg_sl ([.ref (a 8), .ref (a 7), .int p0, .int 1])).length) Slot.unset).toArray = ls at hl ⊢
  have hl : lv_has ls 8 [(0, .ref (a 8)), (1, .ref (a 7)), (2, .int p0), (3, .int 1)] := hl
  have b_1 : (-1) ≤ (G.1 7 6).toInt ∧ (G.1 7 6).toInt ≤ 400 := bd_7_6 hB_G
  refine lv_ldc (v := 1000000) hx hb hown (hg (Cond.constant RX10 44 1000000) m997) dX10_findFeetFrom_0 ?_
  refine lv_istore (lv' := [(4, .int 1000000), (0, .ref (a 8)), (1, .ref (a 7)), (2, .int p0), (3, .int 1)]) hx hb dX10_findFeetFrom_2 hl (lt_b rfl) rfl (fun ls hl => ?_)
  refine lv_ldc (v := 1000000) hx hb hown (hg (Cond.constant RX10 44 1000000) m997) dX10_findFeetFrom_4 ?_
  refine lv_istore (lv' := [(5, .int 1000000), (4, .int 1000000), (0, .ref (a 8)), (1, .ref (a 7)), (2, .int p0), (3, .int 1)]) hx hb dX10_findFeetFrom_6 hl (lt_b rfl) rfl (fun ls hl => ?_)
  refine lv_aload_n hx hb dX10_findFeetFrom_8 rfl (lv_at hl 3 rfl) ?_
  refine S_getR (n := 40) (C := RX0) (T := TX0) (N := 8) hx hb hg iX0 hown hK hW kd_7 rfl 0 (lt_b rfl) (hg (Cond.fieldLink RX10 55 "SlabWalk$Course" "lawful" "[Z") m373) (fun _ h9 => h9) rfl dX10_findFeetFrom_9 ?_
  refine lv_iload_n hx hb dX10_findFeetFrom_12 rfl (lv_at hl 4 rfl) ?_
  refine S_zald hx hb hK hW kd_40 (vin ((by first | exact ha_p0.1 | omega)) ((by first | exact ok_189 ha_p0.2 | omega))) dX10_findFeetFrom_13 (fun y_2 ey_2 => ?_)
  have ty_2 : 0 ≤ y_2.toInt ∧ y_2.toInt ≤ 1 := bv_40 hB_G ey_2
  refine W.cut (σ := Unit) (pcJ := 45) (J := fun y H locs ls => ∃ (G_9 : GS), Jn_k_tFrom_1_1 p0 y_2 G G_9 ∧ Wd D k A a G_9 H ∧ Bd G_9 ∧ Fr [44, 45] [] G G_9 ∧ Fr [] [] G G_9 ∧ va_S A s.heap H locs ∧ lv_has ls 8 [(5, .int 1000000), (4, .int 1000000), (0, .ref (a 8)), (1, .ref (a 7)), (2, .int p0), (3, .int 1)]) (stJ := fun _ => []) ?_ (fun hJ_10 => ?_)
  · intro y H locs ls hI
    obtain ⟨G_9, hX_12, hW, hB_G_9, hF, hq_11, hS, hl⟩ := hI
    refine lv_aload_n hx hb dX10_findFeetFrom_45 rfl (lv_at hl 3 rfl) ?_
    refine S_getR (n := 40) (C := RX0) (T := TX0) (N := 8) hx hb hg iX0 hown hK hW kd_7 rfl 0 (lt_b rfl) (hg (Cond.fieldLink RX10 55 "SlabWalk$Course" "lawful" "[Z") m373) (fun _ h9 => h9) rfl dX10_findFeetFrom_46 ?_
    refine lv_iload_n hx hb dX10_findFeetFrom_49 rfl (lv_at hl 4 rfl) ?_
    refine S_zald hx hb hK hW kd_40 (vin ((by first | exact ha_p0.1 | omega)) ((by first | exact ok_189 ha_p0.2 | omega))) dX10_findFeetFrom_50 (fun y_13 ey_13 => ?_)
    have ty_13 : 0 ≤ y_13.toInt ∧ y_13.toInt ≤ 1 := bv_40 hB_G_9 ey_13
    refine W.cut (σ := Unit) (pcJ := 133) (J := fun y H locs ls => ∃ (G_19 : GS) (x_14 : Int32) (x_15 : Int32), Jn_k_tFrom_1_2 p0 y_13 G G_9 x_14 x_15 G_19 ∧ Wd D k A a G_19 H ∧ Bd G_19 ∧ Fr [44, 45] [] G G_19 ∧ Fr [] [] G_9 G_19 ∧ va_S A s.heap H locs ∧ lv_has ls 8 [(5, .int x_14), (4, .int x_15), (0, .ref (a 8)), (2, .int p0), (3, .int 1)]) (stJ := fun _ => []) ?_ (fun hJ_20 => ?_)
    · intro y H locs ls hI
      obtain ⟨G_19, x_14, x_15, hX_22, hW, hB_G_19, hF, hq_21, hS, hl⟩ := hI
      refine lv_aload_n hx hb dX10_findFeetFrom_133 rfl (lv_at hl 2 rfl) ?_
      refine S_getR (n := 41) (C := RX10) (T := TX10) (N := 5) hx hb hg iX10 hown hK hW kd_8 rfl 0 (lt_b rfl) (hg (Cond.fieldLink RX10 13 "SlabWalk$Trails" "rows" "[[I") m440) (fun _ h9 => h9) rfl dX10_findFeetFrom_134 ?_
      refine ic_2 hx hb dX10_findFeetFrom_137 ?_
      refine lv_iload_n hx hb dX10_findFeetFrom_138 rfl (lv_at hl 4 rfl) ?_
      refine lv_imul hx hb dX10_findFeetFrom_139 ?_
      refine lv_topi (fun y_23 ey_23 => ?_)
      obtain rfl : y_23 = 2 := ey_23.trans (by decide)
      refine S_aald hx hb hK hW kd_41 (vin (by decide) (by decide)) dX10_findFeetFrom_140 ?_
      refine rows_at (n := 44) (rows_c hB_G_19 2 (by decide)) ?_
      refine lv_iload_n hx hb dX10_findFeetFrom_141 rfl (lv_at hl 3 rfl) ?_
      refine lv_iload hx hb dX10_findFeetFrom_142 (lv_at hl 1 rfl) ?_
      refine S_iast hx hb hK hW hS kd_44 (vin ((by first | exact ha_p0.1 | omega)) ((by first | exact ok_304 ha_p0.2 | omega))) dX10_findFeetFrom_144 (fun G_24 H locs eG_24 hW hS => ?_)
      have hB_G_24 : Bd G_24 := hB_G_19.put (lo := (-2147483648)) (hi := 2147483647) eG_24 rfl rfl rfl (tI_rng _).1 (tI_rng _).2 (hB_G_19.2.put eG_24 rfl)
      have hF := hF.put eG_24 (Or.inl (by decide))
      refine lv_aload_n hx hb dX10_findFeetFrom_145 rfl (lv_at hl 2 rfl) ?_
      refine S_getR (n := 41) (C := RX10) (T := TX10) (N := 5) hx hb hg iX10 hown hK hW kd_8 rfl 0 (lt_b rfl) (hg (Cond.fieldLink RX10 13 "SlabWalk$Trails" "rows" "[[I") m440) (fun _ h9 => h9) rfl dX10_findFeetFrom_146 ?_
      refine ic_2 hx hb dX10_findFeetFrom_149 ?_
      refine lv_iload_n hx hb dX10_findFeetFrom_150 rfl (lv_at hl 4 rfl) ?_
      refine lv_imul hx hb dX10_findFeetFrom_151 ?_
      refine lv_topi (fun y_25 ey_25 => ?_)
      obtain rfl : y_25 = 2 := ey_25.trans (by decide)
      refine ic_1 hx hb dX10_findFeetFrom_152 ?_
      refine lv_iadd hx hb dX10_findFeetFrom_153 ?_
      refine lv_topi (fun y_26 ey_26 => ?_)
      obtain rfl : y_26 = 3 := ey_26.trans (by decide)
      refine S_aald hx hb hK hW kd_41 (vin (by decide) (by decide)) dX10_findFeetFrom_154 ?_
      refine rows_at (n := 45) (rows_c hB_G_24 3 (by decide)) ?_
      refine lv_iload_n hx hb dX10_findFeetFrom_155 rfl (lv_at hl 3 rfl) ?_
      refine lv_iload hx hb dX10_findFeetFrom_156 (lv_at hl 0 rfl) ?_
      refine S_iast hx hb hK hW hS kd_45 (vin ((by first | exact ha_p0.1 | omega)) ((by first | exact ok_304 ha_p0.2 | omega))) dX10_findFeetFrom_158 (fun G_27 H locs eG_27 hW hS => ?_)
      have hB_G_27 : Bd G_27 := hB_G_24.put (lo := (-2147483648)) (hi := 2147483647) eG_27 rfl rfl rfl (tI_rng _).1 (tI_rng _).2 (hB_G_24.2.put eG_27 rfl)
      have hF := hF.put eG_27 (Or.inl (by decide))
      exact W.vret hx hb hr (fun t ht _ => ⟨⟨G_27, rfl, (P_tFrom_1_mk ⟨hB_G_27, hF, ⟨y_2, ey_2, (Or.inr ⟨G_9, hX_12, hB_G_9, hq_11, ⟨y_13, ey_13, ⟨x_14, x_15, G_19, hX_22, hB_G_19, hq_21, ⟨(Fr.put (rs := [44, 45]) (fs := []) (Fr.put (rs := [44, 45]) (fs := []) Fr.rf eG_24 (Or.inl (by decide))) eG_27 (Or.inl (by decide))), (rw_put eG_27 (by decide)).trans (rw_ast eG_24), (rw_ast eG_27).trans (congrArg (fun q => upd q (p0.toNatClampNeg) x_14) (rw_put eG_24 (by decide)))⟩⟩⟩⟩)⟩⟩), wd_t ht hW⟩, hS.F ht⟩) hS.2.2 dX10_findFeetFrom_159
    refine lv_if_eq (tgt := 133) hx hb dX10_findFeetFrom_51 rfl (fun c_28 => ?_) (fun c_28 => ?_)
    · have c_28 : y_13.toInt = 0 := xI_eq rfl rfl c_28
      have qc_29 : (1000000 : Int32).toInt = 1000000 := rfl
      exact hJ_20 () _ _ _ ⟨G_9, 1000000, 1000000, (Jn_k_tFrom_1_2_mk (Or.inl ⟨c_28, ⟨rfl, rfl, rfl⟩⟩)), hW, hB_G_9, hF, (Fr.rf (rs := []) (fs := [])), hS, lv_sub hl [0, 1, 2, 4, 5] rfl⟩
    · have c_28 : y_13.toInt ≠ 0 := xI_ne rfl rfl c_28
      refine ic_2 hx hb dX10_findFeetFrom_54 ?_
      refine ic_1 hx hb dX10_findFeetFrom_55 ?_
      refine lv_iload_n hx hb dX10_findFeetFrom_56 rfl (lv_at hl 5 rfl) ?_
      refine lv_isub hx hb dX10_findFeetFrom_57 ?_
      refine lv_topi (fun y_30 ey_30 => ?_)
      obtain rfl : y_30 = 0 := ey_30.trans (by decide)
      refine lv_imul hx hb dX10_findFeetFrom_58 ?_
      refine lv_topi (fun y_31 ey_31 => ?_)
      obtain rfl : y_31 = 0 := ey_31.trans (by decide)
      refine lv_istore (lv' := [(6, .int 0), (5, .int 1000000), (4, .int 1000000), (0, .ref (a 8)), (1, .ref (a 7)), (2, .int p0), (3, .int 1)]) hx hb dX10_findFeetFrom_59 hl (lt_b rfl) rfl (fun ls hl => ?_)
      refine ic_1 hx hb dX10_findFeetFrom_61 ?_
      refine lv_aload_n hx hb dX10_findFeetFrom_62 rfl (lv_at hl 3 rfl) ?_
      refine S_getR (n := 41) (C := RX10) (T := TX10) (N := 5) hx hb hg iX10 hown hK hW kd_8 rfl 0 (lt_b rfl) (hg (Cond.fieldLink RX10 13 "SlabWalk$Trails" "rows" "[[I") m440) (fun _ h9 => h9) rfl dX10_findFeetFrom_63 ?_
      refine lv_iload hx hb dX10_findFeetFrom_66 (lv_at hl 0 rfl) ?_
      refine S_aald hx hb hK hW kd_41 (vin (by decide) (by decide)) dX10_findFeetFrom_68 ?_
      refine rows_at (n := 42) (rows_c hB_G_9 0 (by decide)) ?_
      refine lv_iload_n hx hb dX10_findFeetFrom_69 rfl (lv_at hl 5 rfl) ?_
      refine lv_aload_n hx hb dX10_findFeetFrom_70 rfl (lv_at hl 4 rfl) ?_
      have b_32 : 0 ≤ (G.1 7 3).toInt ∧ (G.1 7 3).toInt ≤ 60 := bd_7_3 hB_G
      refine S_getI (v := (G.1 7 3)) (C := RX0) (T := TX0) (N := 8) hx hb hg iX0 hown hK hW kd_7 rfl 3 (lt_b rfl) (hg (Cond.fieldLink RX10 61 "SlabWalk$Course" "least" "I") m378) (fun _ h9 => h9) rfl (hq_11.i9 7 3 rfl rfl) dX10_findFeetFrom_71 ?_
      refine lv_iadd hx hb dX10_findFeetFrom_74 ?_
      refine lv_topi (fun y_33 ey_33 => ?_)
      have ty_33 : y_33.toInt = p0.toInt + (G.1 7 3).toInt := xI_add rfl rfl ey_33 ((by first | exact ok_15 ha_p0.1 b_32.1 | omega)) ((by first | exact ok_305 ha_p0.2 b_32.2 | omega))
      refine lv_iload_n hx hb dX10_findFeetFrom_75 rfl (lv_at hl 5 rfl) ?_
      refine lv_aload_n hx hb dX10_findFeetFrom_76 rfl (lv_at hl 4 rfl) ?_
      have b_34 : 0 ≤ (G.1 7 4).toInt ∧ (G.1 7 4).toInt ≤ 60 := bd_7_4 hB_G
      refine S_getI (v := (G.1 7 4)) (C := RX0) (T := TX0) (N := 8) hx hb hg iX0 hown hK hW kd_7 rfl 4 (lt_b rfl) (hg (Cond.fieldLink RX10 64 "SlabWalk$Course" "most" "I") m383) (fun _ h9 => h9) rfl (hq_11.i9 7 4 rfl rfl) dX10_findFeetFrom_77 ?_
      refine lv_iadd hx hb dX10_findFeetFrom_80 ?_
      refine lv_topi (fun y_35 ey_35 => ?_)
      have ty_35 : y_35.toInt = p0.toInt + (G.1 7 4).toInt := xI_add rfl rfl ey_35 ((by first | exact ok_15 ha_p0.1 b_34.1 | omega)) ((by first | exact ok_305 ha_p0.2 b_34.2 | omega))
      refine S_calli (va_runS (As := [.ref (a 42), .int y_33, .int y_35]) (rest := [.int 1]) ⟨hx, hb, hml, hown, hts⟩ (k_tLeast_42 l D k A a z G_9 y_33 y_35 ⟨(by first | exact ok_105 ha_p0.1 b_32.1 ty_33 | omega), (by first | exact ok_306 ha_p0.2 b_32.2 ty_33 | omega)⟩) (va_cwS 3 hts (gd_S hgd m998 m999 m124 m1000) rfl rfl rfl hd_X10_leastOf.2 ⟨Nat.le_of_ble_eq_true rfl, Nat.le_of_ble_eq_true rfl⟩) (pre_S hW hB_G_9 hK hZ hS) rfl rfl hl.1 rfl (lv_room (Nat.le_of_ble_eq_true rfl)) dX10_findFeetFrom_81 ⟨Nat.le_of_ble_eq_true rfl, Nat.le_of_ble_eq_true rfl⟩) hS (fun r_36 G_37 H locs hpo hW hS => ?_)
      have hX_40 : P_tLeast_42 y_33 y_35 G_9 r_36 G_37 := hpo
      obtain ⟨hB_G_37, hq_38, -⟩ := hpo
      have hF := hF.call9 hq_38 rfl rfl
      refine lv_iadd hx hb dX10_findFeetFrom_84 ?_
      refine lv_topi (fun y_41 ey_41 => ?_)
      refine lv_istore (lv' := [(5, .int y_41), (6, .int 0), (4, .int 1000000), (0, .ref (a 8)), (1, .ref (a 7)), (2, .int p0), (3, .int 1)]) hx hb dX10_findFeetFrom_85 hl (lt_b rfl) rfl (fun ls hl => ?_)
      refine lv_aload_n hx hb dX10_findFeetFrom_87 rfl (lv_at hl 3 rfl) ?_
      refine S_getR (n := 41) (C := RX10) (T := TX10) (N := 5) hx hb hg iX10 hown hK hW kd_8 rfl 0 (lt_b rfl) (hg (Cond.fieldLink RX10 13 "SlabWalk$Trails" "rows" "[[I") m440) (fun _ h9 => h9) rfl dX10_findFeetFrom_88 ?_
      refine lv_iload hx hb dX10_findFeetFrom_91 (lv_at hl 1 rfl) ?_
      refine ic_1 hx hb dX10_findFeetFrom_93 ?_
      refine lv_iadd hx hb dX10_findFeetFrom_94 ?_
      refine lv_topi (fun y_42 ey_42 => ?_)
      obtain rfl : y_42 = 1 := ey_42.trans (by decide)
      refine S_aald hx hb hK hW kd_41 (vin (by decide) (by decide)) dX10_findFeetFrom_95 ?_
      refine rows_at (n := 43) (rows_c hB_G_37 1 (by decide)) ?_
      refine lv_iload_n hx hb dX10_findFeetFrom_96 rfl (lv_at hl 5 rfl) ?_
      refine lv_aload_n hx hb dX10_findFeetFrom_97 rfl (lv_at hl 4 rfl) ?_
      refine S_getI (v := (G.1 7 4)) (C := RX0) (T := TX0) (N := 8) hx hb hg iX0 hown hK hW kd_7 rfl 4 (lt_b rfl) (hg (Cond.fieldLink RX10 64 "SlabWalk$Course" "most" "I") m383) (fun _ h9 => h9) rfl ((hq_38.i9 7 4 rfl rfl).trans ((hq_11.i9 7 4 rfl rfl).trans (rfl))) dX10_findFeetFrom_98 ?_
      refine lv_iadd hx hb dX10_findFeetFrom_101 ?_
      refine lv_topi (fun y_43 ey_43 => ?_)
      have ty_43 : y_43.toInt = p0.toInt + (G.1 7 4).toInt := xI_add rfl rfl ey_43 ((by first | exact ok_15 ha_p0.1 b_34.1 | omega)) ((by first | exact ok_305 ha_p0.2 b_34.2 | omega))
      refine ic_1 hx hb dX10_findFeetFrom_102 ?_
      refine lv_iadd hx hb dX10_findFeetFrom_103 ?_
      refine lv_topi (fun y_44 ey_44 => ?_)
      have ty_44 : y_44.toInt = y_43.toInt + 1 := xI_add rfl rfl ey_44 ((by first | exact ok_307 ha_p0.1 b_34.1 ty_43 | omega)) ((by first | exact ok_308 ha_p0.2 b_34.2 ty_43 | omega))
      refine lv_iload_n hx hb dX10_findFeetFrom_104 rfl (lv_at hl 5 rfl) ?_
      refine lv_aload_n hx hb dX10_findFeetFrom_105 rfl (lv_at hl 4 rfl) ?_
      have b_45 : 0 ≤ (G.1 7 5).toInt ∧ (G.1 7 5).toInt ≤ 99 := bd_7_5 hB_G
      refine S_getI (v := (G.1 7 5)) (C := RX0) (T := TX0) (N := 8) hx hb hg iX0 hown hK hW kd_7 rfl 5 (lt_b rfl) (hg (Cond.fieldLink RX10 71 "SlabWalk$Course" "leap" "I") m386) (fun _ h9 => h9) rfl ((hq_38.i9 7 5 rfl rfl).trans (hq_11.i9 7 5 rfl rfl)) dX10_findFeetFrom_106 ?_
      refine lv_iadd hx hb dX10_findFeetFrom_109 ?_
      refine lv_topi (fun y_46 ey_46 => ?_)
      have ty_46 : y_46.toInt = p0.toInt + (G.1 7 5).toInt := xI_add rfl rfl ey_46 ((by first | exact ok_15 ha_p0.1 b_45.1 | omega)) ((by first | exact ok_309 ha_p0.2 b_45.2 | omega))
      refine lv_aload_n hx hb dX10_findFeetFrom_110 rfl (lv_at hl 4 rfl) ?_
      refine S_getI (v := (G.1 7 6)) (C := RX0) (T := TX0) (N := 8) hx hb hg iX0 hown hK hW kd_7 rfl 6 (lt_b rfl) (hg (Cond.fieldLink RX10 34 "SlabWalk$Course" "last" "I") m388) (fun _ h9 => h9) rfl ((hq_38.i9 7 6 rfl rfl).trans ((hq_11.i9 7 6 rfl rfl).trans (rfl))) dX10_findFeetFrom_111 ?_
      refine va_mmin hx hb (by rw [hml]; exact hl.1.symm) hown (hg (Cond.methodLink RX10 49 Lib.Math.min.name) m1001) (hg (Cond.static Lib.Math.min.name) m636) (hg (Cond.initialized "java/lang/Math") m132) (hg (Cond.code Lib.Math.min.name Lib.Math.min.code 2 (some .int)) m637) (Nat.le_of_ble_eq_true rfl) (Nat.le_of_ble_eq_true rfl) (Nat.le_of_ble_eq_true rfl) (Nat.le_of_ble_eq_true rfl) dX10_findFeetFrom_114 ?_
      refine lv_topi (fun y_47 ey_47 => ?_)
      have ty_47 := xI_min (X := y_46.toInt) (Y := (G.1 7 6).toInt) rfl rfl ey_47
      refine S_calli (va_runS (As := [.ref (a 43), .int y_44, .int y_47]) (rest := []) ⟨hx, hb, hml, hown, hts⟩ (k_tLeast_43 l D k A a z G_37 y_44 y_47 ⟨(by first | exact ok_310 ha_p0.1 b_34.1 ty_43 ty_44 | omega), (by first | exact ok_311 ha_p0.2 b_34.2 ty_43 ty_44 | omega)⟩) (va_cwS 3 hts (gd_S hgd m998 m999 m124 m1000) rfl rfl rfl hd_X10_leastOf.2 ⟨Nat.le_of_ble_eq_true rfl, Nat.le_of_ble_eq_true rfl⟩) (pre_S hW hB_G_37 hK hZ hS) rfl rfl hl.1 rfl (lv_room (Nat.le_of_ble_eq_true rfl)) dX10_findFeetFrom_117 ⟨Nat.le_of_ble_eq_true rfl, Nat.le_of_ble_eq_true rfl⟩) hS (fun r_48 G_49 H locs hpo hW hS => ?_)
      have hX_52 : P_tLeast_43 y_44 y_47 G_37 r_48 G_49 := hpo
      obtain ⟨hB_G_49, hq_50, -⟩ := hpo
      have hF := hF.call9 hq_50 rfl rfl
      refine lv_istore (lv' := [(7, .int r_48), (5, .int y_41), (6, .int 0), (4, .int 1000000), (0, .ref (a 8)), (1, .ref (a 7)), (2, .int p0), (3, .int 1)]) hx hb dX10_findFeetFrom_120 hl (lt_b rfl) rfl (fun ls hl => ?_)
      refine lv_iload hx hb dX10_findFeetFrom_122 (lv_at hl 1 rfl) ?_
      refine ic_1 hx hb dX10_findFeetFrom_124 ?_
      refine lv_iload hx hb dX10_findFeetFrom_125 (lv_at hl 0 rfl) ?_
      refine lv_iadd hx hb dX10_findFeetFrom_127 ?_
      refine lv_topi (fun y_53 ey_53 => ?_)
      refine va_mmin hx hb (by rw [hml]; exact hl.1.symm) hown (hg (Cond.methodLink RX10 49 Lib.Math.min.name) m1001) (hg (Cond.static Lib.Math.min.name) m636) (hg (Cond.initialized "java/lang/Math") m132) (hg (Cond.code Lib.Math.min.name Lib.Math.min.code 2 (some .int)) m637) (Nat.le_of_ble_eq_true rfl) (Nat.le_of_ble_eq_true rfl) (Nat.le_of_ble_eq_true rfl) (Nat.le_of_ble_eq_true rfl) dX10_findFeetFrom_128 ?_
      refine lv_topi (fun y_54 ey_54 => ?_)
      have ty_54 := xI_min (X := y_41.toInt) (Y := y_53.toInt) rfl rfl ey_54
      refine lv_istore (lv' := [(4, .int y_54), (7, .int r_48), (5, .int y_41), (6, .int 0), (0, .ref (a 8)), (1, .ref (a 7)), (2, .int p0), (3, .int 1)]) hx hb dX10_findFeetFrom_131 hl (lt_b rfl) rfl (fun ls hl => ?_)
      exact hJ_20 () _ _ _ ⟨G_49, y_41, y_54, (Jn_k_tFrom_1_2_mk (Or.inr ⟨c_28, ⟨y_33, ty_33, ⟨y_35, ty_35, ⟨r_36, G_37, hX_40, ⟨y_41, ey_41, ⟨y_43, ty_43, ⟨y_44, ty_44, ⟨y_46, ty_46, ⟨y_47, ty_47, ⟨r_48, G_49, hX_52, ⟨y_53, ey_53, ⟨y_54, ty_54, ⟨rfl, rfl, rfl⟩⟩⟩⟩⟩⟩⟩⟩⟩⟩⟩⟩⟩)), hW, hB_G_49, hF, (Fr.call9 (rs := []) (fs := []) (Fr.call9 (rs := []) (fs := []) Fr.rf hq_38 rfl rfl) hq_50 rfl rfl), hS, lv_sub hl [2, 0, 4, 6, 7] rfl⟩
  refine lv_if_eq (tgt := 45) hx hb dX10_findFeetFrom_14 rfl (fun c_55 => ?_) (fun c_55 => ?_)
  · have c_55 : y_2.toInt = 0 := xI_eq rfl rfl c_55
    exact hJ_10 () _ _ _ ⟨G, (Jn_k_tFrom_1_1_mk (Or.inl ⟨c_55, rfl⟩)), hW, hB_G, hF, (Fr.rf (rs := []) (fs := [])), hS, lv_sub hl [0, 1, 2, 3, 4, 5] rfl⟩
  · have c_55 : y_2.toInt ≠ 0 := xI_ne rfl rfl c_55
    refine lv_iload_n hx hb dX10_findFeetFrom_17 rfl (lv_at hl 4 rfl) ?_
    refine lv_aload_n hx hb dX10_findFeetFrom_18 rfl (lv_at hl 3 rfl) ?_
    have b_56 : 0 ≤ (G.1 7 7).toInt ∧ (G.1 7 7).toInt ≤ 400 := bd_7_7 hB_G
    refine S_getI (v := (G.1 7 7)) (C := RX0) (T := TX0) (N := 8) hx hb hg iX0 hown hK hW kd_7 rfl 7 (lt_b rfl) (hg (Cond.fieldLink RX10 58 "SlabWalk$Course" "end" "I") m394) (fun _ h9 => h9) rfl rfl dX10_findFeetFrom_19 ?_
    refine lv_icmp_lt (tgt := 45) hx hb dX10_findFeetFrom_22 rfl (fun c_57 => ?_) (fun c_57 => ?_)
    · have c_57 : p0.toInt < (G.1 7 7).toInt := xI_lt rfl rfl c_57
      exact hJ_10 () _ _ _ ⟨G, (Jn_k_tFrom_1_1_mk (Or.inr ⟨c_55, ⟨c_57, rfl⟩⟩)), hW, hB_G, hF, (Fr.rf (rs := []) (fs := [])), hS, lv_sub hl [0, 1, 2, 3, 4, 5] rfl⟩
    · have c_57 : (G.1 7 7).toInt ≤ p0.toInt := xI_nlt rfl rfl c_57
      refine lv_iload_n hx hb dX10_findFeetFrom_25 rfl (lv_at hl 5 rfl) ?_
      refine ic_1 hx hb dX10_findFeetFrom_26 ?_
      refine lv_icmp_ne (tgt := 34) hx hb dX10_findFeetFrom_27 rfl (fun c_58 => ?_) (fun c_58 => ?_)
      · have c_58 : (1 : Int) ≠ (1 : Int) := xI_ne rfl rfl c_58
        exfalso; first | exact ok_313 c_58 | omega
      · have c_58 : (1 : Int) = (1 : Int) := xI_eq rfl rfl c_58
        refine ic_1 hx hb dX10_findFeetFrom_30 ?_
        refine lv_goto (tgt := 36) hx hb dX10_findFeetFrom_31 rfl ?_
        refine lv_istore (lv' := [(5, .int 1), (4, .int 1000000), (0, .ref (a 8)), (1, .ref (a 7)), (2, .int p0), (3, .int 1)]) hx hb dX10_findFeetFrom_36 hl (lt_b rfl) rfl (fun ls hl => ?_)
        refine lv_iload hx hb dX10_findFeetFrom_38 (lv_at hl 0 rfl) ?_
        refine lv_istore (lv' := [(4, .int 1), (5, .int 1), (0, .ref (a 8)), (1, .ref (a 7)), (2, .int p0), (3, .int 1)]) hx hb dX10_findFeetFrom_40 hl (lt_b rfl) rfl (fun ls hl => ?_)
        refine lv_goto (tgt := 133) hx hb dX10_findFeetFrom_42 rfl ?_
        refine lv_aload_n hx hb dX10_findFeetFrom_133 rfl (lv_at hl 2 rfl) ?_
        refine S_getR (n := 41) (C := RX10) (T := TX10) (N := 5) hx hb hg iX10 hown hK hW kd_8 rfl 0 (lt_b rfl) (hg (Cond.fieldLink RX10 13 "SlabWalk$Trails" "rows" "[[I") m440) (fun _ h9 => h9) rfl dX10_findFeetFrom_134 ?_
        refine ic_2 hx hb dX10_findFeetFrom_137 ?_
        refine lv_iload_n hx hb dX10_findFeetFrom_138 rfl (lv_at hl 5 rfl) ?_
        refine lv_imul hx hb dX10_findFeetFrom_139 ?_
        refine lv_topi (fun y_59 ey_59 => ?_)
        obtain rfl : y_59 = 2 := ey_59.trans (by decide)
        refine S_aald hx hb hK hW kd_41 (vin (by decide) (by decide)) dX10_findFeetFrom_140 ?_
        refine rows_at (n := 44) (rows_c hB_G 2 (by decide)) ?_
        refine lv_iload_n hx hb dX10_findFeetFrom_141 rfl (lv_at hl 4 rfl) ?_
        refine lv_iload hx hb dX10_findFeetFrom_142 (lv_at hl 0 rfl) ?_
        refine S_iast hx hb hK hW hS kd_44 (vin ((by first | exact ha_p0.1 | omega)) ((by first | exact ok_304 ha_p0.2 | omega))) dX10_findFeetFrom_144 (fun G_60 H locs eG_60 hW hS => ?_)
        have hB_G_60 : Bd G_60 := hB_G.put (lo := (-2147483648)) (hi := 2147483647) eG_60 rfl rfl rfl (tI_rng _).1 (tI_rng _).2 (hB_G.2.put eG_60 rfl)
        have hF := hF.put eG_60 (Or.inl (by decide))
        refine lv_aload_n hx hb dX10_findFeetFrom_145 rfl (lv_at hl 2 rfl) ?_
        refine S_getR (n := 41) (C := RX10) (T := TX10) (N := 5) hx hb hg iX10 hown hK hW kd_8 rfl 0 (lt_b rfl) (hg (Cond.fieldLink RX10 13 "SlabWalk$Trails" "rows" "[[I") m440) (fun _ h9 => h9) rfl dX10_findFeetFrom_146 ?_
        refine ic_2 hx hb dX10_findFeetFrom_149 ?_
        refine lv_iload_n hx hb dX10_findFeetFrom_150 rfl (lv_at hl 5 rfl) ?_
        refine lv_imul hx hb dX10_findFeetFrom_151 ?_
        refine lv_topi (fun y_61 ey_61 => ?_)
        obtain rfl : y_61 = 2 := ey_61.trans (by decide)
        refine ic_1 hx hb dX10_findFeetFrom_152 ?_
        refine lv_iadd hx hb dX10_findFeetFrom_153 ?_
        refine lv_topi (fun y_62 ey_62 => ?_)
        obtain rfl : y_62 = 3 := ey_62.trans (by decide)
        refine S_aald hx hb hK hW kd_41 (vin (by decide) (by decide)) dX10_findFeetFrom_154 ?_
        refine rows_at (n := 45) (rows_c hB_G_60 3 (by decide)) ?_
        refine lv_iload_n hx hb dX10_findFeetFrom_155 rfl (lv_at hl 4 rfl) ?_
        refine lv_iload hx hb dX10_findFeetFrom_156 (lv_at hl 1 rfl) ?_
        refine S_iast hx hb hK hW hS kd_45 (vin ((by first | exact ha_p0.1 | omega)) ((by first | exact ok_304 ha_p0.2 | omega))) dX10_findFeetFrom_158 (fun G_63 H locs eG_63 hW hS => ?_)
        have hB_G_63 : Bd G_63 := hB_G_60.put (lo := (-2147483648)) (hi := 2147483647) eG_63 rfl rfl rfl (tI_rng _).1 (tI_rng _).2 (hB_G_60.2.put eG_63 rfl)
        have hF := hF.put eG_63 (Or.inl (by decide))
        exact W.vret hx hb hr (fun t ht _ => ⟨⟨G_63, rfl, (P_tFrom_1_mk ⟨hB_G_63, hF, ⟨y_2, ey_2, (Or.inl ⟨c_55, ⟨c_57, ⟨(Fr.put (rs := [44, 45]) (fs := []) (Fr.put (rs := [44, 45]) (fs := []) Fr.rf eG_60 (Or.inl (by decide))) eG_63 (Or.inl (by decide))), (rw_put eG_63 (by decide)).trans (rw_ast eG_60), (rw_ast eG_63).trans (congrArg (fun q => upd q (p0.toNatClampNeg) 1) (rw_put eG_60 (by decide)))⟩⟩⟩)⟩⟩), wd_t ht hW⟩, hS.F ht⟩) hS.2.2 dX10_findFeetFrom_159

set_option maxHeartbeats 4000000 in
set_option maxRecDepth 100000 in
theorem k_tFewest (l : Launch) (D : va_G) (k : KT) (A : Nat → Prop) (a : Nat → Nat) (z : SK) (G : GS) (p0 : Int32) (hci : (G.1 7 6).toInt ≤ 399 ∧ (G.1 7 3).toInt ≤ (G.1 7 4).toInt ∧ ((G.1 7 7).toInt ≤ 0 ∨ (G.1 7 7).toInt + (G.1 7 4).toInt ≤ (G.1 7 6).toInt + 1)) : Met l yX10_fewestFeet (WS yX10_fewestFeet cX10_fewestFeet 5 (some .int)) ({ frames := 3, cells := 0, slots := 0, locals := 64 }) (va_Pc [.ref (a 8), .ref (a 7), .int p0] (cW D k A a z G)) (va_Qi (fun (r : Int32) (G1 : GS) => P_tFewest p0 G r G1) (fun (G1 : GS) t => Wd D k A a G1 t.heap) A) 0 0 A := by
  refine Met.ofW (cc := cX10_fewestFeet) (maxL := 5) (ret := (some .int)) (by decide) rfl ?_
  intro p e s m args below meth c s₁ B hml hv
  obtain ⟨rfl, hW, hB_G, hK, hZ⟩ := hv
  have hx := B.exec
  have hb := B.bytes
  have hr := B.returns
  have hts := atoms_spec (ws := WS yX10_fewestFeet cX10_fewestFeet 5 (some .int)) B.pre
  have hgd : ∀ w ∈ gd, w ∈ WS yX10_fewestFeet cX10_fewestFeet 5 (some .int) := fun w h => List.mem_cons_of_mem _ h
  have hg : ∀ w ∈ gd, w.before _ s = true := fun w h => hts w (hgd w h)
  have hown : s.vm.findClass RX10 = some m.cls := findClass_of_methodNamed B.named
  have hS : va_S A s.heap s.heap [] := va_S.rf
  have hF : Fr [42, 43, 44, 45] [] G G := Fr.rf
  have hl := lv_entry ([.ref (a 8), .ref (a 7), .int p0]) (n := 5) (Nat.le_of_ble_eq_true rfl)
  rw [lg_entry_eq]
  generalize (lg_sl ([.ref (a 8), .ref (a 7), .int p0]) ++ List.replicate (5 - (lg_sl ([.ref (a 8), .ref (a 7), .int p0])).length) Slot.unset).toArray = ls at hl ⊢
  have hl : lv_has ls 5 [(0, .ref (a 8)), (1, .ref (a 7)), (2, .int p0)] := hl
  have b_1 : (-1) ≤ (G.1 7 6).toInt ∧ (G.1 7 6).toInt ≤ 400 := bd_7_6 hB_G
  refine lv_aload_n hx hb dX10_fewestFeet_0 rfl (lv_at hl 1 rfl) ?_
  refine S_getI (v := (G.1 7 6)) (C := RX0) (T := TX0) (N := 8) hx hb hg iX0 hown hK hW kd_7 rfl 6 (lt_b rfl) (hg (Cond.fieldLink RX10 34 "SlabWalk$Course" "last" "I") m388) (fun _ h9 => h9) rfl rfl dX10_fewestFeet_1 ?_
  refine lv_istore_n (lv' := [(3, .int (G.1 7 6)), (0, .ref (a 8)), (1, .ref (a 7)), (2, .int p0)]) hx hb dX10_fewestFeet_4 rfl hl (lt_b rfl) rfl (fun ls hl => ?_)
  refine loop_N (Inv := fun n H locs ls => ∃ (G_2 : GS) (x_6 : Int32), (n : Int) = x_6.toInt - (-1) ∧ ((-1) ≤ x_6.toInt ∧ x_6.toInt ≤ 399) ∧ Rc (St_k_tFewest_1) ((G.1 7 6), G) (x_6, G_2) ∧ Wd D k A a G_2 H ∧ Bd G_2 ∧ Fr [42, 43, 44, 45] [] G G_2 ∧ Fr [42, 43, 44, 45] [] G G_2 ∧ va_S A s.heap H locs ∧ lv_has ls 5 [(3, .int x_6), (0, .ref (a 8)), (1, .ref (a 7)), (2, .int p0)]) (fun n_5 H locs ls ih_4 hI => ?_) ((G.1 7 6).toInt - (-1) : Int).toNat ⟨G, (G.1 7 6), (Int.toNat_of_nonneg ((by first | exact ok_314 b_1.1 | omega))), ⟨(by first | exact b_1.1 | omega), (by first | exact hci.1 | omega)⟩, Rc.rf, hW, hB_G, hF, Fr.rf, hS, lv_sub hl [0, 1, 2, 3] rfl⟩
  obtain ⟨G_2, x_6, hn_9, f_8, hX_7, hW, hB_G_2, hF, hq_3, hS, hl⟩ := hI
  refine lv_iload_n hx hb dX10_fewestFeet_5 rfl (lv_at hl 0 rfl) ?_
  refine lv_if_lt (tgt := 38) hx hb dX10_fewestFeet_6 rfl (fun c_10 => ?_) (fun c_10 => ?_)
  · have c_10 : x_6.toInt < 0 := xI_lt rfl rfl c_10
    refine lv_ldc (v := 1000000) hx hb hown (hg (Cond.constant RX10 44 1000000) m997) dX10_fewestFeet_38 ?_
    refine lv_istore_n (lv' := [(3, .int 1000000), (0, .ref (a 8)), (1, .ref (a 7)), (2, .int p0)]) hx hb dX10_fewestFeet_40 rfl hl (lt_b rfl) rfl (fun ls hl => ?_)
    refine ic_0 hx hb dX10_fewestFeet_41 ?_
    refine lv_istore (lv' := [(4, .int 0), (3, .int 1000000), (0, .ref (a 8)), (1, .ref (a 7)), (2, .int p0)]) hx hb dX10_fewestFeet_42 hl (lt_b rfl) rfl (fun ls hl => ?_)
    have qc_18 : (0 : Int32).toInt = 0 := rfl
    have qc_19 : (1000000 : Int32).toInt = 1000000 := rfl
    refine loop_N (Inv := fun n H locs ls => ∃ (G_11 : GS) (x_15 : Int32) (x_16 : Int32), (n : Int) = 400 - x_15.toInt ∧ (0 ≤ x_15.toInt ∧ x_15.toInt ≤ 400) ∧ (x_16.toInt ≤ 1000000) ∧ Rc (St_k_tFewest_2 p0) (0, 1000000, G_2) (x_15, x_16, G_11) ∧ Wd D k A a G_11 H ∧ Bd G_11 ∧ Fr [42, 43, 44, 45] [] G G_11 ∧ Fr [] [] G_2 G_11 ∧ va_S A s.heap H locs ∧ lv_has ls 5 [(4, .int x_15), (3, .int x_16), (0, .ref (a 8)), (1, .ref (a 7)), (2, .int p0)]) (fun n_14 H locs ls ih_13 hI => ?_) (400 - 0 : Int).toNat ⟨G_2, 0, 1000000, (Int.toNat_of_nonneg ((by decide))), ⟨(by decide), (by decide)⟩, ((by decide)), Rc.rf, hW, hB_G_2, hF, Fr.rf, hS, lv_sub hl [0, 1, 2, 3, 4] rfl⟩
    obtain ⟨G_11, x_15, x_16, hn_22, f_20, f_21, hX_17, hW, hB_G_11, hF, hq_12, hS, hl⟩ := hI
    refine lv_iload hx hb dX10_fewestFeet_44 (lv_at hl 0 rfl) ?_
    refine lv_aload_n hx hb dX10_fewestFeet_46 rfl (lv_at hl 3 rfl) ?_
    have b_23 : 0 ≤ (G.1 7 3).toInt ∧ (G.1 7 3).toInt ≤ 60 := bd_7_3 hB_G
    have g_24 : (G_11.1 7 3).toInt = (G.1 7 3).toInt := (congrArg Int32.toInt (show G_11.1 7 3 = (G.1 7 3) from ((hq_12.i9 7 3 rfl rfl).trans (hq_3.i9 7 3 rfl rfl))))
    have b_25 : 0 ≤ (G.1 7 4).toInt ∧ (G.1 7 4).toInt ≤ 60 := bd_7_4 hB_G
    have g_26 : (G_11.1 7 4).toInt = (G.1 7 4).toInt := (congrArg Int32.toInt (show G_11.1 7 4 = (G.1 7 4) from ((hq_12.i9 7 4 rfl rfl).trans (hq_3.i9 7 4 rfl rfl))))
    have g_27 : (G_11.1 7 6).toInt = (G.1 7 6).toInt := (congrArg Int32.toInt (show G_11.1 7 6 = (G.1 7 6) from ((hq_12.i9 7 6 rfl rfl).trans ((hq_3.i9 7 6 rfl rfl).trans (rfl)))))
    have b_28 : 0 ≤ (G.1 7 7).toInt ∧ (G.1 7 7).toInt ≤ 400 := bd_7_7 hB_G
    have g_29 : (G_11.1 7 7).toInt = (G.1 7 7).toInt := (congrArg Int32.toInt (show G_11.1 7 7 = (G.1 7 7) from ((hq_12.i9 7 7 rfl rfl).trans (hq_3.i9 7 7 rfl rfl))))
    have g_30 : (G_11.1 7 6).toInt = (G.1 7 6).toInt := (congrArg Int32.toInt (show G_11.1 7 6 = (G.1 7 6) from ((hq_12.i9 7 6 rfl rfl).trans ((hq_3.i9 7 6 rfl rfl).trans (rfl)))))
    refine S_calli (va_runV (As := []) (rest := [.int x_15]) ⟨hx, hb, hml, hown, hts⟩ (k_cFirst l D k A a z G_11  ((by first | exact ⟨(by first | exact ok_235 hci.1 g_27 | omega), ⟨(by first | exact ok_185 hci.2.1 g_24 g_26 | omega), (by first | exact ok_236 hci.2.2 g_26 g_27 g_29 | omega)⟩⟩ | omega))) (cwV 0 hts (gd_V hgd m1002 m1003 m1004 m123 m1005) rfl rfl rfl hd_X0_lastFirst ⟨Nat.le_of_ble_eq_true rfl, Nat.le_of_ble_eq_true rfl⟩) (pre_W hW hB_G_11 hK hZ hS kd_7 rfl) rfl rfl hl.1 rfl (lv_room (Nat.le_of_ble_eq_true rfl)) dX10_fewestFeet_47 ⟨Nat.le_of_ble_eq_true rfl, Nat.le_of_ble_eq_true rfl⟩) hS (fun r_31 G_32 H locs hpo hW hS => ?_)
    have hX_35 : P_cFirst G_11 r_31 G_32 := hpo
    obtain ⟨hB_G_32, hq_33, f_36, hp_34, -⟩ := hpo
    have hF := hF.call9 hq_33 rfl rfl
    refine lv_icmp_gt (tgt := 105) hx hb dX10_fewestFeet_50 rfl (fun c_37 => ?_) (fun c_37 => ?_)
    · have c_37 : r_31.toInt < x_15.toInt := xI_lt rfl rfl c_37
      refine lv_iload_n hx hb dX10_fewestFeet_105 rfl (lv_at hl 1 rfl) ?_
      refine lv_ldc (v := 1000000) hx hb hown (hg (Cond.constant RX10 44 1000000) m997) dX10_fewestFeet_106 ?_
      refine lv_icmp_lt (tgt := 115) hx hb dX10_fewestFeet_108 rfl (fun c_38 => ?_) (fun c_38 => ?_)
      · have c_38 : x_16.toInt < 1000000 := xI_lt rfl rfl c_38
        refine lv_iload_n hx hb dX10_fewestFeet_115 rfl (lv_at hl 1 rfl) ?_
        exact W.iret (v := x_16) hx hb hr (fun t ht _ => ⟨⟨x_16, G_32, rfl, (P_tFewest_mk ⟨hB_G_32, hF, ⟨x_6, G_2, hX_7, f_8, hB_G_2, hq_3, ⟨c_10, ⟨x_15, x_16, G_11, hX_17, f_20, f_21, hB_G_11, hq_12, ⟨r_31, G_32, hX_35, ⟨c_37, (Or.inl ⟨c_38, ⟨rfl, rfl⟩⟩)⟩⟩⟩⟩⟩⟩), wd_t ht hW⟩, hS.F ht⟩) hS.2.2 dX10_fewestFeet_116
      · have c_38 : 1000000 ≤ x_16.toInt := xI_nlt rfl rfl c_38
        refine ic_m1 hx hb dX10_fewestFeet_111 ?_
        refine lv_goto (tgt := 116) hx hb dX10_fewestFeet_112 rfl ?_
        exact W.iret (v := (-1)) hx hb hr (fun t ht _ => ⟨⟨(-1), G_32, rfl, (P_tFewest_mk ⟨hB_G_32, hF, ⟨x_6, G_2, hX_7, f_8, hB_G_2, hq_3, ⟨c_10, ⟨x_15, x_16, G_11, hX_17, f_20, f_21, hB_G_11, hq_12, ⟨r_31, G_32, hX_35, ⟨c_37, (Or.inr ⟨c_38, ⟨rfl, rfl⟩⟩)⟩⟩⟩⟩⟩⟩), wd_t ht hW⟩, hS.F ht⟩) hS.2.2 dX10_fewestFeet_116
    · have c_37 : x_15.toInt ≤ r_31.toInt := xI_nlt rfl rfl c_37
      refine lv_iload_n hx hb dX10_fewestFeet_53 rfl (lv_at hl 4 rfl) ?_
      refine ic_2 hx hb dX10_fewestFeet_54 ?_
      refine W.cut (σ := Int32) (pcJ := 75) (J := fun y H locs ls => ∃ (G_44 : GS), (y.toInt ≤ 1000000) ∧ Jn_k_tFewest_3 p0 x_15 x_16 G_32 y G_44 ∧ Wd D k A a G_44 H ∧ Bd G_44 ∧ Fr [42, 43, 44, 45] [] G G_44 ∧ Fr [] [] G_32 G_44 ∧ va_S A s.heap H locs ∧ lv_has ls 5 [(4, .int x_15), (0, .ref (a 8)), (1, .ref (a 7)), (2, .int p0)]) (stJ := fun y => [.int y]) ?_ (fun hJ_45 => ?_)
      · intro y H locs ls hI
        obtain ⟨w_43, hy⟩ : ∃ q, q = y := ⟨_, rfl⟩
        subst hy
        obtain ⟨G_44, f_48, hX_47, hW, hB_G_44, hF, hq_46, hS, hl⟩ := hI
        refine lv_istore_n (lv' := [(3, .int w_43), (4, .int x_15), (0, .ref (a 8)), (1, .ref (a 7)), (2, .int p0)]) hx hb dX10_fewestFeet_75 rfl hl (lt_b rfl) rfl (fun ls hl => ?_)
        refine lv_iload_n hx hb dX10_fewestFeet_76 rfl (lv_at hl 4 rfl) ?_
        refine ic_1 hx hb dX10_fewestFeet_77 ?_
        refine lv_icmp_ne (tgt := 85) hx hb dX10_fewestFeet_78 rfl (fun c_49 => ?_) (fun c_49 => ?_)
        · have c_49 : p0.toInt ≠ 1 := xI_ne rfl rfl c_49
          refine lv_iload_n hx hb dX10_fewestFeet_85 rfl (lv_at hl 0 rfl) ?_
          refine lv_aload_n hx hb dX10_fewestFeet_86 rfl (lv_at hl 2 rfl) ?_
          refine S_getR (n := 41) (C := RX10) (T := TX10) (N := 5) hx hb hg iX10 hown hK hW kd_8 rfl 0 (lt_b rfl) (hg (Cond.fieldLink RX10 13 "SlabWalk$Trails" "rows" "[[I") m440) (fun _ h9 => h9) rfl dX10_fewestFeet_87 ?_
          refine ic_0 hx hb dX10_fewestFeet_90 ?_
          refine S_aald hx hb hK hW kd_41 (vin (by decide) (by decide)) dX10_fewestFeet_91 ?_
          refine rows_at (n := 42) (rows_c hB_G_44 0 (by decide)) ?_
          refine lv_iload hx hb dX10_fewestFeet_92 (lv_at hl 1 rfl) ?_
          refine S_iald hx hb hK hW kd_42 (vin ((by first | exact f_20.1 | omega)) ((by first | exact ok_315 f_20.2 | omega))) dX10_fewestFeet_94 (fun y_50 ey_50 => ?_)
          refine va_mmin hx hb (by rw [hml]; exact hl.1.symm) hown (hg (Cond.methodLink RX10 49 Lib.Math.min.name) m1001) (hg (Cond.static Lib.Math.min.name) m636) (hg (Cond.initialized "java/lang/Math") m132) (hg (Cond.code Lib.Math.min.name Lib.Math.min.code 2 (some .int)) m637) (Nat.le_of_ble_eq_true rfl) (Nat.le_of_ble_eq_true rfl) (Nat.le_of_ble_eq_true rfl) (Nat.le_of_ble_eq_true rfl) dX10_fewestFeet_95 ?_
          refine lv_topi (fun y_51 ey_51 => ?_)
          have ty_51 := xI_min (X := w_43.toInt) (Y := y_50.toInt) rfl rfl ey_51
          refine lv_istore_n (lv' := [(3, .int y_51), (4, .int x_15), (0, .ref (a 8)), (1, .ref (a 7)), (2, .int p0)]) hx hb dX10_fewestFeet_98 rfl hl (lt_b rfl) rfl (fun ls hl => ?_)
          obtain ⟨y_52, ey_52⟩ : ∃ q, q = x_15 + 1 := ⟨_, rfl⟩
          have ty_52 : y_52.toInt = x_15.toInt + 1 := xI_add rfl rfl ey_52 ((by first | exact ok_21 f_20.1 | omega)) ((by first | exact ok_40 f_20.2 | omega))
          refine lv_iinc (v := y_52) (lv' := [(4, .int y_52), (3, .int y_51), (0, .ref (a 8)), (1, .ref (a 7)), (2, .int p0)]) hx hb dX10_fewestFeet_99 hl (k := 1) rfl (by rw [ey_52]; rfl) (lt_b rfl) rfl (fun ls hl => ?_)
          refine lv_goto (tgt := 44) hx hb dX10_fewestFeet_102 rfl ?_
          exact ih_13 (400 - y_52.toInt : Int).toNat ((by first | (clear hci b_1 hn_9 f_8 c_10 f_21 b_23 g_24 b_25 g_26 b_28 g_29 f_48 c_49 ty_51; omega) | omega)) _ _ _ ⟨G_44, y_52, y_51, (Int.toNat_of_nonneg ((by first | exact ok_316 f_20.2 f_36.2 c_37 ty_52 | omega))), ⟨(by first | exact ok_23 f_20.1 ty_52 | omega), (by first | exact ok_317 f_20.2 f_36.2 c_37 ty_52 | omega)⟩, ((by first | exact ok_293 f_48 ty_51 | omega)), (hX_17.st (St_k_tFewest_2_mk ⟨x_15, x_16, G_11, y_52, y_51, G_44, rfl, rfl, f_20, f_21, hB_G_11, ⟨r_31, G_32, hX_35, ⟨c_37, ⟨w_43, G_44, hX_47, f_48, hB_G_44, hq_46, (Or.inr ⟨c_49, ⟨y_50, ey_50, ⟨y_51, ty_51, ⟨y_52, ty_52, ⟨rfl, rfl, rfl⟩⟩⟩⟩⟩)⟩⟩⟩⟩)), hW, hB_G_44, hF, (Fr.call9 (rs := []) (fs := []) (Fr.call9 (rs := []) (fs := []) (Fr.call9 (rs := []) (fs := []) Fr.rf hq_12 rfl rfl) hq_33 rfl rfl) hq_46 rfl rfl), hS, lv_sub hl [0, 1, 2, 3, 4] rfl⟩
        · have c_49 : p0.toInt = 1 := xI_eq rfl rfl c_49
          refine lv_iload_n hx hb dX10_fewestFeet_81 rfl (lv_at hl 0 rfl) ?_
          refine lv_goto (tgt := 98) hx hb dX10_fewestFeet_82 rfl ?_
          refine lv_istore_n (lv' := [(3, .int w_43), (4, .int x_15), (0, .ref (a 8)), (1, .ref (a 7)), (2, .int p0)]) hx hb dX10_fewestFeet_98 rfl hl (lt_b rfl) rfl (fun ls hl => ?_)
          obtain ⟨y_53, ey_53⟩ : ∃ q, q = x_15 + 1 := ⟨_, rfl⟩
          have ty_53 : y_53.toInt = x_15.toInt + 1 := xI_add rfl rfl ey_53 ((by first | exact ok_21 f_20.1 | omega)) ((by first | exact ok_40 f_20.2 | omega))
          refine lv_iinc (v := y_53) (lv' := [(4, .int y_53), (3, .int w_43), (0, .ref (a 8)), (1, .ref (a 7)), (2, .int p0)]) hx hb dX10_fewestFeet_99 hl (k := 1) rfl (by rw [ey_53]; rfl) (lt_b rfl) rfl (fun ls hl => ?_)
          refine lv_goto (tgt := 44) hx hb dX10_fewestFeet_102 rfl ?_
          exact ih_13 (400 - y_53.toInt : Int).toNat ((by first | (clear hci b_1 hn_9 f_8 c_10 f_21 b_23 g_24 b_25 g_26 b_28 g_29 f_48 c_49; omega) | omega)) _ _ _ ⟨G_44, y_53, w_43, (Int.toNat_of_nonneg ((by first | exact ok_316 f_20.2 f_36.2 c_37 ty_53 | omega))), ⟨(by first | exact ok_23 f_20.1 ty_53 | omega), (by first | exact ok_317 f_20.2 f_36.2 c_37 ty_53 | omega)⟩, ((by first | exact f_48 | omega)), (hX_17.st (St_k_tFewest_2_mk ⟨x_15, x_16, G_11, y_53, w_43, G_44, rfl, rfl, f_20, f_21, hB_G_11, ⟨r_31, G_32, hX_35, ⟨c_37, ⟨w_43, G_44, hX_47, f_48, hB_G_44, hq_46, (Or.inl ⟨c_49, ⟨y_53, ty_53, ⟨rfl, rfl, rfl⟩⟩⟩)⟩⟩⟩⟩)), hW, hB_G_44, hF, (Fr.call9 (rs := []) (fs := []) (Fr.call9 (rs := []) (fs := []) (Fr.call9 (rs := []) (fs := []) Fr.rf hq_12 rfl rfl) hq_33 rfl rfl) hq_46 rfl rfl), hS, lv_sub hl [0, 1, 2, 3, 4] rfl⟩
      refine lv_icmp_ne (tgt := 62) hx hb dX10_fewestFeet_55 rfl (fun c_54 => ?_) (fun c_54 => ?_)
      · have c_54 : p0.toInt ≠ 2 := xI_ne rfl rfl c_54
        refine lv_iload_n hx hb dX10_fewestFeet_62 rfl (lv_at hl 1 rfl) ?_
        refine lv_aload_n hx hb dX10_fewestFeet_63 rfl (lv_at hl 2 rfl) ?_
        refine S_getR (n := 41) (C := RX10) (T := TX10) (N := 5) hx hb hg iX10 hown hK hW kd_8 rfl 0 (lt_b rfl) (hg (Cond.fieldLink RX10 13 "SlabWalk$Trails" "rows" "[[I") m440) (fun _ h9 => h9) rfl dX10_fewestFeet_64 ?_
        refine ic_2 hx hb dX10_fewestFeet_67 ?_
        refine S_aald hx hb hK hW kd_41 (vin (by decide) (by decide)) dX10_fewestFeet_68 ?_
        refine rows_at (n := 44) (rows_c hB_G_32 2 (by decide)) ?_
        refine lv_iload hx hb dX10_fewestFeet_69 (lv_at hl 0 rfl) ?_
        refine S_iald hx hb hK hW kd_44 (vin ((by first | exact f_20.1 | omega)) ((by first | exact ok_315 f_20.2 | omega))) dX10_fewestFeet_71 (fun y_55 ey_55 => ?_)
        refine va_mmin hx hb (by rw [hml]; exact hl.1.symm) hown (hg (Cond.methodLink RX10 49 Lib.Math.min.name) m1001) (hg (Cond.static Lib.Math.min.name) m636) (hg (Cond.initialized "java/lang/Math") m132) (hg (Cond.code Lib.Math.min.name Lib.Math.min.code 2 (some .int)) m637) (Nat.le_of_ble_eq_true rfl) (Nat.le_of_ble_eq_true rfl) (Nat.le_of_ble_eq_true rfl) (Nat.le_of_ble_eq_true rfl) dX10_fewestFeet_72 ?_
        refine lv_topi (fun y_56 ey_56 => ?_)
        have ty_56 := xI_min (X := x_16.toInt) (Y := y_55.toInt) rfl rfl ey_56
        exact hJ_45 y_56 _ _ _ ⟨G_32, ((by first | exact ok_293 f_21 ty_56 | omega)), (Jn_k_tFewest_3_mk (Or.inr ⟨c_54, ⟨y_55, ey_55, ⟨y_56, ty_56, ⟨rfl, rfl⟩⟩⟩⟩)), hW, hB_G_32, hF, (Fr.rf (rs := []) (fs := [])), hS, lv_sub hl [0, 2, 3, 4] rfl⟩
      · have c_54 : p0.toInt = 2 := xI_eq rfl rfl c_54
        refine lv_iload_n hx hb dX10_fewestFeet_58 rfl (lv_at hl 1 rfl) ?_
        refine lv_goto (tgt := 75) hx hb dX10_fewestFeet_59 rfl ?_
        exact hJ_45 x_16 _ _ _ ⟨G_32, ((by first | exact f_21 | omega)), (Jn_k_tFewest_3_mk (Or.inl ⟨c_54, ⟨rfl, rfl⟩⟩)), hW, hB_G_32, hF, (Fr.rf (rs := []) (fs := [])), hS, lv_sub hl [0, 2, 3, 4] rfl⟩
  · have c_10 : 0 ≤ x_6.toInt := xI_nlt rfl rfl c_10
    refine ic_0 hx hb dX10_fewestFeet_9 ?_
    refine lv_istore (lv' := [(4, .int 0), (3, .int x_6), (0, .ref (a 8)), (1, .ref (a 7)), (2, .int p0)]) hx hb dX10_fewestFeet_10 hl (lt_b rfl) rfl (fun ls hl => ?_)
    have qc_63 : (0 : Int32).toInt = 0 := rfl
    refine loop_N (Inv := fun n H locs ls => ∃ (G_57 : GS) (x_61 : Int32), (n : Int) = 2 - x_61.toInt ∧ (0 ≤ x_61.toInt ∧ x_61.toInt ≤ 2) ∧ Rc (St_k_tFewest_4 x_6) (0, G_2) (x_61, G_57) ∧ Wd D k A a G_57 H ∧ Bd G_57 ∧ Fr [42, 43, 44, 45] [] G G_57 ∧ Fr [42, 43, 44, 45] [] G_2 G_57 ∧ va_S A s.heap H locs ∧ lv_has ls 5 [(4, .int x_61), (3, .int x_6), (0, .ref (a 8)), (1, .ref (a 7)), (2, .int p0)]) (fun n_60 H locs ls ih_59 hI => ?_) (2 - 0 : Int).toNat ⟨G_2, 0, (Int.toNat_of_nonneg ((by decide))), ⟨(by decide), (by decide)⟩, Rc.rf, hW, hB_G_2, hF, Fr.rf, hS, lv_sub hl [0, 1, 2, 3, 4] rfl⟩
    obtain ⟨G_57, x_61, hn_65, f_64, hX_62, hW, hB_G_57, hF, hq_58, hS, hl⟩ := hI
    refine lv_iload hx hb dX10_fewestFeet_12 (lv_at hl 0 rfl) ?_
    refine ic_2 hx hb dX10_fewestFeet_14 ?_
    refine lv_icmp_ge (tgt := 32) hx hb dX10_fewestFeet_15 rfl (fun c_66 => ?_) (fun c_66 => ?_)
    · have c_66 : 2 ≤ x_61.toInt := xI_le rfl rfl c_66
      obtain ⟨y_67, ey_67⟩ : ∃ q, q = x_6 + (-1) := ⟨_, rfl⟩
      have ty_67 : y_67.toInt = x_6.toInt + (-1) := xI_add rfl rfl ey_67 ((by first | exact ok_190 c_10 | omega)) ((by first | exact ok_191 f_8.2 | omega))
      refine lv_iinc (v := y_67) (lv' := [(3, .int y_67), (4, .int x_61), (0, .ref (a 8)), (1, .ref (a 7)), (2, .int p0)]) hx hb dX10_fewestFeet_32 hl (k := 1) rfl (by rw [ey_67]; rfl) (lt_b rfl) rfl (fun ls hl => ?_)
      refine lv_goto (tgt := 5) hx hb dX10_fewestFeet_35 rfl ?_
      exact ih_4 (y_67.toInt - (-1) : Int).toNat ((by first | (clear hci b_1 hn_65 f_64 c_66; omega) | omega)) _ _ _ ⟨G_57, y_67, (Int.toNat_of_nonneg ((by first | exact ok_192 c_10 ty_67 | omega))), ⟨(by first | exact ok_193 c_10 ty_67 | omega), (by first | exact ok_194 f_8.2 ty_67 | omega)⟩, (hX_7.st (St_k_tFewest_1_mk ⟨x_6, G_2, y_67, G_57, rfl, rfl, f_8, hB_G_2, ⟨c_10, ⟨x_61, G_57, hX_62, f_64, hB_G_57, hq_58, ⟨c_66, ⟨y_67, ty_67, ⟨rfl, rfl⟩⟩⟩⟩⟩⟩)), hW, hB_G_57, hF, (Fr.call9 (rs := [42, 43, 44, 45]) (fs := []) (Fr.call9 (rs := [42, 43, 44, 45]) (fs := []) Fr.rf hq_3 rfl rfl) hq_58 rfl rfl), hS, lv_sub hl [0, 2, 3, 4] rfl⟩
    · have c_66 : x_61.toInt < 2 := xI_nle rfl rfl c_66
      have h_68 : x_61.toInt = 0 ∨ x_61.toInt = 1 := by omega
      rcases h_68 with h_68 | h_68
      · have eh_68 : x_61 = 0 := Int32.toInt_inj.mp (h_68.trans rfl)
        rw [eh_68] at hl
        refine lv_aload_n hx hb dX10_fewestFeet_18 rfl (lv_at hl 2 rfl) ?_
        refine lv_aload_n hx hb dX10_fewestFeet_19 rfl (lv_at hl 3 rfl) ?_
        refine lv_iload_n hx hb dX10_fewestFeet_20 rfl (lv_at hl 1 rfl) ?_
        refine lv_iload hx hb dX10_fewestFeet_21 (lv_at hl 0 rfl) ?_
        have b_69 : 0 ≤ (G.1 7 3).toInt ∧ (G.1 7 3).toInt ≤ 60 := bd_7_3 hB_G
        have g_70 : (G_57.1 7 3).toInt = (G.1 7 3).toInt := (congrArg Int32.toInt (show G_57.1 7 3 = (G.1 7 3) from ((hq_58.i9 7 3 rfl rfl).trans (hq_3.i9 7 3 rfl rfl))))
        have b_71 : 0 ≤ (G.1 7 4).toInt ∧ (G.1 7 4).toInt ≤ 60 := bd_7_4 hB_G
        have g_72 : (G_57.1 7 4).toInt = (G.1 7 4).toInt := (congrArg Int32.toInt (show G_57.1 7 4 = (G.1 7 4) from ((hq_58.i9 7 4 rfl rfl).trans (hq_3.i9 7 4 rfl rfl))))
        have g_73 : (G_57.1 7 6).toInt = (G.1 7 6).toInt := (congrArg Int32.toInt (show G_57.1 7 6 = (G.1 7 6) from ((hq_58.i9 7 6 rfl rfl).trans ((hq_3.i9 7 6 rfl rfl).trans (rfl)))))
        have b_74 : 0 ≤ (G.1 7 7).toInt ∧ (G.1 7 7).toInt ≤ 400 := bd_7_7 hB_G
        have g_75 : (G_57.1 7 7).toInt = (G.1 7 7).toInt := (congrArg Int32.toInt (show G_57.1 7 7 = (G.1 7 7) from ((hq_58.i9 7 7 rfl rfl).trans (hq_3.i9 7 7 rfl rfl))))
        refine S_callv (va_runV (As := [.ref (a 7), .int x_6, .int 0]) (rest := []) ⟨hx, hb, hml, hown, hts⟩ (k_tFrom_0 l D k A a z G_57 x_6 ⟨(by first | exact c_10 | omega), (by first | exact f_8.2 | omega)⟩ ((by first | exact ⟨(by first | exact ok_235 hci.1 g_73 | omega), ⟨(by first | exact ok_185 hci.2.1 g_70 g_72 | omega), (by first | exact ok_236 hci.2.2 g_72 g_73 g_75 | omega)⟩⟩ | omega))) (cwV 3 hts (gd_V hgd m993 m995 m33 m124 m996) rfl rfl rfl hd_X10_findFeetFrom ⟨Nat.le_of_ble_eq_true rfl, Nat.le_of_ble_eq_true rfl⟩) (pre_W hW hB_G_57 hK hZ hS kd_8 rfl) rfl rfl hl.1 rfl (lv_room (Nat.le_of_ble_eq_true rfl)) dX10_fewestFeet_23 ⟨Nat.le_of_ble_eq_true rfl, Nat.le_of_ble_eq_true rfl⟩) hS (fun G_77 H locs hpo hW hS => ?_)
        have hX_80 : P_tFrom_0 x_6 G_57 G_77 := hpo
        obtain ⟨hB_G_77, hq_78, -⟩ := hpo
        have hF := hF.call9 hq_78 rfl rfl
        refine lv_iinc (v := 1) (lv' := [(4, .int 1), (3, .int x_6), (0, .ref (a 8)), (1, .ref (a 7)), (2, .int p0)]) hx hb dX10_fewestFeet_26 hl (k := 0) rfl (by decide) (lt_b rfl) rfl (fun ls hl => ?_)
        refine lv_goto (tgt := 12) hx hb dX10_fewestFeet_29 rfl ?_
        have qc_81 : (1 : Int32).toInt = 1 := rfl
        exact ih_59 (2 - 1 : Int).toNat ((by first | (clear hci b_1 hn_9 f_8 c_10 b_69 g_70 b_71 g_72 g_73 b_74 g_75; omega) | omega)) _ _ _ ⟨G_77, 1, (Int.toNat_of_nonneg ((by decide))), ⟨(by decide), (by decide)⟩, (hX_62.st (St_k_tFewest_4_mk ⟨x_61, G_57, 1, G_77, rfl, rfl, f_64, hB_G_57, ⟨c_66, (Or.inl ⟨h_68, ⟨G_77, hX_80, ⟨rfl, rfl⟩⟩⟩)⟩⟩)), hW, hB_G_77, hF, (Fr.call9 (rs := [42, 43, 44, 45]) (fs := []) (Fr.call9 (rs := [42, 43, 44, 45]) (fs := []) Fr.rf hq_58 rfl rfl) hq_78 rfl rfl), hS, lv_sub hl [0, 1, 2, 3, 4] rfl⟩
      · have eh_68 : x_61 = 1 := Int32.toInt_inj.mp (h_68.trans rfl)
        rw [eh_68] at hl
        refine lv_aload_n hx hb dX10_fewestFeet_18 rfl (lv_at hl 2 rfl) ?_
        refine lv_aload_n hx hb dX10_fewestFeet_19 rfl (lv_at hl 3 rfl) ?_
        refine lv_iload_n hx hb dX10_fewestFeet_20 rfl (lv_at hl 1 rfl) ?_
        refine lv_iload hx hb dX10_fewestFeet_21 (lv_at hl 0 rfl) ?_
        have b_82 : 0 ≤ (G.1 7 3).toInt ∧ (G.1 7 3).toInt ≤ 60 := bd_7_3 hB_G
        have g_83 : (G_57.1 7 3).toInt = (G.1 7 3).toInt := (congrArg Int32.toInt (show G_57.1 7 3 = (G.1 7 3) from ((hq_58.i9 7 3 rfl rfl).trans (hq_3.i9 7 3 rfl rfl))))
        have b_84 : 0 ≤ (G.1 7 4).toInt ∧ (G.1 7 4).toInt ≤ 60 := bd_7_4 hB_G
        have g_85 : (G_57.1 7 4).toInt = (G.1 7 4).toInt := (congrArg Int32.toInt (show G_57.1 7 4 = (G.1 7 4) from ((hq_58.i9 7 4 rfl rfl).trans (hq_3.i9 7 4 rfl rfl))))
        have g_86 : (G_57.1 7 6).toInt = (G.1 7 6).toInt := (congrArg Int32.toInt (show G_57.1 7 6 = (G.1 7 6) from ((hq_58.i9 7 6 rfl rfl).trans ((hq_3.i9 7 6 rfl rfl).trans (rfl)))))
        have b_87 : 0 ≤ (G.1 7 7).toInt ∧ (G.1 7 7).toInt ≤ 400 := bd_7_7 hB_G
        have g_88 : (G_57.1 7 7).toInt = (G.1 7 7).toInt := (congrArg Int32.toInt (show G_57.1 7 7 = (G.1 7 7) from ((hq_58.i9 7 7 rfl rfl).trans (hq_3.i9 7 7 rfl rfl))))
        refine S_callv (va_runV (As := [.ref (a 7), .int x_6, .int 1]) (rest := []) ⟨hx, hb, hml, hown, hts⟩ (k_tFrom_1 l D k A a z G_57 x_6 ⟨(by first | exact c_10 | omega), (by first | exact f_8.2 | omega)⟩ ((by first | exact ⟨(by first | exact ok_235 hci.1 g_86 | omega), ⟨(by first | exact ok_185 hci.2.1 g_83 g_85 | omega), (by first | exact ok_236 hci.2.2 g_85 g_86 g_88 | omega)⟩⟩ | omega))) (cwV 3 hts (gd_V hgd m993 m995 m33 m124 m996) rfl rfl rfl hd_X10_findFeetFrom ⟨Nat.le_of_ble_eq_true rfl, Nat.le_of_ble_eq_true rfl⟩) (pre_W hW hB_G_57 hK hZ hS kd_8 rfl) rfl rfl hl.1 rfl (lv_room (Nat.le_of_ble_eq_true rfl)) dX10_fewestFeet_23 ⟨Nat.le_of_ble_eq_true rfl, Nat.le_of_ble_eq_true rfl⟩) hS (fun G_90 H locs hpo hW hS => ?_)
        have hX_93 : P_tFrom_1 x_6 G_57 G_90 := hpo
        obtain ⟨hB_G_90, hq_91, -⟩ := hpo
        have hF := hF.call9 hq_91 rfl rfl
        refine lv_iinc (v := 2) (lv' := [(4, .int 2), (3, .int x_6), (0, .ref (a 8)), (1, .ref (a 7)), (2, .int p0)]) hx hb dX10_fewestFeet_26 hl (k := 0) rfl (by decide) (lt_b rfl) rfl (fun ls hl => ?_)
        refine lv_goto (tgt := 12) hx hb dX10_fewestFeet_29 rfl ?_
        have qc_94 : (2 : Int32).toInt = 2 := rfl
        exact ih_59 (2 - 2 : Int).toNat ((by first | (clear hci b_1 hn_9 f_8 c_10 b_82 g_83 b_84 g_85 g_86 b_87 g_88; omega) | omega)) _ _ _ ⟨G_90, 2, (Int.toNat_of_nonneg ((by decide))), ⟨(by decide), (by decide)⟩, (hX_62.st (St_k_tFewest_4_mk ⟨x_61, G_57, 2, G_90, rfl, rfl, f_64, hB_G_57, ⟨c_66, (Or.inr ⟨h_68, ⟨G_90, hX_93, ⟨rfl, rfl⟩⟩⟩)⟩⟩)), hW, hB_G_90, hF, (Fr.call9 (rs := [42, 43, 44, 45]) (fs := []) (Fr.call9 (rs := [42, 43, 44, 45]) (fs := []) Fr.rf hq_58 rfl rfl) hq_91 rfl rfl), hS, lv_sub hl [0, 1, 2, 3, 4] rfl⟩

set_option maxHeartbeats 4000000 in
set_option maxRecDepth 100000 in
theorem k_tLay (l : Launch) (D : va_G) (k : KT) (A : Nat → Prop) (a : Nat → Nat) (z : SK) (G : GS) (p0 : Int32) (hci : (G.1 7 6).toInt ≤ 399 ∧ (G.1 7 3).toInt ≤ (G.1 7 4).toInt ∧ ((G.1 7 7).toInt ≤ 0 ∨ (G.1 7 7).toInt + (G.1 7 4).toInt ≤ (G.1 7 6).toInt + 1)) : Met l yX10_layHeels (WS yX10_layHeels cX10_layHeels 11 (some .int)) ({ frames := 2, cells := 0, slots := 0, locals := 33 }) (va_Pc [.ref (a 8), .ref (a 7), .int p0, .ref (a 33)] (cW D k A a z G)) (va_Qi (fun (r : Int32) (G1 : GS) => P_tLay p0 G r G1) (fun (G1 : GS) t => Wd D k A a G1 t.heap) A) 0 0 A := by
  refine Met.ofW (cc := cX10_layHeels) (maxL := 11) (ret := (some .int)) (by decide) rfl ?_
  intro p e s m args below meth c s₁ B hml hv
  obtain ⟨rfl, hW, hB_G, hK, hZ⟩ := hv
  have hx := B.exec
  have hb := B.bytes
  have hr := B.returns
  have hts := atoms_spec (ws := WS yX10_layHeels cX10_layHeels 11 (some .int)) B.pre
  have hgd : ∀ w ∈ gd, w ∈ WS yX10_layHeels cX10_layHeels 11 (some .int) := fun w h => List.mem_cons_of_mem _ h
  have hg : ∀ w ∈ gd, w.before _ s = true := fun w h => hts w (hgd w h)
  have hown : s.vm.findClass RX10 = some m.cls := findClass_of_methodNamed B.named
  have hS : va_S A s.heap s.heap [] := va_S.rf
  have hF : Fr [33] [] G G := Fr.rf
  have hl := lv_entry ([.ref (a 8), .ref (a 7), .int p0, .ref (a 33)]) (n := 11) (Nat.le_of_ble_eq_true rfl)
  rw [lg_entry_eq]
  generalize (lg_sl ([.ref (a 8), .ref (a 7), .int p0, .ref (a 33)]) ++ List.replicate (11 - (lg_sl ([.ref (a 8), .ref (a 7), .int p0, .ref (a 33)])).length) Slot.unset).toArray = ls at hl ⊢
  have hl : lv_has ls 11 [(0, .ref (a 8)), (1, .ref (a 7)), (2, .int p0), (3, .ref (a 33))] := hl
  have b_1 : (-1) ≤ (G.1 7 6).toInt ∧ (G.1 7 6).toInt ≤ 400 := bd_7_6 hB_G
  refine ic_0 hx hb dX10_layHeels_0 ?_
  refine lv_istore (lv' := [(4, .int 0), (0, .ref (a 8)), (1, .ref (a 7)), (2, .int p0), (3, .ref (a 33))]) hx hb dX10_layHeels_1 hl (lt_b rfl) rfl (fun ls hl => ?_)
  refine lv_aload_n hx hb dX10_layHeels_3 rfl (lv_at hl 2 rfl) ?_
  have b_2 : 0 ≤ (G.1 7 3).toInt ∧ (G.1 7 3).toInt ≤ 60 := bd_7_3 hB_G
  have b_3 : 0 ≤ (G.1 7 4).toInt ∧ (G.1 7 4).toInt ≤ 60 := bd_7_4 hB_G
  have b_4 : 0 ≤ (G.1 7 7).toInt ∧ (G.1 7 7).toInt ≤ 400 := bd_7_7 hB_G
  refine S_calli (va_runV (As := []) (rest := []) ⟨hx, hb, hml, hown, hts⟩ (k_cFirst l D k A a z G  ((by first | exact ⟨(by first | exact hci.1 | omega), ⟨(by first | exact hci.2.1 | omega), (by first | exact hci.2.2 | omega)⟩⟩ | omega))) (cwV 0 hts (gd_V hgd m1002 m1003 m1004 m123 m1005) rfl rfl rfl hd_X0_lastFirst ⟨Nat.le_of_ble_eq_true rfl, Nat.le_of_ble_eq_true rfl⟩) (pre_W hW hB_G hK hZ hS kd_7 rfl) rfl rfl hl.1 rfl (lv_room (Nat.le_of_ble_eq_true rfl)) dX10_layHeels_4 ⟨Nat.le_of_ble_eq_true rfl, Nat.le_of_ble_eq_true rfl⟩) hS (fun r_5 G_6 H locs hpo hW hS => ?_)
  have hX_9 : P_cFirst G r_5 G_6 := hpo
  obtain ⟨hB_G_6, hq_7, f_10, hp_8, -⟩ := hpo
  have hF := hF.call9 hq_7 rfl rfl
  refine lv_istore (lv' := [(5, .int r_5), (4, .int 0), (0, .ref (a 8)), (1, .ref (a 7)), (2, .int p0), (3, .ref (a 33))]) hx hb dX10_layHeels_7 hl (lt_b rfl) rfl (fun ls hl => ?_)
  refine ic_0 hx hb dX10_layHeels_9 ?_
  refine lv_istore (lv' := [(6, .int 0), (5, .int r_5), (4, .int 0), (0, .ref (a 8)), (1, .ref (a 7)), (2, .int p0), (3, .ref (a 33))]) hx hb dX10_layHeels_10 hl (lt_b rfl) rfl (fun ls hl => ?_)
  refine ic_0 hx hb dX10_layHeels_12 ?_
  refine lv_istore (lv' := [(7, .int 0), (6, .int 0), (5, .int r_5), (4, .int 0), (0, .ref (a 8)), (1, .ref (a 7)), (2, .int p0), (3, .ref (a 33))]) hx hb dX10_layHeels_13 hl (lt_b rfl) rfl (fun ls hl => ?_)
  refine lv_iload_n hx hb dX10_layHeels_15 rfl (lv_at hl 6 rfl) ?_
  refine lv_istore (lv' := [(8, .int p0), (7, .int 0), (6, .int 0), (5, .int r_5), (4, .int 0), (0, .ref (a 8)), (1, .ref (a 7)), (2, .int p0), (3, .ref (a 33))]) hx hb dX10_layHeels_16 hl (lt_b rfl) rfl (fun ls hl => ?_)
  have qc_20 : (0 : Int32).toInt = 0 := rfl
  refine loop_N (Inv := fun n H locs ls => ∃ (G_11 : GS) (x_15 : Int32) (x_16 : Int32) (x_17 : Int32) (x_18 : Int32), (n : Int) = 400 - x_16.toInt ∧ (0 ≤ x_16.toInt ∧ x_16.toInt ≤ 400) ∧ ((-1) ≤ x_17.toInt ∧ x_17.toInt ≤ 399) ∧ (0 ≤ x_18.toInt ∧ x_18.toInt ≤ 24400) ∧ (x_18.toInt ≤ 400 + 60 * x_16.toInt) ∧ Rc (St_k_tLay_1 G) (p0, 0, r_5, 0, G_6) (x_15, x_16, x_17, x_18, G_11) ∧ Wd D k A a G_11 H ∧ Bd G_11 ∧ Fr [33] [] G G_11 ∧ Fr [33] [] G_6 G_11 ∧ va_S A s.heap H locs ∧ lv_has ls 11 [(8, .int x_15), (7, .int x_16), (5, .int x_17), (4, .int x_18), (0, .ref (a 8)), (1, .ref (a 7)), (3, .ref (a 33))]) (fun n_14 H locs ls ih_13 hI => ?_) (400 - 0 : Int).toNat ⟨G_6, p0, 0, r_5, 0, (Int.toNat_of_nonneg ((by decide))), ⟨(by decide), (by decide)⟩, ⟨(by first | exact f_10.1 | omega), (by first | exact f_10.2 | omega)⟩, ⟨(by decide), (by decide)⟩, ((by decide)), Rc.rf, hW, hB_G_6, hF, Fr.rf, hS, lv_sub hl [0, 1, 3, 4, 5, 6, 8] rfl⟩
  obtain ⟨G_11, x_15, x_16, x_17, x_18, hn_25, f_21, f_22, f_23, f_24, hX_19, hW, hB_G_11, hF, hq_12, hS, hl⟩ := hI
  refine lv_iload hx hb dX10_layHeels_18 (lv_at hl 0 rfl) ?_
  refine lv_if_le (tgt := 166) hx hb dX10_layHeels_20 rfl (fun c_26 => ?_) (fun c_26 => ?_)
  · have c_26 : x_15.toInt ≤ 0 := xI_le rfl rfl c_26
    refine lv_iload hx hb dX10_layHeels_166 (lv_at hl 1 rfl) ?_
    exact W.iret (v := x_16) hx hb hr (fun t ht _ => ⟨⟨x_16, G_11, rfl, (P_tLay_mk ⟨hB_G_11, hF, ⟨(by first | exact f_21.1 | omega), (by first | exact f_21.2 | omega)⟩, ⟨r_5, G_6, hX_9, ⟨x_15, x_16, x_17, x_18, G_11, hX_19, f_21, f_22, f_23, f_24, hB_G_11, hq_12, (Or.inl ⟨c_26, ⟨rfl, rfl⟩⟩)⟩⟩⟩), wd_t ht hW⟩, hS.F ht⟩) hS.2.2 dX10_layHeels_168
  · have c_26 : 0 < x_15.toInt := xI_nle rfl rfl c_26
    refine lv_iload hx hb dX10_layHeels_23 (lv_at hl 1 rfl) ?_
    refine lv_aload_n hx hb dX10_layHeels_25 rfl (lv_at hl 6 rfl) ?_
    refine S_alen (v := 400) hx hb hK hW kd_33 1 rfl rfl dX10_layHeels_26 ?_
    refine lv_icmp_ge (tgt := 166) hx hb dX10_layHeels_27 rfl (fun c_27 => ?_) (fun c_27 => ?_)
    · have c_27 : 400 ≤ x_16.toInt := xI_le rfl rfl c_27
      refine lv_iload hx hb dX10_layHeels_166 (lv_at hl 1 rfl) ?_
      exact W.iret (v := x_16) hx hb hr (fun t ht _ => ⟨⟨x_16, G_11, rfl, (P_tLay_mk ⟨hB_G_11, hF, ⟨(by first | exact f_21.1 | omega), (by first | exact f_21.2 | omega)⟩, ⟨r_5, G_6, hX_9, ⟨x_15, x_16, x_17, x_18, G_11, hX_19, f_21, f_22, f_23, f_24, hB_G_11, hq_12, (Or.inr ⟨c_26, ⟨c_27, ⟨rfl, rfl⟩⟩⟩)⟩⟩⟩), wd_t ht hW⟩, hS.F ht⟩) hS.2.2 dX10_layHeels_168
    · have c_27 : x_16.toInt < 400 := xI_nle rfl rfl c_27
      refine lv_iload hx hb dX10_layHeels_30 (lv_at hl 1 rfl) ?_
      refine W.cut (σ := Int32) (pcJ := 51) (J := fun y H locs ls => ∃ (G_36 : GS), Jn_k_tLay_2 x_16 G G_11 y G_36 ∧ Wd D k A a G_36 H ∧ Bd G_36 ∧ Fr [33] [] G G_36 ∧ Fr [] [] G_11 G_36 ∧ va_S A s.heap H locs ∧ lv_has ls 11 [(8, .int x_15), (7, .int x_16), (5, .int x_17), (4, .int x_18), (0, .ref (a 8)), (1, .ref (a 7)), (3, .ref (a 33))]) (stJ := fun y => [.int y]) ?_ (fun hJ_37 => ?_)
      · intro y H locs ls hI
        obtain ⟨w_35, hy⟩ : ∃ q, q = y := ⟨_, rfl⟩
        subst hy
        obtain ⟨G_36, hX_39, hW, hB_G_36, hF, hq_38, hS, hl⟩ := hI
        refine lv_istore (lv' := [(9, .int w_35), (8, .int x_15), (7, .int x_16), (5, .int x_17), (4, .int x_18), (0, .ref (a 8)), (1, .ref (a 7)), (3, .ref (a 33))]) hx hb dX10_layHeels_51 hl (lt_b rfl) rfl (fun ls hl => ?_)
        refine lv_iload hx hb dX10_layHeels_53 (lv_at hl 4 rfl) ?_
        refine lv_istore (lv' := [(10, .int x_18), (9, .int w_35), (8, .int x_15), (7, .int x_16), (5, .int x_17), (4, .int x_18), (0, .ref (a 8)), (1, .ref (a 7)), (3, .ref (a 33))]) hx hb dX10_layHeels_55 hl (lt_b rfl) rfl (fun ls hl => ?_)
        refine loop_N (Inv := fun n H locs ls => ∃ (G_40 : GS) (x_44 : Int32), (n : Int) = 24400 - x_44.toInt ∧ (0 ≤ x_44.toInt ∧ x_44.toInt ≤ 24400) ∧ (x_44.toInt ≤ 400 + 60 * x_16.toInt) ∧ Rc (St_k_tLay_3 w_35 x_15 x_16 x_17) (x_18, G_36) (x_44, G_40) ∧ Wd D k A a G_40 H ∧ Bd G_40 ∧ Fr [33] [] G G_40 ∧ Fr [] [] G_36 G_40 ∧ va_S A s.heap H locs ∧ lv_has ls 11 [(10, .int x_44), (9, .int w_35), (8, .int x_15), (7, .int x_16), (5, .int x_17), (0, .ref (a 8)), (1, .ref (a 7)), (3, .ref (a 33))]) (fun n_43 H locs ls ih_42 hI => ?_) (24400 - x_18.toInt : Int).toNat ⟨G_36, x_18, (Int.toNat_of_nonneg ((by first | exact ok_318 f_23.2 | omega))), ⟨(by first | exact f_23.1 | omega), (by first | exact f_23.2 | omega)⟩, ((by first | exact f_24 | omega)), Rc.rf, hW, hB_G_36, hF, Fr.rf, hS, lv_sub hl [0, 1, 2, 3, 4, 6, 7, 8] rfl⟩
        obtain ⟨G_40, x_44, hn_48, f_46, f_47, hX_45, hW, hB_G_40, hF, hq_41, hS, hl⟩ := hI
        refine lv_iload hx hb dX10_layHeels_57 (lv_at hl 0 rfl) ?_
        refine lv_iload hx hb dX10_layHeels_59 (lv_at hl 4 rfl) ?_
        refine W.cut (σ := Unit) (pcJ := 100) (J := fun y H locs ls => ∃ (G_56 : GS), Jn_k_tLay_4 w_35 x_15 x_17 x_44 G_40 G_56 ∧ Wd D k A a G_56 H ∧ Bd G_56 ∧ Fr [33] [] G G_56 ∧ Fr [] [] G_40 G_56 ∧ va_S A s.heap H locs ∧ lv_has ls 11 [(10, .int x_44), (9, .int w_35), (8, .int x_15), (7, .int x_16), (0, .ref (a 8)), (1, .ref (a 7)), (3, .ref (a 33))]) (stJ := fun _ => []) ?_ (fun hJ_57 => ?_)
        · intro y H locs ls hI
          obtain ⟨G_56, hX_59, hW, hB_G_56, hF, hq_58, hS, hl⟩ := hI
          refine lv_aload_n hx hb dX10_layHeels_100 rfl (lv_at hl 6 rfl) ?_
          refine lv_iload hx hb dX10_layHeels_101 (lv_at hl 3 rfl) ?_
          obtain ⟨y_60, ey_60⟩ : ∃ q, q = x_16 + 1 := ⟨_, rfl⟩
          have ty_60 : y_60.toInt = x_16.toInt + 1 := xI_add rfl rfl ey_60 ((by first | exact ok_319 f_23.1 f_24 | omega)) ((by first | exact ok_40 f_21.2 | omega))
          refine lv_iinc (v := y_60) (lv' := [(7, .int y_60), (10, .int x_44), (9, .int w_35), (8, .int x_15), (0, .ref (a 8)), (1, .ref (a 7)), (3, .ref (a 33))]) hx hb dX10_layHeels_103 hl (k := 3) rfl (by rw [ey_60]; rfl) (lt_b rfl) rfl (fun ls hl => ?_)
          refine lv_iload hx hb dX10_layHeels_106 (lv_at hl 1 rfl) ?_
          refine S_iast hx hb hK hW hS kd_33 (vin ((by first | exact f_21.1 | omega)) ((by first | exact ok_54 f_21.2 c_27 | omega))) dX10_layHeels_108 (fun G_61 H locs eG_61 hW hS => ?_)
          have hB_G_61 : Bd G_61 := hB_G_56.put (lo := (-2147483648)) (hi := 2147483647) eG_61 rfl rfl rfl (tI_rng _).1 (tI_rng _).2 (hB_G_56.2.put eG_61 rfl)
          have hF := hF.put eG_61 (Or.inl (by decide))
          refine lv_iload hx hb dX10_layHeels_109 (lv_at hl 1 rfl) ?_
          refine lv_iload hx hb dX10_layHeels_111 (lv_at hl 2 rfl) ?_
          refine W.cut (σ := Int32) (pcJ := 121) (J := fun y H locs ls => ∃ (G_69 : GS), (0 ≤ y.toInt ∧ y.toInt ≤ 1) ∧ Jn_k_tLay_5 w_35 x_44 G_61 y G_69 ∧ Wd D k A a G_69 H ∧ Bd G_69 ∧ Fr [33] [] G G_69 ∧ Fr [] [] G_61 G_69 ∧ va_S A s.heap H locs ∧ lv_has ls 11 [(7, .int y_60), (10, .int x_44), (8, .int x_15), (0, .ref (a 8)), (1, .ref (a 7)), (3, .ref (a 33))]) (stJ := fun y => [.int y]) ?_ (fun hJ_70 => ?_)
          · intro y H locs ls hI
            obtain ⟨w_68, hy⟩ : ∃ q, q = y := ⟨_, rfl⟩
            subst hy
            obtain ⟨G_69, f_73, hX_72, hW, hB_G_69, hF, hq_71, hS, hl⟩ := hI
            refine lv_istore (lv' := [(6, .int w_68), (7, .int y_60), (10, .int x_44), (8, .int x_15), (0, .ref (a 8)), (1, .ref (a 7)), (3, .ref (a 33))]) hx hb dX10_layHeels_121 hl (lt_b rfl) rfl (fun ls hl => ?_)
            refine lv_iload hx hb dX10_layHeels_123 (lv_at hl 2 rfl) ?_
            refine lv_aload_n hx hb dX10_layHeels_125 rfl (lv_at hl 5 rfl) ?_
            refine S_getI (v := (G.1 7 3)) (C := RX0) (T := TX0) (N := 8) hx hb hg iX0 hown hK hW kd_7 rfl 3 (lt_b rfl) (hg (Cond.fieldLink RX10 61 "SlabWalk$Course" "least" "I") m378) (fun _ h9 => h9) rfl ((hq_71.i9 7 3 rfl rfl).trans ((gp_ne eG_61 (fun q => absurd q.1 (Nat.ne_of_beq_eq_false rfl))).trans ((hq_58.i9 7 3 rfl rfl).trans ((hq_41.i9 7 3 rfl rfl).trans ((hq_38.i9 7 3 rfl rfl).trans ((hq_12.i9 7 3 rfl rfl).trans ((hq_7.i9 7 3 rfl rfl).trans (rfl)))))))) dX10_layHeels_126 ?_
            refine lv_iadd hx hb dX10_layHeels_129 ?_
            refine lv_topi (fun y_74 ey_74 => ?_)
            have ty_74 : y_74.toInt = x_44.toInt + (G.1 7 3).toInt := xI_add rfl rfl ey_74 ((by first | exact ok_27 b_2.1 f_46.1 | omega)) ((by first | exact ok_320 b_2.2 f_46.2 | omega))
            refine lv_istore (lv' := [(4, .int y_74), (6, .int w_68), (7, .int y_60), (10, .int x_44), (8, .int x_15), (0, .ref (a 8)), (1, .ref (a 7)), (3, .ref (a 33))]) hx hb dX10_layHeels_130 hl (lt_b rfl) rfl (fun ls hl => ?_)
            refine lv_iload hx hb dX10_layHeels_132 (lv_at hl 3 rfl) ?_
            refine lv_iload hx hb dX10_layHeels_134 (lv_at hl 1 rfl) ?_
            refine lv_if_eq (tgt := 146) hx hb dX10_layHeels_136 rfl (fun c_75 => ?_) (fun c_75 => ?_)
            · have c_75 : w_68.toInt = 0 := xI_eq rfl rfl c_75
              refine lv_aload_n hx hb dX10_layHeels_146 rfl (lv_at hl 6 rfl) ?_
              have b_76 : 0 ≤ (G.1 7 5).toInt ∧ (G.1 7 5).toInt ≤ 99 := bd_7_5 hB_G
              refine S_getI (v := (G.1 7 5)) (C := RX0) (T := TX0) (N := 8) hx hb hg iX0 hown hK hW kd_7 rfl 5 (lt_b rfl) (hg (Cond.fieldLink RX10 71 "SlabWalk$Course" "leap" "I") m386) (fun _ h9 => h9) rfl ((hq_71.i9 7 5 rfl rfl).trans ((gp_ne eG_61 (fun q => absurd q.1 (Nat.ne_of_beq_eq_false rfl))).trans ((hq_58.i9 7 5 rfl rfl).trans ((hq_41.i9 7 5 rfl rfl).trans ((hq_38.i9 7 5 rfl rfl).trans ((hq_12.i9 7 5 rfl rfl).trans (hq_7.i9 7 5 rfl rfl))))))) dX10_layHeels_147 ?_
              refine lv_iadd hx hb dX10_layHeels_150 ?_
              refine lv_topi (fun y_77 ey_77 => ?_)
              have ty_77 : y_77.toInt = x_44.toInt + (G.1 7 5).toInt := xI_add rfl rfl ey_77 ((by first | exact ok_15 f_46.1 b_76.1 | omega)) ((by first | exact ok_321 f_46.2 b_76.2 | omega))
              refine lv_aload_n hx hb dX10_layHeels_151 rfl (lv_at hl 6 rfl) ?_
              refine S_getI (v := (G.1 7 6)) (C := RX0) (T := TX0) (N := 8) hx hb hg iX0 hown hK hW kd_7 rfl 6 (lt_b rfl) (hg (Cond.fieldLink RX10 34 "SlabWalk$Course" "last" "I") m388) (fun _ h9 => h9) rfl ((hq_71.i9 7 6 rfl rfl).trans ((gp_ne eG_61 (fun q => absurd q.1 (Nat.ne_of_beq_eq_false rfl))).trans ((hq_58.i9 7 6 rfl rfl).trans ((hq_41.i9 7 6 rfl rfl).trans ((hq_38.i9 7 6 rfl rfl).trans ((hq_12.i9 7 6 rfl rfl).trans ((hq_7.i9 7 6 rfl rfl).trans (rfl)))))))) dX10_layHeels_152 ?_
              refine va_mmin hx hb (by rw [hml]; exact hl.1.symm) hown (hg (Cond.methodLink RX10 49 Lib.Math.min.name) m1001) (hg (Cond.static Lib.Math.min.name) m636) (hg (Cond.initialized "java/lang/Math") m132) (hg (Cond.code Lib.Math.min.name Lib.Math.min.code 2 (some .int)) m637) (Nat.le_of_ble_eq_true rfl) (Nat.le_of_ble_eq_true rfl) (Nat.le_of_ble_eq_true rfl) (Nat.le_of_ble_eq_true rfl) dX10_layHeels_155 ?_
              refine lv_topi (fun y_78 ey_78 => ?_)
              have ty_78 := xI_min (X := y_77.toInt) (Y := (G.1 7 6).toInt) rfl rfl ey_78
              refine lv_istore (lv' := [(5, .int y_78), (4, .int y_74), (6, .int w_68), (7, .int y_60), (10, .int x_44), (8, .int x_15), (0, .ref (a 8)), (1, .ref (a 7)), (3, .ref (a 33))]) hx hb dX10_layHeels_158 hl (lt_b rfl) rfl (fun ls hl => ?_)
              obtain ⟨y_79, ey_79⟩ : ∃ q, q = x_15 + (-1) := ⟨_, rfl⟩
              have e_80 := tI_rng x_15
              have ty_79 : y_79.toInt = x_15.toInt + (-1) := xI_add rfl rfl ey_79 ((by first | exact ok_322 c_26 | omega)) ((by first | exact ok_323 e_80.2 | omega))
              refine lv_iinc (v := y_79) (lv' := [(8, .int y_79), (5, .int y_78), (4, .int y_74), (6, .int w_68), (7, .int y_60), (10, .int x_44), (0, .ref (a 8)), (1, .ref (a 7)), (3, .ref (a 33))]) hx hb dX10_layHeels_160 hl (k := 5) rfl (by rw [ey_79]; rfl) (lt_b rfl) rfl (fun ls hl => ?_)
              refine lv_goto (tgt := 18) hx hb dX10_layHeels_163 rfl ?_
              exact ih_13 (400 - y_60.toInt : Int).toNat ((by first | (clear b_1 b_3 b_4 f_10 hp_8 f_22 c_26 f_73 c_75 e_80 ty_79; omega) | omega)) _ _ _ ⟨G_69, y_79, y_60, y_78, y_74, (Int.toNat_of_nonneg ((by first | exact ok_324 f_21.2 c_27 ty_60 | omega))), ⟨(by first | (clear b_1 b_3 b_4 f_10 hp_8 hn_25 f_22 c_26 hn_48 f_73 c_75 e_80 ty_79; omega) | omega), (by first | exact ok_55 f_21.2 c_27 ty_60 | omega)⟩, ⟨(by first | exact ok_325 b_1.1 f_46.1 b_76.1 ty_77 ty_78 | omega), (by first | exact ok_326 hci.1 b_1.2 ty_78 | omega)⟩, ⟨(by first | exact ok_116 b_2.1 f_46.1 ty_74 | omega), (by first | (clear f_10 hn_25 f_22 f_23 c_26 hn_48 f_73 c_75 e_80 ty_79; omega) | omega)⟩, ((by first | exact ok_327 b_2.2 f_47 ty_60 ty_74 | omega)), (hX_19.st (St_k_tLay_1_mk ⟨x_15, x_16, x_17, x_18, G_11, y_79, y_60, y_78, y_74, G_69, rfl, rfl, f_21, f_22, f_23, f_24, hB_G_11, ⟨c_26, ⟨c_27, ⟨w_35, G_36, hX_39, hB_G_36, hq_38, ⟨x_44, G_40, hX_45, f_46, f_47, hB_G_40, hq_41, ⟨G_56, hX_59, hB_G_56, hq_58, ⟨y_60, ty_60, ⟨G_61, hB_G_61, (Fr.put (rs := [33]) (fs := []) Fr.rf eG_61 (Or.inl (by decide))), rw_ast eG_61, ⟨w_68, G_69, hX_72, f_73, hB_G_69, hq_71, ⟨y_74, ty_74, (Or.inl ⟨c_75, ⟨y_77, ty_77, ⟨y_78, ty_78, ⟨y_79, ty_79, ⟨rfl, rfl, rfl, rfl, rfl⟩⟩⟩⟩⟩)⟩⟩⟩⟩⟩⟩⟩⟩⟩⟩)), hW, hB_G_69, hF, (Fr.call9 (rs := [33]) (fs := []) (Fr.put (rs := [33]) (fs := []) (Fr.call9 (rs := [33]) (fs := []) (Fr.call9 (rs := [33]) (fs := []) (Fr.call9 (rs := [33]) (fs := []) (Fr.call9 (rs := [33]) (fs := []) Fr.rf hq_12 rfl rfl) hq_38 rfl rfl) hq_41 rfl rfl) hq_58 rfl rfl) eG_61 (Or.inl (by decide))) hq_71 rfl rfl), hS, lv_sub hl [0, 4, 1, 2, 6, 7, 8] rfl⟩
            · have c_75 : w_68.toInt ≠ 0 := xI_ne rfl rfl c_75
              refine lv_aload_n hx hb dX10_layHeels_139 rfl (lv_at hl 6 rfl) ?_
              refine S_getI (v := (G.1 7 4)) (C := RX0) (T := TX0) (N := 8) hx hb hg iX0 hown hK hW kd_7 rfl 4 (lt_b rfl) (hg (Cond.fieldLink RX10 64 "SlabWalk$Course" "most" "I") m383) (fun _ h9 => h9) rfl ((hq_71.i9 7 4 rfl rfl).trans ((gp_ne eG_61 (fun q => absurd q.1 (Nat.ne_of_beq_eq_false rfl))).trans ((hq_58.i9 7 4 rfl rfl).trans ((hq_41.i9 7 4 rfl rfl).trans ((hq_38.i9 7 4 rfl rfl).trans ((hq_12.i9 7 4 rfl rfl).trans ((hq_7.i9 7 4 rfl rfl).trans (rfl)))))))) dX10_layHeels_140 ?_
              refine lv_goto (tgt := 150) hx hb dX10_layHeels_143 rfl ?_
              refine lv_iadd hx hb dX10_layHeels_150 ?_
              refine lv_topi (fun y_81 ey_81 => ?_)
              have ty_81 : y_81.toInt = x_44.toInt + (G.1 7 4).toInt := xI_add rfl rfl ey_81 ((by first | exact ok_27 b_3.1 f_46.1 | omega)) ((by first | exact ok_320 b_3.2 f_46.2 | omega))
              refine lv_aload_n hx hb dX10_layHeels_151 rfl (lv_at hl 6 rfl) ?_
              refine S_getI (v := (G.1 7 6)) (C := RX0) (T := TX0) (N := 8) hx hb hg iX0 hown hK hW kd_7 rfl 6 (lt_b rfl) (hg (Cond.fieldLink RX10 34 "SlabWalk$Course" "last" "I") m388) (fun _ h9 => h9) rfl ((hq_71.i9 7 6 rfl rfl).trans ((gp_ne eG_61 (fun q => absurd q.1 (Nat.ne_of_beq_eq_false rfl))).trans ((hq_58.i9 7 6 rfl rfl).trans ((hq_41.i9 7 6 rfl rfl).trans ((hq_38.i9 7 6 rfl rfl).trans ((hq_12.i9 7 6 rfl rfl).trans ((hq_7.i9 7 6 rfl rfl).trans (rfl)))))))) dX10_layHeels_152 ?_
              refine va_mmin hx hb (by rw [hml]; exact hl.1.symm) hown (hg (Cond.methodLink RX10 49 Lib.Math.min.name) m1001) (hg (Cond.static Lib.Math.min.name) m636) (hg (Cond.initialized "java/lang/Math") m132) (hg (Cond.code Lib.Math.min.name Lib.Math.min.code 2 (some .int)) m637) (Nat.le_of_ble_eq_true rfl) (Nat.le_of_ble_eq_true rfl) (Nat.le_of_ble_eq_true rfl) (Nat.le_of_ble_eq_true rfl) dX10_layHeels_155 ?_
              refine lv_topi (fun y_82 ey_82 => ?_)
              have ty_82 := xI_min (X := y_81.toInt) (Y := (G.1 7 6).toInt) rfl rfl ey_82
              refine lv_istore (lv' := [(5, .int y_82), (4, .int y_74), (6, .int w_68), (7, .int y_60), (10, .int x_44), (8, .int x_15), (0, .ref (a 8)), (1, .ref (a 7)), (3, .ref (a 33))]) hx hb dX10_layHeels_158 hl (lt_b rfl) rfl (fun ls hl => ?_)
              obtain ⟨y_83, ey_83⟩ : ∃ q, q = x_15 + (-1) := ⟨_, rfl⟩
              have e_84 := tI_rng x_15
              have ty_83 : y_83.toInt = x_15.toInt + (-1) := xI_add rfl rfl ey_83 ((by first | exact ok_322 c_26 | omega)) ((by first | exact ok_323 e_84.2 | omega))
              refine lv_iinc (v := y_83) (lv' := [(8, .int y_83), (5, .int y_82), (4, .int y_74), (6, .int w_68), (7, .int y_60), (10, .int x_44), (0, .ref (a 8)), (1, .ref (a 7)), (3, .ref (a 33))]) hx hb dX10_layHeels_160 hl (k := 5) rfl (by rw [ey_83]; rfl) (lt_b rfl) rfl (fun ls hl => ?_)
              refine lv_goto (tgt := 18) hx hb dX10_layHeels_163 rfl ?_
              exact ih_13 (400 - y_60.toInt : Int).toNat ((by first | (clear b_1 b_4 f_10 hp_8 f_22 c_26 f_73 c_75 e_84 ty_83; omega) | omega)) _ _ _ ⟨G_69, y_83, y_60, y_82, y_74, (Int.toNat_of_nonneg ((by first | exact ok_324 f_21.2 c_27 ty_60 | omega))), ⟨(by first | (clear b_1 b_4 f_10 hp_8 hn_25 f_22 c_26 hn_48 f_73 c_75 e_84 ty_83; omega) | omega), (by first | exact ok_55 f_21.2 c_27 ty_60 | omega)⟩, ⟨(by first | exact ok_328 b_1.1 b_3.1 f_46.1 ty_81 ty_82 | omega), (by first | exact ok_326 hci.1 b_1.2 ty_82 | omega)⟩, ⟨(by first | exact ok_116 b_2.1 f_46.1 ty_74 | omega), (by first | (clear f_10 hn_25 f_22 f_23 c_26 hn_48 f_73 c_75 e_84 ty_83; omega) | omega)⟩, ((by first | exact ok_327 b_2.2 f_47 ty_60 ty_74 | omega)), (hX_19.st (St_k_tLay_1_mk ⟨x_15, x_16, x_17, x_18, G_11, y_83, y_60, y_82, y_74, G_69, rfl, rfl, f_21, f_22, f_23, f_24, hB_G_11, ⟨c_26, ⟨c_27, ⟨w_35, G_36, hX_39, hB_G_36, hq_38, ⟨x_44, G_40, hX_45, f_46, f_47, hB_G_40, hq_41, ⟨G_56, hX_59, hB_G_56, hq_58, ⟨y_60, ty_60, ⟨G_61, hB_G_61, (Fr.put (rs := [33]) (fs := []) Fr.rf eG_61 (Or.inl (by decide))), rw_ast eG_61, ⟨w_68, G_69, hX_72, f_73, hB_G_69, hq_71, ⟨y_74, ty_74, (Or.inr ⟨c_75, ⟨y_81, ty_81, ⟨y_82, ty_82, ⟨y_83, ty_83, ⟨rfl, rfl, rfl, rfl, rfl⟩⟩⟩⟩⟩)⟩⟩⟩⟩⟩⟩⟩⟩⟩⟩)), hW, hB_G_69, hF, (Fr.call9 (rs := [33]) (fs := []) (Fr.put (rs := [33]) (fs := []) (Fr.call9 (rs := [33]) (fs := []) (Fr.call9 (rs := [33]) (fs := []) (Fr.call9 (rs := [33]) (fs := []) (Fr.call9 (rs := [33]) (fs := []) Fr.rf hq_12 rfl rfl) hq_38 rfl rfl) hq_41 rfl rfl) hq_58 rfl rfl) eG_61 (Or.inl (by decide))) hq_71 rfl rfl), hS, lv_sub hl [0, 4, 1, 2, 6, 7, 8] rfl⟩
          refine lv_icmp_le (tgt := 120) hx hb dX10_layHeels_113 rfl (fun c_85 => ?_) (fun c_85 => ?_)
          · have c_85 : x_44.toInt ≤ w_35.toInt := xI_le rfl rfl c_85
            refine ic_0 hx hb dX10_layHeels_120 ?_
            have qc_86 : (0 : Int32).toInt = 0 := rfl
            exact hJ_70 0 _ _ _ ⟨G_61, ⟨(by decide), (by decide)⟩, (Jn_k_tLay_5_mk (Or.inl ⟨c_85, ⟨rfl, rfl⟩⟩)), hW, hB_G_61, hF, (Fr.rf (rs := []) (fs := [])), hS, lv_sub hl [0, 1, 3, 4, 5, 6] rfl⟩
          · have c_85 : w_35.toInt < x_44.toInt := xI_nle rfl rfl c_85
            refine ic_1 hx hb dX10_layHeels_116 ?_
            refine lv_goto (tgt := 121) hx hb dX10_layHeels_117 rfl ?_
            have qc_87 : (1 : Int32).toInt = 1 := rfl
            exact hJ_70 1 _ _ _ ⟨G_61, ⟨(by decide), (by decide)⟩, (Jn_k_tLay_5_mk (Or.inr ⟨c_85, ⟨rfl, rfl⟩⟩)), hW, hB_G_61, hF, (Fr.rf (rs := []) (fs := [])), hS, lv_sub hl [0, 1, 3, 4, 5, 6] rfl⟩
        refine lv_icmp_ge (tgt := 100) hx hb dX10_layHeels_61 rfl (fun c_88 => ?_) (fun c_88 => ?_)
        · have c_88 : x_17.toInt ≤ x_44.toInt := xI_le rfl rfl c_88
          exact hJ_57 () _ _ _ ⟨G_40, (Jn_k_tLay_4_mk (Or.inl ⟨c_88, rfl⟩)), hW, hB_G_40, hF, (Fr.rf (rs := []) (fs := [])), hS, lv_sub hl [0, 1, 2, 3, 5, 6, 7] rfl⟩
        · have c_88 : x_44.toInt < x_17.toInt := xI_nle rfl rfl c_88
          refine lv_aload_n hx hb dX10_layHeels_64 rfl (lv_at hl 5 rfl) ?_
          refine S_getR (n := 41) (C := RX10) (T := TX10) (N := 5) hx hb hg iX10 hown hK hW kd_8 rfl 0 (lt_b rfl) (hg (Cond.fieldLink RX10 13 "SlabWalk$Trails" "rows" "[[I") m440) (fun _ h9 => h9) rfl dX10_layHeels_65 ?_
          refine lv_iload hx hb dX10_layHeels_68 (lv_at hl 2 rfl) ?_
          refine lv_iload hx hb dX10_layHeels_70 (lv_at hl 0 rfl) ?_
          refine lv_iload hx hb dX10_layHeels_72 (lv_at hl 1 rfl) ?_
          refine W.cut (σ := Int32) (pcJ := 82) (J := fun y H locs ls => ∃ (G_100 : GS), (0 ≤ y.toInt ∧ y.toInt ≤ 1) ∧ Jn_k_tLay_6 w_35 x_44 G_40 y G_100 ∧ Wd D k A a G_100 H ∧ Bd G_100 ∧ Fr [33] [] G G_100 ∧ Fr [] [] G_40 G_100 ∧ va_S A s.heap H locs ∧ lv_has ls 11 [(10, .int x_44), (9, .int w_35), (8, .int x_15), (7, .int x_16), (5, .int x_17), (0, .ref (a 8)), (1, .ref (a 7)), (3, .ref (a 33))]) (stJ := fun y => [.int y, .int x_15, .ref (a 41)]) ?_ (fun hJ_101 => ?_)
          · intro y H locs ls hI
            obtain ⟨w_97, hy⟩ : ∃ q, q = y := ⟨_, rfl⟩
            subst hy
            obtain ⟨G_100, f_104, hX_103, hW, hB_G_100, hF, hq_102, hS, hl⟩ := hI
            refine S_calli (va_runS (As := [.int x_15, .int w_97]) (rest := [.ref (a 41)]) ⟨hx, hb, hml, hown, hts⟩ (k_tRow l D k A a z G_100 x_15 w_97 ) (va_cwS 2 hts (gd_S hgd m1011 m1012 m124 m1013) rfl rfl rfl hd_X10_rowOf.2 ⟨Nat.le_of_ble_eq_true rfl, Nat.le_of_ble_eq_true rfl⟩) (pre_S hW hB_G_100 hK hZ hS) rfl rfl hl.1 rfl (lv_room (Nat.le_of_ble_eq_true rfl)) dX10_layHeels_82 ⟨Nat.le_of_ble_eq_true rfl, Nat.le_of_ble_eq_true rfl⟩) hS (fun r_105 G_106 H locs hpo hW hS => ?_)
            have hX_109 : P_tRow x_15 w_97 G_100 r_105 G_106 := hpo
            obtain ⟨hB_G_106, hq_107, f_110, -⟩ := hpo
            have hF := hF.call9 hq_107 rfl rfl
            refine S_aald hx hb hK hW kd_41 (vin ((by first | exact f_110.1 | omega)) ((by first | exact ok_175 f_110.2 | omega))) dX10_layHeels_85 ?_
            obtain ⟨w_111, ew_111, hk_w_111, hq_w_111, hw_w_111⟩ := rows_w hB_G_106 (x := r_105) (by first | (clear hci b_1 b_2 b_3 b_4 f_10 hp_8 hn_25 f_21 f_22 f_23 f_24 c_26 c_27 hn_48 f_46 f_47 c_88 f_104; omega) | omega) (by first | (clear hci b_1 b_2 b_3 b_4 f_10 hp_8 hn_25 f_21 f_22 f_23 f_24 c_26 c_27 hn_48 f_46 f_47 c_88 f_104; omega) | omega)
            refine rows_at ew_111 ?_
            refine lv_iload hx hb dX10_layHeels_86 (lv_at hl 0 rfl) ?_
            refine S_iald hx hb hK hW hk_w_111 (vin ((by first | exact f_46.1 | omega)) ((by first | (clear hci b_1 b_2 b_3 b_4 f_10 hp_8 hn_25 f_23 c_26 hn_48 f_104 f_110; omega) | omega))) dX10_layHeels_88 (fun y_112 ey_112 => ?_)
            refine lv_iload hx hb dX10_layHeels_89 (lv_at hl 2 rfl) ?_
            refine lv_icmp_eq (tgt := 100) hx hb dX10_layHeels_91 rfl (fun c_113 => ?_) (fun c_113 => ?_)
            · have c_113 : y_112.toInt = x_15.toInt := xI_eq rfl rfl c_113
              exact hJ_57 () _ _ _ ⟨G_106, (Jn_k_tLay_4_mk (Or.inr ⟨c_88, ⟨w_97, G_100, hX_103, f_104, hB_G_100, hq_102, ⟨r_105, G_106, hX_109, ⟨w_111, hw_w_111, ⟨y_112, ey_112, ⟨c_113, rfl⟩⟩⟩⟩⟩⟩)), hW, hB_G_106, hF, (Fr.call9 (rs := []) (fs := []) (Fr.call9 (rs := []) (fs := []) Fr.rf hq_102 rfl rfl) hq_107 rfl rfl), hS, lv_sub hl [0, 1, 2, 3, 5, 6, 7] rfl⟩
            · have c_113 : y_112.toInt ≠ x_15.toInt := xI_ne rfl rfl c_113
              obtain ⟨y_114, ey_114⟩ : ∃ q, q = x_44 + 1 := ⟨_, rfl⟩
              have ty_114 : y_114.toInt = x_44.toInt + 1 := xI_add rfl rfl ey_114 ((by first | exact ok_21 f_46.1 | omega)) ((by first | exact ok_329 f_46.2 | omega))
              refine lv_iinc (v := y_114) (lv' := [(10, .int y_114), (9, .int w_35), (8, .int x_15), (7, .int x_16), (5, .int x_17), (0, .ref (a 8)), (1, .ref (a 7)), (3, .ref (a 33))]) hx hb dX10_layHeels_94 hl (k := 0) rfl (by rw [ey_114]; rfl) (lt_b rfl) rfl (fun ls hl => ?_)
              refine lv_goto (tgt := 57) hx hb dX10_layHeels_97 rfl ?_
              exact ih_42 (24400 - y_114.toInt : Int).toNat ((by first | (clear hci b_1 b_2 b_3 b_4 f_10 hp_8 f_23 c_26 f_104 f_110 c_113; omega) | omega)) _ _ _ ⟨G_106, y_114, (Int.toNat_of_nonneg ((by first | (clear hci b_1 b_2 b_3 b_4 f_10 hp_8 hn_25 f_23 c_26 hn_48 f_104 f_110 c_113; omega) | omega))), ⟨(by first | exact ok_23 f_46.1 ty_114 | omega), (by first | (clear hci b_1 b_2 b_3 b_4 f_10 hp_8 hn_25 f_23 c_26 hn_48 f_104 f_110 c_113; omega) | omega)⟩, ((by first | exact ok_330 f_21.1 f_22.2 f_47 c_88 ty_114 | omega)), (hX_45.st (St_k_tLay_3_mk ⟨x_44, G_40, y_114, G_106, rfl, rfl, f_46, f_47, hB_G_40, ⟨c_88, ⟨w_97, G_100, hX_103, f_104, hB_G_100, hq_102, ⟨r_105, G_106, hX_109, ⟨w_111, hw_w_111, ⟨y_112, ey_112, ⟨c_113, ⟨y_114, ty_114, ⟨rfl, rfl⟩⟩⟩⟩⟩⟩⟩⟩⟩)), hW, hB_G_106, hF, (Fr.call9 (rs := []) (fs := []) (Fr.call9 (rs := []) (fs := []) (Fr.call9 (rs := []) (fs := []) Fr.rf hq_41 rfl rfl) hq_102 rfl rfl) hq_107 rfl rfl), hS, lv_sub hl [0, 1, 2, 3, 4, 5, 6, 7] rfl⟩
          refine lv_icmp_le (tgt := 81) hx hb dX10_layHeels_74 rfl (fun c_115 => ?_) (fun c_115 => ?_)
          · have c_115 : x_44.toInt ≤ w_35.toInt := xI_le rfl rfl c_115
            refine ic_0 hx hb dX10_layHeels_81 ?_
            have qc_116 : (0 : Int32).toInt = 0 := rfl
            exact hJ_101 0 _ _ _ ⟨G_40, ⟨(by decide), (by decide)⟩, (Jn_k_tLay_6_mk (Or.inl ⟨c_115, ⟨rfl, rfl⟩⟩)), hW, hB_G_40, hF, (Fr.rf (rs := []) (fs := [])), hS, lv_sub hl [0, 1, 2, 3, 4, 5, 6, 7] rfl⟩
          · have c_115 : w_35.toInt < x_44.toInt := xI_nle rfl rfl c_115
            refine ic_1 hx hb dX10_layHeels_77 ?_
            refine lv_goto (tgt := 82) hx hb dX10_layHeels_78 rfl ?_
            have qc_117 : (1 : Int32).toInt = 1 := rfl
            exact hJ_101 1 _ _ _ ⟨G_40, ⟨(by decide), (by decide)⟩, (Jn_k_tLay_6_mk (Or.inr ⟨c_115, ⟨rfl, rfl⟩⟩)), hW, hB_G_40, hF, (Fr.rf (rs := []) (fs := [])), hS, lv_sub hl [0, 1, 2, 3, 4, 5, 6, 7] rfl⟩
      refine lv_if_ne (tgt := 40) hx hb dX10_layHeels_32 rfl (fun c_118 => ?_) (fun c_118 => ?_)
      · have c_118 : x_16.toInt ≠ 0 := xI_ne rfl rfl c_118
        refine lv_aload_n hx hb dX10_layHeels_40 rfl (lv_at hl 6 rfl) ?_
        refine lv_iload hx hb dX10_layHeels_41 (lv_at hl 1 rfl) ?_
        refine ic_1 hx hb dX10_layHeels_43 ?_
        refine lv_isub hx hb dX10_layHeels_44 ?_
        refine lv_topi (fun y_119 ey_119 => ?_)
        have ty_119 : y_119.toInt = x_16.toInt - 1 := xI_sub rfl rfl ey_119 ((by first | exact ok_331 f_23.1 f_24 | omega)) ((by first | exact ok_57 f_21.2 | omega))
        refine S_iald hx hb hK hW kd_33 (vin ((by first | (clear hci b_1 b_2 b_3 b_4 f_10 hp_8 hn_25 f_22 c_26; omega) | omega)) ((by first | exact ok_59 f_21.2 ty_119 | omega))) dX10_layHeels_45 (fun y_120 ey_120 => ?_)
        refine lv_aload_n hx hb dX10_layHeels_46 rfl (lv_at hl 5 rfl) ?_
        refine S_getI (v := (G.1 7 4)) (C := RX0) (T := TX0) (N := 8) hx hb hg iX0 hown hK hW kd_7 rfl 4 (lt_b rfl) (hg (Cond.fieldLink RX10 64 "SlabWalk$Course" "most" "I") m383) (fun _ h9 => h9) rfl ((hq_12.i9 7 4 rfl rfl).trans ((hq_7.i9 7 4 rfl rfl).trans (rfl))) dX10_layHeels_47 ?_
        refine lv_iadd hx hb dX10_layHeels_50 ?_
        refine lv_topi (fun y_121 ey_121 => ?_)
        exact hJ_37 y_121 _ _ _ ⟨G_11, (Jn_k_tLay_2_mk (Or.inr ⟨c_118, ⟨y_119, ty_119, ⟨y_120, ey_120, ⟨y_121, ey_121, ⟨rfl, rfl⟩⟩⟩⟩⟩)), hW, hB_G_11, hF, (Fr.rf (rs := []) (fs := [])), hS, lv_sub hl [0, 1, 2, 3, 4, 5, 6] rfl⟩
      · have c_118 : x_16.toInt = 0 := xI_eq rfl rfl c_118
        refine lv_ldc (v := 1000000) hx hb hown (hg (Cond.constant RX10 44 1000000) m997) dX10_layHeels_35 ?_
        refine lv_goto (tgt := 51) hx hb dX10_layHeels_37 rfl ?_
        have qc_122 : (1000000 : Int32).toInt = 1000000 := rfl
        exact hJ_37 1000000 _ _ _ ⟨G_11, (Jn_k_tLay_2_mk (Or.inl ⟨c_118, ⟨rfl, rfl⟩⟩)), hW, hB_G_11, hF, (Fr.rf (rs := []) (fs := [])), hS, lv_sub hl [0, 1, 2, 3, 4, 5, 6] rfl⟩

set_option maxHeartbeats 4000000 in
set_option maxRecDepth 100000 in
theorem k_tThere (l : Launch) (D : va_G) (k : KT) (A : Nat → Prop) (a : Nat → Nat) (z : SK) (G : GS)  (hci : (G.1 7 6).toInt ≤ 399 ∧ (G.1 7 3).toInt ≤ (G.1 7 4).toInt ∧ ((G.1 7 7).toInt ≤ 0 ∨ (G.1 7 7).toInt + (G.1 7 4).toInt ≤ (G.1 7 6).toInt + 1)) : Met l yX10_isThereWay (WS yX10_isThereWay cX10_isThereWay 8 (some .boolean)) ({ frames := 0, cells := 0, slots := 0, locals := 0 }) (va_Pc [.ref (a 8), .ref (a 7)] (cW D k A a z G)) (va_Qi (fun (r : Int32) (G1 : GS) => P_tThere G r G1) (fun (G1 : GS) t => Wd D k A a G1 t.heap) A) 0 0 A := by
  refine Met.ofW (cc := cX10_isThereWay) (maxL := 8) (ret := (some .boolean)) (by decide) rfl ?_
  intro p e s m args below meth c s₁ B hml hv
  obtain ⟨rfl, hW, hB_G, hK, hZ⟩ := hv
  have hx := B.exec
  have hb := B.bytes
  have hr := B.returns
  have hts := atoms_spec (ws := WS yX10_isThereWay cX10_isThereWay 8 (some .boolean)) B.pre
  have hgd : ∀ w ∈ gd, w ∈ WS yX10_isThereWay cX10_isThereWay 8 (some .boolean) := fun w h => List.mem_cons_of_mem _ h
  have hg : ∀ w ∈ gd, w.before _ s = true := fun w h => hts w (hgd w h)
  have hown : s.vm.findClass RX10 = some m.cls := findClass_of_methodNamed B.named
  have hS : va_S A s.heap s.heap [] := va_S.rf
  have hF : Fr [42, 43] [] G G := Fr.rf
  have hl := lv_entry ([.ref (a 8), .ref (a 7)]) (n := 8) (Nat.le_of_ble_eq_true rfl)
  rw [lg_entry_eq]
  generalize (lg_sl ([.ref (a 8), .ref (a 7)]) ++ List.replicate (8 - (lg_sl ([.ref (a 8), .ref (a 7)])).length) Slot.unset).toArray = ls at hl ⊢
  have hl : lv_has ls 8 [(0, .ref (a 8)), (1, .ref (a 7))] := hl
  have b_1 : (-1) ≤ (G.1 7 6).toInt ∧ (G.1 7 6).toInt ≤ 400 := bd_7_6 hB_G
  refine lv_aload_n hx hb dX10_isThereWay_0 rfl (lv_at hl 0 rfl) ?_
  refine S_getR (n := 41) (C := RX10) (T := TX10) (N := 5) hx hb hg iX10 hown hK hW kd_8 rfl 0 (lt_b rfl) (hg (Cond.fieldLink RX10 13 "SlabWalk$Trails" "rows" "[[I") m440) (fun _ h9 => h9) rfl dX10_isThereWay_1 ?_
  refine ic_0 hx hb dX10_isThereWay_4 ?_
  refine S_aald hx hb hK hW kd_41 (vin (by decide) (by decide)) dX10_isThereWay_5 ?_
  refine rows_at (n := 42) (rows_c hB_G 0 (by decide)) ?_
  refine lv_astore_n (lv' := [(2, .ref (a 42)), (0, .ref (a 8)), (1, .ref (a 7))]) hx hb dX10_isThereWay_6 rfl hl (lt_b rfl) rfl (fun ls hl => ?_)
  refine lv_aload_n hx hb dX10_isThereWay_7 rfl (lv_at hl 1 rfl) ?_
  refine S_getR (n := 41) (C := RX10) (T := TX10) (N := 5) hx hb hg iX10 hown hK hW kd_8 rfl 0 (lt_b rfl) (hg (Cond.fieldLink RX10 13 "SlabWalk$Trails" "rows" "[[I") m440) (fun _ h9 => h9) rfl dX10_isThereWay_8 ?_
  refine ic_1 hx hb dX10_isThereWay_11 ?_
  refine S_aald hx hb hK hW kd_41 (vin (by decide) (by decide)) dX10_isThereWay_12 ?_
  refine rows_at (n := 43) (rows_c hB_G 1 (by decide)) ?_
  refine lv_astore_n (lv' := [(3, .ref (a 43)), (2, .ref (a 42)), (0, .ref (a 8)), (1, .ref (a 7))]) hx hb dX10_isThereWay_13 rfl hl (lt_b rfl) rfl (fun ls hl => ?_)
  refine lv_aload_n hx hb dX10_isThereWay_14 rfl (lv_at hl 1 rfl) ?_
  refine lv_aload_n hx hb dX10_isThereWay_15 rfl (lv_at hl 3 rfl) ?_
  refine S_getI (v := (G.1 7 6)) (C := RX0) (T := TX0) (N := 8) hx hb hg iX0 hown hK hW kd_7 rfl 6 (lt_b rfl) (hg (Cond.fieldLink RX10 34 "SlabWalk$Course" "last" "I") m388) (fun _ h9 => h9) rfl rfl dX10_isThereWay_16 ?_
  refine ic_1 hx hb dX10_isThereWay_19 ?_
  refine lv_iadd hx hb dX10_isThereWay_20 ?_
  refine lv_topi (fun y_2 ey_2 => ?_)
  have ty_2 : y_2.toInt = (G.1 7 6).toInt + 1 := xI_add rfl rfl ey_2 ((by first | exact ok_263 b_1.1 | omega)) ((by first | exact ok_264 hci.1 | omega))
  refine lv_ldc (v := 1000000) hx hb hown (hg (Cond.constant RX10 44 1000000) m997) dX10_isThereWay_21 ?_
  refine S_iast hx hb hK hW hS kd_42 (vin ((by first | exact ok_266 b_1.1 ty_2 | omega)) ((by first | exact ok_332 hci.1 ty_2 | omega))) dX10_isThereWay_23 (fun G_3 H locs eG_3 hW hS => ?_)
  have hB_G_3 : Bd G_3 := hB_G.put (lo := (-2147483648)) (hi := 2147483647) eG_3 rfl rfl rfl (tI_rng _).1 (tI_rng _).2 (hB_G.2.put eG_3 rfl)
  have hF := hF.put eG_3 (Or.inl (by decide))
  refine lv_aload_n hx hb dX10_isThereWay_24 rfl (lv_at hl 0 rfl) ?_
  refine lv_aload_n hx hb dX10_isThereWay_25 rfl (lv_at hl 3 rfl) ?_
  refine S_getI (v := (G.1 7 6)) (C := RX0) (T := TX0) (N := 8) hx hb hg iX0 hown hK hW kd_7 rfl 6 (lt_b rfl) (hg (Cond.fieldLink RX10 34 "SlabWalk$Course" "last" "I") m388) (fun _ h9 => h9) rfl ((gp_ne eG_3 (fun q => absurd q.1 (Nat.ne_of_beq_eq_false rfl))).trans (rfl)) dX10_isThereWay_26 ?_
  refine ic_1 hx hb dX10_isThereWay_29 ?_
  refine lv_iadd hx hb dX10_isThereWay_30 ?_
  refine lv_topi (fun y_4 ey_4 => ?_)
  have ty_4 : y_4.toInt = (G.1 7 6).toInt + 1 := xI_add rfl rfl ey_4 ((by first | exact ok_263 b_1.1 | omega)) ((by first | exact ok_264 hci.1 | omega))
  refine lv_ldc (v := 1000000) hx hb hown (hg (Cond.constant RX10 44 1000000) m997) dX10_isThereWay_31 ?_
  refine S_iast hx hb hK hW hS kd_43 (vin ((by first | exact ok_266 b_1.1 ty_4 | omega)) ((by first | exact ok_332 hci.1 ty_4 | omega))) dX10_isThereWay_33 (fun G_5 H locs eG_5 hW hS => ?_)
  have hB_G_5 : Bd G_5 := hB_G_3.put (lo := (-2147483648)) (hi := 2147483647) eG_5 rfl rfl rfl (tI_rng _).1 (tI_rng _).2 (hB_G_3.2.put eG_5 rfl)
  have hF := hF.put eG_5 (Or.inl (by decide))
  refine lv_aload_n hx hb dX10_isThereWay_34 rfl (lv_at hl 3 rfl) ?_
  refine S_getI (v := (G.1 7 6)) (C := RX0) (T := TX0) (N := 8) hx hb hg iX0 hown hK hW kd_7 rfl 6 (lt_b rfl) (hg (Cond.fieldLink RX10 34 "SlabWalk$Course" "last" "I") m388) (fun _ h9 => h9) rfl ((gp_ne eG_5 (fun q => absurd q.1 (Nat.ne_of_beq_eq_false rfl))).trans ((gp_ne eG_3 (fun q => absurd q.1 (Nat.ne_of_beq_eq_false rfl))).trans (rfl))) dX10_isThereWay_35 ?_
  refine lv_istore (lv' := [(4, .int (G.1 7 6)), (3, .ref (a 43)), (2, .ref (a 42)), (0, .ref (a 8)), (1, .ref (a 7))]) hx hb dX10_isThereWay_38 hl (lt_b rfl) rfl (fun ls hl => ?_)
  refine loop_N (Inv := fun n H locs ls => ∃ (G_6 : GS) (x_10 : Int32), (n : Int) = x_10.toInt - (-1) ∧ ((-1) ≤ x_10.toInt ∧ x_10.toInt ≤ 399) ∧ Rc (St_k_tThere_1 G) ((G.1 7 6), G_5) (x_10, G_6) ∧ Wd D k A a G_6 H ∧ Bd G_6 ∧ Fr [42, 43] [] G G_6 ∧ Fr [42, 43] [] G_5 G_6 ∧ va_S A s.heap H locs ∧ lv_has ls 8 [(4, .int x_10), (3, .ref (a 43)), (2, .ref (a 42)), (1, .ref (a 7))]) (fun n_9 H locs ls ih_8 hI => ?_) ((G.1 7 6).toInt - (-1) : Int).toNat ⟨G_5, (G.1 7 6), (Int.toNat_of_nonneg ((by first | exact ok_314 b_1.1 | omega))), ⟨(by first | exact b_1.1 | omega), (by first | exact hci.1 | omega)⟩, Rc.rf, hW, hB_G_5, hF, Fr.rf, hS, lv_sub hl [0, 1, 2, 4] rfl⟩
  obtain ⟨G_6, x_10, hn_13, f_12, hX_11, hW, hB_G_6, hF, hq_7, hS, hl⟩ := hI
  refine lv_iload hx hb dX10_isThereWay_40 (lv_at hl 0 rfl) ?_
  refine lv_if_lt (tgt := 191) hx hb dX10_isThereWay_42 rfl (fun c_14 => ?_) (fun c_14 => ?_)
  · have c_14 : x_10.toInt < 0 := xI_lt rfl rfl c_14
    refine lv_aload_n hx hb dX10_isThereWay_191 rfl (lv_at hl 2 rfl) ?_
    refine ic_0 hx hb dX10_isThereWay_192 ?_
    refine S_iald hx hb hK hW kd_42 (vin (by decide) (by decide)) dX10_isThereWay_193 (fun y_15 ey_15 => ?_)
    refine lv_aload_n hx hb dX10_isThereWay_194 rfl (lv_at hl 3 rfl) ?_
    have b_16 : 0 ≤ (G.1 7 4).toInt ∧ (G.1 7 4).toInt ≤ 60 := bd_7_4 hB_G
    refine S_getI (v := (G.1 7 4)) (C := RX0) (T := TX0) (N := 8) hx hb hg iX0 hown hK hW kd_7 rfl 4 (lt_b rfl) (hg (Cond.fieldLink RX10 64 "SlabWalk$Course" "most" "I") m383) (fun _ h9 => h9) rfl ((hq_7.i9 7 4 rfl rfl).trans ((gp_ne eG_5 (fun q => absurd q.1 (Nat.ne_of_beq_eq_false rfl))).trans (gp_ne eG_3 (fun q => absurd q.1 (Nat.ne_of_beq_eq_false rfl))))) dX10_isThereWay_195 ?_
    refine lv_icmp_ge (tgt := 205) hx hb dX10_isThereWay_198 rfl (fun c_17 => ?_) (fun c_17 => ?_)
    · have c_17 : (G.1 7 4).toInt ≤ y_15.toInt := xI_le rfl rfl c_17
      refine ic_0 hx hb dX10_isThereWay_205 ?_
      exact W.zret (v := 0) hx hb hr (by decide) (fun t ht _ => ⟨⟨0, G_6, rfl, (P_tThere_mk ⟨hB_G_6, hF, ⟨by decide, by decide⟩, ⟨y_2, ty_2, ⟨y_4, ty_4, ⟨G_5, hB_G_5, (Fr.put (rs := [42, 43]) (fs := []) (Fr.put (rs := [42, 43]) (fs := []) Fr.rf eG_3 (Or.inl (by decide))) eG_5 (Or.inl (by decide))), (rw_put eG_5 (by decide)).trans (rw_ast eG_3), (rw_ast eG_5).trans (congrArg (fun q => upd q (y_4.toNatClampNeg) 1000000) (rw_put eG_3 (by decide))), ⟨x_10, G_6, hX_11, f_12, hB_G_6, hq_7, ⟨c_14, ⟨y_15, ey_15, (Or.inl ⟨c_17, ⟨rfl, rfl⟩⟩)⟩⟩⟩⟩⟩⟩⟩), wd_t ht hW⟩, hS.F ht⟩) hS.2.2 dX10_isThereWay_206
    · have c_17 : y_15.toInt < (G.1 7 4).toInt := xI_nle rfl rfl c_17
      refine ic_1 hx hb dX10_isThereWay_201 ?_
      refine lv_goto (tgt := 206) hx hb dX10_isThereWay_202 rfl ?_
      exact W.zret (v := 1) hx hb hr (by decide) (fun t ht _ => ⟨⟨1, G_6, rfl, (P_tThere_mk ⟨hB_G_6, hF, ⟨by decide, by decide⟩, ⟨y_2, ty_2, ⟨y_4, ty_4, ⟨G_5, hB_G_5, (Fr.put (rs := [42, 43]) (fs := []) (Fr.put (rs := [42, 43]) (fs := []) Fr.rf eG_3 (Or.inl (by decide))) eG_5 (Or.inl (by decide))), (rw_put eG_5 (by decide)).trans (rw_ast eG_3), (rw_ast eG_5).trans (congrArg (fun q => upd q (y_4.toNatClampNeg) 1000000) (rw_put eG_3 (by decide))), ⟨x_10, G_6, hX_11, f_12, hB_G_6, hq_7, ⟨c_14, ⟨y_15, ey_15, (Or.inr ⟨c_17, ⟨rfl, rfl⟩⟩)⟩⟩⟩⟩⟩⟩⟩), wd_t ht hW⟩, hS.F ht⟩) hS.2.2 dX10_isThereWay_206
  · have c_14 : 0 ≤ x_10.toInt := xI_nlt rfl rfl c_14
    refine lv_iload hx hb dX10_isThereWay_45 (lv_at hl 0 rfl) ?_
    refine lv_aload_n hx hb dX10_isThereWay_47 rfl (lv_at hl 3 rfl) ?_
    have b_18 : 0 ≤ (G.1 7 7).toInt ∧ (G.1 7 7).toInt ≤ 400 := bd_7_7 hB_G
    refine S_getI (v := (G.1 7 7)) (C := RX0) (T := TX0) (N := 8) hx hb hg iX0 hown hK hW kd_7 rfl 7 (lt_b rfl) (hg (Cond.fieldLink RX10 58 "SlabWalk$Course" "end" "I") m394) (fun _ h9 => h9) rfl ((hq_7.i9 7 7 rfl rfl).trans ((gp_ne eG_5 (fun q => absurd q.1 (Nat.ne_of_beq_eq_false rfl))).trans (gp_ne eG_3 (fun q => absurd q.1 (Nat.ne_of_beq_eq_false rfl))))) dX10_isThereWay_48 ?_
    refine W.cut (σ := Int32) (pcJ := 59) (J := fun y H locs ls => ∃ (G_24 : GS), (0 ≤ y.toInt ∧ y.toInt ≤ 1) ∧ (y.toInt = 1 ∨ x_10.toInt < (G.1 7 7).toInt) ∧ Jn_k_tThere_2 x_10 G G_6 y G_24 ∧ Wd D k A a G_24 H ∧ Bd G_24 ∧ Fr [42, 43] [] G G_24 ∧ Fr [] [] G_6 G_24 ∧ va_S A s.heap H locs ∧ lv_has ls 8 [(4, .int x_10), (3, .ref (a 43)), (2, .ref (a 42)), (1, .ref (a 7))]) (stJ := fun y => [.int y]) ?_ (fun hJ_25 => ?_)
    · intro y H locs ls hI
      obtain ⟨w_23, hy⟩ : ∃ q, q = y := ⟨_, rfl⟩
      subst hy
      obtain ⟨G_24, f_28, f_29, hX_27, hW, hB_G_24, hF, hq_26, hS, hl⟩ := hI
      refine lv_istore (lv' := [(5, .int w_23), (4, .int x_10), (3, .ref (a 43)), (2, .ref (a 42)), (1, .ref (a 7))]) hx hb dX10_isThereWay_59 hl (lt_b rfl) rfl (fun ls hl => ?_)
      refine lv_iload hx hb dX10_isThereWay_61 (lv_at hl 0 rfl) ?_
      refine W.cut (σ := Unit) (pcJ := 85) (J := fun y H locs ls => ∃ (G_34 : GS), Jn_k_tThere_3 w_23 x_10 G G_24 G_34 ∧ Wd D k A a G_34 H ∧ Bd G_34 ∧ Fr [42, 43] [] G G_34 ∧ Fr [] [] G_24 G_34 ∧ va_S A s.heap H locs ∧ lv_has ls 8 [(4, .int x_10), (3, .ref (a 43)), (2, .ref (a 42)), (1, .ref (a 7))]) (stJ := fun _ => []) ?_ (fun hJ_35 => ?_)
      · intro y H locs ls hI
        obtain ⟨G_34, hX_37, hW, hB_G_34, hF, hq_36, hS, hl⟩ := hI
        refine ic_1 hx hb dX10_isThereWay_85 ?_
        refine lv_goto (tgt := 90) hx hb dX10_isThereWay_86 rfl ?_
        refine lv_istore (lv' := [(6, .int 1), (4, .int x_10), (3, .ref (a 43)), (2, .ref (a 42)), (1, .ref (a 7))]) hx hb dX10_isThereWay_90 hl (lt_b rfl) rfl (fun ls hl => ?_)
        refine lv_iload hx hb dX10_isThereWay_92 (lv_at hl 0 rfl) ?_
        refine lv_if_ne (tgt := 118) hx hb dX10_isThereWay_94 rfl (fun c_38 => ?_) (fun c_38 => ?_)
        · have c_38 : (1 : Int) ≠ (0 : Int) := xI_ne rfl rfl c_38
          refine ic_1 hx hb dX10_isThereWay_118 ?_
          refine lv_goto (tgt := 123) hx hb dX10_isThereWay_119 rfl ?_
          refine lv_istore (lv' := [(7, .int 1), (6, .int 1), (4, .int x_10), (3, .ref (a 43)), (2, .ref (a 42)), (1, .ref (a 7))]) hx hb dX10_isThereWay_123 hl (lt_b rfl) rfl (fun ls hl => ?_)
          refine lv_aload_n hx hb dX10_isThereWay_125 rfl (lv_at hl 3 rfl) ?_
          refine lv_iload hx hb dX10_isThereWay_126 (lv_at hl 2 rfl) ?_
          refine lv_aload_n hx hb dX10_isThereWay_128 rfl (lv_at hl 5 rfl) ?_
          refine S_getR (n := 40) (C := RX0) (T := TX0) (N := 8) hx hb hg iX0 hown hK hW kd_7 rfl 0 (lt_b rfl) (hg (Cond.fieldLink RX10 55 "SlabWalk$Course" "lawful" "[Z") m373) (fun _ h9 => h9) rfl dX10_isThereWay_129 ?_
          refine lv_iload hx hb dX10_isThereWay_132 (lv_at hl 2 rfl) ?_
          refine S_zald hx hb hK hW kd_40 (vin ((by first | exact c_14 | omega)) ((by first | exact ok_189 f_12.2 | omega))) dX10_isThereWay_134 (fun y_39 ey_39 => ?_)
          have ty_39 : 0 ≤ y_39.toInt ∧ y_39.toInt ≤ 1 := bv_40 hB_G_34 ey_39
          refine lv_if_eq (tgt := 148) hx hb dX10_isThereWay_135 rfl (fun c_40 => ?_) (fun c_40 => ?_)
          · have c_40 : y_39.toInt = 0 := xI_eq rfl rfl c_40
            refine lv_aload_n hx hb dX10_isThereWay_148 rfl (lv_at hl 3 rfl) ?_
            refine lv_iload hx hb dX10_isThereWay_149 (lv_at hl 2 rfl) ?_
            refine ic_1 hx hb dX10_isThereWay_151 ?_
            refine lv_iadd hx hb dX10_isThereWay_152 ?_
            refine lv_topi (fun y_41 ey_41 => ?_)
            have ty_41 : y_41.toInt = x_10.toInt + 1 := xI_add rfl rfl ey_41 ((by first | exact ok_21 c_14 | omega)) ((by first | exact ok_264 f_12.2 | omega))
            refine S_iald hx hb hK hW kd_43 (vin ((by first | exact ok_23 c_14 ty_41 | omega)) ((by first | exact ok_332 f_12.2 ty_41 | omega))) dX10_isThereWay_153 (fun y_42 ey_42 => ?_)
            refine S_iast hx hb hK hW hS kd_43 (vin ((by first | exact c_14 | omega)) ((by first | exact ok_304 f_12.2 | omega))) dX10_isThereWay_154 (fun G_43 H locs eG_43 hW hS => ?_)
            have hB_G_43 : Bd G_43 := hB_G_34.put (lo := (-2147483648)) (hi := 2147483647) eG_43 rfl rfl rfl (tI_rng _).1 (tI_rng _).2 (hB_G_34.2.put eG_43 rfl)
            have hF := hF.put eG_43 (Or.inl (by decide))
            refine lv_aload_n hx hb dX10_isThereWay_155 rfl (lv_at hl 4 rfl) ?_
            refine lv_iload hx hb dX10_isThereWay_156 (lv_at hl 2 rfl) ?_
            refine lv_aload_n hx hb dX10_isThereWay_158 rfl (lv_at hl 5 rfl) ?_
            refine S_getR (n := 40) (C := RX0) (T := TX0) (N := 8) hx hb hg iX0 hown hK hW kd_7 rfl 0 (lt_b rfl) (hg (Cond.fieldLink RX10 55 "SlabWalk$Course" "lawful" "[Z") m373) (fun _ h9 => h9) rfl dX10_isThereWay_159 ?_
            refine lv_iload hx hb dX10_isThereWay_162 (lv_at hl 2 rfl) ?_
            refine S_zald hx hb hK hW kd_40 (vin ((by first | exact c_14 | omega)) ((by first | exact ok_189 f_12.2 | omega))) dX10_isThereWay_164 (fun y_44 ey_44 => ?_)
            have ty_44 : 0 ≤ y_44.toInt ∧ y_44.toInt ≤ 1 := bv_40 hB_G_43 ey_44
            refine lv_if_eq (tgt := 178) hx hb dX10_isThereWay_165 rfl (fun c_45 => ?_) (fun c_45 => ?_)
            · have c_45 : y_44.toInt = 0 := xI_eq rfl rfl c_45
              refine lv_aload_n hx hb dX10_isThereWay_178 rfl (lv_at hl 4 rfl) ?_
              refine lv_iload hx hb dX10_isThereWay_179 (lv_at hl 2 rfl) ?_
              refine ic_1 hx hb dX10_isThereWay_181 ?_
              refine lv_iadd hx hb dX10_isThereWay_182 ?_
              refine lv_topi (fun y_46 ey_46 => ?_)
              have ty_46 : y_46.toInt = x_10.toInt + 1 := xI_add rfl rfl ey_46 ((by first | exact ok_21 c_14 | omega)) ((by first | exact ok_264 f_12.2 | omega))
              refine S_iald hx hb hK hW kd_42 (vin ((by first | exact ok_23 c_14 ty_46 | omega)) ((by first | exact ok_332 f_12.2 ty_46 | omega))) dX10_isThereWay_183 (fun y_47 ey_47 => ?_)
              refine S_iast hx hb hK hW hS kd_42 (vin ((by first | exact c_14 | omega)) ((by first | exact ok_304 f_12.2 | omega))) dX10_isThereWay_184 (fun G_48 H locs eG_48 hW hS => ?_)
              have hB_G_48 : Bd G_48 := hB_G_43.put (lo := (-2147483648)) (hi := 2147483647) eG_48 rfl rfl rfl (tI_rng _).1 (tI_rng _).2 (hB_G_43.2.put eG_48 rfl)
              have hF := hF.put eG_48 (Or.inl (by decide))
              obtain ⟨y_49, ey_49⟩ : ∃ q, q = x_10 + (-1) := ⟨_, rfl⟩
              have ty_49 : y_49.toInt = x_10.toInt + (-1) := xI_add rfl rfl ey_49 ((by first | exact ok_190 c_14 | omega)) ((by first | exact ok_191 f_12.2 | omega))
              refine lv_iinc (v := y_49) (lv' := [(4, .int y_49), (7, .int 1), (6, .int 1), (3, .ref (a 43)), (2, .ref (a 42)), (1, .ref (a 7))]) hx hb dX10_isThereWay_185 hl (k := 2) rfl (by rw [ey_49]; rfl) (lt_b rfl) rfl (fun ls hl => ?_)
              refine lv_goto (tgt := 40) hx hb dX10_isThereWay_188 rfl ?_
              exact ih_8 (y_49.toInt - (-1) : Int).toNat ((by first | (clear b_1 ty_39 c_40 ty_44 c_45; omega) | omega)) _ _ _ ⟨G_48, y_49, (Int.toNat_of_nonneg ((by first | exact ok_192 c_14 ty_49 | omega))), ⟨(by first | exact ok_193 c_14 ty_49 | omega), (by first | exact ok_194 f_12.2 ty_49 | omega)⟩, (hX_11.st (St_k_tThere_1_mk ⟨x_10, G_6, y_49, G_48, rfl, rfl, f_12, hB_G_6, ⟨c_14, ⟨w_23, G_24, hX_27, f_28, f_29, hB_G_24, hq_26, (Or.inr ⟨G_34, hX_37, hB_G_34, hq_36, ⟨y_39, ey_39, (Or.inl ⟨c_40, ⟨y_41, ty_41, ⟨y_42, ey_42, ⟨y_44, ey_44.trans (congrFun (rw_put eG_43 (by decide)) _), (Or.inl ⟨c_45, ⟨y_46, ty_46, ⟨y_47, ey_47.trans (congrFun (rw_put eG_43 (by decide)) _), ⟨y_49, ty_49, ⟨rfl, (Fr.put (rs := [42, 43]) (fs := []) (Fr.put (rs := [42, 43]) (fs := []) Fr.rf eG_43 (Or.inl (by decide))) eG_48 (Or.inl (by decide))), (rw_ast eG_48).trans (congrArg (fun q => upd q (x_10.toNatClampNeg) y_47) (rw_put eG_43 (by decide))), (rw_put eG_48 (by decide)).trans (rw_ast eG_43)⟩⟩⟩⟩⟩)⟩⟩⟩⟩)⟩⟩)⟩⟩⟩)), hW, hB_G_48, hF, (Fr.put (rs := [42, 43]) (fs := []) (Fr.put (rs := [42, 43]) (fs := []) (Fr.call9 (rs := [42, 43]) (fs := []) (Fr.call9 (rs := [42, 43]) (fs := []) (Fr.call9 (rs := [42, 43]) (fs := []) Fr.rf hq_7 rfl rfl) hq_26 rfl rfl) hq_36 rfl rfl) eG_43 (Or.inl (by decide))) eG_48 (Or.inl (by decide))), hS, lv_sub hl [0, 3, 4, 5] rfl⟩
            · have c_45 : y_44.toInt ≠ 0 := xI_ne rfl rfl c_45
              refine lv_iload hx hb dX10_isThereWay_168 (lv_at hl 0 rfl) ?_
              refine lv_if_eq (tgt := 178) hx hb dX10_isThereWay_170 rfl (fun c_50 => ?_) (fun c_50 => ?_)
              · have c_50 : (1 : Int) = (0 : Int) := xI_eq rfl rfl c_50
                exfalso; first | exact ok_68 c_50 | omega
              · have c_50 : (1 : Int) ≠ (0 : Int) := xI_ne rfl rfl c_50
                refine lv_iload hx hb dX10_isThereWay_173 (lv_at hl 2 rfl) ?_
                refine lv_goto (tgt := 184) hx hb dX10_isThereWay_175 rfl ?_
                refine S_iast hx hb hK hW hS kd_42 (vin ((by first | exact c_14 | omega)) ((by first | exact ok_304 f_12.2 | omega))) dX10_isThereWay_184 (fun G_51 H locs eG_51 hW hS => ?_)
                have hB_G_51 : Bd G_51 := hB_G_43.put (lo := (-2147483648)) (hi := 2147483647) eG_51 rfl rfl rfl (tI_rng _).1 (tI_rng _).2 (hB_G_43.2.put eG_51 rfl)
                have hF := hF.put eG_51 (Or.inl (by decide))
                obtain ⟨y_52, ey_52⟩ : ∃ q, q = x_10 + (-1) := ⟨_, rfl⟩
                have ty_52 : y_52.toInt = x_10.toInt + (-1) := xI_add rfl rfl ey_52 ((by first | exact ok_190 c_14 | omega)) ((by first | exact ok_191 f_12.2 | omega))
                refine lv_iinc (v := y_52) (lv' := [(4, .int y_52), (7, .int 1), (6, .int 1), (3, .ref (a 43)), (2, .ref (a 42)), (1, .ref (a 7))]) hx hb dX10_isThereWay_185 hl (k := 2) rfl (by rw [ey_52]; rfl) (lt_b rfl) rfl (fun ls hl => ?_)
                refine lv_goto (tgt := 40) hx hb dX10_isThereWay_188 rfl ?_
                exact ih_8 (y_52.toInt - (-1) : Int).toNat ((by first | (clear b_1 ty_39 c_40 ty_44 c_45; omega) | omega)) _ _ _ ⟨G_51, y_52, (Int.toNat_of_nonneg ((by first | exact ok_192 c_14 ty_52 | omega))), ⟨(by first | exact ok_193 c_14 ty_52 | omega), (by first | exact ok_194 f_12.2 ty_52 | omega)⟩, (hX_11.st (St_k_tThere_1_mk ⟨x_10, G_6, y_52, G_51, rfl, rfl, f_12, hB_G_6, ⟨c_14, ⟨w_23, G_24, hX_27, f_28, f_29, hB_G_24, hq_26, (Or.inr ⟨G_34, hX_37, hB_G_34, hq_36, ⟨y_39, ey_39, (Or.inl ⟨c_40, ⟨y_41, ty_41, ⟨y_42, ey_42, ⟨y_44, ey_44.trans (congrFun (rw_put eG_43 (by decide)) _), (Or.inr ⟨c_45, ⟨y_52, ty_52, ⟨rfl, (Fr.put (rs := [42, 43]) (fs := []) (Fr.put (rs := [42, 43]) (fs := []) Fr.rf eG_43 (Or.inl (by decide))) eG_51 (Or.inl (by decide))), (rw_ast eG_51).trans (congrArg (fun q => upd q (x_10.toNatClampNeg) x_10) (rw_put eG_43 (by decide))), (rw_put eG_51 (by decide)).trans (rw_ast eG_43)⟩⟩⟩)⟩⟩⟩⟩)⟩⟩)⟩⟩⟩)), hW, hB_G_51, hF, (Fr.put (rs := [42, 43]) (fs := []) (Fr.put (rs := [42, 43]) (fs := []) (Fr.call9 (rs := [42, 43]) (fs := []) (Fr.call9 (rs := [42, 43]) (fs := []) (Fr.call9 (rs := [42, 43]) (fs := []) Fr.rf hq_7 rfl rfl) hq_26 rfl rfl) hq_36 rfl rfl) eG_43 (Or.inl (by decide))) eG_51 (Or.inl (by decide))), hS, lv_sub hl [0, 3, 4, 5] rfl⟩
          · have c_40 : y_39.toInt ≠ 0 := xI_ne rfl rfl c_40
            refine lv_iload hx hb dX10_isThereWay_138 (lv_at hl 1 rfl) ?_
            refine lv_if_eq (tgt := 148) hx hb dX10_isThereWay_140 rfl (fun c_53 => ?_) (fun c_53 => ?_)
            · have c_53 : (1 : Int) = (0 : Int) := xI_eq rfl rfl c_53
              exfalso; first | exact ok_68 c_53 | omega
            · have c_53 : (1 : Int) ≠ (0 : Int) := xI_ne rfl rfl c_53
              refine lv_iload hx hb dX10_isThereWay_143 (lv_at hl 2 rfl) ?_
              refine lv_goto (tgt := 154) hx hb dX10_isThereWay_145 rfl ?_
              refine S_iast hx hb hK hW hS kd_43 (vin ((by first | exact c_14 | omega)) ((by first | exact ok_304 f_12.2 | omega))) dX10_isThereWay_154 (fun G_54 H locs eG_54 hW hS => ?_)
              have hB_G_54 : Bd G_54 := hB_G_34.put (lo := (-2147483648)) (hi := 2147483647) eG_54 rfl rfl rfl (tI_rng _).1 (tI_rng _).2 (hB_G_34.2.put eG_54 rfl)
              have hF := hF.put eG_54 (Or.inl (by decide))
              refine lv_aload_n hx hb dX10_isThereWay_155 rfl (lv_at hl 4 rfl) ?_
              refine lv_iload hx hb dX10_isThereWay_156 (lv_at hl 2 rfl) ?_
              refine lv_aload_n hx hb dX10_isThereWay_158 rfl (lv_at hl 5 rfl) ?_
              refine S_getR (n := 40) (C := RX0) (T := TX0) (N := 8) hx hb hg iX0 hown hK hW kd_7 rfl 0 (lt_b rfl) (hg (Cond.fieldLink RX10 55 "SlabWalk$Course" "lawful" "[Z") m373) (fun _ h9 => h9) rfl dX10_isThereWay_159 ?_
              refine lv_iload hx hb dX10_isThereWay_162 (lv_at hl 2 rfl) ?_
              refine S_zald hx hb hK hW kd_40 (vin ((by first | exact c_14 | omega)) ((by first | exact ok_189 f_12.2 | omega))) dX10_isThereWay_164 (fun y_55 ey_55 => ?_)
              have ty_55 : 0 ≤ y_55.toInt ∧ y_55.toInt ≤ 1 := bv_40 hB_G_54 ey_55
              refine lv_if_eq (tgt := 178) hx hb dX10_isThereWay_165 rfl (fun c_56 => ?_) (fun c_56 => ?_)
              · have c_56 : y_55.toInt = 0 := xI_eq rfl rfl c_56
                refine lv_aload_n hx hb dX10_isThereWay_178 rfl (lv_at hl 4 rfl) ?_
                refine lv_iload hx hb dX10_isThereWay_179 (lv_at hl 2 rfl) ?_
                refine ic_1 hx hb dX10_isThereWay_181 ?_
                refine lv_iadd hx hb dX10_isThereWay_182 ?_
                refine lv_topi (fun y_57 ey_57 => ?_)
                have ty_57 : y_57.toInt = x_10.toInt + 1 := xI_add rfl rfl ey_57 ((by first | exact ok_21 c_14 | omega)) ((by first | exact ok_264 f_12.2 | omega))
                refine S_iald hx hb hK hW kd_42 (vin ((by first | exact ok_23 c_14 ty_57 | omega)) ((by first | exact ok_332 f_12.2 ty_57 | omega))) dX10_isThereWay_183 (fun y_58 ey_58 => ?_)
                refine S_iast hx hb hK hW hS kd_42 (vin ((by first | exact c_14 | omega)) ((by first | exact ok_304 f_12.2 | omega))) dX10_isThereWay_184 (fun G_59 H locs eG_59 hW hS => ?_)
                have hB_G_59 : Bd G_59 := hB_G_54.put (lo := (-2147483648)) (hi := 2147483647) eG_59 rfl rfl rfl (tI_rng _).1 (tI_rng _).2 (hB_G_54.2.put eG_59 rfl)
                have hF := hF.put eG_59 (Or.inl (by decide))
                obtain ⟨y_60, ey_60⟩ : ∃ q, q = x_10 + (-1) := ⟨_, rfl⟩
                have ty_60 : y_60.toInt = x_10.toInt + (-1) := xI_add rfl rfl ey_60 ((by first | exact ok_190 c_14 | omega)) ((by first | exact ok_191 f_12.2 | omega))
                refine lv_iinc (v := y_60) (lv' := [(4, .int y_60), (7, .int 1), (6, .int 1), (3, .ref (a 43)), (2, .ref (a 42)), (1, .ref (a 7))]) hx hb dX10_isThereWay_185 hl (k := 2) rfl (by rw [ey_60]; rfl) (lt_b rfl) rfl (fun ls hl => ?_)
                refine lv_goto (tgt := 40) hx hb dX10_isThereWay_188 rfl ?_
                exact ih_8 (y_60.toInt - (-1) : Int).toNat ((by first | (clear b_1 ty_39 c_40 ty_55 c_56; omega) | omega)) _ _ _ ⟨G_59, y_60, (Int.toNat_of_nonneg ((by first | exact ok_192 c_14 ty_60 | omega))), ⟨(by first | exact ok_193 c_14 ty_60 | omega), (by first | exact ok_194 f_12.2 ty_60 | omega)⟩, (hX_11.st (St_k_tThere_1_mk ⟨x_10, G_6, y_60, G_59, rfl, rfl, f_12, hB_G_6, ⟨c_14, ⟨w_23, G_24, hX_27, f_28, f_29, hB_G_24, hq_26, (Or.inr ⟨G_34, hX_37, hB_G_34, hq_36, ⟨y_39, ey_39, (Or.inr ⟨c_40, ⟨y_55, ey_55.trans (congrFun (rw_put eG_54 (by decide)) _), (Or.inl ⟨c_56, ⟨y_57, ty_57, ⟨y_58, ey_58.trans (congrFun (rw_put eG_54 (by decide)) _), ⟨y_60, ty_60, ⟨rfl, (Fr.put (rs := [42, 43]) (fs := []) (Fr.put (rs := [42, 43]) (fs := []) Fr.rf eG_54 (Or.inl (by decide))) eG_59 (Or.inl (by decide))), (rw_ast eG_59).trans (congrArg (fun q => upd q (x_10.toNatClampNeg) y_58) (rw_put eG_54 (by decide))), (rw_put eG_59 (by decide)).trans (rw_ast eG_54)⟩⟩⟩⟩⟩)⟩⟩)⟩⟩)⟩⟩⟩)), hW, hB_G_59, hF, (Fr.put (rs := [42, 43]) (fs := []) (Fr.put (rs := [42, 43]) (fs := []) (Fr.call9 (rs := [42, 43]) (fs := []) (Fr.call9 (rs := [42, 43]) (fs := []) (Fr.call9 (rs := [42, 43]) (fs := []) Fr.rf hq_7 rfl rfl) hq_26 rfl rfl) hq_36 rfl rfl) eG_54 (Or.inl (by decide))) eG_59 (Or.inl (by decide))), hS, lv_sub hl [0, 3, 4, 5] rfl⟩
              · have c_56 : y_55.toInt ≠ 0 := xI_ne rfl rfl c_56
                refine lv_iload hx hb dX10_isThereWay_168 (lv_at hl 0 rfl) ?_
                refine lv_if_eq (tgt := 178) hx hb dX10_isThereWay_170 rfl (fun c_61 => ?_) (fun c_61 => ?_)
                · have c_61 : (1 : Int) = (0 : Int) := xI_eq rfl rfl c_61
                  exfalso; first | exact ok_68 c_61 | omega
                · have c_61 : (1 : Int) ≠ (0 : Int) := xI_ne rfl rfl c_61
                  refine lv_iload hx hb dX10_isThereWay_173 (lv_at hl 2 rfl) ?_
                  refine lv_goto (tgt := 184) hx hb dX10_isThereWay_175 rfl ?_
                  refine S_iast hx hb hK hW hS kd_42 (vin ((by first | exact c_14 | omega)) ((by first | exact ok_304 f_12.2 | omega))) dX10_isThereWay_184 (fun G_62 H locs eG_62 hW hS => ?_)
                  have hB_G_62 : Bd G_62 := hB_G_54.put (lo := (-2147483648)) (hi := 2147483647) eG_62 rfl rfl rfl (tI_rng _).1 (tI_rng _).2 (hB_G_54.2.put eG_62 rfl)
                  have hF := hF.put eG_62 (Or.inl (by decide))
                  obtain ⟨y_63, ey_63⟩ : ∃ q, q = x_10 + (-1) := ⟨_, rfl⟩
                  have ty_63 : y_63.toInt = x_10.toInt + (-1) := xI_add rfl rfl ey_63 ((by first | exact ok_190 c_14 | omega)) ((by first | exact ok_191 f_12.2 | omega))
                  refine lv_iinc (v := y_63) (lv' := [(4, .int y_63), (7, .int 1), (6, .int 1), (3, .ref (a 43)), (2, .ref (a 42)), (1, .ref (a 7))]) hx hb dX10_isThereWay_185 hl (k := 2) rfl (by rw [ey_63]; rfl) (lt_b rfl) rfl (fun ls hl => ?_)
                  refine lv_goto (tgt := 40) hx hb dX10_isThereWay_188 rfl ?_
                  exact ih_8 (y_63.toInt - (-1) : Int).toNat ((by first | (clear b_1 ty_39 c_40 ty_55 c_56; omega) | omega)) _ _ _ ⟨G_62, y_63, (Int.toNat_of_nonneg ((by first | exact ok_192 c_14 ty_63 | omega))), ⟨(by first | exact ok_193 c_14 ty_63 | omega), (by first | exact ok_194 f_12.2 ty_63 | omega)⟩, (hX_11.st (St_k_tThere_1_mk ⟨x_10, G_6, y_63, G_62, rfl, rfl, f_12, hB_G_6, ⟨c_14, ⟨w_23, G_24, hX_27, f_28, f_29, hB_G_24, hq_26, (Or.inr ⟨G_34, hX_37, hB_G_34, hq_36, ⟨y_39, ey_39, (Or.inr ⟨c_40, ⟨y_55, ey_55.trans (congrFun (rw_put eG_54 (by decide)) _), (Or.inr ⟨c_56, ⟨y_63, ty_63, ⟨rfl, (Fr.put (rs := [42, 43]) (fs := []) (Fr.put (rs := [42, 43]) (fs := []) Fr.rf eG_54 (Or.inl (by decide))) eG_62 (Or.inl (by decide))), (rw_ast eG_62).trans (congrArg (fun q => upd q (x_10.toNatClampNeg) x_10) (rw_put eG_54 (by decide))), (rw_put eG_62 (by decide)).trans (rw_ast eG_54)⟩⟩⟩)⟩⟩)⟩⟩)⟩⟩⟩)), hW, hB_G_62, hF, (Fr.put (rs := [42, 43]) (fs := []) (Fr.put (rs := [42, 43]) (fs := []) (Fr.call9 (rs := [42, 43]) (fs := []) (Fr.call9 (rs := [42, 43]) (fs := []) (Fr.call9 (rs := [42, 43]) (fs := []) Fr.rf hq_7 rfl rfl) hq_26 rfl rfl) hq_36 rfl rfl) eG_54 (Or.inl (by decide))) eG_62 (Or.inl (by decide))), hS, lv_sub hl [0, 3, 4, 5] rfl⟩
        · have c_38 : (1 : Int) = (0 : Int) := xI_eq rfl rfl c_38
          exfalso; first | exact ok_68 c_38 | omega
      refine lv_if_ne (tgt := 85) hx hb dX10_isThereWay_63 rfl (fun c_64 => ?_) (fun c_64 => ?_)
      · have c_64 : w_23.toInt ≠ 0 := xI_ne rfl rfl c_64
        exact hJ_35 () _ _ _ ⟨G_24, (Jn_k_tThere_3_mk (Or.inr ⟨c_64, rfl⟩)), hW, hB_G_24, hF, (Fr.rf (rs := []) (fs := [])), hS, lv_sub hl [1, 2, 3, 4] rfl⟩
      · have c_64 : w_23.toInt = 0 := xI_eq rfl rfl c_64
        refine lv_aload_n hx hb dX10_isThereWay_66 rfl (lv_at hl 3 rfl) ?_
        refine lv_iload hx hb dX10_isThereWay_67 (lv_at hl 1 rfl) ?_
        refine lv_aload_n hx hb dX10_isThereWay_69 rfl (lv_at hl 4 rfl) ?_
        have b_65 : 0 ≤ (G.1 7 3).toInt ∧ (G.1 7 3).toInt ≤ 60 := bd_7_3 hB_G
        refine S_getI (v := (G.1 7 3)) (C := RX0) (T := TX0) (N := 8) hx hb hg iX0 hown hK hW kd_7 rfl 3 (lt_b rfl) (hg (Cond.fieldLink RX10 61 "SlabWalk$Course" "least" "I") m378) (fun _ h9 => h9) rfl ((hq_26.i9 7 3 rfl rfl).trans ((hq_7.i9 7 3 rfl rfl).trans ((gp_ne eG_5 (fun q => absurd q.1 (Nat.ne_of_beq_eq_false rfl))).trans (gp_ne eG_3 (fun q => absurd q.1 (Nat.ne_of_beq_eq_false rfl)))))) dX10_isThereWay_70 ?_
        refine lv_iadd hx hb dX10_isThereWay_73 ?_
        refine lv_topi (fun y_66 ey_66 => ?_)
        have ty_66 : y_66.toInt = x_10.toInt + (G.1 7 3).toInt := xI_add rfl rfl ey_66 ((by first | exact ok_15 c_14 b_65.1 | omega)) ((by first | exact ok_305 f_12.2 b_65.2 | omega))
        refine S_iald hx hb hK hW kd_42 (vin ((by first | exact ok_105 c_14 b_65.1 ty_66 | omega)) (by omega)) dX10_isThereWay_74 (fun y_67 ey_67 => ?_)
        refine lv_iload hx hb dX10_isThereWay_75 (lv_at hl 1 rfl) ?_
        refine lv_aload_n hx hb dX10_isThereWay_77 rfl (lv_at hl 4 rfl) ?_
        have b_68 : 0 ≤ (G.1 7 4).toInt ∧ (G.1 7 4).toInt ≤ 60 := bd_7_4 hB_G
        refine S_getI (v := (G.1 7 4)) (C := RX0) (T := TX0) (N := 8) hx hb hg iX0 hown hK hW kd_7 rfl 4 (lt_b rfl) (hg (Cond.fieldLink RX10 64 "SlabWalk$Course" "most" "I") m383) (fun _ h9 => h9) rfl ((hq_26.i9 7 4 rfl rfl).trans ((hq_7.i9 7 4 rfl rfl).trans ((gp_ne eG_5 (fun q => absurd q.1 (Nat.ne_of_beq_eq_false rfl))).trans (gp_ne eG_3 (fun q => absurd q.1 (Nat.ne_of_beq_eq_false rfl)))))) dX10_isThereWay_78 ?_
        refine lv_iadd hx hb dX10_isThereWay_81 ?_
        refine lv_topi (fun y_69 ey_69 => ?_)
        have ty_69 : y_69.toInt = x_10.toInt + (G.1 7 4).toInt := xI_add rfl rfl ey_69 ((by first | exact ok_15 c_14 b_68.1 | omega)) ((by first | exact ok_305 f_12.2 b_68.2 | omega))
        refine lv_icmp_gt (tgt := 89) hx hb dX10_isThereWay_82 rfl (fun c_70 => ?_) (fun c_70 => ?_)
        · have c_70 : y_69.toInt < y_67.toInt := xI_lt rfl rfl c_70
          refine ic_0 hx hb dX10_isThereWay_89 ?_
          refine lv_istore (lv' := [(6, .int 0), (5, .int w_23), (4, .int x_10), (3, .ref (a 43)), (2, .ref (a 42)), (1, .ref (a 7))]) hx hb dX10_isThereWay_90 hl (lt_b rfl) rfl (fun ls hl => ?_)
          refine lv_iload hx hb dX10_isThereWay_92 (lv_at hl 0 rfl) ?_
          refine lv_if_ne (tgt := 118) hx hb dX10_isThereWay_94 rfl (fun c_71 => ?_) (fun c_71 => ?_)
          · have c_71 : (0 : Int) ≠ (0 : Int) := xI_ne rfl rfl c_71
            exfalso; first | exact ok_69 c_71 | omega
          · have c_71 : (0 : Int) = (0 : Int) := xI_eq rfl rfl c_71
            refine lv_aload_n hx hb dX10_isThereWay_97 rfl (lv_at hl 3 rfl) ?_
            refine lv_iload hx hb dX10_isThereWay_98 (lv_at hl 2 rfl) ?_
            refine lv_aload_n hx hb dX10_isThereWay_100 rfl (lv_at hl 5 rfl) ?_
            refine S_getI (v := (G.1 7 4)) (C := RX0) (T := TX0) (N := 8) hx hb hg iX0 hown hK hW kd_7 rfl 4 (lt_b rfl) (hg (Cond.fieldLink RX10 64 "SlabWalk$Course" "most" "I") m383) (fun _ h9 => h9) rfl ((hq_26.i9 7 4 rfl rfl).trans ((hq_7.i9 7 4 rfl rfl).trans ((gp_ne eG_5 (fun q => absurd q.1 (Nat.ne_of_beq_eq_false rfl))).trans ((gp_ne eG_3 (fun q => absurd q.1 (Nat.ne_of_beq_eq_false rfl))).trans (rfl))))) dX10_isThereWay_101 ?_
            refine lv_iadd hx hb dX10_isThereWay_104 ?_
            refine lv_topi (fun y_72 ey_72 => ?_)
            have ty_72 : y_72.toInt = x_10.toInt + (G.1 7 4).toInt := xI_add rfl rfl ey_72 ((by first | exact ok_15 c_14 b_68.1 | omega)) ((by first | exact ok_305 f_12.2 b_68.2 | omega))
            refine ic_1 hx hb dX10_isThereWay_105 ?_
            refine lv_iadd hx hb dX10_isThereWay_106 ?_
            refine lv_topi (fun y_73 ey_73 => ?_)
            have ty_73 : y_73.toInt = y_72.toInt + 1 := xI_add rfl rfl ey_73 ((by first | exact ok_307 c_14 b_68.1 ty_72 | omega)) ((by first | exact ok_308 f_12.2 b_68.2 ty_72 | omega))
            refine S_iald hx hb hK hW kd_43 (vin ((by first | exact ok_310 c_14 b_68.1 ty_72 ty_73 | omega)) (by omega)) dX10_isThereWay_107 (fun y_74 ey_74 => ?_)
            refine lv_iload hx hb dX10_isThereWay_108 (lv_at hl 2 rfl) ?_
            refine lv_aload_n hx hb dX10_isThereWay_110 rfl (lv_at hl 5 rfl) ?_
            have b_75 : 0 ≤ (G.1 7 5).toInt ∧ (G.1 7 5).toInt ≤ 99 := bd_7_5 hB_G
            refine S_getI (v := (G.1 7 5)) (C := RX0) (T := TX0) (N := 8) hx hb hg iX0 hown hK hW kd_7 rfl 5 (lt_b rfl) (hg (Cond.fieldLink RX10 71 "SlabWalk$Course" "leap" "I") m386) (fun _ h9 => h9) rfl ((hq_26.i9 7 5 rfl rfl).trans ((hq_7.i9 7 5 rfl rfl).trans ((gp_ne eG_5 (fun q => absurd q.1 (Nat.ne_of_beq_eq_false rfl))).trans (gp_ne eG_3 (fun q => absurd q.1 (Nat.ne_of_beq_eq_false rfl)))))) dX10_isThereWay_111 ?_
            refine lv_iadd hx hb dX10_isThereWay_114 ?_
            refine lv_topi (fun y_76 ey_76 => ?_)
            have ty_76 : y_76.toInt = x_10.toInt + (G.1 7 5).toInt := xI_add rfl rfl ey_76 ((by first | exact ok_15 c_14 b_75.1 | omega)) ((by first | exact ok_309 f_12.2 b_75.2 | omega))
            refine W.cut (σ := Int32) (pcJ := 123) (J := fun y H locs ls => ∃ (G_83 : GS), (0 ≤ y.toInt ∧ y.toInt ≤ 1) ∧ Jn_k_tThere_4 y_74 y_76 G_24 y G_83 ∧ Wd D k A a G_83 H ∧ Bd G_83 ∧ Fr [42, 43] [] G G_83 ∧ Fr [] [] G_24 G_83 ∧ va_S A s.heap H locs ∧ lv_has ls 8 [(6, .int 0), (4, .int x_10), (3, .ref (a 43)), (2, .ref (a 42)), (1, .ref (a 7))]) (stJ := fun y => [.int y]) ?_ (fun hJ_84 => ?_)
            · intro y H locs ls hI
              obtain ⟨w_82, hy⟩ : ∃ q, q = y := ⟨_, rfl⟩
              subst hy
              obtain ⟨G_83, f_87, hX_86, hW, hB_G_83, hF, hq_85, hS, hl⟩ := hI
              refine lv_istore (lv' := [(7, .int w_82), (6, .int 0), (4, .int x_10), (3, .ref (a 43)), (2, .ref (a 42)), (1, .ref (a 7))]) hx hb dX10_isThereWay_123 hl (lt_b rfl) rfl (fun ls hl => ?_)
              refine lv_aload_n hx hb dX10_isThereWay_125 rfl (lv_at hl 3 rfl) ?_
              refine lv_iload hx hb dX10_isThereWay_126 (lv_at hl 2 rfl) ?_
              refine lv_aload_n hx hb dX10_isThereWay_128 rfl (lv_at hl 5 rfl) ?_
              refine S_getR (n := 40) (C := RX0) (T := TX0) (N := 8) hx hb hg iX0 hown hK hW kd_7 rfl 0 (lt_b rfl) (hg (Cond.fieldLink RX10 55 "SlabWalk$Course" "lawful" "[Z") m373) (fun _ h9 => h9) rfl dX10_isThereWay_129 ?_
              refine lv_iload hx hb dX10_isThereWay_132 (lv_at hl 2 rfl) ?_
              refine S_zald hx hb hK hW kd_40 (vin ((by first | exact c_14 | omega)) ((by first | exact ok_189 f_12.2 | omega))) dX10_isThereWay_134 (fun y_88 ey_88 => ?_)
              have ty_88 : 0 ≤ y_88.toInt ∧ y_88.toInt ≤ 1 := bv_40 hB_G_83 ey_88
              refine W.cut (σ := Unit) (pcJ := 148) (J := fun y H locs ls => ∃ (G_96 : GS), Jn_k_tThere_5 y_88 G_83 G_96 ∧ Wd D k A a G_96 H ∧ Bd G_96 ∧ Fr [42, 43] [] G G_96 ∧ Fr [] [] G_83 G_96 ∧ va_S A s.heap H locs ∧ lv_has ls 8 [(7, .int w_82), (4, .int x_10), (3, .ref (a 43)), (2, .ref (a 42)), (1, .ref (a 7))]) (stJ := fun _ => [.int x_10, .ref (a 43)]) ?_ (fun hJ_97 => ?_)
              · intro y H locs ls hI
                obtain ⟨G_96, hX_99, hW, hB_G_96, hF, hq_98, hS, hl⟩ := hI
                refine lv_aload_n hx hb dX10_isThereWay_148 rfl (lv_at hl 2 rfl) ?_
                refine lv_iload hx hb dX10_isThereWay_149 (lv_at hl 1 rfl) ?_
                refine ic_1 hx hb dX10_isThereWay_151 ?_
                refine lv_iadd hx hb dX10_isThereWay_152 ?_
                refine lv_topi (fun y_100 ey_100 => ?_)
                have ty_100 : y_100.toInt = x_10.toInt + 1 := xI_add rfl rfl ey_100 ((by first | exact ok_21 c_14 | omega)) ((by first | exact ok_264 f_12.2 | omega))
                refine S_iald hx hb hK hW kd_43 (vin ((by first | exact ok_23 c_14 ty_100 | omega)) ((by first | exact ok_332 f_12.2 ty_100 | omega))) dX10_isThereWay_153 (fun y_101 ey_101 => ?_)
                refine S_iast hx hb hK hW hS kd_43 (vin ((by first | exact c_14 | omega)) ((by first | exact ok_304 f_12.2 | omega))) dX10_isThereWay_154 (fun G_102 H locs eG_102 hW hS => ?_)
                have hB_G_102 : Bd G_102 := hB_G_96.put (lo := (-2147483648)) (hi := 2147483647) eG_102 rfl rfl rfl (tI_rng _).1 (tI_rng _).2 (hB_G_96.2.put eG_102 rfl)
                have hF := hF.put eG_102 (Or.inl (by decide))
                refine lv_aload_n hx hb dX10_isThereWay_155 rfl (lv_at hl 3 rfl) ?_
                refine lv_iload hx hb dX10_isThereWay_156 (lv_at hl 1 rfl) ?_
                refine lv_aload_n hx hb dX10_isThereWay_158 rfl (lv_at hl 4 rfl) ?_
                refine S_getR (n := 40) (C := RX0) (T := TX0) (N := 8) hx hb hg iX0 hown hK hW kd_7 rfl 0 (lt_b rfl) (hg (Cond.fieldLink RX10 55 "SlabWalk$Course" "lawful" "[Z") m373) (fun _ h9 => h9) rfl dX10_isThereWay_159 ?_
                refine lv_iload hx hb dX10_isThereWay_162 (lv_at hl 1 rfl) ?_
                refine S_zald hx hb hK hW kd_40 (vin ((by first | exact c_14 | omega)) ((by first | exact ok_189 f_12.2 | omega))) dX10_isThereWay_164 (fun y_103 ey_103 => ?_)
                have ty_103 : 0 ≤ y_103.toInt ∧ y_103.toInt ≤ 1 := bv_40 hB_G_102 ey_103
                refine lv_if_eq (tgt := 178) hx hb dX10_isThereWay_165 rfl (fun c_104 => ?_) (fun c_104 => ?_)
                · have c_104 : y_103.toInt = 0 := xI_eq rfl rfl c_104
                  refine lv_aload_n hx hb dX10_isThereWay_178 rfl (lv_at hl 3 rfl) ?_
                  refine lv_iload hx hb dX10_isThereWay_179 (lv_at hl 1 rfl) ?_
                  refine ic_1 hx hb dX10_isThereWay_181 ?_
                  refine lv_iadd hx hb dX10_isThereWay_182 ?_
                  refine lv_topi (fun y_105 ey_105 => ?_)
                  have ty_105 : y_105.toInt = x_10.toInt + 1 := xI_add rfl rfl ey_105 ((by first | exact ok_21 c_14 | omega)) ((by first | exact ok_264 f_12.2 | omega))
                  refine S_iald hx hb hK hW kd_42 (vin ((by first | exact ok_23 c_14 ty_105 | omega)) ((by first | exact ok_332 f_12.2 ty_105 | omega))) dX10_isThereWay_183 (fun y_106 ey_106 => ?_)
                  refine S_iast hx hb hK hW hS kd_42 (vin ((by first | exact c_14 | omega)) ((by first | exact ok_304 f_12.2 | omega))) dX10_isThereWay_184 (fun G_107 H locs eG_107 hW hS => ?_)
                  have hB_G_107 : Bd G_107 := hB_G_102.put (lo := (-2147483648)) (hi := 2147483647) eG_107 rfl rfl rfl (tI_rng _).1 (tI_rng _).2 (hB_G_102.2.put eG_107 rfl)
                  have hF := hF.put eG_107 (Or.inl (by decide))
                  obtain ⟨y_108, ey_108⟩ : ∃ q, q = x_10 + (-1) := ⟨_, rfl⟩
                  have ty_108 : y_108.toInt = x_10.toInt + (-1) := xI_add rfl rfl ey_108 ((by first | exact ok_190 c_14 | omega)) ((by first | exact ok_191 f_12.2 | omega))
                  refine lv_iinc (v := y_108) (lv' := [(4, .int y_108), (7, .int w_82), (3, .ref (a 43)), (2, .ref (a 42)), (1, .ref (a 7))]) hx hb dX10_isThereWay_185 hl (k := 1) rfl (by rw [ey_108]; rfl) (lt_b rfl) rfl (fun ls hl => ?_)
                  refine lv_goto (tgt := 40) hx hb dX10_isThereWay_188 rfl ?_
                  exact ih_8 (y_108.toInt - (-1) : Int).toNat ((by first | (clear f_87 ty_88 ty_103 c_104; omega) | omega)) _ _ _ ⟨G_107, y_108, (Int.toNat_of_nonneg ((by first | exact ok_192 c_14 ty_108 | omega))), ⟨(by first | exact ok_193 c_14 ty_108 | omega), (by first | exact ok_194 f_12.2 ty_108 | omega)⟩, (hX_11.st (St_k_tThere_1_mk ⟨x_10, G_6, y_108, G_107, rfl, rfl, f_12, hB_G_6, ⟨c_14, ⟨w_23, G_24, hX_27, f_28, f_29, hB_G_24, hq_26, (Or.inl ⟨c_64, ⟨y_66, ty_66, ⟨y_67, ey_67, ⟨y_69, ty_69, ⟨c_70, ⟨y_72, ty_72, ⟨y_73, ty_73, ⟨y_74, ey_74, ⟨y_76, ty_76, ⟨w_82, G_83, hX_86, f_87, hB_G_83, hq_85, ⟨y_88, ey_88, ⟨G_96, hX_99, hB_G_96, hq_98, ⟨y_100, ty_100, ⟨y_101, ey_101, ⟨y_103, ey_103.trans (congrFun (rw_put eG_102 (by decide)) _), (Or.inl ⟨c_104, ⟨y_105, ty_105, ⟨y_106, ey_106.trans (congrFun (rw_put eG_102 (by decide)) _), ⟨y_108, ty_108, ⟨rfl, (Fr.put (rs := [42, 43]) (fs := []) (Fr.put (rs := [42, 43]) (fs := []) Fr.rf eG_102 (Or.inl (by decide))) eG_107 (Or.inl (by decide))), (rw_ast eG_107).trans (congrArg (fun q => upd q (x_10.toNatClampNeg) y_106) (rw_put eG_102 (by decide))), (rw_put eG_107 (by decide)).trans (rw_ast eG_102)⟩⟩⟩⟩⟩)⟩⟩⟩⟩⟩⟩⟩⟩⟩⟩⟩⟩⟩⟩⟩)⟩⟩⟩)), hW, hB_G_107, hF, (Fr.put (rs := [42, 43]) (fs := []) (Fr.put (rs := [42, 43]) (fs := []) (Fr.call9 (rs := [42, 43]) (fs := []) (Fr.call9 (rs := [42, 43]) (fs := []) (Fr.call9 (rs := [42, 43]) (fs := []) (Fr.call9 (rs := [42, 43]) (fs := []) Fr.rf hq_7 rfl rfl) hq_26 rfl rfl) hq_85 rfl rfl) hq_98 rfl rfl) eG_102 (Or.inl (by decide))) eG_107 (Or.inl (by decide))), hS, lv_sub hl [0, 2, 3, 4] rfl⟩
                · have c_104 : y_103.toInt ≠ 0 := xI_ne rfl rfl c_104
                  refine lv_iload hx hb dX10_isThereWay_168 (lv_at hl 0 rfl) ?_
                  refine lv_if_eq (tgt := 178) hx hb dX10_isThereWay_170 rfl (fun c_109 => ?_) (fun c_109 => ?_)
                  · have c_109 : w_82.toInt = 0 := xI_eq rfl rfl c_109
                    refine lv_aload_n hx hb dX10_isThereWay_178 rfl (lv_at hl 3 rfl) ?_
                    refine lv_iload hx hb dX10_isThereWay_179 (lv_at hl 1 rfl) ?_
                    refine ic_1 hx hb dX10_isThereWay_181 ?_
                    refine lv_iadd hx hb dX10_isThereWay_182 ?_
                    refine lv_topi (fun y_110 ey_110 => ?_)
                    have ty_110 : y_110.toInt = x_10.toInt + 1 := xI_add rfl rfl ey_110 ((by first | exact ok_21 c_14 | omega)) ((by first | exact ok_264 f_12.2 | omega))
                    refine S_iald hx hb hK hW kd_42 (vin ((by first | exact ok_23 c_14 ty_110 | omega)) ((by first | exact ok_332 f_12.2 ty_110 | omega))) dX10_isThereWay_183 (fun y_111 ey_111 => ?_)
                    refine S_iast hx hb hK hW hS kd_42 (vin ((by first | exact c_14 | omega)) ((by first | exact ok_304 f_12.2 | omega))) dX10_isThereWay_184 (fun G_112 H locs eG_112 hW hS => ?_)
                    have hB_G_112 : Bd G_112 := hB_G_102.put (lo := (-2147483648)) (hi := 2147483647) eG_112 rfl rfl rfl (tI_rng _).1 (tI_rng _).2 (hB_G_102.2.put eG_112 rfl)
                    have hF := hF.put eG_112 (Or.inl (by decide))
                    obtain ⟨y_113, ey_113⟩ : ∃ q, q = x_10 + (-1) := ⟨_, rfl⟩
                    have ty_113 : y_113.toInt = x_10.toInt + (-1) := xI_add rfl rfl ey_113 ((by first | exact ok_190 c_14 | omega)) ((by first | exact ok_191 f_12.2 | omega))
                    refine lv_iinc (v := y_113) (lv' := [(4, .int y_113), (7, .int w_82), (3, .ref (a 43)), (2, .ref (a 42)), (1, .ref (a 7))]) hx hb dX10_isThereWay_185 hl (k := 1) rfl (by rw [ey_113]; rfl) (lt_b rfl) rfl (fun ls hl => ?_)
                    refine lv_goto (tgt := 40) hx hb dX10_isThereWay_188 rfl ?_
                    exact ih_8 (y_113.toInt - (-1) : Int).toNat ((by first | (clear f_87 ty_88 ty_103 c_104 c_109; omega) | omega)) _ _ _ ⟨G_112, y_113, (Int.toNat_of_nonneg ((by first | exact ok_192 c_14 ty_113 | omega))), ⟨(by first | exact ok_193 c_14 ty_113 | omega), (by first | exact ok_194 f_12.2 ty_113 | omega)⟩, (hX_11.st (St_k_tThere_1_mk ⟨x_10, G_6, y_113, G_112, rfl, rfl, f_12, hB_G_6, ⟨c_14, ⟨w_23, G_24, hX_27, f_28, f_29, hB_G_24, hq_26, (Or.inl ⟨c_64, ⟨y_66, ty_66, ⟨y_67, ey_67, ⟨y_69, ty_69, ⟨c_70, ⟨y_72, ty_72, ⟨y_73, ty_73, ⟨y_74, ey_74, ⟨y_76, ty_76, ⟨w_82, G_83, hX_86, f_87, hB_G_83, hq_85, ⟨y_88, ey_88, ⟨G_96, hX_99, hB_G_96, hq_98, ⟨y_100, ty_100, ⟨y_101, ey_101, ⟨y_103, ey_103.trans (congrFun (rw_put eG_102 (by decide)) _), (Or.inr ⟨c_104, (Or.inl ⟨c_109, ⟨y_110, ty_110, ⟨y_111, ey_111.trans (congrFun (rw_put eG_102 (by decide)) _), ⟨y_113, ty_113, ⟨rfl, (Fr.put (rs := [42, 43]) (fs := []) (Fr.put (rs := [42, 43]) (fs := []) Fr.rf eG_102 (Or.inl (by decide))) eG_112 (Or.inl (by decide))), (rw_ast eG_112).trans (congrArg (fun q => upd q (x_10.toNatClampNeg) y_111) (rw_put eG_102 (by decide))), (rw_put eG_112 (by decide)).trans (rw_ast eG_102)⟩⟩⟩⟩⟩)⟩)⟩⟩⟩⟩⟩⟩⟩⟩⟩⟩⟩⟩⟩⟩⟩)⟩⟩⟩)), hW, hB_G_112, hF, (Fr.put (rs := [42, 43]) (fs := []) (Fr.put (rs := [42, 43]) (fs := []) (Fr.call9 (rs := [42, 43]) (fs := []) (Fr.call9 (rs := [42, 43]) (fs := []) (Fr.call9 (rs := [42, 43]) (fs := []) (Fr.call9 (rs := [42, 43]) (fs := []) Fr.rf hq_7 rfl rfl) hq_26 rfl rfl) hq_85 rfl rfl) hq_98 rfl rfl) eG_102 (Or.inl (by decide))) eG_112 (Or.inl (by decide))), hS, lv_sub hl [0, 2, 3, 4] rfl⟩
                  · have c_109 : w_82.toInt ≠ 0 := xI_ne rfl rfl c_109
                    refine lv_iload hx hb dX10_isThereWay_173 (lv_at hl 1 rfl) ?_
                    refine lv_goto (tgt := 184) hx hb dX10_isThereWay_175 rfl ?_
                    refine S_iast hx hb hK hW hS kd_42 (vin ((by first | exact c_14 | omega)) ((by first | exact ok_304 f_12.2 | omega))) dX10_isThereWay_184 (fun G_114 H locs eG_114 hW hS => ?_)
                    have hB_G_114 : Bd G_114 := hB_G_102.put (lo := (-2147483648)) (hi := 2147483647) eG_114 rfl rfl rfl (tI_rng _).1 (tI_rng _).2 (hB_G_102.2.put eG_114 rfl)
                    have hF := hF.put eG_114 (Or.inl (by decide))
                    obtain ⟨y_115, ey_115⟩ : ∃ q, q = x_10 + (-1) := ⟨_, rfl⟩
                    have ty_115 : y_115.toInt = x_10.toInt + (-1) := xI_add rfl rfl ey_115 ((by first | exact ok_190 c_14 | omega)) ((by first | exact ok_191 f_12.2 | omega))
                    refine lv_iinc (v := y_115) (lv' := [(4, .int y_115), (7, .int w_82), (3, .ref (a 43)), (2, .ref (a 42)), (1, .ref (a 7))]) hx hb dX10_isThereWay_185 hl (k := 1) rfl (by rw [ey_115]; rfl) (lt_b rfl) rfl (fun ls hl => ?_)
                    refine lv_goto (tgt := 40) hx hb dX10_isThereWay_188 rfl ?_
                    exact ih_8 (y_115.toInt - (-1) : Int).toNat ((by first | (clear f_87 ty_88 ty_103 c_104 c_109; omega) | omega)) _ _ _ ⟨G_114, y_115, (Int.toNat_of_nonneg ((by first | exact ok_192 c_14 ty_115 | omega))), ⟨(by first | exact ok_193 c_14 ty_115 | omega), (by first | exact ok_194 f_12.2 ty_115 | omega)⟩, (hX_11.st (St_k_tThere_1_mk ⟨x_10, G_6, y_115, G_114, rfl, rfl, f_12, hB_G_6, ⟨c_14, ⟨w_23, G_24, hX_27, f_28, f_29, hB_G_24, hq_26, (Or.inl ⟨c_64, ⟨y_66, ty_66, ⟨y_67, ey_67, ⟨y_69, ty_69, ⟨c_70, ⟨y_72, ty_72, ⟨y_73, ty_73, ⟨y_74, ey_74, ⟨y_76, ty_76, ⟨w_82, G_83, hX_86, f_87, hB_G_83, hq_85, ⟨y_88, ey_88, ⟨G_96, hX_99, hB_G_96, hq_98, ⟨y_100, ty_100, ⟨y_101, ey_101, ⟨y_103, ey_103.trans (congrFun (rw_put eG_102 (by decide)) _), (Or.inr ⟨c_104, (Or.inr ⟨c_109, ⟨y_115, ty_115, ⟨rfl, (Fr.put (rs := [42, 43]) (fs := []) (Fr.put (rs := [42, 43]) (fs := []) Fr.rf eG_102 (Or.inl (by decide))) eG_114 (Or.inl (by decide))), (rw_ast eG_114).trans (congrArg (fun q => upd q (x_10.toNatClampNeg) x_10) (rw_put eG_102 (by decide))), (rw_put eG_114 (by decide)).trans (rw_ast eG_102)⟩⟩⟩)⟩)⟩⟩⟩⟩⟩⟩⟩⟩⟩⟩⟩⟩⟩⟩⟩)⟩⟩⟩)), hW, hB_G_114, hF, (Fr.put (rs := [42, 43]) (fs := []) (Fr.put (rs := [42, 43]) (fs := []) (Fr.call9 (rs := [42, 43]) (fs := []) (Fr.call9 (rs := [42, 43]) (fs := []) (Fr.call9 (rs := [42, 43]) (fs := []) (Fr.call9 (rs := [42, 43]) (fs := []) Fr.rf hq_7 rfl rfl) hq_26 rfl rfl) hq_85 rfl rfl) hq_98 rfl rfl) eG_102 (Or.inl (by decide))) eG_114 (Or.inl (by decide))), hS, lv_sub hl [0, 2, 3, 4] rfl⟩
              refine lv_if_eq (tgt := 148) hx hb dX10_isThereWay_135 rfl (fun c_116 => ?_) (fun c_116 => ?_)
              · have c_116 : y_88.toInt = 0 := xI_eq rfl rfl c_116
                exact hJ_97 () _ _ _ ⟨G_83, (Jn_k_tThere_5_mk (Or.inl ⟨c_116, rfl⟩)), hW, hB_G_83, hF, (Fr.rf (rs := []) (fs := [])), hS, lv_sub hl [0, 2, 3, 4, 5] rfl⟩
              · have c_116 : y_88.toInt ≠ 0 := xI_ne rfl rfl c_116
                refine lv_iload hx hb dX10_isThereWay_138 (lv_at hl 1 rfl) ?_
                refine lv_if_eq (tgt := 148) hx hb dX10_isThereWay_140 rfl (fun c_117 => ?_) (fun c_117 => ?_)
                · have c_117 : (0 : Int) = (0 : Int) := xI_eq rfl rfl c_117
                  exact hJ_97 () _ _ _ ⟨G_83, (Jn_k_tThere_5_mk (Or.inr ⟨c_116, rfl⟩)), hW, hB_G_83, hF, (Fr.rf (rs := []) (fs := [])), hS, lv_sub hl [0, 2, 3, 4, 5] rfl⟩
                · have c_117 : (0 : Int) ≠ (0 : Int) := xI_ne rfl rfl c_117
                  exfalso; first | exact ok_69 c_117 | omega
            refine lv_icmp_gt (tgt := 122) hx hb dX10_isThereWay_115 rfl (fun c_118 => ?_) (fun c_118 => ?_)
            · have c_118 : y_76.toInt < y_74.toInt := xI_lt rfl rfl c_118
              refine ic_0 hx hb dX10_isThereWay_122 ?_
              have qc_119 : (0 : Int32).toInt = 0 := rfl
              exact hJ_84 0 _ _ _ ⟨G_24, ⟨(by decide), (by decide)⟩, (Jn_k_tThere_4_mk (Or.inl ⟨c_118, ⟨rfl, rfl⟩⟩)), hW, hB_G_24, hF, (Fr.rf (rs := []) (fs := [])), hS, lv_sub hl [0, 2, 3, 4, 5] rfl⟩
            · have c_118 : y_74.toInt ≤ y_76.toInt := xI_nlt rfl rfl c_118
              refine ic_1 hx hb dX10_isThereWay_118 ?_
              refine lv_goto (tgt := 123) hx hb dX10_isThereWay_119 rfl ?_
              have qc_120 : (1 : Int32).toInt = 1 := rfl
              exact hJ_84 1 _ _ _ ⟨G_24, ⟨(by decide), (by decide)⟩, (Jn_k_tThere_4_mk (Or.inr ⟨c_118, ⟨rfl, rfl⟩⟩)), hW, hB_G_24, hF, (Fr.rf (rs := []) (fs := [])), hS, lv_sub hl [0, 2, 3, 4, 5] rfl⟩
        · have c_70 : y_67.toInt ≤ y_69.toInt := xI_nlt rfl rfl c_70
          exact hJ_35 () _ _ _ ⟨G_24, (Jn_k_tThere_3_mk (Or.inl ⟨c_64, ⟨y_66, ty_66, ⟨y_67, ey_67, ⟨y_69, ty_69, ⟨c_70, rfl⟩⟩⟩⟩⟩)), hW, hB_G_24, hF, (Fr.rf (rs := []) (fs := [])), hS, lv_sub hl [1, 2, 3, 4] rfl⟩
    refine lv_icmp_lt (tgt := 58) hx hb dX10_isThereWay_51 rfl (fun c_121 => ?_) (fun c_121 => ?_)
    · have c_121 : x_10.toInt < (G.1 7 7).toInt := xI_lt rfl rfl c_121
      refine ic_0 hx hb dX10_isThereWay_58 ?_
      have qc_122 : (0 : Int32).toInt = 0 := rfl
      exact hJ_25 0 _ _ _ ⟨G_6, ⟨(by decide), (by decide)⟩, ((by first | exact ok_333 c_121 | omega)), (Jn_k_tThere_2_mk (Or.inl ⟨c_121, ⟨rfl, rfl⟩⟩)), hW, hB_G_6, hF, (Fr.rf (rs := []) (fs := [])), hS, lv_sub hl [0, 1, 2, 3] rfl⟩
    · have c_121 : (G.1 7 7).toInt ≤ x_10.toInt := xI_nlt rfl rfl c_121
      refine ic_1 hx hb dX10_isThereWay_54 ?_
      refine lv_goto (tgt := 59) hx hb dX10_isThereWay_55 rfl ?_
      have qc_123 : (1 : Int32).toInt = 1 := rfl
      exact hJ_25 1 _ _ _ ⟨G_6, ⟨(by decide), (by decide)⟩, ((by first | exact ok_334 | omega)), (Jn_k_tThere_2_mk (Or.inr ⟨c_121, ⟨rfl, rfl⟩⟩)), hW, hB_G_6, hF, (Fr.rf (rs := []) (fs := [])), hS, lv_sub hl [0, 1, 2, 3] rfl⟩

theorem m35 : Cond.selects RX10 yX10_firstHeel yX10_firstHeel ∈ gd := gds_3 3 rfl
theorem m1044 : Cond.methodLink RX10 82 Lib.Math.max.name ∈ gd := gdc_4_13 0 rfl gw_methodLink
theorem m1045 : Cond.methodLink RX10 78 yX10_firstHeel ∈ gd := gdc_4_13 1 rfl gw_methodLink
theorem m1047 : Cond.instanceMethod yX10_firstHeel ∈ gd := gdc_4_13 3 rfl gw_instanceMethod
theorem m1048 : Cond.code yX10_firstHeel cX10_firstHeel 7 (some .int) ∈ gd := gdc_4_13 4 rfl gw_code
noncomputable def rbX10_comesEvenly_0 : List (Nat × List Nat) := [(0, [42]), (1, [43]), (2, [28]), (3, [28]), (4, [182, 0, 78]), (7, [43]), (8, [180, 0, 64]), (11, [162, 0, 7]), (14, [4]), (15, [167, 0, 4]), (18, [3]), (19, [172])]
theorem rcX10_comesEvenly_0 : dgo (lb cX10_comesEvenly) 0 rbX10_comesEvenly_0 = true := by decide +kernel
theorem dX10_comesEvenly_0 : decode cX10_comesEvenly 0 = .ok (.aload_n 0, 1) := dk_42 (dw rcX10_comesEvenly_0 0 rfl)
theorem dX10_comesEvenly_1 : decode cX10_comesEvenly 1 = .ok (.aload_n 1, 1) := dk_43 (dw rcX10_comesEvenly_0 1 rfl)
theorem dX10_comesEvenly_2 : decode cX10_comesEvenly 2 = .ok (.iload_n 2, 1) := dk_28 (dw rcX10_comesEvenly_0 2 rfl)
theorem dX10_comesEvenly_3 : decode cX10_comesEvenly 3 = .ok (.iload_n 2, 1) := dk_28 (dw rcX10_comesEvenly_0 3 rfl)
theorem dX10_comesEvenly_4 : decode cX10_comesEvenly 4 = .ok (.invokevirtual 78, 3) := dk_182 (dw rcX10_comesEvenly_0 4 rfl) rfl
theorem dX10_comesEvenly_7 : decode cX10_comesEvenly 7 = .ok (.aload_n 1, 1) := dk_43 (dw rcX10_comesEvenly_0 5 rfl)
theorem dX10_comesEvenly_8 : decode cX10_comesEvenly 8 = .ok (.getfield 64, 3) := dk_180 (dw rcX10_comesEvenly_0 6 rfl) rfl
theorem dX10_comesEvenly_11 : decode cX10_comesEvenly 11 = .ok (.if_icmp .ge 7, 3) := dk_162 (dw rcX10_comesEvenly_0 7 rfl) rfl
theorem dX10_comesEvenly_14 : decode cX10_comesEvenly 14 = .ok (.iconst 1, 1) := dk_4 (dw rcX10_comesEvenly_0 8 rfl)
theorem dX10_comesEvenly_15 : decode cX10_comesEvenly 15 = .ok (.goto 4, 3) := dk_167 (dw rcX10_comesEvenly_0 9 rfl) rfl
theorem dX10_comesEvenly_18 : decode cX10_comesEvenly 18 = .ok (.iconst 0, 1) := dk_3 (dw rcX10_comesEvenly_0 10 rfl)
theorem dX10_comesEvenly_19 : decode cX10_comesEvenly 19 = .ok (.ireturn, 1) := dk_172 (dw rcX10_comesEvenly_0 11 rfl)
noncomputable def rbX10_firstHeel_0 : List (Nat × List Nat) := [(0, [42]), (1, [180, 0, 13]), (4, [3]), (5, [50]), (6, [58, 4]), (8, [25, 4]), (10, [43]), (11, [180, 0, 34]), (14, [4]), (15, [96]), (16, [18, 44]), (18, [79]), (19, [43]), (20, [180, 0, 34]), (23, [54, 5]), (25, [21, 5]), (27, [155, 0, 71]), (30, [21, 5]), (32, [43]), (33, [180, 0, 58]), (36, [162, 0, 17]), (39, [25, 4]), (41, [21, 5]), (43, [28])]
theorem rcX10_firstHeel_0 : dgo (lb cX10_firstHeel) 0 rbX10_firstHeel_0 = true := by decide +kernel
theorem dX10_firstHeel_0 : decode cX10_firstHeel 0 = .ok (.aload_n 0, 1) := dk_42 (dw rcX10_firstHeel_0 0 rfl)
theorem dX10_firstHeel_1 : decode cX10_firstHeel 1 = .ok (.getfield 13, 3) := dk_180 (dw rcX10_firstHeel_0 1 rfl) rfl
theorem dX10_firstHeel_4 : decode cX10_firstHeel 4 = .ok (.iconst 0, 1) := dk_3 (dw rcX10_firstHeel_0 2 rfl)
theorem dX10_firstHeel_5 : decode cX10_firstHeel 5 = .ok (.aaload, 1) := dk_50 (dw rcX10_firstHeel_0 3 rfl)
theorem dX10_firstHeel_6 : decode cX10_firstHeel 6 = .ok (.astore 4, 2) := dk_58 (dw rcX10_firstHeel_0 4 rfl)
theorem dX10_firstHeel_8 : decode cX10_firstHeel 8 = .ok (.aload 4, 2) := dk_25 (dw rcX10_firstHeel_0 5 rfl)
theorem dX10_firstHeel_10 : decode cX10_firstHeel 10 = .ok (.aload_n 1, 1) := dk_43 (dw rcX10_firstHeel_0 6 rfl)
theorem dX10_firstHeel_11 : decode cX10_firstHeel 11 = .ok (.getfield 34, 3) := dk_180 (dw rcX10_firstHeel_0 7 rfl) rfl
theorem dX10_firstHeel_14 : decode cX10_firstHeel 14 = .ok (.iconst 1, 1) := dk_4 (dw rcX10_firstHeel_0 8 rfl)
theorem dX10_firstHeel_15 : decode cX10_firstHeel 15 = .ok (.iadd, 1) := dk_96 (dw rcX10_firstHeel_0 9 rfl)
theorem dX10_firstHeel_16 : decode cX10_firstHeel 16 = .ok (.ldc 44, 2) := dk_18 (dw rcX10_firstHeel_0 10 rfl)
theorem dX10_firstHeel_18 : decode cX10_firstHeel 18 = .ok (.iastore, 1) := dk_79 (dw rcX10_firstHeel_0 11 rfl)
theorem dX10_firstHeel_19 : decode cX10_firstHeel 19 = .ok (.aload_n 1, 1) := dk_43 (dw rcX10_firstHeel_0 12 rfl)
theorem dX10_firstHeel_20 : decode cX10_firstHeel 20 = .ok (.getfield 34, 3) := dk_180 (dw rcX10_firstHeel_0 13 rfl) rfl
theorem dX10_firstHeel_23 : decode cX10_firstHeel 23 = .ok (.istore 5, 2) := dk_54 (dw rcX10_firstHeel_0 14 rfl)
theorem dX10_firstHeel_25 : decode cX10_firstHeel 25 = .ok (.iload 5, 2) := dk_21 (dw rcX10_firstHeel_0 15 rfl)
theorem dX10_firstHeel_27 : decode cX10_firstHeel 27 = .ok (.ifCond .lt 71, 3) := dk_155 (dw rcX10_firstHeel_0 16 rfl) rfl
theorem dX10_firstHeel_30 : decode cX10_firstHeel 30 = .ok (.iload 5, 2) := dk_21 (dw rcX10_firstHeel_0 17 rfl)
theorem dX10_firstHeel_32 : decode cX10_firstHeel 32 = .ok (.aload_n 1, 1) := dk_43 (dw rcX10_firstHeel_0 18 rfl)
theorem dX10_firstHeel_33 : decode cX10_firstHeel 33 = .ok (.getfield 58, 3) := dk_180 (dw rcX10_firstHeel_0 19 rfl) rfl
theorem dX10_firstHeel_36 : decode cX10_firstHeel 36 = .ok (.if_icmp .ge 17, 3) := dk_162 (dw rcX10_firstHeel_0 20 rfl) rfl
theorem dX10_firstHeel_39 : decode cX10_firstHeel 39 = .ok (.aload 4, 2) := dk_25 (dw rcX10_firstHeel_0 21 rfl)
theorem dX10_firstHeel_41 : decode cX10_firstHeel 41 = .ok (.iload 5, 2) := dk_21 (dw rcX10_firstHeel_0 22 rfl)
theorem dX10_firstHeel_43 : decode cX10_firstHeel 43 = .ok (.iload_n 2, 1) := dk_28 (dw rcX10_firstHeel_0 23 rfl)
noncomputable def rbX10_firstHeel_44 : List (Nat × List Nat) := [(44, [96]), (45, [46]), (46, [21, 5]), (48, [29]), (49, [96]), (50, [163, 0, 7]), (53, [4]), (54, [167, 0, 4]), (57, [3]), (58, [54, 6]), (60, [25, 4]), (62, [21, 5]), (64, [43]), (65, [180, 0, 55]), (68, [21, 5]), (70, [51]), (71, [153, 0, 13]), (74, [21, 6]), (76, [153, 0, 8]), (79, [21, 5]), (81, [167, 0, 10]), (84, [25, 4]), (86, [21, 5]), (88, [4])]
theorem rcX10_firstHeel_44 : dgo (lb cX10_firstHeel) 0 rbX10_firstHeel_44 = true := by decide +kernel
theorem dX10_firstHeel_44 : decode cX10_firstHeel 44 = .ok (.iadd, 1) := dk_96 (dw rcX10_firstHeel_44 0 rfl)
theorem dX10_firstHeel_45 : decode cX10_firstHeel 45 = .ok (.iaload, 1) := dk_46 (dw rcX10_firstHeel_44 1 rfl)
theorem dX10_firstHeel_46 : decode cX10_firstHeel 46 = .ok (.iload 5, 2) := dk_21 (dw rcX10_firstHeel_44 2 rfl)
theorem dX10_firstHeel_48 : decode cX10_firstHeel 48 = .ok (.iload_n 3, 1) := dk_29 (dw rcX10_firstHeel_44 3 rfl)
theorem dX10_firstHeel_49 : decode cX10_firstHeel 49 = .ok (.iadd, 1) := dk_96 (dw rcX10_firstHeel_44 4 rfl)
theorem dX10_firstHeel_50 : decode cX10_firstHeel 50 = .ok (.if_icmp .gt 7, 3) := dk_163 (dw rcX10_firstHeel_44 5 rfl) rfl
theorem dX10_firstHeel_53 : decode cX10_firstHeel 53 = .ok (.iconst 1, 1) := dk_4 (dw rcX10_firstHeel_44 6 rfl)
theorem dX10_firstHeel_54 : decode cX10_firstHeel 54 = .ok (.goto 4, 3) := dk_167 (dw rcX10_firstHeel_44 7 rfl) rfl
theorem dX10_firstHeel_57 : decode cX10_firstHeel 57 = .ok (.iconst 0, 1) := dk_3 (dw rcX10_firstHeel_44 8 rfl)
theorem dX10_firstHeel_58 : decode cX10_firstHeel 58 = .ok (.istore 6, 2) := dk_54 (dw rcX10_firstHeel_44 9 rfl)
theorem dX10_firstHeel_60 : decode cX10_firstHeel 60 = .ok (.aload 4, 2) := dk_25 (dw rcX10_firstHeel_44 10 rfl)
theorem dX10_firstHeel_62 : decode cX10_firstHeel 62 = .ok (.iload 5, 2) := dk_21 (dw rcX10_firstHeel_44 11 rfl)
theorem dX10_firstHeel_64 : decode cX10_firstHeel 64 = .ok (.aload_n 1, 1) := dk_43 (dw rcX10_firstHeel_44 12 rfl)
theorem dX10_firstHeel_65 : decode cX10_firstHeel 65 = .ok (.getfield 55, 3) := dk_180 (dw rcX10_firstHeel_44 13 rfl) rfl
theorem dX10_firstHeel_68 : decode cX10_firstHeel 68 = .ok (.iload 5, 2) := dk_21 (dw rcX10_firstHeel_44 14 rfl)
theorem dX10_firstHeel_70 : decode cX10_firstHeel 70 = .ok (.baload, 1) := dk_51 (dw rcX10_firstHeel_44 15 rfl)
theorem dX10_firstHeel_71 : decode cX10_firstHeel 71 = .ok (.ifCond .eq 13, 3) := dk_153 (dw rcX10_firstHeel_44 16 rfl) rfl
theorem dX10_firstHeel_74 : decode cX10_firstHeel 74 = .ok (.iload 6, 2) := dk_21 (dw rcX10_firstHeel_44 17 rfl)
theorem dX10_firstHeel_76 : decode cX10_firstHeel 76 = .ok (.ifCond .eq 8, 3) := dk_153 (dw rcX10_firstHeel_44 18 rfl) rfl
theorem dX10_firstHeel_79 : decode cX10_firstHeel 79 = .ok (.iload 5, 2) := dk_21 (dw rcX10_firstHeel_44 19 rfl)
theorem dX10_firstHeel_81 : decode cX10_firstHeel 81 = .ok (.goto 10, 3) := dk_167 (dw rcX10_firstHeel_44 20 rfl) rfl
theorem dX10_firstHeel_84 : decode cX10_firstHeel 84 = .ok (.aload 4, 2) := dk_25 (dw rcX10_firstHeel_44 21 rfl)
theorem dX10_firstHeel_86 : decode cX10_firstHeel 86 = .ok (.iload 5, 2) := dk_21 (dw rcX10_firstHeel_44 22 rfl)
theorem dX10_firstHeel_88 : decode cX10_firstHeel 88 = .ok (.iconst 1, 1) := dk_4 (dw rcX10_firstHeel_44 23 rfl)
noncomputable def rbX10_firstHeel_89 : List (Nat × List Nat) := [(89, [96]), (90, [46]), (91, [79]), (92, [132, 5, 255]), (95, [167, 255, 186]), (98, [25, 4]), (100, [3]), (101, [46]), (102, [172])]
theorem rcX10_firstHeel_89 : dgo (lb cX10_firstHeel) 0 rbX10_firstHeel_89 = true := by decide +kernel
theorem dX10_firstHeel_89 : decode cX10_firstHeel 89 = .ok (.iadd, 1) := dk_96 (dw rcX10_firstHeel_89 0 rfl)
theorem dX10_firstHeel_90 : decode cX10_firstHeel 90 = .ok (.iaload, 1) := dk_46 (dw rcX10_firstHeel_89 1 rfl)
theorem dX10_firstHeel_91 : decode cX10_firstHeel 91 = .ok (.iastore, 1) := dk_79 (dw rcX10_firstHeel_89 2 rfl)
theorem dX10_firstHeel_92 : decode cX10_firstHeel 92 = .ok (.iinc 5 (-1), 3) := dk_132 (dw rcX10_firstHeel_89 3 rfl) rfl
theorem dX10_firstHeel_95 : decode cX10_firstHeel 95 = .ok (.goto (-70), 3) := dk_167 (dw rcX10_firstHeel_89 4 rfl) rfl
theorem dX10_firstHeel_98 : decode cX10_firstHeel 98 = .ok (.aload 4, 2) := dk_25 (dw rcX10_firstHeel_89 5 rfl)
theorem dX10_firstHeel_100 : decode cX10_firstHeel 100 = .ok (.iconst 0, 1) := dk_3 (dw rcX10_firstHeel_89 6 rfl)
theorem dX10_firstHeel_101 : decode cX10_firstHeel 101 = .ok (.iaload, 1) := dk_46 (dw rcX10_firstHeel_89 7 rfl)
theorem dX10_firstHeel_102 : decode cX10_firstHeel 102 = .ok (.ireturn, 1) := dk_172 (dw rcX10_firstHeel_89 8 rfl)
noncomputable def rbX10_mostEven_0 : List (Nat × List Nat) := [(0, [43]), (1, [180, 0, 64]), (4, [43]), (5, [180, 0, 58]), (8, [184, 0, 49]), (11, [62]), (12, [18, 44]), (14, [54, 4]), (16, [2]), (17, [54, 5]), (19, [43]), (20, [180, 0, 61]), (23, [54, 6]), (25, [43]), (26, [180, 0, 61]), (29, [54, 7]), (31, [21, 7]), (33, [43]), (34, [180, 0, 64]), (37, [163, 0, 76]), (40, [21, 6]), (42, [21, 7]), (44, [184, 0, 82]), (47, [54, 6])]
theorem rcX10_mostEven_0 : dgo (lb cX10_mostEven) 0 rbX10_mostEven_0 = true := by decide +kernel
theorem dX10_mostEven_0 : decode cX10_mostEven 0 = .ok (.aload_n 1, 1) := dk_43 (dw rcX10_mostEven_0 0 rfl)
theorem dX10_mostEven_1 : decode cX10_mostEven 1 = .ok (.getfield 64, 3) := dk_180 (dw rcX10_mostEven_0 1 rfl) rfl
theorem dX10_mostEven_4 : decode cX10_mostEven 4 = .ok (.aload_n 1, 1) := dk_43 (dw rcX10_mostEven_0 2 rfl)
theorem dX10_mostEven_5 : decode cX10_mostEven 5 = .ok (.getfield 58, 3) := dk_180 (dw rcX10_mostEven_0 3 rfl) rfl
theorem dX10_mostEven_8 : decode cX10_mostEven 8 = .ok (.invokestatic 49, 3) := dk_184 (dw rcX10_mostEven_0 4 rfl) rfl
theorem dX10_mostEven_11 : decode cX10_mostEven 11 = .ok (.istore_n 3, 1) := dk_62 (dw rcX10_mostEven_0 5 rfl)
theorem dX10_mostEven_12 : decode cX10_mostEven 12 = .ok (.ldc 44, 2) := dk_18 (dw rcX10_mostEven_0 6 rfl)
theorem dX10_mostEven_14 : decode cX10_mostEven 14 = .ok (.istore 4, 2) := dk_54 (dw rcX10_mostEven_0 7 rfl)
theorem dX10_mostEven_16 : decode cX10_mostEven 16 = .ok (.iconst (-1), 1) := dk_2 (dw rcX10_mostEven_0 8 rfl)
theorem dX10_mostEven_17 : decode cX10_mostEven 17 = .ok (.istore 5, 2) := dk_54 (dw rcX10_mostEven_0 9 rfl)
theorem dX10_mostEven_19 : decode cX10_mostEven 19 = .ok (.aload_n 1, 1) := dk_43 (dw rcX10_mostEven_0 10 rfl)
theorem dX10_mostEven_20 : decode cX10_mostEven 20 = .ok (.getfield 61, 3) := dk_180 (dw rcX10_mostEven_0 11 rfl) rfl
theorem dX10_mostEven_23 : decode cX10_mostEven 23 = .ok (.istore 6, 2) := dk_54 (dw rcX10_mostEven_0 12 rfl)
theorem dX10_mostEven_25 : decode cX10_mostEven 25 = .ok (.aload_n 1, 1) := dk_43 (dw rcX10_mostEven_0 13 rfl)
theorem dX10_mostEven_26 : decode cX10_mostEven 26 = .ok (.getfield 61, 3) := dk_180 (dw rcX10_mostEven_0 14 rfl) rfl
theorem dX10_mostEven_29 : decode cX10_mostEven 29 = .ok (.istore 7, 2) := dk_54 (dw rcX10_mostEven_0 15 rfl)
theorem dX10_mostEven_31 : decode cX10_mostEven 31 = .ok (.iload 7, 2) := dk_21 (dw rcX10_mostEven_0 16 rfl)
theorem dX10_mostEven_33 : decode cX10_mostEven 33 = .ok (.aload_n 1, 1) := dk_43 (dw rcX10_mostEven_0 17 rfl)
theorem dX10_mostEven_34 : decode cX10_mostEven 34 = .ok (.getfield 64, 3) := dk_180 (dw rcX10_mostEven_0 18 rfl) rfl
theorem dX10_mostEven_37 : decode cX10_mostEven 37 = .ok (.if_icmp .gt 76, 3) := dk_163 (dw rcX10_mostEven_0 19 rfl) rfl
theorem dX10_mostEven_40 : decode cX10_mostEven 40 = .ok (.iload 6, 2) := dk_21 (dw rcX10_mostEven_0 20 rfl)
theorem dX10_mostEven_42 : decode cX10_mostEven 42 = .ok (.iload 7, 2) := dk_21 (dw rcX10_mostEven_0 21 rfl)
theorem dX10_mostEven_44 : decode cX10_mostEven 44 = .ok (.invokestatic 82, 3) := dk_184 (dw rcX10_mostEven_0 22 rfl) rfl
theorem dX10_mostEven_47 : decode cX10_mostEven 47 = .ok (.istore 6, 2) := dk_54 (dw rcX10_mostEven_0 23 rfl)
noncomputable def rbX10_mostEven_49 : List (Nat × List Nat) := [(49, [21, 6]), (51, [43]), (52, [180, 0, 64]), (55, [163, 0, 22]), (58, [42]), (59, [43]), (60, [21, 7]), (62, [21, 6]), (64, [182, 0, 78]), (67, [29]), (68, [161, 0, 9]), (71, [132, 6, 1]), (74, [167, 255, 231]), (77, [21, 6]), (79, [43]), (80, [180, 0, 64]), (83, [163, 0, 24]), (86, [21, 6]), (88, [21, 7]), (90, [100]), (91, [21, 4]), (93, [162, 0, 14]), (96, [21, 6]), (98, [21, 7])]
theorem rcX10_mostEven_49 : dgo (lb cX10_mostEven) 0 rbX10_mostEven_49 = true := by decide +kernel
theorem dX10_mostEven_49 : decode cX10_mostEven 49 = .ok (.iload 6, 2) := dk_21 (dw rcX10_mostEven_49 0 rfl)
theorem dX10_mostEven_51 : decode cX10_mostEven 51 = .ok (.aload_n 1, 1) := dk_43 (dw rcX10_mostEven_49 1 rfl)
theorem dX10_mostEven_52 : decode cX10_mostEven 52 = .ok (.getfield 64, 3) := dk_180 (dw rcX10_mostEven_49 2 rfl) rfl
theorem dX10_mostEven_55 : decode cX10_mostEven 55 = .ok (.if_icmp .gt 22, 3) := dk_163 (dw rcX10_mostEven_49 3 rfl) rfl
theorem dX10_mostEven_58 : decode cX10_mostEven 58 = .ok (.aload_n 0, 1) := dk_42 (dw rcX10_mostEven_49 4 rfl)
theorem dX10_mostEven_59 : decode cX10_mostEven 59 = .ok (.aload_n 1, 1) := dk_43 (dw rcX10_mostEven_49 5 rfl)
theorem dX10_mostEven_60 : decode cX10_mostEven 60 = .ok (.iload 7, 2) := dk_21 (dw rcX10_mostEven_49 6 rfl)
theorem dX10_mostEven_62 : decode cX10_mostEven 62 = .ok (.iload 6, 2) := dk_21 (dw rcX10_mostEven_49 7 rfl)
theorem dX10_mostEven_64 : decode cX10_mostEven 64 = .ok (.invokevirtual 78, 3) := dk_182 (dw rcX10_mostEven_49 8 rfl) rfl
theorem dX10_mostEven_67 : decode cX10_mostEven 67 = .ok (.iload_n 3, 1) := dk_29 (dw rcX10_mostEven_49 9 rfl)
theorem dX10_mostEven_68 : decode cX10_mostEven 68 = .ok (.if_icmp .lt 9, 3) := dk_161 (dw rcX10_mostEven_49 10 rfl) rfl
theorem dX10_mostEven_71 : decode cX10_mostEven 71 = .ok (.iinc 6 1, 3) := dk_132 (dw rcX10_mostEven_49 11 rfl) rfl
theorem dX10_mostEven_74 : decode cX10_mostEven 74 = .ok (.goto (-25), 3) := dk_167 (dw rcX10_mostEven_49 12 rfl) rfl
theorem dX10_mostEven_77 : decode cX10_mostEven 77 = .ok (.iload 6, 2) := dk_21 (dw rcX10_mostEven_49 13 rfl)
theorem dX10_mostEven_79 : decode cX10_mostEven 79 = .ok (.aload_n 1, 1) := dk_43 (dw rcX10_mostEven_49 14 rfl)
theorem dX10_mostEven_80 : decode cX10_mostEven 80 = .ok (.getfield 64, 3) := dk_180 (dw rcX10_mostEven_49 15 rfl) rfl
theorem dX10_mostEven_83 : decode cX10_mostEven 83 = .ok (.if_icmp .gt 24, 3) := dk_163 (dw rcX10_mostEven_49 16 rfl) rfl
theorem dX10_mostEven_86 : decode cX10_mostEven 86 = .ok (.iload 6, 2) := dk_21 (dw rcX10_mostEven_49 17 rfl)
theorem dX10_mostEven_88 : decode cX10_mostEven 88 = .ok (.iload 7, 2) := dk_21 (dw rcX10_mostEven_49 18 rfl)
theorem dX10_mostEven_90 : decode cX10_mostEven 90 = .ok (.isub, 1) := dk_100 (dw rcX10_mostEven_49 19 rfl)
theorem dX10_mostEven_91 : decode cX10_mostEven 91 = .ok (.iload 4, 2) := dk_21 (dw rcX10_mostEven_49 20 rfl)
theorem dX10_mostEven_93 : decode cX10_mostEven 93 = .ok (.if_icmp .ge 14, 3) := dk_162 (dw rcX10_mostEven_49 21 rfl) rfl
theorem dX10_mostEven_96 : decode cX10_mostEven 96 = .ok (.iload 6, 2) := dk_21 (dw rcX10_mostEven_49 22 rfl)
theorem dX10_mostEven_98 : decode cX10_mostEven 98 = .ok (.iload 7, 2) := dk_21 (dw rcX10_mostEven_49 23 rfl)
noncomputable def rbX10_mostEven_100 : List (Nat × List Nat) := [(100, [100]), (101, [54, 4]), (103, [21, 7]), (105, [54, 5]), (107, [132, 7, 1]), (110, [167, 255, 177]), (113, [21, 5]), (115, [2]), (116, [159, 0, 8]), (119, [28]), (120, [4]), (121, [160, 0, 8]), (124, [21, 5]), (126, [167, 0, 5]), (129, [21, 4]), (131, [172])]
theorem rcX10_mostEven_100 : dgo (lb cX10_mostEven) 0 rbX10_mostEven_100 = true := by decide +kernel
theorem dX10_mostEven_100 : decode cX10_mostEven 100 = .ok (.isub, 1) := dk_100 (dw rcX10_mostEven_100 0 rfl)
theorem dX10_mostEven_101 : decode cX10_mostEven 101 = .ok (.istore 4, 2) := dk_54 (dw rcX10_mostEven_100 1 rfl)
theorem dX10_mostEven_103 : decode cX10_mostEven 103 = .ok (.iload 7, 2) := dk_21 (dw rcX10_mostEven_100 2 rfl)
theorem dX10_mostEven_105 : decode cX10_mostEven 105 = .ok (.istore 5, 2) := dk_54 (dw rcX10_mostEven_100 3 rfl)
theorem dX10_mostEven_107 : decode cX10_mostEven 107 = .ok (.iinc 7 1, 3) := dk_132 (dw rcX10_mostEven_100 4 rfl) rfl
theorem dX10_mostEven_110 : decode cX10_mostEven 110 = .ok (.goto (-79), 3) := dk_167 (dw rcX10_mostEven_100 5 rfl) rfl
theorem dX10_mostEven_113 : decode cX10_mostEven 113 = .ok (.iload 5, 2) := dk_21 (dw rcX10_mostEven_100 6 rfl)
theorem dX10_mostEven_115 : decode cX10_mostEven 115 = .ok (.iconst (-1), 1) := dk_2 (dw rcX10_mostEven_100 7 rfl)
theorem dX10_mostEven_116 : decode cX10_mostEven 116 = .ok (.if_icmp .eq 8, 3) := dk_159 (dw rcX10_mostEven_100 8 rfl) rfl
theorem dX10_mostEven_119 : decode cX10_mostEven 119 = .ok (.iload_n 2, 1) := dk_28 (dw rcX10_mostEven_100 9 rfl)
theorem dX10_mostEven_120 : decode cX10_mostEven 120 = .ok (.iconst 1, 1) := dk_4 (dw rcX10_mostEven_100 10 rfl)
theorem dX10_mostEven_121 : decode cX10_mostEven 121 = .ok (.if_icmp .ne 8, 3) := dk_160 (dw rcX10_mostEven_100 11 rfl) rfl
theorem dX10_mostEven_124 : decode cX10_mostEven 124 = .ok (.iload 5, 2) := dk_21 (dw rcX10_mostEven_100 12 rfl)
theorem dX10_mostEven_126 : decode cX10_mostEven 126 = .ok (.goto 5, 3) := dk_167 (dw rcX10_mostEven_100 13 rfl) rfl
theorem dX10_mostEven_129 : decode cX10_mostEven 129 = .ok (.iload 4, 2) := dk_21 (dw rcX10_mostEven_100 14 rfl)
theorem dX10_mostEven_131 : decode cX10_mostEven 131 = .ok (.ireturn, 1) := dk_172 (dw rcX10_mostEven_100 15 rfl)
set_option maxHeartbeats 4000000 in
set_option maxRecDepth 100000 in
theorem k_tFirst (l : Launch) (D : va_G) (k : KT) (A : Nat → Prop) (a : Nat → Nat) (z : SK) (G : GS) (p0 : Int32) (p1 : Int32) (ha_p0 : 0 ≤ p0.toInt ∧ p0.toInt ≤ 60) (ha_p1 : 0 ≤ p1.toInt ∧ p1.toInt ≤ 60) (hci : (G.1 7 6).toInt ≤ 399 ∧ (G.1 7 3).toInt ≤ (G.1 7 4).toInt ∧ ((G.1 7 7).toInt ≤ 0 ∨ (G.1 7 7).toInt + (G.1 7 4).toInt ≤ (G.1 7 6).toInt + 1)) (hs : p0.toInt ≤ (G.1 7 4).toInt) : Met l yX10_firstHeel (WS yX10_firstHeel cX10_firstHeel 7 (some .int)) ({ frames := 0, cells := 0, slots := 0, locals := 0 }) (va_Pc [.ref (a 8), .ref (a 7), .int p0, .int p1] (cW D k A a z G)) (va_Qi (fun (r : Int32) (G1 : GS) => P_tFirst p0 p1 G r G1) (fun (G1 : GS) t => Wd D k A a G1 t.heap) A) 0 0 A := by
  refine Met.ofW (cc := cX10_firstHeel) (maxL := 7) (ret := (some .int)) (by decide) rfl ?_
  intro p e s m args below meth c s₁ B hml hv
  obtain ⟨rfl, hW, hB_G, hK, hZ⟩ := hv
  have hx := B.exec
  have hb := B.bytes
  have hr := B.returns
  have hts := atoms_spec (ws := WS yX10_firstHeel cX10_firstHeel 7 (some .int)) B.pre
  have hgd : ∀ w ∈ gd, w ∈ WS yX10_firstHeel cX10_firstHeel 7 (some .int) := fun w h => List.mem_cons_of_mem _ h
  have hg : ∀ w ∈ gd, w.before _ s = true := fun w h => hts w (hgd w h)
  have hown : s.vm.findClass RX10 = some m.cls := findClass_of_methodNamed B.named
  have hS : va_S A s.heap s.heap [] := va_S.rf
  have hF : Fr [42] [] G G := Fr.rf
  have hl := lv_entry ([.ref (a 8), .ref (a 7), .int p0, .int p1]) (n := 7) (Nat.le_of_ble_eq_true rfl)
  rw [lg_entry_eq]
  generalize (lg_sl ([.ref (a 8), .ref (a 7), .int p0, .int p1]) ++ List.replicate (7 - (lg_sl ([.ref (a 8), .ref (a 7), .int p0, .int p1])).length) Slot.unset).toArray = ls at hl ⊢
  have hl : lv_has ls 7 [(0, .ref (a 8)), (1, .ref (a 7)), (2, .int p0), (3, .int p1)] := hl
  have b_1 : (-1) ≤ (G.1 7 6).toInt ∧ (G.1 7 6).toInt ≤ 400 := bd_7_6 hB_G
  refine lv_aload_n hx hb dX10_firstHeel_0 rfl (lv_at hl 0 rfl) ?_
  refine S_getR (n := 41) (C := RX10) (T := TX10) (N := 5) hx hb hg iX10 hown hK hW kd_8 rfl 0 (lt_b rfl) (hg (Cond.fieldLink RX10 13 "SlabWalk$Trails" "rows" "[[I") m440) (fun _ h9 => h9) rfl dX10_firstHeel_1 ?_
  refine ic_0 hx hb dX10_firstHeel_4 ?_
  refine S_aald hx hb hK hW kd_41 (vin (by decide) (by decide)) dX10_firstHeel_5 ?_
  refine rows_at (n := 42) (rows_c hB_G 0 (by decide)) ?_
  refine lv_astore (lv' := [(4, .ref (a 42)), (0, .ref (a 8)), (1, .ref (a 7)), (2, .int p0), (3, .int p1)]) hx hb dX10_firstHeel_6 hl (lt_b rfl) rfl (fun ls hl => ?_)
  refine lv_aload hx hb dX10_firstHeel_8 (lv_at hl 0 rfl) ?_
  refine lv_aload_n hx hb dX10_firstHeel_10 rfl (lv_at hl 2 rfl) ?_
  refine S_getI (v := (G.1 7 6)) (C := RX0) (T := TX0) (N := 8) hx hb hg iX0 hown hK hW kd_7 rfl 6 (lt_b rfl) (hg (Cond.fieldLink RX10 34 "SlabWalk$Course" "last" "I") m388) (fun _ h9 => h9) rfl rfl dX10_firstHeel_11 ?_
  refine ic_1 hx hb dX10_firstHeel_14 ?_
  refine lv_iadd hx hb dX10_firstHeel_15 ?_
  refine lv_topi (fun y_2 ey_2 => ?_)
  have ty_2 : y_2.toInt = (G.1 7 6).toInt + 1 := xI_add rfl rfl ey_2 ((by first | exact ok_263 b_1.1 | omega)) ((by first | exact ok_264 hci.1 | omega))
  refine lv_ldc (v := 1000000) hx hb hown (hg (Cond.constant RX10 44 1000000) m997) dX10_firstHeel_16 ?_
  refine S_iast hx hb hK hW hS kd_42 (vin ((by first | exact ok_266 b_1.1 ty_2 | omega)) ((by first | exact ok_332 hci.1 ty_2 | omega))) dX10_firstHeel_18 (fun G_3 H locs eG_3 hW hS => ?_)
  have hB_G_3 : Bd G_3 := hB_G.put (lo := (-2147483648)) (hi := 2147483647) eG_3 rfl rfl rfl (tI_rng _).1 (tI_rng _).2 (hB_G.2.put eG_3 rfl)
  have hF := hF.put eG_3 (Or.inl (by decide))
  refine lv_aload_n hx hb dX10_firstHeel_19 rfl (lv_at hl 2 rfl) ?_
  refine S_getI (v := (G.1 7 6)) (C := RX0) (T := TX0) (N := 8) hx hb hg iX0 hown hK hW kd_7 rfl 6 (lt_b rfl) (hg (Cond.fieldLink RX10 34 "SlabWalk$Course" "last" "I") m388) (fun _ h9 => h9) rfl ((gp_ne eG_3 (fun q => absurd q.1 (Nat.ne_of_beq_eq_false rfl))).trans (rfl)) dX10_firstHeel_20 ?_
  refine lv_istore (lv' := [(5, .int (G.1 7 6)), (4, .ref (a 42)), (0, .ref (a 8)), (1, .ref (a 7)), (2, .int p0), (3, .int p1)]) hx hb dX10_firstHeel_23 hl (lt_b rfl) rfl (fun ls hl => ?_)
  refine loop_N (Inv := fun n H locs ls => ∃ (G_4 : GS) (x_8 : Int32), (n : Int) = x_8.toInt - (-1) ∧ ((-1) ≤ x_8.toInt ∧ x_8.toInt ≤ 399) ∧ Rc (St_k_tFirst_1 p0 p1 G) ((G.1 7 6), G_3) (x_8, G_4) ∧ Wd D k A a G_4 H ∧ Bd G_4 ∧ Fr [42] [] G G_4 ∧ Fr [42] [] G_3 G_4 ∧ va_S A s.heap H locs ∧ lv_has ls 7 [(5, .int x_8), (4, .ref (a 42)), (1, .ref (a 7)), (2, .int p0), (3, .int p1)]) (fun n_7 H locs ls ih_6 hI => ?_) ((G.1 7 6).toInt - (-1) : Int).toNat ⟨G_3, (G.1 7 6), (Int.toNat_of_nonneg ((by first | exact ok_314 b_1.1 | omega))), ⟨(by first | exact b_1.1 | omega), (by first | exact hci.1 | omega)⟩, Rc.rf, hW, hB_G_3, hF, Fr.rf, hS, lv_sub hl [0, 1, 3, 4, 5] rfl⟩
  obtain ⟨G_4, x_8, hn_11, f_10, hX_9, hW, hB_G_4, hF, hq_5, hS, hl⟩ := hI
  refine lv_iload hx hb dX10_firstHeel_25 (lv_at hl 0 rfl) ?_
  refine lv_if_lt (tgt := 98) hx hb dX10_firstHeel_27 rfl (fun c_12 => ?_) (fun c_12 => ?_)
  · have c_12 : x_8.toInt < 0 := xI_lt rfl rfl c_12
    refine lv_aload hx hb dX10_firstHeel_98 (lv_at hl 1 rfl) ?_
    refine ic_0 hx hb dX10_firstHeel_100 ?_
    refine S_iald hx hb hK hW kd_42 (vin (by decide) (by decide)) dX10_firstHeel_101 (fun y_13 ey_13 => ?_)
    exact W.iret (v := y_13) hx hb hr (fun t ht _ => ⟨⟨y_13, G_4, rfl, (P_tFirst_mk ⟨hB_G_4, hF, ⟨y_2, ty_2, ⟨G_3, hB_G_3, (Fr.put (rs := [42]) (fs := []) Fr.rf eG_3 (Or.inl (by decide))), rw_ast eG_3, ⟨x_8, G_4, hX_9, f_10, hB_G_4, hq_5, ⟨c_12, ⟨y_13, ey_13, ⟨rfl, rfl⟩⟩⟩⟩⟩⟩⟩), wd_t ht hW⟩, hS.F ht⟩) hS.2.2 dX10_firstHeel_102
  · have c_12 : 0 ≤ x_8.toInt := xI_nlt rfl rfl c_12
    refine lv_iload hx hb dX10_firstHeel_30 (lv_at hl 0 rfl) ?_
    refine lv_aload_n hx hb dX10_firstHeel_32 rfl (lv_at hl 2 rfl) ?_
    have b_14 : 0 ≤ (G.1 7 7).toInt ∧ (G.1 7 7).toInt ≤ 400 := bd_7_7 hB_G
    refine S_getI (v := (G.1 7 7)) (C := RX0) (T := TX0) (N := 8) hx hb hg iX0 hown hK hW kd_7 rfl 7 (lt_b rfl) (hg (Cond.fieldLink RX10 58 "SlabWalk$Course" "end" "I") m394) (fun _ h9 => h9) rfl ((hq_5.i9 7 7 rfl rfl).trans (gp_ne eG_3 (fun q => absurd q.1 (Nat.ne_of_beq_eq_false rfl)))) dX10_firstHeel_33 ?_
    refine W.cut (σ := Unit) (pcJ := 53) (J := fun y H locs ls => ∃ (G_20 : GS), Jn_k_tFirst_2 p0 p1 x_8 G G_4 G_20 ∧ Wd D k A a G_20 H ∧ Bd G_20 ∧ Fr [42] [] G G_20 ∧ Fr [] [] G_4 G_20 ∧ va_S A s.heap H locs ∧ lv_has ls 7 [(5, .int x_8), (4, .ref (a 42)), (1, .ref (a 7)), (2, .int p0), (3, .int p1)]) (stJ := fun _ => []) ?_ (fun hJ_21 => ?_)
    · intro y H locs ls hI
      obtain ⟨G_20, hX_23, hW, hB_G_20, hF, hq_22, hS, hl⟩ := hI
      refine ic_1 hx hb dX10_firstHeel_53 ?_
      refine lv_goto (tgt := 58) hx hb dX10_firstHeel_54 rfl ?_
      refine lv_istore (lv' := [(6, .int 1), (5, .int x_8), (4, .ref (a 42)), (1, .ref (a 7)), (2, .int p0), (3, .int p1)]) hx hb dX10_firstHeel_58 hl (lt_b rfl) rfl (fun ls hl => ?_)
      refine lv_aload hx hb dX10_firstHeel_60 (lv_at hl 2 rfl) ?_
      refine lv_iload hx hb dX10_firstHeel_62 (lv_at hl 1 rfl) ?_
      refine lv_aload_n hx hb dX10_firstHeel_64 rfl (lv_at hl 3 rfl) ?_
      refine S_getR (n := 40) (C := RX0) (T := TX0) (N := 8) hx hb hg iX0 hown hK hW kd_7 rfl 0 (lt_b rfl) (hg (Cond.fieldLink RX10 55 "SlabWalk$Course" "lawful" "[Z") m373) (fun _ h9 => h9) rfl dX10_firstHeel_65 ?_
      refine lv_iload hx hb dX10_firstHeel_68 (lv_at hl 1 rfl) ?_
      refine S_zald hx hb hK hW kd_40 (vin ((by first | exact c_12 | omega)) ((by first | exact ok_189 f_10.2 | omega))) dX10_firstHeel_70 (fun y_24 ey_24 => ?_)
      have ty_24 : 0 ≤ y_24.toInt ∧ y_24.toInt ≤ 1 := bv_40 hB_G_20 ey_24
      refine lv_if_eq (tgt := 84) hx hb dX10_firstHeel_71 rfl (fun c_25 => ?_) (fun c_25 => ?_)
      · have c_25 : y_24.toInt = 0 := xI_eq rfl rfl c_25
        refine lv_aload hx hb dX10_firstHeel_84 (lv_at hl 2 rfl) ?_
        refine lv_iload hx hb dX10_firstHeel_86 (lv_at hl 1 rfl) ?_
        refine ic_1 hx hb dX10_firstHeel_88 ?_
        refine lv_iadd hx hb dX10_firstHeel_89 ?_
        refine lv_topi (fun y_26 ey_26 => ?_)
        have ty_26 : y_26.toInt = x_8.toInt + 1 := xI_add rfl rfl ey_26 ((by first | exact ok_21 c_12 | omega)) ((by first | exact ok_264 f_10.2 | omega))
        refine S_iald hx hb hK hW kd_42 (vin ((by first | exact ok_23 c_12 ty_26 | omega)) ((by first | exact ok_332 f_10.2 ty_26 | omega))) dX10_firstHeel_90 (fun y_27 ey_27 => ?_)
        refine S_iast hx hb hK hW hS kd_42 (vin ((by first | exact c_12 | omega)) ((by first | exact ok_304 f_10.2 | omega))) dX10_firstHeel_91 (fun G_28 H locs eG_28 hW hS => ?_)
        have hB_G_28 : Bd G_28 := hB_G_20.put (lo := (-2147483648)) (hi := 2147483647) eG_28 rfl rfl rfl (tI_rng _).1 (tI_rng _).2 (hB_G_20.2.put eG_28 rfl)
        have hF := hF.put eG_28 (Or.inl (by decide))
        obtain ⟨y_29, ey_29⟩ : ∃ q, q = x_8 + (-1) := ⟨_, rfl⟩
        have ty_29 : y_29.toInt = x_8.toInt + (-1) := xI_add rfl rfl ey_29 ((by first | exact ok_190 c_12 | omega)) ((by first | exact ok_191 f_10.2 | omega))
        refine lv_iinc (v := y_29) (lv' := [(5, .int y_29), (6, .int 1), (4, .ref (a 42)), (1, .ref (a 7)), (2, .int p0), (3, .int p1)]) hx hb dX10_firstHeel_92 hl (k := 1) rfl (by rw [ey_29]; rfl) (lt_b rfl) rfl (fun ls hl => ?_)
        refine lv_goto (tgt := 25) hx hb dX10_firstHeel_95 rfl ?_
        exact ih_6 (y_29.toInt - (-1) : Int).toNat ((by first | (clear ha_p0 ha_p1 hci hs b_1 ty_2 b_14 ty_24 c_25; omega) | omega)) _ _ _ ⟨G_28, y_29, (Int.toNat_of_nonneg ((by first | exact ok_192 c_12 ty_29 | omega))), ⟨(by first | exact ok_193 c_12 ty_29 | omega), (by first | exact ok_194 f_10.2 ty_29 | omega)⟩, (hX_9.st (St_k_tFirst_1_mk ⟨x_8, G_4, y_29, G_28, rfl, rfl, f_10, hB_G_4, ⟨c_12, (Or.inr ⟨G_20, hX_23, hB_G_20, hq_22, ⟨y_24, ey_24, (Or.inl ⟨c_25, ⟨y_26, ty_26, ⟨y_27, ey_27, ⟨y_29, ty_29, ⟨rfl, (Fr.put (rs := [42]) (fs := []) Fr.rf eG_28 (Or.inl (by decide))), rw_ast eG_28⟩⟩⟩⟩⟩)⟩⟩)⟩⟩)), hW, hB_G_28, hF, (Fr.put (rs := [42]) (fs := []) (Fr.call9 (rs := [42]) (fs := []) (Fr.call9 (rs := [42]) (fs := []) Fr.rf hq_5 rfl rfl) hq_22 rfl rfl) eG_28 (Or.inl (by decide))), hS, lv_sub hl [0, 2, 3, 4, 5] rfl⟩
      · have c_25 : y_24.toInt ≠ 0 := xI_ne rfl rfl c_25
        refine lv_iload hx hb dX10_firstHeel_74 (lv_at hl 0 rfl) ?_
        refine lv_if_eq (tgt := 84) hx hb dX10_firstHeel_76 rfl (fun c_30 => ?_) (fun c_30 => ?_)
        · have c_30 : (1 : Int) = (0 : Int) := xI_eq rfl rfl c_30
          exfalso; first | exact ok_68 c_30 | omega
        · have c_30 : (1 : Int) ≠ (0 : Int) := xI_ne rfl rfl c_30
          refine lv_iload hx hb dX10_firstHeel_79 (lv_at hl 1 rfl) ?_
          refine lv_goto (tgt := 91) hx hb dX10_firstHeel_81 rfl ?_
          refine S_iast hx hb hK hW hS kd_42 (vin ((by first | exact c_12 | omega)) ((by first | exact ok_304 f_10.2 | omega))) dX10_firstHeel_91 (fun G_31 H locs eG_31 hW hS => ?_)
          have hB_G_31 : Bd G_31 := hB_G_20.put (lo := (-2147483648)) (hi := 2147483647) eG_31 rfl rfl rfl (tI_rng _).1 (tI_rng _).2 (hB_G_20.2.put eG_31 rfl)
          have hF := hF.put eG_31 (Or.inl (by decide))
          obtain ⟨y_32, ey_32⟩ : ∃ q, q = x_8 + (-1) := ⟨_, rfl⟩
          have ty_32 : y_32.toInt = x_8.toInt + (-1) := xI_add rfl rfl ey_32 ((by first | exact ok_190 c_12 | omega)) ((by first | exact ok_191 f_10.2 | omega))
          refine lv_iinc (v := y_32) (lv' := [(5, .int y_32), (6, .int 1), (4, .ref (a 42)), (1, .ref (a 7)), (2, .int p0), (3, .int p1)]) hx hb dX10_firstHeel_92 hl (k := 1) rfl (by rw [ey_32]; rfl) (lt_b rfl) rfl (fun ls hl => ?_)
          refine lv_goto (tgt := 25) hx hb dX10_firstHeel_95 rfl ?_
          exact ih_6 (y_32.toInt - (-1) : Int).toNat ((by first | (clear ha_p0 ha_p1 hci hs b_1 ty_2 b_14 ty_24 c_25; omega) | omega)) _ _ _ ⟨G_31, y_32, (Int.toNat_of_nonneg ((by first | exact ok_192 c_12 ty_32 | omega))), ⟨(by first | exact ok_193 c_12 ty_32 | omega), (by first | exact ok_194 f_10.2 ty_32 | omega)⟩, (hX_9.st (St_k_tFirst_1_mk ⟨x_8, G_4, y_32, G_31, rfl, rfl, f_10, hB_G_4, ⟨c_12, (Or.inr ⟨G_20, hX_23, hB_G_20, hq_22, ⟨y_24, ey_24, (Or.inr ⟨c_25, ⟨y_32, ty_32, ⟨rfl, (Fr.put (rs := [42]) (fs := []) Fr.rf eG_31 (Or.inl (by decide))), rw_ast eG_31⟩⟩⟩)⟩⟩)⟩⟩)), hW, hB_G_31, hF, (Fr.put (rs := [42]) (fs := []) (Fr.call9 (rs := [42]) (fs := []) (Fr.call9 (rs := [42]) (fs := []) Fr.rf hq_5 rfl rfl) hq_22 rfl rfl) eG_31 (Or.inl (by decide))), hS, lv_sub hl [0, 2, 3, 4, 5] rfl⟩
    refine lv_icmp_ge (tgt := 53) hx hb dX10_firstHeel_36 rfl (fun c_33 => ?_) (fun c_33 => ?_)
    · have c_33 : (G.1 7 7).toInt ≤ x_8.toInt := xI_le rfl rfl c_33
      exact hJ_21 () _ _ _ ⟨G_4, (Jn_k_tFirst_2_mk (Or.inl ⟨c_33, rfl⟩)), hW, hB_G_4, hF, (Fr.rf (rs := []) (fs := [])), hS, lv_sub hl [0, 1, 2, 3, 4] rfl⟩
    · have c_33 : x_8.toInt < (G.1 7 7).toInt := xI_nle rfl rfl c_33
      refine lv_aload hx hb dX10_firstHeel_39 (lv_at hl 1 rfl) ?_
      refine lv_iload hx hb dX10_firstHeel_41 (lv_at hl 0 rfl) ?_
      refine lv_iload_n hx hb dX10_firstHeel_43 rfl (lv_at hl 3 rfl) ?_
      refine lv_iadd hx hb dX10_firstHeel_44 ?_
      refine lv_topi (fun y_34 ey_34 => ?_)
      have ty_34 : y_34.toInt = x_8.toInt + p0.toInt := xI_add rfl rfl ey_34 ((by first | exact ok_27 ha_p0.1 c_12 | omega)) ((by first | exact ok_335 ha_p0.2 f_10.2 | omega))
      refine S_iald hx hb hK hW kd_42 (vin ((by first | exact ok_116 ha_p0.1 c_12 ty_34 | omega)) ((by first | exact ok_336 ha_p0.2 hci.1 hci.2.2 hs f_10.2 c_33 ty_34 | omega))) dX10_firstHeel_45 (fun y_35 ey_35 => ?_)
      refine lv_iload hx hb dX10_firstHeel_46 (lv_at hl 0 rfl) ?_
      refine lv_iload_n hx hb dX10_firstHeel_48 rfl (lv_at hl 4 rfl) ?_
      refine lv_iadd hx hb dX10_firstHeel_49 ?_
      refine lv_topi (fun y_36 ey_36 => ?_)
      have ty_36 : y_36.toInt = x_8.toInt + p1.toInt := xI_add rfl rfl ey_36 ((by first | exact ok_27 ha_p1.1 c_12 | omega)) ((by first | exact ok_335 ha_p1.2 f_10.2 | omega))
      refine lv_icmp_gt (tgt := 57) hx hb dX10_firstHeel_50 rfl (fun c_37 => ?_) (fun c_37 => ?_)
      · have c_37 : y_36.toInt < y_35.toInt := xI_lt rfl rfl c_37
        refine ic_0 hx hb dX10_firstHeel_57 ?_
        refine lv_istore (lv' := [(6, .int 0), (5, .int x_8), (4, .ref (a 42)), (1, .ref (a 7)), (2, .int p0), (3, .int p1)]) hx hb dX10_firstHeel_58 hl (lt_b rfl) rfl (fun ls hl => ?_)
        refine lv_aload hx hb dX10_firstHeel_60 (lv_at hl 2 rfl) ?_
        refine lv_iload hx hb dX10_firstHeel_62 (lv_at hl 1 rfl) ?_
        refine lv_aload_n hx hb dX10_firstHeel_64 rfl (lv_at hl 3 rfl) ?_
        refine S_getR (n := 40) (C := RX0) (T := TX0) (N := 8) hx hb hg iX0 hown hK hW kd_7 rfl 0 (lt_b rfl) (hg (Cond.fieldLink RX10 55 "SlabWalk$Course" "lawful" "[Z") m373) (fun _ h9 => h9) rfl dX10_firstHeel_65 ?_
        refine lv_iload hx hb dX10_firstHeel_68 (lv_at hl 1 rfl) ?_
        refine S_zald hx hb hK hW kd_40 (vin ((by first | exact c_12 | omega)) ((by first | exact ok_189 f_10.2 | omega))) dX10_firstHeel_70 (fun y_38 ey_38 => ?_)
        have ty_38 : 0 ≤ y_38.toInt ∧ y_38.toInt ≤ 1 := bv_40 hB_G_4 ey_38
        refine lv_if_eq (tgt := 84) hx hb dX10_firstHeel_71 rfl (fun c_39 => ?_) (fun c_39 => ?_)
        · have c_39 : y_38.toInt = 0 := xI_eq rfl rfl c_39
          refine lv_aload hx hb dX10_firstHeel_84 (lv_at hl 2 rfl) ?_
          refine lv_iload hx hb dX10_firstHeel_86 (lv_at hl 1 rfl) ?_
          refine ic_1 hx hb dX10_firstHeel_88 ?_
          refine lv_iadd hx hb dX10_firstHeel_89 ?_
          refine lv_topi (fun y_40 ey_40 => ?_)
          have ty_40 : y_40.toInt = x_8.toInt + 1 := xI_add rfl rfl ey_40 ((by first | exact ok_21 c_12 | omega)) ((by first | exact ok_264 f_10.2 | omega))
          refine S_iald hx hb hK hW kd_42 (vin ((by first | exact ok_23 c_12 ty_40 | omega)) ((by first | exact ok_332 f_10.2 ty_40 | omega))) dX10_firstHeel_90 (fun y_41 ey_41 => ?_)
          refine S_iast hx hb hK hW hS kd_42 (vin ((by first | exact c_12 | omega)) ((by first | exact ok_304 f_10.2 | omega))) dX10_firstHeel_91 (fun G_42 H locs eG_42 hW hS => ?_)
          have hB_G_42 : Bd G_42 := hB_G_4.put (lo := (-2147483648)) (hi := 2147483647) eG_42 rfl rfl rfl (tI_rng _).1 (tI_rng _).2 (hB_G_4.2.put eG_42 rfl)
          have hF := hF.put eG_42 (Or.inl (by decide))
          obtain ⟨y_43, ey_43⟩ : ∃ q, q = x_8 + (-1) := ⟨_, rfl⟩
          have ty_43 : y_43.toInt = x_8.toInt + (-1) := xI_add rfl rfl ey_43 ((by first | exact ok_190 c_12 | omega)) ((by first | exact ok_191 f_10.2 | omega))
          refine lv_iinc (v := y_43) (lv' := [(5, .int y_43), (6, .int 0), (4, .ref (a 42)), (1, .ref (a 7)), (2, .int p0), (3, .int p1)]) hx hb dX10_firstHeel_92 hl (k := 1) rfl (by rw [ey_43]; rfl) (lt_b rfl) rfl (fun ls hl => ?_)
          refine lv_goto (tgt := 25) hx hb dX10_firstHeel_95 rfl ?_
          exact ih_6 (y_43.toInt - (-1) : Int).toNat ((by first | (clear b_1 ty_38 c_39; omega) | omega)) _ _ _ ⟨G_42, y_43, (Int.toNat_of_nonneg ((by first | exact ok_192 c_12 ty_43 | omega))), ⟨(by first | exact ok_193 c_12 ty_43 | omega), (by first | exact ok_194 f_10.2 ty_43 | omega)⟩, (hX_9.st (St_k_tFirst_1_mk ⟨x_8, G_4, y_43, G_42, rfl, rfl, f_10, hB_G_4, ⟨c_12, (Or.inl ⟨c_33, ⟨y_34, ty_34, ⟨y_35, ey_35, ⟨y_36, ty_36, ⟨c_37, ⟨y_38, ey_38, (Or.inl ⟨c_39, ⟨y_40, ty_40, ⟨y_41, ey_41, ⟨y_43, ty_43, ⟨rfl, (Fr.put (rs := [42]) (fs := []) Fr.rf eG_42 (Or.inl (by decide))), rw_ast eG_42⟩⟩⟩⟩⟩)⟩⟩⟩⟩⟩⟩)⟩⟩)), hW, hB_G_42, hF, (Fr.put (rs := [42]) (fs := []) (Fr.call9 (rs := [42]) (fs := []) Fr.rf hq_5 rfl rfl) eG_42 (Or.inl (by decide))), hS, lv_sub hl [0, 2, 3, 4, 5] rfl⟩
        · have c_39 : y_38.toInt ≠ 0 := xI_ne rfl rfl c_39
          refine lv_iload hx hb dX10_firstHeel_74 (lv_at hl 0 rfl) ?_
          refine lv_if_eq (tgt := 84) hx hb dX10_firstHeel_76 rfl (fun c_44 => ?_) (fun c_44 => ?_)
          · have c_44 : (0 : Int) = (0 : Int) := xI_eq rfl rfl c_44
            refine lv_aload hx hb dX10_firstHeel_84 (lv_at hl 2 rfl) ?_
            refine lv_iload hx hb dX10_firstHeel_86 (lv_at hl 1 rfl) ?_
            refine ic_1 hx hb dX10_firstHeel_88 ?_
            refine lv_iadd hx hb dX10_firstHeel_89 ?_
            refine lv_topi (fun y_45 ey_45 => ?_)
            have ty_45 : y_45.toInt = x_8.toInt + 1 := xI_add rfl rfl ey_45 ((by first | exact ok_21 c_12 | omega)) ((by first | exact ok_264 f_10.2 | omega))
            refine S_iald hx hb hK hW kd_42 (vin ((by first | exact ok_23 c_12 ty_45 | omega)) ((by first | exact ok_332 f_10.2 ty_45 | omega))) dX10_firstHeel_90 (fun y_46 ey_46 => ?_)
            refine S_iast hx hb hK hW hS kd_42 (vin ((by first | exact c_12 | omega)) ((by first | exact ok_304 f_10.2 | omega))) dX10_firstHeel_91 (fun G_47 H locs eG_47 hW hS => ?_)
            have hB_G_47 : Bd G_47 := hB_G_4.put (lo := (-2147483648)) (hi := 2147483647) eG_47 rfl rfl rfl (tI_rng _).1 (tI_rng _).2 (hB_G_4.2.put eG_47 rfl)
            have hF := hF.put eG_47 (Or.inl (by decide))
            obtain ⟨y_48, ey_48⟩ : ∃ q, q = x_8 + (-1) := ⟨_, rfl⟩
            have ty_48 : y_48.toInt = x_8.toInt + (-1) := xI_add rfl rfl ey_48 ((by first | exact ok_190 c_12 | omega)) ((by first | exact ok_191 f_10.2 | omega))
            refine lv_iinc (v := y_48) (lv' := [(5, .int y_48), (6, .int 0), (4, .ref (a 42)), (1, .ref (a 7)), (2, .int p0), (3, .int p1)]) hx hb dX10_firstHeel_92 hl (k := 1) rfl (by rw [ey_48]; rfl) (lt_b rfl) rfl (fun ls hl => ?_)
            refine lv_goto (tgt := 25) hx hb dX10_firstHeel_95 rfl ?_
            exact ih_6 (y_48.toInt - (-1) : Int).toNat ((by first | (clear b_1 ty_38 c_39; omega) | omega)) _ _ _ ⟨G_47, y_48, (Int.toNat_of_nonneg ((by first | exact ok_192 c_12 ty_48 | omega))), ⟨(by first | exact ok_193 c_12 ty_48 | omega), (by first | exact ok_194 f_10.2 ty_48 | omega)⟩, (hX_9.st (St_k_tFirst_1_mk ⟨x_8, G_4, y_48, G_47, rfl, rfl, f_10, hB_G_4, ⟨c_12, (Or.inl ⟨c_33, ⟨y_34, ty_34, ⟨y_35, ey_35, ⟨y_36, ty_36, ⟨c_37, ⟨y_38, ey_38, (Or.inr ⟨c_39, ⟨y_45, ty_45, ⟨y_46, ey_46, ⟨y_48, ty_48, ⟨rfl, (Fr.put (rs := [42]) (fs := []) Fr.rf eG_47 (Or.inl (by decide))), rw_ast eG_47⟩⟩⟩⟩⟩)⟩⟩⟩⟩⟩⟩)⟩⟩)), hW, hB_G_47, hF, (Fr.put (rs := [42]) (fs := []) (Fr.call9 (rs := [42]) (fs := []) Fr.rf hq_5 rfl rfl) eG_47 (Or.inl (by decide))), hS, lv_sub hl [0, 2, 3, 4, 5] rfl⟩
          · have c_44 : (0 : Int) ≠ (0 : Int) := xI_ne rfl rfl c_44
            exfalso; first | exact ok_69 c_44 | omega
      · have c_37 : y_35.toInt ≤ y_36.toInt := xI_nlt rfl rfl c_37
        exact hJ_21 () _ _ _ ⟨G_4, (Jn_k_tFirst_2_mk (Or.inr ⟨c_33, ⟨y_34, ty_34, ⟨y_35, ey_35, ⟨y_36, ty_36, ⟨c_37, rfl⟩⟩⟩⟩⟩)), hW, hB_G_4, hF, (Fr.rf (rs := []) (fs := [])), hS, lv_sub hl [0, 1, 2, 3, 4] rfl⟩

set_option maxHeartbeats 4000000 in
set_option maxRecDepth 100000 in
theorem k_tEvenly (l : Launch) (D : va_G) (k : KT) (A : Nat → Prop) (a : Nat → Nat) (z : SK) (G : GS) (p0 : Int32) (ha_p0 : 0 ≤ p0.toInt ∧ p0.toInt ≤ 60) (hci : (G.1 7 6).toInt ≤ 399 ∧ (G.1 7 3).toInt ≤ (G.1 7 4).toInt ∧ ((G.1 7 7).toInt ≤ 0 ∨ (G.1 7 7).toInt + (G.1 7 4).toInt ≤ (G.1 7 6).toInt + 1)) (hs : p0.toInt ≤ (G.1 7 4).toInt) : Met l yX10_comesEvenly (WS yX10_comesEvenly cX10_comesEvenly 3 (some .boolean)) ({ frames := 1, cells := 0, slots := 0, locals := 26 }) (va_Pc [.ref (a 8), .ref (a 7), .int p0] (cW D k A a z G)) (va_Qi (fun (r : Int32) (G1 : GS) => P_tEvenly p0 G r G1) (fun (G1 : GS) t => Wd D k A a G1 t.heap) A) 0 0 A := by
  refine Met.ofW (cc := cX10_comesEvenly) (maxL := 3) (ret := (some .boolean)) (by decide) rfl ?_
  intro p e s m args below meth c s₁ B hml hv
  obtain ⟨rfl, hW, hB_G, hK, hZ⟩ := hv
  have hx := B.exec
  have hb := B.bytes
  have hr := B.returns
  have hts := atoms_spec (ws := WS yX10_comesEvenly cX10_comesEvenly 3 (some .boolean)) B.pre
  have hgd : ∀ w ∈ gd, w ∈ WS yX10_comesEvenly cX10_comesEvenly 3 (some .boolean) := fun w h => List.mem_cons_of_mem _ h
  have hg : ∀ w ∈ gd, w.before _ s = true := fun w h => hts w (hgd w h)
  have hown : s.vm.findClass RX10 = some m.cls := findClass_of_methodNamed B.named
  have hS : va_S A s.heap s.heap [] := va_S.rf
  have hF : Fr [42] [] G G := Fr.rf
  have hl := lv_entry ([.ref (a 8), .ref (a 7), .int p0]) (n := 3) (Nat.le_of_ble_eq_true rfl)
  rw [lg_entry_eq]
  generalize (lg_sl ([.ref (a 8), .ref (a 7), .int p0]) ++ List.replicate (3 - (lg_sl ([.ref (a 8), .ref (a 7), .int p0])).length) Slot.unset).toArray = ls at hl ⊢
  have hl : lv_has ls 3 [(0, .ref (a 8)), (1, .ref (a 7)), (2, .int p0)] := hl
  have b_1 : (-1) ≤ (G.1 7 6).toInt ∧ (G.1 7 6).toInt ≤ 400 := bd_7_6 hB_G
  refine lv_aload_n hx hb dX10_comesEvenly_0 rfl (lv_at hl 0 rfl) ?_
  refine lv_aload_n hx hb dX10_comesEvenly_1 rfl (lv_at hl 1 rfl) ?_
  refine lv_iload_n hx hb dX10_comesEvenly_2 rfl (lv_at hl 2 rfl) ?_
  refine lv_iload_n hx hb dX10_comesEvenly_3 rfl (lv_at hl 2 rfl) ?_
  have b_2 : 0 ≤ (G.1 7 3).toInt ∧ (G.1 7 3).toInt ≤ 60 := bd_7_3 hB_G
  have b_3 : 0 ≤ (G.1 7 4).toInt ∧ (G.1 7 4).toInt ≤ 60 := bd_7_4 hB_G
  have b_4 : 0 ≤ (G.1 7 7).toInt ∧ (G.1 7 7).toInt ≤ 400 := bd_7_7 hB_G
  refine S_calli (va_runV (As := [.ref (a 7), .int p0, .int p0]) (rest := []) ⟨hx, hb, hml, hown, hts⟩ (k_tFirst l D k A a z G p0 p0 ⟨(by first | exact ha_p0.1 | omega), (by first | exact ha_p0.2 | omega)⟩ ⟨(by first | exact ha_p0.1 | omega), (by first | exact ha_p0.2 | omega)⟩ ((by first | exact ⟨(by first | exact hci.1 | omega), ⟨(by first | exact hci.2.1 | omega), (by first | exact hci.2.2 | omega)⟩⟩ | omega)) ((by first | exact hs | omega))) (cwV 3 hts (gd_V hgd m1045 m1047 m35 m124 m1048) rfl rfl rfl hd_X10_firstHeel ⟨Nat.le_of_ble_eq_true rfl, Nat.le_of_ble_eq_true rfl⟩) (pre_W hW hB_G hK hZ hS kd_8 rfl) rfl rfl hl.1 rfl (lv_room (Nat.le_of_ble_eq_true rfl)) dX10_comesEvenly_4 ⟨Nat.le_of_ble_eq_true rfl, Nat.le_of_ble_eq_true rfl⟩) hS (fun r_5 G_6 H locs hpo hW hS => ?_)
  have hX_9 : P_tFirst p0 p0 G r_5 G_6 := hpo
  obtain ⟨hB_G_6, hq_7, -⟩ := hpo
  have hF := hF.call9 hq_7 rfl rfl
  refine lv_aload_n hx hb dX10_comesEvenly_7 rfl (lv_at hl 1 rfl) ?_
  refine S_getI (v := (G.1 7 4)) (C := RX0) (T := TX0) (N := 8) hx hb hg iX0 hown hK hW kd_7 rfl 4 (lt_b rfl) (hg (Cond.fieldLink RX10 64 "SlabWalk$Course" "most" "I") m383) (fun _ h9 => h9) rfl ((hq_7.i9 7 4 rfl rfl).trans (rfl)) dX10_comesEvenly_8 ?_
  refine lv_icmp_ge (tgt := 18) hx hb dX10_comesEvenly_11 rfl (fun c_10 => ?_) (fun c_10 => ?_)
  · have c_10 : (G.1 7 4).toInt ≤ r_5.toInt := xI_le rfl rfl c_10
    refine ic_0 hx hb dX10_comesEvenly_18 ?_
    exact W.zret (v := 0) hx hb hr (by decide) (fun t ht _ => ⟨⟨0, G_6, rfl, (P_tEvenly_mk ⟨hB_G_6, hF, ⟨by decide, by decide⟩, ⟨r_5, G_6, hX_9, (Or.inl ⟨c_10, ⟨rfl, rfl⟩⟩)⟩⟩), wd_t ht hW⟩, hS.F ht⟩) hS.2.2 dX10_comesEvenly_19
  · have c_10 : r_5.toInt < (G.1 7 4).toInt := xI_nle rfl rfl c_10
    refine ic_1 hx hb dX10_comesEvenly_14 ?_
    refine lv_goto (tgt := 19) hx hb dX10_comesEvenly_15 rfl ?_
    exact W.zret (v := 1) hx hb hr (by decide) (fun t ht _ => ⟨⟨1, G_6, rfl, (P_tEvenly_mk ⟨hB_G_6, hF, ⟨by decide, by decide⟩, ⟨r_5, G_6, hX_9, (Or.inr ⟨c_10, ⟨rfl, rfl⟩⟩)⟩⟩), wd_t ht hW⟩, hS.F ht⟩) hS.2.2 dX10_comesEvenly_19

set_option maxHeartbeats 4000000 in
set_option maxRecDepth 100000 in
theorem k_tMost (l : Launch) (D : va_G) (k : KT) (A : Nat → Prop) (a : Nat → Nat) (z : SK) (G : GS) (p0 : Int32) (hci : (G.1 7 6).toInt ≤ 399 ∧ (G.1 7 3).toInt ≤ (G.1 7 4).toInt ∧ ((G.1 7 7).toInt ≤ 0 ∨ (G.1 7 7).toInt + (G.1 7 4).toInt ≤ (G.1 7 6).toInt + 1)) : Met l yX10_mostEven (WS yX10_mostEven cX10_mostEven 8 (some .int)) ({ frames := 1, cells := 0, slots := 0, locals := 26 }) (va_Pc [.ref (a 8), .ref (a 7), .int p0] (cW D k A a z G)) (va_Qi (fun (r : Int32) (G1 : GS) => P_tMost p0 G r G1) (fun (G1 : GS) t => Wd D k A a G1 t.heap) A) 0 0 A := by
  refine Met.ofW (cc := cX10_mostEven) (maxL := 8) (ret := (some .int)) (by decide) rfl ?_
  intro p e s m args below meth c s₁ B hml hv
  obtain ⟨rfl, hW, hB_G, hK, hZ⟩ := hv
  have hx := B.exec
  have hb := B.bytes
  have hr := B.returns
  have hts := atoms_spec (ws := WS yX10_mostEven cX10_mostEven 8 (some .int)) B.pre
  have hgd : ∀ w ∈ gd, w ∈ WS yX10_mostEven cX10_mostEven 8 (some .int) := fun w h => List.mem_cons_of_mem _ h
  have hg : ∀ w ∈ gd, w.before _ s = true := fun w h => hts w (hgd w h)
  have hown : s.vm.findClass RX10 = some m.cls := findClass_of_methodNamed B.named
  have hS : va_S A s.heap s.heap [] := va_S.rf
  have hF : Fr [42] [] G G := Fr.rf
  have hl := lv_entry ([.ref (a 8), .ref (a 7), .int p0]) (n := 8) (Nat.le_of_ble_eq_true rfl)
  rw [lg_entry_eq]
  generalize (lg_sl ([.ref (a 8), .ref (a 7), .int p0]) ++ List.replicate (8 - (lg_sl ([.ref (a 8), .ref (a 7), .int p0])).length) Slot.unset).toArray = ls at hl ⊢
  have hl : lv_has ls 8 [(0, .ref (a 8)), (1, .ref (a 7)), (2, .int p0)] := hl
  have b_1 : (-1) ≤ (G.1 7 6).toInt ∧ (G.1 7 6).toInt ≤ 400 := bd_7_6 hB_G
  refine lv_aload_n hx hb dX10_mostEven_0 rfl (lv_at hl 1 rfl) ?_
  have b_2 : 0 ≤ (G.1 7 4).toInt ∧ (G.1 7 4).toInt ≤ 60 := bd_7_4 hB_G
  refine S_getI (v := (G.1 7 4)) (C := RX0) (T := TX0) (N := 8) hx hb hg iX0 hown hK hW kd_7 rfl 4 (lt_b rfl) (hg (Cond.fieldLink RX10 64 "SlabWalk$Course" "most" "I") m383) (fun _ h9 => h9) rfl rfl dX10_mostEven_1 ?_
  refine lv_aload_n hx hb dX10_mostEven_4 rfl (lv_at hl 1 rfl) ?_
  have b_3 : 0 ≤ (G.1 7 7).toInt ∧ (G.1 7 7).toInt ≤ 400 := bd_7_7 hB_G
  refine S_getI (v := (G.1 7 7)) (C := RX0) (T := TX0) (N := 8) hx hb hg iX0 hown hK hW kd_7 rfl 7 (lt_b rfl) (hg (Cond.fieldLink RX10 58 "SlabWalk$Course" "end" "I") m394) (fun _ h9 => h9) rfl rfl dX10_mostEven_5 ?_
  refine va_mmin hx hb (by rw [hml]; exact hl.1.symm) hown (hg (Cond.methodLink RX10 49 Lib.Math.min.name) m1001) (hg (Cond.static Lib.Math.min.name) m636) (hg (Cond.initialized "java/lang/Math") m132) (hg (Cond.code Lib.Math.min.name Lib.Math.min.code 2 (some .int)) m637) (Nat.le_of_ble_eq_true rfl) (Nat.le_of_ble_eq_true rfl) (Nat.le_of_ble_eq_true rfl) (Nat.le_of_ble_eq_true rfl) dX10_mostEven_8 ?_
  refine lv_topi (fun y_4 ey_4 => ?_)
  have ty_4 := xI_min (X := (G.1 7 4).toInt) (Y := (G.1 7 7).toInt) rfl rfl ey_4
  refine lv_istore_n (lv' := [(3, .int y_4), (0, .ref (a 8)), (1, .ref (a 7)), (2, .int p0)]) hx hb dX10_mostEven_11 rfl hl (lt_b rfl) rfl (fun ls hl => ?_)
  refine lv_ldc (v := 1000000) hx hb hown (hg (Cond.constant RX10 44 1000000) m997) dX10_mostEven_12 ?_
  refine lv_istore (lv' := [(4, .int 1000000), (3, .int y_4), (0, .ref (a 8)), (1, .ref (a 7)), (2, .int p0)]) hx hb dX10_mostEven_14 hl (lt_b rfl) rfl (fun ls hl => ?_)
  refine ic_m1 hx hb dX10_mostEven_16 ?_
  refine lv_istore (lv' := [(5, .int (-1)), (4, .int 1000000), (3, .int y_4), (0, .ref (a 8)), (1, .ref (a 7)), (2, .int p0)]) hx hb dX10_mostEven_17 hl (lt_b rfl) rfl (fun ls hl => ?_)
  refine lv_aload_n hx hb dX10_mostEven_19 rfl (lv_at hl 4 rfl) ?_
  have b_5 : 0 ≤ (G.1 7 3).toInt ∧ (G.1 7 3).toInt ≤ 60 := bd_7_3 hB_G
  refine S_getI (v := (G.1 7 3)) (C := RX0) (T := TX0) (N := 8) hx hb hg iX0 hown hK hW kd_7 rfl 3 (lt_b rfl) (hg (Cond.fieldLink RX10 61 "SlabWalk$Course" "least" "I") m378) (fun _ h9 => h9) rfl rfl dX10_mostEven_20 ?_
  refine lv_istore (lv' := [(6, .int (G.1 7 3)), (5, .int (-1)), (4, .int 1000000), (3, .int y_4), (0, .ref (a 8)), (1, .ref (a 7)), (2, .int p0)]) hx hb dX10_mostEven_23 hl (lt_b rfl) rfl (fun ls hl => ?_)
  refine lv_aload_n hx hb dX10_mostEven_25 rfl (lv_at hl 5 rfl) ?_
  refine S_getI (v := (G.1 7 3)) (C := RX0) (T := TX0) (N := 8) hx hb hg iX0 hown hK hW kd_7 rfl 3 (lt_b rfl) (hg (Cond.fieldLink RX10 61 "SlabWalk$Course" "least" "I") m378) (fun _ h9 => h9) rfl rfl dX10_mostEven_26 ?_
  refine lv_istore (lv' := [(7, .int (G.1 7 3)), (6, .int (G.1 7 3)), (5, .int (-1)), (4, .int 1000000), (3, .int y_4), (0, .ref (a 8)), (1, .ref (a 7)), (2, .int p0)]) hx hb dX10_mostEven_29 hl (lt_b rfl) rfl (fun ls hl => ?_)
  have qc_15 : ((-1) : Int32).toInt = (-1) := rfl
  have qc_16 : (1000000 : Int32).toInt = 1000000 := rfl
  refine loop_N (Inv := fun n H locs ls => ∃ (G_6 : GS) (x_10 : Int32) (x_11 : Int32) (x_12 : Int32) (x_13 : Int32), (n : Int) = 61 - x_10.toInt ∧ (0 ≤ x_10.toInt ∧ x_10.toInt ≤ 61) ∧ (0 ≤ x_11.toInt ∧ x_11.toInt ≤ 63) ∧ ((-1) ≤ x_12.toInt ∧ x_12.toInt ≤ 60) ∧ (x_13.toInt ≤ 1000000) ∧ Rc (St_k_tMost_1 y_4 G) ((G.1 7 3), (G.1 7 3), (-1), 1000000, G) (x_10, x_11, x_12, x_13, G_6) ∧ Wd D k A a G_6 H ∧ Bd G_6 ∧ Fr [42] [] G G_6 ∧ Fr [42] [] G G_6 ∧ va_S A s.heap H locs ∧ lv_has ls 8 [(7, .int x_10), (6, .int x_11), (5, .int x_12), (4, .int x_13), (3, .int y_4), (0, .ref (a 8)), (1, .ref (a 7)), (2, .int p0)]) (fun n_9 H locs ls ih_8 hI => ?_) (61 - (G.1 7 3).toInt : Int).toNat ⟨G, (G.1 7 3), (G.1 7 3), (-1), 1000000, (Int.toNat_of_nonneg ((by first | exact ok_337 b_5.2 | omega))), ⟨(by first | exact b_5.1 | omega), (by first | exact ok_338 b_5.2 | omega)⟩, ⟨(by first | exact b_5.1 | omega), (by first | exact ok_339 b_5.2 | omega)⟩, ⟨(by decide), (by decide)⟩, ((by decide)), Rc.rf, hW, hB_G, hF, Fr.rf, hS, lv_sub hl [0, 1, 2, 3, 4, 5, 6, 7] rfl⟩
  obtain ⟨G_6, x_10, x_11, x_12, x_13, hn_21, f_17, f_18, f_19, f_20, hX_14, hW, hB_G_6, hF, hq_7, hS, hl⟩ := hI
  refine lv_iload hx hb dX10_mostEven_31 (lv_at hl 0 rfl) ?_
  refine lv_aload_n hx hb dX10_mostEven_33 rfl (lv_at hl 6 rfl) ?_
  refine S_getI (v := (G.1 7 4)) (C := RX0) (T := TX0) (N := 8) hx hb hg iX0 hown hK hW kd_7 rfl 4 (lt_b rfl) (hg (Cond.fieldLink RX10 64 "SlabWalk$Course" "most" "I") m383) (fun _ h9 => h9) rfl ((hq_7.i9 7 4 rfl rfl).trans (rfl)) dX10_mostEven_34 ?_
  refine lv_icmp_gt (tgt := 113) hx hb dX10_mostEven_37 rfl (fun c_22 => ?_) (fun c_22 => ?_)
  · have c_22 : (G.1 7 4).toInt < x_10.toInt := xI_lt rfl rfl c_22
    refine lv_iload hx hb dX10_mostEven_113 (lv_at hl 2 rfl) ?_
    refine ic_m1 hx hb dX10_mostEven_115 ?_
    refine lv_icmp_eq (tgt := 124) hx hb dX10_mostEven_116 rfl (fun c_23 => ?_) (fun c_23 => ?_)
    · have c_23 : x_12.toInt = (-1) := xI_eq rfl rfl c_23
      refine lv_iload hx hb dX10_mostEven_124 (lv_at hl 2 rfl) ?_
      refine lv_goto (tgt := 131) hx hb dX10_mostEven_126 rfl ?_
      exact W.iret (v := x_12) hx hb hr (fun t ht _ => ⟨⟨x_12, G_6, rfl, (P_tMost_mk ⟨hB_G_6, hF, ⟨y_4, ty_4, ⟨x_10, x_11, x_12, x_13, G_6, hX_14, f_17, f_18, f_19, f_20, hB_G_6, hq_7, ⟨c_22, (Or.inl ⟨c_23, ⟨rfl, rfl⟩⟩)⟩⟩⟩⟩), wd_t ht hW⟩, hS.F ht⟩) hS.2.2 dX10_mostEven_131
    · have c_23 : x_12.toInt ≠ (-1) := xI_ne rfl rfl c_23
      refine lv_iload_n hx hb dX10_mostEven_119 rfl (lv_at hl 7 rfl) ?_
      refine ic_1 hx hb dX10_mostEven_120 ?_
      refine lv_icmp_ne (tgt := 129) hx hb dX10_mostEven_121 rfl (fun c_24 => ?_) (fun c_24 => ?_)
      · have c_24 : p0.toInt ≠ 1 := xI_ne rfl rfl c_24
        refine lv_iload hx hb dX10_mostEven_129 (lv_at hl 3 rfl) ?_
        exact W.iret (v := x_13) hx hb hr (fun t ht _ => ⟨⟨x_13, G_6, rfl, (P_tMost_mk ⟨hB_G_6, hF, ⟨y_4, ty_4, ⟨x_10, x_11, x_12, x_13, G_6, hX_14, f_17, f_18, f_19, f_20, hB_G_6, hq_7, ⟨c_22, (Or.inr ⟨c_23, (Or.inr ⟨c_24, ⟨rfl, rfl⟩⟩)⟩)⟩⟩⟩⟩), wd_t ht hW⟩, hS.F ht⟩) hS.2.2 dX10_mostEven_131
      · have c_24 : p0.toInt = 1 := xI_eq rfl rfl c_24
        refine lv_iload hx hb dX10_mostEven_124 (lv_at hl 2 rfl) ?_
        refine lv_goto (tgt := 131) hx hb dX10_mostEven_126 rfl ?_
        exact W.iret (v := x_12) hx hb hr (fun t ht _ => ⟨⟨x_12, G_6, rfl, (P_tMost_mk ⟨hB_G_6, hF, ⟨y_4, ty_4, ⟨x_10, x_11, x_12, x_13, G_6, hX_14, f_17, f_18, f_19, f_20, hB_G_6, hq_7, ⟨c_22, (Or.inr ⟨c_23, (Or.inl ⟨c_24, ⟨rfl, rfl⟩⟩)⟩)⟩⟩⟩⟩), wd_t ht hW⟩, hS.F ht⟩) hS.2.2 dX10_mostEven_131
  · have c_22 : x_10.toInt ≤ (G.1 7 4).toInt := xI_nlt rfl rfl c_22
    refine lv_iload hx hb dX10_mostEven_40 (lv_at hl 1 rfl) ?_
    refine lv_iload hx hb dX10_mostEven_42 (lv_at hl 0 rfl) ?_
    refine va_mmax hx hb (by rw [hml]; exact hl.1.symm) hown (hg (Cond.methodLink RX10 82 Lib.Math.max.name) m1044) (hg (Cond.static Lib.Math.max.name) m728) (hg (Cond.initialized "java/lang/Math") m132) (hg (Cond.code Lib.Math.max.name Lib.Math.max.code 2 (some .int)) m729) (Nat.le_of_ble_eq_true rfl) (Nat.le_of_ble_eq_true rfl) (Nat.le_of_ble_eq_true rfl) (Nat.le_of_ble_eq_true rfl) dX10_mostEven_44 ?_
    refine lv_topi (fun y_25 ey_25 => ?_)
    have ty_25 := xI_max (X := x_11.toInt) (Y := x_10.toInt) rfl rfl ey_25
    refine lv_istore (lv' := [(6, .int y_25), (7, .int x_10), (5, .int x_12), (4, .int x_13), (3, .int y_4), (0, .ref (a 8)), (1, .ref (a 7)), (2, .int p0)]) hx hb dX10_mostEven_47 hl (lt_b rfl) rfl (fun ls hl => ?_)
    refine loop_N (Inv := fun n H locs ls => ∃ (G_26 : GS) (x_30 : Int32), (n : Int) = 63 - x_30.toInt ∧ (0 ≤ x_30.toInt ∧ x_30.toInt ≤ 63) ∧ Rc (St_k_tMost_2 y_4 x_10 G) (y_25, G_6) (x_30, G_26) ∧ Wd D k A a G_26 H ∧ Bd G_26 ∧ Fr [42] [] G G_26 ∧ Fr [42] [] G_6 G_26 ∧ va_S A s.heap H locs ∧ lv_has ls 8 [(6, .int x_30), (7, .int x_10), (5, .int x_12), (4, .int x_13), (3, .int y_4), (0, .ref (a 8)), (1, .ref (a 7)), (2, .int p0)]) (fun n_29 H locs ls ih_28 hI => ?_) (63 - y_25.toInt : Int).toNat ⟨G_6, y_25, (Int.toNat_of_nonneg ((by first | exact ok_340 f_17.2 f_18.2 ty_25 | omega))), ⟨(by first | exact ok_341 f_17.1 f_18.1 ty_25 | omega), (by first | exact ok_342 f_17.2 f_18.2 ty_25 | omega)⟩, Rc.rf, hW, hB_G_6, hF, Fr.rf, hS, lv_sub hl [0, 1, 2, 3, 4, 5, 6, 7] rfl⟩
    obtain ⟨G_26, x_30, hn_33, f_32, hX_31, hW, hB_G_26, hF, hq_27, hS, hl⟩ := hI
    refine lv_iload hx hb dX10_mostEven_49 (lv_at hl 0 rfl) ?_
    refine lv_aload_n hx hb dX10_mostEven_51 rfl (lv_at hl 6 rfl) ?_
    refine S_getI (v := (G.1 7 4)) (C := RX0) (T := TX0) (N := 8) hx hb hg iX0 hown hK hW kd_7 rfl 4 (lt_b rfl) (hg (Cond.fieldLink RX10 64 "SlabWalk$Course" "most" "I") m383) (fun _ h9 => h9) rfl ((hq_27.i9 7 4 rfl rfl).trans ((hq_7.i9 7 4 rfl rfl).trans (rfl))) dX10_mostEven_52 ?_
    refine W.cut (σ := Unit) (pcJ := 77) (J := fun y H locs ls => ∃ (G_42 : GS), Jn_k_tMost_3 y_4 x_10 x_30 G G_26 G_42 ∧ Wd D k A a G_42 H ∧ Bd G_42 ∧ Fr [42] [] G G_42 ∧ Fr [42] [] G_26 G_42 ∧ va_S A s.heap H locs ∧ lv_has ls 8 [(6, .int x_30), (7, .int x_10), (5, .int x_12), (4, .int x_13), (3, .int y_4), (0, .ref (a 8)), (1, .ref (a 7)), (2, .int p0)]) (stJ := fun _ => []) ?_ (fun hJ_43 => ?_)
    · intro y H locs ls hI
      obtain ⟨G_42, hX_45, hW, hB_G_42, hF, hq_44, hS, hl⟩ := hI
      refine lv_iload hx hb dX10_mostEven_77 (lv_at hl 0 rfl) ?_
      refine lv_aload_n hx hb dX10_mostEven_79 rfl (lv_at hl 6 rfl) ?_
      refine S_getI (v := (G.1 7 4)) (C := RX0) (T := TX0) (N := 8) hx hb hg iX0 hown hK hW kd_7 rfl 4 (lt_b rfl) (hg (Cond.fieldLink RX10 64 "SlabWalk$Course" "most" "I") m383) (fun _ h9 => h9) rfl ((hq_44.i9 7 4 rfl rfl).trans ((hq_27.i9 7 4 rfl rfl).trans ((hq_7.i9 7 4 rfl rfl).trans (rfl)))) dX10_mostEven_80 ?_
      refine lv_icmp_gt (tgt := 107) hx hb dX10_mostEven_83 rfl (fun c_46 => ?_) (fun c_46 => ?_)
      · have c_46 : (G.1 7 4).toInt < x_30.toInt := xI_lt rfl rfl c_46
        obtain ⟨y_47, ey_47⟩ : ∃ q, q = x_10 + 1 := ⟨_, rfl⟩
        have ty_47 : y_47.toInt = x_10.toInt + 1 := xI_add rfl rfl ey_47 ((by first | exact ok_21 f_17.1 | omega)) ((by first | exact ok_256 f_17.2 | omega))
        refine lv_iinc (v := y_47) (lv' := [(7, .int y_47), (6, .int x_30), (5, .int x_12), (4, .int x_13), (3, .int y_4), (0, .ref (a 8)), (1, .ref (a 7)), (2, .int p0)]) hx hb dX10_mostEven_107 hl (k := 1) rfl (by rw [ey_47]; rfl) (lt_b rfl) rfl (fun ls hl => ?_)
        refine lv_goto (tgt := 31) hx hb dX10_mostEven_110 rfl ?_
        exact ih_8 (61 - y_47.toInt : Int).toNat ((by first | (clear b_1 b_3 b_5 f_19 f_20 f_32; omega) | omega)) _ _ _ ⟨G_42, y_47, x_30, x_12, x_13, (Int.toNat_of_nonneg ((by first | exact ok_257 b_2.2 f_17.2 c_22 ty_47 | omega))), ⟨(by first | exact ok_23 f_17.1 ty_47 | omega), (by first | exact ok_258 b_2.2 f_17.2 c_22 ty_47 | omega)⟩, ⟨(by first | exact f_32.1 | omega), (by first | exact f_32.2 | omega)⟩, ⟨(by first | exact f_19.1 | omega), (by first | exact f_19.2 | omega)⟩, ((by first | exact f_20 | omega)), (hX_14.st (St_k_tMost_1_mk ⟨x_10, x_11, x_12, x_13, G_6, y_47, x_30, x_12, x_13, G_42, rfl, rfl, f_17, f_18, f_19, f_20, hB_G_6, ⟨c_22, ⟨y_25, ty_25, ⟨x_30, G_26, hX_31, f_32, hB_G_26, hq_27, ⟨G_42, hX_45, hB_G_42, hq_44, (Or.inl ⟨c_46, ⟨y_47, ty_47, ⟨rfl, rfl, rfl, rfl, rfl⟩⟩⟩)⟩⟩⟩⟩⟩)), hW, hB_G_42, hF, (Fr.call9 (rs := [42]) (fs := []) (Fr.call9 (rs := [42]) (fs := []) (Fr.call9 (rs := [42]) (fs := []) Fr.rf hq_7 rfl rfl) hq_27 rfl rfl) hq_44 rfl rfl), hS, lv_sub hl [0, 1, 2, 3, 4, 5, 6, 7] rfl⟩
      · have c_46 : x_30.toInt ≤ (G.1 7 4).toInt := xI_nlt rfl rfl c_46
        refine lv_iload hx hb dX10_mostEven_86 (lv_at hl 0 rfl) ?_
        refine lv_iload hx hb dX10_mostEven_88 (lv_at hl 1 rfl) ?_
        refine lv_isub hx hb dX10_mostEven_90 ?_
        refine lv_topi (fun y_48 ey_48 => ?_)
        have ty_48 : y_48.toInt = x_30.toInt - x_10.toInt := xI_sub rfl rfl ey_48 ((by first | exact ok_343 f_17.2 f_32.1 | omega)) ((by first | exact ok_344 f_17.1 f_32.2 | omega))
        refine lv_iload hx hb dX10_mostEven_91 (lv_at hl 3 rfl) ?_
        refine lv_icmp_ge (tgt := 107) hx hb dX10_mostEven_93 rfl (fun c_49 => ?_) (fun c_49 => ?_)
        · have c_49 : x_13.toInt ≤ y_48.toInt := xI_le rfl rfl c_49
          obtain ⟨y_50, ey_50⟩ : ∃ q, q = x_10 + 1 := ⟨_, rfl⟩
          have ty_50 : y_50.toInt = x_10.toInt + 1 := xI_add rfl rfl ey_50 ((by first | exact ok_21 f_17.1 | omega)) ((by first | exact ok_256 f_17.2 | omega))
          refine lv_iinc (v := y_50) (lv' := [(7, .int y_50), (6, .int x_30), (5, .int x_12), (4, .int x_13), (3, .int y_4), (0, .ref (a 8)), (1, .ref (a 7)), (2, .int p0)]) hx hb dX10_mostEven_107 hl (k := 1) rfl (by rw [ey_50]; rfl) (lt_b rfl) rfl (fun ls hl => ?_)
          refine lv_goto (tgt := 31) hx hb dX10_mostEven_110 rfl ?_
          exact ih_8 (61 - y_50.toInt : Int).toNat ((by first | (clear b_1 b_3 b_5 f_19; omega) | omega)) _ _ _ ⟨G_42, y_50, x_30, x_12, x_13, (Int.toNat_of_nonneg ((by first | exact ok_257 b_2.2 f_17.2 c_22 ty_50 | omega))), ⟨(by first | exact ok_23 f_17.1 ty_50 | omega), (by first | exact ok_258 b_2.2 f_17.2 c_22 ty_50 | omega)⟩, ⟨(by first | exact f_32.1 | omega), (by first | exact f_32.2 | omega)⟩, ⟨(by first | exact f_19.1 | omega), (by first | exact f_19.2 | omega)⟩, ((by first | exact f_20 | omega)), (hX_14.st (St_k_tMost_1_mk ⟨x_10, x_11, x_12, x_13, G_6, y_50, x_30, x_12, x_13, G_42, rfl, rfl, f_17, f_18, f_19, f_20, hB_G_6, ⟨c_22, ⟨y_25, ty_25, ⟨x_30, G_26, hX_31, f_32, hB_G_26, hq_27, ⟨G_42, hX_45, hB_G_42, hq_44, (Or.inr ⟨c_46, ⟨y_48, ty_48, (Or.inl ⟨c_49, ⟨y_50, ty_50, ⟨rfl, rfl, rfl, rfl, rfl⟩⟩⟩)⟩⟩)⟩⟩⟩⟩⟩)), hW, hB_G_42, hF, (Fr.call9 (rs := [42]) (fs := []) (Fr.call9 (rs := [42]) (fs := []) (Fr.call9 (rs := [42]) (fs := []) Fr.rf hq_7 rfl rfl) hq_27 rfl rfl) hq_44 rfl rfl), hS, lv_sub hl [0, 1, 2, 3, 4, 5, 6, 7] rfl⟩
        · have c_49 : y_48.toInt < x_13.toInt := xI_nle rfl rfl c_49
          refine lv_iload hx hb dX10_mostEven_96 (lv_at hl 0 rfl) ?_
          refine lv_iload hx hb dX10_mostEven_98 (lv_at hl 1 rfl) ?_
          refine lv_isub hx hb dX10_mostEven_100 ?_
          refine lv_topi (fun y_51 ey_51 => ?_)
          have ty_51 : y_51.toInt = x_30.toInt - x_10.toInt := xI_sub rfl rfl ey_51 ((by first | exact ok_343 f_17.2 f_32.1 | omega)) ((by first | exact ok_344 f_17.1 f_32.2 | omega))
          refine lv_istore (lv' := [(4, .int y_51), (6, .int x_30), (7, .int x_10), (5, .int x_12), (3, .int y_4), (0, .ref (a 8)), (1, .ref (a 7)), (2, .int p0)]) hx hb dX10_mostEven_101 hl (lt_b rfl) rfl (fun ls hl => ?_)
          refine lv_iload hx hb dX10_mostEven_103 (lv_at hl 2 rfl) ?_
          refine lv_istore (lv' := [(5, .int x_10), (4, .int y_51), (6, .int x_30), (7, .int x_10), (3, .int y_4), (0, .ref (a 8)), (1, .ref (a 7)), (2, .int p0)]) hx hb dX10_mostEven_105 hl (lt_b rfl) rfl (fun ls hl => ?_)
          obtain ⟨y_52, ey_52⟩ : ∃ q, q = x_10 + 1 := ⟨_, rfl⟩
          have ty_52 : y_52.toInt = x_10.toInt + 1 := xI_add rfl rfl ey_52 ((by first | exact ok_21 f_17.1 | omega)) ((by first | exact ok_256 f_17.2 | omega))
          refine lv_iinc (v := y_52) (lv' := [(7, .int y_52), (5, .int x_10), (4, .int y_51), (6, .int x_30), (3, .int y_4), (0, .ref (a 8)), (1, .ref (a 7)), (2, .int p0)]) hx hb dX10_mostEven_107 hl (k := 3) rfl (by rw [ey_52]; rfl) (lt_b rfl) rfl (fun ls hl => ?_)
          refine lv_goto (tgt := 31) hx hb dX10_mostEven_110 rfl ?_
          exact ih_8 (61 - y_52.toInt : Int).toNat ((by first | (clear b_1 b_3 b_5 f_19; omega) | omega)) _ _ _ ⟨G_42, y_52, x_30, x_10, y_51, (Int.toNat_of_nonneg ((by first | exact ok_257 b_2.2 f_17.2 c_22 ty_52 | omega))), ⟨(by first | exact ok_23 f_17.1 ty_52 | omega), (by first | exact ok_258 b_2.2 f_17.2 c_22 ty_52 | omega)⟩, ⟨(by first | exact f_32.1 | omega), (by first | exact f_32.2 | omega)⟩, ⟨(by first | exact ok_67 f_17.1 | omega), (by first | exact ok_259 b_2.2 f_17.2 c_22 | omega)⟩, ((by first | exact ok_345 f_17.1 f_32.2 ty_51 | omega)), (hX_14.st (St_k_tMost_1_mk ⟨x_10, x_11, x_12, x_13, G_6, y_52, x_30, x_10, y_51, G_42, rfl, rfl, f_17, f_18, f_19, f_20, hB_G_6, ⟨c_22, ⟨y_25, ty_25, ⟨x_30, G_26, hX_31, f_32, hB_G_26, hq_27, ⟨G_42, hX_45, hB_G_42, hq_44, (Or.inr ⟨c_46, ⟨y_48, ty_48, (Or.inr ⟨c_49, ⟨y_51, ty_51, ⟨y_52, ty_52, ⟨rfl, rfl, rfl, rfl, rfl⟩⟩⟩⟩)⟩⟩)⟩⟩⟩⟩⟩)), hW, hB_G_42, hF, (Fr.call9 (rs := [42]) (fs := []) (Fr.call9 (rs := [42]) (fs := []) (Fr.call9 (rs := [42]) (fs := []) Fr.rf hq_7 rfl rfl) hq_27 rfl rfl) hq_44 rfl rfl), hS, lv_sub hl [0, 3, 1, 2, 4, 5, 6, 7] rfl⟩
    refine lv_icmp_gt (tgt := 77) hx hb dX10_mostEven_55 rfl (fun c_53 => ?_) (fun c_53 => ?_)
    · have c_53 : (G.1 7 4).toInt < x_30.toInt := xI_lt rfl rfl c_53
      exact hJ_43 () _ _ _ ⟨G_26, (Jn_k_tMost_3_mk (Or.inl ⟨c_53, rfl⟩)), hW, hB_G_26, hF, (Fr.rf (rs := [42]) (fs := [])), hS, lv_sub hl [0, 1, 2, 3, 4, 5, 6, 7] rfl⟩
    · have c_53 : x_30.toInt ≤ (G.1 7 4).toInt := xI_nlt rfl rfl c_53
      refine lv_aload_n hx hb dX10_mostEven_58 rfl (lv_at hl 5 rfl) ?_
      refine lv_aload_n hx hb dX10_mostEven_59 rfl (lv_at hl 6 rfl) ?_
      refine lv_iload hx hb dX10_mostEven_60 (lv_at hl 1 rfl) ?_
      refine lv_iload hx hb dX10_mostEven_62 (lv_at hl 0 rfl) ?_
      have g_54 : (G_26.1 7 3).toInt = (G.1 7 3).toInt := (congrArg Int32.toInt (show G_26.1 7 3 = (G.1 7 3) from ((hq_27.i9 7 3 rfl rfl).trans ((hq_7.i9 7 3 rfl rfl).trans (rfl)))))
      have g_55 : (G_26.1 7 4).toInt = (G.1 7 4).toInt := (congrArg Int32.toInt (show G_26.1 7 4 = (G.1 7 4) from ((hq_27.i9 7 4 rfl rfl).trans ((hq_7.i9 7 4 rfl rfl).trans (rfl)))))
      have g_56 : (G_26.1 7 6).toInt = (G.1 7 6).toInt := (congrArg Int32.toInt (show G_26.1 7 6 = (G.1 7 6) from ((hq_27.i9 7 6 rfl rfl).trans ((hq_7.i9 7 6 rfl rfl).trans (rfl)))))
      have g_57 : (G_26.1 7 7).toInt = (G.1 7 7).toInt := (congrArg Int32.toInt (show G_26.1 7 7 = (G.1 7 7) from ((hq_27.i9 7 7 rfl rfl).trans ((hq_7.i9 7 7 rfl rfl).trans (rfl)))))
      have g_58 : (G_26.1 7 4).toInt = (G.1 7 4).toInt := (congrArg Int32.toInt (show G_26.1 7 4 = (G.1 7 4) from ((hq_27.i9 7 4 rfl rfl).trans ((hq_7.i9 7 4 rfl rfl).trans (rfl)))))
      refine S_calli (va_runV (As := [.ref (a 7), .int x_10, .int x_30]) (rest := []) ⟨hx, hb, hml, hown, hts⟩ (k_tFirst l D k A a z G_26 x_10 x_30 ⟨(by first | exact f_17.1 | omega), (by first | exact ok_259 b_2.2 f_17.2 c_22 | omega)⟩ ⟨(by first | exact f_32.1 | omega), (by first | exact ok_346 b_2.2 f_32.2 c_53 | omega)⟩ ((by first | exact ⟨(by first | exact ok_235 hci.1 g_56 | omega), ⟨(by first | exact ok_185 hci.2.1 g_54 g_55 | omega), (by first | exact ok_236 hci.2.2 g_55 g_56 g_57 | omega)⟩⟩ | omega)) ((by first | exact ok_347 c_22 g_55 | omega))) (cwV 3 hts (gd_V hgd m1045 m1047 m35 m124 m1048) rfl rfl rfl hd_X10_firstHeel ⟨Nat.le_of_ble_eq_true rfl, Nat.le_of_ble_eq_true rfl⟩) (pre_W hW hB_G_26 hK hZ hS kd_8 rfl) rfl rfl hl.1 rfl (lv_room (Nat.le_of_ble_eq_true rfl)) dX10_mostEven_64 ⟨Nat.le_of_ble_eq_true rfl, Nat.le_of_ble_eq_true rfl⟩) hS (fun r_59 G_60 H locs hpo hW hS => ?_)
      have hX_63 : P_tFirst x_10 x_30 G_26 r_59 G_60 := hpo
      obtain ⟨hB_G_60, hq_61, -⟩ := hpo
      have hF := hF.call9 hq_61 rfl rfl
      refine lv_iload_n hx hb dX10_mostEven_67 rfl (lv_at hl 4 rfl) ?_
      refine lv_icmp_lt (tgt := 77) hx hb dX10_mostEven_68 rfl (fun c_64 => ?_) (fun c_64 => ?_)
      · have c_64 : r_59.toInt < y_4.toInt := xI_lt rfl rfl c_64
        exact hJ_43 () _ _ _ ⟨G_60, (Jn_k_tMost_3_mk (Or.inr ⟨c_53, ⟨r_59, G_60, hX_63, ⟨c_64, rfl⟩⟩⟩)), hW, hB_G_60, hF, (Fr.call9 (rs := [42]) (fs := []) Fr.rf hq_61 rfl rfl), hS, lv_sub hl [0, 1, 2, 3, 4, 5, 6, 7] rfl⟩
      · have c_64 : y_4.toInt ≤ r_59.toInt := xI_nlt rfl rfl c_64
        obtain ⟨y_65, ey_65⟩ : ∃ q, q = x_30 + 1 := ⟨_, rfl⟩
        have ty_65 : y_65.toInt = x_30.toInt + 1 := xI_add rfl rfl ey_65 ((by first | exact ok_21 f_32.1 | omega)) ((by first | exact ok_348 f_32.2 | omega))
        refine lv_iinc (v := y_65) (lv' := [(6, .int y_65), (7, .int x_10), (5, .int x_12), (4, .int x_13), (3, .int y_4), (0, .ref (a 8)), (1, .ref (a 7)), (2, .int p0)]) hx hb dX10_mostEven_71 hl (k := 0) rfl (by rw [ey_65]; rfl) (lt_b rfl) rfl (fun ls hl => ?_)
        refine lv_goto (tgt := 49) hx hb dX10_mostEven_74 rfl ?_
        exact ih_28 (63 - y_65.toInt : Int).toNat ((by first | (clear b_1 b_3 b_5 f_17 f_18 f_19 f_20 ty_25 c_64; omega) | omega)) _ _ _ ⟨G_60, y_65, (Int.toNat_of_nonneg ((by first | exact ok_349 b_2.2 f_32.2 c_53 ty_65 | omega))), ⟨(by first | exact ok_23 f_32.1 ty_65 | omega), (by first | exact ok_350 b_2.2 f_32.2 c_53 ty_65 | omega)⟩, (hX_31.st (St_k_tMost_2_mk ⟨x_30, G_26, y_65, G_60, rfl, rfl, f_32, hB_G_26, ⟨c_53, ⟨r_59, G_60, hX_63, ⟨c_64, ⟨y_65, ty_65, ⟨rfl, rfl⟩⟩⟩⟩⟩⟩)), hW, hB_G_60, hF, (Fr.call9 (rs := [42]) (fs := []) (Fr.call9 (rs := [42]) (fs := []) Fr.rf hq_27 rfl rfl) hq_61 rfl rfl), hS, lv_sub hl [0, 1, 2, 3, 4, 5, 6, 7] rfl⟩
