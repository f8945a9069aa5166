theorem m997 : Cond.constant RX10 44 1000000 ∈ gd := gdc_4_10 1 rfl gw_constant
theorem m1001 : Cond.methodLink RX10 49 Lib.Math.min.name ∈ gd := gdc_4_10 5 rfl gw_methodLink
def rbX10_leastOf_0 : List (Nat × List Nat) := [(0, [18, 44]), (2, [62]), (3, [27]), (4, [54, 4]), (6, [21, 4]), (8, [28]), (9, [163, 0, 26]), (12, [21, 4]), (14, [17, 1, 146]), (17, [162, 0, 18]), (20, [29]), (21, [42]), (22, [21, 4]), (24, [46]), (25, [184, 0, 49]), (28, [62]), (29, [132, 4, 1]), (32, [167, 255, 230]), (35, [29]), (36, [172])]
theorem rcX10_leastOf_0 : dgo (lb cX10_leastOf) 0 rbX10_leastOf_0 = true := by decide +kernel
theorem dX10_leastOf_0 : decode cX10_leastOf 0 = .ok (.ldc 44, 2) := dk_18 (dw rcX10_leastOf_0 0 rfl)
theorem dX10_leastOf_2 : decode cX10_leastOf 2 = .ok (.istore_n 3, 1) := dk_62 (dw rcX10_leastOf_0 1 rfl)
theorem dX10_leastOf_3 : decode cX10_leastOf 3 = .ok (.iload_n 1, 1) := dk_27 (dw rcX10_leastOf_0 2 rfl)
theorem dX10_leastOf_4 : decode cX10_leastOf 4 = .ok (.istore 4, 2) := dk_54 (dw rcX10_leastOf_0 3 rfl)
theorem dX10_leastOf_6 : decode cX10_leastOf 6 = .ok (.iload 4, 2) := dk_21 (dw rcX10_leastOf_0 4 rfl)
theorem dX10_leastOf_8 : decode cX10_leastOf 8 = .ok (.iload_n 2, 1) := dk_28 (dw rcX10_leastOf_0 5 rfl)
theorem dX10_leastOf_9 : decode cX10_leastOf 9 = .ok (.if_icmp .gt 26, 3) := dk_163 (dw rcX10_leastOf_0 6 rfl) rfl
theorem dX10_leastOf_12 : decode cX10_leastOf 12 = .ok (.iload 4, 2) := dk_21 (dw rcX10_leastOf_0 7 rfl)
theorem dX10_leastOf_14 : decode cX10_leastOf 14 = .ok (.sipush 402, 3) := dk_17 (dw rcX10_leastOf_0 8 rfl) rfl
theorem dX10_leastOf_17 : decode cX10_leastOf 17 = .ok (.if_icmp .ge 18, 3) := dk_162 (dw rcX10_leastOf_0 9 rfl) rfl
theorem dX10_leastOf_20 : decode cX10_leastOf 20 = .ok (.iload_n 3, 1) := dk_29 (dw rcX10_leastOf_0 10 rfl)
theorem dX10_leastOf_21 : decode cX10_leastOf 21 = .ok (.aload_n 0, 1) := dk_42 (dw rcX10_leastOf_0 11 rfl)
theorem dX10_leastOf_22 : decode cX10_leastOf 22 = .ok (.iload 4, 2) := dk_21 (dw rcX10_leastOf_0 12 rfl)
theorem dX10_leastOf_24 : decode cX10_leastOf 24 = .ok (.iaload, 1) := dk_46 (dw rcX10_leastOf_0 13 rfl)
theorem dX10_leastOf_25 : decode cX10_leastOf 25 = .ok (.invokestatic 49, 3) := dk_184 (dw rcX10_leastOf_0 14 rfl) rfl
theorem dX10_leastOf_28 : decode cX10_leastOf 28 = .ok (.istore_n 3, 1) := dk_62 (dw rcX10_leastOf_0 15 rfl)
theorem dX10_leastOf_29 : decode cX10_leastOf 29 = .ok (.iinc 4 1, 3) := dk_132 (dw rcX10_leastOf_0 16 rfl) rfl
theorem dX10_leastOf_32 : decode cX10_leastOf 32 = .ok (.goto (-26), 3) := dk_167 (dw rcX10_leastOf_0 17 rfl) rfl
theorem dX10_leastOf_35 : decode cX10_leastOf 35 = .ok (.iload_n 3, 1) := dk_29 (dw rcX10_leastOf_0 18 rfl)
theorem dX10_leastOf_36 : decode cX10_leastOf 36 = .ok (.ireturn, 1) := dk_172 (dw rcX10_leastOf_0 19 rfl)
def rbX10_rowOf_0 : List (Nat × List Nat) := [(0, [5]), (1, [26]), (2, [4]), (3, [126]), (4, [104]), (5, [27]), (6, [153, 0, 7]), (9, [4]), (10, [167, 0, 4]), (13, [3]), (14, [96]), (15, [172])]
theorem rcX10_rowOf_0 : dgo (lb cX10_rowOf) 0 rbX10_rowOf_0 = true := by decide +kernel
theorem dX10_rowOf_0 : decode cX10_rowOf 0 = .ok (.iconst 2, 1) := dk_5 (dw rcX10_rowOf_0 0 rfl)
theorem dX10_rowOf_1 : decode cX10_rowOf 1 = .ok (.iload_n 0, 1) := dk_26 (dw rcX10_rowOf_0 1 rfl)
theorem dX10_rowOf_2 : decode cX10_rowOf 2 = .ok (.iconst 1, 1) := dk_4 (dw rcX10_rowOf_0 2 rfl)
theorem dX10_rowOf_3 : decode cX10_rowOf 3 = .ok (.iand, 1) := dk_126 (dw rcX10_rowOf_0 3 rfl)
theorem dX10_rowOf_4 : decode cX10_rowOf 4 = .ok (.imul, 1) := dk_104 (dw rcX10_rowOf_0 4 rfl)
theorem dX10_rowOf_5 : decode cX10_rowOf 5 = .ok (.iload_n 1, 1) := dk_27 (dw rcX10_rowOf_0 5 rfl)
theorem dX10_rowOf_6 : decode cX10_rowOf 6 = .ok (.ifCond .eq 7, 3) := dk_153 (dw rcX10_rowOf_0 6 rfl) rfl
theorem dX10_rowOf_9 : decode cX10_rowOf 9 = .ok (.iconst 1, 1) := dk_4 (dw rcX10_rowOf_0 7 rfl)
theorem dX10_rowOf_10 : decode cX10_rowOf 10 = .ok (.goto 4, 3) := dk_167 (dw rcX10_rowOf_0 8 rfl) rfl
theorem dX10_rowOf_13 : decode cX10_rowOf 13 = .ok (.iconst 0, 1) := dk_3 (dw rcX10_rowOf_0 9 rfl)
theorem dX10_rowOf_14 : decode cX10_rowOf 14 = .ok (.iadd, 1) := dk_96 (dw rcX10_rowOf_0 10 rfl)
theorem dX10_rowOf_15 : decode cX10_rowOf 15 = .ok (.ireturn, 1) := dk_172 (dw rcX10_rowOf_0 11 rfl)
set_option maxHeartbeats 4000000 in
set_option maxRecDepth 100000 in
theorem k_tLeast_42 (l : Launch) (D : va_G) (k : KT) (A : Nat → Prop) (a : Nat → Nat) (z : SK) (G : GS) (p0 : Int32) (p1 : Int32) (ha_p0 : 0 ≤ p0.toInt ∧ p0.toInt ≤ 1000) : Met l yX10_leastOf (WS yX10_leastOf cX10_leastOf 5 (some .int)) ({ frames := 1, cells := 0, slots := 0, locals := 13 }) (va_Pc [.ref (a 42), .int p0, .int p1] (cW D k A a z G)) (va_Qi (fun (r : Int32) (G1 : GS) => P_tLeast_42 p0 p1 G r G1) (fun (G1 : GS) t => Wd D k A a G1 t.heap) A) 0 0 A := by
  refine Met.ofW (cc := cX10_leastOf) (maxL := 5) (ret := (some .int)) (by decide) rfl ?_
  intro p e s m args below meth c s₁ B hml hv
  obtain ⟨rfl, hW, hB_G, hK, hZ⟩ := hv
  have hx := B.exec
  have hb := B.bytes
  have hr := B.returns
  have hts := atoms_spec (ws := WS yX10_leastOf cX10_leastOf 5 (some .int)) B.pre
  have hgd : ∀ w ∈ gd, w ∈ WS yX10_leastOf cX10_leastOf 5 (some .int) := fun w h => List.mem_cons_of_mem _ h
  have hg : ∀ w ∈ gd, w.before _ s = true := fun w h => hts w (hgd w h)
  have hown : s.vm.findClass RX10 = some m.cls := findClass_of_methodNamed B.named
  have hS : va_S A s.heap s.heap [] := va_S.rf
  have hF : Fr [] [] G G := Fr.rf
  have hl := lv_entry ([.ref (a 42), .int p0, .int p1]) (n := 5) (Nat.le_of_ble_eq_true rfl)
  rw [lg_entry_eq]
  generalize (lg_sl ([.ref (a 42), .int p0, .int p1]) ++ List.replicate (5 - (lg_sl ([.ref (a 42), .int p0, .int p1])).length) Slot.unset).toArray = ls at hl ⊢
  have hl : lv_has ls 5 [(0, .ref (a 42)), (1, .int p0), (2, .int p1)] := hl
  refine lv_ldc (v := 1000000) hx hb hown (hg (Cond.constant RX10 44 1000000) m997) dX10_leastOf_0 ?_
  refine lv_istore_n (lv' := [(3, .int 1000000), (0, .ref (a 42)), (1, .int p0), (2, .int p1)]) hx hb dX10_leastOf_2 rfl hl (lt_b rfl) rfl (fun ls hl => ?_)
  refine lv_iload_n hx hb dX10_leastOf_3 rfl (lv_at hl 2 rfl) ?_
  refine lv_istore (lv' := [(4, .int p0), (3, .int 1000000), (0, .ref (a 42)), (1, .int p0), (2, .int p1)]) hx hb dX10_leastOf_4 hl (lt_b rfl) rfl (fun ls hl => ?_)
  have qc_8 : (1000000 : Int32).toInt = 1000000 := rfl
  refine loop_N (Inv := fun n H locs ls => ∃ (G_1 : GS) (x_5 : Int32) (x_6 : Int32), (n : Int) = 1000 - x_5.toInt ∧ (0 ≤ x_5.toInt ∧ x_5.toInt ≤ 1000) ∧ (x_6.toInt ≤ 1000000) ∧ Rc (St_k_tLeast_42_1 p1) (p0, 1000000, G) (x_5, x_6, G_1) ∧ Wd D k A a G_1 H ∧ Bd G_1 ∧ Fr [] [] G G_1 ∧ Fr [] [] G G_1 ∧ va_S A s.heap H locs ∧ lv_has ls 5 [(4, .int x_5), (3, .int x_6), (0, .ref (a 42)), (2, .int p1)]) (fun n_4 H locs ls ih_3 hI => ?_) (1000 - p0.toInt : Int).toNat ⟨G, p0, 1000000, (Int.toNat_of_nonneg (by omega)), ⟨by omega, by omega⟩, (by omega), Rc.rf, hW, hB_G, hF, Fr.rf, hS, lv_sub hl [0, 1, 2, 4] rfl⟩
  obtain ⟨G_1, x_5, x_6, hn_11, f_9, f_10, hX_7, hW, hB_G_1, hF, hq_2, hS, hl⟩ := hI
  refine lv_iload hx hb dX10_leastOf_6 (lv_at hl 0 rfl) ?_
  refine lv_iload_n hx hb dX10_leastOf_8 rfl (lv_at hl 3 rfl) ?_
  refine lv_icmp_gt (tgt := 35) hx hb dX10_leastOf_9 rfl (fun c_12 => ?_) (fun c_12 => ?_)
  · have c_12 : p1.toInt < x_5.toInt := xI_lt rfl rfl c_12
    refine lv_iload_n hx hb dX10_leastOf_35 rfl (lv_at hl 1 rfl) ?_
    exact W.iret (v := x_6) hx hb hr (fun t ht _ => ⟨⟨x_6, G_1, rfl, (P_tLeast_42_mk ⟨hB_G_1, hF, ⟨x_5, x_6, G_1, hX_7, f_9, f_10, hB_G_1, hq_2, (Or.inl ⟨c_12, ⟨rfl, rfl⟩⟩)⟩⟩), wd_t ht hW⟩, hS.F ht⟩) hS.2.2 dX10_leastOf_36
  · have c_12 : x_5.toInt ≤ p1.toInt := xI_nlt rfl rfl c_12
    refine lv_iload hx hb dX10_leastOf_12 (lv_at hl 0 rfl) ?_
    refine lv_sipush (v := 402) hx hb dX10_leastOf_14 (by decide) ?_
    refine lv_icmp_ge (tgt := 35) hx hb dX10_leastOf_17 rfl (fun c_13 => ?_) (fun c_13 => ?_)
    · have c_13 : 402 ≤ x_5.toInt := xI_le rfl rfl c_13
      refine lv_iload_n hx hb dX10_leastOf_35 rfl (lv_at hl 1 rfl) ?_
      exact W.iret (v := x_6) hx hb hr (fun t ht _ => ⟨⟨x_6, G_1, rfl, (P_tLeast_42_mk ⟨hB_G_1, hF, ⟨x_5, x_6, G_1, hX_7, f_9, f_10, hB_G_1, hq_2, (Or.inr ⟨c_12, ⟨c_13, ⟨rfl, rfl⟩⟩⟩)⟩⟩), wd_t ht hW⟩, hS.F ht⟩) hS.2.2 dX10_leastOf_36
    · have c_13 : x_5.toInt < 402 := xI_nle rfl rfl c_13
      refine lv_iload_n hx hb dX10_leastOf_20 rfl (lv_at hl 1 rfl) ?_
      refine lv_aload_n hx hb dX10_leastOf_21 rfl (lv_at hl 2 rfl) ?_
      refine lv_iload hx hb dX10_leastOf_22 (lv_at hl 0 rfl) ?_
      refine S_iald hx hb hK hW kd_42 (vin ((by first | (clear ha_p0 hn_11 f_10; omega) | omega)) ((by first | (clear ha_p0 hn_11 f_10; omega) | omega))) dX10_leastOf_24 (fun y_14 ey_14 => ?_)
      refine va_mmin hx hb (by rw [hml]; exact hl.1.symm) hown (hg (Cond.methodLink RX10 49 Lib.Math.min.name) m1001) (hg (Cond.static Lib.Math.min.name) m636) (hg (Cond.initialized "java/lang/Math") m132) (hg (Cond.code Lib.Math.min.name Lib.Math.min.code 2 (some .int)) m637) (Nat.le_of_ble_eq_true rfl) (Nat.le_of_ble_eq_true rfl) (Nat.le_of_ble_eq_true rfl) (Nat.le_of_ble_eq_true rfl) dX10_leastOf_25 ?_
      refine lv_topi (fun y_15 ey_15 => ?_)
      have ty_15 := xI_min (X := x_6.toInt) (Y := y_14.toInt) rfl rfl ey_15
      refine lv_istore_n (lv' := [(3, .int y_15), (4, .int x_5), (0, .ref (a 42)), (2, .int p1)]) hx hb dX10_leastOf_28 rfl hl (lt_b rfl) rfl (fun ls hl => ?_)
      obtain ⟨y_16, ey_16⟩ : ∃ q, q = x_5 + 1 := ⟨_, rfl⟩
      have ty_16 : y_16.toInt = x_5.toInt + 1 := xI_add rfl rfl ey_16 ((by first | (clear ha_p0 hn_11 f_10; omega) | omega)) ((by first | (clear ha_p0 hn_11 f_10; omega) | omega))
      refine lv_iinc (v := y_16) (lv' := [(4, .int y_16), (3, .int y_15), (0, .ref (a 42)), (2, .int p1)]) hx hb dX10_leastOf_29 hl (k := 1) rfl (by rw [ey_16]; rfl) (lt_b rfl) rfl (fun ls hl => ?_)
      refine lv_goto (tgt := 6) hx hb dX10_leastOf_32 rfl ?_
      exact ih_3 (1000 - y_16.toInt : Int).toNat (by omega) _ _ _ ⟨G_1, y_16, y_15, (Int.toNat_of_nonneg ((by first | (clear ha_p0 hn_11 f_10; omega) | omega))), ⟨(by first | (clear ha_p0 hn_11 f_10; omega) | omega), (by first | (clear ha_p0 hn_11 f_10; omega) | omega)⟩, ((by first | (clear ha_p0 hn_11 f_9 f_10 c_12 c_13 ty_16; omega) | omega)), (hX_7.st (St_k_tLeast_42_1_mk ⟨x_5, x_6, G_1, y_16, y_15, G_1, rfl, rfl, f_9, f_10, hB_G_1, ⟨c_12, ⟨c_13, ⟨y_14, ey_14, ⟨y_15, ty_15, ⟨y_16, ty_16, ⟨rfl, rfl, rfl⟩⟩⟩⟩⟩⟩⟩)), hW, hB_G_1, hF, (Fr.call9 (rs := []) (fs := []) Fr.rf hq_2 rfl rfl), hS, lv_sub hl [0, 1, 2, 3] rfl⟩

set_option maxHeartbeats 4000000 in
set_option maxRecDepth 100000 in
theorem k_tLeast_43 (l : Launch) (D : va_G) (k : KT) (A : Nat → Prop) (a : Nat → Nat) (z : SK) (G : GS) (p0 : Int32) (p1 : Int32) (ha_p0 : 0 ≤ p0.toInt ∧ p0.toInt ≤ 1000) : Met l yX10_leastOf (WS yX10_leastOf cX10_leastOf 5 (some .int)) ({ frames := 1, cells := 0, slots := 0, locals := 13 }) (va_Pc [.ref (a 43), .int p0, .int p1] (cW D k A a z G)) (va_Qi (fun (r : Int32) (G1 : GS) => P_tLeast_43 p0 p1 G r G1) (fun (G1 : GS) t => Wd D k A a G1 t.heap) A) 0 0 A := by
  refine Met.ofW (cc := cX10_leastOf) (maxL := 5) (ret := (some .int)) (by decide) rfl ?_
  intro p e s m args below meth c s₁ B hml hv
  obtain ⟨rfl, hW, hB_G, hK, hZ⟩ := hv
  have hx := B.exec
  have hb := B.bytes
  have hr := B.returns
  have hts := atoms_spec (ws := WS yX10_leastOf cX10_leastOf 5 (some .int)) B.pre
  have hgd : ∀ w ∈ gd, w ∈ WS yX10_leastOf cX10_leastOf 5 (some .int) := fun w h => List.mem_cons_of_mem _ h
  have hg : ∀ w ∈ gd, w.before _ s = true := fun w h => hts w (hgd w h)
  have hown : s.vm.findClass RX10 = some m.cls := findClass_of_methodNamed B.named
  have hS : va_S A s.heap s.heap [] := va_S.rf
  have hF : Fr [] [] G G := Fr.rf
  have hl := lv_entry ([.ref (a 43), .int p0, .int p1]) (n := 5) (Nat.le_of_ble_eq_true rfl)
  rw [lg_entry_eq]
  generalize (lg_sl ([.ref (a 43), .int p0, .int p1]) ++ List.replicate (5 - (lg_sl ([.ref (a 43), .int p0, .int p1])).length) Slot.unset).toArray = ls at hl ⊢
  have hl : lv_has ls 5 [(0, .ref (a 43)), (1, .int p0), (2, .int p1)] := hl
  refine lv_ldc (v := 1000000) hx hb hown (hg (Cond.constant RX10 44 1000000) m997) dX10_leastOf_0 ?_
  refine lv_istore_n (lv' := [(3, .int 1000000), (0, .ref (a 43)), (1, .int p0), (2, .int p1)]) hx hb dX10_leastOf_2 rfl hl (lt_b rfl) rfl (fun ls hl => ?_)
  refine lv_iload_n hx hb dX10_leastOf_3 rfl (lv_at hl 2 rfl) ?_
  refine lv_istore (lv' := [(4, .int p0), (3, .int 1000000), (0, .ref (a 43)), (1, .int p0), (2, .int p1)]) hx hb dX10_leastOf_4 hl (lt_b rfl) rfl (fun ls hl => ?_)
  have qc_8 : (1000000 : Int32).toInt = 1000000 := rfl
  refine loop_N (Inv := fun n H locs ls => ∃ (G_1 : GS) (x_5 : Int32) (x_6 : Int32), (n : Int) = 1000 - x_5.toInt ∧ (0 ≤ x_5.toInt ∧ x_5.toInt ≤ 1000) ∧ (x_6.toInt ≤ 1000000) ∧ Rc (St_k_tLeast_43_1 p1) (p0, 1000000, G) (x_5, x_6, G_1) ∧ Wd D k A a G_1 H ∧ Bd G_1 ∧ Fr [] [] G G_1 ∧ Fr [] [] G G_1 ∧ va_S A s.heap H locs ∧ lv_has ls 5 [(4, .int x_5), (3, .int x_6), (0, .ref (a 43)), (2, .int p1)]) (fun n_4 H locs ls ih_3 hI => ?_) (1000 - p0.toInt : Int).toNat ⟨G, p0, 1000000, (Int.toNat_of_nonneg (by omega)), ⟨by omega, by omega⟩, (by omega), Rc.rf, hW, hB_G, hF, Fr.rf, hS, lv_sub hl [0, 1, 2, 4] rfl⟩
  obtain ⟨G_1, x_5, x_6, hn_11, f_9, f_10, hX_7, hW, hB_G_1, hF, hq_2, hS, hl⟩ := hI
  refine lv_iload hx hb dX10_leastOf_6 (lv_at hl 0 rfl) ?_
  refine lv_iload_n hx hb dX10_leastOf_8 rfl (lv_at hl 3 rfl) ?_
  refine lv_icmp_gt (tgt := 35) hx hb dX10_leastOf_9 rfl (fun c_12 => ?_) (fun c_12 => ?_)
  · have c_12 : p1.toInt < x_5.toInt := xI_lt rfl rfl c_12
    refine lv_iload_n hx hb dX10_leastOf_35 rfl (lv_at hl 1 rfl) ?_
    exact W.iret (v := x_6) hx hb hr (fun t ht _ => ⟨⟨x_6, G_1, rfl, (P_tLeast_43_mk ⟨hB_G_1, hF, ⟨x_5, x_6, G_1, hX_7, f_9, f_10, hB_G_1, hq_2, (Or.inl ⟨c_12, ⟨rfl, rfl⟩⟩)⟩⟩), wd_t ht hW⟩, hS.F ht⟩) hS.2.2 dX10_leastOf_36
  · have c_12 : x_5.toInt ≤ p1.toInt := xI_nlt rfl rfl c_12
    refine lv_iload hx hb dX10_leastOf_12 (lv_at hl 0 rfl) ?_
    refine lv_sipush (v := 402) hx hb dX10_leastOf_14 (by decide) ?_
    refine lv_icmp_ge (tgt := 35) hx hb dX10_leastOf_17 rfl (fun c_13 => ?_) (fun c_13 => ?_)
    · have c_13 : 402 ≤ x_5.toInt := xI_le rfl rfl c_13
      refine lv_iload_n hx hb dX10_leastOf_35 rfl (lv_at hl 1 rfl) ?_
      exact W.iret (v := x_6) hx hb hr (fun t ht _ => ⟨⟨x_6, G_1, rfl, (P_tLeast_43_mk ⟨hB_G_1, hF, ⟨x_5, x_6, G_1, hX_7, f_9, f_10, hB_G_1, hq_2, (Or.inr ⟨c_12, ⟨c_13, ⟨rfl, rfl⟩⟩⟩)⟩⟩), wd_t ht hW⟩, hS.F ht⟩) hS.2.2 dX10_leastOf_36
    · have c_13 : x_5.toInt < 402 := xI_nle rfl rfl c_13
      refine lv_iload_n hx hb dX10_leastOf_20 rfl (lv_at hl 1 rfl) ?_
      refine lv_aload_n hx hb dX10_leastOf_21 rfl (lv_at hl 2 rfl) ?_
      refine lv_iload hx hb dX10_leastOf_22 (lv_at hl 0 rfl) ?_
      refine S_iald hx hb hK hW kd_43 (vin ((by first | (clear ha_p0 hn_11 f_10; omega) | omega)) ((by first | (clear ha_p0 hn_11 f_10; omega) | omega))) dX10_leastOf_24 (fun y_14 ey_14 => ?_)
      refine va_mmin hx hb (by rw [hml]; exact hl.1.symm) hown (hg (Cond.methodLink RX10 49 Lib.Math.min.name) m1001) (hg (Cond.static Lib.Math.min.name) m636) (hg (Cond.initialized "java/lang/Math") m132) (hg (Cond.code Lib.Math.min.name Lib.Math.min.code 2 (some .int)) m637) (Nat.le_of_ble_eq_true rfl) (Nat.le_of_ble_eq_true rfl) (Nat.le_of_ble_eq_true rfl) (Nat.le_of_ble_eq_true rfl) dX10_leastOf_25 ?_
      refine lv_topi (fun y_15 ey_15 => ?_)
      have ty_15 := xI_min (X := x_6.toInt) (Y := y_14.toInt) rfl rfl ey_15
      refine lv_istore_n (lv' := [(3, .int y_15), (4, .int x_5), (0, .ref (a 43)), (2, .int p1)]) hx hb dX10_leastOf_28 rfl hl (lt_b rfl) rfl (fun ls hl => ?_)
      obtain ⟨y_16, ey_16⟩ : ∃ q, q = x_5 + 1 := ⟨_, rfl⟩
      have ty_16 : y_16.toInt = x_5.toInt + 1 := xI_add rfl rfl ey_16 ((by first | (clear ha_p0 hn_11 f_10; omega) | omega)) ((by first | (clear ha_p0 hn_11 f_10; omega) | omega))
      refine lv_iinc (v := y_16) (lv' := [(4, .int y_16), (3, .int y_15), (0, .ref (a 43)), (2, .int p1)]) hx hb dX10_leastOf_29 hl (k := 1) rfl (by rw [ey_16]; rfl) (lt_b rfl) rfl (fun ls hl => ?_)
      refine lv_goto (tgt := 6) hx hb dX10_leastOf_32 rfl ?_
      exact ih_3 (1000 - y_16.toInt : Int).toNat (by omega) _ _ _ ⟨G_1, y_16, y_15, (Int.toNat_of_nonneg ((by first | (clear ha_p0 hn_11 f_10; omega) | omega))), ⟨(by first | (clear ha_p0 hn_11 f_10; omega) | omega), (by first | (clear ha_p0 hn_11 f_10; omega) | omega)⟩, ((by first | (clear ha_p0 hn_11 f_9 f_10 c_12 c_13 ty_16; omega) | omega)), (hX_7.st (St_k_tLeast_43_1_mk ⟨x_5, x_6, G_1, y_16, y_15, G_1, rfl, rfl, f_9, f_10, hB_G_1, ⟨c_12, ⟨c_13, ⟨y_14, ey_14, ⟨y_15, ty_15, ⟨y_16, ty_16, ⟨rfl, rfl, rfl⟩⟩⟩⟩⟩⟩⟩)), hW, hB_G_1, hF, (Fr.call9 (rs := []) (fs := []) Fr.rf hq_2 rfl rfl), hS, lv_sub hl [0, 1, 2, 3] rfl⟩

set_option maxHeartbeats 4000000 in
set_option maxRecDepth 100000 in
theorem k_tLeast_44 (l : Launch) (D : va_G) (k : KT) (A : Nat → Prop) (a : Nat → Nat) (z : SK) (G : GS) (p0 : Int32) (p1 : Int32) (ha_p0 : 0 ≤ p0.toInt ∧ p0.toInt ≤ 1000) : Met l yX10_leastOf (WS yX10_leastOf cX10_leastOf 5 (some .int)) ({ frames := 1, cells := 0, slots := 0, locals := 13 }) (va_Pc [.ref (a 44), .int p0, .int p1] (cW D k A a z G)) (va_Qi (fun (r : Int32) (G1 : GS) => P_tLeast_44 p0 p1 G r G1) (fun (G1 : GS) t => Wd D k A a G1 t.heap) A) 0 0 A := by
  refine Met.ofW (cc := cX10_leastOf) (maxL := 5) (ret := (some .int)) (by decide) rfl ?_
  intro p e s m args below meth c s₁ B hml hv
  obtain ⟨rfl, hW, hB_G, hK, hZ⟩ := hv
  have hx := B.exec
  have hb := B.bytes
  have hr := B.returns
  have hts := atoms_spec (ws := WS yX10_leastOf cX10_leastOf 5 (some .int)) B.pre
  have hgd : ∀ w ∈ gd, w ∈ WS yX10_leastOf cX10_leastOf 5 (some .int) := fun w h => List.mem_cons_of_mem _ h
  have hg : ∀ w ∈ gd, w.before _ s = true := fun w h => hts w (hgd w h)
  have hown : s.vm.findClass RX10 = some m.cls := findClass_of_methodNamed B.named
  have hS : va_S A s.heap s.heap [] := va_S.rf
  have hF : Fr [] [] G G := Fr.rf
  have hl := lv_entry ([.ref (a 44), .int p0, .int p1]) (n := 5) (Nat.le_of_ble_eq_true rfl)
  rw [lg_entry_eq]
  generalize (lg_sl ([.ref (a 44), .int p0, .int p1]) ++ List.replicate (5 - (lg_sl ([.ref (a 44), .int p0, .int p1])).length) Slot.unset).toArray = ls at hl ⊢
  have hl : lv_has ls 5 [(0, .ref (a 44)), (1, .int p0), (2, .int p1)] := hl
  refine lv_ldc (v := 1000000) hx hb hown (hg (Cond.constant RX10 44 1000000) m997) dX10_leastOf_0 ?_
  refine lv_istore_n (lv' := [(3, .int 1000000), (0, .ref (a 44)), (1, .int p0), (2, .int p1)]) hx hb dX10_leastOf_2 rfl hl (lt_b rfl) rfl (fun ls hl => ?_)
  refine lv_iload_n hx hb dX10_leastOf_3 rfl (lv_at hl 2 rfl) ?_
  refine lv_istore (lv' := [(4, .int p0), (3, .int 1000000), (0, .ref (a 44)), (1, .int p0), (2, .int p1)]) hx hb dX10_leastOf_4 hl (lt_b rfl) rfl (fun ls hl => ?_)
  have qc_8 : (1000000 : Int32).toInt = 1000000 := rfl
  refine loop_N (Inv := fun n H locs ls => ∃ (G_1 : GS) (x_5 : Int32) (x_6 : Int32), (n : Int) = 1000 - x_5.toInt ∧ (0 ≤ x_5.toInt ∧ x_5.toInt ≤ 1000) ∧ (x_6.toInt ≤ 1000000) ∧ Rc (St_k_tLeast_44_1 p1) (p0, 1000000, G) (x_5, x_6, G_1) ∧ Wd D k A a G_1 H ∧ Bd G_1 ∧ Fr [] [] G G_1 ∧ Fr [] [] G G_1 ∧ va_S A s.heap H locs ∧ lv_has ls 5 [(4, .int x_5), (3, .int x_6), (0, .ref (a 44)), (2, .int p1)]) (fun n_4 H locs ls ih_3 hI => ?_) (1000 - p0.toInt : Int).toNat ⟨G, p0, 1000000, (Int.toNat_of_nonneg (by omega)), ⟨by omega, by omega⟩, (by omega), Rc.rf, hW, hB_G, hF, Fr.rf, hS, lv_sub hl [0, 1, 2, 4] rfl⟩
  obtain ⟨G_1, x_5, x_6, hn_11, f_9, f_10, hX_7, hW, hB_G_1, hF, hq_2, hS, hl⟩ := hI
  refine lv_iload hx hb dX10_leastOf_6 (lv_at hl 0 rfl) ?_
  refine lv_iload_n hx hb dX10_leastOf_8 rfl (lv_at hl 3 rfl) ?_
  refine lv_icmp_gt (tgt := 35) hx hb dX10_leastOf_9 rfl (fun c_12 => ?_) (fun c_12 => ?_)
  · have c_12 : p1.toInt < x_5.toInt := xI_lt rfl rfl c_12
    refine lv_iload_n hx hb dX10_leastOf_35 rfl (lv_at hl 1 rfl) ?_
    exact W.iret (v := x_6) hx hb hr (fun t ht _ => ⟨⟨x_6, G_1, rfl, (P_tLeast_44_mk ⟨hB_G_1, hF, ⟨x_5, x_6, G_1, hX_7, f_9, f_10, hB_G_1, hq_2, (Or.inl ⟨c_12, ⟨rfl, rfl⟩⟩)⟩⟩), wd_t ht hW⟩, hS.F ht⟩) hS.2.2 dX10_leastOf_36
  · have c_12 : x_5.toInt ≤ p1.toInt := xI_nlt rfl rfl c_12
    refine lv_iload hx hb dX10_leastOf_12 (lv_at hl 0 rfl) ?_
    refine lv_sipush (v := 402) hx hb dX10_leastOf_14 (by decide) ?_
    refine lv_icmp_ge (tgt := 35) hx hb dX10_leastOf_17 rfl (fun c_13 => ?_) (fun c_13 => ?_)
    · have c_13 : 402 ≤ x_5.toInt := xI_le rfl rfl c_13
      refine lv_iload_n hx hb dX10_leastOf_35 rfl (lv_at hl 1 rfl) ?_
      exact W.iret (v := x_6) hx hb hr (fun t ht _ => ⟨⟨x_6, G_1, rfl, (P_tLeast_44_mk ⟨hB_G_1, hF, ⟨x_5, x_6, G_1, hX_7, f_9, f_10, hB_G_1, hq_2, (Or.inr ⟨c_12, ⟨c_13, ⟨rfl, rfl⟩⟩⟩)⟩⟩), wd_t ht hW⟩, hS.F ht⟩) hS.2.2 dX10_leastOf_36
    · have c_13 : x_5.toInt < 402 := xI_nle rfl rfl c_13
      refine lv_iload_n hx hb dX10_leastOf_20 rfl (lv_at hl 1 rfl) ?_
      refine lv_aload_n hx hb dX10_leastOf_21 rfl (lv_at hl 2 rfl) ?_
      refine lv_iload hx hb dX10_leastOf_22 (lv_at hl 0 rfl) ?_
      refine S_iald hx hb hK hW kd_44 (vin ((by first | (clear ha_p0 hn_11 f_10; omega) | omega)) ((by first | (clear ha_p0 hn_11 f_10; omega) | omega))) dX10_leastOf_24 (fun y_14 ey_14 => ?_)
      refine va_mmin hx hb (by rw [hml]; exact hl.1.symm) hown (hg (Cond.methodLink RX10 49 Lib.Math.min.name) m1001) (hg (Cond.static Lib.Math.min.name) m636) (hg (Cond.initialized "java/lang/Math") m132) (hg (Cond.code Lib.Math.min.name Lib.Math.min.code 2 (some .int)) m637) (Nat.le_of_ble_eq_true rfl) (Nat.le_of_ble_eq_true rfl) (Nat.le_of_ble_eq_true rfl) (Nat.le_of_ble_eq_true rfl) dX10_leastOf_25 ?_
      refine lv_topi (fun y_15 ey_15 => ?_)
      have ty_15 := xI_min (X := x_6.toInt) (Y := y_14.toInt) rfl rfl ey_15
      refine lv_istore_n (lv' := [(3, .int y_15), (4, .int x_5), (0, .ref (a 44)), (2, .int p1)]) hx hb dX10_leastOf_28 rfl hl (lt_b rfl) rfl (fun ls hl => ?_)
      obtain ⟨y_16, ey_16⟩ : ∃ q, q = x_5 + 1 := ⟨_, rfl⟩
      have ty_16 : y_16.toInt = x_5.toInt + 1 := xI_add rfl rfl ey_16 ((by first | (clear ha_p0 hn_11 f_10; omega) | omega)) ((by first | (clear ha_p0 hn_11 f_10; omega) | omega))
      refine lv_iinc (v := y_16) (lv' := [(4, .int y_16), (3, .int y_15), (0, .ref (a 44)), (2, .int p1)]) hx hb dX10_leastOf_29 hl (k := 1) rfl (by rw [ey_16]; rfl) (lt_b rfl) rfl (fun ls hl => ?_)
      refine lv_goto (tgt := 6) hx hb dX10_leastOf_32 rfl ?_
      exact ih_3 (1000 - y_16.toInt : Int).toNat (by omega) _ _ _ ⟨G_1, y_16, y_15, (Int.toNat_of_nonneg ((by first | (clear ha_p0 hn_11 f_10; omega) | omega))), ⟨(by first | (clear ha_p0 hn_11 f_10; omega) | omega), (by first | (clear ha_p0 hn_11 f_10; omega) | omega)⟩, ((by first | (clear ha_p0 hn_11 f_9 f_10 c_12 c_13 ty_16; omega) | omega)), (hX_7.st (St_k_tLeast_44_1_mk ⟨x_5, x_6, G_1, y_16, y_15, G_1, rfl, rfl, f_9, f_10, hB_G_1, ⟨c_12, ⟨c_13, ⟨y_14, ey_14, ⟨y_15, ty_15, ⟨y_16, ty_16, ⟨rfl, rfl, rfl⟩⟩⟩⟩⟩⟩⟩)), hW, hB_G_1, hF, (Fr.call9 (rs := []) (fs := []) Fr.rf hq_2 rfl rfl), hS, lv_sub hl [0, 1, 2, 3] rfl⟩

set_option maxHeartbeats 4000000 in
set_option maxRecDepth 100000 in
theorem k_tLeast_45 (l : Launch) (D : va_G) (k : KT) (A : Nat → Prop) (a : Nat → Nat) (z : SK) (G : GS) (p0 : Int32) (p1 : Int32) (ha_p0 : 0 ≤ p0.toInt ∧ p0.toInt ≤ 1000) : Met l yX10_leastOf (WS yX10_leastOf cX10_leastOf 5 (some .int)) ({ frames := 1, cells := 0, slots := 0, locals := 13 }) (va_Pc [.ref (a 45), .int p0, .int p1] (cW D k A a z G)) (va_Qi (fun (r : Int32) (G1 : GS) => P_tLeast_45 p0 p1 G r G1) (fun (G1 : GS) t => Wd D k A a G1 t.heap) A) 0 0 A := by
  refine Met.ofW (cc := cX10_leastOf) (maxL := 5) (ret := (some .int)) (by decide) rfl ?_
  intro p e s m args below meth c s₁ B hml hv
  obtain ⟨rfl, hW, hB_G, hK, hZ⟩ := hv
  have hx := B.exec
  have hb := B.bytes
  have hr := B.returns
  have hts := atoms_spec (ws := WS yX10_leastOf cX10_leastOf 5 (some .int)) B.pre
  have hgd : ∀ w ∈ gd, w ∈ WS yX10_leastOf cX10_leastOf 5 (some .int) := fun w h => List.mem_cons_of_mem _ h
  have hg : ∀ w ∈ gd, w.before _ s = true := fun w h => hts w (hgd w h)
  have hown : s.vm.findClass RX10 = some m.cls := findClass_of_methodNamed B.named
  have hS : va_S A s.heap s.heap [] := va_S.rf
  have hF : Fr [] [] G G := Fr.rf
  have hl := lv_entry ([.ref (a 45), .int p0, .int p1]) (n := 5) (Nat.le_of_ble_eq_true rfl)
  rw [lg_entry_eq]
  generalize (lg_sl ([.ref (a 45), .int p0, .int p1]) ++ List.replicate (5 - (lg_sl ([.ref (a 45), .int p0, .int p1])).length) Slot.unset).toArray = ls at hl ⊢
  have hl : lv_has ls 5 [(0, .ref (a 45)), (1, .int p0), (2, .int p1)] := hl
  refine lv_ldc (v := 1000000) hx hb hown (hg (Cond.constant RX10 44 1000000) m997) dX10_leastOf_0 ?_
  refine lv_istore_n (lv' := [(3, .int 1000000), (0, .ref (a 45)), (1, .int p0), (2, .int p1)]) hx hb dX10_leastOf_2 rfl hl (lt_b rfl) rfl (fun ls hl => ?_)
  refine lv_iload_n hx hb dX10_leastOf_3 rfl (lv_at hl 2 rfl) ?_
  refine lv_istore (lv' := [(4, .int p0), (3, .int 1000000), (0, .ref (a 45)), (1, .int p0), (2, .int p1)]) hx hb dX10_leastOf_4 hl (lt_b rfl) rfl (fun ls hl => ?_)
  have qc_8 : (1000000 : Int32).toInt = 1000000 := rfl
  refine loop_N (Inv := fun n H locs ls => ∃ (G_1 : GS) (x_5 : Int32) (x_6 : Int32), (n : Int) = 1000 - x_5.toInt ∧ (0 ≤ x_5.toInt ∧ x_5.toInt ≤ 1000) ∧ (x_6.toInt ≤ 1000000) ∧ Rc (St_k_tLeast_45_1 p1) (p0, 1000000, G) (x_5, x_6, G_1) ∧ Wd D k A a G_1 H ∧ Bd G_1 ∧ Fr [] [] G G_1 ∧ Fr [] [] G G_1 ∧ va_S A s.heap H locs ∧ lv_has ls 5 [(4, .int x_5), (3, .int x_6), (0, .ref (a 45)), (2, .int p1)]) (fun n_4 H locs ls ih_3 hI => ?_) (1000 - p0.toInt : Int).toNat ⟨G, p0, 1000000, (Int.toNat_of_nonneg (by omega)), ⟨by omega, by omega⟩, (by omega), Rc.rf, hW, hB_G, hF, Fr.rf, hS, lv_sub hl [0, 1, 2, 4] rfl⟩
  obtain ⟨G_1, x_5, x_6, hn_11, f_9, f_10, hX_7, hW, hB_G_1, hF, hq_2, hS, hl⟩ := hI
  refine lv_iload hx hb dX10_leastOf_6 (lv_at hl 0 rfl) ?_
  refine lv_iload_n hx hb dX10_leastOf_8 rfl (lv_at hl 3 rfl) ?_
  refine lv_icmp_gt (tgt := 35) hx hb dX10_leastOf_9 rfl (fun c_12 => ?_) (fun c_12 => ?_)
  · have c_12 : p1.toInt < x_5.toInt := xI_lt rfl rfl c_12
    refine lv_iload_n hx hb dX10_leastOf_35 rfl (lv_at hl 1 rfl) ?_
    exact W.iret (v := x_6) hx hb hr (fun t ht _ => ⟨⟨x_6, G_1, rfl, (P_tLeast_45_mk ⟨hB_G_1, hF, ⟨x_5, x_6, G_1, hX_7, f_9, f_10, hB_G_1, hq_2, (Or.inl ⟨c_12, ⟨rfl, rfl⟩⟩)⟩⟩), wd_t ht hW⟩, hS.F ht⟩) hS.2.2 dX10_leastOf_36
  · have c_12 : x_5.toInt ≤ p1.toInt := xI_nlt rfl rfl c_12
    refine lv_iload hx hb dX10_leastOf_12 (lv_at hl 0 rfl) ?_
    refine lv_sipush (v := 402) hx hb dX10_leastOf_14 (by decide) ?_
    refine lv_icmp_ge (tgt := 35) hx hb dX10_leastOf_17 rfl (fun c_13 => ?_) (fun c_13 => ?_)
    · have c_13 : 402 ≤ x_5.toInt := xI_le rfl rfl c_13
      refine lv_iload_n hx hb dX10_leastOf_35 rfl (lv_at hl 1 rfl) ?_
      exact W.iret (v := x_6) hx hb hr (fun t ht _ => ⟨⟨x_6, G_1, rfl, (P_tLeast_45_mk ⟨hB_G_1, hF, ⟨x_5, x_6, G_1, hX_7, f_9, f_10, hB_G_1, hq_2, (Or.inr ⟨c_12, ⟨c_13, ⟨rfl, rfl⟩⟩⟩)⟩⟩), wd_t ht hW⟩, hS.F ht⟩) hS.2.2 dX10_leastOf_36
    · have c_13 : x_5.toInt < 402 := xI_nle rfl rfl c_13
      refine lv_iload_n hx hb dX10_leastOf_20 rfl (lv_at hl 1 rfl) ?_
      refine lv_aload_n hx hb dX10_leastOf_21 rfl (lv_at hl 2 rfl) ?_
      refine lv_iload hx hb dX10_leastOf_22 (lv_at hl 0 rfl) ?_
      refine S_iald hx hb hK hW kd_45 (vin ((by first | (clear ha_p0 hn_11 f_10; omega) | omega)) ((by first | (clear ha_p0 hn_11 f_10; omega) | omega))) dX10_leastOf_24 (fun y_14 ey_14 => ?_)
      refine va_mmin hx hb (by rw [hml]; exact hl.1.symm) hown (hg (Cond.methodLink RX10 49 Lib.Math.min.name) m1001) (hg (Cond.static Lib.Math.min.name) m636) (hg (Cond.initialized "java/lang/Math") m132) (hg (Cond.code Lib.Math.min.name Lib.Math.min.code 2 (some .int)) m637) (Nat.le_of_ble_eq_true rfl) (Nat.le_of_ble_eq_true rfl) (Nat.le_of_ble_eq_true rfl) (Nat.le_of_ble_eq_true rfl) dX10_leastOf_25 ?_
      refine lv_topi (fun y_15 ey_15 => ?_)
      have ty_15 := xI_min (X := x_6.toInt) (Y := y_14.toInt) rfl rfl ey_15
      refine lv_istore_n (lv' := [(3, .int y_15), (4, .int x_5), (0, .ref (a 45)), (2, .int p1)]) hx hb dX10_leastOf_28 rfl hl (lt_b rfl) rfl (fun ls hl => ?_)
      obtain ⟨y_16, ey_16⟩ : ∃ q, q = x_5 + 1 := ⟨_, rfl⟩
      have ty_16 : y_16.toInt = x_5.toInt + 1 := xI_add rfl rfl ey_16 ((by first | (clear ha_p0 hn_11 f_10; omega) | omega)) ((by first | (clear ha_p0 hn_11 f_10; omega) | omega))
      refine lv_iinc (v := y_16) (lv' := [(4, .int y_16), (3, .int y_15), (0, .ref (a 45)), (2, .int p1)]) hx hb dX10_leastOf_29 hl (k := 1) rfl (by rw [ey_16]; rfl) (lt_b rfl) rfl (fun ls hl => ?_)
      refine lv_goto (tgt := 6) hx hb dX10_leastOf_32 rfl ?_
      exact ih_3 (1000 - y_16.toInt : Int).toNat (by omega) _ _ _ ⟨G_1, y_16, y_15, (Int.toNat_of_nonneg ((by first | (clear ha_p0 hn_11 f_10; omega) | omega))), ⟨(by first | (clear ha_p0 hn_11 f_10; omega) | omega), (by first | (clear ha_p0 hn_11 f_10; omega) | omega)⟩, ((by first | (clear ha_p0 hn_11 f_9 f_10 c_12 c_13 ty_16; omega) | omega)), (hX_7.st (St_k_tLeast_45_1_mk ⟨x_5, x_6, G_1, y_16, y_15, G_1, rfl, rfl, f_9, f_10, hB_G_1, ⟨c_12, ⟨c_13, ⟨y_14, ey_14, ⟨y_15, ty_15, ⟨y_16, ty_16, ⟨rfl, rfl, rfl⟩⟩⟩⟩⟩⟩⟩)), hW, hB_G_1, hF, (Fr.call9 (rs := []) (fs := []) Fr.rf hq_2 rfl rfl), hS, lv_sub hl [0, 1, 2, 3] rfl⟩

set_option maxHeartbeats 4000000 in
set_option maxRecDepth 100000 in
theorem k_tRow (l : Launch) (D : va_G) (k : KT) (A : Nat → Prop) (a : Nat → Nat) (z : SK) (G : GS) (p0 : Int32) (p1 : Int32)  : Met l yX10_rowOf (WS yX10_rowOf cX10_rowOf 2 (some .int)) ({ frames := 0, cells := 0, slots := 0, locals := 0 }) (va_Pc [.int p0, .int p1] (cW D k A a z G)) (va_Qi (fun (r : Int32) (G1 : GS) => P_tRow p0 p1 G r G1) (fun (G1 : GS) t => Wd D k A a G1 t.heap) A) 0 0 A := by
  refine Met.ofW (cc := cX10_rowOf) (maxL := 2) (ret := (some .int)) (by decide) rfl ?_
  intro p e s m args below meth c s₁ B hml hv
  obtain ⟨rfl, hW, hB_G, hK, hZ⟩ := hv
  have hx := B.exec
  have hb := B.bytes
  have hr := B.returns
  have hts := atoms_spec (ws := WS yX10_rowOf cX10_rowOf 2 (some .int)) B.pre
  have hgd : ∀ w ∈ gd, w ∈ WS yX10_rowOf cX10_rowOf 2 (some .int) := fun w h => List.mem_cons_of_mem _ h
  have hg : ∀ w ∈ gd, w.before _ s = true := fun w h => hts w (hgd w h)
  have hown : s.vm.findClass RX10 = some m.cls := findClass_of_methodNamed B.named
  have hS : va_S A s.heap s.heap [] := va_S.rf
  have hF : Fr [] [] G G := Fr.rf
  have hl := lv_entry ([.int p0, .int p1]) (n := 2) (Nat.le_of_ble_eq_true rfl)
  rw [lg_entry_eq]
  generalize (lg_sl ([.int p0, .int p1]) ++ List.replicate (2 - (lg_sl ([.int p0, .int p1])).length) Slot.unset).toArray = ls at hl ⊢
  have hl : lv_has ls 2 [(0, .int p0), (1, .int p1)] := hl
  refine ic_2 hx hb dX10_rowOf_0 ?_
  refine lv_iload_n hx hb dX10_rowOf_1 rfl (lv_at hl 0 rfl) ?_
  refine ic_1 hx hb dX10_rowOf_2 ?_
  refine lv_iand hx hb dX10_rowOf_3 ?_
  refine lv_topi (fun y_1 ey_1 => ?_)
  have ty_1 := xI_and (Y := 1) rfl ey_1 (by decide)
  refine lv_imul hx hb dX10_rowOf_4 ?_
  refine lv_topi (fun y_2 ey_2 => ?_)
  have ty_2 : y_2.toInt = 2 * y_1.toInt := xI_mul rfl rfl ey_2 (by omega) (by omega)
  refine lv_iload_n hx hb dX10_rowOf_5 rfl (lv_at hl 1 rfl) ?_
  refine lv_if_eq (tgt := 13) hx hb dX10_rowOf_6 rfl (fun c_3 => ?_) (fun c_3 => ?_)
  · have c_3 : p1.toInt = 0 := xI_eq rfl rfl c_3
    refine ic_0 hx hb dX10_rowOf_13 ?_
    refine lv_iadd hx hb dX10_rowOf_14 ?_
    refine lv_topi (fun y_4 ey_4 => ?_)
    have ty_4 : y_4.toInt = y_2.toInt + 0 := xI_add rfl rfl ey_4 (by omega) (by omega)
    exact W.iret (v := y_4) hx hb hr (fun t ht _ => ⟨⟨y_4, G, rfl, (P_tRow_mk ⟨hB_G, hF, ⟨by omega, by omega⟩, ⟨y_1, ey_1, ⟨y_2, ty_2, (Or.inl ⟨c_3, ⟨y_4, ty_4, ⟨rfl, rfl⟩⟩⟩)⟩⟩⟩), wd_t ht hW⟩, hS.F ht⟩) hS.2.2 dX10_rowOf_15
  · have c_3 : p1.toInt ≠ 0 := xI_ne rfl rfl c_3
    refine ic_1 hx hb dX10_rowOf_9 ?_
    refine lv_goto (tgt := 14) hx hb dX10_rowOf_10 rfl ?_
    refine lv_iadd hx hb dX10_rowOf_14 ?_
    refine lv_topi (fun y_5 ey_5 => ?_)
    have ty_5 : y_5.toInt = y_2.toInt + 1 := xI_add rfl rfl ey_5 (by omega) (by omega)
    exact W.iret (v := y_5) hx hb hr (fun t ht _ => ⟨⟨y_5, G, rfl, (P_tRow_mk ⟨hB_G, hF, ⟨by omega, by omega⟩, ⟨y_1, ey_1, ⟨y_2, ty_2, (Or.inr ⟨c_3, ⟨y_5, ty_5, ⟨rfl, rfl⟩⟩⟩)⟩⟩⟩), wd_t ht hW⟩, hS.F ht⟩) hS.2.2 dX10_rowOf_15
