
def rbJ7_fill_53178_0 : List (Nat × List Nat) := [(0, [3]), (1, [61]), (2, [42]), (3, [190]), (4, [62]), (5, [28]), (6, [29]), (7, [162, 0, 13]), (10, [42]), (11, [28]), (12, [27]), (13, [79]), (14, [132, 2, 1]), (17, [167, 255, 244]), (20, [177])]
theorem rcJ7_fill_53178_0 : dgo (lb cJ7_fill_53178) 0 rbJ7_fill_53178_0 = true := by decide +kernel
theorem dJ7_fill_53178_0 : decode cJ7_fill_53178 0 = .ok (.iconst 0, 1) := dk_3 (dw rcJ7_fill_53178_0 0 rfl)
theorem dJ7_fill_53178_1 : decode cJ7_fill_53178 1 = .ok (.istore_n 2, 1) := dk_61 (dw rcJ7_fill_53178_0 1 rfl)
theorem dJ7_fill_53178_2 : decode cJ7_fill_53178 2 = .ok (.aload_n 0, 1) := dk_42 (dw rcJ7_fill_53178_0 2 rfl)
theorem dJ7_fill_53178_3 : decode cJ7_fill_53178 3 = .ok (.arraylength, 1) := dk_190 (dw rcJ7_fill_53178_0 3 rfl)
theorem dJ7_fill_53178_4 : decode cJ7_fill_53178 4 = .ok (.istore_n 3, 1) := dk_62 (dw rcJ7_fill_53178_0 4 rfl)
theorem dJ7_fill_53178_5 : decode cJ7_fill_53178 5 = .ok (.iload_n 2, 1) := dk_28 (dw rcJ7_fill_53178_0 5 rfl)
theorem dJ7_fill_53178_6 : decode cJ7_fill_53178 6 = .ok (.iload_n 3, 1) := dk_29 (dw rcJ7_fill_53178_0 6 rfl)
theorem dJ7_fill_53178_7 : decode cJ7_fill_53178 7 = .ok (.if_icmp .ge 13, 3) := dk_162 (dw rcJ7_fill_53178_0 7 rfl) rfl
theorem dJ7_fill_53178_10 : decode cJ7_fill_53178 10 = .ok (.aload_n 0, 1) := dk_42 (dw rcJ7_fill_53178_0 8 rfl)
theorem dJ7_fill_53178_11 : decode cJ7_fill_53178 11 = .ok (.iload_n 2, 1) := dk_28 (dw rcJ7_fill_53178_0 9 rfl)
theorem dJ7_fill_53178_12 : decode cJ7_fill_53178 12 = .ok (.iload_n 1, 1) := dk_27 (dw rcJ7_fill_53178_0 10 rfl)
theorem dJ7_fill_53178_13 : decode cJ7_fill_53178 13 = .ok (.iastore, 1) := dk_79 (dw rcJ7_fill_53178_0 11 rfl)
theorem dJ7_fill_53178_14 : decode cJ7_fill_53178 14 = .ok (.iinc 2 1, 3) := dk_132 (dw rcJ7_fill_53178_0 12 rfl) rfl
theorem dJ7_fill_53178_17 : decode cJ7_fill_53178 17 = .ok (.goto (-12), 3) := dk_167 (dw rcJ7_fill_53178_0 13 rfl) rfl
theorem dJ7_fill_53178_20 : decode cJ7_fill_53178 20 = .ok (.return_, 1) := dk_177 (dw rcJ7_fill_53178_0 14 rfl)
set_option maxHeartbeats 4000000 in
set_option maxRecDepth 100000 in
theorem k_fill_38 (l : Launch) (D : va_G) (k : KT) (A : Nat → Prop) (a : Nat → Nat) (z : SK) (G : GS) (p0 : Int32)  : Met l yJ7_fill_53178 (WS yJ7_fill_53178 cJ7_fill_53178 4 none) ({ frames := 0, cells := 0, slots := 0, locals := 0 }) (va_Pc [.ref (a 38), .int p0] (cW D k A a z G)) (va_Qv (fun (G1 : GS) => P_fill_38 p0 G G1) (fun (G1 : GS) t => Wd D k A a G1 t.heap) A) 0 0 A := by
  refine Met.ofW (cc := cJ7_fill_53178) (maxL := 4) (ret := none) (by decide) rfl ?_
  intro p e s m args below meth c s₁ B hml hv
  obtain ⟨rfl, hW, hB_G, hK, hZ⟩ := hv
  have hx := B.exec
  have hb := B.bytes
  have hr := B.returns
  have hts := atoms_spec (ws := WS yJ7_fill_53178 cJ7_fill_53178 4 none) B.pre
  have hgd : ∀ w ∈ gd, w ∈ WS yJ7_fill_53178 cJ7_fill_53178 4 none := fun w h => List.mem_cons_of_mem _ h
  have hg : ∀ w ∈ gd, w.before _ s = true := fun w h => hts w (hgd w h)
  have hown : s.vm.findClass RJ7 = some m.cls := findClass_of_methodNamed B.named
  have hS : va_S A s.heap s.heap [] := va_S.rf
  have hF : Fr [38] [] G G := Fr.rf
  have hl := lv_entry ([.ref (a 38), .int p0]) (n := 4) (Nat.le_of_ble_eq_true rfl)
  rw [lg_entry_eq]
  generalize (lg_sl ([.ref (a 38), .int p0]) ++ List.replicate (4 - (lg_sl ([.ref (a 38), .int p0])).length) Slot.unset).toArray = ls at hl ⊢
  have hl : lv_has ls 4 [(0, .ref (a 38)), (1, .int p0)] := hl
  refine ic_0 hx hb dJ7_fill_53178_0 ?_
  refine lv_istore_n (lv' := [(2, .int 0), (0, .ref (a 38)), (1, .int p0)]) hx hb dJ7_fill_53178_1 rfl hl (lt_b rfl) rfl (fun ls hl => ?_)
  refine lv_aload_n hx hb dJ7_fill_53178_2 rfl (lv_at hl 1 rfl) ?_
  refine S_alen (v := 3) hx hb hK hW kd_38 1 rfl rfl dJ7_fill_53178_3 ?_
  refine lv_istore_n (lv' := [(3, .int 3), (2, .int 0), (0, .ref (a 38)), (1, .int p0)]) hx hb dJ7_fill_53178_4 rfl hl (lt_b rfl) rfl (fun ls hl => ?_)
  have qc_7 : (0 : Int32).toInt = 0 := rfl
  refine loop_N (Inv := fun n H locs ls => ∃ (G_1 : GS) (x_5 : Int32), (n : Int) = 3 - x_5.toInt ∧ (0 ≤ x_5.toInt ∧ x_5.toInt ≤ 3) ∧ Rc (St_k_fill_38_1 p0) (0, G) (x_5, G_1) ∧ Wd D k A a G_1 H ∧ Bd G_1 ∧ Fr [38] [] G G_1 ∧ Fr [38] [] G G_1 ∧ va_S A s.heap H locs ∧ lv_has ls 4 [(3, .int 3), (2, .int x_5), (0, .ref (a 38)), (1, .int p0)]) (fun n_4 H locs ls ih_3 hI => ?_) (3 - 0 : Int).toNat ⟨G, 0, (Int.toNat_of_nonneg (by omega)), ⟨by omega, by omega⟩, Rc.rf, hW, hB_G, hF, Fr.rf, hS, lv_sub hl [0, 1, 2, 3] rfl⟩
  obtain ⟨G_1, x_5, hn_9, f_8, hX_6, hW, hB_G_1, hF, hq_2, hS, hl⟩ := hI
  refine lv_iload_n hx hb dJ7_fill_53178_5 rfl (lv_at hl 1 rfl) ?_
  refine lv_iload_n hx hb dJ7_fill_53178_6 rfl (lv_at hl 0 rfl) ?_
  refine lv_icmp_ge (tgt := 20) hx hb dJ7_fill_53178_7 rfl (fun c_10 => ?_) (fun c_10 => ?_)
  · have c_10 : 3 ≤ x_5.toInt := xI_le rfl rfl c_10
    exact W.vret hx hb hr (fun t ht _ => ⟨⟨G_1, rfl, (P_fill_38_mk ⟨hB_G_1, hF, ⟨x_5, G_1, hX_6, f_8, hB_G_1, hq_2, ⟨c_10, rfl⟩⟩⟩), wd_t ht hW⟩, hS.F ht⟩) hS.2.2 dJ7_fill_53178_20
  · have c_10 : x_5.toInt < 3 := xI_nle rfl rfl c_10
    refine lv_aload_n hx hb dJ7_fill_53178_10 rfl (lv_at hl 2 rfl) ?_
    refine lv_iload_n hx hb dJ7_fill_53178_11 rfl (lv_at hl 1 rfl) ?_
    refine lv_iload_n hx hb dJ7_fill_53178_12 rfl (lv_at hl 3 rfl) ?_
    refine S_iast hx hb hK hW hS kd_38 (vin (by omega) (by omega)) dJ7_fill_53178_13 (fun G_11 H locs eG_11 hW hS => ?_)
    have hB_G_11 : Bd G_11 := hB_G_1.put (lo := (-2147483648)) (hi := 2147483647) eG_11 rfl rfl rfl (tI_rng _).1 (tI_rng _).2 (hB_G_1.2.put eG_11 rfl)
    have hF := hF.put eG_11 (Or.inl (by decide))
    obtain ⟨y_12, ey_12⟩ : ∃ q, q = x_5 + 1 := ⟨_, rfl⟩
    have ty_12 : y_12.toInt = x_5.toInt + 1 := xI_add rfl rfl ey_12 (by omega) (by omega)
    refine lv_iinc (v := y_12) (lv' := [(2, .int y_12), (3, .int 3), (0, .ref (a 38)), (1, .int p0)]) hx hb dJ7_fill_53178_14 hl (k := 1) rfl (by rw [ey_12]; rfl) (lt_b rfl) rfl (fun ls hl => ?_)
    refine lv_goto (tgt := 5) hx hb dJ7_fill_53178_17 rfl ?_
    exact ih_3 (3 - y_12.toInt : Int).toNat (by omega) _ _ _ ⟨G_11, y_12, (Int.toNat_of_nonneg (by omega)), ⟨by omega, by omega⟩, (hX_6.st (St_k_fill_38_1_mk ⟨x_5, G_1, y_12, G_11, rfl, rfl, f_8, hB_G_1, ⟨c_10, ⟨y_12, ty_12, ⟨rfl, (Fr.put (rs := [38]) (fs := []) Fr.rf eG_11 (Or.inl (by decide))), rw_ast eG_11⟩⟩⟩⟩)), hW, hB_G_11, hF, (Fr.put (rs := [38]) (fs := []) (Fr.call9 (rs := [38]) (fs := []) Fr.rf hq_2 rfl rfl) eG_11 (Or.inl (by decide))), hS, lv_sub hl [1, 0, 2, 3] rfl⟩

set_option maxHeartbeats 4000000 in
set_option maxRecDepth 100000 in
theorem k_fill_58 (l : Launch) (D : va_G) (k : KT) (A : Nat → Prop) (a : Nat → Nat) (z : SK) (G : GS) (p0 : Int32)  : Met l yJ7_fill_53178 (WS yJ7_fill_53178 cJ7_fill_53178 4 none) ({ frames := 0, cells := 0, slots := 0, locals := 0 }) (va_Pc [.ref (a 58), .int p0] (cW D k A a z G)) (va_Qv (fun (G1 : GS) => P_fill_58 p0 G G1) (fun (G1 : GS) t => Wd D k A a G1 t.heap) A) 0 0 A := by
  refine Met.ofW (cc := cJ7_fill_53178) (maxL := 4) (ret := none) (by decide) rfl ?_
  intro p e s m args below meth c s₁ B hml hv
  obtain ⟨rfl, hW, hB_G, hK, hZ⟩ := hv
  have hx := B.exec
  have hb := B.bytes
  have hr := B.returns
  have hts := atoms_spec (ws := WS yJ7_fill_53178 cJ7_fill_53178 4 none) B.pre
  have hgd : ∀ w ∈ gd, w ∈ WS yJ7_fill_53178 cJ7_fill_53178 4 none := fun w h => List.mem_cons_of_mem _ h
  have hg : ∀ w ∈ gd, w.before _ s = true := fun w h => hts w (hgd w h)
  have hown : s.vm.findClass RJ7 = some m.cls := findClass_of_methodNamed B.named
  have hS : va_S A s.heap s.heap [] := va_S.rf
  have hF : Fr [58] [] G G := Fr.rf
  have hl := lv_entry ([.ref (a 58), .int p0]) (n := 4) (Nat.le_of_ble_eq_true rfl)
  rw [lg_entry_eq]
  generalize (lg_sl ([.ref (a 58), .int p0]) ++ List.replicate (4 - (lg_sl ([.ref (a 58), .int p0])).length) Slot.unset).toArray = ls at hl ⊢
  have hl : lv_has ls 4 [(0, .ref (a 58)), (1, .int p0)] := hl
  refine ic_0 hx hb dJ7_fill_53178_0 ?_
  refine lv_istore_n (lv' := [(2, .int 0), (0, .ref (a 58)), (1, .int p0)]) hx hb dJ7_fill_53178_1 rfl hl (lt_b rfl) rfl (fun ls hl => ?_)
  refine lv_aload_n hx hb dJ7_fill_53178_2 rfl (lv_at hl 1 rfl) ?_
  refine S_alen (v := 10) hx hb hK hW kd_58 1 rfl rfl dJ7_fill_53178_3 ?_
  refine lv_istore_n (lv' := [(3, .int 10), (2, .int 0), (0, .ref (a 58)), (1, .int p0)]) hx hb dJ7_fill_53178_4 rfl hl (lt_b rfl) rfl (fun ls hl => ?_)
  have qc_7 : (0 : Int32).toInt = 0 := rfl
  refine loop_N (Inv := fun n H locs ls => ∃ (G_1 : GS) (x_5 : Int32), (n : Int) = 10 - x_5.toInt ∧ (0 ≤ x_5.toInt ∧ x_5.toInt ≤ 10) ∧ Rc (St_k_fill_58_1 p0) (0, G) (x_5, G_1) ∧ Wd D k A a G_1 H ∧ Bd G_1 ∧ Fr [58] [] G G_1 ∧ Fr [58] [] G G_1 ∧ va_S A s.heap H locs ∧ lv_has ls 4 [(3, .int 10), (2, .int x_5), (0, .ref (a 58)), (1, .int p0)]) (fun n_4 H locs ls ih_3 hI => ?_) (10 - 0 : Int).toNat ⟨G, 0, (Int.toNat_of_nonneg (by omega)), ⟨by omega, by omega⟩, Rc.rf, hW, hB_G, hF, Fr.rf, hS, lv_sub hl [0, 1, 2, 3] rfl⟩
  obtain ⟨G_1, x_5, hn_9, f_8, hX_6, hW, hB_G_1, hF, hq_2, hS, hl⟩ := hI
  refine lv_iload_n hx hb dJ7_fill_53178_5 rfl (lv_at hl 1 rfl) ?_
  refine lv_iload_n hx hb dJ7_fill_53178_6 rfl (lv_at hl 0 rfl) ?_
  refine lv_icmp_ge (tgt := 20) hx hb dJ7_fill_53178_7 rfl (fun c_10 => ?_) (fun c_10 => ?_)
  · have c_10 : 10 ≤ x_5.toInt := xI_le rfl rfl c_10
    exact W.vret hx hb hr (fun t ht _ => ⟨⟨G_1, rfl, (P_fill_58_mk ⟨hB_G_1, hF, ⟨x_5, G_1, hX_6, f_8, hB_G_1, hq_2, ⟨c_10, rfl⟩⟩⟩), wd_t ht hW⟩, hS.F ht⟩) hS.2.2 dJ7_fill_53178_20
  · have c_10 : x_5.toInt < 10 := xI_nle rfl rfl c_10
    refine lv_aload_n hx hb dJ7_fill_53178_10 rfl (lv_at hl 2 rfl) ?_
    refine lv_iload_n hx hb dJ7_fill_53178_11 rfl (lv_at hl 1 rfl) ?_
    refine lv_iload_n hx hb dJ7_fill_53178_12 rfl (lv_at hl 3 rfl) ?_
    refine S_iast hx hb hK hW hS kd_58 (vin (by omega) (by omega)) dJ7_fill_53178_13 (fun G_11 H locs eG_11 hW hS => ?_)
    have hB_G_11 : Bd G_11 := hB_G_1.put (lo := (-2147483648)) (hi := 2147483647) eG_11 rfl rfl rfl (tI_rng _).1 (tI_rng _).2 (hB_G_1.2.put eG_11 rfl)
    have hF := hF.put eG_11 (Or.inl (by decide))
    obtain ⟨y_12, ey_12⟩ : ∃ q, q = x_5 + 1 := ⟨_, rfl⟩
    have ty_12 : y_12.toInt = x_5.toInt + 1 := xI_add rfl rfl ey_12 (by omega) (by omega)
    refine lv_iinc (v := y_12) (lv' := [(2, .int y_12), (3, .int 10), (0, .ref (a 58)), (1, .int p0)]) hx hb dJ7_fill_53178_14 hl (k := 1) rfl (by rw [ey_12]; rfl) (lt_b rfl) rfl (fun ls hl => ?_)
    refine lv_goto (tgt := 5) hx hb dJ7_fill_53178_17 rfl ?_
    exact ih_3 (10 - y_12.toInt : Int).toNat (by omega) _ _ _ ⟨G_11, y_12, (Int.toNat_of_nonneg (by omega)), ⟨by omega, by omega⟩, (hX_6.st (St_k_fill_58_1_mk ⟨x_5, G_1, y_12, G_11, rfl, rfl, f_8, hB_G_1, ⟨c_10, ⟨y_12, ty_12, ⟨rfl, (Fr.put (rs := [58]) (fs := []) Fr.rf eG_11 (Or.inl (by decide))), rw_ast eG_11⟩⟩⟩⟩)), hW, hB_G_11, hF, (Fr.put (rs := [58]) (fs := []) (Fr.call9 (rs := [58]) (fs := []) Fr.rf hq_2 rfl rfl) eG_11 (Or.inl (by decide))), hS, lv_sub hl [1, 0, 2, 3] rfl⟩

set_option maxHeartbeats 4000000 in
set_option maxRecDepth 100000 in
theorem k_fill_42 (l : Launch) (D : va_G) (k : KT) (A : Nat → Prop) (a : Nat → Nat) (z : SK) (G : GS) (p0 : Int32)  : Met l yJ7_fill_53178 (WS yJ7_fill_53178 cJ7_fill_53178 4 none) ({ frames := 0, cells := 0, slots := 0, locals := 0 }) (va_Pc [.ref (a 42), .int p0] (cW D k A a z G)) (va_Qv (fun (G1 : GS) => P_fill_42 p0 G G1) (fun (G1 : GS) t => Wd D k A a G1 t.heap) A) 0 0 A := by
  refine Met.ofW (cc := cJ7_fill_53178) (maxL := 4) (ret := none) (by decide) rfl ?_
  intro p e s m args below meth c s₁ B hml hv
  obtain ⟨rfl, hW, hB_G, hK, hZ⟩ := hv
  have hx := B.exec
  have hb := B.bytes
  have hr := B.returns
  have hts := atoms_spec (ws := WS yJ7_fill_53178 cJ7_fill_53178 4 none) B.pre
  have hgd : ∀ w ∈ gd, w ∈ WS yJ7_fill_53178 cJ7_fill_53178 4 none := fun w h => List.mem_cons_of_mem _ h
  have hg : ∀ w ∈ gd, w.before _ s = true := fun w h => hts w (hgd w h)
  have hown : s.vm.findClass RJ7 = some m.cls := findClass_of_methodNamed B.named
  have hS : va_S A s.heap s.heap [] := va_S.rf
  have hF : Fr [42] [] G G := Fr.rf
  have hl := lv_entry ([.ref (a 42), .int p0]) (n := 4) (Nat.le_of_ble_eq_true rfl)
  rw [lg_entry_eq]
  generalize (lg_sl ([.ref (a 42), .int p0]) ++ List.replicate (4 - (lg_sl ([.ref (a 42), .int p0])).length) Slot.unset).toArray = ls at hl ⊢
  have hl : lv_has ls 4 [(0, .ref (a 42)), (1, .int p0)] := hl
  refine ic_0 hx hb dJ7_fill_53178_0 ?_
  refine lv_istore_n (lv' := [(2, .int 0), (0, .ref (a 42)), (1, .int p0)]) hx hb dJ7_fill_53178_1 rfl hl (lt_b rfl) rfl (fun ls hl => ?_)
  refine lv_aload_n hx hb dJ7_fill_53178_2 rfl (lv_at hl 1 rfl) ?_
  refine S_alen (v := 402) hx hb hK hW kd_42 1 rfl rfl dJ7_fill_53178_3 ?_
  refine lv_istore_n (lv' := [(3, .int 402), (2, .int 0), (0, .ref (a 42)), (1, .int p0)]) hx hb dJ7_fill_53178_4 rfl hl (lt_b rfl) rfl (fun ls hl => ?_)
  have qc_7 : (0 : Int32).toInt = 0 := rfl
  refine loop_N (Inv := fun n H locs ls => ∃ (G_1 : GS) (x_5 : Int32), (n : Int) = 402 - x_5.toInt ∧ (0 ≤ x_5.toInt ∧ x_5.toInt ≤ 402) ∧ Rc (St_k_fill_42_1 p0) (0, G) (x_5, G_1) ∧ Wd D k A a G_1 H ∧ Bd G_1 ∧ Fr [42] [] G G_1 ∧ Fr [42] [] G G_1 ∧ va_S A s.heap H locs ∧ lv_has ls 4 [(3, .int 402), (2, .int x_5), (0, .ref (a 42)), (1, .int p0)]) (fun n_4 H locs ls ih_3 hI => ?_) (402 - 0 : Int).toNat ⟨G, 0, (Int.toNat_of_nonneg (by omega)), ⟨by omega, by omega⟩, Rc.rf, hW, hB_G, hF, Fr.rf, hS, lv_sub hl [0, 1, 2, 3] rfl⟩
  obtain ⟨G_1, x_5, hn_9, f_8, hX_6, hW, hB_G_1, hF, hq_2, hS, hl⟩ := hI
  refine lv_iload_n hx hb dJ7_fill_53178_5 rfl (lv_at hl 1 rfl) ?_
  refine lv_iload_n hx hb dJ7_fill_53178_6 rfl (lv_at hl 0 rfl) ?_
  refine lv_icmp_ge (tgt := 20) hx hb dJ7_fill_53178_7 rfl (fun c_10 => ?_) (fun c_10 => ?_)
  · have c_10 : 402 ≤ x_5.toInt := xI_le rfl rfl c_10
    exact W.vret hx hb hr (fun t ht _ => ⟨⟨G_1, rfl, (P_fill_42_mk ⟨hB_G_1, hF, ⟨x_5, G_1, hX_6, f_8, hB_G_1, hq_2, ⟨c_10, rfl⟩⟩⟩), wd_t ht hW⟩, hS.F ht⟩) hS.2.2 dJ7_fill_53178_20
  · have c_10 : x_5.toInt < 402 := xI_nle rfl rfl c_10
    refine lv_aload_n hx hb dJ7_fill_53178_10 rfl (lv_at hl 2 rfl) ?_
    refine lv_iload_n hx hb dJ7_fill_53178_11 rfl (lv_at hl 1 rfl) ?_
    refine lv_iload_n hx hb dJ7_fill_53178_12 rfl (lv_at hl 3 rfl) ?_
    refine S_iast hx hb hK hW hS kd_42 (vin (by omega) (by omega)) dJ7_fill_53178_13 (fun G_11 H locs eG_11 hW hS => ?_)
    have hB_G_11 : Bd G_11 := hB_G_1.put (lo := (-2147483648)) (hi := 2147483647) eG_11 rfl rfl rfl (tI_rng _).1 (tI_rng _).2 (hB_G_1.2.put eG_11 rfl)
    have hF := hF.put eG_11 (Or.inl (by decide))
    obtain ⟨y_12, ey_12⟩ : ∃ q, q = x_5 + 1 := ⟨_, rfl⟩
    have ty_12 : y_12.toInt = x_5.toInt + 1 := xI_add rfl rfl ey_12 (by omega) (by omega)
    refine lv_iinc (v := y_12) (lv' := [(2, .int y_12), (3, .int 402), (0, .ref (a 42)), (1, .int p0)]) hx hb dJ7_fill_53178_14 hl (k := 1) rfl (by rw [ey_12]; rfl) (lt_b rfl) rfl (fun ls hl => ?_)
    refine lv_goto (tgt := 5) hx hb dJ7_fill_53178_17 rfl ?_
    exact ih_3 (402 - y_12.toInt : Int).toNat (by omega) _ _ _ ⟨G_11, y_12, (Int.toNat_of_nonneg (by omega)), ⟨by omega, by omega⟩, (hX_6.st (St_k_fill_42_1_mk ⟨x_5, G_1, y_12, G_11, rfl, rfl, f_8, hB_G_1, ⟨c_10, ⟨y_12, ty_12, ⟨rfl, (Fr.put (rs := [42]) (fs := []) Fr.rf eG_11 (Or.inl (by decide))), rw_ast eG_11⟩⟩⟩⟩)), hW, hB_G_11, hF, (Fr.put (rs := [42]) (fs := []) (Fr.call9 (rs := [42]) (fs := []) Fr.rf hq_2 rfl rfl) eG_11 (Or.inl (by decide))), hS, lv_sub hl [1, 0, 2, 3] rfl⟩

set_option maxHeartbeats 4000000 in
set_option maxRecDepth 100000 in
theorem k_fill_43 (l : Launch) (D : va_G) (k : KT) (A : Nat → Prop) (a : Nat → Nat) (z : SK) (G : GS) (p0 : Int32)  : Met l yJ7_fill_53178 (WS yJ7_fill_53178 cJ7_fill_53178 4 none) ({ frames := 0, cells := 0, slots := 0, locals := 0 }) (va_Pc [.ref (a 43), .int p0] (cW D k A a z G)) (va_Qv (fun (G1 : GS) => P_fill_43 p0 G G1) (fun (G1 : GS) t => Wd D k A a G1 t.heap) A) 0 0 A := by
  refine Met.ofW (cc := cJ7_fill_53178) (maxL := 4) (ret := none) (by decide) rfl ?_
  intro p e s m args below meth c s₁ B hml hv
  obtain ⟨rfl, hW, hB_G, hK, hZ⟩ := hv
  have hx := B.exec
  have hb := B.bytes
  have hr := B.returns
  have hts := atoms_spec (ws := WS yJ7_fill_53178 cJ7_fill_53178 4 none) B.pre
  have hgd : ∀ w ∈ gd, w ∈ WS yJ7_fill_53178 cJ7_fill_53178 4 none := fun w h => List.mem_cons_of_mem _ h
  have hg : ∀ w ∈ gd, w.before _ s = true := fun w h => hts w (hgd w h)
  have hown : s.vm.findClass RJ7 = some m.cls := findClass_of_methodNamed B.named
  have hS : va_S A s.heap s.heap [] := va_S.rf
  have hF : Fr [43] [] G G := Fr.rf
  have hl := lv_entry ([.ref (a 43), .int p0]) (n := 4) (Nat.le_of_ble_eq_true rfl)
  rw [lg_entry_eq]
  generalize (lg_sl ([.ref (a 43), .int p0]) ++ List.replicate (4 - (lg_sl ([.ref (a 43), .int p0])).length) Slot.unset).toArray = ls at hl ⊢
  have hl : lv_has ls 4 [(0, .ref (a 43)), (1, .int p0)] := hl
  refine ic_0 hx hb dJ7_fill_53178_0 ?_
  refine lv_istore_n (lv' := [(2, .int 0), (0, .ref (a 43)), (1, .int p0)]) hx hb dJ7_fill_53178_1 rfl hl (lt_b rfl) rfl (fun ls hl => ?_)
  refine lv_aload_n hx hb dJ7_fill_53178_2 rfl (lv_at hl 1 rfl) ?_
  refine S_alen (v := 402) hx hb hK hW kd_43 1 rfl rfl dJ7_fill_53178_3 ?_
  refine lv_istore_n (lv' := [(3, .int 402), (2, .int 0), (0, .ref (a 43)), (1, .int p0)]) hx hb dJ7_fill_53178_4 rfl hl (lt_b rfl) rfl (fun ls hl => ?_)
  have qc_7 : (0 : Int32).toInt = 0 := rfl
  refine loop_N (Inv := fun n H locs ls => ∃ (G_1 : GS) (x_5 : Int32), (n : Int) = 402 - x_5.toInt ∧ (0 ≤ x_5.toInt ∧ x_5.toInt ≤ 402) ∧ Rc (St_k_fill_43_1 p0) (0, G) (x_5, G_1) ∧ Wd D k A a G_1 H ∧ Bd G_1 ∧ Fr [43] [] G G_1 ∧ Fr [43] [] G G_1 ∧ va_S A s.heap H locs ∧ lv_has ls 4 [(3, .int 402), (2, .int x_5), (0, .ref (a 43)), (1, .int p0)]) (fun n_4 H locs ls ih_3 hI => ?_) (402 - 0 : Int).toNat ⟨G, 0, (Int.toNat_of_nonneg (by omega)), ⟨by omega, by omega⟩, Rc.rf, hW, hB_G, hF, Fr.rf, hS, lv_sub hl [0, 1, 2, 3] rfl⟩
  obtain ⟨G_1, x_5, hn_9, f_8, hX_6, hW, hB_G_1, hF, hq_2, hS, hl⟩ := hI
  refine lv_iload_n hx hb dJ7_fill_53178_5 rfl (lv_at hl 1 rfl) ?_
  refine lv_iload_n hx hb dJ7_fill_53178_6 rfl (lv_at hl 0 rfl) ?_
  refine lv_icmp_ge (tgt := 20) hx hb dJ7_fill_53178_7 rfl (fun c_10 => ?_) (fun c_10 => ?_)
  · have c_10 : 402 ≤ x_5.toInt := xI_le rfl rfl c_10
    exact W.vret hx hb hr (fun t ht _ => ⟨⟨G_1, rfl, (P_fill_43_mk ⟨hB_G_1, hF, ⟨x_5, G_1, hX_6, f_8, hB_G_1, hq_2, ⟨c_10, rfl⟩⟩⟩), wd_t ht hW⟩, hS.F ht⟩) hS.2.2 dJ7_fill_53178_20
  · have c_10 : x_5.toInt < 402 := xI_nle rfl rfl c_10
    refine lv_aload_n hx hb dJ7_fill_53178_10 rfl (lv_at hl 2 rfl) ?_
    refine lv_iload_n hx hb dJ7_fill_53178_11 rfl (lv_at hl 1 rfl) ?_
    refine lv_iload_n hx hb dJ7_fill_53178_12 rfl (lv_at hl 3 rfl) ?_
    refine S_iast hx hb hK hW hS kd_43 (vin (by omega) (by omega)) dJ7_fill_53178_13 (fun G_11 H locs eG_11 hW hS => ?_)
    have hB_G_11 : Bd G_11 := hB_G_1.put (lo := (-2147483648)) (hi := 2147483647) eG_11 rfl rfl rfl (tI_rng _).1 (tI_rng _).2 (hB_G_1.2.put eG_11 rfl)
    have hF := hF.put eG_11 (Or.inl (by decide))
    obtain ⟨y_12, ey_12⟩ : ∃ q, q = x_5 + 1 := ⟨_, rfl⟩
    have ty_12 : y_12.toInt = x_5.toInt + 1 := xI_add rfl rfl ey_12 (by omega) (by omega)
    refine lv_iinc (v := y_12) (lv' := [(2, .int y_12), (3, .int 402), (0, .ref (a 43)), (1, .int p0)]) hx hb dJ7_fill_53178_14 hl (k := 1) rfl (by rw [ey_12]; rfl) (lt_b rfl) rfl (fun ls hl => ?_)
    refine lv_goto (tgt := 5) hx hb dJ7_fill_53178_17 rfl ?_
    exact ih_3 (402 - y_12.toInt : Int).toNat (by omega) _ _ _ ⟨G_11, y_12, (Int.toNat_of_nonneg (by omega)), ⟨by omega, by omega⟩, (hX_6.st (St_k_fill_43_1_mk ⟨x_5, G_1, y_12, G_11, rfl, rfl, f_8, hB_G_1, ⟨c_10, ⟨y_12, ty_12, ⟨rfl, (Fr.put (rs := [43]) (fs := []) Fr.rf eG_11 (Or.inl (by decide))), rw_ast eG_11⟩⟩⟩⟩)), hW, hB_G_11, hF, (Fr.put (rs := [43]) (fs := []) (Fr.call9 (rs := [43]) (fs := []) Fr.rf hq_2 rfl rfl) eG_11 (Or.inl (by decide))), hS, lv_sub hl [1, 0, 2, 3] rfl⟩

set_option maxHeartbeats 4000000 in
set_option maxRecDepth 100000 in
theorem k_fill_44 (l : Launch) (D : va_G) (k : KT) (A : Nat → Prop) (a : Nat → Nat) (z : SK) (G : GS) (p0 : Int32)  : Met l yJ7_fill_53178 (WS yJ7_fill_53178 cJ7_fill_53178 4 none) ({ frames := 0, cells := 0, slots := 0, locals := 0 }) (va_Pc [.ref (a 44), .int p0] (cW D k A a z G)) (va_Qv (fun (G1 : GS) => P_fill_44 p0 G G1) (fun (G1 : GS) t => Wd D k A a G1 t.heap) A) 0 0 A := by
  refine Met.ofW (cc := cJ7_fill_53178) (maxL := 4) (ret := none) (by decide) rfl ?_
  intro p e s m args below meth c s₁ B hml hv
  obtain ⟨rfl, hW, hB_G, hK, hZ⟩ := hv
  have hx := B.exec
  have hb := B.bytes
  have hr := B.returns
  have hts := atoms_spec (ws := WS yJ7_fill_53178 cJ7_fill_53178 4 none) B.pre
  have hgd : ∀ w ∈ gd, w ∈ WS yJ7_fill_53178 cJ7_fill_53178 4 none := fun w h => List.mem_cons_of_mem _ h
  have hg : ∀ w ∈ gd, w.before _ s = true := fun w h => hts w (hgd w h)
  have hown : s.vm.findClass RJ7 = some m.cls := findClass_of_methodNamed B.named
  have hS : va_S A s.heap s.heap [] := va_S.rf
  have hF : Fr [44] [] G G := Fr.rf
  have hl := lv_entry ([.ref (a 44), .int p0]) (n := 4) (Nat.le_of_ble_eq_true rfl)
  rw [lg_entry_eq]
  generalize (lg_sl ([.ref (a 44), .int p0]) ++ List.replicate (4 - (lg_sl ([.ref (a 44), .int p0])).length) Slot.unset).toArray = ls at hl ⊢
  have hl : lv_has ls 4 [(0, .ref (a 44)), (1, .int p0)] := hl
  refine ic_0 hx hb dJ7_fill_53178_0 ?_
  refine lv_istore_n (lv' := [(2, .int 0), (0, .ref (a 44)), (1, .int p0)]) hx hb dJ7_fill_53178_1 rfl hl (lt_b rfl) rfl (fun ls hl => ?_)
  refine lv_aload_n hx hb dJ7_fill_53178_2 rfl (lv_at hl 1 rfl) ?_
  refine S_alen (v := 402) hx hb hK hW kd_44 1 rfl rfl dJ7_fill_53178_3 ?_
  refine lv_istore_n (lv' := [(3, .int 402), (2, .int 0), (0, .ref (a 44)), (1, .int p0)]) hx hb dJ7_fill_53178_4 rfl hl (lt_b rfl) rfl (fun ls hl => ?_)
  have qc_7 : (0 : Int32).toInt = 0 := rfl
  refine loop_N (Inv := fun n H locs ls => ∃ (G_1 : GS) (x_5 : Int32), (n : Int) = 402 - x_5.toInt ∧ (0 ≤ x_5.toInt ∧ x_5.toInt ≤ 402) ∧ Rc (St_k_fill_44_1 p0) (0, G) (x_5, G_1) ∧ Wd D k A a G_1 H ∧ Bd G_1 ∧ Fr [44] [] G G_1 ∧ Fr [44] [] G G_1 ∧ va_S A s.heap H locs ∧ lv_has ls 4 [(3, .int 402), (2, .int x_5), (0, .ref (a 44)), (1, .int p0)]) (fun n_4 H locs ls ih_3 hI => ?_) (402 - 0 : Int).toNat ⟨G, 0, (Int.toNat_of_nonneg (by omega)), ⟨by omega, by omega⟩, Rc.rf, hW, hB_G, hF, Fr.rf, hS, lv_sub hl [0, 1, 2, 3] rfl⟩
  obtain ⟨G_1, x_5, hn_9, f_8, hX_6, hW, hB_G_1, hF, hq_2, hS, hl⟩ := hI
  refine lv_iload_n hx hb dJ7_fill_53178_5 rfl (lv_at hl 1 rfl) ?_
  refine lv_iload_n hx hb dJ7_fill_53178_6 rfl (lv_at hl 0 rfl) ?_
  refine lv_icmp_ge (tgt := 20) hx hb dJ7_fill_53178_7 rfl (fun c_10 => ?_) (fun c_10 => ?_)
  · have c_10 : 402 ≤ x_5.toInt := xI_le rfl rfl c_10
    exact W.vret hx hb hr (fun t ht _ => ⟨⟨G_1, rfl, (P_fill_44_mk ⟨hB_G_1, hF, ⟨x_5, G_1, hX_6, f_8, hB_G_1, hq_2, ⟨c_10, rfl⟩⟩⟩), wd_t ht hW⟩, hS.F ht⟩) hS.2.2 dJ7_fill_53178_20
  · have c_10 : x_5.toInt < 402 := xI_nle rfl rfl c_10
    refine lv_aload_n hx hb dJ7_fill_53178_10 rfl (lv_at hl 2 rfl) ?_
    refine lv_iload_n hx hb dJ7_fill_53178_11 rfl (lv_at hl 1 rfl) ?_
    refine lv_iload_n hx hb dJ7_fill_53178_12 rfl (lv_at hl 3 rfl) ?_
    refine S_iast hx hb hK hW hS kd_44 (vin (by omega) (by omega)) dJ7_fill_53178_13 (fun G_11 H locs eG_11 hW hS => ?_)
    have hB_G_11 : Bd G_11 := hB_G_1.put (lo := (-2147483648)) (hi := 2147483647) eG_11 rfl rfl rfl (tI_rng _).1 (tI_rng _).2 (hB_G_1.2.put eG_11 rfl)
    have hF := hF.put eG_11 (Or.inl (by decide))
    obtain ⟨y_12, ey_12⟩ : ∃ q, q = x_5 + 1 := ⟨_, rfl⟩
    have ty_12 : y_12.toInt = x_5.toInt + 1 := xI_add rfl rfl ey_12 (by omega) (by omega)
    refine lv_iinc (v := y_12) (lv' := [(2, .int y_12), (3, .int 402), (0, .ref (a 44)), (1, .int p0)]) hx hb dJ7_fill_53178_14 hl (k := 1) rfl (by rw [ey_12]; rfl) (lt_b rfl) rfl (fun ls hl => ?_)
    refine lv_goto (tgt := 5) hx hb dJ7_fill_53178_17 rfl ?_
    exact ih_3 (402 - y_12.toInt : Int).toNat (by omega) _ _ _ ⟨G_11, y_12, (Int.toNat_of_nonneg (by omega)), ⟨by omega, by omega⟩, (hX_6.st (St_k_fill_44_1_mk ⟨x_5, G_1, y_12, G_11, rfl, rfl, f_8, hB_G_1, ⟨c_10, ⟨y_12, ty_12, ⟨rfl, (Fr.put (rs := [44]) (fs := []) Fr.rf eG_11 (Or.inl (by decide))), rw_ast eG_11⟩⟩⟩⟩)), hW, hB_G_11, hF, (Fr.put (rs := [44]) (fs := []) (Fr.call9 (rs := [44]) (fs := []) Fr.rf hq_2 rfl rfl) eG_11 (Or.inl (by decide))), hS, lv_sub hl [1, 0, 2, 3] rfl⟩

set_option maxHeartbeats 4000000 in
set_option maxRecDepth 100000 in
theorem k_fill_45 (l : Launch) (D : va_G) (k : KT) (A : Nat → Prop) (a : Nat → Nat) (z : SK) (G : GS) (p0 : Int32)  : Met l yJ7_fill_53178 (WS yJ7_fill_53178 cJ7_fill_53178 4 none) ({ frames := 0, cells := 0, slots := 0, locals := 0 }) (va_Pc [.ref (a 45), .int p0] (cW D k A a z G)) (va_Qv (fun (G1 : GS) => P_fill_45 p0 G G1) (fun (G1 : GS) t => Wd D k A a G1 t.heap) A) 0 0 A := by
  refine Met.ofW (cc := cJ7_fill_53178) (maxL := 4) (ret := none) (by decide) rfl ?_
  intro p e s m args below meth c s₁ B hml hv
  obtain ⟨rfl, hW, hB_G, hK, hZ⟩ := hv
  have hx := B.exec
  have hb := B.bytes
  have hr := B.returns
  have hts := atoms_spec (ws := WS yJ7_fill_53178 cJ7_fill_53178 4 none) B.pre
  have hgd : ∀ w ∈ gd, w ∈ WS yJ7_fill_53178 cJ7_fill_53178 4 none := fun w h => List.mem_cons_of_mem _ h
  have hg : ∀ w ∈ gd, w.before _ s = true := fun w h => hts w (hgd w h)
  have hown : s.vm.findClass RJ7 = some m.cls := findClass_of_methodNamed B.named
  have hS : va_S A s.heap s.heap [] := va_S.rf
  have hF : Fr [45] [] G G := Fr.rf
  have hl := lv_entry ([.ref (a 45), .int p0]) (n := 4) (Nat.le_of_ble_eq_true rfl)
  rw [lg_entry_eq]
  generalize (lg_sl ([.ref (a 45), .int p0]) ++ List.replicate (4 - (lg_sl ([.ref (a 45), .int p0])).length) Slot.unset).toArray = ls at hl ⊢
  have hl : lv_has ls 4 [(0, .ref (a 45)), (1, .int p0)] := hl
  refine ic_0 hx hb dJ7_fill_53178_0 ?_
  refine lv_istore_n (lv' := [(2, .int 0), (0, .ref (a 45)), (1, .int p0)]) hx hb dJ7_fill_53178_1 rfl hl (lt_b rfl) rfl (fun ls hl => ?_)
  refine lv_aload_n hx hb dJ7_fill_53178_2 rfl (lv_at hl 1 rfl) ?_
  refine S_alen (v := 402) hx hb hK hW kd_45 1 rfl rfl dJ7_fill_53178_3 ?_
  refine lv_istore_n (lv' := [(3, .int 402), (2, .int 0), (0, .ref (a 45)), (1, .int p0)]) hx hb dJ7_fill_53178_4 rfl hl (lt_b rfl) rfl (fun ls hl => ?_)
  have qc_7 : (0 : Int32).toInt = 0 := rfl
  refine loop_N (Inv := fun n H locs ls => ∃ (G_1 : GS) (x_5 : Int32), (n : Int) = 402 - x_5.toInt ∧ (0 ≤ x_5.toInt ∧ x_5.toInt ≤ 402) ∧ Rc (St_k_fill_45_1 p0) (0, G) (x_5, G_1) ∧ Wd D k A a G_1 H ∧ Bd G_1 ∧ Fr [45] [] G G_1 ∧ Fr [45] [] G G_1 ∧ va_S A s.heap H locs ∧ lv_has ls 4 [(3, .int 402), (2, .int x_5), (0, .ref (a 45)), (1, .int p0)]) (fun n_4 H locs ls ih_3 hI => ?_) (402 - 0 : Int).toNat ⟨G, 0, (Int.toNat_of_nonneg (by omega)), ⟨by omega, by omega⟩, Rc.rf, hW, hB_G, hF, Fr.rf, hS, lv_sub hl [0, 1, 2, 3] rfl⟩
  obtain ⟨G_1, x_5, hn_9, f_8, hX_6, hW, hB_G_1, hF, hq_2, hS, hl⟩ := hI
  refine lv_iload_n hx hb dJ7_fill_53178_5 rfl (lv_at hl 1 rfl) ?_
  refine lv_iload_n hx hb dJ7_fill_53178_6 rfl (lv_at hl 0 rfl) ?_
  refine lv_icmp_ge (tgt := 20) hx hb dJ7_fill_53178_7 rfl (fun c_10 => ?_) (fun c_10 => ?_)
  · have c_10 : 402 ≤ x_5.toInt := xI_le rfl rfl c_10
    exact W.vret hx hb hr (fun t ht _ => ⟨⟨G_1, rfl, (P_fill_45_mk ⟨hB_G_1, hF, ⟨x_5, G_1, hX_6, f_8, hB_G_1, hq_2, ⟨c_10, rfl⟩⟩⟩), wd_t ht hW⟩, hS.F ht⟩) hS.2.2 dJ7_fill_53178_20
  · have c_10 : x_5.toInt < 402 := xI_nle rfl rfl c_10
    refine lv_aload_n hx hb dJ7_fill_53178_10 rfl (lv_at hl 2 rfl) ?_
    refine lv_iload_n hx hb dJ7_fill_53178_11 rfl (lv_at hl 1 rfl) ?_
    refine lv_iload_n hx hb dJ7_fill_53178_12 rfl (lv_at hl 3 rfl) ?_
    refine S_iast hx hb hK hW hS kd_45 (vin (by omega) (by omega)) dJ7_fill_53178_13 (fun G_11 H locs eG_11 hW hS => ?_)
    have hB_G_11 : Bd G_11 := hB_G_1.put (lo := (-2147483648)) (hi := 2147483647) eG_11 rfl rfl rfl (tI_rng _).1 (tI_rng _).2 (hB_G_1.2.put eG_11 rfl)
    have hF := hF.put eG_11 (Or.inl (by decide))
    obtain ⟨y_12, ey_12⟩ : ∃ q, q = x_5 + 1 := ⟨_, rfl⟩
    have ty_12 : y_12.toInt = x_5.toInt + 1 := xI_add rfl rfl ey_12 (by omega) (by omega)
    refine lv_iinc (v := y_12) (lv' := [(2, .int y_12), (3, .int 402), (0, .ref (a 45)), (1, .int p0)]) hx hb dJ7_fill_53178_14 hl (k := 1) rfl (by rw [ey_12]; rfl) (lt_b rfl) rfl (fun ls hl => ?_)
    refine lv_goto (tgt := 5) hx hb dJ7_fill_53178_17 rfl ?_
    exact ih_3 (402 - y_12.toInt : Int).toNat (by omega) _ _ _ ⟨G_11, y_12, (Int.toNat_of_nonneg (by omega)), ⟨by omega, by omega⟩, (hX_6.st (St_k_fill_45_1_mk ⟨x_5, G_1, y_12, G_11, rfl, rfl, f_8, hB_G_1, ⟨c_10, ⟨y_12, ty_12, ⟨rfl, (Fr.put (rs := [45]) (fs := []) Fr.rf eG_11 (Or.inl (by decide))), rw_ast eG_11⟩⟩⟩⟩)), hW, hB_G_11, hF, (Fr.put (rs := [45]) (fs := []) (Fr.call9 (rs := [45]) (fs := []) Fr.rf hq_2 rfl rfl) eG_11 (Or.inl (by decide))), hS, lv_sub hl [1, 0, 2, 3] rfl⟩
