theorem m382 : Cond.fieldLink RX0 37 "SlabWalk$Course" "most" "I" ∈ gd := gdc_2_1 10 rfl gw_fieldLink
theorem m390 : Cond.fieldLink RX0 50 "SlabWalk$Course" "last" "I" ∈ gd := gdc_2_2 2 rfl gw_fieldLink
theorem m1006 : Cond.methodLink RX0 62 Lib.Math.min.name ∈ gd := gdc_4_10 10 rfl gw_methodLink
def rbX0_lastFirst_0 : List (Nat × List Nat) := [(0, [42]), (1, [180, 0, 37]), (4, [4]), (5, [100]), (6, [42]), (7, [180, 0, 50]), (10, [184, 0, 62]), (13, [172])]
theorem rcX0_lastFirst_0 : dgo (lb cX0_lastFirst) 0 rbX0_lastFirst_0 = true := by decide +kernel
theorem dX0_lastFirst_0 : decode cX0_lastFirst 0 = .ok (.aload_n 0, 1) := dk_42 (dw rcX0_lastFirst_0 0 rfl)
theorem dX0_lastFirst_1 : decode cX0_lastFirst 1 = .ok (.getfield 37, 3) := dk_180 (dw rcX0_lastFirst_0 1 rfl) rfl
theorem dX0_lastFirst_4 : decode cX0_lastFirst 4 = .ok (.iconst 1, 1) := dk_4 (dw rcX0_lastFirst_0 2 rfl)
theorem dX0_lastFirst_5 : decode cX0_lastFirst 5 = .ok (.isub, 1) := dk_100 (dw rcX0_lastFirst_0 3 rfl)
theorem dX0_lastFirst_6 : decode cX0_lastFirst 6 = .ok (.aload_n 0, 1) := dk_42 (dw rcX0_lastFirst_0 4 rfl)
theorem dX0_lastFirst_7 : decode cX0_lastFirst 7 = .ok (.getfield 50, 3) := dk_180 (dw rcX0_lastFirst_0 5 rfl) rfl
theorem dX0_lastFirst_10 : decode cX0_lastFirst 10 = .ok (.invokestatic 62, 3) := dk_184 (dw rcX0_lastFirst_0 6 rfl) rfl
theorem dX0_lastFirst_13 : decode cX0_lastFirst 13 = .ok (.ireturn, 1) := dk_172 (dw rcX0_lastFirst_0 7 rfl)
set_option maxHeartbeats 4000000 in
set_option maxRecDepth 100000 in
theorem k_cFirst (l : Launch) (D : va_G) (k : KT) (A : Nat → Prop) (a : Nat → Nat) (z : SK) (G : GS)  (hci : (G.1 7 6).toInt ≤ 399 ∧ (G.1 7 3).toInt ≤ (G.1 7 4).toInt ∧ ((G.1 7 7).toInt ≤ 0 ∨ (G.1 7 7).toInt + (G.1 7 4).toInt ≤ (G.1 7 6).toInt + 1)) : Met l yX0_lastFirst (WS yX0_lastFirst cX0_lastFirst 1 (some .int)) ({ frames := 1, cells := 0, slots := 0, locals := 13 }) (va_Pc [.ref (a 7)] (cW D k A a z G)) (va_Qi (fun (r : Int32) (G1 : GS) => P_cFirst G r G1) (fun (G1 : GS) t => Wd D k A a G1 t.heap) A) 0 0 A := by
  refine Met.ofW (cc := cX0_lastFirst) (maxL := 1) (ret := (some .int)) (by decide) rfl ?_
  intro p e s m args below meth c s₁ B hml hv
  obtain ⟨rfl, hW, hB_G, hK, hZ⟩ := hv
  have hx := B.exec
  have hb := B.bytes
  have hr := B.returns
  have hts := atoms_spec (ws := WS yX0_lastFirst cX0_lastFirst 1 (some .int)) B.pre
  have hgd : ∀ w ∈ gd, w ∈ WS yX0_lastFirst cX0_lastFirst 1 (some .int) := fun w h => List.mem_cons_of_mem _ h
  have hg : ∀ w ∈ gd, w.before _ s = true := fun w h => hts w (hgd w h)
  have hown : s.vm.findClass RX0 = some m.cls := findClass_of_methodNamed B.named
  have hS : va_S A s.heap s.heap [] := va_S.rf
  have hF : Fr [] [] G G := Fr.rf
  have hl := lv_entry ([.ref (a 7)]) (n := 1) (Nat.le_of_ble_eq_true rfl)
  rw [lg_entry_eq]
  generalize (lg_sl ([.ref (a 7)]) ++ List.replicate (1 - (lg_sl ([.ref (a 7)])).length) Slot.unset).toArray = ls at hl ⊢
  have hl : lv_has ls 1 [(0, .ref (a 7))] := hl
  have b_1 : (-1) ≤ (G.1 7 6).toInt ∧ (G.1 7 6).toInt ≤ 400 := bd_7_6 hB_G
  refine lv_aload_n hx hb dX0_lastFirst_0 rfl (lv_at hl 0 rfl) ?_
  have b_2 : 0 ≤ (G.1 7 4).toInt ∧ (G.1 7 4).toInt ≤ 60 := bd_7_4 hB_G
  refine S_getI (v := (G.1 7 4)) (C := RX0) (T := TX0) (N := 8) hx hb hg iX0 hown hK hW kd_7 rfl 4 (lt_b rfl) (hg (Cond.fieldLink RX0 37 "SlabWalk$Course" "most" "I") m382) (fun _ h9 => h9) rfl rfl dX0_lastFirst_1 ?_
  refine ic_1 hx hb dX0_lastFirst_4 ?_
  refine lv_isub hx hb dX0_lastFirst_5 ?_
  refine lv_topi (fun y_3 ey_3 => ?_)
  have ty_3 : y_3.toInt = (G.1 7 4).toInt - 1 := xI_sub rfl rfl ey_3 (by omega) (by omega)
  refine lv_aload_n hx hb dX0_lastFirst_6 rfl (lv_at hl 0 rfl) ?_
  refine S_getI (v := (G.1 7 6)) (C := RX0) (T := TX0) (N := 8) hx hb hg iX0 hown hK hW kd_7 rfl 6 (lt_b rfl) (hg (Cond.fieldLink RX0 50 "SlabWalk$Course" "last" "I") m390) (fun _ h9 => h9) rfl rfl dX0_lastFirst_7 ?_
  refine va_mmin hx hb (by rw [hml]; exact hl.1.symm) hown (hg (Cond.methodLink RX0 62 Lib.Math.min.name) m1006) (hg (Cond.static Lib.Math.min.name) m636) (hg (Cond.initialized "java/lang/Math") m132) (hg (Cond.code Lib.Math.min.name Lib.Math.min.code 2 (some .int)) m637) (Nat.le_of_ble_eq_true rfl) (Nat.le_of_ble_eq_true rfl) (Nat.le_of_ble_eq_true rfl) (Nat.le_of_ble_eq_true rfl) dX0_lastFirst_10 ?_
  refine lv_topi (fun y_4 ey_4 => ?_)
  have ty_4 := xI_min (X := y_3.toInt) (Y := (G.1 7 6).toInt) rfl rfl ey_4
  exact W.iret (v := y_4) hx hb hr (fun t ht _ => ⟨⟨y_4, G, rfl, (P_cFirst_mk ⟨hB_G, hF, ⟨(by first | (clear hci b_1 b_2 ty_3; omega) | omega), (by first | (clear hci b_1 b_2 ty_3; omega) | omega)⟩, (by omega), ⟨y_3, ty_3, ⟨y_4, ty_4, ⟨rfl, rfl⟩⟩⟩⟩), wd_t ht hW⟩, hS.F ht⟩) hS.2.2 dX0_lastFirst_13
