

set_option maxHeartbeats 4000000 in
set_option maxRecDepth 100000 in
theorem k_fRead_2 (l : Launch) (D : va_G) (k : KT) (A : Nat → Prop) (a : Nat → Nat) (z : SK) (G : GS)   : Met l yX2_read (WS yX2_read cX2_read 2 (some .boolean)) ({ frames := 99, cells := 0, slots := 0, locals := 2129 }) (va_Pc [.ref (a 4), .ref (a 2)] (cW D k A a z G)) (va_Qi (fun (r : Int32) (G1 : GS) => P_fRead_2 G r G1) (fun (G1 : GS) t => Wd D k A a G1 t.heap) A) 0 0 A := by
  refine Met.ofW (cc := cX2_read) (maxL := 2) (ret := (some .boolean)) (by decide) rfl ?_
  intro p e s m args below meth c s₁ B hml hv
  obtain ⟨rfl, hW, hB_G, hK, hZ⟩ := hv
  have hx := B.exec
  have hb := B.bytes
  have hr := B.returns
  have hts := atoms_spec (ws := WS yX2_read cX2_read 2 (some .boolean)) B.pre
  have hgd : ∀ w ∈ gd, w ∈ WS yX2_read cX2_read 2 (some .boolean) := fun w h => List.mem_cons_of_mem _ h
  have hg : ∀ w ∈ gd, w.before _ s = true := fun w h => hts w (hgd w h)
  have hown : s.vm.findClass RX2 = some m.cls := findClass_of_methodNamed B.named
  have hS : va_S A s.heap s.heap [] := va_S.rf
  have hF : Fr [27] [(2, 12), (2, 13), (3, 2), (3, 3), (3, 4), (3, 5), (3, 6), (3, 7), (3, 8), (4, 1), (4, 2)] G G := Fr.rf
  have hl := lv_entry ([.ref (a 4), .ref (a 2)]) (n := 2) (Nat.le_of_ble_eq_true rfl)
  rw [lg_entry_eq]
  generalize (lg_sl ([.ref (a 4), .ref (a 2)]) ++ List.replicate (2 - (lg_sl ([.ref (a 4), .ref (a 2)])).length) Slot.unset).toArray = ls at hl ⊢
  have hl : lv_has ls 2 [(0, .ref (a 4)), (1, .ref (a 2))] := hl
  refine lv_aload_n hx hb dX2_read_0 rfl (lv_at hl 0 rfl) ?_
  refine lv_aload_n hx hb dX2_read_1 rfl (lv_at hl 1 rfl) ?_
  refine S_putV (ty := .object "SlabWalk$Paving") (n := 2) (C := RX2) (T := TX2) (N := 3) hx hb hg iX2 tyX2 tyX2_ok nmX2 hown hK hW hS kd_4 rfl 1 (lt_b rfl) (hg (Cond.fieldLink RX2 15 "SlabWalk$Formulas" "paving" "LSlabWalk$Paving;") m302) (fun _ h9 => h9) rfl (by decide +kernel) rfl rfl rfl dX2_read_2 (fun G_1 H locs eG_1 hW hS => ?_)
  have hB_G_1 : Bd G_1 := hB_G.putr eG_1 (by decide) (by decide)
  have hF := hF.putr eG_1 (Or.inr (by decide))
  refine lv_aload_n hx hb dX2_read_5 rfl (lv_at hl 0 rfl) ?_
  refine ic_0 hx hb dX2_read_6 ?_
  refine S_putI (ty := .int) (C := RX2) (T := TX2) (N := 3) hx hb hg iX2 tyX2 tyX2_ok nmX2 hown hK hW hS kd_4 rfl 2 (lt_b rfl) (hg (Cond.fieldLink RX2 19 "SlabWalk$Formulas" "units" "I") m303) (fun _ h9 => h9) rfl (by decide +kernel) rfl rfl rfl dX2_read_7 (fun G_2 H locs eG_2 hW hS => ?_)
  have hB_G_2 : Bd G_2 := hB_G_1.put (V := 0) (lo := 0) (hi := 30) eG_2 rfl rfl rfl (by decide) (by decide) (hB_G_1.2.put eG_2 rfl)
  have hF := hF.put eG_2 (Or.inr (by decide))
  refine lv_aload_n hx hb dX2_read_10 rfl (lv_at hl 0 rfl) ?_
  refine ic_0 hx hb dX2_read_11 ?_
  refine S_calli (va_runV (As := [.int 0]) (rest := []) ⟨hx, hb, hml, hown, hts⟩ (k_fEither_2 l D k A a z G_2 0 ⟨by decide, by decide⟩ ((congrFun (congrFun (congrArg (fun q => q.2.2) eG_2) 4) 1).trans (gp_re eG_1))) (cwV 1 hts (gd_V hgd m821 m823 m16 m121 m824) rfl rfl rfl hd_X2_passEither ⟨Nat.le_of_ble_eq_true rfl, Nat.le_of_ble_eq_true rfl⟩) (pre_W hW hB_G_2 hK hZ hS kd_4 rfl) rfl rfl hl.1 rfl (lv_room (Nat.le_of_ble_eq_true rfl)) dX2_read_12 ⟨Nat.le_of_ble_eq_true rfl, Nat.le_of_ble_eq_true rfl⟩) hS (fun r_3 G_4 H locs hpo hW hS => ?_)
  have hX_7 : P_fEither_2 0 G_2 r_3 G_4 := hpo
  obtain ⟨hB_G_4, hq_5, f_8, -⟩ := hpo
  have hF := hF.call9 hq_5 rfl rfl
  exact W.zret (v := r_3) hx hb hr (nar_z (by omega) (by omega)) (fun t ht _ => ⟨⟨r_3, G_4, rfl, (P_fRead_2_mk ⟨hB_G_4, hF, ⟨by omega, by omega⟩, ⟨G_2, hB_G_2, (Fr.put (rs := []) (fs := [(4, 1), (4, 2)]) (Fr.putr (rs := []) (fs := [(4, 1), (4, 2)]) Fr.rf eG_1 (Or.inr (by decide))) eG_2 (Or.inr (by decide))), ((congrFun (congrFun (congrArg (fun q => q.2.2) eG_2) 4) 1).trans (gp_re eG_1)), (gp_eq eG_2), ⟨r_3, G_4, hX_7, ⟨rfl, rfl⟩⟩⟩⟩), wd_t ht hW⟩, hS.F ht⟩) hS.2.2 dX2_read_15
