theorem m427 : Cond.fieldLink RX4 9 "SlabWalk$Minima" "keys" "[I" ∈ gd := gdc_2_4 7 rfl gw_fieldLink
theorem m428 : Cond.fieldLink RX4 15 "SlabWalk$Minima" "values" "[I" ∈ gd := gdc_2_4 8 rfl gw_fieldLink
theorem m429 : Cond.fieldLink RX4 18 "SlabWalk$Minima" "head" "I" ∈ gd := gdc_2_4 9 rfl gw_fieldLink
theorem m430 : Cond.fieldLink RX4 22 "SlabWalk$Minima" "tail" "I" ∈ gd := gdc_2_4 10 rfl gw_fieldLink
theorem m1112 : Cond.constant RX4 27 1000000 ∈ gd := gdc_5_2 4 rfl gw_constant
def rbX4_add_0 : List (Nat × List Nat) := [(0, [42]), (1, [180, 0, 22]), (4, [42]), (5, [180, 0, 18]), (8, [164, 0, 31]), (11, [42]), (12, [180, 0, 15]), (15, [42]), (16, [180, 0, 22]), (19, [4]), (20, [100]), (21, [46]), (22, [28]), (23, [161, 0, 16]), (26, [42]), (27, [89]), (28, [180, 0, 22]), (31, [4]), (32, [100]), (33, [181, 0, 22]), (36, [167, 255, 220]), (39, [42]), (40, [180, 0, 22]), (43, [17, 1, 144])]
theorem rcX4_add_0 : dgo (lb cX4_add) 0 rbX4_add_0 = true := by decide +kernel
theorem dX4_add_0 : decode cX4_add 0 = .ok (.aload_n 0, 1) := dk_42 (dw rcX4_add_0 0 rfl)
theorem dX4_add_1 : decode cX4_add 1 = .ok (.getfield 22, 3) := dk_180 (dw rcX4_add_0 1 rfl) rfl
theorem dX4_add_4 : decode cX4_add 4 = .ok (.aload_n 0, 1) := dk_42 (dw rcX4_add_0 2 rfl)
theorem dX4_add_5 : decode cX4_add 5 = .ok (.getfield 18, 3) := dk_180 (dw rcX4_add_0 3 rfl) rfl
theorem dX4_add_8 : decode cX4_add 8 = .ok (.if_icmp .le 31, 3) := dk_164 (dw rcX4_add_0 4 rfl) rfl
theorem dX4_add_11 : decode cX4_add 11 = .ok (.aload_n 0, 1) := dk_42 (dw rcX4_add_0 5 rfl)
theorem dX4_add_12 : decode cX4_add 12 = .ok (.getfield 15, 3) := dk_180 (dw rcX4_add_0 6 rfl) rfl
theorem dX4_add_15 : decode cX4_add 15 = .ok (.aload_n 0, 1) := dk_42 (dw rcX4_add_0 7 rfl)
theorem dX4_add_16 : decode cX4_add 16 = .ok (.getfield 22, 3) := dk_180 (dw rcX4_add_0 8 rfl) rfl
theorem dX4_add_19 : decode cX4_add 19 = .ok (.iconst 1, 1) := dk_4 (dw rcX4_add_0 9 rfl)
theorem dX4_add_20 : decode cX4_add 20 = .ok (.isub, 1) := dk_100 (dw rcX4_add_0 10 rfl)
theorem dX4_add_21 : decode cX4_add 21 = .ok (.iaload, 1) := dk_46 (dw rcX4_add_0 11 rfl)
theorem dX4_add_22 : decode cX4_add 22 = .ok (.iload_n 2, 1) := dk_28 (dw rcX4_add_0 12 rfl)
theorem dX4_add_23 : decode cX4_add 23 = .ok (.if_icmp .lt 16, 3) := dk_161 (dw rcX4_add_0 13 rfl) rfl
theorem dX4_add_26 : decode cX4_add 26 = .ok (.aload_n 0, 1) := dk_42 (dw rcX4_add_0 14 rfl)
theorem dX4_add_27 : decode cX4_add 27 = .ok (.dup, 1) := dk_89 (dw rcX4_add_0 15 rfl)
theorem dX4_add_28 : decode cX4_add 28 = .ok (.getfield 22, 3) := dk_180 (dw rcX4_add_0 16 rfl) rfl
theorem dX4_add_31 : decode cX4_add 31 = .ok (.iconst 1, 1) := dk_4 (dw rcX4_add_0 17 rfl)
theorem dX4_add_32 : decode cX4_add 32 = .ok (.isub, 1) := dk_100 (dw rcX4_add_0 18 rfl)
theorem dX4_add_33 : decode cX4_add 33 = .ok (.putfield 22, 3) := dk_181 (dw rcX4_add_0 19 rfl) rfl
theorem dX4_add_36 : decode cX4_add 36 = .ok (.goto (-36), 3) := dk_167 (dw rcX4_add_0 20 rfl) rfl
theorem dX4_add_39 : decode cX4_add 39 = .ok (.aload_n 0, 1) := dk_42 (dw rcX4_add_0 21 rfl)
theorem dX4_add_40 : decode cX4_add 40 = .ok (.getfield 22, 3) := dk_180 (dw rcX4_add_0 22 rfl) rfl
theorem dX4_add_43 : decode cX4_add 43 = .ok (.sipush 400, 3) := dk_17 (dw rcX4_add_0 23 rfl) rfl
def rbX4_add_46 : List (Nat × List Nat) := [(46, [162, 0, 30]), (49, [42]), (50, [180, 0, 9]), (53, [42]), (54, [180, 0, 22]), (57, [27]), (58, [79]), (59, [42]), (60, [180, 0, 15]), (63, [42]), (64, [89]), (65, [180, 0, 22]), (68, [90]), (69, [4]), (70, [96]), (71, [181, 0, 22]), (74, [28]), (75, [79]), (76, [177])]
theorem rcX4_add_46 : dgo (lb cX4_add) 0 rbX4_add_46 = true := by decide +kernel
theorem dX4_add_46 : decode cX4_add 46 = .ok (.if_icmp .ge 30, 3) := dk_162 (dw rcX4_add_46 0 rfl) rfl
theorem dX4_add_49 : decode cX4_add 49 = .ok (.aload_n 0, 1) := dk_42 (dw rcX4_add_46 1 rfl)
theorem dX4_add_50 : decode cX4_add 50 = .ok (.getfield 9, 3) := dk_180 (dw rcX4_add_46 2 rfl) rfl
theorem dX4_add_53 : decode cX4_add 53 = .ok (.aload_n 0, 1) := dk_42 (dw rcX4_add_46 3 rfl)
theorem dX4_add_54 : decode cX4_add 54 = .ok (.getfield 22, 3) := dk_180 (dw rcX4_add_46 4 rfl) rfl
theorem dX4_add_57 : decode cX4_add 57 = .ok (.iload_n 1, 1) := dk_27 (dw rcX4_add_46 5 rfl)
theorem dX4_add_58 : decode cX4_add 58 = .ok (.iastore, 1) := dk_79 (dw rcX4_add_46 6 rfl)
theorem dX4_add_59 : decode cX4_add 59 = .ok (.aload_n 0, 1) := dk_42 (dw rcX4_add_46 7 rfl)
theorem dX4_add_60 : decode cX4_add 60 = .ok (.getfield 15, 3) := dk_180 (dw rcX4_add_46 8 rfl) rfl
theorem dX4_add_63 : decode cX4_add 63 = .ok (.aload_n 0, 1) := dk_42 (dw rcX4_add_46 9 rfl)
theorem dX4_add_64 : decode cX4_add 64 = .ok (.dup, 1) := dk_89 (dw rcX4_add_46 10 rfl)
theorem dX4_add_65 : decode cX4_add 65 = .ok (.getfield 22, 3) := dk_180 (dw rcX4_add_46 11 rfl) rfl
theorem dX4_add_68 : decode cX4_add 68 = .ok (.dup_x1, 1) := dk_90 (dw rcX4_add_46 12 rfl)
theorem dX4_add_69 : decode cX4_add 69 = .ok (.iconst 1, 1) := dk_4 (dw rcX4_add_46 13 rfl)
theorem dX4_add_70 : decode cX4_add 70 = .ok (.iadd, 1) := dk_96 (dw rcX4_add_46 14 rfl)
theorem dX4_add_71 : decode cX4_add 71 = .ok (.putfield 22, 3) := dk_181 (dw rcX4_add_46 15 rfl) rfl
theorem dX4_add_74 : decode cX4_add 74 = .ok (.iload_n 2, 1) := dk_28 (dw rcX4_add_46 16 rfl)
theorem dX4_add_75 : decode cX4_add 75 = .ok (.iastore, 1) := dk_79 (dw rcX4_add_46 17 rfl)
theorem dX4_add_76 : decode cX4_add 76 = .ok (.return_, 1) := dk_177 (dw rcX4_add_46 18 rfl)
def rbX4_empty_0 : List (Nat × List Nat) := [(0, [42]), (1, [3]), (2, [181, 0, 18]), (5, [42]), (6, [3]), (7, [181, 0, 22]), (10, [177])]
theorem rcX4_empty_0 : dgo (lb cX4_empty) 0 rbX4_empty_0 = true := by decide +kernel
theorem dX4_empty_0 : decode cX4_empty 0 = .ok (.aload_n 0, 1) := dk_42 (dw rcX4_empty_0 0 rfl)
theorem dX4_empty_1 : decode cX4_empty 1 = .ok (.iconst 0, 1) := dk_3 (dw rcX4_empty_0 1 rfl)
theorem dX4_empty_2 : decode cX4_empty 2 = .ok (.putfield 18, 3) := dk_181 (dw rcX4_empty_0 2 rfl) rfl
theorem dX4_empty_5 : decode cX4_empty 5 = .ok (.aload_n 0, 1) := dk_42 (dw rcX4_empty_0 3 rfl)
theorem dX4_empty_6 : decode cX4_empty 6 = .ok (.iconst 0, 1) := dk_3 (dw rcX4_empty_0 4 rfl)
theorem dX4_empty_7 : decode cX4_empty 7 = .ok (.putfield 22, 3) := dk_181 (dw rcX4_empty_0 5 rfl) rfl
theorem dX4_empty_10 : decode cX4_empty 10 = .ok (.return_, 1) := dk_177 (dw rcX4_empty_0 6 rfl)
def rbX4_leastFrom_0 : List (Nat × List Nat) := [(0, [42]), (1, [180, 0, 18]), (4, [42]), (5, [180, 0, 22]), (8, [162, 0, 29]), (11, [42]), (12, [180, 0, 9]), (15, [42]), (16, [180, 0, 18]), (19, [46]), (20, [27]), (21, [162, 0, 16]), (24, [42]), (25, [89]), (26, [180, 0, 18]), (29, [4]), (30, [96]), (31, [181, 0, 18]), (34, [167, 255, 222]), (37, [42]), (38, [180, 0, 18]), (41, [42]), (42, [180, 0, 22]), (45, [162, 0, 15])]
theorem rcX4_leastFrom_0 : dgo (lb cX4_leastFrom) 0 rbX4_leastFrom_0 = true := by decide +kernel
theorem dX4_leastFrom_0 : decode cX4_leastFrom 0 = .ok (.aload_n 0, 1) := dk_42 (dw rcX4_leastFrom_0 0 rfl)
theorem dX4_leastFrom_1 : decode cX4_leastFrom 1 = .ok (.getfield 18, 3) := dk_180 (dw rcX4_leastFrom_0 1 rfl) rfl
theorem dX4_leastFrom_4 : decode cX4_leastFrom 4 = .ok (.aload_n 0, 1) := dk_42 (dw rcX4_leastFrom_0 2 rfl)
theorem dX4_leastFrom_5 : decode cX4_leastFrom 5 = .ok (.getfield 22, 3) := dk_180 (dw rcX4_leastFrom_0 3 rfl) rfl
theorem dX4_leastFrom_8 : decode cX4_leastFrom 8 = .ok (.if_icmp .ge 29, 3) := dk_162 (dw rcX4_leastFrom_0 4 rfl) rfl
theorem dX4_leastFrom_11 : decode cX4_leastFrom 11 = .ok (.aload_n 0, 1) := dk_42 (dw rcX4_leastFrom_0 5 rfl)
theorem dX4_leastFrom_12 : decode cX4_leastFrom 12 = .ok (.getfield 9, 3) := dk_180 (dw rcX4_leastFrom_0 6 rfl) rfl
theorem dX4_leastFrom_15 : decode cX4_leastFrom 15 = .ok (.aload_n 0, 1) := dk_42 (dw rcX4_leastFrom_0 7 rfl)
theorem dX4_leastFrom_16 : decode cX4_leastFrom 16 = .ok (.getfield 18, 3) := dk_180 (dw rcX4_leastFrom_0 8 rfl) rfl
theorem dX4_leastFrom_19 : decode cX4_leastFrom 19 = .ok (.iaload, 1) := dk_46 (dw rcX4_leastFrom_0 9 rfl)
theorem dX4_leastFrom_20 : decode cX4_leastFrom 20 = .ok (.iload_n 1, 1) := dk_27 (dw rcX4_leastFrom_0 10 rfl)
theorem dX4_leastFrom_21 : decode cX4_leastFrom 21 = .ok (.if_icmp .ge 16, 3) := dk_162 (dw rcX4_leastFrom_0 11 rfl) rfl
theorem dX4_leastFrom_24 : decode cX4_leastFrom 24 = .ok (.aload_n 0, 1) := dk_42 (dw rcX4_leastFrom_0 12 rfl)
theorem dX4_leastFrom_25 : decode cX4_leastFrom 25 = .ok (.dup, 1) := dk_89 (dw rcX4_leastFrom_0 13 rfl)
theorem dX4_leastFrom_26 : decode cX4_leastFrom 26 = .ok (.getfield 18, 3) := dk_180 (dw rcX4_leastFrom_0 14 rfl) rfl
theorem dX4_leastFrom_29 : decode cX4_leastFrom 29 = .ok (.iconst 1, 1) := dk_4 (dw rcX4_leastFrom_0 15 rfl)
theorem dX4_leastFrom_30 : decode cX4_leastFrom 30 = .ok (.iadd, 1) := dk_96 (dw rcX4_leastFrom_0 16 rfl)
theorem dX4_leastFrom_31 : decode cX4_leastFrom 31 = .ok (.putfield 18, 3) := dk_181 (dw rcX4_leastFrom_0 17 rfl) rfl
theorem dX4_leastFrom_34 : decode cX4_leastFrom 34 = .ok (.goto (-34), 3) := dk_167 (dw rcX4_leastFrom_0 18 rfl) rfl
theorem dX4_leastFrom_37 : decode cX4_leastFrom 37 = .ok (.aload_n 0, 1) := dk_42 (dw rcX4_leastFrom_0 19 rfl)
theorem dX4_leastFrom_38 : decode cX4_leastFrom 38 = .ok (.getfield 18, 3) := dk_180 (dw rcX4_leastFrom_0 20 rfl) rfl
theorem dX4_leastFrom_41 : decode cX4_leastFrom 41 = .ok (.aload_n 0, 1) := dk_42 (dw rcX4_leastFrom_0 21 rfl)
theorem dX4_leastFrom_42 : decode cX4_leastFrom 42 = .ok (.getfield 22, 3) := dk_180 (dw rcX4_leastFrom_0 22 rfl) rfl
theorem dX4_leastFrom_45 : decode cX4_leastFrom 45 = .ok (.if_icmp .ge 15, 3) := dk_162 (dw rcX4_leastFrom_0 23 rfl) rfl
def rbX4_leastFrom_48 : List (Nat × List Nat) := [(48, [42]), (49, [180, 0, 15]), (52, [42]), (53, [180, 0, 18]), (56, [46]), (57, [167, 0, 5]), (60, [18, 27]), (62, [172])]
theorem rcX4_leastFrom_48 : dgo (lb cX4_leastFrom) 0 rbX4_leastFrom_48 = true := by decide +kernel
theorem dX4_leastFrom_48 : decode cX4_leastFrom 48 = .ok (.aload_n 0, 1) := dk_42 (dw rcX4_leastFrom_48 0 rfl)
theorem dX4_leastFrom_49 : decode cX4_leastFrom 49 = .ok (.getfield 15, 3) := dk_180 (dw rcX4_leastFrom_48 1 rfl) rfl
theorem dX4_leastFrom_52 : decode cX4_leastFrom 52 = .ok (.aload_n 0, 1) := dk_42 (dw rcX4_leastFrom_48 2 rfl)
theorem dX4_leastFrom_53 : decode cX4_leastFrom 53 = .ok (.getfield 18, 3) := dk_180 (dw rcX4_leastFrom_48 3 rfl) rfl
theorem dX4_leastFrom_56 : decode cX4_leastFrom 56 = .ok (.iaload, 1) := dk_46 (dw rcX4_leastFrom_48 4 rfl)
theorem dX4_leastFrom_57 : decode cX4_leastFrom 57 = .ok (.goto 5, 3) := dk_167 (dw rcX4_leastFrom_48 5 rfl) rfl
theorem dX4_leastFrom_60 : decode cX4_leastFrom 60 = .ok (.ldc 27, 2) := dk_18 (dw rcX4_leastFrom_48 6 rfl)
theorem dX4_leastFrom_62 : decode cX4_leastFrom 62 = .ok (.ireturn, 1) := dk_172 (dw rcX4_leastFrom_48 7 rfl)
set_option maxHeartbeats 4000000 in
set_option maxRecDepth 100000 in
theorem k_mempty_9 (l : Launch) (D : va_G) (k : KT) (A : Nat → Prop) (a : Nat → Nat) (z : SK) (G : GS)   : Met l yX4_empty (WS yX4_empty cX4_empty 1 none) ({ frames := 0, cells := 0, slots := 0, locals := 0 }) (va_Pc [.ref (a 9)] (cW D k A a z G)) (va_Qv (fun (G1 : GS) => P_mempty_9 G G1) (fun (G1 : GS) t => Wd D k A a G1 t.heap) A) 0 0 A := by
  refine Met.ofW (cc := cX4_empty) (maxL := 1) (ret := none) (by decide) rfl ?_
  intro p e s m args below meth c s₁ B hml hv
  obtain ⟨rfl, hW, hB_G, hK, hZ⟩ := hv
  have hx := B.exec
  have hb := B.bytes
  have hr := B.returns
  have hts := atoms_spec (ws := WS yX4_empty cX4_empty 1 none) B.pre
  have hgd : ∀ w ∈ gd, w ∈ WS yX4_empty cX4_empty 1 none := fun w h => List.mem_cons_of_mem _ h
  have hg : ∀ w ∈ gd, w.before _ s = true := fun w h => hts w (hgd w h)
  have hown : s.vm.findClass RX4 = some m.cls := findClass_of_methodNamed B.named
  have hS : va_S A s.heap s.heap [] := va_S.rf
  have hF : Fr [] [(9, 2), (9, 3)] G G := Fr.rf
  have hl := lv_entry ([.ref (a 9)]) (n := 1) (Nat.le_of_ble_eq_true rfl)
  rw [lg_entry_eq]
  generalize (lg_sl ([.ref (a 9)]) ++ List.replicate (1 - (lg_sl ([.ref (a 9)])).length) Slot.unset).toArray = ls at hl ⊢
  have hl : lv_has ls 1 [(0, .ref (a 9))] := hl
  refine lv_aload_n hx hb dX4_empty_0 rfl (lv_at hl 0 rfl) ?_
  refine ic_0 hx hb dX4_empty_1 ?_
  refine S_putI (ty := .int) (C := RX4) (T := TX4) (N := 4) hx hb hg iX4 tyX4 tyX4_ok nmX4 hown hK hW hS kd_9 rfl 2 (lt_b rfl) (hg (Cond.fieldLink RX4 18 "SlabWalk$Minima" "head" "I") m429) (fun _ h9 => h9) rfl (by decide +kernel) rfl rfl rfl dX4_empty_2 (fun G_1 H locs eG_1 hW hS => ?_)
  have hB_G_1 : Bd G_1 := hB_G.put (V := 0) (lo := 0) (hi := 400) eG_1 rfl rfl rfl (by decide) (by decide) (hB_G.2.put eG_1 rfl)
  have hF := hF.put eG_1 (Or.inr (by decide))
  refine lv_aload_n hx hb dX4_empty_5 rfl (lv_at hl 0 rfl) ?_
  refine ic_0 hx hb dX4_empty_6 ?_
  refine S_putI (ty := .int) (C := RX4) (T := TX4) (N := 4) hx hb hg iX4 tyX4 tyX4_ok nmX4 hown hK hW hS kd_9 rfl 3 (lt_b rfl) (hg (Cond.fieldLink RX4 22 "SlabWalk$Minima" "tail" "I") m430) (fun _ h9 => h9) rfl (by decide +kernel) rfl rfl rfl dX4_empty_7 (fun G_2 H locs eG_2 hW hS => ?_)
  have hB_G_2 : Bd G_2 := hB_G_1.put (V := 0) (lo := 0) (hi := 400) eG_2 rfl rfl rfl (by decide) (by decide) (hB_G_1.2.put eG_2 rfl)
  have hF := hF.put eG_2 (Or.inr (by decide))
  exact W.vret hx hb hr (fun t ht _ => ⟨⟨G_2, rfl, (P_mempty_9_mk ⟨hB_G_2, hF, ⟨(Fr.put (rs := []) (fs := [(9, 2), (9, 3)]) (Fr.put (rs := []) (fs := [(9, 2), (9, 3)]) Fr.rf eG_1 (Or.inr (by decide))) eG_2 (Or.inr (by decide))), ((gp_ne eG_2 (by decide)).trans (gp_eq eG_1)), (gp_eq eG_2)⟩⟩), wd_t ht hW⟩, hS.F ht⟩) hS.2.2 dX4_empty_10

set_option maxHeartbeats 4000000 in
set_option maxRecDepth 100000 in
theorem k_madd_9 (l : Launch) (D : va_G) (k : KT) (A : Nat → Prop) (a : Nat → Nat) (z : SK) (G : GS) (p0 : Int32) (p1 : Int32)  : Met l yX4_add (WS yX4_add cX4_add 3 none) ({ frames := 0, cells := 0, slots := 0, locals := 0 }) (va_Pc [.ref (a 9), .int p0, .int p1] (cW D k A a z G)) (va_Qv (fun (G1 : GS) => P_madd_9 p0 p1 G G1) (fun (G1 : GS) t => Wd D k A a G1 t.heap) A) 0 0 A := by
  refine Met.ofW (cc := cX4_add) (maxL := 3) (ret := none) (by decide) rfl ?_
  intro p e s m args below meth c s₁ B hml hv
  obtain ⟨rfl, hW, hB_G, hK, hZ⟩ := hv
  have hx := B.exec
  have hb := B.bytes
  have hr := B.returns
  have hts := atoms_spec (ws := WS yX4_add cX4_add 3 none) B.pre
  have hgd : ∀ w ∈ gd, w ∈ WS yX4_add cX4_add 3 none := fun w h => List.mem_cons_of_mem _ h
  have hg : ∀ w ∈ gd, w.before _ s = true := fun w h => hts w (hgd w h)
  have hown : s.vm.findClass RX4 = some m.cls := findClass_of_methodNamed B.named
  have hS : va_S A s.heap s.heap [] := va_S.rf
  have hF : Fr [48, 49] [(9, 3)] G G := Fr.rf
  have hl := lv_entry ([.ref (a 9), .int p0, .int p1]) (n := 3) (Nat.le_of_ble_eq_true rfl)
  rw [lg_entry_eq]
  generalize (lg_sl ([.ref (a 9), .int p0, .int p1]) ++ List.replicate (3 - (lg_sl ([.ref (a 9), .int p0, .int p1])).length) Slot.unset).toArray = ls at hl ⊢
  have hl : lv_has ls 3 [(0, .ref (a 9)), (1, .int p0), (2, .int p1)] := hl
  have b_6 : 0 ≤ (G.1 9 3).toInt ∧ (G.1 9 3).toInt ≤ 400 := bd_9_3 hB_G
  refine loop_N (Inv := fun n H locs ls => ∃ (G_1 : GS), (n : Int) = (G_1.1 9 3).toInt ∧ Rc (St_k_madd_9_1 p1 G) G G_1 ∧ Wd D k A a G_1 H ∧ Bd G_1 ∧ Fr [48, 49] [(9, 3)] G G_1 ∧ Fr [] [(9, 3)] G G_1 ∧ va_S A s.heap H locs ∧ lv_has ls 3 [(0, .ref (a 9)), (1, .int p0), (2, .int p1)]) (fun n_4 H locs ls ih_3 hI => ?_) ((G.1 9 3).toInt : Int).toNat ⟨G, (Int.toNat_of_nonneg (by omega)), Rc.rf, hW, hB_G, hF, Fr.rf, hS, lv_sub hl [0, 1, 2] rfl⟩
  obtain ⟨G_1, hn_7, hX_5, hW, hB_G_1, hF, hq_2, hS, hl⟩ := hI
  refine lv_aload_n hx hb dX4_add_0 rfl (lv_at hl 0 rfl) ?_
  have b_8 : 0 ≤ (G_1.1 9 3).toInt ∧ (G_1.1 9 3).toInt ≤ 400 := bd_9_3 hB_G_1
  refine S_getI (v := (G_1.1 9 3)) (C := RX4) (T := TX4) (N := 4) hx hb hg iX4 hown hK hW kd_9 rfl 3 (lt_b rfl) (hg (Cond.fieldLink RX4 22 "SlabWalk$Minima" "tail" "I") m430) (fun _ h9 => h9) rfl rfl dX4_add_1 ?_
  refine lv_aload_n hx hb dX4_add_4 rfl (lv_at hl 0 rfl) ?_
  have b_9 : 0 ≤ (G.1 9 2).toInt ∧ (G.1 9 2).toInt ≤ 400 := bd_9_2 hB_G
  refine S_getI (v := (G.1 9 2)) (C := RX4) (T := TX4) (N := 4) hx hb hg iX4 hown hK hW kd_9 rfl 2 (lt_b rfl) (hg (Cond.fieldLink RX4 18 "SlabWalk$Minima" "head" "I") m429) (fun _ h9 => h9) rfl (hq_2.i9 9 2 rfl rfl) dX4_add_5 ?_
  refine W.cut (σ := Unit) (pcJ := 39) (J := fun y H locs ls => ∃ (G_13 : GS), Jn_k_madd_9_2 p1 G G_1 G_13 ∧ Wd D k A a G_13 H ∧ Bd G_13 ∧ Fr [48, 49] [(9, 3)] G G_13 ∧ Fr [] [] G_1 G_13 ∧ va_S A s.heap H locs ∧ lv_has ls 3 [(0, .ref (a 9)), (1, .int p0), (2, .int p1)]) (stJ := fun _ => []) ?_ (fun hJ_14 => ?_)
  · intro y H locs ls hI
    obtain ⟨G_13, hX_16, hW, hB_G_13, hF, hq_15, hS, hl⟩ := hI
    refine lv_aload_n hx hb dX4_add_39 rfl (lv_at hl 0 rfl) ?_
    refine S_getI (v := (G_1.1 9 3)) (C := RX4) (T := TX4) (N := 4) hx hb hg iX4 hown hK hW kd_9 rfl 3 (lt_b rfl) (hg (Cond.fieldLink RX4 22 "SlabWalk$Minima" "tail" "I") m430) (fun _ h9 => h9) rfl ((hq_15.i9 9 3 rfl rfl).trans (rfl)) dX4_add_40 ?_
    refine lv_sipush (v := 400) hx hb dX4_add_43 (by decide) ?_
    refine lv_icmp_ge (tgt := 76) hx hb dX4_add_46 rfl (fun c_17 => ?_) (fun c_17 => ?_)
    · have c_17 : 400 ≤ (G_1.1 9 3).toInt := xI_le rfl rfl c_17
      exact W.vret hx hb hr (fun t ht _ => ⟨⟨G_13, rfl, (P_madd_9_mk ⟨hB_G_13, hF, ⟨G_1, hX_5, hB_G_1, hq_2, ⟨G_13, hX_16, hB_G_13, hq_15, (Or.inl ⟨c_17, rfl⟩)⟩⟩⟩), wd_t ht hW⟩, hS.F ht⟩) hS.2.2 dX4_add_76
    · have c_17 : (G_1.1 9 3).toInt < 400 := xI_nle rfl rfl c_17
      refine lv_aload_n hx hb dX4_add_49 rfl (lv_at hl 0 rfl) ?_
      refine S_getR (n := 48) (C := RX4) (T := TX4) (N := 4) hx hb hg iX4 hown hK hW kd_9 rfl 0 (lt_b rfl) (hg (Cond.fieldLink RX4 9 "SlabWalk$Minima" "keys" "[I") m427) (fun _ h9 => h9) rfl dX4_add_50 ?_
      refine lv_aload_n hx hb dX4_add_53 rfl (lv_at hl 0 rfl) ?_
      refine S_getI (v := (G_1.1 9 3)) (C := RX4) (T := TX4) (N := 4) hx hb hg iX4 hown hK hW kd_9 rfl 3 (lt_b rfl) (hg (Cond.fieldLink RX4 22 "SlabWalk$Minima" "tail" "I") m430) (fun _ h9 => h9) rfl ((hq_15.i9 9 3 rfl rfl).trans (rfl)) dX4_add_54 ?_
      refine lv_iload_n hx hb dX4_add_57 rfl (lv_at hl 1 rfl) ?_
      refine S_iast hx hb hK hW hS kd_48 (vin ((by first | (clear b_6 hn_7 b_9; omega) | omega)) ((by first | (clear b_6 hn_7 b_9; omega) | omega))) dX4_add_58 (fun G_18 H locs eG_18 hW hS => ?_)
      have hB_G_18 : Bd G_18 := hB_G_13.put (lo := (-2147483648)) (hi := 2147483647) eG_18 rfl rfl rfl (tI_rng _).1 (tI_rng _).2 (hB_G_13.2.put eG_18 rfl)
      have hF := hF.put eG_18 (Or.inl (by decide))
      refine lv_aload_n hx hb dX4_add_59 rfl (lv_at hl 0 rfl) ?_
      refine S_getR (n := 49) (C := RX4) (T := TX4) (N := 4) hx hb hg iX4 hown hK hW kd_9 rfl 1 (lt_b rfl) (hg (Cond.fieldLink RX4 15 "SlabWalk$Minima" "values" "[I") m428) (fun _ h9 => h9) rfl dX4_add_60 ?_
      refine lv_aload_n hx hb dX4_add_63 rfl (lv_at hl 0 rfl) ?_
      refine lv_dup hx hb dX4_add_64 rfl ?_
      refine S_getI (v := (G_1.1 9 3)) (C := RX4) (T := TX4) (N := 4) hx hb hg iX4 hown hK hW kd_9 rfl 3 (lt_b rfl) (hg (Cond.fieldLink RX4 22 "SlabWalk$Minima" "tail" "I") m430) (fun _ h9 => h9) rfl ((gp_ne eG_18 (fun q => absurd q.1 (Nat.ne_of_beq_eq_false rfl))).trans ((hq_15.i9 9 3 rfl rfl).trans (rfl))) dX4_add_65 ?_
      refine lv_dup_x1 hx hb dX4_add_68 rfl rfl ?_
      refine ic_1 hx hb dX4_add_69 ?_
      refine lv_iadd hx hb dX4_add_70 ?_
      refine lv_topi (fun y_19 ey_19 => ?_)
      have ty_19 : y_19.toInt = (G_1.1 9 3).toInt + 1 := xI_add rfl rfl ey_19 ((by first | (clear b_6 hn_7 b_9; omega) | omega)) ((by first | (clear b_6 hn_7 b_9; omega) | omega))
      refine S_putI (ty := .int) (C := RX4) (T := TX4) (N := 4) hx hb hg iX4 tyX4 tyX4_ok nmX4 hown hK hW hS kd_9 rfl 3 (lt_b rfl) (hg (Cond.fieldLink RX4 22 "SlabWalk$Minima" "tail" "I") m430) (fun _ h9 => h9) rfl (by decide +kernel) rfl rfl rfl dX4_add_71 (fun G_20 H locs eG_20 hW hS => ?_)
      have hB_G_20 : Bd G_20 := hB_G_18.put (V := y_19.toInt) (lo := 0) (hi := 400) eG_20 rfl rfl rfl ((by first | (clear b_6 hn_7 b_9; omega) | omega)) ((by first | (clear b_6 hn_7 b_9; omega) | omega)) (hB_G_18.2.put eG_20 rfl)
      have hF := hF.put eG_20 (Or.inr (by decide))
      refine lv_iload_n hx hb dX4_add_74 rfl (lv_at hl 2 rfl) ?_
      refine S_iast hx hb hK hW hS kd_49 (vin ((by first | (clear b_6 hn_7 b_9; omega) | omega)) ((by first | (clear b_6 hn_7 b_9; omega) | omega))) dX4_add_75 (fun G_21 H locs eG_21 hW hS => ?_)
      have hB_G_21 : Bd G_21 := hB_G_20.put (lo := (-2147483648)) (hi := 2147483647) eG_21 rfl rfl rfl (tI_rng _).1 (tI_rng _).2 (hB_G_20.2.put eG_21 rfl)
      have hF := hF.put eG_21 (Or.inl (by decide))
      exact W.vret hx hb hr (fun t ht _ => ⟨⟨G_21, rfl, (P_madd_9_mk ⟨hB_G_21, hF, ⟨G_1, hX_5, hB_G_1, hq_2, ⟨G_13, hX_16, hB_G_13, hq_15, (Or.inr ⟨c_17, ⟨y_19, ty_19, ⟨(Fr.put (rs := [48, 49]) (fs := [(9, 3)]) (Fr.put (rs := [48, 49]) (fs := [(9, 3)]) (Fr.put (rs := [48, 49]) (fs := [(9, 3)]) Fr.rf eG_18 (Or.inl (by decide))) eG_20 (Or.inr (by decide))) eG_21 (Or.inl (by decide))), ((gp_ne eG_21 (fun q => absurd q.1 (Nat.ne_of_beq_eq_false rfl))).trans (gp_eq eG_20)), (rw_put eG_21 (by decide)).trans ((rw_put eG_20 (by decide)).trans (rw_ast eG_18)), (rw_ast eG_21).trans (congrArg (fun q => upd q ((G_1.1 9 3).toNatClampNeg) p1) ((rw_put eG_20 (by decide)).trans (rw_put eG_18 (by decide))))⟩⟩⟩)⟩⟩⟩), wd_t ht hW⟩, hS.F ht⟩) hS.2.2 dX4_add_76
  refine lv_icmp_le (tgt := 39) hx hb dX4_add_8 rfl (fun c_22 => ?_) (fun c_22 => ?_)
  · have c_22 : (G_1.1 9 3).toInt ≤ (G.1 9 2).toInt := xI_le rfl rfl c_22
    exact hJ_14 () _ _ _ ⟨G_1, (Jn_k_madd_9_2_mk (Or.inl ⟨c_22, rfl⟩)), hW, hB_G_1, hF, (Fr.rf (rs := []) (fs := [])), hS, lv_sub hl [0, 1, 2] rfl⟩
  · have c_22 : (G.1 9 2).toInt < (G_1.1 9 3).toInt := xI_nle rfl rfl c_22
    refine lv_aload_n hx hb dX4_add_11 rfl (lv_at hl 0 rfl) ?_
    refine S_getR (n := 49) (C := RX4) (T := TX4) (N := 4) hx hb hg iX4 hown hK hW kd_9 rfl 1 (lt_b rfl) (hg (Cond.fieldLink RX4 15 "SlabWalk$Minima" "values" "[I") m428) (fun _ h9 => h9) rfl dX4_add_12 ?_
    refine lv_aload_n hx hb dX4_add_15 rfl (lv_at hl 0 rfl) ?_
    refine S_getI (v := (G_1.1 9 3)) (C := RX4) (T := TX4) (N := 4) hx hb hg iX4 hown hK hW kd_9 rfl 3 (lt_b rfl) (hg (Cond.fieldLink RX4 22 "SlabWalk$Minima" "tail" "I") m430) (fun _ h9 => h9) rfl rfl dX4_add_16 ?_
    refine ic_1 hx hb dX4_add_19 ?_
    refine lv_isub hx hb dX4_add_20 ?_
    refine lv_topi (fun y_23 ey_23 => ?_)
    have ty_23 : y_23.toInt = (G_1.1 9 3).toInt - 1 := xI_sub rfl rfl ey_23 (by omega) (by omega)
    refine S_iald hx hb hK hW kd_49 (vin (by omega) (by omega)) dX4_add_21 (fun y_24 ey_24 => ?_)
    refine lv_iload_n hx hb dX4_add_22 rfl (lv_at hl 2 rfl) ?_
    refine lv_icmp_lt (tgt := 39) hx hb dX4_add_23 rfl (fun c_25 => ?_) (fun c_25 => ?_)
    · have c_25 : y_24.toInt < p1.toInt := xI_lt rfl rfl c_25
      exact hJ_14 () _ _ _ ⟨G_1, (Jn_k_madd_9_2_mk (Or.inr ⟨c_22, ⟨y_23, ty_23, ⟨y_24, ey_24, ⟨c_25, rfl⟩⟩⟩⟩)), hW, hB_G_1, hF, (Fr.rf (rs := []) (fs := [])), hS, lv_sub hl [0, 1, 2] rfl⟩
    · have c_25 : p1.toInt ≤ y_24.toInt := xI_nlt rfl rfl c_25
      refine lv_aload_n hx hb dX4_add_26 rfl (lv_at hl 0 rfl) ?_
      refine lv_dup hx hb dX4_add_27 rfl ?_
      refine S_getI (v := (G_1.1 9 3)) (C := RX4) (T := TX4) (N := 4) hx hb hg iX4 hown hK hW kd_9 rfl 3 (lt_b rfl) (hg (Cond.fieldLink RX4 22 "SlabWalk$Minima" "tail" "I") m430) (fun _ h9 => h9) rfl rfl dX4_add_28 ?_
      refine ic_1 hx hb dX4_add_31 ?_
      refine lv_isub hx hb dX4_add_32 ?_
      refine lv_topi (fun y_26 ey_26 => ?_)
      have ty_26 : y_26.toInt = (G_1.1 9 3).toInt - 1 := xI_sub rfl rfl ey_26 ((by first | (clear b_6 hn_7 c_25; omega) | omega)) ((by first | (clear b_6 hn_7 c_25; omega) | omega))
      refine S_putI (ty := .int) (C := RX4) (T := TX4) (N := 4) hx hb hg iX4 tyX4 tyX4_ok nmX4 hown hK hW hS kd_9 rfl 3 (lt_b rfl) (hg (Cond.fieldLink RX4 22 "SlabWalk$Minima" "tail" "I") m430) (fun _ h9 => h9) rfl (by decide +kernel) rfl rfl rfl dX4_add_33 (fun G_27 H locs eG_27 hW hS => ?_)
      have hB_G_27 : Bd G_27 := hB_G_1.put (V := y_26.toInt) (lo := 0) (hi := 400) eG_27 rfl rfl rfl ((by first | (clear b_6 hn_7 c_25; omega) | omega)) ((by first | (clear b_6 hn_7 c_25; omega) | omega)) (hB_G_1.2.put eG_27 rfl)
      have hF := hF.put eG_27 (Or.inr (by decide))
      refine lv_goto (tgt := 0) hx hb dX4_add_36 rfl ?_
      have g_28 : (G_27.1 9 3).toInt = y_26.toInt := (congrArg Int32.toInt (show G_27.1 9 3 = y_26 from (gp_eq eG_27)))
      exact ih_3 ((G_27.1 9 3).toInt : Int).toNat (by omega) _ _ _ ⟨G_27, (Int.toNat_of_nonneg ((by first | (clear b_6 hn_7 c_25; omega) | omega))), (hX_5.st (St_k_madd_9_1_mk ⟨G_1, G_27, rfl, rfl, hB_G_1, ⟨c_22, ⟨y_23, ty_23, ⟨y_24, ey_24, ⟨c_25, ⟨y_26, ty_26, ⟨(Fr.put (rs := []) (fs := [(9, 3)]) Fr.rf eG_27 (Or.inr (by decide))), (gp_eq eG_27)⟩⟩⟩⟩⟩⟩⟩)), hW, hB_G_27, hF, (Fr.put (rs := []) (fs := [(9, 3)]) (Fr.call9 (rs := []) (fs := [(9, 3)]) Fr.rf hq_2 rfl rfl) eG_27 (Or.inr (by decide))), hS, lv_sub hl [0, 1, 2] rfl⟩

set_option maxHeartbeats 4000000 in
set_option maxRecDepth 100000 in
theorem k_mleast_9 (l : Launch) (D : va_G) (k : KT) (A : Nat → Prop) (a : Nat → Nat) (z : SK) (G : GS) (p0 : Int32)  : Met l yX4_leastFrom (WS yX4_leastFrom cX4_leastFrom 2 (some .int)) ({ frames := 0, cells := 0, slots := 0, locals := 0 }) (va_Pc [.ref (a 9), .int p0] (cW D k A a z G)) (va_Qi (fun (r : Int32) (G1 : GS) => P_mleast_9 p0 G r G1) (fun (G1 : GS) t => Wd D k A a G1 t.heap) A) 0 0 A := by
  refine Met.ofW (cc := cX4_leastFrom) (maxL := 2) (ret := (some .int)) (by decide) rfl ?_
  intro p e s m args below meth c s₁ B hml hv
  obtain ⟨rfl, hW, hB_G, hK, hZ⟩ := hv
  have hx := B.exec
  have hb := B.bytes
  have hr := B.returns
  have hts := atoms_spec (ws := WS yX4_leastFrom cX4_leastFrom 2 (some .int)) B.pre
  have hgd : ∀ w ∈ gd, w ∈ WS yX4_leastFrom cX4_leastFrom 2 (some .int) := fun w h => List.mem_cons_of_mem _ h
  have hg : ∀ w ∈ gd, w.before _ s = true := fun w h => hts w (hgd w h)
  have hown : s.vm.findClass RX4 = some m.cls := findClass_of_methodNamed B.named
  have hS : va_S A s.heap s.heap [] := va_S.rf
  have hF : Fr [] [(9, 2)] G G := Fr.rf
  have hl := lv_entry ([.ref (a 9), .int p0]) (n := 2) (Nat.le_of_ble_eq_true rfl)
  rw [lg_entry_eq]
  generalize (lg_sl ([.ref (a 9), .int p0]) ++ List.replicate (2 - (lg_sl ([.ref (a 9), .int p0])).length) Slot.unset).toArray = ls at hl ⊢
  have hl : lv_has ls 2 [(0, .ref (a 9)), (1, .int p0)] := hl
  have b_6 : 0 ≤ (G.1 9 2).toInt ∧ (G.1 9 2).toInt ≤ 400 := bd_9_2 hB_G
  refine loop_N (Inv := fun n H locs ls => ∃ (G_1 : GS), (n : Int) = 400 - (G_1.1 9 2).toInt ∧ Rc (St_k_mleast_9_1 p0 G) G G_1 ∧ Wd D k A a G_1 H ∧ Bd G_1 ∧ Fr [] [(9, 2)] G G_1 ∧ Fr [] [(9, 2)] G G_1 ∧ va_S A s.heap H locs ∧ lv_has ls 2 [(0, .ref (a 9)), (1, .int p0)]) (fun n_4 H locs ls ih_3 hI => ?_) (400 - (G.1 9 2).toInt : Int).toNat ⟨G, (Int.toNat_of_nonneg (by omega)), Rc.rf, hW, hB_G, hF, Fr.rf, hS, lv_sub hl [0, 1] rfl⟩
  obtain ⟨G_1, hn_7, hX_5, hW, hB_G_1, hF, hq_2, hS, hl⟩ := hI
  refine lv_aload_n hx hb dX4_leastFrom_0 rfl (lv_at hl 0 rfl) ?_
  have b_8 : 0 ≤ (G_1.1 9 2).toInt ∧ (G_1.1 9 2).toInt ≤ 400 := bd_9_2 hB_G_1
  refine S_getI (v := (G_1.1 9 2)) (C := RX4) (T := TX4) (N := 4) hx hb hg iX4 hown hK hW kd_9 rfl 2 (lt_b rfl) (hg (Cond.fieldLink RX4 18 "SlabWalk$Minima" "head" "I") m429) (fun _ h9 => h9) rfl rfl dX4_leastFrom_1 ?_
  refine lv_aload_n hx hb dX4_leastFrom_4 rfl (lv_at hl 0 rfl) ?_
  have b_9 : 0 ≤ (G.1 9 3).toInt ∧ (G.1 9 3).toInt ≤ 400 := bd_9_3 hB_G
  refine S_getI (v := (G.1 9 3)) (C := RX4) (T := TX4) (N := 4) hx hb hg iX4 hown hK hW kd_9 rfl 3 (lt_b rfl) (hg (Cond.fieldLink RX4 22 "SlabWalk$Minima" "tail" "I") m430) (fun _ h9 => h9) rfl (hq_2.i9 9 3 rfl rfl) dX4_leastFrom_5 ?_
  refine lv_icmp_ge (tgt := 37) hx hb dX4_leastFrom_8 rfl (fun c_10 => ?_) (fun c_10 => ?_)
  · have c_10 : (G.1 9 3).toInt ≤ (G_1.1 9 2).toInt := xI_le rfl rfl c_10
    refine lv_aload_n hx hb dX4_leastFrom_37 rfl (lv_at hl 0 rfl) ?_
    refine S_getI (v := (G_1.1 9 2)) (C := RX4) (T := TX4) (N := 4) hx hb hg iX4 hown hK hW kd_9 rfl 2 (lt_b rfl) (hg (Cond.fieldLink RX4 18 "SlabWalk$Minima" "head" "I") m429) (fun _ h9 => h9) rfl rfl dX4_leastFrom_38 ?_
    refine lv_aload_n hx hb dX4_leastFrom_41 rfl (lv_at hl 0 rfl) ?_
    refine S_getI (v := (G.1 9 3)) (C := RX4) (T := TX4) (N := 4) hx hb hg iX4 hown hK hW kd_9 rfl 3 (lt_b rfl) (hg (Cond.fieldLink RX4 22 "SlabWalk$Minima" "tail" "I") m430) (fun _ h9 => h9) rfl ((hq_2.i9 9 3 rfl rfl).trans (rfl)) dX4_leastFrom_42 ?_
    refine lv_icmp_ge (tgt := 60) hx hb dX4_leastFrom_45 rfl (fun c_11 => ?_) (fun c_11 => ?_)
    · have c_11 : (G.1 9 3).toInt ≤ (G_1.1 9 2).toInt := xI_le rfl rfl c_11
      refine lv_ldc (v := 1000000) hx hb hown (hg (Cond.constant RX4 27 1000000) m1112) dX4_leastFrom_60 ?_
      exact W.iret (v := 1000000) hx hb hr (fun t ht _ => ⟨⟨1000000, G_1, rfl, (P_mleast_9_mk ⟨hB_G_1, hF, ⟨G_1, hX_5, hB_G_1, hq_2, (Or.inl ⟨c_10, (Or.inl ⟨c_11, ⟨rfl, rfl⟩⟩)⟩)⟩⟩), wd_t ht hW⟩, hS.F ht⟩) hS.2.2 dX4_leastFrom_62
    · have c_11 : (G_1.1 9 2).toInt < (G.1 9 3).toInt := xI_nle rfl rfl c_11
      refine lv_aload_n hx hb dX4_leastFrom_48 rfl (lv_at hl 0 rfl) ?_
      refine S_getR (n := 49) (C := RX4) (T := TX4) (N := 4) hx hb hg iX4 hown hK hW kd_9 rfl 1 (lt_b rfl) (hg (Cond.fieldLink RX4 15 "SlabWalk$Minima" "values" "[I") m428) (fun _ h9 => h9) rfl dX4_leastFrom_49 ?_
      refine lv_aload_n hx hb dX4_leastFrom_52 rfl (lv_at hl 0 rfl) ?_
      refine S_getI (v := (G_1.1 9 2)) (C := RX4) (T := TX4) (N := 4) hx hb hg iX4 hown hK hW kd_9 rfl 2 (lt_b rfl) (hg (Cond.fieldLink RX4 18 "SlabWalk$Minima" "head" "I") m429) (fun _ h9 => h9) rfl rfl dX4_leastFrom_53 ?_
      refine S_iald hx hb hK hW kd_49 (vin (by omega) (by omega)) dX4_leastFrom_56 (fun y_12 ey_12 => ?_)
      refine lv_goto (tgt := 62) hx hb dX4_leastFrom_57 rfl ?_
      exact W.iret (v := y_12) hx hb hr (fun t ht _ => ⟨⟨y_12, G_1, rfl, (P_mleast_9_mk ⟨hB_G_1, hF, ⟨G_1, hX_5, hB_G_1, hq_2, (Or.inl ⟨c_10, (Or.inr ⟨c_11, ⟨y_12, ey_12, ⟨rfl, rfl⟩⟩⟩)⟩)⟩⟩), wd_t ht hW⟩, hS.F ht⟩) hS.2.2 dX4_leastFrom_62
  · have c_10 : (G_1.1 9 2).toInt < (G.1 9 3).toInt := xI_nle rfl rfl c_10
    refine lv_aload_n hx hb dX4_leastFrom_11 rfl (lv_at hl 0 rfl) ?_
    refine S_getR (n := 48) (C := RX4) (T := TX4) (N := 4) hx hb hg iX4 hown hK hW kd_9 rfl 0 (lt_b rfl) (hg (Cond.fieldLink RX4 9 "SlabWalk$Minima" "keys" "[I") m427) (fun _ h9 => h9) rfl dX4_leastFrom_12 ?_
    refine lv_aload_n hx hb dX4_leastFrom_15 rfl (lv_at hl 0 rfl) ?_
    refine S_getI (v := (G_1.1 9 2)) (C := RX4) (T := TX4) (N := 4) hx hb hg iX4 hown hK hW kd_9 rfl 2 (lt_b rfl) (hg (Cond.fieldLink RX4 18 "SlabWalk$Minima" "head" "I") m429) (fun _ h9 => h9) rfl rfl dX4_leastFrom_16 ?_
    refine S_iald hx hb hK hW kd_48 (vin (by omega) (by omega)) dX4_leastFrom_19 (fun y_13 ey_13 => ?_)
    refine lv_iload_n hx hb dX4_leastFrom_20 rfl (lv_at hl 1 rfl) ?_
    refine lv_icmp_ge (tgt := 37) hx hb dX4_leastFrom_21 rfl (fun c_14 => ?_) (fun c_14 => ?_)
    · have c_14 : p0.toInt ≤ y_13.toInt := xI_le rfl rfl c_14
      refine lv_aload_n hx hb dX4_leastFrom_37 rfl (lv_at hl 0 rfl) ?_
      refine S_getI (v := (G_1.1 9 2)) (C := RX4) (T := TX4) (N := 4) hx hb hg iX4 hown hK hW kd_9 rfl 2 (lt_b rfl) (hg (Cond.fieldLink RX4 18 "SlabWalk$Minima" "head" "I") m429) (fun _ h9 => h9) rfl rfl dX4_leastFrom_38 ?_
      refine lv_aload_n hx hb dX4_leastFrom_41 rfl (lv_at hl 0 rfl) ?_
      refine S_getI (v := (G.1 9 3)) (C := RX4) (T := TX4) (N := 4) hx hb hg iX4 hown hK hW kd_9 rfl 3 (lt_b rfl) (hg (Cond.fieldLink RX4 22 "SlabWalk$Minima" "tail" "I") m430) (fun _ h9 => h9) rfl ((hq_2.i9 9 3 rfl rfl).trans (rfl)) dX4_leastFrom_42 ?_
      refine lv_icmp_ge (tgt := 60) hx hb dX4_leastFrom_45 rfl (fun c_15 => ?_) (fun c_15 => ?_)
      · have c_15 : (G.1 9 3).toInt ≤ (G_1.1 9 2).toInt := xI_le rfl rfl c_15
        refine lv_ldc (v := 1000000) hx hb hown (hg (Cond.constant RX4 27 1000000) m1112) dX4_leastFrom_60 ?_
        exact W.iret (v := 1000000) hx hb hr (fun t ht _ => ⟨⟨1000000, G_1, rfl, (P_mleast_9_mk ⟨hB_G_1, hF, ⟨G_1, hX_5, hB_G_1, hq_2, (Or.inr ⟨c_10, ⟨y_13, ey_13, ⟨c_14, (Or.inl ⟨c_15, ⟨rfl, rfl⟩⟩)⟩⟩⟩)⟩⟩), wd_t ht hW⟩, hS.F ht⟩) hS.2.2 dX4_leastFrom_62
      · have c_15 : (G_1.1 9 2).toInt < (G.1 9 3).toInt := xI_nle rfl rfl c_15
        refine lv_aload_n hx hb dX4_leastFrom_48 rfl (lv_at hl 0 rfl) ?_
        refine S_getR (n := 49) (C := RX4) (T := TX4) (N := 4) hx hb hg iX4 hown hK hW kd_9 rfl 1 (lt_b rfl) (hg (Cond.fieldLink RX4 15 "SlabWalk$Minima" "values" "[I") m428) (fun _ h9 => h9) rfl dX4_leastFrom_49 ?_
        refine lv_aload_n hx hb dX4_leastFrom_52 rfl (lv_at hl 0 rfl) ?_
        refine S_getI (v := (G_1.1 9 2)) (C := RX4) (T := TX4) (N := 4) hx hb hg iX4 hown hK hW kd_9 rfl 2 (lt_b rfl) (hg (Cond.fieldLink RX4 18 "SlabWalk$Minima" "head" "I") m429) (fun _ h9 => h9) rfl rfl dX4_leastFrom_53 ?_
        refine S_iald hx hb hK hW kd_49 (vin ((by first | (clear b_6 hn_7 c_14; omega) | omega)) ((by first | (clear b_6 hn_7 c_14; omega) | omega))) dX4_leastFrom_56 (fun y_16 ey_16 => ?_)
        refine lv_goto (tgt := 62) hx hb dX4_leastFrom_57 rfl ?_
        exact W.iret (v := y_16) hx hb hr (fun t ht _ => ⟨⟨y_16, G_1, rfl, (P_mleast_9_mk ⟨hB_G_1, hF, ⟨G_1, hX_5, hB_G_1, hq_2, (Or.inr ⟨c_10, ⟨y_13, ey_13, ⟨c_14, (Or.inr ⟨c_15, ⟨y_16, ey_16, ⟨rfl, rfl⟩⟩⟩)⟩⟩⟩)⟩⟩), wd_t ht hW⟩, hS.F ht⟩) hS.2.2 dX4_leastFrom_62
    · have c_14 : y_13.toInt < p0.toInt := xI_nle rfl rfl c_14
      refine lv_aload_n hx hb dX4_leastFrom_24 rfl (lv_at hl 0 rfl) ?_
      refine lv_dup hx hb dX4_leastFrom_25 rfl ?_
      refine S_getI (v := (G_1.1 9 2)) (C := RX4) (T := TX4) (N := 4) hx hb hg iX4 hown hK hW kd_9 rfl 2 (lt_b rfl) (hg (Cond.fieldLink RX4 18 "SlabWalk$Minima" "head" "I") m429) (fun _ h9 => h9) rfl rfl dX4_leastFrom_26 ?_
      refine ic_1 hx hb dX4_leastFrom_29 ?_
      refine lv_iadd hx hb dX4_leastFrom_30 ?_
      refine lv_topi (fun y_17 ey_17 => ?_)
      have ty_17 : y_17.toInt = (G_1.1 9 2).toInt + 1 := xI_add rfl rfl ey_17 ((by first | (clear b_6 hn_7 c_14; omega) | omega)) ((by first | (clear b_6 hn_7 c_14; omega) | omega))
      refine S_putI (ty := .int) (C := RX4) (T := TX4) (N := 4) hx hb hg iX4 tyX4 tyX4_ok nmX4 hown hK hW hS kd_9 rfl 2 (lt_b rfl) (hg (Cond.fieldLink RX4 18 "SlabWalk$Minima" "head" "I") m429) (fun _ h9 => h9) rfl (by decide +kernel) rfl rfl rfl dX4_leastFrom_31 (fun G_18 H locs eG_18 hW hS => ?_)
      have hB_G_18 : Bd G_18 := hB_G_1.put (V := y_17.toInt) (lo := 0) (hi := 400) eG_18 rfl rfl rfl ((by first | (clear b_6 hn_7 c_14; omega) | omega)) ((by first | (clear b_6 hn_7 c_14; omega) | omega)) (hB_G_1.2.put eG_18 rfl)
      have hF := hF.put eG_18 (Or.inr (by decide))
      refine lv_goto (tgt := 0) hx hb dX4_leastFrom_34 rfl ?_
      have g_19 : (G_18.1 9 2).toInt = y_17.toInt := (congrArg Int32.toInt (show G_18.1 9 2 = y_17 from (gp_eq eG_18)))
      exact ih_3 (400 - (G_18.1 9 2).toInt : Int).toNat (by omega) _ _ _ ⟨G_18, (Int.toNat_of_nonneg ((by first | (clear b_6 hn_7 c_14; omega) | omega))), (hX_5.st (St_k_mleast_9_1_mk ⟨G_1, G_18, rfl, rfl, hB_G_1, ⟨c_10, ⟨y_13, ey_13, ⟨c_14, ⟨y_17, ty_17, ⟨(Fr.put (rs := []) (fs := [(9, 2)]) Fr.rf eG_18 (Or.inr (by decide))), (gp_eq eG_18)⟩⟩⟩⟩⟩⟩)), hW, hB_G_18, hF, (Fr.put (rs := []) (fs := [(9, 2)]) (Fr.call9 (rs := []) (fs := [(9, 2)]) Fr.rf hq_2 rfl rfl) eG_18 (Or.inr (by decide))), hS, lv_sub hl [0, 1] rfl⟩
