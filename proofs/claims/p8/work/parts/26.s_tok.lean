theorem m258 : Cond.fieldLink RX9 15 "SlabWalk$Tokens" "text" "[B" ∈ gd := gdc_1_8 14 rfl gw_fieldLink
theorem m259 : Cond.fieldLink RX9 25 "SlabWalk$Tokens" "size" "I" ∈ gd := gdc_1_8 15 rfl gw_fieldLink
theorem m262 : Cond.fieldLink RX9 38 "SlabWalk$Tokens" "kind" "I" ∈ gd := gdc_1_9 2 rfl gw_fieldLink
theorem m264 : Cond.fieldLink RX9 41 "SlabWalk$Tokens" "place" "I" ∈ gd := gdc_1_9 4 rfl gw_fieldLink
theorem m270 : Cond.fieldLink RX9 31 "SlabWalk$Tokens" "fault" "I" ∈ gd := gdc_1_9 10 rfl gw_fieldLink
theorem m272 : Cond.fieldLink RX9 9 "SlabWalk$Tokens" "faultPlace" "I" ∈ gd := gdc_1_9 12 rfl gw_fieldLink
def rbX9_isDigit_0 : List (Nat × List Nat) := [(0, [27]), (1, [42]), (2, [180, 0, 25]), (5, [162, 0, 29]), (8, [42]), (9, [180, 0, 15]), (12, [27]), (13, [51]), (14, [16, 48]), (16, [161, 0, 18]), (19, [42]), (20, [180, 0, 15]), (23, [27]), (24, [51]), (25, [16, 57]), (27, [163, 0, 7]), (30, [4]), (31, [167, 0, 4]), (34, [3]), (35, [172])]
theorem rcX9_isDigit_0 : dgo (lb cX9_isDigit) 0 rbX9_isDigit_0 = true := by decide +kernel
theorem dX9_isDigit_0 : decode cX9_isDigit 0 = .ok (.iload_n 1, 1) := dk_27 (dw rcX9_isDigit_0 0 rfl)
theorem dX9_isDigit_1 : decode cX9_isDigit 1 = .ok (.aload_n 0, 1) := dk_42 (dw rcX9_isDigit_0 1 rfl)
theorem dX9_isDigit_2 : decode cX9_isDigit 2 = .ok (.getfield 25, 3) := dk_180 (dw rcX9_isDigit_0 2 rfl) rfl
theorem dX9_isDigit_5 : decode cX9_isDigit 5 = .ok (.if_icmp .ge 29, 3) := dk_162 (dw rcX9_isDigit_0 3 rfl) rfl
theorem dX9_isDigit_8 : decode cX9_isDigit 8 = .ok (.aload_n 0, 1) := dk_42 (dw rcX9_isDigit_0 4 rfl)
theorem dX9_isDigit_9 : decode cX9_isDigit 9 = .ok (.getfield 15, 3) := dk_180 (dw rcX9_isDigit_0 5 rfl) rfl
theorem dX9_isDigit_12 : decode cX9_isDigit 12 = .ok (.iload_n 1, 1) := dk_27 (dw rcX9_isDigit_0 6 rfl)
theorem dX9_isDigit_13 : decode cX9_isDigit 13 = .ok (.baload, 1) := dk_51 (dw rcX9_isDigit_0 7 rfl)
theorem dX9_isDigit_14 : decode cX9_isDigit 14 = .ok (.bipush 48, 2) := dk_16 (dw rcX9_isDigit_0 8 rfl) rfl
theorem dX9_isDigit_16 : decode cX9_isDigit 16 = .ok (.if_icmp .lt 18, 3) := dk_161 (dw rcX9_isDigit_0 9 rfl) rfl
theorem dX9_isDigit_19 : decode cX9_isDigit 19 = .ok (.aload_n 0, 1) := dk_42 (dw rcX9_isDigit_0 10 rfl)
theorem dX9_isDigit_20 : decode cX9_isDigit 20 = .ok (.getfield 15, 3) := dk_180 (dw rcX9_isDigit_0 11 rfl) rfl
theorem dX9_isDigit_23 : decode cX9_isDigit 23 = .ok (.iload_n 1, 1) := dk_27 (dw rcX9_isDigit_0 12 rfl)
theorem dX9_isDigit_24 : decode cX9_isDigit 24 = .ok (.baload, 1) := dk_51 (dw rcX9_isDigit_0 13 rfl)
theorem dX9_isDigit_25 : decode cX9_isDigit 25 = .ok (.bipush 57, 2) := dk_16 (dw rcX9_isDigit_0 14 rfl) rfl
theorem dX9_isDigit_27 : decode cX9_isDigit 27 = .ok (.if_icmp .gt 7, 3) := dk_163 (dw rcX9_isDigit_0 15 rfl) rfl
theorem dX9_isDigit_30 : decode cX9_isDigit 30 = .ok (.iconst 1, 1) := dk_4 (dw rcX9_isDigit_0 16 rfl)
theorem dX9_isDigit_31 : decode cX9_isDigit 31 = .ok (.goto 4, 3) := dk_167 (dw rcX9_isDigit_0 17 rfl) rfl
theorem dX9_isDigit_34 : decode cX9_isDigit 34 = .ok (.iconst 0, 1) := dk_3 (dw rcX9_isDigit_0 18 rfl)
theorem dX9_isDigit_35 : decode cX9_isDigit 35 = .ok (.ireturn, 1) := dk_172 (dw rcX9_isDigit_0 19 rfl)
def rbX9_isLetter_0 : List (Nat × List Nat) := [(0, [27]), (1, [42]), (2, [180, 0, 25]), (5, [162, 0, 29]), (8, [42]), (9, [180, 0, 15]), (12, [27]), (13, [51]), (14, [16, 97]), (16, [161, 0, 18]), (19, [42]), (20, [180, 0, 15]), (23, [27]), (24, [51]), (25, [16, 122]), (27, [163, 0, 7]), (30, [4]), (31, [167, 0, 4]), (34, [3]), (35, [172])]
theorem rcX9_isLetter_0 : dgo (lb cX9_isLetter) 0 rbX9_isLetter_0 = true := by decide +kernel
theorem dX9_isLetter_0 : decode cX9_isLetter 0 = .ok (.iload_n 1, 1) := dk_27 (dw rcX9_isLetter_0 0 rfl)
theorem dX9_isLetter_1 : decode cX9_isLetter 1 = .ok (.aload_n 0, 1) := dk_42 (dw rcX9_isLetter_0 1 rfl)
theorem dX9_isLetter_2 : decode cX9_isLetter 2 = .ok (.getfield 25, 3) := dk_180 (dw rcX9_isLetter_0 2 rfl) rfl
theorem dX9_isLetter_5 : decode cX9_isLetter 5 = .ok (.if_icmp .ge 29, 3) := dk_162 (dw rcX9_isLetter_0 3 rfl) rfl
theorem dX9_isLetter_8 : decode cX9_isLetter 8 = .ok (.aload_n 0, 1) := dk_42 (dw rcX9_isLetter_0 4 rfl)
theorem dX9_isLetter_9 : decode cX9_isLetter 9 = .ok (.getfield 15, 3) := dk_180 (dw rcX9_isLetter_0 5 rfl) rfl
theorem dX9_isLetter_12 : decode cX9_isLetter 12 = .ok (.iload_n 1, 1) := dk_27 (dw rcX9_isLetter_0 6 rfl)
theorem dX9_isLetter_13 : decode cX9_isLetter 13 = .ok (.baload, 1) := dk_51 (dw rcX9_isLetter_0 7 rfl)
theorem dX9_isLetter_14 : decode cX9_isLetter 14 = .ok (.bipush 97, 2) := dk_16 (dw rcX9_isLetter_0 8 rfl) rfl
theorem dX9_isLetter_16 : decode cX9_isLetter 16 = .ok (.if_icmp .lt 18, 3) := dk_161 (dw rcX9_isLetter_0 9 rfl) rfl
theorem dX9_isLetter_19 : decode cX9_isLetter 19 = .ok (.aload_n 0, 1) := dk_42 (dw rcX9_isLetter_0 10 rfl)
theorem dX9_isLetter_20 : decode cX9_isLetter 20 = .ok (.getfield 15, 3) := dk_180 (dw rcX9_isLetter_0 11 rfl) rfl
theorem dX9_isLetter_23 : decode cX9_isLetter 23 = .ok (.iload_n 1, 1) := dk_27 (dw rcX9_isLetter_0 12 rfl)
theorem dX9_isLetter_24 : decode cX9_isLetter 24 = .ok (.baload, 1) := dk_51 (dw rcX9_isLetter_0 13 rfl)
theorem dX9_isLetter_25 : decode cX9_isLetter 25 = .ok (.bipush 122, 2) := dk_16 (dw rcX9_isLetter_0 14 rfl) rfl
theorem dX9_isLetter_27 : decode cX9_isLetter 27 = .ok (.if_icmp .gt 7, 3) := dk_163 (dw rcX9_isLetter_0 15 rfl) rfl
theorem dX9_isLetter_30 : decode cX9_isLetter 30 = .ok (.iconst 1, 1) := dk_4 (dw rcX9_isLetter_0 16 rfl)
theorem dX9_isLetter_31 : decode cX9_isLetter 31 = .ok (.goto 4, 3) := dk_167 (dw rcX9_isLetter_0 17 rfl) rfl
theorem dX9_isLetter_34 : decode cX9_isLetter 34 = .ok (.iconst 0, 1) := dk_3 (dw rcX9_isLetter_0 18 rfl)
theorem dX9_isLetter_35 : decode cX9_isLetter 35 = .ok (.ireturn, 1) := dk_172 (dw rcX9_isLetter_0 19 rfl)
def rbX9_refuse_0 : List (Nat × List Nat) := [(0, [42]), (1, [180, 0, 31]), (4, [154, 0, 30]), (7, [42]), (8, [42]), (9, [180, 0, 38]), (12, [17, 0, 202]), (15, [160, 0, 7]), (18, [4]), (19, [167, 0, 4]), (22, [27]), (23, [181, 0, 31]), (26, [42]), (27, [42]), (28, [180, 0, 41]), (31, [181, 0, 9]), (34, [3]), (35, [172])]
theorem rcX9_refuse_0 : dgo (lb cX9_refuse) 0 rbX9_refuse_0 = true := by decide +kernel
theorem dX9_refuse_0 : decode cX9_refuse 0 = .ok (.aload_n 0, 1) := dk_42 (dw rcX9_refuse_0 0 rfl)
theorem dX9_refuse_1 : decode cX9_refuse 1 = .ok (.getfield 31, 3) := dk_180 (dw rcX9_refuse_0 1 rfl) rfl
theorem dX9_refuse_4 : decode cX9_refuse 4 = .ok (.ifCond .ne 30, 3) := dk_154 (dw rcX9_refuse_0 2 rfl) rfl
theorem dX9_refuse_7 : decode cX9_refuse 7 = .ok (.aload_n 0, 1) := dk_42 (dw rcX9_refuse_0 3 rfl)
theorem dX9_refuse_8 : decode cX9_refuse 8 = .ok (.aload_n 0, 1) := dk_42 (dw rcX9_refuse_0 4 rfl)
theorem dX9_refuse_9 : decode cX9_refuse 9 = .ok (.getfield 38, 3) := dk_180 (dw rcX9_refuse_0 5 rfl) rfl
theorem dX9_refuse_12 : decode cX9_refuse 12 = .ok (.sipush 202, 3) := dk_17 (dw rcX9_refuse_0 6 rfl) rfl
theorem dX9_refuse_15 : decode cX9_refuse 15 = .ok (.if_icmp .ne 7, 3) := dk_160 (dw rcX9_refuse_0 7 rfl) rfl
theorem dX9_refuse_18 : decode cX9_refuse 18 = .ok (.iconst 1, 1) := dk_4 (dw rcX9_refuse_0 8 rfl)
theorem dX9_refuse_19 : decode cX9_refuse 19 = .ok (.goto 4, 3) := dk_167 (dw rcX9_refuse_0 9 rfl) rfl
theorem dX9_refuse_22 : decode cX9_refuse 22 = .ok (.iload_n 1, 1) := dk_27 (dw rcX9_refuse_0 10 rfl)
theorem dX9_refuse_23 : decode cX9_refuse 23 = .ok (.putfield 31, 3) := dk_181 (dw rcX9_refuse_0 11 rfl) rfl
theorem dX9_refuse_26 : decode cX9_refuse 26 = .ok (.aload_n 0, 1) := dk_42 (dw rcX9_refuse_0 12 rfl)
theorem dX9_refuse_27 : decode cX9_refuse 27 = .ok (.aload_n 0, 1) := dk_42 (dw rcX9_refuse_0 13 rfl)
theorem dX9_refuse_28 : decode cX9_refuse 28 = .ok (.getfield 41, 3) := dk_180 (dw rcX9_refuse_0 14 rfl) rfl
theorem dX9_refuse_31 : decode cX9_refuse 31 = .ok (.putfield 9, 3) := dk_181 (dw rcX9_refuse_0 15 rfl) rfl
theorem dX9_refuse_34 : decode cX9_refuse 34 = .ok (.iconst 0, 1) := dk_3 (dw rcX9_refuse_0 16 rfl)
theorem dX9_refuse_35 : decode cX9_refuse 35 = .ok (.ireturn, 1) := dk_172 (dw rcX9_refuse_0 17 rfl)
set_option maxHeartbeats 4000000 in
set_option maxRecDepth 100000 in
theorem k_tLetter (l : Launch) (D : va_G) (k : KT) (A : Nat → Prop) (a : Nat → Nat) (z : SK) (G : GS) (p0 : Int32) (hq : 0 ≤ p0.toInt) : Met l yX9_isLetter (WS yX9_isLetter cX9_isLetter 2 (some .boolean)) ({ frames := 0, cells := 0, slots := 0, locals := 0 }) (va_Pc [.ref (a 3), .int p0] (cW D k A a z G)) (va_Qi (fun (r : Int32) (G1 : GS) => P_tLetter p0 G r G1) (fun (G1 : GS) t => Wd D k A a G1 t.heap) A) 0 0 A := by
  refine Met.ofW (cc := cX9_isLetter) (maxL := 2) (ret := (some .boolean)) (by decide) rfl ?_
  intro p e s m args below meth c s₁ B hml hv
  obtain ⟨rfl, hW, hB_G, hK, hZ⟩ := hv
  have hx := B.exec
  have hb := B.bytes
  have hr := B.returns
  have hts := atoms_spec (ws := WS yX9_isLetter cX9_isLetter 2 (some .boolean)) B.pre
  have hgd : ∀ w ∈ gd, w ∈ WS yX9_isLetter cX9_isLetter 2 (some .boolean) := fun w h => List.mem_cons_of_mem _ h
  have hg : ∀ w ∈ gd, w.before _ s = true := fun w h => hts w (hgd w h)
  have hown : s.vm.findClass RX9 = some m.cls := findClass_of_methodNamed B.named
  have hS : va_S A s.heap s.heap [] := va_S.rf
  have hF : Fr [] [] G G := Fr.rf
  have hl := lv_entry ([.ref (a 3), .int p0]) (n := 2) (Nat.le_of_ble_eq_true rfl)
  rw [lg_entry_eq]
  generalize (lg_sl ([.ref (a 3), .int p0]) ++ List.replicate (2 - (lg_sl ([.ref (a 3), .int p0])).length) Slot.unset).toArray = ls at hl ⊢
  have hl : lv_has ls 2 [(0, .ref (a 3)), (1, .int p0)] := hl
  refine lv_iload_n hx hb dX9_isLetter_0 rfl (lv_at hl 1 rfl) ?_
  refine lv_aload_n hx hb dX9_isLetter_1 rfl (lv_at hl 0 rfl) ?_
  have b_1 : 0 ≤ (G.1 3 1).toInt ∧ (G.1 3 1).toInt ≤ 1600 := bd_3_1 hB_G
  refine S_getI (v := (G.1 3 1)) (C := RX9) (T := TX9) (N := 9) hx hb hg iX9 hown hK hW kd_3 rfl 1 (lt_b rfl) (hg (Cond.fieldLink RX9 25 "SlabWalk$Tokens" "size" "I") m259) (fun _ h9 => h9) rfl rfl dX9_isLetter_2 ?_
  refine lv_icmp_ge (tgt := 34) hx hb dX9_isLetter_5 rfl (fun c_2 => ?_) (fun c_2 => ?_)
  · have c_2 : (G.1 3 1).toInt ≤ p0.toInt := xI_le rfl rfl c_2
    refine ic_0 hx hb dX9_isLetter_34 ?_
    exact W.zret (v := 0) hx hb hr (by decide) (fun t ht _ => ⟨⟨0, G, rfl, (P_tLetter_mk ⟨hB_G, hF, ⟨by decide, by decide⟩, (Or.inl ⟨c_2, ⟨rfl, rfl⟩⟩)⟩), wd_t ht hW⟩, hS.F ht⟩) hS.2.2 dX9_isLetter_35
  · have c_2 : p0.toInt < (G.1 3 1).toInt := xI_nle rfl rfl c_2
    refine lv_aload_n hx hb dX9_isLetter_8 rfl (lv_at hl 0 rfl) ?_
    refine S_getR (n := 32) (C := RX9) (T := TX9) (N := 9) hx hb hg iX9 hown hK hW kd_3 rfl 0 (lt_b rfl) (hg (Cond.fieldLink RX9 15 "SlabWalk$Tokens" "text" "[B") m258) (fun _ h9 => h9) rfl dX9_isLetter_9 ?_
    refine lv_iload_n hx hb dX9_isLetter_12 rfl (lv_at hl 1 rfl) ?_
    refine S_bald hx hb hK hW kd_32 (vin (by omega) (by omega)) dX9_isLetter_13 (fun y_3 ey_3 => ?_)
    have ty_3 : (-128) ≤ y_3.toInt ∧ y_3.toInt ≤ 127 := bv_32 hB_G ey_3
    refine lv_bipush (v := 97) hx hb dX9_isLetter_14 (by decide) ?_
    refine lv_icmp_lt (tgt := 34) hx hb dX9_isLetter_16 rfl (fun c_4 => ?_) (fun c_4 => ?_)
    · have c_4 : y_3.toInt < 97 := xI_lt rfl rfl c_4
      refine ic_0 hx hb dX9_isLetter_34 ?_
      exact W.zret (v := 0) hx hb hr (by decide) (fun t ht _ => ⟨⟨0, G, rfl, (P_tLetter_mk ⟨hB_G, hF, ⟨by decide, by decide⟩, (Or.inr ⟨c_2, ⟨y_3, ey_3, (Or.inl ⟨c_4, ⟨rfl, rfl⟩⟩)⟩⟩)⟩), wd_t ht hW⟩, hS.F ht⟩) hS.2.2 dX9_isLetter_35
    · have c_4 : 97 ≤ y_3.toInt := xI_nlt rfl rfl c_4
      refine lv_aload_n hx hb dX9_isLetter_19 rfl (lv_at hl 0 rfl) ?_
      refine S_getR (n := 32) (C := RX9) (T := TX9) (N := 9) hx hb hg iX9 hown hK hW kd_3 rfl 0 (lt_b rfl) (hg (Cond.fieldLink RX9 15 "SlabWalk$Tokens" "text" "[B") m258) (fun _ h9 => h9) rfl dX9_isLetter_20 ?_
      refine lv_iload_n hx hb dX9_isLetter_23 rfl (lv_at hl 1 rfl) ?_
      refine S_bald hx hb hK hW kd_32 (vin (by omega) (by omega)) dX9_isLetter_24 (fun y_5 ey_5 => ?_)
      have ty_5 : (-128) ≤ y_5.toInt ∧ y_5.toInt ≤ 127 := bv_32 hB_G ey_5
      refine lv_bipush (v := 122) hx hb dX9_isLetter_25 (by decide) ?_
      refine lv_icmp_gt (tgt := 34) hx hb dX9_isLetter_27 rfl (fun c_6 => ?_) (fun c_6 => ?_)
      · have c_6 : 122 < y_5.toInt := xI_lt rfl rfl c_6
        refine ic_0 hx hb dX9_isLetter_34 ?_
        exact W.zret (v := 0) hx hb hr (by decide) (fun t ht _ => ⟨⟨0, G, rfl, (P_tLetter_mk ⟨hB_G, hF, ⟨by decide, by decide⟩, (Or.inr ⟨c_2, ⟨y_3, ey_3, (Or.inr ⟨c_4, ⟨y_5, ey_5, (Or.inl ⟨c_6, ⟨rfl, rfl⟩⟩)⟩⟩)⟩⟩)⟩), wd_t ht hW⟩, hS.F ht⟩) hS.2.2 dX9_isLetter_35
      · have c_6 : y_5.toInt ≤ 122 := xI_nlt rfl rfl c_6
        refine ic_1 hx hb dX9_isLetter_30 ?_
        refine lv_goto (tgt := 35) hx hb dX9_isLetter_31 rfl ?_
        exact W.zret (v := 1) hx hb hr (by decide) (fun t ht _ => ⟨⟨1, G, rfl, (P_tLetter_mk ⟨hB_G, hF, ⟨by decide, by decide⟩, (Or.inr ⟨c_2, ⟨y_3, ey_3, (Or.inr ⟨c_4, ⟨y_5, ey_5, (Or.inr ⟨c_6, ⟨rfl, rfl⟩⟩)⟩⟩)⟩⟩)⟩), wd_t ht hW⟩, hS.F ht⟩) hS.2.2 dX9_isLetter_35

set_option maxHeartbeats 4000000 in
set_option maxRecDepth 100000 in
theorem k_tDigit (l : Launch) (D : va_G) (k : KT) (A : Nat → Prop) (a : Nat → Nat) (z : SK) (G : GS) (p0 : Int32) (hq : 0 ≤ p0.toInt) : Met l yX9_isDigit (WS yX9_isDigit cX9_isDigit 2 (some .boolean)) ({ frames := 0, cells := 0, slots := 0, locals := 0 }) (va_Pc [.ref (a 3), .int p0] (cW D k A a z G)) (va_Qi (fun (r : Int32) (G1 : GS) => P_tDigit p0 G r G1) (fun (G1 : GS) t => Wd D k A a G1 t.heap) A) 0 0 A := by
  refine Met.ofW (cc := cX9_isDigit) (maxL := 2) (ret := (some .boolean)) (by decide) rfl ?_
  intro p e s m args below meth c s₁ B hml hv
  obtain ⟨rfl, hW, hB_G, hK, hZ⟩ := hv
  have hx := B.exec
  have hb := B.bytes
  have hr := B.returns
  have hts := atoms_spec (ws := WS yX9_isDigit cX9_isDigit 2 (some .boolean)) B.pre
  have hgd : ∀ w ∈ gd, w ∈ WS yX9_isDigit cX9_isDigit 2 (some .boolean) := fun w h => List.mem_cons_of_mem _ h
  have hg : ∀ w ∈ gd, w.before _ s = true := fun w h => hts w (hgd w h)
  have hown : s.vm.findClass RX9 = some m.cls := findClass_of_methodNamed B.named
  have hS : va_S A s.heap s.heap [] := va_S.rf
  have hF : Fr [] [] G G := Fr.rf
  have hl := lv_entry ([.ref (a 3), .int p0]) (n := 2) (Nat.le_of_ble_eq_true rfl)
  rw [lg_entry_eq]
  generalize (lg_sl ([.ref (a 3), .int p0]) ++ List.replicate (2 - (lg_sl ([.ref (a 3), .int p0])).length) Slot.unset).toArray = ls at hl ⊢
  have hl : lv_has ls 2 [(0, .ref (a 3)), (1, .int p0)] := hl
  refine lv_iload_n hx hb dX9_isDigit_0 rfl (lv_at hl 1 rfl) ?_
  refine lv_aload_n hx hb dX9_isDigit_1 rfl (lv_at hl 0 rfl) ?_
  have b_1 : 0 ≤ (G.1 3 1).toInt ∧ (G.1 3 1).toInt ≤ 1600 := bd_3_1 hB_G
  refine S_getI (v := (G.1 3 1)) (C := RX9) (T := TX9) (N := 9) hx hb hg iX9 hown hK hW kd_3 rfl 1 (lt_b rfl) (hg (Cond.fieldLink RX9 25 "SlabWalk$Tokens" "size" "I") m259) (fun _ h9 => h9) rfl rfl dX9_isDigit_2 ?_
  refine lv_icmp_ge (tgt := 34) hx hb dX9_isDigit_5 rfl (fun c_2 => ?_) (fun c_2 => ?_)
  · have c_2 : (G.1 3 1).toInt ≤ p0.toInt := xI_le rfl rfl c_2
    refine ic_0 hx hb dX9_isDigit_34 ?_
    exact W.zret (v := 0) hx hb hr (by decide) (fun t ht _ => ⟨⟨0, G, rfl, (P_tDigit_mk ⟨hB_G, hF, ⟨by decide, by decide⟩, (Or.inl ⟨c_2, ⟨rfl, rfl⟩⟩)⟩), wd_t ht hW⟩, hS.F ht⟩) hS.2.2 dX9_isDigit_35
  · have c_2 : p0.toInt < (G.1 3 1).toInt := xI_nle rfl rfl c_2
    refine lv_aload_n hx hb dX9_isDigit_8 rfl (lv_at hl 0 rfl) ?_
    refine S_getR (n := 32) (C := RX9) (T := TX9) (N := 9) hx hb hg iX9 hown hK hW kd_3 rfl 0 (lt_b rfl) (hg (Cond.fieldLink RX9 15 "SlabWalk$Tokens" "text" "[B") m258) (fun _ h9 => h9) rfl dX9_isDigit_9 ?_
    refine lv_iload_n hx hb dX9_isDigit_12 rfl (lv_at hl 1 rfl) ?_
    refine S_bald hx hb hK hW kd_32 (vin (by omega) (by omega)) dX9_isDigit_13 (fun y_3 ey_3 => ?_)
    have ty_3 : (-128) ≤ y_3.toInt ∧ y_3.toInt ≤ 127 := bv_32 hB_G ey_3
    refine lv_bipush (v := 48) hx hb dX9_isDigit_14 (by decide) ?_
    refine lv_icmp_lt (tgt := 34) hx hb dX9_isDigit_16 rfl (fun c_4 => ?_) (fun c_4 => ?_)
    · have c_4 : y_3.toInt < 48 := xI_lt rfl rfl c_4
      refine ic_0 hx hb dX9_isDigit_34 ?_
      exact W.zret (v := 0) hx hb hr (by decide) (fun t ht _ => ⟨⟨0, G, rfl, (P_tDigit_mk ⟨hB_G, hF, ⟨by decide, by decide⟩, (Or.inr ⟨c_2, ⟨y_3, ey_3, (Or.inl ⟨c_4, ⟨rfl, rfl⟩⟩)⟩⟩)⟩), wd_t ht hW⟩, hS.F ht⟩) hS.2.2 dX9_isDigit_35
    · have c_4 : 48 ≤ y_3.toInt := xI_nlt rfl rfl c_4
      refine lv_aload_n hx hb dX9_isDigit_19 rfl (lv_at hl 0 rfl) ?_
      refine S_getR (n := 32) (C := RX9) (T := TX9) (N := 9) hx hb hg iX9 hown hK hW kd_3 rfl 0 (lt_b rfl) (hg (Cond.fieldLink RX9 15 "SlabWalk$Tokens" "text" "[B") m258) (fun _ h9 => h9) rfl dX9_isDigit_20 ?_
      refine lv_iload_n hx hb dX9_isDigit_23 rfl (lv_at hl 1 rfl) ?_
      refine S_bald hx hb hK hW kd_32 (vin (by omega) (by omega)) dX9_isDigit_24 (fun y_5 ey_5 => ?_)
      have ty_5 : (-128) ≤ y_5.toInt ∧ y_5.toInt ≤ 127 := bv_32 hB_G ey_5
      refine lv_bipush (v := 57) hx hb dX9_isDigit_25 (by decide) ?_
      refine lv_icmp_gt (tgt := 34) hx hb dX9_isDigit_27 rfl (fun c_6 => ?_) (fun c_6 => ?_)
      · have c_6 : 57 < y_5.toInt := xI_lt rfl rfl c_6
        refine ic_0 hx hb dX9_isDigit_34 ?_
        exact W.zret (v := 0) hx hb hr (by decide) (fun t ht _ => ⟨⟨0, G, rfl, (P_tDigit_mk ⟨hB_G, hF, ⟨by decide, by decide⟩, (Or.inr ⟨c_2, ⟨y_3, ey_3, (Or.inr ⟨c_4, ⟨y_5, ey_5, (Or.inl ⟨c_6, ⟨rfl, rfl⟩⟩)⟩⟩)⟩⟩)⟩), wd_t ht hW⟩, hS.F ht⟩) hS.2.2 dX9_isDigit_35
      · have c_6 : y_5.toInt ≤ 57 := xI_nlt rfl rfl c_6
        refine ic_1 hx hb dX9_isDigit_30 ?_
        refine lv_goto (tgt := 35) hx hb dX9_isDigit_31 rfl ?_
        exact W.zret (v := 1) hx hb hr (by decide) (fun t ht _ => ⟨⟨1, G, rfl, (P_tDigit_mk ⟨hB_G, hF, ⟨by decide, by decide⟩, (Or.inr ⟨c_2, ⟨y_3, ey_3, (Or.inr ⟨c_4, ⟨y_5, ey_5, (Or.inr ⟨c_6, ⟨rfl, rfl⟩⟩)⟩⟩)⟩⟩)⟩), wd_t ht hW⟩, hS.F ht⟩) hS.2.2 dX9_isDigit_35

set_option maxHeartbeats 4000000 in
set_option maxRecDepth 100000 in
theorem k_tRefuse (l : Launch) (D : va_G) (k : KT) (A : Nat → Prop) (a : Nat → Nat) (z : SK) (G : GS) (p0 : Int32) (ha_p0 : 0 ≤ p0.toInt ∧ p0.toInt ≤ 4) : Met l yX9_refuse (WS yX9_refuse cX9_refuse 2 (some .boolean)) ({ frames := 0, cells := 0, slots := 0, locals := 0 }) (va_Pc [.ref (a 3), .int p0] (cW D k A a z G)) (va_Qi (fun (r : Int32) (G1 : GS) => P_tRefuse p0 G r G1) (fun (G1 : GS) t => Wd D k A a G1 t.heap) A) 0 0 A := by
  refine Met.ofW (cc := cX9_refuse) (maxL := 2) (ret := (some .boolean)) (by decide) rfl ?_
  intro p e s m args below meth c s₁ B hml hv
  obtain ⟨rfl, hW, hB_G, hK, hZ⟩ := hv
  have hx := B.exec
  have hb := B.bytes
  have hr := B.returns
  have hts := atoms_spec (ws := WS yX9_refuse cX9_refuse 2 (some .boolean)) B.pre
  have hgd : ∀ w ∈ gd, w ∈ WS yX9_refuse cX9_refuse 2 (some .boolean) := fun w h => List.mem_cons_of_mem _ h
  have hg : ∀ w ∈ gd, w.before _ s = true := fun w h => hts w (hgd w h)
  have hown : s.vm.findClass RX9 = some m.cls := findClass_of_methodNamed B.named
  have hS : va_S A s.heap s.heap [] := va_S.rf
  have hF : Fr [] [(3, 7), (3, 8)] G G := Fr.rf
  have hl := lv_entry ([.ref (a 3), .int p0]) (n := 2) (Nat.le_of_ble_eq_true rfl)
  rw [lg_entry_eq]
  generalize (lg_sl ([.ref (a 3), .int p0]) ++ List.replicate (2 - (lg_sl ([.ref (a 3), .int p0])).length) Slot.unset).toArray = ls at hl ⊢
  have hl : lv_has ls 2 [(0, .ref (a 3)), (1, .int p0)] := hl
  refine lv_aload_n hx hb dX9_refuse_0 rfl (lv_at hl 0 rfl) ?_
  have b_1 : 0 ≤ (G.1 3 7).toInt ∧ (G.1 3 7).toInt ≤ 4 := bd_3_7 hB_G
  refine S_getI (v := (G.1 3 7)) (C := RX9) (T := TX9) (N := 9) hx hb hg iX9 hown hK hW kd_3 rfl 7 (lt_b rfl) (hg (Cond.fieldLink RX9 31 "SlabWalk$Tokens" "fault" "I") m270) (fun _ h9 => h9) rfl rfl dX9_refuse_1 ?_
  refine lv_if_ne (tgt := 34) hx hb dX9_refuse_4 rfl (fun c_2 => ?_) (fun c_2 => ?_)
  · have c_2 : (G.1 3 7).toInt ≠ 0 := xI_ne rfl rfl c_2
    refine ic_0 hx hb dX9_refuse_34 ?_
    exact W.zret (v := 0) hx hb hr (by decide) (fun t ht _ => ⟨⟨0, G, rfl, (P_tRefuse_mk ⟨hB_G, hF, ⟨by decide, by decide⟩, (Or.inr ⟨c_2, ⟨rfl, rfl⟩⟩)⟩), wd_t ht hW⟩, hS.F ht⟩) hS.2.2 dX9_refuse_35
  · have c_2 : (G.1 3 7).toInt = 0 := xI_eq rfl rfl c_2
    refine lv_aload_n hx hb dX9_refuse_7 rfl (lv_at hl 0 rfl) ?_
    refine lv_aload_n hx hb dX9_refuse_8 rfl (lv_at hl 0 rfl) ?_
    refine S_getI (v := (G.1 3 3)) (C := RX9) (T := TX9) (N := 9) hx hb hg iX9 hown hK hW kd_3 rfl 3 (lt_b rfl) (hg (Cond.fieldLink RX9 38 "SlabWalk$Tokens" "kind" "I") m262) (fun _ h9 => h9) rfl rfl dX9_refuse_9 ?_
    refine lv_sipush (v := 202) hx hb dX9_refuse_12 (by decide) ?_
    refine lv_icmp_ne (tgt := 22) hx hb dX9_refuse_15 rfl (fun c_3 => ?_) (fun c_3 => ?_)
    · have c_3 : (G.1 3 3).toInt ≠ 202 := xI_ne rfl rfl c_3
      refine lv_iload_n hx hb dX9_refuse_22 rfl (lv_at hl 1 rfl) ?_
      refine S_putI (ty := .int) (C := RX9) (T := TX9) (N := 9) hx hb hg iX9 tyX9 tyX9_ok nmX9 hown hK hW hS kd_3 rfl 7 (lt_b rfl) (hg (Cond.fieldLink RX9 31 "SlabWalk$Tokens" "fault" "I") m270) (fun _ h9 => h9) rfl (by decide +kernel) rfl rfl rfl dX9_refuse_23 (fun G_4 H locs eG_4 hW hS => ?_)
      have hB_G_4 : Bd G_4 := hB_G.put (V := p0.toInt) (lo := 0) (hi := 4) eG_4 rfl rfl rfl ((by first | (clear b_1 c_2 c_3; omega) | omega)) ((by first | (clear b_1 c_2 c_3; omega) | omega)) (hB_G.2.put eG_4 rfl)
      have hF := hF.put eG_4 (Or.inr (by decide))
      refine lv_aload_n hx hb dX9_refuse_26 rfl (lv_at hl 0 rfl) ?_
      refine lv_aload_n hx hb dX9_refuse_27 rfl (lv_at hl 0 rfl) ?_
      have b_5 : 0 ≤ (G.1 3 4).toInt ∧ (G.1 3 4).toInt ≤ 1600 := bd_3_4 hB_G
      refine S_getI (v := (G.1 3 4)) (C := RX9) (T := TX9) (N := 9) hx hb hg iX9 hown hK hW kd_3 rfl 4 (lt_b rfl) (hg (Cond.fieldLink RX9 41 "SlabWalk$Tokens" "place" "I") m264) (fun _ h9 => h9) rfl (gp_ne eG_4 (by decide)) dX9_refuse_28 ?_
      refine S_putI (ty := .int) (C := RX9) (T := TX9) (N := 9) hx hb hg iX9 tyX9 tyX9_ok nmX9 hown hK hW hS kd_3 rfl 8 (lt_b rfl) (hg (Cond.fieldLink RX9 9 "SlabWalk$Tokens" "faultPlace" "I") m272) (fun _ h9 => h9) rfl (by decide +kernel) rfl rfl rfl dX9_refuse_31 (fun G_6 H locs eG_6 hW hS => ?_)
      have hB_G_6 : Bd G_6 := hB_G_4.put (V := (G.1 3 4).toInt) (lo := (-1)) (hi := 1600) eG_6 rfl rfl rfl ((by first | (clear ha_p0 b_1 c_2 c_3; omega) | omega)) ((by first | (clear ha_p0 b_1 c_2 c_3; omega) | omega)) (hB_G_4.2.put eG_6 rfl)
      have hF := hF.put eG_6 (Or.inr (by decide))
      refine ic_0 hx hb dX9_refuse_34 ?_
      exact W.zret (v := 0) hx hb hr (by decide) (fun t ht _ => ⟨⟨0, G_6, rfl, (P_tRefuse_mk ⟨hB_G_6, hF, ⟨by decide, by decide⟩, (Or.inl ⟨c_2, (Or.inr ⟨c_3, ⟨rfl, (Fr.put (rs := []) (fs := [(3, 7), (3, 8)]) (Fr.put (rs := []) (fs := [(3, 7), (3, 8)]) Fr.rf eG_4 (Or.inr (by decide))) eG_6 (Or.inr (by decide))), ((gp_ne eG_6 (by decide)).trans (gp_eq eG_4)), (gp_eq eG_6)⟩⟩)⟩)⟩), wd_t ht hW⟩, hS.F ht⟩) hS.2.2 dX9_refuse_35
    · have c_3 : (G.1 3 3).toInt = 202 := xI_eq rfl rfl c_3
      refine ic_1 hx hb dX9_refuse_18 ?_
      refine lv_goto (tgt := 23) hx hb dX9_refuse_19 rfl ?_
      refine S_putI (ty := .int) (C := RX9) (T := TX9) (N := 9) hx hb hg iX9 tyX9 tyX9_ok nmX9 hown hK hW hS kd_3 rfl 7 (lt_b rfl) (hg (Cond.fieldLink RX9 31 "SlabWalk$Tokens" "fault" "I") m270) (fun _ h9 => h9) rfl (by decide +kernel) rfl rfl rfl dX9_refuse_23 (fun G_7 H locs eG_7 hW hS => ?_)
      have hB_G_7 : Bd G_7 := hB_G.put (V := 1) (lo := 0) (hi := 4) eG_7 rfl rfl rfl (by decide) (by decide) (hB_G.2.put eG_7 rfl)
      have hF := hF.put eG_7 (Or.inr (by decide))
      refine lv_aload_n hx hb dX9_refuse_26 rfl (lv_at hl 0 rfl) ?_
      refine lv_aload_n hx hb dX9_refuse_27 rfl (lv_at hl 0 rfl) ?_
      have b_8 : 0 ≤ (G.1 3 4).toInt ∧ (G.1 3 4).toInt ≤ 1600 := bd_3_4 hB_G
      refine S_getI (v := (G.1 3 4)) (C := RX9) (T := TX9) (N := 9) hx hb hg iX9 hown hK hW kd_3 rfl 4 (lt_b rfl) (hg (Cond.fieldLink RX9 41 "SlabWalk$Tokens" "place" "I") m264) (fun _ h9 => h9) rfl (gp_ne eG_7 (by decide)) dX9_refuse_28 ?_
      refine S_putI (ty := .int) (C := RX9) (T := TX9) (N := 9) hx hb hg iX9 tyX9 tyX9_ok nmX9 hown hK hW hS kd_3 rfl 8 (lt_b rfl) (hg (Cond.fieldLink RX9 9 "SlabWalk$Tokens" "faultPlace" "I") m272) (fun _ h9 => h9) rfl (by decide +kernel) rfl rfl rfl dX9_refuse_31 (fun G_9 H locs eG_9 hW hS => ?_)
      have hB_G_9 : Bd G_9 := hB_G_7.put (V := (G.1 3 4).toInt) (lo := (-1)) (hi := 1600) eG_9 rfl rfl rfl ((by first | (clear ha_p0 b_1 c_2 c_3; omega) | omega)) ((by first | (clear ha_p0 b_1 c_2 c_3; omega) | omega)) (hB_G_7.2.put eG_9 rfl)
      have hF := hF.put eG_9 (Or.inr (by decide))
      refine ic_0 hx hb dX9_refuse_34 ?_
      exact W.zret (v := 0) hx hb hr (by decide) (fun t ht _ => ⟨⟨0, G_9, rfl, (P_tRefuse_mk ⟨hB_G_9, hF, ⟨by decide, by decide⟩, (Or.inl ⟨c_2, (Or.inl ⟨c_3, ⟨rfl, (Fr.put (rs := []) (fs := [(3, 7), (3, 8)]) (Fr.put (rs := []) (fs := [(3, 7), (3, 8)]) Fr.rf eG_7 (Or.inr (by decide))) eG_9 (Or.inr (by decide))), ((gp_ne eG_9 (by decide)).trans (gp_eq eG_7)), (gp_eq eG_9)⟩⟩)⟩)⟩), wd_t ht hW⟩, hS.F ht⟩) hS.2.2 dX9_refuse_35
