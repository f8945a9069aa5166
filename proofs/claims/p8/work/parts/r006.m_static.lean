
def rbX12_isBox_0 : List (Nat × List Nat) := [(0, [26]), (1, [155, 0, 12]), (4, [26]), (5, [6]), (6, [162, 0, 7]), (9, [4]), (10, [167, 0, 4]), (13, [3]), (14, [172])]
theorem rcX12_isBox_0 : dgo (lb cX12_isBox) 0 rbX12_isBox_0 = true := by decide +kernel
theorem dX12_isBox_0 : decode cX12_isBox 0 = .ok (.iload_n 0, 1) := dk_26 (dw rcX12_isBox_0 0 rfl)
theorem dX12_isBox_1 : decode cX12_isBox 1 = .ok (.ifCond .lt 12, 3) := dk_155 (dw rcX12_isBox_0 1 rfl) rfl
theorem dX12_isBox_4 : decode cX12_isBox 4 = .ok (.iload_n 0, 1) := dk_26 (dw rcX12_isBox_0 2 rfl)
theorem dX12_isBox_5 : decode cX12_isBox 5 = .ok (.iconst 3, 1) := dk_6 (dw rcX12_isBox_0 3 rfl)
theorem dX12_isBox_6 : decode cX12_isBox 6 = .ok (.if_icmp .ge 7, 3) := dk_162 (dw rcX12_isBox_0 4 rfl) rfl
theorem dX12_isBox_9 : decode cX12_isBox 9 = .ok (.iconst 1, 1) := dk_4 (dw rcX12_isBox_0 5 rfl)
theorem dX12_isBox_10 : decode cX12_isBox 10 = .ok (.goto 4, 3) := dk_167 (dw rcX12_isBox_0 6 rfl) rfl
theorem dX12_isBox_13 : decode cX12_isBox 13 = .ok (.iconst 0, 1) := dk_3 (dw rcX12_isBox_0 7 rfl)
theorem dX12_isBox_14 : decode cX12_isBox 14 = .ok (.ireturn, 1) := dk_172 (dw rcX12_isBox_0 8 rfl)
def rbX12_isIn_0 : List (Nat × List Nat) := [(0, [26]), (1, [27]), (2, [161, 0, 12]), (5, [26]), (6, [28]), (7, [163, 0, 7]), (10, [4]), (11, [167, 0, 4]), (14, [3]), (15, [172])]
theorem rcX12_isIn_0 : dgo (lb cX12_isIn) 0 rbX12_isIn_0 = true := by decide +kernel
theorem dX12_isIn_0 : decode cX12_isIn 0 = .ok (.iload_n 0, 1) := dk_26 (dw rcX12_isIn_0 0 rfl)
theorem dX12_isIn_1 : decode cX12_isIn 1 = .ok (.iload_n 1, 1) := dk_27 (dw rcX12_isIn_0 1 rfl)
theorem dX12_isIn_2 : decode cX12_isIn 2 = .ok (.if_icmp .lt 12, 3) := dk_161 (dw rcX12_isIn_0 2 rfl) rfl
theorem dX12_isIn_5 : decode cX12_isIn 5 = .ok (.iload_n 0, 1) := dk_26 (dw rcX12_isIn_0 3 rfl)
theorem dX12_isIn_6 : decode cX12_isIn 6 = .ok (.iload_n 2, 1) := dk_28 (dw rcX12_isIn_0 4 rfl)
theorem dX12_isIn_7 : decode cX12_isIn 7 = .ok (.if_icmp .gt 7, 3) := dk_163 (dw rcX12_isIn_0 5 rfl) rfl
theorem dX12_isIn_10 : decode cX12_isIn 10 = .ok (.iconst 1, 1) := dk_4 (dw rcX12_isIn_0 6 rfl)
theorem dX12_isIn_11 : decode cX12_isIn 11 = .ok (.goto 4, 3) := dk_167 (dw rcX12_isIn_0 7 rfl) rfl
theorem dX12_isIn_14 : decode cX12_isIn 14 = .ok (.iconst 0, 1) := dk_3 (dw rcX12_isIn_0 8 rfl)
theorem dX12_isIn_15 : decode cX12_isIn 15 = .ok (.ireturn, 1) := dk_172 (dw rcX12_isIn_0 9 rfl)
def rbX12_lesser_0 : List (Nat × List Nat) := [(0, [26]), (1, [27]), (2, [162, 0, 7]), (5, [26]), (6, [167, 0, 4]), (9, [27]), (10, [172])]
theorem rcX12_lesser_0 : dgo (lb cX12_lesser) 0 rbX12_lesser_0 = true := by decide +kernel
theorem dX12_lesser_0 : decode cX12_lesser 0 = .ok (.iload_n 0, 1) := dk_26 (dw rcX12_lesser_0 0 rfl)
theorem dX12_lesser_1 : decode cX12_lesser 1 = .ok (.iload_n 1, 1) := dk_27 (dw rcX12_lesser_0 1 rfl)
theorem dX12_lesser_2 : decode cX12_lesser 2 = .ok (.if_icmp .ge 7, 3) := dk_162 (dw rcX12_lesser_0 2 rfl) rfl
theorem dX12_lesser_5 : decode cX12_lesser 5 = .ok (.iload_n 0, 1) := dk_26 (dw rcX12_lesser_0 3 rfl)
theorem dX12_lesser_6 : decode cX12_lesser 6 = .ok (.goto 4, 3) := dk_167 (dw rcX12_lesser_0 4 rfl) rfl
theorem dX12_lesser_9 : decode cX12_lesser 9 = .ok (.iload_n 1, 1) := dk_27 (dw rcX12_lesser_0 5 rfl)
theorem dX12_lesser_10 : decode cX12_lesser 10 = .ok (.ireturn, 1) := dk_172 (dw rcX12_lesser_0 6 rfl)
set_option maxHeartbeats 4000000 in
set_option maxRecDepth 100000 in
theorem n_isIn (l : Launch) (D : va_G) (k : KT) (A : Nat → Prop) (a : Nat → Nat) (z : SK) (G : GS) (p0 : Int32) (p1 : Int32) (p2 : Int32)  : Met l yX12_isIn (WS yX12_isIn cX12_isIn 3 (some .boolean)) ({ frames := 0, cells := 0, slots := 0, locals := 0 }) (va_Pc [.int p0, .int p1, .int p2] (cW D k A a z G)) (va_Qi (fun (r : Int32) (G1 : GS) => Q_isIn p0 p1 p2 G r G1) (fun (G1 : GS) t => Wd D k A a G1 t.heap) A) 0 0 A := by
  refine Met.ofW (cc := cX12_isIn) (maxL := 3) (ret := (some .boolean)) (by decide) rfl ?_
  intro p e s m args below meth c s₁ B hml hv
  obtain ⟨rfl, hW, hB_G, hK, hZ⟩ := hv
  have hx := B.exec
  have hb := B.bytes
  have hr := B.returns
  have hts := atoms_spec (ws := WS yX12_isIn cX12_isIn 3 (some .boolean)) B.pre
  have hgd : ∀ w ∈ gd, w ∈ WS yX12_isIn cX12_isIn 3 (some .boolean) := fun w h => List.mem_cons_of_mem _ h
  have hg : ∀ w ∈ gd, w.before _ s = true := fun w h => hts w (hgd w h)
  have hown : s.vm.findClass RX12 = some m.cls := findClass_of_methodNamed B.named
  have hS : va_S A s.heap s.heap [] := va_S.rf
  have hF : Fr [] [] G G := Fr.rf
  have hl := lv_entry ([.int p0, .int p1, .int p2]) (n := 3) (Nat.le_of_ble_eq_true rfl)
  rw [lg_entry_eq]
  generalize (lg_sl ([.int p0, .int p1, .int p2]) ++ List.replicate (3 - (lg_sl ([.int p0, .int p1, .int p2])).length) Slot.unset).toArray = ls at hl ⊢
  have hl : lv_has ls 3 [(0, .int p0), (1, .int p1), (2, .int p2)] := hl
  refine lv_iload_n hx hb dX12_isIn_0 rfl (lv_at hl 0 rfl) ?_
  refine lv_iload_n hx hb dX12_isIn_1 rfl (lv_at hl 1 rfl) ?_
  refine lv_icmp_lt (tgt := 14) hx hb dX12_isIn_2 rfl (fun c_1 => ?_) (fun c_1 => ?_)
  · have c_1 : p0.toInt < p1.toInt := xI_lt rfl rfl c_1
    refine ic_0 hx hb dX12_isIn_14 ?_
    exact W.zret (v := 0) hx hb hr (by decide) (fun t ht _ => ⟨⟨0, G, rfl, (Q_isIn_mk ⟨hB_G, hF, ⟨by decide, by decide⟩, (by have hq : (0 : Int32).toInt = 0 := rfl; (try dsimp only); omega), (Or.inl ⟨c_1, ⟨rfl, rfl⟩⟩)⟩), wd_t ht hW⟩, hS.F ht⟩) hS.2.2 dX12_isIn_15
  · have c_1 : p1.toInt ≤ p0.toInt := xI_nlt rfl rfl c_1
    refine lv_iload_n hx hb dX12_isIn_5 rfl (lv_at hl 0 rfl) ?_
    refine lv_iload_n hx hb dX12_isIn_6 rfl (lv_at hl 2 rfl) ?_
    refine lv_icmp_gt (tgt := 14) hx hb dX12_isIn_7 rfl (fun c_2 => ?_) (fun c_2 => ?_)
    · have c_2 : p2.toInt < p0.toInt := xI_lt rfl rfl c_2
      refine ic_0 hx hb dX12_isIn_14 ?_
      exact W.zret (v := 0) hx hb hr (by decide) (fun t ht _ => ⟨⟨0, G, rfl, (Q_isIn_mk ⟨hB_G, hF, ⟨by decide, by decide⟩, (by have hq : (0 : Int32).toInt = 0 := rfl; (try dsimp only); omega), (Or.inr ⟨c_1, (Or.inl ⟨c_2, ⟨rfl, rfl⟩⟩)⟩)⟩), wd_t ht hW⟩, hS.F ht⟩) hS.2.2 dX12_isIn_15
    · have c_2 : p0.toInt ≤ p2.toInt := xI_nlt rfl rfl c_2
      refine ic_1 hx hb dX12_isIn_10 ?_
      refine lv_goto (tgt := 15) hx hb dX12_isIn_11 rfl ?_
      exact W.zret (v := 1) hx hb hr (by decide) (fun t ht _ => ⟨⟨1, G, rfl, (Q_isIn_mk ⟨hB_G, hF, ⟨by decide, by decide⟩, (by have hq : (1 : Int32).toInt = 1 := rfl; (try dsimp only); omega), (Or.inr ⟨c_1, (Or.inr ⟨c_2, ⟨rfl, rfl⟩⟩)⟩)⟩), wd_t ht hW⟩, hS.F ht⟩) hS.2.2 dX12_isIn_15

set_option maxHeartbeats 4000000 in
set_option maxRecDepth 100000 in
theorem n_lesser (l : Launch) (D : va_G) (k : KT) (A : Nat → Prop) (a : Nat → Nat) (z : SK) (G : GS) (p0 : Int32) (p1 : Int32)  : Met l yX12_lesser (WS yX12_lesser cX12_lesser 2 (some .int)) ({ frames := 0, cells := 0, slots := 0, locals := 0 }) (va_Pc [.int p0, .int p1] (cW D k A a z G)) (va_Qi (fun (r : Int32) (G1 : GS) => Q_lesser p0 p1 G r G1) (fun (G1 : GS) t => Wd D k A a G1 t.heap) A) 0 0 A := by
  refine Met.ofW (cc := cX12_lesser) (maxL := 2) (ret := (some .int)) (by decide) rfl ?_
  intro p e s m args below meth c s₁ B hml hv
  obtain ⟨rfl, hW, hB_G, hK, hZ⟩ := hv
  have hx := B.exec
  have hb := B.bytes
  have hr := B.returns
  have hts := atoms_spec (ws := WS yX12_lesser cX12_lesser 2 (some .int)) B.pre
  have hgd : ∀ w ∈ gd, w ∈ WS yX12_lesser cX12_lesser 2 (some .int) := fun w h => List.mem_cons_of_mem _ h
  have hg : ∀ w ∈ gd, w.before _ s = true := fun w h => hts w (hgd w h)
  have hown : s.vm.findClass RX12 = some m.cls := findClass_of_methodNamed B.named
  have hS : va_S A s.heap s.heap [] := va_S.rf
  have hF : Fr [] [] G G := Fr.rf
  have hl := lv_entry ([.int p0, .int p1]) (n := 2) (Nat.le_of_ble_eq_true rfl)
  rw [lg_entry_eq]
  generalize (lg_sl ([.int p0, .int p1]) ++ List.replicate (2 - (lg_sl ([.int p0, .int p1])).length) Slot.unset).toArray = ls at hl ⊢
  have hl : lv_has ls 2 [(0, .int p0), (1, .int p1)] := hl
  refine lv_iload_n hx hb dX12_lesser_0 rfl (lv_at hl 0 rfl) ?_
  refine lv_iload_n hx hb dX12_lesser_1 rfl (lv_at hl 1 rfl) ?_
  refine lv_icmp_ge (tgt := 9) hx hb dX12_lesser_2 rfl (fun c_1 => ?_) (fun c_1 => ?_)
  · have c_1 : p1.toInt ≤ p0.toInt := xI_le rfl rfl c_1
    refine lv_iload_n hx hb dX12_lesser_9 rfl (lv_at hl 1 rfl) ?_
    exact W.iret (v := p1) hx hb hr (fun t ht _ => ⟨⟨p1, G, rfl, (Q_lesser_mk ⟨hB_G, hF, ((by first | exact ⟨(by omega), ⟨(by omega), (by omega)⟩⟩ | omega)), (Or.inl ⟨c_1, ⟨rfl, rfl⟩⟩)⟩), wd_t ht hW⟩, hS.F ht⟩) hS.2.2 dX12_lesser_10
  · have c_1 : p0.toInt < p1.toInt := xI_nle rfl rfl c_1
    refine lv_iload_n hx hb dX12_lesser_5 rfl (lv_at hl 0 rfl) ?_
    refine lv_goto (tgt := 10) hx hb dX12_lesser_6 rfl ?_
    exact W.iret (v := p0) hx hb hr (fun t ht _ => ⟨⟨p0, G, rfl, (Q_lesser_mk ⟨hB_G, hF, ((by first | exact ⟨(by omega), ⟨(by omega), (by omega)⟩⟩ | omega)), (Or.inr ⟨c_1, ⟨rfl, rfl⟩⟩)⟩), wd_t ht hW⟩, hS.F ht⟩) hS.2.2 dX12_lesser_10

set_option maxHeartbeats 4000000 in
set_option maxRecDepth 100000 in
theorem n_isBox (l : Launch) (D : va_G) (k : KT) (A : Nat → Prop) (a : Nat → Nat) (z : SK) (G : GS) (p0 : Int32)  : Met l yX12_isBox (WS yX12_isBox cX12_isBox 1 (some .boolean)) ({ frames := 0, cells := 0, slots := 0, locals := 0 }) (va_Pc [.int p0] (cW D k A a z G)) (va_Qi (fun (r : Int32) (G1 : GS) => Q_isBox p0 G r G1) (fun (G1 : GS) t => Wd D k A a G1 t.heap) A) 0 0 A := by
  refine Met.ofW (cc := cX12_isBox) (maxL := 1) (ret := (some .boolean)) (by decide) rfl ?_
  intro p e s m args below meth c s₁ B hml hv
  obtain ⟨rfl, hW, hB_G, hK, hZ⟩ := hv
  have hx := B.exec
  have hb := B.bytes
  have hr := B.returns
  have hts := atoms_spec (ws := WS yX12_isBox cX12_isBox 1 (some .boolean)) B.pre
  have hgd : ∀ w ∈ gd, w ∈ WS yX12_isBox cX12_isBox 1 (some .boolean) := fun w h => List.mem_cons_of_mem _ h
  have hg : ∀ w ∈ gd, w.before _ s = true := fun w h => hts w (hgd w h)
  have hown : s.vm.findClass RX12 = some m.cls := findClass_of_methodNamed B.named
  have hS : va_S A s.heap s.heap [] := va_S.rf
  have hF : Fr [] [] G G := Fr.rf
  have hl := lv_entry ([.int p0]) (n := 1) (Nat.le_of_ble_eq_true rfl)
  rw [lg_entry_eq]
  generalize (lg_sl ([.int p0]) ++ List.replicate (1 - (lg_sl ([.int p0])).length) Slot.unset).toArray = ls at hl ⊢
  have hl : lv_has ls 1 [(0, .int p0)] := hl
  refine lv_iload_n hx hb dX12_isBox_0 rfl (lv_at hl 0 rfl) ?_
  refine lv_if_lt (tgt := 13) hx hb dX12_isBox_1 rfl (fun c_1 => ?_) (fun c_1 => ?_)
  · have c_1 : p0.toInt < 0 := xI_lt rfl rfl c_1
    refine ic_0 hx hb dX12_isBox_13 ?_
    exact W.zret (v := 0) hx hb hr (by decide) (fun t ht _ => ⟨⟨0, G, rfl, (Q_isBox_mk ⟨hB_G, hF, ⟨by decide, by decide⟩, (by have hq : (0 : Int32).toInt = 0 := rfl; (try dsimp only); omega), (Or.inl ⟨c_1, ⟨rfl, rfl⟩⟩)⟩), wd_t ht hW⟩, hS.F ht⟩) hS.2.2 dX12_isBox_14
  · have c_1 : 0 ≤ p0.toInt := xI_nlt rfl rfl c_1
    refine lv_iload_n hx hb dX12_isBox_4 rfl (lv_at hl 0 rfl) ?_
    refine ic_3 hx hb dX12_isBox_5 ?_
    refine lv_icmp_ge (tgt := 13) hx hb dX12_isBox_6 rfl (fun c_2 => ?_) (fun c_2 => ?_)
    · have c_2 : 3 ≤ p0.toInt := xI_le rfl rfl c_2
      refine ic_0 hx hb dX12_isBox_13 ?_
      exact W.zret (v := 0) hx hb hr (by decide) (fun t ht _ => ⟨⟨0, G, rfl, (Q_isBox_mk ⟨hB_G, hF, ⟨by decide, by decide⟩, (by have hq : (0 : Int32).toInt = 0 := rfl; (try dsimp only); omega), (Or.inr ⟨c_1, (Or.inl ⟨c_2, ⟨rfl, rfl⟩⟩)⟩)⟩), wd_t ht hW⟩, hS.F ht⟩) hS.2.2 dX12_isBox_14
    · have c_2 : p0.toInt < 3 := xI_nle rfl rfl c_2
      refine ic_1 hx hb dX12_isBox_9 ?_
      refine lv_goto (tgt := 14) hx hb dX12_isBox_10 rfl ?_
      exact W.zret (v := 1) hx hb hr (by decide) (fun t ht _ => ⟨⟨1, G, rfl, (Q_isBox_mk ⟨hB_G, hF, ⟨by decide, by decide⟩, (by have hq : (1 : Int32).toInt = 1 := rfl; (try dsimp only); omega), (Or.inr ⟨c_1, (Or.inr ⟨c_2, ⟨rfl, rfl⟩⟩)⟩)⟩), wd_t ht hW⟩, hS.F ht⟩) hS.2.2 dX12_isBox_14
