
def rbX2_isTimes_0 : List (Nat × List Nat) := [(0, [26]), (1, [16, 42]), (3, [159, 0, 15]), (6, [26]), (7, [16, 47]), (9, [159, 0, 9]), (12, [26]), (13, [16, 37]), (15, [160, 0, 7]), (18, [4]), (19, [167, 0, 4]), (22, [3]), (23, [172])]
theorem rcX2_isTimes_0 : dgo (lb cX2_isTimes) 0 rbX2_isTimes_0 = true := by decide +kernel
theorem dX2_isTimes_0 : decode cX2_isTimes 0 = .ok (.iload_n 0, 1) := dk_26 (dw rcX2_isTimes_0 0 rfl)
theorem dX2_isTimes_1 : decode cX2_isTimes 1 = .ok (.bipush 42, 2) := dk_16 (dw rcX2_isTimes_0 1 rfl) rfl
theorem dX2_isTimes_3 : decode cX2_isTimes 3 = .ok (.if_icmp .eq 15, 3) := dk_159 (dw rcX2_isTimes_0 2 rfl) rfl
theorem dX2_isTimes_6 : decode cX2_isTimes 6 = .ok (.iload_n 0, 1) := dk_26 (dw rcX2_isTimes_0 3 rfl)
theorem dX2_isTimes_7 : decode cX2_isTimes 7 = .ok (.bipush 47, 2) := dk_16 (dw rcX2_isTimes_0 4 rfl) rfl
theorem dX2_isTimes_9 : decode cX2_isTimes 9 = .ok (.if_icmp .eq 9, 3) := dk_159 (dw rcX2_isTimes_0 5 rfl) rfl
theorem dX2_isTimes_12 : decode cX2_isTimes 12 = .ok (.iload_n 0, 1) := dk_26 (dw rcX2_isTimes_0 6 rfl)
theorem dX2_isTimes_13 : decode cX2_isTimes 13 = .ok (.bipush 37, 2) := dk_16 (dw rcX2_isTimes_0 7 rfl) rfl
theorem dX2_isTimes_15 : decode cX2_isTimes 15 = .ok (.if_icmp .ne 7, 3) := dk_160 (dw rcX2_isTimes_0 8 rfl) rfl
theorem dX2_isTimes_18 : decode cX2_isTimes 18 = .ok (.iconst 1, 1) := dk_4 (dw rcX2_isTimes_0 9 rfl)
theorem dX2_isTimes_19 : decode cX2_isTimes 19 = .ok (.goto 4, 3) := dk_167 (dw rcX2_isTimes_0 10 rfl) rfl
theorem dX2_isTimes_22 : decode cX2_isTimes 22 = .ok (.iconst 0, 1) := dk_3 (dw rcX2_isTimes_0 11 rfl)
theorem dX2_isTimes_23 : decode cX2_isTimes 23 = .ok (.ireturn, 1) := dk_172 (dw rcX2_isTimes_0 12 rfl)
set_option maxHeartbeats 4000000 in
set_option maxRecDepth 100000 in
theorem k_fTimes (l : Launch) (D : va_G) (k : KT) (A : Nat → Prop) (a : Nat → Nat) (z : SK) (G : GS) (p0 : Int32)  : Met l yX2_isTimes (WS yX2_isTimes cX2_isTimes 1 (some .boolean)) ({ frames := 0, cells := 0, slots := 0, locals := 0 }) (va_Pc [.int p0] (cW D k A a z G)) (va_Qi (fun (r : Int32) (G1 : GS) => P_fTimes p0 G r G1) (fun (G1 : GS) t => Wd D k A a G1 t.heap) A) 0 0 A := by
  refine Met.ofW (cc := cX2_isTimes) (maxL := 1) (ret := (some .boolean)) (by decide) rfl ?_
  intro p e s m args below meth c s₁ B hml hv
  obtain ⟨rfl, hW, hB_G, hK, hZ⟩ := hv
  have hx := B.exec
  have hb := B.bytes
  have hr := B.returns
  have hts := atoms_spec (ws := WS yX2_isTimes cX2_isTimes 1 (some .boolean)) B.pre
  have hgd : ∀ w ∈ gd, w ∈ WS yX2_isTimes cX2_isTimes 1 (some .boolean) := fun w h => List.mem_cons_of_mem _ h
  have hg : ∀ w ∈ gd, w.before _ s = true := fun w h => hts w (hgd w h)
  have hown : s.vm.findClass RX2 = some m.cls := findClass_of_methodNamed B.named
  have hS : va_S A s.heap s.heap [] := va_S.rf
  have hF : Fr [] [] G G := Fr.rf
  have hl := lv_entry ([.int p0]) (n := 1) (Nat.le_of_ble_eq_true rfl)
  rw [lg_entry_eq]
  generalize (lg_sl ([.int p0]) ++ List.replicate (1 - (lg_sl ([.int p0])).length) Slot.unset).toArray = ls at hl ⊢
  have hl : lv_has ls 1 [(0, .int p0)] := hl
  refine lv_iload_n hx hb dX2_isTimes_0 rfl (lv_at hl 0 rfl) ?_
  refine lv_bipush (v := 42) hx hb dX2_isTimes_1 (by decide) ?_
  refine lv_icmp_eq (tgt := 18) hx hb dX2_isTimes_3 rfl (fun c_1 => ?_) (fun c_1 => ?_)
  · have c_1 : p0.toInt = 42 := xI_eq rfl rfl c_1
    refine ic_1 hx hb dX2_isTimes_18 ?_
    refine lv_goto (tgt := 23) hx hb dX2_isTimes_19 rfl ?_
    exact W.zret (v := 1) hx hb hr (by decide) (fun t ht _ => ⟨⟨1, G, rfl, (P_fTimes_mk ⟨hB_G, hF, ⟨by decide, by decide⟩, (Or.inl ⟨c_1, ⟨rfl, rfl⟩⟩)⟩), wd_t ht hW⟩, hS.F ht⟩) hS.2.2 dX2_isTimes_23
  · have c_1 : p0.toInt ≠ 42 := xI_ne rfl rfl c_1
    refine lv_iload_n hx hb dX2_isTimes_6 rfl (lv_at hl 0 rfl) ?_
    refine lv_bipush (v := 47) hx hb dX2_isTimes_7 (by decide) ?_
    refine lv_icmp_eq (tgt := 18) hx hb dX2_isTimes_9 rfl (fun c_2 => ?_) (fun c_2 => ?_)
    · have c_2 : p0.toInt = 47 := xI_eq rfl rfl c_2
      refine ic_1 hx hb dX2_isTimes_18 ?_
      refine lv_goto (tgt := 23) hx hb dX2_isTimes_19 rfl ?_
      exact W.zret (v := 1) hx hb hr (by decide) (fun t ht _ => ⟨⟨1, G, rfl, (P_fTimes_mk ⟨hB_G, hF, ⟨by decide, by decide⟩, (Or.inr ⟨c_1, (Or.inl ⟨c_2, ⟨rfl, rfl⟩⟩)⟩)⟩), wd_t ht hW⟩, hS.F ht⟩) hS.2.2 dX2_isTimes_23
    · have c_2 : p0.toInt ≠ 47 := xI_ne rfl rfl c_2
      refine lv_iload_n hx hb dX2_isTimes_12 rfl (lv_at hl 0 rfl) ?_
      refine lv_bipush (v := 37) hx hb dX2_isTimes_13 (by decide) ?_
      refine lv_icmp_ne (tgt := 22) hx hb dX2_isTimes_15 rfl (fun c_3 => ?_) (fun c_3 => ?_)
      · have c_3 : p0.toInt ≠ 37 := xI_ne rfl rfl c_3
        refine ic_0 hx hb dX2_isTimes_22 ?_
        exact W.zret (v := 0) hx hb hr (by decide) (fun t ht _ => ⟨⟨0, G, rfl, (P_fTimes_mk ⟨hB_G, hF, ⟨by decide, by decide⟩, (Or.inr ⟨c_1, (Or.inr ⟨c_2, (Or.inr ⟨c_3, ⟨rfl, rfl⟩⟩)⟩)⟩)⟩), wd_t ht hW⟩, hS.F ht⟩) hS.2.2 dX2_isTimes_23
      · have c_3 : p0.toInt = 37 := xI_eq rfl rfl c_3
        refine ic_1 hx hb dX2_isTimes_18 ?_
        refine lv_goto (tgt := 23) hx hb dX2_isTimes_19 rfl ?_
        exact W.zret (v := 1) hx hb hr (by decide) (fun t ht _ => ⟨⟨1, G, rfl, (P_fTimes_mk ⟨hB_G, hF, ⟨by decide, by decide⟩, (Or.inr ⟨c_1, (Or.inr ⟨c_2, (Or.inl ⟨c_3, ⟨rfl, rfl⟩⟩)⟩)⟩)⟩), wd_t ht hW⟩, hS.F ht⟩) hS.2.2 dX2_isTimes_23
