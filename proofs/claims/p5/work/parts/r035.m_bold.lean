theorem m103 : Cond.selects RX12 yX12_layBold yX12_layBold ∈ gd := gd_mem 103 (by decide +kernel) (by decide +kernel)
theorem m104 : Cond.selects RX12 yX12_bestOdds yX12_bestOdds ∈ gd := gd_mem 104 (by decide +kernel) (by decide +kernel)
theorem m105 : Cond.selects RX12 yX12_rest yX12_rest ∈ gd := gd_mem 105 (by decide +kernel) (by decide +kernel)
theorem m107 : Cond.selects RX12 yX12_oddsBy yX12_oddsBy ∈ gd := gd_mem 107 (by decide +kernel) (by decide +kernel)
theorem m1943 : Cond.methodLink RX12 568 yX12_layBold ∈ gd := gd_mem 1943 (by decide +kernel) (by decide +kernel)
theorem m1945 : Cond.instanceMethod yX12_layBold ∈ gd := gd_mem 1945 (by decide +kernel) (by decide +kernel)
theorem m1946 : Cond.code yX12_layBold cX12_layBold 8 (some .boolean) ∈ gd := gd_mem 1946 (by decide +kernel) (by decide +kernel)
theorem m1947 : Cond.methodLink RX12 564 yX12_bestOdds ∈ gd := gd_mem 1947 (by decide +kernel) (by decide +kernel)
theorem m1949 : Cond.instanceMethod yX12_bestOdds ∈ gd := gd_mem 1949 (by decide +kernel) (by decide +kernel)
theorem m1950 : Cond.code yX12_bestOdds cX12_bestOdds 8 (some .long) ∈ gd := gd_mem 1950 (by decide +kernel) (by decide +kernel)
theorem m1951 : Cond.methodLink RX12 556 yX12_rest ∈ gd := gd_mem 1951 (by decide +kernel) (by decide +kernel)
theorem m1953 : Cond.instanceMethod yX12_rest ∈ gd := gd_mem 1953 (by decide +kernel) (by decide +kernel)
theorem m1954 : Cond.code yX12_rest cX12_rest 5 (some .long) ∈ gd := gd_mem 1954 (by decide +kernel) (by decide +kernel)
theorem m1959 : Cond.methodLink RX12 560 yX12_oddsBy ∈ gd := gd_mem 1959 (by decide +kernel) (by decide +kernel)
theorem m1961 : Cond.instanceMethod yX12_oddsBy ∈ gd := gd_mem 1961 (by decide +kernel) (by decide +kernel)
theorem m1962 : Cond.code yX12_oddsBy cX12_oddsBy 10 (some .long) ∈ gd := gd_mem 1962 (by decide +kernel) (by decide +kernel)
theorem dX12_bestOdds_0 : decode cX12_bestOdds 0 = .ok (.lconst 0, 1) := by decide +kernel
theorem dX12_bestOdds_1 : decode cX12_bestOdds 1 = .ok (.lstore_n 3, 1) := by decide +kernel
theorem dX12_bestOdds_2 : decode cX12_bestOdds 2 = .ok (.aload_n 0, 1) := by decide +kernel
theorem dX12_bestOdds_3 : decode cX12_bestOdds 3 = .ok (.getfield 475, 3) := by decide +kernel
theorem dX12_bestOdds_6 : decode cX12_bestOdds 6 = .ok (.istore 5, 2) := by decide +kernel
theorem dX12_bestOdds_8 : decode cX12_bestOdds 8 = .ok (.iload 5, 2) := by decide +kernel
theorem dX12_bestOdds_10 : decode cX12_bestOdds 10 = .ok (.aload_n 0, 1) := by decide +kernel
theorem dX12_bestOdds_11 : decode cX12_bestOdds 11 = .ok (.getfield 478, 3) := by decide +kernel
theorem dX12_bestOdds_14 : decode cX12_bestOdds 14 = .ok (.if_icmp .gt 40, 3) := by decide +kernel
theorem dX12_bestOdds_17 : decode cX12_bestOdds 17 = .ok (.aload_n 0, 1) := by decide +kernel
theorem dX12_bestOdds_18 : decode cX12_bestOdds 18 = .ok (.iload_n 1, 1) := by decide +kernel
theorem dX12_bestOdds_19 : decode cX12_bestOdds 19 = .ok (.iload 5, 2) := by decide +kernel
theorem dX12_bestOdds_21 : decode cX12_bestOdds 21 = .ok (.iload_n 2, 1) := by decide +kernel
theorem dX12_bestOdds_22 : decode cX12_bestOdds 22 = .ok (.aload_n 0, 1) := by decide +kernel
theorem dX12_bestOdds_23 : decode cX12_bestOdds 23 = .ok (.iload_n 2, 1) := by decide +kernel
theorem dX12_bestOdds_24 : decode cX12_bestOdds 24 = .ok (.iconst 1, 1) := by decide +kernel
theorem dX12_bestOdds_25 : decode cX12_bestOdds 25 = .ok (.isub, 1) := by decide +kernel
theorem dX12_bestOdds_26 : decode cX12_bestOdds 26 = .ok (.invokevirtual 556, 3) := by decide +kernel
theorem dX12_bestOdds_29 : decode cX12_bestOdds 29 = .ok (.invokevirtual 560, 3) := by decide +kernel
theorem dX12_bestOdds_32 : decode cX12_bestOdds 32 = .ok (.lstore 6, 2) := by decide +kernel
theorem dX12_bestOdds_34 : decode cX12_bestOdds 34 = .ok (.lload 6, 2) := by decide +kernel
theorem dX12_bestOdds_36 : decode cX12_bestOdds 36 = .ok (.lload_n 3, 1) := by decide +kernel
theorem dX12_bestOdds_37 : decode cX12_bestOdds 37 = .ok (.lcmp, 1) := by decide +kernel
theorem dX12_bestOdds_38 : decode cX12_bestOdds 38 = .ok (.ifCond .le 8, 3) := by decide +kernel
theorem dX12_bestOdds_41 : decode cX12_bestOdds 41 = .ok (.lload 6, 2) := by decide +kernel
theorem dX12_bestOdds_43 : decode cX12_bestOdds 43 = .ok (.goto 4, 3) := by decide +kernel
theorem dX12_bestOdds_46 : decode cX12_bestOdds 46 = .ok (.lload_n 3, 1) := by decide +kernel
theorem dX12_bestOdds_47 : decode cX12_bestOdds 47 = .ok (.lstore_n 3, 1) := by decide +kernel
theorem dX12_bestOdds_48 : decode cX12_bestOdds 48 = .ok (.iinc 5 1, 3) := by decide +kernel
theorem dX12_bestOdds_51 : decode cX12_bestOdds 51 = .ok (.goto (-43), 3) := by decide +kernel
theorem dX12_bestOdds_54 : decode cX12_bestOdds 54 = .ok (.lload_n 3, 1) := by decide +kernel
theorem dX12_bestOdds_55 : decode cX12_bestOdds 55 = .ok (.lreturn, 1) := by decide +kernel
theorem dX12_boldest_0 : decode cX12_boldest 0 = .ok (.aload_n 0, 1) := by decide +kernel
theorem dX12_boldest_1 : decode cX12_boldest 1 = .ok (.iload_n 1, 1) := by decide +kernel
theorem dX12_boldest_2 : decode cX12_boldest 2 = .ok (.iload_n 2, 1) := by decide +kernel
theorem dX12_boldest_3 : decode cX12_boldest 3 = .ok (.iload_n 3, 1) := by decide +kernel
theorem dX12_boldest_4 : decode cX12_boldest 4 = .ok (.iload 4, 2) := by decide +kernel
theorem dX12_boldest_6 : decode cX12_boldest 6 = .ok (.iload 5, 2) := by decide +kernel
theorem dX12_boldest_8 : decode cX12_boldest 8 = .ok (.invokevirtual 568, 3) := by decide +kernel
theorem dX12_boldest_11 : decode cX12_boldest 11 = .ok (.ifCond .ne 5, 3) := by decide +kernel
theorem dX12_boldest_14 : decode cX12_boldest 14 = .ok (.iconst (-1), 1) := by decide +kernel
theorem dX12_boldest_15 : decode cX12_boldest 15 = .ok (.ireturn, 1) := by decide +kernel
theorem dX12_boldest_16 : decode cX12_boldest 16 = .ok (.aload_n 0, 1) := by decide +kernel
theorem dX12_boldest_17 : decode cX12_boldest 17 = .ok (.iload 4, 2) := by decide +kernel
theorem dX12_boldest_19 : decode cX12_boldest 19 = .ok (.iload 5, 2) := by decide +kernel
theorem dX12_boldest_21 : decode cX12_boldest 21 = .ok (.invokevirtual 564, 3) := by decide +kernel
theorem dX12_boldest_24 : decode cX12_boldest 24 = .ok (.lstore 6, 2) := by decide +kernel
theorem dX12_boldest_26 : decode cX12_boldest 26 = .ok (.aload_n 0, 1) := by decide +kernel
theorem dX12_boldest_27 : decode cX12_boldest 27 = .ok (.getfield 475, 3) := by decide +kernel
theorem dX12_boldest_30 : decode cX12_boldest 30 = .ok (.istore 8, 2) := by decide +kernel
theorem dX12_boldest_32 : decode cX12_boldest 32 = .ok (.aload_n 0, 1) := by decide +kernel
theorem dX12_boldest_33 : decode cX12_boldest 33 = .ok (.iload 4, 2) := by decide +kernel
theorem dX12_boldest_35 : decode cX12_boldest 35 = .ok (.iload 8, 2) := by decide +kernel
theorem dX12_boldest_37 : decode cX12_boldest 37 = .ok (.iload 5, 2) := by decide +kernel
theorem dX12_boldest_39 : decode cX12_boldest 39 = .ok (.aload_n 0, 1) := by decide +kernel
theorem dX12_boldest_40 : decode cX12_boldest 40 = .ok (.iload 5, 2) := by decide +kernel
theorem dX12_boldest_42 : decode cX12_boldest 42 = .ok (.iconst 1, 1) := by decide +kernel
theorem dX12_boldest_43 : decode cX12_boldest 43 = .ok (.isub, 1) := by decide +kernel
theorem dX12_boldest_44 : decode cX12_boldest 44 = .ok (.invokevirtual 556, 3) := by decide +kernel
theorem dX12_boldest_47 : decode cX12_boldest 47 = .ok (.invokevirtual 560, 3) := by decide +kernel
theorem dX12_boldest_50 : decode cX12_boldest 50 = .ok (.lload 6, 2) := by decide +kernel
theorem dX12_boldest_52 : decode cX12_boldest 52 = .ok (.lcmp, 1) := by decide +kernel
theorem dX12_boldest_53 : decode cX12_boldest 53 = .ok (.ifCond .eq 9, 3) := by decide +kernel
theorem dX12_boldest_56 : decode cX12_boldest 56 = .ok (.iinc 8 1, 3) := by decide +kernel
theorem dX12_boldest_59 : decode cX12_boldest 59 = .ok (.goto (-27), 3) := by decide +kernel
theorem dX12_boldest_62 : decode cX12_boldest 62 = .ok (.iload 8, 2) := by decide +kernel
theorem dX12_boldest_64 : decode cX12_boldest 64 = .ok (.ireturn, 1) := by decide +kernel
theorem dX12_brave_0 : decode cX12_brave 0 = .ok (.aload_n 0, 1) := by decide +kernel
theorem dX12_brave_1 : decode cX12_brave 1 = .ok (.iload_n 1, 1) := by decide +kernel
theorem dX12_brave_2 : decode cX12_brave 2 = .ok (.iload_n 2, 1) := by decide +kernel
theorem dX12_brave_3 : decode cX12_brave 3 = .ok (.iload_n 3, 1) := by decide +kernel
theorem dX12_brave_4 : decode cX12_brave 4 = .ok (.iload 4, 2) := by decide +kernel
theorem dX12_brave_6 : decode cX12_brave 6 = .ok (.iload 5, 2) := by decide +kernel
theorem dX12_brave_8 : decode cX12_brave 8 = .ok (.invokevirtual 568, 3) := by decide +kernel
theorem dX12_brave_11 : decode cX12_brave 11 = .ok (.ifCond .eq 14, 3) := by decide +kernel
theorem dX12_brave_14 : decode cX12_brave 14 = .ok (.aload_n 0, 1) := by decide +kernel
theorem dX12_brave_15 : decode cX12_brave 15 = .ok (.iload 4, 2) := by decide +kernel
theorem dX12_brave_17 : decode cX12_brave 17 = .ok (.iload 5, 2) := by decide +kernel
theorem dX12_brave_19 : decode cX12_brave 19 = .ok (.invokevirtual 564, 3) := by decide +kernel
theorem dX12_brave_22 : decode cX12_brave 22 = .ok (.goto 6, 3) := by decide +kernel
theorem dX12_brave_25 : decode cX12_brave 25 = .ok (.ldc2_w 517, 3) := by decide +kernel
theorem dX12_brave_28 : decode cX12_brave 28 = .ok (.lreturn, 1) := by decide +kernel
theorem dX12_layBold_0 : decode cX12_layBold 0 = .ok (.aload_n 0, 1) := by decide +kernel
theorem dX12_layBold_1 : decode cX12_layBold 1 = .ok (.iload_n 1, 1) := by decide +kernel
theorem dX12_layBold_2 : decode cX12_layBold 2 = .ok (.iload_n 2, 1) := by decide +kernel
theorem dX12_layBold_3 : decode cX12_layBold 3 = .ok (.iload_n 3, 1) := by decide +kernel
theorem dX12_layBold_4 : decode cX12_layBold 4 = .ok (.invokevirtual 490, 3) := by decide +kernel
theorem dX12_layBold_7 : decode cX12_layBold 7 = .ok (.ifCond .eq 14, 3) := by decide +kernel
theorem dX12_layBold_10 : decode cX12_layBold 10 = .ok (.iload 5, 2) := by decide +kernel
theorem dX12_layBold_12 : decode cX12_layBold 12 = .ok (.iconst 1, 1) := by decide +kernel
theorem dX12_layBold_13 : decode cX12_layBold 13 = .ok (.bipush 8, 2) := by decide +kernel
theorem dX12_layBold_15 : decode cX12_layBold 15 = .ok (.invokestatic 449, 3) := by decide +kernel
theorem dX12_layBold_18 : decode cX12_layBold 18 = .ok (.ifCond .ne 5, 3) := by decide +kernel
theorem dX12_layBold_21 : decode cX12_layBold 21 = .ok (.iconst 0, 1) := by decide +kernel
theorem dX12_layBold_22 : decode cX12_layBold 22 = .ok (.ireturn, 1) := by decide +kernel
theorem dX12_layBold_23 : decode cX12_layBold 23 = .ok (.aload_n 0, 1) := by decide +kernel
theorem dX12_layBold_24 : decode cX12_layBold 24 = .ok (.iload_n 1, 1) := by decide +kernel
theorem dX12_layBold_25 : decode cX12_layBold 25 = .ok (.iload_n 2, 1) := by decide +kernel
theorem dX12_layBold_26 : decode cX12_layBold 26 = .ok (.iload_n 3, 1) := by decide +kernel
theorem dX12_layBold_27 : decode cX12_layBold 27 = .ok (.invokevirtual 493, 3) := by decide +kernel
theorem dX12_layBold_30 : decode cX12_layBold 30 = .ok (.aload_n 0, 1) := by decide +kernel
theorem dX12_layBold_31 : decode cX12_layBold 31 = .ok (.iload 4, 2) := by decide +kernel
theorem dX12_layBold_33 : decode cX12_layBold 33 = .ok (.invokevirtual 484, 3) := by decide +kernel
theorem dX12_layBold_36 : decode cX12_layBold 36 = .ok (.ifCond .ne 5, 3) := by decide +kernel
theorem dX12_layBold_39 : decode cX12_layBold 39 = .ok (.iconst 0, 1) := by decide +kernel
theorem dX12_layBold_40 : decode cX12_layBold 40 = .ok (.ireturn, 1) := by decide +kernel
theorem dX12_layBold_41 : decode cX12_layBold 41 = .ok (.iconst 0, 1) := by decide +kernel
theorem dX12_layBold_42 : decode cX12_layBold 42 = .ok (.istore 6, 2) := by decide +kernel
theorem dX12_layBold_44 : decode cX12_layBold 44 = .ok (.iload 6, 2) := by decide +kernel
theorem dX12_layBold_46 : decode cX12_layBold 46 = .ok (.sipush 512, 3) := by decide +kernel
theorem dX12_layBold_49 : decode cX12_layBold 49 = .ok (.if_icmp .ge 17, 3) := by decide +kernel
theorem dX12_layBold_52 : decode cX12_layBold 52 = .ok (.aload_n 0, 1) := by decide +kernel
theorem dX12_layBold_53 : decode cX12_layBold 53 = .ok (.getfield 139, 3) := by decide +kernel
theorem dX12_layBold_56 : decode cX12_layBold 56 = .ok (.iload 6, 2) := by decide +kernel
theorem dX12_layBold_58 : decode cX12_layBold 58 = .ok (.lconst 1, 1) := by decide +kernel
theorem dX12_layBold_59 : decode cX12_layBold 59 = .ok (.lastore, 1) := by decide +kernel
theorem dX12_layBold_60 : decode cX12_layBold 60 = .ok (.iinc 6 1, 3) := by decide +kernel
theorem dX12_layBold_63 : decode cX12_layBold 63 = .ok (.goto (-19), 3) := by decide +kernel
theorem dX12_layBold_66 : decode cX12_layBold 66 = .ok (.iconst 1, 1) := by decide +kernel
theorem dX12_layBold_67 : decode cX12_layBold 67 = .ok (.istore 6, 2) := by decide +kernel
theorem dX12_layBold_69 : decode cX12_layBold 69 = .ok (.iload 6, 2) := by decide +kernel
theorem dX12_layBold_71 : decode cX12_layBold 71 = .ok (.iload 5, 2) := by decide +kernel
theorem dX12_layBold_73 : decode cX12_layBold 73 = .ok (.if_icmp .ge 61, 3) := by decide +kernel
theorem dX12_layBold_76 : decode cX12_layBold 76 = .ok (.iconst 0, 1) := by decide +kernel
theorem dX12_layBold_77 : decode cX12_layBold 77 = .ok (.istore 7, 2) := by decide +kernel
theorem dX12_layBold_79 : decode cX12_layBold 79 = .ok (.iload 7, 2) := by decide +kernel
theorem dX12_layBold_81 : decode cX12_layBold 81 = .ok (.sipush 400, 3) := by decide +kernel
theorem dX12_layBold_84 : decode cX12_layBold 84 = .ok (.if_icmp .ge 44, 3) := by decide +kernel
theorem dX12_layBold_87 : decode cX12_layBold 87 = .ok (.aload_n 0, 1) := by decide +kernel
theorem dX12_layBold_88 : decode cX12_layBold 88 = .ok (.getfield 139, 3) := by decide +kernel
theorem dX12_layBold_91 : decode cX12_layBold 91 = .ok (.sipush 512, 3) := by decide +kernel
theorem dX12_layBold_94 : decode cX12_layBold 94 = .ok (.iload 6, 2) := by decide +kernel
theorem dX12_layBold_96 : decode cX12_layBold 96 = .ok (.imul, 1) := by decide +kernel
theorem dX12_layBold_97 : decode cX12_layBold 97 = .ok (.iload 7, 2) := by decide +kernel
theorem dX12_layBold_99 : decode cX12_layBold 99 = .ok (.iadd, 1) := by decide +kernel
theorem dX12_layBold_100 : decode cX12_layBold 100 = .ok (.aload_n 0, 1) := by decide +kernel
theorem dX12_layBold_101 : decode cX12_layBold 101 = .ok (.iload 7, 2) := by decide +kernel
theorem dX12_layBold_103 : decode cX12_layBold 103 = .ok (.invokevirtual 484, 3) := by decide +kernel
theorem dX12_layBold_106 : decode cX12_layBold 106 = .ok (.ifCond .eq 14, 3) := by decide +kernel
theorem dX12_layBold_109 : decode cX12_layBold 109 = .ok (.aload_n 0, 1) := by decide +kernel
theorem dX12_layBold_110 : decode cX12_layBold 110 = .ok (.iload 7, 2) := by decide +kernel
theorem dX12_layBold_112 : decode cX12_layBold 112 = .ok (.iload 6, 2) := by decide +kernel
theorem dX12_layBold_114 : decode cX12_layBold 114 = .ok (.invokevirtual 564, 3) := by decide +kernel
theorem dX12_layBold_117 : decode cX12_layBold 117 = .ok (.goto 4, 3) := by decide +kernel
theorem dX12_layBold_120 : decode cX12_layBold 120 = .ok (.lconst 0, 1) := by decide +kernel
theorem dX12_layBold_121 : decode cX12_layBold 121 = .ok (.lastore, 1) := by decide +kernel
theorem dX12_layBold_122 : decode cX12_layBold 122 = .ok (.iinc 7 1, 3) := by decide +kernel
theorem dX12_layBold_125 : decode cX12_layBold 125 = .ok (.goto (-46), 3) := by decide +kernel
theorem dX12_layBold_128 : decode cX12_layBold 128 = .ok (.iinc 6 1, 3) := by decide +kernel
theorem dX12_layBold_131 : decode cX12_layBold 131 = .ok (.goto (-62), 3) := by decide +kernel
theorem dX12_layBold_134 : decode cX12_layBold 134 = .ok (.iconst 1, 1) := by decide +kernel
theorem dX12_layBold_135 : decode cX12_layBold 135 = .ok (.ireturn, 1) := by decide +kernel
set_option maxHeartbeats 4000000 in
set_option maxRecDepth 100000 in
theorem n_bestOdds (l : Launch) (D : va_G) (k : KT) (A : Nat → Prop) (a : Nat → Nat) (z : SK) (G : GS) (p0 : Int32) (p1 : Int32) (ha_p0 : 0 ≤ p0.toInt ∧ p0.toInt ≤ 399) (ha_p1 : 1 ≤ p1.toInt ∧ p1.toInt ≤ 8) (hlm : (G.1 66 61).toInt ≤ (G.1 66 62).toInt) : Met l yX12_bestOdds (WS yX12_bestOdds cX12_bestOdds 8 (some .long)) ({ frames := 2, cells := 0, slots := 0, locals := 50 }) (va_Pc [.ref (a 66), .int p0, .int p1] (cW D k A a z G)) (va_Ql (fun (r : Int64) (G1 : GS) => Bd G1 ∧ Fr [] [] G G1 ∧ (bO (oF G p0.toInt p1.toInt) (G.1 66 61).toInt ((G.1 66 62).toInt + 1) r)) (fun (G1 : GS) t => Wd D k A a G1 t.heap) A) 0 0 A := by
  refine Met.ofW (cc := cX12_bestOdds) (maxL := 8) (ret := (some .long)) (by decide) rfl ?_
  intro p e s m args below meth c s₁ B hml hv
  obtain ⟨rfl, hW, hB_G, hK, hZ⟩ := hv
  have hx := B.exec
  have hb := B.bytes
  have hr := B.returns
  have hts := atoms_spec (ws := WS yX12_bestOdds cX12_bestOdds 8 (some .long)) B.pre
  have hgd : ∀ w ∈ gd, w ∈ WS yX12_bestOdds cX12_bestOdds 8 (some .long) := fun w h => List.mem_cons_of_mem _ h
  have hg : ∀ w ∈ gd, w.before _ s = true := fun w h => hts w (hgd w h)
  have hown : s.vm.findClass RX12 = some m.cls := findClass_of_methodNamed B.named
  have hS : va_S A s.heap s.heap [] := va_S.rf
  have hF : Fr [] [] G G := Fr.rf
  have hl := lv_entry ([.ref (a 66), .int p0, .int p1]) (n := 8) (Nat.le_of_ble_eq_true rfl)
  rw [lg_entry_eq]
  generalize (lg_sl ([.ref (a 66), .int p0, .int p1]) ++ List.replicate (8 - (lg_sl ([.ref (a 66), .int p0, .int p1])).length) Slot.unset).toArray = ls at hl ⊢
  have hl : lv_has ls 8 [(0, .ref (a 66)), (1, .int p0), (2, .int p1)] := hl
  refine lv_lconst (v := 0) hx hb dX12_bestOdds_0 (by decide) ?_
  refine lv_lstore_n (lv' := [(3, .long 0), (0, .ref (a 66)), (1, .int p0), (2, .int p1)]) hx hb dX12_bestOdds_1 rfl hl (by decide) rfl (fun ls hl => ?_)
  refine lv_aload_n hx hb dX12_bestOdds_2 rfl (lv_at hl 1 rfl) ?_
  have b_1 : 0 ≤ (G.1 66 61).toInt ∧ (G.1 66 61).toInt ≤ 60 := hB_G.i 66 61 rfl rfl
  refine S_getI (v := (G.1 66 61)) (C := RX12) (T := TX12) (N := 89) hx hb hg iX12 hown hK hW kd_66 rfl 61 (by decide) (hg (Cond.fieldLink RX12 475 "SlabWalkModel" "least" "I") m1375) (fun _ h9 => h9) rfl rfl dX12_bestOdds_3 ?_
  have hb_2 : bO (oF G p0.toInt p1.toInt) (G.1 66 61).toInt (G.1 66 61).toInt 0 := bO_0
  refine lv_istore (lv' := [(5, .int (G.1 66 61)), (3, .long 0), (0, .ref (a 66)), (1, .int p0), (2, .int p1)]) hx hb dX12_bestOdds_6 hl (by decide) rfl (fun ls hl => ?_)
  have b_9 : 0 ≤ (G.1 66 62).toInt ∧ (G.1 66 62).toInt ≤ 60 := hB_G.i 66 62 rfl rfl
  refine loop_N (Inv := fun n H locs ls => ∃ (G_3 : GS) (x_7 : Int32) (x_8 : Int64), (n : Int) = 61 - x_7.toInt ∧ (0 ≤ x_7.toInt ∧ x_7.toInt ≤ 61) ∧ (bO (oF G p0.toInt p1.toInt) (G.1 66 61).toInt x_7.toInt x_8) ∧ ((G.1 66 61).toInt ≤ x_7.toInt) ∧ (x_7.toInt ≤ (G.1 66 62).toInt + 1) ∧ Wd D k A a G_3 H ∧ Bd G_3 ∧ Fr [] [] G G_3 ∧ Fr [] [] G G_3 ∧ va_S A s.heap H locs ∧ lv_has ls 8 [(5, .int x_7), (3, .long x_8), (0, .ref (a 66)), (1, .int p0), (2, .int p1)]) (fun n_6 H locs ls ih_5 hI => ?_) (61 - (G.1 66 61).toInt : Int).toNat ⟨G, (G.1 66 61), 0, (Int.toNat_of_nonneg (by omega)), ⟨by omega, by omega⟩, (by assumption), (by omega), (by omega), hW, hB_G, hF, Fr.rf, hS, lv_sub hl [0, 1, 2, 3, 4] rfl⟩
  obtain ⟨G_3, x_7, x_8, hn_14, f_10, f_11, f_12, f_13, hW, hB_G_3, hF, hq_4, hS, hl⟩ := hI
  refine lv_iload hx hb dX12_bestOdds_8 (lv_at hl 0 rfl) ?_
  refine lv_aload_n hx hb dX12_bestOdds_10 rfl (lv_at hl 2 rfl) ?_
  refine S_getI (v := (G.1 66 62)) (C := RX12) (T := TX12) (N := 89) hx hb hg iX12 hown hK hW kd_66 rfl 62 (by decide) (hg (Cond.fieldLink RX12 478 "SlabWalkModel" "most" "I") m1376) (fun _ h9 => h9) rfl ((hq_4.i 66 62 (by decide) (by decide)).trans (rfl)) dX12_bestOdds_11 ?_
  refine lv_icmp_gt (tgt := 54) hx hb dX12_bestOdds_14 (by decide) (fun c_15 => ?_) (fun c_15 => ?_)
  · have c_15 : (G.1 66 62).toInt < x_7.toInt := xI_lt rfl rfl c_15
    refine lv_lload_n hx hb dX12_bestOdds_54 rfl (lv_at hl 1 rfl) ?_
    exact W.lret (v := x_8) hx hb hr (fun t ht _ => ⟨⟨x_8, G_3, rfl, ⟨hB_G_3, hF, (show bO (oF G p0.toInt p1.toInt) (G.1 66 61).toInt ((G.1 66 62).toInt + 1) x_8 from by have h : bO (oF G p0.toInt p1.toInt) (G.1 66 61).toInt x_7.toInt x_8 := (by assumption); rw [show x_7.toInt = (G.1 66 62).toInt + 1 from by omega] at h; exact h)⟩, wd_t ht hW⟩, hS.F ht⟩) hS.2.2 dX12_bestOdds_55
  · have c_15 : x_7.toInt ≤ (G.1 66 62).toInt := xI_nlt rfl rfl c_15
    refine lv_aload_n hx hb dX12_bestOdds_17 rfl (lv_at hl 2 rfl) ?_
    refine lv_iload_n hx hb dX12_bestOdds_18 rfl (lv_at hl 3 rfl) ?_
    refine lv_iload hx hb dX12_bestOdds_19 (lv_at hl 0 rfl) ?_
    refine lv_iload_n hx hb dX12_bestOdds_21 rfl (lv_at hl 4 rfl) ?_
    refine lv_aload_n hx hb dX12_bestOdds_22 rfl (lv_at hl 2 rfl) ?_
    refine lv_iload_n hx hb dX12_bestOdds_23 rfl (lv_at hl 4 rfl) ?_
    refine lv_iconst (v := 1) hx hb dX12_bestOdds_24 (by decide) ?_
    refine lv_isub hx hb dX12_bestOdds_25 ?_
    refine lv_topi (fun y_16 ey_16 => ?_)
    have ty_16 : y_16.toInt = p1.toInt - 1 := xI_sub rfl rfl ey_16 (by omega) (by omega)
    refine S_calll (va_runV (As := [.int y_16]) (rest := [.int p1, .int x_7, .int p0, .ref (a 66)]) ⟨hx, hb, hml, hown, hts⟩ (n_rest l D k A a z G_3 y_16 ⟨by omega, by omega⟩) (cwV 1 hts (gd_V hgd m1951 m1953 m105 m131 m1954) rfl rfl rfl (by decide +kernel) ⟨Nat.le_of_ble_eq_true rfl, Nat.le_of_ble_eq_true rfl⟩) (pre_V hW hB_G_3 hK hZ hS kd_66 rfl) rfl rfl hl.1 rfl (lv_room (Nat.le_of_ble_eq_true rfl)) dX12_bestOdds_26 ⟨Nat.le_of_ble_eq_true rfl, Nat.le_of_ble_eq_true rfl⟩) hS (fun r_17 G_18 H locs hpo hW hS => ?_)
    obtain ⟨hB_G_18, hq_19, hp_20⟩ := hpo
    have hF := hF.call hq_19 (by decide) (by decide)
    have b_21 : 0 ≤ (G.1 66 59).toInt ∧ (G.1 66 59).toInt ≤ 400 := hB_G.i 66 59 rfl rfl
    have g_22 : (G_18.1 66 59).toInt = (G.1 66 59).toInt := by rw [show G_18.1 66 59 = (G.1 66 59) from ((hq_19.i 66 59 (by decide) (by decide)).trans (hq_4.i 66 59 (by decide) (by decide)))]
    have b_23 : 0 ≤ (G.1 66 60).toInt ∧ (G.1 66 60).toInt ≤ 12 := hB_G.i 66 60 rfl rfl
    have g_24 : (G_18.1 66 60).toInt = (G.1 66 60).toInt := by rw [show G_18.1 66 60 = (G.1 66 60) from ((hq_19.i 66 60 (by decide) (by decide)).trans (hq_4.i 66 60 (by decide) (by decide)))]
    refine S_calll (va_runV (As := [.int p0, .int x_7, .int p1, .long r_17]) (rest := []) ⟨hx, hb, hml, hown, hts⟩ (n_oddsBy l D k A a z G_18 p0 x_7 p1 r_17 ⟨by omega, by omega⟩ ⟨by omega, by omega⟩ ⟨by omega, by omega⟩) (cwV 4 hts (gd_V hgd m1959 m1961 m107 m131 m1962) rfl rfl rfl (by decide +kernel) ⟨Nat.le_of_ble_eq_true rfl, Nat.le_of_ble_eq_true rfl⟩) (pre_V hW hB_G_18 hK hZ hS kd_66 rfl) rfl rfl hl.1 rfl (lv_room (Nat.le_of_ble_eq_true rfl)) dX12_bestOdds_29 ⟨Nat.le_of_ble_eq_true rfl, Nat.le_of_ble_eq_true rfl⟩) hS (fun r_25 G_26 H locs hpo hW hS => ?_)
    obtain ⟨hB_G_26, hq_27, hp_28⟩ := hpo
    have hF := hF.call hq_27 (by decide) (by decide)
    have hof_ : r_25 = oF G p0.toInt p1.toInt x_7.toInt := oF_of (f0 := (Fr.rf.call hq_4 (by decide) (by decide))) (f := ((Fr.rf.call hq_4 (by decide) (by decide)).call hq_19 (by decide) (by decide))) hp_28 hp_20 (by omega) (by omega)
    refine lv_lstore (lv' := [(6, .long r_25), (5, .int x_7), (3, .long x_8), (0, .ref (a 66)), (1, .int p0), (2, .int p1)]) hx hb dX12_bestOdds_32 hl (by decide) rfl (fun ls hl => ?_)
    refine lv_lload hx hb dX12_bestOdds_34 (lv_at hl 0 rfl) ?_
    refine lv_lload_n hx hb dX12_bestOdds_36 rfl (lv_at hl 2 rfl) ?_
    refine W.lcmp hx hb dX12_bestOdds_37 ?_
    refine lv_topi (fun y_29 ey_29 => ?_)
    have ty_29 := lcmp_rng ey_29
    have u_30 := lc_gt ey_29
    refine lv_if_le (tgt := 46) hx hb dX12_bestOdds_38 (by decide) (fun c_31 => ?_) (fun c_31 => ?_)
    · have c_31 : y_29.toInt ≤ 0 := xI_le rfl rfl c_31
      refine lv_lload_n hx hb dX12_bestOdds_46 rfl (lv_at hl 2 rfl) ?_
      refine lv_lstore_n (lv' := [(3, .long x_8), (6, .long r_25), (5, .int x_7), (0, .ref (a 66)), (1, .int p0), (2, .int p1)]) hx hb dX12_bestOdds_47 rfl hl (by decide) rfl (fun ls hl => ?_)
      obtain ⟨y_32, ey_32⟩ : ∃ q, q = x_7 + 1 := ⟨_, rfl⟩
      have ty_32 : y_32.toInt = x_7.toInt + 1 := xI_add rfl rfl ey_32 (by omega) (by omega)
      refine lv_iinc (v := y_32) (lv' := [(5, .int y_32), (3, .long x_8), (6, .long r_25), (0, .ref (a 66)), (1, .int p0), (2, .int p1)]) hx hb dX12_bestOdds_48 hl (k := 2) rfl (by rw [ey_32]; rfl) (by decide) rfl (fun ls hl => ?_)
      have hb_33 : bO (oF G p0.toInt p1.toInt) (G.1 66 61).toInt y_32.toInt x_8 := bO_keep (show bO (oF G p0.toInt p1.toInt) (G.1 66 61).toInt x_7.toInt x_8 by assumption) hof_ (by omega) (by omega)
      refine lv_goto (tgt := 8) hx hb dX12_bestOdds_51 (by decide) ?_
      exact ih_5 (61 - y_32.toInt : Int).toNat (by omega) _ _ _ ⟨G_26, y_32, x_8, (Int.toNat_of_nonneg (by omega)), ⟨by omega, by omega⟩, (by assumption), (by omega), (by omega), hW, hB_G_26, hF, (((Fr.rf.call hq_4 (by decide) (by decide)).call hq_19 (by decide) (by decide)).call hq_27 (by decide) (by decide)), hS, lv_sub hl [0, 1, 3, 4, 5] rfl⟩
    · have c_31 : 0 < y_29.toInt := xI_nle rfl rfl c_31
      refine lv_lload hx hb dX12_bestOdds_41 (lv_at hl 0 rfl) ?_
      refine lv_goto (tgt := 47) hx hb dX12_bestOdds_43 (by decide) ?_
      refine lv_lstore_n (lv' := [(3, .long r_25), (6, .long r_25), (5, .int x_7), (0, .ref (a 66)), (1, .int p0), (2, .int p1)]) hx hb dX12_bestOdds_47 rfl hl (by decide) rfl (fun ls hl => ?_)
      obtain ⟨y_34, ey_34⟩ : ∃ q, q = x_7 + 1 := ⟨_, rfl⟩
      have ty_34 : y_34.toInt = x_7.toInt + 1 := xI_add rfl rfl ey_34 (by omega) (by omega)
      refine lv_iinc (v := y_34) (lv' := [(5, .int y_34), (3, .long r_25), (6, .long r_25), (0, .ref (a 66)), (1, .int p0), (2, .int p1)]) hx hb dX12_bestOdds_48 hl (k := 2) rfl (by rw [ey_34]; rfl) (by decide) rfl (fun ls hl => ?_)
      have hb_35 : bO (oF G p0.toInt p1.toInt) (G.1 66 61).toInt y_34.toInt r_25 := bO_more (show bO (oF G p0.toInt p1.toInt) (G.1 66 61).toInt x_7.toInt x_8 by assumption) (by omega) hof_ (by omega) (by omega)
      refine lv_goto (tgt := 8) hx hb dX12_bestOdds_51 (by decide) ?_
      exact ih_5 (61 - y_34.toInt : Int).toNat (by omega) _ _ _ ⟨G_26, y_34, r_25, (Int.toNat_of_nonneg (by omega)), ⟨by omega, by omega⟩, (by assumption), (by omega), (by omega), hW, hB_G_26, hF, (((Fr.rf.call hq_4 (by decide) (by decide)).call hq_19 (by decide) (by decide)).call hq_27 (by decide) (by decide)), hS, lv_sub hl [0, 1, 3, 4, 5] rfl⟩

set_option maxHeartbeats 4000000 in
set_option maxRecDepth 100000 in
theorem n_layBold (l : Launch) (D : va_G) (k : KT) (A : Nat → Prop) (a : Nat → Nat) (z : SK) (G : GS) (p0 : Int32) (p1 : Int32) (p2 : Int32) (p3 : Int32) (p4 : Int32) (hP9 : gP G = 1) (hW9 : gW G = 1) (hO9 : gO G = 1) : Met l yX12_layBold (WS yX12_layBold cX12_layBold 8 (some .boolean)) ({ frames := 5, cells := 0, slots := 0, locals := 117 }) (va_Pc [.ref (a 66), .int p0, .int p1, .int p2, .int p3, .int p4] (cW D k A a z G)) (va_Qi (fun (r : Int32) (G1 : GS) => Bd G1 ∧ Fr [106, 76, 97, 98] [(66, 59), (66, 60), (66, 61), (66, 62), (66, 63)] G G1 ∧ (0 ≤ r.toInt ∧ r.toInt ≤ 1) ∧ (gO G1 = 1 ∧ (r.toInt = 1 → 0 ≤ p3.toInt ∧ p3.toInt ≤ 399 ∧ 1 ≤ p4.toInt ∧ p4.toInt ≤ 8 ∧ 1 ≤ (G1.1 66 61).toInt ∧ (G1.1 66 61).toInt ≤ (G1.1 66 62).toInt))) (fun (G1 : GS) t => Wd D k A a G1 t.heap) A) 0 0 A := by
  refine Met.ofW (cc := cX12_layBold) (maxL := 8) (ret := (some .boolean)) (by decide) rfl ?_
  intro p e s m args below meth c s₁ B hml hv
  obtain ⟨rfl, hW, hB_G, hK, hZ⟩ := hv
  have hx := B.exec
  have hb := B.bytes
  have hr := B.returns
  have hts := atoms_spec (ws := WS yX12_layBold cX12_layBold 8 (some .boolean)) B.pre
  have hgd : ∀ w ∈ gd, w ∈ WS yX12_layBold cX12_layBold 8 (some .boolean) := fun w h => List.mem_cons_of_mem _ h
  have hg : ∀ w ∈ gd, w.before _ s = true := fun w h => hts w (hgd w h)
  have hown : s.vm.findClass RX12 = some m.cls := findClass_of_methodNamed B.named
  have hS : va_S A s.heap s.heap [] := va_S.rf
  have hF : Fr [106, 76, 97, 98] [(66, 59), (66, 60), (66, 61), (66, 62), (66, 63)] G G := Fr.rf
  have hl := lv_entry ([.ref (a 66), .int p0, .int p1, .int p2, .int p3, .int p4]) (n := 8) (Nat.le_of_ble_eq_true rfl)
  rw [lg_entry_eq]
  generalize (lg_sl ([.ref (a 66), .int p0, .int p1, .int p2, .int p3, .int p4]) ++ List.replicate (8 - (lg_sl ([.ref (a 66), .int p0, .int p1, .int p2, .int p3, .int p4])).length) Slot.unset).toArray = ls at hl ⊢
  have hl : lv_has ls 8 [(0, .ref (a 66)), (1, .int p0), (2, .int p1), (3, .int p2), (4, .int p3), (5, .int p4)] := hl
  refine lv_aload_n hx hb dX12_layBold_0 rfl (lv_at hl 0 rfl) ?_
  refine lv_iload_n hx hb dX12_layBold_1 rfl (lv_at hl 1 rfl) ?_
  refine lv_iload_n hx hb dX12_layBold_2 rfl (lv_at hl 2 rfl) ?_
  refine lv_iload_n hx hb dX12_layBold_3 rfl (lv_at hl 3 rfl) ?_
  refine S_calli (va_runV (As := [.int p0, .int p1, .int p2]) (rest := []) ⟨hx, hb, hml, hown, hts⟩ (n_isAsked l D k A a z G p0 p1 p2 ) (cwV 3 hts (gd_V hgd m1826 m1828 m89 m131 m1829) rfl rfl rfl (by decide +kernel) ⟨Nat.le_of_ble_eq_true rfl, Nat.le_of_ble_eq_true rfl⟩) (pre_V hW hB_G hK hZ hS kd_66 rfl) rfl rfl hl.1 rfl (lv_room (Nat.le_of_ble_eq_true rfl)) dX12_layBold_4 ⟨Nat.le_of_ble_eq_true rfl, Nat.le_of_ble_eq_true rfl⟩) hS (fun r_1 G_2 H locs hpo hW hS => ?_)
  obtain ⟨hB_G_2, hq_3, f_5, hp_4⟩ := hpo
  have hF := hF.call hq_3 (by decide) (by decide)
  refine lv_if_eq (tgt := 21) hx hb dX12_layBold_7 (by decide) (fun c_6 => ?_) (fun c_6 => ?_)
  · have c_6 : r_1.toInt = 0 := xI_eq rfl rfl c_6
    refine lv_iconst (v := 0) hx hb dX12_layBold_21 (by decide) ?_
    have g_7 : gO G_2 = gO G := gO_fr (rs := []) (fs := []) (Fr.rf.call hq_3 (by decide) (by decide)) (by decide) (by decide)
    have b_8 : 0 ≤ (G.1 66 61).toInt ∧ (G.1 66 61).toInt ≤ 60 := hB_G.i 66 61 rfl rfl
    have g_9 : (G_2.1 66 61).toInt = (G.1 66 61).toInt := by rw [show G_2.1 66 61 = (G.1 66 61) from (hq_3.i 66 61 (by decide) (by decide))]
    have b_10 : 0 ≤ (G.1 66 62).toInt ∧ (G.1 66 62).toInt ≤ 60 := hB_G.i 66 62 rfl rfl
    have g_11 : (G_2.1 66 62).toInt = (G.1 66 62).toInt := by rw [show G_2.1 66 62 = (G.1 66 62) from (hq_3.i 66 62 (by decide) (by decide))]
    exact W.zret (v := 0) hx hb hr (by decide) (fun t ht _ => ⟨⟨0, G_2, rfl, ⟨hB_G_2, hF, ⟨by decide, by decide⟩, (by have hq : (0 : Int32).toInt = 0 := rfl; (try dsimp only); omega)⟩, wd_t ht hW⟩, hS.F ht⟩) hS.2.2 dX12_layBold_22
  · have c_6 : r_1.toInt ≠ 0 := xI_ne rfl rfl c_6
    refine lv_iload hx hb dX12_layBold_10 (lv_at hl 5 rfl) ?_
    refine lv_iconst (v := 1) hx hb dX12_layBold_12 (by decide) ?_
    refine lv_bipush (v := 8) hx hb dX12_layBold_13 (by decide) ?_
    have qc_12 : (1 : Int32).toInt = 1 := rfl
    have qc_13 : (8 : Int32).toInt = 8 := rfl
    refine S_calli (va_runS (As := [.int p4, .int 1, .int 8]) (rest := []) ⟨hx, hb, hml, hown, hts⟩ (n_isIn l D k A a z G_2 p4 1 8 ) (va_cwS 3 hts (gd_S hgd m1781 m1782 m131 m1783) rfl rfl rfl (by decide +kernel) ⟨Nat.le_of_ble_eq_true rfl, Nat.le_of_ble_eq_true rfl⟩) (pre_S hW hB_G_2 hK hZ hS) rfl rfl hl.1 rfl (lv_room (Nat.le_of_ble_eq_true rfl)) dX12_layBold_15 ⟨Nat.le_of_ble_eq_true rfl, Nat.le_of_ble_eq_true rfl⟩) hS (fun r_14 G_15 H locs hpo hW hS => ?_)
    obtain ⟨hB_G_15, hq_16, f_18, hp_17⟩ := hpo
    have hF := hF.call hq_16 (by decide) (by decide)
    refine lv_if_ne (tgt := 23) hx hb dX12_layBold_18 (by decide) (fun c_19 => ?_) (fun c_19 => ?_)
    · have c_19 : r_14.toInt ≠ 0 := xI_ne rfl rfl c_19
      refine lv_aload_n hx hb dX12_layBold_23 rfl (lv_at hl 0 rfl) ?_
      refine lv_iload_n hx hb dX12_layBold_24 rfl (lv_at hl 1 rfl) ?_
      refine lv_iload_n hx hb dX12_layBold_25 rfl (lv_at hl 2 rfl) ?_
      refine lv_iload_n hx hb dX12_layBold_26 rfl (lv_at hl 3 rfl) ?_
      have g_20 : gP G_15 = gP G := gP_fr (rs := []) (fs := []) ((Fr.rf.call hq_3 (by decide) (by decide)).call hq_16 (by decide) (by decide)) (by decide) (by decide)
      refine S_callv (va_runV (As := [.int p0, .int p1, .int p2]) (rest := []) ⟨hx, hb, hml, hown, hts⟩ (n_layStreet l D k A a z G_15 p0 p1 p2 ⟨by omega, by omega⟩ ⟨by omega, by omega⟩ (by omega)) (cwV 3 hts (gd_V hgd m1834 m1836 m91 m131 m1837) rfl rfl rfl (by decide +kernel) ⟨Nat.le_of_ble_eq_true rfl, Nat.le_of_ble_eq_true rfl⟩) (pre_V hW hB_G_15 hK hZ hS kd_66 rfl) rfl rfl hl.1 rfl (lv_room (Nat.le_of_ble_eq_true rfl)) dX12_layBold_27 ⟨Nat.le_of_ble_eq_true rfl, Nat.le_of_ble_eq_true rfl⟩) hS (fun G_22 H locs hpo hW hS => ?_)
      obtain ⟨hB_G_22, hq_23, hp_24⟩ := hpo
      have hF := hF.call hq_23 (by decide) (by decide)
      have b_25 : 0 ≤ (G.1 66 53).toInt ∧ (G.1 66 53).toInt ≤ 4 := hB_G.i 66 53 rfl rfl
      have u_26 := gW_at hW9 p0 (by omega) (by omega)
      have u_27 : (G_15.1 92 p0.toNatClampNeg).toInt = (G.1 92 p0.toNatClampNeg).toInt := congrArg Int32.toInt (((hq_16.ri 92 (by decide) (by decide) p0.toNatClampNeg).trans (hq_3.ri 92 (by decide) (by decide) p0.toNatClampNeg)))
      have u_28 : (G_15.1 93 p0.toNatClampNeg).toInt = (G.1 93 p0.toNatClampNeg).toInt := congrArg Int32.toInt (((hq_16.ri 93 (by decide) (by decide) p0.toNatClampNeg).trans (hq_3.ri 93 (by decide) (by decide) p0.toNatClampNeg)))
      have u_29 : (G_15.1 94 p0.toNatClampNeg).toInt = (G.1 94 p0.toNatClampNeg).toInt := congrArg Int32.toInt (((hq_16.ri 94 (by decide) (by decide) p0.toNatClampNeg).trans (hq_3.ri 94 (by decide) (by decide) p0.toNatClampNeg)))
      have u_30 : (G_15.1 95 p0.toNatClampNeg).toInt = (G.1 95 p0.toNatClampNeg).toInt := congrArg Int32.toInt (((hq_16.ri 95 (by decide) (by decide) p0.toNatClampNeg).trans (hq_3.ri 95 (by decide) (by decide) p0.toNatClampNeg)))
      have b_31 : 0 ≤ (G_22.1 66 60).toInt ∧ (G_22.1 66 60).toInt ≤ 12 := hB_G_22.i 66 60 rfl rfl
      have b_32 : 0 ≤ (G_22.1 66 61).toInt ∧ (G_22.1 66 61).toInt ≤ 60 := hB_G_22.i 66 61 rfl rfl
      have b_33 : 0 ≤ (G_22.1 66 62).toInt ∧ (G_22.1 66 62).toInt ≤ 60 := hB_G_22.i 66 62 rfl rfl
      have b_34 : 0 ≤ (G_22.1 66 63).toInt ∧ (G_22.1 66 63).toInt ≤ 99 := hB_G_22.i 66 63 rfl rfl
      refine lv_aload_n hx hb dX12_layBold_30 rfl (lv_at hl 0 rfl) ?_
      refine lv_iload hx hb dX12_layBold_31 (lv_at hl 4 rfl) ?_
      have b_35 : 0 ≤ (G_22.1 66 59).toInt ∧ (G_22.1 66 59).toInt ≤ 400 := hB_G_22.i 66 59 rfl rfl
      refine S_calli (va_runV (As := [.int p3]) (rest := []) ⟨hx, hb, hml, hown, hts⟩ (n_stands1 l D k A a z G_22 p3 ) (cwV 1 hts (gd_V hgd m1838 m1840 m92 m131 m1841) rfl rfl rfl (by decide +kernel) ⟨Nat.le_of_ble_eq_true rfl, Nat.le_of_ble_eq_true rfl⟩) (pre_V hW hB_G_22 hK hZ hS kd_66 rfl) rfl rfl hl.1 rfl (lv_room (Nat.le_of_ble_eq_true rfl)) dX12_layBold_33 ⟨Nat.le_of_ble_eq_true rfl, Nat.le_of_ble_eq_true rfl⟩) hS (fun r_36 G_37 H locs hpo hW hS => ?_)
      obtain ⟨hB_G_37, hq_38, f_40, hp_39⟩ := hpo
      have hF := hF.call hq_38 (by decide) (by decide)
      refine lv_if_ne (tgt := 41) hx hb dX12_layBold_36 (by decide) (fun c_41 => ?_) (fun c_41 => ?_)
      · have c_41 : r_36.toInt ≠ 0 := xI_ne rfl rfl c_41
        refine lv_iconst (v := 0) hx hb dX12_layBold_41 (by decide) ?_
        refine lv_istore (lv' := [(6, .int 0), (0, .ref (a 66)), (1, .int p0), (2, .int p1), (3, .int p2), (4, .int p3), (5, .int p4)]) hx hb dX12_layBold_42 hl (by decide) rfl (fun ls hl => ?_)
        have g_47 : gO G_37 = gO G := gO_fr (rs := [76, 97, 98]) (fs := [(66, 59), (66, 60), (66, 61), (66, 62), (66, 63)]) ((((Fr.rf.call hq_3 (by decide) (by decide)).call hq_16 (by decide) (by decide)).call hq_23 (by decide) (by decide)).call hq_38 (by decide) (by decide)) (by decide) (by decide)
        have qc_48 : (0 : Int32).toInt = 0 := rfl
        refine loop_N (Inv := fun n H locs ls => ∃ (G_42 : GS) (x_46 : Int32), (n : Int) = 512 - x_46.toInt ∧ (0 ≤ x_46.toInt ∧ x_46.toInt ≤ 512) ∧ (gO G_42 = 1) ∧ Wd D k A a G_42 H ∧ Bd G_42 ∧ Fr [106, 76, 97, 98] [(66, 59), (66, 60), (66, 61), (66, 62), (66, 63)] G G_42 ∧ Fr [106] [] G_37 G_42 ∧ va_S A s.heap H locs ∧ lv_has ls 8 [(6, .int x_46), (0, .ref (a 66)), (5, .int p4)]) (fun n_45 H locs ls ih_44 hI => ?_) (512 - 0 : Int).toNat ⟨G_37, 0, (Int.toNat_of_nonneg (by omega)), ⟨by omega, by omega⟩, (by omega), hW, hB_G_37, hF, Fr.rf, hS, lv_sub hl [0, 1, 6] rfl⟩
        obtain ⟨G_42, x_46, hn_51, f_49, f_50, hW, hB_G_42, hF, hq_43, hS, hl⟩ := hI
        refine lv_iload hx hb dX12_layBold_44 (lv_at hl 0 rfl) ?_
        refine lv_sipush (v := 512) hx hb dX12_layBold_46 (by decide) ?_
        refine lv_icmp_ge (tgt := 66) hx hb dX12_layBold_49 (by decide) (fun c_52 => ?_) (fun c_52 => ?_)
        · have c_52 : 512 ≤ x_46.toInt := xI_le rfl rfl c_52
          refine lv_iconst (v := 1) hx hb dX12_layBold_66 (by decide) ?_
          refine lv_istore (lv' := [(6, .int 1), (0, .ref (a 66)), (5, .int p4)]) hx hb dX12_layBold_67 hl (by decide) rfl (fun ls hl => ?_)
          have qc_58 : (1 : Int32).toInt = 1 := rfl
          refine loop_N (Inv := fun n H locs ls => ∃ (G_53 : GS) (x_57 : Int32), (n : Int) = 8 - x_57.toInt ∧ (1 ≤ x_57.toInt ∧ x_57.toInt ≤ 8) ∧ (gO G_53 = 1) ∧ Wd D k A a G_53 H ∧ Bd G_53 ∧ Fr [106, 76, 97, 98] [(66, 59), (66, 60), (66, 61), (66, 62), (66, 63)] G G_53 ∧ Fr [106] [] G_42 G_53 ∧ va_S A s.heap H locs ∧ lv_has ls 8 [(6, .int x_57), (0, .ref (a 66)), (5, .int p4)]) (fun n_56 H locs ls ih_55 hI => ?_) (8 - 1 : Int).toNat ⟨G_42, 1, (Int.toNat_of_nonneg (by omega)), ⟨by omega, by omega⟩, (by omega), hW, hB_G_42, hF, Fr.rf, hS, lv_sub hl [0, 1, 2] rfl⟩
          obtain ⟨G_53, x_57, hn_61, f_59, f_60, hW, hB_G_53, hF, hq_54, hS, hl⟩ := hI
          refine lv_iload hx hb dX12_layBold_69 (lv_at hl 0 rfl) ?_
          refine lv_iload hx hb dX12_layBold_71 (lv_at hl 2 rfl) ?_
          refine lv_icmp_ge (tgt := 134) hx hb dX12_layBold_73 (by decide) (fun c_62 => ?_) (fun c_62 => ?_)
          · have c_62 : p4.toInt ≤ x_57.toInt := xI_le rfl rfl c_62
            refine lv_iconst (v := 1) hx hb dX12_layBold_134 (by decide) ?_
            have g_63 : (G_53.1 66 61).toInt = (G_22.1 66 61).toInt := by rw [show G_53.1 66 61 = (G_22.1 66 61) from ((hq_54.i 66 61 (by decide) (by decide)).trans ((hq_43.i 66 61 (by decide) (by decide)).trans ((hq_38.i 66 61 (by decide) (by decide)).trans (rfl))))]
            have g_64 : (G_53.1 66 62).toInt = (G_22.1 66 62).toInt := by rw [show G_53.1 66 62 = (G_22.1 66 62) from ((hq_54.i 66 62 (by decide) (by decide)).trans ((hq_43.i 66 62 (by decide) (by decide)).trans ((hq_38.i 66 62 (by decide) (by decide)).trans (rfl))))]
            exact W.zret (v := 1) hx hb hr (by decide) (fun t ht _ => ⟨⟨1, G_53, rfl, ⟨hB_G_53, hF, ⟨by decide, by decide⟩, (by have hq : (1 : Int32).toInt = 1 := rfl; (try dsimp only); omega)⟩, wd_t ht hW⟩, hS.F ht⟩) hS.2.2 dX12_layBold_135
          · have c_62 : x_57.toInt < p4.toInt := xI_nle rfl rfl c_62
            refine lv_iconst (v := 0) hx hb dX12_layBold_76 (by decide) ?_
            refine lv_istore (lv' := [(7, .int 0), (6, .int x_57), (0, .ref (a 66)), (5, .int p4)]) hx hb dX12_layBold_77 hl (by decide) rfl (fun ls hl => ?_)
            have qc_70 : (0 : Int32).toInt = 0 := rfl
            refine loop_N (Inv := fun n H locs ls => ∃ (G_65 : GS) (x_69 : Int32), (n : Int) = 400 - x_69.toInt ∧ (0 ≤ x_69.toInt ∧ x_69.toInt ≤ 400) ∧ (gO G_65 = 1) ∧ Wd D k A a G_65 H ∧ Bd G_65 ∧ Fr [106, 76, 97, 98] [(66, 59), (66, 60), (66, 61), (66, 62), (66, 63)] G G_65 ∧ Fr [106] [] G_53 G_65 ∧ va_S A s.heap H locs ∧ lv_has ls 8 [(7, .int x_69), (6, .int x_57), (0, .ref (a 66)), (5, .int p4)]) (fun n_68 H locs ls ih_67 hI => ?_) (400 - 0 : Int).toNat ⟨G_53, 0, (Int.toNat_of_nonneg (by omega)), ⟨by omega, by omega⟩, (by omega), hW, hB_G_53, hF, Fr.rf, hS, lv_sub hl [0, 1, 2, 3] rfl⟩
            obtain ⟨G_65, x_69, hn_73, f_71, f_72, hW, hB_G_65, hF, hq_66, hS, hl⟩ := hI
            refine lv_iload hx hb dX12_layBold_79 (lv_at hl 0 rfl) ?_
            refine lv_sipush (v := 400) hx hb dX12_layBold_81 (by decide) ?_
            refine lv_icmp_ge (tgt := 128) hx hb dX12_layBold_84 (by decide) (fun c_74 => ?_) (fun c_74 => ?_)
            · have c_74 : 400 ≤ x_69.toInt := xI_le rfl rfl c_74
              obtain ⟨y_75, ey_75⟩ : ∃ q, q = x_57 + 1 := ⟨_, rfl⟩
              have ty_75 : y_75.toInt = x_57.toInt + 1 := xI_add rfl rfl ey_75 (by omega) (by omega)
              refine lv_iinc (v := y_75) (lv' := [(6, .int y_75), (7, .int x_69), (0, .ref (a 66)), (5, .int p4)]) hx hb dX12_layBold_128 hl (k := 1) rfl (by rw [ey_75]; rfl) (by decide) rfl (fun ls hl => ?_)
              refine lv_goto (tgt := 69) hx hb dX12_layBold_131 (by decide) ?_
              exact ih_55 (8 - y_75.toInt : Int).toNat (by omega) _ _ _ ⟨G_65, y_75, (Int.toNat_of_nonneg (by omega)), ⟨by omega, by omega⟩, (by omega), hW, hB_G_65, hF, ((Fr.rf.call hq_54 (by decide) (by decide)).call hq_66 (by decide) (by decide)), hS, lv_sub hl [0, 2, 3] rfl⟩
            · have c_74 : x_69.toInt < 400 := xI_nle rfl rfl c_74
              refine lv_aload_n hx hb dX12_layBold_87 rfl (lv_at hl 2 rfl) ?_
              refine S_getR (n := 106) (C := RX12) (T := TX12) (N := 89) hx hb hg iX12 hown hK hW kd_66 rfl 72 (by decide) (hg (Cond.fieldLink RX12 139 "SlabWalkModel" "odds" "[J") m1386) (fun _ h9 => h9) rfl dX12_layBold_88 ?_
              refine lv_sipush (v := 512) hx hb dX12_layBold_91 (by decide) ?_
              refine lv_iload hx hb dX12_layBold_94 (lv_at hl 1 rfl) ?_
              refine lv_imul hx hb dX12_layBold_96 ?_
              refine lv_topi (fun y_76 ey_76 => ?_)
              have ty_76 : y_76.toInt = 512 * x_57.toInt := xI_mul rfl rfl ey_76 (by omega) (by omega)
              refine lv_iload hx hb dX12_layBold_97 (lv_at hl 0 rfl) ?_
              refine lv_iadd hx hb dX12_layBold_99 ?_
              refine lv_topi (fun y_77 ey_77 => ?_)
              have ty_77 : y_77.toInt = y_76.toInt + x_69.toInt := xI_add rfl rfl ey_77 (by omega) (by omega)
              refine lv_aload_n hx hb dX12_layBold_100 rfl (lv_at hl 2 rfl) ?_
              refine lv_iload hx hb dX12_layBold_101 (lv_at hl 0 rfl) ?_
              have g_78 : (G_65.1 66 59).toInt = (G_22.1 66 59).toInt := by rw [show G_65.1 66 59 = (G_22.1 66 59) from ((hq_66.i 66 59 (by decide) (by decide)).trans ((hq_54.i 66 59 (by decide) (by decide)).trans ((hq_43.i 66 59 (by decide) (by decide)).trans ((hq_38.i 66 59 (by decide) (by decide)).trans (rfl)))))]
              have g_79 : (G_65.1 66 60).toInt = (G_22.1 66 60).toInt := by rw [show G_65.1 66 60 = (G_22.1 66 60) from ((hq_66.i 66 60 (by decide) (by decide)).trans ((hq_54.i 66 60 (by decide) (by decide)).trans ((hq_43.i 66 60 (by decide) (by decide)).trans ((hq_38.i 66 60 (by decide) (by decide)).trans (rfl)))))]
              refine S_calli (va_runV (As := [.int x_69]) (rest := [.int y_77, .ref (a 106)]) ⟨hx, hb, hml, hown, hts⟩ (n_stands1 l D k A a z G_65 x_69 ) (cwV 1 hts (gd_V hgd m1838 m1840 m92 m131 m1841) rfl rfl rfl (by decide +kernel) ⟨Nat.le_of_ble_eq_true rfl, Nat.le_of_ble_eq_true rfl⟩) (pre_V hW hB_G_65 hK hZ hS kd_66 rfl) rfl rfl hl.1 rfl (lv_room (Nat.le_of_ble_eq_true rfl)) dX12_layBold_103 ⟨Nat.le_of_ble_eq_true rfl, Nat.le_of_ble_eq_true rfl⟩) hS (fun r_80 G_81 H locs hpo hW hS => ?_)
              obtain ⟨hB_G_81, hq_82, f_84, hp_83⟩ := hpo
              have hF := hF.call hq_82 (by decide) (by decide)
              refine lv_if_eq (tgt := 120) hx hb dX12_layBold_106 (by decide) (fun c_85 => ?_) (fun c_85 => ?_)
              · have c_85 : r_80.toInt = 0 := xI_eq rfl rfl c_85
                refine lv_lconst (v := 0) hx hb dX12_layBold_120 (by decide) ?_
                have g_86 : gO G_81 = gO G_65 := gO_fr (rs := []) (fs := []) (Fr.rf.call hq_82 (by decide) (by decide)) (by decide) (by decide)
                refine S_last hx hb hK hW hS kd_106 (vin (by omega) (by omega)) dX12_layBold_121 (fun G_87 H locs eG_87 hW hS => ?_)
                have hB_G_87 : Bd G_87 := hB_G_81.putl eG_87
                have hF := hF.putl eG_87 (Or.inl (by decide))
                have u_88 := p27_pos (x_57.toInt).toNat
                have u_89 : (0 : Int64).toInt = 0 := rfl
                have u_90 : gO G_87 = 1 := gO_put (x := y_77) (n := (x_57.toInt).toNat) (by omega) eG_87 (by omega) (by omega) (by omega) (by omega)
                obtain ⟨y_91, ey_91⟩ : ∃ q, q = x_69 + 1 := ⟨_, rfl⟩
                have ty_91 : y_91.toInt = x_69.toInt + 1 := xI_add rfl rfl ey_91 (by omega) (by omega)
                refine lv_iinc (v := y_91) (lv' := [(7, .int y_91), (6, .int x_57), (0, .ref (a 66)), (5, .int p4)]) hx hb dX12_layBold_122 hl (k := 0) rfl (by rw [ey_91]; rfl) (by decide) rfl (fun ls hl => ?_)
                refine lv_goto (tgt := 79) hx hb dX12_layBold_125 (by decide) ?_
                exact ih_67 (400 - y_91.toInt : Int).toNat (by omega) _ _ _ ⟨G_87, y_91, (Int.toNat_of_nonneg (by omega)), ⟨by omega, by omega⟩, (by omega), hW, hB_G_87, hF, (((Fr.rf.call hq_66 (by decide) (by decide)).call hq_82 (by decide) (by decide)).putl eG_87 (Or.inl (by decide))), hS, lv_sub hl [0, 1, 2, 3] rfl⟩
              · have c_85 : r_80.toInt ≠ 0 := xI_ne rfl rfl c_85
                refine lv_aload_n hx hb dX12_layBold_109 rfl (lv_at hl 2 rfl) ?_
                refine lv_iload hx hb dX12_layBold_110 (lv_at hl 0 rfl) ?_
                refine lv_iload hx hb dX12_layBold_112 (lv_at hl 1 rfl) ?_
                have g_92 : (G_81.1 66 61).toInt = (G_22.1 66 61).toInt := by rw [show G_81.1 66 61 = (G_22.1 66 61) from ((hq_82.i 66 61 (by decide) (by decide)).trans ((hq_66.i 66 61 (by decide) (by decide)).trans ((hq_54.i 66 61 (by decide) (by decide)).trans ((hq_43.i 66 61 (by decide) (by decide)).trans ((hq_38.i 66 61 (by decide) (by decide)).trans (rfl))))))]
                have g_93 : (G_81.1 66 62).toInt = (G_22.1 66 62).toInt := by rw [show G_81.1 66 62 = (G_22.1 66 62) from ((hq_82.i 66 62 (by decide) (by decide)).trans ((hq_66.i 66 62 (by decide) (by decide)).trans ((hq_54.i 66 62 (by decide) (by decide)).trans ((hq_43.i 66 62 (by decide) (by decide)).trans ((hq_38.i 66 62 (by decide) (by decide)).trans (rfl))))))]
                have g_94 : (G_81.1 66 61).toInt = (G_22.1 66 61).toInt := by rw [show G_81.1 66 61 = (G_22.1 66 61) from ((hq_82.i 66 61 (by decide) (by decide)).trans ((hq_66.i 66 61 (by decide) (by decide)).trans ((hq_54.i 66 61 (by decide) (by decide)).trans ((hq_43.i 66 61 (by decide) (by decide)).trans ((hq_38.i 66 61 (by decide) (by decide)).trans (rfl))))))]
                have g_95 : (G_81.1 66 62).toInt = (G_22.1 66 62).toInt := by rw [show G_81.1 66 62 = (G_22.1 66 62) from ((hq_82.i 66 62 (by decide) (by decide)).trans ((hq_66.i 66 62 (by decide) (by decide)).trans ((hq_54.i 66 62 (by decide) (by decide)).trans ((hq_43.i 66 62 (by decide) (by decide)).trans ((hq_38.i 66 62 (by decide) (by decide)).trans (rfl))))))]
                refine S_calll (va_runV (As := [.int x_69, .int x_57]) (rest := [.int y_77, .ref (a 106)]) ⟨hx, hb, hml, hown, hts⟩ (n_bestOdds l D k A a z G_81 x_69 x_57 ⟨by omega, by omega⟩ ⟨by omega, by omega⟩ (by omega)) (cwV 2 hts (gd_V hgd m1947 m1949 m104 m131 m1950) rfl rfl rfl (by decide +kernel) ⟨Nat.le_of_ble_eq_true rfl, Nat.le_of_ble_eq_true rfl⟩) (pre_V hW hB_G_81 hK hZ hS kd_66 rfl) rfl rfl hl.1 rfl (lv_room (Nat.le_of_ble_eq_true rfl)) dX12_layBold_114 ⟨Nat.le_of_ble_eq_true rfl, Nat.le_of_ble_eq_true rfl⟩) hS (fun r_96 G_97 H locs hpo hW hS => ?_)
                obtain ⟨hB_G_97, hq_98, hp_99⟩ := hpo
                have hF := hF.call hq_98 (by decide) (by decide)
                have g_100 : gO G_81 = gO G_65 := gO_fr (rs := []) (fs := []) (Fr.rf.call hq_82 (by decide) (by decide)) (by decide) (by decide)
                have u_101 := bO_rng hB_G_81 (by omega) (by omega) (by omega) hp_99
                refine lv_goto (tgt := 121) hx hb dX12_layBold_117 (by decide) ?_
                have g_102 : gO G_97 = gO G_65 := gO_fr (rs := []) (fs := []) ((Fr.rf.call hq_82 (by decide) (by decide)).call hq_98 (by decide) (by decide)) (by decide) (by decide)
                refine S_last hx hb hK hW hS kd_106 (vin (by omega) (by omega)) dX12_layBold_121 (fun G_103 H locs eG_103 hW hS => ?_)
                have hB_G_103 : Bd G_103 := hB_G_97.putl eG_103
                have hF := hF.putl eG_103 (Or.inl (by decide))
                have u_104 : gO G_103 = 1 := gO_put (x := y_77) (n := (x_57.toInt).toNat) (by omega) eG_103 (by omega) (by omega) (by omega) (by omega)
                obtain ⟨y_105, ey_105⟩ : ∃ q, q = x_69 + 1 := ⟨_, rfl⟩
                have ty_105 : y_105.toInt = x_69.toInt + 1 := xI_add rfl rfl ey_105 (by omega) (by omega)
                refine lv_iinc (v := y_105) (lv' := [(7, .int y_105), (6, .int x_57), (0, .ref (a 66)), (5, .int p4)]) hx hb dX12_layBold_122 hl (k := 0) rfl (by rw [ey_105]; rfl) (by decide) rfl (fun ls hl => ?_)
                refine lv_goto (tgt := 79) hx hb dX12_layBold_125 (by decide) ?_
                exact ih_67 (400 - y_105.toInt : Int).toNat (by omega) _ _ _ ⟨G_103, y_105, (Int.toNat_of_nonneg (by omega)), ⟨by omega, by omega⟩, (by omega), hW, hB_G_103, hF, ((((Fr.rf.call hq_66 (by decide) (by decide)).call hq_82 (by decide) (by decide)).call hq_98 (by decide) (by decide)).putl eG_103 (Or.inl (by decide))), hS, lv_sub hl [0, 1, 2, 3] rfl⟩
        · have c_52 : x_46.toInt < 512 := xI_nle rfl rfl c_52
          refine lv_aload_n hx hb dX12_layBold_52 rfl (lv_at hl 1 rfl) ?_
          refine S_getR (n := 106) (C := RX12) (T := TX12) (N := 89) hx hb hg iX12 hown hK hW kd_66 rfl 72 (by decide) (hg (Cond.fieldLink RX12 139 "SlabWalkModel" "odds" "[J") m1386) (fun _ h9 => h9) rfl dX12_layBold_53 ?_
          refine lv_iload hx hb dX12_layBold_56 (lv_at hl 0 rfl) ?_
          refine lv_lconst (v := 1) hx hb dX12_layBold_58 (by decide) ?_
          refine S_last hx hb hK hW hS kd_106 (vin (by omega) (by omega)) dX12_layBold_59 (fun G_106 H locs eG_106 hW hS => ?_)
          have hB_G_106 : Bd G_106 := hB_G_42.putl eG_106
          have hF := hF.putl eG_106 (Or.inl (by decide))
          have u_107 : gO G_106 = 1 := gO_put (x := x_46) (n := 0) (by omega) eG_106 (by omega) (by omega) (by decide) (by decide)
          obtain ⟨y_108, ey_108⟩ : ∃ q, q = x_46 + 1 := ⟨_, rfl⟩
          have ty_108 : y_108.toInt = x_46.toInt + 1 := xI_add rfl rfl ey_108 (by omega) (by omega)
          refine lv_iinc (v := y_108) (lv' := [(6, .int y_108), (0, .ref (a 66)), (5, .int p4)]) hx hb dX12_layBold_60 hl (k := 0) rfl (by rw [ey_108]; rfl) (by decide) rfl (fun ls hl => ?_)
          refine lv_goto (tgt := 44) hx hb dX12_layBold_63 (by decide) ?_
          exact ih_44 (512 - y_108.toInt : Int).toNat (by omega) _ _ _ ⟨G_106, y_108, (Int.toNat_of_nonneg (by omega)), ⟨by omega, by omega⟩, (by omega), hW, hB_G_106, hF, ((Fr.rf.call hq_43 (by decide) (by decide)).putl eG_106 (Or.inl (by decide))), hS, lv_sub hl [0, 1, 2] rfl⟩
      · have c_41 : r_36.toInt = 0 := xI_eq rfl rfl c_41
        refine lv_iconst (v := 0) hx hb dX12_layBold_39 (by decide) ?_
        have g_109 : gO G_37 = gO G := gO_fr (rs := [76, 97, 98]) (fs := [(66, 59), (66, 60), (66, 61), (66, 62), (66, 63)]) ((((Fr.rf.call hq_3 (by decide) (by decide)).call hq_16 (by decide) (by decide)).call hq_23 (by decide) (by decide)).call hq_38 (by decide) (by decide)) (by decide) (by decide)
        have g_110 : (G_37.1 66 61).toInt = (G_22.1 66 61).toInt := by rw [show G_37.1 66 61 = (G_22.1 66 61) from ((hq_38.i 66 61 (by decide) (by decide)).trans (rfl))]
        have g_111 : (G_37.1 66 62).toInt = (G_22.1 66 62).toInt := by rw [show G_37.1 66 62 = (G_22.1 66 62) from ((hq_38.i 66 62 (by decide) (by decide)).trans (rfl))]
        exact W.zret (v := 0) hx hb hr (by decide) (fun t ht _ => ⟨⟨0, G_37, rfl, ⟨hB_G_37, hF, ⟨by decide, by decide⟩, (by have hq : (0 : Int32).toInt = 0 := rfl; (try dsimp only); omega)⟩, wd_t ht hW⟩, hS.F ht⟩) hS.2.2 dX12_layBold_40
    · have c_19 : r_14.toInt = 0 := xI_eq rfl rfl c_19
      refine lv_iconst (v := 0) hx hb dX12_layBold_21 (by decide) ?_
      have g_112 : gO G_15 = gO G := gO_fr (rs := []) (fs := []) ((Fr.rf.call hq_3 (by decide) (by decide)).call hq_16 (by decide) (by decide)) (by decide) (by decide)
      have b_113 : 0 ≤ (G.1 66 61).toInt ∧ (G.1 66 61).toInt ≤ 60 := hB_G.i 66 61 rfl rfl
      have g_114 : (G_15.1 66 61).toInt = (G.1 66 61).toInt := by rw [show G_15.1 66 61 = (G.1 66 61) from ((hq_16.i 66 61 (by decide) (by decide)).trans (hq_3.i 66 61 (by decide) (by decide)))]
      have b_115 : 0 ≤ (G.1 66 62).toInt ∧ (G.1 66 62).toInt ≤ 60 := hB_G.i 66 62 rfl rfl
      have g_116 : (G_15.1 66 62).toInt = (G.1 66 62).toInt := by rw [show G_15.1 66 62 = (G.1 66 62) from ((hq_16.i 66 62 (by decide) (by decide)).trans (hq_3.i 66 62 (by decide) (by decide)))]
      exact W.zret (v := 0) hx hb hr (by decide) (fun t ht _ => ⟨⟨0, G_15, rfl, ⟨hB_G_15, hF, ⟨by decide, by decide⟩, (by have hq : (0 : Int32).toInt = 0 := rfl; (try dsimp only); omega)⟩, wd_t ht hW⟩, hS.F ht⟩) hS.2.2 dX12_layBold_22

set_option maxHeartbeats 4000000 in
set_option maxRecDepth 100000 in
theorem n_brave (l : Launch) (D : va_G) (k : KT) (A : Nat → Prop) (a : Nat → Nat) (z : SK) (G : GS) (p0 : Int32) (p1 : Int32) (p2 : Int32) (p3 : Int32) (p4 : Int32) (hP9 : gP G = 1) (hW9 : gW G = 1) (hO9 : gO G = 1) : Met l yX12_brave (WS yX12_brave cX12_brave 6 (some .long)) ({ frames := 6, cells := 0, slots := 0, locals := 144 }) (va_Pc [.ref (a 66), .int p0, .int p1, .int p2, .int p3, .int p4] (cW D k A a z G)) (va_Ql (fun (r : Int64) (G1 : GS) => Bd G1 ∧ Fr [106, 76, 97, 98] [(66, 59), (66, 60), (66, 61), (66, 62), (66, 63)] G G1 ∧ (gO G1 = 1)) (fun (G1 : GS) t => Wd D k A a G1 t.heap) A) 0 0 A := by
  refine Met.ofW (cc := cX12_brave) (maxL := 6) (ret := (some .long)) (by decide) rfl ?_
  intro p e s m args below meth c s₁ B hml hv
  obtain ⟨rfl, hW, hB_G, hK, hZ⟩ := hv
  have hx := B.exec
  have hb := B.bytes
  have hr := B.returns
  have hts := atoms_spec (ws := WS yX12_brave cX12_brave 6 (some .long)) B.pre
  have hgd : ∀ w ∈ gd, w ∈ WS yX12_brave cX12_brave 6 (some .long) := fun w h => List.mem_cons_of_mem _ h
  have hg : ∀ w ∈ gd, w.before _ s = true := fun w h => hts w (hgd w h)
  have hown : s.vm.findClass RX12 = some m.cls := findClass_of_methodNamed B.named
  have hS : va_S A s.heap s.heap [] := va_S.rf
  have hF : Fr [106, 76, 97, 98] [(66, 59), (66, 60), (66, 61), (66, 62), (66, 63)] G G := Fr.rf
  have hl := lv_entry ([.ref (a 66), .int p0, .int p1, .int p2, .int p3, .int p4]) (n := 6) (Nat.le_of_ble_eq_true rfl)
  rw [lg_entry_eq]
  generalize (lg_sl ([.ref (a 66), .int p0, .int p1, .int p2, .int p3, .int p4]) ++ List.replicate (6 - (lg_sl ([.ref (a 66), .int p0, .int p1, .int p2, .int p3, .int p4])).length) Slot.unset).toArray = ls at hl ⊢
  have hl : lv_has ls 6 [(0, .ref (a 66)), (1, .int p0), (2, .int p1), (3, .int p2), (4, .int p3), (5, .int p4)] := hl
  refine lv_aload_n hx hb dX12_brave_0 rfl (lv_at hl 0 rfl) ?_
  refine lv_iload_n hx hb dX12_brave_1 rfl (lv_at hl 1 rfl) ?_
  refine lv_iload_n hx hb dX12_brave_2 rfl (lv_at hl 2 rfl) ?_
  refine lv_iload_n hx hb dX12_brave_3 rfl (lv_at hl 3 rfl) ?_
  refine lv_iload hx hb dX12_brave_4 (lv_at hl 4 rfl) ?_
  refine lv_iload hx hb dX12_brave_6 (lv_at hl 5 rfl) ?_
  refine S_calli (va_runV (As := [.int p0, .int p1, .int p2, .int p3, .int p4]) (rest := []) ⟨hx, hb, hml, hown, hts⟩ (n_layBold l D k A a z G p0 p1 p2 p3 p4 (by omega) (by omega) (by omega)) (cwV 5 hts (gd_V hgd m1943 m1945 m103 m131 m1946) rfl rfl rfl (by decide +kernel) ⟨Nat.le_of_ble_eq_true rfl, Nat.le_of_ble_eq_true rfl⟩) (pre_V hW hB_G hK hZ hS kd_66 rfl) rfl rfl hl.1 rfl (lv_room (Nat.le_of_ble_eq_true rfl)) dX12_brave_8 ⟨Nat.le_of_ble_eq_true rfl, Nat.le_of_ble_eq_true rfl⟩) hS (fun r_1 G_2 H locs hpo hW hS => ?_)
  obtain ⟨hB_G_2, hq_3, f_5, hp_4⟩ := hpo
  have hF := hF.call hq_3 (by decide) (by decide)
  refine lv_if_eq (tgt := 25) hx hb dX12_brave_11 (by decide) (fun c_6 => ?_) (fun c_6 => ?_)
  · have c_6 : r_1.toInt = 0 := xI_eq rfl rfl c_6
    refine lv_ldc2 (v := (-1)) hx hb hown (hg (Cond.constantLong RX12 517 (-1)) m1874) dX12_brave_25 ?_
    exact W.lret (v := (-1)) hx hb hr (fun t ht _ => ⟨⟨(-1), G_2, rfl, ⟨hB_G_2, hF, (by have hq : ((-1) : Int32).toInt = (-1) := rfl; (try dsimp only); omega)⟩, wd_t ht hW⟩, hS.F ht⟩) hS.2.2 dX12_brave_28
  · have c_6 : r_1.toInt ≠ 0 := xI_ne rfl rfl c_6
    refine lv_aload_n hx hb dX12_brave_14 rfl (lv_at hl 0 rfl) ?_
    refine lv_iload hx hb dX12_brave_15 (lv_at hl 4 rfl) ?_
    refine lv_iload hx hb dX12_brave_17 (lv_at hl 5 rfl) ?_
    have b_7 : 0 ≤ (G_2.1 66 61).toInt ∧ (G_2.1 66 61).toInt ≤ 60 := hB_G_2.i 66 61 rfl rfl
    have b_8 : 0 ≤ (G_2.1 66 62).toInt ∧ (G_2.1 66 62).toInt ≤ 60 := hB_G_2.i 66 62 rfl rfl
    refine S_calll (va_runV (As := [.int p3, .int p4]) (rest := []) ⟨hx, hb, hml, hown, hts⟩ (n_bestOdds l D k A a z G_2 p3 p4 ⟨by omega, by omega⟩ ⟨by omega, by omega⟩ (by omega)) (cwV 2 hts (gd_V hgd m1947 m1949 m104 m131 m1950) rfl rfl rfl (by decide +kernel) ⟨Nat.le_of_ble_eq_true rfl, Nat.le_of_ble_eq_true rfl⟩) (pre_V hW hB_G_2 hK hZ hS kd_66 rfl) rfl rfl hl.1 rfl (lv_room (Nat.le_of_ble_eq_true rfl)) dX12_brave_19 ⟨Nat.le_of_ble_eq_true rfl, Nat.le_of_ble_eq_true rfl⟩) hS (fun r_9 G_10 H locs hpo hW hS => ?_)
    obtain ⟨hB_G_10, hq_11, hp_12⟩ := hpo
    have hF := hF.call hq_11 (by decide) (by decide)
    refine lv_goto (tgt := 28) hx hb dX12_brave_22 (by decide) ?_
    have g_13 : gO G_10 = gO G_2 := gO_fr (rs := []) (fs := []) (Fr.rf.call hq_11 (by decide) (by decide)) (by decide) (by decide)
    exact W.lret (v := r_9) hx hb hr (fun t ht _ => ⟨⟨r_9, G_10, rfl, ⟨hB_G_10, hF, (by omega)⟩, wd_t ht hW⟩, hS.F ht⟩) hS.2.2 dX12_brave_28

set_option maxHeartbeats 4000000 in
set_option maxRecDepth 100000 in
theorem n_boldest (l : Launch) (D : va_G) (k : KT) (A : Nat → Prop) (a : Nat → Nat) (z : SK) (G : GS) (p0 : Int32) (p1 : Int32) (p2 : Int32) (p3 : Int32) (p4 : Int32) (hP9 : gP G = 1) (hW9 : gW G = 1) (hO9 : gO G = 1) : Met l yX12_boldest (WS yX12_boldest cX12_boldest 9 (some .int)) ({ frames := 6, cells := 0, slots := 0, locals := 144 }) (va_Pc [.ref (a 66), .int p0, .int p1, .int p2, .int p3, .int p4] (cW D k A a z G)) (va_Qi (fun (r : Int32) (G1 : GS) => Bd G1 ∧ Fr [106, 76, 97, 98] [(66, 59), (66, 60), (66, 61), (66, 62), (66, 63)] G G1 ∧ (gO G1 = 1)) (fun (G1 : GS) t => Wd D k A a G1 t.heap) A) 0 0 A := by
  refine Met.ofW (cc := cX12_boldest) (maxL := 9) (ret := (some .int)) (by decide) rfl ?_
  intro p e s m args below meth c s₁ B hml hv
  obtain ⟨rfl, hW, hB_G, hK, hZ⟩ := hv
  have hx := B.exec
  have hb := B.bytes
  have hr := B.returns
  have hts := atoms_spec (ws := WS yX12_boldest cX12_boldest 9 (some .int)) B.pre
  have hgd : ∀ w ∈ gd, w ∈ WS yX12_boldest cX12_boldest 9 (some .int) := fun w h => List.mem_cons_of_mem _ h
  have hg : ∀ w ∈ gd, w.before _ s = true := fun w h => hts w (hgd w h)
  have hown : s.vm.findClass RX12 = some m.cls := findClass_of_methodNamed B.named
  have hS : va_S A s.heap s.heap [] := va_S.rf
  have hF : Fr [106, 76, 97, 98] [(66, 59), (66, 60), (66, 61), (66, 62), (66, 63)] G G := Fr.rf
  have hl := lv_entry ([.ref (a 66), .int p0, .int p1, .int p2, .int p3, .int p4]) (n := 9) (Nat.le_of_ble_eq_true rfl)
  rw [lg_entry_eq]
  generalize (lg_sl ([.ref (a 66), .int p0, .int p1, .int p2, .int p3, .int p4]) ++ List.replicate (9 - (lg_sl ([.ref (a 66), .int p0, .int p1, .int p2, .int p3, .int p4])).length) Slot.unset).toArray = ls at hl ⊢
  have hl : lv_has ls 9 [(0, .ref (a 66)), (1, .int p0), (2, .int p1), (3, .int p2), (4, .int p3), (5, .int p4)] := hl
  refine lv_aload_n hx hb dX12_boldest_0 rfl (lv_at hl 0 rfl) ?_
  refine lv_iload_n hx hb dX12_boldest_1 rfl (lv_at hl 1 rfl) ?_
  refine lv_iload_n hx hb dX12_boldest_2 rfl (lv_at hl 2 rfl) ?_
  refine lv_iload_n hx hb dX12_boldest_3 rfl (lv_at hl 3 rfl) ?_
  refine lv_iload hx hb dX12_boldest_4 (lv_at hl 4 rfl) ?_
  refine lv_iload hx hb dX12_boldest_6 (lv_at hl 5 rfl) ?_
  refine S_calli (va_runV (As := [.int p0, .int p1, .int p2, .int p3, .int p4]) (rest := []) ⟨hx, hb, hml, hown, hts⟩ (n_layBold l D k A a z G p0 p1 p2 p3 p4 (by omega) (by omega) (by omega)) (cwV 5 hts (gd_V hgd m1943 m1945 m103 m131 m1946) rfl rfl rfl (by decide +kernel) ⟨Nat.le_of_ble_eq_true rfl, Nat.le_of_ble_eq_true rfl⟩) (pre_V hW hB_G hK hZ hS kd_66 rfl) rfl rfl hl.1 rfl (lv_room (Nat.le_of_ble_eq_true rfl)) dX12_boldest_8 ⟨Nat.le_of_ble_eq_true rfl, Nat.le_of_ble_eq_true rfl⟩) hS (fun r_1 G_2 H locs hpo hW hS => ?_)
  obtain ⟨hB_G_2, hq_3, f_5, hp_4⟩ := hpo
  have hF := hF.call hq_3 (by decide) (by decide)
  refine lv_if_ne (tgt := 16) hx hb dX12_boldest_11 (by decide) (fun c_6 => ?_) (fun c_6 => ?_)
  · have c_6 : r_1.toInt ≠ 0 := xI_ne rfl rfl c_6
    refine lv_aload_n hx hb dX12_boldest_16 rfl (lv_at hl 0 rfl) ?_
    refine lv_iload hx hb dX12_boldest_17 (lv_at hl 4 rfl) ?_
    refine lv_iload hx hb dX12_boldest_19 (lv_at hl 5 rfl) ?_
    have b_7 : 0 ≤ (G_2.1 66 61).toInt ∧ (G_2.1 66 61).toInt ≤ 60 := hB_G_2.i 66 61 rfl rfl
    have b_8 : 0 ≤ (G_2.1 66 62).toInt ∧ (G_2.1 66 62).toInt ≤ 60 := hB_G_2.i 66 62 rfl rfl
    refine S_calll (va_runV (As := [.int p3, .int p4]) (rest := []) ⟨hx, hb, hml, hown, hts⟩ (n_bestOdds l D k A a z G_2 p3 p4 ⟨by omega, by omega⟩ ⟨by omega, by omega⟩ (by omega)) (cwV 2 hts (gd_V hgd m1947 m1949 m104 m131 m1950) rfl rfl rfl (by decide +kernel) ⟨Nat.le_of_ble_eq_true rfl, Nat.le_of_ble_eq_true rfl⟩) (pre_V hW hB_G_2 hK hZ hS kd_66 rfl) rfl rfl hl.1 rfl (lv_room (Nat.le_of_ble_eq_true rfl)) dX12_boldest_21 ⟨Nat.le_of_ble_eq_true rfl, Nat.le_of_ble_eq_true rfl⟩) hS (fun r_9 G_10 H locs hpo hW hS => ?_)
    obtain ⟨hB_G_10, hq_11, hp_12⟩ := hpo
    have hF := hF.call hq_11 (by decide) (by decide)
    obtain ⟨b9, hb1, hb2, hb3⟩ := bO_wit hp_12 (by omega) (fun b _ _ => (oF_rng hB_G_2 (by omega) (by omega) (by omega)).1)
    refine lv_lstore (lv' := [(6, .long r_9), (0, .ref (a 66)), (1, .int p0), (2, .int p1), (3, .int p2), (4, .int p3), (5, .int p4)]) hx hb dX12_boldest_24 hl (by decide) rfl (fun ls hl => ?_)
    refine lv_aload_n hx hb dX12_boldest_26 rfl (lv_at hl 1 rfl) ?_
    refine S_getI (v := (G_2.1 66 61)) (C := RX12) (T := TX12) (N := 89) hx hb hg iX12 hown hK hW kd_66 rfl 61 (by decide) (hg (Cond.fieldLink RX12 475 "SlabWalkModel" "least" "I") m1375) (fun _ h9 => h9) rfl ((hq_11.i 66 61 (by decide) (by decide)).trans (rfl)) dX12_boldest_27 ?_
    refine lv_istore (lv' := [(8, .int (G_2.1 66 61)), (6, .long r_9), (0, .ref (a 66)), (1, .int p0), (2, .int p1), (3, .int p2), (4, .int p3), (5, .int p4)]) hx hb dX12_boldest_30 hl (by decide) rfl (fun ls hl => ?_)
    refine loop_N (Inv := fun n H locs ls => ∃ (G_13 : GS) (x_17 : Int32), (n : Int) = b9 - x_17.toInt ∧ (0 ≤ x_17.toInt ∧ x_17.toInt ≤ 60) ∧ (x_17.toInt ≤ b9) ∧ Wd D k A a G_13 H ∧ Bd G_13 ∧ Fr [106, 76, 97, 98] [(66, 59), (66, 60), (66, 61), (66, 62), (66, 63)] G G_13 ∧ Fr [] [] G_10 G_13 ∧ va_S A s.heap H locs ∧ lv_has ls 9 [(8, .int x_17), (6, .long r_9), (0, .ref (a 66)), (4, .int p3), (5, .int p4)]) (fun n_16 H locs ls ih_15 hI => ?_) (b9 - (G_2.1 66 61).toInt : Int).toNat ⟨G_10, (G_2.1 66 61), (Int.toNat_of_nonneg (by omega)), ⟨by omega, by omega⟩, (by omega), hW, hB_G_10, hF, Fr.rf, hS, lv_sub hl [0, 1, 2, 6, 7] rfl⟩
    obtain ⟨G_13, x_17, hn_20, f_18, f_19, hW, hB_G_13, hF, hq_14, hS, hl⟩ := hI
    refine lv_aload_n hx hb dX12_boldest_32 rfl (lv_at hl 2 rfl) ?_
    refine lv_iload hx hb dX12_boldest_33 (lv_at hl 3 rfl) ?_
    refine lv_iload hx hb dX12_boldest_35 (lv_at hl 0 rfl) ?_
    refine lv_iload hx hb dX12_boldest_37 (lv_at hl 4 rfl) ?_
    refine lv_aload_n hx hb dX12_boldest_39 rfl (lv_at hl 2 rfl) ?_
    refine lv_iload hx hb dX12_boldest_40 (lv_at hl 4 rfl) ?_
    refine lv_iconst (v := 1) hx hb dX12_boldest_42 (by decide) ?_
    refine lv_isub hx hb dX12_boldest_43 ?_
    refine lv_topi (fun y_21 ey_21 => ?_)
    have ty_21 : y_21.toInt = p4.toInt - 1 := xI_sub rfl rfl ey_21 (by omega) (by omega)
    refine S_calll (va_runV (As := [.int y_21]) (rest := [.int p4, .int x_17, .int p3, .ref (a 66)]) ⟨hx, hb, hml, hown, hts⟩ (n_rest l D k A a z G_13 y_21 ⟨by omega, by omega⟩) (cwV 1 hts (gd_V hgd m1951 m1953 m105 m131 m1954) rfl rfl rfl (by decide +kernel) ⟨Nat.le_of_ble_eq_true rfl, Nat.le_of_ble_eq_true rfl⟩) (pre_V hW hB_G_13 hK hZ hS kd_66 rfl) rfl rfl hl.1 rfl (lv_room (Nat.le_of_ble_eq_true rfl)) dX12_boldest_44 ⟨Nat.le_of_ble_eq_true rfl, Nat.le_of_ble_eq_true rfl⟩) hS (fun r_22 G_23 H locs hpo hW hS => ?_)
    obtain ⟨hB_G_23, hq_24, hp_25⟩ := hpo
    have hF := hF.call hq_24 (by decide) (by decide)
    have b_26 : 0 ≤ (G_2.1 66 59).toInt ∧ (G_2.1 66 59).toInt ≤ 400 := hB_G_2.i 66 59 rfl rfl
    have g_27 : (G_23.1 66 59).toInt = (G_2.1 66 59).toInt := by rw [show G_23.1 66 59 = (G_2.1 66 59) from ((hq_24.i 66 59 (by decide) (by decide)).trans ((hq_14.i 66 59 (by decide) (by decide)).trans (hq_11.i 66 59 (by decide) (by decide))))]
    have b_28 : 0 ≤ (G_2.1 66 60).toInt ∧ (G_2.1 66 60).toInt ≤ 12 := hB_G_2.i 66 60 rfl rfl
    have g_29 : (G_23.1 66 60).toInt = (G_2.1 66 60).toInt := by rw [show G_23.1 66 60 = (G_2.1 66 60) from ((hq_24.i 66 60 (by decide) (by decide)).trans ((hq_14.i 66 60 (by decide) (by decide)).trans (hq_11.i 66 60 (by decide) (by decide))))]
    refine S_calll (va_runV (As := [.int p3, .int x_17, .int p4, .long r_22]) (rest := []) ⟨hx, hb, hml, hown, hts⟩ (n_oddsBy l D k A a z G_23 p3 x_17 p4 r_22 ⟨by omega, by omega⟩ ⟨by omega, by omega⟩ ⟨by omega, by omega⟩) (cwV 4 hts (gd_V hgd m1959 m1961 m107 m131 m1962) rfl rfl rfl (by decide +kernel) ⟨Nat.le_of_ble_eq_true rfl, Nat.le_of_ble_eq_true rfl⟩) (pre_V hW hB_G_23 hK hZ hS kd_66 rfl) rfl rfl hl.1 rfl (lv_room (Nat.le_of_ble_eq_true rfl)) dX12_boldest_47 ⟨Nat.le_of_ble_eq_true rfl, Nat.le_of_ble_eq_true rfl⟩) hS (fun r_30 G_31 H locs hpo hW hS => ?_)
    obtain ⟨hB_G_31, hq_32, hp_33⟩ := hpo
    have hF := hF.call hq_32 (by decide) (by decide)
    have hof_ : r_30 = oF G_2 p3.toInt p4.toInt x_17.toInt := oF_of (f0 := ((Fr.rf.call hq_11 (by decide) (by decide)).call hq_14 (by decide) (by decide))) (f := (((Fr.rf.call hq_11 (by decide) (by decide)).call hq_14 (by decide) (by decide)).call hq_24 (by decide) (by decide))) hp_33 hp_25 (by omega) (by omega)
    refine lv_lload hx hb dX12_boldest_50 (lv_at hl 1 rfl) ?_
    refine W.lcmp hx hb dX12_boldest_52 ?_
    refine lv_topi (fun y_34 ey_34 => ?_)
    have ty_34 := lcmp_rng ey_34
    refine lv_if_eq (tgt := 62) hx hb dX12_boldest_53 (by decide) (fun c_35 => ?_) (fun c_35 => ?_)
    · have c_35 : y_34.toInt = 0 := xI_eq rfl rfl c_35
      refine lv_iload hx hb dX12_boldest_62 (lv_at hl 0 rfl) ?_
      have g_36 : gO G_31 = gO G_2 := gO_fr (rs := []) (fs := []) ((((Fr.rf.call hq_11 (by decide) (by decide)).call hq_14 (by decide) (by decide)).call hq_24 (by decide) (by decide)).call hq_32 (by decide) (by decide)) (by decide) (by decide)
      exact W.iret (v := x_17) hx hb hr (fun t ht _ => ⟨⟨x_17, G_31, rfl, ⟨hB_G_31, hF, (by omega)⟩, wd_t ht hW⟩, hS.F ht⟩) hS.2.2 dX12_boldest_64
    · have c_35 : y_34.toInt ≠ 0 := xI_ne rfl rfl c_35
      have u_37 : x_17.toInt ≠ b9 := fun q => lc_ne ey_34 (by omega) (hof_.trans (by rw [q]; exact hb3))
      obtain ⟨y_38, ey_38⟩ : ∃ q, q = x_17 + 1 := ⟨_, rfl⟩
      have ty_38 : y_38.toInt = x_17.toInt + 1 := xI_add rfl rfl ey_38 (by omega) (by omega)
      refine lv_iinc (v := y_38) (lv' := [(8, .int y_38), (6, .long r_9), (0, .ref (a 66)), (4, .int p3), (5, .int p4)]) hx hb dX12_boldest_56 hl (k := 0) rfl (by rw [ey_38]; rfl) (by decide) rfl (fun ls hl => ?_)
      refine lv_goto (tgt := 32) hx hb dX12_boldest_59 (by decide) ?_
      exact ih_15 (b9 - y_38.toInt : Int).toNat (by omega) _ _ _ ⟨G_31, y_38, (Int.toNat_of_nonneg (by omega)), ⟨by omega, by omega⟩, (by omega), hW, hB_G_31, hF, (((Fr.rf.call hq_14 (by decide) (by decide)).call hq_24 (by decide) (by decide)).call hq_32 (by decide) (by decide)), hS, lv_sub hl [0, 1, 2, 3, 4] rfl⟩
  · have c_6 : r_1.toInt = 0 := xI_eq rfl rfl c_6
    refine lv_iconst (v := (-1)) hx hb dX12_boldest_14 (by decide) ?_
    exact W.iret (v := (-1)) hx hb hr (fun t ht _ => ⟨⟨(-1), G_2, rfl, ⟨hB_G_2, hF, (by have hq : ((-1) : Int32).toInt = (-1) := rfl; (try dsimp only); omega)⟩, wd_t ht hW⟩, hS.F ht⟩) hS.2.2 dX12_boldest_15
