

theorem key76 : ((flatC (Jvm.Cond.and given_1 narrow_1)).drop 13).take 184 = (List.range 184).map (fun j => Cond.eq (.elem (.field (.string RX9 76) "java/lang/String" "value" "[B") (.int (Int32.ofNat j))) (.int ((sByt.getD 0 []).getD j 0))) := by decide +kernel
theorem key60 : ((flatC (Jvm.Cond.and given_1 narrow_1)).drop 201).take 11 = (List.range 11).map (fun j => Cond.eq (.elem (.field (.string RX9 60) "java/lang/String" "value" "[B") (.int (Int32.ofNat j))) (.int ((sByt.getD 1 []).getD j 0))) := by decide +kernel
theorem sx_start {p : Program} {s : State} {m : MethodId} {meth : Method} {c : Code} {b L : Nat} {xs : Nat → Int32} (C0 : lw_At p s m meth c b L xs) {A : Nat → Prop} (hA : ∀ a : Nat, a < s.heap.size → ¬ A a) : ∃ z : SK, Sx A z s := by
  obtain ⟨hx, hb, hr, hml, hown, hts, hX, hbl, hlocks, hgv⟩ := C0
  have hs := flat_of_before _ hgv
  have c1 : (Cond.eq (.static "java/lang/String" "COMPACT_STRINGS" "Z") (.int 1)).before #[Value.ref b] s = true := hs _ (by decide +kernel)
  have c2 : (Cond.isRef (.static "jdk/internal/util/Preconditions" "SIOOBE_FORMATTER" "Ljava/util/function/BiFunction;")).before #[Value.ref b] s = true := hs _ (by decide +kernel)
  obtain ⟨adK, adV, h1, h2⟩ := vk_Sof (args := #[Value.ref b]) (s := s) (N := 2) (tm := fun i => .string RX9 (if i = 0 then 76 else 60)) (len := sLen) (byt := sByt) (A := A)
    (fun i hi => by rcases (show i = 0 ∨ i = 1 by omega) with q | q <;> subst q <;> decide)
    (fun i hi => by
      rcases (show i = 0 ∨ i = 1 by omega) with q | q
      · subst q; exact hs _ (by decide +kernel)
      · subst q; exact hs _ (by decide +kernel))
    (fun i hi => by
      rcases (show i = 0 ∨ i = 1 by omega) with q | q
      · subst q; exact hs _ (by decide +kernel)
      · subst q; exact hs _ (by decide +kernel))
    (fun i hi => by
      rcases (show i = 0 ∨ i = 1 by omega) with q | q
      · subst q; exact hs _ (by decide +kernel)
      · subst q; exact hs _ (by decide +kernel))
    (fun i hi => by
      rcases (show i = 0 ∨ i = 1 by omega) with q | q
      · subst q; exact hs _ (by decide +kernel)
      · subst q; exact hs _ (by decide +kernel))
    (fun i hi => by
      rcases (show i = 0 ∨ i = 1 by omega) with q | q
      · subst q
        intro j hj
        exact hs _ (List.mem_of_mem_drop (List.mem_of_mem_take  (by rw [key76]; exact List.mem_map.mpr ⟨j, List.mem_range.mpr hj, rfl⟩)))
      · subst q
        intro j hj
        exact hs _ (List.mem_of_mem_drop (List.mem_of_mem_take  (by rw [key60]; exact List.mem_map.mpr ⟨j, List.mem_range.mpr hj, rfl⟩))))
    (fun i j hi hj hne => by
      rcases (show i = 0 ∨ i = 1 by omega) with q | q <;> rcases (show j = 0 ∨ j = 1 by omega) with r | r <;> subst q <;> subst r
      · exact absurd rfl hne
      · first | exact Or.inl (hs _ (by decide +kernel)) | exact Or.inr (hs _ (by decide +kernel))
      · first | exact Or.inl (hs _ (by decide +kernel)) | exact Or.inr (hs _ (by decide +kernel))
      · exact absurd rfl hne) hA
  refine ⟨(adK, adV), h1, vk_R.of (hts (.stringRef RX9 76 sTx0) (List.mem_of_getElem? (i := 654) (by decide +kernel))) (h2 0 (by decide)), vk_R.of (hts (.stringRef RX9 60 sTx1) (List.mem_of_getElem? (i := 711) (by decide +kernel))) (h2 1 (by decide)), va_Zof (hts (.laysStatic "java/lang/String" "COMPACT_STRINGS" "Z") (List.mem_of_getElem? (i := 664) (by decide +kernel))) (hts (.initialized "java/lang/String") (List.mem_of_getElem? (i := 133) (by decide +kernel))) (va_eqt c1) hA, va_Zqof (hts (.laysStatic "jdk/internal/util/Preconditions" "SIOOBE_FORMATTER" "Ljava/util/function/BiFunction;") (List.mem_of_getElem? (i := 680) (by decide +kernel))) (hts (.initialized "jdk/internal/util/Preconditions") (List.mem_of_getElem? (i := 135) (by decide +kernel))) c2 hA⟩
