abbrev classes : List vw_C := [(RX0, TX0, 8), (RX1, TX1, 6), (RX2, TX2, 3), (RX3, TX3, 5), (RX4, TX4, 4), (RX5, TX5, 7), (RX6, TX6, 17), (RX7, TX7, 10), (RX8, TX8, 7), (RX9, TX9, 9), (RX10, TX10, 5), (RX11, TX11, 13), (RX12, TX12, 89)]
/-- the good words of the tables: every method's contract takes all of them -/
def gd : List Cond := lw_tbl.filter goodWord
theorem gd_mem {w : Cond} (i : Nat) (h : lw_tbl[i]? = some w) (g : goodWord w = true) : w ∈ gd := List.mem_filter.mpr ⟨List.mem_of_getElem? h, g⟩
theorem gd_r (ws : List Cond) (ps : List Nat) (hp : ws = ps.filterMap (fun i => lw_tbl[i]?)) (h : ws.all goodWord = true) : ∀ w ∈ ws, w ∈ gd := by
  intro w hw
  have h1 := List.all_eq_true.mp h w hw
  rw [hp] at hw
  obtain ⟨i, -, hi⟩ := List.mem_filterMap.mp hw
  exact gd_mem i hi h1
theorem gd_good {w : Cond} (h : w ∈ gd) : (w.onTables && w.keeps) = true ∨ ∃ ty, w = .arrayClass ty := good_of_word (List.mem_filter.mp h).2
abbrev WS (y : MethodName) (c : ByteArray) (n : Nat) (r : Option FieldType) : List Cond := .code y c n r :: gd
theorem gd_in {big ws : List Cond} (hb : ∀ w ∈ gd, w ∈ big) (h : ∀ w ∈ ws, w ∈ gd) : GoodIn big ws := fun w hw => ⟨hb w (h w hw), gd_good (h w hw)⟩
theorem gd_WS {y : MethodName} {c : ByteArray} {n : Nat} {r : Option FieldType} (hc : Cond.code y c n r ∈ gd) : ∀ w ∈ WS y c n r, w ∈ gd := fun w h => (List.mem_cons.mp h).elim (fun e => e ▸ hc) id
theorem gd_V {big : List Cond} {own C : String} {idx : Nat} {y : MethodName} {c : ByteArray} {n : Nat} {r : Option FieldType} (hb : ∀ w ∈ gd, w ∈ big) (h1 : Cond.methodLink own idx y ∈ gd) (h2 : Cond.instanceMethod y ∈ gd) (h3 : Cond.selects C y y ∈ gd) (h4 : Cond.initialized C ∈ gd) (hc : Cond.code y c n r ∈ gd) : GoodIn big (wsV own idx C y (WS y c n r)) :=
  gd_in hb (fun w hw => by
    unfold wsV at hw
    rcases List.mem_append.mp hw with h | h
    · simp only [List.mem_cons, List.not_mem_nil, or_false] at h
      rcases h with rfl | rfl | rfl | rfl
      · exact h1
      · exact h2
      · exact h3
      · exact h4
    · exact gd_WS hc w h)
theorem gd_S {big : List Cond} {own : String} {idx : Nat} {y : MethodName} {c : ByteArray} {n : Nat} {r : Option FieldType} (hb : ∀ w ∈ gd, w ∈ big) (h1 : Cond.methodLink own idx y ∈ gd) (h2 : Cond.static y ∈ gd) (h4 : Cond.initialized y.cls ∈ gd) (hc : Cond.code y c n r ∈ gd) : GoodIn big (va_wsS own idx y (WS y c n r)) :=
  gd_in hb (fun w hw => by
    unfold va_wsS at hw
    rcases List.mem_append.mp hw with h | h
    · simp only [List.mem_cons, List.not_mem_nil, or_false] at h
      rcases h with rfl | rfl | rfl
      · exact h1
      · exact h2
      · exact h4
    · exact gd_WS hc w h)
/-- words that aren't kept by themselves: the nest's private constructors, the class of int[][] -/
def va_AOA (t : FieldType) (U : State) : Prop := (Cond.arrayOver (.array t)).before #[] U = true
def cX (U : State) : Prop := va_AOA .int U ∧ va_Nw (.methodLinkNest RX11 43 yX0_init RX11) U ∧ va_Nw (.methodLinkNest RX11 50 yX10_init RX11) U ∧ va_Nw (.methodLinkNest RX10 18 yX4_init RX11) U ∧ va_Nw (.methodLinkNest RX11 57 yX5_init RX11) U ∧ va_Nw (.methodLinkNest RX11 64 yX1_init RX11) U ∧ va_Nw (.methodLinkNest RX11 71 yX8_init RX11) U
theorem cX.warm {s U : State} (hW : s.WarmedH U.vm) (h : cX s) : cX U := by
  obtain ⟨h0, h1, h2, h3, h4, h5, h6⟩ := h
  exact ⟨over_moved hW.alike h0, va_Nw.warmM hW h1, va_Nw.warmM hW h2, va_Nw.warmM hW h3, va_Nw.warmM hW h4, va_Nw.warmM hW h5, va_Nw.warmM hW h6⟩
theorem cX.calling {U : State} {g : JFrame} {mk : MethodId} {a : Array Value} (h : cX U) : cX (U.calling g mk a) := by
  obtain ⟨h0, h1, h2, h3, h4, h5, h6⟩ := h
  exact ⟨over_moved (Vm.Alike.refl U.vm) h0, va_Nw.same rfl rfl h1, va_Nw.same rfl rfl h2, va_Nw.same rfl rfl h3, va_Nw.same rfl rfl h4, va_Nw.same rfl rfl h5, va_Nw.same rfl rfl h6⟩
abbrev TY (k : ClassId × ClassId × ClassId × ClassId) : List (ClassId × FieldType) := [(k.1, .byte), (k.2.1, .int), (k.2.2.1, .long), (k.2.2.2, .boolean)]
/-- where a contract starts: the cells ws, all classes known, the heap of size sz -/
def cP (D : va_G) (k : ClassId × ClassId × ClassId × ClassId) (ws : va_W) (sz : Nat) (U : State) : Prop := U.heap.size = sz ∧ va_P D classes ws U.heap ∧ (va_K D classes (TY k) U ∧ cX U) ∧ va_D (fun _ => True) ws
/-- the cells where a contract ends -/
def cB (D : va_G) (A : Nat → Prop) (ws : va_W) (t : State) : Prop := va_P D classes ws t.heap ∧ va_D A ws
theorem cP_blind {D : va_G} {k : ClassId × ClassId × ClassId × ClassId} {ws : va_W} {sz : Nat} {av : List Value} : FrameBlind (va_Pc av (cP D k ws sz)) := fun a U g mk q => by
  obtain ⟨q0, q1, qP, ⟨qK, qX⟩, qD⟩ := q
  exact ⟨q0, q1, qP, ⟨va_K.moved (u := U) (U := U.calling g mk a) (Vm.Alike.refl U.vm) qK, qX.calling⟩, qD⟩
theorem cP_S {D : va_G} {k : ClassId × ClassId × ClassId × ClassId} {ws : va_W} {A : Nat → Prop} {As : List Value} {s : State} {H : Heap} (hP : va_P D classes ws H) (hK : va_K D classes (TY k) s ∧ cX s) (hD : va_D A ws) : PreS s H (va_Pc As (cP D k ws H.size)) As :=
  ⟨cP_blind, fun U hU hW => ⟨rfl, by rw [hU], by rw [hU]; exact hP, ⟨va_K.moved hW.alike hK.1, hK.2.warm hW⟩, hD.weaken (fun _ _ _ _ => trivial)⟩⟩
theorem cP_V {D : va_G} {k : ClassId × ClassId × ClassId × ClassId} {ws : va_W} {A : Nat → Prop} {As : List Value} {s : State} {H : Heap} {b q0 ci : Nat} {q : vw_C} {fs : List Value} (hP : va_P D classes ws H) (hK : va_K D classes (TY k) s ∧ cX s) (hD : va_D A ws) (hc : classes[ci]? = some q) (he : ws[q0]? = some (b, .inr (ci, fs))) : PreV s H q.1 b (va_Pc (.ref b :: As) (cP D k ws H.size)) As :=
  ⟨cP_blind, va_recv hK.1 hP hc he, fun U hU hW => ⟨rfl, by rw [hU], by rw [hU]; exact hP, ⟨va_K.moved hW.alike hK.1, hK.2.warm hW⟩, hD.weaken (fun _ _ _ _ => trivial)⟩⟩
theorem cB_of {D : va_G} {A : Nat → Prop} {ws : va_W} {t : State} {H : Heap} (ht : t.heap = H) (hP : va_P D classes ws H) (hD : va_D A ws) : cB D A ws t := ⟨by rw [ht]; exact hP, hD⟩
/-- put over known fields -/
theorem fs_ne {fs : List Value} {k j : Nat} {v w : Value} (h : fs[j]? = some w) (hk : k ≠ j) : (fs.set k v)[j]? = some w := by rw [List.getElem?_set_ne hk]; exact h
theorem fs_eq {fs : List Value} {k : Nat} {v w : Value} (h : fs[k]? = some w) : (fs.set k v)[k]? = some v := by rw [List.getElem?_set_self (List.getElem?_eq_some_iff.mp h).1]
theorem fs_lt {fs : List Value} {k : Nat} {w : Value} (h : fs[k]? = some w) : k < fs.length := (List.getElem?_eq_some_iff.mp h).1
section NEWT
variable {p : Program} {l : Launch} {e : Env} {R : Room} {s : State} {m : MethodId} {args : Array Value} {below : List Frame} {meth : Method} {c : Code} {H : Heap} {locs : List Loc} {cells slots : Nat} {Q : State → Prop}
variable {cc : ByteArray} {pc : Nat} {ls : Array Slot} {rest : List Value} {D : va_G} {cl : List vw_C} {A : Nat → Prop} {tys : List (ClassId × FieldType)} {ws : va_W} {H0 : Heap}
/-- a new array of a primitive type whose class is known -/
theorem va_newaT (hexec : p.tables.exec = Jvm.exec) (hb : c.code = cc) {atype : ArrayType} (harr : (Cond.arrayClass (newarray.typeOf atype)).before args s = true) {ty : FieldType} (hty : newarray.typeOf atype = ty) (hra : ∀ (U : State) (c1 c2 : ClassId), va_RA U c1 ty → va_RA U c2 ty → c1 = c2) (hK : va_K D cl tys s) (hP : va_P D cl ws H) (hD : va_D A ws) (hS : va_S A H0 H locs) (hA : ∀ q, H0.size ≤ q → A q) (t0 : Nat) {cA : ClassId} (ht : tys[t0]? = some (cA, ty))
    {n : Int32} {N' : Nat} {a0 : vp_A} (ha : ∀ cA : ClassId, vp_cell cA a0 = arrV cA N' (fun _ => defaultValue ty)) (hn : ¬ n < 0) (hN : n.toNatClampNeg = N') (hbytes : N' * componentBytes ty ≤ 536870912) (hcells : cells + 1 ≤ R.cells) (hslots : slots + N' ≤ R.slots) (hdg : decode cc pc = .ok (.newarray atype, 2))
    (kk : ∀ (q : Nat) (H1 : Heap), va_P D cl (ws ++ [(q, .inl (cA, a0))]) H1 → va_D A (ws ++ [(q, .inl (cA, a0))]) → va_S A H0 H1 locs →
      W p l e R s m args below meth c H1 locs (cells + 1) (slots + N') Q (F0 m (pc + 2) ls (.ref q :: rest))) : W p l e R s m args below meth c H locs cells slots Q (F0 m pc ls (.int n :: rest)) := by
  refine va_newa hexec hb harr hty hK hP hD hS hA ha hn hN hbytes hcells hslots hdg (fun q c2 H1 hK2 hP2 hD2 hS2 => ?_)
  have e1 := (hK.2 t0 _ ht).2
  have e2 := (hK2.2 tys.length (c2, ty) (by rw [List.getElem?_append_right (Nat.le_refl _), Nat.sub_self]; rfl)).2
  have e : c2 = cA := hra s c2 cA e2 e1
  subst e
  exact kk q H1 hP2 hD2 hS2
end NEWT
theorem ra_int (U : State) (c1 c2 : ClassId) (h1 : va_RA U c1 .int) (h2 : va_RA U c2 .int) : c1 = c2 := Option.some.inj (Eq.trans (Eq.symm h1) h2)
theorem ra_byte (U : State) (c1 c2 : ClassId) (h1 : va_RA U c1 .byte) (h2 : va_RA U c2 .byte) : c1 = c2 := Option.some.inj (Eq.trans (Eq.symm h1) h2)
theorem ra_long (U : State) (c1 c2 : ClassId) (h1 : va_RA U c1 .long) (h2 : va_RA U c2 .long) : c1 = c2 := Option.some.inj (Eq.trans (Eq.symm h1) h2)
theorem ra_boolean (U : State) (c1 c2 : ClassId) (h1 : va_RA U c1 .boolean) (h2 : va_RA U c2 .boolean) : c1 = c2 := Option.some.inj (Eq.trans (Eq.symm h1) h2)
theorem gdk_1 {w : Cond} (j : Nat) (h : tables_1_1[j]? = some w) (g : goodWord w = true) : w ∈ gd := List.mem_filter.mpr ⟨show w ∈ k2_sels lw_privs ++ tables_1 from List.mem_append_right _ (gt_1 (List.mem_of_getElem? h)), g⟩
theorem gdk_2 {w : Cond} (j : Nat) (h : tables_1_2[j]? = some w) (g : goodWord w = true) : w ∈ gd := List.mem_filter.mpr ⟨show w ∈ k2_sels lw_privs ++ tables_1 from List.mem_append_right _ (gt_2 (List.mem_of_getElem? h)), g⟩
theorem gdk_3 {w : Cond} (j : Nat) (h : tables_1_3[j]? = some w) (g : goodWord w = true) : w ∈ gd := List.mem_filter.mpr ⟨show w ∈ k2_sels lw_privs ++ tables_1 from List.mem_append_right _ (gt_3 (List.mem_of_getElem? h)), g⟩
theorem gdk_4 {w : Cond} (j : Nat) (h : tables_1_4[j]? = some w) (g : goodWord w = true) : w ∈ gd := List.mem_filter.mpr ⟨show w ∈ k2_sels lw_privs ++ tables_1 from List.mem_append_right _ (gt_4 (List.mem_of_getElem? h)), g⟩
theorem gdk_5 {w : Cond} (j : Nat) (h : tables_1_5[j]? = some w) (g : goodWord w = true) : w ∈ gd := List.mem_filter.mpr ⟨show w ∈ k2_sels lw_privs ++ tables_1 from List.mem_append_right _ (gt_5 (List.mem_of_getElem? h)), g⟩
theorem gdk_6 {w : Cond} (j : Nat) (h : tables_1_6[j]? = some w) (g : goodWord w = true) : w ∈ gd := List.mem_filter.mpr ⟨show w ∈ k2_sels lw_privs ++ tables_1 from List.mem_append_right _ (gt_6 (List.mem_of_getElem? h)), g⟩
theorem gdk_7 {w : Cond} (j : Nat) (h : tables_1_7[j]? = some w) (g : goodWord w = true) : w ∈ gd := List.mem_filter.mpr ⟨show w ∈ k2_sels lw_privs ++ tables_1 from List.mem_append_right _ (gt_7 (List.mem_of_getElem? h)), g⟩
theorem gdk_8 {w : Cond} (j : Nat) (h : tables_1_8[j]? = some w) (g : goodWord w = true) : w ∈ gd := List.mem_filter.mpr ⟨show w ∈ k2_sels lw_privs ++ tables_1 from List.mem_append_right _ (gt_8 (List.mem_of_getElem? h)), g⟩
theorem gdk_9 {w : Cond} (j : Nat) (h : tables_1_9[j]? = some w) (g : goodWord w = true) : w ∈ gd := List.mem_filter.mpr ⟨show w ∈ k2_sels lw_privs ++ tables_1 from List.mem_append_right _ (gt_9 (List.mem_of_getElem? h)), g⟩
theorem gps_1 {q : MethodName × Nat} (h : q ∈ lw_privs_1) : q ∈ lw_privs := List.mem_append_left _ h
theorem gds_1 {y : MethodName} {n : Nat} (j : Nat) (h : lw_privs_1[j]? = some (y, n)) : Cond.selects y.cls y y ∈ gd := List.mem_filter.mpr ⟨show Cond.selects y.cls y y ∈ k2_sels lw_privs ++ tables_1 from List.mem_append_left _ (List.mem_map.mpr ⟨(y, n), gps_1 (List.mem_of_getElem? h), rfl⟩), rfl⟩
theorem gps_2 {q : MethodName × Nat} (h : q ∈ lw_privs_2) : q ∈ lw_privs := List.mem_append_right _ (List.mem_append_left _ h)
theorem gds_2 {y : MethodName} {n : Nat} (j : Nat) (h : lw_privs_2[j]? = some (y, n)) : Cond.selects y.cls y y ∈ gd := List.mem_filter.mpr ⟨show Cond.selects y.cls y y ∈ k2_sels lw_privs ++ tables_1 from List.mem_append_left _ (List.mem_map.mpr ⟨(y, n), gps_2 (List.mem_of_getElem? h), rfl⟩), rfl⟩
theorem gps_3 {q : MethodName × Nat} (h : q ∈ lw_privs_3) : q ∈ lw_privs := List.mem_append_right _ (List.mem_append_right _ (List.mem_append_left _ h))
theorem gds_3 {y : MethodName} {n : Nat} (j : Nat) (h : lw_privs_3[j]? = some (y, n)) : Cond.selects y.cls y y ∈ gd := List.mem_filter.mpr ⟨show Cond.selects y.cls y y ∈ k2_sels lw_privs ++ tables_1 from List.mem_append_left _ (List.mem_map.mpr ⟨(y, n), gps_3 (List.mem_of_getElem? h), rfl⟩), rfl⟩
theorem gps_4 {q : MethodName × Nat} (h : q ∈ lw_privs_4) : q ∈ lw_privs := List.mem_append_right _ (List.mem_append_right _ (List.mem_append_right _ (List.mem_append_left _ h)))
theorem gds_4 {y : MethodName} {n : Nat} (j : Nat) (h : lw_privs_4[j]? = some (y, n)) : Cond.selects y.cls y y ∈ gd := List.mem_filter.mpr ⟨show Cond.selects y.cls y y ∈ k2_sels lw_privs ++ tables_1 from List.mem_append_left _ (List.mem_map.mpr ⟨(y, n), gps_4 (List.mem_of_getElem? h), rfl⟩), rfl⟩
theorem gps_5 {q : MethodName × Nat} (h : q ∈ lw_privs_5) : q ∈ lw_privs := List.mem_append_right _ (List.mem_append_right _ (List.mem_append_right _ (List.mem_append_right _ (List.mem_append_left _ h))))
theorem gds_5 {y : MethodName} {n : Nat} (j : Nat) (h : lw_privs_5[j]? = some (y, n)) : Cond.selects y.cls y y ∈ gd := List.mem_filter.mpr ⟨show Cond.selects y.cls y y ∈ k2_sels lw_privs ++ tables_1 from List.mem_append_left _ (List.mem_map.mpr ⟨(y, n), gps_5 (List.mem_of_getElem? h), rfl⟩), rfl⟩
theorem gps_6 {q : MethodName × Nat} (h : q ∈ lw_privs_6) : q ∈ lw_privs := List.mem_append_right _ (List.mem_append_right _ (List.mem_append_right _ (List.mem_append_right _ (List.mem_append_right _ (List.mem_append_left _ h)))))
theorem gds_6 {y : MethodName} {n : Nat} (j : Nat) (h : lw_privs_6[j]? = some (y, n)) : Cond.selects y.cls y y ∈ gd := List.mem_filter.mpr ⟨show Cond.selects y.cls y y ∈ k2_sels lw_privs ++ tables_1 from List.mem_append_left _ (List.mem_map.mpr ⟨(y, n), gps_6 (List.mem_of_getElem? h), rfl⟩), rfl⟩
theorem gps_7 {q : MethodName × Nat} (h : q ∈ lw_privs_7) : q ∈ lw_privs := List.mem_append_right _ (List.mem_append_right _ (List.mem_append_right _ (List.mem_append_right _ (List.mem_append_right _ (List.mem_append_right _ (List.mem_append_left _ h))))))
theorem gds_7 {y : MethodName} {n : Nat} (j : Nat) (h : lw_privs_7[j]? = some (y, n)) : Cond.selects y.cls y y ∈ gd := List.mem_filter.mpr ⟨show Cond.selects y.cls y y ∈ k2_sels lw_privs ++ tables_1 from List.mem_append_left _ (List.mem_map.mpr ⟨(y, n), gps_7 (List.mem_of_getElem? h), rfl⟩), rfl⟩
theorem gps_8 {q : MethodName × Nat} (h : q ∈ lw_privs_8) : q ∈ lw_privs := List.mem_append_right _ (List.mem_append_right _ (List.mem_append_right _ (List.mem_append_right _ (List.mem_append_right _ (List.mem_append_right _ (List.mem_append_right _ (h)))))))
theorem gds_8 {y : MethodName} {n : Nat} (j : Nat) (h : lw_privs_8[j]? = some (y, n)) : Cond.selects y.cls y y ∈ gd := List.mem_filter.mpr ⟨show Cond.selects y.cls y y ∈ k2_sels lw_privs ++ tables_1 from List.mem_append_left _ (List.mem_map.mpr ⟨(y, n), gps_8 (List.mem_of_getElem? h), rfl⟩), rfl⟩
theorem iwS {P : Nat → Prop} {n : Nat} (h : ∀ j, j < n → P j) (h2 : P n) : ∀ j, j < n + 1 → P j := fun j hj => (Nat.lt_succ_iff_lt_or_eq.mp hj).elim (h j) (fun e => e ▸ h2)
theorem iw0 {P : Nat → Prop} : ∀ j, j < 0 → P j := fun j h => absurd h (Nat.not_lt_zero j)
theorem iw_ws {C : String} {T : u_T} {N : Nat} (h : ∀ j, j < N → u_lay C T j ∈ gd) : ∀ w ∈ u_ws C T N, w ∈ gd := by
  intro w hw
  obtain ⟨j, hj, rfl⟩ := List.mem_map.mp hw
  exact h j (List.mem_range.mp hj)
theorem iX0_0 : u_lay RX0 TX0 0 ∈ gd := gdk_2 39 rfl rfl
theorem iX0_1 : u_lay RX0 TX0 1 ∈ gd := gdk_2 41 rfl rfl
theorem iX0_2 : u_lay RX0 TX0 2 ∈ gd := gdk_2 43 rfl rfl
theorem iX0_3 : u_lay RX0 TX0 3 ∈ gd := gdk_2 45 rfl rfl
theorem iX0_4 : u_lay RX0 TX0 4 ∈ gd := gdk_2 47 rfl rfl
theorem iX0_5 : u_lay RX0 TX0 5 ∈ gd := gdk_2 49 rfl rfl
theorem iX0_6 : u_lay RX0 TX0 6 ∈ gd := gdk_2 51 rfl rfl
theorem iX0_7 : u_lay RX0 TX0 7 ∈ gd := gdk_2 53 rfl rfl
set_option maxRecDepth 20000 in
theorem iX0 : ∀ w ∈ u_ws RX0 TX0 8, w ∈ gd := iw_ws (iwS (iwS (iwS (iwS (iwS (iwS (iwS (iwS (iw0) iX0_0) iX0_1) iX0_2) iX0_3) iX0_4) iX0_5) iX0_6) iX0_7)
theorem iX1_0 : u_lay RX1 TX1 0 ∈ gd := gdk_2 145 rfl rfl
theorem iX1_1 : u_lay RX1 TX1 1 ∈ gd := gdk_2 147 rfl rfl
theorem iX1_2 : u_lay RX1 TX1 2 ∈ gd := gdk_2 149 rfl rfl
theorem iX1_3 : u_lay RX1 TX1 3 ∈ gd := gdk_2 151 rfl rfl
theorem iX1_4 : u_lay RX1 TX1 4 ∈ gd := gdk_2 153 rfl rfl
theorem iX1_5 : u_lay RX1 TX1 5 ∈ gd := gdk_2 155 rfl rfl
set_option maxRecDepth 20000 in
theorem iX1 : ∀ w ∈ u_ws RX1 TX1 6, w ∈ gd := iw_ws (iwS (iwS (iwS (iwS (iwS (iwS (iw0) iX1_0) iX1_1) iX1_2) iX1_3) iX1_4) iX1_5)
theorem iX2_0 : u_lay RX2 TX2 0 ∈ gd := gdk_1 188 rfl rfl
theorem iX2_1 : u_lay RX2 TX2 1 ∈ gd := gdk_1 190 rfl rfl
theorem iX2_2 : u_lay RX2 TX2 2 ∈ gd := gdk_1 192 rfl rfl
set_option maxRecDepth 20000 in
theorem iX2 : ∀ w ∈ u_ws RX2 TX2 3, w ∈ gd := iw_ws (iwS (iwS (iwS (iw0) iX2_0) iX2_1) iX2_2)
theorem iX3_0 : u_lay RX3 TX3 0 ∈ gd := gdk_1 238 rfl rfl
theorem iX3_1 : u_lay RX3 TX3 1 ∈ gd := gdk_2 0 rfl rfl
theorem iX3_2 : u_lay RX3 TX3 2 ∈ gd := gdk_2 2 rfl rfl
theorem iX3_3 : u_lay RX3 TX3 3 ∈ gd := gdk_2 4 rfl rfl
theorem iX3_4 : u_lay RX3 TX3 4 ∈ gd := gdk_2 6 rfl rfl
set_option maxRecDepth 20000 in
theorem iX3 : ∀ w ∈ u_ws RX3 TX3 5, w ∈ gd := iw_ws (iwS (iwS (iwS (iwS (iwS (iw0) iX3_0) iX3_1) iX3_2) iX3_3) iX3_4)
theorem iX4_0 : u_lay RX4 TX4 0 ∈ gd := gdk_2 75 rfl rfl
theorem iX4_1 : u_lay RX4 TX4 1 ∈ gd := gdk_2 77 rfl rfl
theorem iX4_2 : u_lay RX4 TX4 2 ∈ gd := gdk_2 79 rfl rfl
theorem iX4_3 : u_lay RX4 TX4 3 ∈ gd := gdk_2 81 rfl rfl
set_option maxRecDepth 20000 in
theorem iX4 : ∀ w ∈ u_ws RX4 TX4 4, w ∈ gd := iw_ws (iwS (iwS (iwS (iwS (iw0) iX4_0) iX4_1) iX4_2) iX4_3)
theorem iX5_0 : u_lay RX5 TX5 0 ∈ gd := gdk_2 115 rfl rfl
theorem iX5_1 : u_lay RX5 TX5 1 ∈ gd := gdk_2 117 rfl rfl
theorem iX5_2 : u_lay RX5 TX5 2 ∈ gd := gdk_2 119 rfl rfl
theorem iX5_3 : u_lay RX5 TX5 3 ∈ gd := gdk_2 121 rfl rfl
theorem iX5_4 : u_lay RX5 TX5 4 ∈ gd := gdk_2 123 rfl rfl
theorem iX5_5 : u_lay RX5 TX5 5 ∈ gd := gdk_2 125 rfl rfl
theorem iX5_6 : u_lay RX5 TX5 6 ∈ gd := gdk_2 127 rfl rfl
set_option maxRecDepth 20000 in
theorem iX5 : ∀ w ∈ u_ws RX5 TX5 7, w ∈ gd := iw_ws (iwS (iwS (iwS (iwS (iwS (iwS (iwS (iw0) iX5_0) iX5_1) iX5_2) iX5_3) iX5_4) iX5_5) iX5_6)
theorem iX6_0 : u_lay RX6 TX6 0 ∈ gd := gdk_1 94 rfl rfl
theorem iX6_1 : u_lay RX6 TX6 1 ∈ gd := gdk_1 96 rfl rfl
theorem iX6_2 : u_lay RX6 TX6 2 ∈ gd := gdk_1 98 rfl rfl
theorem iX6_3 : u_lay RX6 TX6 3 ∈ gd := gdk_1 100 rfl rfl
theorem iX6_4 : u_lay RX6 TX6 4 ∈ gd := gdk_1 102 rfl rfl
theorem iX6_5 : u_lay RX6 TX6 5 ∈ gd := gdk_1 104 rfl rfl
theorem iX6_6 : u_lay RX6 TX6 6 ∈ gd := gdk_1 106 rfl rfl
theorem iX6_7 : u_lay RX6 TX6 7 ∈ gd := gdk_1 108 rfl rfl
theorem iX6_8 : u_lay RX6 TX6 8 ∈ gd := gdk_1 110 rfl rfl
theorem iX6_9 : u_lay RX6 TX6 9 ∈ gd := gdk_1 112 rfl rfl
theorem iX6_10 : u_lay RX6 TX6 10 ∈ gd := gdk_1 114 rfl rfl
theorem iX6_11 : u_lay RX6 TX6 11 ∈ gd := gdk_1 116 rfl rfl
theorem iX6_12 : u_lay RX6 TX6 12 ∈ gd := gdk_1 118 rfl rfl
theorem iX6_13 : u_lay RX6 TX6 13 ∈ gd := gdk_1 120 rfl rfl
theorem iX6_14 : u_lay RX6 TX6 14 ∈ gd := gdk_1 122 rfl rfl
theorem iX6_15 : u_lay RX6 TX6 15 ∈ gd := gdk_1 124 rfl rfl
theorem iX6_16 : u_lay RX6 TX6 16 ∈ gd := gdk_1 126 rfl rfl
set_option maxRecDepth 20000 in
theorem iX6 : ∀ w ∈ u_ws RX6 TX6 17, w ∈ gd := iw_ws (iwS (iwS (iwS (iwS (iwS (iwS (iwS (iwS (iwS (iwS (iwS (iwS (iwS (iwS (iwS (iwS (iwS (iw0) iX6_0) iX6_1) iX6_2) iX6_3) iX6_4) iX6_5) iX6_6) iX6_7) iX6_8) iX6_9) iX6_10) iX6_11) iX6_12) iX6_13) iX6_14) iX6_15) iX6_16)
theorem iX7_0 : u_lay RX7 TX7 0 ∈ gd := gdk_1 206 rfl rfl
theorem iX7_1 : u_lay RX7 TX7 1 ∈ gd := gdk_1 208 rfl rfl
theorem iX7_2 : u_lay RX7 TX7 2 ∈ gd := gdk_1 210 rfl rfl
theorem iX7_3 : u_lay RX7 TX7 3 ∈ gd := gdk_1 212 rfl rfl
theorem iX7_4 : u_lay RX7 TX7 4 ∈ gd := gdk_1 214 rfl rfl
theorem iX7_5 : u_lay RX7 TX7 5 ∈ gd := gdk_1 216 rfl rfl
theorem iX7_6 : u_lay RX7 TX7 6 ∈ gd := gdk_1 218 rfl rfl
theorem iX7_7 : u_lay RX7 TX7 7 ∈ gd := gdk_1 220 rfl rfl
theorem iX7_8 : u_lay RX7 TX7 8 ∈ gd := gdk_1 222 rfl rfl
theorem iX7_9 : u_lay RX7 TX7 9 ∈ gd := gdk_1 224 rfl rfl
set_option maxRecDepth 20000 in
theorem iX7 : ∀ w ∈ u_ws RX7 TX7 10, w ∈ gd := iw_ws (iwS (iwS (iwS (iwS (iwS (iwS (iwS (iwS (iwS (iwS (iw0) iX7_0) iX7_1) iX7_2) iX7_3) iX7_4) iX7_5) iX7_6) iX7_7) iX7_8) iX7_9)
theorem iX8_0 : u_lay RX8 TX8 0 ∈ gd := gdk_2 176 rfl rfl
theorem iX8_1 : u_lay RX8 TX8 1 ∈ gd := gdk_2 178 rfl rfl
theorem iX8_2 : u_lay RX8 TX8 2 ∈ gd := gdk_2 180 rfl rfl
theorem iX8_3 : u_lay RX8 TX8 3 ∈ gd := gdk_2 182 rfl rfl
theorem iX8_4 : u_lay RX8 TX8 4 ∈ gd := gdk_2 184 rfl rfl
theorem iX8_5 : u_lay RX8 TX8 5 ∈ gd := gdk_2 186 rfl rfl
theorem iX8_6 : u_lay RX8 TX8 6 ∈ gd := gdk_2 188 rfl rfl
set_option maxRecDepth 20000 in
theorem iX8 : ∀ w ∈ u_ws RX8 TX8 7, w ∈ gd := iw_ws (iwS (iwS (iwS (iwS (iwS (iwS (iwS (iw0) iX8_0) iX8_1) iX8_2) iX8_3) iX8_4) iX8_5) iX8_6)
theorem iX9_0 : u_lay RX9 TX9 0 ∈ gd := gdk_1 158 rfl rfl
theorem iX9_1 : u_lay RX9 TX9 1 ∈ gd := gdk_1 160 rfl rfl
theorem iX9_2 : u_lay RX9 TX9 2 ∈ gd := gdk_1 162 rfl rfl
theorem iX9_3 : u_lay RX9 TX9 3 ∈ gd := gdk_1 164 rfl rfl
theorem iX9_4 : u_lay RX9 TX9 4 ∈ gd := gdk_1 166 rfl rfl
theorem iX9_5 : u_lay RX9 TX9 5 ∈ gd := gdk_1 168 rfl rfl
theorem iX9_6 : u_lay RX9 TX9 6 ∈ gd := gdk_1 170 rfl rfl
theorem iX9_7 : u_lay RX9 TX9 7 ∈ gd := gdk_1 172 rfl rfl
theorem iX9_8 : u_lay RX9 TX9 8 ∈ gd := gdk_1 174 rfl rfl
set_option maxRecDepth 20000 in
theorem iX9 : ∀ w ∈ u_ws RX9 TX9 9, w ∈ gd := iw_ws (iwS (iwS (iwS (iwS (iwS (iwS (iwS (iwS (iwS (iw0) iX9_0) iX9_1) iX9_2) iX9_3) iX9_4) iX9_5) iX9_6) iX9_7) iX9_8)
theorem iX10_0 : u_lay RX10 TX10 0 ∈ gd := gdk_2 91 rfl rfl
theorem iX10_1 : u_lay RX10 TX10 1 ∈ gd := gdk_2 93 rfl rfl
theorem iX10_2 : u_lay RX10 TX10 2 ∈ gd := gdk_2 95 rfl rfl
theorem iX10_3 : u_lay RX10 TX10 3 ∈ gd := gdk_2 97 rfl rfl
theorem iX10_4 : u_lay RX10 TX10 4 ∈ gd := gdk_2 99 rfl rfl
set_option maxRecDepth 20000 in
theorem iX10 : ∀ w ∈ u_ws RX10 TX10 5, w ∈ gd := iw_ws (iwS (iwS (iwS (iwS (iwS (iw0) iX10_0) iX10_1) iX10_2) iX10_3) iX10_4)
theorem iX11_0 : u_lay RX11 TX11 0 ∈ gd := gdk_2 227 rfl rfl
theorem iX11_1 : u_lay RX11 TX11 1 ∈ gd := gdk_2 229 rfl rfl
theorem iX11_2 : u_lay RX11 TX11 2 ∈ gd := gdk_2 231 rfl rfl
theorem iX11_3 : u_lay RX11 TX11 3 ∈ gd := gdk_2 233 rfl rfl
theorem iX11_4 : u_lay RX11 TX11 4 ∈ gd := gdk_2 235 rfl rfl
theorem iX11_5 : u_lay RX11 TX11 5 ∈ gd := gdk_2 237 rfl rfl
theorem iX11_6 : u_lay RX11 TX11 6 ∈ gd := gdk_2 239 rfl rfl
theorem iX11_7 : u_lay RX11 TX11 7 ∈ gd := gdk_3 1 rfl rfl
theorem iX11_8 : u_lay RX11 TX11 8 ∈ gd := gdk_3 3 rfl rfl
theorem iX11_9 : u_lay RX11 TX11 9 ∈ gd := gdk_3 5 rfl rfl
theorem iX11_10 : u_lay RX11 TX11 10 ∈ gd := gdk_3 7 rfl rfl
theorem iX11_11 : u_lay RX11 TX11 11 ∈ gd := gdk_3 9 rfl rfl
theorem iX11_12 : u_lay RX11 TX11 12 ∈ gd := gdk_3 11 rfl rfl
set_option maxRecDepth 20000 in
theorem iX11 : ∀ w ∈ u_ws RX11 TX11 13, w ∈ gd := iw_ws (iwS (iwS (iwS (iwS (iwS (iwS (iwS (iwS (iwS (iwS (iwS (iwS (iwS (iw0) iX11_0) iX11_1) iX11_2) iX11_3) iX11_4) iX11_5) iX11_6) iX11_7) iX11_8) iX11_9) iX11_10) iX11_11) iX11_12)
theorem iX12_0 : u_lay RX12 TX12 0 ∈ gd := gdk_6 87 rfl rfl
theorem iX12_1 : u_lay RX12 TX12 1 ∈ gd := gdk_6 89 rfl rfl
theorem iX12_2 : u_lay RX12 TX12 2 ∈ gd := gdk_6 91 rfl rfl
theorem iX12_3 : u_lay RX12 TX12 3 ∈ gd := gdk_6 93 rfl rfl
theorem iX12_4 : u_lay RX12 TX12 4 ∈ gd := gdk_6 95 rfl rfl
theorem iX12_5 : u_lay RX12 TX12 5 ∈ gd := gdk_6 97 rfl rfl
theorem iX12_6 : u_lay RX12 TX12 6 ∈ gd := gdk_6 99 rfl rfl
theorem iX12_7 : u_lay RX12 TX12 7 ∈ gd := gdk_6 101 rfl rfl
theorem iX12_8 : u_lay RX12 TX12 8 ∈ gd := gdk_6 103 rfl rfl
theorem iX12_9 : u_lay RX12 TX12 9 ∈ gd := gdk_6 105 rfl rfl
theorem iX12_10 : u_lay RX12 TX12 10 ∈ gd := gdk_6 107 rfl rfl
theorem iX12_11 : u_lay RX12 TX12 11 ∈ gd := gdk_6 109 rfl rfl
theorem iX12_12 : u_lay RX12 TX12 12 ∈ gd := gdk_6 111 rfl rfl
theorem iX12_13 : u_lay RX12 TX12 13 ∈ gd := gdk_6 113 rfl rfl
theorem iX12_14 : u_lay RX12 TX12 14 ∈ gd := gdk_6 115 rfl rfl
theorem iX12_15 : u_lay RX12 TX12 15 ∈ gd := gdk_6 117 rfl rfl
theorem iX12_16 : u_lay RX12 TX12 16 ∈ gd := gdk_6 119 rfl rfl
theorem iX12_17 : u_lay RX12 TX12 17 ∈ gd := gdk_6 121 rfl rfl
theorem iX12_18 : u_lay RX12 TX12 18 ∈ gd := gdk_6 123 rfl rfl
theorem iX12_19 : u_lay RX12 TX12 19 ∈ gd := gdk_6 125 rfl rfl
theorem iX12_20 : u_lay RX12 TX12 20 ∈ gd := gdk_6 127 rfl rfl
theorem iX12_21 : u_lay RX12 TX12 21 ∈ gd := gdk_6 129 rfl rfl
theorem iX12_22 : u_lay RX12 TX12 22 ∈ gd := gdk_6 131 rfl rfl
theorem iX12_23 : u_lay RX12 TX12 23 ∈ gd := gdk_6 133 rfl rfl
theorem iX12_24 : u_lay RX12 TX12 24 ∈ gd := gdk_6 135 rfl rfl
theorem iX12_25 : u_lay RX12 TX12 25 ∈ gd := gdk_6 137 rfl rfl
theorem iX12_26 : u_lay RX12 TX12 26 ∈ gd := gdk_6 139 rfl rfl
theorem iX12_27 : u_lay RX12 TX12 27 ∈ gd := gdk_6 141 rfl rfl
theorem iX12_28 : u_lay RX12 TX12 28 ∈ gd := gdk_6 143 rfl rfl
theorem iX12_29 : u_lay RX12 TX12 29 ∈ gd := gdk_6 145 rfl rfl
theorem iX12_30 : u_lay RX12 TX12 30 ∈ gd := gdk_6 147 rfl rfl
theorem iX12_31 : u_lay RX12 TX12 31 ∈ gd := gdk_6 149 rfl rfl
theorem iX12_32 : u_lay RX12 TX12 32 ∈ gd := gdk_6 151 rfl rfl
theorem iX12_33 : u_lay RX12 TX12 33 ∈ gd := gdk_6 153 rfl rfl
theorem iX12_34 : u_lay RX12 TX12 34 ∈ gd := gdk_6 155 rfl rfl
theorem iX12_35 : u_lay RX12 TX12 35 ∈ gd := gdk_6 157 rfl rfl
theorem iX12_36 : u_lay RX12 TX12 36 ∈ gd := gdk_6 159 rfl rfl
theorem iX12_37 : u_lay RX12 TX12 37 ∈ gd := gdk_6 161 rfl rfl
theorem iX12_38 : u_lay RX12 TX12 38 ∈ gd := gdk_6 163 rfl rfl
theorem iX12_39 : u_lay RX12 TX12 39 ∈ gd := gdk_6 165 rfl rfl
theorem iX12_40 : u_lay RX12 TX12 40 ∈ gd := gdk_6 167 rfl rfl
theorem iX12_41 : u_lay RX12 TX12 41 ∈ gd := gdk_6 169 rfl rfl
theorem iX12_42 : u_lay RX12 TX12 42 ∈ gd := gdk_6 171 rfl rfl
theorem iX12_43 : u_lay RX12 TX12 43 ∈ gd := gdk_6 173 rfl rfl
theorem iX12_44 : u_lay RX12 TX12 44 ∈ gd := gdk_6 175 rfl rfl
theorem iX12_45 : u_lay RX12 TX12 45 ∈ gd := gdk_6 177 rfl rfl
theorem iX12_46 : u_lay RX12 TX12 46 ∈ gd := gdk_6 179 rfl rfl
theorem iX12_47 : u_lay RX12 TX12 47 ∈ gd := gdk_6 181 rfl rfl
theorem iX12_48 : u_lay RX12 TX12 48 ∈ gd := gdk_6 183 rfl rfl
theorem iX12_49 : u_lay RX12 TX12 49 ∈ gd := gdk_6 185 rfl rfl
theorem iX12_50 : u_lay RX12 TX12 50 ∈ gd := gdk_6 187 rfl rfl
theorem iX12_51 : u_lay RX12 TX12 51 ∈ gd := gdk_6 189 rfl rfl
theorem iX12_52 : u_lay RX12 TX12 52 ∈ gd := gdk_6 191 rfl rfl
theorem iX12_53 : u_lay RX12 TX12 53 ∈ gd := gdk_6 193 rfl rfl
theorem iX12_54 : u_lay RX12 TX12 54 ∈ gd := gdk_6 195 rfl rfl
theorem iX12_55 : u_lay RX12 TX12 55 ∈ gd := gdk_6 197 rfl rfl
theorem iX12_56 : u_lay RX12 TX12 56 ∈ gd := gdk_6 199 rfl rfl
theorem iX12_57 : u_lay RX12 TX12 57 ∈ gd := gdk_6 201 rfl rfl
theorem iX12_58 : u_lay RX12 TX12 58 ∈ gd := gdk_6 203 rfl rfl
theorem iX12_59 : u_lay RX12 TX12 59 ∈ gd := gdk_6 205 rfl rfl
theorem iX12_60 : u_lay RX12 TX12 60 ∈ gd := gdk_6 207 rfl rfl
theorem iX12_61 : u_lay RX12 TX12 61 ∈ gd := gdk_6 209 rfl rfl
theorem iX12_62 : u_lay RX12 TX12 62 ∈ gd := gdk_6 211 rfl rfl
theorem iX12_63 : u_lay RX12 TX12 63 ∈ gd := gdk_6 213 rfl rfl
theorem iX12_64 : u_lay RX12 TX12 64 ∈ gd := gdk_6 215 rfl rfl
theorem iX12_65 : u_lay RX12 TX12 65 ∈ gd := gdk_6 217 rfl rfl
theorem iX12_66 : u_lay RX12 TX12 66 ∈ gd := gdk_6 219 rfl rfl
theorem iX12_67 : u_lay RX12 TX12 67 ∈ gd := gdk_6 221 rfl rfl
theorem iX12_68 : u_lay RX12 TX12 68 ∈ gd := gdk_6 223 rfl rfl
theorem iX12_69 : u_lay RX12 TX12 69 ∈ gd := gdk_6 225 rfl rfl
theorem iX12_70 : u_lay RX12 TX12 70 ∈ gd := gdk_6 227 rfl rfl
theorem iX12_71 : u_lay RX12 TX12 71 ∈ gd := gdk_6 229 rfl rfl
theorem iX12_72 : u_lay RX12 TX12 72 ∈ gd := gdk_6 231 rfl rfl
theorem iX12_73 : u_lay RX12 TX12 73 ∈ gd := gdk_6 233 rfl rfl
theorem iX12_74 : u_lay RX12 TX12 74 ∈ gd := gdk_6 235 rfl rfl
theorem iX12_75 : u_lay RX12 TX12 75 ∈ gd := gdk_6 237 rfl rfl
theorem iX12_76 : u_lay RX12 TX12 76 ∈ gd := gdk_6 239 rfl rfl
theorem iX12_77 : u_lay RX12 TX12 77 ∈ gd := gdk_7 1 rfl rfl
theorem iX12_78 : u_lay RX12 TX12 78 ∈ gd := gdk_7 3 rfl rfl
theorem iX12_79 : u_lay RX12 TX12 79 ∈ gd := gdk_7 5 rfl rfl
theorem iX12_80 : u_lay RX12 TX12 80 ∈ gd := gdk_7 7 rfl rfl
theorem iX12_81 : u_lay RX12 TX12 81 ∈ gd := gdk_7 9 rfl rfl
theorem iX12_82 : u_lay RX12 TX12 82 ∈ gd := gdk_7 11 rfl rfl
theorem iX12_83 : u_lay RX12 TX12 83 ∈ gd := gdk_7 13 rfl rfl
theorem iX12_84 : u_lay RX12 TX12 84 ∈ gd := gdk_7 15 rfl rfl
theorem iX12_85 : u_lay RX12 TX12 85 ∈ gd := gdk_7 17 rfl rfl
theorem iX12_86 : u_lay RX12 TX12 86 ∈ gd := gdk_7 19 rfl rfl
theorem iX12_87 : u_lay RX12 TX12 87 ∈ gd := gdk_7 21 rfl rfl
theorem iX12_88 : u_lay RX12 TX12 88 ∈ gd := gdk_7 23 rfl rfl
set_option maxRecDepth 20000 in
theorem iX12 : ∀ w ∈ u_ws RX12 TX12 89, w ∈ gd := iw_ws (iwS (iwS (iwS (iwS (iwS (iwS (iwS (iwS (iwS (iwS (iwS (iwS (iwS (iwS (iwS (iwS (iwS (iwS (iwS (iwS (iwS (iwS (iwS (iwS (iwS (iwS (iwS (iwS (iwS (iwS (iwS (iwS (iwS (iwS (iwS (iwS (iwS (iwS (iwS (iwS (iwS (iwS (iwS (iwS (iwS (iwS (iwS (iwS (iwS (iwS (iwS (iwS (iwS (iwS (iwS (iwS (iwS (iwS (iwS (iwS (iwS (iwS (iwS (iwS (iwS (iwS (iwS (iwS (iwS (iwS (iwS (iwS (iwS (iwS (iwS (iwS (iwS (iwS (iwS (iwS (iwS (iwS (iwS (iwS (iwS (iwS (iwS (iwS (iwS (iw0) iX12_0) iX12_1) iX12_2) iX12_3) iX12_4) iX12_5) iX12_6) iX12_7) iX12_8) iX12_9) iX12_10) iX12_11) iX12_12) iX12_13) iX12_14) iX12_15) iX12_16) iX12_17) iX12_18) iX12_19) iX12_20) iX12_21) iX12_22) iX12_23) iX12_24) iX12_25) iX12_26) iX12_27) iX12_28) iX12_29) iX12_30) iX12_31) iX12_32) iX12_33) iX12_34) iX12_35) iX12_36) iX12_37) iX12_38) iX12_39) iX12_40) iX12_41) iX12_42) iX12_43) iX12_44) iX12_45) iX12_46) iX12_47) iX12_48) iX12_49) iX12_50) iX12_51) iX12_52) iX12_53) iX12_54) iX12_55) iX12_56) iX12_57) iX12_58) iX12_59) iX12_60) iX12_61) iX12_62) iX12_63) iX12_64) iX12_65) iX12_66) iX12_67) iX12_68) iX12_69) iX12_70) iX12_71) iX12_72) iX12_73) iX12_74) iX12_75) iX12_76) iX12_77) iX12_78) iX12_79) iX12_80) iX12_81) iX12_82) iX12_83) iX12_84) iX12_85) iX12_86) iX12_87) iX12_88)
