abbrev classes : List vw_C := [(RX0, TX0, 8), (RX1, TX1, 6), (RX2, TX2, 3), (RX3, TX3, 5), (RX4, TX4, 4), (RX5, TX5, 7), (RX6, TX6, 17), (RX7, TX7, 10), (RX8, TX8, 7), (RX9, TX9, 9), (RX10, TX10, 5), (RX11, TX11, 13), (RX12, TX12, 89)]
/-- the good words of the tables: every method's contract takes all of them -/
def gd : List Cond := lw_tbl.filter goodWord
theorem gd_mem {w : Cond} (i : Nat) (h : lw_tbl[i]? = some w) (g : goodWord w = true) : w ∈ gd := List.mem_filter.mpr ⟨List.mem_of_getElem? h, g⟩
theorem gd_r (ws : List Cond) (ps : List Nat) (hp : ws = ps.filterMap (fun i => lw_tbl[i]?)) (h : ws.all goodWord = true) : ∀ w ∈ ws, w ∈ gd := by
  intro w hw
  have h1 := List.all_eq_true.mp h w hw
  rw [hp] at hw
  obtain ⟨i, -, hi⟩ := List.mem_filterMap.mp hw
  exact gd_mem i hi h1
theorem gd_good {w : Cond} (h : w ∈ gd) : (w.onTables && w.keeps) = true ∨ ∃ ty, w = .arrayClass ty := good_of_word (List.mem_filter.mp h).2
abbrev WS (y : MethodName) (c : ByteArray) (n : Nat) (r : Option FieldType) : List Cond := .code y c n r :: gd
theorem gd_in {big ws : List Cond} (hb : ∀ w ∈ gd, w ∈ big) (h : ∀ w ∈ ws, w ∈ gd) : GoodIn big ws := fun w hw => ⟨hb w (h w hw), gd_good (h w hw)⟩
theorem gd_WS {y : MethodName} {c : ByteArray} {n : Nat} {r : Option FieldType} (hc : Cond.code y c n r ∈ gd) : ∀ w ∈ WS y c n r, w ∈ gd := fun w h => (List.mem_cons.mp h).elim (fun e => e ▸ hc) id
theorem gd_V {big : List Cond} {own C : String} {idx : Nat} {y : MethodName} {c : ByteArray} {n : Nat} {r : Option FieldType} (hb : ∀ w ∈ gd, w ∈ big) (h1 : Cond.methodLink own idx y ∈ gd) (h2 : Cond.instanceMethod y ∈ gd) (h3 : Cond.selects C y y ∈ gd) (h4 : Cond.initialized C ∈ gd) (hc : Cond.code y c n r ∈ gd) : GoodIn big (wsV own idx C y (WS y c n r)) :=
  gd_in hb (fun w hw => by
    unfold wsV at hw
    rcases List.mem_append.mp hw with h | h
    · simp only [List.mem_cons, List.not_mem_nil, or_false] at h
      rcases h with rfl | rfl | rfl | rfl
      · exact h1
      · exact h2
      · exact h3
      · exact h4
    · exact gd_WS hc w h)
theorem gd_S {big : List Cond} {own : String} {idx : Nat} {y : MethodName} {c : ByteArray} {n : Nat} {r : Option FieldType} (hb : ∀ w ∈ gd, w ∈ big) (h1 : Cond.methodLink own idx y ∈ gd) (h2 : Cond.static y ∈ gd) (h4 : Cond.initialized y.cls ∈ gd) (hc : Cond.code y c n r ∈ gd) : GoodIn big (va_wsS own idx y (WS y c n r)) :=
  gd_in hb (fun w hw => by
    unfold va_wsS at hw
    rcases List.mem_append.mp hw with h | h
    · simp only [List.mem_cons, List.not_mem_nil, or_false] at h
      rcases h with rfl | rfl | rfl
      · exact h1
      · exact h2
      · exact h4
    · exact gd_WS hc w h)
/-- words that aren't kept by themselves: the nest's private constructors, the class of int[][] -/
def va_AOA (t : FieldType) (U : State) : Prop := (Cond.arrayOver (.array t)).before #[] U = true
def cX (U : State) : Prop := va_AOA .int U ∧ va_Nw (.methodLinkNest RX11 43 yX0_init RX11) U ∧ va_Nw (.methodLinkNest RX11 50 yX10_init RX11) U ∧ va_Nw (.methodLinkNest RX10 18 yX4_init RX11) U ∧ va_Nw (.methodLinkNest RX11 57 yX5_init RX11) U ∧ va_Nw (.methodLinkNest RX11 64 yX1_init RX11) U ∧ va_Nw (.methodLinkNest RX11 71 yX8_init RX11) U
theorem cX.warm {s U : State} (hW : s.WarmedH U.vm) (h : cX s) : cX U := by
  obtain ⟨h0, h1, h2, h3, h4, h5, h6⟩ := h
  exact ⟨over_moved hW.alike h0, va_Nw.warmM hW h1, va_Nw.warmM hW h2, va_Nw.warmM hW h3, va_Nw.warmM hW h4, va_Nw.warmM hW h5, va_Nw.warmM hW h6⟩
theorem cX.calling {U : State} {g : JFrame} {mk : MethodId} {a : Array Value} (h : cX U) : cX (U.calling g mk a) := by
  obtain ⟨h0, h1, h2, h3, h4, h5, h6⟩ := h
  exact ⟨over_moved (Vm.Alike.refl U.vm) h0, va_Nw.same rfl rfl h1, va_Nw.same rfl rfl h2, va_Nw.same rfl rfl h3, va_Nw.same rfl rfl h4, va_Nw.same rfl rfl h5, va_Nw.same rfl rfl h6⟩
abbrev TY (k : ClassId × ClassId × ClassId × ClassId) : List (ClassId × FieldType) := [(k.1, .byte), (k.2.1, .int), (k.2.2.1, .long), (k.2.2.2, .boolean)]
/-- where a contract starts: the cells ws, all classes known, the heap of size sz -/
def cP (D : va_G) (k : ClassId × ClassId × ClassId × ClassId) (ws : va_W) (sz : Nat) (U : State) : Prop := U.heap.size = sz ∧ va_P D classes ws U.heap ∧ (va_K D classes (TY k) U ∧ cX U) ∧ va_D (fun _ => True) ws
/-- the cells where a contract ends -/
def cB (D : va_G) (A : Nat → Prop) (ws : va_W) (t : State) : Prop := va_P D classes ws t.heap ∧ va_D A ws
theorem cP_blind {D : va_G} {k : ClassId × ClassId × ClassId × ClassId} {ws : va_W} {sz : Nat} {av : List Value} : FrameBlind (va_Pc av (cP D k ws sz)) := fun a U g mk q => by
  obtain ⟨q0, q1, qP, ⟨qK, qX⟩, qD⟩ := q
  exact ⟨q0, q1, qP, ⟨va_K.moved (u := U) (U := U.calling g mk a) (Vm.Alike.refl U.vm) qK, qX.calling⟩, qD⟩
theorem cP_S {D : va_G} {k : ClassId × ClassId × ClassId × ClassId} {ws : va_W} {A : Nat → Prop} {As : List Value} {s : State} {H : Heap} (hP : va_P D classes ws H) (hK : va_K D classes (TY k) s ∧ cX s) (hD : va_D A ws) : PreS s H (va_Pc As (cP D k ws H.size)) As :=
  ⟨cP_blind, fun U hU hW => ⟨rfl, by rw [hU], by rw [hU]; exact hP, ⟨va_K.moved hW.alike hK.1, hK.2.warm hW⟩, hD.weaken (fun _ _ _ _ => trivial)⟩⟩
theorem cP_V {D : va_G} {k : ClassId × ClassId × ClassId × ClassId} {ws : va_W} {A : Nat → Prop} {As : List Value} {s : State} {H : Heap} {b q0 ci : Nat} {q : vw_C} {fs : List Value} (hP : va_P D classes ws H) (hK : va_K D classes (TY k) s ∧ cX s) (hD : va_D A ws) (hc : classes[ci]? = some q) (he : ws[q0]? = some (b, .inr (ci, fs))) : PreV s H q.1 b (va_Pc (.ref b :: As) (cP D k ws H.size)) As :=
  ⟨cP_blind, va_recv hK.1 hP hc he, fun U hU hW => ⟨rfl, by rw [hU], by rw [hU]; exact hP, ⟨va_K.moved hW.alike hK.1, hK.2.warm hW⟩, hD.weaken (fun _ _ _ _ => trivial)⟩⟩
theorem cB_of {D : va_G} {A : Nat → Prop} {ws : va_W} {t : State} {H : Heap} (ht : t.heap = H) (hP : va_P D classes ws H) (hD : va_D A ws) : cB D A ws t := ⟨by rw [ht]; exact hP, hD⟩
/-- put over known fields -/
theorem fs_ne {fs : List Value} {k j : Nat} {v w : Value} (h : fs[j]? = some w) (hk : k ≠ j) : (fs.set k v)[j]? = some w := by rw [List.getElem?_set_ne hk]; exact h
theorem fs_eq {fs : List Value} {k : Nat} {v w : Value} (h : fs[k]? = some w) : (fs.set k v)[k]? = some v := by rw [List.getElem?_set_self (List.getElem?_eq_some_iff.mp h).1]
theorem fs_lt {fs : List Value} {k : Nat} {w : Value} (h : fs[k]? = some w) : k < fs.length := (List.getElem?_eq_some_iff.mp h).1
section NEWT
variable {p : Program} {l : Launch} {e : Env} {R : Room} {s : State} {m : MethodId} {args : Array Value} {below : List Frame} {meth : Method} {c : Code} {H : Heap} {locs : List Loc} {cells slots : Nat} {Q : State → Prop}
variable {cc : ByteArray} {pc : Nat} {ls : Array Slot} {rest : List Value} {D : va_G} {cl : List vw_C} {A : Nat → Prop} {tys : List (ClassId × FieldType)} {ws : va_W} {H0 : Heap}
/-- a new array of a primitive type whose class is known -/
theorem va_newaT (hexec : p.tables.exec = Jvm.exec) (hb : c.code = cc) {atype : ArrayType} (harr : (Cond.arrayClass (newarray.typeOf atype)).before args s = true) {ty : FieldType} (hty : newarray.typeOf atype = ty) (hra : ∀ (U : State) (c1 c2 : ClassId), va_RA U c1 ty → va_RA U c2 ty → c1 = c2) (hK : va_K D cl tys s) (hP : va_P D cl ws H) (hD : va_D A ws) (hS : va_S A H0 H locs) (hA : ∀ q, H0.size ≤ q → A q) (t0 : Nat) {cA : ClassId} (ht : tys[t0]? = some (cA, ty))
    {n : Int32} {N' : Nat} {a0 : vp_A} (ha : ∀ cA : ClassId, vp_cell cA a0 = arrV cA N' (fun _ => defaultValue ty)) (hn : ¬ n < 0) (hN : n.toNatClampNeg = N') (hbytes : N' * componentBytes ty ≤ 536870912) (hcells : cells + 1 ≤ R.cells) (hslots : slots + N' ≤ R.slots) (hdg : decode cc pc = .ok (.newarray atype, 2))
    (kk : ∀ (q : Nat) (H1 : Heap), va_P D cl (ws ++ [(q, .inl (cA, a0))]) H1 → va_D A (ws ++ [(q, .inl (cA, a0))]) → va_S A H0 H1 locs →
      W p l e R s m args below meth c H1 locs (cells + 1) (slots + N') Q (F0 m (pc + 2) ls (.ref q :: rest))) : W p l e R s m args below meth c H locs cells slots Q (F0 m pc ls (.int n :: rest)) := by
  refine va_newa hexec hb harr hty hK hP hD hS hA ha hn hN hbytes hcells hslots hdg (fun q c2 H1 hK2 hP2 hD2 hS2 => ?_)
  have e1 := (hK.2 t0 _ ht).2
  have e2 := (hK2.2 tys.length (c2, ty) (by rw [List.getElem?_append_right (Nat.le_refl _), Nat.sub_self]; rfl)).2
  have e : c2 = cA := hra s c2 cA e2 e1
  subst e
  exact kk q H1 hP2 hD2 hS2
end NEWT
theorem ra_int (U : State) (c1 c2 : ClassId) (h1 : va_RA U c1 .int) (h2 : va_RA U c2 .int) : c1 = c2 := Option.some.inj (Eq.trans (Eq.symm h1) h2)
theorem ra_byte (U : State) (c1 c2 : ClassId) (h1 : va_RA U c1 .byte) (h2 : va_RA U c2 .byte) : c1 = c2 := Option.some.inj (Eq.trans (Eq.symm h1) h2)
theorem ra_long (U : State) (c1 c2 : ClassId) (h1 : va_RA U c1 .long) (h2 : va_RA U c2 .long) : c1 = c2 := Option.some.inj (Eq.trans (Eq.symm h1) h2)
theorem ra_boolean (U : State) (c1 c2 : ClassId) (h1 : va_RA U c1 .boolean) (h2 : va_RA U c2 .boolean) : c1 = c2 := Option.some.inj (Eq.trans (Eq.symm h1) h2)
set_option maxRecDepth 20000 in
theorem iX0 : ∀ w ∈ u_ws RX0 TX0 8, w ∈ gd := gd_r _ [395, 397, 399, 401, 403, 405, 407, 409] (by decide +kernel) (by decide +kernel)
set_option maxRecDepth 20000 in
theorem iX1 : ∀ w ∈ u_ws RX1 TX1 6, w ∈ gd := gd_r _ [501, 503, 505, 507, 509, 511] (by decide +kernel) (by decide +kernel)
set_option maxRecDepth 20000 in
theorem iX2 : ∀ w ∈ u_ws RX2 TX2 3, w ∈ gd := gd_r _ [304, 306, 308] (by decide +kernel) (by decide +kernel)
set_option maxRecDepth 20000 in
theorem iX3 : ∀ w ∈ u_ws RX3 TX3 5, w ∈ gd := gd_r _ [354, 356, 358, 360, 362] (by decide +kernel) (by decide +kernel)
set_option maxRecDepth 20000 in
theorem iX4 : ∀ w ∈ u_ws RX4 TX4 4, w ∈ gd := gd_r _ [431, 433, 435, 437] (by decide +kernel) (by decide +kernel)
set_option maxRecDepth 20000 in
theorem iX5 : ∀ w ∈ u_ws RX5 TX5 7, w ∈ gd := gd_r _ [471, 473, 475, 477, 479, 481, 483] (by decide +kernel) (by decide +kernel)
set_option maxRecDepth 20000 in
theorem iX6 : ∀ w ∈ u_ws RX6 TX6 17, w ∈ gd := gd_r _ [210, 212, 214, 216, 218, 220, 222, 224, 226, 228, 230, 232, 234, 236, 238, 240, 242] (by decide +kernel) (by decide +kernel)
set_option maxRecDepth 20000 in
theorem iX7 : ∀ w ∈ u_ws RX7 TX7 10, w ∈ gd := gd_r _ [322, 324, 326, 328, 330, 332, 334, 336, 338, 340] (by decide +kernel) (by decide +kernel)
set_option maxRecDepth 20000 in
theorem iX8 : ∀ w ∈ u_ws RX8 TX8 7, w ∈ gd := gd_r _ [532, 534, 536, 538, 540, 542, 544] (by decide +kernel) (by decide +kernel)
set_option maxRecDepth 20000 in
theorem iX9 : ∀ w ∈ u_ws RX9 TX9 9, w ∈ gd := gd_r _ [274, 276, 278, 280, 282, 284, 286, 288, 290] (by decide +kernel) (by decide +kernel)
set_option maxRecDepth 20000 in
theorem iX10 : ∀ w ∈ u_ws RX10 TX10 5, w ∈ gd := gd_r _ [447, 449, 451, 453, 455] (by decide +kernel) (by decide +kernel)
set_option maxRecDepth 20000 in
theorem iX11 : ∀ w ∈ u_ws RX11 TX11 13, w ∈ gd := gd_r _ [583, 585, 587, 589, 591, 593, 595, 597, 599, 601, 603, 605, 607] (by decide +kernel) (by decide +kernel)
set_option maxRecDepth 20000 in
theorem iX12 : ∀ w ∈ u_ws RX12 TX12 89, w ∈ gd := gd_r _ [1403, 1405, 1407, 1409, 1411, 1413, 1415, 1417, 1419, 1421, 1423, 1425, 1427, 1429, 1431, 1433, 1435, 1437, 1439, 1441, 1443, 1445, 1447, 1449, 1451, 1453, 1455, 1457, 1459, 1461, 1463, 1465, 1467, 1469, 1471, 1473, 1475, 1477, 1479, 1481, 1483, 1485, 1487, 1489, 1491, 1493, 1495, 1497, 1499, 1501, 1503, 1505, 1507, 1509, 1511, 1513, 1515, 1517, 1519, 1521, 1523, 1525, 1527, 1529, 1531, 1533, 1535, 1537, 1539, 1541, 1543, 1545, 1547, 1549, 1551, 1553, 1555, 1557, 1559, 1561, 1563, 1565, 1567, 1569, 1571, 1573, 1575, 1577, 1579] (by decide +kernel) (by decide +kernel)
