abbrev classes : List vw_C := [(RX0, TX0, 8), (RX1, TX1, 6), (RX2, TX2, 3), (RX3, TX3, 5), (RX4, TX4, 4), (RX5, TX5, 7), (RX6, TX6, 17), (RX7, TX7, 10), (RX8, TX8, 7), (RX9, TX9, 9), (RX10, TX10, 5), (RX11, TX11, 13), (RX12, TX12, 89)]
/-- the good words of the tables: every method's contract takes all of them -/
def gd : List Cond := lw_tbl.filter goodWord
theorem gd_mem {w : Cond} (i : Nat) (h : lw_tbl[i]? = some w) (g : goodWord w = true) : w ∈ gd := List.mem_filter.mpr ⟨List.mem_of_getElem? h, g⟩
theorem gd_r (ws : List Cond) (ps : List Nat) (hp : ws = ps.filterMap (fun i => lw_tbl[i]?)) (h : ws.all goodWord = true) : ∀ w ∈ ws, w ∈ gd := by
  intro w hw
  have h1 := List.all_eq_true.mp h w hw
  rw [hp] at hw
  obtain ⟨i, -, hi⟩ := List.mem_filterMap.mp hw
  exact gd_mem i hi h1
theorem gd_good {w : Cond} (h : w ∈ gd) : (w.onTables && w.keeps) = true ∨ ∃ ty, w = .arrayClass ty := good_of_word (List.mem_filter.mp h).2
abbrev WS (y : MethodName) (c : ByteArray) (n : Nat) (r : Option FieldType) : List Cond := .code y c n r :: gd
theorem gd_in {big ws : List Cond} (hb : ∀ w ∈ gd, w ∈ big) (h : ∀ w ∈ ws, w ∈ gd) : GoodIn big ws := fun w hw => ⟨hb w (h w hw), gd_good (h w hw)⟩
theorem gd_WS {y : MethodName} {c : ByteArray} {n : Nat} {r : Option FieldType} (hc : Cond.code y c n r ∈ gd) : ∀ w ∈ WS y c n r, w ∈ gd := fun w h => (List.mem_cons.mp h).elim (fun e => e ▸ hc) id
theorem gd_V {big : List Cond} {own C : String} {idx : Nat} {y : MethodName} {c : ByteArray} {n : Nat} {r : Option FieldType} (hb : ∀ w ∈ gd, w ∈ big) (h1 : Cond.methodLink own idx y ∈ gd) (h2 : Cond.instanceMethod y ∈ gd) (h3 : Cond.selects C y y ∈ gd) (h4 : Cond.initialized C ∈ gd) (hc : Cond.code y c n r ∈ gd) : GoodIn big (wsV own idx C y (WS y c n r)) :=
  gd_in hb (fun w hw => by
    unfold wsV at hw
    rcases List.mem_append.mp hw with h | h
    · simp only [List.mem_cons, List.not_mem_nil, or_false] at h
      rcases h with rfl | rfl | rfl | rfl
      · exact h1
      · exact h2
      · exact h3
      · exact h4
    · exact gd_WS hc w h)
theorem gd_S {big : List Cond} {own : String} {idx : Nat} {y : MethodName} {c : ByteArray} {n : Nat} {r : Option FieldType} (hb : ∀ w ∈ gd, w ∈ big) (h1 : Cond.methodLink own idx y ∈ gd) (h2 : Cond.static y ∈ gd) (h4 : Cond.initialized y.cls ∈ gd) (hc : Cond.code y c n r ∈ gd) : GoodIn big (va_wsS own idx y (WS y c n r)) :=
  gd_in hb (fun w hw => by
    unfold va_wsS at hw
    rcases List.mem_append.mp hw with h | h
    · simp only [List.mem_cons, List.not_mem_nil, or_false] at h
      rcases h with rfl | rfl | rfl
      · exact h1
      · exact h2
      · exact h4
    · exact gd_WS hc w h)
/-- words that aren't kept by themselves: the nest's private constructors, the class of int[][] -/
def va_AOA (t : FieldType) (U : State) : Prop := (Cond.arrayOver (.array t)).before #[] U = true
def cX (U : State) : Prop := va_AOA .int U ∧ va_Nw (.methodLinkNest RX11 43 yX0_init RX11) U ∧ va_Nw (.methodLinkNest RX11 50 yX10_init RX11) U ∧ va_Nw (.methodLinkNest RX10 18 yX4_init RX11) U ∧ va_Nw (.methodLinkNest RX11 57 yX5_init RX11) U ∧ va_Nw (.methodLinkNest RX11 64 yX1_init RX11) U ∧ va_Nw (.methodLinkNest RX11 71 yX8_init RX11) U
theorem cX.warm {s U : State} (hW : s.WarmedH U.vm) (h : cX s) : cX U := by
  obtain ⟨h0, h1, h2, h3, h4, h5, h6⟩ := h
  exact ⟨over_moved hW.alike h0, va_Nw.warmM hW h1, va_Nw.warmM hW h2, va_Nw.warmM hW h3, va_Nw.warmM hW h4, va_Nw.warmM hW h5, va_Nw.warmM hW h6⟩
theorem cX.calling {U : State} {g : JFrame} {mk : MethodId} {a : Array Value} (h : cX U) : cX (U.calling g mk a) := by
  obtain ⟨h0, h1, h2, h3, h4, h5, h6⟩ := h
  exact ⟨over_moved (Vm.Alike.refl U.vm) h0, va_Nw.same rfl rfl h1, va_Nw.same rfl rfl h2, va_Nw.same rfl rfl h3, va_Nw.same rfl rfl h4, va_Nw.same rfl rfl h5, va_Nw.same rfl rfl h6⟩
abbrev TY (k : ClassId × ClassId × ClassId × ClassId) : List (ClassId × FieldType) := [(k.1, .byte), (k.2.1, .int), (k.2.2.1, .long), (k.2.2.2, .boolean)]
/-- where a contract starts: the cells ws, all classes known, the heap of size sz -/
def cP (D : va_G) (k : ClassId × ClassId × ClassId × ClassId) (ws : va_W) (sz : Nat) (U : State) : Prop := U.heap.size = sz ∧ va_P D classes ws U.heap ∧ (va_K D classes (TY k) U ∧ cX U) ∧ va_D (fun _ => True) ws
/-- the cells where a contract ends -/
def cB (D : va_G) (A : Nat → Prop) (ws : va_W) (t : State) : Prop := va_P D classes ws t.heap ∧ va_D A ws
theorem cP_blind {D : va_G} {k : ClassId × ClassId × ClassId × ClassId} {ws : va_W} {sz : Nat} {av : List Value} : FrameBlind (va_Pc av (cP D k ws sz)) := fun a U g mk q => by
  obtain ⟨q0, q1, qP, ⟨qK, qX⟩, qD⟩ := q
  exact ⟨q0, q1, qP, ⟨va_K.moved (u := U) (U := U.calling g mk a) (Vm.Alike.refl U.vm) qK, qX.calling⟩, qD⟩
theorem cP_S {D : va_G} {k : ClassId × ClassId × ClassId × ClassId} {ws : va_W} {A : Nat → Prop} {As : List Value} {s : State} {H : Heap} (hP : va_P D classes ws H) (hK : va_K D classes (TY k) s ∧ cX s) (hD : va_D A ws) : PreS s H (va_Pc As (cP D k ws H.size)) As :=
  ⟨cP_blind, fun U hU hW => ⟨rfl, by rw [hU], by rw [hU]; exact hP, ⟨va_K.moved hW.alike hK.1, hK.2.warm hW⟩, hD.weaken (fun _ _ _ _ => trivial)⟩⟩
theorem cP_V {D : va_G} {k : ClassId × ClassId × ClassId × ClassId} {ws : va_W} {A : Nat → Prop} {As : List Value} {s : State} {H : Heap} {b q0 ci : Nat} {q : vw_C} {fs : List Value} (hP : va_P D classes ws H) (hK : va_K D classes (TY k) s ∧ cX s) (hD : va_D A ws) (hc : classes[ci]? = some q) (he : ws[q0]? = some (b, .inr (ci, fs))) : PreV s H q.1 b (va_Pc (.ref b :: As) (cP D k ws H.size)) As :=
  ⟨cP_blind, va_recv hK.1 hP hc he, fun U hU hW => ⟨rfl, by rw [hU], by rw [hU]; exact hP, ⟨va_K.moved hW.alike hK.1, hK.2.warm hW⟩, hD.weaken (fun _ _ _ _ => trivial)⟩⟩
theorem cB_of {D : va_G} {A : Nat → Prop} {ws : va_W} {t : State} {H : Heap} (ht : t.heap = H) (hP : va_P D classes ws H) (hD : va_D A ws) : cB D A ws t := ⟨by rw [ht]; exact hP, hD⟩
/-- put over known fields -/
theorem fs_ne {fs : List Value} {k j : Nat} {v w : Value} (h : fs[j]? = some w) (hk : k ≠ j) : (fs.set k v)[j]? = some w := by rw [List.getElem?_set_ne hk]; exact h
theorem fs_eq {fs : List Value} {k : Nat} {v w : Value} (h : fs[k]? = some w) : (fs.set k v)[k]? = some v := by rw [List.getElem?_set_self (List.getElem?_eq_some_iff.mp h).1]
theorem fs_lt {fs : List Value} {k : Nat} {w : Value} (h : fs[k]? = some w) : k < fs.length := (List.getElem?_eq_some_iff.mp h).1
section NEWT
variable {p : Program} {l : Launch} {e : Env} {R : Room} {s : State} {m : MethodId} {args : Array Value} {below : List Frame} {meth : Method} {c : Code} {H : Heap} {locs : List Loc} {cells slots : Nat} {Q : State → Prop}
variable {cc : ByteArray} {pc : Nat} {ls : Array Slot} {rest : List Value} {D : va_G} {cl : List vw_C} {A : Nat → Prop} {tys : List (ClassId × FieldType)} {ws : va_W} {H0 : Heap}
/-- a new array of a primitive type whose class is known -/
theorem va_newaT (hexec : p.tables.exec = Jvm.exec) (hb : c.code = cc) {atype : ArrayType} (harr : (Cond.arrayClass (newarray.typeOf atype)).before args s = true) {ty : FieldType} (hty : newarray.typeOf atype = ty) (hra : ∀ (U : State) (c1 c2 : ClassId), va_RA U c1 ty → va_RA U c2 ty → c1 = c2) (hK : va_K D cl tys s) (hP : va_P D cl ws H) (hD : va_D A ws) (hS : va_S A H0 H locs) (hA : ∀ q, H0.size ≤ q → A q) (t0 : Nat) {cA : ClassId} (ht : tys[t0]? = some (cA, ty))
    {n : Int32} {N' : Nat} {a0 : vp_A} (ha : ∀ cA : ClassId, vp_cell cA a0 = arrV cA N' (fun _ => defaultValue ty)) (hn : ¬ n < 0) (hN : n.toNatClampNeg = N') (hbytes : N' * componentBytes ty ≤ 536870912) (hcells : cells + 1 ≤ R.cells) (hslots : slots + N' ≤ R.slots) (hdg : decode cc pc = .ok (.newarray atype, 2))
    (kk : ∀ (q : Nat) (H1 : Heap), va_P D cl (ws ++ [(q, .inl (cA, a0))]) H1 → va_D A (ws ++ [(q, .inl (cA, a0))]) → va_S A H0 H1 locs →
      W p l e R s m args below meth c H1 locs (cells + 1) (slots + N') Q (F0 m (pc + 2) ls (.ref q :: rest))) : W p l e R s m args below meth c H locs cells slots Q (F0 m pc ls (.int n :: rest)) := by
  refine va_newa hexec hb harr hty hK hP hD hS hA ha hn hN hbytes hcells hslots hdg (fun q c2 H1 hK2 hP2 hD2 hS2 => ?_)
  have e1 := (hK.2 t0 _ ht).2
  have e2 := (hK2.2 tys.length (c2, ty) (by rw [List.getElem?_append_right (Nat.le_refl _), Nat.sub_self]; rfl)).2
  have e : c2 = cA := hra s c2 cA e2 e1
  subst e
  exact kk q H1 hP2 hD2 hS2
end NEWT
theorem ra_int (U : State) (c1 c2 : ClassId) (h1 : va_RA U c1 .int) (h2 : va_RA U c2 .int) : c1 = c2 := Option.some.inj (Eq.trans (Eq.symm h1) h2)
theorem ra_byte (U : State) (c1 c2 : ClassId) (h1 : va_RA U c1 .byte) (h2 : va_RA U c2 .byte) : c1 = c2 := Option.some.inj (Eq.trans (Eq.symm h1) h2)
theorem ra_long (U : State) (c1 c2 : ClassId) (h1 : va_RA U c1 .long) (h2 : va_RA U c2 .long) : c1 = c2 := Option.some.inj (Eq.trans (Eq.symm h1) h2)
theorem ra_boolean (U : State) (c1 c2 : ClassId) (h1 : va_RA U c1 .boolean) (h2 : va_RA U c2 .boolean) : c1 = c2 := Option.some.inj (Eq.trans (Eq.symm h1) h2)
theorem gw_fieldLink {a0} {a1} {a2} {a3} {a4} : goodWord (Cond.fieldLink a0 a1 a2 a3 a4) = true := rfl
theorem gw_methodLink {a0} {a1} {a2} : goodWord (Cond.methodLink a0 a1 a2) = true := rfl
theorem gw_instanceMethod {a0} : goodWord (Cond.instanceMethod a0) = true := rfl
theorem gw_code {a0} {a1} {a2} {a3} : goodWord (Cond.code a0 a1 a2 a3) = true := rfl
theorem gw_static {a0} : goodWord (Cond.static a0) = true := rfl
theorem gw_selects {a0} {a1} {a2} : goodWord (Cond.selects a0 a1 a2) = true := rfl
theorem gw_classLink {a0} {a1} {a2} : goodWord (Cond.classLink a0 a1 a2) = true := rfl
theorem gw_instantiable {a0} {a1} : goodWord (Cond.instantiable a0 a1) = true := rfl
theorem gw_constant {a0} {a1} {a2} : goodWord (Cond.constant a0 a1 a2) = true := rfl
theorem gw_constantLong {a0} {a1} {a2} : goodWord (Cond.constantLong a0 a1 a2) = true := rfl
theorem gw_initialized {a0} : goodWord (Cond.initialized a0) = true := rfl
theorem gdm_1 {w : Cond} (h : w ∈ tables_1_1) (g : goodWord w = true) : w ∈ gd := List.mem_filter.mpr ⟨show w ∈ k2_sels lw_privs ++ tables_1 from List.mem_append_right _ (gt_1 h), g⟩
noncomputable def st_1_0 : List Cond := [Cond.initialized RL, Cond.initialized RX11, Cond.initialized RX6, Cond.initialized RX7, Cond.initialized RX9, Cond.initialized RX2, Cond.initialized RX3, Cond.initialized RX0, Cond.initialized RX10, Cond.initialized RX4, Cond.initialized RX5, Cond.initialized RX1, Cond.initialized RX8, Cond.initialized RJ7, Cond.initialized "java/lang/System", Cond.initialized RX12]
set_option maxRecDepth 20000 in
theorem sq_1_0 : (tables_1_1.drop 0).take 16 = st_1_0 := rfl
theorem gdc_1_0 {w : Cond} (j : Nat) (h : st_1_0[j]? = some w) (g : goodWord w = true) : w ∈ gd := gdm_1 (List.mem_of_mem_drop (List.mem_of_mem_take (show w ∈ (tables_1_1.drop 0).take 16 from by rw [sq_1_0]; exact List.mem_of_getElem? h))) g
noncomputable def st_1_1 : List Cond := [Cond.initialized "java/lang/Math", Cond.initialized RJ0, Cond.initialized RJ1, Cond.initialized RJ3, Cond.initialized RJ2, Cond.initialized RJ11, Cond.classLink RL 7 RX11, Cond.instantiable RX11 13, Cond.methodLink RL 9 yX11_init, Cond.instanceMethod yX11_init, Cond.code yX11_init cX11_init 1 none, Cond.methodLink RX11 1 objectInit, Cond.instanceMethod objectInit, Cond.code objectInit ⟨#[0xb1]⟩ 1 none, Cond.classLink RX11 7 RX6, Cond.instantiable RX6 17]
set_option maxRecDepth 20000 in
theorem sq_1_1 : (tables_1_1.drop 16).take 16 = st_1_1 := rfl
theorem gdc_1_1 {w : Cond} (j : Nat) (h : st_1_1[j]? = some w) (g : goodWord w = true) : w ∈ gd := gdm_1 (List.mem_of_mem_drop (List.mem_of_mem_take (show w ∈ (tables_1_1.drop 16).take 16 from by rw [sq_1_1]; exact List.mem_of_getElem? h))) g
noncomputable def st_1_2 : List Cond := [Cond.methodLink RX11 9 yX6_init, Cond.instanceMethod yX6_init, Cond.code yX6_init cX6_init 1 none, Cond.methodLink RX6 3 objectInit, Cond.methodLink RX6 39 yX6_empty, Cond.instanceMethod yX6_empty, Cond.selects RX6 yX6_empty yX6_empty, Cond.code yX6_empty cX6_empty 1 none, Cond.fieldLink RX6 9 "SlabWalk$Paving" "length" "[I", Cond.fieldLink RX0 15 "SlabWalk$Paving" "length" "[I", Cond.fieldLink RX3 37 "SlabWalk$Paving" "length" "[I", Cond.fieldLink RX11 125 "SlabWalk$Paving" "length" "[I", Cond.fieldLink RX7 121 "SlabWalk$Paving" "length" "[I", Cond.fieldLink RX6 15 "SlabWalk$Paving" "inches" "[I", Cond.fieldLink RX6 18 "SlabWalk$Paving" "foot" "[I", Cond.fieldLink RX0 24 "SlabWalk$Paving" "foot" "[I"]
set_option maxRecDepth 20000 in
theorem sq_1_2 : (tables_1_1.drop 32).take 16 = st_1_2 := rfl
theorem gdc_1_2 {w : Cond} (j : Nat) (h : st_1_2[j]? = some w) (g : goodWord w = true) : w ∈ gd := gdm_1 (List.mem_of_mem_drop (List.mem_of_mem_take (show w ∈ (tables_1_1.drop 32).take 16 from by rw [sq_1_2]; exact List.mem_of_getElem? h))) g
noncomputable def st_1_3 : List Cond := [Cond.fieldLink RX3 60 "SlabWalk$Paving" "foot" "[I", Cond.fieldLink RX7 141 "SlabWalk$Paving" "foot" "[I", Cond.fieldLink RX6 21 "SlabWalk$Paving" "least" "[I", Cond.fieldLink RX0 29 "SlabWalk$Paving" "least" "[I", Cond.fieldLink RX7 144 "SlabWalk$Paving" "least" "[I", Cond.fieldLink RX11 331 "SlabWalk$Paving" "least" "[I", Cond.fieldLink RX6 24 "SlabWalk$Paving" "most" "[I", Cond.fieldLink RX0 34 "SlabWalk$Paving" "most" "[I", Cond.fieldLink RX7 147 "SlabWalk$Paving" "most" "[I", Cond.fieldLink RX11 237 "SlabWalk$Paving" "most" "[I", Cond.fieldLink RX6 27 "SlabWalk$Paving" "leap" "[I", Cond.fieldLink RX0 39 "SlabWalk$Paving" "leap" "[I", Cond.fieldLink RX7 150 "SlabWalk$Paving" "leap" "[I", Cond.fieldLink RX11 333 "SlabWalk$Paving" "leap" "[I", Cond.fieldLink RX6 30 "SlabWalk$Paving" "slip" "[I", Cond.fieldLink RX7 166 "SlabWalk$Paving" "slip" "[I"]
set_option maxRecDepth 20000 in
theorem sq_1_3 : (tables_1_1.drop 48).take 16 = st_1_3 := rfl
theorem gdc_1_3 {w : Cond} (j : Nat) (h : st_1_3[j]? = some w) (g : goodWord w = true) : w ∈ gd := gdm_1 (List.mem_of_mem_drop (List.mem_of_mem_take (show w ∈ (tables_1_1.drop 48).take 16 from by rw [sq_1_3]; exact List.mem_of_getElem? h))) g
noncomputable def st_1_4 : List Cond := [Cond.fieldLink RX11 215 "SlabWalk$Paving" "slip" "[I", Cond.fieldLink RX6 33 "SlabWalk$Paving" "code" "[I", Cond.fieldLink RX3 72 "SlabWalk$Paving" "code" "[I", Cond.fieldLink RX6 36 "SlabWalk$Paving" "codeEnd" "[I", Cond.fieldLink RX3 69 "SlabWalk$Paving" "codeEnd" "[I", Cond.fieldLink RX7 156 "SlabWalk$Paving" "codeEnd" "[I", Cond.fieldLink RX6 42 "SlabWalk$Paving" "streets" "I", Cond.fieldLink RX11 95 "SlabWalk$Paving" "streets" "I", Cond.fieldLink RX7 104 "SlabWalk$Paving" "streets" "I", Cond.fieldLink RX6 46 "SlabWalk$Paving" "walkers" "I", Cond.fieldLink RX7 138 "SlabWalk$Paving" "walkers" "I", Cond.fieldLink RX11 305 "SlabWalk$Paving" "walkers" "I", Cond.fieldLink RX6 49 "SlabWalk$Paving" "rules" "I", Cond.fieldLink RX3 44 "SlabWalk$Paving" "rules" "I", Cond.fieldLink RX7 153 "SlabWalk$Paving" "rules" "I", Cond.fieldLink RX11 228 "SlabWalk$Paving" "rules" "I"]
set_option maxRecDepth 20000 in
theorem sq_1_4 : (tables_1_1.drop 64).take 16 = st_1_4 := rfl
theorem gdc_1_4 {w : Cond} (j : Nat) (h : st_1_4[j]? = some w) (g : goodWord w = true) : w ∈ gd := gdm_1 (List.mem_of_mem_drop (List.mem_of_mem_take (show w ∈ (tables_1_1.drop 64).take 16 from by rw [sq_1_4]; exact List.mem_of_getElem? h))) g
noncomputable def st_1_5 : List Cond := [Cond.fieldLink RX6 52 "SlabWalk$Paving" "units" "I", Cond.fieldLink RX2 66 "SlabWalk$Paving" "units" "I", Cond.fieldLink RX11 314 "SlabWalk$Paving" "units" "I", Cond.fieldLink RX6 55 "SlabWalk$Paving" "coded" "I", Cond.fieldLink RX7 159 "SlabWalk$Paving" "coded" "I", Cond.fieldLink RX6 58 "SlabWalk$Paving" "hand" "I", Cond.fieldLink RX7 169 "SlabWalk$Paving" "hand" "I", Cond.fieldLink RX11 201 "SlabWalk$Paving" "hand" "I", Cond.fieldLink RX6 61 "SlabWalk$Paving" "slack" "I", Cond.fieldLink RX7 172 "SlabWalk$Paving" "slack" "I", Cond.fieldLink RX11 204 "SlabWalk$Paving" "slack" "I", Cond.fieldLink RX6 64 "SlabWalk$Paving" "draw" "I", Cond.fieldLink RX7 175 "SlabWalk$Paving" "draw" "I", Cond.fieldLink RX11 323 "SlabWalk$Paving" "draw" "I", Cond.laysFinal "SlabWalk$Paving" "SlabWalk$Paving" "length" "[I", Cond.soleField "SlabWalk$Paving" "length"]
set_option maxRecDepth 20000 in
theorem sq_1_5 : (tables_1_1.drop 80).take 16 = st_1_5 := rfl
theorem gdc_1_5 {w : Cond} (j : Nat) (h : st_1_5[j]? = some w) (g : goodWord w = true) : w ∈ gd := gdm_1 (List.mem_of_mem_drop (List.mem_of_mem_take (show w ∈ (tables_1_1.drop 80).take 16 from by rw [sq_1_5]; exact List.mem_of_getElem? h))) g
noncomputable def st_1_6 : List Cond := [Cond.laysFinal "SlabWalk$Paving" "SlabWalk$Paving" "inches" "[I", Cond.soleField "SlabWalk$Paving" "inches", Cond.laysFinal "SlabWalk$Paving" "SlabWalk$Paving" "foot" "[I", Cond.soleField "SlabWalk$Paving" "foot", Cond.laysFinal "SlabWalk$Paving" "SlabWalk$Paving" "least" "[I", Cond.soleField "SlabWalk$Paving" "least", Cond.laysFinal "SlabWalk$Paving" "SlabWalk$Paving" "most" "[I", Cond.soleField "SlabWalk$Paving" "most", Cond.laysFinal "SlabWalk$Paving" "SlabWalk$Paving" "leap" "[I", Cond.soleField "SlabWalk$Paving" "leap", Cond.laysFinal "SlabWalk$Paving" "SlabWalk$Paving" "slip" "[I", Cond.soleField "SlabWalk$Paving" "slip", Cond.laysFinal "SlabWalk$Paving" "SlabWalk$Paving" "code" "[I", Cond.soleField "SlabWalk$Paving" "code", Cond.laysFinal "SlabWalk$Paving" "SlabWalk$Paving" "codeEnd" "[I", Cond.soleField "SlabWalk$Paving" "codeEnd"]
set_option maxRecDepth 20000 in
theorem sq_1_6 : (tables_1_1.drop 96).take 16 = st_1_6 := rfl
theorem gdc_1_6 {w : Cond} (j : Nat) (h : st_1_6[j]? = some w) (g : goodWord w = true) : w ∈ gd := gdm_1 (List.mem_of_mem_drop (List.mem_of_mem_take (show w ∈ (tables_1_1.drop 96).take 16 from by rw [sq_1_6]; exact List.mem_of_getElem? h))) g
noncomputable def st_1_7 : List Cond := [Cond.lays "SlabWalk$Paving" "SlabWalk$Paving" "streets" "I", Cond.soleField "SlabWalk$Paving" "streets", Cond.lays "SlabWalk$Paving" "SlabWalk$Paving" "walkers" "I", Cond.soleField "SlabWalk$Paving" "walkers", Cond.lays "SlabWalk$Paving" "SlabWalk$Paving" "rules" "I", Cond.soleField "SlabWalk$Paving" "rules", Cond.lays "SlabWalk$Paving" "SlabWalk$Paving" "units" "I", Cond.soleField "SlabWalk$Paving" "units", Cond.lays "SlabWalk$Paving" "SlabWalk$Paving" "coded" "I", Cond.soleField "SlabWalk$Paving" "coded", Cond.lays "SlabWalk$Paving" "SlabWalk$Paving" "hand" "I", Cond.soleField "SlabWalk$Paving" "hand", Cond.lays "SlabWalk$Paving" "SlabWalk$Paving" "slack" "I", Cond.soleField "SlabWalk$Paving" "slack", Cond.lays "SlabWalk$Paving" "SlabWalk$Paving" "draw" "I", Cond.soleField "SlabWalk$Paving" "draw"]
set_option maxRecDepth 20000 in
theorem sq_1_7 : (tables_1_1.drop 112).take 16 = st_1_7 := rfl
theorem gdc_1_7 {w : Cond} (j : Nat) (h : st_1_7[j]? = some w) (g : goodWord w = true) : w ∈ gd := gdm_1 (List.mem_of_mem_drop (List.mem_of_mem_take (show w ∈ (tables_1_1.drop 112).take 16 from by rw [sq_1_7]; exact List.mem_of_getElem? h))) g
noncomputable def st_1_8 : List Cond := [Cond.superclass "SlabWalk$Paving" "java/lang/Object", Cond.arrayClass .int, Cond.classLink RX11 23 RX7, Cond.instantiable RX7 10, Cond.methodLink RX11 25 yX7_init, Cond.instanceMethod yX7_init, Cond.code yX7_init cX7_init 3 none, Cond.methodLink RX7 3 objectInit, Cond.classLink RX7 21 RX9, Cond.instantiable RX9 9, Cond.methodLink RX7 23 yX9_init, Cond.instanceMethod yX9_init, Cond.code yX9_init cX9_init 2 none, Cond.methodLink RX9 3 objectInit, Cond.fieldLink RX9 15 "SlabWalk$Tokens" "text" "[B", Cond.fieldLink RX9 25 "SlabWalk$Tokens" "size" "I"]
set_option maxRecDepth 20000 in
theorem sq_1_8 : (tables_1_1.drop 128).take 16 = st_1_8 := rfl
theorem gdc_1_8 {w : Cond} (j : Nat) (h : st_1_8[j]? = some w) (g : goodWord w = true) : w ∈ gd := gdm_1 (List.mem_of_mem_drop (List.mem_of_mem_take (show w ∈ (tables_1_1.drop 128).take 16 from by rw [sq_1_8]; exact List.mem_of_getElem? h))) g
noncomputable def st_1_9 : List Cond := [Cond.fieldLink RX9 28 "SlabWalk$Tokens" "at" "I", Cond.fieldLink RX7 62 "SlabWalk$Tokens" "kind" "I", Cond.fieldLink RX9 38 "SlabWalk$Tokens" "kind" "I", Cond.fieldLink RX2 30 "SlabWalk$Tokens" "kind" "I", Cond.fieldLink RX9 41 "SlabWalk$Tokens" "place" "I", Cond.fieldLink RX7 96 "SlabWalk$Tokens" "number" "I", Cond.fieldLink RX9 85 "SlabWalk$Tokens" "number" "I", Cond.fieldLink RX2 70 "SlabWalk$Tokens" "number" "I", Cond.fieldLink RX7 92 "SlabWalk$Tokens" "word" "J", Cond.fieldLink RX9 68 "SlabWalk$Tokens" "word" "J", Cond.fieldLink RX9 31 "SlabWalk$Tokens" "fault" "I", Cond.fieldLink RX11 102 "SlabWalk$Tokens" "fault" "I", Cond.fieldLink RX9 9 "SlabWalk$Tokens" "faultPlace" "I", Cond.fieldLink RX11 107 "SlabWalk$Tokens" "faultPlace" "I", Cond.laysFinal "SlabWalk$Tokens" "SlabWalk$Tokens" "text" "[B", Cond.soleField "SlabWalk$Tokens" "text"]
set_option maxRecDepth 20000 in
theorem sq_1_9 : (tables_1_1.drop 144).take 16 = st_1_9 := rfl
theorem gdc_1_9 {w : Cond} (j : Nat) (h : st_1_9[j]? = some w) (g : goodWord w = true) : w ∈ gd := gdm_1 (List.mem_of_mem_drop (List.mem_of_mem_take (show w ∈ (tables_1_1.drop 144).take 16 from by rw [sq_1_9]; exact List.mem_of_getElem? h))) g
noncomputable def st_1_10 : List Cond := [Cond.lays "SlabWalk$Tokens" "SlabWalk$Tokens" "size" "I", Cond.soleField "SlabWalk$Tokens" "size", Cond.lays "SlabWalk$Tokens" "SlabWalk$Tokens" "at" "I", Cond.soleField "SlabWalk$Tokens" "at", Cond.lays "SlabWalk$Tokens" "SlabWalk$Tokens" "kind" "I", Cond.soleField "SlabWalk$Tokens" "kind", Cond.lays "SlabWalk$Tokens" "SlabWalk$Tokens" "place" "I", Cond.soleField "SlabWalk$Tokens" "place", Cond.lays "SlabWalk$Tokens" "SlabWalk$Tokens" "number" "I", Cond.soleField "SlabWalk$Tokens" "number", Cond.lays "SlabWalk$Tokens" "SlabWalk$Tokens" "word" "J", Cond.soleField "SlabWalk$Tokens" "word", Cond.lays "SlabWalk$Tokens" "SlabWalk$Tokens" "fault" "I", Cond.soleField "SlabWalk$Tokens" "fault", Cond.lays "SlabWalk$Tokens" "SlabWalk$Tokens" "faultPlace" "I", Cond.soleField "SlabWalk$Tokens" "faultPlace"]
set_option maxRecDepth 20000 in
theorem sq_1_10 : (tables_1_1.drop 160).take 16 = st_1_10 := rfl
theorem gdc_1_10 {w : Cond} (j : Nat) (h : st_1_10[j]? = some w) (g : goodWord w = true) : w ∈ gd := gdm_1 (List.mem_of_mem_drop (List.mem_of_mem_take (show w ∈ (tables_1_1.drop 160).take 16 from by rw [sq_1_10]; exact List.mem_of_getElem? h))) g
noncomputable def st_1_11 : List Cond := [Cond.superclass "SlabWalk$Tokens" "java/lang/Object", Cond.arrayClass .byte, Cond.arrayClass .long, Cond.classLink RX7 30 RX2, Cond.instantiable RX2 3, Cond.methodLink RX7 32 yX2_init, Cond.instanceMethod yX2_init, Cond.code yX2_init cX2_init 3 none, Cond.methodLink RX2 3 objectInit, Cond.fieldLink RX2 9 "SlabWalk$Formulas" "tokens" "LSlabWalk$Tokens;", Cond.fieldLink RX2 15 "SlabWalk$Formulas" "paving" "LSlabWalk$Paving;", Cond.fieldLink RX2 19 "SlabWalk$Formulas" "units" "I", Cond.laysFinal "SlabWalk$Formulas" "SlabWalk$Formulas" "tokens" "LSlabWalk$Tokens;", Cond.soleField "SlabWalk$Formulas" "tokens", Cond.lays "SlabWalk$Formulas" "SlabWalk$Formulas" "paving" "LSlabWalk$Paving;", Cond.soleField "SlabWalk$Formulas" "paving"]
set_option maxRecDepth 20000 in
theorem sq_1_11 : (tables_1_1.drop 176).take 16 = st_1_11 := rfl
theorem gdc_1_11 {w : Cond} (j : Nat) (h : st_1_11[j]? = some w) (g : goodWord w = true) : w ∈ gd := gdm_1 (List.mem_of_mem_drop (List.mem_of_mem_take (show w ∈ (tables_1_1.drop 176).take 16 from by rw [sq_1_11]; exact List.mem_of_getElem? h))) g
noncomputable def st_1_12 : List Cond := [Cond.lays "SlabWalk$Formulas" "SlabWalk$Formulas" "units" "I", Cond.soleField "SlabWalk$Formulas" "units", Cond.superclass "SlabWalk$Formulas" "java/lang/Object", Cond.fieldLink RX7 26 "SlabWalk$Reader" "tokens" "LSlabWalk$Tokens;", Cond.fieldLink RX11 98 "SlabWalk$Reader" "tokens" "LSlabWalk$Tokens;", Cond.fieldLink RX7 35 "SlabWalk$Reader" "formulas" "LSlabWalk$Formulas;", Cond.fieldLink RX7 9 "SlabWalk$Reader" "streetNames" "[J", Cond.fieldLink RX7 15 "SlabWalk$Reader" "walkerNames" "[J", Cond.fieldLink RX7 18 "SlabWalk$Reader" "ruleNames" "[J", Cond.fieldLink RX7 39 "SlabWalk$Reader" "paving" "LSlabWalk$Paving;", Cond.fieldLink RX7 48 "SlabWalk$Reader" "slipTold" "Z", Cond.fieldLink RX7 52 "SlabWalk$Reader" "handTold" "Z", Cond.fieldLink RX7 55 "SlabWalk$Reader" "drawTold" "Z", Cond.fieldLink RX7 99 "SlabWalk$Reader" "number" "I", Cond.laysFinal "SlabWalk$Reader" "SlabWalk$Reader" "tokens" "LSlabWalk$Tokens;", Cond.soleField "SlabWalk$Reader" "tokens"]
set_option maxRecDepth 20000 in
theorem sq_1_12 : (tables_1_1.drop 192).take 16 = st_1_12 := rfl
theorem gdc_1_12 {w : Cond} (j : Nat) (h : st_1_12[j]? = some w) (g : goodWord w = true) : w ∈ gd := gdm_1 (List.mem_of_mem_drop (List.mem_of_mem_take (show w ∈ (tables_1_1.drop 192).take 16 from by rw [sq_1_12]; exact List.mem_of_getElem? h))) g
noncomputable def st_1_13 : List Cond := [Cond.laysFinal "SlabWalk$Reader" "SlabWalk$Reader" "formulas" "LSlabWalk$Formulas;", Cond.soleField "SlabWalk$Reader" "formulas", Cond.laysFinal "SlabWalk$Reader" "SlabWalk$Reader" "streetNames" "[J", Cond.soleField "SlabWalk$Reader" "streetNames", Cond.laysFinal "SlabWalk$Reader" "SlabWalk$Reader" "walkerNames" "[J", Cond.soleField "SlabWalk$Reader" "walkerNames", Cond.laysFinal "SlabWalk$Reader" "SlabWalk$Reader" "ruleNames" "[J", Cond.soleField "SlabWalk$Reader" "ruleNames", Cond.lays "SlabWalk$Reader" "SlabWalk$Reader" "paving" "LSlabWalk$Paving;", Cond.soleField "SlabWalk$Reader" "paving", Cond.lays "SlabWalk$Reader" "SlabWalk$Reader" "slipTold" "Z", Cond.soleField "SlabWalk$Reader" "slipTold", Cond.lays "SlabWalk$Reader" "SlabWalk$Reader" "handTold" "Z", Cond.soleField "SlabWalk$Reader" "handTold", Cond.lays "SlabWalk$Reader" "SlabWalk$Reader" "drawTold" "Z", Cond.soleField "SlabWalk$Reader" "drawTold"]
set_option maxRecDepth 20000 in
theorem sq_1_13 : (tables_1_1.drop 208).take 16 = st_1_13 := rfl
theorem gdc_1_13 {w : Cond} (j : Nat) (h : st_1_13[j]? = some w) (g : goodWord w = true) : w ∈ gd := gdm_1 (List.mem_of_mem_drop (List.mem_of_mem_take (show w ∈ (tables_1_1.drop 208).take 16 from by rw [sq_1_13]; exact List.mem_of_getElem? h))) g
noncomputable def st_1_14 : List Cond := [Cond.lays "SlabWalk$Reader" "SlabWalk$Reader" "number" "I", Cond.soleField "SlabWalk$Reader" "number", Cond.superclass "SlabWalk$Reader" "java/lang/Object", Cond.classLink RX11 32 RX3, Cond.instantiable RX3 5, Cond.methodLink RX11 34 yX3_init, Cond.instanceMethod yX3_init, Cond.code yX3_init cX3_init 2 none, Cond.methodLink RX3 3 objectInit, Cond.fieldLink RX3 9 "SlabWalk$Lines" "found" "[I", Cond.fieldLink RX3 15 "SlabWalk$Lines" "foundOn" "[I", Cond.fieldLink RX3 18 "SlabWalk$Lines" "values" "[I", Cond.fieldLink RX3 66 "SlabWalk$Lines" "top" "I", Cond.fieldLink RX3 21 "SlabWalk$Lines" "paving" "LSlabWalk$Paving;", Cond.laysFinal "SlabWalk$Lines" "SlabWalk$Lines" "found" "[I", Cond.soleField "SlabWalk$Lines" "found"]
set_option maxRecDepth 20000 in
theorem sq_1_14 : (tables_1_1.drop 224).take 16 = st_1_14 := rfl
theorem gdc_1_14 {w : Cond} (j : Nat) (h : st_1_14[j]? = some w) (g : goodWord w = true) : w ∈ gd := gdm_1 (List.mem_of_mem_drop (List.mem_of_mem_take (show w ∈ (tables_1_1.drop 224).take 16 from by rw [sq_1_14]; exact List.mem_of_getElem? h))) g
theorem gdm_2 {w : Cond} (h : w ∈ tables_1_2) (g : goodWord w = true) : w ∈ gd := List.mem_filter.mpr ⟨show w ∈ k2_sels lw_privs ++ tables_1 from List.mem_append_right _ (gt_2 h), g⟩
noncomputable def st_2_0 : List Cond := [Cond.laysFinal "SlabWalk$Lines" "SlabWalk$Lines" "foundOn" "[I", Cond.soleField "SlabWalk$Lines" "foundOn", Cond.laysFinal "SlabWalk$Lines" "SlabWalk$Lines" "values" "[I", Cond.soleField "SlabWalk$Lines" "values", Cond.lays "SlabWalk$Lines" "SlabWalk$Lines" "top" "I", Cond.soleField "SlabWalk$Lines" "top", Cond.lays "SlabWalk$Lines" "SlabWalk$Lines" "paving" "LSlabWalk$Paving;", Cond.soleField "SlabWalk$Lines" "paving", Cond.superclass "SlabWalk$Lines" "java/lang/Object", Cond.classLink RX11 41 RX0, Cond.instantiable RX0 8, Cond.methodLinkNest "SlabWalk" 43 yX0_init "SlabWalk", Cond.instanceMethod yX0_init, Cond.code yX0_init cX0_init 1 none, Cond.methodLink RX0 3 objectInit, Cond.fieldLink RX0 9 "SlabWalk$Course" "lawful" "[Z"]
set_option maxRecDepth 20000 in
theorem sq_2_0 : (tables_1_2.drop 0).take 16 = st_2_0 := rfl
theorem gdc_2_0 {w : Cond} (j : Nat) (h : st_2_0[j]? = some w) (g : goodWord w = true) : w ∈ gd := gdm_2 (List.mem_of_mem_drop (List.mem_of_mem_take (show w ∈ (tables_1_2.drop 0).take 16 from by rw [sq_2_0]; exact List.mem_of_getElem? h))) g
noncomputable def st_2_1 : List Cond := [Cond.fieldLink RX5 36 "SlabWalk$Course" "lawful" "[Z", Cond.fieldLink RX10 55 "SlabWalk$Course" "lawful" "[Z", Cond.fieldLink RX11 177 "SlabWalk$Course" "lawful" "[Z", Cond.fieldLink RX0 21 "SlabWalk$Course" "length" "I", Cond.fieldLink RX0 27 "SlabWalk$Course" "foot" "I", Cond.fieldLink RX0 32 "SlabWalk$Course" "least" "I", Cond.fieldLink RX10 61 "SlabWalk$Course" "least" "I", Cond.fieldLink RX5 58 "SlabWalk$Course" "least" "I", Cond.fieldLink RX11 181 "SlabWalk$Course" "least" "I", Cond.fieldLink RX5 40 "SlabWalk$Course" "most" "I", Cond.fieldLink RX0 37 "SlabWalk$Course" "most" "I", Cond.fieldLink RX10 64 "SlabWalk$Course" "most" "I", Cond.fieldLink RX11 184 "SlabWalk$Course" "most" "I", Cond.fieldLink RX0 42 "SlabWalk$Course" "leap" "I", Cond.fieldLink RX10 71 "SlabWalk$Course" "leap" "I", Cond.fieldLink RX5 65 "SlabWalk$Course" "leap" "I"]
set_option maxRecDepth 20000 in
theorem sq_2_1 : (tables_1_2.drop 16).take 16 = st_2_1 := rfl
theorem gdc_2_1 {w : Cond} (j : Nat) (h : st_2_1[j]? = some w) (g : goodWord w = true) : w ∈ gd := gdm_2 (List.mem_of_mem_drop (List.mem_of_mem_take (show w ∈ (tables_1_2.drop 16).take 16 from by rw [sq_2_1]; exact List.mem_of_getElem? h))) g
noncomputable def st_2_2 : List Cond := [Cond.fieldLink RX10 34 "SlabWalk$Course" "last" "I", Cond.fieldLink RX5 30 "SlabWalk$Course" "last" "I", Cond.fieldLink RX0 50 "SlabWalk$Course" "last" "I", Cond.fieldLink RX11 174 "SlabWalk$Course" "last" "I", Cond.fieldLink RX5 47 "SlabWalk$Course" "end" "I", Cond.fieldLink RX0 53 "SlabWalk$Course" "end" "I", Cond.fieldLink RX10 58 "SlabWalk$Course" "end" "I", Cond.laysFinal "SlabWalk$Course" "SlabWalk$Course" "lawful" "[Z", Cond.soleField "SlabWalk$Course" "lawful", Cond.lays "SlabWalk$Course" "SlabWalk$Course" "length" "I", Cond.soleField "SlabWalk$Course" "length", Cond.lays "SlabWalk$Course" "SlabWalk$Course" "foot" "I", Cond.soleField "SlabWalk$Course" "foot", Cond.lays "SlabWalk$Course" "SlabWalk$Course" "least" "I", Cond.soleField "SlabWalk$Course" "least", Cond.lays "SlabWalk$Course" "SlabWalk$Course" "most" "I"]
set_option maxRecDepth 20000 in
theorem sq_2_2 : (tables_1_2.drop 32).take 16 = st_2_2 := rfl
theorem gdc_2_2 {w : Cond} (j : Nat) (h : st_2_2[j]? = some w) (g : goodWord w = true) : w ∈ gd := gdm_2 (List.mem_of_mem_drop (List.mem_of_mem_take (show w ∈ (tables_1_2.drop 32).take 16 from by rw [sq_2_2]; exact List.mem_of_getElem? h))) g
noncomputable def st_2_3 : List Cond := [Cond.soleField "SlabWalk$Course" "most", Cond.lays "SlabWalk$Course" "SlabWalk$Course" "leap" "I", Cond.soleField "SlabWalk$Course" "leap", Cond.lays "SlabWalk$Course" "SlabWalk$Course" "last" "I", Cond.soleField "SlabWalk$Course" "last", Cond.lays "SlabWalk$Course" "SlabWalk$Course" "end" "I", Cond.soleField "SlabWalk$Course" "end", Cond.superclass "SlabWalk$Course" "java/lang/Object", Cond.arrayClass .boolean, Cond.classLink RX11 48 RX10, Cond.instantiable RX10 5, Cond.methodLinkNest "SlabWalk" 50 yX10_init "SlabWalk", Cond.instanceMethod yX10_init, Cond.code yX10_init cX10_init 1 none, Cond.methodLink RX10 3 objectInit, Cond.classLink RX10 11 "[[I"]
set_option maxRecDepth 20000 in
theorem sq_2_3 : (tables_1_2.drop 48).take 16 = st_2_3 := rfl
theorem gdc_2_3 {w : Cond} (j : Nat) (h : st_2_3[j]? = some w) (g : goodWord w = true) : w ∈ gd := gdm_2 (List.mem_of_mem_drop (List.mem_of_mem_take (show w ∈ (tables_1_2.drop 48).take 16 from by rw [sq_2_3]; exact List.mem_of_getElem? h))) g
noncomputable def st_2_4 : List Cond := [Cond.arrayOver (Jvm.ClassFile.FieldType.array Jvm.ClassFile.FieldType.int), Cond.classLink RX10 16 RX4, Cond.instantiable RX4 4, Cond.methodLinkNest "SlabWalk$Trails" 18 yX4_init "SlabWalk", Cond.instanceMethod yX4_init, Cond.code yX4_init cX4_init 1 none, Cond.methodLink RX4 3 objectInit, Cond.fieldLink RX4 9 "SlabWalk$Minima" "keys" "[I", Cond.fieldLink RX4 15 "SlabWalk$Minima" "values" "[I", Cond.fieldLink RX4 18 "SlabWalk$Minima" "head" "I", Cond.fieldLink RX4 22 "SlabWalk$Minima" "tail" "I", Cond.laysFinal "SlabWalk$Minima" "SlabWalk$Minima" "keys" "[I", Cond.soleField "SlabWalk$Minima" "keys", Cond.laysFinal "SlabWalk$Minima" "SlabWalk$Minima" "values" "[I", Cond.soleField "SlabWalk$Minima" "values", Cond.lays "SlabWalk$Minima" "SlabWalk$Minima" "head" "I"]
set_option maxRecDepth 20000 in
theorem sq_2_4 : (tables_1_2.drop 64).take 16 = st_2_4 := rfl
theorem gdc_2_4 {w : Cond} (j : Nat) (h : st_2_4[j]? = some w) (g : goodWord w = true) : w ∈ gd := gdm_2 (List.mem_of_mem_drop (List.mem_of_mem_take (show w ∈ (tables_1_2.drop 64).take 16 from by rw [sq_2_4]; exact List.mem_of_getElem? h))) g
noncomputable def st_2_5 : List Cond := [Cond.soleField "SlabWalk$Minima" "head", Cond.lays "SlabWalk$Minima" "SlabWalk$Minima" "tail" "I", Cond.soleField "SlabWalk$Minima" "tail", Cond.superclass "SlabWalk$Minima" "java/lang/Object", Cond.fieldLink RX10 13 "SlabWalk$Trails" "rows" "[[I", Cond.fieldLink RX10 19 "SlabWalk$Trails" "steps" "LSlabWalk$Minima;", Cond.fieldLink RX10 23 "SlabWalk$Trails" "leaps" "LSlabWalk$Minima;", Cond.fieldLink RX10 26 "SlabWalk$Trails" "winning" "[I", Cond.fieldLink RX11 347 "SlabWalk$Trails" "winning" "[I", Cond.fieldLink RX10 30 "SlabWalk$Trails" "leaving" "[Z", Cond.fieldLink RX11 353 "SlabWalk$Trails" "leaving" "[Z", Cond.laysFinal "SlabWalk$Trails" "SlabWalk$Trails" "rows" "[[I", Cond.soleField "SlabWalk$Trails" "rows", Cond.laysFinal "SlabWalk$Trails" "SlabWalk$Trails" "steps" "LSlabWalk$Minima;", Cond.soleField "SlabWalk$Trails" "steps", Cond.laysFinal "SlabWalk$Trails" "SlabWalk$Trails" "leaps" "LSlabWalk$Minima;"]
set_option maxRecDepth 20000 in
theorem sq_2_5 : (tables_1_2.drop 80).take 16 = st_2_5 := rfl
theorem gdc_2_5 {w : Cond} (j : Nat) (h : st_2_5[j]? = some w) (g : goodWord w = true) : w ∈ gd := gdm_2 (List.mem_of_mem_drop (List.mem_of_mem_take (show w ∈ (tables_1_2.drop 80).take 16 from by rw [sq_2_5]; exact List.mem_of_getElem? h))) g
noncomputable def st_2_6 : List Cond := [Cond.soleField "SlabWalk$Trails" "leaps", Cond.laysFinal "SlabWalk$Trails" "SlabWalk$Trails" "winning" "[I", Cond.soleField "SlabWalk$Trails" "winning", Cond.laysFinal "SlabWalk$Trails" "SlabWalk$Trails" "leaving" "[Z", Cond.soleField "SlabWalk$Trails" "leaving", Cond.superclass "SlabWalk$Trails" "java/lang/Object", Cond.classLink RX11 55 RX5, Cond.instantiable RX5 7, Cond.methodLinkNest "SlabWalk" 57 yX5_init "SlabWalk", Cond.instanceMethod yX5_init, Cond.code yX5_init cX5_init 1 none, Cond.methodLink RX5 3 objectInit, Cond.fieldLink RX5 11 "SlabWalk$Odds" "stepped" "[J", Cond.fieldLink RX5 15 "SlabWalk$Odds" "leapt" "[J", Cond.fieldLink RX5 18 "SlabWalk$Odds" "sums" "[J", Cond.fieldLink RX5 21 "SlabWalk$Odds" "steppedSums" "[J"]
set_option maxRecDepth 20000 in
theorem sq_2_6 : (tables_1_2.drop 96).take 16 = st_2_6 := rfl
theorem gdc_2_6 {w : Cond} (j : Nat) (h : st_2_6[j]? = some w) (g : goodWord w = true) : w ∈ gd := gdm_2 (List.mem_of_mem_drop (List.mem_of_mem_take (show w ∈ (tables_1_2.drop 96).take 16 from by rw [sq_2_6]; exact List.mem_of_getElem? h))) g
noncomputable def st_2_7 : List Cond := [Cond.fieldLink RX5 24 "SlabWalk$Odds" "odds" "[J", Cond.fieldLink RX5 27 "SlabWalk$Odds" "aims" "[J", Cond.fieldLink RX5 82 "SlabWalk$Odds" "boldest" "I", Cond.laysFinal "SlabWalk$Odds" "SlabWalk$Odds" "stepped" "[J", Cond.soleField "SlabWalk$Odds" "stepped", Cond.laysFinal "SlabWalk$Odds" "SlabWalk$Odds" "leapt" "[J", Cond.soleField "SlabWalk$Odds" "leapt", Cond.laysFinal "SlabWalk$Odds" "SlabWalk$Odds" "sums" "[J", Cond.soleField "SlabWalk$Odds" "sums", Cond.laysFinal "SlabWalk$Odds" "SlabWalk$Odds" "steppedSums" "[J", Cond.soleField "SlabWalk$Odds" "steppedSums", Cond.laysFinal "SlabWalk$Odds" "SlabWalk$Odds" "odds" "[J", Cond.soleField "SlabWalk$Odds" "odds", Cond.laysFinal "SlabWalk$Odds" "SlabWalk$Odds" "aims" "[J", Cond.soleField "SlabWalk$Odds" "aims", Cond.lays "SlabWalk$Odds" "SlabWalk$Odds" "boldest" "I"]
set_option maxRecDepth 20000 in
theorem sq_2_7 : (tables_1_2.drop 112).take 16 = st_2_7 := rfl
theorem gdc_2_7 {w : Cond} (j : Nat) (h : st_2_7[j]? = some w) (g : goodWord w = true) : w ∈ gd := gdm_2 (List.mem_of_mem_drop (List.mem_of_mem_take (show w ∈ (tables_1_2.drop 112).take 16 from by rw [sq_2_7]; exact List.mem_of_getElem? h))) g
noncomputable def st_2_8 : List Cond := [Cond.soleField "SlabWalk$Odds" "boldest", Cond.superclass "SlabWalk$Odds" "java/lang/Object", Cond.classLink RX11 62 RX1, Cond.instantiable RX1 6, Cond.methodLinkNest "SlabWalk" 64 yX1_init "SlabWalk", Cond.instanceMethod yX1_init, Cond.code yX1_init cX1_init 1 none, Cond.methodLink RX1 3 objectInit, Cond.fieldLink RX1 11 "SlabWalk$Earnest" "now" "[I", Cond.fieldLink RX11 246 "SlabWalk$Earnest" "now" "[I", Cond.fieldLink RX1 15 "SlabWalk$Earnest" "kept" "[I", Cond.fieldLink RX1 18 "SlabWalk$Earnest" "boxes" "[I", Cond.fieldLink RX1 27 "SlabWalk$Earnest" "full" "I", Cond.fieldLink RX1 34 "SlabWalk$Earnest" "done" "I", Cond.fieldLink RX11 308 "SlabWalk$Earnest" "done" "I", Cond.fieldLink RX1 37 "SlabWalk$Earnest" "undone" "I"]
set_option maxRecDepth 20000 in
theorem sq_2_8 : (tables_1_2.drop 128).take 16 = st_2_8 := rfl
theorem gdc_2_8 {w : Cond} (j : Nat) (h : st_2_8[j]? = some w) (g : goodWord w = true) : w ∈ gd := gdm_2 (List.mem_of_mem_drop (List.mem_of_mem_take (show w ∈ (tables_1_2.drop 128).take 16 from by rw [sq_2_8]; exact List.mem_of_getElem? h))) g
noncomputable def st_2_9 : List Cond := [Cond.fieldLink RX11 311 "SlabWalk$Earnest" "undone" "I", Cond.laysFinal "SlabWalk$Earnest" "SlabWalk$Earnest" "now" "[I", Cond.soleField "SlabWalk$Earnest" "now", Cond.laysFinal "SlabWalk$Earnest" "SlabWalk$Earnest" "kept" "[I", Cond.soleField "SlabWalk$Earnest" "kept", Cond.laysFinal "SlabWalk$Earnest" "SlabWalk$Earnest" "boxes" "[I", Cond.soleField "SlabWalk$Earnest" "boxes", Cond.lays "SlabWalk$Earnest" "SlabWalk$Earnest" "full" "I", Cond.soleField "SlabWalk$Earnest" "full", Cond.lays "SlabWalk$Earnest" "SlabWalk$Earnest" "done" "I", Cond.soleField "SlabWalk$Earnest" "done", Cond.lays "SlabWalk$Earnest" "SlabWalk$Earnest" "undone" "I", Cond.soleField "SlabWalk$Earnest" "undone", Cond.superclass "SlabWalk$Earnest" "java/lang/Object", Cond.classLink RX11 69 RX8, Cond.instantiable RX8 7]
set_option maxRecDepth 20000 in
theorem sq_2_9 : (tables_1_2.drop 144).take 16 = st_2_9 := rfl
theorem gdc_2_9 {w : Cond} (j : Nat) (h : st_2_9[j]? = some w) (g : goodWord w = true) : w ∈ gd := gdm_2 (List.mem_of_mem_drop (List.mem_of_mem_take (show w ∈ (tables_1_2.drop 144).take 16 from by rw [sq_2_9]; exact List.mem_of_getElem? h))) g
noncomputable def st_2_10 : List Cond := [Cond.methodLinkNest "SlabWalk" 71 yX8_init "SlabWalk", Cond.instanceMethod yX8_init, Cond.code yX8_init cX8_init 1 none, Cond.methodLink RX8 3 objectInit, Cond.fieldLink RX8 11 "SlabWalk$Sights" "walker" "[I", Cond.fieldLink RX11 365 "SlabWalk$Sights" "walker" "[I", Cond.fieldLink RX8 15 "SlabWalk$Sights" "street" "[I", Cond.fieldLink RX11 362 "SlabWalk$Sights" "street" "[I", Cond.fieldLink RX8 18 "SlabWalk$Sights" "heel" "[I", Cond.fieldLink RX11 359 "SlabWalk$Sights" "heel" "[I", Cond.fieldLink RX8 21 "SlabWalk$Sights" "told" "[I", Cond.fieldLink RX8 24 "SlabWalk$Sights" "untold" "[I", Cond.fieldLink RX8 27 "SlabWalk$Sights" "count" "I", Cond.fieldLink RX11 285 "SlabWalk$Sights" "count" "I", Cond.fieldLink RX8 31 "SlabWalk$Sights" "time" "I", Cond.fieldLink RX11 278 "SlabWalk$Sights" "time" "I"]
set_option maxRecDepth 20000 in
theorem sq_2_10 : (tables_1_2.drop 160).take 16 = st_2_10 := rfl
theorem gdc_2_10 {w : Cond} (j : Nat) (h : st_2_10[j]? = some w) (g : goodWord w = true) : w ∈ gd := gdm_2 (List.mem_of_mem_drop (List.mem_of_mem_take (show w ∈ (tables_1_2.drop 160).take 16 from by rw [sq_2_10]; exact List.mem_of_getElem? h))) g
noncomputable def st_2_11 : List Cond := [Cond.laysFinal "SlabWalk$Sights" "SlabWalk$Sights" "walker" "[I", Cond.soleField "SlabWalk$Sights" "walker", Cond.laysFinal "SlabWalk$Sights" "SlabWalk$Sights" "street" "[I", Cond.soleField "SlabWalk$Sights" "street", Cond.laysFinal "SlabWalk$Sights" "SlabWalk$Sights" "heel" "[I", Cond.soleField "SlabWalk$Sights" "heel", Cond.laysFinal "SlabWalk$Sights" "SlabWalk$Sights" "told" "[I", Cond.soleField "SlabWalk$Sights" "told", Cond.laysFinal "SlabWalk$Sights" "SlabWalk$Sights" "untold" "[I", Cond.soleField "SlabWalk$Sights" "untold", Cond.lays "SlabWalk$Sights" "SlabWalk$Sights" "count" "I", Cond.soleField "SlabWalk$Sights" "count", Cond.lays "SlabWalk$Sights" "SlabWalk$Sights" "time" "I", Cond.soleField "SlabWalk$Sights" "time", Cond.superclass "SlabWalk$Sights" "java/lang/Object", Cond.methodLink RX11 80 yX11_startAnew]
set_option maxRecDepth 20000 in
theorem sq_2_11 : (tables_1_2.drop 176).take 16 = st_2_11 := rfl
theorem gdc_2_11 {w : Cond} (j : Nat) (h : st_2_11[j]? = some w) (g : goodWord w = true) : w ∈ gd := gdm_2 (List.mem_of_mem_drop (List.mem_of_mem_take (show w ∈ (tables_1_2.drop 176).take 16 from by rw [sq_2_11]; exact List.mem_of_getElem? h))) g
noncomputable def st_2_12 : List Cond := [Cond.privateMethod yX11_startAnew, Cond.instanceMethod yX11_startAnew, Cond.code yX11_startAnew cX11_startAnew 1 none, Cond.methodLink RX11 320 yX3_lookAt, Cond.instanceMethod yX3_lookAt, Cond.selects RX3 yX3_lookAt yX3_lookAt, Cond.code yX3_lookAt cX3_lookAt 2 none, Cond.methodLink RX3 25 yJ7_fill_53178, Cond.static yJ7_fill_53178, Cond.code yJ7_fill_53178 cJ7_fill_53178 4 none, Cond.methodLink RX11 326 yX1_startAnew, Cond.instanceMethod yX1_startAnew, Cond.selects RX1 yX1_startAnew yX1_startAnew, Cond.code yX1_startAnew cX1_startAnew 2 none, Cond.methodLink RX1 21 yJ7_fill_53178, Cond.methodLink RX1 31 yX1_forgetActs]
set_option maxRecDepth 20000 in
theorem sq_2_12 : (tables_1_2.drop 192).take 16 = st_2_12 := rfl
theorem gdc_2_12 {w : Cond} (j : Nat) (h : st_2_12[j]? = some w) (g : goodWord w = true) : w ∈ gd := gdm_2 (List.mem_of_mem_drop (List.mem_of_mem_take (show w ∈ (tables_1_2.drop 192).take 16 from by rw [sq_2_12]; exact List.mem_of_getElem? h))) g
noncomputable def st_2_13 : List Cond := [Cond.privateMethod yX1_forgetActs, Cond.instanceMethod yX1_forgetActs, Cond.code yX1_forgetActs cX1_forgetActs 1 none, Cond.methodLink RX1 40 arraycopyName, Cond.static arraycopyName, Cond.native arraycopyName, Cond.fieldLink RX11 10 "SlabWalk" "paving" "LSlabWalk$Paving;", Cond.fieldLink RX11 16 "SlabWalk" "spare" "LSlabWalk$Paving;", Cond.fieldLink RX11 19 "SlabWalk" "tape" "[B", Cond.fieldLink RX11 28 "SlabWalk" "reader" "LSlabWalk$Reader;", Cond.fieldLink RX11 37 "SlabWalk" "lines" "LSlabWalk$Lines;", Cond.fieldLink RX11 44 "SlabWalk" "course" "LSlabWalk$Course;", Cond.fieldLink RX11 51 "SlabWalk" "trails" "LSlabWalk$Trails;", Cond.fieldLink RX11 58 "SlabWalk" "odds" "LSlabWalk$Odds;", Cond.fieldLink RX11 65 "SlabWalk" "earnest" "LSlabWalk$Earnest;", Cond.fieldLink RX11 72 "SlabWalk" "sights" "LSlabWalk$Sights;"]
set_option maxRecDepth 20000 in
theorem sq_2_13 : (tables_1_2.drop 208).take 16 = st_2_13 := rfl
theorem gdc_2_13 {w : Cond} (j : Nat) (h : st_2_13[j]? = some w) (g : goodWord w = true) : w ∈ gd := gdm_2 (List.mem_of_mem_drop (List.mem_of_mem_take (show w ∈ (tables_1_2.drop 208).take 16 from by rw [sq_2_13]; exact List.mem_of_getElem? h))) g
noncomputable def st_2_14 : List Cond := [Cond.fieldLink RX11 76 "SlabWalk" "lying" "[I", Cond.fieldLink RX11 83 "SlabWalk" "taped" "I", Cond.fieldLink RX11 150 "SlabWalk" "lie" "I", Cond.lays "SlabWalk" "SlabWalk" "paving" "LSlabWalk$Paving;", Cond.soleField "SlabWalk" "paving", Cond.lays "SlabWalk" "SlabWalk" "spare" "LSlabWalk$Paving;", Cond.soleField "SlabWalk" "spare", Cond.laysFinal "SlabWalk" "SlabWalk" "tape" "[B", Cond.soleField "SlabWalk" "tape", Cond.laysFinal "SlabWalk" "SlabWalk" "reader" "LSlabWalk$Reader;", Cond.soleField "SlabWalk" "reader", Cond.laysFinal "SlabWalk" "SlabWalk" "lines" "LSlabWalk$Lines;", Cond.soleField "SlabWalk" "lines", Cond.laysFinal "SlabWalk" "SlabWalk" "course" "LSlabWalk$Course;", Cond.soleField "SlabWalk" "course", Cond.laysFinal "SlabWalk" "SlabWalk" "trails" "LSlabWalk$Trails;"]
set_option maxRecDepth 20000 in
theorem sq_2_14 : (tables_1_2.drop 224).take 16 = st_2_14 := rfl
theorem gdc_2_14 {w : Cond} (j : Nat) (h : st_2_14[j]? = some w) (g : goodWord w = true) : w ∈ gd := gdm_2 (List.mem_of_mem_drop (List.mem_of_mem_take (show w ∈ (tables_1_2.drop 224).take 16 from by rw [sq_2_14]; exact List.mem_of_getElem? h))) g
theorem gdm_3 {w : Cond} (h : w ∈ tables_1_3) (g : goodWord w = true) : w ∈ gd := List.mem_filter.mpr ⟨show w ∈ k2_sels lw_privs ++ tables_1 from List.mem_append_right _ (gt_3 h), g⟩
noncomputable def st_3_0 : List Cond := [Cond.soleField "SlabWalk" "trails", Cond.laysFinal "SlabWalk" "SlabWalk" "odds" "LSlabWalk$Odds;", Cond.soleField "SlabWalk" "odds", Cond.laysFinal "SlabWalk" "SlabWalk" "earnest" "LSlabWalk$Earnest;", Cond.soleField "SlabWalk" "earnest", Cond.laysFinal "SlabWalk" "SlabWalk" "sights" "LSlabWalk$Sights;", Cond.soleField "SlabWalk" "sights", Cond.laysFinal "SlabWalk" "SlabWalk" "lying" "[I", Cond.soleField "SlabWalk" "lying", Cond.lays "SlabWalk" "SlabWalk" "taped" "I", Cond.soleField "SlabWalk" "taped", Cond.lays "SlabWalk" "SlabWalk" "lie" "I", Cond.soleField "SlabWalk" "lie", Cond.superclass "SlabWalk" "java/lang/Object", Cond.methodLink RL 13 yX11_feed, Cond.instanceMethod yX11_feed]
set_option maxRecDepth 20000 in
theorem sq_3_0 : (tables_1_3.drop 0).take 16 = st_3_0 := rfl
theorem gdc_3_0 {w : Cond} (j : Nat) (h : st_3_0[j]? = some w) (g : goodWord w = true) : w ∈ gd := gdm_3 (List.mem_of_mem_drop (List.mem_of_mem_take (show w ∈ (tables_1_3.drop 0).take 16 from by rw [sq_3_0]; exact List.mem_of_getElem? h))) g
noncomputable def st_3_1 : List Cond := [Cond.selects RX11 yX11_feed yX11_feed, Cond.code yX11_feed cX11_feed 6 (some .int), Cond.methodLink RX11 87 yX11_putOnTape, Cond.privateMethod yX11_putOnTape, Cond.instanceMethod yX11_putOnTape, Cond.code yX11_putOnTape cX11_putOnTape 3 none, Cond.methodLink RL 18 yX11_end, Cond.instanceMethod yX11_end, Cond.selects RX11 yX11_end yX11_end, Cond.code yX11_end cX11_end 2 (some .int), Cond.methodLink RL 23 yX11_pavement, Cond.instanceMethod yX11_pavement, Cond.selects RX11 yX11_pavement yX11_pavement, Cond.code yX11_pavement cX11_pavement 3 (some .int), Cond.methodLink RX11 91 yX7_read, Cond.instanceMethod yX7_read]
set_option maxRecDepth 20000 in
theorem sq_3_1 : (tables_1_3.drop 16).take 16 = st_3_1 := rfl
theorem gdc_3_1 {w : Cond} (j : Nat) (h : st_3_1[j]? = some w) (g : goodWord w = true) : w ∈ gd := gdm_3 (List.mem_of_mem_drop (List.mem_of_mem_take (show w ∈ (tables_1_3.drop 16).take 16 from by rw [sq_3_1]; exact List.mem_of_getElem? h))) g
noncomputable def st_3_2 : List Cond := [Cond.selects RX7 yX7_read yX7_read, Cond.code yX7_read cX7_read 5 (some .boolean), Cond.methodLink RX7 43 yX6_empty, Cond.methodLink RX7 58 yX9_open, Cond.instanceMethod yX9_open, Cond.selects RX9 yX9_open yX9_open, Cond.code yX9_open cX9_open 2 none, Cond.methodLink RX9 19 Lib.Math.min.name, Cond.static Lib.Math.min.name, Cond.code Lib.Math.min.name Lib.Math.min.code 2 (some .int), Cond.methodLink RX9 34 yX9_advance, Cond.instanceMethod yX9_advance, Cond.selects RX9 yX9_advance yX9_advance, Cond.code yX9_advance cX9_advance 2 (some .boolean), Cond.methodLink RX9 48 yX9_isLetter, Cond.privateMethod yX9_isLetter]
set_option maxRecDepth 20000 in
theorem sq_3_2 : (tables_1_3.drop 32).take 16 = st_3_2 := rfl
theorem gdc_3_2 {w : Cond} (j : Nat) (h : st_3_2[j]? = some w) (g : goodWord w = true) : w ∈ gd := gdm_3 (List.mem_of_mem_drop (List.mem_of_mem_take (show w ∈ (tables_1_3.drop 32).take 16 from by rw [sq_3_2]; exact List.mem_of_getElem? h))) g
noncomputable def st_3_3 : List Cond := [Cond.instanceMethod yX9_isLetter, Cond.code yX9_isLetter cX9_isLetter 2 (some .boolean), Cond.methodLink RX9 51 yX9_cutWord, Cond.privateMethod yX9_cutWord, Cond.instanceMethod yX9_cutWord, Cond.code yX9_cutWord cX9_cutWord 1 none, Cond.methodLink RX9 72 yX9_kindOfWord, Cond.privateMethod yX9_kindOfWord, Cond.instanceMethod yX9_kindOfWord, Cond.code yX9_kindOfWord cX9_kindOfWord 3 (some .int), Cond.stringRef "SlabWalk$Tokens" 76 "street  walker  foot    step    to      leap    rule    slip    hand    slack   draw    joint   red     broken  drain   shade   or      and     not     long    nth     inch    day     ", Cond.methodLink RX9 78 yJ0_length_8abf5, Cond.instanceMethod yJ0_length_8abf5, Cond.selects "java/lang/String" yJ0_length_8abf5 yJ0_length_8abf5, Cond.code yJ0_length_8abf5 cJ0_length_8abf5 1 (some .int), Cond.methodLink "java/lang/String" 335 yJ0_coder_7d493]
set_option maxRecDepth 20000 in
theorem sq_3_3 : (tables_1_3.drop 48).take 16 = st_3_3 := rfl
theorem gdc_3_3 {w : Cond} (j : Nat) (h : st_3_3[j]? = some w) (g : goodWord w = true) : w ∈ gd := gdm_3 (List.mem_of_mem_drop (List.mem_of_mem_take (show w ∈ (tables_1_3.drop 48).take 16 from by rw [sq_3_3]; exact List.mem_of_getElem? h))) g
noncomputable def st_3_4 : List Cond := [Cond.instanceMethod yJ0_coder_7d493, Cond.selects "java/lang/String" yJ0_coder_7d493 yJ0_coder_7d493, Cond.code yJ0_coder_7d493 cJ0_coder_7d493 1 (some .byte), Cond.fieldLink "java/lang/String" 38 "java/lang/String" "COMPACT_STRINGS" "Z", Cond.laysStatic "java/lang/String" "COMPACT_STRINGS" "Z", Cond.methodLink RX9 81 yJ0_charAt_5068e, Cond.instanceMethod yJ0_charAt_5068e, Cond.selects "java/lang/String" yJ0_charAt_5068e yJ0_charAt_5068e, Cond.code yJ0_charAt_5068e cJ0_charAt_5068e 2 (some .char), Cond.methodLink "java/lang/String" 492 yJ0_isLatin1_aae02, Cond.instanceMethod yJ0_isLatin1_aae02, Cond.selects "java/lang/String" yJ0_isLatin1_aae02 yJ0_isLatin1_aae02, Cond.code yJ0_isLatin1_aae02 cJ0_isLatin1_aae02 1 (some .boolean), Cond.methodLink "java/lang/String" 495 yJ1_charAt_3b067, Cond.static yJ1_charAt_3b067, Cond.code yJ1_charAt_3b067 cJ1_charAt_3b067 2 (some .char)]
set_option maxRecDepth 20000 in
theorem sq_3_4 : (tables_1_3.drop 64).take 16 = st_3_4 := rfl
theorem gdc_3_4 {w : Cond} (j : Nat) (h : st_3_4[j]? = some w) (g : goodWord w = true) : w ∈ gd := gdm_3 (List.mem_of_mem_drop (List.mem_of_mem_take (show w ∈ (tables_1_3.drop 64).take 16 from by rw [sq_3_4]; exact List.mem_of_getElem? h))) g
noncomputable def st_3_5 : List Cond := [Cond.methodLink "java/lang/StringLatin1" 9 yJ0_checkIndex_df160, Cond.static yJ0_checkIndex_df160, Cond.code yJ0_checkIndex_df160 cJ0_checkIndex_df160 2 none, Cond.fieldLink "java/lang/String" 1053 "jdk/internal/util/Preconditions" "SIOOBE_FORMATTER" "Ljava/util/function/BiFunction;", Cond.laysStatic "jdk/internal/util/Preconditions" "SIOOBE_FORMATTER" "Ljava/util/function/BiFunction;", Cond.methodLink "java/lang/String" 1059 yJ3_checkIndex_8e157, Cond.static yJ3_checkIndex_8e157, Cond.code yJ3_checkIndex_8e157 cJ3_checkIndex_8e157 3 (some .int), Cond.methodLink "java/lang/String" 498 yJ2_charAt_3b067, Cond.static yJ2_charAt_3b067, Cond.code yJ2_charAt_3b067 cJ2_charAt_3b067 2 (some .char), Cond.methodLink "java/lang/StringUTF16" 67 yJ2_checkIndex_2214a, Cond.static yJ2_checkIndex_2214a, Cond.code yJ2_checkIndex_2214a cJ2_checkIndex_2214a 2 none, Cond.methodLink "java/lang/StringUTF16" 48 yJ2_length_9d52b, Cond.static yJ2_length_9d52b]
set_option maxRecDepth 20000 in
theorem sq_3_5 : (tables_1_3.drop 80).take 16 = st_3_5 := rfl
theorem gdc_3_5 {w : Cond} (j : Nat) (h : st_3_5[j]? = some w) (g : goodWord w = true) : w ∈ gd := gdm_3 (List.mem_of_mem_drop (List.mem_of_mem_take (show w ∈ (tables_1_3.drop 80).take 16 from by rw [sq_3_5]; exact List.mem_of_getElem? h))) g
noncomputable def st_3_6 : List Cond := [Cond.code yJ2_length_9d52b cJ2_length_9d52b 1 (some .int), Cond.methodLink "java/lang/StringUTF16" 414 yJ0_checkIndex_df160, Cond.methodLink "java/lang/StringUTF16" 71 yJ2_getChar_3b067, Cond.static yJ2_getChar_3b067, Cond.code yJ2_getChar_3b067 cJ2_getChar_3b067 2 (some .char), Cond.fieldLink "java/lang/StringUTF16" 44 "java/lang/StringUTF16" "$assertionsDisabled" "Z", Cond.laysStatic "java/lang/StringUTF16" "$assertionsDisabled" "Z", Cond.fieldLink "java/lang/StringUTF16" 59 "java/lang/StringUTF16" "HI_BYTE_SHIFT" "I", Cond.laysStatic "java/lang/StringUTF16" "HI_BYTE_SHIFT" "I", Cond.fieldLink "java/lang/StringUTF16" 63 "java/lang/StringUTF16" "LO_BYTE_SHIFT" "I", Cond.laysStatic "java/lang/StringUTF16" "LO_BYTE_SHIFT" "I", Cond.methodLink RX9 54 yX9_isDigit, Cond.privateMethod yX9_isDigit, Cond.instanceMethod yX9_isDigit, Cond.code yX9_isDigit cX9_isDigit 2 (some .boolean), Cond.methodLink RX9 57 yX9_cutNumber]
set_option maxRecDepth 20000 in
theorem sq_3_6 : (tables_1_3.drop 96).take 16 = st_3_6 := rfl
theorem gdc_3_6 {w : Cond} (j : Nat) (h : st_3_6[j]? = some w) (g : goodWord w = true) : w ∈ gd := gdm_3 (List.mem_of_mem_drop (List.mem_of_mem_take (show w ∈ (tables_1_3.drop 96).take 16 from by rw [sq_3_6]; exact List.mem_of_getElem? h))) g
noncomputable def st_3_7 : List Cond := [Cond.privateMethod yX9_cutNumber, Cond.instanceMethod yX9_cutNumber, Cond.code yX9_cutNumber cX9_cutNumber 1 none, Cond.stringRef "SlabWalk$Tokens" 60 ";()<>=+-*/%", Cond.methodLink RX9 62 yJ0_indexOf_0f7a4, Cond.instanceMethod yJ0_indexOf_0f7a4, Cond.selects "java/lang/String" yJ0_indexOf_0f7a4 yJ0_indexOf_0f7a4, Cond.code yJ0_indexOf_0f7a4 cJ0_indexOf_0f7a4 2 (some .int), Cond.methodLink "java/lang/String" 633 yJ0_indexOf_7cf53, Cond.instanceMethod yJ0_indexOf_7cf53, Cond.selects "java/lang/String" yJ0_indexOf_7cf53 yJ0_indexOf_7cf53, Cond.code yJ0_indexOf_7cf53 cJ0_indexOf_7cf53 3 (some .int), Cond.methodLink "java/lang/String" 505 yJ0_length_8abf5, Cond.methodLink "java/lang/String" 637 yJ1_indexOf_4cfef, Cond.static yJ1_indexOf_4cfef, Cond.code yJ1_indexOf_4cfef cJ1_indexOf_4cfef 4 (some .int)]
set_option maxRecDepth 20000 in
theorem sq_3_7 : (tables_1_3.drop 112).take 16 = st_3_7 := rfl
theorem gdc_3_7 {w : Cond} (j : Nat) (h : st_3_7[j]? = some w) (g : goodWord w = true) : w ∈ gd := gdm_3 (List.mem_of_mem_drop (List.mem_of_mem_take (show w ∈ (tables_1_3.drop 112).take 16 from by rw [sq_3_7]; exact List.mem_of_getElem? h))) g
noncomputable def st_3_8 : List Cond := [Cond.methodLink "java/lang/StringLatin1" 88 yJ1_canEncode_9a6ad, Cond.static yJ1_canEncode_9a6ad, Cond.code yJ1_canEncode_9a6ad cJ1_canEncode_9a6ad 1 (some .boolean), Cond.methodLink "java/lang/StringLatin1" 92 Lib.Math.max.name, Cond.static Lib.Math.max.name, Cond.code Lib.Math.max.name Lib.Math.max.code 2 (some .int), Cond.methodLink "java/lang/StringLatin1" 38 Lib.Math.min.name, Cond.methodLink "java/lang/StringLatin1" 95 yJ1_indexOfChar_4cfef, Cond.static yJ1_indexOfChar_4cfef, Cond.code yJ1_indexOfChar_4cfef cJ1_indexOfChar_4cfef 6 (some .int), Cond.methodLink "java/lang/String" 640 yJ2_indexOf_4cfef, Cond.static yJ2_indexOf_4cfef, Cond.code yJ2_indexOf_4cfef cJ2_indexOf_4cfef 4 (some .int), Cond.methodLink "java/lang/StringUTF16" 224 Lib.Math.max.name, Cond.methodLink "java/lang/StringUTF16" 183 Lib.Math.min.name, Cond.constant "java/lang/StringUTF16" 227 65536]
set_option maxRecDepth 20000 in
theorem sq_3_8 : (tables_1_3.drop 128).take 16 = st_3_8 := rfl
theorem gdc_3_8 {w : Cond} (j : Nat) (h : st_3_8[j]? = some w) (g : goodWord w = true) : w ∈ gd := gdm_3 (List.mem_of_mem_drop (List.mem_of_mem_take (show w ∈ (tables_1_3.drop 128).take 16 from by rw [sq_3_8]; exact List.mem_of_getElem? h))) g
noncomputable def st_3_9 : List Cond := [Cond.methodLink "java/lang/StringUTF16" 228 yJ2_indexOfChar_4cfef, Cond.static yJ2_indexOfChar_4cfef, Cond.code yJ2_indexOfChar_4cfef cJ2_indexOfChar_4cfef 4 (some .int), Cond.methodLink "java/lang/StringUTF16" 96 yJ2_checkBoundsBeginEnd_d044e, Cond.static yJ2_checkBoundsBeginEnd_d044e, Cond.code yJ2_checkBoundsBeginEnd_d044e cJ2_checkBoundsBeginEnd_d044e 3 none, Cond.methodLink "java/lang/StringUTF16" 241 yJ0_checkBoundsBeginEnd_23922, Cond.static yJ0_checkBoundsBeginEnd_23922, Cond.code yJ0_checkBoundsBeginEnd_23922 cJ0_checkBoundsBeginEnd_23922 3 none, Cond.methodLink "java/lang/String" 1062 yJ3_checkFromToIndex_8c36e, Cond.static yJ3_checkFromToIndex_8c36e, Cond.code yJ3_checkFromToIndex_8c36e cJ3_checkFromToIndex_8c36e 4 (some .int), Cond.methodLink "java/lang/StringUTF16" 244 yJ2_indexOfCharUnsafe_4cfef, Cond.static yJ2_indexOfCharUnsafe_4cfef, Cond.code yJ2_indexOfCharUnsafe_4cfef cJ2_indexOfCharUnsafe_4cfef 5 (some .int), Cond.methodLink "java/lang/StringUTF16" 232 yJ2_indexOfSupplementary_4cfef]
set_option maxRecDepth 20000 in
theorem sq_3_9 : (tables_1_3.drop 144).take 16 = st_3_9 := rfl
theorem gdc_3_9 {w : Cond} (j : Nat) (h : st_3_9[j]? = some w) (g : goodWord w = true) : w ∈ gd := gdm_3 (List.mem_of_mem_drop (List.mem_of_mem_take (show w ∈ (tables_1_3.drop 144).take 16 from by rw [sq_3_9]; exact List.mem_of_getElem? h))) g
noncomputable def st_3_10 : List Cond := [Cond.static yJ2_indexOfSupplementary_4cfef, Cond.code yJ2_indexOfSupplementary_4cfef cJ2_indexOfSupplementary_4cfef 7 (some .int), Cond.methodLink "java/lang/StringUTF16" 164 yJ11_isValidCodePoint_9a6ad, Cond.static yJ11_isValidCodePoint_9a6ad, Cond.code yJ11_isValidCodePoint_9a6ad cJ11_isValidCodePoint_9a6ad 2 (some .boolean), Cond.methodLink "java/lang/StringUTF16" 157 yJ11_highSurrogate_5068e, Cond.static yJ11_highSurrogate_5068e, Cond.code yJ11_highSurrogate_5068e cJ11_highSurrogate_5068e 1 (some .char), Cond.constant "java/lang/Character" 110 55232, Cond.methodLink "java/lang/StringUTF16" 161 yJ11_lowSurrogate_5068e, Cond.static yJ11_lowSurrogate_5068e, Cond.code yJ11_lowSurrogate_5068e cJ11_lowSurrogate_5068e 1 (some .char), Cond.constant "java/lang/Character" 76 56320, Cond.methodLink RX7 66 yX7_readStreet, Cond.privateMethod yX7_readStreet, Cond.instanceMethod yX7_readStreet]
set_option maxRecDepth 20000 in
theorem sq_3_10 : (tables_1_3.drop 160).take 16 = st_3_10 := rfl
theorem gdc_3_10 {w : Cond} (j : Nat) (h : st_3_10[j]? = some w) (g : goodWord w = true) : w ∈ gd := gdm_3 (List.mem_of_mem_drop (List.mem_of_mem_take (show w ∈ (tables_1_3.drop 160).take 16 from by rw [sq_3_10]; exact List.mem_of_getElem? h))) g
noncomputable def st_3_11 : List Cond := [Cond.code yX7_readStreet cX7_readStreet 3 (some .boolean), Cond.methodLink RX7 107 yX7_passFirst, Cond.privateMethod yX7_passFirst, Cond.instanceMethod yX7_passFirst, Cond.code yX7_passFirst cX7_passFirst 2 (some .boolean), Cond.methodLink RX7 89 yX9_advance, Cond.methodLink RX7 85 yX9_refuse, Cond.instanceMethod yX9_refuse, Cond.selects RX9 yX9_refuse yX9_refuse, Cond.code yX9_refuse cX9_refuse 2 (some .boolean), Cond.methodLink RX7 111 yX7_passName, Cond.privateMethod yX7_passName, Cond.instanceMethod yX7_passName, Cond.code yX7_passName cX7_passName 4 (some .boolean), Cond.methodLink RX7 115 yX9_pass, Cond.instanceMethod yX9_pass]
set_option maxRecDepth 20000 in
theorem sq_3_11 : (tables_1_3.drop 176).take 16 = st_3_11 := rfl
theorem gdc_3_11 {w : Cond} (j : Nat) (h : st_3_11[j]? = some w) (g : goodWord w = true) : w ∈ gd := gdm_3 (List.mem_of_mem_drop (List.mem_of_mem_take (show w ∈ (tables_1_3.drop 176).take 16 from by rw [sq_3_11]; exact List.mem_of_getElem? h))) g
noncomputable def st_3_12 : List Cond := [Cond.selects RX9 yX9_pass yX9_pass, Cond.code yX9_pass cX9_pass 2 (some .boolean), Cond.methodLink RX9 44 yX9_refuse, Cond.methodLink RX7 118 yX7_passNumber, Cond.privateMethod yX7_passNumber, Cond.instanceMethod yX7_passNumber, Cond.code yX7_passNumber cX7_passNumber 3 (some .boolean), Cond.methodLink RX7 100 yX7_isNumber, Cond.privateMethod yX7_isNumber, Cond.instanceMethod yX7_isNumber, Cond.code yX7_isNumber cX7_isNumber 3 (some .boolean), Cond.methodLink RX7 125 yX7_readSlab, Cond.privateMethod yX7_readSlab, Cond.instanceMethod yX7_readSlab, Cond.code yX7_readSlab cX7_readSlab 9 (some .boolean), Cond.methodLink RX7 128 Lib.Math.min.name]
set_option maxRecDepth 20000 in
theorem sq_3_12 : (tables_1_3.drop 192).take 16 = st_3_12 := rfl
theorem gdc_3_12 {w : Cond} (j : Nat) (h : st_3_12[j]? = some w) (g : goodWord w = true) : w ∈ gd := gdm_3 (List.mem_of_mem_drop (List.mem_of_mem_take (show w ∈ (tables_1_3.drop 192).take 16 from by rw [sq_3_12]; exact List.mem_of_getElem? h))) g
noncomputable def st_3_13 : List Cond := [Cond.methodLink RX7 134 yX6_lay, Cond.instanceMethod yX6_lay, Cond.selects RX6 yX6_lay yX6_lay, Cond.code yX6_lay cX6_lay 7 none, Cond.methodLink RX6 71 Lib.Math.min.name, Cond.methodLink RX7 70 yX7_readWalker, Cond.privateMethod yX7_readWalker, Cond.instanceMethod yX7_readWalker, Cond.code yX7_readWalker cX7_readWalker 2 (some .boolean), Cond.methodLink RX7 73 yX7_readRule, Cond.privateMethod yX7_readRule, Cond.instanceMethod yX7_readRule, Cond.code yX7_readRule cX7_readRule 1 (some .boolean), Cond.methodLink RX7 162 yX2_read, Cond.instanceMethod yX2_read, Cond.selects RX2 yX2_read yX2_read]
set_option maxRecDepth 20000 in
theorem sq_3_13 : (tables_1_3.drop 208).take 16 = st_3_13 := rfl
theorem gdc_3_13 {w : Cond} (j : Nat) (h : st_3_13[j]? = some w) (g : goodWord w = true) : w ∈ gd := gdm_3 (List.mem_of_mem_drop (List.mem_of_mem_take (show w ∈ (tables_1_3.drop 208).take 16 from by rw [sq_3_13]; exact List.mem_of_getElem? h))) g
noncomputable def st_3_14 : List Cond := [Cond.code yX2_read cX2_read 2 (some .boolean), Cond.methodLink RX2 23 yX2_passEither, Cond.privateMethod yX2_passEither, Cond.instanceMethod yX2_passEither, Cond.code yX2_passEither cX2_passEither 3 (some .boolean), Cond.methodLink RX2 27 yX2_passBoth, Cond.privateMethod yX2_passBoth, Cond.instanceMethod yX2_passBoth, Cond.code yX2_passBoth cX2_passBoth 3 (some .boolean), Cond.methodLink RX2 45 yX2_passOne, Cond.privateMethod yX2_passOne, Cond.instanceMethod yX2_passOne, Cond.code yX2_passOne cX2_passOne 2 (some .boolean), Cond.methodLink RX2 48 yX2_passRelation, Cond.privateMethod yX2_passRelation, Cond.instanceMethod yX2_passRelation]
set_option maxRecDepth 20000 in
theorem sq_3_14 : (tables_1_3.drop 224).take 16 = st_3_14 := rfl
theorem gdc_3_14 {w : Cond} (j : Nat) (h : st_3_14[j]? = some w) (g : goodWord w = true) : w ∈ gd := gdm_3 (List.mem_of_mem_drop (List.mem_of_mem_take (show w ∈ (tables_1_3.drop 224).take 16 from by rw [sq_3_14]; exact List.mem_of_getElem? h))) g
theorem gdm_4 {w : Cond} (h : w ∈ tables_1_4) (g : goodWord w = true) : w ∈ gd := List.mem_filter.mpr ⟨show w ∈ k2_sels lw_privs ++ tables_1 from List.mem_append_right _ (gt_4 h), g⟩
noncomputable def st_4_0 : List Cond := [Cond.code yX2_passRelation cX2_passRelation 3 (some .boolean), Cond.methodLink RX2 54 yX2_passSum, Cond.privateMethod yX2_passSum, Cond.instanceMethod yX2_passSum, Cond.code yX2_passSum cX2_passSum 4 (some .boolean), Cond.methodLink RX2 57 yX2_passTerm, Cond.privateMethod yX2_passTerm, Cond.instanceMethod yX2_passTerm, Cond.code yX2_passTerm cX2_passTerm 4 (some .boolean), Cond.methodLink RX2 60 yX2_passUnit, Cond.privateMethod yX2_passUnit, Cond.instanceMethod yX2_passUnit, Cond.code yX2_passUnit cX2_passUnit 2 (some .boolean), Cond.methodLink RX2 51 yX9_refuse, Cond.methodLink RX2 67 yX2_passBracket, Cond.privateMethod yX2_passBracket]
set_option maxRecDepth 20000 in
theorem sq_4_0 : (tables_1_4.drop 0).take 16 = st_4_0 := rfl
theorem gdc_4_0 {w : Cond} (j : Nat) (h : st_4_0[j]? = some w) (g : goodWord w = true) : w ∈ gd := gdm_4 (List.mem_of_mem_drop (List.mem_of_mem_take (show w ∈ (tables_1_4.drop 0).take 16 from by rw [sq_4_0]; exact List.mem_of_getElem? h))) g
noncomputable def st_4_1 : List Cond := [Cond.instanceMethod yX2_passBracket, Cond.code yX2_passBracket cX2_passBracket 2 (some .boolean), Cond.methodLink RX2 35 yX9_advance, Cond.methodLink RX2 39 yX6_emit, Cond.instanceMethod yX6_emit, Cond.selects RX6 yX6_emit yX6_emit, Cond.code yX6_emit cX6_emit 3 none, Cond.methodLink RX2 63 yX2_isTimes, Cond.static yX2_isTimes, Cond.code yX2_isTimes cX2_isTimes 1 (some .boolean), Cond.methodLink RX7 76 yX7_readSlip, Cond.privateMethod yX7_readSlip, Cond.instanceMethod yX7_readSlip, Cond.code yX7_readSlip cX7_readSlip 3 (some .boolean), Cond.methodLink RX7 79 yX7_readHand, Cond.privateMethod yX7_readHand]
set_option maxRecDepth 20000 in
theorem sq_4_1 : (tables_1_4.drop 16).take 16 = st_4_1 := rfl
theorem gdc_4_1 {w : Cond} (j : Nat) (h : st_4_1[j]? = some w) (g : goodWord w = true) : w ∈ gd := gdm_4 (List.mem_of_mem_drop (List.mem_of_mem_take (show w ∈ (tables_1_4.drop 16).take 16 from by rw [sq_4_1]; exact List.mem_of_getElem? h))) g
noncomputable def st_4_2 : List Cond := [Cond.instanceMethod yX7_readHand, Cond.code yX7_readHand cX7_readHand 1 (some .boolean), Cond.methodLink RX7 82 yX7_readDraw, Cond.privateMethod yX7_readDraw, Cond.instanceMethod yX7_readDraw, Cond.code yX7_readDraw cX7_readDraw 1 (some .boolean), Cond.methodLink RL 28 yX11_fault, Cond.instanceMethod yX11_fault, Cond.selects RX11 yX11_fault yX11_fault, Cond.code yX11_fault cX11_fault 2 (some .int), Cond.methodLink RL 32 yX11_inch, Cond.instanceMethod yX11_inch, Cond.selects RX11 yX11_inch yX11_inch, Cond.code yX11_inch cX11_inch 4 (some .int), Cond.methodLink RX11 110 yX6_hasInch, Cond.instanceMethod yX6_hasInch]
set_option maxRecDepth 20000 in
theorem sq_4_2 : (tables_1_4.drop 32).take 16 = st_4_2 := rfl
theorem gdc_4_2 {w : Cond} (j : Nat) (h : st_4_2[j]? = some w) (g : goodWord w = true) : w ∈ gd := gdm_4 (List.mem_of_mem_drop (List.mem_of_mem_take (show w ∈ (tables_1_4.drop 32).take 16 from by rw [sq_4_2]; exact List.mem_of_getElem? h))) g
noncomputable def st_4_3 : List Cond := [Cond.selects RX6 yX6_hasInch yX6_hasInch, Cond.code yX6_hasInch cX6_hasInch 3 (some .boolean), Cond.methodLink RX6 77 yX6_hasStreet, Cond.instanceMethod yX6_hasStreet, Cond.selects RX6 yX6_hasStreet yX6_hasStreet, Cond.code yX6_hasStreet cX6_hasStreet 2 (some .boolean), Cond.methodLink RX11 114 yX6_inchAt, Cond.instanceMethod yX6_inchAt, Cond.selects RX6 yX6_inchAt yX6_inchAt, Cond.code yX6_inchAt cX6_inchAt 3 (some .int), Cond.methodLink RX6 67 yX6_hasInch, Cond.methodLink RX11 118 yX6_part, Cond.static yX6_part, Cond.code yX6_part cX6_part 2 (some .int), Cond.methodLink RL 37 yX11_length, Cond.instanceMethod yX11_length]
set_option maxRecDepth 20000 in
theorem sq_4_3 : (tables_1_4.drop 48).take 16 = st_4_3 := rfl
theorem gdc_4_3 {w : Cond} (j : Nat) (h : st_4_3[j]? = some w) (g : goodWord w = true) : w ∈ gd := gdm_4 (List.mem_of_mem_drop (List.mem_of_mem_take (show w ∈ (tables_1_4.drop 48).take 16 from by rw [sq_4_3]; exact List.mem_of_getElem? h))) g
noncomputable def st_4_4 : List Cond := [Cond.selects RX11 yX11_length yX11_length, Cond.code yX11_length cX11_length 2 (some .int), Cond.methodLink RX11 121 yX6_hasStreet, Cond.methodLink RL 41 yX11_line, Cond.instanceMethod yX11_line, Cond.selects RX11 yX11_line yX11_line, Cond.code yX11_line cX11_line 4 (some .int), Cond.methodLink RX11 128 yX6_hasSet, Cond.instanceMethod yX6_hasSet, Cond.selects RX6 yX6_hasSet yX6_hasSet, Cond.code yX6_hasSet cX6_hasSet 2 (some .boolean), Cond.methodLink RX11 131 yX11_today, Cond.privateMethod yX11_today, Cond.instanceMethod yX11_today, Cond.code yX11_today cX11_today 1 (some .int), Cond.methodLink RX11 135 yX3_findFor]
set_option maxRecDepth 20000 in
theorem sq_4_4 : (tables_1_4.drop 64).take 16 = st_4_4 := rfl
theorem gdc_4_4 {w : Cond} (j : Nat) (h : st_4_4[j]? = some w) (g : goodWord w = true) : w ∈ gd := gdm_4 (List.mem_of_mem_drop (List.mem_of_mem_take (show w ∈ (tables_1_4.drop 64).take 16 from by rw [sq_4_4]; exact List.mem_of_getElem? h))) g
noncomputable def st_4_5 : List Cond := [Cond.instanceMethod yX3_findFor, Cond.selects RX3 yX3_findFor yX3_findFor, Cond.code yX3_findFor cX3_findFor 7 none, Cond.methodLink RX3 31 yX6_hasStreet, Cond.methodLink RX3 40 yX6_inchAt, Cond.methodLink RX3 48 yX3_valueOf, Cond.privateMethod yX3_valueOf, Cond.instanceMethod yX3_valueOf, Cond.code yX3_valueOf cX3_valueOf 8 (some .int), Cond.methodLink RX3 75 yX3_push, Cond.privateMethod yX3_push, Cond.instanceMethod yX3_push, Cond.code yX3_push cX3_push 2 none, Cond.methodLink RX3 79 yX3_pop, Cond.privateMethod yX3_pop, Cond.instanceMethod yX3_pop]
set_option maxRecDepth 20000 in
theorem sq_4_5 : (tables_1_4.drop 80).take 16 = st_4_5 := rfl
theorem gdc_4_5 {w : Cond} (j : Nat) (h : st_4_5[j]? = some w) (g : goodWord w = true) : w ∈ gd := gdm_4 (List.mem_of_mem_drop (List.mem_of_mem_take (show w ∈ (tables_1_4.drop 80).take 16 from by rw [sq_4_5]; exact List.mem_of_getElem? h))) g
noncomputable def st_4_6 : List Cond := [Cond.code yX3_pop cX3_pop 1 (some .int), Cond.methodLink RX3 83 yX3_join, Cond.static yX3_join, Cond.code yX3_join cX3_join 3 (some .int), Cond.methodLink RX3 86 yX3_ownOf, Cond.static yX3_ownOf, Cond.code yX3_ownOf cX3_ownOf 3 (some .int), Cond.methodLink RX3 89 yX6_part, Cond.methodLink RX11 139 yX3_isLine, Cond.instanceMethod yX3_isLine, Cond.selects RX3 yX3_isLine yX3_isLine, Cond.code yX3_isLine cX3_isLine 4 (some .boolean), Cond.methodLink RX3 52 yX6_hasInch, Cond.methodLink RL 45 yX11_gap, Cond.instanceMethod yX11_gap, Cond.selects RX11 yX11_gap yX11_gap]
set_option maxRecDepth 20000 in
theorem sq_4_6 : (tables_1_4.drop 96).take 16 = st_4_6 := rfl
theorem gdc_4_6 {w : Cond} (j : Nat) (h : st_4_6[j]? = some w) (g : goodWord w = true) : w ∈ gd := gdm_4 (List.mem_of_mem_drop (List.mem_of_mem_take (show w ∈ (tables_1_4.drop 96).take 16 from by rw [sq_4_6]; exact List.mem_of_getElem? h))) g
noncomputable def st_4_7 : List Cond := [Cond.code yX11_gap cX11_gap 10 (some .int), Cond.methodLink RL 49 yX11_foot, Cond.instanceMethod yX11_foot, Cond.selects RX11 yX11_foot yX11_foot, Cond.code yX11_foot cX11_foot 5 (some .int), Cond.methodLink RX11 143 yX11_canAsk, Cond.privateMethod yX11_canAsk, Cond.instanceMethod yX11_canAsk, Cond.code yX11_canAsk cX11_canAsk 4 (some .boolean), Cond.methodLink RX11 328 yX6_hasWalker, Cond.instanceMethod yX6_hasWalker, Cond.selects RX6 yX6_hasWalker yX6_hasWalker, Cond.code yX6_hasWalker cX6_hasWalker 2 (some .boolean), Cond.methodLink RX11 146 yX3_isLawful, Cond.instanceMethod yX3_isLawful, Cond.selects RX3 yX3_isLawful yX3_isLawful]
set_option maxRecDepth 20000 in
theorem sq_4_7 : (tables_1_4.drop 112).take 16 = st_4_7 := rfl
theorem gdc_4_7 {w : Cond} (j : Nat) (h : st_4_7[j]? = some w) (g : goodWord w = true) : w ∈ gd := gdm_4 (List.mem_of_mem_drop (List.mem_of_mem_take (show w ∈ (tables_1_4.drop 112).take 16 from by rw [sq_4_7]; exact List.mem_of_getElem? h))) g
noncomputable def st_4_8 : List Cond := [Cond.code yX3_isLawful cX3_isLawful 6 (some .boolean), Cond.methodLink RX3 56 yX6_stands, Cond.instanceMethod yX6_stands, Cond.selects RX6 yX6_stands yX6_stands, Cond.code yX6_stands cX6_stands 4 (some .boolean), Cond.methodLink RX6 81 yX6_hasWalker, Cond.methodLink RX3 63 yX3_isLine, Cond.methodLink RL 54 yX11_fewest, Cond.instanceMethod yX11_fewest, Cond.selects RX11 yX11_fewest yX11_fewest, Cond.code yX11_fewest cX11_fewest 6 (some .int), Cond.methodLink RX11 153 yX11_prepare, Cond.privateMethod yX11_prepare, Cond.instanceMethod yX11_prepare, Cond.code yX11_prepare cX11_prepare 4 none, Cond.methodLink RX11 336 yX0_lookAt]
set_option maxRecDepth 20000 in
theorem sq_4_8 : (tables_1_4.drop 128).take 16 = st_4_8 := rfl
theorem gdc_4_8 {w : Cond} (j : Nat) (h : st_4_8[j]? = some w) (g : goodWord w = true) : w ∈ gd := gdm_4 (List.mem_of_mem_drop (List.mem_of_mem_take (show w ∈ (tables_1_4.drop 128).take 16 from by rw [sq_4_8]; exact List.mem_of_getElem? h))) g
noncomputable def st_4_9 : List Cond := [Cond.instanceMethod yX0_lookAt, Cond.selects RX0 yX0_lookAt yX0_lookAt, Cond.code yX0_lookAt cX0_lookAt 4 none, Cond.methodLink RX0 44 Lib.Math.max.name, Cond.methodLink RX11 339 yX0_findLawful, Cond.instanceMethod yX0_findLawful, Cond.selects RX0 yX0_findLawful yX0_findLawful, Cond.code yX0_findLawful cX0_findLawful 6 none, Cond.methodLink RX0 56 yX3_isLine, Cond.methodLink RX11 157 yX10_fewestFeet, Cond.instanceMethod yX10_fewestFeet, Cond.selects RX10 yX10_fewestFeet yX10_fewestFeet, Cond.code yX10_fewestFeet cX10_fewestFeet 5 (some .int), Cond.methodLink RX10 40 yX10_findFeetFrom, Cond.privateMethod yX10_findFeetFrom, Cond.instanceMethod yX10_findFeetFrom]
set_option maxRecDepth 20000 in
theorem sq_4_9 : (tables_1_4.drop 144).take 16 = st_4_9 := rfl
theorem gdc_4_9 {w : Cond} (j : Nat) (h : st_4_9[j]? = some w) (g : goodWord w = true) : w ∈ gd := gdm_4 (List.mem_of_mem_drop (List.mem_of_mem_take (show w ∈ (tables_1_4.drop 144).take 16 from by rw [sq_4_9]; exact List.mem_of_getElem? h))) g
noncomputable def st_4_10 : List Cond := [Cond.code yX10_findFeetFrom cX10_findFeetFrom 8 none, Cond.constant RX10 44 1000000, Cond.methodLink RX10 67 yX10_leastOf, Cond.static yX10_leastOf, Cond.code yX10_leastOf cX10_leastOf 5 (some .int), Cond.methodLink RX10 49 Lib.Math.min.name, Cond.methodLink RX10 45 yX0_lastFirst, Cond.instanceMethod yX0_lastFirst, Cond.selects RX0 yX0_lastFirst yX0_lastFirst, Cond.code yX0_lastFirst cX0_lastFirst 1 (some .int), Cond.methodLink RX0 62 Lib.Math.min.name, Cond.methodLink RX11 161 yX10_layHeels, Cond.instanceMethod yX10_layHeels, Cond.selects RX10 yX10_layHeels yX10_layHeels, Cond.code yX10_layHeels cX10_layHeels 11 (some .int), Cond.methodLink RX10 74 yX10_rowOf]
set_option maxRecDepth 20000 in
theorem sq_4_10 : (tables_1_4.drop 160).take 16 = st_4_10 := rfl
theorem gdc_4_10 {w : Cond} (j : Nat) (h : st_4_10[j]? = some w) (g : goodWord w = true) : w ∈ gd := gdm_4 (List.mem_of_mem_drop (List.mem_of_mem_take (show w ∈ (tables_1_4.drop 160).take 16 from by rw [sq_4_10]; exact List.mem_of_getElem? h))) g
noncomputable def st_4_11 : List Cond := [Cond.static yX10_rowOf, Cond.code yX10_rowOf cX10_rowOf 2 (some .int), Cond.methodLink RL 58 yX11_ways, Cond.instanceMethod yX11_ways, Cond.selects RX11 yX11_ways yX11_ways, Cond.code yX11_ways cX11_ways 5 (some .long), Cond.constantLong RX11 165 (-1), Cond.methodLink RX11 167 yX5_countWays, Cond.instanceMethod yX5_countWays, Cond.selects RX5 yX5_countWays yX5_countWays, Cond.code yX5_countWays cX5_countWays 6 (some .long), Cond.methodLink RX5 43 yX5_setNextFeet, Cond.privateMethod yX5_setNextFeet, Cond.instanceMethod yX5_setNextFeet, Cond.code yX5_setNextFeet cX5_setNextFeet 4 none, Cond.methodLink RX5 61 yX5_sumOf]
set_option maxRecDepth 20000 in
theorem sq_4_11 : (tables_1_4.drop 176).take 16 = st_4_11 := rfl
theorem gdc_4_11 {w : Cond} (j : Nat) (h : st_4_11[j]? = some w) (g : goodWord w = true) : w ∈ gd := gdm_4 (List.mem_of_mem_drop (List.mem_of_mem_take (show w ∈ (tables_1_4.drop 176).take 16 from by rw [sq_4_11]; exact List.mem_of_getElem? h))) g
noncomputable def st_4_12 : List Cond := [Cond.static yX5_sumOf, Cond.code yX5_sumOf cX5_sumOf 6 (some .long), Cond.methodLink RX5 68 Lib.Math.max.name, Cond.methodLink RX5 72 Lib.Math.min.name, Cond.constantLong RX5 50 1000000000000000, Cond.methodLink RX5 52 Lib.MathLoose.min_long.x, Cond.static Lib.MathLoose.min_long.x, Cond.code Lib.MathLoose.min_long.x Lib.MathLoose.min_long.code 4 (some .long), Cond.methodLink RL 63 yX11_evenest, Cond.instanceMethod yX11_evenest, Cond.selects RX11 yX11_evenest yX11_evenest, Cond.code yX11_evenest cX11_evenest 5 (some .int), Cond.methodLink RX11 171 yX10_mostEven, Cond.instanceMethod yX10_mostEven, Cond.selects RX10 yX10_mostEven yX10_mostEven, Cond.code yX10_mostEven cX10_mostEven 8 (some .int)]
set_option maxRecDepth 20000 in
theorem sq_4_12 : (tables_1_4.drop 192).take 16 = st_4_12 := rfl
theorem gdc_4_12 {w : Cond} (j : Nat) (h : st_4_12[j]? = some w) (g : goodWord w = true) : w ∈ gd := gdm_4 (List.mem_of_mem_drop (List.mem_of_mem_take (show w ∈ (tables_1_4.drop 192).take 16 from by rw [sq_4_12]; exact List.mem_of_getElem? h))) g
noncomputable def st_4_13 : List Cond := [Cond.methodLink RX10 82 Lib.Math.max.name, Cond.methodLink RX10 78 yX10_firstHeel, Cond.privateMethod yX10_firstHeel, Cond.instanceMethod yX10_firstHeel, Cond.code yX10_firstHeel cX10_firstHeel 7 (some .int), Cond.methodLink RL 67 yX11_even, Cond.instanceMethod yX11_even, Cond.selects RX11 yX11_even yX11_even, Cond.code yX11_even cX11_even 8 (some .int), Cond.methodLink RL 71 yX11_evens, Cond.instanceMethod yX11_evens, Cond.selects RX11 yX11_evens yX11_evens, Cond.code yX11_evens cX11_evens 5 (some .int), Cond.methodLink RX11 187 yX10_comesEvenly, Cond.instanceMethod yX10_comesEvenly, Cond.selects RX10 yX10_comesEvenly yX10_comesEvenly]
set_option maxRecDepth 20000 in
theorem sq_4_13 : (tables_1_4.drop 208).take 16 = st_4_13 := rfl
theorem gdc_4_13 {w : Cond} (j : Nat) (h : st_4_13[j]? = some w) (g : goodWord w = true) : w ∈ gd := gdm_4 (List.mem_of_mem_drop (List.mem_of_mem_take (show w ∈ (tables_1_4.drop 208).take 16 from by rw [sq_4_13]; exact List.mem_of_getElem? h))) g
noncomputable def st_4_14 : List Cond := [Cond.code yX10_comesEvenly cX10_comesEvenly 3 (some .boolean), Cond.methodLink RX11 191 yX11_layDown, Cond.privateMethod yX11_layDown, Cond.instanceMethod yX11_layDown, Cond.code yX11_layDown cX11_layDown 2 none, Cond.methodLink RL 75 yX11_first, Cond.instanceMethod yX11_first, Cond.selects RX11 yX11_first yX11_first, Cond.code yX11_first cX11_first 9 (some .int), Cond.methodLink RX11 194 yX11_isEndless, Cond.static yX11_isEndless, Cond.code yX11_isEndless cX11_isEndless 3 (some .boolean), Cond.methodLink RL 79 yX11_begin, Cond.instanceMethod yX11_begin, Cond.selects RX11 yX11_begin yX11_begin, Cond.code yX11_begin cX11_begin 5 (some .int)]
set_option maxRecDepth 20000 in
theorem sq_4_14 : (tables_1_4.drop 224).take 16 = st_4_14 := rfl
theorem gdc_4_14 {w : Cond} (j : Nat) (h : st_4_14[j]? = some w) (g : goodWord w = true) : w ∈ gd := gdm_4 (List.mem_of_mem_drop (List.mem_of_mem_take (show w ∈ (tables_1_4.drop 224).take 16 from by rw [sq_4_14]; exact List.mem_of_getElem? h))) g
theorem gdm_5 {w : Cond} (h : w ∈ tables_1_5) (g : goodWord w = true) : w ∈ gd := List.mem_filter.mpr ⟨show w ∈ k2_sels lw_privs ++ tables_1 from List.mem_append_right _ (gt_5 h), g⟩
noncomputable def st_5_0 : List Cond := [Cond.methodLink RX11 197 yX11_beginnings, Cond.static yX11_beginnings, Cond.code yX11_beginnings cX11_beginnings 6 (some .int), Cond.methodLink RX11 295 yX11_commonDivisor, Cond.static yX11_commonDivisor, Cond.code yX11_commonDivisor cX11_commonDivisor 7 (some .long), Cond.methodLink RX11 368 Lib.Math.max.name, Cond.methodLink RL 83 yX11_suits, Cond.instanceMethod yX11_suits, Cond.selects RX11 yX11_suits yX11_suits, Cond.code yX11_suits cX11_suits 9 (some .long), Cond.methodLink RL 88 yX11_keeps, Cond.instanceMethod yX11_keeps, Cond.selects RX11 yX11_keeps yX11_keeps, Cond.code yX11_keeps cX11_keeps 4 (some .int), Cond.methodLink RX11 207 yX10_fewestLeaps]
set_option maxRecDepth 20000 in
theorem sq_5_0 : (tables_1_5.drop 0).take 16 = st_5_0 := rfl
theorem gdc_5_0 {w : Cond} (j : Nat) (h : st_5_0[j]? = some w) (g : goodWord w = true) : w ∈ gd := gdm_5 (List.mem_of_mem_drop (List.mem_of_mem_take (show w ∈ (tables_1_5.drop 0).take 16 from by rw [sq_5_0]; exact List.mem_of_getElem? h))) g
noncomputable def st_5_1 : List Cond := [Cond.instanceMethod yX10_fewestLeaps, Cond.selects RX10 yX10_fewestLeaps yX10_fewestLeaps, Cond.code yX10_fewestLeaps cX10_fewestLeaps 8 (some .int), Cond.methodLink RX10 85 yJ7_fill_53178, Cond.methodLink RX10 91 yX10_followHand, Cond.privateMethod yX10_followHand, Cond.instanceMethod yX10_followHand, Cond.code yX10_followHand cX10_followHand 12 (some .boolean), Cond.methodLink RX10 95 yX4_empty, Cond.instanceMethod yX4_empty, Cond.selects RX4 yX4_empty yX4_empty, Cond.code yX4_empty cX4_empty 1 none, Cond.methodLink RX10 98 yX4_add, Cond.instanceMethod yX4_add, Cond.selects RX4 yX4_add yX4_add, Cond.code yX4_add cX4_add 3 none]
set_option maxRecDepth 20000 in
theorem sq_5_1 : (tables_1_5.drop 16).take 16 = st_5_1 := rfl
theorem gdc_5_1 {w : Cond} (j : Nat) (h : st_5_1[j]? = some w) (g : goodWord w = true) : w ∈ gd := gdm_5 (List.mem_of_mem_drop (List.mem_of_mem_take (show w ∈ (tables_1_5.drop 16).take 16 from by rw [sq_5_1]; exact List.mem_of_getElem? h))) g
noncomputable def st_5_2 : List Cond := [Cond.methodLink RX10 102 yX4_leastFrom, Cond.instanceMethod yX4_leastFrom, Cond.selects RX4 yX4_leastFrom yX4_leastFrom, Cond.code yX4_leastFrom cX4_leastFrom 2 (some .int), Cond.constant RX4 27 1000000, Cond.methodLink RL 92 yX11_brave, Cond.instanceMethod yX11_brave, Cond.selects RX11 yX11_brave yX11_brave, Cond.code yX11_brave cX11_brave 6 (some .long), Cond.methodLink RX11 211 yX11_canBeBrave, Cond.privateMethod yX11_canBeBrave, Cond.instanceMethod yX11_canBeBrave, Cond.code yX11_canBeBrave cX11_canBeBrave 6 (some .boolean), Cond.methodLink RX11 234 yX6_stands, Cond.methodLink RX11 218 yX5_bravest, Cond.instanceMethod yX5_bravest]
set_option maxRecDepth 20000 in
theorem sq_5_2 : (tables_1_5.drop 32).take 16 = st_5_2 := rfl
theorem gdc_5_2 {w : Cond} (j : Nat) (h : st_5_2[j]? = some w) (g : goodWord w = true) : w ∈ gd := gdm_5 (List.mem_of_mem_drop (List.mem_of_mem_take (show w ∈ (tables_1_5.drop 32).take 16 from by rw [sq_5_2]; exact List.mem_of_getElem? h))) g
noncomputable def st_5_3 : List Cond := [Cond.selects RX5 yX5_bravest yX5_bravest, Cond.code yX5_bravest cX5_bravest 9 (some .long), Cond.methodLink RX5 74 yX5_bestStep, Cond.privateMethod yX5_bestStep, Cond.instanceMethod yX5_bestStep, Cond.code yX5_bestStep cX5_bestStep 7 (some .int), Cond.methodLink RX5 78 yX5_aimFrom, Cond.privateMethod yX5_aimFrom, Cond.instanceMethod yX5_aimFrom, Cond.code yX5_aimFrom cX5_aimFrom 4 (some .long), Cond.methodLink RL 96 yX11_boldest, Cond.instanceMethod yX11_boldest, Cond.selects RX11 yX11_boldest yX11_boldest, Cond.code yX11_boldest cX11_boldest 6 (some .int), Cond.methodLink RX11 222 yX5_boldestStep, Cond.instanceMethod yX5_boldestStep]
set_option maxRecDepth 20000 in
theorem sq_5_3 : (tables_1_5.drop 48).take 16 = st_5_3 := rfl
theorem gdc_5_3 {w : Cond} (j : Nat) (h : st_5_3[j]? = some w) (g : goodWord w = true) : w ∈ gd := gdm_5 (List.mem_of_mem_drop (List.mem_of_mem_take (show w ∈ (tables_1_5.drop 48).take 16 from by rw [sq_5_3]; exact List.mem_of_getElem? h))) g
noncomputable def st_5_4 : List Cond := [Cond.selects RX5 yX5_boldestStep yX5_boldestStep, Cond.code yX5_boldestStep cX5_boldestStep 1 (some .int), Cond.methodLink RL 100 yX11_wager, Cond.instanceMethod yX11_wager, Cond.selects RX11 yX11_wager yX11_wager, Cond.code yX11_wager cX11_wager 6 (some .int), Cond.methodLink RX11 225 yX11_winningRule, Cond.privateMethod yX11_winningRule, Cond.instanceMethod yX11_winningRule, Cond.code yX11_winningRule cX11_winningRule 5 (some .int), Cond.methodLink RX11 350 yX10_winningFrom, Cond.instanceMethod yX10_winningFrom, Cond.selects RX10 yX10_winningFrom yX10_winningFrom, Cond.code yX10_winningFrom cX10_winningFrom 5 (some .int), Cond.methodLink RX11 231 yX11_leavesWay, Cond.privateMethod yX11_leavesWay]
set_option maxRecDepth 20000 in
theorem sq_5_4 : (tables_1_5.drop 64).take 16 = st_5_4 := rfl
theorem gdc_5_4 {w : Cond} (j : Nat) (h : st_5_4[j]? = some w) (g : goodWord w = true) : w ∈ gd := gdm_5 (List.mem_of_mem_drop (List.mem_of_mem_take (show w ∈ (tables_1_5.drop 64).take 16 from by rw [sq_5_4]; exact List.mem_of_getElem? h))) g
noncomputable def st_5_5 : List Cond := [Cond.instanceMethod yX11_leavesWay, Cond.code yX11_leavesWay cX11_leavesWay 3 (some .boolean), Cond.methodLink RX11 343 yX10_isThereWay, Cond.instanceMethod yX10_isThereWay, Cond.selects RX10 yX10_isThereWay yX10_isThereWay, Cond.code yX10_isThereWay cX10_isThereWay 8 (some .boolean), Cond.methodLink RL 104 yX11_leave, Cond.instanceMethod yX11_leave, Cond.selects RX11 yX11_leave yX11_leave, Cond.code yX11_leave cX11_leave 5 (some .int), Cond.methodLink RL 109 yX11_walk, Cond.instanceMethod yX11_walk, Cond.selects RX11 yX11_walk yX11_walk, Cond.code yX11_walk cX11_walk 4 (some .int), Cond.methodLink RX11 239 yX1_setOut, Cond.instanceMethod yX1_setOut]
set_option maxRecDepth 20000 in
theorem sq_5_5 : (tables_1_5.drop 80).take 16 = st_5_5 := rfl
theorem gdc_5_5 {w : Cond} (j : Nat) (h : st_5_5[j]? = some w) (g : goodWord w = true) : w ∈ gd := gdm_5 (List.mem_of_mem_drop (List.mem_of_mem_take (show w ∈ (tables_1_5.drop 80).take 16 from by rw [sq_5_5]; exact List.mem_of_getElem? h))) g
noncomputable def st_5_6 : List Cond := [Cond.selects RX1 yX1_setOut yX1_setOut, Cond.code yX1_setOut cX1_setOut 4 none, Cond.methodLink RX11 242 yX11_isLawfulNow, Cond.privateMethod yX11_isLawfulNow, Cond.instanceMethod yX11_isLawfulNow, Cond.code yX11_isLawfulNow cX11_isLawfulNow 3 (some .boolean), Cond.methodLink RX11 249 yX1_keepAct, Cond.instanceMethod yX1_keepAct, Cond.selects RX1 yX1_keepAct yX1_keepAct, Cond.code yX1_keepAct cX1_keepAct 1 none, Cond.methodLink RL 113 yX11_go, Cond.instanceMethod yX11_go, Cond.selects RX11 yX11_go yX11_go, Cond.code yX11_go cX11_go 5 (some .int), Cond.methodLink RX11 252 yX11_canGo, Cond.privateMethod yX11_canGo]
set_option maxRecDepth 20000 in
theorem sq_5_6 : (tables_1_5.drop 96).take 16 = st_5_6 := rfl
theorem gdc_5_6 {w : Cond} (j : Nat) (h : st_5_6[j]? = some w) (g : goodWord w = true) : w ∈ gd := gdm_5 (List.mem_of_mem_drop (List.mem_of_mem_take (show w ∈ (tables_1_5.drop 96).take 16 from by rw [sq_5_6]; exact List.mem_of_getElem? h))) g
noncomputable def st_5_7 : List Cond := [Cond.instanceMethod yX11_canGo, Cond.code yX11_canGo cX11_canGo 4 (some .boolean), Cond.methodLink RX11 255 yX1_drawSeed, Cond.instanceMethod yX1_drawSeed, Cond.selects RX1 yX1_drawSeed yX1_drawSeed, Cond.code yX1_drawSeed cX1_drawSeed 1 none, Cond.methodLink RX11 258 yX6_slipBy, Cond.instanceMethod yX6_slipBy, Cond.selects RX6 yX6_slipBy yX6_slipBy, Cond.code yX6_slipBy cX6_slipBy 4 (some .int), Cond.methodLink RX6 84 yX6_allSlips, Cond.instanceMethod yX6_allSlips, Cond.selects RX6 yX6_allSlips yX6_allSlips, Cond.code yX6_allSlips cX6_allSlips 1 (some .int), Cond.methodLink RL 117 yX11_force, Cond.instanceMethod yX11_force]
set_option maxRecDepth 20000 in
theorem sq_5_7 : (tables_1_5.drop 112).take 16 = st_5_7 := rfl
theorem gdc_5_7 {w : Cond} (j : Nat) (h : st_5_7[j]? = some w) (g : goodWord w = true) : w ∈ gd := gdm_5 (List.mem_of_mem_drop (List.mem_of_mem_take (show w ∈ (tables_1_5.drop 112).take 16 from by rw [sq_5_7]; exact List.mem_of_getElem? h))) g
noncomputable def st_5_8 : List Cond := [Cond.selects RX11 yX11_force yX11_force, Cond.code yX11_force cX11_force 2 (some .int), Cond.methodLink RX11 262 yX6_hasRule, Cond.instanceMethod yX6_hasRule, Cond.selects RX6 yX6_hasRule yX6_hasRule, Cond.code yX6_hasRule cX6_hasRule 2 (some .boolean), Cond.methodLink RL 121 yX11_rain, Cond.instanceMethod yX11_rain, Cond.selects RX11 yX11_rain yX11_rain, Cond.code yX11_rain cX11_rain 1 (some .boolean), Cond.methodLink RL 126 yX11_day, Cond.instanceMethod yX11_day, Cond.selects RX11 yX11_day yX11_day, Cond.code yX11_day cX11_day 1 (some .int), Cond.methodLink RL 130 yX11_undo, Cond.instanceMethod yX11_undo]
set_option maxRecDepth 20000 in
theorem sq_5_8 : (tables_1_5.drop 128).take 16 = st_5_8 := rfl
theorem gdc_5_8 {w : Cond} (j : Nat) (h : st_5_8[j]? = some w) (g : goodWord w = true) : w ∈ gd := gdm_5 (List.mem_of_mem_drop (List.mem_of_mem_take (show w ∈ (tables_1_5.drop 128).take 16 from by rw [sq_5_8]; exact List.mem_of_getElem? h))) g
noncomputable def st_5_9 : List Cond := [Cond.selects RX11 yX11_undo yX11_undo, Cond.code yX11_undo cX11_undo 1 (some .boolean), Cond.methodLink RX11 265 yX1_takeBack, Cond.instanceMethod yX1_takeBack, Cond.selects RX1 yX1_takeBack yX1_takeBack, Cond.code yX1_takeBack cX1_takeBack 1 (some .boolean), Cond.methodLink RL 134 yX11_redo, Cond.instanceMethod yX11_redo, Cond.selects RX11 yX11_redo yX11_redo, Cond.code yX11_redo cX11_redo 1 (some .boolean), Cond.methodLink RX11 268 yX1_doAgain, Cond.instanceMethod yX1_doAgain, Cond.selects RX1 yX1_doAgain yX1_doAgain, Cond.code yX1_doAgain cX1_doAgain 1 (some .boolean), Cond.methodLink RL 138 yX11_walker, Cond.instanceMethod yX11_walker]
set_option maxRecDepth 20000 in
theorem sq_5_9 : (tables_1_5.drop 144).take 16 = st_5_9 := rfl
theorem gdc_5_9 {w : Cond} (j : Nat) (h : st_5_9[j]? = some w) (g : goodWord w = true) : w ∈ gd := gdm_5 (List.mem_of_mem_drop (List.mem_of_mem_take (show w ∈ (tables_1_5.drop 144).take 16 from by rw [sq_5_9]; exact List.mem_of_getElem? h))) g
noncomputable def st_5_10 : List Cond := [Cond.selects RX11 yX11_walker yX11_walker, Cond.code yX11_walker cX11_walker 2 (some .int), Cond.methodLink RL 142 yX11_lies, Cond.instanceMethod yX11_lies, Cond.selects RX11 yX11_lies yX11_lies, Cond.code yX11_lies cX11_lies 2 (some .int), Cond.methodLink RL 146 yX11_sight, Cond.instanceMethod yX11_sight, Cond.selects RX11 yX11_sight yX11_sight, Cond.code yX11_sight cX11_sight 4 (some .int), Cond.methodLink RX11 271 yX8_tell, Cond.instanceMethod yX8_tell, Cond.selects RX8 yX8_tell yX8_tell, Cond.code yX8_tell cX8_tell 4 (some .int), Cond.methodLink RL 150 yX11_untell, Cond.instanceMethod yX11_untell]
set_option maxRecDepth 20000 in
theorem sq_5_10 : (tables_1_5.drop 160).take 16 = st_5_10 := rfl
theorem gdc_5_10 {w : Cond} (j : Nat) (h : st_5_10[j]? = some w) (g : goodWord w = true) : w ∈ gd := gdm_5 (List.mem_of_mem_drop (List.mem_of_mem_take (show w ∈ (tables_1_5.drop 160).take 16 from by rw [sq_5_10]; exact List.mem_of_getElem? h))) g
noncomputable def st_5_11 : List Cond := [Cond.selects RX11 yX11_untell yX11_untell, Cond.code yX11_untell cX11_untell 2 (some .boolean), Cond.methodLink RX11 275 yX8_takeFrom, Cond.instanceMethod yX8_takeFrom, Cond.selects RX8 yX8_takeFrom yX8_takeFrom, Cond.code yX8_takeFrom cX8_takeFrom 2 (some .boolean), Cond.methodLink RL 155 yX11_later, Cond.instanceMethod yX11_later, Cond.selects RX11 yX11_later yX11_later, Cond.code yX11_later cX11_later 2 (some .int), Cond.constant RX11 281 100000, Cond.methodLink RL 159 yX11_fits, Cond.instanceMethod yX11_fits, Cond.selects RX11 yX11_fits yX11_fits, Cond.code yX11_fits cX11_fits 4 (some .int), Cond.methodLink RX11 282 yX11_fitsAll]
set_option maxRecDepth 20000 in
theorem sq_5_11 : (tables_1_5.drop 176).take 16 = st_5_11 := rfl
theorem gdc_5_11 {w : Cond} (j : Nat) (h : st_5_11[j]? = some w) (g : goodWord w = true) : w ∈ gd := gdm_5 (List.mem_of_mem_drop (List.mem_of_mem_take (show w ∈ (tables_1_5.drop 176).take 16 from by rw [sq_5_11]; exact List.mem_of_getElem? h))) g
noncomputable def st_5_12 : List Cond := [Cond.privateMethod yX11_fitsAll, Cond.instanceMethod yX11_fitsAll, Cond.code yX11_fitsAll cX11_fitsAll 4 (some .boolean), Cond.methodLink RX11 288 yX8_counts, Cond.instanceMethod yX8_counts, Cond.selects RX8 yX8_counts yX8_counts, Cond.code yX8_counts cX8_counts 3 (some .boolean), Cond.methodLink RX11 356 yX11_isLawfulSight, Cond.privateMethod yX11_isLawfulSight, Cond.instanceMethod yX11_isLawfulSight, Cond.code yX11_isLawfulSight cX11_isLawfulSight 5 (some .boolean), Cond.methodLink RL 163 yX11_chance, Cond.instanceMethod yX11_chance, Cond.selects RX11 yX11_chance yX11_chance, Cond.code yX11_chance cX11_chance 10 (some .long), Cond.methodLink RX11 291 yX11_heelsNear]
set_option maxRecDepth 20000 in
theorem sq_5_12 : (tables_1_5.drop 192).take 16 = st_5_12 := rfl
theorem gdc_5_12 {w : Cond} (j : Nat) (h : st_5_12[j]? = some w) (g : goodWord w = true) : w ∈ gd := gdm_5 (List.mem_of_mem_drop (List.mem_of_mem_take (show w ∈ (tables_1_5.drop 192).take 16 from by rw [sq_5_12]; exact List.mem_of_getElem? h))) g
noncomputable def st_5_13 : List Cond := [Cond.privateMethod yX11_heelsNear, Cond.instanceMethod yX11_heelsNear, Cond.code yX11_heelsNear cX11_heelsNear 6 (some .int), Cond.methodLink RL 168 yX11_image, Cond.instanceMethod yX11_image, Cond.selects RX11 yX11_image yX11_image, Cond.code yX11_image cX11_image 2 (some .int), Cond.methodLink RX11 299 yX1_keepIn, Cond.instanceMethod yX1_keepIn, Cond.selects RX1 yX1_keepIn yX1_keepIn, Cond.code yX1_keepIn cX1_keepIn 2 (some .boolean), Cond.methodLink RL 172 yX11_back, Cond.instanceMethod yX11_back, Cond.selects RX11 yX11_back yX11_back, Cond.code yX11_back cX11_back 2 (some .int), Cond.methodLink RX11 302 yX1_bringFrom]
set_option maxRecDepth 20000 in
theorem sq_5_13 : (tables_1_5.drop 208).take 16 = st_5_13 := rfl
theorem gdc_5_13 {w : Cond} (j : Nat) (h : st_5_13[j]? = some w) (g : goodWord w = true) : w ∈ gd := gdm_5 (List.mem_of_mem_drop (List.mem_of_mem_take (show w ∈ (tables_1_5.drop 208).take 16 from by rw [sq_5_13]; exact List.mem_of_getElem? h))) g
noncomputable def st_5_14 : List Cond := [Cond.instanceMethod yX1_bringFrom, Cond.selects RX1 yX1_bringFrom yX1_bringFrom, Cond.code yX1_bringFrom cX1_bringFrom 2 (some .boolean), Cond.methodLink RL 176 yX11_about, Cond.instanceMethod yX11_about, Cond.selects RX11 yX11_about yX11_about, Cond.code yX11_about cX11_about 2 (some .int), Cond.methodLink RX11 317 yX6_allSlips, Cond.classLink RL 10 RX12, Cond.instantiable RX12 89, Cond.methodLink RL 12 yX12_init, Cond.instanceMethod yX12_init, Cond.code yX12_init cX12_init 1 none, Cond.methodLink RX12 1 objectInit, Cond.fieldLink RX12 7 "SlabWalkModel" "tape" "[I", Cond.fieldLink RX12 178 "SlabWalkModel" "taped" "I"]
set_option maxRecDepth 20000 in
theorem sq_5_14 : (tables_1_5.drop 224).take 16 = st_5_14 := rfl
theorem gdc_5_14 {w : Cond} (j : Nat) (h : st_5_14[j]? = some w) (g : goodWord w = true) : w ∈ gd := gdm_5 (List.mem_of_mem_drop (List.mem_of_mem_take (show w ∈ (tables_1_5.drop 224).take 16 from by rw [sq_5_14]; exact List.mem_of_getElem? h))) g
theorem gdm_6 {w : Cond} (h : w ∈ tables_1_6) (g : goodWord w = true) : w ∈ gd := List.mem_filter.mpr ⟨show w ∈ k2_sels lw_privs ++ tables_1 from List.mem_append_right _ (gt_6 h), g⟩
noncomputable def st_6_0 : List Cond := [Cond.fieldLink RX12 218 "SlabWalkModel" "fault" "I", Cond.fieldLink RX12 13 "SlabWalkModel" "faultPlace" "I", Cond.fieldLink RX12 185 "SlabWalkModel" "at" "I", Cond.fieldLink RX12 188 "SlabWalkModel" "size" "I", Cond.fieldLink RX12 205 "SlabWalkModel" "sort" "I", Cond.fieldLink RX12 195 "SlabWalkModel" "place" "I", Cond.fieldLink RX12 202 "SlabWalkModel" "number" "I", Cond.fieldLink RX12 198 "SlabWalkModel" "word" "J", Cond.fieldLink RX12 17 "SlabWalkModel" "nName" "[J", Cond.fieldLink RX12 21 "SlabWalkModel" "nStep" "[I", Cond.fieldLink RX12 24 "SlabWalkModel" "nArg" "[I", Cond.fieldLink RX12 27 "SlabWalkModel" "nMany" "[I", Cond.fieldLink RX12 30 "SlabWalkModel" "step" "[I", Cond.fieldLink RX12 33 "SlabWalkModel" "arg" "[I", Cond.fieldLink RX12 36 "SlabWalkModel" "many" "[I", Cond.fieldLink RX12 39 "SlabWalkModel" "open" "[I"]
set_option maxRecDepth 20000 in
theorem sq_6_0 : (tables_1_6.drop 0).take 16 = st_6_0 := rfl
theorem gdc_6_0 {w : Cond} (j : Nat) (h : st_6_0[j]? = some w) (g : goodWord w = true) : w ∈ gd := gdm_6 (List.mem_of_mem_drop (List.mem_of_mem_take (show w ∈ (tables_1_6.drop 0).take 16 from by rw [sq_6_0]; exact List.mem_of_getElem? h))) g
noncomputable def st_6_1 : List Cond := [Cond.fieldLink RX12 42 "SlabWalkModel" "values" "[I", Cond.fieldLink RX12 296 "SlabWalkModel" "form" "I", Cond.fieldLink RX12 299 "SlabWalkModel" "opens" "I", Cond.fieldLink RX12 312 "SlabWalkModel" "nUnits" "I", Cond.fieldLink RX12 434 "SlabWalkModel" "units" "I", Cond.fieldLink RX12 315 "SlabWalkModel" "ownUnits" "I", Cond.fieldLink RX12 309 "SlabWalkModel" "deep" "I", Cond.fieldLink RX12 45 "SlabWalkModel" "nMarks" "[I", Cond.fieldLink RX12 48 "SlabWalkModel" "nNths" "[I", Cond.fieldLink RX12 51 "SlabWalkModel" "nInches" "[I", Cond.fieldLink RX12 54 "SlabWalkModel" "nLongs" "[I", Cond.fieldLink RX12 57 "SlabWalkModel" "nLength" "[I", Cond.fieldLink RX12 60 "SlabWalkModel" "nFoot" "[I", Cond.fieldLink RX12 63 "SlabWalkModel" "nLeast" "[I", Cond.fieldLink RX12 66 "SlabWalkModel" "nMost" "[I", Cond.fieldLink RX12 69 "SlabWalkModel" "nLeap" "[I"]
set_option maxRecDepth 20000 in
theorem sq_6_1 : (tables_1_6.drop 16).take 16 = st_6_1 := rfl
theorem gdc_6_1 {w : Cond} (j : Nat) (h : st_6_1[j]? = some w) (g : goodWord w = true) : w ∈ gd := gdm_6 (List.mem_of_mem_drop (List.mem_of_mem_take (show w ∈ (tables_1_6.drop 16).take 16 from by rw [sq_6_1]; exact List.mem_of_getElem? h))) g
noncomputable def st_6_2 : List Cond := [Cond.fieldLink RX12 72 "SlabWalkModel" "nSlips" "[I", Cond.fieldLink RX12 75 "SlabWalkModel" "marks" "[I", Cond.fieldLink RX12 78 "SlabWalkModel" "nths" "[I", Cond.fieldLink RX12 81 "SlabWalkModel" "inches" "[I", Cond.fieldLink RX12 84 "SlabWalkModel" "longs" "[I", Cond.fieldLink RX12 87 "SlabWalkModel" "lengths" "[I", Cond.fieldLink RX12 90 "SlabWalkModel" "foots" "[I", Cond.fieldLink RX12 93 "SlabWalkModel" "leasts" "[I", Cond.fieldLink RX12 96 "SlabWalkModel" "mosts" "[I", Cond.fieldLink RX12 99 "SlabWalkModel" "leaps" "[I", Cond.fieldLink RX12 102 "SlabWalkModel" "slips" "[I", Cond.fieldLink RX12 359 "SlabWalkModel" "nStreets" "I", Cond.fieldLink RX12 379 "SlabWalkModel" "nWalkers" "I", Cond.fieldLink RX12 385 "SlabWalkModel" "nRules" "I", Cond.fieldLink RX12 410 "SlabWalkModel" "nHand" "I", Cond.fieldLink RX12 413 "SlabWalkModel" "nSlack" "I"]
set_option maxRecDepth 20000 in
theorem sq_6_2 : (tables_1_6.drop 32).take 16 = st_6_2 := rfl
theorem gdc_6_2 {w : Cond} (j : Nat) (h : st_6_2[j]? = some w) (g : goodWord w = true) : w ∈ gd := gdm_6 (List.mem_of_mem_drop (List.mem_of_mem_take (show w ∈ (tables_1_6.drop 32).take 16 from by rw [sq_6_2]; exact List.mem_of_getElem? h))) g
noncomputable def st_6_3 : List Cond := [Cond.fieldLink RX12 416 "SlabWalkModel" "nDraw" "I", Cond.fieldLink RX12 391 "SlabWalkModel" "nOnce" "I", Cond.fieldLink RX12 425 "SlabWalkModel" "streets" "I", Cond.fieldLink RX12 428 "SlabWalkModel" "walkers" "I", Cond.fieldLink RX12 431 "SlabWalkModel" "rules" "I", Cond.fieldLink RX12 105 "SlabWalkModel" "hand" "I", Cond.fieldLink RX12 108 "SlabWalkModel" "slack" "I", Cond.fieldLink RX12 111 "SlabWalkModel" "lines" "[Z", Cond.fieldLink RX12 115 "SlabWalkModel" "lawful" "[Z", Cond.fieldLink RX12 469 "SlabWalkModel" "inchesOf" "I", Cond.fieldLink RX12 472 "SlabWalkModel" "foot" "I", Cond.fieldLink RX12 475 "SlabWalkModel" "least" "I", Cond.fieldLink RX12 478 "SlabWalkModel" "most" "I", Cond.fieldLink RX12 481 "SlabWalkModel" "leap" "I", Cond.fieldLink RX12 118 "SlabWalkModel" "need" "[I", Cond.fieldLink RX12 121 "SlabWalkModel" "lies" "[I"]
set_option maxRecDepth 20000 in
theorem sq_6_3 : (tables_1_6.drop 48).take 16 = st_6_3 := rfl
theorem gdc_6_3 {w : Cond} (j : Nat) (h : st_6_3[j]? = some w) (g : goodWord w = true) : w ∈ gd := gdm_6 (List.mem_of_mem_drop (List.mem_of_mem_take (show w ∈ (tables_1_6.drop 48).take 16 from by rw [sq_6_3]; exact List.mem_of_getElem? h))) g
noncomputable def st_6_4 : List Cond := [Cond.fieldLink RX12 446 "SlabWalkModel" "lain" "I", Cond.fieldLink RX12 124 "SlabWalkModel" "ways" "[J", Cond.fieldLink RX12 127 "SlabWalkModel" "next" "[J", Cond.fieldLink RX12 130 "SlabWalkModel" "comes" "[Z", Cond.fieldLink RX12 133 "SlabWalkModel" "leapt" "[I", Cond.fieldLink RX12 136 "SlabWalkModel" "leaptNext" "[I", Cond.fieldLink RX12 139 "SlabWalkModel" "odds" "[J", Cond.fieldLink RX12 142 "SlabWalkModel" "hasWays" "[Z", Cond.fieldLink RX12 145 "SlabWalkModel" "wins" "[Z", Cond.fieldLink RX12 148 "SlabWalkModel" "winsBy" "[I", Cond.fieldLink RX12 151 "SlabWalkModel" "now" "[I", Cond.fieldLink RX12 154 "SlabWalkModel" "were" "[I", Cond.fieldLink RX12 437 "SlabWalkModel" "acts" "I", Cond.fieldLink RX12 440 "SlabWalkModel" "undone" "I", Cond.fieldLink RX12 157 "SlabWalkModel" "sightWho" "[I", Cond.fieldLink RX12 160 "SlabWalkModel" "sightWhere" "[I"]
set_option maxRecDepth 20000 in
theorem sq_6_4 : (tables_1_6.drop 64).take 16 = st_6_4 := rfl
theorem gdc_6_4 {w : Cond} (j : Nat) (h : st_6_4[j]? = some w) (g : goodWord w = true) : w ∈ gd := gdm_6 (List.mem_of_mem_drop (List.mem_of_mem_take (show w ∈ (tables_1_6.drop 64).take 16 from by rw [sq_6_4]; exact List.mem_of_getElem? h))) g
noncomputable def st_6_5 : List Cond := [Cond.fieldLink RX12 163 "SlabWalkModel" "sightHeel" "[I", Cond.fieldLink RX12 166 "SlabWalkModel" "sightTold" "[I", Cond.fieldLink RX12 169 "SlabWalkModel" "sightUntold" "[I", Cond.fieldLink RX12 443 "SlabWalkModel" "sights" "I", Cond.fieldLink RX12 593 "SlabWalkModel" "time" "I", Cond.fieldLink RX12 172 "SlabWalkModel" "hasBox" "[Z", Cond.fieldLink RX12 175 "SlabWalkModel" "boxes" "[I", Cond.laysFinal "SlabWalkModel" "SlabWalkModel" "tape" "[I", Cond.soleField "SlabWalkModel" "tape", Cond.lays "SlabWalkModel" "SlabWalkModel" "taped" "I", Cond.soleField "SlabWalkModel" "taped", Cond.lays "SlabWalkModel" "SlabWalkModel" "fault" "I", Cond.soleField "SlabWalkModel" "fault", Cond.lays "SlabWalkModel" "SlabWalkModel" "faultPlace" "I", Cond.soleField "SlabWalkModel" "faultPlace", Cond.lays "SlabWalkModel" "SlabWalkModel" "at" "I"]
set_option maxRecDepth 20000 in
theorem sq_6_5 : (tables_1_6.drop 80).take 16 = st_6_5 := rfl
theorem gdc_6_5 {w : Cond} (j : Nat) (h : st_6_5[j]? = some w) (g : goodWord w = true) : w ∈ gd := gdm_6 (List.mem_of_mem_drop (List.mem_of_mem_take (show w ∈ (tables_1_6.drop 80).take 16 from by rw [sq_6_5]; exact List.mem_of_getElem? h))) g
noncomputable def st_6_6 : List Cond := [Cond.soleField "SlabWalkModel" "at", Cond.lays "SlabWalkModel" "SlabWalkModel" "size" "I", Cond.soleField "SlabWalkModel" "size", Cond.lays "SlabWalkModel" "SlabWalkModel" "sort" "I", Cond.soleField "SlabWalkModel" "sort", Cond.lays "SlabWalkModel" "SlabWalkModel" "place" "I", Cond.soleField "SlabWalkModel" "place", Cond.lays "SlabWalkModel" "SlabWalkModel" "number" "I", Cond.soleField "SlabWalkModel" "number", Cond.lays "SlabWalkModel" "SlabWalkModel" "word" "J", Cond.soleField "SlabWalkModel" "word", Cond.laysFinal "SlabWalkModel" "SlabWalkModel" "nName" "[J", Cond.soleField "SlabWalkModel" "nName", Cond.laysFinal "SlabWalkModel" "SlabWalkModel" "nStep" "[I", Cond.soleField "SlabWalkModel" "nStep", Cond.laysFinal "SlabWalkModel" "SlabWalkModel" "nArg" "[I"]
set_option maxRecDepth 20000 in
theorem sq_6_6 : (tables_1_6.drop 96).take 16 = st_6_6 := rfl
theorem gdc_6_6 {w : Cond} (j : Nat) (h : st_6_6[j]? = some w) (g : goodWord w = true) : w ∈ gd := gdm_6 (List.mem_of_mem_drop (List.mem_of_mem_take (show w ∈ (tables_1_6.drop 96).take 16 from by rw [sq_6_6]; exact List.mem_of_getElem? h))) g
noncomputable def st_6_7 : List Cond := [Cond.soleField "SlabWalkModel" "nArg", Cond.laysFinal "SlabWalkModel" "SlabWalkModel" "nMany" "[I", Cond.soleField "SlabWalkModel" "nMany", Cond.laysFinal "SlabWalkModel" "SlabWalkModel" "step" "[I", Cond.soleField "SlabWalkModel" "step", Cond.laysFinal "SlabWalkModel" "SlabWalkModel" "arg" "[I", Cond.soleField "SlabWalkModel" "arg", Cond.laysFinal "SlabWalkModel" "SlabWalkModel" "many" "[I", Cond.soleField "SlabWalkModel" "many", Cond.laysFinal "SlabWalkModel" "SlabWalkModel" "open" "[I", Cond.soleField "SlabWalkModel" "open", Cond.laysFinal "SlabWalkModel" "SlabWalkModel" "values" "[I", Cond.soleField "SlabWalkModel" "values", Cond.lays "SlabWalkModel" "SlabWalkModel" "form" "I", Cond.soleField "SlabWalkModel" "form", Cond.lays "SlabWalkModel" "SlabWalkModel" "opens" "I"]
set_option maxRecDepth 20000 in
theorem sq_6_7 : (tables_1_6.drop 112).take 16 = st_6_7 := rfl
theorem gdc_6_7 {w : Cond} (j : Nat) (h : st_6_7[j]? = some w) (g : goodWord w = true) : w ∈ gd := gdm_6 (List.mem_of_mem_drop (List.mem_of_mem_take (show w ∈ (tables_1_6.drop 112).take 16 from by rw [sq_6_7]; exact List.mem_of_getElem? h))) g
noncomputable def st_6_8 : List Cond := [Cond.soleField "SlabWalkModel" "opens", Cond.lays "SlabWalkModel" "SlabWalkModel" "nUnits" "I", Cond.soleField "SlabWalkModel" "nUnits", Cond.lays "SlabWalkModel" "SlabWalkModel" "units" "I", Cond.soleField "SlabWalkModel" "units", Cond.lays "SlabWalkModel" "SlabWalkModel" "ownUnits" "I", Cond.soleField "SlabWalkModel" "ownUnits", Cond.lays "SlabWalkModel" "SlabWalkModel" "deep" "I", Cond.soleField "SlabWalkModel" "deep", Cond.laysFinal "SlabWalkModel" "SlabWalkModel" "nMarks" "[I", Cond.soleField "SlabWalkModel" "nMarks", Cond.laysFinal "SlabWalkModel" "SlabWalkModel" "nNths" "[I", Cond.soleField "SlabWalkModel" "nNths", Cond.laysFinal "SlabWalkModel" "SlabWalkModel" "nInches" "[I", Cond.soleField "SlabWalkModel" "nInches", Cond.laysFinal "SlabWalkModel" "SlabWalkModel" "nLongs" "[I"]
set_option maxRecDepth 20000 in
theorem sq_6_8 : (tables_1_6.drop 128).take 16 = st_6_8 := rfl
theorem gdc_6_8 {w : Cond} (j : Nat) (h : st_6_8[j]? = some w) (g : goodWord w = true) : w ∈ gd := gdm_6 (List.mem_of_mem_drop (List.mem_of_mem_take (show w ∈ (tables_1_6.drop 128).take 16 from by rw [sq_6_8]; exact List.mem_of_getElem? h))) g
noncomputable def st_6_9 : List Cond := [Cond.soleField "SlabWalkModel" "nLongs", Cond.laysFinal "SlabWalkModel" "SlabWalkModel" "nLength" "[I", Cond.soleField "SlabWalkModel" "nLength", Cond.laysFinal "SlabWalkModel" "SlabWalkModel" "nFoot" "[I", Cond.soleField "SlabWalkModel" "nFoot", Cond.laysFinal "SlabWalkModel" "SlabWalkModel" "nLeast" "[I", Cond.soleField "SlabWalkModel" "nLeast", Cond.laysFinal "SlabWalkModel" "SlabWalkModel" "nMost" "[I", Cond.soleField "SlabWalkModel" "nMost", Cond.laysFinal "SlabWalkModel" "SlabWalkModel" "nLeap" "[I", Cond.soleField "SlabWalkModel" "nLeap", Cond.laysFinal "SlabWalkModel" "SlabWalkModel" "nSlips" "[I", Cond.soleField "SlabWalkModel" "nSlips", Cond.laysFinal "SlabWalkModel" "SlabWalkModel" "marks" "[I", Cond.soleField "SlabWalkModel" "marks", Cond.laysFinal "SlabWalkModel" "SlabWalkModel" "nths" "[I"]
set_option maxRecDepth 20000 in
theorem sq_6_9 : (tables_1_6.drop 144).take 16 = st_6_9 := rfl
theorem gdc_6_9 {w : Cond} (j : Nat) (h : st_6_9[j]? = some w) (g : goodWord w = true) : w ∈ gd := gdm_6 (List.mem_of_mem_drop (List.mem_of_mem_take (show w ∈ (tables_1_6.drop 144).take 16 from by rw [sq_6_9]; exact List.mem_of_getElem? h))) g
noncomputable def st_6_10 : List Cond := [Cond.soleField "SlabWalkModel" "nths", Cond.laysFinal "SlabWalkModel" "SlabWalkModel" "inches" "[I", Cond.soleField "SlabWalkModel" "inches", Cond.laysFinal "SlabWalkModel" "SlabWalkModel" "longs" "[I", Cond.soleField "SlabWalkModel" "longs", Cond.laysFinal "SlabWalkModel" "SlabWalkModel" "lengths" "[I", Cond.soleField "SlabWalkModel" "lengths", Cond.laysFinal "SlabWalkModel" "SlabWalkModel" "foots" "[I", Cond.soleField "SlabWalkModel" "foots", Cond.laysFinal "SlabWalkModel" "SlabWalkModel" "leasts" "[I", Cond.soleField "SlabWalkModel" "leasts", Cond.laysFinal "SlabWalkModel" "SlabWalkModel" "mosts" "[I", Cond.soleField "SlabWalkModel" "mosts", Cond.laysFinal "SlabWalkModel" "SlabWalkModel" "leaps" "[I", Cond.soleField "SlabWalkModel" "leaps", Cond.laysFinal "SlabWalkModel" "SlabWalkModel" "slips" "[I"]
set_option maxRecDepth 20000 in
theorem sq_6_10 : (tables_1_6.drop 160).take 16 = st_6_10 := rfl
theorem gdc_6_10 {w : Cond} (j : Nat) (h : st_6_10[j]? = some w) (g : goodWord w = true) : w ∈ gd := gdm_6 (List.mem_of_mem_drop (List.mem_of_mem_take (show w ∈ (tables_1_6.drop 160).take 16 from by rw [sq_6_10]; exact List.mem_of_getElem? h))) g
noncomputable def st_6_11 : List Cond := [Cond.soleField "SlabWalkModel" "slips", Cond.lays "SlabWalkModel" "SlabWalkModel" "nStreets" "I", Cond.soleField "SlabWalkModel" "nStreets", Cond.lays "SlabWalkModel" "SlabWalkModel" "nWalkers" "I", Cond.soleField "SlabWalkModel" "nWalkers", Cond.lays "SlabWalkModel" "SlabWalkModel" "nRules" "I", Cond.soleField "SlabWalkModel" "nRules", Cond.lays "SlabWalkModel" "SlabWalkModel" "nHand" "I", Cond.soleField "SlabWalkModel" "nHand", Cond.lays "SlabWalkModel" "SlabWalkModel" "nSlack" "I", Cond.soleField "SlabWalkModel" "nSlack", Cond.lays "SlabWalkModel" "SlabWalkModel" "nDraw" "I", Cond.soleField "SlabWalkModel" "nDraw", Cond.lays "SlabWalkModel" "SlabWalkModel" "nOnce" "I", Cond.soleField "SlabWalkModel" "nOnce", Cond.lays "SlabWalkModel" "SlabWalkModel" "streets" "I"]
set_option maxRecDepth 20000 in
theorem sq_6_11 : (tables_1_6.drop 176).take 16 = st_6_11 := rfl
theorem gdc_6_11 {w : Cond} (j : Nat) (h : st_6_11[j]? = some w) (g : goodWord w = true) : w ∈ gd := gdm_6 (List.mem_of_mem_drop (List.mem_of_mem_take (show w ∈ (tables_1_6.drop 176).take 16 from by rw [sq_6_11]; exact List.mem_of_getElem? h))) g
noncomputable def st_6_12 : List Cond := [Cond.soleField "SlabWalkModel" "streets", Cond.lays "SlabWalkModel" "SlabWalkModel" "walkers" "I", Cond.soleField "SlabWalkModel" "walkers", Cond.lays "SlabWalkModel" "SlabWalkModel" "rules" "I", Cond.soleField "SlabWalkModel" "rules", Cond.lays "SlabWalkModel" "SlabWalkModel" "hand" "I", Cond.soleField "SlabWalkModel" "hand", Cond.lays "SlabWalkModel" "SlabWalkModel" "slack" "I", Cond.soleField "SlabWalkModel" "slack", Cond.laysFinal "SlabWalkModel" "SlabWalkModel" "lines" "[Z", Cond.soleField "SlabWalkModel" "lines", Cond.laysFinal "SlabWalkModel" "SlabWalkModel" "lawful" "[Z", Cond.soleField "SlabWalkModel" "lawful", Cond.lays "SlabWalkModel" "SlabWalkModel" "inchesOf" "I", Cond.soleField "SlabWalkModel" "inchesOf", Cond.lays "SlabWalkModel" "SlabWalkModel" "foot" "I"]
set_option maxRecDepth 20000 in
theorem sq_6_12 : (tables_1_6.drop 192).take 16 = st_6_12 := rfl
theorem gdc_6_12 {w : Cond} (j : Nat) (h : st_6_12[j]? = some w) (g : goodWord w = true) : w ∈ gd := gdm_6 (List.mem_of_mem_drop (List.mem_of_mem_take (show w ∈ (tables_1_6.drop 192).take 16 from by rw [sq_6_12]; exact List.mem_of_getElem? h))) g
noncomputable def st_6_13 : List Cond := [Cond.soleField "SlabWalkModel" "foot", Cond.lays "SlabWalkModel" "SlabWalkModel" "least" "I", Cond.soleField "SlabWalkModel" "least", Cond.lays "SlabWalkModel" "SlabWalkModel" "most" "I", Cond.soleField "SlabWalkModel" "most", Cond.lays "SlabWalkModel" "SlabWalkModel" "leap" "I", Cond.soleField "SlabWalkModel" "leap", Cond.laysFinal "SlabWalkModel" "SlabWalkModel" "need" "[I", Cond.soleField "SlabWalkModel" "need", Cond.laysFinal "SlabWalkModel" "SlabWalkModel" "lies" "[I", Cond.soleField "SlabWalkModel" "lies", Cond.lays "SlabWalkModel" "SlabWalkModel" "lain" "I", Cond.soleField "SlabWalkModel" "lain", Cond.laysFinal "SlabWalkModel" "SlabWalkModel" "ways" "[J", Cond.soleField "SlabWalkModel" "ways", Cond.laysFinal "SlabWalkModel" "SlabWalkModel" "next" "[J"]
set_option maxRecDepth 20000 in
theorem sq_6_13 : (tables_1_6.drop 208).take 16 = st_6_13 := rfl
theorem gdc_6_13 {w : Cond} (j : Nat) (h : st_6_13[j]? = some w) (g : goodWord w = true) : w ∈ gd := gdm_6 (List.mem_of_mem_drop (List.mem_of_mem_take (show w ∈ (tables_1_6.drop 208).take 16 from by rw [sq_6_13]; exact List.mem_of_getElem? h))) g
noncomputable def st_6_14 : List Cond := [Cond.soleField "SlabWalkModel" "next", Cond.laysFinal "SlabWalkModel" "SlabWalkModel" "comes" "[Z", Cond.soleField "SlabWalkModel" "comes", Cond.laysFinal "SlabWalkModel" "SlabWalkModel" "leapt" "[I", Cond.soleField "SlabWalkModel" "leapt", Cond.laysFinal "SlabWalkModel" "SlabWalkModel" "leaptNext" "[I", Cond.soleField "SlabWalkModel" "leaptNext", Cond.laysFinal "SlabWalkModel" "SlabWalkModel" "odds" "[J", Cond.soleField "SlabWalkModel" "odds", Cond.laysFinal "SlabWalkModel" "SlabWalkModel" "hasWays" "[Z", Cond.soleField "SlabWalkModel" "hasWays", Cond.laysFinal "SlabWalkModel" "SlabWalkModel" "wins" "[Z", Cond.soleField "SlabWalkModel" "wins", Cond.laysFinal "SlabWalkModel" "SlabWalkModel" "winsBy" "[I", Cond.soleField "SlabWalkModel" "winsBy", Cond.laysFinal "SlabWalkModel" "SlabWalkModel" "now" "[I"]
set_option maxRecDepth 20000 in
theorem sq_6_14 : (tables_1_6.drop 224).take 16 = st_6_14 := rfl
theorem gdc_6_14 {w : Cond} (j : Nat) (h : st_6_14[j]? = some w) (g : goodWord w = true) : w ∈ gd := gdm_6 (List.mem_of_mem_drop (List.mem_of_mem_take (show w ∈ (tables_1_6.drop 224).take 16 from by rw [sq_6_14]; exact List.mem_of_getElem? h))) g
theorem gdm_7 {w : Cond} (h : w ∈ tables_1_7) (g : goodWord w = true) : w ∈ gd := List.mem_filter.mpr ⟨show w ∈ k2_sels lw_privs ++ tables_1 from List.mem_append_right _ (gt_7 h), g⟩
noncomputable def st_7_0 : List Cond := [Cond.soleField "SlabWalkModel" "now", Cond.laysFinal "SlabWalkModel" "SlabWalkModel" "were" "[I", Cond.soleField "SlabWalkModel" "were", Cond.lays "SlabWalkModel" "SlabWalkModel" "acts" "I", Cond.soleField "SlabWalkModel" "acts", Cond.lays "SlabWalkModel" "SlabWalkModel" "undone" "I", Cond.soleField "SlabWalkModel" "undone", Cond.laysFinal "SlabWalkModel" "SlabWalkModel" "sightWho" "[I", Cond.soleField "SlabWalkModel" "sightWho", Cond.laysFinal "SlabWalkModel" "SlabWalkModel" "sightWhere" "[I", Cond.soleField "SlabWalkModel" "sightWhere", Cond.laysFinal "SlabWalkModel" "SlabWalkModel" "sightHeel" "[I", Cond.soleField "SlabWalkModel" "sightHeel", Cond.laysFinal "SlabWalkModel" "SlabWalkModel" "sightTold" "[I", Cond.soleField "SlabWalkModel" "sightTold", Cond.laysFinal "SlabWalkModel" "SlabWalkModel" "sightUntold" "[I"]
set_option maxRecDepth 20000 in
theorem sq_7_0 : (tables_1_7.drop 0).take 16 = st_7_0 := rfl
theorem gdc_7_0 {w : Cond} (j : Nat) (h : st_7_0[j]? = some w) (g : goodWord w = true) : w ∈ gd := gdm_7 (List.mem_of_mem_drop (List.mem_of_mem_take (show w ∈ (tables_1_7.drop 0).take 16 from by rw [sq_7_0]; exact List.mem_of_getElem? h))) g
noncomputable def st_7_1 : List Cond := [Cond.soleField "SlabWalkModel" "sightUntold", Cond.lays "SlabWalkModel" "SlabWalkModel" "sights" "I", Cond.soleField "SlabWalkModel" "sights", Cond.lays "SlabWalkModel" "SlabWalkModel" "time" "I", Cond.soleField "SlabWalkModel" "time", Cond.laysFinal "SlabWalkModel" "SlabWalkModel" "hasBox" "[Z", Cond.soleField "SlabWalkModel" "hasBox", Cond.laysFinal "SlabWalkModel" "SlabWalkModel" "boxes" "[I", Cond.soleField "SlabWalkModel" "boxes", Cond.superclass "SlabWalkModel" "java/lang/Object", Cond.methodLink RL 17 yX12_feed, Cond.instanceMethod yX12_feed, Cond.selects RX12 yX12_feed yX12_feed, Cond.code yX12_feed cX12_feed 6 (some .int), Cond.methodLink RX12 181 yX12_four, Cond.privateMethod yX12_four]
set_option maxRecDepth 20000 in
theorem sq_7_1 : (tables_1_7.drop 16).take 16 = st_7_1 := rfl
theorem gdc_7_1 {w : Cond} (j : Nat) (h : st_7_1[j]? = some w) (g : goodWord w = true) : w ∈ gd := gdm_7 (List.mem_of_mem_drop (List.mem_of_mem_take (show w ∈ (tables_1_7.drop 16).take 16 from by rw [sq_7_1]; exact List.mem_of_getElem? h))) g
noncomputable def st_7_2 : List Cond := [Cond.instanceMethod yX12_four, Cond.code yX12_four cX12_four 3 none, Cond.methodLink RL 22 yX12_end, Cond.instanceMethod yX12_end, Cond.selects RX12 yX12_end yX12_end, Cond.code yX12_end cX12_end 2 (some .int), Cond.methodLink RL 27 yX12_pavement, Cond.instanceMethod yX12_pavement, Cond.selects RX12 yX12_pavement yX12_pavement, Cond.code yX12_pavement cX12_pavement 3 (some .int), Cond.methodLink RX12 422 yX12_readAll, Cond.privateMethod yX12_readAll, Cond.instanceMethod yX12_readAll, Cond.code yX12_readAll cX12_readAll 1 none, Cond.methodLink RX12 279 yX12_token, Cond.privateMethod yX12_token]
set_option maxRecDepth 20000 in
theorem sq_7_2 : (tables_1_7.drop 32).take 16 = st_7_2 := rfl
theorem gdc_7_2 {w : Cond} (j : Nat) (h : st_7_2[j]? = some w) (g : goodWord w = true) : w ∈ gd := gdm_7 (List.mem_of_mem_drop (List.mem_of_mem_take (show w ∈ (tables_1_7.drop 32).take 16 from by rw [sq_7_2]; exact List.mem_of_getElem? h))) g
noncomputable def st_7_3 : List Cond := [Cond.instanceMethod yX12_token, Cond.code yX12_token cX12_token 3 none, Cond.methodLink RX12 191 yX12_here, Cond.privateMethod yX12_here, Cond.instanceMethod yX12_here, Cond.code yX12_here cX12_here 2 (some .int), Cond.methodLink RX12 208 yX12_isLetter, Cond.static yX12_isLetter, Cond.code yX12_isLetter cX12_isLetter 1 (some .boolean), Cond.methodLink RX12 212 yX12_isDigit, Cond.static yX12_isDigit, Cond.code yX12_isDigit cX12_isDigit 1 (some .boolean), Cond.methodLink RX12 215 yX12_isSign, Cond.static yX12_isSign, Cond.code yX12_isSign cX12_isSign 1 (some .boolean), Cond.methodLink RX12 419 yX12_readLine]
set_option maxRecDepth 20000 in
theorem sq_7_3 : (tables_1_7.drop 48).take 16 = st_7_3 := rfl
theorem gdc_7_3 {w : Cond} (j : Nat) (h : st_7_3[j]? = some w) (g : goodWord w = true) : w ∈ gd := gdm_7 (List.mem_of_mem_drop (List.mem_of_mem_take (show w ∈ (tables_1_7.drop 48).take 16 from by rw [sq_7_3]; exact List.mem_of_getElem? h))) g
noncomputable def st_7_4 : List Cond := [Cond.privateMethod yX12_readLine, Cond.instanceMethod yX12_readLine, Cond.code yX12_readLine cX12_readLine 1 none, Cond.constantLong RX12 221 126943972648308, Cond.methodLink RX12 275 yX12_isWord, Cond.privateMethod yX12_isWord, Cond.instanceMethod yX12_isWord, Cond.code yX12_isWord cX12_isWord 3 (some .boolean), Cond.methodLink RX12 394 yX12_readStreet, Cond.privateMethod yX12_readStreet, Cond.instanceMethod yX12_readStreet, Cond.code yX12_readStreet cX12_readStreet 3 none, Cond.methodLink RX12 369 yX12_newName, Cond.privateMethod yX12_newName, Cond.instanceMethod yX12_newName, Cond.code yX12_newName cX12_newName 4 none]
set_option maxRecDepth 20000 in
theorem sq_7_4 : (tables_1_7.drop 64).take 16 = st_7_4 := rfl
theorem gdc_7_4 {w : Cond} (j : Nat) (h : st_7_4[j]? = some w) (g : goodWord w = true) : w ∈ gd := gdm_7 (List.mem_of_mem_drop (List.mem_of_mem_take (show w ∈ (tables_1_7.drop 64).take 16 from by rw [sq_7_4]; exact List.mem_of_getElem? h))) g
noncomputable def st_7_5 : List Cond := [Cond.methodLink RX12 293 yX12_isName, Cond.privateMethod yX12_isName, Cond.instanceMethod yX12_isName, Cond.code yX12_isName cX12_isName 1 (some .boolean), Cond.methodLink RX12 271 yX12_isOwn, Cond.privateMethod yX12_isOwn, Cond.instanceMethod yX12_isOwn, Cond.code yX12_isOwn cX12_isOwn 1 (some .boolean), Cond.constantLong RX12 223 457135713908, Cond.constantLong RX12 225 131260314510706, Cond.constantLong RX12 227 1718579060, Cond.constantLong RX12 229 1937007984, Cond.constantLong RX12 231 29807, Cond.constantLong RX12 233 1818583408, Cond.constantLong RX12 235 1920298085, Cond.constantLong RX12 237 1936484720]
set_option maxRecDepth 20000 in
theorem sq_7_5 : (tables_1_7.drop 80).take 16 = st_7_5 := rfl
theorem gdc_7_5 {w : Cond} (j : Nat) (h : st_7_5[j]? = some w) (g : goodWord w = true) : w ∈ gd := gdm_7 (List.mem_of_mem_drop (List.mem_of_mem_take (show w ∈ (tables_1_7.drop 80).take 16 from by rw [sq_7_5]; exact List.mem_of_getElem? h))) g
noncomputable def st_7_6 : List Cond := [Cond.constantLong RX12 239 1751215716, Cond.constantLong RX12 241 495739560811, Cond.constantLong RX12 243 1685217655, Cond.methodLink RX12 245 yX12_mark, Cond.privateMethod yX12_mark, Cond.instanceMethod yX12_mark, Cond.code yX12_mark cX12_mark 1 (some .int), Cond.constantLong RX12 263 7497060, Cond.constantLong RX12 265 108243635103086, Cond.constantLong RX12 267 431415716206, Cond.constantLong RX12 269 495672452197, Cond.constantLong RX12 249 1819242087, Cond.constantLong RX12 251 7238760, Cond.constantLong RX12 253 1768842088, Cond.constantLong RX12 255 6578553, Cond.constantLong RX12 257 6385252]
set_option maxRecDepth 20000 in
theorem sq_7_6 : (tables_1_7.drop 96).take 16 = st_7_6 := rfl
theorem gdc_7_6 {w : Cond} (j : Nat) (h : st_7_6[j]? = some w) (g : goodWord w = true) : w ∈ gd := gdm_7 (List.mem_of_mem_drop (List.mem_of_mem_take (show w ∈ (tables_1_7.drop 96).take 16 from by rw [sq_7_6]; exact List.mem_of_getElem? h))) g
noncomputable def st_7_7 : List Cond := [Cond.constantLong RX12 259 28530, Cond.constantLong RX12 261 7237492, Cond.methodLink RX12 282 yX12_wrong, Cond.privateMethod yX12_wrong, Cond.instanceMethod yX12_wrong, Cond.code yX12_wrong cX12_wrong 2 none, Cond.methodLink RX12 372 yX12_told, Cond.privateMethod yX12_told, Cond.instanceMethod yX12_told, Cond.code yX12_told cX12_told 5 (some .int), Cond.methodLink RX12 285 yX12_want, Cond.privateMethod yX12_want, Cond.instanceMethod yX12_want, Cond.code yX12_want cX12_want 3 none, Cond.methodLink RX12 289 yX12_toldNumber, Cond.privateMethod yX12_toldNumber]
set_option maxRecDepth 20000 in
theorem sq_7_7 : (tables_1_7.drop 112).take 16 = st_7_7 := rfl
theorem gdc_7_7 {w : Cond} (j : Nat) (h : st_7_7[j]? = some w) (g : goodWord w = true) : w ∈ gd := gdm_7 (List.mem_of_mem_drop (List.mem_of_mem_take (show w ∈ (tables_1_7.drop 112).take 16 from by rw [sq_7_7]; exact List.mem_of_getElem? h))) g
noncomputable def st_7_8 : List Cond := [Cond.instanceMethod yX12_toldNumber, Cond.code yX12_toldNumber cX12_toldNumber 4 (some .int), Cond.methodLink RX12 376 yX12_readSlab, Cond.privateMethod yX12_readSlab, Cond.instanceMethod yX12_readSlab, Cond.code yX12_readSlab cX12_readSlab 8 none, Cond.methodLink RX12 362 yX12_wrongAt, Cond.privateMethod yX12_wrongAt, Cond.instanceMethod yX12_wrongAt, Cond.code yX12_wrongAt cX12_wrongAt 3 none, Cond.methodLink RX12 365 yX12_pave, Cond.privateMethod yX12_pave, Cond.instanceMethod yX12_pave, Cond.code yX12_pave cX12_pave 6 none, Cond.methodLink RX12 397 yX12_readWalker, Cond.privateMethod yX12_readWalker]
set_option maxRecDepth 20000 in
theorem sq_7_8 : (tables_1_7.drop 128).take 16 = st_7_8 := rfl
theorem gdc_7_8 {w : Cond} (j : Nat) (h : st_7_8[j]? = some w) (g : goodWord w = true) : w ∈ gd := gdm_7 (List.mem_of_mem_drop (List.mem_of_mem_take (show w ∈ (tables_1_7.drop 128).take 16 from by rw [sq_7_8]; exact List.mem_of_getElem? h))) g
noncomputable def st_7_9 : List Cond := [Cond.instanceMethod yX12_readWalker, Cond.code yX12_readWalker cX12_readWalker 2 none, Cond.methodLink RX12 382 yX12_takes, Cond.privateMethod yX12_takes, Cond.instanceMethod yX12_takes, Cond.code yX12_takes cX12_takes 4 (some .boolean), Cond.methodLink RX12 400 yX12_readRule, Cond.privateMethod yX12_readRule, Cond.instanceMethod yX12_readRule, Cond.code yX12_readRule cX12_readRule 1 none, Cond.methodLink RX12 388 yX12_formula, Cond.privateMethod yX12_formula, Cond.instanceMethod yX12_formula, Cond.code yX12_formula cX12_formula 4 none, Cond.methodLink RX12 333 yX12_unit, Cond.privateMethod yX12_unit]
set_option maxRecDepth 20000 in
theorem sq_7_9 : (tables_1_7.drop 144).take 16 = st_7_9 := rfl
theorem gdc_7_9 {w : Cond} (j : Nat) (h : st_7_9[j]? = some w) (g : goodWord w = true) : w ∈ gd := gdm_7 (List.mem_of_mem_drop (List.mem_of_mem_take (show w ∈ (tables_1_7.drop 144).take 16 from by rw [sq_7_9]; exact List.mem_of_getElem? h))) g
noncomputable def st_7_10 : List Cond := [Cond.instanceMethod yX12_unit, Cond.code yX12_unit cX12_unit 3 none, Cond.methodLink RX12 318 yX12_mayNot, Cond.privateMethod yX12_mayNot, Cond.instanceMethod yX12_mayNot, Cond.code yX12_mayNot cX12_mayNot 1 (some .boolean), Cond.methodLink RX12 302 yX12_tight, Cond.static yX12_tight, Cond.code yX12_tight cX12_tight 1 (some .int), Cond.methodLink RX12 321 yX12_openUp, Cond.privateMethod yX12_openUp, Cond.instanceMethod yX12_openUp, Cond.code yX12_openUp cX12_openUp 2 none, Cond.methodLink RX12 324 yX12_isFull, Cond.privateMethod yX12_isFull, Cond.instanceMethod yX12_isFull]
set_option maxRecDepth 20000 in
theorem sq_7_10 : (tables_1_7.drop 160).take 16 = st_7_10 := rfl
theorem gdc_7_10 {w : Cond} (j : Nat) (h : st_7_10[j]? = some w) (g : goodWord w = true) : w ∈ gd := gdm_7 (List.mem_of_mem_drop (List.mem_of_mem_take (show w ∈ (tables_1_7.drop 160).take 16 from by rw [sq_7_10]; exact List.mem_of_getElem? h))) g
noncomputable def st_7_11 : List Cond := [Cond.code yX12_isFull cX12_isFull 1 (some .boolean), Cond.methodLink RX12 327 yX12_countUnit, Cond.privateMethod yX12_countUnit, Cond.instanceMethod yX12_countUnit, Cond.code yX12_countUnit cX12_countUnit 1 none, Cond.methodLink RX12 330 yX12_asked, Cond.privateMethod yX12_asked, Cond.instanceMethod yX12_asked, Cond.code yX12_asked cX12_asked 1 (some .int), Cond.methodLink RX12 305 yX12_add, Cond.privateMethod yX12_add, Cond.instanceMethod yX12_add, Cond.code yX12_add cX12_add 3 none, Cond.methodLink RX12 336 yX12_sign, Cond.privateMethod yX12_sign, Cond.instanceMethod yX12_sign]
set_option maxRecDepth 20000 in
theorem sq_7_11 : (tables_1_7.drop 176).take 16 = st_7_11 := rfl
theorem gdc_7_11 {w : Cond} (j : Nat) (h : st_7_11[j]? = some w) (g : goodWord w = true) : w ∈ gd := gdm_7 (List.mem_of_mem_drop (List.mem_of_mem_take (show w ∈ (tables_1_7.drop 176).take 16 from by rw [sq_7_11]; exact List.mem_of_getElem? h))) g
noncomputable def st_7_12 : List Cond := [Cond.code yX12_sign cX12_sign 1 (some .int), Cond.methodLink RX12 339 yX12_hasBracket, Cond.privateMethod yX12_hasBracket, Cond.instanceMethod yX12_hasBracket, Cond.code yX12_hasBracket cX12_hasBracket 3 (some .boolean), Cond.methodLink RX12 342 yX12_close, Cond.privateMethod yX12_close, Cond.instanceMethod yX12_close, Cond.code yX12_close cX12_close 2 none, Cond.methodLink RX12 345 yX12_hasRelation, Cond.privateMethod yX12_hasRelation, Cond.instanceMethod yX12_hasRelation, Cond.code yX12_hasRelation cX12_hasRelation 2 (some .boolean), Cond.methodLink RX12 403 yX12_isOnce, Cond.privateMethod yX12_isOnce, Cond.instanceMethod yX12_isOnce]
set_option maxRecDepth 20000 in
theorem sq_7_12 : (tables_1_7.drop 192).take 16 = st_7_12 := rfl
theorem gdc_7_12 {w : Cond} (j : Nat) (h : st_7_12[j]? = some w) (g : goodWord w = true) : w ∈ gd := gdm_7 (List.mem_of_mem_drop (List.mem_of_mem_take (show w ∈ (tables_1_7.drop 192).take 16 from by rw [sq_7_12]; exact List.mem_of_getElem? h))) g
noncomputable def st_7_13 : List Cond := [Cond.code yX12_isOnce cX12_isOnce 4 (some .boolean), Cond.methodLink RX12 407 yX12_readSlip, Cond.privateMethod yX12_readSlip, Cond.instanceMethod yX12_readSlip, Cond.code yX12_readSlip cX12_readSlip 1 none, Cond.methodLink RL 31 yX12_fault, Cond.instanceMethod yX12_fault, Cond.selects RX12 yX12_fault yX12_fault, Cond.code yX12_fault cX12_fault 2 (some .int), Cond.methodLink RL 36 yX12_inch, Cond.instanceMethod yX12_inch, Cond.selects RX12 yX12_inch yX12_inch, Cond.code yX12_inch cX12_inch 5 (some .int), Cond.methodLink RX12 453 yX12_isStreet, Cond.privateMethod yX12_isStreet, Cond.instanceMethod yX12_isStreet]
set_option maxRecDepth 20000 in
theorem sq_7_13 : (tables_1_7.drop 208).take 16 = st_7_13 := rfl
theorem gdc_7_13 {w : Cond} (j : Nat) (h : st_7_13[j]? = some w) (g : goodWord w = true) : w ∈ gd := gdm_7 (List.mem_of_mem_drop (List.mem_of_mem_take (show w ∈ (tables_1_7.drop 208).take 16 from by rw [sq_7_13]; exact List.mem_of_getElem? h))) g
noncomputable def st_7_14 : List Cond := [Cond.code yX12_isStreet cX12_isStreet 2 (some .boolean), Cond.methodLink RX12 449 yX12_isIn, Cond.static yX12_isIn, Cond.code yX12_isIn cX12_isIn 3 (some .boolean), Cond.methodLink RX12 456 yX12_isInch, Cond.privateMethod yX12_isInch, Cond.instanceMethod yX12_isInch, Cond.code yX12_isInch cX12_isInch 3 (some .boolean), Cond.methodLink RX12 348 yX12_truth, Cond.static yX12_truth, Cond.code yX12_truth cX12_truth 1 (some .int), Cond.methodLink RL 40 yX12_length, Cond.instanceMethod yX12_length, Cond.selects RX12 yX12_length yX12_length, Cond.code yX12_length cX12_length 2 (some .int), Cond.methodLink RL 44 yX12_line]
set_option maxRecDepth 20000 in
theorem sq_7_14 : (tables_1_7.drop 224).take 16 = st_7_14 := rfl
theorem gdc_7_14 {w : Cond} (j : Nat) (h : st_7_14[j]? = some w) (g : goodWord w = true) : w ∈ gd := gdm_7 (List.mem_of_mem_drop (List.mem_of_mem_take (show w ∈ (tables_1_7.drop 224).take 16 from by rw [sq_7_14]; exact List.mem_of_getElem? h))) g
theorem gdm_8 {w : Cond} (h : w ∈ tables_1_8) (g : goodWord w = true) : w ∈ gd := List.mem_filter.mpr ⟨show w ∈ k2_sels lw_privs ++ tables_1 from List.mem_append_right _ (gt_8 h), g⟩
noncomputable def st_8_0 : List Cond := [Cond.instanceMethod yX12_line, Cond.selects RX12 yX12_line yX12_line, Cond.code yX12_line cX12_line 4 (some .int), Cond.methodLink RX12 463 yX12_areRules, Cond.privateMethod yX12_areRules, Cond.instanceMethod yX12_areRules, Cond.code yX12_areRules cX12_areRules 2 (some .boolean), Cond.methodLink RX12 466 yX12_isLine, Cond.privateMethod yX12_isLine, Cond.instanceMethod yX12_isLine, Cond.code yX12_isLine cX12_isLine 7 (some .boolean), Cond.methodLink RX12 460 yX12_worked, Cond.privateMethod yX12_worked, Cond.instanceMethod yX12_worked, Cond.code yX12_worked cX12_worked 5 (some .int), Cond.methodLink RX12 352 yX12_askOf]
set_option maxRecDepth 20000 in
theorem sq_8_0 : (tables_1_8.drop 0).take 16 = st_8_0 := rfl
theorem gdc_8_0 {w : Cond} (j : Nat) (h : st_8_0[j]? = some w) (g : goodWord w = true) : w ∈ gd := gdm_8 (List.mem_of_mem_drop (List.mem_of_mem_take (show w ∈ (tables_1_8.drop 0).take 16 from by rw [sq_8_0]; exact List.mem_of_getElem? h))) g
noncomputable def st_8_1 : List Cond := [Cond.privateMethod yX12_askOf, Cond.instanceMethod yX12_askOf, Cond.code yX12_askOf cX12_askOf 3 (some .int), Cond.methodLink RX12 355 yX12_done, Cond.static yX12_done, Cond.code yX12_done cX12_done 3 (some .int), Cond.methodLink RL 48 yX12_gap, Cond.instanceMethod yX12_gap, Cond.selects RX12 yX12_gap yX12_gap, Cond.code yX12_gap cX12_gap 10 (some .int), Cond.methodLink RL 53 yX12_foot, Cond.instanceMethod yX12_foot, Cond.selects RX12 yX12_foot yX12_foot, Cond.code yX12_foot cX12_foot 5 (some .int), Cond.methodLink RX12 490 yX12_isAsked, Cond.privateMethod yX12_isAsked]
set_option maxRecDepth 20000 in
theorem sq_8_1 : (tables_1_8.drop 16).take 16 = st_8_1 := rfl
theorem gdc_8_1 {w : Cond} (j : Nat) (h : st_8_1[j]? = some w) (g : goodWord w = true) : w ∈ gd := gdm_8 (List.mem_of_mem_drop (List.mem_of_mem_take (show w ∈ (tables_1_8.drop 16).take 16 from by rw [sq_8_1]; exact List.mem_of_getElem? h))) g
noncomputable def st_8_2 : List Cond := [Cond.instanceMethod yX12_isAsked, Cond.code yX12_isAsked cX12_isAsked 4 (some .boolean), Cond.methodLink RX12 487 yX12_isWalker, Cond.privateMethod yX12_isWalker, Cond.instanceMethod yX12_isWalker, Cond.code yX12_isWalker cX12_isWalker 2 (some .boolean), Cond.methodLink RX12 493 yX12_layStreet, Cond.privateMethod yX12_layStreet, Cond.instanceMethod yX12_layStreet, Cond.code yX12_layStreet cX12_layStreet 6 none, Cond.methodLink RX12 484 yX12_doesStand, Cond.privateMethod yX12_doesStand, Cond.instanceMethod yX12_doesStand, Cond.code yX12_doesStand cX12_doesStand 2 (some .boolean), Cond.methodLink RL 57 yX12_fewest, Cond.instanceMethod yX12_fewest]
set_option maxRecDepth 20000 in
theorem sq_8_2 : (tables_1_8.drop 32).take 16 = st_8_2 := rfl
theorem gdc_8_2 {w : Cond} (j : Nat) (h : st_8_2[j]? = some w) (g : goodWord w = true) : w ∈ gd := gdm_8 (List.mem_of_mem_drop (List.mem_of_mem_take (show w ∈ (tables_1_8.drop 32).take 16 from by rw [sq_8_2]; exact List.mem_of_getElem? h))) g
noncomputable def st_8_3 : List Cond := [Cond.selects RX12 yX12_fewest yX12_fewest, Cond.code yX12_fewest cX12_fewest 11 (some .int), Cond.methodLink RX12 509 yX12_layNeeds, Cond.privateMethod yX12_layNeeds, Cond.instanceMethod yX12_layNeeds, Cond.code yX12_layNeeds cX12_layNeeds 3 none, Cond.methodLink RX12 496 yX12_layNeed, Cond.privateMethod yX12_layNeed, Cond.instanceMethod yX12_layNeed, Cond.code yX12_layNeed cX12_layNeed 6 none, Cond.methodLink RX12 499 yX12_isEnd, Cond.privateMethod yX12_isEnd, Cond.instanceMethod yX12_isEnd, Cond.code yX12_isEnd cX12_isEnd 2 (some .boolean), Cond.constant RX12 502 100000, Cond.methodLink RX12 503 yX12_needOf]
set_option maxRecDepth 20000 in
theorem sq_8_3 : (tables_1_8.drop 48).take 16 = st_8_3 := rfl
theorem gdc_8_3 {w : Cond} (j : Nat) (h : st_8_3[j]? = some w) (g : goodWord w = true) : w ∈ gd := gdm_8 (List.mem_of_mem_drop (List.mem_of_mem_take (show w ∈ (tables_1_8.drop 48).take 16 from by rw [sq_8_3]; exact List.mem_of_getElem? h))) g
noncomputable def st_8_4 : List Cond := [Cond.privateMethod yX12_needOf, Cond.instanceMethod yX12_needOf, Cond.code yX12_needOf cX12_needOf 4 (some .int), Cond.methodLink RX12 506 yX12_lesser, Cond.static yX12_lesser, Cond.code yX12_lesser cX12_lesser 2 (some .int), Cond.methodLink RX12 512 yX12_lay, Cond.privateMethod yX12_lay, Cond.instanceMethod yX12_lay, Cond.code yX12_lay cX12_lay 2 none, Cond.methodLink RL 62 yX12_ways, Cond.instanceMethod yX12_ways, Cond.selects RX12 yX12_ways yX12_ways, Cond.code yX12_ways cX12_ways 8 (some .long), Cond.constantLong RX12 517 (-1), Cond.methodLink RX12 519 yX12_goOn]
set_option maxRecDepth 20000 in
theorem sq_8_4 : (tables_1_8.drop 64).take 16 = st_8_4 := rfl
theorem gdc_8_4 {w : Cond} (j : Nat) (h : st_8_4[j]? = some w) (g : goodWord w = true) : w ∈ gd := gdm_8 (List.mem_of_mem_drop (List.mem_of_mem_take (show w ∈ (tables_1_8.drop 64).take 16 from by rw [sq_8_4]; exact List.mem_of_getElem? h))) g
noncomputable def st_8_5 : List Cond := [Cond.privateMethod yX12_goOn, Cond.instanceMethod yX12_goOn, Cond.code yX12_goOn cX12_goOn 5 none, Cond.methodLink RX12 522 yX12_capped, Cond.static yX12_capped, Cond.code yX12_capped cX12_capped 2 (some .long), Cond.constantLong RX12 515 1000000000000000, Cond.methodLink RL 66 yX12_evenest, Cond.instanceMethod yX12_evenest, Cond.selects RX12 yX12_evenest yX12_evenest, Cond.code yX12_evenest cX12_evenest 7 (some .int), Cond.methodLink RX12 526 yX12_isEven, Cond.privateMethod yX12_isEven, Cond.instanceMethod yX12_isEven, Cond.code yX12_isEven cX12_isEven 6 (some .boolean), Cond.methodLink RL 70 yX12_even]
set_option maxRecDepth 20000 in
theorem sq_8_5 : (tables_1_8.drop 80).take 16 = st_8_5 := rfl
theorem gdc_8_5 {w : Cond} (j : Nat) (h : st_8_5[j]? = some w) (g : goodWord w = true) : w ∈ gd := gdm_8 (List.mem_of_mem_drop (List.mem_of_mem_take (show w ∈ (tables_1_8.drop 80).take 16 from by rw [sq_8_5]; exact List.mem_of_getElem? h))) g
noncomputable def st_8_6 : List Cond := [Cond.instanceMethod yX12_even, Cond.selects RX12 yX12_even yX12_even, Cond.code yX12_even cX12_even 8 (some .int), Cond.methodLink RL 74 yX12_evens, Cond.instanceMethod yX12_evens, Cond.selects RX12 yX12_evens yX12_evens, Cond.code yX12_evens cX12_evens 7 (some .int), Cond.methodLink RX12 529 yX12_comesToEnd, Cond.privateMethod yX12_comesToEnd, Cond.instanceMethod yX12_comesToEnd, Cond.code yX12_comesToEnd cX12_comesToEnd 4 (some .boolean), Cond.methodLink RL 78 yX12_first, Cond.instanceMethod yX12_first, Cond.selects RX12 yX12_first yX12_first, Cond.code yX12_first cX12_first 6 (some .int), Cond.methodLink RX12 536 yX12_areSlabs]
set_option maxRecDepth 20000 in
theorem sq_8_6 : (tables_1_8.drop 96).take 16 = st_8_6 := rfl
theorem gdc_8_6 {w : Cond} (j : Nat) (h : st_8_6[j]? = some w) (g : goodWord w = true) : w ∈ gd := gdm_8 (List.mem_of_mem_drop (List.mem_of_mem_take (show w ∈ (tables_1_8.drop 96).take 16 from by rw [sq_8_6]; exact List.mem_of_getElem? h))) g
noncomputable def st_8_7 : List Cond := [Cond.static yX12_areSlabs, Cond.code yX12_areSlabs cX12_areSlabs 3 (some .boolean), Cond.methodLink RX12 539 yX12_firstOf, Cond.static yX12_firstOf, Cond.code yX12_firstOf cX12_firstOf 7 (some .int), Cond.methodLink RX12 532 yX12_isPlain, Cond.static yX12_isPlain, Cond.code yX12_isPlain cX12_isPlain 6 (some .boolean), Cond.methodLink RL 82 yX12_begin, Cond.instanceMethod yX12_begin, Cond.selects RX12 yX12_begin yX12_begin, Cond.code yX12_begin cX12_begin 5 (some .int), Cond.methodLink RX12 543 yX12_beginOf, Cond.static yX12_beginOf, Cond.code yX12_beginOf cX12_beginOf 6 (some .int), Cond.methodLink RL 87 yX12_suits]
set_option maxRecDepth 20000 in
theorem sq_8_7 : (tables_1_8.drop 112).take 16 = st_8_7 := rfl
theorem gdc_8_7 {w : Cond} (j : Nat) (h : st_8_7[j]? = some w) (g : goodWord w = true) : w ∈ gd := gdm_8 (List.mem_of_mem_drop (List.mem_of_mem_take (show w ∈ (tables_1_8.drop 112).take 16 from by rw [sq_8_7]; exact List.mem_of_getElem? h))) g
noncomputable def st_8_8 : List Cond := [Cond.instanceMethod yX12_suits, Cond.selects RX12 yX12_suits yX12_suits, Cond.code yX12_suits cX12_suits 9 (some .long), Cond.methodLink RL 91 yX12_keeps, Cond.instanceMethod yX12_keeps, Cond.selects RX12 yX12_keeps yX12_keeps, Cond.code yX12_keeps cX12_keeps 7 (some .int), Cond.methodLink RX12 547 yX12_isHeld, Cond.privateMethod yX12_isHeld, Cond.instanceMethod yX12_isHeld, Cond.code yX12_isHeld cX12_isHeld 3 (some .boolean), Cond.methodLink RX12 550 yX12_keepOn, Cond.privateMethod yX12_keepOn, Cond.instanceMethod yX12_keepOn, Cond.code yX12_keepOn cX12_keepOn 6 none, Cond.methodLink RL 95 yX12_brave]
set_option maxRecDepth 20000 in
theorem sq_8_8 : (tables_1_8.drop 128).take 16 = st_8_8 := rfl
theorem gdc_8_8 {w : Cond} (j : Nat) (h : st_8_8[j]? = some w) (g : goodWord w = true) : w ∈ gd := gdm_8 (List.mem_of_mem_drop (List.mem_of_mem_take (show w ∈ (tables_1_8.drop 128).take 16 from by rw [sq_8_8]; exact List.mem_of_getElem? h))) g
noncomputable def st_8_9 : List Cond := [Cond.instanceMethod yX12_brave, Cond.selects RX12 yX12_brave yX12_brave, Cond.code yX12_brave cX12_brave 6 (some .long), Cond.methodLink RX12 568 yX12_layBold, Cond.privateMethod yX12_layBold, Cond.instanceMethod yX12_layBold, Cond.code yX12_layBold cX12_layBold 8 (some .boolean), Cond.methodLink RX12 564 yX12_bestOdds, Cond.privateMethod yX12_bestOdds, Cond.instanceMethod yX12_bestOdds, Cond.code yX12_bestOdds cX12_bestOdds 8 (some .long), Cond.methodLink RX12 556 yX12_rest, Cond.privateMethod yX12_rest, Cond.instanceMethod yX12_rest, Cond.code yX12_rest cX12_rest 5 (some .long), Cond.methodLink RX12 553 yX12_allSlips]
set_option maxRecDepth 20000 in
theorem sq_8_9 : (tables_1_8.drop 144).take 16 = st_8_9 := rfl
theorem gdc_8_9 {w : Cond} (j : Nat) (h : st_8_9[j]? = some w) (g : goodWord w = true) : w ∈ gd := gdm_8 (List.mem_of_mem_drop (List.mem_of_mem_take (show w ∈ (tables_1_8.drop 144).take 16 from by rw [sq_8_9]; exact List.mem_of_getElem? h))) g
noncomputable def st_8_10 : List Cond := [Cond.privateMethod yX12_allSlips, Cond.instanceMethod yX12_allSlips, Cond.code yX12_allSlips cX12_allSlips 1 (some .int), Cond.methodLink RX12 560 yX12_oddsBy, Cond.privateMethod yX12_oddsBy, Cond.instanceMethod yX12_oddsBy, Cond.code yX12_oddsBy cX12_oddsBy 10 (some .long), Cond.methodLink RL 99 yX12_boldest, Cond.instanceMethod yX12_boldest, Cond.selects RX12 yX12_boldest yX12_boldest, Cond.code yX12_boldest cX12_boldest 9 (some .int), Cond.methodLink RL 103 yX12_wager, Cond.instanceMethod yX12_wager, Cond.selects RX12 yX12_wager yX12_wager, Cond.code yX12_wager cX12_wager 6 (some .int), Cond.methodLink RX12 575 yX12_layWays]
set_option maxRecDepth 20000 in
theorem sq_8_10 : (tables_1_8.drop 160).take 16 = st_8_10 := rfl
theorem gdc_8_10 {w : Cond} (j : Nat) (h : st_8_10[j]? = some w) (g : goodWord w = true) : w ∈ gd := gdm_8 (List.mem_of_mem_drop (List.mem_of_mem_take (show w ∈ (tables_1_8.drop 160).take 16 from by rw [sq_8_10]; exact List.mem_of_getElem? h))) g
noncomputable def st_8_11 : List Cond := [Cond.privateMethod yX12_layWays, Cond.instanceMethod yX12_layWays, Cond.code yX12_layWays cX12_layWays 4 none, Cond.methodLink RX12 572 yX12_hasWay, Cond.privateMethod yX12_hasWay, Cond.instanceMethod yX12_hasWay, Cond.code yX12_hasWay cX12_hasWay 6 (some .boolean), Cond.methodLink RX12 578 yX12_layWins, Cond.privateMethod yX12_layWins, Cond.instanceMethod yX12_layWins, Cond.code yX12_layWins cX12_layWins 4 none, Cond.methodLink RL 108 yX12_leave, Cond.instanceMethod yX12_leave, Cond.selects RX12 yX12_leave yX12_leave, Cond.code yX12_leave cX12_leave 5 (some .int), Cond.methodLink RL 112 yX12_walk]
set_option maxRecDepth 20000 in
theorem sq_8_11 : (tables_1_8.drop 176).take 16 = st_8_11 := rfl
theorem gdc_8_11 {w : Cond} (j : Nat) (h : st_8_11[j]? = some w) (g : goodWord w = true) : w ∈ gd := gdm_8 (List.mem_of_mem_drop (List.mem_of_mem_take (show w ∈ (tables_1_8.drop 176).take 16 from by rw [sq_8_11]; exact List.mem_of_getElem? h))) g
noncomputable def st_8_12 : List Cond := [Cond.instanceMethod yX12_walk, Cond.selects RX12 yX12_walk yX12_walk, Cond.code yX12_walk cX12_walk 4 (some .int), Cond.methodLink RX12 581 yX12_act, Cond.privateMethod yX12_act, Cond.instanceMethod yX12_act, Cond.code yX12_act cX12_act 2 none, Cond.methodLink RX12 584 yX12_stands, Cond.privateMethod yX12_stands, Cond.instanceMethod yX12_stands, Cond.code yX12_stands cX12_stands 2 (some .int), Cond.methodLink RL 116 yX12_go, Cond.instanceMethod yX12_go, Cond.selects RX12 yX12_go yX12_go, Cond.code yX12_go cX12_go 5 (some .int), Cond.methodLink RL 120 yX12_force]
set_option maxRecDepth 20000 in
theorem sq_8_12 : (tables_1_8.drop 192).take 16 = st_8_12 := rfl
theorem gdc_8_12 {w : Cond} (j : Nat) (h : st_8_12[j]? = some w) (g : goodWord w = true) : w ∈ gd := gdm_8 (List.mem_of_mem_drop (List.mem_of_mem_take (show w ∈ (tables_1_8.drop 192).take 16 from by rw [sq_8_12]; exact List.mem_of_getElem? h))) g
noncomputable def st_8_13 : List Cond := [Cond.instanceMethod yX12_force, Cond.selects RX12 yX12_force yX12_force, Cond.code yX12_force cX12_force 2 (some .int), Cond.methodLink RX12 587 yX12_isRule, Cond.privateMethod yX12_isRule, Cond.instanceMethod yX12_isRule, Cond.code yX12_isRule cX12_isRule 2 (some .boolean), Cond.methodLink RL 125 yX12_rain, Cond.instanceMethod yX12_rain, Cond.selects RX12 yX12_rain yX12_rain, Cond.code yX12_rain cX12_rain 1 (some .boolean), Cond.methodLink RL 129 yX12_day, Cond.instanceMethod yX12_day, Cond.selects RX12 yX12_day yX12_day, Cond.code yX12_day cX12_day 1 (some .int), Cond.methodLink RL 133 yX12_undo]
set_option maxRecDepth 20000 in
theorem sq_8_13 : (tables_1_8.drop 208).take 16 = st_8_13 := rfl
theorem gdc_8_13 {w : Cond} (j : Nat) (h : st_8_13[j]? = some w) (g : goodWord w = true) : w ∈ gd := gdm_8 (List.mem_of_mem_drop (List.mem_of_mem_take (show w ∈ (tables_1_8.drop 208).take 16 from by rw [sq_8_13]; exact List.mem_of_getElem? h))) g
noncomputable def st_8_14 : List Cond := [Cond.instanceMethod yX12_undo, Cond.selects RX12 yX12_undo yX12_undo, Cond.code yX12_undo cX12_undo 1 (some .boolean), Cond.methodLink RX12 590 yX12_exchange, Cond.privateMethod yX12_exchange, Cond.instanceMethod yX12_exchange, Cond.code yX12_exchange cX12_exchange 4 none, Cond.methodLink RL 137 yX12_redo, Cond.instanceMethod yX12_redo, Cond.selects RX12 yX12_redo yX12_redo, Cond.code yX12_redo cX12_redo 1 (some .boolean), Cond.methodLink RL 141 yX12_walker, Cond.instanceMethod yX12_walker, Cond.selects RX12 yX12_walker yX12_walker, Cond.code yX12_walker cX12_walker 2 (some .int), Cond.methodLink RL 145 yX12_lies]
set_option maxRecDepth 20000 in
theorem sq_8_14 : (tables_1_8.drop 224).take 16 = st_8_14 := rfl
theorem gdc_8_14 {w : Cond} (j : Nat) (h : st_8_14[j]? = some w) (g : goodWord w = true) : w ∈ gd := gdm_8 (List.mem_of_mem_drop (List.mem_of_mem_take (show w ∈ (tables_1_8.drop 224).take 16 from by rw [sq_8_14]; exact List.mem_of_getElem? h))) g
theorem gdm_9 {w : Cond} (h : w ∈ tables_1_9) (g : goodWord w = true) : w ∈ gd := List.mem_filter.mpr ⟨show w ∈ k2_sels lw_privs ++ tables_1 from List.mem_append_right _ (gt_9 h), g⟩
noncomputable def st_9_0 : List Cond := [Cond.instanceMethod yX12_lies, Cond.selects RX12 yX12_lies yX12_lies, Cond.code yX12_lies cX12_lies 2 (some .int), Cond.methodLink RL 149 yX12_sight, Cond.instanceMethod yX12_sight, Cond.selects RX12 yX12_sight yX12_sight, Cond.code yX12_sight cX12_sight 4 (some .int), Cond.methodLink RL 154 yX12_untell, Cond.instanceMethod yX12_untell, Cond.selects RX12 yX12_untell yX12_untell, Cond.code yX12_untell cX12_untell 2 (some .boolean), Cond.methodLink RL 158 yX12_later, Cond.instanceMethod yX12_later, Cond.selects RX12 yX12_later yX12_later, Cond.code yX12_later cX12_later 2 (some .int), Cond.methodLink RL 162 yX12_fits]
set_option maxRecDepth 20000 in
theorem sq_9_0 : (tables_1_9.drop 0).take 16 = st_9_0 := rfl
theorem gdc_9_0 {w : Cond} (j : Nat) (h : st_9_0[j]? = some w) (g : goodWord w = true) : w ∈ gd := gdm_9 (List.mem_of_mem_drop (List.mem_of_mem_take (show w ∈ (tables_1_9.drop 0).take 16 from by rw [sq_9_0]; exact List.mem_of_getElem? h))) g
noncomputable def st_9_1 : List Cond := [Cond.instanceMethod yX12_fits, Cond.selects RX12 yX12_fits yX12_fits, Cond.code yX12_fits cX12_fits 6 (some .int), Cond.methodLink RX12 596 yX12_counts, Cond.privateMethod yX12_counts, Cond.instanceMethod yX12_counts, Cond.code yX12_counts cX12_counts 3 (some .boolean), Cond.methodLink RL 167 yX12_chance, Cond.instanceMethod yX12_chance, Cond.selects RX12 yX12_chance yX12_chance, Cond.code yX12_chance cX12_chance 12 (some .long), Cond.methodLink RX12 599 yX12_common, Cond.static yX12_common, Cond.code yX12_common cX12_common 10 (some .long), Cond.methodLink RL 171 yX12_image, Cond.instanceMethod yX12_image]
set_option maxRecDepth 20000 in
theorem sq_9_1 : (tables_1_9.drop 16).take 16 = st_9_1 := rfl
theorem gdc_9_1 {w : Cond} (j : Nat) (h : st_9_1[j]? = some w) (g : goodWord w = true) : w ∈ gd := gdm_9 (List.mem_of_mem_drop (List.mem_of_mem_take (show w ∈ (tables_1_9.drop 16).take 16 from by rw [sq_9_1]; exact List.mem_of_getElem? h))) g
noncomputable def st_9_2 : List Cond := [Cond.selects RX12 yX12_image yX12_image, Cond.code yX12_image cX12_image 3 (some .int), Cond.methodLink RX12 603 yX12_isBox, Cond.static yX12_isBox, Cond.code yX12_isBox cX12_isBox 1 (some .boolean), Cond.methodLink RL 175 yX12_back, Cond.instanceMethod yX12_back, Cond.selects RX12 yX12_back yX12_back, Cond.code yX12_back cX12_back 3 (some .int), Cond.methodLink RL 179 yX12_about, Cond.instanceMethod yX12_about, Cond.selects RX12 yX12_about yX12_about, Cond.code yX12_about cX12_about 2 (some .int), Cond.fieldLink "java/lang/String" 9 "java/lang/String" "value" "[B", Cond.fieldLink "java/lang/String" 15 "java/lang/String" "coder" "B"]
set_option maxRecDepth 20000 in
theorem sq_9_2 : (tables_1_9.drop 32).take 16 = st_9_2 := rfl
theorem gdc_9_2 {w : Cond} (j : Nat) (h : st_9_2[j]? = some w) (g : goodWord w = true) : w ∈ gd := gdm_9 (List.mem_of_mem_drop (List.mem_of_mem_take (show w ∈ (tables_1_9.drop 32).take 16 from by rw [sq_9_2]; exact List.mem_of_getElem? h))) g
theorem gps_1 {q : MethodName × Nat} (h : q ∈ lw_privs_1) : q ∈ lw_privs := List.mem_append_left _ h
theorem gds_1 {y : MethodName} {n : Nat} (j : Nat) (h : lw_privs_1[j]? = some (y, n)) : Cond.selects y.cls y y ∈ gd := List.mem_filter.mpr ⟨show Cond.selects y.cls y y ∈ k2_sels lw_privs ++ tables_1 from List.mem_append_left _ (List.mem_map.mpr ⟨(y, n), gps_1 (List.mem_of_getElem? h), rfl⟩), rfl⟩
theorem gps_2 {q : MethodName × Nat} (h : q ∈ lw_privs_2) : q ∈ lw_privs := List.mem_append_right _ (List.mem_append_left _ h)
theorem gds_2 {y : MethodName} {n : Nat} (j : Nat) (h : lw_privs_2[j]? = some (y, n)) : Cond.selects y.cls y y ∈ gd := List.mem_filter.mpr ⟨show Cond.selects y.cls y y ∈ k2_sels lw_privs ++ tables_1 from List.mem_append_left _ (List.mem_map.mpr ⟨(y, n), gps_2 (List.mem_of_getElem? h), rfl⟩), rfl⟩
theorem gps_3 {q : MethodName × Nat} (h : q ∈ lw_privs_3) : q ∈ lw_privs := List.mem_append_right _ (List.mem_append_right _ (List.mem_append_left _ h))
theorem gds_3 {y : MethodName} {n : Nat} (j : Nat) (h : lw_privs_3[j]? = some (y, n)) : Cond.selects y.cls y y ∈ gd := List.mem_filter.mpr ⟨show Cond.selects y.cls y y ∈ k2_sels lw_privs ++ tables_1 from List.mem_append_left _ (List.mem_map.mpr ⟨(y, n), gps_3 (List.mem_of_getElem? h), rfl⟩), rfl⟩
theorem gps_4 {q : MethodName × Nat} (h : q ∈ lw_privs_4) : q ∈ lw_privs := List.mem_append_right _ (List.mem_append_right _ (List.mem_append_right _ (List.mem_append_left _ h)))
theorem gds_4 {y : MethodName} {n : Nat} (j : Nat) (h : lw_privs_4[j]? = some (y, n)) : Cond.selects y.cls y y ∈ gd := List.mem_filter.mpr ⟨show Cond.selects y.cls y y ∈ k2_sels lw_privs ++ tables_1 from List.mem_append_left _ (List.mem_map.mpr ⟨(y, n), gps_4 (List.mem_of_getElem? h), rfl⟩), rfl⟩
theorem gps_5 {q : MethodName × Nat} (h : q ∈ lw_privs_5) : q ∈ lw_privs := List.mem_append_right _ (List.mem_append_right _ (List.mem_append_right _ (List.mem_append_right _ (List.mem_append_left _ h))))
theorem gds_5 {y : MethodName} {n : Nat} (j : Nat) (h : lw_privs_5[j]? = some (y, n)) : Cond.selects y.cls y y ∈ gd := List.mem_filter.mpr ⟨show Cond.selects y.cls y y ∈ k2_sels lw_privs ++ tables_1 from List.mem_append_left _ (List.mem_map.mpr ⟨(y, n), gps_5 (List.mem_of_getElem? h), rfl⟩), rfl⟩
theorem gps_6 {q : MethodName × Nat} (h : q ∈ lw_privs_6) : q ∈ lw_privs := List.mem_append_right _ (List.mem_append_right _ (List.mem_append_right _ (List.mem_append_right _ (List.mem_append_right _ (List.mem_append_left _ h)))))
theorem gds_6 {y : MethodName} {n : Nat} (j : Nat) (h : lw_privs_6[j]? = some (y, n)) : Cond.selects y.cls y y ∈ gd := List.mem_filter.mpr ⟨show Cond.selects y.cls y y ∈ k2_sels lw_privs ++ tables_1 from List.mem_append_left _ (List.mem_map.mpr ⟨(y, n), gps_6 (List.mem_of_getElem? h), rfl⟩), rfl⟩
theorem gps_7 {q : MethodName × Nat} (h : q ∈ lw_privs_7) : q ∈ lw_privs := List.mem_append_right _ (List.mem_append_right _ (List.mem_append_right _ (List.mem_append_right _ (List.mem_append_right _ (List.mem_append_right _ (List.mem_append_left _ h))))))
theorem gds_7 {y : MethodName} {n : Nat} (j : Nat) (h : lw_privs_7[j]? = some (y, n)) : Cond.selects y.cls y y ∈ gd := List.mem_filter.mpr ⟨show Cond.selects y.cls y y ∈ k2_sels lw_privs ++ tables_1 from List.mem_append_left _ (List.mem_map.mpr ⟨(y, n), gps_7 (List.mem_of_getElem? h), rfl⟩), rfl⟩
theorem gps_8 {q : MethodName × Nat} (h : q ∈ lw_privs_8) : q ∈ lw_privs := List.mem_append_right _ (List.mem_append_right _ (List.mem_append_right _ (List.mem_append_right _ (List.mem_append_right _ (List.mem_append_right _ (List.mem_append_right _ (h)))))))
theorem gds_8 {y : MethodName} {n : Nat} (j : Nat) (h : lw_privs_8[j]? = some (y, n)) : Cond.selects y.cls y y ∈ gd := List.mem_filter.mpr ⟨show Cond.selects y.cls y y ∈ k2_sels lw_privs ++ tables_1 from List.mem_append_left _ (List.mem_map.mpr ⟨(y, n), gps_8 (List.mem_of_getElem? h), rfl⟩), rfl⟩
theorem iwS {P : Nat → Prop} {n : Nat} (h : ∀ j, j < n → P j) (h2 : P n) : ∀ j, j < n + 1 → P j := fun j hj => (Nat.lt_succ_iff_lt_or_eq.mp hj).elim (h j) (fun e => e ▸ h2)
theorem iw0 {P : Nat → Prop} : ∀ j, j < 0 → P j := fun j h => absurd h (Nat.not_lt_zero j)
theorem iw_ws {C : String} {T : u_T} {N : Nat} (h : ∀ j, j < N → u_lay C T j ∈ gd) : ∀ w ∈ u_ws C T N, w ∈ gd := by
  intro w hw
  obtain ⟨j, hj, rfl⟩ := List.mem_map.mp hw
  exact h j (List.mem_range.mp hj)
theorem iX0_0 : u_lay RX0 TX0 0 ∈ gd := gdc_2_2 7 rfl rfl
theorem iX0_1 : u_lay RX0 TX0 1 ∈ gd := gdc_2_2 9 rfl rfl
theorem iX0_2 : u_lay RX0 TX0 2 ∈ gd := gdc_2_2 11 rfl rfl
theorem iX0_3 : u_lay RX0 TX0 3 ∈ gd := gdc_2_2 13 rfl rfl
theorem iX0_4 : u_lay RX0 TX0 4 ∈ gd := gdc_2_2 15 rfl rfl
theorem iX0_5 : u_lay RX0 TX0 5 ∈ gd := gdc_2_3 1 rfl rfl
theorem iX0_6 : u_lay RX0 TX0 6 ∈ gd := gdc_2_3 3 rfl rfl
theorem iX0_7 : u_lay RX0 TX0 7 ∈ gd := gdc_2_3 5 rfl rfl
set_option maxRecDepth 20000 in
theorem iX0 : ∀ w ∈ u_ws RX0 TX0 8, w ∈ gd := iw_ws (iwS (iwS (iwS (iwS (iwS (iwS (iwS (iwS (iw0) iX0_0) iX0_1) iX0_2) iX0_3) iX0_4) iX0_5) iX0_6) iX0_7)
theorem iX1_0 : u_lay RX1 TX1 0 ∈ gd := gdc_2_9 1 rfl rfl
theorem iX1_1 : u_lay RX1 TX1 1 ∈ gd := gdc_2_9 3 rfl rfl
theorem iX1_2 : u_lay RX1 TX1 2 ∈ gd := gdc_2_9 5 rfl rfl
theorem iX1_3 : u_lay RX1 TX1 3 ∈ gd := gdc_2_9 7 rfl rfl
theorem iX1_4 : u_lay RX1 TX1 4 ∈ gd := gdc_2_9 9 rfl rfl
theorem iX1_5 : u_lay RX1 TX1 5 ∈ gd := gdc_2_9 11 rfl rfl
set_option maxRecDepth 20000 in
theorem iX1 : ∀ w ∈ u_ws RX1 TX1 6, w ∈ gd := iw_ws (iwS (iwS (iwS (iwS (iwS (iwS (iw0) iX1_0) iX1_1) iX1_2) iX1_3) iX1_4) iX1_5)
theorem iX2_0 : u_lay RX2 TX2 0 ∈ gd := gdc_1_11 12 rfl rfl
theorem iX2_1 : u_lay RX2 TX2 1 ∈ gd := gdc_1_11 14 rfl rfl
theorem iX2_2 : u_lay RX2 TX2 2 ∈ gd := gdc_1_12 0 rfl rfl
set_option maxRecDepth 20000 in
theorem iX2 : ∀ w ∈ u_ws RX2 TX2 3, w ∈ gd := iw_ws (iwS (iwS (iwS (iw0) iX2_0) iX2_1) iX2_2)
theorem iX3_0 : u_lay RX3 TX3 0 ∈ gd := gdc_1_14 14 rfl rfl
theorem iX3_1 : u_lay RX3 TX3 1 ∈ gd := gdc_2_0 0 rfl rfl
theorem iX3_2 : u_lay RX3 TX3 2 ∈ gd := gdc_2_0 2 rfl rfl
theorem iX3_3 : u_lay RX3 TX3 3 ∈ gd := gdc_2_0 4 rfl rfl
theorem iX3_4 : u_lay RX3 TX3 4 ∈ gd := gdc_2_0 6 rfl rfl
set_option maxRecDepth 20000 in
theorem iX3 : ∀ w ∈ u_ws RX3 TX3 5, w ∈ gd := iw_ws (iwS (iwS (iwS (iwS (iwS (iw0) iX3_0) iX3_1) iX3_2) iX3_3) iX3_4)
theorem iX4_0 : u_lay RX4 TX4 0 ∈ gd := gdc_2_4 11 rfl rfl
theorem iX4_1 : u_lay RX4 TX4 1 ∈ gd := gdc_2_4 13 rfl rfl
theorem iX4_2 : u_lay RX4 TX4 2 ∈ gd := gdc_2_4 15 rfl rfl
theorem iX4_3 : u_lay RX4 TX4 3 ∈ gd := gdc_2_5 1 rfl rfl
set_option maxRecDepth 20000 in
theorem iX4 : ∀ w ∈ u_ws RX4 TX4 4, w ∈ gd := iw_ws (iwS (iwS (iwS (iwS (iw0) iX4_0) iX4_1) iX4_2) iX4_3)
theorem iX5_0 : u_lay RX5 TX5 0 ∈ gd := gdc_2_7 3 rfl rfl
theorem iX5_1 : u_lay RX5 TX5 1 ∈ gd := gdc_2_7 5 rfl rfl
theorem iX5_2 : u_lay RX5 TX5 2 ∈ gd := gdc_2_7 7 rfl rfl
theorem iX5_3 : u_lay RX5 TX5 3 ∈ gd := gdc_2_7 9 rfl rfl
theorem iX5_4 : u_lay RX5 TX5 4 ∈ gd := gdc_2_7 11 rfl rfl
theorem iX5_5 : u_lay RX5 TX5 5 ∈ gd := gdc_2_7 13 rfl rfl
theorem iX5_6 : u_lay RX5 TX5 6 ∈ gd := gdc_2_7 15 rfl rfl
set_option maxRecDepth 20000 in
theorem iX5 : ∀ w ∈ u_ws RX5 TX5 7, w ∈ gd := iw_ws (iwS (iwS (iwS (iwS (iwS (iwS (iwS (iw0) iX5_0) iX5_1) iX5_2) iX5_3) iX5_4) iX5_5) iX5_6)
theorem iX6_0 : u_lay RX6 TX6 0 ∈ gd := gdc_1_5 14 rfl rfl
theorem iX6_1 : u_lay RX6 TX6 1 ∈ gd := gdc_1_6 0 rfl rfl
theorem iX6_2 : u_lay RX6 TX6 2 ∈ gd := gdc_1_6 2 rfl rfl
theorem iX6_3 : u_lay RX6 TX6 3 ∈ gd := gdc_1_6 4 rfl rfl
theorem iX6_4 : u_lay RX6 TX6 4 ∈ gd := gdc_1_6 6 rfl rfl
theorem iX6_5 : u_lay RX6 TX6 5 ∈ gd := gdc_1_6 8 rfl rfl
theorem iX6_6 : u_lay RX6 TX6 6 ∈ gd := gdc_1_6 10 rfl rfl
theorem iX6_7 : u_lay RX6 TX6 7 ∈ gd := gdc_1_6 12 rfl rfl
theorem iX6_8 : u_lay RX6 TX6 8 ∈ gd := gdc_1_6 14 rfl rfl
theorem iX6_9 : u_lay RX6 TX6 9 ∈ gd := gdc_1_7 0 rfl rfl
theorem iX6_10 : u_lay RX6 TX6 10 ∈ gd := gdc_1_7 2 rfl rfl
theorem iX6_11 : u_lay RX6 TX6 11 ∈ gd := gdc_1_7 4 rfl rfl
theorem iX6_12 : u_lay RX6 TX6 12 ∈ gd := gdc_1_7 6 rfl rfl
theorem iX6_13 : u_lay RX6 TX6 13 ∈ gd := gdc_1_7 8 rfl rfl
theorem iX6_14 : u_lay RX6 TX6 14 ∈ gd := gdc_1_7 10 rfl rfl
theorem iX6_15 : u_lay RX6 TX6 15 ∈ gd := gdc_1_7 12 rfl rfl
theorem iX6_16 : u_lay RX6 TX6 16 ∈ gd := gdc_1_7 14 rfl rfl
set_option maxRecDepth 20000 in
theorem iX6 : ∀ w ∈ u_ws RX6 TX6 17, w ∈ gd := iw_ws (iwS (iwS (iwS (iwS (iwS (iwS (iwS (iwS (iwS (iwS (iwS (iwS (iwS (iwS (iwS (iwS (iwS (iw0) iX6_0) iX6_1) iX6_2) iX6_3) iX6_4) iX6_5) iX6_6) iX6_7) iX6_8) iX6_9) iX6_10) iX6_11) iX6_12) iX6_13) iX6_14) iX6_15) iX6_16)
theorem iX7_0 : u_lay RX7 TX7 0 ∈ gd := gdc_1_12 14 rfl rfl
theorem iX7_1 : u_lay RX7 TX7 1 ∈ gd := gdc_1_13 0 rfl rfl
theorem iX7_2 : u_lay RX7 TX7 2 ∈ gd := gdc_1_13 2 rfl rfl
theorem iX7_3 : u_lay RX7 TX7 3 ∈ gd := gdc_1_13 4 rfl rfl
theorem iX7_4 : u_lay RX7 TX7 4 ∈ gd := gdc_1_13 6 rfl rfl
theorem iX7_5 : u_lay RX7 TX7 5 ∈ gd := gdc_1_13 8 rfl rfl
theorem iX7_6 : u_lay RX7 TX7 6 ∈ gd := gdc_1_13 10 rfl rfl
theorem iX7_7 : u_lay RX7 TX7 7 ∈ gd := gdc_1_13 12 rfl rfl
theorem iX7_8 : u_lay RX7 TX7 8 ∈ gd := gdc_1_13 14 rfl rfl
theorem iX7_9 : u_lay RX7 TX7 9 ∈ gd := gdc_1_14 0 rfl rfl
set_option maxRecDepth 20000 in
theorem iX7 : ∀ w ∈ u_ws RX7 TX7 10, w ∈ gd := iw_ws (iwS (iwS (iwS (iwS (iwS (iwS (iwS (iwS (iwS (iwS (iw0) iX7_0) iX7_1) iX7_2) iX7_3) iX7_4) iX7_5) iX7_6) iX7_7) iX7_8) iX7_9)
theorem iX8_0 : u_lay RX8 TX8 0 ∈ gd := gdc_2_11 0 rfl rfl
theorem iX8_1 : u_lay RX8 TX8 1 ∈ gd := gdc_2_11 2 rfl rfl
theorem iX8_2 : u_lay RX8 TX8 2 ∈ gd := gdc_2_11 4 rfl rfl
theorem iX8_3 : u_lay RX8 TX8 3 ∈ gd := gdc_2_11 6 rfl rfl
theorem iX8_4 : u_lay RX8 TX8 4 ∈ gd := gdc_2_11 8 rfl rfl
theorem iX8_5 : u_lay RX8 TX8 5 ∈ gd := gdc_2_11 10 rfl rfl
theorem iX8_6 : u_lay RX8 TX8 6 ∈ gd := gdc_2_11 12 rfl rfl
set_option maxRecDepth 20000 in
theorem iX8 : ∀ w ∈ u_ws RX8 TX8 7, w ∈ gd := iw_ws (iwS (iwS (iwS (iwS (iwS (iwS (iwS (iw0) iX8_0) iX8_1) iX8_2) iX8_3) iX8_4) iX8_5) iX8_6)
theorem iX9_0 : u_lay RX9 TX9 0 ∈ gd := gdc_1_9 14 rfl rfl
theorem iX9_1 : u_lay RX9 TX9 1 ∈ gd := gdc_1_10 0 rfl rfl
theorem iX9_2 : u_lay RX9 TX9 2 ∈ gd := gdc_1_10 2 rfl rfl
theorem iX9_3 : u_lay RX9 TX9 3 ∈ gd := gdc_1_10 4 rfl rfl
theorem iX9_4 : u_lay RX9 TX9 4 ∈ gd := gdc_1_10 6 rfl rfl
theorem iX9_5 : u_lay RX9 TX9 5 ∈ gd := gdc_1_10 8 rfl rfl
theorem iX9_6 : u_lay RX9 TX9 6 ∈ gd := gdc_1_10 10 rfl rfl
theorem iX9_7 : u_lay RX9 TX9 7 ∈ gd := gdc_1_10 12 rfl rfl
theorem iX9_8 : u_lay RX9 TX9 8 ∈ gd := gdc_1_10 14 rfl rfl
set_option maxRecDepth 20000 in
theorem iX9 : ∀ w ∈ u_ws RX9 TX9 9, w ∈ gd := iw_ws (iwS (iwS (iwS (iwS (iwS (iwS (iwS (iwS (iwS (iw0) iX9_0) iX9_1) iX9_2) iX9_3) iX9_4) iX9_5) iX9_6) iX9_7) iX9_8)
theorem iX10_0 : u_lay RX10 TX10 0 ∈ gd := gdc_2_5 11 rfl rfl
theorem iX10_1 : u_lay RX10 TX10 1 ∈ gd := gdc_2_5 13 rfl rfl
theorem iX10_2 : u_lay RX10 TX10 2 ∈ gd := gdc_2_5 15 rfl rfl
theorem iX10_3 : u_lay RX10 TX10 3 ∈ gd := gdc_2_6 1 rfl rfl
theorem iX10_4 : u_lay RX10 TX10 4 ∈ gd := gdc_2_6 3 rfl rfl
set_option maxRecDepth 20000 in
theorem iX10 : ∀ w ∈ u_ws RX10 TX10 5, w ∈ gd := iw_ws (iwS (iwS (iwS (iwS (iwS (iw0) iX10_0) iX10_1) iX10_2) iX10_3) iX10_4)
theorem iX11_0 : u_lay RX11 TX11 0 ∈ gd := gdc_2_14 3 rfl rfl
theorem iX11_1 : u_lay RX11 TX11 1 ∈ gd := gdc_2_14 5 rfl rfl
theorem iX11_2 : u_lay RX11 TX11 2 ∈ gd := gdc_2_14 7 rfl rfl
theorem iX11_3 : u_lay RX11 TX11 3 ∈ gd := gdc_2_14 9 rfl rfl
theorem iX11_4 : u_lay RX11 TX11 4 ∈ gd := gdc_2_14 11 rfl rfl
theorem iX11_5 : u_lay RX11 TX11 5 ∈ gd := gdc_2_14 13 rfl rfl
theorem iX11_6 : u_lay RX11 TX11 6 ∈ gd := gdc_2_14 15 rfl rfl
theorem iX11_7 : u_lay RX11 TX11 7 ∈ gd := gdc_3_0 1 rfl rfl
theorem iX11_8 : u_lay RX11 TX11 8 ∈ gd := gdc_3_0 3 rfl rfl
theorem iX11_9 : u_lay RX11 TX11 9 ∈ gd := gdc_3_0 5 rfl rfl
theorem iX11_10 : u_lay RX11 TX11 10 ∈ gd := gdc_3_0 7 rfl rfl
theorem iX11_11 : u_lay RX11 TX11 11 ∈ gd := gdc_3_0 9 rfl rfl
theorem iX11_12 : u_lay RX11 TX11 12 ∈ gd := gdc_3_0 11 rfl rfl
set_option maxRecDepth 20000 in
theorem iX11 : ∀ w ∈ u_ws RX11 TX11 13, w ∈ gd := iw_ws (iwS (iwS (iwS (iwS (iwS (iwS (iwS (iwS (iwS (iwS (iwS (iwS (iwS (iw0) iX11_0) iX11_1) iX11_2) iX11_3) iX11_4) iX11_5) iX11_6) iX11_7) iX11_8) iX11_9) iX11_10) iX11_11) iX11_12)
theorem iX12_0 : u_lay RX12 TX12 0 ∈ gd := gdc_6_5 7 rfl rfl
theorem iX12_1 : u_lay RX12 TX12 1 ∈ gd := gdc_6_5 9 rfl rfl
theorem iX12_2 : u_lay RX12 TX12 2 ∈ gd := gdc_6_5 11 rfl rfl
theorem iX12_3 : u_lay RX12 TX12 3 ∈ gd := gdc_6_5 13 rfl rfl
theorem iX12_4 : u_lay RX12 TX12 4 ∈ gd := gdc_6_5 15 rfl rfl
theorem iX12_5 : u_lay RX12 TX12 5 ∈ gd := gdc_6_6 1 rfl rfl
theorem iX12_6 : u_lay RX12 TX12 6 ∈ gd := gdc_6_6 3 rfl rfl
theorem iX12_7 : u_lay RX12 TX12 7 ∈ gd := gdc_6_6 5 rfl rfl
theorem iX12_8 : u_lay RX12 TX12 8 ∈ gd := gdc_6_6 7 rfl rfl
theorem iX12_9 : u_lay RX12 TX12 9 ∈ gd := gdc_6_6 9 rfl rfl
theorem iX12_10 : u_lay RX12 TX12 10 ∈ gd := gdc_6_6 11 rfl rfl
theorem iX12_11 : u_lay RX12 TX12 11 ∈ gd := gdc_6_6 13 rfl rfl
theorem iX12_12 : u_lay RX12 TX12 12 ∈ gd := gdc_6_6 15 rfl rfl
theorem iX12_13 : u_lay RX12 TX12 13 ∈ gd := gdc_6_7 1 rfl rfl
theorem iX12_14 : u_lay RX12 TX12 14 ∈ gd := gdc_6_7 3 rfl rfl
theorem iX12_15 : u_lay RX12 TX12 15 ∈ gd := gdc_6_7 5 rfl rfl
theorem iX12_16 : u_lay RX12 TX12 16 ∈ gd := gdc_6_7 7 rfl rfl
theorem iX12_17 : u_lay RX12 TX12 17 ∈ gd := gdc_6_7 9 rfl rfl
theorem iX12_18 : u_lay RX12 TX12 18 ∈ gd := gdc_6_7 11 rfl rfl
theorem iX12_19 : u_lay RX12 TX12 19 ∈ gd := gdc_6_7 13 rfl rfl
theorem iX12_20 : u_lay RX12 TX12 20 ∈ gd := gdc_6_7 15 rfl rfl
theorem iX12_21 : u_lay RX12 TX12 21 ∈ gd := gdc_6_8 1 rfl rfl
theorem iX12_22 : u_lay RX12 TX12 22 ∈ gd := gdc_6_8 3 rfl rfl
theorem iX12_23 : u_lay RX12 TX12 23 ∈ gd := gdc_6_8 5 rfl rfl
theorem iX12_24 : u_lay RX12 TX12 24 ∈ gd := gdc_6_8 7 rfl rfl
theorem iX12_25 : u_lay RX12 TX12 25 ∈ gd := gdc_6_8 9 rfl rfl
theorem iX12_26 : u_lay RX12 TX12 26 ∈ gd := gdc_6_8 11 rfl rfl
theorem iX12_27 : u_lay RX12 TX12 27 ∈ gd := gdc_6_8 13 rfl rfl
theorem iX12_28 : u_lay RX12 TX12 28 ∈ gd := gdc_6_8 15 rfl rfl
theorem iX12_29 : u_lay RX12 TX12 29 ∈ gd := gdc_6_9 1 rfl rfl
theorem iX12_30 : u_lay RX12 TX12 30 ∈ gd := gdc_6_9 3 rfl rfl
theorem iX12_31 : u_lay RX12 TX12 31 ∈ gd := gdc_6_9 5 rfl rfl
theorem iX12_32 : u_lay RX12 TX12 32 ∈ gd := gdc_6_9 7 rfl rfl
theorem iX12_33 : u_lay RX12 TX12 33 ∈ gd := gdc_6_9 9 rfl rfl
theorem iX12_34 : u_lay RX12 TX12 34 ∈ gd := gdc_6_9 11 rfl rfl
theorem iX12_35 : u_lay RX12 TX12 35 ∈ gd := gdc_6_9 13 rfl rfl
theorem iX12_36 : u_lay RX12 TX12 36 ∈ gd := gdc_6_9 15 rfl rfl
theorem iX12_37 : u_lay RX12 TX12 37 ∈ gd := gdc_6_10 1 rfl rfl
theorem iX12_38 : u_lay RX12 TX12 38 ∈ gd := gdc_6_10 3 rfl rfl
theorem iX12_39 : u_lay RX12 TX12 39 ∈ gd := gdc_6_10 5 rfl rfl
theorem iX12_40 : u_lay RX12 TX12 40 ∈ gd := gdc_6_10 7 rfl rfl
theorem iX12_41 : u_lay RX12 TX12 41 ∈ gd := gdc_6_10 9 rfl rfl
theorem iX12_42 : u_lay RX12 TX12 42 ∈ gd := gdc_6_10 11 rfl rfl
theorem iX12_43 : u_lay RX12 TX12 43 ∈ gd := gdc_6_10 13 rfl rfl
theorem iX12_44 : u_lay RX12 TX12 44 ∈ gd := gdc_6_10 15 rfl rfl
theorem iX12_45 : u_lay RX12 TX12 45 ∈ gd := gdc_6_11 1 rfl rfl
theorem iX12_46 : u_lay RX12 TX12 46 ∈ gd := gdc_6_11 3 rfl rfl
theorem iX12_47 : u_lay RX12 TX12 47 ∈ gd := gdc_6_11 5 rfl rfl
theorem iX12_48 : u_lay RX12 TX12 48 ∈ gd := gdc_6_11 7 rfl rfl
theorem iX12_49 : u_lay RX12 TX12 49 ∈ gd := gdc_6_11 9 rfl rfl
theorem iX12_50 : u_lay RX12 TX12 50 ∈ gd := gdc_6_11 11 rfl rfl
theorem iX12_51 : u_lay RX12 TX12 51 ∈ gd := gdc_6_11 13 rfl rfl
theorem iX12_52 : u_lay RX12 TX12 52 ∈ gd := gdc_6_11 15 rfl rfl
theorem iX12_53 : u_lay RX12 TX12 53 ∈ gd := gdc_6_12 1 rfl rfl
theorem iX12_54 : u_lay RX12 TX12 54 ∈ gd := gdc_6_12 3 rfl rfl
theorem iX12_55 : u_lay RX12 TX12 55 ∈ gd := gdc_6_12 5 rfl rfl
theorem iX12_56 : u_lay RX12 TX12 56 ∈ gd := gdc_6_12 7 rfl rfl
theorem iX12_57 : u_lay RX12 TX12 57 ∈ gd := gdc_6_12 9 rfl rfl
theorem iX12_58 : u_lay RX12 TX12 58 ∈ gd := gdc_6_12 11 rfl rfl
theorem iX12_59 : u_lay RX12 TX12 59 ∈ gd := gdc_6_12 13 rfl rfl
theorem iX12_60 : u_lay RX12 TX12 60 ∈ gd := gdc_6_12 15 rfl rfl
theorem iX12_61 : u_lay RX12 TX12 61 ∈ gd := gdc_6_13 1 rfl rfl
theorem iX12_62 : u_lay RX12 TX12 62 ∈ gd := gdc_6_13 3 rfl rfl
theorem iX12_63 : u_lay RX12 TX12 63 ∈ gd := gdc_6_13 5 rfl rfl
theorem iX12_64 : u_lay RX12 TX12 64 ∈ gd := gdc_6_13 7 rfl rfl
theorem iX12_65 : u_lay RX12 TX12 65 ∈ gd := gdc_6_13 9 rfl rfl
theorem iX12_66 : u_lay RX12 TX12 66 ∈ gd := gdc_6_13 11 rfl rfl
theorem iX12_67 : u_lay RX12 TX12 67 ∈ gd := gdc_6_13 13 rfl rfl
theorem iX12_68 : u_lay RX12 TX12 68 ∈ gd := gdc_6_13 15 rfl rfl
theorem iX12_69 : u_lay RX12 TX12 69 ∈ gd := gdc_6_14 1 rfl rfl
theorem iX12_70 : u_lay RX12 TX12 70 ∈ gd := gdc_6_14 3 rfl rfl
theorem iX12_71 : u_lay RX12 TX12 71 ∈ gd := gdc_6_14 5 rfl rfl
theorem iX12_72 : u_lay RX12 TX12 72 ∈ gd := gdc_6_14 7 rfl rfl
theorem iX12_73 : u_lay RX12 TX12 73 ∈ gd := gdc_6_14 9 rfl rfl
theorem iX12_74 : u_lay RX12 TX12 74 ∈ gd := gdc_6_14 11 rfl rfl
theorem iX12_75 : u_lay RX12 TX12 75 ∈ gd := gdc_6_14 13 rfl rfl
theorem iX12_76 : u_lay RX12 TX12 76 ∈ gd := gdc_6_14 15 rfl rfl
theorem iX12_77 : u_lay RX12 TX12 77 ∈ gd := gdc_7_0 1 rfl rfl
theorem iX12_78 : u_lay RX12 TX12 78 ∈ gd := gdc_7_0 3 rfl rfl
theorem iX12_79 : u_lay RX12 TX12 79 ∈ gd := gdc_7_0 5 rfl rfl
theorem iX12_80 : u_lay RX12 TX12 80 ∈ gd := gdc_7_0 7 rfl rfl
theorem iX12_81 : u_lay RX12 TX12 81 ∈ gd := gdc_7_0 9 rfl rfl
theorem iX12_82 : u_lay RX12 TX12 82 ∈ gd := gdc_7_0 11 rfl rfl
theorem iX12_83 : u_lay RX12 TX12 83 ∈ gd := gdc_7_0 13 rfl rfl
theorem iX12_84 : u_lay RX12 TX12 84 ∈ gd := gdc_7_0 15 rfl rfl
theorem iX12_85 : u_lay RX12 TX12 85 ∈ gd := gdc_7_1 1 rfl rfl
theorem iX12_86 : u_lay RX12 TX12 86 ∈ gd := gdc_7_1 3 rfl rfl
theorem iX12_87 : u_lay RX12 TX12 87 ∈ gd := gdc_7_1 5 rfl rfl
theorem iX12_88 : u_lay RX12 TX12 88 ∈ gd := gdc_7_1 7 rfl rfl
set_option maxRecDepth 20000 in
theorem iX12 : ∀ w ∈ u_ws RX12 TX12 89, w ∈ gd := iw_ws (iwS (iwS (iwS (iwS (iwS (iwS (iwS (iwS (iwS (iwS (iwS (iwS (iwS (iwS (iwS (iwS (iwS (iwS (iwS (iwS (iwS (iwS (iwS (iwS (iwS (iwS (iwS (iwS (iwS (iwS (iwS (iwS (iwS (iwS (iwS (iwS (iwS (iwS (iwS (iwS (iwS (iwS (iwS (iwS (iwS (iwS (iwS (iwS (iwS (iwS (iwS (iwS (iwS (iwS (iwS (iwS (iwS (iwS (iwS (iwS (iwS (iwS (iwS (iwS (iwS (iwS (iwS (iwS (iwS (iwS (iwS (iwS (iwS (iwS (iwS (iwS (iwS (iwS (iwS (iwS (iwS (iwS (iwS (iwS (iwS (iwS (iwS (iwS (iwS (iw0) iX12_0) iX12_1) iX12_2) iX12_3) iX12_4) iX12_5) iX12_6) iX12_7) iX12_8) iX12_9) iX12_10) iX12_11) iX12_12) iX12_13) iX12_14) iX12_15) iX12_16) iX12_17) iX12_18) iX12_19) iX12_20) iX12_21) iX12_22) iX12_23) iX12_24) iX12_25) iX12_26) iX12_27) iX12_28) iX12_29) iX12_30) iX12_31) iX12_32) iX12_33) iX12_34) iX12_35) iX12_36) iX12_37) iX12_38) iX12_39) iX12_40) iX12_41) iX12_42) iX12_43) iX12_44) iX12_45) iX12_46) iX12_47) iX12_48) iX12_49) iX12_50) iX12_51) iX12_52) iX12_53) iX12_54) iX12_55) iX12_56) iX12_57) iX12_58) iX12_59) iX12_60) iX12_61) iX12_62) iX12_63) iX12_64) iX12_65) iX12_66) iX12_67) iX12_68) iX12_69) iX12_70) iX12_71) iX12_72) iX12_73) iX12_74) iX12_75) iX12_76) iX12_77) iX12_78) iX12_79) iX12_80) iX12_81) iX12_82) iX12_83) iX12_84) iX12_85) iX12_86) iX12_87) iX12_88)
