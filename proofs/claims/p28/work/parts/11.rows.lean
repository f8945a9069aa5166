theorem vin {x : Int32} {n : Nat} (h0 : 0 ≤ x.toInt) (h1 : x.toInt < n) : vp_in x n := by
  rintro (h | h)
  · have := Int32.lt_iff_toInt_lt.mp h
    have e : (0 : Int32).toInt = 0 := rfl
    omega
  · have : x.toNatClampNeg = x.toInt.toNat := rfl
    omega
theorem nz_bool {x : Int32} : 0 ≤ (vp_nar .boolean x).toInt ∧ (vp_nar .boolean x).toInt ≤ 1 := by
  have h : vp_nar .boolean x = x &&& 1 := rfl
  rw [h]
  have h2 : (x &&& 1).toBitVec = x.toBitVec &&& 1#32 := rfl
  have h3 : x.toBitVec &&& 1#32 = 0#32 ∨ x.toBitVec &&& 1#32 = 1#32 := by
    generalize x.toBitVec = b
    have : (b &&& 1#32).toNat < 2 := by
      rw [BitVec.toNat_and]
      have : (1#32).toNat = 1 := rfl
      rw [this, Nat.and_one_is_mod]
      omega
    rcases (show (b &&& 1#32).toNat = 0 ∨ (b &&& 1#32).toNat = 1 by omega) with q | q
    · exact Or.inl (BitVec.eq_of_toNat_eq q)
    · exact Or.inr (BitVec.eq_of_toNat_eq q)
  have h4 : (x &&& 1).toInt = (x.toBitVec &&& 1#32).toInt := rfl
  rw [h4]
  rcases h3 with q | q <;> rw [q] <;> decide
theorem nz_byte {x : Int32} : -128 ≤ (vp_nar .byte x).toInt ∧ (vp_nar .byte x).toInt ≤ 127 := by
  have h : vp_nar .byte x = x.toInt8.toInt32 := rfl
  rw [h, Int8.toInt_toInt32]
  have h1 := Int8.le_toInt x.toInt8
  have h2 := Int8.toInt_lt x.toInt8
  omega
section SR
variable {p : Program} {l : Launch} {e : Env} {R : Room} {s : State} {m : MethodId} {args : Array Value} {below : List Frame} {meth : Method} {c : Code} {H : Heap} {locs : List Loc} {cells slots : Nat} {Q : State → Prop}
variable {cc : ByteArray} {pc : Nat} {ls : Array Slot} {rest : List Value} {D : va_G} {k : KT} {A : Nat → Prop} {a : Nat → Nat} {G : GS} {H0 : Heap}
theorem Ws_obj {i ci : Nat} {sp : List Nat} (h : Ks[i]? = some (.inl (ci, sp))) : (Ws k a G)[i]? = some (a i, .inr (ci, fL a G i sp 0)) := Ws_at h
theorem Ws_arr {i ty n : Nat} (h : Ks[i]? = some (.inr (ty, n))) : (Ws k a G)[i]? = some (a i, .inl (aC k ty, n, aX a G i ty)) := Ws_at h
/-- an int field that is known -/
theorem S_getI (hexec : p.tables.exec = Jvm.exec) (hb : c.code = cc) {own ref C : String} {T : u_T} {N ci index : Nat} {Ts : List Cond} (hts : ∀ w ∈ Ts, w.before args s = true) (hin : ∀ w ∈ u_ws C T N, w ∈ Ts) (hown : s.vm.findClass own = some m.cls) (hK : cK D k s) (hW : Wd D k A a G H) {i : Nat} {sp : List Nat} (hi : Ks[i]? = some (.inl (ci, sp))) (hc : classes[ci]? = some (C, T, N)) (j : Nat) (hj : j < N) (hlink : (Cond.fieldLink own index ref (T j).2.1 (T j).2.2.1).before args s = true) (hsame : ∀ x, s.fieldFound? (T j).1 (T j).2.1 (T j).2.2.1 = some x → s.fieldFound? ref (T j).2.1 (T j).2.2.1 = some x) (hcd : sp[j]? = some 0) {v : Int32} (hv : G.1 i j = v) (hdg : decode cc pc = .ok (.getfield index, 3))
    (kk : W p l e R s m args below meth c H locs cells slots Q (F0 m (pc + 3) ls (.int v :: rest))) : W p l e R s m args below meth c H locs cells slots Q (F0 m pc ls (.ref (a i) :: rest)) := by
  subst hv
  exact va_get hexec hb hts hin hown hK.1 hW.1 i (Ws_obj hi) hc j hj hlink hsame (fL_get hcd) hdg kk
theorem S_getL (hexec : p.tables.exec = Jvm.exec) (hb : c.code = cc) {own ref C : String} {T : u_T} {N ci index : Nat} {Ts : List Cond} (hts : ∀ w ∈ Ts, w.before args s = true) (hin : ∀ w ∈ u_ws C T N, w ∈ Ts) (hown : s.vm.findClass own = some m.cls) (hK : cK D k s) (hW : Wd D k A a G H) {i : Nat} {sp : List Nat} (hi : Ks[i]? = some (.inl (ci, sp))) (hc : classes[ci]? = some (C, T, N)) (j : Nat) (hj : j < N) (hlink : (Cond.fieldLink own index ref (T j).2.1 (T j).2.2.1).before args s = true) (hsame : ∀ x, s.fieldFound? (T j).1 (T j).2.1 (T j).2.2.1 = some x → s.fieldFound? ref (T j).2.1 (T j).2.2.1 = some x) (hcd : sp[j]? = some 1) {v : Int64} (hv : G.2.1 i j = v) (hdg : decode cc pc = .ok (.getfield index, 3))
    (kk : W p l e R s m args below meth c H locs cells slots Q (F0 m (pc + 3) ls (.long v :: rest))) : W p l e R s m args below meth c H locs cells slots Q (F0 m pc ls (.ref (a i) :: rest)) := by
  subst hv
  exact va_get hexec hb hts hin hown hK.1 hW.1 i (Ws_obj hi) hc j hj hlink hsame (fL_get hcd) hdg kk
theorem S_getR (hexec : p.tables.exec = Jvm.exec) (hb : c.code = cc) {own ref C : String} {T : u_T} {N ci index : Nat} {Ts : List Cond} (hts : ∀ w ∈ Ts, w.before args s = true) (hin : ∀ w ∈ u_ws C T N, w ∈ Ts) (hown : s.vm.findClass own = some m.cls) (hK : cK D k s) (hW : Wd D k A a G H) {i : Nat} {sp : List Nat} (hi : Ks[i]? = some (.inl (ci, sp))) (hc : classes[ci]? = some (C, T, N)) (j : Nat) (hj : j < N) (hlink : (Cond.fieldLink own index ref (T j).2.1 (T j).2.2.1).before args s = true) (hsame : ∀ x, s.fieldFound? (T j).1 (T j).2.1 (T j).2.2.1 = some x → s.fieldFound? ref (T j).2.1 (T j).2.2.1 = some x) {n : Nat} (hcd : sp[j]? = some (n + 3)) (hdg : decode cc pc = .ok (.getfield index, 3))
    (kk : W p l e R s m args below meth c H locs cells slots Q (F0 m (pc + 3) ls (.ref (a n) :: rest))) : W p l e R s m args below meth c H locs cells slots Q (F0 m pc ls (.ref (a i) :: rest)) :=
  va_get hexec hb hts hin hown hK.1 hW.1 i (Ws_obj hi) hc j hj hlink hsame (fL_get hcd) hdg kk
theorem S_getV (hexec : p.tables.exec = Jvm.exec) (hb : c.code = cc) {own ref C : String} {T : u_T} {N ci index : Nat} {Ts : List Cond} (hts : ∀ w ∈ Ts, w.before args s = true) (hin : ∀ w ∈ u_ws C T N, w ∈ Ts) (hown : s.vm.findClass own = some m.cls) (hK : cK D k s) (hW : Wd D k A a G H) {i : Nat} {sp : List Nat} (hi : Ks[i]? = some (.inl (ci, sp))) (hc : classes[ci]? = some (C, T, N)) (j : Nat) (hj : j < N) (hlink : (Cond.fieldLink own index ref (T j).2.1 (T j).2.2.1).before args s = true) (hsame : ∀ x, s.fieldFound? (T j).1 (T j).2.1 (T j).2.2.1 = some x → s.fieldFound? ref (T j).2.1 (T j).2.2.1 = some x) {n : Nat} (hcd : sp[j]? = some 2) (hv : G.2.2 i j = n) (hdg : decode cc pc = .ok (.getfield index, 3))
    (kk : W p l e R s m args below meth c H locs cells slots Q (F0 m (pc + 3) ls (.ref (a n) :: rest))) : W p l e R s m args below meth c H locs cells slots Q (F0 m pc ls (.ref (a i) :: rest)) := by
  subst hv
  exact va_get hexec hb hts hin hown hK.1 hW.1 i (Ws_obj hi) hc j hj hlink hsame (fL_get hcd) hdg kk
theorem S_putI (hexec : p.tables.exec = Jvm.exec) (hb : c.code = cc) {own ref C : String} {T : u_T} {N ci index : Nat} {Ts : List Cond} (hts : ∀ w ∈ Ts, w.before args s = true) (hin : ∀ w ∈ u_ws C T N, w ∈ Ts) (ty0 : Nat → FieldType) (hty : ∀ k, k < N → parseFieldDescriptor (T k).2.2.1 = some (ty0 k)) (hnm : ∀ a, a < N → ∀ b, b < N → a ≠ b → (T a).2.1 ≠ (T b).2.1) (hown : s.vm.findClass own = some m.cls) (hK : cK D k s) (hW : Wd D k A a G H) (hS0 : va_S A H0 H locs) {i : Nat} {sp : List Nat} (hi : Ks[i]? = some (.inl (ci, sp))) (hc : classes[ci]? = some (C, T, N)) (j : Nat) (hj : j < N) (hlink : (Cond.fieldLink own index ref (T j).2.1 (T j).2.2.1).before args s = true) (hsame : ∀ x, s.fieldFound? (T j).1 (T j).2.1 (T j).2.2.1 = some x → s.fieldFound? ref (T j).2.1 (T j).2.2.1 = some x) (hfin : (T j).2.2.2 = false) {ty : FieldType} {v : Int32} (hd : parseFieldDescriptor (T j).2.2.1 = some ty) (hn : narrow ty (.int v) = .int v) (hfit : fits ty (.int v) = true) (hcd : sp[j]? = some 0)
    (hdg : decode cc pc = .ok (.putfield index, 3)) (kk : ∀ (G1 : GS) (H1 : Heap) (locs1 : List Loc), G1 = (u2 G.1 i j v, G.2) → Wd D k A a G1 H1 → va_S A H0 H1 locs1 → W p l e R s m args below meth c H1 locs1 cells slots Q (F0 m (pc + 3) ls rest)) : W p l e R s m args below meth c H locs cells slots Q (F0 m pc ls (.int v :: .ref (a i) :: rest)) := by
  refine va_put hexec hb hts hin ty0 hty hnm hown hK.1 hW.1 hW.2 hS0 i (Ws_obj hi) hc j hj hlink hsame hfin hd hn hfit (List.getElem?_eq_some_iff.mp (fL_get (a := a) (G := G) (i := i) hcd)).1 hdg (fun H1 locs1 h1 h2 h3 => kk _ H1 locs1 rfl ?_ h3)
  have e1 : (fL a G i sp 0).set j (.int v) = fL a (u2 G.1 i j v, G.2) i sp 0 := by
    have := fL_set (a := a) (G := G) (G' := (u2 G.1 i j v, G.2)) (i := i) hcd (fun j' hj' c9 => by
      match c9 with
      | 0 => simp [fV, u2_nj hj']
      | 1 => rfl
      | 2 => rfl
      | n + 3 => rfl)
    rw [← this]
    simp [fV, u2_at]
  have e2 := Ws_set (k := k) (a := a) (G := G) (G' := (u2 G.1 i j v, G.2)) hi (fun i' hi' => ⟨u2_ne hi', rfl, rfl⟩)
  rw [e1] at h1 h2
  rw [show (a i, Sum.inr (ci, fL a (u2 G.1 i j v, G.2) i sp 0)) = (a i, cE k a (u2 G.1 i j v, G.2) i (.inl (ci, sp))) from rfl, e2] at h1 h2
  exact ⟨h1, h2⟩
theorem S_putL (hexec : p.tables.exec = Jvm.exec) (hb : c.code = cc) {own ref C : String} {T : u_T} {N ci index : Nat} {Ts : List Cond} (hts : ∀ w ∈ Ts, w.before args s = true) (hin : ∀ w ∈ u_ws C T N, w ∈ Ts) (ty0 : Nat → FieldType) (hty : ∀ k, k < N → parseFieldDescriptor (T k).2.2.1 = some (ty0 k)) (hnm : ∀ a, a < N → ∀ b, b < N → a ≠ b → (T a).2.1 ≠ (T b).2.1) (hown : s.vm.findClass own = some m.cls) (hK : cK D k s) (hW : Wd D k A a G H) (hS0 : va_S A H0 H locs) {i : Nat} {sp : List Nat} (hi : Ks[i]? = some (.inl (ci, sp))) (hc : classes[ci]? = some (C, T, N)) (j : Nat) (hj : j < N) (hlink : (Cond.fieldLink own index ref (T j).2.1 (T j).2.2.1).before args s = true) (hsame : ∀ x, s.fieldFound? (T j).1 (T j).2.1 (T j).2.2.1 = some x → s.fieldFound? ref (T j).2.1 (T j).2.2.1 = some x) (hfin : (T j).2.2.2 = false) {v : Int64} (hd : parseFieldDescriptor (T j).2.2.1 = some .long) (hcd : sp[j]? = some 1)
    (hdg : decode cc pc = .ok (.putfield index, 3)) (kk : ∀ (G1 : GS) (H1 : Heap) (locs1 : List Loc), G1 = (G.1, u2 G.2.1 i j v, G.2.2) → Wd D k A a G1 H1 → va_S A H0 H1 locs1 → W p l e R s m args below meth c H1 locs1 cells slots Q (F0 m (pc + 3) ls rest)) : W p l e R s m args below meth c H locs cells slots Q (F0 m pc ls (.long v :: .ref (a i) :: rest)) := by
  refine va_put hexec hb hts hin ty0 hty hnm hown hK.1 hW.1 hW.2 hS0 i (Ws_obj hi) hc j hj hlink hsame hfin hd rfl rfl (List.getElem?_eq_some_iff.mp (fL_get (a := a) (G := G) (i := i) hcd)).1 hdg (fun H1 locs1 h1 h2 h3 => kk _ H1 locs1 rfl ?_ h3)
  have e1 : (fL a G i sp 0).set j (.long v) = fL a (G.1, u2 G.2.1 i j v, G.2.2) i sp 0 := by
    have := fL_set (a := a) (G := G) (G' := (G.1, u2 G.2.1 i j v, G.2.2)) (i := i) hcd (fun j' hj' c9 => by
      match c9 with
      | 0 => rfl
      | 1 => simp [fV, u2_nj hj']
      | 2 => rfl
      | n + 3 => rfl)
    rw [← this]
    simp [fV, u2_at]
  have e2 := Ws_set (k := k) (a := a) (G := G) (G' := (G.1, u2 G.2.1 i j v, G.2.2)) hi (fun i' hi' => ⟨rfl, u2_ne hi', rfl⟩)
  rw [e1] at h1 h2
  rw [show (a i, Sum.inr (ci, fL a (G.1, u2 G.2.1 i j v, G.2.2) i sp 0)) = (a i, cE k a (G.1, u2 G.2.1 i j v, G.2.2) i (.inl (ci, sp))) from rfl, e2] at h1 h2
  exact ⟨h1, h2⟩
theorem S_putV (hexec : p.tables.exec = Jvm.exec) (hb : c.code = cc) {own ref C : String} {T : u_T} {N ci index : Nat} {Ts : List Cond} (hts : ∀ w ∈ Ts, w.before args s = true) (hin : ∀ w ∈ u_ws C T N, w ∈ Ts) (ty0 : Nat → FieldType) (hty : ∀ k, k < N → parseFieldDescriptor (T k).2.2.1 = some (ty0 k)) (hnm : ∀ a, a < N → ∀ b, b < N → a ≠ b → (T a).2.1 ≠ (T b).2.1) (hown : s.vm.findClass own = some m.cls) (hK : cK D k s) (hW : Wd D k A a G H) (hS0 : va_S A H0 H locs) {i : Nat} {sp : List Nat} (hi : Ks[i]? = some (.inl (ci, sp))) (hc : classes[ci]? = some (C, T, N)) (j : Nat) (hj : j < N) (hlink : (Cond.fieldLink own index ref (T j).2.1 (T j).2.2.1).before args s = true) (hsame : ∀ x, s.fieldFound? (T j).1 (T j).2.1 (T j).2.2.1 = some x → s.fieldFound? ref (T j).2.1 (T j).2.2.1 = some x) (hfin : (T j).2.2.2 = false) {ty : FieldType} {n : Nat} (hd : parseFieldDescriptor (T j).2.2.1 = some ty) (hn : narrow ty (.ref (a n)) = .ref (a n)) (hfit : fits ty (.ref (a n)) = true) (hcd : sp[j]? = some 2)
    (hdg : decode cc pc = .ok (.putfield index, 3)) (kk : ∀ (G1 : GS) (H1 : Heap) (locs1 : List Loc), G1 = (G.1, G.2.1, u2 G.2.2 i j n) → Wd D k A a G1 H1 → va_S A H0 H1 locs1 → W p l e R s m args below meth c H1 locs1 cells slots Q (F0 m (pc + 3) ls rest)) : W p l e R s m args below meth c H locs cells slots Q (F0 m pc ls (.ref (a n) :: .ref (a i) :: rest)) := by
  refine va_put hexec hb hts hin ty0 hty hnm hown hK.1 hW.1 hW.2 hS0 i (Ws_obj hi) hc j hj hlink hsame hfin hd hn hfit (List.getElem?_eq_some_iff.mp (fL_get (a := a) (G := G) (i := i) hcd)).1 hdg (fun H1 locs1 h1 h2 h3 => kk _ H1 locs1 rfl ?_ h3)
  have e1 : (fL a G i sp 0).set j (.ref (a n)) = fL a (G.1, G.2.1, u2 G.2.2 i j n) i sp 0 := by
    have := fL_set (a := a) (G := G) (G' := (G.1, G.2.1, u2 G.2.2 i j n)) (i := i) hcd (fun j' hj' c9 => by
      match c9 with
      | 0 => rfl
      | 1 => rfl
      | 2 => simp [fV, u2_nj hj']
      | n + 3 => rfl)
    rw [← this]
    simp [fV, u2_at]
  have e2 := Ws_set (k := k) (a := a) (G := G) (G' := (G.1, G.2.1, u2 G.2.2 i j n)) hi (fun i' hi' => ⟨rfl, rfl, u2_ne hi'⟩)
  rw [e1] at h1 h2
  rw [show (a i, Sum.inr (ci, fL a (G.1, G.2.1, u2 G.2.2 i j n) i sp 0)) = (a i, cE k a (G.1, G.2.1, u2 G.2.2 i j n) i (.inl (ci, sp))) from rfl, e2] at h1 h2
  exact ⟨h1, h2⟩
theorem S_iald (hexec : p.tables.exec = Jvm.exec) (hb : c.code = cc) (hK : cK D k s) (hW : Wd D k A a G H) {i n : Nat} (hi : Ks[i]? = some (.inr (1, n))) {x : Int32} (hin : vp_in x n) (hdg : decode cc pc = .ok (.iaload, 1))
    (kk : ∀ v : Int32, v = G.1 i x.toNatClampNeg → W p l e R s m args below meth c H locs cells slots Q (F0 m (pc + 1) ls (.int v :: rest))) : W p l e R s m args below meth c H locs cells slots Q (F0 m pc ls (.int x :: .ref (a i) :: rest)) :=
  va_iald hexec hb hK.1 hW.1 i 1 (f := G.1 i) (Ws_arr hi) rfl hin hdg (kk _ rfl)
theorem S_bald (hexec : p.tables.exec = Jvm.exec) (hb : c.code = cc) (hK : cK D k s) (hW : Wd D k A a G H) {i n : Nat} (hi : Ks[i]? = some (.inr (0, n))) {x : Int32} (hin : vp_in x n) (hdg : decode cc pc = .ok (.baload, 1))
    (kk : ∀ v : Int32, v = G.1 i x.toNatClampNeg → W p l e R s m args below meth c H locs cells slots Q (F0 m (pc + 1) ls (.int v :: rest))) : W p l e R s m args below meth c H locs cells slots Q (F0 m pc ls (.int x :: .ref (a i) :: rest)) :=
  va_bald hexec hb hK.1 hW.1 i 0 (f := G.1 i) (Ws_arr hi) rfl hin hdg (kk _ rfl)
theorem S_zald (hexec : p.tables.exec = Jvm.exec) (hb : c.code = cc) (hK : cK D k s) (hW : Wd D k A a G H) {i n : Nat} (hi : Ks[i]? = some (.inr (3, n))) {x : Int32} (hin : vp_in x n) (hdg : decode cc pc = .ok (.baload, 1))
    (kk : ∀ v : Int32, v = G.1 i x.toNatClampNeg → W p l e R s m args below meth c H locs cells slots Q (F0 m (pc + 1) ls (.int v :: rest))) : W p l e R s m args below meth c H locs cells slots Q (F0 m pc ls (.int x :: .ref (a i) :: rest)) :=
  va_zald hexec hb hK.1 hW.1 i 3 (f := G.1 i) (Ws_arr hi) rfl hin hdg (kk _ rfl)
theorem S_lald (hexec : p.tables.exec = Jvm.exec) (hb : c.code = cc) (hK : cK D k s) (hW : Wd D k A a G H) {i n : Nat} (hi : Ks[i]? = some (.inr (2, n))) {x : Int32} (hin : vp_in x n) (hdg : decode cc pc = .ok (.laload, 1))
    (kk : ∀ v : Int64, v = G.2.1 i x.toNatClampNeg → W p l e R s m args below meth c H locs cells slots Q (F0 m (pc + 1) ls (.long v :: rest))) : W p l e R s m args below meth c H locs cells slots Q (F0 m pc ls (.int x :: .ref (a i) :: rest)) :=
  va_lald hexec hb hK.1 hW.1 i 2 (f := G.2.1 i) (Ws_arr hi) rfl hin hdg (kk _ rfl)
theorem S_aald (hexec : p.tables.exec = Jvm.exec) (hb : c.code = cc) (hK : cK D k s) (hW : Wd D k A a G H) {i n : Nat} (hi : Ks[i]? = some (.inr (4, n))) {x : Int32} (hin : vp_in x n) (hdg : decode cc pc = .ok (.aaload, 1))
    (kk : W p l e R s m args below meth c H locs cells slots Q (F0 m (pc + 1) ls (.ref (a (G.2.2 i x.toNatClampNeg)) :: rest))) : W p l e R s m args below meth c H locs cells slots Q (F0 m pc ls (.int x :: .ref (a i) :: rest)) := by
  have hlt : x.toNatClampNeg < n := Nat.not_le.mp fun q => hin (Or.inr q)
  exact W.aald (v := va_rf (some (a (G.2.2 i x.toNatClampNeg)))) (ty := .array .int) hexec hb (hW.1 i _ (Ws_arr hi)) ((hK.1.2 4 _ rfl).1 n (fun j => va_rf (some (a (G.2.2 i j))))) rfl (fun q => by cases q) (by show ¬ (x < 0 ∨ (arrV _ _ _).slots.size ≤ _); rw [arrV_size]; exact hin) (by show (arrV _ _ _).slots[_]? = _; rw [arrV_read _ _ hlt]) rfl rfl hdg kk
theorem S_alen (hexec : p.tables.exec = Jvm.exec) (hb : c.code = cc) (hK : cK D k s) (hW : Wd D k A a G H) {i n ty : Nat} (hi : Ks[i]? = some (.inr (ty, n))) {fty : FieldType} (t0 : Nat) (ht : (TY5 k)[t0]? = some (aC k ty, fty)) {v : Int32} (hv : Int32.ofNat n = v) (hdg : decode cc pc = .ok (.arraylength, 1))
    (kk : W p l e R s m args below meth c H locs cells slots Q (F0 m (pc + 1) ls (.int v :: rest))) : W p l e R s m args below meth c H locs cells slots Q (F0 m pc ls (.ref (a i) :: rest)) :=
  va_alen hexec hb hK.1 hW.1 i t0 (Ws_arr hi) ht hv hdg kk
theorem aX_i {a : Nat → Nat} {G : GS} {i ty : Nat} (ht : ty ≠ 2 ∧ ty ≠ 4) : aX a G i ty = .inl (G.1 i) := by
  unfold aX
  split
  · exact absurd rfl ht.1
  · exact absurd rfl ht.2
  · rfl
theorem Wd_row {i ty n : Nat} (hi : Ks[i]? = some (.inr (ty, n))) (ht : ty ≠ 2 ∧ ty ≠ 4) {r : Nat → Int32} {f1 : Nat → Nat → Int32} (hr : f1 i = r) (hne : ∀ i', i' ≠ i → f1 i' = G.1 i') {H1 : Heap} (h1 : va_P D classes ((Ws k a G).set i (a i, .inl (aC k ty, n, .inl r))) H1) (h2 : va_D A ((Ws k a G).set i (a i, .inl (aC k ty, n, .inl r)))) : Wd D k A a (f1, G.2) H1 := by
  have e2 := Ws_set (k := k) (a := a) (G := G) (G' := (f1, G.2)) hi (fun i' hi' => ⟨hne i' hi', rfl, rfl⟩)
  have e3 : cE k a (f1, G.2) i (.inr (ty, n)) = .inl (aC k ty, n, .inl r) := by
    show Sum.inl (aC k ty, n, aX a (f1, G.2) i ty) = _
    rw [aX_i ht, ← hr]
  rw [e3] at e2
  rw [e2] at h1 h2
  exact ⟨h1, h2⟩
theorem S_iast (hexec : p.tables.exec = Jvm.exec) (hb : c.code = cc) (hK : cK D k s) (hW : Wd D k A a G H) (hS : va_S A H0 H locs) {i n : Nat} (hi : Ks[i]? = some (.inr (1, n))) {x v : Int32} (hin : vp_in x n) (hdg : decode cc pc = .ok (.iastore, 1))
    (kk : ∀ (G1 : GS) (H1 : Heap) (locs1 : List Loc), G1 = (u2 G.1 i x.toNatClampNeg v, G.2) → Wd D k A a G1 H1 → va_S A H0 H1 locs1 → W p l e R s m args below meth c H1 locs1 cells slots Q (F0 m (pc + 1) ls rest)) : W p l e R s m args below meth c H locs cells slots Q (F0 m pc ls (.int v :: .int x :: .ref (a i) :: rest)) :=
  va_iast hexec hb hK.1 hW.1 hW.2 hS i 1 (f := G.1 i) (Ws_arr hi) rfl hin hdg (fun H1 locs1 h1 h2 h3 => kk _ H1 locs1 rfl (Wd_row hi (by decide) u2_row (fun i' h => u2_ne h) h1 h2) h3)
theorem S_bast (hexec : p.tables.exec = Jvm.exec) (hb : c.code = cc) (hK : cK D k s) (hW : Wd D k A a G H) (hS : va_S A H0 H locs) {i n : Nat} (hi : Ks[i]? = some (.inr (0, n))) {x v : Int32} (hin : vp_in x n) (hdg : decode cc pc = .ok (.bastore, 1))
    (kk : ∀ (G1 : GS) (H1 : Heap) (locs1 : List Loc), G1 = (u2 G.1 i x.toNatClampNeg (vp_nar .byte v), G.2) → Wd D k A a G1 H1 → va_S A H0 H1 locs1 → W p l e R s m args below meth c H1 locs1 cells slots Q (F0 m (pc + 1) ls rest)) : W p l e R s m args below meth c H locs cells slots Q (F0 m pc ls (.int v :: .int x :: .ref (a i) :: rest)) :=
  va_bast hexec hb hK.1 hW.1 hW.2 hS i 0 (f := G.1 i) (Ws_arr hi) rfl hin hdg (fun H1 locs1 h1 h2 h3 => kk _ H1 locs1 rfl (Wd_row hi (by decide) u2_row (fun i' h => u2_ne h) h1 h2) h3)
theorem S_zast (hexec : p.tables.exec = Jvm.exec) (hb : c.code = cc) (hK : cK D k s) (hW : Wd D k A a G H) (hS : va_S A H0 H locs) {i n : Nat} (hi : Ks[i]? = some (.inr (3, n))) {x v : Int32} (hin : vp_in x n) (hdg : decode cc pc = .ok (.bastore, 1))
    (kk : ∀ (G1 : GS) (H1 : Heap) (locs1 : List Loc), G1 = (u2 G.1 i x.toNatClampNeg (vp_nar .boolean v), G.2) → Wd D k A a G1 H1 → va_S A H0 H1 locs1 → W p l e R s m args below meth c H1 locs1 cells slots Q (F0 m (pc + 1) ls rest)) : W p l e R s m args below meth c H locs cells slots Q (F0 m pc ls (.int v :: .int x :: .ref (a i) :: rest)) :=
  va_zast hexec hb hK.1 hW.1 hW.2 hS i 3 (f := G.1 i) (Ws_arr hi) rfl hin hdg (fun H1 locs1 h1 h2 h3 => kk _ H1 locs1 rfl (Wd_row hi (by decide) u2_row (fun i' h => u2_ne h) h1 h2) h3)
theorem S_last (hexec : p.tables.exec = Jvm.exec) (hb : c.code = cc) (hK : cK D k s) (hW : Wd D k A a G H) (hS : va_S A H0 H locs) {i n : Nat} (hi : Ks[i]? = some (.inr (2, n))) {x : Int32} {v : Int64} (hin : vp_in x n) (hdg : decode cc pc = .ok (.lastore, 1))
    (kk : ∀ (G1 : GS) (H1 : Heap) (locs1 : List Loc), G1 = (G.1, u2 G.2.1 i x.toNatClampNeg v, G.2.2) → Wd D k A a G1 H1 → va_S A H0 H1 locs1 → W p l e R s m args below meth c H1 locs1 cells slots Q (F0 m (pc + 1) ls rest)) : W p l e R s m args below meth c H locs cells slots Q (F0 m pc ls (.long v :: .int x :: .ref (a i) :: rest)) := by
  refine va_last hexec hb hK.1 hW.1 hW.2 hS i 2 (f := G.2.1 i) (Ws_arr hi) rfl hin hdg (fun H1 locs1 h1 h2 h3 => kk _ H1 locs1 rfl ?_ h3)
  have e2 := Ws_set (k := k) (a := a) (G := G) (G' := (G.1, u2 G.2.1 i x.toNatClampNeg v, G.2.2)) hi (fun i' hi' => ⟨rfl, u2_ne hi', rfl⟩)
  have e3 : cE k a (G.1, u2 G.2.1 i x.toNatClampNeg v, G.2.2) i (.inr (2, n)) = .inl (aC k 2, n, .inr (.inl (vp_updL (G.2.1 i) x.toNatClampNeg v))) := by
    show Sum.inl (aC k 2, n, Sum.inr (Sum.inl (u2 G.2.1 i x.toNatClampNeg v i))) = _
    rw [u2_rowl]
  rw [e3] at e2
  rw [e2] at h1 h2
  exact ⟨h1, h2⟩
/-- System.arraycopy between two int rows -/
theorem S_copy (hexec : p.tables.exec = Jvm.exec) (hb : c.code = cc) (hml : c.maxLocals = ls.size) {own : String} {index : Nat} (hown : s.vm.findClass own = some m.cls) (hlink : (Cond.methodLink own index arraycopyName).before args s = true) (hnat : (Cond.native arraycopyName).before args s = true) (hstat : (Cond.static arraycopyName).before args s = true) (hini : (Cond.initialized "java/lang/System").before args s = true) (hK : cK D k s) (hW : Wd D k A a G H) (hS : va_S A H0 H locs) {i0 i1 n0 n1 : Nat} (hi0 : Ks[i0]? = some (.inr (1, n0))) (hi1 : Ks[i1]? = some (.inr (1, n1)))
    {sp dp n : Int32} (h1 : 0 ≤ sp.toInt) (h2 : 0 ≤ dp.toInt) (h3 : 0 ≤ n.toInt) (h4 : sp.toInt + n.toInt ≤ n0) (h5 : dp.toInt + n.toInt ≤ n1) (hframes : 1 ≤ R.frames) (hlocals : (rest.map fun v => v.category).sum + (nativeFrameWords "java/lang/System" "arraycopy" 5 + 11) ≤ R.locals) (hdg : decode cc pc = .ok (.invokestatic index, 3))
    (kk : ∀ (G1 : GS) (H1 : Heap) (locs1 : List Loc), G1 = (uR G.1 i1 (va_cpy (G.1 i0) (G.1 i1) sp.toNatClampNeg dp.toNatClampNeg n.toNatClampNeg), G.2) → Wd D k A a G1 H1 → va_S A H0 H1 locs1 → W p l e R s m args below meth c H1 locs1 cells slots Q (F0 m (pc + 3) ls rest)) : W p l e R s m args below meth c H locs cells slots Q (F0 m pc ls (.int n :: .int dp :: .ref (a i1) :: .int sp :: .ref (a i0) :: rest)) := by
  have nn : ∀ z : Int32, 0 ≤ z.toInt → ¬ z < 0 := fun z h q => by
    have := Int32.lt_iff_toInt_lt.mp q
    have e : (0 : Int32).toInt = 0 := rfl
    omega
  have ee : ∀ z : Int32, z.toNatClampNeg = z.toInt.toNat := fun _ => rfl
  refine va_copyi hexec hb hml hown hlink hnat hstat hini hK.1 hW.1 hW.2 hS i0 i1 1 1 (f := G.1 i0) (g := G.1 i1) (Ws_arr hi0) (Ws_arr hi1) rfl rfl rfl (nn _ h1) (nn _ h2) (nn _ h3) (by rw [ee, ee]; omega) (by rw [ee, ee]; omega) (fun _ _ => rfl) hframes hlocals hdg (fun H1 locs1 g1 g2 g3 => kk _ H1 locs1 rfl (Wd_row hi1 (by decide) uR_at (fun i' h => uR_ne h) g1 g2) g3)
end SR
/-- ints as numbers -/
theorem tI_add {x y z : Int32} (e : z = x + y) (h1 : -2147483648 ≤ x.toInt + y.toInt) (h2 : x.toInt + y.toInt ≤ 2147483647) : z.toInt = x.toInt + y.toInt := by
  rw [e, Int32.toInt_add, Int.bmod_eq_of_le (by omega) (by omega)]
theorem tI_sub {x y z : Int32} (e : z = x - y) (h1 : -2147483648 ≤ x.toInt - y.toInt) (h2 : x.toInt - y.toInt ≤ 2147483647) : z.toInt = x.toInt - y.toInt := by
  rw [e, Int32.toInt_sub, Int.bmod_eq_of_le (by omega) (by omega)]
theorem tI_mul {x y z : Int32} (e : z = x * y) (h1 : -2147483648 ≤ x.toInt * y.toInt) (h2 : x.toInt * y.toInt ≤ 2147483647) : z.toInt = x.toInt * y.toInt := by
  rw [e, Int32.toInt_mul, Int.bmod_eq_of_le (by omega) (by omega)]
theorem tI_lt {x y : Int32} (h : x < y) : x.toInt < y.toInt := Int32.lt_iff_toInt_lt.mp h
theorem tI_le {x y : Int32} (h : x ≤ y) : x.toInt ≤ y.toInt := Int32.le_iff_toInt_le.mp h
theorem tI_nlt {x y : Int32} (h : ¬ x < y) : y.toInt ≤ x.toInt := tI_le (Int32.not_lt.mp h)
theorem tI_nle {x y : Int32} (h : ¬ x ≤ y) : y.toInt < x.toInt := tI_lt (Int32.not_le.mp h)
theorem tI_eq {x y : Int32} (h : x = y) : x.toInt = y.toInt := by rw [h]
theorem tI_ne {x y : Int32} (h : ¬ x = y) : x.toInt ≠ y.toInt := fun q => h (Int32.toInt_inj.mp q)
theorem tI_rng (x : Int32) : -2147483648 ≤ x.toInt ∧ x.toInt ≤ 2147483647 := by
  have h1 := Int32.le_toInt x
  have h2 := Int32.toInt_lt x
  omega
