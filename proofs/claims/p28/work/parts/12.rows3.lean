def nin (i : Nat) : List Nat → Bool
  | [] => true
  | a :: t => match Nat.beq i a with
    | true => false
    | false => nin i t
def nin2 (i j : Nat) : List (Nat × Nat) → Bool
  | [] => true
  | (x, y) :: t => match Nat.beq i x with
    | false => nin2 i j t
    | true => match Nat.beq j y with
      | true => false
      | false => nin2 i j t
def subs : List Nat → List Nat → Bool
  | _, [] => true
  | [], _ :: _ => false
  | b :: u, a :: t => match Nat.beq a b with
    | true => subs u t
    | false => subs u (a :: t)
def subp : List (Nat × Nat) → List (Nat × Nat) → Bool
  | _, [] => true
  | [], _ :: _ => false
  | (b, c) :: u, (x, y) :: t => match Nat.beq x b with
    | false => subp u ((x, y) :: t)
    | true => match Nat.beq y c with
      | true => subp u t
      | false => subp u ((x, y) :: t)
def rem9 (rs : List Nat) : List (Nat × Nat) → List (Nat × Nat)
  | [] => []
  | x :: t => match nin x.1 rs with
    | true => x :: rem9 rs t
    | false => rem9 rs t
def gr9 (rs : List Nat) (fs : List (Nat × Nat)) : List Nat → Bool
  | [] => true
  | i :: t => match nin i rs with
    | false => false
    | true => match nin i (fs.map (fun x => x.1)) with
      | false => false
      | true => gr9 rs fs t
def gf9 (rs : List Nat) (fs : List (Nat × Nat)) : List (Nat × Nat) → Bool
  | [] => true
  | y :: t => match nin y.1 rs with
    | false => false
    | true => match nin2 y.1 y.2 fs with
      | false => false
      | true => gf9 rs fs t
theorem nin_q {i : Nat} {l : List Nat} (h : nin i l = true) : i ∉ l := by
  induction l with
  | nil => exact List.not_mem_nil
  | cons a t ih =>
    unfold nin at h
    cases hb : Nat.beq i a with
    | true =>
      rw [hb] at h
      exact absurd (show false = true from h) (by decide)
    | false =>
      rw [hb] at h
      intro q
      rcases List.mem_cons.mp q with e | q
      · exact Nat.ne_of_beq_eq_false hb e
      · exact ih h q
theorem nin_n {i : Nat} {l : List Nat} (h : nin i l = false) : i ∈ l := by
  induction l with
  | nil => exact absurd (show true = false from h) (by decide)
  | cons a t ih =>
    unfold nin at h
    cases hb : Nat.beq i a with
    | true => exact List.mem_cons.mpr (Or.inl (Nat.eq_of_beq_eq_true hb))
    | false =>
      rw [hb] at h
      exact List.mem_cons_of_mem _ (ih h)
theorem nin2_q {i j : Nat} {l : List (Nat × Nat)} (h : nin2 i j l = true) : (i, j) ∉ l := by
  induction l with
  | nil => exact List.not_mem_nil
  | cons a t ih =>
    obtain ⟨x, y⟩ := a
    unfold nin2 at h
    intro q
    cases h1 : Nat.beq i x with
    | false =>
      rw [h1] at h
      rcases List.mem_cons.mp q with e | q
      · exact Nat.ne_of_beq_eq_false h1 (congrArg Prod.fst e)
      · exact ih h q
    | true =>
      rw [h1] at h
      cases h2 : Nat.beq j y with
      | true =>
        rw [h2] at h
        exact absurd (show false = true from h) (by decide)
      | false =>
        rw [h2] at h
        rcases List.mem_cons.mp q with e | q
        · exact Nat.ne_of_beq_eq_false h2 (congrArg Prod.snd e)
        · exact ih h q
theorem subs_q {rs : List Nat} : ∀ {rs1 : List Nat}, subs rs rs1 = true → ∀ x ∈ rs1, x ∈ rs := by
  induction rs with
  | nil =>
    intro rs1 h x hx
    cases rs1 with
    | nil => exact hx
    | cons a t => exact absurd (show false = true from h) (by decide)
  | cons b u ih =>
    intro rs1 h x hx
    cases rs1 with
    | nil => exact absurd hx List.not_mem_nil
    | cons a t =>
      unfold subs at h
      cases hb : Nat.beq a b with
      | true =>
        rw [hb] at h
        rcases List.mem_cons.mp hx with e | hx
        · exact List.mem_cons.mpr (Or.inl (e.trans (Nat.eq_of_beq_eq_true hb)))
        · exact List.mem_cons_of_mem _ (ih h x hx)
      | false =>
        rw [hb] at h
        exact List.mem_cons_of_mem _ (ih h x hx)
theorem subp_q {rs : List (Nat × Nat)} : ∀ {rs1 : List (Nat × Nat)}, subp rs rs1 = true → ∀ x ∈ rs1, x ∈ rs := by
  induction rs with
  | nil =>
    intro rs1 h x hx
    cases rs1 with
    | nil => exact hx
    | cons a t => exact absurd (show false = true from h) (by decide)
  | cons b u ih =>
    intro rs1 h x hx
    cases rs1 with
    | nil => exact absurd hx List.not_mem_nil
    | cons a t =>
      obtain ⟨b1, b2⟩ := b
      obtain ⟨a1, a2⟩ := a
      unfold subp at h
      cases h1 : Nat.beq a1 b1 with
      | false =>
        rw [h1] at h
        exact List.mem_cons_of_mem _ (ih h x hx)
      | true =>
        rw [h1] at h
        cases h2 : Nat.beq a2 b2 with
        | false =>
          rw [h2] at h
          exact List.mem_cons_of_mem _ (ih h x hx)
        | true =>
          rw [h2] at h
          rcases List.mem_cons.mp hx with e | hx
          · rw [e, Nat.eq_of_beq_eq_true h1, Nat.eq_of_beq_eq_true h2]
            exact List.mem_cons_self
          · exact List.mem_cons_of_mem _ (ih h x hx)
theorem rem9_q {rs : List Nat} {l : List (Nat × Nat)} {x : Nat × Nat} (h : x ∈ l) : x.1 ∈ rs ∨ x ∈ rem9 rs l := by
  induction l with
  | nil => exact absurd h List.not_mem_nil
  | cons a t ih =>
    unfold rem9
    cases hb : nin a.1 rs with
    | true =>
      rcases List.mem_cons.mp h with e | h
      · exact Or.inr (by rw [e]; exact List.mem_cons_self)
      · exact (ih h).imp id (fun q => List.mem_cons_of_mem _ q)
    | false =>
      rcases List.mem_cons.mp h with e | h
      · exact Or.inl (by rw [e]; exact nin_n hb)
      · exact ih h
theorem gr_q {rs : List Nat} {fs : List (Nat × Nat)} {l : List Nat} (h : gr9 rs fs l = true) : ∀ i ∈ l, i ∉ rs ∧ ∀ x ∈ fs, x.1 ≠ i := by
  induction l with
  | nil => exact fun i hi => absurd hi List.not_mem_nil
  | cons a t ih =>
    unfold gr9 at h
    cases h1 : nin a rs with
    | false =>
      rw [h1] at h
      exact absurd (show false = true from h) (by decide)
    | true =>
      rw [h1] at h
      cases h2 : nin a (fs.map (fun x => x.1)) with
      | false =>
        rw [h2] at h
        exact absurd (show false = true from h) (by decide)
      | true =>
        rw [h2] at h
        intro i hi
        rcases List.mem_cons.mp hi with e | hi
        · subst e
          exact ⟨nin_q h1, fun x hx e => nin_q h2 (List.mem_map.mpr ⟨x, hx, e⟩)⟩
        · exact ih h i hi
theorem gf_q {rs : List Nat} {fs : List (Nat × Nat)} {l : List (Nat × Nat)} (h : gf9 rs fs l = true) : ∀ y ∈ l, y.1 ∉ rs ∧ y ∉ fs := by
  induction l with
  | nil => exact fun i hi => absurd hi List.not_mem_nil
  | cons a t ih =>
    unfold gf9 at h
    cases h1 : nin a.1 rs with
    | false =>
      rw [h1] at h
      exact absurd (show false = true from h) (by decide)
    | true =>
      rw [h1] at h
      cases h2 : nin2 a.1 a.2 fs with
      | false =>
        rw [h2] at h
        exact absurd (show false = true from h) (by decide)
      | true =>
        rw [h2] at h
        intro i hi
        rcases List.mem_cons.mp hi with e | hi
        · subst e
          exact ⟨nin_q h1, nin2_q h2⟩
        · exact ih h i hi
theorem Fr.i9 {rs : List Nat} {fs : List (Nat × Nat)} {G G1 : GS} (h : Fr rs fs G G1) (i j : Nat) (h1 : nin i rs = true) (h2 : nin2 i j fs = true) : G1.1 i j = G.1 i j := (h i j (nin_q h1) (nin2_q h2)).1
theorem Fr.l9 {rs : List Nat} {fs : List (Nat × Nat)} {G G1 : GS} (h : Fr rs fs G G1) (i j : Nat) (h1 : nin i rs = true) (h2 : nin2 i j fs = true) : G1.2.1 i j = G.2.1 i j := (h i j (nin_q h1) (nin2_q h2)).2.1
theorem Fr.r9 {rs : List Nat} {fs : List (Nat × Nat)} {G G1 : GS} (h : Fr rs fs G G1) (i j : Nat) (h1 : nin i rs = true) (h2 : nin2 i j fs = true) : G1.2.2 i j = G.2.2 i j := (h i j (nin_q h1) (nin2_q h2)).2.2
theorem Fr.ri9 {rs : List Nat} {fs : List (Nat × Nat)} {G G1 : GS} (h : Fr rs fs G G1) (i : Nat) (h1 : gr9 rs fs [i] = true) (j : Nat) : G1.1 i j = G.1 i j := h.ri i (gr_q h1 i List.mem_cons_self).1 (gr_q h1 i List.mem_cons_self).2 j
theorem Fr.call9 {rs rs1 : List Nat} {fs fs1 : List (Nat × Nat)} {G0 G G1 : GS} (h : Fr rs fs G0 G) (h1 : Fr rs1 fs1 G G1) (s1 : subs rs rs1 = true) (s2 : subp fs (rem9 rs fs1) = true) : Fr rs fs G0 G1 := h.call h1 (subs_q s1) (fun x hx => (rem9_q (rs := rs) hx).elim Or.inr (fun q => Or.inl (subp_q s2 x q)))
theorem lt_b {j n : Nat} (h : Nat.ble (j + 1) n = true) : j < n := Nat.le_of_ble_eq_true h
section SC3
variable {p : Program} {l : Launch} {e : Env} {R : Room} {s : State} {m : MethodId} {args : Array Value} {below : List Frame} {meth : Method} {c : Code} {H : Heap} {locs : List Loc} {cells slots : Nat} {Q : State → Prop}
variable {cc : ByteArray} {pc : Nat} {ls : Array Slot} {rest : List Value}
theorem ic_m1 (hx : p.tables.exec = Jvm.exec) (hb : c.code = cc) (hd : decode cc pc = .ok (.iconst (-1), 1)) (kk : W p l e R s m args below meth c H locs cells slots Q (F0 m (pc + 1) ls (.int (-1) :: rest))) : W p l e R s m args below meth c H locs cells slots Q (F0 m pc ls rest) := lv_iconst (v := (-1)) hx hb hd (by decide) kk
theorem ic_0 (hx : p.tables.exec = Jvm.exec) (hb : c.code = cc) (hd : decode cc pc = .ok (.iconst 0, 1)) (kk : W p l e R s m args below meth c H locs cells slots Q (F0 m (pc + 1) ls (.int 0 :: rest))) : W p l e R s m args below meth c H locs cells slots Q (F0 m pc ls rest) := lv_iconst (v := 0) hx hb hd (by decide) kk
theorem ic_1 (hx : p.tables.exec = Jvm.exec) (hb : c.code = cc) (hd : decode cc pc = .ok (.iconst 1, 1)) (kk : W p l e R s m args below meth c H locs cells slots Q (F0 m (pc + 1) ls (.int 1 :: rest))) : W p l e R s m args below meth c H locs cells slots Q (F0 m pc ls rest) := lv_iconst (v := 1) hx hb hd (by decide) kk
theorem ic_2 (hx : p.tables.exec = Jvm.exec) (hb : c.code = cc) (hd : decode cc pc = .ok (.iconst 2, 1)) (kk : W p l e R s m args below meth c H locs cells slots Q (F0 m (pc + 1) ls (.int 2 :: rest))) : W p l e R s m args below meth c H locs cells slots Q (F0 m pc ls rest) := lv_iconst (v := 2) hx hb hd (by decide) kk
theorem ic_3 (hx : p.tables.exec = Jvm.exec) (hb : c.code = cc) (hd : decode cc pc = .ok (.iconst 3, 1)) (kk : W p l e R s m args below meth c H locs cells slots Q (F0 m (pc + 1) ls (.int 3 :: rest))) : W p l e R s m args below meth c H locs cells slots Q (F0 m pc ls rest) := lv_iconst (v := 3) hx hb hd (by decide) kk
theorem ic_4 (hx : p.tables.exec = Jvm.exec) (hb : c.code = cc) (hd : decode cc pc = .ok (.iconst 4, 1)) (kk : W p l e R s m args below meth c H locs cells slots Q (F0 m (pc + 1) ls (.int 4 :: rest))) : W p l e R s m args below meth c H locs cells slots Q (F0 m pc ls rest) := lv_iconst (v := 4) hx hb hd (by decide) kk
theorem ic_5 (hx : p.tables.exec = Jvm.exec) (hb : c.code = cc) (hd : decode cc pc = .ok (.iconst 5, 1)) (kk : W p l e R s m args below meth c H locs cells slots Q (F0 m (pc + 1) ls (.int 5 :: rest))) : W p l e R s m args below meth c H locs cells slots Q (F0 m pc ls rest) := lv_iconst (v := 5) hx hb hd (by decide) kk
end SC3
theorem pre_W {D : va_G} {k : KT} {A : Nat → Prop} {a : Nat → Nat} {z : SK} {G : GS} {As : List Value} {s : State} {H : Heap} {locs : List Loc} (hW : Wd D k A a G H) (hB : Bd G) (hK : cK D k s) (hZ : Sx A z s) (hS : va_S A s.heap H locs) {i ci : Nat} {sp : List Nat} {C : String} {T : u_T} {N : Nat} (hi : Ks[i]? = some (.inl (ci, sp))) (hc : classes[ci]? = some (C, T, N)) : PreV s H C (a i) (va_Pc (.ref (a i) :: As) (cW D k A a z G)) As :=
  pre_V hW hB hK hZ hS hi hc
