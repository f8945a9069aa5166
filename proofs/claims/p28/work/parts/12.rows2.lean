/-- nothing has changed but the rows rs and the places fs -/
def Fr (rs : List Nat) (fs : List (Nat × Nat)) (G G1 : GS) : Prop := ∀ i j, i ∉ rs → (i, j) ∉ fs → G1.1 i j = G.1 i j ∧ G1.2.1 i j = G.2.1 i j ∧ G1.2.2 i j = G.2.2 i j
theorem Fr.rf {rs : List Nat} {fs : List (Nat × Nat)} {G : GS} : Fr rs fs G G := fun _ _ _ _ => ⟨rfl, rfl, rfl⟩
theorem u2_off {α : Type} {f : Nat → Nat → α} {i j i' j' : Nat} {v : α} (h : ¬ (i' = i ∧ j' = j)) : u2 f i j v i' j' = f i' j' := by
  by_cases hi : i' = i
  · by_cases hj : j' = j
    · exact absurd ⟨hi, hj⟩ h
    · subst hi
      exact u2_nj hj
  · exact u2_ni hi
theorem fr_off {rs : List Nat} {fs : List (Nat × Nat)} {i j i' j' : Nat} (hm : i ∈ rs ∨ (i, j) ∈ fs) (h1 : i' ∉ rs) (h2 : (i', j') ∉ fs) : ¬ (i' = i ∧ j' = j) := by
  rintro ⟨rfl, rfl⟩
  rcases hm with h | h
  · exact h1 h
  · exact h2 h
theorem Fr.put {rs : List Nat} {fs : List (Nat × Nat)} {G0 G G1 : GS} {i j : Nat} {v : Int32} (h : Fr rs fs G0 G) (e : G1 = (u2 G.1 i j v, G.2)) (hm : i ∈ rs ∨ (i, j) ∈ fs) : Fr rs fs G0 G1 := by
  subst e
  intro i' j' h1 h2
  obtain ⟨g1, g2, g3⟩ := h i' j' h1 h2
  exact ⟨(u2_off (fr_off hm h1 h2)).trans g1, g2, g3⟩
theorem Fr.putl {rs : List Nat} {fs : List (Nat × Nat)} {G0 G G1 : GS} {i j : Nat} {v : Int64} (h : Fr rs fs G0 G) (e : G1 = (G.1, u2 G.2.1 i j v, G.2.2)) (hm : i ∈ rs ∨ (i, j) ∈ fs) : Fr rs fs G0 G1 := by
  subst e
  intro i' j' h1 h2
  obtain ⟨g1, g2, g3⟩ := h i' j' h1 h2
  exact ⟨g1, (u2_off (fr_off hm h1 h2)).trans g2, g3⟩
theorem Fr.putr {rs : List Nat} {fs : List (Nat × Nat)} {G0 G G1 : GS} {i j n : Nat} (h : Fr rs fs G0 G) (e : G1 = (G.1, G.2.1, u2 G.2.2 i j n)) (hm : i ∈ rs ∨ (i, j) ∈ fs) : Fr rs fs G0 G1 := by
  subst e
  intro i' j' h1 h2
  obtain ⟨g1, g2, g3⟩ := h i' j' h1 h2
  exact ⟨g1, g2, (u2_off (fr_off hm h1 h2)).trans g3⟩
theorem Fr.row {rs : List Nat} {fs : List (Nat × Nat)} {G0 G G1 : GS} {i : Nat} {r : Nat → Int32} (h : Fr rs fs G0 G) (e : G1 = (uR G.1 i r, G.2)) (hm : i ∈ rs) : Fr rs fs G0 G1 := by
  subst e
  intro i' j' h1 h2
  obtain ⟨g1, g2, g3⟩ := h i' j' h1 h2
  exact ⟨(congrFun (uR_ne (fun q => h1 (by rw [q]; exact hm))) j').trans g1, g2, g3⟩
theorem Fr.call {rs rs1 : List Nat} {fs fs1 : List (Nat × Nat)} {G0 G G1 : GS} (h : Fr rs fs G0 G) (h1 : Fr rs1 fs1 G G1) (s1 : ∀ x ∈ rs1, x ∈ rs) (s2 : ∀ x ∈ fs1, x ∈ fs ∨ x.1 ∈ rs) : Fr rs fs G0 G1 := by
  intro i j a1 a2
  obtain ⟨g1, g2, g3⟩ := h i j a1 a2
  obtain ⟨q1, q2, q3⟩ := h1 i j (fun q => a1 (s1 i q)) (fun q => (s2 _ q).elim a2 a1)
  exact ⟨q1.trans g1, q2.trans g2, q3.trans g3⟩
theorem Fr.i {rs : List Nat} {fs : List (Nat × Nat)} {G G1 : GS} (h : Fr rs fs G G1) (i j : Nat) (h1 : i ∉ rs) (h2 : (i, j) ∉ fs) : G1.1 i j = G.1 i j := (h i j h1 h2).1
theorem Fr.l {rs : List Nat} {fs : List (Nat × Nat)} {G G1 : GS} (h : Fr rs fs G G1) (i j : Nat) (h1 : i ∉ rs) (h2 : (i, j) ∉ fs) : G1.2.1 i j = G.2.1 i j := (h i j h1 h2).2.1
theorem Fr.r {rs : List Nat} {fs : List (Nat × Nat)} {G G1 : GS} (h : Fr rs fs G G1) (i j : Nat) (h1 : i ∉ rs) (h2 : (i, j) ∉ fs) : G1.2.2 i j = G.2.2 i j := (h i j h1 h2).2.2
theorem Fr.ri {rs : List Nat} {fs : List (Nat × Nat)} {G G1 : GS} (h : Fr rs fs G G1) (i : Nat) (h1 : i ∉ rs) (h2 : ∀ x ∈ fs, x.1 ≠ i) (j : Nat) : G1.1 i j = G.1 i j := (h i j h1 (fun q => h2 _ q rfl)).1
theorem gp_eq {G G1 : GS} {i j : Nat} {v : Int32} (e : G1 = (u2 G.1 i j v, G.2)) : G1.1 i j = v := by subst e; exact u2_at
theorem gp_ne {G G1 : GS} {i j i' j' : Nat} {v : Int32} (e : G1 = (u2 G.1 i j v, G.2)) (h : ¬ (i' = i ∧ j' = j)) : G1.1 i' j' = G.1 i' j' := by subst e; exact u2_off h
theorem gp_l {G G1 : GS} {i j : Nat} {v : Int64} (e : G1 = (G.1, u2 G.2.1 i j v, G.2.2)) : G1.1 = G.1 ∧ G1.2.2 = G.2.2 := by subst e; exact ⟨rfl, rfl⟩
theorem gp_r {G G1 : GS} {i j n : Nat} (e : G1 = (G.1, G.2.1, u2 G.2.2 i j n)) : G1.1 = G.1 ∧ G1.2.1 = G.2.1 := by subst e; exact ⟨rfl, rfl⟩
theorem gp_re {G G1 : GS} {i j n : Nat} (e : G1 = (G.1, G.2.1, u2 G.2.2 i j n)) : G1.2.2 i j = n := by subst e; exact u2_at
theorem gp_rn {G G1 : GS} {i j n i' j' : Nat} (e : G1 = (G.1, G.2.1, u2 G.2.2 i j n)) (h : ¬ (i' = i ∧ j' = j)) : G1.2.2 i' j' = G.2.2 i' j' := by subst e; exact u2_off h
theorem gp_row {G G1 : GS} {i i' j' : Nat} {r : Nat → Int32} (e : G1 = (uR G.1 i r, G.2)) (h : i' ≠ i) : G1.1 i' j' = G.1 i' j' := by subst e; exact congrFun (uR_ne h) j'
theorem RB.put {G G1 : GS} {i j : Nat} {v : Int32} (h : RB G) (e : G1 = (u2 G.1 i j v, G.2)) (hq : rbq i j = false) : RB G1 := by
  subst e
  exact h.congr (fun i' j' h' => u2_off (fun q => by rw [q.1, q.2, hq] at h'; cases h')) rfl
theorem RB.row {G G1 : GS} {i : Nat} {r : Nat → Int32} (h : RB G) (e : G1 = (uR G.1 i r, G.2)) (hq : ∀ j, rbq i j = false) : RB G1 := by
  subst e
  exact h.congr (fun i' j' h' => congrFun (uR_ne (fun q => by rw [q, hq] at h'; cases h')) j') rfl
theorem Bd.put {G G1 : GS} {i j : Nat} {v : Int32} (h : Bd G) (e : G1 = (u2 G.1 i j v, G.2)) {V lo hi : Int} (hv : v.toInt = V) (hlo : loB i j = lo) (hhi : hiB i j = hi) (h1 : lo ≤ V) (h2 : V ≤ hi) (hr : RB G1) : Bd G1 := by
  subst e
  exact h.up (by rw [hlo, hv]; exact h1) (by rw [hhi, hv]; exact h2) hr
theorem Bd.rowp {G G1 : GS} {i : Nat} {r : Nat → Int32} (h : Bd G) (e : G1 = (uR G.1 i r, G.2)) (h1 : ∀ j, loB i j ≤ (r j).toInt ∧ (r j).toInt ≤ hiB i j) (hr : RB G1) : Bd G1 := by
  subst e
  exact h.upR h1 hr
theorem Bd.putl {G G1 : GS} {i j : Nat} {v : Int64} (h : Bd G) (e : G1 = (G.1, u2 G.2.1 i j v, G.2.2)) : Bd G1 := by
  subst e
  exact ⟨h.1, h.2.1, h.2.2⟩
theorem RBr.put {r : Nat → Nat → Nat} {i j n : Nat} (h : RBr r) (hn : n = 1 ∨ n = 2) (hi : i ≠ 41) : RBr (u2 r i j n) := by
  obtain ⟨h1, h2, h3, h4, h5, h6⟩ := h
  have q : ∀ i' j', (r i' j' = 1 ∨ r i' j' = 2) → (u2 r i j n i' j' = 1 ∨ u2 r i j n i' j' = 2) := fun i' j' h => by
    by_cases hq : i' = i ∧ j' = j
    · obtain ⟨rfl, rfl⟩ := hq
      rw [u2_at]
      exact hn
    · rw [u2_off hq]
      exact h
  exact ⟨q _ _ h1, q _ _ h2, q _ _ h3, q _ _ h4, q _ _ h5, fun j' hj => by rw [u2_ni (fun e => hi e.symm)]; exact h6 j' hj⟩
theorem Bd.putr {G G1 : GS} {i j n : Nat} (h : Bd G) (e : G1 = (G.1, G.2.1, u2 G.2.2 i j n)) (hn : n = 1 ∨ n = 2) (hi : i ≠ 41) : Bd G1 := by
  subst e
  exact ⟨h.1, h.2.1.put hn hi, h.2.2⟩
theorem Bd.v {G : GS} (h : Bd G) {i j : Nat} {v : Int32} (e : v = G.1 i j) {lo hi : Int} (h1 : loB i j = lo) (h2 : hiB i j = hi) : lo ≤ v.toInt ∧ v.toInt ≤ hi := by
  rw [e]
  exact h.i i j h1 h2
section SC
variable {p : Program} {l : Launch} {e : Env} {R : Room} {s : State} {m : MethodId} {args : Array Value} {below : List Frame} {meth : Method} {c : Code} {H : Heap} {locs : List Loc} {cells slots : Nat} {Q : State → Prop}
variable {cc : ByteArray} {pc : Nat} {ls : Array Slot} {rest st0 : List Value} {D : va_G} {k : KT} {A : Nat → Prop} {a : Nat → Nat} {av : Array Value} {H0 : Heap}
theorem S_calli {post : Int32 → GS → Prop} (hr : va_Run p l e R s m args below meth c H locs cells slots 0 0 (F0 m pc ls st0) rest (va_Qi post (fun (G' : GS) t => Wd D k A a G' t.heap) A av) A) (hS : va_S A H0 H locs)
    (kk : ∀ (r : Int32) (G1 : GS) (H1 : Heap) (locs1 : List Loc), post r G1 → Wd D k A a G1 H1 → va_S A H0 H1 locs1 → W p l e R s m args below meth c H1 locs1 cells slots Q (F0 m (pc + 3) ls (.int r :: rest))) : W p l e R s m args below meth c H locs cells slots Q (F0 m pc ls st0) :=
  va_calli hr hS (fun _ _ h => h) (fun _ h => h) (fun r u t H1 locs1 ht _ hp hB _ _ hS1 => kk r u H1 locs1 hp (by rw [← ht]; exact hB) hS1)
theorem S_calll {post : Int64 → GS → Prop} (hr : va_Run p l e R s m args below meth c H locs cells slots 0 0 (F0 m pc ls st0) rest (va_Ql post (fun (G' : GS) t => Wd D k A a G' t.heap) A av) A) (hS : va_S A H0 H locs)
    (kk : ∀ (r : Int64) (G1 : GS) (H1 : Heap) (locs1 : List Loc), post r G1 → Wd D k A a G1 H1 → va_S A H0 H1 locs1 → W p l e R s m args below meth c H1 locs1 cells slots Q (F0 m (pc + 3) ls (.long r :: rest))) : W p l e R s m args below meth c H locs cells slots Q (F0 m pc ls st0) :=
  va_calll hr hS (fun _ _ h => h) (fun _ h => h) (fun r u t H1 locs1 ht _ hp hB _ _ hS1 => kk r u H1 locs1 hp (by rw [← ht]; exact hB) hS1)
theorem S_callv {post : GS → Prop} (hr : va_Run p l e R s m args below meth c H locs cells slots 0 0 (F0 m pc ls st0) rest (va_Qv post (fun (G' : GS) t => Wd D k A a G' t.heap) A av) A) (hS : va_S A H0 H locs)
    (kk : ∀ (G1 : GS) (H1 : Heap) (locs1 : List Loc), post G1 → Wd D k A a G1 H1 → va_S A H0 H1 locs1 → W p l e R s m args below meth c H1 locs1 cells slots Q (F0 m (pc + 3) ls rest)) : W p l e R s m args below meth c H locs cells slots Q (F0 m pc ls st0) :=
  va_callv hr hS (fun _ _ h => h) (fun _ h => h) (fun u t H1 locs1 ht _ hp hB _ _ hS1 => kk u H1 locs1 hp (by rw [← ht]; exact hB) hS1)
theorem loop_N {Inv : Nat → Heap → List Loc → Array Slot → Prop} (body : ∀ (n : Nat) (H : Heap) (locs : List Loc) (ls : Array Slot), (∀ n', n' < n → ∀ (H1 : Heap) (locs1 : List Loc) (ls1 : Array Slot), Inv n' H1 locs1 ls1 → W p l e R s m args below meth c H1 locs1 cells slots Q (F0 m pc ls1 [])) → Inv n H locs ls → W p l e R s m args below meth c H locs cells slots Q (F0 m pc ls [])) (n : Nat) {H : Heap} {locs : List Loc} {ls : Array Slot} (h : Inv n H locs ls) : W p l e R s m args below meth c H locs cells slots Q (F0 m pc ls []) := by
  induction n using Nat.strongRecOn generalizing H locs ls with
  | ind n ih => exact body n H locs ls (fun n' h' H1 locs1 ls1 hI => ih n' h' hI) h
theorem W.cut {σ : Type} {pcJ : Nat} {J : σ → Heap → List Loc → Array Slot → Prop} {stJ : σ → List Value} {g : JFrame} (hj : ∀ (y : σ) (H : Heap) (locs : List Loc) (ls : Array Slot), J y H locs ls → W p l e R s m args below meth c H locs cells slots Q (F0 m pcJ ls (stJ y))) (k9 : (∀ (y : σ) (H : Heap) (locs : List Loc) (ls : Array Slot), J y H locs ls → W p l e R s m args below meth c H locs cells slots Q (F0 m pcJ ls (stJ y))) → W p l e R s m args below meth c H locs cells slots Q g) : W p l e R s m args below meth c H locs cells slots Q g := k9 hj
theorem rows_at {n n' : Nat} (h : n' = n) (kk : W p l e R s m args below meth c H locs cells slots Q (F0 m pc ls (.ref (a n) :: rest))) : W p l e R s m args below meth c H locs cells slots Q (F0 m pc ls (.ref (a n') :: rest)) := by subst h; exact kk
end SC
theorem rows_c {G : GS} (h : Bd G) (j : Nat) (hj : j < 4) : G.2.2 41 j = 42 + j := h.2.1.2.2.2.2.2 j hj
theorem rows_v {G : GS} (h : Bd G) {x : Int32} (h0 : 0 ≤ x.toInt) (h1 : x.toInt < 4) : ∃ w, G.2.2 41 x.toNatClampNeg = w ∧ Ks[w]? = some (.inr (1, 402)) ∧ (w = 42 ∨ w = 43 ∨ w = 44 ∨ w = 45) := by
  refine ⟨_, rows_c h x.toNatClampNeg (by have : x.toNatClampNeg = x.toInt.toNat := rfl; omega), ?_, ?_⟩
  · have : x.toNatClampNeg = x.toInt.toNat := rfl
    rcases (show x.toNatClampNeg = 0 ∨ x.toNatClampNeg = 1 ∨ x.toNatClampNeg = 2 ∨ x.toNatClampNeg = 3 by omega) with q | q | q | q <;> rw [q] <;> rfl
  · have : x.toNatClampNeg = x.toInt.toNat := rfl
    omega
theorem rows_w {G : GS} (h : Bd G) {x : Int32} (h0 : 0 ≤ x.toInt) (h1 : x.toInt < 4) : ∃ w, G.2.2 41 x.toNatClampNeg = w ∧ Ks[w]? = some (.inr (1, 402)) ∧ (w = 42 ∨ w = 43 ∨ w = 44 ∨ w = 45) ∧ w = 42 + x.toNatClampNeg := by
  have hx : x.toNatClampNeg = x.toInt.toNat := rfl
  refine ⟨42 + x.toNatClampNeg, rows_c h x.toNatClampNeg (by omega), ?_, by omega, rfl⟩
  rcases (show x.toNatClampNeg = 0 ∨ x.toNatClampNeg = 1 ∨ x.toNatClampNeg = 2 ∨ x.toNatClampNeg = 3 by omega) with q | q | q | q <;> rw [q] <;> rfl
theorem lcmp_rng {z : Int32} {x y : Int64} (e : z = lg_cmp x y) : -1 ≤ z.toInt ∧ z.toInt ≤ 1 := by
  subst e
  unfold lg_cmp
  split
  · decide
  · split <;> decide
theorem xI_max {x y z : Int32} {X Y : Int} (hx : x.toInt = X) (hy : y.toInt = Y) (e : z = if x < y then y else x) : (z.toInt = X ∧ Y ≤ X) ∨ (z.toInt = Y ∧ X < Y) := by
  subst hx; subst hy; subst e
  by_cases h : x < y
  · rw [if_pos h]; exact Or.inr ⟨rfl, tI_lt h⟩
  · rw [if_neg h]; exact Or.inl ⟨rfl, tI_nlt h⟩
theorem xI_min {x y z : Int32} {X Y : Int} (hx : x.toInt = X) (hy : y.toInt = Y) (e : z = if y < x then y else x) : (z.toInt = X ∧ X ≤ Y) ∨ (z.toInt = Y ∧ Y < X) := by
  subst hx; subst hy; subst e
  by_cases h : y < x
  · rw [if_pos h]; exact Or.inr ⟨rfl, tI_lt h⟩
  · rw [if_neg h]; exact Or.inl ⟨rfl, tI_nlt h⟩
theorem tb_out {x : Int32} {lo hi : Int} (h : x.toInt < lo ∨ hi < x.toInt) : x.toInt < lo ∨ hi < x.toInt := h
theorem len_n {x : Int32} {n : Nat} (e : x = Int32.ofNat n) (hn : n ≤ 4096) : x.toInt = n := by
  subst e
  rw [Int32.toInt_ofNat_of_lt (by omega)]
theorem xI_add {x y z : Int32} {X Y : Int} (hx : x.toInt = X) (hy : y.toInt = Y) (e : z = x + y) (h1 : -2147483648 ≤ X + Y) (h2 : X + Y ≤ 2147483647) : z.toInt = X + Y := by subst hx; subst hy; exact tI_add e h1 h2
theorem xI_sub {x y z : Int32} {X Y : Int} (hx : x.toInt = X) (hy : y.toInt = Y) (e : z = x - y) (h1 : -2147483648 ≤ X - Y) (h2 : X - Y ≤ 2147483647) : z.toInt = X - Y := by subst hx; subst hy; exact tI_sub e h1 h2
theorem xI_mul {x y z : Int32} {X Y : Int} (hx : x.toInt = X) (hy : y.toInt = Y) (e : z = x * y) (h1 : -2147483648 ≤ X * Y) (h2 : X * Y ≤ 2147483647) : z.toInt = X * Y := by subst hx; subst hy; exact tI_mul e h1 h2
theorem xI_lt {x y : Int32} {X Y : Int} (hx : x.toInt = X) (hy : y.toInt = Y) (h : x < y) : X < Y := by subst hx; subst hy; exact tI_lt h
theorem xI_le {x y : Int32} {X Y : Int} (hx : x.toInt = X) (hy : y.toInt = Y) (h : x ≤ y) : X ≤ Y := by subst hx; subst hy; exact tI_le h
theorem xI_nlt {x y : Int32} {X Y : Int} (hx : x.toInt = X) (hy : y.toInt = Y) (h : ¬ x < y) : Y ≤ X := by subst hx; subst hy; exact tI_nlt h
theorem xI_nle {x y : Int32} {X Y : Int} (hx : x.toInt = X) (hy : y.toInt = Y) (h : ¬ x ≤ y) : Y < X := by subst hx; subst hy; exact tI_nle h
theorem xI_eq {x y : Int32} {X Y : Int} (hx : x.toInt = X) (hy : y.toInt = Y) (h : x = y) : X = Y := by subst hx; subst hy; exact tI_eq h
theorem xI_ne {x y : Int32} {X Y : Int} (hx : x.toInt = X) (hy : y.toInt = Y) (h : ¬ x = y) : X ≠ Y := by subst hx; subst hy; exact tI_ne h
/-- an and with a mask -/
theorem xI_and {x y z : Int32} {Y : Int} (hy : y.toInt = Y) (e : z = x &&& y) (h : 0 ≤ Y) : 0 ≤ z.toInt ∧ z.toInt ≤ Y := by
  subst hy
  subst e
  have hm : (x &&& y).toInt = (x.toBitVec &&& y.toBitVec).toInt := rfl
  have hy : y.toInt = y.toBitVec.toInt := rfl
  rw [hm]
  rw [hy] at h ⊢
  generalize x.toBitVec = u at *
  generalize y.toBitVec = v at *
  have hv : v.toNat < 2 ^ 31 := by
    rw [BitVec.toInt_eq_toNat_cond] at h
    split at h <;> omega
  have hle : (u &&& v).toNat ≤ v.toNat := by rw [BitVec.toNat_and]; exact Nat.and_le_right
  rw [BitVec.toInt_eq_toNat_cond, BitVec.toInt_eq_toNat_cond, if_pos (by omega), if_pos (by omega)]
  omega
theorem xI_div {x y z : Int32} {Y : Int} (hy : y.toInt = Y) (e : z = x / y) (h : 0 < Y) (hx : 0 ≤ x.toInt) : z.toInt = x.toInt / Y := by
  subst hy
  subst e
  have h1 := (tI_rng x).2
  have h2 := Int.ediv_le_self y.toInt hx
  have h3 := Int.ediv_nonneg hx (Int.le_of_lt h)
  rw [Int32.toInt_div, Int.tdiv_eq_ediv_of_nonneg hx, Int.bmod_eq_of_le (by omega) (by omega)]
theorem xI_mod {x y z : Int32} {Y : Int} (hy : y.toInt = Y) (e : z = x - x / y * y) (h : 0 < Y) (hx : 0 ≤ x.toInt) : z.toInt = x.toInt % Y := by
  have h1 := xI_div hy rfl h hx
  have h2 := (tI_rng x).2
  have h3 : x.toInt % Y = x.toInt - Y * (x.toInt / Y) := Int.emod_def _ _
  have h4 := Int.emod_nonneg x.toInt (show Y ≠ 0 by omega)
  have h5 := Int.ediv_nonneg hx (Int.le_of_lt h)
  have h6 : 0 ≤ Y * (x.toInt / Y) := Int.mul_nonneg (Int.le_of_lt h) h5
  have h7 : (x / y * y).toInt = (x / y).toInt * y.toInt := tI_mul rfl (by rw [h1, hy, Int.mul_comm]; omega) (by rw [h1, hy, Int.mul_comm]; omega)
  rw [h1, hy, Int.mul_comm] at h7
  rw [tI_sub e (by rw [h7]; omega) (by rw [h7]; omega), h7]
  omega
theorem nar_z {v : Int32} (h0 : 0 ≤ v.toInt) (h1 : v.toInt ≤ 1) : narrow .boolean (.int v) = .int v := by
  rcases (show v.toInt = 0 ∨ v.toInt = 1 by omega) with q | q
  · have : v = 0 := Int32.toInt_inj.mp q
    subst this; rfl
  · have : v = 1 := Int32.toInt_inj.mp q
    subst this; rfl
/-- which RULES, as bits -/
theorem sh6 {x y z : Int32} {Y : Int} (hy : y.toInt = Y) (e : z = x <<< (y &&& 31)) (hx : x = 1) (h0 : 0 ≤ Y) (h1 : Y ≤ 6) : 1 ≤ z.toInt ∧ z.toInt ≤ 64 := by
  subst hy; subst hx; subst e
  rcases (show y.toInt = 0 ∨ y.toInt = 1 ∨ y.toInt = 2 ∨ y.toInt = 3 ∨ y.toInt = 4 ∨ y.toInt = 5 ∨ y.toInt = 6 by omega) with q | q | q | q | q | q | q
  · obtain rfl : y = 0 := Int32.toInt_inj.mp q
    decide
  · obtain rfl : y = 1 := Int32.toInt_inj.mp q
    decide
  · obtain rfl : y = 2 := Int32.toInt_inj.mp q
    decide
  · obtain rfl : y = 3 := Int32.toInt_inj.mp q
    decide
  · obtain rfl : y = 4 := Int32.toInt_inj.mp q
    decide
  · obtain rfl : y = 5 := Int32.toInt_inj.mp q
    decide
  · obtain rfl : y = 6 := Int32.toInt_inj.mp q
    decide
/-- the WALKERS of a PAVEMENT: what is put behind the last one, one more, none -/
theorem RB.out {G G1 : GS} {P i j : Nat} {v : Int32} (h : RB G) (e : G1 = (u2 G.1 i j v, G.2)) (hP : P = 1 ∨ P = 2) (hi : i = 10 * P + 2 ∨ i = 10 * P + 3 ∨ i = 10 * P + 4) (hj : (G.1 P 10).toInt ≤ j) : RB G1 := by
  subst e
  have q : ∀ P', (P' = 1 ∨ P' = 2) → RBP P' G.1 → RBP P' (u2 G.1 i j v) := fun P' hP' h' w hw => by
    have e0 : u2 G.1 i j v P' 10 = G.1 P' 10 := u2_ni (by omega)
    rw [e0] at hw
    have e1 : ∀ n, (n = 2 ∨ n = 3 ∨ n = 4) → u2 G.1 i j v (10 * P' + n) w = G.1 (10 * P' + n) w := fun n hn => u2_off (fun q => by
      have : P' = P := by omega
      subst this
      omega)
    rw [e1 2 (Or.inl rfl), e1 3 (Or.inr (Or.inl rfl)), e1 4 (Or.inr (Or.inr rfl))]
    exact h' w hw
  exact ⟨h.1, q 1 (Or.inl rfl) h.2.1, q 2 (Or.inr rfl) h.2.2⟩
theorem RB.walkers {G G1 : GS} {P : Nat} {v : Int32} (h : RB G) (e : G1 = (u2 G.1 P 10 v, G.2)) (hP : P = 1 ∨ P = 2) (hn : ∀ w : Nat, (w : Int) < v.toInt → 1 ≤ (G.1 (10 * P + 2) w).toInt ∧ (G.1 (10 * P + 3) w).toInt ≤ (G.1 (10 * P + 4) w).toInt) : RB G1 := by
  subst e
  have q : ∀ P', (P' = 1 ∨ P' = 2) → RBP P' G.1 → RBP P' (u2 G.1 P 10 v) := fun P' hP' h' w hw => by
    have e1 : ∀ n, (n = 2 ∨ n = 3 ∨ n = 4) → u2 G.1 P 10 v (10 * P' + n) w = G.1 (10 * P' + n) w := fun n hn => u2_ni (by omega)
    rw [e1 2 (Or.inl rfl), e1 3 (Or.inr (Or.inl rfl)), e1 4 (Or.inr (Or.inr rfl))]
    by_cases hq : P' = P
    · subst hq
      rw [u2_at] at hw
      exact hn w hw
    · rw [u2_ni hq] at hw
      exact h' w hw
  exact ⟨h.1, q 1 (Or.inl rfl) h.2.1, q 2 (Or.inr rfl) h.2.2⟩
theorem RB.of1 {G : GS} (h : RB G) {w : Nat} (hw : (w : Int) < (G.1 1 10).toInt) : 1 ≤ (G.1 12 w).toInt ∧ (G.1 13 w).toInt ≤ (G.1 14 w).toInt := h.2.1 w hw
theorem RB.of2 {G : GS} (h : RB G) {w : Nat} (hw : (w : Int) < (G.1 2 10).toInt) : 1 ≤ (G.1 22 w).toInt ∧ (G.1 23 w).toInt ≤ (G.1 24 w).toInt := h.2.2 w hw
theorem tN {x : Int32} (h : 0 ≤ x.toInt) : ((x.toNatClampNeg : Nat) : Int) = x.toInt := by
  have : x.toNatClampNeg = x.toInt.toNat := rfl
  omega
theorem sh5 {x y z : Int32} {Y : Int} (hy : y.toInt = Y) (e : z = x <<< (y &&& 31)) (hx : x = 1) (h0 : 0 ≤ Y) (h1 : Y ≤ 5) : 1 ≤ z.toInt ∧ z.toInt ≤ 32 := by
  subst hy; subst hx; subst e
  rcases (show y.toInt = 0 ∨ y.toInt = 1 ∨ y.toInt = 2 ∨ y.toInt = 3 ∨ y.toInt = 4 ∨ y.toInt = 5 by omega) with q | q | q | q | q | q
  · obtain rfl : y = 0 := Int32.toInt_inj.mp q
    decide
  · obtain rfl : y = 1 := Int32.toInt_inj.mp q
    decide
  · obtain rfl : y = 2 := Int32.toInt_inj.mp q
    decide
  · obtain rfl : y = 3 := Int32.toInt_inj.mp q
    decide
  · obtain rfl : y = 4 := Int32.toInt_inj.mp q
    decide
  · obtain rfl : y = 5 := Int32.toInt_inj.mp q
    decide
theorem or6 {x y z : Int32} (e : z = x ||| y) (hx : 0 ≤ x.toInt ∧ x.toInt ≤ 63) (hy : 0 ≤ y.toInt ∧ y.toInt ≤ 63) : 0 ≤ z.toInt ∧ z.toInt ≤ 63 := by
  subst e
  have hm : (x ||| y).toInt = (x.toBitVec ||| y.toBitVec).toInt := rfl
  have e1 : x.toInt = x.toBitVec.toInt := rfl
  have e2 : y.toInt = y.toBitVec.toInt := rfl
  rw [hm]
  rw [e1] at hx
  rw [e2] at hy
  generalize x.toBitVec = u at *
  generalize y.toBitVec = v at *
  have hu : u.toNat < 64 := by
    have := hx
    rw [BitVec.toInt_eq_toNat_cond] at this
    split at this <;> omega
  have hv : v.toNat < 64 := by
    have := hy
    rw [BitVec.toInt_eq_toNat_cond] at this
    split at this <;> omega
  have hle : (u ||| v).toNat < 2 ^ 6 := by rw [BitVec.toNat_or]; exact Nat.or_lt_two_pow (by omega) (by omega)
  rw [BitVec.toInt_eq_toNat_cond, if_pos (by omega)]
  omega
theorem xI_mulB {x y z : Int32} {a b : Int} (e : z = x * y) (hx0 : 0 ≤ x.toInt) (hx : x.toInt ≤ a) (hy0 : 0 ≤ y.toInt) (hy : y.toInt ≤ b) (h : a * b ≤ 2147483647) : z.toInt = x.toInt * y.toInt ∧ 0 ≤ z.toInt ∧ z.toInt ≤ a * b := by
  have h1 : 0 ≤ x.toInt * y.toInt := Int.mul_nonneg hx0 hy0
  have h2 : x.toInt * y.toInt ≤ a * b := Int.mul_le_mul hx hy hy0 (by omega)
  have h3 := tI_mul e (by omega) (by omega)
  exact ⟨h3, by omega, by omega⟩
theorem lc_ne {z : Int32} {x y : Int64} (e : z = lg_cmp x y) (h : z.toInt ≠ 0) : ¬ x = y := fun q => by
  subst q
  subst e
  exact h (by unfold lg_cmp; simp)
theorem sh0 {x y z : Int32} {n : Int} (e : z = x >>> (y &&& 31)) (hy : y.toInt = 0) (hx : x.toInt = n) : z.toInt = n := by
  obtain rfl : y = 0 := Int32.toInt_inj.mp (hy.trans rfl)
  subst hx
  subst e
  simp
theorem i2c_ok {x z : Int32} (e : z = (x.toUInt32 % 65536).toInt32) (h0 : 0 ≤ x.toInt) (h1 : x.toInt ≤ 255) : 0 ≤ z.toInt ∧ z.toInt ≤ 255 := by
  have e2 : z = x := by
    rw [e]
    apply Int32.toInt_inj.mp
    have hb : x.toInt = x.toBitVec.toInt := rfl
    rw [hb] at h0 h1
    have h2 : ((x.toUInt32 % 65536).toInt32).toInt = (x.toBitVec % 65536#32).toInt := rfl
    rw [h2, hb]
    have h3 : x.toBitVec.toNat < 256 := by
      rw [BitVec.toInt_eq_toNat_cond] at h0 h1
      split at h0
      · rename_i q
        rw [if_pos q] at h1
        omega
      · rename_i q
        rw [if_neg q] at h1
        omega
    have h4 : x.toBitVec % 65536#32 = x.toBitVec := by
      apply BitVec.eq_of_toNat_eq
      rw [BitVec.toNat_umod]
      have : (65536#32).toNat = 65536 := rfl
      rw [this]
      omega
    rw [h4]
  subst e2
  exact ⟨h0, h1⟩
theorem nar_c {v : Int32} (h0 : 0 ≤ v.toInt) (h1 : v.toInt ≤ 255) : narrow .char (.int v) = .int v := by
  have h : narrow .char (.int v) = .int ((v.toUInt32 % 65536).toInt32) := rfl
  rw [h]
  have hb : v.toInt = v.toBitVec.toInt := rfl
  rw [hb] at h0 h1
  have h3 : v.toBitVec.toNat < 256 := by
    rw [BitVec.toInt_eq_toNat_cond] at h0 h1
    split at h0
    · rename_i q
      rw [if_pos q] at h1
      omega
    · rename_i q
      rw [if_neg q] at h1
      omega
  have h4 : v.toBitVec % 65536#32 = v.toBitVec := by
    apply BitVec.eq_of_toNat_eq
    rw [BitVec.toNat_umod]
    have : (65536#32).toNat = 65536 := rfl
    rw [this]
    omega
  congr 1
  apply Int32.toInt_inj.mp
  have h2 : ((v.toUInt32 % 65536).toInt32).toInt = (v.toBitVec % 65536#32).toInt := rfl
  rw [h2, h4]
  rfl
theorem inc_w {P j : Nat} {f : Nat → Nat → Int32} {v : Int32} (h : ∀ {w : Nat}, (w : Int) < (f P 10).toInt → 1 ≤ (f (10 * P + 2) w).toInt ∧ (f (10 * P + 3) w).toInt ≤ (f (10 * P + 4) w).toInt) (hv : v.toInt = (f P 10).toInt + 1) (hj : (j : Int) = (f P 10).toInt) (hn : 1 ≤ (f (10 * P + 2) j).toInt ∧ (f (10 * P + 3) j).toInt ≤ (f (10 * P + 4) j).toInt) : ∀ w : Nat, (w : Int) < v.toInt → 1 ≤ (f (10 * P + 2) w).toInt ∧ (f (10 * P + 3) w).toInt ≤ (f (10 * P + 4) w).toInt := by
  intro w hw
  by_cases q : w = j
  · subst q
    exact hn
  · exact h (by omega)
theorem wd_t {D : va_G} {k : KT} {A : Nat → Prop} {a : Nat → Nat} {G : GS} {t : State} {H : Heap} (ht : t.heap = H) (h : Wd D k A a G H) : Wd D k A a G t.heap := by rw [ht]; exact h
