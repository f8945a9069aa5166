

def g0i : Nat → Nat → Int32 := fun i => if i = 1 then (fun j => if j = 14 then 30 else if j = 15 then 10 else 0) else if i = 2 then (fun j => if j = 14 then 30 else if j = 15 then 10 else 0) else if i = 3 then (fun j => if j = 8 then (-1) else 0) else if i = 16 then ((upd (upd (upd (fun _ => 0) 0 0) 1 1) 2 0)) else if i = 26 then ((upd (upd (upd (fun _ => 0) 0 0) 1 1) 2 0)) else if i = 38 then ((upd (upd (upd (fun _ => 0) 0 (-1)) 1 (-1)) 2 (-1))) else if i = 58 then ((upd (upd (upd (upd (upd (upd (upd (upd (upd (upd (upd (upd (fun _ => 0) 0 0) 1 0) 2 0) 3 0) 4 0) 5 0) 6 0) 7 0) 8 0) 9 0) 0 (-1)) 7 0)) else if i = 59 then ((va_cpy (upd (upd (upd (upd (upd (upd (upd (upd (upd (upd (upd (upd (fun _ => 0) 0 0) 1 0) 2 0) 3 0) 4 0) 5 0) 6 0) 7 0) 8 0) 9 0) 0 (-1)) 7 0) (fun _ => 0) (0 : Int32).toNatClampNeg (0 : Int32).toNatClampNeg (10 : Int32).toNatClampNeg)) else if i = 66 then (fun j => if j = 3 then (-1) else if j = 55 then 30 else if j = 56 then 10 else 0) else if i = 96 then ((upd (fun _ => 0) 1 1)) else if i = 110 then ((upd (fun _ => 0) 0 (-1))) else fun _ => 0
def g0r : Nat → Nat → Nat := fun i => if i = 0 then (fun j => if j = 0 then 1 else 2) else if i = 6 then (fun _ => 1) else if i = 41 then (fun j => 42 + j) else fun _ => 2
def g0 : GS := (g0i, fun _ _ => 0, g0r)
theorem zb_ite {c : Prop} [Decidable c] {a b : Int × Int} (ha : a.1 ≤ 0 ∧ 0 ≤ a.2) (hb : b.1 ≤ 0 ∧ 0 ≤ b.2) : (if c then a else b).1 ≤ 0 ∧ 0 ≤ (if c then a else b).2 := by
  split
  · exact ha
  · exact hb
theorem z_all : ∀ f ∈ bT, ∀ j : Nat, (f j).1 ≤ 0 ∧ 0 ≤ (f j).2 := by
  unfold bT
  simp only [List.mem_cons, List.not_mem_nil, or_false, forall_eq_or_imp, forall_eq]
  exact ⟨(fun _ => zb_ite ⟨by decide, by decide⟩ (zb_ite ⟨by decide, by decide⟩ (⟨by decide, by decide⟩))), (fun _ => zb_ite ⟨by decide, by decide⟩ (zb_ite ⟨by decide, by decide⟩ (zb_ite ⟨by decide, by decide⟩ (zb_ite ⟨by decide, by decide⟩ (zb_ite ⟨by decide, by decide⟩ (zb_ite ⟨by decide, by decide⟩ (zb_ite ⟨by decide, by decide⟩ (zb_ite ⟨by decide, by decide⟩ (⟨by decide, by decide⟩))))))))), (fun _ => zb_ite ⟨by decide, by decide⟩ (zb_ite ⟨by decide, by decide⟩ (zb_ite ⟨by decide, by decide⟩ (zb_ite ⟨by decide, by decide⟩ (zb_ite ⟨by decide, by decide⟩ (zb_ite ⟨by decide, by decide⟩ (zb_ite ⟨by decide, by decide⟩ (zb_ite ⟨by decide, by decide⟩ (⟨by decide, by decide⟩))))))))), (fun _ => zb_ite ⟨by decide, by decide⟩ (zb_ite ⟨by decide, by decide⟩ (zb_ite ⟨by decide, by decide⟩ (zb_ite ⟨by decide, by decide⟩ (zb_ite ⟨by decide, by decide⟩ (⟨by decide, by decide⟩)))))), (fun _ => zb_ite ⟨by decide, by decide⟩ (⟨by decide, by decide⟩)), (fun _ => zb_ite ⟨by decide, by decide⟩ (zb_ite ⟨by decide, by decide⟩ (zb_ite ⟨by decide, by decide⟩ (⟨by decide, by decide⟩)))), (fun _ => zb_ite ⟨by decide, by decide⟩ (⟨by decide, by decide⟩)), (fun _ => zb_ite ⟨by decide, by decide⟩ (zb_ite ⟨by decide, by decide⟩ (zb_ite ⟨by decide, by decide⟩ (zb_ite ⟨by decide, by decide⟩ (zb_ite ⟨by decide, by decide⟩ (zb_ite ⟨by decide, by decide⟩ (zb_ite ⟨by decide, by decide⟩ (⟨by decide, by decide⟩)))))))), (fun _ => ⟨by decide, by decide⟩), (fun _ => zb_ite ⟨by decide, by decide⟩ (zb_ite ⟨by decide, by decide⟩ (⟨by decide, by decide⟩))), (fun _ => ⟨by decide, by decide⟩), (fun _ => ⟨by decide, by decide⟩), (fun _ => ⟨by decide, by decide⟩), (fun _ => ⟨by decide, by decide⟩), (fun _ => ⟨by decide, by decide⟩), (fun _ => ⟨by decide, by decide⟩), (fun _ => ⟨by decide, by decide⟩), (fun _ => ⟨by decide, by decide⟩), (fun _ => ⟨by decide, by decide⟩), (fun _ => zb_ite ⟨by decide, by decide⟩ (zb_ite ⟨by decide, by decide⟩ (⟨by decide, by decide⟩))), (fun _ => ⟨by decide, by decide⟩), (fun _ => ⟨by decide, by decide⟩), (fun _ => ⟨by decide, by decide⟩), (fun _ => ⟨by decide, by decide⟩), (fun _ => ⟨by decide, by decide⟩), (fun _ => ⟨by decide, by decide⟩), (fun _ => ⟨by decide, by decide⟩), (fun _ => ⟨by decide, by decide⟩), (fun _ => ⟨by decide, by decide⟩), (fun _ => ⟨by decide, by decide⟩), (fun _ => zb_ite ⟨by decide, by decide⟩ (zb_ite ⟨by decide, by decide⟩ (⟨by decide, by decide⟩))), (fun _ => zb_ite ⟨by decide, by decide⟩ (zb_ite ⟨by decide, by decide⟩ (⟨by decide, by decide⟩))), (fun _ => ⟨by decide, by decide⟩), (fun _ => ⟨by decide, by decide⟩), (fun _ => ⟨by decide, by decide⟩), (fun _ => ⟨by decide, by decide⟩), (fun _ => ⟨by decide, by decide⟩), (fun _ => ⟨by decide, by decide⟩), (fun _ => ⟨by decide, by decide⟩), (fun _ => ⟨by decide, by decide⟩), (fun _ => ⟨by decide, by decide⟩), (fun _ => ⟨by decide, by decide⟩), (fun _ => ⟨by decide, by decide⟩), (fun _ => ⟨by decide, by decide⟩), (fun _ => ⟨by decide, by decide⟩), (fun _ => ⟨by decide, by decide⟩), (fun _ => ⟨by decide, by decide⟩), (fun _ => ⟨by decide, by decide⟩), (fun _ => ⟨by decide, by decide⟩), (fun _ => ⟨by decide, by decide⟩), (fun _ => ⟨by decide, by decide⟩), (fun _ => ⟨by decide, by decide⟩), (fun _ => ⟨by decide, by decide⟩), (fun _ => ⟨by decide, by decide⟩), (fun _ => ⟨by decide, by decide⟩), (fun _ => ⟨by decide, by decide⟩), (fun _ => ⟨by decide, by decide⟩), (fun _ => ⟨by decide, by decide⟩), (fun _ => ⟨by decide, by decide⟩), (fun _ => ⟨by decide, by decide⟩), (fun _ => ⟨by decide, by decide⟩), (fun _ => ⟨by decide, by decide⟩), (fun _ => ⟨by decide, by decide⟩), (fun _ => ⟨by decide, by decide⟩), (fun _ => ⟨by decide, by decide⟩), (fun _ => ⟨by decide, by decide⟩), (fun _ => zb_ite ⟨by decide, by decide⟩ (zb_ite ⟨by decide, by decide⟩ (zb_ite ⟨by decide, by decide⟩ (zb_ite ⟨by decide, by decide⟩ (zb_ite ⟨by decide, by decide⟩ (zb_ite ⟨by decide, by decide⟩ (zb_ite ⟨by decide, by decide⟩ (zb_ite ⟨by decide, by decide⟩ (zb_ite ⟨by decide, by decide⟩ (zb_ite ⟨by decide, by decide⟩ (zb_ite ⟨by decide, by decide⟩ (zb_ite ⟨by decide, by decide⟩ (zb_ite ⟨by decide, by decide⟩ (zb_ite ⟨by decide, by decide⟩ (zb_ite ⟨by decide, by decide⟩ (zb_ite ⟨by decide, by decide⟩ (zb_ite ⟨by decide, by decide⟩ (zb_ite ⟨by decide, by decide⟩ (zb_ite ⟨by decide, by decide⟩ (zb_ite ⟨by decide, by decide⟩ (zb_ite ⟨by decide, by decide⟩ (zb_ite ⟨by decide, by decide⟩ (zb_ite ⟨by decide, by decide⟩ (zb_ite ⟨by decide, by decide⟩ (zb_ite ⟨by decide, by decide⟩ (zb_ite ⟨by decide, by decide⟩ (⟨by decide, by decide⟩))))))))))))))))))))))))))), (fun _ => ⟨by decide, by decide⟩), (fun _ => ⟨by decide, by decide⟩), (fun _ => ⟨by decide, by decide⟩), (fun _ => ⟨by decide, by decide⟩), (fun _ => ⟨by decide, by decide⟩), (fun _ => ⟨by decide, by decide⟩), (fun _ => ⟨by decide, by decide⟩), (fun _ => ⟨by decide, by decide⟩), (fun _ => ⟨by decide, by decide⟩), (fun _ => ⟨by decide, by decide⟩), (fun _ => ⟨by decide, by decide⟩), (fun _ => ⟨by decide, by decide⟩), (fun _ => ⟨by decide, by decide⟩), (fun _ => ⟨by decide, by decide⟩), (fun _ => ⟨by decide, by decide⟩), (fun _ => ⟨by decide, by decide⟩), (fun _ => ⟨by decide, by decide⟩), (fun _ => ⟨by decide, by decide⟩), (fun _ => ⟨by decide, by decide⟩), (fun _ => ⟨by decide, by decide⟩), (fun _ => ⟨by decide, by decide⟩), (fun _ => ⟨by decide, by decide⟩), (fun _ => ⟨by decide, by decide⟩), (fun _ => ⟨by decide, by decide⟩), (fun _ => ⟨by decide, by decide⟩), (fun _ => ⟨by decide, by decide⟩), (fun _ => ⟨by decide, by decide⟩), (fun _ => ⟨by decide, by decide⟩), (fun _ => ⟨by decide, by decide⟩), (fun _ => ⟨by decide, by decide⟩), (fun _ => ⟨by decide, by decide⟩), (fun _ => zb_ite ⟨by decide, by decide⟩ (⟨by decide, by decide⟩)), (fun _ => ⟨by decide, by decide⟩), (fun _ => ⟨by decide, by decide⟩), (fun _ => ⟨by decide, by decide⟩), (fun _ => ⟨by decide, by decide⟩), (fun _ => ⟨by decide, by decide⟩), (fun _ => ⟨by decide, by decide⟩), (fun _ => ⟨by decide, by decide⟩), (fun _ => ⟨by decide, by decide⟩), (fun _ => ⟨by decide, by decide⟩), (fun _ => ⟨by decide, by decide⟩), (fun _ => ⟨by decide, by decide⟩), (fun _ => zb_ite ⟨by decide, by decide⟩ (zb_ite ⟨by decide, by decide⟩ (⟨by decide, by decide⟩))), (fun _ => zb_ite ⟨by decide, by decide⟩ (zb_ite ⟨by decide, by decide⟩ (⟨by decide, by decide⟩))), (fun _ => ⟨by decide, by decide⟩), (fun _ => ⟨by decide, by decide⟩), (fun _ => ⟨by decide, by decide⟩), (fun _ => ⟨by decide, by decide⟩), (fun _ => ⟨by decide, by decide⟩), (fun _ => ⟨by decide, by decide⟩), (fun _ => zb_ite ⟨by decide, by decide⟩ (zb_ite ⟨by decide, by decide⟩ (⟨by decide, by decide⟩)))⟩
theorem z_in (i j : Nat) : loB i j ≤ 0 ∧ 0 ≤ hiB i j := by
  unfold loB hiB
  cases h : bT[i]? with
  | none => exact ⟨by show (-2147483648 : Int) ≤ 0; decide, by show (0 : Int) ≤ 2147483647; decide⟩
  | some f => exact z_all f (List.mem_of_getElem? h) j
theorem z_z (i j : Nat) {v : Int32} (hv : v = 0) : loB i j ≤ v.toInt ∧ v.toInt ≤ hiB i j := by
  subst hv
  exact z_in i j
theorem Bd_g0 : Bd g0 := by
  refine ⟨fun i j => ?_, ⟨by decide, by decide, by decide, by decide, by decide, fun j hj => rfl⟩, fun w hw => ?_, fun w hw => ?_⟩
  · show loB i j ≤ (g0i i j).toInt ∧ (g0i i j).toInt ≤ hiB i j
    by_cases h1 : i = 1
    · subst h1
      show loB 1 j ≤ ((fun j => if j = 14 then 30 else if j = 15 then 10 else 0 : Nat → Int32) j).toInt ∧ ((fun j => if j = 14 then 30 else if j = 15 then 10 else 0 : Nat → Int32) j).toInt ≤ hiB 1 j
      by_cases q14 : j = 14
      · subst q14; exact ⟨by decide, by decide⟩
      by_cases q15 : j = 15
      · subst q15; exact ⟨by decide, by decide⟩
      exact z_z 1 j (by simp [q14, q15])
    by_cases h2 : i = 2
    · subst h2
      show loB 2 j ≤ ((fun j => if j = 14 then 30 else if j = 15 then 10 else 0 : Nat → Int32) j).toInt ∧ ((fun j => if j = 14 then 30 else if j = 15 then 10 else 0 : Nat → Int32) j).toInt ≤ hiB 2 j
      by_cases q14 : j = 14
      · subst q14; exact ⟨by decide, by decide⟩
      by_cases q15 : j = 15
      · subst q15; exact ⟨by decide, by decide⟩
      exact z_z 2 j (by simp [q14, q15])
    by_cases h3 : i = 3
    · subst h3
      show loB 3 j ≤ ((fun j => if j = 8 then (-1) else 0 : Nat → Int32) j).toInt ∧ ((fun j => if j = 8 then (-1) else 0 : Nat → Int32) j).toInt ≤ hiB 3 j
      by_cases q8 : j = 8
      · subst q8; exact ⟨by decide, by decide⟩
      exact z_z 3 j (by simp [q8])
    by_cases h16 : i = 16
    · subst h16
      show loB 16 j ≤ (((upd (upd (upd (fun _ => 0) 0 0) 1 1) 2 0) : Nat → Int32) j).toInt ∧ (((upd (upd (upd (fun _ => 0) 0 0) 1 1) 2 0) : Nat → Int32) j).toInt ≤ hiB 16 j
      by_cases q0 : j = 0
      · subst q0; exact ⟨by decide, by decide⟩
      by_cases q1 : j = 1
      · subst q1; exact ⟨by decide, by decide⟩
      by_cases q2 : j = 2
      · subst q2; exact ⟨by decide, by decide⟩
      exact z_z 16 j (by simp [upd, q0, q1, q2])
    by_cases h26 : i = 26
    · subst h26
      show loB 26 j ≤ (((upd (upd (upd (fun _ => 0) 0 0) 1 1) 2 0) : Nat → Int32) j).toInt ∧ (((upd (upd (upd (fun _ => 0) 0 0) 1 1) 2 0) : Nat → Int32) j).toInt ≤ hiB 26 j
      by_cases q0 : j = 0
      · subst q0; exact ⟨by decide, by decide⟩
      by_cases q1 : j = 1
      · subst q1; exact ⟨by decide, by decide⟩
      by_cases q2 : j = 2
      · subst q2; exact ⟨by decide, by decide⟩
      exact z_z 26 j (by simp [upd, q0, q1, q2])
    by_cases h38 : i = 38
    · subst h38
      exact tI_rng _
    by_cases h58 : i = 58
    · subst h58
      exact tI_rng _
    by_cases h59 : i = 59
    · subst h59
      exact tI_rng _
    by_cases h66 : i = 66
    · subst h66
      show loB 66 j ≤ ((fun j => if j = 3 then (-1) else if j = 55 then 30 else if j = 56 then 10 else 0 : Nat → Int32) j).toInt ∧ ((fun j => if j = 3 then (-1) else if j = 55 then 30 else if j = 56 then 10 else 0 : Nat → Int32) j).toInt ≤ hiB 66 j
      by_cases q3 : j = 3
      · subst q3; exact ⟨by decide, by decide⟩
      by_cases q55 : j = 55
      · subst q55; exact ⟨by decide, by decide⟩
      by_cases q56 : j = 56
      · subst q56; exact ⟨by decide, by decide⟩
      exact z_z 66 j (by simp [q3, q55, q56])
    by_cases h96 : i = 96
    · subst h96
      show loB 96 j ≤ (((upd (fun _ => 0) 1 1) : Nat → Int32) j).toInt ∧ (((upd (fun _ => 0) 1 1) : Nat → Int32) j).toInt ≤ hiB 96 j
      by_cases q1 : j = 1
      · subst q1; exact ⟨by decide, by decide⟩
      exact z_z 96 j (by simp [upd, q1])
    by_cases h110 : i = 110
    · subst h110
      show loB 110 j ≤ (((upd (fun _ => 0) 0 (-1)) : Nat → Int32) j).toInt ∧ (((upd (fun _ => 0) 0 (-1)) : Nat → Int32) j).toInt ≤ hiB 110 j
      by_cases q0 : j = 0
      · subst q0; exact ⟨by decide, by decide⟩
      exact z_z 110 j (by simp [upd, q0])
    have e : g0i i j = 0 := by simp [g0i, h1, h2, h3, h16, h26, h38, h58, h59, h66, h96, h110]
    exact z_z i j e
  · exact absurd hw (by have : (g0.1 1 10).toInt = 0 := by decide
                        omega)
  · exact absurd hw (by have : (g0.1 2 10).toInt = 0 := by decide
                        omega)
def LI (G : GS) : Prop := (G.2.2 0 0 = 1 ∧ G.2.2 0 1 = 2 ∧ G.2.2 6 4 = 1 ∧ (G.1 30 4).toInt + (G.1 30 5).toInt ≤ 40 ∧ gP G = 1 ∧ gW G = 1 ∧ gS G = 1 ∧ gO G = 1 ∧ 1 ≤ (G.1 96 0).toInt + (G.1 96 1).toInt + (G.1 96 2).toInt ∧ (G.1 66 78).toInt + (G.1 66 79).toInt ≤ 40 ∧ (G.1 0 11).toInt = (G.1 66 1).toInt ∧ (G.1 31 6).toInt = (G.1 66 86).toInt ∧ gTE G = 1 ∧ (G.1 3 7).toInt = (G.1 66 2).toInt ∧ (G.1 3 8).toInt = (G.1 66 3).toInt ∧ gIA G = 1) ∨ (G.2.2 0 0 = 2 ∧ G.2.2 0 1 = 1 ∧ G.2.2 6 4 = 2 ∧ (G.1 30 4).toInt + (G.1 30 5).toInt ≤ 40 ∧ gP G = 1 ∧ gW G = 1 ∧ gS G = 1 ∧ gO G = 1 ∧ 1 ≤ (G.1 96 0).toInt + (G.1 96 1).toInt + (G.1 96 2).toInt ∧ (G.1 66 78).toInt + (G.1 66 79).toInt ≤ 40 ∧ (G.1 0 11).toInt = (G.1 66 1).toInt ∧ (G.1 31 6).toInt = (G.1 66 86).toInt ∧ gTE G = 1 ∧ (G.1 3 7).toInt = (G.1 66 2).toInt ∧ (G.1 3 8).toInt = (G.1 66 3).toInt ∧ gIB G = 1)
theorem gP_0 {G : GS} (h : G.1 66 54 = 0) : gP G = 1 := by
  refine ind_1 (fun i hi => ?_)
  rw [h] at hi
  exact absurd hi (Nat.not_lt_zero _)
theorem gW_0 {G : GS} (h : G.1 66 53 = 0) : gW G = 1 := by
  refine ind_1 (fun i hi => ?_)
  rw [h] at hi
  exact absurd hi (Nat.not_lt_zero _)
theorem gO_0 {G : GS} (h : ∀ j, G.2.1 106 j = 0) : gO G = 1 := by
  refine ind_1 (fun j hj => ?_)
  rw [h j]
  have := p27_pos (j / 512)
  have e : (0 : Int64).toInt = 0 := rfl
  exact ⟨by decide, by omega⟩
theorem gTE_p {G : GS} (h : gTE G = 1) : TE G := ind_p h
theorem te_g0 : TE g0 := fun j _ => by
  have e1 : g0.1 67 j = 0 := rfl
  have e2 : g0.1 32 j = 0 := rfl
  rw [e1, e2]
  exact ⟨by decide, by decide, fun _ => rfl, fun q => absurd q (by decide)⟩
theorem iv_g0 : IV_1 V0 g0 := by
  have hv : ROK V0 (g0.1 58) := ⟨Or.inl (by decide), ⟨by decide, by decide⟩, Or.inl (by decide), by decide, by decide⟩
  have h1 : ∀ j, j < 10 → g0.1 110 j = g0.1 58 j := by decide
  have h2 : ∀ j, j < 10 → g0.1 59 j = g0.1 58 j := by decide
  have h3 : ∀ s, s < 3 → (g0.1 38 s).toInt = -1 := by decide
  refine ⟨⟨⟨by decide, fun s hs => absurd hs (Nat.not_lt_zero s)⟩, ⟨by decide, fun s hs => absurd hs (Nat.not_lt_zero s)⟩, ⟨by decide, by decide, ⟨Or.inl ⟨by decide, by decide⟩, fun s hs => absurd hs (Nat.not_lt_zero s)⟩, fun s hs => absurd hs (Nat.not_lt_zero s)⟩, ⟨by decide, by decide, by decide⟩, by decide, by decide, by decide⟩, ⟨⟨by decide, by decide, fun s hs => absurd hs (Nat.not_lt_zero s)⟩, ⟨by decide, by decide, fun s hs => absurd hs (Nat.not_lt_zero s)⟩, ⟨by decide, by decide, by decide, fun s hs => absurd hs (Nat.not_lt_zero s)⟩, ⟨by decide, by decide, by decide⟩, by decide, by decide⟩, ⟨by decide, by decide, fun s hs => absurd hs (Nat.not_lt_zero s)⟩, fun s hs => absurd hs (Nat.not_lt_zero s), ⟨⟨0, 0, ⟨by decide, by decide, by decide, by decide, by decide⟩, h1, fun k hk => ?_, fun j hj => ?_, fun k j hk => absurd hk (Nat.not_lt_zero k), fun k j hk hk2 => absurd hk2 (Nat.not_lt_zero k)⟩, 0, by decide, by decide, fun b' hb' => ⟨?_, fun q => ?_⟩⟩, by decide, fun j hj => ?_, fun j hj => ?_⟩
  · have hk0 : k = 0 := by omega
    subst hk0
    refine hv.cg (fun j hj => ?_)
    show g0.1 59 (10 * 0 + j) = _
    rw [show 10 * 0 + j = j by omega]
    exact h2 j hj
  · rw [show 10 * 0 + j = j by omega]
    exact h2 j hj
  · have e : g0.1 117 b' = 0 := rfl
    rw [e, Nat.zero_testBit]
    exact ⟨fun q => absurd rfl q, fun q => absurd q (by decide)⟩
  · rw [Nat.zero_testBit] at q
    exact absurd q (by decide)
  · have e : (g0.1 31 5).toInt = 0 := by decide
    omega
  · have e : (g0.1 31 5).toInt = 0 := by decide
    omega
theorem LI_g0 : LI g0 := Or.inl ⟨rfl, rfl, rfl, by decide, gP_0 rfl, gW_0 rfl, gS_0 rfl, gO_0 (fun _ => rfl), by decide, by decide, by decide, by decide, ind_1 te_g0, by decide, by decide, ind_1 ⟨V0, iv_g0⟩⟩
theorem ld_arg {p : Program} {l : Launch} {e : Env} {R : Room} {s : State} {m : MethodId} {args : Array Value} {below : List Frame} {meth : Method} {c : Code} {H : Heap} {locs : List Loc} {cells slots : Nat} {Q : State → Prop} {A : Nat → Prop} {b L a0 a1 : Nat} {xs : Nat → Int32} {i0 y : Int32} {cc : ByteArray} {pc : Nat} {ls : Array Slot} {rest : List Value} {v : Int32} {n : Int} (hv : Int32.ofInt n = v) (h1 : 0 ≤ v.toInt) (h2 : v.toInt ≤ 5) (hL : L ≤ 3072) (hi0 : 0 ≤ i0.toInt) (hi6 : i0.toInt + 6 ≤ L) (hx : p.tables.exec = Jvm.exec) (hb : c.code = cc) (hX : va_X b L xs s s.heap) (hbl : b < s.heap.size) (hbA : ¬ A b) (hS : va_S A s.heap H locs) (hl : lv_has ls 4 [(0, .ref b), (1, .ref a0), (2, .ref a1), (3, .int i0)]) (d0 : decode cc pc = .ok (.aload_n 0, 1)) (d1 : decode cc (pc + 1) = .ok (.iload_n 3, 1)) (d2 : decode cc (pc + 1 + 1) = .ok (.iconst n, 1)) (d3 : decode cc (pc + 1 + 1 + 1) = .ok (.iadd, 1)) (d4 : decode cc (pc + 1 + 1 + 1 + 1) = .ok (.iaload, 1)) (hy : y = xs (i0 + v).toNatClampNeg) (kk : W p l e R s m args below meth c H locs cells slots Q (F0 m (pc + 1 + 1 + 1 + 1 + 1) ls (.int y :: rest))) : W p l e R s m args below meth c H locs cells slots Q (F0 m pc ls rest) := by
  subst hy
  refine lv_aload_n hx hb d0 rfl (lv_at hl 0 rfl) ?_
  refine lv_iload_n hx hb d1 rfl (lv_at hl 3 rfl) ?_
  refine lv_iconst hx hb d2 hv ?_
  refine lv_iadd hx hb d3 ?_
  have e : (i0 + v).toInt = i0.toInt + v.toInt := xI_add rfl rfl rfl (by omega) (by omega)
  exact va_sld hx hb hX hbl hbA hS (vin (by omega) (by omega)) d4 kk
theorem ld_1 {p : Program} {l : Launch} {e : Env} {R : Room} {s : State} {m : MethodId} {args : Array Value} {below : List Frame} {meth : Method} {c : Code} {H : Heap} {locs : List Loc} {cells slots : Nat} {Q : State → Prop} {A : Nat → Prop} {b L a0 a1 : Nat} {xs : Nat → Int32} {i0 y : Int32} {cc : ByteArray} {pc : Nat} {ls : Array Slot} {rest : List Value} (hL : L ≤ 3072) (hi0 : 0 ≤ i0.toInt) (hi6 : i0.toInt + 6 ≤ L) (hx : p.tables.exec = Jvm.exec) (hb : c.code = cc) (hX : va_X b L xs s s.heap) (hbl : b < s.heap.size) (hbA : ¬ A b) (hS : va_S A s.heap H locs) (hl : lv_has ls 4 [(0, .ref b), (1, .ref a0), (2, .ref a1), (3, .int i0)]) (d0 : decode cc pc = .ok (.aload_n 0, 1)) (d1 : decode cc (pc + 1) = .ok (.iload_n 3, 1)) (d2 : decode cc (pc + 1 + 1) = .ok (.iconst 1, 1)) (d3 : decode cc (pc + 1 + 1 + 1) = .ok (.iadd, 1)) (d4 : decode cc (pc + 1 + 1 + 1 + 1) = .ok (.iaload, 1)) (hy : y = xs (i0 + 1).toNatClampNeg) (kk : W p l e R s m args below meth c H locs cells slots Q (F0 m (pc + 1 + 1 + 1 + 1 + 1) ls (.int y :: rest))) : W p l e R s m args below meth c H locs cells slots Q (F0 m pc ls rest) := ld_arg (n := 1) (v := 1) (by decide) (by decide) (by decide) hL hi0 hi6 hx hb hX hbl hbA hS hl d0 d1 d2 d3 d4 hy kk
theorem ld_2 {p : Program} {l : Launch} {e : Env} {R : Room} {s : State} {m : MethodId} {args : Array Value} {below : List Frame} {meth : Method} {c : Code} {H : Heap} {locs : List Loc} {cells slots : Nat} {Q : State → Prop} {A : Nat → Prop} {b L a0 a1 : Nat} {xs : Nat → Int32} {i0 y : Int32} {cc : ByteArray} {pc : Nat} {ls : Array Slot} {rest : List Value} (hL : L ≤ 3072) (hi0 : 0 ≤ i0.toInt) (hi6 : i0.toInt + 6 ≤ L) (hx : p.tables.exec = Jvm.exec) (hb : c.code = cc) (hX : va_X b L xs s s.heap) (hbl : b < s.heap.size) (hbA : ¬ A b) (hS : va_S A s.heap H locs) (hl : lv_has ls 4 [(0, .ref b), (1, .ref a0), (2, .ref a1), (3, .int i0)]) (d0 : decode cc pc = .ok (.aload_n 0, 1)) (d1 : decode cc (pc + 1) = .ok (.iload_n 3, 1)) (d2 : decode cc (pc + 1 + 1) = .ok (.iconst 2, 1)) (d3 : decode cc (pc + 1 + 1 + 1) = .ok (.iadd, 1)) (d4 : decode cc (pc + 1 + 1 + 1 + 1) = .ok (.iaload, 1)) (hy : y = xs (i0 + 2).toNatClampNeg) (kk : W p l e R s m args below meth c H locs cells slots Q (F0 m (pc + 1 + 1 + 1 + 1 + 1) ls (.int y :: rest))) : W p l e R s m args below meth c H locs cells slots Q (F0 m pc ls rest) := ld_arg (n := 2) (v := 2) (by decide) (by decide) (by decide) hL hi0 hi6 hx hb hX hbl hbA hS hl d0 d1 d2 d3 d4 hy kk
theorem ld_3 {p : Program} {l : Launch} {e : Env} {R : Room} {s : State} {m : MethodId} {args : Array Value} {below : List Frame} {meth : Method} {c : Code} {H : Heap} {locs : List Loc} {cells slots : Nat} {Q : State → Prop} {A : Nat → Prop} {b L a0 a1 : Nat} {xs : Nat → Int32} {i0 y : Int32} {cc : ByteArray} {pc : Nat} {ls : Array Slot} {rest : List Value} (hL : L ≤ 3072) (hi0 : 0 ≤ i0.toInt) (hi6 : i0.toInt + 6 ≤ L) (hx : p.tables.exec = Jvm.exec) (hb : c.code = cc) (hX : va_X b L xs s s.heap) (hbl : b < s.heap.size) (hbA : ¬ A b) (hS : va_S A s.heap H locs) (hl : lv_has ls 4 [(0, .ref b), (1, .ref a0), (2, .ref a1), (3, .int i0)]) (d0 : decode cc pc = .ok (.aload_n 0, 1)) (d1 : decode cc (pc + 1) = .ok (.iload_n 3, 1)) (d2 : decode cc (pc + 1 + 1) = .ok (.iconst 3, 1)) (d3 : decode cc (pc + 1 + 1 + 1) = .ok (.iadd, 1)) (d4 : decode cc (pc + 1 + 1 + 1 + 1) = .ok (.iaload, 1)) (hy : y = xs (i0 + 3).toNatClampNeg) (kk : W p l e R s m args below meth c H locs cells slots Q (F0 m (pc + 1 + 1 + 1 + 1 + 1) ls (.int y :: rest))) : W p l e R s m args below meth c H locs cells slots Q (F0 m pc ls rest) := ld_arg (n := 3) (v := 3) (by decide) (by decide) (by decide) hL hi0 hi6 hx hb hX hbl hbA hS hl d0 d1 d2 d3 d4 hy kk
theorem ld_4 {p : Program} {l : Launch} {e : Env} {R : Room} {s : State} {m : MethodId} {args : Array Value} {below : List Frame} {meth : Method} {c : Code} {H : Heap} {locs : List Loc} {cells slots : Nat} {Q : State → Prop} {A : Nat → Prop} {b L a0 a1 : Nat} {xs : Nat → Int32} {i0 y : Int32} {cc : ByteArray} {pc : Nat} {ls : Array Slot} {rest : List Value} (hL : L ≤ 3072) (hi0 : 0 ≤ i0.toInt) (hi6 : i0.toInt + 6 ≤ L) (hx : p.tables.exec = Jvm.exec) (hb : c.code = cc) (hX : va_X b L xs s s.heap) (hbl : b < s.heap.size) (hbA : ¬ A b) (hS : va_S A s.heap H locs) (hl : lv_has ls 4 [(0, .ref b), (1, .ref a0), (2, .ref a1), (3, .int i0)]) (d0 : decode cc pc = .ok (.aload_n 0, 1)) (d1 : decode cc (pc + 1) = .ok (.iload_n 3, 1)) (d2 : decode cc (pc + 1 + 1) = .ok (.iconst 4, 1)) (d3 : decode cc (pc + 1 + 1 + 1) = .ok (.iadd, 1)) (d4 : decode cc (pc + 1 + 1 + 1 + 1) = .ok (.iaload, 1)) (hy : y = xs (i0 + 4).toNatClampNeg) (kk : W p l e R s m args below meth c H locs cells slots Q (F0 m (pc + 1 + 1 + 1 + 1 + 1) ls (.int y :: rest))) : W p l e R s m args below meth c H locs cells slots Q (F0 m pc ls rest) := ld_arg (n := 4) (v := 4) (by decide) (by decide) (by decide) hL hi0 hi6 hx hb hX hbl hbA hS hl d0 d1 d2 d3 d4 hy kk
theorem ld_5 {p : Program} {l : Launch} {e : Env} {R : Room} {s : State} {m : MethodId} {args : Array Value} {below : List Frame} {meth : Method} {c : Code} {H : Heap} {locs : List Loc} {cells slots : Nat} {Q : State → Prop} {A : Nat → Prop} {b L a0 a1 : Nat} {xs : Nat → Int32} {i0 y : Int32} {cc : ByteArray} {pc : Nat} {ls : Array Slot} {rest : List Value} (hL : L ≤ 3072) (hi0 : 0 ≤ i0.toInt) (hi6 : i0.toInt + 6 ≤ L) (hx : p.tables.exec = Jvm.exec) (hb : c.code = cc) (hX : va_X b L xs s s.heap) (hbl : b < s.heap.size) (hbA : ¬ A b) (hS : va_S A s.heap H locs) (hl : lv_has ls 4 [(0, .ref b), (1, .ref a0), (2, .ref a1), (3, .int i0)]) (d0 : decode cc pc = .ok (.aload_n 0, 1)) (d1 : decode cc (pc + 1) = .ok (.iload_n 3, 1)) (d2 : decode cc (pc + 1 + 1) = .ok (.iconst 5, 1)) (d3 : decode cc (pc + 1 + 1 + 1) = .ok (.iadd, 1)) (d4 : decode cc (pc + 1 + 1 + 1 + 1) = .ok (.iaload, 1)) (hy : y = xs (i0 + 5).toNatClampNeg) (kk : W p l e R s m args below meth c H locs cells slots Q (F0 m (pc + 1 + 1 + 1 + 1 + 1) ls (.int y :: rest))) : W p l e R s m args below meth c H locs cells slots Q (F0 m pc ls rest) := ld_arg (n := 5) (v := 5) (by decide) (by decide) (by decide) hL hi0 hi6 hx hb hX hbl hbA hS hl d0 d1 d2 d3 d4 hy kk
def liok (rs : List Nat) (fs : List (Nat × Nat)) : Bool := gf9 rs fs [(0, 0), (0, 1), (0, 11), (3, 7), (3, 8), (6, 4), (30, 4), (30, 5), (31, 6), (66, 1), (66, 2), (66, 3), (66, 78), (66, 79), (66, 86), (96, 0), (96, 1), (96, 2)] && (gr9 rs fs [72, 74] && (gf9 rs fs [(66, 54)] && (gr9 rs fs [92, 93, 94, 95] && (gf9 rs fs [(66, 53)] && (gr9 rs fs [91, 92, 112, 113, 114] && (gf9 rs fs [(66, 85)] && (gr9 rs fs [106] && (gf9 rs fs [] && (gr9 rs fs [32, 67] && (gf9 rs fs []))))))))))
def LIn_1 (G : GS) : Prop := G.2.2 0 0 = 1 ∧ G.2.2 0 1 = 2 ∧ G.2.2 6 4 = 1 ∧ (G.1 30 4).toInt + (G.1 30 5).toInt ≤ 40 ∧ gP G = 1 ∧ gW G = 1 ∧ gS G = 1 ∧ gO G = 1 ∧ 1 ≤ (G.1 96 0).toInt + (G.1 96 1).toInt + (G.1 96 2).toInt ∧ (G.1 66 78).toInt + (G.1 66 79).toInt ≤ 40 ∧ (G.1 0 11).toInt = (G.1 66 1).toInt ∧ (G.1 31 6).toInt = (G.1 66 86).toInt ∧ gTE G = 1 ∧ (G.1 3 7).toInt = (G.1 66 2).toInt ∧ (G.1 3 8).toInt = (G.1 66 3).toInt
theorem LIn_fr_1 {rs : List Nat} {fs : List (Nat × Nat)} {G G1 : GS} (h : LIn_1 G) (f : Fr rs fs G G1) (c : liok rs fs = true) : LIn_1 G1 := by
  unfold liok at c
  simp only [Bool.and_eq_true] at c
  obtain ⟨c0, gP1, gP2, gW1, gW2, gS1, gS2, gO1, gO2, gTE1, gTE2⟩ := c
  have r0_0 : G1.2.2 0 0 = G.2.2 0 0 := (f 0 0 (gf_q c0 (0, 0) (by decide)).1 (gf_q c0 (0, 0) (by decide)).2).2.2
  have r0_1 : G1.2.2 0 1 = G.2.2 0 1 := (f 0 1 (gf_q c0 (0, 1) (by decide)).1 (gf_q c0 (0, 1) (by decide)).2).2.2
  have r6_4 : G1.2.2 6 4 = G.2.2 6 4 := (f 6 4 (gf_q c0 (6, 4) (by decide)).1 (gf_q c0 (6, 4) (by decide)).2).2.2
  have e0_11 : G1.1 0 11 = G.1 0 11 := (f 0 11 (gf_q c0 (0, 11) (by decide)).1 (gf_q c0 (0, 11) (by decide)).2).1
  have e3_7 : G1.1 3 7 = G.1 3 7 := (f 3 7 (gf_q c0 (3, 7) (by decide)).1 (gf_q c0 (3, 7) (by decide)).2).1
  have e3_8 : G1.1 3 8 = G.1 3 8 := (f 3 8 (gf_q c0 (3, 8) (by decide)).1 (gf_q c0 (3, 8) (by decide)).2).1
  have e30_4 : G1.1 30 4 = G.1 30 4 := (f 30 4 (gf_q c0 (30, 4) (by decide)).1 (gf_q c0 (30, 4) (by decide)).2).1
  have e30_5 : G1.1 30 5 = G.1 30 5 := (f 30 5 (gf_q c0 (30, 5) (by decide)).1 (gf_q c0 (30, 5) (by decide)).2).1
  have e31_6 : G1.1 31 6 = G.1 31 6 := (f 31 6 (gf_q c0 (31, 6) (by decide)).1 (gf_q c0 (31, 6) (by decide)).2).1
  have e66_1 : G1.1 66 1 = G.1 66 1 := (f 66 1 (gf_q c0 (66, 1) (by decide)).1 (gf_q c0 (66, 1) (by decide)).2).1
  have e66_2 : G1.1 66 2 = G.1 66 2 := (f 66 2 (gf_q c0 (66, 2) (by decide)).1 (gf_q c0 (66, 2) (by decide)).2).1
  have e66_3 : G1.1 66 3 = G.1 66 3 := (f 66 3 (gf_q c0 (66, 3) (by decide)).1 (gf_q c0 (66, 3) (by decide)).2).1
  have e66_78 : G1.1 66 78 = G.1 66 78 := (f 66 78 (gf_q c0 (66, 78) (by decide)).1 (gf_q c0 (66, 78) (by decide)).2).1
  have e66_79 : G1.1 66 79 = G.1 66 79 := (f 66 79 (gf_q c0 (66, 79) (by decide)).1 (gf_q c0 (66, 79) (by decide)).2).1
  have e66_86 : G1.1 66 86 = G.1 66 86 := (f 66 86 (gf_q c0 (66, 86) (by decide)).1 (gf_q c0 (66, 86) (by decide)).2).1
  have e96_0 : G1.1 96 0 = G.1 96 0 := (f 96 0 (gf_q c0 (96, 0) (by decide)).1 (gf_q c0 (96, 0) (by decide)).2).1
  have e96_1 : G1.1 96 1 = G.1 96 1 := (f 96 1 (gf_q c0 (96, 1) (by decide)).1 (gf_q c0 (96, 1) (by decide)).2).1
  have e96_2 : G1.1 96 2 = G.1 96 2 := (f 96 2 (gf_q c0 (96, 2) (by decide)).1 (gf_q c0 (96, 2) (by decide)).2).1
  unfold LIn_1 at h ⊢
  rw [r0_0, r0_1, r6_4, e0_11, e3_7, e3_8, e30_4, e30_5, e31_6, e66_1, e66_2, e66_3, e66_78, e66_79, e66_86, e96_0, e96_1, e96_2, gP_fr f (gr_q gP1) (gf_q gP2), gW_fr f (gr_q gW1) (gf_q gW2), gS_fr f (gr_q gS1) (gf_q gS2), gO_fr f (gr_q gO1) (gf_q gO2), gTE_fr f (gr_q gTE1) (gf_q gTE2)]
  exact h
theorem LI_of_1 {G : GS} (h : LIn_1 G) (hI : gIA G = 1) : G.2.2 0 0 = 1 ∧ G.2.2 0 1 = 2 ∧ G.2.2 6 4 = 1 ∧ (G.1 30 4).toInt + (G.1 30 5).toInt ≤ 40 ∧ gP G = 1 ∧ gW G = 1 ∧ gS G = 1 ∧ gO G = 1 ∧ 1 ≤ (G.1 96 0).toInt + (G.1 96 1).toInt + (G.1 96 2).toInt ∧ (G.1 66 78).toInt + (G.1 66 79).toInt ≤ 40 ∧ (G.1 0 11).toInt = (G.1 66 1).toInt ∧ (G.1 31 6).toInt = (G.1 66 86).toInt ∧ gTE G = 1 ∧ (G.1 3 7).toInt = (G.1 66 2).toInt ∧ (G.1 3 8).toInt = (G.1 66 3).toInt ∧ gIA G = 1 := by
  obtain ⟨v0, v1, v2, j0, j1, j2, j3, j4, j5, j6, j7, j8, j9, j10, j11⟩ := h
  exact ⟨v0, v1, v2, j0, j1, j2, j3, j4, j5, j6, j7, j8, j9, j10, j11, hI⟩
def LIn_2 (G : GS) : Prop := G.2.2 0 0 = 2 ∧ G.2.2 0 1 = 1 ∧ G.2.2 6 4 = 2 ∧ (G.1 30 4).toInt + (G.1 30 5).toInt ≤ 40 ∧ gP G = 1 ∧ gW G = 1 ∧ gS G = 1 ∧ gO G = 1 ∧ 1 ≤ (G.1 96 0).toInt + (G.1 96 1).toInt + (G.1 96 2).toInt ∧ (G.1 66 78).toInt + (G.1 66 79).toInt ≤ 40 ∧ (G.1 0 11).toInt = (G.1 66 1).toInt ∧ (G.1 31 6).toInt = (G.1 66 86).toInt ∧ gTE G = 1 ∧ (G.1 3 7).toInt = (G.1 66 2).toInt ∧ (G.1 3 8).toInt = (G.1 66 3).toInt
theorem LIn_fr_2 {rs : List Nat} {fs : List (Nat × Nat)} {G G1 : GS} (h : LIn_2 G) (f : Fr rs fs G G1) (c : liok rs fs = true) : LIn_2 G1 := by
  unfold liok at c
  simp only [Bool.and_eq_true] at c
  obtain ⟨c0, gP1, gP2, gW1, gW2, gS1, gS2, gO1, gO2, gTE1, gTE2⟩ := c
  have r0_0 : G1.2.2 0 0 = G.2.2 0 0 := (f 0 0 (gf_q c0 (0, 0) (by decide)).1 (gf_q c0 (0, 0) (by decide)).2).2.2
  have r0_1 : G1.2.2 0 1 = G.2.2 0 1 := (f 0 1 (gf_q c0 (0, 1) (by decide)).1 (gf_q c0 (0, 1) (by decide)).2).2.2
  have r6_4 : G1.2.2 6 4 = G.2.2 6 4 := (f 6 4 (gf_q c0 (6, 4) (by decide)).1 (gf_q c0 (6, 4) (by decide)).2).2.2
  have e0_11 : G1.1 0 11 = G.1 0 11 := (f 0 11 (gf_q c0 (0, 11) (by decide)).1 (gf_q c0 (0, 11) (by decide)).2).1
  have e3_7 : G1.1 3 7 = G.1 3 7 := (f 3 7 (gf_q c0 (3, 7) (by decide)).1 (gf_q c0 (3, 7) (by decide)).2).1
  have e3_8 : G1.1 3 8 = G.1 3 8 := (f 3 8 (gf_q c0 (3, 8) (by decide)).1 (gf_q c0 (3, 8) (by decide)).2).1
  have e30_4 : G1.1 30 4 = G.1 30 4 := (f 30 4 (gf_q c0 (30, 4) (by decide)).1 (gf_q c0 (30, 4) (by decide)).2).1
  have e30_5 : G1.1 30 5 = G.1 30 5 := (f 30 5 (gf_q c0 (30, 5) (by decide)).1 (gf_q c0 (30, 5) (by decide)).2).1
  have e31_6 : G1.1 31 6 = G.1 31 6 := (f 31 6 (gf_q c0 (31, 6) (by decide)).1 (gf_q c0 (31, 6) (by decide)).2).1
  have e66_1 : G1.1 66 1 = G.1 66 1 := (f 66 1 (gf_q c0 (66, 1) (by decide)).1 (gf_q c0 (66, 1) (by decide)).2).1
  have e66_2 : G1.1 66 2 = G.1 66 2 := (f 66 2 (gf_q c0 (66, 2) (by decide)).1 (gf_q c0 (66, 2) (by decide)).2).1
  have e66_3 : G1.1 66 3 = G.1 66 3 := (f 66 3 (gf_q c0 (66, 3) (by decide)).1 (gf_q c0 (66, 3) (by decide)).2).1
  have e66_78 : G1.1 66 78 = G.1 66 78 := (f 66 78 (gf_q c0 (66, 78) (by decide)).1 (gf_q c0 (66, 78) (by decide)).2).1
  have e66_79 : G1.1 66 79 = G.1 66 79 := (f 66 79 (gf_q c0 (66, 79) (by decide)).1 (gf_q c0 (66, 79) (by decide)).2).1
  have e66_86 : G1.1 66 86 = G.1 66 86 := (f 66 86 (gf_q c0 (66, 86) (by decide)).1 (gf_q c0 (66, 86) (by decide)).2).1
  have e96_0 : G1.1 96 0 = G.1 96 0 := (f 96 0 (gf_q c0 (96, 0) (by decide)).1 (gf_q c0 (96, 0) (by decide)).2).1
  have e96_1 : G1.1 96 1 = G.1 96 1 := (f 96 1 (gf_q c0 (96, 1) (by decide)).1 (gf_q c0 (96, 1) (by decide)).2).1
  have e96_2 : G1.1 96 2 = G.1 96 2 := (f 96 2 (gf_q c0 (96, 2) (by decide)).1 (gf_q c0 (96, 2) (by decide)).2).1
  unfold LIn_2 at h ⊢
  rw [r0_0, r0_1, r6_4, e0_11, e3_7, e3_8, e30_4, e30_5, e31_6, e66_1, e66_2, e66_3, e66_78, e66_79, e66_86, e96_0, e96_1, e96_2, gP_fr f (gr_q gP1) (gf_q gP2), gW_fr f (gr_q gW1) (gf_q gW2), gS_fr f (gr_q gS1) (gf_q gS2), gO_fr f (gr_q gO1) (gf_q gO2), gTE_fr f (gr_q gTE1) (gf_q gTE2)]
  exact h
theorem LI_of_2 {G : GS} (h : LIn_2 G) (hI : gIB G = 1) : G.2.2 0 0 = 2 ∧ G.2.2 0 1 = 1 ∧ G.2.2 6 4 = 2 ∧ (G.1 30 4).toInt + (G.1 30 5).toInt ≤ 40 ∧ gP G = 1 ∧ gW G = 1 ∧ gS G = 1 ∧ gO G = 1 ∧ 1 ≤ (G.1 96 0).toInt + (G.1 96 1).toInt + (G.1 96 2).toInt ∧ (G.1 66 78).toInt + (G.1 66 79).toInt ≤ 40 ∧ (G.1 0 11).toInt = (G.1 66 1).toInt ∧ (G.1 31 6).toInt = (G.1 66 86).toInt ∧ gTE G = 1 ∧ (G.1 3 7).toInt = (G.1 66 2).toInt ∧ (G.1 3 8).toInt = (G.1 66 3).toInt ∧ gIB G = 1 := by
  obtain ⟨v0, v1, v2, j0, j1, j2, j3, j4, j5, j6, j7, j8, j9, j10, j11⟩ := h
  exact ⟨v0, v1, v2, j0, j1, j2, j3, j4, j5, j6, j7, j8, j9, j10, j11, hI⟩
def okL (D : va_G) (k : KT) (a : Nat → Nat) (G : GS) (H : Heap) : va_W → List Kd → Nat → Prop
  | [], [], _ => True
  | x :: xs, q :: qs, n => (x.1 = a n ∧ (va_at D classes x H → va_at D classes (a n, cE k a G n q) H)) ∧ okL D k a G H xs qs (n + 1)
  | _, _, _ => False
theorem okL_at {D : va_G} {k : KT} {a : Nat → Nat} {G : GS} {H : Heap} : ∀ (ws : va_W) (qs : List Kd) (n : Nat), okL D k a G H ws qs n → ∀ i q, qs[i]? = some q → ∃ x, ws[i]? = some x ∧ x.1 = a (n + i) ∧ (va_at D classes x H → va_at D classes (a (n + i), cE k a G (n + i) q) H)
  | [], [], n, _, i, q, hq => by simp at hq
  | [], q0 :: qs, n, h, i, q, hq => h.elim
  | x :: xs, [], n, h, i, q, hq => h.elim
  | x :: xs, q0 :: qs, n, h, 0, q, hq => by
    cases hq
    exact ⟨x, rfl, h.1.1, h.1.2⟩
  | x :: xs, q0 :: qs, n, h, i + 1, q, hq => by
    obtain ⟨y, h1, h2, h3⟩ := okL_at xs qs (n + 1) h.2 i q hq
    rw [show n + 1 + i = n + (i + 1) by omega] at h2 h3
    exact ⟨y, h1, h2, h3⟩
theorem Wd_of {D : va_G} {k : KT} {A : Nat → Prop} {a : Nat → Nat} {G : GS} {H : Heap} {ws : va_W} (hP : va_P D classes ws H) (hD : va_D A ws) (ho : okL D k a G H ws Ks 0) : Wd D k A a G H := by
  have key : ∀ n x, (Ws k a G)[n]? = some x → ∃ q, Ks[n]? = some q ∧ x = (a n, cE k a G n q) := fun n x hx => by
    cases hq : Ks[n]? with
    | none => rw [Ws_no hq] at hx; cases hx
    | some q => rw [Ws_at hq] at hx; cases hx; exact ⟨q, rfl, rfl⟩
  refine ⟨fun n x hx => ?_, fun i j x y hi hj hxy => ?_, fun n x hx => ?_⟩
  · obtain ⟨q, hq, rfl⟩ := key n x hx
    obtain ⟨y, h1, h2, h3⟩ := okL_at ws Ks 0 ho n q hq
    rw [Nat.zero_add] at h3
    exact h3 (hP n y h1)
  · obtain ⟨q1, hq1, rfl⟩ := key i x hi
    obtain ⟨q2, hq2, rfl⟩ := key j y hj
    obtain ⟨y1, h1, h2, -⟩ := okL_at ws Ks 0 ho i q1 hq1
    obtain ⟨y2, h3, h4, -⟩ := okL_at ws Ks 0 ho j q2 hq2
    rw [Nat.zero_add] at h2 h4
    exact hD.1 i j y1 y2 h1 h3 (by rw [h2, h4]; exact hxy)
  · obtain ⟨q1, hq1, rfl⟩ := key n x hx
    obtain ⟨y1, h1, h2, -⟩ := okL_at ws Ks 0 ho n q1 hq1
    rw [Nat.zero_add] at h2
    show A (a n)
    rw [← h2]
    exact hD.2 n y1 h1
theorem rows_cg {D : va_G} {c : ClassId} {q : Nat} {f g : Nat → Option Nat} {H : Heap} (h : ∀ j, j < 4 → f j = g j) (hf : va_at D classes (q, .inl (c, 4, .inr (.inr (.inr (.inr f))))) H) : va_at D classes (q, .inl (c, 4, .inr (.inr (.inr (.inr g))))) H := by
  have e : arrV c 4 (fun j => va_rf (f j)) = arrV c 4 (fun j => va_rf (g j)) := arrV_cg (fun j hj => by rw [h j hj])
  have hf' : H[q]? = some (arrV c 4 (fun j => va_rf (f j))) := hf
  show H[q]? = some (arrV c 4 (fun j => va_rf (g j)))
  rw [← e]
  exact hf'
