/-! pieces put together -/
theorem Lx_init {b : Nat → Int} {n : Nat} {L L1 : Int} {d p p' : Nat} {C C' : List (Int × Int)} {u u' w w' : Int} (hL : (L = 6 ∧ L1 = 7) ∨ (L = 5 ∧ L1 = 6) ∨ (L = 2 ∧ L1 = 3) ∨ (L = 1 ∧ L1 = 2)) (h : Lv b n L1 d p p' C C' u u' w w') : Lx b n L L1 d p p' C C' u u' w w' := by
  obtain ⟨h1, T, Cp, h2, h3, h4, h5⟩ := h
  refine ⟨h1, T, Cp, h2.le (by omega), h3, h4, fun S hS o ho => h5 S ⟨?_, fun q => hS.2.1 (by omega), hS.2.2⟩ o ho⟩
  have := hS.1
  rcases hL with ⟨rfl, rfl⟩ | ⟨rfl, rfl⟩ | ⟨rfl, rfl⟩ | ⟨rfl, rfl⟩ <;> exact this.le (by decide)
theorem Lx_end {b : Nat → Int} {n : Nat} {L N : Int} {d p p' : Nat} {C C' : List (Int × Int)} {u u' w w' : Int} (h : Lx b n L N d p p' C C' u u' w w') (hN : ∀ T, NC b n N p' T → NC b n L p' T) : Lv b n L d p p' C C' u u' w w' := by
  obtain ⟨h1, T, Cp, h2, h3, h4, h5⟩ := h
  exact ⟨h1, T, Cp, h2, h3, hN T h4, h5⟩
theorem Lx_step {b : Nat → Int} {n : Nat} {L L1 : Int} {d p p1 p2 : Nat} {C C1 C2 : List (Int × Int)} {u u1 u2 w w1 w2 : Int} (s : Int) (hL : (L = 6 ∧ L1 = 7) ∨ (L = 5 ∧ L1 = 6) ∨ (L = 2 ∧ L1 = 3) ∨ (L = 1 ∧ L1 = 2)) (hs : sig (tK b n p1) = s) (hs0 : s ≠ 0 ∧ s ≠ 20 ∧ s ≠ 21) (ht : tgt s = L) (h41 : tK b n p1 ≠ 41) (hp : p1 ≤ tNx b n p1) (h : Lx b n L L1 d p p1 C C1 u u1 w w1) (h' : Lv b n L1 d (tNx b n p1) p2 C1 C2 u1 u2 w1 w2) : Lx b n L L1 d p p2 C (C2 ++ [cdo s]) u u2 w w2 := by
  obtain ⟨g1, T, Cp, g2, g3, g4, g5⟩ := h
  obtain ⟨k1, T2, Cp2, k2, k3, k4, k5⟩ := h'
  refine ⟨by omega, T2 ++ [s], Cp2, (k2.le (by omega)).app (TL_one hs0.2.1 (by omega)), by rw [k3, List.map_append, List.append_assoc]; rfl, ⟨k4.1, k4.2.1, fun q1 q2 => hrl_app (k4.2.2.1 q1 q2) _, k4.2.2.2.1, k4.2.2.2.2⟩, fun S hS o ho => ?_⟩
  have e1 := g5 S hS o
  refine e1 ?_
  have hc : clo L (T ++ S) Cp = (S, Cp ++ T.map cdo) := clo_app T S Cp g2 (by
    have := hS.1
    rcases hL with ⟨rfl, rfl⟩ | ⟨rfl, rfl⟩ | ⟨rfl, rfl⟩ | ⟨rfl, rfl⟩ <;> exact this.le (by decide))
  have hA : syA b n p1 (T ++ S) Cp u1 w1 = .inl (true, tNx b n p1, s :: S, C1, u1, w1) := by
    unfold syA
    rw [if_neg (fun q => h41 q.1), hs, ht, hc, if_pos ⟨hs0.1, fun q => by omega⟩, g3]
  refine (Ev_A hA).mpr (k5 (s :: S) ⟨?_, fun q1 q2 => ?_, ?_⟩ o ?_)
  · refine Hd_cons (Or.inr ?_)
    rcases hL with ⟨rfl, rfl⟩ | ⟨rfl, rfl⟩ | ⟨rfl, rfl⟩ | ⟨rfl, rfl⟩ <;> rw [ht] <;> decide
  · rw [mno]
    exact decide_eq_false (fun q => q.elim hs0.2.1 (fun q => by omega))
  · rw [dps, if_neg (fun q => q.elim hs0.2.1 hs0.2.2)]
    exact hS.2.2
  · rw [List.append_assoc] at ho
    exact ho
theorem Lf_init {b : Nat → Int} {n : Nat} {L L1 : Int} {d p : Nat} {C : List (Int × Int)} {u w : Int} {f : Int × Int} (hL : (L = 6 ∧ L1 = 7) ∨ (L = 5 ∧ L1 = 6) ∨ (L = 2 ∧ L1 = 3) ∨ (L = 1 ∧ L1 = 2)) (h : Lf b n L1 d p C u w f) : Lf b n L d p C u w f := by
  intro S hS
  refine h S ⟨?_, fun q => hS.2.1 (by omega), hS.2.2⟩
  have := hS.1
  rcases hL with ⟨rfl, rfl⟩ | ⟨rfl, rfl⟩ | ⟨rfl, rfl⟩ | ⟨rfl, rfl⟩ <;> exact this.le (by decide)
theorem Lf_step {b : Nat → Int} {n : Nat} {L L1 : Int} {d p p1 : Nat} {C C1 : List (Int × Int)} {u u1 w w1 : Int} {f : Int × Int} (s : Int) (hL : (L = 6 ∧ L1 = 7) ∨ (L = 5 ∧ L1 = 6) ∨ (L = 2 ∧ L1 = 3) ∨ (L = 1 ∧ L1 = 2)) (hs : sig (tK b n p1) = s) (hs0 : s ≠ 0 ∧ s ≠ 20 ∧ s ≠ 21) (ht : tgt s = L) (h41 : tK b n p1 ≠ 41) (h : Lx b n L L1 d p p1 C C1 u u1 w w1) (h' : Lf b n L1 d (tNx b n p1) C1 u1 w1 f) : Lf b n L d p C u w f := by
  obtain ⟨g1, T, Cp, g2, g3, g4, g5⟩ := h
  intro S hS
  refine g5 S hS _ ?_
  have hc : clo L (T ++ S) Cp = (S, Cp ++ T.map cdo) := clo_app T S Cp g2 (by
    have := hS.1
    rcases hL with ⟨rfl, rfl⟩ | ⟨rfl, rfl⟩ | ⟨rfl, rfl⟩ | ⟨rfl, rfl⟩ <;> exact this.le (by decide))
  have hA : syA b n p1 (T ++ S) Cp u1 w1 = .inl (true, tNx b n p1, s :: S, C1, u1, w1) := by
    unfold syA
    rw [if_neg (fun q => h41 q.1), hs, ht, hc, if_pos ⟨hs0.1, fun q => by omega⟩, g3]
  refine (Ev_A hA).mpr (h' (s :: S) ⟨?_, fun q1 q2 => ?_, ?_⟩)
  · refine Hd_cons (Or.inr ?_)
    rcases hL with ⟨rfl, rfl⟩ | ⟨rfl, rfl⟩ | ⟨rfl, rfl⟩ | ⟨rfl, rfl⟩ <;> rw [ht] <;> decide
  · rw [mno]
    exact decide_eq_false (fun q => q.elim hs0.2.1 (fun q => by omega))
  · rw [dps, if_neg (fun q => q.elim hs0.2.1 hs0.2.2)]
    exact hS.2.2
/-- a relation -/
theorem Lv_rel0 {b : Nat → Int} {n : Nat} {d p p' : Nat} {C C' : List (Int × Int)} {u u' w w' : Int} (h146 : tK b n p ≠ 146) (h : Lv b n 5 d p p' C C' u u' w w') (hno : ¬ (tK b n p' = 60 ∨ tK b n p' = 62 ∨ tK b n p' = 61)) : Lv b n 4 d p p' C C' u u' w w' := by
  obtain ⟨h1, T, Cp, h2, h3, h4, h5⟩ := h
  refine ⟨h1, T, Cp, h2.le (by decide), h3, ⟨fun _ => h4.1 (by decide), fun _ => h4.2.1 (by decide), fun _ q => absurd q hno, fun q => absurd q (by decide), fun q => absurd q (by decide)⟩, fun S hS o ho => h5 S ⟨?_, fun _ q => absurd q h146, hS.2.2⟩ o ho⟩
  exact (show Hd 4 S from hS.1).le (by decide)
theorem rel_A {b : Nat → Int} {n : Nat} {p1 : Nat} {T S : List Int} {C1 Cp : List (Int × Int)} {u1 w1 : Int} (hk : tK b n p1 = 60 ∨ tK b n p1 = 62 ∨ tK b n p1 = 61) (g2 : TL 5 T) (hS : Hd 4 S) (g3 : C1 = Cp ++ T.map cdo) : syA b n p1 (T ++ S) Cp u1 w1 = .inl (true, tNx b n p1, tK b n p1 :: S, C1, u1, w1) := by
  have hs : sig (tK b n p1) = tK b n p1 := by
    unfold sig
    rw [if_neg (by omega), if_neg (by omega), if_pos (by omega)]
  have ht : tgt (tK b n p1) = 4 := by
    unfold tgt
    rw [if_neg (by omega), if_neg (by omega), if_neg (by omega), if_pos (by omega)]
  unfold syA
  rw [if_neg (fun q => by omega), hs, ht, clo_app T S Cp (g2.le (by decide)) hS, if_pos ⟨by omega, fun q => by rw [hrl_off g2 hS] at q; exact absurd q.2 (by decide)⟩, g3]
theorem Lv_rel1 {b : Nat → Int} {n : Nat} {d p p1 p2 : Nat} {C C1 C2 : List (Int × Int)} {u u1 u2 w w1 w2 : Int} (h146 : tK b n p ≠ 146) (hk : tK b n p1 = 60 ∨ tK b n p1 = 62 ∨ tK b n p1 = 61) (hp : p1 ≤ tNx b n p1) (h : Lv b n 5 d p p1 C C1 u u1 w w1) (h' : Lv b n 5 d (tNx b n p1) p2 C1 C2 u1 u2 w1 w2) : Lv b n 4 d p p2 C (C2 ++ [cdo (tK b n p1)]) u u2 w w2 := by
  obtain ⟨g1, T, Cp, g2, g3, g4, g5⟩ := h
  obtain ⟨k1, T2, Cp2, k2, k3, k4, k5⟩ := h'
  have ht : tgt (tK b n p1) = 4 := by
    unfold tgt
    rw [if_neg (by omega), if_neg (by omega), if_neg (by omega), if_pos (by omega)]
  refine ⟨by omega, T2 ++ [tK b n p1], Cp2, (k2.le (by decide)).app (TL_one (by omega) (by omega)), by rw [k3, List.map_append, List.append_assoc]; rfl, ⟨fun _ => k4.1 (by decide), fun _ => k4.2.1 (by decide), fun _ _ => hrl_on k2 (by omega) ht, fun q => absurd q (by decide), fun q => absurd q (by decide)⟩, fun S hS o ho => ?_⟩
  have hS4 : Hd 4 S := hS.1
  refine g5 S ⟨hS4.le (by decide), fun _ q => absurd q h146, hS.2.2⟩ o ((Ev_A (rel_A hk g2 hS4 g3)).mpr (k5 (tK b n p1 :: S) ⟨Hd_cons (Or.inr (by rw [ht]; decide)), fun _ _ => ?_, ?_⟩ o ?_))
  · rw [mno]
    exact decide_eq_false (fun q => by omega)
  · rw [dps, if_neg (by omega)]
    exact hS.2.2
  · rw [List.append_assoc] at ho
    exact ho
theorem Lf_rel0 {b : Nat → Int} {n : Nat} {d p : Nat} {C : List (Int × Int)} {u w : Int} {f : Int × Int} (h146 : tK b n p ≠ 146) (h : Lf b n 5 d p C u w f) : Lf b n 4 d p C u w f := fun S hS => h S ⟨(show Hd 4 S from hS.1).le (by decide), fun _ q => absurd q h146, hS.2.2⟩
theorem Lf_rel1 {b : Nat → Int} {n : Nat} {d p p1 : Nat} {C C1 : List (Int × Int)} {u u1 w w1 : Int} {f : Int × Int} (h146 : tK b n p ≠ 146) (hk : tK b n p1 = 60 ∨ tK b n p1 = 62 ∨ tK b n p1 = 61) (h : Lv b n 5 d p p1 C C1 u u1 w w1) (h' : Lf b n 5 d (tNx b n p1) C1 u1 w1 f) : Lf b n 4 d p C u w f := by
  obtain ⟨g1, T, Cp, g2, g3, g4, g5⟩ := h
  have ht : tgt (tK b n p1) = 4 := by
    unfold tgt
    rw [if_neg (by omega), if_neg (by omega), if_neg (by omega), if_pos (by omega)]
  intro S hS
  have hS4 : Hd 4 S := hS.1
  refine g5 S ⟨hS4.le (by decide), fun _ q => absurd q h146, hS.2.2⟩ _ ((Ev_A (rel_A hk g2 hS4 g3)).mpr (h' (tK b n p1 :: S) ⟨Hd_cons (Or.inr (by rw [ht]; decide)), fun _ _ => ?_, ?_⟩))
  · rw [mno]
    exact decide_eq_false (fun q => by omega)
  · rw [dps, if_neg (by omega)]
    exact hS.2.2
/-- one -/
theorem Lv_one {b : Nat → Int} {n : Nat} {d p p' : Nat} {C C' : List (Int × Int)} {u u' w w' : Int} (h : Lv b n 4 d p p' C C' u u' w w') : Lv b n 3 d p p' C C' u u' w w' := by
  obtain ⟨h1, T, Cp, h2, h3, h4, h5⟩ := h
  exact ⟨h1, T, Cp, h2.le (by decide), h3, ⟨fun _ => h4.1 (by decide), fun _ => h4.2.1 (by decide), fun _ => h4.2.2.1 (by decide), fun q => absurd q (by decide), fun q => absurd q (by decide)⟩, fun S hS o ho => h5 S ⟨show Hd 4 S from hS.1, fun q => absurd q (by decide), hS.2.2⟩ o ho⟩
theorem Lf_one {b : Nat → Int} {n : Nat} {d p : Nat} {C : List (Int × Int)} {u w : Int} {f : Int × Int} (h : Lf b n 4 d p C u w f) : Lf b n 3 d p C u w f := fun S hS => h S ⟨show Hd 4 S from hS.1, fun q => absurd q (by decide), hS.2.2⟩
theorem not_B {b : Nat → Int} {n : Nat} {d p : Nat} {S : List Int} {C : List (Int × Int)} {u w : Int} (hk : tK b n p = 146) (hd : d ≤ 6) (hS : Ok b n 3 d p S) : syB b n p S C u w = .inl (true, tNx b n p, 21 :: S, C, u, w) := by
  unfold syB
  rw [if_pos ⟨hk, mno_hd.mpr hS.1⟩, if_neg (by have := hS.2.2; omega)]
theorem not_S {b : Nat → Int} {n : Nat} {d p q : Nat} {S : List Int} (hS : Ok b n 3 d p S) : Ok b n 3 (d + 1) q (21 :: S) := ⟨Hd_cons (Or.inr (by decide)), fun h => absurd h (by decide), by rw [dps, if_pos (Or.inr rfl), hS.2.2]⟩
theorem Lv_not {b : Nat → Int} {n : Nat} {d p p' : Nat} {C C' : List (Int × Int)} {u u' w w' : Int} (hk : tK b n p = 146) (hd : d ≤ 6) (hp : p ≤ tNx b n p) (h : Lv b n 3 (d + 1) (tNx b n p) p' C C' u u' w w') : Lv b n 3 d p p' C (C' ++ [cdo 21]) u u' w w' := by
  obtain ⟨h1, T, Cp, h2, h3, h4, h5⟩ := h
  refine ⟨by omega, T ++ [21], Cp, h2.app (TL_one (by decide) (by decide)), by rw [h3, List.map_append, List.append_assoc]; rfl, ⟨h4.1, h4.2.1, fun q1 q2 => hrl_app (h4.2.2.1 q1 q2) _, h4.2.2.2.1, h4.2.2.2.2⟩, fun S hS o ho => ?_⟩
  refine (Ev_B (not_B hk hd hS)).mpr (h5 (21 :: S) (not_S hS) o ?_)
  rw [List.append_assoc] at ho
  exact ho
theorem Lf_not {b : Nat → Int} {n : Nat} {d p : Nat} {C : List (Int × Int)} {u w : Int} {f : Int × Int} (hk : tK b n p = 146) (hd : d ≤ 6) (h : Lf b n 3 (d + 1) (tNx b n p) C u w f) : Lf b n 3 d p C u w f := fun S hS => (Ev_B (not_B hk hd hS)).mpr (h (21 :: S) (not_S hS))
theorem Lf_not7 {b : Nat → Int} {n : Nat} {d p : Nat} {C : List (Int × Int)} {u w : Int} (hk : tK b n p = 146) (hd : 6 < d) : Lf b n 3 d p C u w (fl b n 2 p) := fun S hS => (Ev_Br (by
  unfold syB
  rw [if_pos ⟨hk, mno_hd.mpr hS.1⟩, if_pos (by have := hS.2.2; omega)])).mpr rfl
/-- a unit -/
theorem Lv_opnd {b : Nat → Int} {n : Nat} {d p : Nat} {C : List (Int × Int)} {u w : Int} (hk : tK b n p = 201 ∨ 0 ≤ ask (tK b n p)) (h40 : tK b n p ≠ 40) (h146 : tK b n p ≠ 146) (hf : ¬ (w = 90 ∨ u = 30)) (hp : p < tNx b n p) : Lv b n 7 d p (tNx b n p) C (C ++ [if ask (tK b n p) < 0 then (0, tV b n p) else (1, ask (tK b n p))]) u (u + 1) w (w + 1) := by
  refine ⟨hp, [], C ++ [if ask (tK b n p) < 0 then (0, tV b n p) else (1, ask (tK b n p))], TL_nil, by simp, ⟨fun q => absurd q (by decide), fun q => absurd q (by decide), fun q => absurd q (by decide), fun q => absurd q (by decide), fun q => absurd q (by decide)⟩, fun S hS o ho => ?_⟩
  refine (Ev_B ?_).mpr ho
  unfold syB
  rw [if_neg (fun q => h146 q.1), if_neg h40, if_neg (by omega)]
  rfl
theorem Lf_unit {b : Nat → Int} {n : Nat} {d p : Nat} {C : List (Int × Int)} {u w : Int} (hk : (tK b n p ≠ 201 ∧ ask (tK b n p) < 0 ∧ tK b n p ≠ 40) ∨ (w = 90 ∨ u = 30) ∨ (tK b n p = 40 ∧ 6 < d)) : Lf b n 7 d p C u w (fl b n 2 p) := by
  intro S hS
  refine (Ev_Br ?_).mpr rfl
  have hm : ¬ (tK b n p = 146 ∧ mno S = true) := fun q => by
    have := hS.2.1 (by decide) q.1
    rw [this] at q
    exact absurd q.2 (by decide)
  have hd := hS.2.2
  unfold syB
  rw [if_neg hm]
  by_cases h40 : tK b n p = 40
  · rw [if_pos h40, if_pos (by omega)]
  · rw [if_neg h40, if_pos (by omega)]
theorem brk_B {b : Nat → Int} {n : Nat} {d p : Nat} {S : List Int} {C : List (Int × Int)} {u w : Int} (hk : tK b n p = 40) (hf : ¬ (w = 90 ∨ u = 30)) (hd : d ≤ 6) (hS : Ok b n 7 d p S) : syB b n p S C u w = .inl (true, tNx b n p, 20 :: S, C, u + 1, w + 1) := by
  have := hS.2.2
  unfold syB
  rw [if_neg (fun q => by omega), if_pos hk, if_neg (by omega)]
theorem brk_S {b : Nat → Int} {n : Nat} {d p q : Nat} {S : List Int} (hS : Ok b n 7 d p S) : Ok b n 1 (d + 1) q (20 :: S) := ⟨Hd_cons (Or.inl rfl), fun h => absurd h (by decide), by rw [dps, if_pos (Or.inl rfl), hS.2.2]⟩
theorem Lv_brk {b : Nat → Int} {n : Nat} {d p p' : Nat} {C C' : List (Int × Int)} {u u' w w' : Int} (hk : tK b n p = 40) (hf : ¬ (w = 90 ∨ u = 30)) (hd : d ≤ 6) (hp : p ≤ tNx b n p) (hp2 : p' ≤ tNx b n p') (h41 : tK b n p' = 41) (h : Lv b n 1 (d + 1) (tNx b n p) p' C C' (u + 1) u' (w + 1) w') : Lv b n 7 d p (tNx b n p') C C' u u' w w' := by
  obtain ⟨h1, T, Cp, h2, h3, h4, h5⟩ := h
  refine ⟨by omega, [], C', TL_nil, by simp, ⟨fun q => absurd q (by decide), fun q => absurd q (by decide), fun q => absurd q (by decide), fun q => absurd q (by decide), fun q => absurd q (by decide)⟩, fun S hS o ho => ?_⟩
  refine (Ev_B (brk_B hk hf hd hS)).mpr (h5 (20 :: S) (brk_S hS) o ((Ev_A ?_).mpr ho))
  have hc : clo 0 (T ++ 20 :: S) Cp = (20 :: S, Cp ++ T.map cdo) := clo_app T (20 :: S) Cp (h2.le (by decide)) (Hd_cons (Or.inl rfl))
  unfold syA
  rw [if_pos ⟨h41, by simp⟩, hc, h3]
  rfl
theorem stop_A {b : Nat → Int} {n : Nat} {p' : Nat} {T S : List Int} (h4 : NC b n 1 p' T) : ¬ (sig (tK b n p') ≠ 0 ∧ ¬ (tgt (sig (tK b n p')) = 4 ∧ hrl (T ++ S) = true)) := by
  intro q
  have a1 := h4.1 (by decide)
  have a2 := h4.2.1 (by decide)
  have a4 := h4.2.2.2.1 (by decide)
  have a5 := h4.2.2.2.2 (by decide)
  by_cases hr : tK b n p' = 60 ∨ tK b n p' = 62 ∨ tK b n p' = 61
  · refine q.2 ⟨?_, hrl_app (h4.2.2.1 (by decide) hr) S⟩
    rcases hr with e | e | e <;> rw [e] <;> decide
  · refine q.1 ?_
    unfold sig
    rw [if_neg a4, if_neg a5, if_neg (by omega)]
theorem Lf_brk0 {b : Nat → Int} {n : Nat} {d p : Nat} {C : List (Int × Int)} {u w : Int} {f : Int × Int} (hk : tK b n p = 40) (hf : ¬ (w = 90 ∨ u = 30)) (hd : d ≤ 6) (h : Lf b n 1 (d + 1) (tNx b n p) C (u + 1) (w + 1) f) : Lf b n 7 d p C u w f := fun S hS => (Ev_B (brk_B hk hf hd hS)).mpr (h (20 :: S) (brk_S hS))
theorem Lf_brk1 {b : Nat → Int} {n : Nat} {d p p' : Nat} {C C' : List (Int × Int)} {u u' w w' : Int} (hk : tK b n p = 40) (hf : ¬ (w = 90 ∨ u = 30)) (hd : d ≤ 6) (h41 : tK b n p' ≠ 41) (h : Lv b n 1 (d + 1) (tNx b n p) p' C C' (u + 1) u' (w + 1) w') : Lf b n 7 d p C u w (fl b n 2 p') := by
  obtain ⟨h1, T, Cp, h2, h3, h4, h5⟩ := h
  intro S hS
  refine (Ev_B (brk_B hk hf hd hS)).mpr (h5 (20 :: S) (brk_S hS) _ ((Ev_Ar ?_).mpr rfl))
  unfold syA
  rw [if_neg (fun q => h41 q.1), if_neg (stop_A h4), if_pos (by simp)]
/-- the whole formula -/
theorem Ev_top {b : Nat → Int} {n : Nat} {p p' : Nat} {C C' : List (Int × Int)} {u u' w w' : Int} (h : Lv b n 1 0 p p' C C' u u' w w') : Ev b n (true, p, [], C, u, w) (.inr (p', C', u', w')) := by
  obtain ⟨h1, T, Cp, h2, h3, h4, h5⟩ := h
  refine h5 [] ⟨fun o S' e => absurd e (by simp), fun q => absurd q (by decide), rfl⟩ _ ((Ev_Ar ?_).mpr rfl)
  have hno : ¬ (20 : Int) ∈ T ++ [] := fun q => by
    rw [List.append_nil] at q
    exact (h2 20 q).1 rfl
  have hc : clo 0 (T ++ []) Cp = ([], Cp ++ T.map cdo) := clo_app T [] Cp (h2.le (by decide)) (fun o S' e => absurd e (by simp))
  unfold syA
  rw [if_neg (fun q => hno q.2), if_neg (stop_A h4), if_neg hno, hc, h3]
theorem Ev_topf {b : Nat → Int} {n : Nat} {p : Nat} {C : List (Int × Int)} {u w : Int} {f : Int × Int} (h : Lf b n 1 0 p C u w f) : Ev b n (true, p, [], C, u, w) (.inl f) := h [] ⟨fun o S' e => absurd e (by simp), fun q => absurd q (by decide), rfl⟩
