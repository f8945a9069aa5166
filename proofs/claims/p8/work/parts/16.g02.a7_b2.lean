/-! formulas, by a stack of signs that wait, over places -/
def tgt (o : Int) : Int := if o = 124 then 1 else if o = 38 then 2 else if o = 21 then 3 else if o = 60 ∨ o = 62 ∨ o = 61 then 4 else if o = 43 ∨ o = 45 then 5 else 6
def cdo (o : Int) : Int × Int := if o = 21 then (2, 0) else (3, o)
def clo (least : Int) : List Int → List (Int × Int) → List Int × List (Int × Int)
  | [], C => ([], C)
  | o :: S, C => if o ≠ 20 ∧ least ≤ tgt o then clo least S (C ++ [cdo o]) else (o :: S, C)
def hrl : List Int → Bool
  | [] => false
  | o :: S => if o = 20 then false else if 4 < tgt o then hrl S else decide (tgt o = 4)
def mno : List Int → Bool
  | [] => true
  | o :: _ => decide (o = 20 ∨ tgt o < 4)
def dps : List Int → Nat
  | [] => 0
  | o :: S => if o = 20 ∨ o = 21 then dps S + 1 else dps S
def sig (k : Int) : Int := if k = 145 then 38 else if k = 144 then 124 else if k = 60 ∨ k = 62 ∨ k = 61 ∨ k = 43 ∨ k = 45 ∨ k = 42 ∨ k = 47 ∨ k = 37 then k else 0
def ask (k : Int) : Int := if k = 139 then 0 else if k = 140 then 1 else if k = 141 then 2 else if k = 142 then 3 else if k = 143 then 4 else if k = 147 then 5 else if k = 148 then 6 else if k = 149 then 7 else if k = 150 then 8 else -1
abbrev FS : Type := Bool × Nat × List Int × List (Int × Int) × Int × Int
abbrev FO : Type := (Int × Int) ⊕ (Nat × List (Int × Int) × Int × Int)
def syB (b : Nat → Int) (n : Nat) (p : Nat) (S : List Int) (C : List (Int × Int)) (u w : Int) : FS ⊕ FO :=
  if tK b n p = 146 ∧ mno S = true then (if 6 < dps S then .inr (.inl (fl b n 2 p)) else .inl (true, tNx b n p, 21 :: S, C, u, w))
  else if tK b n p = 40 then (if (w = 90 ∨ u = 30) ∨ 6 < dps S then .inr (.inl (fl b n 2 p)) else .inl (true, tNx b n p, 20 :: S, C, u + 1, w + 1))
  else if (tK b n p ≠ 201 ∧ ask (tK b n p) < 0) ∨ (w = 90 ∨ u = 30) then .inr (.inl (fl b n 2 p))
  else .inl (false, tNx b n p, S, C ++ [if ask (tK b n p) < 0 then (0, tV b n p) else (1, ask (tK b n p))], u + 1, w + 1)
def syA (b : Nat → Int) (n : Nat) (p : Nat) (S : List Int) (C : List (Int × Int)) (u w : Int) : FS ⊕ FO :=
  if tK b n p = 41 ∧ 20 ∈ S then .inl (false, tNx b n p, (clo 0 S C).1.tail, (clo 0 S C).2, u, w)
  else if sig (tK b n p) ≠ 0 ∧ ¬ (tgt (sig (tK b n p)) = 4 ∧ hrl S = true) then .inl (true, tNx b n p, sig (tK b n p) :: (clo (tgt (sig (tK b n p))) S C).1, (clo (tgt (sig (tK b n p))) S C).2, u, w)
  else if 20 ∈ S then .inr (.inl (fl b n 2 p)) else .inr (.inr (p, (clo 0 S C).2, u, w))
def sy (b : Nat → Int) (n : Nat) (s : FS) : FS ⊕ FO := if s.1 = true then syB b n s.2.1 s.2.2.1 s.2.2.2.1 s.2.2.2.2.1 s.2.2.2.2.2 else syA b n s.2.1 s.2.2.1 s.2.2.2.1 s.2.2.2.2.1 s.2.2.2.2.2
def itn (b : Nat → Int) (n : Nat) : Nat → FS → Option FO
  | 0, _ => none
  | k + 1, s => match sy b n s with
    | .inr o => some o
    | .inl s' => itn b n k s'
def Ev (b : Nat → Int) (n : Nat) (s : FS) (o : FO) : Prop := ∃ k, itn b n k s = some o
theorem Ev_i {b : Nat → Int} {n : Nat} {s s' : FS} {o : FO} (h : sy b n s = .inl s') : Ev b n s o ↔ Ev b n s' o := by
  refine ⟨fun ⟨k, hk⟩ => ?_, fun ⟨k, hk⟩ => ⟨k + 1, ?_⟩⟩
  · cases k with
    | zero => exact absurd hk (by simp [itn])
    | succ k =>
      rw [itn, h] at hk
      exact ⟨k, hk⟩
  · rw [itn, h]
    exact hk
theorem Ev_r {b : Nat → Int} {n : Nat} {s : FS} {o o' : FO} (h : sy b n s = .inr o') : Ev b n s o ↔ o' = o := by
  refine ⟨fun ⟨k, hk⟩ => ?_, fun e => ⟨1, ?_⟩⟩
  · cases k with
    | zero => exact absurd hk (by simp [itn])
    | succ k =>
      rw [itn, h] at hk
      exact Option.some.inj hk
  · rw [itn, h, e]
theorem Ev_B {b : Nat → Int} {n p : Nat} {S : List Int} {C : List (Int × Int)} {u w : Int} {s' : FS} {o : FO} (h : syB b n p S C u w = .inl s') : Ev b n (true, p, S, C, u, w) o ↔ Ev b n s' o := Ev_i h
theorem Ev_Br {b : Nat → Int} {n p : Nat} {S : List Int} {C : List (Int × Int)} {u w : Int} {o' o : FO} (h : syB b n p S C u w = .inr o') : Ev b n (true, p, S, C, u, w) o ↔ o' = o := Ev_r h
theorem Ev_A {b : Nat → Int} {n p : Nat} {S : List Int} {C : List (Int × Int)} {u w : Int} {s' : FS} {o : FO} (h : syA b n p S C u w = .inl s') : Ev b n (false, p, S, C, u, w) o ↔ Ev b n s' o := Ev_i h
theorem Ev_Ar {b : Nat → Int} {n p : Nat} {S : List Int} {C : List (Int × Int)} {u w : Int} {o' o : FO} (h : syA b n p S C u w = .inr o') : Ev b n (false, p, S, C, u, w) o ↔ o' = o := Ev_r h
/-- T: signs that wait, none a bracket, all as tight as L at least -/
def TL (L : Int) (T : List Int) : Prop := ∀ x ∈ T, x ≠ 20 ∧ L ≤ tgt x
/-- a stack whose head, if it is no bracket, is less tight than L -/
def Hd (L : Int) (S : List Int) : Prop := ∀ o S', S = o :: S' → o = 20 ∨ tgt o < L
theorem TL.le {L L' : Int} {T : List Int} (h : TL L T) (hl : L' ≤ L) : TL L' T := fun x hx => ⟨(h x hx).1, by have := (h x hx).2; omega⟩
theorem TL.app {L : Int} {T T' : List Int} (h : TL L T) (h' : TL L T') : TL L (T ++ T') := fun x hx => (List.mem_append.mp hx).elim (h x) (h' x)
theorem TL_nil {L : Int} : TL L [] := fun x hx => absurd hx (by simp)
theorem TL_one {L x : Int} (h1 : x ≠ 20) (h2 : L ≤ tgt x) : TL L [x] := fun y hy => by
  rw [List.mem_singleton] at hy
  subst hy
  exact ⟨h1, h2⟩
theorem Hd.le {L L' : Int} {S : List Int} (h : Hd L S) (hl : L ≤ L') : Hd L' S := fun o S' e => (h o S' e).imp id (fun q => by omega)
theorem Hd_cons {L o : Int} {S : List Int} (h : o = 20 ∨ tgt o < L) : Hd L (o :: S) := fun o' S' e => by
  obtain ⟨rfl, -⟩ := List.cons.inj e
  exact h
theorem clo_app {L : Int} : ∀ (T S : List Int) (C : List (Int × Int)), TL L T → Hd L S → clo L (T ++ S) C = (S, C ++ T.map cdo)
  | [], S, C, _, hS => by
    cases S with
    | nil => simp [clo]
    | cons o S =>
      rw [List.nil_append, clo, if_neg, List.map_nil, List.append_nil]
      intro q
      rcases hS o S rfl with h | h
      · exact q.1 h
      · omega
  | x :: T, S, C, hT, hS => by
    rw [List.cons_append, clo, if_pos (hT x (by simp)), clo_app T S _ (fun y hy => hT y (by simp [hy])) hS, List.map_cons, List.append_assoc]
    rfl
theorem hrl_off {T S : List Int} (hT : TL 5 T) (hS : Hd 4 S) : hrl (T ++ S) = false := by
  induction T with
  | nil =>
    cases S with
    | nil => rfl
    | cons o S =>
      rw [List.nil_append, hrl]
      rcases hS o S rfl with h | h
      · rw [if_pos h]
      · by_cases h2 : o = 20
        · rw [if_pos h2]
        · rw [if_neg h2, if_neg (by omega)]
          exact decide_eq_false (by omega)
  | cons x T ih =>
    have hx := hT x (by simp)
    rw [List.cons_append, hrl, if_neg hx.1, if_pos (by omega)]
    exact ih (fun y hy => hT y (by simp [hy]))
theorem hrl_app {T : List Int} (h : hrl T = true) (S : List Int) : hrl (T ++ S) = true := by
  induction T with
  | nil => exact absurd h (by simp [hrl])
  | cons x T ih =>
    rw [hrl] at h
    rw [List.cons_append, hrl]
    by_cases h1 : x = 20
    · rw [if_pos h1] at h
      exact absurd h (by simp)
    · rw [if_neg h1] at h ⊢
      by_cases h2 : 4 < tgt x
      · rw [if_pos h2] at h ⊢
        exact ih h
      · rw [if_neg h2] at h ⊢
        exact h
theorem hrl_on {T : List Int} {x : Int} (hT : TL 5 T) (h1 : x ≠ 20) (h2 : tgt x = 4) : hrl (T ++ [x]) = true := by
  induction T with
  | nil =>
    rw [List.nil_append, hrl, if_neg h1, if_neg (by omega)]
    exact decide_eq_true h2
  | cons y T ih =>
    have hy := hT y (by simp)
    rw [List.cons_append, hrl, if_neg hy.1, if_pos (by omega)]
    exact ih (fun z hz => hT z (by simp [hz]))
theorem mno_hd {S : List Int} : mno S = true ↔ Hd 4 S := by
  cases S with
  | nil => exact ⟨fun _ o S' e => absurd e (by simp), fun _ => rfl⟩
  | cons o S =>
    rw [mno, decide_eq_true_iff]
    refine ⟨fun h => Hd_cons h, fun h => h o S rfl⟩
theorem dps_app (T S : List Int) : dps (T ++ S) = dps T + dps S := by
  induction T with
  | nil => simp [dps]
  | cons x T ih =>
    rw [List.cons_append, dps, dps, ih]
    split <;> omega
/-- behind a piece of level L no sign stands that it would have taken -/
def NC (b : Nat → Int) (n : Nat) (L : Int) (p : Nat) (T : List Int) : Prop := (L ≤ 6 → tK b n p ≠ 42 ∧ tK b n p ≠ 47 ∧ tK b n p ≠ 37) ∧ (L ≤ 5 → tK b n p ≠ 43 ∧ tK b n p ≠ 45) ∧ (L ≤ 4 → tK b n p = 60 ∨ tK b n p = 62 ∨ tK b n p = 61 → hrl T = true) ∧ (L ≤ 2 → tK b n p ≠ 145) ∧ (L ≤ 1 → tK b n p ≠ 144)
/-- what a piece of level L at a place means: from there the stack goes to a place behind it, with signs that wait -/
def Ok (b : Nat → Int) (n : Nat) (L : Int) (d p : Nat) (S : List Int) : Prop := Hd (if L = 3 then 4 else L) S ∧ (5 ≤ L → tK b n p = 146 → mno S = false) ∧ dps S = d
def Lx (b : Nat → Int) (n : Nat) (L N : Int) (d p p' : Nat) (C C' : List (Int × Int)) (u u' w w' : Int) : Prop := p < p' ∧ ∃ (T : List Int) (Cp : List (Int × Int)), TL L T ∧ C' = Cp ++ T.map cdo ∧ NC b n N p' T ∧ ∀ S, Ok b n L d p S → ∀ o, Ev b n (false, p', T ++ S, Cp, u', w') o → Ev b n (true, p, S, C, u, w) o
def Lv (b : Nat → Int) (n : Nat) (L : Int) (d p p' : Nat) (C C' : List (Int × Int)) (u u' w w' : Int) : Prop := Lx b n L L d p p' C C' u u' w w'
def Lf (b : Nat → Int) (n : Nat) (L : Int) (d p : Nat) (C : List (Int × Int)) (u w : Int) (f : Int × Int) : Prop := ∀ S, Ok b n L d p S → Ev b n (true, p, S, C, u, w) (.inl f)
theorem tgt_r (o : Int) : 1 ≤ tgt o ∧ tgt o ≤ 6 := by
  unfold tgt
  split
  · omega
  · split
    · omega
    · split
      · omega
      · split
        · omega
        · split <;> omega

/-! pieces put together -/
theorem Lx_init {b : Nat → Int} {n : Nat} {L L1 : Int} {d p p' : Nat} {C C' : List (Int × Int)} {u u' w w' : Int} (hL : (L = 6 ∧ L1 = 7) ∨ (L = 5 ∧ L1 = 6) ∨ (L = 2 ∧ L1 = 3) ∨ (L = 1 ∧ L1 = 2)) (h : Lv b n L1 d p p' C C' u u' w w') : Lx b n L L1 d p p' C C' u u' w w' := by
  obtain ⟨h1, T, Cp, h2, h3, h4, h5⟩ := h
  refine ⟨h1, T, Cp, h2.le (by omega), h3, h4, fun S hS o ho => h5 S ⟨?_, fun q => hS.2.1 (by omega), hS.2.2⟩ o ho⟩
  have := hS.1
  rcases hL with ⟨rfl, rfl⟩ | ⟨rfl, rfl⟩ | ⟨rfl, rfl⟩ | ⟨rfl, rfl⟩ <;> exact this.le (by decide)
theorem Lx_end {b : Nat → Int} {n : Nat} {L N : Int} {d p p' : Nat} {C C' : List (Int × Int)} {u u' w w' : Int} (h : Lx b n L N d p p' C C' u u' w w') (hN : ∀ T, NC b n N p' T → NC b n L p' T) : Lv b n L d p p' C C' u u' w w' := by
  obtain ⟨h1, T, Cp, h2, h3, h4, h5⟩ := h
  exact ⟨h1, T, Cp, h2, h3, hN T h4, h5⟩
theorem Lx_step {b : Nat → Int} {n : Nat} {L L1 : Int} {d p p1 p2 : Nat} {C C1 C2 : List (Int × Int)} {u u1 u2 w w1 w2 : Int} (s : Int) (hL : (L = 6 ∧ L1 = 7) ∨ (L = 5 ∧ L1 = 6) ∨ (L = 2 ∧ L1 = 3) ∨ (L = 1 ∧ L1 = 2)) (hs : sig (tK b n p1) = s) (hs0 : s ≠ 0 ∧ s ≠ 20 ∧ s ≠ 21) (ht : tgt s = L) (h41 : tK b n p1 ≠ 41) (hp : p1 ≤ tNx b n p1) (h : Lx b n L L1 d p p1 C C1 u u1 w w1) (h' : Lv b n L1 d (tNx b n p1) p2 C1 C2 u1 u2 w1 w2) : Lx b n L L1 d p p2 C (C2 ++ [cdo s]) u u2 w w2 := by
  obtain ⟨g1, T, Cp, g2, g3, g4, g5⟩ := h
  obtain ⟨k1, T2, Cp2, k2, k3, k4, k5⟩ := h'
  refine ⟨by omega, T2 ++ [s], Cp2, (k2.le (by omega)).app (TL_one hs0.2.1 (by omega)), by rw [k3, List.map_append, List.append_assoc]; rfl, ⟨k4.1, k4.2.1, fun q1 q2 => hrl_app (k4.2.2.1 q1 q2) _, k4.2.2.2.1, k4.2.2.2.2⟩, fun S hS o ho => ?_⟩
  have e1 := g5 S hS o
  refine e1 ?_
  have hc : clo L (T ++ S) Cp = (S, Cp ++ T.map cdo) := clo_app T S Cp g2 (by
    have := hS.1
    rcases hL with ⟨rfl, rfl⟩ | ⟨rfl, rfl⟩ | ⟨rfl, rfl⟩ | ⟨rfl, rfl⟩ <;> exact this.le (by decide))
  have hA : syA b n p1 (T ++ S) Cp u1 w1 = .inl (true, tNx b n p1, s :: S, C1, u1, w1) := by
    unfold syA
    rw [if_neg (fun q => h41 q.1), hs, ht, hc, if_pos ⟨hs0.1, fun q => by omega⟩, g3]
  refine (Ev_A hA).mpr (k5 (s :: S) ⟨?_, fun q1 q2 => ?_, ?_⟩ o ?_)
  · refine Hd_cons (Or.inr ?_)
    rcases hL with ⟨rfl, rfl⟩ | ⟨rfl, rfl⟩ | ⟨rfl, rfl⟩ | ⟨rfl, rfl⟩ <;> rw [ht] <;> decide
  · rw [mno]
    exact decide_eq_false (fun q => q.elim hs0.2.1 (fun q => by omega))
  · rw [dps, if_neg (fun q => q.elim hs0.2.1 hs0.2.2)]
    exact hS.2.2
  · rw [List.append_assoc] at ho
    exact ho
theorem Lf_init {b : Nat → Int} {n : Nat} {L L1 : Int} {d p : Nat} {C : List (Int × Int)} {u w : Int} {f : Int × Int} (hL : (L = 6 ∧ L1 = 7) ∨ (L = 5 ∧ L1 = 6) ∨ (L = 2 ∧ L1 = 3) ∨ (L = 1 ∧ L1 = 2)) (h : Lf b n L1 d p C u w f) : Lf b n L d p C u w f := by
  intro S hS
  refine h S ⟨?_, fun q => hS.2.1 (by omega), hS.2.2⟩
  have := hS.1
  rcases hL with ⟨rfl, rfl⟩ | ⟨rfl, rfl⟩ | ⟨rfl, rfl⟩ | ⟨rfl, rfl⟩ <;> exact this.le (by decide)
theorem Lf_step {b : Nat → Int} {n : Nat} {L L1 : Int} {d p p1 : Nat} {C C1 : List (Int × Int)} {u u1 w w1 : Int} {f : Int × Int} (s : Int) (hL : (L = 6 ∧ L1 = 7) ∨ (L = 5 ∧ L1 = 6) ∨ (L = 2 ∧ L1 = 3) ∨ (L = 1 ∧ L1 = 2)) (hs : sig (tK b n p1) = s) (hs0 : s ≠ 0 ∧ s ≠ 20 ∧ s ≠ 21) (ht : tgt s = L) (h41 : tK b n p1 ≠ 41) (h : Lx b n L L1 d p p1 C C1 u u1 w w1) (h' : Lf b n L1 d (tNx b n p1) C1 u1 w1 f) : Lf b n L d p C u w f := by
  obtain ⟨g1, T, Cp, g2, g3, g4, g5⟩ := h
  intro S hS
  refine g5 S hS _ ?_
  have hc : clo L (T ++ S) Cp = (S, Cp ++ T.map cdo) := clo_app T S Cp g2 (by
    have := hS.1
    rcases hL with ⟨rfl, rfl⟩ | ⟨rfl, rfl⟩ | ⟨rfl, rfl⟩ | ⟨rfl, rfl⟩ <;> exact this.le (by decide))
  have hA : syA b n p1 (T ++ S) Cp u1 w1 = .inl (true, tNx b n p1, s :: S, C1, u1, w1) := by
    unfold syA
    rw [if_neg (fun q => h41 q.1), hs, ht, hc, if_pos ⟨hs0.1, fun q => by omega⟩, g3]
  refine (Ev_A hA).mpr (h' (s :: S) ⟨?_, fun q1 q2 => ?_, ?_⟩)
  · refine Hd_cons (Or.inr ?_)
    rcases hL with ⟨rfl, rfl⟩ | ⟨rfl, rfl⟩ | ⟨rfl, rfl⟩ | ⟨rfl, rfl⟩ <;> rw [ht] <;> decide
  · rw [mno]
    exact decide_eq_false (fun q => q.elim hs0.2.1 (fun q => by omega))
  · rw [dps, if_neg (fun q => q.elim hs0.2.1 hs0.2.2)]
    exact hS.2.2
/-- a relation -/
theorem Lv_rel0 {b : Nat → Int} {n : Nat} {d p p' : Nat} {C C' : List (Int × Int)} {u u' w w' : Int} (h146 : tK b n p ≠ 146) (h : Lv b n 5 d p p' C C' u u' w w') (hno : ¬ (tK b n p' = 60 ∨ tK b n p' = 62 ∨ tK b n p' = 61)) : Lv b n 4 d p p' C C' u u' w w' := by
  obtain ⟨h1, T, Cp, h2, h3, h4, h5⟩ := h
  refine ⟨h1, T, Cp, h2.le (by decide), h3, ⟨fun _ => h4.1 (by decide), fun _ => h4.2.1 (by decide), fun _ q => absurd q hno, fun q => absurd q (by decide), fun q => absurd q (by decide)⟩, fun S hS o ho => h5 S ⟨?_, fun _ q => absurd q h146, hS.2.2⟩ o ho⟩
  exact (show Hd 4 S from hS.1).le (by decide)
theorem rel_A {b : Nat → Int} {n : Nat} {p1 : Nat} {T S : List Int} {C1 Cp : List (Int × Int)} {u1 w1 : Int} (hk : tK b n p1 = 60 ∨ tK b n p1 = 62 ∨ tK b n p1 = 61) (g2 : TL 5 T) (hS : Hd 4 S) (g3 : C1 = Cp ++ T.map cdo) : syA b n p1 (T ++ S) Cp u1 w1 = .inl (true, tNx b n p1, tK b n p1 :: S, C1, u1, w1) := by
  have hs : sig (tK b n p1) = tK b n p1 := by
    unfold sig
    rw [if_neg (by omega), if_neg (by omega), if_pos (by omega)]
  have ht : tgt (tK b n p1) = 4 := by
    unfold tgt
    rw [if_neg (by omega), if_neg (by omega), if_neg (by omega), if_pos (by omega)]
  unfold syA
  rw [if_neg (fun q => by omega), hs, ht, clo_app T S Cp (g2.le (by decide)) hS, if_pos ⟨by omega, fun q => by rw [hrl_off g2 hS] at q; exact absurd q.2 (by decide)⟩, g3]
theorem Lv_rel1 {b : Nat → Int} {n : Nat} {d p p1 p2 : Nat} {C C1 C2 : List (Int × Int)} {u u1 u2 w w1 w2 : Int} (h146 : tK b n p ≠ 146) (hk : tK b n p1 = 60 ∨ tK b n p1 = 62 ∨ tK b n p1 = 61) (hp : p1 ≤ tNx b n p1) (h : Lv b n 5 d p p1 C C1 u u1 w w1) (h' : Lv b n 5 d (tNx b n p1) p2 C1 C2 u1 u2 w1 w2) : Lv b n 4 d p p2 C (C2 ++ [cdo (tK b n p1)]) u u2 w w2 := by
  obtain ⟨g1, T, Cp, g2, g3, g4, g5⟩ := h
  obtain ⟨k1, T2, Cp2, k2, k3, k4, k5⟩ := h'
  have ht : tgt (tK b n p1) = 4 := by
    unfold tgt
    rw [if_neg (by omega), if_neg (by omega), if_neg (by omega), if_pos (by omega)]
  refine ⟨by omega, T2 ++ [tK b n p1], Cp2, (k2.le (by decide)).app (TL_one (by omega) (by omega)), by rw [k3, List.map_append, List.append_assoc]; rfl, ⟨fun _ => k4.1 (by decide), fun _ => k4.2.1 (by decide), fun _ _ => hrl_on k2 (by omega) ht, fun q => absurd q (by decide), fun q => absurd q (by decide)⟩, fun S hS o ho => ?_⟩
  have hS4 : Hd 4 S := hS.1
  refine g5 S ⟨hS4.le (by decide), fun _ q => absurd q h146, hS.2.2⟩ o ((Ev_A (rel_A hk g2 hS4 g3)).mpr (k5 (tK b n p1 :: S) ⟨Hd_cons (Or.inr (by rw [ht]; decide)), fun _ _ => ?_, ?_⟩ o ?_))
  · rw [mno]
    exact decide_eq_false (fun q => by omega)
  · rw [dps, if_neg (by omega)]
    exact hS.2.2
  · rw [List.append_assoc] at ho
    exact ho
theorem Lf_rel0 {b : Nat → Int} {n : Nat} {d p : Nat} {C : List (Int × Int)} {u w : Int} {f : Int × Int} (h146 : tK b n p ≠ 146) (h : Lf b n 5 d p C u w f) : Lf b n 4 d p C u w f := fun S hS => h S ⟨(show Hd 4 S from hS.1).le (by decide), fun _ q => absurd q h146, hS.2.2⟩
theorem Lf_rel1 {b : Nat → Int} {n : Nat} {d p p1 : Nat} {C C1 : List (Int × Int)} {u u1 w w1 : Int} {f : Int × Int} (h146 : tK b n p ≠ 146) (hk : tK b n p1 = 60 ∨ tK b n p1 = 62 ∨ tK b n p1 = 61) (h : Lv b n 5 d p p1 C C1 u u1 w w1) (h' : Lf b n 5 d (tNx b n p1) C1 u1 w1 f) : Lf b n 4 d p C u w f := by
  obtain ⟨g1, T, Cp, g2, g3, g4, g5⟩ := h
  have ht : tgt (tK b n p1) = 4 := by
    unfold tgt
    rw [if_neg (by omega), if_neg (by omega), if_neg (by omega), if_pos (by omega)]
  intro S hS
  have hS4 : Hd 4 S := hS.1
  refine g5 S ⟨hS4.le (by decide), fun _ q => absurd q h146, hS.2.2⟩ _ ((Ev_A (rel_A hk g2 hS4 g3)).mpr (h' (tK b n p1 :: S) ⟨Hd_cons (Or.inr (by rw [ht]; decide)), fun _ _ => ?_, ?_⟩))
  · rw [mno]
    exact decide_eq_false (fun q => by omega)
  · rw [dps, if_neg (by omega)]
    exact hS.2.2
/-- one -/
theorem Lv_one {b : Nat → Int} {n : Nat} {d p p' : Nat} {C C' : List (Int × Int)} {u u' w w' : Int} (h : Lv b n 4 d p p' C C' u u' w w') : Lv b n 3 d p p' C C' u u' w w' := by
  obtain ⟨h1, T, Cp, h2, h3, h4, h5⟩ := h
  exact ⟨h1, T, Cp, h2.le (by decide), h3, ⟨fun _ => h4.1 (by decide), fun _ => h4.2.1 (by decide), fun _ => h4.2.2.1 (by decide), fun q => absurd q (by decide), fun q => absurd q (by decide)⟩, fun S hS o ho => h5 S ⟨show Hd 4 S from hS.1, fun q => absurd q (by decide), hS.2.2⟩ o ho⟩
theorem Lf_one {b : Nat → Int} {n : Nat} {d p : Nat} {C : List (Int × Int)} {u w : Int} {f : Int × Int} (h : Lf b n 4 d p C u w f) : Lf b n 3 d p C u w f := fun S hS => h S ⟨show Hd 4 S from hS.1, fun q => absurd q (by decide), hS.2.2⟩
theorem not_B {b : Nat → Int} {n : Nat} {d p : Nat} {S : List Int} {C : List (Int × Int)} {u w : Int} (hk : tK b n p = 146) (hd : d ≤ 6) (hS : Ok b n 3 d p S) : syB b n p S C u w = .inl (true, tNx b n p, 21 :: S, C, u, w) := by
  unfold syB
  rw [if_pos ⟨hk, mno_hd.mpr hS.1⟩, if_neg (by have := hS.2.2; omega)]
theorem not_S {b : Nat → Int} {n : Nat} {d p q : Nat} {S : List Int} (hS : Ok b n 3 d p S) : Ok b n 3 (d + 1) q (21 :: S) := ⟨Hd_cons (Or.inr (by decide)), fun h => absurd h (by decide), by rw [dps, if_pos (Or.inr rfl), hS.2.2]⟩
theorem Lv_not {b : Nat → Int} {n : Nat} {d p p' : Nat} {C C' : List (Int × Int)} {u u' w w' : Int} (hk : tK b n p = 146) (hd : d ≤ 6) (hp : p ≤ tNx b n p) (h : Lv b n 3 (d + 1) (tNx b n p) p' C C' u u' w w') : Lv b n 3 d p p' C (C' ++ [cdo 21]) u u' w w' := by
  obtain ⟨h1, T, Cp, h2, h3, h4, h5⟩ := h
  refine ⟨by omega, T ++ [21], Cp, h2.app (TL_one (by decide) (by decide)), by rw [h3, List.map_append, List.append_assoc]; rfl, ⟨h4.1, h4.2.1, fun q1 q2 => hrl_app (h4.2.2.1 q1 q2) _, h4.2.2.2.1, h4.2.2.2.2⟩, fun S hS o ho => ?_⟩
  refine (Ev_B (not_B hk hd hS)).mpr (h5 (21 :: S) (not_S hS) o ?_)
  rw [List.append_assoc] at ho
  exact ho
theorem Lf_not {b : Nat → Int} {n : Nat} {d p : Nat} {C : List (Int × Int)} {u w : Int} {f : Int × Int} (hk : tK b n p = 146) (hd : d ≤ 6) (h : Lf b n 3 (d + 1) (tNx b n p) C u w f) : Lf b n 3 d p C u w f := fun S hS => (Ev_B (not_B hk hd hS)).mpr (h (21 :: S) (not_S hS))
theorem Lf_not7 {b : Nat → Int} {n : Nat} {d p : Nat} {C : List (Int × Int)} {u w : Int} (hk : tK b n p = 146) (hd : 6 < d) : Lf b n 3 d p C u w (fl b n 2 p) := fun S hS => (Ev_Br (by
  unfold syB
  rw [if_pos ⟨hk, mno_hd.mpr hS.1⟩, if_pos (by have := hS.2.2; omega)])).mpr rfl
/-- a unit -/
theorem Lv_opnd {b : Nat → Int} {n : Nat} {d p : Nat} {C : List (Int × Int)} {u w : Int} (hk : tK b n p = 201 ∨ 0 ≤ ask (tK b n p)) (h40 : tK b n p ≠ 40) (h146 : tK b n p ≠ 146) (hf : ¬ (w = 90 ∨ u = 30)) (hp : p < tNx b n p) : Lv b n 7 d p (tNx b n p) C (C ++ [if ask (tK b n p) < 0 then (0, tV b n p) else (1, ask (tK b n p))]) u (u + 1) w (w + 1) := by
  refine ⟨hp, [], C ++ [if ask (tK b n p) < 0 then (0, tV b n p) else (1, ask (tK b n p))], TL_nil, by simp, ⟨fun q => absurd q (by decide), fun q => absurd q (by decide), fun q => absurd q (by decide), fun q => absurd q (by decide), fun q => absurd q (by decide)⟩, fun S hS o ho => ?_⟩
  refine (Ev_B ?_).mpr ho
  unfold syB
  rw [if_neg (fun q => h146 q.1), if_neg h40, if_neg (by omega)]
  rfl
theorem Lf_unit {b : Nat → Int} {n : Nat} {d p : Nat} {C : List (Int × Int)} {u w : Int} (hk : (tK b n p ≠ 201 ∧ ask (tK b n p) < 0 ∧ tK b n p ≠ 40) ∨ (w = 90 ∨ u = 30) ∨ (tK b n p = 40 ∧ 6 < d)) : Lf b n 7 d p C u w (fl b n 2 p) := by
  intro S hS
  refine (Ev_Br ?_).mpr rfl
  have hm : ¬ (tK b n p = 146 ∧ mno S = true) := fun q => by
    have := hS.2.1 (by decide) q.1
    rw [this] at q
    exact absurd q.2 (by decide)
  have hd := hS.2.2
  unfold syB
  rw [if_neg hm]
  by_cases h40 : tK b n p = 40
  · rw [if_pos h40, if_pos (by omega)]
  · rw [if_neg h40, if_pos (by omega)]
theorem brk_B {b : Nat → Int} {n : Nat} {d p : Nat} {S : List Int} {C : List (Int × Int)} {u w : Int} (hk : tK b n p = 40) (hf : ¬ (w = 90 ∨ u = 30)) (hd : d ≤ 6) (hS : Ok b n 7 d p S) : syB b n p S C u w = .inl (true, tNx b n p, 20 :: S, C, u + 1, w + 1) := by
  have := hS.2.2
  unfold syB
  rw [if_neg (fun q => by omega), if_pos hk, if_neg (by omega)]
theorem brk_S {b : Nat → Int} {n : Nat} {d p q : Nat} {S : List Int} (hS : Ok b n 7 d p S) : Ok b n 1 (d + 1) q (20 :: S) := ⟨Hd_cons (Or.inl rfl), fun h => absurd h (by decide), by rw [dps, if_pos (Or.inl rfl), hS.2.2]⟩
theorem Lv_brk {b : Nat → Int} {n : Nat} {d p p' : Nat} {C C' : List (Int × Int)} {u u' w w' : Int} (hk : tK b n p = 40) (hf : ¬ (w = 90 ∨ u = 30)) (hd : d ≤ 6) (hp : p ≤ tNx b n p) (hp2 : p' ≤ tNx b n p') (h41 : tK b n p' = 41) (h : Lv b n 1 (d + 1) (tNx b n p) p' C C' (u + 1) u' (w + 1) w') : Lv b n 7 d p (tNx b n p') C C' u u' w w' := by
  obtain ⟨h1, T, Cp, h2, h3, h4, h5⟩ := h
  refine ⟨by omega, [], C', TL_nil, by simp, ⟨fun q => absurd q (by decide), fun q => absurd q (by decide), fun q => absurd q (by decide), fun q => absurd q (by decide), fun q => absurd q (by decide)⟩, fun S hS o ho => ?_⟩
  refine (Ev_B (brk_B hk hf hd hS)).mpr (h5 (20 :: S) (brk_S hS) o ((Ev_A ?_).mpr ho))
  have hc : clo 0 (T ++ 20 :: S) Cp = (20 :: S, Cp ++ T.map cdo) := clo_app T (20 :: S) Cp (h2.le (by decide)) (Hd_cons (Or.inl rfl))
  unfold syA
  rw [if_pos ⟨h41, by simp⟩, hc, h3]
  rfl
theorem stop_A {b : Nat → Int} {n : Nat} {p' : Nat} {T S : List Int} (h4 : NC b n 1 p' T) : ¬ (sig (tK b n p') ≠ 0 ∧ ¬ (tgt (sig (tK b n p')) = 4 ∧ hrl (T ++ S) = true)) := by
  intro q
  have a1 := h4.1 (by decide)
  have a2 := h4.2.1 (by decide)
  have a4 := h4.2.2.2.1 (by decide)
  have a5 := h4.2.2.2.2 (by decide)
  by_cases hr : tK b n p' = 60 ∨ tK b n p' = 62 ∨ tK b n p' = 61
  · refine q.2 ⟨?_, hrl_app (h4.2.2.1 (by decide) hr) S⟩
    rcases hr with e | e | e <;> rw [e] <;> decide
  · refine q.1 ?_
    unfold sig
    rw [if_neg a4, if_neg a5, if_neg (by omega)]
theorem Lf_brk0 {b : Nat → Int} {n : Nat} {d p : Nat} {C : List (Int × Int)} {u w : Int} {f : Int × Int} (hk : tK b n p = 40) (hf : ¬ (w = 90 ∨ u = 30)) (hd : d ≤ 6) (h : Lf b n 1 (d + 1) (tNx b n p) C (u + 1) (w + 1) f) : Lf b n 7 d p C u w f := fun S hS => (Ev_B (brk_B hk hf hd hS)).mpr (h (20 :: S) (brk_S hS))
theorem Lf_brk1 {b : Nat → Int} {n : Nat} {d p p' : Nat} {C C' : List (Int × Int)} {u u' w w' : Int} (hk : tK b n p = 40) (hf : ¬ (w = 90 ∨ u = 30)) (hd : d ≤ 6) (h41 : tK b n p' ≠ 41) (h : Lv b n 1 (d + 1) (tNx b n p) p' C C' (u + 1) u' (w + 1) w') : Lf b n 7 d p C u w (fl b n 2 p') := by
  obtain ⟨h1, T, Cp, h2, h3, h4, h5⟩ := h
  intro S hS
  refine (Ev_B (brk_B hk hf hd hS)).mpr (h5 (20 :: S) (brk_S hS) _ ((Ev_Ar ?_).mpr rfl))
  unfold syA
  rw [if_neg (fun q => h41 q.1), if_neg (stop_A h4), if_pos (by simp)]
/-- the whole formula -/
theorem Ev_top {b : Nat → Int} {n : Nat} {p p' : Nat} {C C' : List (Int × Int)} {u u' w w' : Int} (h : Lv b n 1 0 p p' C C' u u' w w') : Ev b n (true, p, [], C, u, w) (.inr (p', C', u', w')) := by
  obtain ⟨h1, T, Cp, h2, h3, h4, h5⟩ := h
  refine h5 [] ⟨fun o S' e => absurd e (by simp), fun q => absurd q (by decide), rfl⟩ _ ((Ev_Ar ?_).mpr rfl)
  have hno : ¬ (20 : Int) ∈ T ++ [] := fun q => by
    rw [List.append_nil] at q
    exact (h2 20 q).1 rfl
  have hc : clo 0 (T ++ []) Cp = ([], Cp ++ T.map cdo) := clo_app T [] Cp (h2.le (by decide)) (fun o S' e => absurd e (by simp))
  unfold syA
  rw [if_neg (fun q => hno q.2), if_neg (stop_A h4), if_neg hno, hc, h3]
theorem Ev_topf {b : Nat → Int} {n : Nat} {p : Nat} {C : List (Int × Int)} {u w : Int} {f : Int × Int} (h : Lf b n 1 0 p C u w f) : Ev b n (true, p, [], C, u, w) (.inl f) := h [] ⟨fun o S' e => absurd e (by simp), fun q => absurd q (by decide), rfl⟩

/-! formulas by the program -/
def ekk (x : Int × Int) : Int := if x.1 = 0 then 201 else if x.1 = 1 then (if x.2 ≤ 4 then 139 + x.2 else 142 + x.2) else if x.1 = 2 then 146 else if x.2 = 124 then 144 else if x.2 = 38 then 145 else x.2
def ekv (x : Int × Int) : Int := if x.1 = 0 then x.2 else 0
def encd (k v : Int) : Int32 := Int32.ofInt k ||| (Int32.ofInt v <<< (10 &&& 31))
theorem getD_sn {α : Type} {NS : List α} {L e : α} {k : Nat} : (NS ++ [L]).getD k e = if k < NS.length then NS.getD k e else if k = NS.length then L else e := by
  rw [List.getD_eq_getElem?_getD, List.getD_eq_getElem?_getD]
  by_cases h : k < NS.length
  · rw [if_pos h, List.getElem?_append_left h]
  · rw [if_neg h, List.getElem?_append_right (by omega)]
    by_cases h2 : k = NS.length
    · rw [if_pos h2]
      simp [h2]
    · rw [if_neg h2, List.getElem?_eq_none (by simp; omega)]
      rfl
theorem ask_neg {k : Int} (h1 : k ≠ 139) (h2 : k ≠ 140) (h3 : k ≠ 141) (h4 : k ≠ 142) (h5 : k ≠ 143) (h6 : k ≠ 147) (h7 : k ≠ 148) (h8 : k ≠ 149) (h9 : k ≠ 150) : ask k = -1 := by
  unfold ask
  rw [if_neg h1, if_neg h2, if_neg h3, if_neg h4, if_neg h5, if_neg h6, if_neg h7, if_neg h8, if_neg h9]
theorem c_times {k r : Int32} {G G1 : GS} (h : P_fTimes k G r G1) : G = G1 ∧ (r.toInt ≠ 0 ↔ (k.toInt = 42 ∨ k.toInt = 47 ∨ k.toInt = 37)) := by
  obtain ⟨-, hF, -, h⟩ := h
  have z : (0 : Int32).toInt = 0 := rfl
  have o : (1 : Int32).toInt = 1 := rfl
  refine ⟨hF.nil, ?_⟩
  rcases h with ⟨c, rfl, -⟩ | ⟨c, ⟨d, rfl, -⟩ | ⟨d, ⟨e, rfl, -⟩ | ⟨e, rfl, -⟩⟩⟩ <;> omega
def CodeC_1 (c0 : Nat) (C : List (Int × Int)) (G : GS) : Prop := ((c0 + C.length ≤ 580 ∧ (G.1 1 13).toInt = ((c0 + C.length : Nat) : Int)) ∨ (580 < c0 + C.length ∧ (G.1 1 13).toInt = 580)) ∧ ∀ i, i < C.length → c0 + i < 580 → G.1 17 (c0 + i) = encd (ekk (C.getD i (0, 0))) (ekv (C.getD i (0, 0)))
def CfC_1 (b : Nat → Int) (n c0 : Nat) (G : GS) (p : Nat) (C : List (Int × Int)) (u w : Int) : Prop := CPx b n G p ∧ (G.1 4 2).toInt = u ∧ (G.1 1 12).toInt = w ∧ CodeC_1 c0 C G ∧ u ≤ 30 ∧ w ≤ 90
def LR_1 (b : Nat → Int) (n c0 : Nat) (L : Int) (d p : Nat) (C : List (Int × Int)) (u w : Int) (r : Int32) (G1 : GS) : Prop := (∃ f, CF f r G1 ∧ Lf b n L d p C u w f) ∨ (∃ p' u' w' C', r.toInt = 1 ∧ CfC_1 b n c0 G1 p' C' u' w' ∧ Lv b n L d p p' C C' u u' w w')
def XE_1 (b : Nat → Int) (n c0 : Nat) (L : Int) (E : XR) : Prop := ∀ (p0 : Int32) (d : Nat) (G : GS) (r : Int32) (G1 : GS) (p : Nat) (C : List (Int × Int)) (u w : Int), p0.toInt = (d : Int) → E p0 G r G1 → CfC_1 b n c0 G p C u w → LR_1 b n c0 L d p C u w r G1
theorem CodeC_1.fr {c0 : Nat} {C : List (Int × Int)} {rs : List Nat} {fs : List (Nat × Nat)} {G G1 : GS} (h : CodeC_1 c0 C G) (hF : Fr rs fs G G1) (h1 : 1 ∉ rs) (h2 : (1, 13) ∉ fs) (h3 : 17 ∉ rs) (h4 : ∀ x ∈ fs, x.1 ≠ 17) : CodeC_1 c0 C G1 := by
  unfold CodeC_1 at h ⊢
  rw [hF.i 1 13 h1 h2, hF.row1 17 h3 h4]
  exact h
theorem c_emit_1 {c0 : Nat} {C : List (Int × Int)} {G G1 : GS} {k v : Int32} {x : Int × Int} (h : P_emit_1 k v G G1) (hC : CodeC_1 c0 C G) (hk : k.toInt = ekk x) (hv : v.toInt = ekv x) : CodeC_1 c0 (C ++ [x]) G1 := by
  obtain ⟨-, -, hh⟩ := h
  obtain ⟨h1, h2⟩ := hC
  unfold CodeC_1
  rw [List.length_append, List.length_singleton]
  rcases hh with ⟨c, rfl⟩ | ⟨c, y3, t3, y5, e5, y6, e6, hF, e13, eR⟩
  · refine ⟨Or.inr ⟨by omega, by omega⟩, fun i hi hc => ?_⟩
    rw [getD_sn, if_pos (by omega)]
    exact h2 i (by omega) hc
  · refine ⟨Or.inl ⟨by omega, by rw [e13]; omega⟩, fun i hi hc => ?_⟩
    rw [eR, getD_sn]
    by_cases hq : i < C.length
    · rw [if_pos hq]
      have e : upd (G.1 17) (G.1 1 13).toNatClampNeg y6 (c0 + i) = G.1 17 (c0 + i) := if_neg (by have := c_nat (G.1 1 13); omega)
      rw [e]
      exact h2 i hq hc
    · rw [if_neg hq, if_pos (by omega)]
      have e : upd (G.1 17) (G.1 1 13).toNatClampNeg y6 (c0 + i) = y6 := if_pos (by have := c_nat (G.1 1 13); omega)
      rw [e, e6, e5, encd, ← hk, ← hv, Int32.ofInt_toInt, Int32.ofInt_toInt]
theorem CfC_1.next {b : Nat → Int} {n c0 p : Nat} {G G1 : GS} {C : List (Int × Int)} {u w : Int} {r : Int32} (h : CfC_1 b n c0 G p C u w) (ha : P_tAdvance G r G1) (hk : tK b n p ≠ 202) : r.toInt = 1 ∧ CfC_1 b n c0 G1 (tNx b n p) C u w := by
  obtain ⟨hp, hu, hw, hC, hb⟩ := h
  have hn := c_next ha hp hk
  exact ⟨hn.1, hn.2, by rw [ha.2.1.i 4 2 (by decide) (by decide)]; exact hu, by rw [ha.2.1.i 1 12 (by decide) (by decide)]; exact hw, hC.fr ha.2.1 (by decide) (by decide) (by decide) (by decide), hb⟩
theorem CfC_1.emit {b : Nat → Int} {n c0 p : Nat} {G G1 : GS} {C : List (Int × Int)} {u w : Int} {k v : Int32} {x : Int × Int} (h : CfC_1 b n c0 G p C u w) (he : P_emit_1 k v G G1) (hk : k.toInt = ekk x) (hv : v.toInt = ekv x) : CfC_1 b n c0 G1 p (C ++ [x]) u w := by
  obtain ⟨hp, hu, hw, hC, hb⟩ := h
  exact ⟨hp.fr he.2.1 (by decide) (by decide) (by decide) (by decide), by rw [he.2.1.i 4 2 (by decide) (by decide)]; exact hu, by rw [he.2.1.i 1 12 (by decide) (by decide)]; exact hw, c_emit_1 he hC hk hv, hb⟩
theorem CfC_1.t {b : Nat → Int} {n c0 p : Nat} {G : GS} {C : List (Int × Int)} {u w : Int} (h : CfC_1 b n c0 G p C u w) : n ≤ 1600 ∧ p ≤ n ∧ (G.1 3 3).toInt = tK b n p ∧ p ≤ tNx b n p ∧ tNx b n p ≤ n ∧ (tK b n p ≠ 203 → p < tNx b n p) := by
  have h1 := tN_p (b := b) h.1.1.2.1 h.1.2.2.2
  exact ⟨h.1.1.2.1, h.1.2.2.2, h.1.2.1.1, h1.1, h1.2.1, fun q => (h1.2.2 q).1⟩
theorem c_brk_1 {b : Nat → Int} {n c0 d p : Nat} {E O : XR} (hE : XE_1 b n c0 1 E) {p0 r : Int32} {G G1 : GS} {C : List (Int × Int)} {u w : Int} (h : P_fBracket_1_s E O p0 G r G1) (hd : p0.toInt = (d : Int)) (hc : CfC_1 b n c0 G p C (u + 1) (w + 1)) (hk : tK b n p = 40) (hf : ¬ (w = 90 ∨ u = 30)) : LR_1 b n c0 7 d p C u w r G1 := by
  obtain ⟨-, -, -, hh⟩ := h
  have z : (0 : Int32).toInt = 0 := rfl
  have ht := hc.t
  rcases hh with ⟨c, r2, G3, ha, y8, t8, r9, G10, hE1, hh⟩ | ⟨c, r29, G30, ha, rfl, rfl⟩
  · have hn := hc.next ha (by omega)
    have h1 := hE y8 (d + 1) G3 r9 G10 (tNx b n p) C (u + 1) (w + 1) (by omega) hE1 hn.2
    rcases h1 with ⟨f, hf1, hf2⟩ | ⟨p', u', w', C', hr, hc', hv⟩
    · rcases hh with ⟨c2, rfl, rfl⟩ | ⟨c2, hh⟩
      · exact Or.inl ⟨f, ⟨z, hf1.2⟩, Lf_brk0 hk hf (by omega) hf2⟩
      · have := hf1.1
        omega
    · rcases hh with ⟨c2, -⟩ | ⟨c2, ⟨c3, r23, G24, ha2, rfl, rfl⟩ | ⟨c3, r17, G18, ha2, rfl, rfl⟩⟩
      · omega
      · have ht' := hc'.t
        have hn' := hc'.next ha2 (by omega)
        exact Or.inr ⟨tNx b n p', u', w', C', hn'.1, hn'.2, Lv_brk hk hf (by omega) (by omega) (by omega) (by omega) hv⟩
      · have ht' := hc'.t
        exact Or.inl ⟨_, (c_ref ha2 hc'.1).1, Lf_brk1 hk hf (by omega) (by omega) hv⟩
  · exact Or.inl ⟨_, (c_ref ha hc.1).1, Lf_unit (Or.inr (Or.inr ⟨hk, by omega⟩))⟩
theorem c_unit_1 {b : Nat → Int} {n c0 d p : Nat} {E O : XR} (hE : XE_1 b n c0 1 E) {p0 r : Int32} {G G1 : GS} {C : List (Int × Int)} {u w : Int} (h : P_fUnit_1_s E O p0 G r G1) (hd : p0.toInt = (d : Int)) (hc : CfC_1 b n c0 G p C u w) : LR_1 b n c0 7 d p C u w r G1 := by
  obtain ⟨-, -, -, hh⟩ := h
  have z : (0 : Int32).toInt = 0 := rfl
  have ht := hc.t
  obtain ⟨hp, hu, hw, hC, hu30, hw90⟩ := id hc
  rcases hh with ⟨c, r3, G4, ha, rfl, rfl⟩ | ⟨c, ⟨cw, y11, t11, y13, t13, hh⟩ | ⟨cw, r3, G4, ha, rfl, rfl⟩⟩
  · exact Or.inl ⟨_, (c_ref ha hp).1, Lf_unit (Or.inr (Or.inl (Or.inr (by omega))))⟩
  · have g14 : ∀ G14 : GS, Fr [] [(1, 12), (4, 2)] G G14 → G14.1 1 12 = y13 → G14.1 4 2 = y11 → CfC_1 b n c0 G14 p C (u + 1) (w + 1) := by
      intro G14 hF e12 e2
      exact ⟨hp.fr hF (by decide) (by decide) (by decide) (by decide), by rw [e2]; omega, by rw [e12]; omega, hC.fr hF (by decide) (by decide) (by decide) (by decide), by omega, by omega⟩
    have fin : ∀ (x : Int × Int) (kk vv r28 : Int32) (G14 G24 G29 : GS), Fr [] [(1, 12), (4, 2)] G G14 → G14.1 1 12 = y13 → G14.1 4 2 = y11 → P_emit_1 kk vv G14 G24 → P_tAdvance G24 r28 G29 → kk.toInt = ekk x → vv.toInt = ekv x → tK b n p ≠ 202 → r28.toInt = 1 ∧ CfC_1 b n c0 G29 (tNx b n p) (C ++ [x]) (u + 1) (w + 1) := by
      intro x kk vv r28 G14 G24 G29 hF e12 e2 he ha hk hv h202
      exact ((g14 G14 hF e12 e2).emit he hk hv).next ha h202
    rcases hh with ⟨k40, G14, -, hF14, e12, e2, r16, G17, hb, rfl, rfl⟩ | ⟨k40, hh⟩
    · exact c_brk_1 hE hb hd (g14 G14 hF14 e12 e2) (by omega) (by omega)
    rcases hh with ⟨k139, G14, -, hF14, e12, e2, G24, he, r28, G29, ha, rfl, rfl⟩ | ⟨k139, hh⟩
    · have hk : tK b n p = 139 := by omega
      have hf := fin (1, 0) (G.1 3 3) 0 r28 G14 G24 G29 hF14 e12 e2 he ha (by show _ = (139 : Int); omega) rfl (by omega)
      have hv := Lv_opnd (b := b) (n := n) (d := d) (p := p) (C := C) (u := u) (w := w) (Or.inr (by rw [hk]; decide)) (by omega) (by omega) (by omega) (by omega)
      rw [hk, show (if ask 139 < 0 then ((0 : Int), tV b n p) else (1, ask 139)) = (1, 0) from rfl] at hv
      exact Or.inr ⟨_, _, _, _, hf.1, hf.2, hv⟩
    rcases hh with ⟨k140, G14, -, hF14, e12, e2, G24, he, r28, G29, ha, rfl, rfl⟩ | ⟨k140, hh⟩
    · have hk : tK b n p = 140 := by omega
      have hf := fin (1, 1) (G.1 3 3) 0 r28 G14 G24 G29 hF14 e12 e2 he ha (by show _ = (140 : Int); omega) rfl (by omega)
      have hv := Lv_opnd (b := b) (n := n) (d := d) (p := p) (C := C) (u := u) (w := w) (Or.inr (by rw [hk]; decide)) (by omega) (by omega) (by omega) (by omega)
      rw [hk, show (if ask 140 < 0 then ((0 : Int), tV b n p) else (1, ask 140)) = (1, 1) from rfl] at hv
      exact Or.inr ⟨_, _, _, _, hf.1, hf.2, hv⟩
    rcases hh with ⟨k141, G14, -, hF14, e12, e2, G24, he, r28, G29, ha, rfl, rfl⟩ | ⟨k141, hh⟩
    · have hk : tK b n p = 141 := by omega
      have hf := fin (1, 2) (G.1 3 3) 0 r28 G14 G24 G29 hF14 e12 e2 he ha (by show _ = (141 : Int); omega) rfl (by omega)
      have hv := Lv_opnd (b := b) (n := n) (d := d) (p := p) (C := C) (u := u) (w := w) (Or.inr (by rw [hk]; decide)) (by omega) (by omega) (by omega) (by omega)
      rw [hk, show (if ask 141 < 0 then ((0 : Int), tV b n p) else (1, ask 141)) = (1, 2) from rfl] at hv
      exact Or.inr ⟨_, _, _, _, hf.1, hf.2, hv⟩
    rcases hh with ⟨k142, G14, -, hF14, e12, e2, G24, he, r28, G29, ha, rfl, rfl⟩ | ⟨k142, hh⟩
    · have hk : tK b n p = 142 := by omega
      have hf := fin (1, 3) (G.1 3 3) 0 r28 G14 G24 G29 hF14 e12 e2 he ha (by show _ = (142 : Int); omega) rfl (by omega)
      have hv := Lv_opnd (b := b) (n := n) (d := d) (p := p) (C := C) (u := u) (w := w) (Or.inr (by rw [hk]; decide)) (by omega) (by omega) (by omega) (by omega)
      rw [hk, show (if ask 142 < 0 then ((0 : Int), tV b n p) else (1, ask 142)) = (1, 3) from rfl] at hv
      exact Or.inr ⟨_, _, _, _, hf.1, hf.2, hv⟩
    rcases hh with ⟨k143, G14, -, hF14, e12, e2, G24, he, r28, G29, ha, rfl, rfl⟩ | ⟨k143, hh⟩
    · have hk : tK b n p = 143 := by omega
      have hf := fin (1, 4) (G.1 3 3) 0 r28 G14 G24 G29 hF14 e12 e2 he ha (by show _ = (143 : Int); omega) rfl (by omega)
      have hv := Lv_opnd (b := b) (n := n) (d := d) (p := p) (C := C) (u := u) (w := w) (Or.inr (by rw [hk]; decide)) (by omega) (by omega) (by omega) (by omega)
      rw [hk, show (if ask 143 < 0 then ((0 : Int), tV b n p) else (1, ask 143)) = (1, 4) from rfl] at hv
      exact Or.inr ⟨_, _, _, _, hf.1, hf.2, hv⟩
    rcases hh with ⟨k147, G14, -, hF14, e12, e2, G24, he, r28, G29, ha, rfl, rfl⟩ | ⟨k147, hh⟩
    · have hk : tK b n p = 147 := by omega
      have hf := fin (1, 5) (G.1 3 3) 0 r28 G14 G24 G29 hF14 e12 e2 he ha (by show _ = (147 : Int); omega) rfl (by omega)
      have hv := Lv_opnd (b := b) (n := n) (d := d) (p := p) (C := C) (u := u) (w := w) (Or.inr (by rw [hk]; decide)) (by omega) (by omega) (by omega) (by omega)
      rw [hk, show (if ask 147 < 0 then ((0 : Int), tV b n p) else (1, ask 147)) = (1, 5) from rfl] at hv
      exact Or.inr ⟨_, _, _, _, hf.1, hf.2, hv⟩
    rcases hh with ⟨k148, G14, -, hF14, e12, e2, G24, he, r28, G29, ha, rfl, rfl⟩ | ⟨k148, hh⟩
    · have hk : tK b n p = 148 := by omega
      have hf := fin (1, 6) (G.1 3 3) 0 r28 G14 G24 G29 hF14 e12 e2 he ha (by show _ = (148 : Int); omega) rfl (by omega)
      have hv := Lv_opnd (b := b) (n := n) (d := d) (p := p) (C := C) (u := u) (w := w) (Or.inr (by rw [hk]; decide)) (by omega) (by omega) (by omega) (by omega)
      rw [hk, show (if ask 148 < 0 then ((0 : Int), tV b n p) else (1, ask 148)) = (1, 6) from rfl] at hv
      exact Or.inr ⟨_, _, _, _, hf.1, hf.2, hv⟩
    rcases hh with ⟨k149, G14, -, hF14, e12, e2, G24, he, r28, G29, ha, rfl, rfl⟩ | ⟨k149, hh⟩
    · have hk : tK b n p = 149 := by omega
      have hf := fin (1, 7) (G.1 3 3) 0 r28 G14 G24 G29 hF14 e12 e2 he ha (by show _ = (149 : Int); omega) rfl (by omega)
      have hv := Lv_opnd (b := b) (n := n) (d := d) (p := p) (C := C) (u := u) (w := w) (Or.inr (by rw [hk]; decide)) (by omega) (by omega) (by omega) (by omega)
      rw [hk, show (if ask 149 < 0 then ((0 : Int), tV b n p) else (1, ask 149)) = (1, 7) from rfl] at hv
      exact Or.inr ⟨_, _, _, _, hf.1, hf.2, hv⟩
    rcases hh with ⟨k150, G14, -, hF14, e12, e2, G24, he, r28, G29, ha, rfl, rfl⟩ | ⟨k150, hh⟩
    · have hk : tK b n p = 150 := by omega
      have hf := fin (1, 8) (G.1 3 3) 0 r28 G14 G24 G29 hF14 e12 e2 he ha (by show _ = (150 : Int); omega) rfl (by omega)
      have hv := Lv_opnd (b := b) (n := n) (d := d) (p := p) (C := C) (u := u) (w := w) (Or.inr (by rw [hk]; decide)) (by omega) (by omega) (by omega) (by omega)
      rw [hk, show (if ask 150 < 0 then ((0 : Int), tV b n p) else (1, ask 150)) = (1, 8) from rfl] at hv
      exact Or.inr ⟨_, _, _, _, hf.1, hf.2, hv⟩
    rcases hh with ⟨k201, G14, -, hF14, e12, e2, G24, he, r28, G29, ha, rfl, rfl⟩ | ⟨k201, G14, -, hF14, e12, e2, r142, G143, ha, rfl, rfl⟩
    · have hk : tK b n p = 201 := by omega
      have h5 := hp.2.1.2.2.2.1 hk
      have hf := fin (0, tV b n p) 201 (G.1 3 5) r28 G14 G24 G29 hF14 e12 e2 he ha rfl h5 (by omega)
      have hv := Lv_opnd (b := b) (n := n) (d := d) (p := p) (C := C) (u := u) (w := w) (Or.inl hk) (by omega) (by omega) (by omega) (by omega)
      rw [hk, show (if ask 201 < 0 then ((0 : Int), tV b n p) else (1, ask 201)) = (0, tV b n p) from rfl] at hv
      exact Or.inr ⟨_, _, _, _, hf.1, hf.2, hv⟩
    · have hn := ask_neg (k := tK b n p) (by omega) (by omega) (by omega) (by omega) (by omega) (by omega) (by omega) (by omega) (by omega)
      exact Or.inl ⟨_, (c_ref ha (g14 G14 hF14 e12 e2).1).1, Lf_unit (Or.inl ⟨by omega, by omega, by omega⟩)⟩
  · exact Or.inl ⟨_, (c_ref ha hp).1, Lf_unit (Or.inr (Or.inl (Or.inl (by omega))))⟩
theorem c_term_1 {b : Nat → Int} {n c0 d p : Nat} {E O : XR} (hE : XE_1 b n c0 1 E) {p0 r : Int32} {G G1 : GS} {C : List (Int × Int)} {u w : Int} (h : P_fTerm_1_s E O p0 G r G1) (hd : p0.toInt = (d : Int)) (hc : CfC_1 b n c0 G p C u w) : LR_1 b n c0 6 d p C u w r G1 := by
  obtain ⟨-, -, -, r1, G2, h1, hh⟩ := h
  have z : (0 : Int32).toInt = ((0 : Nat) : Int) := rfl
  have o : (1 : Int32).toInt = 1 := rfl
  have ht := hc.t
  have hL : ((6 : Int) = 6 ∧ (7 : Int) = 7) ∨ ((6 : Int) = 5 ∧ (7 : Int) = 6) ∨ ((6 : Int) = 2 ∧ (7 : Int) = 3) ∨ ((6 : Int) = 1 ∧ (7 : Int) = 2) := Or.inl ⟨rfl, rfl⟩
  rcases c_unit_1 hE h1 hd hc with ⟨f, hf1, hf2⟩ | ⟨p1, u1, w1, C1, hr1, hc1, hv1⟩
  · rcases hh with ⟨c2, rfl, rfl⟩ | ⟨c2, -⟩
    · exact Or.inl ⟨f, ⟨rfl, hf1.2⟩, Lf_init hL hf2⟩
    · have := hf1.1
      omega
  rcases hh with ⟨c2, -⟩ | ⟨c2, x, G8, hRc, hx, -, -, hh⟩
  · omega
  have hI := hRc (fun z => ∃ (p1 : Nat) (u1 w1 : Int) (C1 : List (Int × Int)) (k : Nat), z.1.toInt = (k : Int) ∧ p + 1 + k ≤ p1 ∧ CfC_1 b n c0 z.2 p1 C1 u1 w1 ∧ Lx b n 6 7 d p p1 C C1 u u1 w w1) ⟨p1, u1, w1, C1, 0, z, by have := hv1.1; omega, hc1, Lx_init hL hv1⟩ (by
    rintro ⟨x1, G_1⟩ ⟨xn, G_1n⟩ ⟨p2, u2, w2, C2, k, hk, hpk, hc2, hx2⟩ ⟨x1q, G_1q, xnq, G_1nq, e1, e2, -, -, c1, r18, G19, hti, c18, r25, G26, ha, r31, G32, h2, c31, G39, he, y43, t43, ex, eG⟩
    obtain ⟨rfl, rfl⟩ := Prod.mk.inj e1
    obtain ⟨rfl, rfl⟩ := Prod.mk.inj e2
    simp only at hk hc2
    have ht2 := hc2.t
    obtain ⟨rfl, hti2⟩ := c_times hti
    have hkk : tK b n p2 = 42 ∨ tK b n p2 = 47 ∨ tK b n p2 = 37 := by have := hti2.mp c18; omega
    have hsg : sig (tK b n p2) = tK b n p2 ∧ tgt (tK b n p2) = 6 ∧ cdo (tK b n p2) = (3, tK b n p2) ∧ ekk (3, tK b n p2) = tK b n p2 := by rcases hkk with e | e | e <;> rw [e] <;> decide
    have hn := hc2.next ha (by omega)
    have h3 := c_unit_1 hE h2 hd hn.2
    rcases h3 with ⟨f, hf1, -⟩ | ⟨p3, u3, w3, C3, hr3, hc3, hv3⟩
    · have := hf1.1
      omega
    · subst ex
      subst eG
      have hstep := Lx_step (tK b n p2) hL hsg.1 ⟨by omega, by omega, by omega⟩ hsg.2.1 (by omega) (by omega) hx2 hv3
      rw [hsg.2.2.1] at hstep
      exact ⟨p3, u3, w3, _, k + 1, by show y43.toInt = _; omega, by have := hv3.1; omega, hc3.emit he (x := (3, (tK b n p2))) (by rw [hsg.2.2.2]; omega) rfl, hstep⟩)
  obtain ⟨p2, u2, w2, C2, k, hk, hpk, hc2, hx2⟩ := hI
  simp only at hk hc2
  have ht2 := hc2.t
  rcases hh with ⟨c3, -⟩ | ⟨c3, r18, G19, hti, ⟨c18, rfl, rfl⟩ | ⟨c18, r25, G26, ha, r31, G32, h2, c31, rfl, rfl⟩⟩
  · omega
  · obtain ⟨rfl, hti2⟩ := c_times hti
    have hkk : ¬ (tK b n p2 = 42 ∨ tK b n p2 = 47 ∨ tK b n p2 = 37) := fun q => hti2.mpr (by omega) c18
    exact Or.inr ⟨p2, u2, w2, C2, o, hc2, Lx_end hx2 (fun T hT => ⟨fun _ => by omega, fun q => absurd q (by decide), fun q => absurd q (by decide), fun q => absurd q (by decide), fun q => absurd q (by decide)⟩)⟩
  · obtain ⟨rfl, hti2⟩ := c_times hti
    have hkk : tK b n p2 = 42 ∨ tK b n p2 = 47 ∨ tK b n p2 = 37 := by have := hti2.mp c18; omega
    have hsg : sig (tK b n p2) = tK b n p2 ∧ tgt (tK b n p2) = 6 ∧ cdo (tK b n p2) = (3, tK b n p2) ∧ ekk (3, tK b n p2) = tK b n p2 := by rcases hkk with e | e | e <;> rw [e] <;> decide
    have hn := hc2.next ha (by omega)
    rcases c_unit_1 hE h2 hd hn.2 with ⟨f, hf1, hf2⟩ | ⟨p3, u3, w3, C3, hr3, hc3, hv3⟩
    · exact Or.inl ⟨f, ⟨rfl, hf1.2⟩, Lf_step (tK b n p2) hL hsg.1 ⟨by omega, by omega, by omega⟩ hsg.2.1 (by omega) hx2 hf2⟩
    · omega
theorem c_sum_1 {b : Nat → Int} {n c0 d p : Nat} {E O : XR} (hE : XE_1 b n c0 1 E) {p0 r : Int32} {G G1 : GS} {C : List (Int × Int)} {u w : Int} (h : P_fSum_1_s E O p0 G r G1) (hd : p0.toInt = (d : Int)) (hc : CfC_1 b n c0 G p C u w) : LR_1 b n c0 5 d p C u w r G1 := by
  obtain ⟨-, -, -, r1, G2, h1, hh⟩ := h
  have z : (0 : Int32).toInt = ((0 : Nat) : Int) := rfl
  have o : (1 : Int32).toInt = 1 := rfl
  have ht := hc.t
  have hL : ((5 : Int) = 6 ∧ (6 : Int) = 7) ∨ ((5 : Int) = 5 ∧ (6 : Int) = 6) ∨ ((5 : Int) = 2 ∧ (6 : Int) = 3) ∨ ((5 : Int) = 1 ∧ (6 : Int) = 2) := Or.inr (Or.inl ⟨rfl, rfl⟩)
  rcases c_term_1 hE h1 hd hc with ⟨f, hf1, hf2⟩ | ⟨p1, u1, w1, C1, hr1, hc1, hv1⟩
  · rcases hh with ⟨c2, rfl, rfl⟩ | ⟨c2, -⟩
    · exact Or.inl ⟨f, ⟨rfl, hf1.2⟩, Lf_init hL hf2⟩
    · have := hf1.1
      omega
  rcases hh with ⟨c2, -⟩ | ⟨c2, x, G8, hRc, hx, -, -, hh⟩
  · omega
  have hI := hRc (fun z => ∃ (p1 : Nat) (u1 w1 : Int) (C1 : List (Int × Int)) (k : Nat), z.1.toInt = (k : Int) ∧ p + 1 + k ≤ p1 ∧ CfC_1 b n c0 z.2 p1 C1 u1 w1 ∧ Lx b n 5 6 d p p1 C C1 u u1 w w1) ⟨p1, u1, w1, C1, 0, z, by have := hv1.1; omega, hc1, Lx_init hL hv1⟩ (by
    rintro ⟨x1, G_1⟩ ⟨xn, G_1n⟩ ⟨p2, u2, w2, C2, k, hk, hpk, hc2, hx2⟩ ⟨x1, G_1, xn, G_1n, e1, e2, -, -, c1, G21, hJ, -, -, r25, G26, ha, r31, G32, h2, c31, G39, he, y43, t43, ex, eG⟩
    obtain ⟨rfl, rfl⟩ := Prod.mk.inj e1
    obtain ⟨rfl, rfl⟩ := Prod.mk.inj e2
    simp only at hk hc2
    have ht2 := hc2.t
    have hJ2 : G_1 = G21 ∧ (tK b n p2 = 43 ∨ tK b n p2 = 45) := by
      rcases hJ with ⟨c, e⟩ | ⟨c, c2, e⟩
      · exact ⟨e, Or.inl (by omega)⟩
      · exact ⟨e, Or.inr (by omega)⟩
    obtain ⟨rfl, hkk⟩ := hJ2
    have hsg : sig (tK b n p2) = tK b n p2 ∧ tgt (tK b n p2) = 5 ∧ cdo (tK b n p2) = (3, tK b n p2) ∧ ekk (3, tK b n p2) = tK b n p2 := by rcases hkk with e | e <;> rw [e] <;> decide
    have hn := hc2.next ha (by omega)
    have h3 := c_term_1 hE h2 hd hn.2
    rcases h3 with ⟨f, hf1, -⟩ | ⟨p3, u3, w3, C3, hr3, hc3, hv3⟩
    · have := hf1.1
      omega
    · subst ex
      subst eG
      have hstep := Lx_step (tK b n p2) hL hsg.1 ⟨by omega, by omega, by omega⟩ hsg.2.1 (by omega) (by omega) hx2 hv3
      rw [hsg.2.2.1] at hstep
      exact ⟨p3, u3, w3, _, k + 1, by show y43.toInt = _; omega, by have := hv3.1; omega, hc3.emit he (x := (3, (tK b n p2))) (by rw [hsg.2.2.2]; omega) rfl, hstep⟩)
  obtain ⟨p2, u2, w2, C2, k, hk, hpk, hc2, hx2⟩ := hI
  simp only at hk hc2
  have ht2 := hc2.t
  rcases hh with ⟨c3, -⟩ | ⟨c3, ⟨c43, c45, rfl, rfl⟩ | ⟨G21, hJ, -, -, r25, G26, ha, r31, G32, h2, c31, rfl, rfl⟩⟩
  · omega
  · exact Or.inr ⟨p2, u2, w2, C2, o, hc2, Lx_end hx2 (fun T hT => ⟨fun _ => hT.1 (by decide), fun _ => by omega, fun q => absurd q (by decide), fun q => absurd q (by decide), fun q => absurd q (by decide)⟩)⟩
  · have hJ2 : G8 = G21 ∧ (tK b n p2 = 43 ∨ tK b n p2 = 45) := by
      rcases hJ with ⟨c, e⟩ | ⟨c, c2, e⟩
      · exact ⟨e, Or.inl (by omega)⟩
      · exact ⟨e, Or.inr (by omega)⟩
    obtain ⟨rfl, hkk⟩ := hJ2
    have hsg : sig (tK b n p2) = tK b n p2 ∧ tgt (tK b n p2) = 5 ∧ cdo (tK b n p2) = (3, tK b n p2) ∧ ekk (3, tK b n p2) = tK b n p2 := by rcases hkk with e | e <;> rw [e] <;> decide
    have hn := hc2.next ha (by omega)
    rcases c_term_1 hE h2 hd hn.2 with ⟨f, hf1, hf2⟩ | ⟨p3, u3, w3, C3, hr3, hc3, hv3⟩
    · exact Or.inl ⟨f, ⟨rfl, hf1.2⟩, Lf_step (tK b n p2) hL hsg.1 ⟨by omega, by omega, by omega⟩ hsg.2.1 (by omega) hx2 hf2⟩
    · omega
theorem c_rel_1 {b : Nat → Int} {n c0 d p : Nat} {E O : XR} (hE : XE_1 b n c0 1 E) {p0 r : Int32} {G G1 : GS} {C : List (Int × Int)} {u w : Int} (h : P_fRelation_1_s E O p0 G r G1) (hd : p0.toInt = (d : Int)) (hc : CfC_1 b n c0 G p C u w) (h146 : tK b n p ≠ 146) : LR_1 b n c0 4 d p C u w r G1 := by
  obtain ⟨-, -, -, r1, G2, h1, hh⟩ := h
  have z : (0 : Int32).toInt = 0 := rfl
  have o : (1 : Int32).toInt = 1 := rfl
  rcases c_sum_1 hE h1 hd hc with ⟨f, hf1, hf2⟩ | ⟨p1, u1, w1, C1, hr1, hc1, hv1⟩
  · rcases hh with ⟨c2, rfl, rfl⟩ | ⟨c2, -⟩
    · exact Or.inl ⟨f, ⟨z, hf1.2⟩, Lf_rel0 h146 hf2⟩
    · have := hf1.1
      omega
  have ht1 := hc1.t
  rcases hh with ⟨c2, -⟩ | ⟨c2, ⟨c3, c4, c5, rfl, rfl⟩ | ⟨G11, hJ, -, -, r15, G16, ha, r21, G22, h2, hh⟩⟩
  · omega
  · exact Or.inr ⟨p1, u1, w1, C1, o, hc1, Lv_rel0 h146 hv1 (by omega)⟩
  · have hJ2 : G2 = G11 ∧ (tK b n p1 = 60 ∨ tK b n p1 = 62 ∨ tK b n p1 = 61) := by
      rcases hJ with ⟨c, e⟩ | ⟨c, ⟨c6, e⟩ | ⟨c6, c7, e⟩⟩
      · exact ⟨e, by omega⟩
      · exact ⟨e, by omega⟩
      · exact ⟨e, by omega⟩
    obtain ⟨rfl, hkk⟩ := hJ2
    have hsg : cdo (tK b n p1) = (3, tK b n p1) ∧ ekk (3, tK b n p1) = tK b n p1 := by rcases hkk with e | e | e <;> rw [e] <;> decide
    have hn := hc1.next ha (by omega)
    rcases c_sum_1 hE h2 hd hn.2 with ⟨f, hf1, hf2⟩ | ⟨p3, u3, w3, C3, hr3, hc3, hv3⟩
    · rcases hh with ⟨c6, rfl, rfl⟩ | ⟨c6, -⟩
      · exact Or.inl ⟨f, ⟨z, hf1.2⟩, Lf_rel1 h146 hkk hv1 hf2⟩
      · have := hf1.1
        omega
    · rcases hh with ⟨c6, -⟩ | ⟨c6, G29, he, rfl, rfl⟩
      · omega
      · have hv := Lv_rel1 h146 hkk (by omega) hv1 hv3
        rw [hsg.1] at hv
        exact Or.inr ⟨p3, u3, w3, _, o, hc3.emit he (x := (3, tK b n p1)) (by rw [hsg.2]; omega) rfl, hv⟩
theorem c_one_1 {b : Nat → Int} {n c0 d p : Nat} {E O : XR} (hE : XE_1 b n c0 1 E) (hO : XE_1 b n c0 3 O) {p0 r : Int32} {G G1 : GS} {C : List (Int × Int)} {u w : Int} (h : P_fOne_1_s E O p0 G r G1) (hd : p0.toInt = (d : Int)) (hc : CfC_1 b n c0 G p C u w) : LR_1 b n c0 3 d p C u w r G1 := by
  obtain ⟨-, -, -, hh⟩ := h
  have z : (0 : Int32).toInt = 0 := rfl
  have o : (1 : Int32).toInt = 1 := rfl
  have ht := hc.t
  rcases hh with ⟨c, ⟨c1, r3, G4, ha, y9, t9, r10, G11, hO1, hh⟩ | ⟨c1, r22, G23, ha, rfl, rfl⟩⟩ | ⟨c, r28, G29, hr, rfl, rfl⟩
  · have hk : tK b n p = 146 := by omega
    have hn := hc.next ha (by omega)
    rcases hO y9 (d + 1) G4 r10 G11 (tNx b n p) C u w (by omega) hO1 hn.2 with ⟨f, hf1, hf2⟩ | ⟨p1, u1, w1, C1, hr1, hc1, hv1⟩
    · rcases hh with ⟨c2, rfl, rfl⟩ | ⟨c2, -⟩
      · exact Or.inl ⟨f, ⟨z, hf1.2⟩, Lf_not hk (by omega) hf2⟩
      · have := hf1.1
        omega
    · rcases hh with ⟨c2, -⟩ | ⟨c2, G18, he, rfl, rfl⟩
      · omega
      · have hv := Lv_not hk (by omega) (by omega) hv1
        rw [show cdo 21 = (2, 0) from rfl] at hv
        exact Or.inr ⟨p1, u1, w1, _, o, hc1.emit he (x := (2, 0)) rfl rfl, hv⟩
  · exact Or.inl ⟨_, (c_ref ha hc.1).1, Lf_not7 (by omega) (by omega)⟩
  · rcases c_rel_1 hE hr hd hc (by omega) with ⟨f, hf1, hf2⟩ | ⟨p1, u1, w1, C1, hr1, hc1, hv1⟩
    · exact Or.inl ⟨f, hf1, Lf_one hf2⟩
    · exact Or.inr ⟨p1, u1, w1, C1, hr1, hc1, Lv_one hv1⟩
theorem c_both_1 {b : Nat → Int} {n c0 d p : Nat} {E O : XR} (hE : XE_1 b n c0 1 E) (hO : XE_1 b n c0 3 O) {p0 r : Int32} {G G1 : GS} {C : List (Int × Int)} {u w : Int} (h : P_fBoth_1_s E O p0 G r G1) (hd : p0.toInt = (d : Int)) (hc : CfC_1 b n c0 G p C u w) : LR_1 b n c0 2 d p C u w r G1 := by
  obtain ⟨-, -, -, r1, G2, h1, hh⟩ := h
  have z : (0 : Int32).toInt = ((0 : Nat) : Int) := rfl
  have o : (1 : Int32).toInt = 1 := rfl
  have ht := hc.t
  have hL : ((2 : Int) = 6 ∧ (3 : Int) = 7) ∨ ((2 : Int) = 5 ∧ (3 : Int) = 6) ∨ ((2 : Int) = 2 ∧ (3 : Int) = 3) ∨ ((2 : Int) = 1 ∧ (3 : Int) = 2) := Or.inr (Or.inr (Or.inl ⟨rfl, rfl⟩))
  rcases c_one_1 hE hO h1 hd hc with ⟨f, hf1, hf2⟩ | ⟨p1, u1, w1, C1, hr1, hc1, hv1⟩
  · rcases hh with ⟨c2, rfl, rfl⟩ | ⟨c2, -⟩
    · exact Or.inl ⟨f, ⟨rfl, hf1.2⟩, Lf_init hL hf2⟩
    · have := hf1.1
      omega
  rcases hh with ⟨c2, -⟩ | ⟨c2, x, G8, hRc, hx, -, -, hh⟩
  · omega
  have hI := hRc (fun z => ∃ (p1 : Nat) (u1 w1 : Int) (C1 : List (Int × Int)) (k : Nat), z.1.toInt = (k : Int) ∧ p + 1 + k ≤ p1 ∧ CfC_1 b n c0 z.2 p1 C1 u1 w1 ∧ Lx b n 2 3 d p p1 C C1 u u1 w w1) ⟨p1, u1, w1, C1, 0, z, by have := hv1.1; omega, hc1, Lx_init hL hv1⟩ (by
    rintro ⟨x1, G_1⟩ ⟨xn, G_1n⟩ ⟨p2, u2, w2, C2, k, hk, hpk, hc2, hx2⟩ ⟨x1, G_1, xn, G_1n, e1, e2, -, -, c1, c145, r25, G26, ha, r31, G32, h2, c31, G39, he, y43, t43, ex, eG⟩
    obtain ⟨rfl, rfl⟩ := Prod.mk.inj e1
    obtain ⟨rfl, rfl⟩ := Prod.mk.inj e2
    simp only at hk hc2
    have ht2 := hc2.t
    have hkk : tK b n p2 = 145 := by omega
    have hn := hc2.next ha (by omega)
    have h3 := c_one_1 hE hO h2 hd hn.2
    rcases h3 with ⟨f, hf1, -⟩ | ⟨p3, u3, w3, C3, hr3, hc3, hv3⟩
    · have := hf1.1
      omega
    · subst ex
      subst eG
      have hstep := Lx_step 38 hL (by rw [hkk]; rfl) (by decide) (by decide) (by omega) (by omega) hx2 hv3
      rw [show cdo 38 = (3, 38) from rfl] at hstep
      exact ⟨p3, u3, w3, _, k + 1, by show y43.toInt = _; omega, by have := hv3.1; omega, hc3.emit he (x := (3, 38)) rfl rfl, hstep⟩)
  obtain ⟨p2, u2, w2, C2, k, hk, hpk, hc2, hx2⟩ := hI
  simp only at hk hc2
  have ht2 := hc2.t
  rcases hh with ⟨c3, -⟩ | ⟨c3, ⟨c4, r25, G26, ha, r31, G32, h2, c31, rfl, rfl⟩ | ⟨c4, rfl, rfl⟩⟩
  · omega
  · have hkk : tK b n p2 = 145 := by omega
    have hn := hc2.next ha (by omega)
    rcases c_one_1 hE hO h2 hd hn.2 with ⟨f, hf1, hf2⟩ | ⟨p3, u3, w3, C3, hr3, hc3, hv3⟩
    · exact Or.inl ⟨f, ⟨rfl, hf1.2⟩, Lf_step 38 hL (by rw [hkk]; rfl) (by decide) (by decide) (by omega) hx2 hf2⟩
    · omega
  · exact Or.inr ⟨p2, u2, w2, C2, o, hc2, Lx_end hx2 (fun T hT => ⟨fun _ => hT.1 (by decide), fun _ => hT.2.1 (by decide), fun _ => hT.2.2.1 (by decide), fun _ => by omega, fun q => absurd q (by decide)⟩)⟩
theorem c_either_1 {b : Nat → Int} {n c0 d p : Nat} {E O : XR} (hE : XE_1 b n c0 1 E) (hO : XE_1 b n c0 3 O) {p0 r : Int32} {G G1 : GS} {C : List (Int × Int)} {u w : Int} (h : P_fEither_1_s E O p0 G r G1) (hd : p0.toInt = (d : Int)) (hc : CfC_1 b n c0 G p C u w) : LR_1 b n c0 1 d p C u w r G1 := by
  obtain ⟨-, -, -, r1, G2, h1, hh⟩ := h
  have z : (0 : Int32).toInt = ((0 : Nat) : Int) := rfl
  have o : (1 : Int32).toInt = 1 := rfl
  have ht := hc.t
  have hL : ((1 : Int) = 6 ∧ (2 : Int) = 7) ∨ ((1 : Int) = 5 ∧ (2 : Int) = 6) ∨ ((1 : Int) = 2 ∧ (2 : Int) = 3) ∨ ((1 : Int) = 1 ∧ (2 : Int) = 2) := Or.inr (Or.inr (Or.inr ⟨rfl, rfl⟩))
  rcases c_both_1 hE hO h1 hd hc with ⟨f, hf1, hf2⟩ | ⟨p1, u1, w1, C1, hr1, hc1, hv1⟩
  · rcases hh with ⟨c2, rfl, rfl⟩ | ⟨c2, -⟩
    · exact Or.inl ⟨f, ⟨rfl, hf1.2⟩, Lf_init hL hf2⟩
    · have := hf1.1
      omega
  rcases hh with ⟨c2, -⟩ | ⟨c2, x, G8, hRc, hx, -, -, hh⟩
  · omega
  have hI := hRc (fun z => ∃ (p1 : Nat) (u1 w1 : Int) (C1 : List (Int × Int)) (k : Nat), z.1.toInt = (k : Int) ∧ p + 1 + k ≤ p1 ∧ CfC_1 b n c0 z.2 p1 C1 u1 w1 ∧ Lx b n 1 2 d p p1 C C1 u u1 w w1) ⟨p1, u1, w1, C1, 0, z, by have := hv1.1; omega, hc1, Lx_init hL hv1⟩ (by
    rintro ⟨x1, G_1⟩ ⟨xn, G_1n⟩ ⟨p2, u2, w2, C2, k, hk, hpk, hc2, hx2⟩ ⟨x1, G_1, xn, G_1n, e1, e2, -, -, c1, c144, r25, G26, ha, r31, G32, h2, c31, G39, he, y43, t43, ex, eG⟩
    obtain ⟨rfl, rfl⟩ := Prod.mk.inj e1
    obtain ⟨rfl, rfl⟩ := Prod.mk.inj e2
    simp only at hk hc2
    have ht2 := hc2.t
    have hkk : tK b n p2 = 144 := by omega
    have hn := hc2.next ha (by omega)
    have h3 := c_both_1 hE hO h2 hd hn.2
    rcases h3 with ⟨f, hf1, -⟩ | ⟨p3, u3, w3, C3, hr3, hc3, hv3⟩
    · have := hf1.1
      omega
    · subst ex
      subst eG
      have hstep := Lx_step 124 hL (by rw [hkk]; rfl) (by decide) (by decide) (by omega) (by omega) hx2 hv3
      rw [show cdo 124 = (3, 124) from rfl] at hstep
      exact ⟨p3, u3, w3, _, k + 1, by show y43.toInt = _; omega, by have := hv3.1; omega, hc3.emit he (x := (3, 124)) rfl rfl, hstep⟩)
  obtain ⟨p2, u2, w2, C2, k, hk, hpk, hc2, hx2⟩ := hI
  simp only at hk hc2
  have ht2 := hc2.t
  rcases hh with ⟨c3, -⟩ | ⟨c3, ⟨c4, r25, G26, ha, r31, G32, h2, c31, rfl, rfl⟩ | ⟨c4, rfl, rfl⟩⟩
  · omega
  · have hkk : tK b n p2 = 144 := by omega
    have hn := hc2.next ha (by omega)
    rcases c_both_1 hE hO h2 hd hn.2 with ⟨f, hf1, hf2⟩ | ⟨p3, u3, w3, C3, hr3, hc3, hv3⟩
    · exact Or.inl ⟨f, ⟨rfl, hf1.2⟩, Lf_step 124 hL (by rw [hkk]; rfl) (by decide) (by decide) (by omega) hx2 hf2⟩
    · omega
  · exact Or.inr ⟨p2, u2, w2, C2, o, hc2, Lx_end hx2 (fun T hT => ⟨fun _ => hT.1 (by decide), fun _ => hT.2.1 (by decide), fun _ => hT.2.2.1 (by decide), fun _ => hT.2.2.2.1 (by decide), fun _ => by omega⟩)⟩
theorem c_grp_1 {b : Nat → Int} {n c0 : Nat} (k : Nat) : XE_1 b n c0 1 (PPf_1 k).1 ∧ XE_1 b n c0 3 (PPf_1 k).2 := by
  induction k with
  | zero => exact ⟨fun p0 d G r G1 p C u w _ h _ => h.elim, fun p0 d G r G1 p C u w _ h _ => h.elim⟩
  | succ k ih => exact ⟨fun p0 d G r G1 p C u w hd h hc => c_either_1 ih.1 ih.2 h hd hc, fun p0 d G r G1 p C u w hd h hc => c_one_1 ih.1 ih.2 h hd hc⟩
theorem c_form_1 {b : Nat → Int} {n c0 p : Nat} {r : Int32} {G G1 : GS} {w : Int} (h : P_fRead_1 G r G1) (hp : CPx b n G p) (hw : (G.1 1 12).toInt = w) (hw90 : w ≤ 90) (hC : CodeC_1 c0 [] G) : (∃ f, CF f r G1 ∧ Ev b n (true, p, [], [], 0, w) (.inl f)) ∨ (∃ p' u' w' C', r.toInt = 1 ∧ CfC_1 b n c0 G1 p' C' u' w' ∧ p < p' ∧ Ev b n (true, p, [], [], 0, w) (.inr (p', C', u', w'))) := by
  obtain ⟨-, -, -, G2, -, hF2, -, e2, r3, G4, h1, rfl, rfl⟩ := h
  have hc : CfC_1 b n c0 G2 p [] 0 w := ⟨hp.fr hF2 (by decide) (by decide) (by decide) (by decide), by rw [e2]; rfl, by rw [hF2.i 1 12 (by decide) (by decide)]; exact hw, hC.fr hF2 (by decide) (by decide) (by decide) (by decide), by decide, hw90⟩
  have hg := c_grp_1 (b := b) (n := n) (c0 := c0) 7
  rcases c_either_1 (d := 0) hg.1 hg.2 h1 rfl hc with ⟨f, hf1, hf2⟩ | ⟨p1, u1, w1, C1, hr1, hc1, hv1⟩
  · exact Or.inl ⟨f, hf1, Ev_topf hf2⟩
  · exact Or.inr ⟨p1, u1, w1, C1, hr1, hc1, hv1.1, Ev_top hv1⟩
def CodeC_2 (c0 : Nat) (C : List (Int × Int)) (G : GS) : Prop := ((c0 + C.length ≤ 580 ∧ (G.1 2 13).toInt = ((c0 + C.length : Nat) : Int)) ∨ (580 < c0 + C.length ∧ (G.1 2 13).toInt = 580)) ∧ ∀ i, i < C.length → c0 + i < 580 → G.1 27 (c0 + i) = encd (ekk (C.getD i (0, 0))) (ekv (C.getD i (0, 0)))
def CfC_2 (b : Nat → Int) (n c0 : Nat) (G : GS) (p : Nat) (C : List (Int × Int)) (u w : Int) : Prop := CPx b n G p ∧ (G.1 4 2).toInt = u ∧ (G.1 2 12).toInt = w ∧ CodeC_2 c0 C G ∧ u ≤ 30 ∧ w ≤ 90
def LR_2 (b : Nat → Int) (n c0 : Nat) (L : Int) (d p : Nat) (C : List (Int × Int)) (u w : Int) (r : Int32) (G1 : GS) : Prop := (∃ f, CF f r G1 ∧ Lf b n L d p C u w f) ∨ (∃ p' u' w' C', r.toInt = 1 ∧ CfC_2 b n c0 G1 p' C' u' w' ∧ Lv b n L d p p' C C' u u' w w')
def XE_2 (b : Nat → Int) (n c0 : Nat) (L : Int) (E : XR) : Prop := ∀ (p0 : Int32) (d : Nat) (G : GS) (r : Int32) (G1 : GS) (p : Nat) (C : List (Int × Int)) (u w : Int), p0.toInt = (d : Int) → E p0 G r G1 → CfC_2 b n c0 G p C u w → LR_2 b n c0 L d p C u w r G1
theorem CodeC_2.fr {c0 : Nat} {C : List (Int × Int)} {rs : List Nat} {fs : List (Nat × Nat)} {G G1 : GS} (h : CodeC_2 c0 C G) (hF : Fr rs fs G G1) (h1 : 2 ∉ rs) (h2 : (2, 13) ∉ fs) (h3 : 27 ∉ rs) (h4 : ∀ x ∈ fs, x.1 ≠ 27) : CodeC_2 c0 C G1 := by
  unfold CodeC_2 at h ⊢
  rw [hF.i 2 13 h1 h2, hF.row1 27 h3 h4]
  exact h
theorem c_emit_2 {c0 : Nat} {C : List (Int × Int)} {G G1 : GS} {k v : Int32} {x : Int × Int} (h : P_emit_2 k v G G1) (hC : CodeC_2 c0 C G) (hk : k.toInt = ekk x) (hv : v.toInt = ekv x) : CodeC_2 c0 (C ++ [x]) G1 := by
  obtain ⟨-, -, hh⟩ := h
  obtain ⟨h1, h2⟩ := hC
  unfold CodeC_2
  rw [List.length_append, List.length_singleton]
  rcases hh with ⟨c, rfl⟩ | ⟨c, y3, t3, y5, e5, y6, e6, hF, e13, eR⟩
  · refine ⟨Or.inr ⟨by omega, by omega⟩, fun i hi hc => ?_⟩
    rw [getD_sn, if_pos (by omega)]
    exact h2 i (by omega) hc
  · refine ⟨Or.inl ⟨by omega, by rw [e13]; omega⟩, fun i hi hc => ?_⟩
    rw [eR, getD_sn]
    by_cases hq : i < C.length
    · rw [if_pos hq]
      have e : upd (G.1 27) (G.1 2 13).toNatClampNeg y6 (c0 + i) = G.1 27 (c0 + i) := if_neg (by have := c_nat (G.1 2 13); omega)
      rw [e]
      exact h2 i hq hc
    · rw [if_neg hq, if_pos (by omega)]
      have e : upd (G.1 27) (G.1 2 13).toNatClampNeg y6 (c0 + i) = y6 := if_pos (by have := c_nat (G.1 2 13); omega)
      rw [e, e6, e5, encd, ← hk, ← hv, Int32.ofInt_toInt, Int32.ofInt_toInt]
theorem CfC_2.next {b : Nat → Int} {n c0 p : Nat} {G G1 : GS} {C : List (Int × Int)} {u w : Int} {r : Int32} (h : CfC_2 b n c0 G p C u w) (ha : P_tAdvance G r G1) (hk : tK b n p ≠ 202) : r.toInt = 1 ∧ CfC_2 b n c0 G1 (tNx b n p) C u w := by
  obtain ⟨hp, hu, hw, hC, hb⟩ := h
  have hn := c_next ha hp hk
  exact ⟨hn.1, hn.2, by rw [ha.2.1.i 4 2 (by decide) (by decide)]; exact hu, by rw [ha.2.1.i 2 12 (by decide) (by decide)]; exact hw, hC.fr ha.2.1 (by decide) (by decide) (by decide) (by decide), hb⟩
theorem CfC_2.emit {b : Nat → Int} {n c0 p : Nat} {G G1 : GS} {C : List (Int × Int)} {u w : Int} {k v : Int32} {x : Int × Int} (h : CfC_2 b n c0 G p C u w) (he : P_emit_2 k v G G1) (hk : k.toInt = ekk x) (hv : v.toInt = ekv x) : CfC_2 b n c0 G1 p (C ++ [x]) u w := by
  obtain ⟨hp, hu, hw, hC, hb⟩ := h
  exact ⟨hp.fr he.2.1 (by decide) (by decide) (by decide) (by decide), by rw [he.2.1.i 4 2 (by decide) (by decide)]; exact hu, by rw [he.2.1.i 2 12 (by decide) (by decide)]; exact hw, c_emit_2 he hC hk hv, hb⟩
theorem CfC_2.t {b : Nat → Int} {n c0 p : Nat} {G : GS} {C : List (Int × Int)} {u w : Int} (h : CfC_2 b n c0 G p C u w) : n ≤ 1600 ∧ p ≤ n ∧ (G.1 3 3).toInt = tK b n p ∧ p ≤ tNx b n p ∧ tNx b n p ≤ n ∧ (tK b n p ≠ 203 → p < tNx b n p) := by
  have h1 := tN_p (b := b) h.1.1.2.1 h.1.2.2.2
  exact ⟨h.1.1.2.1, h.1.2.2.2, h.1.2.1.1, h1.1, h1.2.1, fun q => (h1.2.2 q).1⟩
theorem c_brk_2 {b : Nat → Int} {n c0 d p : Nat} {E O : XR} (hE : XE_2 b n c0 1 E) {p0 r : Int32} {G G1 : GS} {C : List (Int × Int)} {u w : Int} (h : P_fBracket_2_s E O p0 G r G1) (hd : p0.toInt = (d : Int)) (hc : CfC_2 b n c0 G p C (u + 1) (w + 1)) (hk : tK b n p = 40) (hf : ¬ (w = 90 ∨ u = 30)) : LR_2 b n c0 7 d p C u w r G1 := by
  obtain ⟨-, -, -, hh⟩ := h
  have z : (0 : Int32).toInt = 0 := rfl
  have ht := hc.t
  rcases hh with ⟨c, r2, G3, ha, y8, t8, r9, G10, hE1, hh⟩ | ⟨c, r29, G30, ha, rfl, rfl⟩
  · have hn := hc.next ha (by omega)
    have h1 := hE y8 (d + 1) G3 r9 G10 (tNx b n p) C (u + 1) (w + 1) (by omega) hE1 hn.2
    rcases h1 with ⟨f, hf1, hf2⟩ | ⟨p', u', w', C', hr, hc', hv⟩
    · rcases hh with ⟨c2, rfl, rfl⟩ | ⟨c2, hh⟩
      · exact Or.inl ⟨f, ⟨z, hf1.2⟩, Lf_brk0 hk hf (by omega) hf2⟩
      · have := hf1.1
        omega
    · rcases hh with ⟨c2, -⟩ | ⟨c2, ⟨c3, r23, G24, ha2, rfl, rfl⟩ | ⟨c3, r17, G18, ha2, rfl, rfl⟩⟩
      · omega
      · have ht' := hc'.t
        have hn' := hc'.next ha2 (by omega)
        exact Or.inr ⟨tNx b n p', u', w', C', hn'.1, hn'.2, Lv_brk hk hf (by omega) (by omega) (by omega) (by omega) hv⟩
      · have ht' := hc'.t
        exact Or.inl ⟨_, (c_ref ha2 hc'.1).1, Lf_brk1 hk hf (by omega) (by omega) hv⟩
  · exact Or.inl ⟨_, (c_ref ha hc.1).1, Lf_unit (Or.inr (Or.inr ⟨hk, by omega⟩))⟩
theorem c_unit_2 {b : Nat → Int} {n c0 d p : Nat} {E O : XR} (hE : XE_2 b n c0 1 E) {p0 r : Int32} {G G1 : GS} {C : List (Int × Int)} {u w : Int} (h : P_fUnit_2_s E O p0 G r G1) (hd : p0.toInt = (d : Int)) (hc : CfC_2 b n c0 G p C u w) : LR_2 b n c0 7 d p C u w r G1 := by
  obtain ⟨-, -, -, hh⟩ := h
  have z : (0 : Int32).toInt = 0 := rfl
  have ht := hc.t
  obtain ⟨hp, hu, hw, hC, hu30, hw90⟩ := id hc
  rcases hh with ⟨c, r3, G4, ha, rfl, rfl⟩ | ⟨c, ⟨cw, y11, t11, y13, t13, hh⟩ | ⟨cw, r3, G4, ha, rfl, rfl⟩⟩
  · exact Or.inl ⟨_, (c_ref ha hp).1, Lf_unit (Or.inr (Or.inl (Or.inr (by omega))))⟩
  · have g14 : ∀ G14 : GS, Fr [] [(2, 12), (4, 2)] G G14 → G14.1 2 12 = y13 → G14.1 4 2 = y11 → CfC_2 b n c0 G14 p C (u + 1) (w + 1) := by
      intro G14 hF e12 e2
      exact ⟨hp.fr hF (by decide) (by decide) (by decide) (by decide), by rw [e2]; omega, by rw [e12]; omega, hC.fr hF (by decide) (by decide) (by decide) (by decide), by omega, by omega⟩
    have fin : ∀ (x : Int × Int) (kk vv r28 : Int32) (G14 G24 G29 : GS), Fr [] [(2, 12), (4, 2)] G G14 → G14.1 2 12 = y13 → G14.1 4 2 = y11 → P_emit_2 kk vv G14 G24 → P_tAdvance G24 r28 G29 → kk.toInt = ekk x → vv.toInt = ekv x → tK b n p ≠ 202 → r28.toInt = 1 ∧ CfC_2 b n c0 G29 (tNx b n p) (C ++ [x]) (u + 1) (w + 1) := by
      intro x kk vv r28 G14 G24 G29 hF e12 e2 he ha hk hv h202
      exact ((g14 G14 hF e12 e2).emit he hk hv).next ha h202
    rcases hh with ⟨k40, G14, -, hF14, e12, e2, r16, G17, hb, rfl, rfl⟩ | ⟨k40, hh⟩
    · exact c_brk_2 hE hb hd (g14 G14 hF14 e12 e2) (by omega) (by omega)
    rcases hh with ⟨k139, G14, -, hF14, e12, e2, G24, he, r28, G29, ha, rfl, rfl⟩ | ⟨k139, hh⟩
    · have hk : tK b n p = 139 := by omega
      have hf := fin (1, 0) (G.1 3 3) 0 r28 G14 G24 G29 hF14 e12 e2 he ha (by show _ = (139 : Int); omega) rfl (by omega)
      have hv := Lv_opnd (b := b) (n := n) (d := d) (p := p) (C := C) (u := u) (w := w) (Or.inr (by rw [hk]; decide)) (by omega) (by omega) (by omega) (by omega)
      rw [hk, show (if ask 139 < 0 then ((0 : Int), tV b n p) else (1, ask 139)) = (1, 0) from rfl] at hv
      exact Or.inr ⟨_, _, _, _, hf.1, hf.2, hv⟩
    rcases hh with ⟨k140, G14, -, hF14, e12, e2, G24, he, r28, G29, ha, rfl, rfl⟩ | ⟨k140, hh⟩
    · have hk : tK b n p = 140 := by omega
      have hf := fin (1, 1) (G.1 3 3) 0 r28 G14 G24 G29 hF14 e12 e2 he ha (by show _ = (140 : Int); omega) rfl (by omega)
      have hv := Lv_opnd (b := b) (n := n) (d := d) (p := p) (C := C) (u := u) (w := w) (Or.inr (by rw [hk]; decide)) (by omega) (by omega) (by omega) (by omega)
      rw [hk, show (if ask 140 < 0 then ((0 : Int), tV b n p) else (1, ask 140)) = (1, 1) from rfl] at hv
      exact Or.inr ⟨_, _, _, _, hf.1, hf.2, hv⟩
    rcases hh with ⟨k141, G14, -, hF14, e12, e2, G24, he, r28, G29, ha, rfl, rfl⟩ | ⟨k141, hh⟩
    · have hk : tK b n p = 141 := by omega
      have hf := fin (1, 2) (G.1 3 3) 0 r28 G14 G24 G29 hF14 e12 e2 he ha (by show _ = (141 : Int); omega) rfl (by omega)
      have hv := Lv_opnd (b := b) (n := n) (d := d) (p := p) (C := C) (u := u) (w := w) (Or.inr (by rw [hk]; decide)) (by omega) (by omega) (by omega) (by omega)
      rw [hk, show (if ask 141 < 0 then ((0 : Int), tV b n p) else (1, ask 141)) = (1, 2) from rfl] at hv
      exact Or.inr ⟨_, _, _, _, hf.1, hf.2, hv⟩
    rcases hh with ⟨k142, G14, -, hF14, e12, e2, G24, he, r28, G29, ha, rfl, rfl⟩ | ⟨k142, hh⟩
    · have hk : tK b n p = 142 := by omega
      have hf := fin (1, 3) (G.1 3 3) 0 r28 G14 G24 G29 hF14 e12 e2 he ha (by show _ = (142 : Int); omega) rfl (by omega)
      have hv := Lv_opnd (b := b) (n := n) (d := d) (p := p) (C := C) (u := u) (w := w) (Or.inr (by rw [hk]; decide)) (by omega) (by omega) (by omega) (by omega)
      rw [hk, show (if ask 142 < 0 then ((0 : Int), tV b n p) else (1, ask 142)) = (1, 3) from rfl] at hv
      exact Or.inr ⟨_, _, _, _, hf.1, hf.2, hv⟩
    rcases hh with ⟨k143, G14, -, hF14, e12, e2, G24, he, r28, G29, ha, rfl, rfl⟩ | ⟨k143, hh⟩
    · have hk : tK b n p = 143 := by omega
      have hf := fin (1, 4) (G.1 3 3) 0 r28 G14 G24 G29 hF14 e12 e2 he ha (by show _ = (143 : Int); omega) rfl (by omega)
      have hv := Lv_opnd (b := b) (n := n) (d := d) (p := p) (C := C) (u := u) (w := w) (Or.inr (by rw [hk]; decide)) (by omega) (by omega) (by omega) (by omega)
      rw [hk, show (if ask 143 < 0 then ((0 : Int), tV b n p) else (1, ask 143)) = (1, 4) from rfl] at hv
      exact Or.inr ⟨_, _, _, _, hf.1, hf.2, hv⟩
    rcases hh with ⟨k147, G14, -, hF14, e12, e2, G24, he, r28, G29, ha, rfl, rfl⟩ | ⟨k147, hh⟩
    · have hk : tK b n p = 147 := by omega
      have hf := fin (1, 5) (G.1 3 3) 0 r28 G14 G24 G29 hF14 e12 e2 he ha (by show _ = (147 : Int); omega) rfl (by omega)
      have hv := Lv_opnd (b := b) (n := n) (d := d) (p := p) (C := C) (u := u) (w := w) (Or.inr (by rw [hk]; decide)) (by omega) (by omega) (by omega) (by omega)
      rw [hk, show (if ask 147 < 0 then ((0 : Int), tV b n p) else (1, ask 147)) = (1, 5) from rfl] at hv
      exact Or.inr ⟨_, _, _, _, hf.1, hf.2, hv⟩
    rcases hh with ⟨k148, G14, -, hF14, e12, e2, G24, he, r28, G29, ha, rfl, rfl⟩ | ⟨k148, hh⟩
    · have hk : tK b n p = 148 := by omega
      have hf := fin (1, 6) (G.1 3 3) 0 r28 G14 G24 G29 hF14 e12 e2 he ha (by show _ = (148 : Int); omega) rfl (by omega)
      have hv := Lv_opnd (b := b) (n := n) (d := d) (p := p) (C := C) (u := u) (w := w) (Or.inr (by rw [hk]; decide)) (by omega) (by omega) (by omega) (by omega)
      rw [hk, show (if ask 148 < 0 then ((0 : Int), tV b n p) else (1, ask 148)) = (1, 6) from rfl] at hv
      exact Or.inr ⟨_, _, _, _, hf.1, hf.2, hv⟩
    rcases hh with ⟨k149, G14, -, hF14, e12, e2, G24, he, r28, G29, ha, rfl, rfl⟩ | ⟨k149, hh⟩
    · have hk : tK b n p = 149 := by omega
      have hf := fin (1, 7) (G.1 3 3) 0 r28 G14 G24 G29 hF14 e12 e2 he ha (by show _ = (149 : Int); omega) rfl (by omega)
      have hv := Lv_opnd (b := b) (n := n) (d := d) (p := p) (C := C) (u := u) (w := w) (Or.inr (by rw [hk]; decide)) (by omega) (by omega) (by omega) (by omega)
      rw [hk, show (if ask 149 < 0 then ((0 : Int), tV b n p) else (1, ask 149)) = (1, 7) from rfl] at hv
      exact Or.inr ⟨_, _, _, _, hf.1, hf.2, hv⟩
    rcases hh with ⟨k150, G14, -, hF14, e12, e2, G24, he, r28, G29, ha, rfl, rfl⟩ | ⟨k150, hh⟩
    · have hk : tK b n p = 150 := by omega
      have hf := fin (1, 8) (G.1 3 3) 0 r28 G14 G24 G29 hF14 e12 e2 he ha (by show _ = (150 : Int); omega) rfl (by omega)
      have hv := Lv_opnd (b := b) (n := n) (d := d) (p := p) (C := C) (u := u) (w := w) (Or.inr (by rw [hk]; decide)) (by omega) (by omega) (by omega) (by omega)
      rw [hk, show (if ask 150 < 0 then ((0 : Int), tV b n p) else (1, ask 150)) = (1, 8) from rfl] at hv
      exact Or.inr ⟨_, _, _, _, hf.1, hf.2, hv⟩
    rcases hh with ⟨k201, G14, -, hF14, e12, e2, G24, he, r28, G29, ha, rfl, rfl⟩ | ⟨k201, G14, -, hF14, e12, e2, r142, G143, ha, rfl, rfl⟩
    · have hk : tK b n p = 201 := by omega
      have h5 := hp.2.1.2.2.2.1 hk
      have hf := fin (0, tV b n p) 201 (G.1 3 5) r28 G14 G24 G29 hF14 e12 e2 he ha rfl h5 (by omega)
      have hv := Lv_opnd (b := b) (n := n) (d := d) (p := p) (C := C) (u := u) (w := w) (Or.inl hk) (by omega) (by omega) (by omega) (by omega)
      rw [hk, show (if ask 201 < 0 then ((0 : Int), tV b n p) else (1, ask 201)) = (0, tV b n p) from rfl] at hv
      exact Or.inr ⟨_, _, _, _, hf.1, hf.2, hv⟩
    · have hn := ask_neg (k := tK b n p) (by omega) (by omega) (by omega) (by omega) (by omega) (by omega) (by omega) (by omega) (by omega)
      exact Or.inl ⟨_, (c_ref ha (g14 G14 hF14 e12 e2).1).1, Lf_unit (Or.inl ⟨by omega, by omega, by omega⟩)⟩
  · exact Or.inl ⟨_, (c_ref ha hp).1, Lf_unit (Or.inr (Or.inl (Or.inl (by omega))))⟩
theorem c_term_2 {b : Nat → Int} {n c0 d p : Nat} {E O : XR} (hE : XE_2 b n c0 1 E) {p0 r : Int32} {G G1 : GS} {C : List (Int × Int)} {u w : Int} (h : P_fTerm_2_s E O p0 G r G1) (hd : p0.toInt = (d : Int)) (hc : CfC_2 b n c0 G p C u w) : LR_2 b n c0 6 d p C u w r G1 := by
  obtain ⟨-, -, -, r1, G2, h1, hh⟩ := h
  have z : (0 : Int32).toInt = ((0 : Nat) : Int) := rfl
  have o : (1 : Int32).toInt = 1 := rfl
  have ht := hc.t
  have hL : ((6 : Int) = 6 ∧ (7 : Int) = 7) ∨ ((6 : Int) = 5 ∧ (7 : Int) = 6) ∨ ((6 : Int) = 2 ∧ (7 : Int) = 3) ∨ ((6 : Int) = 1 ∧ (7 : Int) = 2) := Or.inl ⟨rfl, rfl⟩
  rcases c_unit_2 hE h1 hd hc with ⟨f, hf1, hf2⟩ | ⟨p1, u1, w1, C1, hr1, hc1, hv1⟩
  · rcases hh with ⟨c2, rfl, rfl⟩ | ⟨c2, -⟩
    · exact Or.inl ⟨f, ⟨rfl, hf1.2⟩, Lf_init hL hf2⟩
    · have := hf1.1
      omega
  rcases hh with ⟨c2, -⟩ | ⟨c2, x, G8, hRc, hx, -, -, hh⟩
  · omega
  have hI := hRc (fun z => ∃ (p1 : Nat) (u1 w1 : Int) (C1 : List (Int × Int)) (k : Nat), z.1.toInt = (k : Int) ∧ p + 1 + k ≤ p1 ∧ CfC_2 b n c0 z.2 p1 C1 u1 w1 ∧ Lx b n 6 7 d p p1 C C1 u u1 w w1) ⟨p1, u1, w1, C1, 0, z, by have := hv1.1; omega, hc1, Lx_init hL hv1⟩ (by
    rintro ⟨x1, G_1⟩ ⟨xn, G_1n⟩ ⟨p2, u2, w2, C2, k, hk, hpk, hc2, hx2⟩ ⟨x1q, G_1q, xnq, G_1nq, e1, e2, -, -, c1, r18, G19, hti, c18, r25, G26, ha, r31, G32, h2, c31, G39, he, y43, t43, ex, eG⟩
    obtain ⟨rfl, rfl⟩ := Prod.mk.inj e1
    obtain ⟨rfl, rfl⟩ := Prod.mk.inj e2
    simp only at hk hc2
    have ht2 := hc2.t
    obtain ⟨rfl, hti2⟩ := c_times hti
    have hkk : tK b n p2 = 42 ∨ tK b n p2 = 47 ∨ tK b n p2 = 37 := by have := hti2.mp c18; omega
    have hsg : sig (tK b n p2) = tK b n p2 ∧ tgt (tK b n p2) = 6 ∧ cdo (tK b n p2) = (3, tK b n p2) ∧ ekk (3, tK b n p2) = tK b n p2 := by rcases hkk with e | e | e <;> rw [e] <;> decide
    have hn := hc2.next ha (by omega)
    have h3 := c_unit_2 hE h2 hd hn.2
    rcases h3 with ⟨f, hf1, -⟩ | ⟨p3, u3, w3, C3, hr3, hc3, hv3⟩
    · have := hf1.1
      omega
    · subst ex
      subst eG
      have hstep := Lx_step (tK b n p2) hL hsg.1 ⟨by omega, by omega, by omega⟩ hsg.2.1 (by omega) (by omega) hx2 hv3
      rw [hsg.2.2.1] at hstep
      exact ⟨p3, u3, w3, _, k + 1, by show y43.toInt = _; omega, by have := hv3.1; omega, hc3.emit he (x := (3, (tK b n p2))) (by rw [hsg.2.2.2]; omega) rfl, hstep⟩)
  obtain ⟨p2, u2, w2, C2, k, hk, hpk, hc2, hx2⟩ := hI
  simp only at hk hc2
  have ht2 := hc2.t
  rcases hh with ⟨c3, -⟩ | ⟨c3, r18, G19, hti, ⟨c18, rfl, rfl⟩ | ⟨c18, r25, G26, ha, r31, G32, h2, c31, rfl, rfl⟩⟩
  · omega
  · obtain ⟨rfl, hti2⟩ := c_times hti
    have hkk : ¬ (tK b n p2 = 42 ∨ tK b n p2 = 47 ∨ tK b n p2 = 37) := fun q => hti2.mpr (by omega) c18
    exact Or.inr ⟨p2, u2, w2, C2, o, hc2, Lx_end hx2 (fun T hT => ⟨fun _ => by omega, fun q => absurd q (by decide), fun q => absurd q (by decide), fun q => absurd q (by decide), fun q => absurd q (by decide)⟩)⟩
  · obtain ⟨rfl, hti2⟩ := c_times hti
    have hkk : tK b n p2 = 42 ∨ tK b n p2 = 47 ∨ tK b n p2 = 37 := by have := hti2.mp c18; omega
    have hsg : sig (tK b n p2) = tK b n p2 ∧ tgt (tK b n p2) = 6 ∧ cdo (tK b n p2) = (3, tK b n p2) ∧ ekk (3, tK b n p2) = tK b n p2 := by rcases hkk with e | e | e <;> rw [e] <;> decide
    have hn := hc2.next ha (by omega)
    rcases c_unit_2 hE h2 hd hn.2 with ⟨f, hf1, hf2⟩ | ⟨p3, u3, w3, C3, hr3, hc3, hv3⟩
    · exact Or.inl ⟨f, ⟨rfl, hf1.2⟩, Lf_step (tK b n p2) hL hsg.1 ⟨by omega, by omega, by omega⟩ hsg.2.1 (by omega) hx2 hf2⟩
    · omega
theorem c_sum_2 {b : Nat → Int} {n c0 d p : Nat} {E O : XR} (hE : XE_2 b n c0 1 E) {p0 r : Int32} {G G1 : GS} {C : List (Int × Int)} {u w : Int} (h : P_fSum_2_s E O p0 G r G1) (hd : p0.toInt = (d : Int)) (hc : CfC_2 b n c0 G p C u w) : LR_2 b n c0 5 d p C u w r G1 := by
  obtain ⟨-, -, -, r1, G2, h1, hh⟩ := h
  have z : (0 : Int32).toInt = ((0 : Nat) : Int) := rfl
  have o : (1 : Int32).toInt = 1 := rfl
  have ht := hc.t
  have hL : ((5 : Int) = 6 ∧ (6 : Int) = 7) ∨ ((5 : Int) = 5 ∧ (6 : Int) = 6) ∨ ((5 : Int) = 2 ∧ (6 : Int) = 3) ∨ ((5 : Int) = 1 ∧ (6 : Int) = 2) := Or.inr (Or.inl ⟨rfl, rfl⟩)
  rcases c_term_2 hE h1 hd hc with ⟨f, hf1, hf2⟩ | ⟨p1, u1, w1, C1, hr1, hc1, hv1⟩
  · rcases hh with ⟨c2, rfl, rfl⟩ | ⟨c2, -⟩
    · exact Or.inl ⟨f, ⟨rfl, hf1.2⟩, Lf_init hL hf2⟩
    · have := hf1.1
      omega
  rcases hh with ⟨c2, -⟩ | ⟨c2, x, G8, hRc, hx, -, -, hh⟩
  · omega
  have hI := hRc (fun z => ∃ (p1 : Nat) (u1 w1 : Int) (C1 : List (Int × Int)) (k : Nat), z.1.toInt = (k : Int) ∧ p + 1 + k ≤ p1 ∧ CfC_2 b n c0 z.2 p1 C1 u1 w1 ∧ Lx b n 5 6 d p p1 C C1 u u1 w w1) ⟨p1, u1, w1, C1, 0, z, by have := hv1.1; omega, hc1, Lx_init hL hv1⟩ (by
    rintro ⟨x1, G_1⟩ ⟨xn, G_1n⟩ ⟨p2, u2, w2, C2, k, hk, hpk, hc2, hx2⟩ ⟨x1, G_1, xn, G_1n, e1, e2, -, -, c1, G21, hJ, -, -, r25, G26, ha, r31, G32, h2, c31, G39, he, y43, t43, ex, eG⟩
    obtain ⟨rfl, rfl⟩ := Prod.mk.inj e1
    obtain ⟨rfl, rfl⟩ := Prod.mk.inj e2
    simp only at hk hc2
    have ht2 := hc2.t
    have hJ2 : G_1 = G21 ∧ (tK b n p2 = 43 ∨ tK b n p2 = 45) := by
      rcases hJ with ⟨c, e⟩ | ⟨c, c2, e⟩
      · exact ⟨e, Or.inl (by omega)⟩
      · exact ⟨e, Or.inr (by omega)⟩
    obtain ⟨rfl, hkk⟩ := hJ2
    have hsg : sig (tK b n p2) = tK b n p2 ∧ tgt (tK b n p2) = 5 ∧ cdo (tK b n p2) = (3, tK b n p2) ∧ ekk (3, tK b n p2) = tK b n p2 := by rcases hkk with e | e <;> rw [e] <;> decide
    have hn := hc2.next ha (by omega)
    have h3 := c_term_2 hE h2 hd hn.2
    rcases h3 with ⟨f, hf1, -⟩ | ⟨p3, u3, w3, C3, hr3, hc3, hv3⟩
    · have := hf1.1
      omega
    · subst ex
      subst eG
      have hstep := Lx_step (tK b n p2) hL hsg.1 ⟨by omega, by omega, by omega⟩ hsg.2.1 (by omega) (by omega) hx2 hv3
      rw [hsg.2.2.1] at hstep
      exact ⟨p3, u3, w3, _, k + 1, by show y43.toInt = _; omega, by have := hv3.1; omega, hc3.emit he (x := (3, (tK b n p2))) (by rw [hsg.2.2.2]; omega) rfl, hstep⟩)
  obtain ⟨p2, u2, w2, C2, k, hk, hpk, hc2, hx2⟩ := hI
  simp only at hk hc2
  have ht2 := hc2.t
  rcases hh with ⟨c3, -⟩ | ⟨c3, ⟨c43, c45, rfl, rfl⟩ | ⟨G21, hJ, -, -, r25, G26, ha, r31, G32, h2, c31, rfl, rfl⟩⟩
  · omega
  · exact Or.inr ⟨p2, u2, w2, C2, o, hc2, Lx_end hx2 (fun T hT => ⟨fun _ => hT.1 (by decide), fun _ => by omega, fun q => absurd q (by decide), fun q => absurd q (by decide), fun q => absurd q (by decide)⟩)⟩
  · have hJ2 : G8 = G21 ∧ (tK b n p2 = 43 ∨ tK b n p2 = 45) := by
      rcases hJ with ⟨c, e⟩ | ⟨c, c2, e⟩
      · exact ⟨e, Or.inl (by omega)⟩
      · exact ⟨e, Or.inr (by omega)⟩
    obtain ⟨rfl, hkk⟩ := hJ2
    have hsg : sig (tK b n p2) = tK b n p2 ∧ tgt (tK b n p2) = 5 ∧ cdo (tK b n p2) = (3, tK b n p2) ∧ ekk (3, tK b n p2) = tK b n p2 := by rcases hkk with e | e <;> rw [e] <;> decide
    have hn := hc2.next ha (by omega)
    rcases c_term_2 hE h2 hd hn.2 with ⟨f, hf1, hf2⟩ | ⟨p3, u3, w3, C3, hr3, hc3, hv3⟩
    · exact Or.inl ⟨f, ⟨rfl, hf1.2⟩, Lf_step (tK b n p2) hL hsg.1 ⟨by omega, by omega, by omega⟩ hsg.2.1 (by omega) hx2 hf2⟩
    · omega
theorem c_rel_2 {b : Nat → Int} {n c0 d p : Nat} {E O : XR} (hE : XE_2 b n c0 1 E) {p0 r : Int32} {G G1 : GS} {C : List (Int × Int)} {u w : Int} (h : P_fRelation_2_s E O p0 G r G1) (hd : p0.toInt = (d : Int)) (hc : CfC_2 b n c0 G p C u w) (h146 : tK b n p ≠ 146) : LR_2 b n c0 4 d p C u w r G1 := by
  obtain ⟨-, -, -, r1, G2, h1, hh⟩ := h
  have z : (0 : Int32).toInt = 0 := rfl
  have o : (1 : Int32).toInt = 1 := rfl
  rcases c_sum_2 hE h1 hd hc with ⟨f, hf1, hf2⟩ | ⟨p1, u1, w1, C1, hr1, hc1, hv1⟩
  · rcases hh with ⟨c2, rfl, rfl⟩ | ⟨c2, -⟩
    · exact Or.inl ⟨f, ⟨z, hf1.2⟩, Lf_rel0 h146 hf2⟩
    · have := hf1.1
      omega
  have ht1 := hc1.t
  rcases hh with ⟨c2, -⟩ | ⟨c2, ⟨c3, c4, c5, rfl, rfl⟩ | ⟨G11, hJ, -, -, r15, G16, ha, r21, G22, h2, hh⟩⟩
  · omega
  · exact Or.inr ⟨p1, u1, w1, C1, o, hc1, Lv_rel0 h146 hv1 (by omega)⟩
  · have hJ2 : G2 = G11 ∧ (tK b n p1 = 60 ∨ tK b n p1 = 62 ∨ tK b n p1 = 61) := by
      rcases hJ with ⟨c, e⟩ | ⟨c, ⟨c6, e⟩ | ⟨c6, c7, e⟩⟩
      · exact ⟨e, by omega⟩
      · exact ⟨e, by omega⟩
      · exact ⟨e, by omega⟩
    obtain ⟨rfl, hkk⟩ := hJ2
    have hsg : cdo (tK b n p1) = (3, tK b n p1) ∧ ekk (3, tK b n p1) = tK b n p1 := by rcases hkk with e | e | e <;> rw [e] <;> decide
    have hn := hc1.next ha (by omega)
    rcases c_sum_2 hE h2 hd hn.2 with ⟨f, hf1, hf2⟩ | ⟨p3, u3, w3, C3, hr3, hc3, hv3⟩
    · rcases hh with ⟨c6, rfl, rfl⟩ | ⟨c6, -⟩
      · exact Or.inl ⟨f, ⟨z, hf1.2⟩, Lf_rel1 h146 hkk hv1 hf2⟩
      · have := hf1.1
        omega
    · rcases hh with ⟨c6, -⟩ | ⟨c6, G29, he, rfl, rfl⟩
      · omega
      · have hv := Lv_rel1 h146 hkk (by omega) hv1 hv3
        rw [hsg.1] at hv
        exact Or.inr ⟨p3, u3, w3, _, o, hc3.emit he (x := (3, tK b n p1)) (by rw [hsg.2]; omega) rfl, hv⟩
theorem c_one_2 {b : Nat → Int} {n c0 d p : Nat} {E O : XR} (hE : XE_2 b n c0 1 E) (hO : XE_2 b n c0 3 O) {p0 r : Int32} {G G1 : GS} {C : List (Int × Int)} {u w : Int} (h : P_fOne_2_s E O p0 G r G1) (hd : p0.toInt = (d : Int)) (hc : CfC_2 b n c0 G p C u w) : LR_2 b n c0 3 d p C u w r G1 := by
  obtain ⟨-, -, -, hh⟩ := h
  have z : (0 : Int32).toInt = 0 := rfl
  have o : (1 : Int32).toInt = 1 := rfl
  have ht := hc.t
  rcases hh with ⟨c, ⟨c1, r3, G4, ha, y9, t9, r10, G11, hO1, hh⟩ | ⟨c1, r22, G23, ha, rfl, rfl⟩⟩ | ⟨c, r28, G29, hr, rfl, rfl⟩
  · have hk : tK b n p = 146 := by omega
    have hn := hc.next ha (by omega)
    rcases hO y9 (d + 1) G4 r10 G11 (tNx b n p) C u w (by omega) hO1 hn.2 with ⟨f, hf1, hf2⟩ | ⟨p1, u1, w1, C1, hr1, hc1, hv1⟩
    · rcases hh with ⟨c2, rfl, rfl⟩ | ⟨c2, -⟩
      · exact Or.inl ⟨f, ⟨z, hf1.2⟩, Lf_not hk (by omega) hf2⟩
      · have := hf1.1
        omega
    · rcases hh with ⟨c2, -⟩ | ⟨c2, G18, he, rfl, rfl⟩
      · omega
      · have hv := Lv_not hk (by omega) (by omega) hv1
        rw [show cdo 21 = (2, 0) from rfl] at hv
        exact Or.inr ⟨p1, u1, w1, _, o, hc1.emit he (x := (2, 0)) rfl rfl, hv⟩
  · exact Or.inl ⟨_, (c_ref ha hc.1).1, Lf_not7 (by omega) (by omega)⟩
  · rcases c_rel_2 hE hr hd hc (by omega) with ⟨f, hf1, hf2⟩ | ⟨p1, u1, w1, C1, hr1, hc1, hv1⟩
    · exact Or.inl ⟨f, hf1, Lf_one hf2⟩
    · exact Or.inr ⟨p1, u1, w1, C1, hr1, hc1, Lv_one hv1⟩
theorem c_both_2 {b : Nat → Int} {n c0 d p : Nat} {E O : XR} (hE : XE_2 b n c0 1 E) (hO : XE_2 b n c0 3 O) {p0 r : Int32} {G G1 : GS} {C : List (Int × Int)} {u w : Int} (h : P_fBoth_2_s E O p0 G r G1) (hd : p0.toInt = (d : Int)) (hc : CfC_2 b n c0 G p C u w) : LR_2 b n c0 2 d p C u w r G1 := by
  obtain ⟨-, -, -, r1, G2, h1, hh⟩ := h
  have z : (0 : Int32).toInt = ((0 : Nat) : Int) := rfl
  have o : (1 : Int32).toInt = 1 := rfl
  have ht := hc.t
  have hL : ((2 : Int) = 6 ∧ (3 : Int) = 7) ∨ ((2 : Int) = 5 ∧ (3 : Int) = 6) ∨ ((2 : Int) = 2 ∧ (3 : Int) = 3) ∨ ((2 : Int) = 1 ∧ (3 : Int) = 2) := Or.inr (Or.inr (Or.inl ⟨rfl, rfl⟩))
  rcases c_one_2 hE hO h1 hd hc with ⟨f, hf1, hf2⟩ | ⟨p1, u1, w1, C1, hr1, hc1, hv1⟩
  · rcases hh with ⟨c2, rfl, rfl⟩ | ⟨c2, -⟩
    · exact Or.inl ⟨f, ⟨rfl, hf1.2⟩, Lf_init hL hf2⟩
    · have := hf1.1
      omega
  rcases hh with ⟨c2, -⟩ | ⟨c2, x, G8, hRc, hx, -, -, hh⟩
  · omega
  have hI := hRc (fun z => ∃ (p1 : Nat) (u1 w1 : Int) (C1 : List (Int × Int)) (k : Nat), z.1.toInt = (k : Int) ∧ p + 1 + k ≤ p1 ∧ CfC_2 b n c0 z.2 p1 C1 u1 w1 ∧ Lx b n 2 3 d p p1 C C1 u u1 w w1) ⟨p1, u1, w1, C1, 0, z, by have := hv1.1; omega, hc1, Lx_init hL hv1⟩ (by
    rintro ⟨x1, G_1⟩ ⟨xn, G_1n⟩ ⟨p2, u2, w2, C2, k, hk, hpk, hc2, hx2⟩ ⟨x1, G_1, xn, G_1n, e1, e2, -, -, c1, c145, r25, G26, ha, r31, G32, h2, c31, G39, he, y43, t43, ex, eG⟩
    obtain ⟨rfl, rfl⟩ := Prod.mk.inj e1
    obtain ⟨rfl, rfl⟩ := Prod.mk.inj e2
    simp only at hk hc2
    have ht2 := hc2.t
    have hkk : tK b n p2 = 145 := by omega
    have hn := hc2.next ha (by omega)
    have h3 := c_one_2 hE hO h2 hd hn.2
    rcases h3 with ⟨f, hf1, -⟩ | ⟨p3, u3, w3, C3, hr3, hc3, hv3⟩
    · have := hf1.1
      omega
    · subst ex
      subst eG
      have hstep := Lx_step 38 hL (by rw [hkk]; rfl) (by decide) (by decide) (by omega) (by omega) hx2 hv3
      rw [show cdo 38 = (3, 38) from rfl] at hstep
      exact ⟨p3, u3, w3, _, k + 1, by show y43.toInt = _; omega, by have := hv3.1; omega, hc3.emit he (x := (3, 38)) rfl rfl, hstep⟩)
  obtain ⟨p2, u2, w2, C2, k, hk, hpk, hc2, hx2⟩ := hI
  simp only at hk hc2
  have ht2 := hc2.t
  rcases hh with ⟨c3, -⟩ | ⟨c3, ⟨c4, r25, G26, ha, r31, G32, h2, c31, rfl, rfl⟩ | ⟨c4, rfl, rfl⟩⟩
  · omega
  · have hkk : tK b n p2 = 145 := by omega
    have hn := hc2.next ha (by omega)
    rcases c_one_2 hE hO h2 hd hn.2 with ⟨f, hf1, hf2⟩ | ⟨p3, u3, w3, C3, hr3, hc3, hv3⟩
    · exact Or.inl ⟨f, ⟨rfl, hf1.2⟩, Lf_step 38 hL (by rw [hkk]; rfl) (by decide) (by decide) (by omega) hx2 hf2⟩
    · omega
  · exact Or.inr ⟨p2, u2, w2, C2, o, hc2, Lx_end hx2 (fun T hT => ⟨fun _ => hT.1 (by decide), fun _ => hT.2.1 (by decide), fun _ => hT.2.2.1 (by decide), fun _ => by omega, fun q => absurd q (by decide)⟩)⟩
theorem c_either_2 {b : Nat → Int} {n c0 d p : Nat} {E O : XR} (hE : XE_2 b n c0 1 E) (hO : XE_2 b n c0 3 O) {p0 r : Int32} {G G1 : GS} {C : List (Int × Int)} {u w : Int} (h : P_fEither_2_s E O p0 G r G1) (hd : p0.toInt = (d : Int)) (hc : CfC_2 b n c0 G p C u w) : LR_2 b n c0 1 d p C u w r G1 := by
  obtain ⟨-, -, -, r1, G2, h1, hh⟩ := h
  have z : (0 : Int32).toInt = ((0 : Nat) : Int) := rfl
  have o : (1 : Int32).toInt = 1 := rfl
  have ht := hc.t
  have hL : ((1 : Int) = 6 ∧ (2 : Int) = 7) ∨ ((1 : Int) = 5 ∧ (2 : Int) = 6) ∨ ((1 : Int) = 2 ∧ (2 : Int) = 3) ∨ ((1 : Int) = 1 ∧ (2 : Int) = 2) := Or.inr (Or.inr (Or.inr ⟨rfl, rfl⟩))
  rcases c_both_2 hE hO h1 hd hc with ⟨f, hf1, hf2⟩ | ⟨p1, u1, w1, C1, hr1, hc1, hv1⟩
  · rcases hh with ⟨c2, rfl, rfl⟩ | ⟨c2, -⟩
    · exact Or.inl ⟨f, ⟨rfl, hf1.2⟩, Lf_init hL hf2⟩
    · have := hf1.1
      omega
  rcases hh with ⟨c2, -⟩ | ⟨c2, x, G8, hRc, hx, -, -, hh⟩
  · omega
  have hI := hRc (fun z => ∃ (p1 : Nat) (u1 w1 : Int) (C1 : List (Int × Int)) (k : Nat), z.1.toInt = (k : Int) ∧ p + 1 + k ≤ p1 ∧ CfC_2 b n c0 z.2 p1 C1 u1 w1 ∧ Lx b n 1 2 d p p1 C C1 u u1 w w1) ⟨p1, u1, w1, C1, 0, z, by have := hv1.1; omega, hc1, Lx_init hL hv1⟩ (by
    rintro ⟨x1, G_1⟩ ⟨xn, G_1n⟩ ⟨p2, u2, w2, C2, k, hk, hpk, hc2, hx2⟩ ⟨x1, G_1, xn, G_1n, e1, e2, -, -, c1, c144, r25, G26, ha, r31, G32, h2, c31, G39, he, y43, t43, ex, eG⟩
    obtain ⟨rfl, rfl⟩ := Prod.mk.inj e1
    obtain ⟨rfl, rfl⟩ := Prod.mk.inj e2
    simp only at hk hc2
    have ht2 := hc2.t
    have hkk : tK b n p2 = 144 := by omega
    have hn := hc2.next ha (by omega)
    have h3 := c_both_2 hE hO h2 hd hn.2
    rcases h3 with ⟨f, hf1, -⟩ | ⟨p3, u3, w3, C3, hr3, hc3, hv3⟩
    · have := hf1.1
      omega
    · subst ex
      subst eG
      have hstep := Lx_step 124 hL (by rw [hkk]; rfl) (by decide) (by decide) (by omega) (by omega) hx2 hv3
      rw [show cdo 124 = (3, 124) from rfl] at hstep
      exact ⟨p3, u3, w3, _, k + 1, by show y43.toInt = _; omega, by have := hv3.1; omega, hc3.emit he (x := (3, 124)) rfl rfl, hstep⟩)
  obtain ⟨p2, u2, w2, C2, k, hk, hpk, hc2, hx2⟩ := hI
  simp only at hk hc2
  have ht2 := hc2.t
  rcases hh with ⟨c3, -⟩ | ⟨c3, ⟨c4, r25, G26, ha, r31, G32, h2, c31, rfl, rfl⟩ | ⟨c4, rfl, rfl⟩⟩
  · omega
  · have hkk : tK b n p2 = 144 := by omega
    have hn := hc2.next ha (by omega)
    rcases c_both_2 hE hO h2 hd hn.2 with ⟨f, hf1, hf2⟩ | ⟨p3, u3, w3, C3, hr3, hc3, hv3⟩
    · exact Or.inl ⟨f, ⟨rfl, hf1.2⟩, Lf_step 124 hL (by rw [hkk]; rfl) (by decide) (by decide) (by omega) hx2 hf2⟩
    · omega
  · exact Or.inr ⟨p2, u2, w2, C2, o, hc2, Lx_end hx2 (fun T hT => ⟨fun _ => hT.1 (by decide), fun _ => hT.2.1 (by decide), fun _ => hT.2.2.1 (by decide), fun _ => hT.2.2.2.1 (by decide), fun _ => by omega⟩)⟩
theorem c_grp_2 {b : Nat → Int} {n c0 : Nat} (k : Nat) : XE_2 b n c0 1 (PPf_2 k).1 ∧ XE_2 b n c0 3 (PPf_2 k).2 := by
  induction k with
  | zero => exact ⟨fun p0 d G r G1 p C u w _ h _ => h.elim, fun p0 d G r G1 p C u w _ h _ => h.elim⟩
  | succ k ih => exact ⟨fun p0 d G r G1 p C u w hd h hc => c_either_2 ih.1 ih.2 h hd hc, fun p0 d G r G1 p C u w hd h hc => c_one_2 ih.1 ih.2 h hd hc⟩
theorem c_form_2 {b : Nat → Int} {n c0 p : Nat} {r : Int32} {G G1 : GS} {w : Int} (h : P_fRead_2 G r G1) (hp : CPx b n G p) (hw : (G.1 2 12).toInt = w) (hw90 : w ≤ 90) (hC : CodeC_2 c0 [] G) : (∃ f, CF f r G1 ∧ Ev b n (true, p, [], [], 0, w) (.inl f)) ∨ (∃ p' u' w' C', r.toInt = 1 ∧ CfC_2 b n c0 G1 p' C' u' w' ∧ p < p' ∧ Ev b n (true, p, [], [], 0, w) (.inr (p', C', u', w'))) := by
  obtain ⟨-, -, -, G2, -, hF2, -, e2, r3, G4, h1, rfl, rfl⟩ := h
  have hc : CfC_2 b n c0 G2 p [] 0 w := ⟨hp.fr hF2 (by decide) (by decide) (by decide) (by decide), by rw [e2]; rfl, by rw [hF2.i 2 12 (by decide) (by decide)]; exact hw, hC.fr hF2 (by decide) (by decide) (by decide) (by decide), by decide, hw90⟩
  have hg := c_grp_2 (b := b) (n := n) (c0 := c0) 7
  rcases c_either_2 (d := 0) hg.1 hg.2 h1 rfl hc with ⟨f, hf1, hf2⟩ | ⟨p1, u1, w1, C1, hr1, hc1, hv1⟩
  · exact Or.inl ⟨f, hf1, Ev_topf hf2⟩
  · exact Or.inr ⟨p1, u1, w1, C1, hr1, hc1, hv1.1, Ev_top hv1⟩

/-! formulas by the reference: the small pieces -/
def StkM (S : List Int) (G : GS) : Prop := (G.1 66 20).toInt = (S.length : Int) ∧ ∀ i, i < S.length → (G.1 75 (S.length - 1 - i)).toInt = S.getD i 0
def CodeM (f : Nat) (C : List (Int × Int)) (G : GS) : Prop := (G.1 71 f).toInt = (C.length : Int) ∧ ∀ i, i < C.length → (G.1 69 (320 * f + i)).toInt = (C.getD i (0, 0)).1 ∧ (G.1 70 (320 * f + i)).toInt = (C.getD i (0, 0)).2
theorem StkM.fr {S : List Int} {rs : List Nat} {fs : List (Nat × Nat)} {G G1 : GS} (h : StkM S G) (hF : Fr rs fs G G1) (h1 : 66 ∉ rs) (h2 : (66, 20) ∉ fs) (h3 : 75 ∉ rs) (h4 : ∀ x ∈ fs, x.1 ≠ 75) : StkM S G1 := by
  unfold StkM at h ⊢
  rw [hF.i 66 20 h1 h2, hF.row1 75 h3 h4]
  exact h
theorem CodeM.fr {f : Nat} {C : List (Int × Int)} {rs : List Nat} {fs : List (Nat × Nat)} {G G1 : GS} (h : CodeM f C G) (hF : Fr rs fs G G1) (h1 : 69 ∉ rs ∧ 70 ∉ rs ∧ 71 ∉ rs) (h2 : ∀ x ∈ fs, x.1 ≠ 69 ∧ x.1 ≠ 70 ∧ x.1 ≠ 71) : CodeM f C G1 := by
  unfold CodeM at h ⊢
  rw [hF.row1 69 h1.1 (fun x hx => (h2 x hx).1), hF.row1 70 h1.2.1 (fun x hx => (h2 x hx).2.1), hF.row1 71 h1.2.2 (fun x hx => (h2 x hx).2.2)]
  exact h
theorem m_tight {o r : Int32} {G G1 : GS} (h : Q_tight o G r G1) : G = G1 ∧ r.toInt = tgt o.toInt := by
  obtain ⟨-, hF, -, h⟩ := h
  refine ⟨hF.nil, ?_⟩
  unfold tgt
  rcases h with ⟨c, rfl, -⟩ | ⟨c, ⟨d, rfl, -⟩ | ⟨d, ⟨e, rfl, -⟩ | ⟨e, ⟨f, rfl, -⟩ | ⟨f, ⟨g, rfl, -⟩ | ⟨g, ⟨i, rfl, -⟩ | ⟨i, ⟨j, rfl, -⟩ | ⟨j, ⟨k, rfl, -⟩ | ⟨k, rfl, -⟩⟩⟩⟩⟩⟩⟩⟩
  · rw [c]; rfl
  · rw [d]; rfl
  · rw [e]; rfl
  · rw [f]; rfl
  · rw [g]; rfl
  · rw [i]; rfl
  · rw [j]; rfl
  · rw [k]; rfl
  · rw [if_neg k, if_neg d, if_neg c, if_neg (by omega), if_neg (by omega)]
    rfl
theorem m_add {f : Nat} {C : List (Int × Int)} {s v : Int32} {G G1 : GS} (h : Q_add s v G G1) (hf : (G.1 66 19).toInt = (f : Int)) (hC : CodeM f C G) : CodeM f (C ++ [(s.toInt, v.toInt)]) G1 := by
  obtain ⟨-, -, -, y2, t2, y3, e3, y5, t5, y7, t7, y8, e8, y10, t10, y12, e12, y14, t14, -, e69, e70, e71⟩ := h
  obtain ⟨h1, h2⟩ := hC
  rw [cn_eq hf] at e3 e8 e12 e71
  subst e3
  subst e8
  subst e12
  unfold CodeM
  rw [List.length_append, List.length_singleton, e69, e70, e71, cn_eq (e := 320 * f + C.length) (by omega), cn_eq (x := y10) (e := 320 * f + C.length) (by omega)]
  refine ⟨?_, fun i hi => ?_⟩
  · have e : upd (G.1 71) f y14 f = y14 := if_pos rfl
    rw [e]
    omega
  · rw [getD_sn]
    by_cases hq : i < C.length
    · have e1 : ∀ (g : Nat → Int32) (x : Int32), upd g (320 * f + C.length) x (320 * f + i) = g (320 * f + i) := fun g x => if_neg (by omega)
      rw [if_pos hq, e1, e1]
      exact h2 i hq
    · have e1 : ∀ (g : Nat → Int32) (x : Int32), upd g (320 * f + C.length) x (320 * f + i) = x := fun g x => if_pos (by omega)
      rw [if_neg hq, if_pos (by omega), e1, e1]
      exact ⟨rfl, rfl⟩
theorem stk_top {o : Int} {S : List Int} {G : GS} {x y : Int32} (h : StkM (o :: S) G) (hx : x.toInt = (G.1 66 20).toInt - 1) (hy : y = G.1 75 x.toNatClampNeg) : y.toInt = o := by
  have h1 := h.2 0 (by simp)
  have h0 := h.1
  rw [List.length_cons] at h0 h1
  rw [hy, cn_eq (e := S.length) (by omega)]
  simpa using h1
theorem stk_pop {o : Int} {S : List Int} {G G1 : GS} {rs : List Nat} {fs : List (Nat × Nat)} (h : StkM (o :: S) G) (hF : Fr rs fs G G1) (h3 : 75 ∉ rs) (h4 : ∀ x ∈ fs, x.1 ≠ 75) (h5 : (G1.1 66 20).toInt = (G.1 66 20).toInt - 1) : StkM S G1 := by
  have h0 := h.1
  rw [List.length_cons] at h0
  refine ⟨by omega, fun i hi => ?_⟩
  rw [hF.row1 75 h3 h4]
  have h1 := h.2 (i + 1) (by simp; omega)
  rw [List.length_cons, show S.length + 1 - 1 - (i + 1) = S.length - 1 - i by omega] at h1
  simpa using h1
theorem stk_push {o : Int32} {S : List Int} {G G1 : GS} (h : StkM S G) (h5 : (G1.1 66 20).toInt = (G.1 66 20).toInt + 1) (h6 : G1.1 75 = upd (G.1 75) (G.1 66 20).toNatClampNeg o) : StkM (o.toInt :: S) G1 := by
  have h0 := h.1
  refine ⟨by rw [List.length_cons]; omega, fun i hi => ?_⟩
  rw [h6, cn_eq h0, List.length_cons]
  rw [List.length_cons] at hi
  cases i with
  | zero =>
    have e : upd (G.1 75) S.length o (S.length + 1 - 1 - 0) = o := if_pos (by omega)
    rw [e]
    rfl
  | succ i =>
    have e : upd (G.1 75) S.length o (S.length + 1 - 1 - (i + 1)) = G.1 75 (S.length + 1 - 1 - (i + 1)) := if_neg (by omega)
    rw [e, show S.length + 1 - 1 - (i + 1) = S.length - 1 - i by omega, h.2 i (by omega)]
    simp
theorem m_close {f : Nat} {L : Int32} {S : List Int} {C : List (Int × Int)} {G G1 : GS} (h : Q_close L G G1) (hf : (G.1 66 19).toInt = (f : Int)) (hS : StkM S G) (hd : (G.1 66 24).toInt = (dps S : Int)) (hC : CodeM f C G) : StkM (clo L.toInt S C).1 G1 ∧ (G1.1 66 24).toInt = (dps (clo L.toInt S C).1 : Int) ∧ CodeM f (clo L.toInt S C).2 G1 := by
  obtain ⟨-, -, -, G_1, hRc, -, -, -, -, -, -, -, -, -, -, hh⟩ := h
  have hI := hRc (fun x => Fr [69, 70, 71] [(66, 20), (66, 24)] G x ∧ ∃ S' C', clo L.toInt S C = clo L.toInt S' C' ∧ StkM S' x ∧ (x.1 66 24).toInt = (dps S' : Int) ∧ CodeM f C' x) ⟨Fr.rf, S, C, rfl, hS, hd, hC⟩ (by
    clear hh
    rintro x y ⟨hF, S', C', hcl, hS', hd', hC'⟩ ⟨G_2, G_3, rfl, rfl, -, -, -, -, -, -, -, -, -, c1, y21, t21, y22, e22, c22, y25, t25, y26, e26, r28, G29, ht, c28, y50, t50, y52, e52, hh⟩
    have hfx : (x.1 66 19).toInt = (f : Int) := by rw [hF.i 66 19 (by decide) (by decide)]; exact hf
    obtain ⟨rfl, hr⟩ := m_tight ht
    cases S' with
    | nil =>
      have := hS'.1
      simp at this
      omega
    | cons o S' =>
      have v22 := stk_top hS' t21 e22
      have v26 := stk_top hS' t25 e26
      have v52 := stk_top hS' t50 e52
      rw [v26] at hr
      rw [clo, if_pos ⟨by omega, by omega⟩] at hcl
      rcases hh with ⟨c52, G51, -, hF51, e20, G82, ha, y86, t86, hF2, e24⟩ | ⟨c52, y58, e58, G51, -, hF51, e20, G64, ha, eG⟩
      · have ho : o = 21 := by omega
        subst ho
        have hS51 : StkM S' G51 := stk_pop hS' hF51 (by decide) (by decide) (by rw [e20]; omega)
        have hC51 : CodeM f C' G51 := hC'.fr hF51 (by decide) (by decide)
        have hC82 : CodeM f (C' ++ [cdo 21]) G82 := m_add ha (by rw [hF51.i 66 19 (by decide) (by decide)]; exact hfx) hC51
        refine ⟨((hF.call hF51 (by decide) (by decide)).call ha.2.1 (by decide) (by decide)).call hF2 (by decide) (by decide), S', _, hcl, (hS51.fr ha.2.1 (by decide) (by decide) (by decide) (by decide)).fr hF2 (by decide) (by decide) (by decide) (by decide), ?_, hC82.fr hF2 (by decide) (by decide)⟩
        rw [dps, if_pos (Or.inr rfl)] at hd'
        rw [e24]
        omega
      · have hS51 : StkM S' G51 := stk_pop hS' hF51 (by decide) (by decide) (by rw [e20]; omega)
        have hC51 : CodeM f C' G51 := hC'.fr hF51 (by decide) (by decide)
        have v58 := stk_top hS' t50 e58
        have hC64 : CodeM f (C' ++ [((3 : Int32).toInt, y58.toInt)]) G64 := m_add ha (by rw [hF51.i 66 19 (by decide) (by decide)]; exact hfx) hC51
        have hcd : cdo o = ((3 : Int32).toInt, y58.toInt) := by
          rw [cdo, if_neg (by omega), v58]
          rfl
        rw [hcd] at hcl
        subst eG
        refine ⟨(hF.call hF51 (by decide) (by decide)).call ha.2.1 (by decide) (by decide), S', _, hcl, hS51.fr ha.2.1 (by decide) (by decide) (by decide) (by decide), ?_, hC64⟩
        rw [dps, if_neg (by omega)] at hd'
        rw [ha.2.1.i 66 24 (by decide) (by decide), hF51.i 66 24 (by decide) (by decide)]
        exact hd')
  obtain ⟨hF, S', C', hcl, hS', hd', hC'⟩ := hI
  have fin : clo L.toInt S' C' = (S', C') → G_1 = G1 → StkM (clo L.toInt S C).1 G1 ∧ (G1.1 66 24).toInt = (dps (clo L.toInt S C).1 : Int) ∧ CodeM f (clo L.toInt S C).2 G1 := by
    intro e eG
    subst eG
    rw [hcl, e]
    exact ⟨hS', hd', hC'⟩
  cases S' with
  | nil =>
    rcases hh with ⟨c, eG⟩ | ⟨c, -⟩
    · exact fin rfl eG
    · have := hS'.1
      simp at this
      omega
  | cons o S' =>
    rcases hh with ⟨c, -⟩ | ⟨c, y21, t21, y22, e22, ⟨c22, eG⟩ | ⟨c22, y25, t25, y26, e26, r28, G29, ht, c28, eG⟩⟩
    · have := hS'.1
      simp at this
      omega
    · have v22 := stk_top hS' t21 e22
      exact fin (by rw [clo, if_neg (fun q => q.1 (by omega))]) eG
    · obtain ⟨rfl, hr⟩ := m_tight ht
      have v26 := stk_top hS' t25 e26
      rw [v26] at hr
      exact fin (by rw [clo, if_neg (fun q => by omega)]) eG
theorem m_mayNot {S : List Int} {r : Int32} {G G1 : GS} (h : Q_mayNot G r G1) (hS : StkM S G) : G = G1 ∧ (r.toInt ≠ 0 ↔ mno S = true) := by
  obtain ⟨-, hF, -, hh⟩ := h
  have z : (0 : Int32).toInt = 0 := rfl
  have o1 : (1 : Int32).toInt = 1 := rfl
  refine ⟨hF.nil, ?_⟩
  cases S with
  | nil =>
    have := hS.1
    simp at this
    rcases hh with ⟨c, rfl, -⟩ | ⟨c, -⟩
    · exact ⟨fun _ => rfl, fun _ => by omega⟩
    · omega
  | cons o S =>
    have h0 := hS.1
    rw [List.length_cons] at h0
    rw [mno, decide_eq_true_iff]
    rcases hh with ⟨c, -⟩ | ⟨c, y3, t3, y4, e4, ⟨c4, rfl, -⟩ | ⟨c4, y6, t6, y7, e7, r8, G9, ht, ⟨c8, rfl, -⟩ | ⟨c8, rfl, -⟩⟩⟩
    · omega
    · have := stk_top hS t3 e4
      exact ⟨fun _ => Or.inl (by omega), fun _ => by omega⟩
    · have v4 := stk_top hS t3 e4
      have v7 := stk_top hS t6 e7
      have hr := (m_tight ht).2
      rw [v7] at hr
      exact ⟨fun q => by omega, fun q => by omega⟩
    · have v4 := stk_top hS t3 e4
      have v7 := stk_top hS t6 e7
      have hr := (m_tight ht).2
      rw [v7] at hr
      exact ⟨fun q => Or.inr (by omega), fun q => by omega⟩
theorem m_isFull {r : Int32} {G G1 : GS} (h : Q_isFull G r G1) : G = G1 ∧ (r.toInt ≠ 0 ↔ ((G.1 66 21).toInt = 90 ∨ (G.1 66 23).toInt = 30)) := by
  obtain ⟨-, hF, -, -, hh⟩ := h
  have z : (0 : Int32).toInt = 0 := rfl
  have o1 : (1 : Int32).toInt = 1 := rfl
  refine ⟨hF.nil, ?_⟩
  rcases hh with ⟨c, rfl, -⟩ | ⟨c, ⟨c2, rfl, -⟩ | ⟨c2, rfl, -⟩⟩ <;> omega
theorem h_at {S : List Int} {G : GS} {j : Nat} (h : StkM S G) (hj : j < S.length) : (G.1 75 (S.length - 1 - j)).toInt = S.getD j 0 := h.2 j hj
theorem stk_at {S : List Int} {G : GS} {k : Nat} (h : StkM S G) (hk : k < S.length) : (G.1 75 k).toInt = S.getD (S.length - 1 - k) 0 := by
  have := h.2 (S.length - 1 - k) (by omega)
  rw [show S.length - 1 - (S.length - 1 - k) = k by omega] at this
  exact this
theorem mem_getD_i {S : List Int} {x : Int} : x ∈ S ↔ ∃ k, k < S.length ∧ S.getD k 0 = x := by
  rw [List.mem_iff_getElem]
  refine ⟨fun ⟨k, hk, e⟩ => ⟨k, hk, ?_⟩, fun ⟨k, hk, e⟩ => ⟨k, hk, ?_⟩⟩
  · rw [List.getD_eq_getElem?_getD, List.getElem?_eq_getElem hk]
    exact e
  · rw [List.getD_eq_getElem?_getD, List.getElem?_eq_getElem hk] at e
    exact e
theorem m_hasBracket {S : List Int} {r : Int32} {G G1 : GS} (h : Q_hasBracket G r G1) (hS : StkM S G) : G = G1 ∧ (r.toInt ≠ 0 ↔ (20 : Int) ∈ S) := by
  obtain ⟨-, hF, -, -, x6, x7, G2, hRc, -, -, -, -, -, -, c6, e7, -⟩ := h
  have z : (0 : Int32).toInt = 0 := rfl
  have o1 : (1 : Int32).toInt = 1 := rfl
  refine ⟨hF.nil, ?_⟩
  have hI := hRc (fun q => G = q.2.2 ∧ ∃ k : Nat, q.1.toInt = (k : Int) ∧ k ≤ S.length ∧ (q.2.1.toInt ≠ 0 ↔ ∃ j, j < k ∧ (G.1 75 j).toInt = 20)) ⟨rfl, 0, z, Nat.zero_le _, fun q => absurd z q, fun ⟨j, hj, _⟩ => by omega⟩ (by
    rintro ⟨x, f, G_1⟩ ⟨xn, fn, G_1n⟩ ⟨h1, k, h2, h3, h4⟩ ⟨xq, fq, Gq, xnq, fnq, Gnq, e1, e2, -, -, -, -, -, c1, hh⟩
    obtain ⟨rfl, e3⟩ := Prod.mk.inj e1
    obtain ⟨rfl, rfl⟩ := Prod.mk.inj e3
    obtain ⟨rfl, e4⟩ := Prod.mk.inj e2
    obtain ⟨rfl, rfl⟩ := Prod.mk.inj e4
    simp only at h1 h2 h4
    subst h1
    have h0 := hS.1
    have ext : ∀ y : Int32, y.toInt = x.toInt + 1 → (fn.toInt ≠ 0 ↔ (f.toInt ≠ 0 ∨ (G.1 75 k).toInt = 20)) → ∃ k : Nat, y.toInt = (k : Int) ∧ k ≤ S.length ∧ (fn.toInt ≠ 0 ↔ ∃ j, j < k ∧ (G.1 75 j).toInt = 20) := by
      intro y ty hy
      refine ⟨k + 1, by omega, by omega, hy.trans ⟨fun q => ?_, fun ⟨j, hj, e⟩ => ?_⟩⟩
      · rcases q with q | q
        · obtain ⟨j, hj, e⟩ := h4.mp q
          exact ⟨j, by omega, e⟩
        · exact ⟨k, by omega, q⟩
      · by_cases hjk : j = k
        · subst hjk
          exact Or.inr e
        · exact Or.inl (h4.mpr ⟨j, by omega, e⟩)
    rcases hh with ⟨c7, y23, e23, ⟨c23, y32, t32, ex, ef, eG⟩ | ⟨c23, y28, t28, ex, ef, eG⟩⟩ | ⟨c7, y20, t20, ex, ef, eG⟩
    · rw [cn_eq h2] at e23
      subst e23
      subst ex
      subst ef
      subst eG
      exact ⟨rfl, ext y32 t32 ⟨fun _ => Or.inr c23, fun _ => by omega⟩⟩
    · rw [cn_eq h2] at e23
      subst e23
      subst ex
      subst ef
      subst eG
      exact ⟨rfl, ext y28 t28 ⟨fun q => absurd z q, fun q => q.elim (fun q => absurd c7 q) (fun q => absurd q c23)⟩⟩
    · subst ex
      subst ef
      subst eG
      exact ⟨rfl, ext y20 t20 ⟨fun _ => Or.inl c7, fun _ => by omega⟩⟩)
  obtain ⟨-, k, h2, h3, h4⟩ := hI
  simp only at h2 h4
  subst e7
  have h0 := hS.1
  have hk : k = S.length := by omega
  subst hk
  rw [h4, mem_getD_i]
  refine ⟨fun ⟨j, hj, e⟩ => ⟨S.length - 1 - j, by omega, by rw [← stk_at hS hj]; exact e⟩, fun ⟨j, hj, e⟩ => ⟨S.length - 1 - j, by omega, by rw [h_at hS hj]; exact e⟩⟩
theorem m_hasRel {S : List Int} {r : Int32} {G G1 : GS} (h : Q_hasRelation G r G1) (hS : StkM S G) : G = G1 ∧ (r.toInt ≠ 0 ↔ hrl S = true) := by
  obtain ⟨-, hF, -, y2, t2, x7, G3, hRc, -, -, -, G13, hJ, -, -, hh⟩ := h
  have z : (0 : Int32).toInt = 0 := rfl
  have o1 : (1 : Int32).toInt = 1 := rfl
  have h0 := hS.1
  refine ⟨hF.nil, ?_⟩
  have topv : ∀ (T : List Int) (k : Nat), S.length = T.length + k → (∀ i, i < T.length → T.getD i 0 = S.getD (i + k) 0) → ∀ (o : Int) (T' : List Int), T = o :: T' → (G.1 75 T'.length).toInt = o := by
    intro T k hk hT o T' e
    subst e
    rw [List.length_cons] at hk
    rw [stk_at hS (by omega)]
    have := hT 0 (by simp)
    rw [show S.length - 1 - T'.length = 0 + k by omega, ← this]
    rfl
  have hI := hRc (fun q => G = q.2 ∧ ∃ (T : List Int) (k : Nat), hrl S = hrl T ∧ q.1.toInt = (T.length : Int) - 1 ∧ S.length = T.length + k ∧ ∀ i, i < T.length → T.getD i 0 = S.getD (i + k) 0) ⟨rfl, S, 0, rfl, by show y2.toInt = _; omega, by omega, fun i _ => rfl⟩ (by
    clear hh hJ
    rintro ⟨x, G_1⟩ ⟨xn, G_1n⟩ ⟨h1, T, k, h2, h3, h4, h5⟩ ⟨xq, Gq, xnq, Gnq, e1, e2, -, -, c1, y29, e29, c29, y31, e31, r32, G33, ht, c32, y39, t39, ex, eG⟩
    obtain ⟨rfl, rfl⟩ := Prod.mk.inj e1
    obtain ⟨rfl, rfl⟩ := Prod.mk.inj e2
    simp only at h1 h3
    subst h1
    obtain ⟨rfl, hr⟩ := m_tight ht
    subst ex
    subst eG
    cases T with
    | nil =>
      simp at h3
      omega
    | cons o T =>
      rw [List.length_cons] at h3
      have ho := topv (o :: T) k h4 h5 o T rfl
      rw [cn_eq (e := T.length) (by omega)] at e29 e31
      subst e29
      subst e31
      rw [ho] at hr
      refine ⟨rfl, T, k + 1, ?_, by show y39.toInt = _; omega, by rw [List.length_cons] at h4; omega, fun i hi => ?_⟩
      · rw [h2, hrl, if_neg (by omega), if_pos (by omega)]
      · have := h5 (i + 1) (by rw [List.length_cons]; omega)
        rw [show i + 1 + k = i + (k + 1) by omega] at this
        rw [← this]
        simp)
  obtain ⟨hG, T, k, h2, h3, h4, h5⟩ := hI
  simp only at hG h3
  subst hG
  rw [h2]
  have hG13 : G = G13 := by
    rcases hJ with ⟨c, e⟩ | ⟨c, y29, e29, ⟨c29, e⟩ | ⟨c29, y31, e31, r32, G33, ht, c32, e⟩⟩
    · exact e
    · exact e
    · exact (m_tight ht).1.trans e
  subst hG13
  cases T with
  | nil =>
    simp at h3
    rcases hh with ⟨c, e, -⟩ | ⟨c, -⟩
    · subst e
      exact ⟨fun q => absurd z q, fun q => absurd q (by simp [hrl])⟩
    · omega
  | cons o T =>
    rw [List.length_cons] at h3
    have ho := topv (o :: T) k h4 h5 o T rfl
    rcases hh with ⟨c, -⟩ | ⟨c, y18, e18, ⟨c18, e, -⟩ | ⟨c18, y20, e20, r21, G22, ht, hh⟩⟩
    · omega
    · rw [cn_eq (e := T.length) (by omega)] at e18
      subst e18
      subst e
      rw [hrl, if_pos (by omega)]
      exact ⟨fun q => absurd z q, fun q => absurd q (by decide)⟩
    · rw [cn_eq (e := T.length) (by omega)] at e18 e20
      subst e18
      subst e20
      have hr := (m_tight ht).2
      rw [ho] at hr
      have hle : tgt o ≤ 4 := by
        rcases hJ with ⟨c, e⟩ | ⟨c, y29, e29, ⟨c29, e⟩ | ⟨c29, y31, e31, r32, G33, ht2, c32, e⟩⟩
        · omega
        · rw [cn_eq (e := T.length) (by omega)] at e29
          subst e29
          omega
        · rw [cn_eq (e := T.length) (by omega)] at e31
          subst e31
          have hr2 := (m_tight ht2).2
          rw [ho] at hr2
          omega
      rw [hrl, if_neg (by omega), if_neg (by omega), decide_eq_true_iff]
      rcases hh with ⟨c21, e, -⟩ | ⟨c21, e, -⟩
      · subst e
        exact ⟨fun _ => by omega, fun _ => by omega⟩
      · subst e
        exact ⟨fun q => absurd z q, fun q => by omega⟩

/-! formulas by the reference: what is asked, signs -/
theorem m_asked {b : Nat → Int} {n p : Nat} {r : Int32} {G G1 : GS} (h : Q_asked G r G1) (hp : MP b n G p) : G = G1 ∧ r.toInt = ask (tK b n p) := by
  obtain ⟨-, hF, -, hh⟩ := h
  have hs := hp.so.2.2.1
  refine ⟨hF.nil, ?_⟩
  rcases hh with ⟨c1, y2, e2, y3, e3, hh⟩ | ⟨c1, e, -⟩
  · have hk := hs.mp c1
    have hw := tK_w (b := b) hp.1.2.1 hp.2.2.2 hk.1 hk.2
    have h9 := hp.2.1.2.2.2.2 hk.1 hk.2
    have q11 : y3.toInt = 0 ↔ tK b n p = 139 := (lc_iff e3).trans (by rw [e2, h9, hw.1]; exact w8_kw hw.2 (i := 11) (by decide) (by decide +kernel))
    rcases hh with ⟨c3, e, -⟩ | ⟨c3, r5, G6, hm, hh⟩
    · subst e
      rw [q11.mp c3]
      rfl
    · have n139 : tK b n p ≠ 139 := fun w => c3 (q11.mpr w)
      clear q11 c3 e3 y3 e2 y2
      obtain ⟨rfl, m1, m2, m3, m4, m5⟩ := m_mark h9 hw.2 hm
      rw [← hw.1] at m1 m2 m3 m4 m5
      rcases hh with ⟨c5, y12, e12, y13, e13, hh⟩ | ⟨c5, r24, G25, hm2, hh⟩
      · have n4 : ¬ (140 ≤ tK b n p ∧ tK b n p ≤ 143) := by
          clear hh
          intro q
          have : tK b n p = 140 ∨ tK b n p = 141 ∨ tK b n p = 142 ∨ tK b n p = 143 := by omega
          rcases this with e | e | e | e
          · have := m1 e
            omega
          · have := m2 e
            omega
          · have := m3 e
            omega
          · have := m4 e
            omega
        clear m1 m2 m3 m4 m5
        have q19 : y13.toInt = 0 ↔ tK b n p = 147 := (lc_iff e13).trans (by rw [e12, h9, hw.1]; exact w8_kw hw.2 (i := 19) (by decide) (by decide +kernel))
        rcases hh with ⟨c13, e, -⟩ | ⟨c13, y15, e15, y16, e16, hh⟩
        · subst e
          rw [q19.mp c13]
          rfl
        have n147 : tK b n p ≠ 147 := fun w => c13 (q19.mpr w)
        have q20 : y16.toInt = 0 ↔ tK b n p = 148 := (lc_iff e16).trans (by rw [e15, h9, hw.1]; exact w8_kw hw.2 (i := 20) (by decide) (by decide +kernel))
        rcases hh with ⟨c16, e, -⟩ | ⟨c16, y18, e18, y19, e19, hh⟩
        · subst e
          rw [q20.mp c16]
          rfl
        have n148 : tK b n p ≠ 148 := fun w => c16 (q20.mpr w)
        have q21 : y19.toInt = 0 ↔ tK b n p = 149 := (lc_iff e19).trans (by rw [e18, h9, hw.1]; exact w8_kw hw.2 (i := 21) (by decide) (by decide +kernel))
        rcases hh with ⟨c19, e, -⟩ | ⟨c19, y21, e21, y22, e22, hh⟩
        · subst e
          rw [q21.mp c19]
          rfl
        have n149 : tK b n p ≠ 149 := fun w => c19 (q21.mpr w)
        have q22 : y22.toInt = 0 ↔ tK b n p = 150 := (lc_iff e22).trans (by rw [e21, h9, hw.1]; exact w8_kw hw.2 (i := 22) (by decide) (by decide +kernel))
        rcases hh with ⟨c22, e, -⟩ | ⟨c22, e, -⟩
        · subst e
          rw [q22.mp c22]
          rfl
        · have n150 : tK b n p ≠ 150 := fun w => c22 (q22.mpr w)
          subst e
          rw [ask_neg n139 (by clear q19 q20 q21 q22; omega) (by clear q19 q20 q21 q22; omega) (by clear q19 q20 q21 q22; omega) (by clear q19 q20 q21 q22; omega) n147 n148 n149 n150]
          rfl
      · obtain ⟨rfl, k1, k2, k3, k4, k5⟩ := m_mark h9 hw.2 hm2
        rw [← hw.1] at k1 k2 k3 k4 k5
        have hin : tK b n p = 140 ∨ tK b n p = 141 ∨ tK b n p = 142 ∨ tK b n p = 143 := by
          by_cases q : 140 ≤ tK b n p ∧ tK b n p ≤ 143
          · clear hh
            omega
          · have := m5 (by clear hh; omega)
            clear hh
            omega
        clear m1 m2 m3 m4 m5 k5
        rcases hh with ⟨c24, e, -⟩ | ⟨c24, r31, G32, hm3, hh⟩
        · subst e
          rcases hin with e | e | e | e
          · have := k1 e; omega
          · have := k2 e; omega
          · have := k3 e; omega
          · rw [e]; rfl
        · obtain ⟨rfl, l1, l2, l3, l4, l5⟩ := m_mark h9 hw.2 hm3
          rw [← hw.1] at l1 l2 l3 l4 l5
          rcases hh with ⟨c31, e, -⟩ | ⟨c31, r38, G39, hm4, e, -⟩
          · subst e
            rcases hin with e | e | e | e
            · have := l1 e; omega
            · have := l2 e; omega
            · rw [e]; rfl
            · have := l4 e; omega
          · obtain ⟨-, j1, j2, j3, j4, j5⟩ := m_mark h9 hw.2 hm4
            rw [← hw.1] at j1 j2 j3 j4 j5
            subst e
            rcases hin with e | e | e | e
            · rw [j1 e, e]; rfl
            · rw [j2 e, e]; rfl
            · have := l3 e; omega
            · have := k4 e; omega
  · subst e
    rw [ask_neg (by omega) (by omega) (by omega) (by omega) (by omega) (by omega) (by omega) (by omega) (by omega)]
    rfl
theorem m_sign {b : Nat → Int} {n p : Nat} {r : Int32} {G G1 : GS} (h : Q_signOf G r G1) (hp : MP b n G p) : G = G1 ∧ r.toInt = sig (tK b n p) := by
  obtain ⟨-, hF, -, -, r1, G2, hw1, hh⟩ := h
  refine ⟨hF.nil, ?_⟩
  obtain ⟨rfl, q17⟩ := m_isWord (i := 17) (by decide) (by decide +kernel) hw1 hp
  have hs := hp.so.2.2.2.2
  rcases hh with ⟨c1, r9, G10, hw2, hh⟩ | ⟨c1, e, -⟩
  · have n145 : tK b n p ≠ 145 := fun w => q17.mpr (by rw [w]; rfl) c1
    obtain ⟨rfl, q16⟩ := m_isWord (i := 16) (by decide) (by decide +kernel) hw2 hp
    rcases hh with ⟨c9, hh⟩ | ⟨c9, e, -⟩
    · have n144 : tK b n p ≠ 144 := fun w => q16.mpr (by rw [w]; rfl) c9
      clear q16 q17
      have a60 := hs 60 (by decide) (by decide)
      have a62 := hs 62 (by decide) (by decide)
      have a61 := hs 61 (by decide) (by decide)
      have a43 := hs 43 (by decide) (by decide)
      have a45 := hs 45 (by decide) (by decide)
      have a42 := hs 42 (by decide) (by decide)
      have a47 := hs 47 (by decide) (by decide)
      have a37 := hs 37 (by decide) (by decide)
      rcases hh with ⟨c, e, -⟩ | ⟨c, ⟨d, e, -⟩ | ⟨d, ⟨f, e, -⟩ | ⟨f, ⟨g, e, -⟩ | ⟨g, ⟨i, e, -⟩ | ⟨i, ⟨j, e, -⟩ | ⟨j, ⟨k, e, -⟩ | ⟨k, ⟨l, e, -⟩ | ⟨l, e, -⟩⟩⟩⟩⟩⟩⟩⟩
      · subst e; rw [c, a60.mp c]; rfl
      · subst e; rw [d, a62.mp d]; rfl
      · subst e; rw [f, a61.mp f]; rfl
      · subst e; rw [g, a43.mp g]; rfl
      · subst e; rw [i, a45.mp i]; rfl
      · subst e; rw [j, a42.mp j]; rfl
      · subst e; rw [k, a47.mp k]; rfl
      · subst e; rw [l, a37.mp l]; rfl
      · subst e
        have b1 := fun w => c (a60.mpr w)
        have b2 := fun w => d (a62.mpr w)
        have b3 := fun w => f (a61.mpr w)
        have b4 := fun w => g (a43.mpr w)
        have b5 := fun w => i (a45.mpr w)
        have b6 := fun w => j (a42.mpr w)
        have b7 := fun w => k (a47.mpr w)
        have b8 := fun w => l (a37.mpr w)
        unfold sig
        rw [if_neg n145, if_neg n144, if_neg (fun q => by rcases q with q | q | q | q | q | q | q | q; exact b1 q; exact b2 q; exact b3 q; exact b4 q; exact b5 q; exact b6 q; exact b7 q; exact b8 q)]
        rfl
    · have := q16.mp c9
      subst e
      rw [this]
      rfl
  · have := q17.mp c1
    subst e
    rw [this]
    rfl
