/-! formulas, by a stack of signs that wait, over places -/
def tgt (o : Int) : Int := if o = 124 then 1 else if o = 38 then 2 else if o = 21 then 3 else if o = 60 ∨ o = 62 ∨ o = 61 then 4 else if o = 43 ∨ o = 45 then 5 else 6
def cdo (o : Int) : Int × Int := if o = 21 then (2, 0) else (3, o)
def clo (least : Int) : List Int → List (Int × Int) → List Int × List (Int × Int)
  | [], C => ([], C)
  | o :: S, C => if o ≠ 20 ∧ least ≤ tgt o then clo least S (C ++ [cdo o]) else (o :: S, C)
def hrl : List Int → Bool
  | [] => false
  | o :: S => if o = 20 then false else if 4 < tgt o then hrl S else decide (tgt o = 4)
def mno : List Int → Bool
  | [] => true
  | o :: _ => decide (o = 20 ∨ tgt o < 4)
def dps : List Int → Nat
  | [] => 0
  | o :: S => if o = 20 ∨ o = 21 then dps S + 1 else dps S
def sig (k : Int) : Int := if k = 145 then 38 else if k = 144 then 124 else if k = 60 ∨ k = 62 ∨ k = 61 ∨ k = 43 ∨ k = 45 ∨ k = 42 ∨ k = 47 ∨ k = 37 then k else 0
def ask (k : Int) : Int := if k = 139 then 0 else if k = 140 then 1 else if k = 141 then 2 else if k = 142 then 3 else if k = 143 then 4 else if k = 147 then 5 else if k = 148 then 6 else if k = 149 then 7 else if k = 150 then 8 else -1
abbrev FS : Type := Bool × Nat × List Int × List (Int × Int) × Int × Int
abbrev FO : Type := (Int × Int) ⊕ (Nat × List (Int × Int) × Int × Int)
def syB (b : Nat → Int) (n : Nat) (p : Nat) (S : List Int) (C : List (Int × Int)) (u w : Int) : FS ⊕ FO :=
  if tK b n p = 146 ∧ mno S = true then (if 6 < dps S then .inr (.inl (fl b n 2 p)) else .inl (true, tNx b n p, 21 :: S, C, u, w))
  else if tK b n p = 40 then (if (w = 90 ∨ u = 30) ∨ 6 < dps S then .inr (.inl (fl b n 2 p)) else .inl (true, tNx b n p, 20 :: S, C, u + 1, w + 1))
  else if (tK b n p ≠ 201 ∧ ask (tK b n p) < 0) ∨ (w = 90 ∨ u = 30) then .inr (.inl (fl b n 2 p))
  else .inl (false, tNx b n p, S, C ++ [if ask (tK b n p) < 0 then (0, tV b n p) else (1, ask (tK b n p))], u + 1, w + 1)
def syA (b : Nat → Int) (n : Nat) (p : Nat) (S : List Int) (C : List (Int × Int)) (u w : Int) : FS ⊕ FO :=
  if tK b n p = 41 ∧ 20 ∈ S then .inl (false, tNx b n p, (clo 0 S C).1.tail, (clo 0 S C).2, u, w)
  else if sig (tK b n p) ≠ 0 ∧ ¬ (tgt (sig (tK b n p)) = 4 ∧ hrl S = true) then .inl (true, tNx b n p, sig (tK b n p) :: (clo (tgt (sig (tK b n p))) S C).1, (clo (tgt (sig (tK b n p))) S C).2, u, w)
  else if 20 ∈ S then .inr (.inl (fl b n 2 p)) else .inr (.inr (p, (clo 0 S C).2, u, w))
def sy (b : Nat → Int) (n : Nat) (s : FS) : FS ⊕ FO := if s.1 = true then syB b n s.2.1 s.2.2.1 s.2.2.2.1 s.2.2.2.2.1 s.2.2.2.2.2 else syA b n s.2.1 s.2.2.1 s.2.2.2.1 s.2.2.2.2.1 s.2.2.2.2.2
def itn (b : Nat → Int) (n : Nat) : Nat → FS → Option FO
  | 0, _ => none
  | k + 1, s => match sy b n s with
    | .inr o => some o
    | .inl s' => itn b n k s'
def Ev (b : Nat → Int) (n : Nat) (s : FS) (o : FO) : Prop := ∃ k, itn b n k s = some o
theorem Ev_i {b : Nat → Int} {n : Nat} {s s' : FS} {o : FO} (h : sy b n s = .inl s') : Ev b n s o ↔ Ev b n s' o := by
  refine ⟨fun ⟨k, hk⟩ => ?_, fun ⟨k, hk⟩ => ⟨k + 1, ?_⟩⟩
  · cases k with
    | zero => exact absurd hk (by simp [itn])
    | succ k =>
      rw [itn, h] at hk
      exact ⟨k, hk⟩
  · rw [itn, h]
    exact hk
theorem Ev_r {b : Nat → Int} {n : Nat} {s : FS} {o o' : FO} (h : sy b n s = .inr o') : Ev b n s o ↔ o' = o := by
  refine ⟨fun ⟨k, hk⟩ => ?_, fun e => ⟨1, ?_⟩⟩
  · cases k with
    | zero => exact absurd hk (by simp [itn])
    | succ k =>
      rw [itn, h] at hk
      exact Option.some.inj hk
  · rw [itn, h, e]
theorem Ev_B {b : Nat → Int} {n p : Nat} {S : List Int} {C : List (Int × Int)} {u w : Int} {s' : FS} {o : FO} (h : syB b n p S C u w = .inl s') : Ev b n (true, p, S, C, u, w) o ↔ Ev b n s' o := Ev_i h
theorem Ev_Br {b : Nat → Int} {n p : Nat} {S : List Int} {C : List (Int × Int)} {u w : Int} {o' o : FO} (h : syB b n p S C u w = .inr o') : Ev b n (true, p, S, C, u, w) o ↔ o' = o := Ev_r h
theorem Ev_A {b : Nat → Int} {n p : Nat} {S : List Int} {C : List (Int × Int)} {u w : Int} {s' : FS} {o : FO} (h : syA b n p S C u w = .inl s') : Ev b n (false, p, S, C, u, w) o ↔ Ev b n s' o := Ev_i h
theorem Ev_Ar {b : Nat → Int} {n p : Nat} {S : List Int} {C : List (Int × Int)} {u w : Int} {o' o : FO} (h : syA b n p S C u w = .inr o') : Ev b n (false, p, S, C, u, w) o ↔ o' = o := Ev_r h
/-- T: signs that wait, none a bracket, all as tight as L at least -/
def TL (L : Int) (T : List Int) : Prop := ∀ x ∈ T, x ≠ 20 ∧ L ≤ tgt x
/-- a stack whose head, if it is no bracket, is less tight than L -/
def Hd (L : Int) (S : List Int) : Prop := ∀ o S', S = o :: S' → o = 20 ∨ tgt o < L
theorem TL.le {L L' : Int} {T : List Int} (h : TL L T) (hl : L' ≤ L) : TL L' T := fun x hx => ⟨(h x hx).1, by have := (h x hx).2; omega⟩
theorem TL.app {L : Int} {T T' : List Int} (h : TL L T) (h' : TL L T') : TL L (T ++ T') := fun x hx => (List.mem_append.mp hx).elim (h x) (h' x)
theorem TL_nil {L : Int} : TL L [] := fun x hx => absurd hx (by simp)
theorem TL_one {L x : Int} (h1 : x ≠ 20) (h2 : L ≤ tgt x) : TL L [x] := fun y hy => by
  rw [List.mem_singleton] at hy
  subst hy
  exact ⟨h1, h2⟩
theorem Hd.le {L L' : Int} {S : List Int} (h : Hd L S) (hl : L ≤ L') : Hd L' S := fun o S' e => (h o S' e).imp id (fun q => by omega)
theorem Hd_cons {L o : Int} {S : List Int} (h : o = 20 ∨ tgt o < L) : Hd L (o :: S) := fun o' S' e => by
  obtain ⟨rfl, -⟩ := List.cons.inj e
  exact h
theorem clo_app {L : Int} : ∀ (T S : List Int) (C : List (Int × Int)), TL L T → Hd L S → clo L (T ++ S) C = (S, C ++ T.map cdo)
  | [], S, C, _, hS => by
    cases S with
    | nil => simp [clo]
    | cons o S =>
      rw [List.nil_append, clo, if_neg, List.map_nil, List.append_nil]
      intro q
      rcases hS o S rfl with h | h
      · exact q.1 h
      · omega
  | x :: T, S, C, hT, hS => by
    rw [List.cons_append, clo, if_pos (hT x (by simp)), clo_app T S _ (fun y hy => hT y (by simp [hy])) hS, List.map_cons, List.append_assoc]
    rfl
theorem hrl_off {T S : List Int} (hT : TL 5 T) (hS : Hd 4 S) : hrl (T ++ S) = false := by
  induction T with
  | nil =>
    cases S with
    | nil => rfl
    | cons o S =>
      rw [List.nil_append, hrl]
      rcases hS o S rfl with h | h
      · rw [if_pos h]
      · by_cases h2 : o = 20
        · rw [if_pos h2]
        · rw [if_neg h2, if_neg (by omega)]
          exact decide_eq_false (by omega)
  | cons x T ih =>
    have hx := hT x (by simp)
    rw [List.cons_append, hrl, if_neg hx.1, if_pos (by omega)]
    exact ih (fun y hy => hT y (by simp [hy]))
theorem hrl_app {T : List Int} (h : hrl T = true) (S : List Int) : hrl (T ++ S) = true := by
  induction T with
  | nil => exact absurd h (by simp [hrl])
  | cons x T ih =>
    rw [hrl] at h
    rw [List.cons_append, hrl]
    by_cases h1 : x = 20
    · rw [if_pos h1] at h
      exact absurd h (by simp)
    · rw [if_neg h1] at h ⊢
      by_cases h2 : 4 < tgt x
      · rw [if_pos h2] at h ⊢
        exact ih h
      · rw [if_neg h2] at h ⊢
        exact h
theorem hrl_on {T : List Int} {x : Int} (hT : TL 5 T) (h1 : x ≠ 20) (h2 : tgt x = 4) : hrl (T ++ [x]) = true := by
  induction T with
  | nil =>
    rw [List.nil_append, hrl, if_neg h1, if_neg (by omega)]
    exact decide_eq_true h2
  | cons y T ih =>
    have hy := hT y (by simp)
    rw [List.cons_append, hrl, if_neg hy.1, if_pos (by omega)]
    exact ih (fun z hz => hT z (by simp [hz]))
theorem mno_hd {S : List Int} : mno S = true ↔ Hd 4 S := by
  cases S with
  | nil => exact ⟨fun _ o S' e => absurd e (by simp), fun _ => rfl⟩
  | cons o S =>
    rw [mno, decide_eq_true_iff]
    refine ⟨fun h => Hd_cons h, fun h => h o S rfl⟩
theorem dps_app (T S : List Int) : dps (T ++ S) = dps T + dps S := by
  induction T with
  | nil => simp [dps]
  | cons x T ih =>
    rw [List.cons_append, dps, dps, ih]
    split <;> omega
/-- behind a piece of level L no sign stands that it would have taken -/
def NC (b : Nat → Int) (n : Nat) (L : Int) (p : Nat) (T : List Int) : Prop := (L ≤ 6 → tK b n p ≠ 42 ∧ tK b n p ≠ 47 ∧ tK b n p ≠ 37) ∧ (L ≤ 5 → tK b n p ≠ 43 ∧ tK b n p ≠ 45) ∧ (L ≤ 4 → tK b n p = 60 ∨ tK b n p = 62 ∨ tK b n p = 61 → hrl T = true) ∧ (L ≤ 2 → tK b n p ≠ 145) ∧ (L ≤ 1 → tK b n p ≠ 144)
/-- what a piece of level L at a place means: from there the stack goes to a place behind it, with signs that wait -/
def Ok (b : Nat → Int) (n : Nat) (L : Int) (d p : Nat) (S : List Int) : Prop := Hd (if L = 3 then 4 else L) S ∧ (5 ≤ L → tK b n p = 146 → mno S = false) ∧ dps S = d
def Lx (b : Nat → Int) (n : Nat) (L N : Int) (d p p' : Nat) (C C' : List (Int × Int)) (u u' w w' : Int) : Prop := p < p' ∧ ∃ (T : List Int) (Cp : List (Int × Int)), TL L T ∧ C' = Cp ++ T.map cdo ∧ NC b n N p' T ∧ ∀ S, Ok b n L d p S → ∀ o, Ev b n (false, p', T ++ S, Cp, u', w') o → Ev b n (true, p, S, C, u, w) o
def Lv (b : Nat → Int) (n : Nat) (L : Int) (d p p' : Nat) (C C' : List (Int × Int)) (u u' w w' : Int) : Prop := Lx b n L L d p p' C C' u u' w w'
def Lf (b : Nat → Int) (n : Nat) (L : Int) (d p : Nat) (C : List (Int × Int)) (u w : Int) (f : Int × Int) : Prop := ∀ S, Ok b n L d p S → Ev b n (true, p, S, C, u, w) (.inl f)
theorem tgt_r (o : Int) : 1 ≤ tgt o ∧ tgt o ≤ 6 := by
  unfold tgt
  split
  · omega
  · split
    · omega
    · split
      · omega
      · split
        · omega
        · split <;> omega
