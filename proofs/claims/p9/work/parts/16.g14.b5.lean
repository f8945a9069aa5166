/-! what a text says: a machine by steps, and what it comes to -/
def itr {σ ω : Type} (st : σ → σ ⊕ ω) : Nat → σ → Option ω
  | 0, _ => none
  | k + 1, s => match st s with
    | .inr o => some o
    | .inl s' => itr st k s'
def Et {σ ω : Type} (st : σ → σ ⊕ ω) (s : σ) (o : ω) : Prop := ∃ k, itr st k s = some o
theorem Et_i {σ ω : Type} {st : σ → σ ⊕ ω} {s s' : σ} {o : ω} (h : st s = .inl s') : Et st s o ↔ Et st s' o := by
  refine ⟨fun ⟨k, hk⟩ => ?_, fun ⟨k, hk⟩ => ⟨k + 1, ?_⟩⟩
  · cases k with
    | zero => exact absurd hk (by simp [itr])
    | succ k =>
      rw [itr, h] at hk
      exact ⟨k, hk⟩
  · rw [itr, h]
    exact hk
theorem Et_r {σ ω : Type} {st : σ → σ ⊕ ω} {s : σ} {o o' : ω} (h : st s = .inr o') : Et st s o ↔ o' = o := by
  refine ⟨fun ⟨k, hk⟩ => ?_, fun e => ⟨1, ?_⟩⟩
  · cases k with
    | zero => exact absurd hk (by simp [itr])
    | succ k =>
      rw [itr, h] at hk
      exact Option.some.inj hk
  · rw [itr, h, e]
theorem Et_one {σ ω : Type} {st : σ → σ ⊕ ω} {s : σ} {o o' : ω} (h : Et st s o) (h' : Et st s o') : o = o' := by
  obtain ⟨k, hk⟩ := h
  obtain ⟨k', hk'⟩ := h'
  have key : ∀ (k k' : Nat) (s : σ), itr st k s = some o → itr st k' s = some o' → o = o' := by
    intro k
    induction k with
    | zero => intro k' s h1; exact absurd h1 (by simp [itr])
    | succ k ih =>
      intro k' s h1 h2
      cases k' with
      | zero => exact absurd h2 (by simp [itr])
      | succ k' =>
        rw [itr] at h1 h2
        cases hs : st s with
        | inr v =>
          rw [hs] at h1 h2
          exact (Option.some.inj h1).symm.trans (Option.some.inj h2)
        | inl v =>
          rw [hs] at h1 h2
          exact ih k' v h1 h2
  exact key k k' s hk hk'
noncomputable def run {σ ω : Type} (st : σ → σ ⊕ Rs ω) (s : σ) : Rs ω := @Classical.epsilon (Rs ω) ⟨.inl (0, 0)⟩ (fun o => Et st s o)
theorem run_eq {σ ω : Type} {st : σ → σ ⊕ Rs ω} {s : σ} {o : Rs ω} (h : Et st s o) : run st s = o := Et_one (Classical.epsilon_spec (p := fun o => Et st s o) ⟨o, h⟩) h
noncomputable def evF (b : Nat → Int) (n : Nat) (w : Int) (p : Nat) : FO := @Classical.epsilon FO ⟨.inl (0, 0)⟩ (fun o => Ev b n (true, p, [], [], 0, w) o)
theorem evF_eq {b : Nat → Int} {n : Nat} {w : Int} {p : Nat} {o : FO} (h : Ev b n (true, p, [], [], 0, w) o) : evF b n w p = o := Ev_one (Classical.epsilon_spec (p := fun o => Ev b n (true, p, [], [], 0, w) o) ⟨o, h⟩) h
noncomputable def pForm (b : Nat → Int) (n : Nat) (w : Int) (p : Nat) : Rs (List (Int × Int) × Int) := match evF b n w p with
  | .inl f => .inl f
  | .inr (p', C, _, w') => .inr ((C, w'), p')
theorem pForm_l {b : Nat → Int} {n : Nat} {w : Int} {p : Nat} {f : Int × Int} (h : Ev b n (true, p, [], [], 0, w) (.inl f)) : pForm b n w p = .inl f := by
  unfold pForm
  rw [evF_eq h]
theorem pForm_r {b : Nat → Int} {n : Nat} {w : Int} {p p' : Nat} {C : List (Int × Int)} {u w' : Int} (h : Ev b n (true, p, [], [], 0, w) (.inr (p', C, u, w'))) : pForm b n w p = .inr ((C, w'), p') := by
  unfold pForm
  rw [evF_eq h]
/-- the code so far only stands ahead -/
theorem clo_pre (L : Int) (X : List (Int × Int)) : ∀ (S : List Int) (C : List (Int × Int)), clo L S (X ++ C) = ((clo L S C).1, X ++ (clo L S C).2)
  | [], C => rfl
  | o :: S, C => by
    rw [clo, clo]
    by_cases h : o ≠ 20 ∧ L ≤ tgt o
    · rw [if_pos h, if_pos h, List.append_assoc, clo_pre L X S]
    · rw [if_neg h, if_neg h]
def preS (X : List (Int × Int)) (s : FS) : FS := (s.1, s.2.1, s.2.2.1, X ++ s.2.2.2.1, s.2.2.2.2)
def preO (X : List (Int × Int)) : FO → FO
  | .inl f => .inl f
  | .inr o => .inr (o.1, X ++ o.2.1, o.2.2)
def preR (X : List (Int × Int)) : FS ⊕ FO → FS ⊕ FO
  | .inl s => .inl (preS X s)
  | .inr o => .inr (preO X o)
theorem syB_pre {b : Nat → Int} {n p : Nat} {S : List Int} {u w : Int} (X C : List (Int × Int)) : syB b n p S (X ++ C) u w = preR X (syB b n p S C u w) := by
  unfold syB
  by_cases h1 : tK b n p = 146 ∧ mno S = true
  · rw [if_pos h1, if_pos h1]
    by_cases h2 : 6 < dps S
    · rw [if_pos h2, if_pos h2]
      rfl
    · rw [if_neg h2, if_neg h2]
      rfl
  · rw [if_neg h1, if_neg h1]
    by_cases h2 : tK b n p = 40
    · rw [if_pos h2, if_pos h2]
      by_cases h3 : (w = 90 ∨ u = 30) ∨ 6 < dps S
      · rw [if_pos h3, if_pos h3]
        rfl
      · rw [if_neg h3, if_neg h3]
        rfl
    · rw [if_neg h2, if_neg h2]
      by_cases h3 : (tK b n p ≠ 201 ∧ ask (tK b n p) < 0) ∨ (w = 90 ∨ u = 30)
      · rw [if_pos h3, if_pos h3]
        rfl
      · rw [if_neg h3, if_neg h3, List.append_assoc]
        rfl
theorem syA_pre {b : Nat → Int} {n p : Nat} {S : List Int} {u w : Int} (X C : List (Int × Int)) : syA b n p S (X ++ C) u w = preR X (syA b n p S C u w) := by
  unfold syA
  rw [clo_pre, clo_pre]
  by_cases h1 : tK b n p = 41 ∧ 20 ∈ S
  · rw [if_pos h1, if_pos h1]
    rfl
  · rw [if_neg h1, if_neg h1]
    by_cases h2 : sig (tK b n p) ≠ 0 ∧ ¬ (tgt (sig (tK b n p)) = 4 ∧ hrl S = true)
    · rw [if_pos h2, if_pos h2]
      rfl
    · rw [if_neg h2, if_neg h2]
      by_cases h3 : (20 : Int) ∈ S
      · rw [if_pos h3, if_pos h3]
        rfl
      · rw [if_neg h3, if_neg h3]
        rfl
theorem sy_pre {b : Nat → Int} {n : Nat} (X : List (Int × Int)) (s : FS) : sy b n (preS X s) = preR X (sy b n s) := by
  obtain ⟨m, p, S, C, u, w⟩ := s
  unfold sy preS
  cases m with
  | true => exact syB_pre X C
  | false => exact syA_pre X C
theorem itn_pre {b : Nat → Int} {n : Nat} (X : List (Int × Int)) : ∀ (k : Nat) (s : FS), itn b n k (preS X s) = (itn b n k s).map (preO X)
  | 0, _ => rfl
  | k + 1, s => by
    rw [itn, itn, sy_pre]
    cases sy b n s with
    | inr o => rfl
    | inl s' => exact itn_pre X k s'
/-- what holds with code ahead holds without, the code ahead of what comes out -/
theorem Ev_pre {b : Nat → Int} {n p : Nat} {X : List (Int × Int)} {w : Int} {o : FO} (h : Ev b n (true, p, [], X, 0, w) o) : ∃ o', Ev b n (true, p, [], [], 0, w) o' ∧ o = preO X o' := by
  obtain ⟨k, hk⟩ := h
  have h1 := itn_pre (b := b) (n := n) X k (true, p, [], [], 0, w)
  have e : preS X (true, p, [], [], 0, w) = (true, p, [], X, 0, w) := by
    unfold preS
    simp
  rw [e, hk] at h1
  cases h2 : itn b n k (true, p, [], [], 0, w) with
  | none =>
    rw [h2] at h1
    exact absurd h1 (by simp)
  | some o' =>
    rw [h2] at h1
    exact ⟨o', ⟨k, h2⟩, Option.some.inj h1⟩
/-! SLABS -/
def mkw (k : Int) : Int32 := if k = 140 then 1 else if k = 141 then 2 else if k = 142 then 4 else 8
def mkS (b : Nat → Int) (n : Nat) (s : Int32 × Nat) : (Int32 × Nat) ⊕ Rs Int32 := if 140 ≤ tK b n s.2 ∧ tK b n s.2 ≤ 143 then (if (s.1 &&& mkw (tK b n s.2)).toInt ≠ 0 then .inr (.inl (fl b n 2 s.2)) else .inl (s.1 ||| mkw (tK b n s.2), tNx b n s.2)) else .inr (.inr s)
noncomputable def pMk (b : Nat → Int) (n p : Nat) : Rs Int32 := run (mkS b n) (0, p)
def rmx (r : Int) : Int := if 60 ≤ r then 60 else r
def ahd (J : Int) (nth : Nat) : Int := if nth = 0 then 0 else J
noncomputable def pSlab (b : Nat → Int) (n : Nat) (J : Int) (nth len p : Nat) : Rs (Int × Int32) := bnd (pNum b n 1 (rmx (400 - (len : Int) - ahd J nth)) p) fun v q => bnd (pMk b n q) fun m q' => .inr ((v, m), q')
abbrev IC : Type := Int × Int × Int × Int
def layI (m nth wide : Int) : List IC := (List.range wide.toNat).map fun (k : Nat) => (m, nth, (k : Int), wide)
theorem layI_len {m nth wide : Int} : (layI m nth wide).length = wide.toNat := by simp [layI]
theorem layI_get {m nth wide : Int} {k : Nat} {d : IC} (h : k < wide.toNat) : (layI m nth wide).getD k d = (m, nth, (k : Int), wide) := by
  unfold layI
  simp [List.getD_eq_getElem?_getD, h]
theorem layI_0 {m nth wide : Int} (h : wide ≤ 0) : layI m nth wide = [] := by
  unfold layI
  rw [Int.toNat_of_nonpos h]
  rfl
def slI (J : Int) (nth : Nat) (vx : Int × Int32) : List IC := layI (-1) ((nth : Int) - 1) (ahd J nth) ++ layI vx.2.toInt (nth : Int) vx.1
noncomputable def slS (b : Nat → Int) (n : Nat) (J : Int) (s : Nat × List IC × Nat) : (Nat × List IC × Nat) ⊕ Rs (List IC) := if s.1 = 0 ∨ tK b n s.2.2 = 201 then (match pSlab b n J s.1 s.2.1.length s.2.2 with
  | .inl f => .inr (.inl f)
  | .inr (vx, q) => .inl (s.1 + 1, s.2.1 ++ slI J s.1 vx, q)) else .inr (.inr s.2)
noncomputable def pSls (b : Nat → Int) (n : Nat) (J : Int) (p : Nat) : Rs (List IC) := run (slS b n J) (0, [], p)
/-! lines -/
noncomputable def pStreet (b : Nat → Int) (n : Nat) (NS : List (List Int)) (p : Nat) : Rs (List Int × List IC) := bnd (pName b n NS (tNx b n p)) fun L q => bnd (pKw b n 139 q) fun _ q => bnd (pNum b n 0 9 q) fun J q => bnd (pSls b n J q) fun I q => .inr ((L, I), q)
abbrev WK : Type := Int × Int × Int × Int
def pWalker (b : Nat → Int) (n : Nat) (NS : List (List Int)) (p : Nat) : Rs (List Int × WK) := bnd (pName b n NS (tNx b n p)) fun L q => bnd (pKw b n 130 q) fun _ q => bnd (pNum b n 1 12 q) fun f q => bnd (pKw b n 131 q) fun _ q => bnd (pNum b n 1 60 q) fun l q => bnd (pKw b n 132 q) fun _ q => bnd (pNum b n l 60 q) fun m q => if tK b n q = 133 then bnd (pNum b n (m + 1) 99 (tNx b n q)) fun v q => .inr ((L, f, l, m, v), q) else .inr ((L, f, l, m, m), q)
def pSlip (b : Nat → Int) (n p : Nat) : Rs (Int × Int × Int) := bnd (pNum b n 0 9 (tNx b n p)) fun x q => bnd (pNum b n 0 9 q) fun y q => bnd (pNum b n (if x + y = 0 then 1 else 0) 9 q) fun z q => .inr ((x, y, z), q)
def pHand (b : Nat → Int) (n p : Nat) : Rs (Int × Int) := bnd (pNum b n 1 99 (tNx b n p)) fun x q => bnd (pKw b n 137 q) fun _ q => bnd (pNum b n 0 99 q) fun y q => .inr ((x, y), q)
def pDraw (b : Nat → Int) (n p : Nat) : Rs Int := pNum b n 0 999 (tNx b n p)
noncomputable def pRule (b : Nat → Int) (n : Nat) (NS : List (List Int)) (w : Int) (p : Nat) : Rs (List Int × List (Int × Int) × Int) := bnd (pName b n NS (tNx b n p)) fun L q => bnd (pForm b n w q) fun x q => .inr ((L, x.1, x.2), q)
abbrev VS : Type := List (List Int × List IC)
abbrev VW : Type := List (List Int × WK)
abbrev VR : Type := List (List Int × List (Int × Int))
abbrev PV : Type := VS × VW × VR × Int × Option (Int × Int × Int) × Option (Int × Int) × Option Int
def nms {α : Type} (L : List (List Int × α)) : List (List Int) := L.map (fun x => x.1)
theorem nms_len {α : Type} {L : List (List Int × α)} : (nms L).length = L.length := by simp [nms]
theorem nms_snoc {α : Type} {L : List (List Int × α)} {x : List Int × α} : nms (L ++ [x]) = nms L ++ [x.1] := by simp [nms]
noncomputable def pLine (b : Nat → Int) (n : Nat) (V : PV) (p : Nat) : Rs PV :=
  if tK b n p = 128 ∧ V.1.length < 3 then bnd (pStreet b n (nms V.1) p) fun x q => .inr ((V.1 ++ [x], V.2), q)
  else if tK b n p = 129 ∧ V.2.1.length < 4 then bnd (pWalker b n (nms V.2.1) p) fun x q => .inr ((V.1, V.2.1 ++ [x], V.2.2), q)
  else if tK b n p = 134 ∧ V.2.2.1.length < 6 then bnd (pRule b n (nms V.2.2.1) V.2.2.2.1 p) fun x q => .inr ((V.1, V.2.1, V.2.2.1 ++ [(x.1, x.2.1)], x.2.2, V.2.2.2.2), q)
  else if tK b n p = 135 ∧ V.2.2.2.2.1.isNone = true then bnd (pSlip b n p) fun x q => .inr ((V.1, V.2.1, V.2.2.1, V.2.2.2.1, some x, V.2.2.2.2.2), q)
  else if tK b n p = 136 ∧ V.2.2.2.2.2.1.isNone = true then bnd (pHand b n p) fun x q => .inr ((V.1, V.2.1, V.2.2.1, V.2.2.2.1, V.2.2.2.2.1, some x, V.2.2.2.2.2.2), q)
  else if tK b n p = 138 ∧ V.2.2.2.2.2.2.isNone = true then bnd (pDraw b n p) fun x q => .inr ((V.1, V.2.1, V.2.2.1, V.2.2.2.1, V.2.2.2.2.1, V.2.2.2.2.2.1, some x), q)
  else .inl (fl b n 2 p)
noncomputable def pLn (b : Nat → Int) (n : Nat) (V : PV) (p : Nat) : Rs PV := bnd (pLine b n V p) fun V q => bnd (pKw b n 59 q) fun _ q => .inr (V, q)
noncomputable def topS (b : Nat → Int) (n : Nat) (s : PV × Nat) : (PV × Nat) ⊕ Rs PV := if tK b n s.2 = 203 then .inr (.inr s) else match pLn b n s.1 s.2 with
  | .inl f => .inr (.inl f)
  | .inr s' => .inl s'
def V0 : PV := ([], [], [], 0, none, none, none)
noncomputable def parse (b : Nat → Int) (n : Nat) : Rs PV := run (topS b n) (V0, 0)
theorem bnd_l {α β : Type} {o : Rs α} {f : Int × Int} {k : α → Nat → Rs β} (h : o = .inl f) : bnd o k = .inl f := by subst h; rfl
theorem bnd_r {α β : Type} {o : Rs α} {v : α} {q : Nat} {k : α → Nat → Rs β} (h : o = .inr (v, q)) : bnd o k = k v q := by subst h; rfl
theorem slS_l {b : Nat → Int} {n : Nat} {J : Int} {nth p : Nat} {I : List IC} {f : Int × Int} (hc : nth = 0 ∨ tK b n p = 201) (h : pSlab b n J nth I.length p = .inl f) : slS b n J (nth, I, p) = .inr (.inl f) := by
  unfold slS
  rw [if_pos hc]
  have h' : pSlab b n J (nth, I, p).1 (nth, I, p).2.1.length (nth, I, p).2.2 = .inl f := h
  rw [h']
theorem slS_r {b : Nat → Int} {n : Nat} {J : Int} {nth p q : Nat} {I : List IC} {vx : Int × Int32} (hc : nth = 0 ∨ tK b n p = 201) (h : pSlab b n J nth I.length p = .inr (vx, q)) : slS b n J (nth, I, p) = .inl (nth + 1, I ++ slI J nth vx, q) := by
  unfold slS
  rw [if_pos hc]
  have h' : pSlab b n J (nth, I, p).1 (nth, I, p).2.1.length (nth, I, p).2.2 = .inr (vx, q) := h
  rw [h']
