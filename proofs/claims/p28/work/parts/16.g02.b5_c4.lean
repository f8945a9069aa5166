/-! what a text says: a machine by steps, and what it comes to -/
def itr {σ ω : Type} (st : σ → σ ⊕ ω) : Nat → σ → Option ω
  | 0, _ => none
  | k + 1, s => match st s with
    | .inr o => some o
    | .inl s' => itr st k s'
def Et {σ ω : Type} (st : σ → σ ⊕ ω) (s : σ) (o : ω) : Prop := ∃ k, itr st k s = some o
theorem Et_i {σ ω : Type} {st : σ → σ ⊕ ω} {s s' : σ} {o : ω} (h : st s = .inl s') : Et st s o ↔ Et st s' o := by
  refine ⟨fun ⟨k, hk⟩ => ?_, fun ⟨k, hk⟩ => ⟨k + 1, ?_⟩⟩
  · cases k with
    | zero => exact absurd hk (by simp [itr])
    | succ k =>
      rw [itr, h] at hk
      exact ⟨k, hk⟩
  · rw [itr, h]
    exact hk
theorem Et_r {σ ω : Type} {st : σ → σ ⊕ ω} {s : σ} {o o' : ω} (h : st s = .inr o') : Et st s o ↔ o' = o := by
  refine ⟨fun ⟨k, hk⟩ => ?_, fun e => ⟨1, ?_⟩⟩
  · cases k with
    | zero => exact absurd hk (by simp [itr])
    | succ k =>
      rw [itr, h] at hk
      exact Option.some.inj hk
  · rw [itr, h, e]
theorem Et_one {σ ω : Type} {st : σ → σ ⊕ ω} {s : σ} {o o' : ω} (h : Et st s o) (h' : Et st s o') : o = o' := by
  obtain ⟨k, hk⟩ := h
  obtain ⟨k', hk'⟩ := h'
  have key : ∀ (k k' : Nat) (s : σ), itr st k s = some o → itr st k' s = some o' → o = o' := by
    intro k
    induction k with
    | zero => intro k' s h1; exact absurd h1 (by simp [itr])
    | succ k ih =>
      intro k' s h1 h2
      cases k' with
      | zero => exact absurd h2 (by simp [itr])
      | succ k' =>
        rw [itr] at h1 h2
        cases hs : st s with
        | inr v =>
          rw [hs] at h1 h2
          exact (Option.some.inj h1).symm.trans (Option.some.inj h2)
        | inl v =>
          rw [hs] at h1 h2
          exact ih k' v h1 h2
  exact key k k' s hk hk'
noncomputable def run {σ ω : Type} (st : σ → σ ⊕ Rs ω) (s : σ) : Rs ω := @Classical.epsilon (Rs ω) ⟨.inl (0, 0)⟩ (fun o => Et st s o)
theorem run_eq {σ ω : Type} {st : σ → σ ⊕ Rs ω} {s : σ} {o : Rs ω} (h : Et st s o) : run st s = o := Et_one (Classical.epsilon_spec (p := fun o => Et st s o) ⟨o, h⟩) h
noncomputable def evF (b : Nat → Int) (n : Nat) (w : Int) (p : Nat) : FO := @Classical.epsilon FO ⟨.inl (0, 0)⟩ (fun o => Ev b n (true, p, [], [], 0, w) o)
theorem evF_eq {b : Nat → Int} {n : Nat} {w : Int} {p : Nat} {o : FO} (h : Ev b n (true, p, [], [], 0, w) o) : evF b n w p = o := Ev_one (Classical.epsilon_spec (p := fun o => Ev b n (true, p, [], [], 0, w) o) ⟨o, h⟩) h
noncomputable def pForm (b : Nat → Int) (n : Nat) (w : Int) (p : Nat) : Rs (List (Int × Int) × Int) := match evF b n w p with
  | .inl f => .inl f
  | .inr (p', C, _, w') => .inr ((C, w'), p')
theorem pForm_l {b : Nat → Int} {n : Nat} {w : Int} {p : Nat} {f : Int × Int} (h : Ev b n (true, p, [], [], 0, w) (.inl f)) : pForm b n w p = .inl f := by
  unfold pForm
  rw [evF_eq h]
theorem pForm_r {b : Nat → Int} {n : Nat} {w : Int} {p p' : Nat} {C : List (Int × Int)} {u w' : Int} (h : Ev b n (true, p, [], [], 0, w) (.inr (p', C, u, w'))) : pForm b n w p = .inr ((C, w'), p') := by
  unfold pForm
  rw [evF_eq h]
/-- the code so far only stands ahead -/
theorem clo_pre (L : Int) (X : List (Int × Int)) : ∀ (S : List Int) (C : List (Int × Int)), clo L S (X ++ C) = ((clo L S C).1, X ++ (clo L S C).2)
  | [], C => rfl
  | o :: S, C => by
    rw [clo, clo]
    by_cases h : o ≠ 20 ∧ L ≤ tgt o
    · rw [if_pos h, if_pos h, List.append_assoc, clo_pre L X S]
    · rw [if_neg h, if_neg h]
def preS (X : List (Int × Int)) (s : FS) : FS := (s.1, s.2.1, s.2.2.1, X ++ s.2.2.2.1, s.2.2.2.2)
def preO (X : List (Int × Int)) : FO → FO
  | .inl f => .inl f
  | .inr o => .inr (o.1, X ++ o.2.1, o.2.2)
def preR (X : List (Int × Int)) : FS ⊕ FO → FS ⊕ FO
  | .inl s => .inl (preS X s)
  | .inr o => .inr (preO X o)
theorem syB_pre {b : Nat → Int} {n p : Nat} {S : List Int} {u w : Int} (X C : List (Int × Int)) : syB b n p S (X ++ C) u w = preR X (syB b n p S C u w) := by
  unfold syB
  by_cases h1 : tK b n p = 146 ∧ mno S = true
  · rw [if_pos h1, if_pos h1]
    by_cases h2 : 6 < dps S
    · rw [if_pos h2, if_pos h2]
      rfl
    · rw [if_neg h2, if_neg h2]
      rfl
  · rw [if_neg h1, if_neg h1]
    by_cases h2 : tK b n p = 40
    · rw [if_pos h2, if_pos h2]
      by_cases h3 : (w = 90 ∨ u = 30) ∨ 6 < dps S
      · rw [if_pos h3, if_pos h3]
        rfl
      · rw [if_neg h3, if_neg h3]
        rfl
    · rw [if_neg h2, if_neg h2]
      by_cases h3 : (tK b n p ≠ 201 ∧ ask (tK b n p) < 0) ∨ (w = 90 ∨ u = 30)
      · rw [if_pos h3, if_pos h3]
        rfl
      · rw [if_neg h3, if_neg h3, List.append_assoc]
        rfl
theorem syA_pre {b : Nat → Int} {n p : Nat} {S : List Int} {u w : Int} (X C : List (Int × Int)) : syA b n p S (X ++ C) u w = preR X (syA b n p S C u w) := by
  unfold syA
  rw [clo_pre, clo_pre]
  by_cases h1 : tK b n p = 41 ∧ 20 ∈ S
  · rw [if_pos h1, if_pos h1]
    rfl
  · rw [if_neg h1, if_neg h1]
    by_cases h2 : sig (tK b n p) ≠ 0 ∧ ¬ (tgt (sig (tK b n p)) = 4 ∧ hrl S = true)
    · rw [if_pos h2, if_pos h2]
      rfl
    · rw [if_neg h2, if_neg h2]
      by_cases h3 : (20 : Int) ∈ S
      · rw [if_pos h3, if_pos h3]
        rfl
      · rw [if_neg h3, if_neg h3]
        rfl
theorem sy_pre {b : Nat → Int} {n : Nat} (X : List (Int × Int)) (s : FS) : sy b n (preS X s) = preR X (sy b n s) := by
  obtain ⟨m, p, S, C, u, w⟩ := s
  unfold sy preS
  cases m with
  | true => exact syB_pre X C
  | false => exact syA_pre X C
theorem itn_pre {b : Nat → Int} {n : Nat} (X : List (Int × Int)) : ∀ (k : Nat) (s : FS), itn b n k (preS X s) = (itn b n k s).map (preO X)
  | 0, _ => rfl
  | k + 1, s => by
    rw [itn, itn, sy_pre]
    cases sy b n s with
    | inr o => rfl
    | inl s' => exact itn_pre X k s'
/-- what holds with code ahead holds without, the code ahead of what comes out -/
theorem Ev_pre {b : Nat → Int} {n p : Nat} {X : List (Int × Int)} {w : Int} {o : FO} (h : Ev b n (true, p, [], X, 0, w) o) : ∃ o', Ev b n (true, p, [], [], 0, w) o' ∧ o = preO X o' := by
  obtain ⟨k, hk⟩ := h
  have h1 := itn_pre (b := b) (n := n) X k (true, p, [], [], 0, w)
  have e : preS X (true, p, [], [], 0, w) = (true, p, [], X, 0, w) := by
    unfold preS
    simp
  rw [e, hk] at h1
  cases h2 : itn b n k (true, p, [], [], 0, w) with
  | none =>
    rw [h2] at h1
    exact absurd h1 (by simp)
  | some o' =>
    rw [h2] at h1
    exact ⟨o', ⟨k, h2⟩, Option.some.inj h1⟩
/-! SLABS -/
def mkw (k : Int) : Int32 := if k = 140 then 1 else if k = 141 then 2 else if k = 142 then 4 else 8
def mkS (b : Nat → Int) (n : Nat) (s : Int32 × Nat) : (Int32 × Nat) ⊕ Rs Int32 := if 140 ≤ tK b n s.2 ∧ tK b n s.2 ≤ 143 then (if (s.1 &&& mkw (tK b n s.2)).toInt ≠ 0 then .inr (.inl (fl b n 2 s.2)) else .inl (s.1 ||| mkw (tK b n s.2), tNx b n s.2)) else .inr (.inr s)
noncomputable def pMk (b : Nat → Int) (n p : Nat) : Rs Int32 := run (mkS b n) (0, p)
def rmx (r : Int) : Int := if 60 ≤ r then 60 else r
def ahd (J : Int) (nth : Nat) : Int := if nth = 0 then 0 else J
noncomputable def pSlab (b : Nat → Int) (n : Nat) (J : Int) (nth len p : Nat) : Rs (Int × Int32) := bnd (pNum b n 1 (rmx (400 - (len : Int) - ahd J nth)) p) fun v q => bnd (pMk b n q) fun m q' => .inr ((v, m), q')
abbrev IC : Type := Int × Int × Int × Int
def layI (m nth wide : Int) : List IC := (List.range wide.toNat).map fun (k : Nat) => (m, nth, (k : Int), wide)
theorem layI_len {m nth wide : Int} : (layI m nth wide).length = wide.toNat := by simp [layI]
theorem layI_get {m nth wide : Int} {k : Nat} {d : IC} (h : k < wide.toNat) : (layI m nth wide).getD k d = (m, nth, (k : Int), wide) := by
  unfold layI
  simp [List.getD_eq_getElem?_getD, h]
theorem layI_0 {m nth wide : Int} (h : wide ≤ 0) : layI m nth wide = [] := by
  unfold layI
  rw [Int.toNat_of_nonpos h]
  rfl
def slI (J : Int) (nth : Nat) (vx : Int × Int32) : List IC := layI (-1) ((nth : Int) - 1) (ahd J nth) ++ layI vx.2.toInt (nth : Int) vx.1
noncomputable def slS (b : Nat → Int) (n : Nat) (J : Int) (s : Nat × List IC × Nat) : (Nat × List IC × Nat) ⊕ Rs (List IC) := if s.1 = 0 ∨ tK b n s.2.2 = 201 then (match pSlab b n J s.1 s.2.1.length s.2.2 with
  | .inl f => .inr (.inl f)
  | .inr (vx, q) => .inl (s.1 + 1, s.2.1 ++ slI J s.1 vx, q)) else .inr (.inr s.2)
noncomputable def pSls (b : Nat → Int) (n : Nat) (J : Int) (p : Nat) : Rs (List IC) := run (slS b n J) (0, [], p)
/-! lines -/
noncomputable def pStreet (b : Nat → Int) (n : Nat) (NS : List (List Int)) (p : Nat) : Rs (List Int × List IC) := bnd (pName b n NS (tNx b n p)) fun L q => bnd (pKw b n 139 q) fun _ q => bnd (pNum b n 0 9 q) fun J q => bnd (pSls b n J q) fun I q => .inr ((L, I), q)
abbrev WK : Type := Int × Int × Int × Int
def pWalker (b : Nat → Int) (n : Nat) (NS : List (List Int)) (p : Nat) : Rs (List Int × WK) := bnd (pName b n NS (tNx b n p)) fun L q => bnd (pKw b n 130 q) fun _ q => bnd (pNum b n 1 12 q) fun f q => bnd (pKw b n 131 q) fun _ q => bnd (pNum b n 1 60 q) fun l q => bnd (pKw b n 132 q) fun _ q => bnd (pNum b n l 60 q) fun m q => if tK b n q = 133 then bnd (pNum b n (m + 1) 99 (tNx b n q)) fun v q => .inr ((L, f, l, m, v), q) else .inr ((L, f, l, m, m), q)
def pSlip (b : Nat → Int) (n p : Nat) : Rs (Int × Int × Int) := bnd (pNum b n 0 9 (tNx b n p)) fun x q => bnd (pNum b n 0 9 q) fun y q => bnd (pNum b n (if x + y = 0 then 1 else 0) 9 q) fun z q => .inr ((x, y, z), q)
def pHand (b : Nat → Int) (n p : Nat) : Rs (Int × Int) := bnd (pNum b n 1 99 (tNx b n p)) fun x q => bnd (pKw b n 137 q) fun _ q => bnd (pNum b n 0 99 q) fun y q => .inr ((x, y), q)
def pDraw (b : Nat → Int) (n p : Nat) : Rs Int := pNum b n 0 999 (tNx b n p)
noncomputable def pRule (b : Nat → Int) (n : Nat) (NS : List (List Int)) (w : Int) (p : Nat) : Rs (List Int × List (Int × Int) × Int) := bnd (pName b n NS (tNx b n p)) fun L q => bnd (pForm b n w q) fun x q => .inr ((L, x.1, x.2), q)
abbrev VS : Type := List (List Int × List IC)
abbrev VW : Type := List (List Int × WK)
abbrev VR : Type := List (List Int × List (Int × Int))
abbrev PV : Type := VS × VW × VR × Int × Option (Int × Int × Int) × Option (Int × Int) × Option Int
def nms {α : Type} (L : List (List Int × α)) : List (List Int) := L.map (fun x => x.1)
theorem nms_len {α : Type} {L : List (List Int × α)} : (nms L).length = L.length := by simp [nms]
theorem nms_snoc {α : Type} {L : List (List Int × α)} {x : List Int × α} : nms (L ++ [x]) = nms L ++ [x.1] := by simp [nms]
noncomputable def pLine (b : Nat → Int) (n : Nat) (V : PV) (p : Nat) : Rs PV :=
  if tK b n p = 128 ∧ V.1.length < 3 then bnd (pStreet b n (nms V.1) p) fun x q => .inr ((V.1 ++ [x], V.2), q)
  else if tK b n p = 129 ∧ V.2.1.length < 4 then bnd (pWalker b n (nms V.2.1) p) fun x q => .inr ((V.1, V.2.1 ++ [x], V.2.2), q)
  else if tK b n p = 134 ∧ V.2.2.1.length < 6 then bnd (pRule b n (nms V.2.2.1) V.2.2.2.1 p) fun x q => .inr ((V.1, V.2.1, V.2.2.1 ++ [(x.1, x.2.1)], x.2.2, V.2.2.2.2), q)
  else if tK b n p = 135 ∧ V.2.2.2.2.1.isNone = true then bnd (pSlip b n p) fun x q => .inr ((V.1, V.2.1, V.2.2.1, V.2.2.2.1, some x, V.2.2.2.2.2), q)
  else if tK b n p = 136 ∧ V.2.2.2.2.2.1.isNone = true then bnd (pHand b n p) fun x q => .inr ((V.1, V.2.1, V.2.2.1, V.2.2.2.1, V.2.2.2.2.1, some x, V.2.2.2.2.2.2), q)
  else if tK b n p = 138 ∧ V.2.2.2.2.2.2.isNone = true then bnd (pDraw b n p) fun x q => .inr ((V.1, V.2.1, V.2.2.1, V.2.2.2.1, V.2.2.2.2.1, V.2.2.2.2.2.1, some x), q)
  else .inl (fl b n 2 p)
noncomputable def pLn (b : Nat → Int) (n : Nat) (V : PV) (p : Nat) : Rs PV := bnd (pLine b n V p) fun V q => bnd (pKw b n 59 q) fun _ q => .inr (V, q)
noncomputable def topS (b : Nat → Int) (n : Nat) (s : PV × Nat) : (PV × Nat) ⊕ Rs PV := if tK b n s.2 = 203 then .inr (.inr s) else match pLn b n s.1 s.2 with
  | .inl f => .inr (.inl f)
  | .inr s' => .inl s'
def V0 : PV := ([], [], [], 0, none, none, none)
noncomputable def parse (b : Nat → Int) (n : Nat) : Rs PV := run (topS b n) (V0, 0)
theorem bnd_l {α β : Type} {o : Rs α} {f : Int × Int} {k : α → Nat → Rs β} (h : o = .inl f) : bnd o k = .inl f := by subst h; rfl
theorem bnd_r {α β : Type} {o : Rs α} {v : α} {q : Nat} {k : α → Nat → Rs β} (h : o = .inr (v, q)) : bnd o k = k v q := by subst h; rfl
theorem slS_l {b : Nat → Int} {n : Nat} {J : Int} {nth p : Nat} {I : List IC} {f : Int × Int} (hc : nth = 0 ∨ tK b n p = 201) (h : pSlab b n J nth I.length p = .inl f) : slS b n J (nth, I, p) = .inr (.inl f) := by
  unfold slS
  rw [if_pos hc]
  have h' : pSlab b n J (nth, I, p).1 (nth, I, p).2.1.length (nth, I, p).2.2 = .inl f := h
  rw [h']
theorem slS_r {b : Nat → Int} {n : Nat} {J : Int} {nth p q : Nat} {I : List IC} {vx : Int × Int32} (hc : nth = 0 ∨ tK b n p = 201) (h : pSlab b n J nth I.length p = .inr (vx, q)) : slS b n J (nth, I, p) = .inl (nth + 1, I ++ slI J nth vx, q) := by
  unfold slS
  rw [if_pos hc]
  have h' : pSlab b n J (nth, I, p).1 (nth, I, p).2.1.length (nth, I, p).2.2 = .inr (vx, q) := h
  rw [h']

/-! SLABS by the program -/
def encI (x : IC) : Int32 := ((((if x.1 < 0 then (1 : Int32) else 0) ||| (Int32.ofInt (if x.1 < 0 then 0 else x.1) <<< (1 &&& 31))) ||| (Int32.ofInt x.2.1 <<< (5 &&& 31))) ||| (Int32.ofInt x.2.2.1 <<< (14 &&& 31))) ||| (Int32.ofInt x.2.2.2 <<< (20 &&& 31))
def ICok (x : IC) : Prop := -1 ≤ x.1 ∧ x.1 ≤ 15 ∧ 0 ≤ x.2.1 ∧ x.2.1 < 512 ∧ 0 ≤ x.2.2.1 ∧ x.2.2.1 < 64 ∧ 0 ≤ x.2.2.2 ∧ x.2.2.2 < 64
def JM (p0 p1 : Int32) (m : Int) : Prop := (p0 = 1 ∧ p1 = 0 ∧ m = -1) ∨ (p0 = 0 ∧ p1.toInt = m ∧ 0 ≤ m)
theorem encI_eq {p0 p1 p2 x p3 : Int32} {m nth i w : Int} (h : JM p0 p1 m) (h2 : p2.toInt = nth) (h3 : x.toInt = i) (h4 : p3.toInt = w) : (((p0 ||| p1 <<< (1 &&& 31)) ||| p2 <<< (5 &&& 31)) ||| x <<< (14 &&& 31)) ||| p3 <<< (20 &&& 31) = encI (m, nth, i, w) := by
  have e0 : Int32.ofInt 0 = 0 := rfl
  subst h2
  subst h3
  subst h4
  unfold encI
  rcases h with ⟨rfl, rfl, rfl⟩ | ⟨rfl, rfl, h0⟩
  · simp only [Int32.ofInt_toInt]
    rw [if_pos (by decide), if_pos (by decide), e0]
  · simp only [Int32.ofInt_toInt]
    rw [if_neg (by omega), if_neg (by omega), Int32.ofInt_toInt]
theorem getD_app {α : Type} {A K : List α} {i : Nat} {d : α} : (A ++ K).getD i d = if i < A.length then A.getD i d else K.getD (i - A.length) d := by
  rw [List.getD_eq_getElem?_getD]
  by_cases h : i < A.length
  · rw [if_pos h, List.getElem?_append_left h, List.getD_eq_getElem?_getD]
  · rw [if_neg h, List.getElem?_append_right (by omega), List.getD_eq_getElem?_getD]
def pcN (v : Nat) : Nat := v % 2 + v / 2 % 2 + v / 4 % 2 + v / 8 % 2
theorem pc_key : ∀ v : Nat, v < 16 → ∀ j : Nat, j < 4 → (Int32.ofNat v &&& mkw (140 + (j : Int))).toInt = 0 → v + 2 ^ j < 16 ∧ pcN (v + 2 ^ j) = pcN v + 1 ∧ (Int32.ofNat v ||| mkw (140 + (j : Int))) = Int32.ofNat (v + 2 ^ j) := by decide +kernel
theorem pc_le : ∀ v : Nat, v < 16 → pcN v ≤ 4 := by decide +kernel
theorem ofN_16 : ∀ v : Nat, v < 16 → (Int32.ofNat v).toInt = (v : Int) := by decide +kernel
theorem mk_ok {v : Nat} {k : Int} (hv : v < 16) (h1 : 140 ≤ k) (h2 : k ≤ 143) (h0 : (Int32.ofNat v &&& mkw k).toInt = 0) : ∃ v', v' < 16 ∧ pcN v' = pcN v + 1 ∧ (Int32.ofNat v ||| mkw k) = Int32.ofNat v' := by
  have e : k = 140 + ((k - 140).toNat : Int) := by omega
  rw [e] at h0 ⊢
  exact ⟨_, pc_key v hv (k - 140).toNat (by omega) h0⟩
theorem sh1 {y : Int32} {k : Int} (h : y.toInt = k - 140) (h1 : 140 ≤ k) (h2 : k ≤ 143) : (1 : Int32) <<< (y &&& 31) = mkw k := by
  have hk : k = 140 ∨ k = 141 ∨ k = 142 ∨ k = 143 := by omega
  rcases hk with rfl | rfl | rfl | rfl
  · have e : y = 0 := Int32.toInt_inj.mp (by rw [h]; rfl)
    subst e
    rfl
  · have e : y = 1 := Int32.toInt_inj.mp (by rw [h]; rfl)
    subst e
    rfl
  · have e : y = 2 := Int32.toInt_inj.mp (by rw [h]; rfl)
    subst e
    rfl
  · have e : y = 3 := Int32.toInt_inj.mp (by rw [h]; rfl)
    subst e
    rfl
theorem slI_0 {J : Int} {vx : Int × Int32} : slI J 0 vx = layI vx.2.toInt 0 vx.1 := by
  unfold slI
  rw [layI_0 (show ahd J 0 ≤ 0 from Int.le_refl 0)]
  rfl
theorem ahd_r {J : Int} {nth : Nat} (h0 : 0 ≤ J) (h9 : J ≤ 9) : 0 ≤ ahd J nth ∧ ahd J nth ≤ 9 := by
  unfold ahd
  split <;> omega
theorem slI_len {J : Int} {nth : Nat} {vx : Int × Int32} : (slI J nth vx).length = (ahd J nth).toNat + vx.1.toNat := by
  unfold slI
  rw [List.length_append, layI_len, layI_len]
def StC_1 (s : Nat) (I : List IC) (G : GS) : Prop := (G.1 10 s).toInt = (I.length : Int) ∧ ∀ i, i < I.length → G.1 11 (400 * s + i) = encI (I.getD i (0, 0, 0, 0)) ∧ ICok (I.getD i (0, 0, 0, 0))
def KeC_1 (s : Nat) (G G1 : GS) : Prop := (∀ s', s' ≠ s → G1.1 10 s' = G.1 10 s') ∧ ∀ j, j < 400 * s → G1.1 11 j = G.1 11 j
theorem KeC_1.tr {s : Nat} {G G1 G2 : GS} (h : KeC_1 s G G1) (h' : KeC_1 s G1 G2) : KeC_1 s G G2 := ⟨fun s' q => (h'.1 s' q).trans (h.1 s' q), fun j q => (h'.2 j q).trans (h.2 j q)⟩
theorem KeC_1.of {s : Nat} {rs : List Nat} {fs : List (Nat × Nat)} {G G1 : GS} (hF : Fr rs fs G G1) (h1 : 10 ∉ rs) (h2 : ∀ x ∈ fs, x.1 ≠ 10) (h3 : 11 ∉ rs) (h4 : ∀ x ∈ fs, x.1 ≠ 11) : KeC_1 s G G1 := by
  unfold KeC_1
  rw [hF.row1 10 h1 h2, hF.row1 11 h3 h4]
  exact ⟨fun _ _ => rfl, fun _ _ => rfl⟩
theorem StC_1.fr {s : Nat} {I : List IC} {rs : List Nat} {fs : List (Nat × Nat)} {G G1 : GS} (h : StC_1 s I G) (hF : Fr rs fs G G1) (h1 : 10 ∉ rs) (h2 : ∀ x ∈ fs, x.1 ≠ 10) (h3 : 11 ∉ rs) (h4 : ∀ x ∈ fs, x.1 ≠ 11) : StC_1 s I G1 := by
  unfold StC_1 at h ⊢
  rw [hF.row1 10 h1 h2, hF.row1 11 h3 h4]
  exact h
theorem c_lay_1 {s : Nat} {I : List IC} {G G1 : GS} {p0 p1 p2 p3 : Int32} {m nth w : Int} (h : P_lay_1 p0 p1 p2 p3 G G1) (hs : (G.1 1 9).toInt = (s : Int)) (hs3 : s < 3) (hS : StC_1 s I G) (hm : JM p0 p1 m) (h2 : p2.toInt = nth) (h3 : p3.toInt = w) (hw0 : 0 ≤ w) (hroom : (I.length : Int) + w ≤ 400) (hok : -1 ≤ m ∧ m ≤ 15 ∧ 0 ≤ nth ∧ nth < 512 ∧ w < 64) : StC_1 s (I ++ layI m nth w) G1 ∧ KeC_1 s G G1 := by
  obtain ⟨-, -, hh⟩ := h
  rcases hh with ⟨c, y3, e3, x, G4, hl, -, -, hF4, hh⟩ | ⟨c, -⟩
  rotate_left
  · omega
  rw [cn_eq hs] at e3
  have e3' : y3.toInt = (I.length : Int) := by rw [e3]; exact hS.1
  have hI := hl (fun q => ∃ k : Nat, q.1.toInt = (k : Int) ∧ (k : Int) ≤ w ∧ (∀ j, j < 400 * s + I.length → q.2.1 11 j = G.1 11 j) ∧ ∀ i, i < k → q.2.1 11 (400 * s + I.length + i) = encI (m, nth, (i : Int), w)) ⟨0, rfl, hw0, fun _ _ => rfl, fun i hi => absurd hi (Nat.not_lt_zero i)⟩ (by
    rintro ⟨x1, G_1⟩ ⟨xn, G_1n⟩ ⟨k, h1, h2', h4, h5⟩ ⟨x1q, G_1q, xnq, G_1nq, e1, e2, -, -, c1, y17, t17, c17, y22, t22, y23, t23, y24, t24, y25, e25, y26, e26, y27, e27, y28, e28, y29, e29, y30, e30, y31, e31, y32, e32, y34, t34, ex, hFn, eR⟩
    obtain ⟨rfl, rfl⟩ := Prod.mk.inj e1
    obtain ⟨rfl, rfl⟩ := Prod.mk.inj e2
    simp only at h1 h2' h4 h5
    have hy : y24.toNatClampNeg = 400 * s + I.length + k := cn_eq (by omega)
    rw [hy] at eR
    refine ⟨k + 1, by show xn.toInt = _; rw [← ex]; omega, by omega, fun j hj => ?_, fun i hi => ?_⟩
    · show G_1n.1 11 j = _
      have e : upd (G_1.1 11) (400 * s + I.length + k) y32 j = G_1.1 11 j := if_neg (by omega)
      rw [eR, e]
      exact h4 j hj
    · show G_1n.1 11 (400 * s + I.length + i) = _
      rw [eR]
      by_cases hik : i = k
      · subst hik
        have e : upd (G_1.1 11) (400 * s + I.length + i) y32 (400 * s + I.length + i) = y32 := if_pos rfl
        rw [e, e32, e31, e30, e29, e28, e27, e26, e25]
        exact encI_eq hm h2 h1 h3
      · have e : upd (G_1.1 11) (400 * s + I.length + k) y32 (400 * s + I.length + i) = G_1.1 11 (400 * s + I.length + i) := if_neg (by omega)
        rw [e]
        exact h5 i (by omega))
  obtain ⟨k, hk, hkw, h4, h5⟩ := hI
  simp only at hk h4 h5
  rcases hh with ⟨c1, y14, t14, y15, t15, hF1, e10⟩ | ⟨c1, y17, t17, c17, -⟩
  rotate_left
  · omega
  have hk' : k = w.toNat := by omega
  have r11 : G1.1 11 = G4.1 11 := hF1.row1 11 (by decide) (by decide)
  have r10 : G4.1 10 = G.1 10 := hF4.row1 10 (by decide) (by decide)
  rw [cn_eq hs, r10] at e10
  refine ⟨⟨?_, fun i hi => ?_⟩, fun s' q => ?_, fun j q => ?_⟩
  · have e : upd (G.1 10) s y15 s = y15 := if_pos rfl
    rw [e10, e, List.length_append, layI_len]
    omega
  · rw [List.length_append, layI_len] at hi
    rw [r11, getD_app]
    by_cases hq : i < I.length
    · rw [if_pos hq, h4 (400 * s + i) (by omega)]
      exact hS.2 i hq
    · have e9 := h5 (i - I.length) (by omega)
      rw [show 400 * s + I.length + (i - I.length) = 400 * s + i by omega] at e9
      rw [if_neg hq, layI_get (by omega)]
      refine ⟨e9, hok.1, hok.2.1, hok.2.2.1, hok.2.2.2.1, ?_, ?_, ?_, hok.2.2.2.2⟩
      · show (0 : Int) ≤ ((i - I.length : Nat) : Int)
        omega
      · show ((i - I.length : Nat) : Int) < 64
        omega
      · show (0 : Int) ≤ w
        exact hw0
  · have e : upd (G.1 10) s y15 s' = G.1 10 s' := if_neg q
    rw [e10, e]
  · rw [r11]
    exact h4 j (by omega)
theorem c_mk_1 {b : Nat → Int} {n p : Nat} {G G2 : GS} {x32 x33 : Int32} (hl : Rc (St_k_rSlab_1_2) (0, 0, G) (x32, x33, G2)) (hp : CPx b n G p) : ∃ p' v, CPx b n G2 p' ∧ p ≤ p' ∧ v < 16 ∧ x33 = Int32.ofNat v ∧ x32.toInt ≤ 4 ∧ ∀ o, Et (mkS b n) (0, p) o ↔ Et (mkS b n) (x33, p') o := by
  have hI := hl (fun q => ∃ p' v, CPx b n q.2.2 p' ∧ p ≤ p' ∧ v < 16 ∧ q.2.1 = Int32.ofNat v ∧ q.1.toInt = (pcN v : Int) ∧ ∀ o, Et (mkS b n) (0, p) o ↔ Et (mkS b n) (q.2.1, p') o) ⟨p, 0, hp, Nat.le_refl p, by decide, rfl, rfl, fun o => Iff.rfl⟩ (by
    rintro ⟨x1, v1, G_1⟩ ⟨xn, vn, G_1n⟩ ⟨p', v, h1, h2, h3, h4, h5, h6⟩ ⟨x1q, v1q, G_1q, xnq, vnq, G_1nq, e1, e2, -, -, -, c1, c2, c3, y68, t68, y69, e69, y70, e70, c70, y72, e72, r73, G74, ha, y79, t79, ex, ev, eG⟩
    obtain ⟨rfl, e1x⟩ := Prod.mk.inj e1
    obtain ⟨rfl, rfl⟩ := Prod.mk.inj e1x
    obtain ⟨rfl, e2x⟩ := Prod.mk.inj e2
    obtain ⟨rfl, rfl⟩ := Prod.mk.inj e2x
    simp only at h1 h4 h5 h6
    have k1 := h1.2.1.1
    rw [k1] at c2 c3 t68
    have hsh := sh1 t68 c2 c3
    rw [hsh] at e69
    rw [e70, e69, h4] at c70
    obtain ⟨v', g1, g2, g3⟩ := mk_ok h3 c2 c3 c70
    have hn := c_next ha h1 (by omega)
    have ht := tN_p (b := b) h1.1.2.1 h1.2.2.2
    refine ⟨tNx b n p', v', by show CPx b n G_1n _; rw [← eG]; exact hn.2, by omega, g1, by show vn = _; rw [← ev, e72, e69, h4]; exact g3, by show xn.toInt = _; rw [← ex]; omega, fun o => (h6 o).trans ?_⟩
    show _ ↔ Et (mkS b n) (vn, tNx b n p') o
    have hm : mkS b n (v1, p') = .inl (v1 ||| mkw (tK b n p'), tNx b n p') := by
      unfold mkS
      rw [if_pos ⟨c2, c3⟩, if_neg (by rw [h4]; exact fun q => q c70)]
    rw [← ev, e72, e69]
    exact Et_i hm)
  obtain ⟨p', v, h1, h2, h3, h4, h5, h6⟩ := hI
  exact ⟨p', v, h1, h2, h3, h4, by have := pc_le v h3; show x32.toInt ≤ 4; have h5' : x32.toInt = (pcN v : Int) := h5; omega, h6⟩
def SlR_1 (b : Nat → Int) (n : Nat) (J : Int) (nth s : Nat) (I : List IC) (p : Nat) (r : Int32) (G G1 : GS) : Prop := (∃ f, pSlab b n J nth I.length p = .inl f ∧ CF f r G1) ∨ (∃ vx p', pSlab b n J nth I.length p = .inr (vx, p') ∧ r.toInt = 1 ∧ CPx b n G1 p' ∧ p < p' ∧ StC_1 s (I ++ slI J nth vx) G1 ∧ KeC_1 s G G1 ∧ 1 ≤ vx.1 ∧ ((I ++ slI J nth vx).length : Int) ≤ 400)
theorem c_slab_1 {b : Nat → Int} {n : Nat} {J : Int} {nth s : Nat} {I : List IC} {p : Nat} {p0 p1 r : Int32} {G G1 : GS} (h : P_rSlab_1 p0 p1 G r G1) (hp : CPx b n G p) (hs : (G.1 1 9).toInt = (s : Int)) (hs3 : s < 3) (hS : StC_1 s I G) (h0 : p0.toInt = (nth : Int)) (h1 : p1.toInt = J) (hn4 : nth ≤ 400) (hJ0 : 0 ≤ J) (hJ9 : J ≤ 9) : SlR_1 b n J nth s I p r G G1 := by
  obtain ⟨-, -, -, w3, G4, hj, -, -, -, y10, e10, y11, t11, y12, t12, y13, t13, r15, G16, hn, hh⟩ := h
  have hG4 : G = G4 ∧ w3.toInt = ahd J nth := by
    unfold ahd
    rcases hj with ⟨c, e1, e2⟩ | ⟨c, e1, e2⟩
    · rw [if_pos (by omega), ← e1]
      exact ⟨e2, rfl⟩
    · rw [if_neg (by omega), ← e1]
      exact ⟨e2, h1⟩
  obtain ⟨rfl, hw3⟩ := hG4
  clear hj
  have har := ahd_r (nth := nth) hJ0 hJ9
  rw [cn_eq hs] at e10
  have h10 : y10.toInt = (I.length : Int) := by rw [e10]; exact hS.1
  have h13 : y13.toInt = rmx (400 - (I.length : Int) - ahd J nth) := by
    clear hh
    unfold rmx
    by_cases hq : 60 ≤ 400 - (I.length : Int) - ahd J nth
    · rw [if_pos hq]
      omega
    · rw [if_neg hq]
      omega
  have h60 : y13.toInt ≤ 60 := by clear hh; omega
  have h13' : y13.toInt ≤ 400 - (I.length : Int) - ahd J nth := by clear hh; omega
  rcases c_isNum hn hp with ⟨f, hf, hC⟩ | ⟨hv, hr, hp2, e9, hk, hl1, hl2⟩
  · rw [h13] at hf
    rcases hh with ⟨c, rfl, rfl⟩ | ⟨c, -⟩
    · exact Or.inl ⟨f, bnd_l hf, rfl, hC.2⟩
    · exact absurd hC.1 c
  rw [h13] at hv
  rcases hh with ⟨c, -⟩ | ⟨c, r22, G23, ha, x32, x33, G28, hl, -, -, -, hF28, hh⟩
  · omega
  have hn2 := c_next ha hp2 (by omega)
  have htn := tN_p (b := b) hp.1.2.1 hp.2.2.2
  have htp : p < tNx b n p := (htn.2.2 (by omega)).1
  obtain ⟨p', v, hp3, hpp, hv16, hx33, hx4, hEt⟩ := c_mk_1 hl hn2.2
  have k3 := hp3.2.1.1
  have hs28 : (G28.1 1 9).toInt = (s : Int) := by
    rw [hF28.i 1 9 (by decide) (by decide), ha.2.1.i 1 9 (by decide) (by decide), hn.2.1.i 1 9 (by decide) (by decide)]
    exact hs
  have hS28 : StC_1 s I G28 := ((hS.fr hn.2.1 (by decide) (by decide) (by decide) (by decide)).fr ha.2.1 (by decide) (by decide) (by decide) (by decide)).fr hF28 (by decide) (by decide) (by decide) (by decide)
  have hK28 : KeC_1 s G G28 := ((KeC_1.of hn.2.1 (by decide) (by decide) (by decide) (by decide)).tr (KeC_1.of ha.2.1 (by decide) (by decide) (by decide) (by decide))).tr (KeC_1.of hF28 (by decide) (by decide) (by decide) (by decide))
  rcases hh with ⟨-, c2, c3, y68, t68, y69, e69, y70, e70, c70, r80, G81, hrf, rfl, rfl⟩ | ⟨G44, hj, -, -, hh⟩
  · rw [k3] at c2 c3 t68
    rw [sh1 t68 c2 c3] at e69
    have hm : mkS b n (x33, p') = .inr (.inl (fl b n 2 p')) := by
      unfold mkS
      rw [if_pos ⟨c2, c3⟩, if_pos (by rw [← e69, ← e70]; exact c70)]
    have hmk : pMk b n (tNx b n p) = .inl (fl b n 2 p') := run_eq ((hEt _).mpr ((Et_r hm).mpr rfl))
    exact Or.inl ⟨fl b n 2 p', (bnd_r hv).trans (bnd_l hmk), (c_ref hrf hp3).1⟩
  · have hj2 : G28 = G44 ∧ ¬ (140 ≤ tK b n p' ∧ tK b n p' ≤ 143) := by
      rw [← k3]
      rcases hj with ⟨c, -⟩ | ⟨c, ⟨d, e⟩ | ⟨d, d2, e⟩⟩
      · omega
      · exact ⟨e, by omega⟩
      · exact ⟨e, by omega⟩
    obtain ⟨rfl, hno⟩ := hj2
    clear hj
    have hm : mkS b n (x33, p') = .inr (.inr (x33, p')) := by
      unfold mkS
      rw [if_neg hno]
    have hmk : pMk b n (tNx b n p) = .inr (x33, p') := run_eq ((hEt _).mpr ((Et_r hm).mpr rfl))
    have hps : pSlab b n J nth I.length p = .inr ((tV b n p, x33), p') := (bnd_r hv).trans (bnd_r hmk)
    have hx0 : x33.toInt = (v : Int) := by rw [hx33]; exact ofN_16 v hv16
    have hl1' : 1 ≤ tV b n p := hl1
    have hlen : ((I ++ slI J nth (tV b n p, x33)).length : Int) ≤ 400 := by
      rw [List.length_append, slI_len]
      show ((I.length + ((ahd J nth).toNat + (tV b n p).toNat) : Nat) : Int) ≤ 400
      omega
    rcases hh with ⟨c0, G50, hla, rfl, rfl⟩ | ⟨c0, y54, t54, G56, hla1, G61, hla2, rfl, rfl⟩
    · have hn0 : nth = 0 := by omega
      subst hn0
      obtain ⟨k1, k2⟩ := c_lay_1 (m := x33.toInt) (nth := 0) (w := tV b n p) hla hs28 hs3 hS28 (Or.inr ⟨rfl, rfl, by omega⟩) h0 e9 (by omega) (by omega) ⟨by omega, by omega, by omega, by omega, by omega⟩
      refine Or.inr ⟨_, p', hps, rfl, hp3.fr hla.2.1 (by decide) (by decide) (by decide) (by decide), by omega, ?_, hK28.tr k2, hl1', hlen⟩
      rw [slI_0]
      exact k1
    · have e16 : (G16.1 5 9).toInt = tV b n p := e9
      obtain ⟨k1, k2⟩ := c_lay_1 (m := -1) (nth := (nth : Int) - 1) (w := ahd J nth) hla1 hs28 hs3 hS28 (Or.inl ⟨rfl, rfl, rfl⟩) (by omega) hw3 har.1 (by omega) ⟨by omega, by omega, by omega, by omega, by omega⟩
      have hs56 : (G56.1 1 9).toInt = (s : Int) := by
        rw [hla1.2.1.i 1 9 (by decide) (by decide)]
        exact hs28
      obtain ⟨k3', k4⟩ := c_lay_1 (m := x33.toInt) (nth := (nth : Int)) (w := tV b n p) hla2 hs56 hs3 k1 (Or.inr ⟨rfl, rfl, by omega⟩) h0 e16 (by omega) (by rw [List.length_append, layI_len]; omega) ⟨by omega, by omega, by omega, by omega, by omega⟩
      refine Or.inr ⟨_, p', hps, rfl, (hp3.fr hla1.2.1 (by decide) (by decide) (by decide) (by decide)).fr hla2.2.1 (by decide) (by decide) (by decide) (by decide), by omega, ?_, (hK28.tr k2).tr k4, hl1', hlen⟩
      rw [List.append_assoc] at k3'
      exact k3'
def StC_2 (s : Nat) (I : List IC) (G : GS) : Prop := (G.1 20 s).toInt = (I.length : Int) ∧ ∀ i, i < I.length → G.1 21 (400 * s + i) = encI (I.getD i (0, 0, 0, 0)) ∧ ICok (I.getD i (0, 0, 0, 0))
def KeC_2 (s : Nat) (G G1 : GS) : Prop := (∀ s', s' ≠ s → G1.1 20 s' = G.1 20 s') ∧ ∀ j, j < 400 * s → G1.1 21 j = G.1 21 j
theorem KeC_2.tr {s : Nat} {G G1 G2 : GS} (h : KeC_2 s G G1) (h' : KeC_2 s G1 G2) : KeC_2 s G G2 := ⟨fun s' q => (h'.1 s' q).trans (h.1 s' q), fun j q => (h'.2 j q).trans (h.2 j q)⟩
theorem KeC_2.of {s : Nat} {rs : List Nat} {fs : List (Nat × Nat)} {G G1 : GS} (hF : Fr rs fs G G1) (h1 : 20 ∉ rs) (h2 : ∀ x ∈ fs, x.1 ≠ 20) (h3 : 21 ∉ rs) (h4 : ∀ x ∈ fs, x.1 ≠ 21) : KeC_2 s G G1 := by
  unfold KeC_2
  rw [hF.row1 20 h1 h2, hF.row1 21 h3 h4]
  exact ⟨fun _ _ => rfl, fun _ _ => rfl⟩
theorem StC_2.fr {s : Nat} {I : List IC} {rs : List Nat} {fs : List (Nat × Nat)} {G G1 : GS} (h : StC_2 s I G) (hF : Fr rs fs G G1) (h1 : 20 ∉ rs) (h2 : ∀ x ∈ fs, x.1 ≠ 20) (h3 : 21 ∉ rs) (h4 : ∀ x ∈ fs, x.1 ≠ 21) : StC_2 s I G1 := by
  unfold StC_2 at h ⊢
  rw [hF.row1 20 h1 h2, hF.row1 21 h3 h4]
  exact h
theorem c_lay_2 {s : Nat} {I : List IC} {G G1 : GS} {p0 p1 p2 p3 : Int32} {m nth w : Int} (h : P_lay_2 p0 p1 p2 p3 G G1) (hs : (G.1 2 9).toInt = (s : Int)) (hs3 : s < 3) (hS : StC_2 s I G) (hm : JM p0 p1 m) (h2 : p2.toInt = nth) (h3 : p3.toInt = w) (hw0 : 0 ≤ w) (hroom : (I.length : Int) + w ≤ 400) (hok : -1 ≤ m ∧ m ≤ 15 ∧ 0 ≤ nth ∧ nth < 512 ∧ w < 64) : StC_2 s (I ++ layI m nth w) G1 ∧ KeC_2 s G G1 := by
  obtain ⟨-, -, hh⟩ := h
  rcases hh with ⟨c, y3, e3, x, G4, hl, -, -, hF4, hh⟩ | ⟨c, -⟩
  rotate_left
  · omega
  rw [cn_eq hs] at e3
  have e3' : y3.toInt = (I.length : Int) := by rw [e3]; exact hS.1
  have hI := hl (fun q => ∃ k : Nat, q.1.toInt = (k : Int) ∧ (k : Int) ≤ w ∧ (∀ j, j < 400 * s + I.length → q.2.1 21 j = G.1 21 j) ∧ ∀ i, i < k → q.2.1 21 (400 * s + I.length + i) = encI (m, nth, (i : Int), w)) ⟨0, rfl, hw0, fun _ _ => rfl, fun i hi => absurd hi (Nat.not_lt_zero i)⟩ (by
    rintro ⟨x1, G_1⟩ ⟨xn, G_1n⟩ ⟨k, h1, h2', h4, h5⟩ ⟨x1q, G_1q, xnq, G_1nq, e1, e2, -, -, c1, y17, t17, c17, y22, t22, y23, t23, y24, t24, y25, e25, y26, e26, y27, e27, y28, e28, y29, e29, y30, e30, y31, e31, y32, e32, y34, t34, ex, hFn, eR⟩
    obtain ⟨rfl, rfl⟩ := Prod.mk.inj e1
    obtain ⟨rfl, rfl⟩ := Prod.mk.inj e2
    simp only at h1 h2' h4 h5
    have hy : y24.toNatClampNeg = 400 * s + I.length + k := cn_eq (by omega)
    rw [hy] at eR
    refine ⟨k + 1, by show xn.toInt = _; rw [← ex]; omega, by omega, fun j hj => ?_, fun i hi => ?_⟩
    · show G_1n.1 21 j = _
      have e : upd (G_1.1 21) (400 * s + I.length + k) y32 j = G_1.1 21 j := if_neg (by omega)
      rw [eR, e]
      exact h4 j hj
    · show G_1n.1 21 (400 * s + I.length + i) = _
      rw [eR]
      by_cases hik : i = k
      · subst hik
        have e : upd (G_1.1 21) (400 * s + I.length + i) y32 (400 * s + I.length + i) = y32 := if_pos rfl
        rw [e, e32, e31, e30, e29, e28, e27, e26, e25]
        exact encI_eq hm h2 h1 h3
      · have e : upd (G_1.1 21) (400 * s + I.length + k) y32 (400 * s + I.length + i) = G_1.1 21 (400 * s + I.length + i) := if_neg (by omega)
        rw [e]
        exact h5 i (by omega))
  obtain ⟨k, hk, hkw, h4, h5⟩ := hI
  simp only at hk h4 h5
  rcases hh with ⟨c1, y14, t14, y15, t15, hF1, e10⟩ | ⟨c1, y17, t17, c17, -⟩
  rotate_left
  · omega
  have hk' : k = w.toNat := by omega
  have r11 : G1.1 21 = G4.1 21 := hF1.row1 21 (by decide) (by decide)
  have r10 : G4.1 20 = G.1 20 := hF4.row1 20 (by decide) (by decide)
  rw [cn_eq hs, r10] at e10
  refine ⟨⟨?_, fun i hi => ?_⟩, fun s' q => ?_, fun j q => ?_⟩
  · have e : upd (G.1 20) s y15 s = y15 := if_pos rfl
    rw [e10, e, List.length_append, layI_len]
    omega
  · rw [List.length_append, layI_len] at hi
    rw [r11, getD_app]
    by_cases hq : i < I.length
    · rw [if_pos hq, h4 (400 * s + i) (by omega)]
      exact hS.2 i hq
    · have e9 := h5 (i - I.length) (by omega)
      rw [show 400 * s + I.length + (i - I.length) = 400 * s + i by omega] at e9
      rw [if_neg hq, layI_get (by omega)]
      refine ⟨e9, hok.1, hok.2.1, hok.2.2.1, hok.2.2.2.1, ?_, ?_, ?_, hok.2.2.2.2⟩
      · show (0 : Int) ≤ ((i - I.length : Nat) : Int)
        omega
      · show ((i - I.length : Nat) : Int) < 64
        omega
      · show (0 : Int) ≤ w
        exact hw0
  · have e : upd (G.1 20) s y15 s' = G.1 20 s' := if_neg q
    rw [e10, e]
  · rw [r11]
    exact h4 j (by omega)
theorem c_mk_2 {b : Nat → Int} {n p : Nat} {G G2 : GS} {x32 x33 : Int32} (hl : Rc (St_k_rSlab_2_2) (0, 0, G) (x32, x33, G2)) (hp : CPx b n G p) : ∃ p' v, CPx b n G2 p' ∧ p ≤ p' ∧ v < 16 ∧ x33 = Int32.ofNat v ∧ x32.toInt ≤ 4 ∧ ∀ o, Et (mkS b n) (0, p) o ↔ Et (mkS b n) (x33, p') o := by
  have hI := hl (fun q => ∃ p' v, CPx b n q.2.2 p' ∧ p ≤ p' ∧ v < 16 ∧ q.2.1 = Int32.ofNat v ∧ q.1.toInt = (pcN v : Int) ∧ ∀ o, Et (mkS b n) (0, p) o ↔ Et (mkS b n) (q.2.1, p') o) ⟨p, 0, hp, Nat.le_refl p, by decide, rfl, rfl, fun o => Iff.rfl⟩ (by
    rintro ⟨x1, v1, G_1⟩ ⟨xn, vn, G_1n⟩ ⟨p', v, h1, h2, h3, h4, h5, h6⟩ ⟨x1q, v1q, G_1q, xnq, vnq, G_1nq, e1, e2, -, -, -, c1, c2, c3, y68, t68, y69, e69, y70, e70, c70, y72, e72, r73, G74, ha, y79, t79, ex, ev, eG⟩
    obtain ⟨rfl, e1x⟩ := Prod.mk.inj e1
    obtain ⟨rfl, rfl⟩ := Prod.mk.inj e1x
    obtain ⟨rfl, e2x⟩ := Prod.mk.inj e2
    obtain ⟨rfl, rfl⟩ := Prod.mk.inj e2x
    simp only at h1 h4 h5 h6
    have k1 := h1.2.1.1
    rw [k1] at c2 c3 t68
    have hsh := sh1 t68 c2 c3
    rw [hsh] at e69
    rw [e70, e69, h4] at c70
    obtain ⟨v', g1, g2, g3⟩ := mk_ok h3 c2 c3 c70
    have hn := c_next ha h1 (by omega)
    have ht := tN_p (b := b) h1.1.2.1 h1.2.2.2
    refine ⟨tNx b n p', v', by show CPx b n G_1n _; rw [← eG]; exact hn.2, by omega, g1, by show vn = _; rw [← ev, e72, e69, h4]; exact g3, by show xn.toInt = _; rw [← ex]; omega, fun o => (h6 o).trans ?_⟩
    show _ ↔ Et (mkS b n) (vn, tNx b n p') o
    have hm : mkS b n (v1, p') = .inl (v1 ||| mkw (tK b n p'), tNx b n p') := by
      unfold mkS
      rw [if_pos ⟨c2, c3⟩, if_neg (by rw [h4]; exact fun q => q c70)]
    rw [← ev, e72, e69]
    exact Et_i hm)
  obtain ⟨p', v, h1, h2, h3, h4, h5, h6⟩ := hI
  exact ⟨p', v, h1, h2, h3, h4, by have := pc_le v h3; show x32.toInt ≤ 4; have h5' : x32.toInt = (pcN v : Int) := h5; omega, h6⟩
def SlR_2 (b : Nat → Int) (n : Nat) (J : Int) (nth s : Nat) (I : List IC) (p : Nat) (r : Int32) (G G1 : GS) : Prop := (∃ f, pSlab b n J nth I.length p = .inl f ∧ CF f r G1) ∨ (∃ vx p', pSlab b n J nth I.length p = .inr (vx, p') ∧ r.toInt = 1 ∧ CPx b n G1 p' ∧ p < p' ∧ StC_2 s (I ++ slI J nth vx) G1 ∧ KeC_2 s G G1 ∧ 1 ≤ vx.1 ∧ ((I ++ slI J nth vx).length : Int) ≤ 400)
theorem c_slab_2 {b : Nat → Int} {n : Nat} {J : Int} {nth s : Nat} {I : List IC} {p : Nat} {p0 p1 r : Int32} {G G1 : GS} (h : P_rSlab_2 p0 p1 G r G1) (hp : CPx b n G p) (hs : (G.1 2 9).toInt = (s : Int)) (hs3 : s < 3) (hS : StC_2 s I G) (h0 : p0.toInt = (nth : Int)) (h1 : p1.toInt = J) (hn4 : nth ≤ 400) (hJ0 : 0 ≤ J) (hJ9 : J ≤ 9) : SlR_2 b n J nth s I p r G G1 := by
  obtain ⟨-, -, -, w3, G4, hj, -, -, -, y10, e10, y11, t11, y12, t12, y13, t13, r15, G16, hn, hh⟩ := h
  have hG4 : G = G4 ∧ w3.toInt = ahd J nth := by
    unfold ahd
    rcases hj with ⟨c, e1, e2⟩ | ⟨c, e1, e2⟩
    · rw [if_pos (by omega), ← e1]
      exact ⟨e2, rfl⟩
    · rw [if_neg (by omega), ← e1]
      exact ⟨e2, h1⟩
  obtain ⟨rfl, hw3⟩ := hG4
  clear hj
  have har := ahd_r (nth := nth) hJ0 hJ9
  rw [cn_eq hs] at e10
  have h10 : y10.toInt = (I.length : Int) := by rw [e10]; exact hS.1
  have h13 : y13.toInt = rmx (400 - (I.length : Int) - ahd J nth) := by
    clear hh
    unfold rmx
    by_cases hq : 60 ≤ 400 - (I.length : Int) - ahd J nth
    · rw [if_pos hq]
      omega
    · rw [if_neg hq]
      omega
  have h60 : y13.toInt ≤ 60 := by clear hh; omega
  have h13' : y13.toInt ≤ 400 - (I.length : Int) - ahd J nth := by clear hh; omega
  rcases c_isNum hn hp with ⟨f, hf, hC⟩ | ⟨hv, hr, hp2, e9, hk, hl1, hl2⟩
  · rw [h13] at hf
    rcases hh with ⟨c, rfl, rfl⟩ | ⟨c, -⟩
    · exact Or.inl ⟨f, bnd_l hf, rfl, hC.2⟩
    · exact absurd hC.1 c
  rw [h13] at hv
  rcases hh with ⟨c, -⟩ | ⟨c, r22, G23, ha, x32, x33, G28, hl, -, -, -, hF28, hh⟩
  · omega
  have hn2 := c_next ha hp2 (by omega)
  have htn := tN_p (b := b) hp.1.2.1 hp.2.2.2
  have htp : p < tNx b n p := (htn.2.2 (by omega)).1
  obtain ⟨p', v, hp3, hpp, hv16, hx33, hx4, hEt⟩ := c_mk_2 hl hn2.2
  have k3 := hp3.2.1.1
  have hs28 : (G28.1 2 9).toInt = (s : Int) := by
    rw [hF28.i 2 9 (by decide) (by decide), ha.2.1.i 2 9 (by decide) (by decide), hn.2.1.i 2 9 (by decide) (by decide)]
    exact hs
  have hS28 : StC_2 s I G28 := ((hS.fr hn.2.1 (by decide) (by decide) (by decide) (by decide)).fr ha.2.1 (by decide) (by decide) (by decide) (by decide)).fr hF28 (by decide) (by decide) (by decide) (by decide)
  have hK28 : KeC_2 s G G28 := ((KeC_2.of hn.2.1 (by decide) (by decide) (by decide) (by decide)).tr (KeC_2.of ha.2.1 (by decide) (by decide) (by decide) (by decide))).tr (KeC_2.of hF28 (by decide) (by decide) (by decide) (by decide))
  rcases hh with ⟨-, c2, c3, y68, t68, y69, e69, y70, e70, c70, r80, G81, hrf, rfl, rfl⟩ | ⟨G44, hj, -, -, hh⟩
  · rw [k3] at c2 c3 t68
    rw [sh1 t68 c2 c3] at e69
    have hm : mkS b n (x33, p') = .inr (.inl (fl b n 2 p')) := by
      unfold mkS
      rw [if_pos ⟨c2, c3⟩, if_pos (by rw [← e69, ← e70]; exact c70)]
    have hmk : pMk b n (tNx b n p) = .inl (fl b n 2 p') := run_eq ((hEt _).mpr ((Et_r hm).mpr rfl))
    exact Or.inl ⟨fl b n 2 p', (bnd_r hv).trans (bnd_l hmk), (c_ref hrf hp3).1⟩
  · have hj2 : G28 = G44 ∧ ¬ (140 ≤ tK b n p' ∧ tK b n p' ≤ 143) := by
      rw [← k3]
      rcases hj with ⟨c, -⟩ | ⟨c, ⟨d, e⟩ | ⟨d, d2, e⟩⟩
      · omega
      · exact ⟨e, by omega⟩
      · exact ⟨e, by omega⟩
    obtain ⟨rfl, hno⟩ := hj2
    clear hj
    have hm : mkS b n (x33, p') = .inr (.inr (x33, p')) := by
      unfold mkS
      rw [if_neg hno]
    have hmk : pMk b n (tNx b n p) = .inr (x33, p') := run_eq ((hEt _).mpr ((Et_r hm).mpr rfl))
    have hps : pSlab b n J nth I.length p = .inr ((tV b n p, x33), p') := (bnd_r hv).trans (bnd_r hmk)
    have hx0 : x33.toInt = (v : Int) := by rw [hx33]; exact ofN_16 v hv16
    have hl1' : 1 ≤ tV b n p := hl1
    have hlen : ((I ++ slI J nth (tV b n p, x33)).length : Int) ≤ 400 := by
      rw [List.length_append, slI_len]
      show ((I.length + ((ahd J nth).toNat + (tV b n p).toNat) : Nat) : Int) ≤ 400
      omega
    rcases hh with ⟨c0, G50, hla, rfl, rfl⟩ | ⟨c0, y54, t54, G56, hla1, G61, hla2, rfl, rfl⟩
    · have hn0 : nth = 0 := by omega
      subst hn0
      obtain ⟨k1, k2⟩ := c_lay_2 (m := x33.toInt) (nth := 0) (w := tV b n p) hla hs28 hs3 hS28 (Or.inr ⟨rfl, rfl, by omega⟩) h0 e9 (by omega) (by omega) ⟨by omega, by omega, by omega, by omega, by omega⟩
      refine Or.inr ⟨_, p', hps, rfl, hp3.fr hla.2.1 (by decide) (by decide) (by decide) (by decide), by omega, ?_, hK28.tr k2, hl1', hlen⟩
      rw [slI_0]
      exact k1
    · have e16 : (G16.1 5 9).toInt = tV b n p := e9
      obtain ⟨k1, k2⟩ := c_lay_2 (m := -1) (nth := (nth : Int) - 1) (w := ahd J nth) hla1 hs28 hs3 hS28 (Or.inl ⟨rfl, rfl, rfl⟩) (by omega) hw3 har.1 (by omega) ⟨by omega, by omega, by omega, by omega, by omega⟩
      have hs56 : (G56.1 2 9).toInt = (s : Int) := by
        rw [hla1.2.1.i 2 9 (by decide) (by decide)]
        exact hs28
      obtain ⟨k3', k4⟩ := c_lay_2 (m := x33.toInt) (nth := (nth : Int)) (w := tV b n p) hla2 hs56 hs3 k1 (Or.inr ⟨rfl, rfl, by omega⟩) h0 e16 (by omega) (by rw [List.length_append, layI_len]; omega) ⟨by omega, by omega, by omega, by omega, by omega⟩
      refine Or.inr ⟨_, p', hps, rfl, (hp3.fr hla1.2.1 (by decide) (by decide) (by decide) (by decide)).fr hla2.2.1 (by decide) (by decide) (by decide) (by decide), by omega, ?_, (hK28.tr k2).tr k4, hl1', hlen⟩
      rw [List.append_assoc] at k3'
      exact k3'

/-! lines by the program -/
def smi {α : Type} (b : Nat → Int) (n : Nat) (o : Rs α) : Rs α := bnd o fun x q => bnd (pKw b n 59 q) fun _ q => .inr (x, q)
theorem smi_l {α : Type} {b : Nat → Int} {n : Nat} {o : Rs α} {f : Int × Int} (h : o = .inl f) : smi b n o = .inl f := by subst h; rfl
theorem smi_r {α : Type} {b : Nat → Int} {n : Nat} {o : Rs α} {x : α} {q : Nat} (h : o = .inr (x, q)) : smi b n o = bnd (pKw b n 59 q) fun _ q => .inr (x, q) := by subst h; rfl
theorem smi_b {α β : Type} {b : Nat → Int} {n : Nat} {o : Rs α} {F : α → β} : smi b n (bnd o fun x q => .inr (F x, q)) = bnd (smi b n o) fun x q => .inr (F x, q) := by
  cases o with
  | inl f => rfl
  | inr x =>
    obtain ⟨x, q⟩ := x
    show bnd (pKw b n 59 q) (fun _ q => .inr (F x, q)) = bnd (bnd (pKw b n 59 q) (fun _ q => .inr (x, q))) (fun x q => .inr (F x, q))
    cases pKw b n 59 q with
    | inl f => rfl
    | inr y => rfl
def LnC {α : Type} (b : Nat → Int) (n p : Nat) (o : Rs α) (r : Int32) (G1 : GS) (K : α → Prop) : Prop := (∃ f, o = .inl f ∧ CF f r G1) ∨ (∃ x p', o = .inr (x, p') ∧ r.toInt = 1 ∧ CPx b n G1 p' ∧ p < p' ∧ K x)
theorem c_semi {α : Type} {b : Nat → Int} {n p q : Nat} {o : Rs α} {x : α} {r : Int32} {G G1 : GS} {K : α → Prop} (h : P_tPass 59 G r G1) (hp : CPx b n G q) (ho : o = .inr (x, q)) (hpq : p < q) (hK : Fr [] [(3, 2), (3, 3), (3, 4), (3, 5), (3, 6), (3, 7), (3, 8)] G G1 → K x) : LnC b n p (smi b n o) r G1 K := by
  have ht := tN_p (b := b) hp.1.2.1 hp.2.2.2
  rcases c_pass h hp (by decide) with ⟨f, hf, hC⟩ | ⟨e, hr, hp2⟩
  · exact Or.inl ⟨f, (smi_r ho).trans (bnd_l hf), hC⟩
  · exact Or.inr ⟨x, tNx b n q, (smi_r ho).trans (bnd_r e), hr, hp2, by omega, hK h.2.1⟩
def fcd (R : VR) : List (Int × Int) := (R.map (fun x => x.2)).flatten
theorem fcd_snoc {R : VR} {x : List Int × List (Int × Int)} : fcd (R ++ [x]) = fcd R ++ x.2 := by simp [fcd]
def cap (k : Nat) : Int := if k ≤ 580 then (k : Int) else 580
theorem take_snoc {α : Type} {R : List α} {x : α} {k : Nat} (h : k ≤ R.length) : (R ++ [x]).take k = R.take k := List.take_append_of_le_length h
theorem take_all {α : Type} {R : List α} {x : α} : (R ++ [x]).take (R.length + 1) = R ++ [x] := List.take_of_length_le (by simp)
theorem getD_snl {α : Type} {S : List α} {x d : α} {k : Nat} (h : k < S.length) : (S ++ [x]).getD k d = S.getD k d := by rw [getD_sn, if_pos h]
theorem getD_snr {α : Type} {S : List α} {x d : α} : (S ++ [x]).getD S.length d = x := by rw [getD_sn, if_neg (Nat.lt_irrefl _), if_pos rfl]
def SlpC (R : Nat) (o : Option (Int × Int × Int)) (G : GS) : Prop := (o.isNone = true ↔ (G.1 5 6).toInt = 0) ∧ (G.1 R 0).toInt = (o.getD (0, 1, 0)).1 ∧ (G.1 R 1).toInt = (o.getD (0, 1, 0)).2.1 ∧ (G.1 R 2).toInt = (o.getD (0, 1, 0)).2.2
def HndC (P : Nat) (o : Option (Int × Int)) (G : GS) : Prop := (o.isNone = true ↔ (G.1 5 7).toInt = 0) ∧ (G.1 P 14).toInt = (o.getD (30, 10)).1 ∧ (G.1 P 15).toInt = (o.getD (30, 10)).2
def DrwC (P : Nat) (o : Option Int) (G : GS) : Prop := (o.isNone = true ↔ (G.1 5 8).toInt = 0) ∧ (G.1 P 16).toInt = o.getD 0
theorem SlpC.fr {R : Nat} {o : Option (Int × Int × Int)} {rs : List Nat} {fs : List (Nat × Nat)} {G G1 : GS} (h : SlpC R o G) (hF : Fr rs fs G G1) (h1 : 5 ∉ rs) (h2 : (5, 6) ∉ fs) (h3 : R ∉ rs) (h4 : ∀ x ∈ fs, x.1 ≠ R) : SlpC R o G1 := by
  unfold SlpC at h ⊢
  rw [hF.i 5 6 h1 h2, hF.row1 R h3 h4]
  exact h
theorem HndC.fr {P : Nat} {o : Option (Int × Int)} {rs : List Nat} {fs : List (Nat × Nat)} {G G1 : GS} (h : HndC P o G) (hF : Fr rs fs G G1) (h1 : 5 ∉ rs ∧ P ∉ rs) (h2 : (5, 7) ∉ fs ∧ (P, 14) ∉ fs ∧ (P, 15) ∉ fs) : HndC P o G1 := by
  unfold HndC at h ⊢
  rw [hF.i 5 7 h1.1 h2.1, hF.i P 14 h1.2 h2.2.1, hF.i P 15 h1.2 h2.2.2]
  exact h
theorem DrwC.fr {P : Nat} {o : Option Int} {rs : List Nat} {fs : List (Nat × Nat)} {G G1 : GS} (h : DrwC P o G) (hF : Fr rs fs G G1) (h1 : 5 ∉ rs ∧ P ∉ rs) (h2 : (5, 8) ∉ fs ∧ (P, 16) ∉ fs) : DrwC P o G1 := by
  unfold DrwC at h ⊢
  rw [hF.i 5 8 h1.1 h2.1, hF.i P 16 h1.2 h2.2]
  exact h
def StsC_1 (S : VS) (G : GS) : Prop := (G.1 1 9).toInt = (S.length : Int) ∧ NmC 34 (nms S) G ∧ ∀ s, s < S.length → StC_1 s (S.getD s ([], [])).2 G ∧ ((S.getD s ([], [])).2.length : Int) ≤ 400
def WkC_1 (k : Nat) (x : WK) (G : GS) : Prop := (G.1 12 k).toInt = x.1 ∧ (G.1 13 k).toInt = x.2.1 ∧ (G.1 14 k).toInt = x.2.2.1 ∧ (G.1 15 k).toInt = x.2.2.2
def WksC_1 (W : VW) (G : GS) : Prop := (G.1 1 10).toInt = (W.length : Int) ∧ NmC 35 (nms W) G ∧ ∀ k, k < W.length → WkC_1 k (W.getD k ([], 0, 0, 0, 0)).2 G
def EndC_1 (R : VR) (G : GS) : Prop := ∀ k, k < R.length → (G.1 18 k).toInt = cap (fcd (R.take k)).length ∧ (G.1 18 (k + 1)).toInt = cap (fcd (R.take (k + 1))).length
def RlsC_1 (R : VR) (w : Int) (G : GS) : Prop := (G.1 1 11).toInt = (R.length : Int) ∧ NmC 36 (nms R) G ∧ (G.1 1 12).toInt = w ∧ 0 ≤ w ∧ w ≤ 90 ∧ CodeC_1 0 (fcd R) G ∧ EndC_1 R G
def CV_1 (V : PV) (G : GS) : Prop := StsC_1 V.1 G ∧ WksC_1 V.2.1 G ∧ RlsC_1 V.2.2.1 V.2.2.2.1 G ∧ SlpC 16 V.2.2.2.2.1 G ∧ HndC 1 V.2.2.2.2.2.1 G ∧ DrwC 1 V.2.2.2.2.2.2 G
theorem StsC_1.fr {S : VS} {rs : List Nat} {fs : List (Nat × Nat)} {G G1 : GS} (h : StsC_1 S G) (hF : Fr rs fs G G1) (h1 : 1 ∉ rs ∧ 10 ∉ rs ∧ 11 ∉ rs ∧ 34 ∉ rs) (h2 : (1, 9) ∉ fs) (h3 : ∀ x ∈ fs, x.1 ≠ 10 ∧ x.1 ≠ 11 ∧ x.1 ≠ 34) : StsC_1 S G1 := by
  obtain ⟨a1, a2, a3⟩ := h
  refine ⟨by rw [hF.i 1 9 h1.1 h2]; exact a1, a2.fr hF h1.2.2.2 (fun x hx => (h3 x hx).2.2), fun s hs => ⟨(a3 s hs).1.fr hF h1.2.1 (fun x hx => (h3 x hx).1) h1.2.2.1 (fun x hx => (h3 x hx).2.1), (a3 s hs).2⟩⟩
theorem WksC_1.fr {W : VW} {rs : List Nat} {fs : List (Nat × Nat)} {G G1 : GS} (h : WksC_1 W G) (hF : Fr rs fs G G1) (h1 : 1 ∉ rs ∧ 12 ∉ rs ∧ 13 ∉ rs ∧ 14 ∉ rs ∧ 15 ∉ rs ∧ 35 ∉ rs) (h2 : (1, 10) ∉ fs) (h3 : ∀ x ∈ fs, x.1 ≠ 12 ∧ x.1 ≠ 13 ∧ x.1 ≠ 14 ∧ x.1 ≠ 15 ∧ x.1 ≠ 35) : WksC_1 W G1 := by
  obtain ⟨a1, a2, a3⟩ := h
  refine ⟨by rw [hF.i 1 10 h1.1 h2]; exact a1, a2.fr hF h1.2.2.2.2.2 (fun x hx => (h3 x hx).2.2.2.2), fun k hk => ?_⟩
  have h4 := a3 k hk
  unfold WkC_1 at h4 ⊢
  rw [hF.row1 12 h1.2.1 (fun x hx => (h3 x hx).1), hF.row1 13 h1.2.2.1 (fun x hx => (h3 x hx).2.1), hF.row1 14 h1.2.2.2.1 (fun x hx => (h3 x hx).2.2.1), hF.row1 15 h1.2.2.2.2.1 (fun x hx => (h3 x hx).2.2.2.1)]
  exact h4
theorem RlsC_1.fr {R : VR} {w : Int} {rs : List Nat} {fs : List (Nat × Nat)} {G G1 : GS} (h : RlsC_1 R w G) (hF : Fr rs fs G G1) (h1 : 1 ∉ rs ∧ 17 ∉ rs ∧ 18 ∉ rs ∧ 36 ∉ rs) (h2 : (1, 11) ∉ fs ∧ (1, 12) ∉ fs ∧ (1, 13) ∉ fs) (h3 : ∀ x ∈ fs, x.1 ≠ 17 ∧ x.1 ≠ 18 ∧ x.1 ≠ 36) : RlsC_1 R w G1 := by
  obtain ⟨a1, a2, a3, a4, a5, a6, a7⟩ := h
  refine ⟨by rw [hF.i 1 11 h1.1 h2.1]; exact a1, a2.fr hF h1.2.2.2 (fun x hx => (h3 x hx).2.2), by rw [hF.i 1 12 h1.1 h2.2.1]; exact a3, a4, a5, a6.fr hF h1.1 h2.2.2 h1.2.1 (fun x hx => (h3 x hx).1), ?_⟩
  unfold EndC_1 at a7 ⊢
  rw [hF.row1 18 h1.2.2.1 (fun x hx => (h3 x hx).2.1)]
  exact a7
theorem c_street_1 {b : Nat → Int} {n p : Nat} {r : Int32} {G G1 : GS} {NS : List (List Int)} (h : P_rStreet_1 G r G1) (hp : CPx b n G p) (hk : tK b n p ≠ 202) (hk3 : tK b n p ≠ 203) (hN : NmC 34 NS G) (hm : (G.1 1 9).toInt = (NS.length : Int)) : (3 ≤ NS.length ∧ CF (fl b n 2 p) r G1) ∨ (NS.length < 3 ∧ LnC b n p (smi b n (pStreet b n NS p)) r G1 (fun x => NmC 34 (NS ++ [x.1]) G1 ∧ (G1.1 1 9).toInt = (NS.length : Int) + 1 ∧ StC_1 NS.length x.2 G1 ∧ KeC_1 NS.length G G1 ∧ (x.2.length : Int) ≤ 400)) := by
  obtain ⟨-, -, -, w3, G5, hj, -, -, -, -, r12, G13, hf1, hh⟩ := h
  have hj2 : G = G5 ∧ ((3 ≤ NS.length ∧ w3.toInt = 0) ∨ (NS.length < 3 ∧ w3.toInt = 1)) := by
    rcases hj with ⟨c, e1, e2⟩ | ⟨c, e1, e2⟩
    · exact ⟨e2, Or.inl ⟨by omega, by rw [← e1]; rfl⟩⟩
    · exact ⟨e2, Or.inr ⟨by omega, by rw [← e1]; rfl⟩⟩
  obtain ⟨rfl, hj3⟩ := hj2
  clear hj
  have ht := tN_p (b := b) hp.1.2.1 hp.2.2.2
  have htp := (ht.2.2 hk3).1
  rcases c_first hf1 hp hk with ⟨hm0, hC⟩ | ⟨hm1, hr, hp2⟩
  · rcases hh with ⟨c, rfl, rfl⟩ | ⟨c, -⟩
    · exact Or.inl ⟨by omega, rfl, hC.2⟩
    · exact absurd hC.1 c
  have hlt : NS.length < 3 := by omega
  refine Or.inr ⟨hlt, ?_⟩
  rcases hh with ⟨c, -⟩ | ⟨c, r19, G20, hnm, hh⟩
  · omega
  rcases c_name_34 hnm hp2 (hN.fr hf1.2.1 (by decide) (by decide)) hm hlt with ⟨f, hf, hC⟩ | ⟨e1, hr19, hp3, hN20⟩
  · rcases hh with ⟨c, rfl, rfl⟩ | ⟨c, -⟩
    · exact Or.inl ⟨f, smi_l (by unfold pStreet; exact bnd_l hf), rfl, hC.2⟩
    · exact absurd hC.1 c
  rcases hh with ⟨c, -⟩ | ⟨c, r26, G27, hps, hh⟩
  · omega
  have ht3 := tN_p (b := b) hp2.1.2.1 hp2.2.2.2
  rcases c_pass hps hp3 (by decide) with ⟨f, hf, hC⟩ | ⟨e2, hr26, hp4⟩
  · rcases hh with ⟨c, rfl, rfl⟩ | ⟨c, -⟩
    · exact Or.inl ⟨f, smi_l (by unfold pStreet; exact (bnd_r e1).trans (bnd_l hf)), rfl, hC.2⟩
    · exact absurd hC.1 c
  rcases hh with ⟨c, -⟩ | ⟨c, r35, G36, hnu, hh⟩
  · omega
  have ht4 := tN_p (b := b) hp3.1.2.1 hp3.2.2.2
  rcases c_num hnu hp4 with ⟨f, hf, hC⟩ | ⟨e3, hr35, hp5, e59, hlo, hhi⟩
  · rcases hh with ⟨c, rfl, rfl⟩ | ⟨c, -⟩
    · exact Or.inl ⟨f, smi_l (by unfold pStreet; exact (bnd_r e1).trans ((bnd_r e2).trans (bnd_l hf))), rfl, hC.2⟩
    · exact absurd hC.1 c
  rcases hh with ⟨c, -⟩ | ⟨c, G42, -, hF42, e42, x47, G43, hl, -, -, -, hF43, hh⟩
  · omega
  have ht5 := tN_p (b := b) hp4.1.2.1 hp4.2.2.2
  have hlo' : 0 ≤ tV b n (tNx b n (tNx b n (tNx b n p))) := hlo
  have hhi' : tV b n (tNx b n (tNx b n (tNx b n p))) ≤ 9 := hhi
  rw [cn_eq hm] at e42
  have hK36 : KeC_1 NS.length G G36 := (((KeC_1.of hf1.2.1 (by decide) (by decide) (by decide) (by decide)).tr (KeC_1.of hnm.2.1 (by decide) (by decide) (by decide) (by decide))).tr (KeC_1.of hps.2.1 (by decide) (by decide) (by decide) (by decide))).tr (KeC_1.of hnu.2.1 (by decide) (by decide) (by decide) (by decide))
  have hK42 : KeC_1 NS.length G G42 := hK36.tr ⟨fun s' q => by rw [e42]; exact if_neg q, fun j q => by rw [hF42.row1 11 (by decide) (by decide)]⟩
  have h9 : (G42.1 1 9).toInt = (NS.length : Int) := by
    rw [hF42.i 1 9 (by decide) (by decide), hnu.2.1.i 1 9 (by decide) (by decide), hps.2.1.i 1 9 (by decide) (by decide), hnm.2.1.i 1 9 (by decide) (by decide), hf1.2.1.i 1 9 (by decide) (by decide)]
    exact hm
  have hS42 : StC_1 NS.length [] G42 := ⟨by rw [e42, show upd (G36.1 10) NS.length 0 NS.length = 0 from if_pos rfl]; rfl, fun i hi => absurd hi (Nat.not_lt_zero i)⟩
  have hp42 : CPx b n G42 (tNx b n (tNx b n (tNx b n (tNx b n p)))) := hp5.fr hF42 (by decide) (by decide) (by decide) (by decide)
  have hN42 : NmC 34 (NS ++ [tL b n (tNx b n p)]) G42 := ((hN20.fr hps.2.1 (by decide) (by decide)).fr hnu.2.1 (by decide) (by decide)).fr hF42 (by decide) (by decide)
  generalize hJ : tV b n (tNx b n (tNx b n (tNx b n p))) = J at *
  generalize hpq : tNx b n (tNx b n (tNx b n (tNx b n p))) = p5 at *
  have hI := hl (fun q => ∃ (nth : Nat) (I : List IC) (p' : Nat), q.1.toInt = (nth : Int) ∧ CPx b n q.2 p' ∧ p5 ≤ p' ∧ (q.2.1 1 9).toInt = (NS.length : Int) ∧ StC_1 NS.length I q.2 ∧ KeC_1 NS.length G q.2 ∧ (I.length : Int) ≤ 400 ∧ nth ≤ I.length ∧ ∀ o, Et (slS b n J) (0, [], p5) o ↔ Et (slS b n J) (nth, I, p') o) ⟨0, [], p5, rfl, hp42, Nat.le_refl _, h9, hS42, hK42, by decide, Nat.le_refl _, fun o => Iff.rfl⟩ (by
    rintro ⟨x1, G_1⟩ ⟨xn, G_1n⟩ ⟨nth, I, p', g1, g2, g3, g4, g5, g6, g7, g8, g9⟩ ⟨x1q, G_1q, xnq, G_1nq, q1, q2, -, -, -, c1, hd⟩
    obtain ⟨rfl, rfl⟩ := Prod.mk.inj q1
    obtain ⟨rfl, rfl⟩ := Prod.mk.inj q2
    simp only at g1 g2 g4 g5 g6
    have hd2 : (nth = 0 ∨ tK b n p' = 201) ∧ ∃ (r7 : Int32), P_rSlab_1 x1 (G36.1 5 9) G_1 r7 G_1n ∧ r7.toInt ≠ 0 ∧ xn.toInt = x1.toInt + 1 := by
      rw [← g2.2.1.1]
      rcases hd with ⟨d0, r7, G7, d1, d2, y7, d3, d4, d5⟩ | ⟨d0, d6, r7, G7, d1, d2, y7, d3, d4, d5⟩
      · subst d5
        exact ⟨Or.inl (by omega), r7, d1, d2, by rw [← d4]; exact d3⟩
      · subst d5
        exact ⟨Or.inr d6, r7, d1, d2, by rw [← d4]; exact d3⟩
    clear hd
    obtain ⟨hc, r7, d1, d2, d3⟩ := hd2
    rcases c_slab_1 d1 g2 g4 hlt g5 g1 e59 (by omega) hlo' hhi' with ⟨f, s1, s2⟩ | ⟨vx, p2, s1, s2, s3, s4, s5, s6, s7, s8⟩
    · exact absurd s2.1 d2
    · have hsl : slS b n J (nth, I, p') = .inl (nth + 1, I ++ slI J nth vx, p2) := slS_r hc s1
      have hle : nth + 1 ≤ (I ++ slI J nth vx).length := by
        rw [List.length_append, slI_len]
        omega
      refine ⟨nth + 1, I ++ slI J nth vx, p2, by show xn.toInt = _; omega, s3, by omega, ?_, s5, g6.tr s6, s8, hle, fun o => (g9 o).trans (Et_i hsl)⟩
      show (G_1n.1 1 9).toInt = _
      rw [d1.2.1.i 1 9 (by decide) (by decide)]
      exact g4)
  obtain ⟨nth, I, p', g1, g2, g3, g4, g5, g6, g7, g8, g9⟩ := hI
  simp only at g1 g2 g4 g5 g6
  rcases hh with ⟨c1, hd⟩ | ⟨G56, hj, -, -, r60, G61, hps2, hh⟩
  · have hd2 : (nth = 0 ∨ tK b n p' = 201) ∧ ∃ (r7 : Int32), P_rSlab_1 x47 (G36.1 5 9) G43 r7 G1 ∧ r7.toInt = 0 ∧ 0 = r := by
      rw [← g2.2.1.1]
      rcases hd with ⟨d0, r7, G7, d1, d2, d4, d5⟩ | ⟨d0, d6, r7, G7, d1, d2, d4, d5⟩
      · subst d5
        exact ⟨Or.inl (by omega), r7, d1, d2, d4⟩
      · subst d5
        exact ⟨Or.inr d6, r7, d1, d2, d4⟩
    clear hd
    obtain ⟨hc, r7, d1, d2, rfl⟩ := hd2
    rcases c_slab_1 d1 g2 g4 hlt g5 g1 e59 (by omega) hlo' hhi' with ⟨f, s1, s2⟩ | ⟨vx, p2, s1, s2, -⟩
    · have hsl : slS b n J (nth, I, p') = .inr (.inl f) := slS_l hc s1
      have hpl : pSls b n J p5 = .inl f := run_eq ((g9 _).mpr ((Et_r hsl).mpr rfl))
      exact Or.inl ⟨f, smi_l (by unfold pStreet; exact (bnd_r e1).trans ((bnd_r e2).trans ((bnd_r e3).trans (bnd_l hpl)))), rfl, s2.2⟩
    · omega
  · have hj2 : G43 = G56 ∧ ¬ (nth = 0 ∨ tK b n p' = 201) := by
      rw [← g2.2.1.1]
      rcases hj with ⟨c, -⟩ | ⟨c, d, d2, e⟩
      · omega
      · exact ⟨e, by omega⟩
    obtain ⟨rfl, hc⟩ := hj2
    clear hj
    have hsl : slS b n J (nth, I, p') = .inr (.inr (I, p')) := by
      unfold slS
      rw [if_neg hc]
    have hpl : pSls b n J p5 = .inr (I, p') := run_eq ((g9 _).mpr ((Et_r hsl).mpr rfl))
    have hst : pStreet b n NS p = .inr ((tL b n (tNx b n p), I), p') := by
      unfold pStreet
      exact (bnd_r e1).trans ((bnd_r e2).trans ((bnd_r e3).trans (bnd_r hpl)))
    rcases hh with ⟨c, rfl, rfl⟩ | ⟨c, y67, t67, rfl, hFe, e9e⟩
    · rcases c_semi (p := p) (K := fun _ => True) hps2 g2 hst (by omega) (fun _ => trivial) with ⟨f, s1, s2⟩ | ⟨x, p2, s1, s2, -⟩
      · exact Or.inl ⟨f, s1, rfl, s2.2⟩
      · omega
    · rcases c_semi (p := p) (K := fun x => x = (tL b n (tNx b n p), I)) hps2 g2 hst (by omega) (fun _ => rfl) with ⟨f, s1, s2⟩ | ⟨x, p2, s1, s2, s3, s4, s5⟩
      · exact absurd s2.1 c
      · subst s5
        refine Or.inr ⟨_, p2, s1, rfl, s3.fr hFe (by decide) (by decide) (by decide) (by decide), s4, ((hN42.fr hF43 (by decide) (by decide)).fr hps2.2.1 (by decide) (by decide)).fr hFe (by decide) (by decide), by rw [e9e]; omega, (g5.fr hps2.2.1 (by decide) (by decide) (by decide) (by decide)).fr hFe (by decide) (by decide) (by decide) (by decide), (g6.tr (KeC_1.of hps2.2.1 (by decide) (by decide) (by decide) (by decide))).tr (KeC_1.of hFe (by decide) (by decide) (by decide) (by decide)), g7⟩
def StsC_2 (S : VS) (G : GS) : Prop := (G.1 2 9).toInt = (S.length : Int) ∧ NmC 34 (nms S) G ∧ ∀ s, s < S.length → StC_2 s (S.getD s ([], [])).2 G ∧ ((S.getD s ([], [])).2.length : Int) ≤ 400
def WkC_2 (k : Nat) (x : WK) (G : GS) : Prop := (G.1 22 k).toInt = x.1 ∧ (G.1 23 k).toInt = x.2.1 ∧ (G.1 24 k).toInt = x.2.2.1 ∧ (G.1 25 k).toInt = x.2.2.2
def WksC_2 (W : VW) (G : GS) : Prop := (G.1 2 10).toInt = (W.length : Int) ∧ NmC 35 (nms W) G ∧ ∀ k, k < W.length → WkC_2 k (W.getD k ([], 0, 0, 0, 0)).2 G
def EndC_2 (R : VR) (G : GS) : Prop := ∀ k, k < R.length → (G.1 28 k).toInt = cap (fcd (R.take k)).length ∧ (G.1 28 (k + 1)).toInt = cap (fcd (R.take (k + 1))).length
def RlsC_2 (R : VR) (w : Int) (G : GS) : Prop := (G.1 2 11).toInt = (R.length : Int) ∧ NmC 36 (nms R) G ∧ (G.1 2 12).toInt = w ∧ 0 ≤ w ∧ w ≤ 90 ∧ CodeC_2 0 (fcd R) G ∧ EndC_2 R G
def CV_2 (V : PV) (G : GS) : Prop := StsC_2 V.1 G ∧ WksC_2 V.2.1 G ∧ RlsC_2 V.2.2.1 V.2.2.2.1 G ∧ SlpC 26 V.2.2.2.2.1 G ∧ HndC 2 V.2.2.2.2.2.1 G ∧ DrwC 2 V.2.2.2.2.2.2 G
theorem StsC_2.fr {S : VS} {rs : List Nat} {fs : List (Nat × Nat)} {G G1 : GS} (h : StsC_2 S G) (hF : Fr rs fs G G1) (h1 : 2 ∉ rs ∧ 20 ∉ rs ∧ 21 ∉ rs ∧ 34 ∉ rs) (h2 : (2, 9) ∉ fs) (h3 : ∀ x ∈ fs, x.1 ≠ 20 ∧ x.1 ≠ 21 ∧ x.1 ≠ 34) : StsC_2 S G1 := by
  obtain ⟨a1, a2, a3⟩ := h
  refine ⟨by rw [hF.i 2 9 h1.1 h2]; exact a1, a2.fr hF h1.2.2.2 (fun x hx => (h3 x hx).2.2), fun s hs => ⟨(a3 s hs).1.fr hF h1.2.1 (fun x hx => (h3 x hx).1) h1.2.2.1 (fun x hx => (h3 x hx).2.1), (a3 s hs).2⟩⟩
theorem WksC_2.fr {W : VW} {rs : List Nat} {fs : List (Nat × Nat)} {G G1 : GS} (h : WksC_2 W G) (hF : Fr rs fs G G1) (h1 : 2 ∉ rs ∧ 22 ∉ rs ∧ 23 ∉ rs ∧ 24 ∉ rs ∧ 25 ∉ rs ∧ 35 ∉ rs) (h2 : (2, 10) ∉ fs) (h3 : ∀ x ∈ fs, x.1 ≠ 22 ∧ x.1 ≠ 23 ∧ x.1 ≠ 24 ∧ x.1 ≠ 25 ∧ x.1 ≠ 35) : WksC_2 W G1 := by
  obtain ⟨a1, a2, a3⟩ := h
  refine ⟨by rw [hF.i 2 10 h1.1 h2]; exact a1, a2.fr hF h1.2.2.2.2.2 (fun x hx => (h3 x hx).2.2.2.2), fun k hk => ?_⟩
  have h4 := a3 k hk
  unfold WkC_2 at h4 ⊢
  rw [hF.row1 22 h1.2.1 (fun x hx => (h3 x hx).1), hF.row1 23 h1.2.2.1 (fun x hx => (h3 x hx).2.1), hF.row1 24 h1.2.2.2.1 (fun x hx => (h3 x hx).2.2.1), hF.row1 25 h1.2.2.2.2.1 (fun x hx => (h3 x hx).2.2.2.1)]
  exact h4
theorem RlsC_2.fr {R : VR} {w : Int} {rs : List Nat} {fs : List (Nat × Nat)} {G G1 : GS} (h : RlsC_2 R w G) (hF : Fr rs fs G G1) (h1 : 2 ∉ rs ∧ 27 ∉ rs ∧ 28 ∉ rs ∧ 36 ∉ rs) (h2 : (2, 11) ∉ fs ∧ (2, 12) ∉ fs ∧ (2, 13) ∉ fs) (h3 : ∀ x ∈ fs, x.1 ≠ 27 ∧ x.1 ≠ 28 ∧ x.1 ≠ 36) : RlsC_2 R w G1 := by
  obtain ⟨a1, a2, a3, a4, a5, a6, a7⟩ := h
  refine ⟨by rw [hF.i 2 11 h1.1 h2.1]; exact a1, a2.fr hF h1.2.2.2 (fun x hx => (h3 x hx).2.2), by rw [hF.i 2 12 h1.1 h2.2.1]; exact a3, a4, a5, a6.fr hF h1.1 h2.2.2 h1.2.1 (fun x hx => (h3 x hx).1), ?_⟩
  unfold EndC_2 at a7 ⊢
  rw [hF.row1 28 h1.2.2.1 (fun x hx => (h3 x hx).2.1)]
  exact a7
theorem c_street_2 {b : Nat → Int} {n p : Nat} {r : Int32} {G G1 : GS} {NS : List (List Int)} (h : P_rStreet_2 G r G1) (hp : CPx b n G p) (hk : tK b n p ≠ 202) (hk3 : tK b n p ≠ 203) (hN : NmC 34 NS G) (hm : (G.1 2 9).toInt = (NS.length : Int)) : (3 ≤ NS.length ∧ CF (fl b n 2 p) r G1) ∨ (NS.length < 3 ∧ LnC b n p (smi b n (pStreet b n NS p)) r G1 (fun x => NmC 34 (NS ++ [x.1]) G1 ∧ (G1.1 2 9).toInt = (NS.length : Int) + 1 ∧ StC_2 NS.length x.2 G1 ∧ KeC_2 NS.length G G1 ∧ (x.2.length : Int) ≤ 400)) := by
  obtain ⟨-, -, -, w3, G5, hj, -, -, -, -, r12, G13, hf1, hh⟩ := h
  have hj2 : G = G5 ∧ ((3 ≤ NS.length ∧ w3.toInt = 0) ∨ (NS.length < 3 ∧ w3.toInt = 1)) := by
    rcases hj with ⟨c, e1, e2⟩ | ⟨c, e1, e2⟩
    · exact ⟨e2, Or.inl ⟨by omega, by rw [← e1]; rfl⟩⟩
    · exact ⟨e2, Or.inr ⟨by omega, by rw [← e1]; rfl⟩⟩
  obtain ⟨rfl, hj3⟩ := hj2
  clear hj
  have ht := tN_p (b := b) hp.1.2.1 hp.2.2.2
  have htp := (ht.2.2 hk3).1
  rcases c_first hf1 hp hk with ⟨hm0, hC⟩ | ⟨hm1, hr, hp2⟩
  · rcases hh with ⟨c, rfl, rfl⟩ | ⟨c, -⟩
    · exact Or.inl ⟨by omega, rfl, hC.2⟩
    · exact absurd hC.1 c
  have hlt : NS.length < 3 := by omega
  refine Or.inr ⟨hlt, ?_⟩
  rcases hh with ⟨c, -⟩ | ⟨c, r19, G20, hnm, hh⟩
  · omega
  rcases c_name_34 hnm hp2 (hN.fr hf1.2.1 (by decide) (by decide)) hm hlt with ⟨f, hf, hC⟩ | ⟨e1, hr19, hp3, hN20⟩
  · rcases hh with ⟨c, rfl, rfl⟩ | ⟨c, -⟩
    · exact Or.inl ⟨f, smi_l (by unfold pStreet; exact bnd_l hf), rfl, hC.2⟩
    · exact absurd hC.1 c
  rcases hh with ⟨c, -⟩ | ⟨c, r26, G27, hps, hh⟩
  · omega
  have ht3 := tN_p (b := b) hp2.1.2.1 hp2.2.2.2
  rcases c_pass hps hp3 (by decide) with ⟨f, hf, hC⟩ | ⟨e2, hr26, hp4⟩
  · rcases hh with ⟨c, rfl, rfl⟩ | ⟨c, -⟩
    · exact Or.inl ⟨f, smi_l (by unfold pStreet; exact (bnd_r e1).trans (bnd_l hf)), rfl, hC.2⟩
    · exact absurd hC.1 c
  rcases hh with ⟨c, -⟩ | ⟨c, r35, G36, hnu, hh⟩
  · omega
  have ht4 := tN_p (b := b) hp3.1.2.1 hp3.2.2.2
  rcases c_num hnu hp4 with ⟨f, hf, hC⟩ | ⟨e3, hr35, hp5, e59, hlo, hhi⟩
  · rcases hh with ⟨c, rfl, rfl⟩ | ⟨c, -⟩
    · exact Or.inl ⟨f, smi_l (by unfold pStreet; exact (bnd_r e1).trans ((bnd_r e2).trans (bnd_l hf))), rfl, hC.2⟩
    · exact absurd hC.1 c
  rcases hh with ⟨c, -⟩ | ⟨c, G42, -, hF42, e42, x47, G43, hl, -, -, -, hF43, hh⟩
  · omega
  have ht5 := tN_p (b := b) hp4.1.2.1 hp4.2.2.2
  have hlo' : 0 ≤ tV b n (tNx b n (tNx b n (tNx b n p))) := hlo
  have hhi' : tV b n (tNx b n (tNx b n (tNx b n p))) ≤ 9 := hhi
  rw [cn_eq hm] at e42
  have hK36 : KeC_2 NS.length G G36 := (((KeC_2.of hf1.2.1 (by decide) (by decide) (by decide) (by decide)).tr (KeC_2.of hnm.2.1 (by decide) (by decide) (by decide) (by decide))).tr (KeC_2.of hps.2.1 (by decide) (by decide) (by decide) (by decide))).tr (KeC_2.of hnu.2.1 (by decide) (by decide) (by decide) (by decide))
  have hK42 : KeC_2 NS.length G G42 := hK36.tr ⟨fun s' q => by rw [e42]; exact if_neg q, fun j q => by rw [hF42.row1 21 (by decide) (by decide)]⟩
  have h9 : (G42.1 2 9).toInt = (NS.length : Int) := by
    rw [hF42.i 2 9 (by decide) (by decide), hnu.2.1.i 2 9 (by decide) (by decide), hps.2.1.i 2 9 (by decide) (by decide), hnm.2.1.i 2 9 (by decide) (by decide), hf1.2.1.i 2 9 (by decide) (by decide)]
    exact hm
  have hS42 : StC_2 NS.length [] G42 := ⟨by rw [e42, show upd (G36.1 20) NS.length 0 NS.length = 0 from if_pos rfl]; rfl, fun i hi => absurd hi (Nat.not_lt_zero i)⟩
  have hp42 : CPx b n G42 (tNx b n (tNx b n (tNx b n (tNx b n p)))) := hp5.fr hF42 (by decide) (by decide) (by decide) (by decide)
  have hN42 : NmC 34 (NS ++ [tL b n (tNx b n p)]) G42 := ((hN20.fr hps.2.1 (by decide) (by decide)).fr hnu.2.1 (by decide) (by decide)).fr hF42 (by decide) (by decide)
  generalize hJ : tV b n (tNx b n (tNx b n (tNx b n p))) = J at *
  generalize hpq : tNx b n (tNx b n (tNx b n (tNx b n p))) = p5 at *
  have hI := hl (fun q => ∃ (nth : Nat) (I : List IC) (p' : Nat), q.1.toInt = (nth : Int) ∧ CPx b n q.2 p' ∧ p5 ≤ p' ∧ (q.2.1 2 9).toInt = (NS.length : Int) ∧ StC_2 NS.length I q.2 ∧ KeC_2 NS.length G q.2 ∧ (I.length : Int) ≤ 400 ∧ nth ≤ I.length ∧ ∀ o, Et (slS b n J) (0, [], p5) o ↔ Et (slS b n J) (nth, I, p') o) ⟨0, [], p5, rfl, hp42, Nat.le_refl _, h9, hS42, hK42, by decide, Nat.le_refl _, fun o => Iff.rfl⟩ (by
    rintro ⟨x1, G_1⟩ ⟨xn, G_1n⟩ ⟨nth, I, p', g1, g2, g3, g4, g5, g6, g7, g8, g9⟩ ⟨x1q, G_1q, xnq, G_1nq, q1, q2, -, -, -, c1, hd⟩
    obtain ⟨rfl, rfl⟩ := Prod.mk.inj q1
    obtain ⟨rfl, rfl⟩ := Prod.mk.inj q2
    simp only at g1 g2 g4 g5 g6
    have hd2 : (nth = 0 ∨ tK b n p' = 201) ∧ ∃ (r7 : Int32), P_rSlab_2 x1 (G36.1 5 9) G_1 r7 G_1n ∧ r7.toInt ≠ 0 ∧ xn.toInt = x1.toInt + 1 := by
      rw [← g2.2.1.1]
      rcases hd with ⟨d0, r7, G7, d1, d2, y7, d3, d4, d5⟩ | ⟨d0, d6, r7, G7, d1, d2, y7, d3, d4, d5⟩
      · subst d5
        exact ⟨Or.inl (by omega), r7, d1, d2, by rw [← d4]; exact d3⟩
      · subst d5
        exact ⟨Or.inr d6, r7, d1, d2, by rw [← d4]; exact d3⟩
    clear hd
    obtain ⟨hc, r7, d1, d2, d3⟩ := hd2
    rcases c_slab_2 d1 g2 g4 hlt g5 g1 e59 (by omega) hlo' hhi' with ⟨f, s1, s2⟩ | ⟨vx, p2, s1, s2, s3, s4, s5, s6, s7, s8⟩
    · exact absurd s2.1 d2
    · have hsl : slS b n J (nth, I, p') = .inl (nth + 1, I ++ slI J nth vx, p2) := slS_r hc s1
      have hle : nth + 1 ≤ (I ++ slI J nth vx).length := by
        rw [List.length_append, slI_len]
        omega
      refine ⟨nth + 1, I ++ slI J nth vx, p2, by show xn.toInt = _; omega, s3, by omega, ?_, s5, g6.tr s6, s8, hle, fun o => (g9 o).trans (Et_i hsl)⟩
      show (G_1n.1 2 9).toInt = _
      rw [d1.2.1.i 2 9 (by decide) (by decide)]
      exact g4)
  obtain ⟨nth, I, p', g1, g2, g3, g4, g5, g6, g7, g8, g9⟩ := hI
  simp only at g1 g2 g4 g5 g6
  rcases hh with ⟨c1, hd⟩ | ⟨G56, hj, -, -, r60, G61, hps2, hh⟩
  · have hd2 : (nth = 0 ∨ tK b n p' = 201) ∧ ∃ (r7 : Int32), P_rSlab_2 x47 (G36.1 5 9) G43 r7 G1 ∧ r7.toInt = 0 ∧ 0 = r := by
      rw [← g2.2.1.1]
      rcases hd with ⟨d0, r7, G7, d1, d2, d4, d5⟩ | ⟨d0, d6, r7, G7, d1, d2, d4, d5⟩
      · subst d5
        exact ⟨Or.inl (by omega), r7, d1, d2, d4⟩
      · subst d5
        exact ⟨Or.inr d6, r7, d1, d2, d4⟩
    clear hd
    obtain ⟨hc, r7, d1, d2, rfl⟩ := hd2
    rcases c_slab_2 d1 g2 g4 hlt g5 g1 e59 (by omega) hlo' hhi' with ⟨f, s1, s2⟩ | ⟨vx, p2, s1, s2, -⟩
    · have hsl : slS b n J (nth, I, p') = .inr (.inl f) := slS_l hc s1
      have hpl : pSls b n J p5 = .inl f := run_eq ((g9 _).mpr ((Et_r hsl).mpr rfl))
      exact Or.inl ⟨f, smi_l (by unfold pStreet; exact (bnd_r e1).trans ((bnd_r e2).trans ((bnd_r e3).trans (bnd_l hpl)))), rfl, s2.2⟩
    · omega
  · have hj2 : G43 = G56 ∧ ¬ (nth = 0 ∨ tK b n p' = 201) := by
      rw [← g2.2.1.1]
      rcases hj with ⟨c, -⟩ | ⟨c, d, d2, e⟩
      · omega
      · exact ⟨e, by omega⟩
    obtain ⟨rfl, hc⟩ := hj2
    clear hj
    have hsl : slS b n J (nth, I, p') = .inr (.inr (I, p')) := by
      unfold slS
      rw [if_neg hc]
    have hpl : pSls b n J p5 = .inr (I, p') := run_eq ((g9 _).mpr ((Et_r hsl).mpr rfl))
    have hst : pStreet b n NS p = .inr ((tL b n (tNx b n p), I), p') := by
      unfold pStreet
      exact (bnd_r e1).trans ((bnd_r e2).trans ((bnd_r e3).trans (bnd_r hpl)))
    rcases hh with ⟨c, rfl, rfl⟩ | ⟨c, y67, t67, rfl, hFe, e9e⟩
    · rcases c_semi (p := p) (K := fun _ => True) hps2 g2 hst (by omega) (fun _ => trivial) with ⟨f, s1, s2⟩ | ⟨x, p2, s1, s2, -⟩
      · exact Or.inl ⟨f, s1, rfl, s2.2⟩
      · omega
    · rcases c_semi (p := p) (K := fun x => x = (tL b n (tNx b n p), I)) hps2 g2 hst (by omega) (fun _ => rfl) with ⟨f, s1, s2⟩ | ⟨x, p2, s1, s2, s3, s4, s5⟩
      · exact absurd s2.1 c
      · subst s5
        refine Or.inr ⟨_, p2, s1, rfl, s3.fr hFe (by decide) (by decide) (by decide) (by decide), s4, ((hN42.fr hF43 (by decide) (by decide)).fr hps2.2.1 (by decide) (by decide)).fr hFe (by decide) (by decide), by rw [e9e]; omega, (g5.fr hps2.2.1 (by decide) (by decide) (by decide) (by decide)).fr hFe (by decide) (by decide) (by decide) (by decide), (g6.tr (KeC_2.of hps2.2.1 (by decide) (by decide) (by decide) (by decide))).tr (KeC_2.of hFe (by decide) (by decide) (by decide) (by decide)), g7⟩

theorem c_walker_1 {b : Nat → Int} {n p : Nat} {r : Int32} {G G1 : GS} {NS : List (List Int)} (h : P_rWalker_1 G r G1) (hp : CPx b n G p) (hk : tK b n p ≠ 202) (hk3 : tK b n p ≠ 203) (hN : NmC 35 NS G) (hm : (G.1 1 10).toInt = (NS.length : Int)) : (4 ≤ NS.length ∧ CF (fl b n 2 p) r G1) ∨ (NS.length < 4 ∧ LnC b n p (smi b n (pWalker b n NS p)) r G1 (fun x => NmC 35 (NS ++ [x.1]) G1 ∧ (G1.1 1 10).toInt = (NS.length : Int) + 1 ∧ WkC_1 NS.length x.2 G1 ∧ ∀ k, k ≠ NS.length → G1.1 12 k = G.1 12 k ∧ G1.1 13 k = G.1 13 k ∧ G1.1 14 k = G.1 14 k ∧ G1.1 15 k = G.1 15 k)) := by
  obtain ⟨-, -, -, w4, G6, hj, -, -, -, -, r12, G13, hf1, hh⟩ := h
  have hj2 : G = G6 ∧ ((4 ≤ NS.length ∧ w4.toInt = 0) ∨ (NS.length < 4 ∧ w4.toInt = 1)) := by
    rcases hj with ⟨c, e1, e2⟩ | ⟨c, e1, e2⟩
    · exact ⟨e2, Or.inl ⟨by omega, by rw [← e1]; rfl⟩⟩
    · exact ⟨e2, Or.inr ⟨by omega, by rw [← e1]; rfl⟩⟩
  obtain ⟨rfl, hj3⟩ := hj2
  clear hj
  have ht := tN_p (b := b) hp.1.2.1 hp.2.2.2
  have htp := (ht.2.2 hk3).1
  rcases c_first hf1 hp hk with ⟨hm0, hC⟩ | ⟨hm1, hr, hp2⟩
  · rcases hh with ⟨c, rfl, rfl⟩ | ⟨c, -⟩
    · exact Or.inl ⟨by omega, rfl, hC.2⟩
    · exact absurd hC.1 c
  have hlt : NS.length < 4 := by omega
  refine Or.inr ⟨hlt, ?_⟩
  have hmc := cn_eq hm
  rcases hh with ⟨c, -⟩ | ⟨c, r19, G20, hnm, hh⟩
  · omega
  rcases c_name_35 hnm hp2 (hN.fr hf1.2.1 (by decide) (by decide)) hm hlt with ⟨f, hf, hC⟩ | ⟨e1, hr19, hp3, hN20⟩
  · rcases hh with ⟨c, rfl, rfl⟩ | ⟨c, -⟩
    · exact Or.inl ⟨f, smi_l (by unfold pWalker; exact bnd_l hf), rfl, hC.2⟩
    · exact absurd hC.1 c
  rcases hh with ⟨c, -⟩ | ⟨c, r26, G27, hp26, hh⟩
  · omega
  have t3 := tN_p (b := b) hp2.1.2.1 hp2.2.2.2
  rcases c_pass hp26 hp3 (by decide) with ⟨f, hf, hC⟩ | ⟨e2, hr26, hp4⟩
  · rcases hh with ⟨c, rfl, rfl⟩ | ⟨c, -⟩
    · exact Or.inl ⟨f, smi_l (by unfold pWalker; exact (bnd_r e1).trans (bnd_l hf)), rfl, hC.2⟩
    · exact absurd hC.1 c
  rcases hh with ⟨c, -⟩ | ⟨c, r35, G36, hn35, hh⟩
  · omega
  have t4 := tN_p (b := b) hp3.1.2.1 hp3.2.2.2
  rcases c_num hn35 hp4 with ⟨f, hf, hC⟩ | ⟨e3, hr35, hp5, v5, lo5, hi5⟩
  · rcases hh with ⟨c, rfl, rfl⟩ | ⟨c, -⟩
    · exact Or.inl ⟨f, smi_l (by unfold pWalker; exact (bnd_r e1).trans ((bnd_r e2).trans (bnd_l hf))), rfl, hC.2⟩
    · exact absurd hC.1 c
  rcases hh with ⟨c, -⟩ | ⟨c, G42, -, hF42, w42, r43, G44, hp43, hh⟩
  · omega
  have t5 := tN_p (b := b) hp4.1.2.1 hp4.2.2.2
  rw [hmc] at w42
  replace hp5 := hp5.fr hF42 (by decide) (by decide) (by decide) (by decide)
  rcases c_pass hp43 hp5 (by decide) with ⟨f, hf, hC⟩ | ⟨e4, hr43, hp6⟩
  · rcases hh with ⟨c, rfl, rfl⟩ | ⟨c, -⟩
    · exact Or.inl ⟨f, smi_l (by unfold pWalker; exact (bnd_r e1).trans ((bnd_r e2).trans ((bnd_r e3).trans (bnd_l hf)))), rfl, hC.2⟩
    · exact absurd hC.1 c
  rcases hh with ⟨c, -⟩ | ⟨c, r52, G53, hn52, hh⟩
  · omega
  have t6 := tN_p (b := b) hp5.1.2.1 hp5.2.2.2
  rcases c_num hn52 hp6 with ⟨f, hf, hC⟩ | ⟨e5, hr52, hp7, v7, lo7, hi7⟩
  · rcases hh with ⟨c, rfl, rfl⟩ | ⟨c, -⟩
    · exact Or.inl ⟨f, smi_l (by unfold pWalker; exact (bnd_r e1).trans ((bnd_r e2).trans ((bnd_r e3).trans ((bnd_r e4).trans (bnd_l hf))))), rfl, hC.2⟩
    · exact absurd hC.1 c
  rcases hh with ⟨c, -⟩ | ⟨c, G59, -, hF59, w59, r60, G61, hp60, hh⟩
  · omega
  have t7 := tN_p (b := b) hp6.1.2.1 hp6.2.2.2
  rw [hmc] at w59
  replace hp7 := hp7.fr hF59 (by decide) (by decide) (by decide) (by decide)
  rcases c_pass hp60 hp7 (by decide) with ⟨f, hf, hC⟩ | ⟨e6, hr60, hp8⟩
  · rcases hh with ⟨c, rfl, rfl⟩ | ⟨c, -⟩
    · exact Or.inl ⟨f, smi_l (by unfold pWalker; exact (bnd_r e1).trans ((bnd_r e2).trans ((bnd_r e3).trans ((bnd_r e4).trans ((bnd_r e5).trans (bnd_l hf)))))), rfl, hC.2⟩
    · exact absurd hC.1 c
  rcases hh with ⟨c, -⟩ | ⟨c, y67, e67, r69, G70, hn69, hh⟩
  · omega
  have t8 := tN_p (b := b) hp7.1.2.1 hp7.2.2.2
  rw [hmc, hp60.2.1.row1 13 (by decide) (by decide), w59] at e67
  have u67 : y67 = G53.1 5 9 := e67.trans (if_pos rfl)
  have hy67 : y67.toInt = tV b n (tNx b n (tNx b n (tNx b n (tNx b n (tNx b n p))))) := by
    rw [u67]
    exact v7
  rcases c_num hn69 hp8 with ⟨f, hf, hC⟩ | ⟨e7, hr69, hp9, v9, lo9, hi9⟩
  · rw [hy67] at hf
    rcases hh with ⟨c, rfl, rfl⟩ | ⟨c, -⟩
    · exact Or.inl ⟨f, smi_l (by unfold pWalker; exact (bnd_r e1).trans ((bnd_r e2).trans ((bnd_r e3).trans ((bnd_r e4).trans ((bnd_r e5).trans ((bnd_r e6).trans (bnd_l hf))))))), rfl, hC.2⟩
    · exact absurd hC.1 c
  rw [hy67] at e7 lo9
  rcases hh with ⟨c, -⟩ | ⟨c, G76, -, hF76, w76, hh⟩
  · omega
  have t9 := tN_p (b := b) hp8.1.2.1 hp8.2.2.2
  rw [hmc] at w76
  have k70 := hp9.2.1.1
  replace hp9 := hp9.fr hF76 (by decide) (by decide) (by decide) (by decide)
  generalize hpe : tNx b n (tNx b n (tNx b n (tNx b n (tNx b n (tNx b n (tNx b n p)))))) = p7 at e6 e7 hp8 v9 lo9 hi9 t9 t8 hp9 k70
  have t10 := tN_p (b := b) hp9.1.2.1 hp9.2.2.2
  have fin : ∀ {G79 : GS} {q : Nat} {lv : Int}, Fr [] [(3, 2), (3, 3), (3, 4), (3, 5), (3, 6), (3, 7), (3, 8), (5, 9)] G76 G79 → CPx b n G79 q → (G79.1 5 9).toInt = lv → p < q → pWalker b n NS p = .inr ((tL b n (tNx b n p), tV b n (tNx b n (tNx b n (tNx b n p))), tV b n (tNx b n (tNx b n (tNx b n (tNx b n (tNx b n p))))), tV b n p7, lv), q) → (∃ (y_85 : Int32), y_85.toInt = (G.1 1 10).toInt + 1 ∧ ∃ (G_86 : GS), Bd G_86 ∧ Fr [15] [(1, 10)] G79 G_86 ∧ G_86.1 1 10 = y_85 ∧ G_86.1 15 = (upd (G79.1 15) ((G.1 1 10).toNatClampNeg) (G79.1 5 9)) ∧ ∃ (r_90 : Int32) (G_91 : GS), P_tPass 59 G_86 r_90 G_91 ∧ r_90 = r ∧ G_91 = G1) → LnC b n p (smi b n (pWalker b n NS p)) r G1 (fun x => NmC 35 (NS ++ [x.1]) G1 ∧ (G1.1 1 10).toInt = (NS.length : Int) + 1 ∧ WkC_1 NS.length x.2 G1 ∧ ∀ k, k ≠ NS.length → G1.1 12 k = G.1 12 k ∧ G1.1 13 k = G.1 13 k ∧ G1.1 14 k = G.1 14 k ∧ G1.1 15 k = G.1 15 k) := by
    intro G79 q lv hF79 hpq v79 hlt2 hE hx
    obtain ⟨y85, t85, G86, -, hF86, w10, w86, r90, G91, hp90, rfl, rfl⟩ := hx
    rw [hmc] at w86
    have b0 : ∀ i, i = 12 ∨ i = 13 ∨ i = 14 ∨ i = 15 → G13.1 i = G.1 i ∧ G20.1 i = G13.1 i ∧ G27.1 i = G20.1 i ∧ G36.1 i = G27.1 i ∧ G44.1 i = G42.1 i ∧ G53.1 i = G44.1 i ∧ G61.1 i = G59.1 i ∧ G70.1 i = G61.1 i ∧ G79.1 i = G76.1 i ∧ G91.1 i = G86.1 i := by
      intro i hi
      rcases hi with rfl | rfl | rfl | rfl <;> exact ⟨hf1.2.1.row1 _ (by decide) (by decide), hnm.2.1.row1 _ (by decide) (by decide), hp26.2.1.row1 _ (by decide) (by decide), hn35.2.1.row1 _ (by decide) (by decide), hp43.2.1.row1 _ (by decide) (by decide), hn52.2.1.row1 _ (by decide) (by decide), hp60.2.1.row1 _ (by decide) (by decide), hn69.2.1.row1 _ (by decide) (by decide), hF79.row1 _ (by decide) (by decide), hp90.2.1.row1 _ (by decide) (by decide)⟩
    have r2 : G91.1 12 = upd (G.1 12) NS.length (G36.1 5 9) := by
      obtain ⟨a1, a2, a3, a4, a5, a6, a7, a8, a9, a10⟩ := b0 12 (Or.inl rfl)
      rw [a10, hF86.row1 12 (by decide) (by decide), a9, hF76.row1 12 (by decide) (by decide), a8, a7, hF59.row1 12 (by decide) (by decide), a6, a5, w42, a4, a3, a2, a1]
    have r3 : G91.1 13 = upd (G.1 13) NS.length (G53.1 5 9) := by
      obtain ⟨a1, a2, a3, a4, a5, a6, a7, a8, a9, a10⟩ := b0 13 (Or.inr (Or.inl rfl))
      rw [a10, hF86.row1 13 (by decide) (by decide), a9, hF76.row1 13 (by decide) (by decide), a8, a7, w59, a6, a5, hF42.row1 13 (by decide) (by decide), a4, a3, a2, a1]
    have r4 : G91.1 14 = upd (G.1 14) NS.length (G70.1 5 9) := by
      obtain ⟨a1, a2, a3, a4, a5, a6, a7, a8, a9, a10⟩ := b0 14 (Or.inr (Or.inr (Or.inl rfl)))
      rw [a10, hF86.row1 14 (by decide) (by decide), a9, w76, a8, a7, hF59.row1 14 (by decide) (by decide), a6, a5, hF42.row1 14 (by decide) (by decide), a4, a3, a2, a1]
    have r5 : G91.1 15 = upd (G.1 15) NS.length (G79.1 5 9) := by
      obtain ⟨a1, a2, a3, a4, a5, a6, a7, a8, a9, a10⟩ := b0 15 (Or.inr (Or.inr (Or.inr rfl)))
      rw [a10, w86, a9, hF76.row1 15 (by decide) (by decide), a8, a7, hF59.row1 15 (by decide) (by decide), a6, a5, hF42.row1 15 (by decide) (by decide), a4, a3, a2, a1]
    have hN86 : NmC 35 (NS ++ [tL b n (tNx b n p)]) G86 := (((((((((hN20.fr hp26.2.1 (by decide) (by decide)).fr hn35.2.1 (by decide) (by decide)).fr hF42 (by decide) (by decide)).fr hp43.2.1 (by decide) (by decide)).fr hn52.2.1 (by decide) (by decide)).fr hF59 (by decide) (by decide)).fr hp60.2.1 (by decide) (by decide)).fr hn69.2.1 (by decide) (by decide)).fr hF76 (by decide) (by decide)).fr hF79 (by decide) (by decide) |>.fr hF86 (by decide) (by decide)
    refine c_semi hp90 (hpq.fr hF86 (by decide) (by decide) (by decide) (by decide)) hE hlt2 (fun hFz => ?_)
    refine ⟨hN86.fr hFz (by decide) (by decide), by rw [hFz.i 1 10 (by decide) (by decide), w10]; omega, ⟨?_, ?_, ?_, ?_⟩, fun k hk2 => ⟨?_, ?_, ?_, ?_⟩⟩
    · rw [r2, show upd (G.1 12) NS.length (G36.1 5 9) NS.length = G36.1 5 9 from if_pos rfl]
      exact v5
    · rw [r3, show upd (G.1 13) NS.length (G53.1 5 9) NS.length = G53.1 5 9 from if_pos rfl]
      exact v7
    · rw [r4, show upd (G.1 14) NS.length (G70.1 5 9) NS.length = G70.1 5 9 from if_pos rfl]
      exact v9
    · rw [r5, show upd (G.1 15) NS.length (G79.1 5 9) NS.length = G79.1 5 9 from if_pos rfl]
      exact v79
    · rw [r2]
      exact if_neg hk2
    · rw [r3]
      exact if_neg hk2
    · rw [r4]
      exact if_neg hk2
    · rw [r5]
      exact if_neg hk2
  have e8 : pWalker b n NS p = (if tK b n (tNx b n p7) = 133 then bnd (pNum b n (tV b n p7 + 1) 99 (tNx b n (tNx b n p7))) fun v q => .inr ((tL b n (tNx b n p), tV b n (tNx b n (tNx b n (tNx b n p))), tV b n (tNx b n (tNx b n (tNx b n (tNx b n (tNx b n p))))), tV b n p7, v), q) else .inr ((tL b n (tNx b n p), tV b n (tNx b n (tNx b n (tNx b n p))), tV b n (tNx b n (tNx b n (tNx b n (tNx b n (tNx b n p))))), tV b n p7, tV b n p7), tNx b n p7)) := by
    unfold pWalker
    exact (bnd_r e1).trans ((bnd_r e2).trans ((bnd_r e3).trans ((bnd_r e4).trans ((bnd_r e5).trans ((bnd_r e6).trans (bnd_r e7))))))
  have h14 : ∀ {Gq : GS}, Gq.1 14 = G76.1 14 → ∀ {y : Int32}, y = Gq.1 14 ((G.1 1 10).toNatClampNeg) → y.toInt = tV b n p7 := by
    intro Gq e y e2'
    rw [e2', e, hmc, w76, show upd (G70.1 14) NS.length (G70.1 5 9) NS.length = G70.1 5 9 from if_pos rfl]
    exact v9
  rcases hh with ⟨c133, r98, G99, hp98, hh⟩ | ⟨G79, hj, -, -, hF79, hh⟩
  · rw [k70] at c133
    rw [if_pos c133] at e8
    rcases c_pass hp98 hp9 (by decide) with ⟨f, hf, hC⟩ | ⟨e9, hr98, hp10⟩
    · have : pKw b n 133 (tNx b n p7) = .inl f := hf
      unfold pKw at this
      rw [if_pos c133] at this
      exact absurd this (by simp)
    rcases hh with ⟨c, -⟩ | ⟨c, y105, e105, y106, t106, r108, G109, hn108, c108, rfl, rfl⟩
    · omega
    have h105 := h14 (hp98.2.1.row1 14 (by decide) (by decide)) e105
    rcases c_num hn108 hp10 with ⟨f, hf, hC⟩ | ⟨e10, hr108, -⟩
    · rw [show y106.toInt = tV b n p7 + 1 by omega] at hf
      exact Or.inl ⟨f, smi_l (e8.trans (bnd_l hf)), rfl, hC.2⟩
    · omega
  · rcases hj with ⟨c133, r98, G99, hp98, c98, y105, e105, y106, t106, r108, G109, hn108, c108, rfl⟩ | ⟨c133, rfl⟩
    · rw [k70] at c133
      rw [if_pos c133] at e8
      rcases c_pass hp98 hp9 (by decide) with ⟨f, hf, hC⟩ | ⟨e9, hr98, hp10⟩
      · exact absurd hC.1 c98
      have h105 := h14 (hp98.2.1.row1 14 (by decide) (by decide)) e105
      have t11 := tN_p (b := b) hp10.1.2.1 hp10.2.2.2
      rcases c_num hn108 hp10 with ⟨f, hf, hC⟩ | ⟨e10, hr108, hp11, v11, -⟩
      · exact absurd hC.1 c108
      · rw [show y106.toInt = tV b n p7 + 1 by omega] at e10
        exact fin hF79 hp11 v11 (by omega) (e8.trans (bnd_r e10)) hh
    · rw [k70] at c133
      rw [if_neg c133] at e8
      refine fin hF79 hp9 ?_ (by omega) e8 hh
      rw [hF76.i 5 9 (by decide) (by decide)]
      exact v9
theorem c_hand_1 {b : Nat → Int} {n p : Nat} {r : Int32} {G G1 : GS} (h : P_rHand_1 G r G1) (hp : CPx b n G p) (hk : tK b n p ≠ 202) (hk3 : tK b n p ≠ 203) : ((G.1 5 7).toInt ≠ 0 ∧ CF (fl b n 2 p) r G1) ∨ ((G.1 5 7).toInt = 0 ∧ LnC b n p (smi b n (pHand b n p)) r G1 (fun x => (G1.1 5 7).toInt = 1 ∧ (G1.1 1 14).toInt = x.1 ∧ (G1.1 1 15).toInt = x.2)) := by
  obtain ⟨-, -, -, w3, G5, hj, -, -, -, r10, G11, hf1, hh⟩ := h
  have hj2 : G = G5 ∧ (((G.1 5 7).toInt ≠ 0 ∧ w3.toInt = 0) ∨ ((G.1 5 7).toInt = 0 ∧ w3.toInt = 1)) := by
    rcases hj with ⟨c, e1, e2⟩ | ⟨c, e1, e2⟩
    · exact ⟨e2, Or.inr ⟨c, by rw [← e1]; rfl⟩⟩
    · exact ⟨e2, Or.inl ⟨c, by rw [← e1]; rfl⟩⟩
  obtain ⟨rfl, hj3⟩ := hj2
  clear hj
  have ht := tN_p (b := b) hp.1.2.1 hp.2.2.2
  have htp := (ht.2.2 hk3).1
  rcases c_first hf1 hp hk with ⟨hm0, hC⟩ | ⟨hm1, hr, hp2⟩
  · rcases hh with ⟨c, rfl, rfl⟩ | ⟨c, -⟩
    · exact Or.inl ⟨by omega, rfl, hC.2⟩
    · exact absurd hC.1 c
  refine Or.inr ⟨by omega, ?_⟩
  rcases hh with ⟨c, -⟩ | ⟨c, r19, G20, hn1, hh⟩
  · omega
  rcases c_num hn1 hp2 with ⟨f, hf, hC⟩ | ⟨e1, hr19, hp3, v3, -, -⟩
  · rcases hh with ⟨c, rfl, rfl⟩ | ⟨c, -⟩
    · exact Or.inl ⟨f, smi_l (by unfold pHand; exact bnd_l hf), rfl, hC.2⟩
    · exact absurd hC.1 c
  rcases hh with ⟨c, -⟩ | ⟨c, G27, -, hF27, w14, w7, r28, G29, hps, hh⟩
  · omega
  have t3 := tN_p (b := b) hp2.1.2.1 hp2.2.2.2
  replace hp3 := hp3.fr hF27 (by decide) (by decide) (by decide) (by decide)
  rcases c_pass hps hp3 (by decide) with ⟨f, hf, hC⟩ | ⟨e2, hr28, hp4⟩
  · rcases hh with ⟨c, rfl, rfl⟩ | ⟨c, -⟩
    · exact Or.inl ⟨f, smi_l (by unfold pHand; exact (bnd_r e1).trans (bnd_l hf)), rfl, hC.2⟩
    · exact absurd hC.1 c
  rcases hh with ⟨c, -⟩ | ⟨c, r37, G38, hn2, hh⟩
  · omega
  have t4 := tN_p (b := b) hp3.1.2.1 hp3.2.2.2
  rcases c_num hn2 hp4 with ⟨f, hf, hC⟩ | ⟨e3, hr37, hp5, v5, -, -⟩
  · rcases hh with ⟨c, rfl, rfl⟩ | ⟨c, -⟩
    · exact Or.inl ⟨f, smi_l (by unfold pHand; exact (bnd_r e1).trans ((bnd_r e2).trans (bnd_l hf))), rfl, hC.2⟩
    · exact absurd hC.1 c
  rcases hh with ⟨c, -⟩ | ⟨c, G44, -, hF44, w15, r45, G46, hp45, rfl, rfl⟩
  · omega
  have t5 := tN_p (b := b) hp4.1.2.1 hp4.2.2.2
  refine c_semi hp45 (hp5.fr hF44 (by decide) (by decide) (by decide) (by decide)) (by unfold pHand; exact (bnd_r e1).trans ((bnd_r e2).trans (bnd_r e3))) (by omega) (fun hFz => ⟨?_, ?_, ?_⟩)
  · rw [hFz.i 5 7 (by decide) (by decide), hF44.i 5 7 (by decide) (by decide), hn2.2.1.i 5 7 (by decide) (by decide), hps.2.1.i 5 7 (by decide) (by decide), w7]
    rfl
  · rw [hFz.i 1 14 (by decide) (by decide), hF44.i 1 14 (by decide) (by decide), hn2.2.1.i 1 14 (by decide) (by decide), hps.2.1.i 1 14 (by decide) (by decide), w14]
    exact v3
  · rw [hFz.i 1 15 (by decide) (by decide), w15]
    exact v5
theorem c_draw_1 {b : Nat → Int} {n p : Nat} {r : Int32} {G G1 : GS} (h : P_rDraw_1 G r G1) (hp : CPx b n G p) (hk : tK b n p ≠ 202) (hk3 : tK b n p ≠ 203) : ((G.1 5 8).toInt ≠ 0 ∧ CF (fl b n 2 p) r G1) ∨ ((G.1 5 8).toInt = 0 ∧ LnC b n p (smi b n (pDraw b n p)) r G1 (fun x => (G1.1 5 8).toInt = 1 ∧ (G1.1 1 16).toInt = x)) := by
  obtain ⟨-, -, -, w3, G5, hj, -, -, -, r10, G11, hf1, hh⟩ := h
  have hj2 : G = G5 ∧ (((G.1 5 8).toInt ≠ 0 ∧ w3.toInt = 0) ∨ ((G.1 5 8).toInt = 0 ∧ w3.toInt = 1)) := by
    rcases hj with ⟨c, e1, e2⟩ | ⟨c, e1, e2⟩
    · exact ⟨e2, Or.inr ⟨c, by rw [← e1]; rfl⟩⟩
    · exact ⟨e2, Or.inl ⟨c, by rw [← e1]; rfl⟩⟩
  obtain ⟨rfl, hj3⟩ := hj2
  clear hj
  have ht := tN_p (b := b) hp.1.2.1 hp.2.2.2
  have htp := (ht.2.2 hk3).1
  rcases c_first hf1 hp hk with ⟨hm0, hC⟩ | ⟨hm1, hr, hp2⟩
  · rcases hh with ⟨c, rfl, rfl⟩ | ⟨c, -⟩
    · exact Or.inl ⟨by omega, rfl, hC.2⟩
    · exact absurd hC.1 c
  refine Or.inr ⟨by omega, ?_⟩
  rcases hh with ⟨c, -⟩ | ⟨c, r19, G20, hn1, hh⟩
  · omega
  rcases c_num hn1 hp2 with ⟨f, hf, hC⟩ | ⟨e1, hr19, hp3, v3, -, -⟩
  · rcases hh with ⟨c, rfl, rfl⟩ | ⟨c, -⟩
    · exact Or.inl ⟨f, smi_l hf, rfl, hC.2⟩
    · exact absurd hC.1 c
  rcases hh with ⟨c, -⟩ | ⟨c, G27, -, hF27, w16, w8, r28, G29, hp28, rfl, rfl⟩
  · omega
  have t3 := tN_p (b := b) hp2.1.2.1 hp2.2.2.2
  refine c_semi hp28 (hp3.fr hF27 (by decide) (by decide) (by decide) (by decide)) e1 (by omega) (fun hFz => ⟨?_, ?_⟩)
  · rw [hFz.i 5 8 (by decide) (by decide), w8]
    rfl
  · rw [hFz.i 1 16 (by decide) (by decide), w16]
    exact v3
def SlI_1 (b : Nat → Int) (n p : Nat) (x s : Int32) (G : GS) : Prop := ∃ q, CPx b n G q ∧ p < q ∧ (G.1 5 6).toInt = 1 ∧ ((x.toInt = 0 ∧ s.toInt = 0 ∧ q = tNx b n p) ∨ (x.toInt = 1 ∧ pNum b n 0 9 (tNx b n p) = .inr ((G.1 16 0).toInt, q) ∧ s.toInt = (G.1 16 0).toInt) ∨ (x.toInt = 2 ∧ ∃ q1, pNum b n 0 9 (tNx b n p) = .inr ((G.1 16 0).toInt, q1) ∧ pNum b n 0 9 q1 = .inr ((G.1 16 1).toInt, q) ∧ s.toInt = (G.1 16 0).toInt + (G.1 16 1).toInt) ∨ (x.toInt = 3 ∧ pSlip b n p = .inr (((G.1 16 0).toInt, (G.1 16 1).toInt, (G.1 16 2).toInt), q)))
theorem c_slip_1 {b : Nat → Int} {n p : Nat} {r : Int32} {G G1 : GS} (h : P_rSlip_1 G r G1) (hp : CPx b n G p) (hk : tK b n p ≠ 202) (hk3 : tK b n p ≠ 203) : ((G.1 5 6).toInt ≠ 0 ∧ CF (fl b n 2 p) r G1) ∨ ((G.1 5 6).toInt = 0 ∧ LnC b n p (smi b n (pSlip b n p)) r G1 (fun x => (G1.1 5 6).toInt = 1 ∧ (G1.1 16 0).toInt = x.1 ∧ (G1.1 16 1).toInt = x.2.1 ∧ (G1.1 16 2).toInt = x.2.2)) := by
  obtain ⟨-, -, -, w3, G5, hj, -, -, -, r10, G11, hf1, hh⟩ := h
  have hj2 : G = G5 ∧ (((G.1 5 6).toInt ≠ 0 ∧ w3.toInt = 0) ∨ ((G.1 5 6).toInt = 0 ∧ w3.toInt = 1)) := by
    rcases hj with ⟨c, e1, e2⟩ | ⟨c, e1, e2⟩
    · exact ⟨e2, Or.inr ⟨c, by rw [← e1]; rfl⟩⟩
    · exact ⟨e2, Or.inl ⟨c, by rw [← e1]; rfl⟩⟩
  obtain ⟨rfl, hj3⟩ := hj2
  clear hj
  have ht := tN_p (b := b) hp.1.2.1 hp.2.2.2
  have htp := (ht.2.2 hk3).1
  rcases c_first hf1 hp hk with ⟨hm0, hC⟩ | ⟨hm1, hr, hp2⟩
  · rcases hh with ⟨c, rfl, rfl⟩ | ⟨c, -⟩
    · exact Or.inl ⟨by omega, rfl, hC.2⟩
    · exact absurd hC.1 c
  refine Or.inr ⟨by omega, ?_⟩
  rcases hh with ⟨c, -⟩ | ⟨c, G17, -, hF17, w6, x22, x23, G18, hl, -, -, -, -, -, hh⟩
  · omega
  have z0 : ((0 : Int32).toInt = 0) := rfl
  have hI0 : SlI_1 b n p 0 0 G17 := ⟨tNx b n p, hp2.fr hF17 (by decide) (by decide) (by decide) (by decide), htp, by rw [w6]; rfl, Or.inl ⟨rfl, rfl, rfl⟩⟩
  have num : ∀ {x s : Int32} {Ga Gb Gc : GS} {lo r7 : Int32} {x' s' : Int32}, SlI_1 b n p x s Ga → P_rNum lo 9 Ga r7 Gb → r7.toInt ≠ 0 → x.toInt < 3 → lo.toInt = (if x.toInt = 2 ∧ s.toInt = 0 then 1 else 0) → s'.toInt = s.toInt + (Gb.1 5 9).toInt → x'.toInt = x.toInt + 1 → Fr [16] [] Gb Gc → Gc.1 16 = upd (Gb.1 16) x.toNatClampNeg (Gb.1 5 9) → SlI_1 b n p x' s' Gc := by
    intro x s Ga Gb Gc lo r7 x' s' hi hn hr7 hx3 hlo hs' hx' hFc e6
    obtain ⟨q, i1, i2, i3, i4⟩ := hi
    have tq := tN_p (b := b) i1.1.2.1 i1.2.2.2
    rcases c_num hn i1 with ⟨f, -, hC⟩ | ⟨ev, -, hpn, v, -, -⟩
    · exact absurd hC.1 hr7
    have r6 : Gb.1 16 = Ga.1 16 := hn.2.1.row1 16 (by decide) (by decide)
    have h56 : (Gc.1 5 6).toInt = 1 := by
      rw [hFc.i 5 6 (by decide) (by decide), hn.2.1.i 5 6 (by decide) (by decide)]
      exact i3
    rw [r6] at e6
    refine ⟨tNx b n q, hpn.fr hFc (by decide) (by decide) (by decide) (by decide), by omega, h56, ?_⟩
    rcases i4 with ⟨a1, a2, a3⟩ | ⟨a1, a2, a3⟩ | ⟨a1, q1, a2, a3, a4⟩ | ⟨a1, -⟩
    · rw [if_neg (by omega)] at hlo
      rw [cn_eq (x := x) (e := 0) (by omega)] at e6
      have d0 : Gc.1 16 0 = Gb.1 5 9 := by rw [e6]; exact if_pos rfl
      refine Or.inr (Or.inl ⟨by omega, ?_, by rw [d0]; omega⟩)
      rw [d0, v, ← a3, ← hlo]
      exact ev
    · rw [if_neg (by omega)] at hlo
      rw [cn_eq (x := x) (e := 1) (by omega)] at e6
      have d0 : Gc.1 16 0 = Ga.1 16 0 := by rw [e6]; exact if_neg (by decide)
      have d1 : Gc.1 16 1 = Gb.1 5 9 := by rw [e6]; exact if_pos rfl
      refine Or.inr (Or.inr (Or.inl ⟨by omega, q, by rw [d0]; exact a2, ?_, by rw [d0, d1]; omega⟩))
      rw [d1, v, ← hlo]
      exact ev
    · rw [cn_eq (x := x) (e := 2) (by omega)] at e6
      have d0 : Gc.1 16 0 = Ga.1 16 0 := by rw [e6]; exact if_neg (by decide)
      have d1 : Gc.1 16 1 = Ga.1 16 1 := by rw [e6]; exact if_neg (by decide)
      have d2 : Gc.1 16 2 = Gb.1 5 9 := by rw [e6]; exact if_pos rfl
      refine Or.inr (Or.inr (Or.inr ⟨by omega, ?_⟩))
      have hlo2 : lo.toInt = (if (Ga.1 16 0).toInt + (Ga.1 16 1).toInt = 0 then 1 else 0) := by
        rw [hlo]
        by_cases hz : (Ga.1 16 0).toInt + (Ga.1 16 1).toInt = 0
        · rw [if_pos hz, if_pos (by omega)]
        · rw [if_neg hz, if_neg (by omega)]
      rw [hlo2] at ev
      unfold pSlip
      rw [d0, d1, d2, v]
      exact (bnd_r a2).trans ((bnd_r a3).trans (bnd_r ev))
    · omega
  have nof : ∀ {x s : Int32} {Ga Gb : GS} {lo r7 : Int32}, SlI_1 b n p x s Ga → P_rNum lo 9 Ga r7 Gb → r7.toInt = 0 → x.toInt < 3 → lo.toInt = (if x.toInt = 2 ∧ s.toInt = 0 then 1 else 0) → ∃ f, pSlip b n p = .inl f ∧ CF f r7 Gb := by
    intro x s Ga Gb lo r7 hi hn hr7 hx3 hlo
    obtain ⟨q, i1, i2, i3, i4⟩ := hi
    rcases c_num hn i1 with ⟨f, hf, hC⟩ | ⟨ev, hr, -⟩
    · refine ⟨f, ?_, hC⟩
      unfold pSlip
      rcases i4 with ⟨a1, a2, a3⟩ | ⟨a1, a2, a3⟩ | ⟨a1, q1, a2, a3, a4⟩ | ⟨a1, -⟩
      · rw [if_neg (by omega)] at hlo
        rw [hlo, a3] at hf
        exact bnd_l hf
      · rw [if_neg (by omega)] at hlo
        rw [hlo] at hf
        exact (bnd_r a2).trans (bnd_l hf)
      · have hlo2 : lo.toInt = (if (Ga.1 16 0).toInt + (Ga.1 16 1).toInt = 0 then 1 else 0) := by
          rw [hlo]
          by_cases hz : (Ga.1 16 0).toInt + (Ga.1 16 1).toInt = 0
          · rw [if_pos hz, if_pos (by omega)]
          · rw [if_neg hz, if_neg (by omega)]
        rw [hlo2] at hf
        exact (bnd_r a2).trans ((bnd_r a3).trans (bnd_l hf))
      · omega
    · omega
  have jn3 : ∀ {x s : Int32} {Ga Gb : GS}, Jn_k_rSlip_1_3 x s Ga Gb → Ga = Gb ∧ (0 : Int32).toInt = (if x.toInt = 2 ∧ s.toInt = 0 then 1 else 0) := by
    intro x s Ga Gb hj
    rcases hj with ⟨c1, c2, e⟩ | ⟨c1, e⟩
    · exact ⟨e, by rw [if_neg (fun q => c2 q.2)]; rfl⟩
    · exact ⟨e, by rw [if_neg (fun q => c1 q.1)]; rfl⟩
  have hI : SlI_1 b n p x22 x23 G18 := hl (fun q => SlI_1 b n p q.1 q.2.1 q.2.2) hI0 (by
    rintro ⟨x1, s1, G_1⟩ ⟨xn, sn, G_1n⟩ hi ⟨x1q, s1q, G_1q, xnq, snq, G_1nq, q1, q2, -, -, -, -, c1, hd⟩
    obtain ⟨rfl, q1x⟩ := Prod.mk.inj q1
    obtain ⟨rfl, rfl⟩ := Prod.mk.inj q1x
    obtain ⟨rfl, q2x⟩ := Prod.mk.inj q2
    obtain ⟨rfl, rfl⟩ := Prod.mk.inj q2x
    rcases hd with ⟨c2, c3, r61, G62, hn, hr, y69, t69, y71, t71, ex, es, hFc, e6⟩ | ⟨G41, hj, -, -, r47, G48, hn, hr, y55, t55, y56, t56, ex, es, hFc, e6⟩
    · exact num hi hn hr c1 (by rw [if_pos ⟨c2, c3⟩]; rfl) (by rw [← es]; exact t69) (by rw [← ex]; exact t71) hFc e6
    · obtain ⟨rfl, hz⟩ := jn3 hj
      exact num hi hn hr c1 hz (by rw [← es]; exact t55) (by rw [← ex]; exact t56) hFc e6)
  rcases hh with ⟨c3, r31, G32, hps, rfl, rfl⟩ | ⟨c3, hh⟩
  · obtain ⟨q, i1, i2, i3, i4⟩ := hI
    rcases i4 with ⟨a1, -⟩ | ⟨a1, -⟩ | ⟨a1, -⟩ | ⟨a1, a2⟩
    · omega
    · omega
    · omega
    · refine c_semi hps i1 a2 i2 (fun hFz => ?_)
      rw [hFz.i 5 6 (by decide) (by decide), hFz.row1 16 (by decide) (by decide)]
      exact ⟨i3, rfl, rfl, rfl⟩
  · rcases hh with ⟨c4, c5, r61, G62, hn, hr, rfl, rfl⟩ | ⟨G41, hj, -, -, r47, G48, hn, hr, rfl, rfl⟩
    · obtain ⟨f, g1, g2⟩ := nof hI hn hr c3 (by rw [if_pos ⟨c4, c5⟩]; rfl)
      exact Or.inl ⟨f, smi_l g1, rfl, g2.2⟩
    · obtain ⟨rfl, hz⟩ := jn3 hj
      obtain ⟨f, g1, g2⟩ := nof hI hn hr c3 hz
      exact Or.inl ⟨f, smi_l g1, rfl, g2.2⟩
theorem c_formC_1 {b : Nat → Int} {n c0 p : Nat} {r : Int32} {G G1 : GS} {w : Int} {C : List (Int × Int)} (h : P_fRead_1 G r G1) (hp : CPx b n G p) (hw : (G.1 1 12).toInt = w) (hw90 : w ≤ 90) (hC : CodeC_1 c0 C G) : (∃ f, CF f r G1 ∧ Ev b n (true, p, [], C, 0, w) (.inl f)) ∨ (∃ p' u' w' C', r.toInt = 1 ∧ CfC_1 b n c0 G1 p' C' u' w' ∧ p < p' ∧ Ev b n (true, p, [], C, 0, w) (.inr (p', C', u', w'))) := by
  obtain ⟨-, -, -, G2, -, hF2, -, e2, r3, G4, h1, rfl, rfl⟩ := h
  have hc : CfC_1 b n c0 G2 p C 0 w := ⟨hp.fr hF2 (by decide) (by decide) (by decide) (by decide), by rw [e2]; rfl, by rw [hF2.i 1 12 (by decide) (by decide)]; exact hw, hC.fr hF2 (by decide) (by decide) (by decide) (by decide), by decide, hw90⟩
  have hg := c_grp_1 (b := b) (n := n) (c0 := c0) 7
  rcases c_either_1 (d := 0) hg.1 hg.2 h1 rfl hc with ⟨f, hf1, hf2⟩ | ⟨p1, u1, w1, C1, hr1, hc1, hv1⟩
  · exact Or.inl ⟨f, hf1, Ev_topf hf2⟩
  · exact Or.inr ⟨p1, u1, w1, C1, hr1, hc1, hv1.1, Ev_top hv1⟩
theorem CodeC_1.cp {C : List (Int × Int)} {G : GS} (h : CodeC_1 0 C G) : (G.1 1 13).toInt = cap C.length := by
  have h1 := h.1
  unfold cap
  by_cases hq : C.length ≤ 580
  · rw [if_pos hq]
    omega
  · rw [if_neg hq]
    omega
theorem c_rule_1 {b : Nat → Int} {n p : Nat} {r : Int32} {G G1 : GS} {R : VR} {w : Int} (h : P_rRule_1 G r G1) (hp : CPx b n G p) (hk : tK b n p ≠ 202) (hk3 : tK b n p ≠ 203) (hR : RlsC_1 R w G) : (6 ≤ R.length ∧ CF (fl b n 2 p) r G1) ∨ (R.length < 6 ∧ LnC b n p (smi b n (pRule b n (nms R) w p)) r G1 (fun x => RlsC_1 (R ++ [(x.1, x.2.1)]) x.2.2 G1)) := by
  obtain ⟨hm, hN, h12, hw0, hw9, hC0, hE0⟩ := hR
  have hml : (G.1 1 11).toInt = ((nms R).length : Int) := by rw [nms_len]; exact hm
  obtain ⟨-, -, -, w3, G5, hj, -, -, -, -, r12, G13, hf1, hh⟩ := h
  have hj2 : G = G5 ∧ ((6 ≤ R.length ∧ w3.toInt = 0) ∨ (R.length < 6 ∧ w3.toInt = 1)) := by
    rcases hj with ⟨c, e1, e2⟩ | ⟨c, e1, e2⟩
    · exact ⟨e2, Or.inl ⟨by omega, by rw [← e1]; rfl⟩⟩
    · exact ⟨e2, Or.inr ⟨by omega, by rw [← e1]; rfl⟩⟩
  obtain ⟨rfl, hj3⟩ := hj2
  clear hj
  have ht := tN_p (b := b) hp.1.2.1 hp.2.2.2
  have htp := (ht.2.2 hk3).1
  rcases c_first hf1 hp hk with ⟨hm0, hC⟩ | ⟨hm1, hr, hp2⟩
  · rcases hh with ⟨c, rfl, rfl⟩ | ⟨c, -⟩
    · exact Or.inl ⟨by omega, rfl, hC.2⟩
    · exact absurd hC.1 c
  have hlt : R.length < 6 := by omega
  refine Or.inr ⟨hlt, ?_⟩
  rcases hh with ⟨c, -⟩ | ⟨c, r19, G20, hnm, hh⟩
  · omega
  rcases c_name_36 hnm hp2 (hN.fr hf1.2.1 (by decide) (by decide)) hml (by rw [nms_len]; exact hlt) with ⟨f, hf, hC⟩ | ⟨e1, hr19, hp3, hN20⟩
  · rcases hh with ⟨c, rfl, rfl⟩ | ⟨c, -⟩
    · exact Or.inl ⟨f, smi_l (by unfold pRule; exact bnd_l hf), rfl, hC.2⟩
    · exact absurd hC.1 c
  rcases hh with ⟨c, -⟩ | ⟨c, G27, -, hF27, w27, r28, G29, hfm, hh⟩
  · omega
  have t3 := tN_p (b := b) hp2.1.2.1 hp2.2.2.2
  replace hp3 := hp3.fr hF27 (by decide) (by decide) (by decide) (by decide)
  rw [cn_eq hm] at w27
  have h12' : (G27.1 1 12).toInt = w := by
    rw [hF27.i 1 12 (by decide) (by decide), hnm.2.1.i 1 12 (by decide) (by decide), hf1.2.1.i 1 12 (by decide) (by decide)]
    exact h12
  have hC27 : CodeC_1 0 (fcd R) G27 := ((hC0.fr hf1.2.1 (by decide) (by decide) (by decide) (by decide)).fr hnm.2.1 (by decide) (by decide) (by decide) (by decide)).fr hF27 (by decide) (by decide) (by decide) (by decide)
  rcases c_formC_1 hfm hp3 h12' hw9 hC27 with ⟨f, hC, hev⟩ | ⟨p', u', w', C', hr28, hc29, hpp, hev⟩
  · obtain ⟨o', ho1, ho2⟩ := Ev_pre hev
    cases o' with
    | inr o' => exact absurd ho2 (by simp [preO])
    | inl f' =>
      have hff : f = f' := by simpa [preO] using ho2
      subst hff
      rcases hh with ⟨c, rfl, rfl⟩ | ⟨c, -⟩
      · exact Or.inl ⟨f, smi_l (by unfold pRule; exact (bnd_r e1).trans (bnd_l (pForm_l ho1))), rfl, hC.2⟩
      · exact absurd hC.1 c
  obtain ⟨o', ho1, ho2⟩ := Ev_pre hev
  cases o' with
  | inl f' => exact absurd ho2 (by simp [preO])
  | inr o' =>
    obtain ⟨p2, D, u2, w2⟩ := o'
    have hq : p' = p2 ∧ C' = fcd R ++ D ∧ u' = u2 ∧ w' = w2 := by
      have := Sum.inr.inj ho2
      simpa using this
    obtain ⟨rfl, rfl, rfl, rfl⟩ := hq
    rcases hh with ⟨c, -⟩ | ⟨c, y35, t35, G38, -, hF38, w11, w38, r39, G40, hps, rfl, rfl⟩
    · omega
    obtain ⟨hp29, -, hw29, hC29, -, hw90⟩ := hc29
    have hrl : pRule b n (nms R) w p = .inr ((tL b n (tNx b n p), D, w'), p') := by
      unfold pRule
      exact (bnd_r e1).trans (bnd_r (pForm_r ho1))
    have hw0' : 0 ≤ w' := by
      rw [← hw29]
      exact (hfm.1.i 1 12 (lo := 0) (hi := 90) rfl rfl).1
    refine c_semi hps (hp29.fr hF38 (by decide) (by decide) (by decide) (by decide)) hrl (by omega) (fun hFz => ?_)
    have r8 : G40.1 18 = upd (upd (G20.1 18) R.length (G.1 1 13)) (R.length + 1) (G29.1 1 13) := by
      rw [hFz.row1 18 (by decide) (by decide), w38, cn_eq (x := y35) (e := R.length + 1) (by omega), hfm.2.1.row1 18 (by decide) (by decide), w27]
    have hcap : (G.1 1 13).toInt = cap (fcd R).length := hC0.cp
    have hcap2 : (G29.1 1 13).toInt = cap (fcd R ++ D).length := hC29.cp
    have h20 : G20.1 18 = G.1 18 := by rw [hnm.2.1.row1 18 (by decide) (by decide), hf1.2.1.row1 18 (by decide) (by decide)]
    rw [h20] at r8
    refine ⟨by rw [hFz.i 1 11 (by decide) (by decide), w11, List.length_append, List.length_singleton]; omega, ?_, by rw [hFz.i 1 12 (by decide) (by decide), hF38.i 1 12 (by decide) (by decide)]; exact hw29, hw0', hw90, ?_, ?_⟩
    · rw [nms_snoc]
      exact (((hN20.fr hF27 (by decide) (by decide)).fr hfm.2.1 (by decide) (by decide)).fr hF38 (by decide) (by decide)).fr hFz (by decide) (by decide)
    · rw [fcd_snoc]
      exact (hC29.fr hF38 (by decide) (by decide) (by decide) (by decide)).fr hFz (by decide) (by decide) (by decide) (by decide)
    · intro k hk2
      rw [List.length_append, List.length_singleton] at hk2
      rw [r8]
      by_cases hq : k = R.length
      · subst hq
        rw [show upd (upd (G.1 18) R.length (G.1 1 13)) (R.length + 1) (G29.1 1 13) R.length = upd (G.1 18) R.length (G.1 1 13) R.length from if_neg (by omega), show upd (G.1 18) R.length (G.1 1 13) R.length = G.1 1 13 from if_pos rfl, show upd (upd (G.1 18) R.length (G.1 1 13)) (R.length + 1) (G29.1 1 13) (R.length + 1) = G29.1 1 13 from if_pos rfl, take_snoc (Nat.le_refl _), List.take_length, take_all, fcd_snoc]
        exact ⟨hcap, hcap2⟩
      · have hE := hE0 k (by omega)
        rw [show upd (upd (G.1 18) R.length (G.1 1 13)) (R.length + 1) (G29.1 1 13) k = upd (G.1 18) R.length (G.1 1 13) k from if_neg (by omega), show upd (G.1 18) R.length (G.1 1 13) k = G.1 18 k from if_neg (by omega), show upd (upd (G.1 18) R.length (G.1 1 13)) (R.length + 1) (G29.1 1 13) (k + 1) = upd (G.1 18) R.length (G.1 1 13) (k + 1) from if_neg (by omega), take_snoc (by omega), take_snoc (by omega)]
        refine ⟨hE.1, ?_⟩
        by_cases hq2 : k + 1 = R.length
        · rw [show upd (G.1 18) R.length (G.1 1 13) (k + 1) = G.1 1 13 from if_pos hq2, hq2, List.take_length]
          exact hcap
        · rw [show upd (G.1 18) R.length (G.1 1 13) (k + 1) = G.1 18 (k + 1) from if_neg hq2]
          exact hE.2
theorem c_walker_2 {b : Nat → Int} {n p : Nat} {r : Int32} {G G1 : GS} {NS : List (List Int)} (h : P_rWalker_2 G r G1) (hp : CPx b n G p) (hk : tK b n p ≠ 202) (hk3 : tK b n p ≠ 203) (hN : NmC 35 NS G) (hm : (G.1 2 10).toInt = (NS.length : Int)) : (4 ≤ NS.length ∧ CF (fl b n 2 p) r G1) ∨ (NS.length < 4 ∧ LnC b n p (smi b n (pWalker b n NS p)) r G1 (fun x => NmC 35 (NS ++ [x.1]) G1 ∧ (G1.1 2 10).toInt = (NS.length : Int) + 1 ∧ WkC_2 NS.length x.2 G1 ∧ ∀ k, k ≠ NS.length → G1.1 22 k = G.1 22 k ∧ G1.1 23 k = G.1 23 k ∧ G1.1 24 k = G.1 24 k ∧ G1.1 25 k = G.1 25 k)) := by
  obtain ⟨-, -, -, w4, G6, hj, -, -, -, -, r12, G13, hf1, hh⟩ := h
  have hj2 : G = G6 ∧ ((4 ≤ NS.length ∧ w4.toInt = 0) ∨ (NS.length < 4 ∧ w4.toInt = 1)) := by
    rcases hj with ⟨c, e1, e2⟩ | ⟨c, e1, e2⟩
    · exact ⟨e2, Or.inl ⟨by omega, by rw [← e1]; rfl⟩⟩
    · exact ⟨e2, Or.inr ⟨by omega, by rw [← e1]; rfl⟩⟩
  obtain ⟨rfl, hj3⟩ := hj2
  clear hj
  have ht := tN_p (b := b) hp.1.2.1 hp.2.2.2
  have htp := (ht.2.2 hk3).1
  rcases c_first hf1 hp hk with ⟨hm0, hC⟩ | ⟨hm1, hr, hp2⟩
  · rcases hh with ⟨c, rfl, rfl⟩ | ⟨c, -⟩
    · exact Or.inl ⟨by omega, rfl, hC.2⟩
    · exact absurd hC.1 c
  have hlt : NS.length < 4 := by omega
  refine Or.inr ⟨hlt, ?_⟩
  have hmc := cn_eq hm
  rcases hh with ⟨c, -⟩ | ⟨c, r19, G20, hnm, hh⟩
  · omega
  rcases c_name_35 hnm hp2 (hN.fr hf1.2.1 (by decide) (by decide)) hm hlt with ⟨f, hf, hC⟩ | ⟨e1, hr19, hp3, hN20⟩
  · rcases hh with ⟨c, rfl, rfl⟩ | ⟨c, -⟩
    · exact Or.inl ⟨f, smi_l (by unfold pWalker; exact bnd_l hf), rfl, hC.2⟩
    · exact absurd hC.1 c
  rcases hh with ⟨c, -⟩ | ⟨c, r26, G27, hp26, hh⟩
  · omega
  have t3 := tN_p (b := b) hp2.1.2.1 hp2.2.2.2
  rcases c_pass hp26 hp3 (by decide) with ⟨f, hf, hC⟩ | ⟨e2, hr26, hp4⟩
  · rcases hh with ⟨c, rfl, rfl⟩ | ⟨c, -⟩
    · exact Or.inl ⟨f, smi_l (by unfold pWalker; exact (bnd_r e1).trans (bnd_l hf)), rfl, hC.2⟩
    · exact absurd hC.1 c
  rcases hh with ⟨c, -⟩ | ⟨c, r35, G36, hn35, hh⟩
  · omega
  have t4 := tN_p (b := b) hp3.1.2.1 hp3.2.2.2
  rcases c_num hn35 hp4 with ⟨f, hf, hC⟩ | ⟨e3, hr35, hp5, v5, lo5, hi5⟩
  · rcases hh with ⟨c, rfl, rfl⟩ | ⟨c, -⟩
    · exact Or.inl ⟨f, smi_l (by unfold pWalker; exact (bnd_r e1).trans ((bnd_r e2).trans (bnd_l hf))), rfl, hC.2⟩
    · exact absurd hC.1 c
  rcases hh with ⟨c, -⟩ | ⟨c, G42, -, hF42, w42, r43, G44, hp43, hh⟩
  · omega
  have t5 := tN_p (b := b) hp4.1.2.1 hp4.2.2.2
  rw [hmc] at w42
  replace hp5 := hp5.fr hF42 (by decide) (by decide) (by decide) (by decide)
  rcases c_pass hp43 hp5 (by decide) with ⟨f, hf, hC⟩ | ⟨e4, hr43, hp6⟩
  · rcases hh with ⟨c, rfl, rfl⟩ | ⟨c, -⟩
    · exact Or.inl ⟨f, smi_l (by unfold pWalker; exact (bnd_r e1).trans ((bnd_r e2).trans ((bnd_r e3).trans (bnd_l hf)))), rfl, hC.2⟩
    · exact absurd hC.1 c
  rcases hh with ⟨c, -⟩ | ⟨c, r52, G53, hn52, hh⟩
  · omega
  have t6 := tN_p (b := b) hp5.1.2.1 hp5.2.2.2
  rcases c_num hn52 hp6 with ⟨f, hf, hC⟩ | ⟨e5, hr52, hp7, v7, lo7, hi7⟩
  · rcases hh with ⟨c, rfl, rfl⟩ | ⟨c, -⟩
    · exact Or.inl ⟨f, smi_l (by unfold pWalker; exact (bnd_r e1).trans ((bnd_r e2).trans ((bnd_r e3).trans ((bnd_r e4).trans (bnd_l hf))))), rfl, hC.2⟩
    · exact absurd hC.1 c
  rcases hh with ⟨c, -⟩ | ⟨c, G59, -, hF59, w59, r60, G61, hp60, hh⟩
  · omega
  have t7 := tN_p (b := b) hp6.1.2.1 hp6.2.2.2
  rw [hmc] at w59
  replace hp7 := hp7.fr hF59 (by decide) (by decide) (by decide) (by decide)
  rcases c_pass hp60 hp7 (by decide) with ⟨f, hf, hC⟩ | ⟨e6, hr60, hp8⟩
  · rcases hh with ⟨c, rfl, rfl⟩ | ⟨c, -⟩
    · exact Or.inl ⟨f, smi_l (by unfold pWalker; exact (bnd_r e1).trans ((bnd_r e2).trans ((bnd_r e3).trans ((bnd_r e4).trans ((bnd_r e5).trans (bnd_l hf)))))), rfl, hC.2⟩
    · exact absurd hC.1 c
  rcases hh with ⟨c, -⟩ | ⟨c, y67, e67, r69, G70, hn69, hh⟩
  · omega
  have t8 := tN_p (b := b) hp7.1.2.1 hp7.2.2.2
  rw [hmc, hp60.2.1.row1 23 (by decide) (by decide), w59] at e67
  have u67 : y67 = G53.1 5 9 := e67.trans (if_pos rfl)
  have hy67 : y67.toInt = tV b n (tNx b n (tNx b n (tNx b n (tNx b n (tNx b n p))))) := by
    rw [u67]
    exact v7
  rcases c_num hn69 hp8 with ⟨f, hf, hC⟩ | ⟨e7, hr69, hp9, v9, lo9, hi9⟩
  · rw [hy67] at hf
    rcases hh with ⟨c, rfl, rfl⟩ | ⟨c, -⟩
    · exact Or.inl ⟨f, smi_l (by unfold pWalker; exact (bnd_r e1).trans ((bnd_r e2).trans ((bnd_r e3).trans ((bnd_r e4).trans ((bnd_r e5).trans ((bnd_r e6).trans (bnd_l hf))))))), rfl, hC.2⟩
    · exact absurd hC.1 c
  rw [hy67] at e7 lo9
  rcases hh with ⟨c, -⟩ | ⟨c, G76, -, hF76, w76, hh⟩
  · omega
  have t9 := tN_p (b := b) hp8.1.2.1 hp8.2.2.2
  rw [hmc] at w76
  have k70 := hp9.2.1.1
  replace hp9 := hp9.fr hF76 (by decide) (by decide) (by decide) (by decide)
  generalize hpe : tNx b n (tNx b n (tNx b n (tNx b n (tNx b n (tNx b n (tNx b n p)))))) = p7 at e6 e7 hp8 v9 lo9 hi9 t9 t8 hp9 k70
  have t10 := tN_p (b := b) hp9.1.2.1 hp9.2.2.2
  have fin : ∀ {G79 : GS} {q : Nat} {lv : Int}, Fr [] [(3, 2), (3, 3), (3, 4), (3, 5), (3, 6), (3, 7), (3, 8), (5, 9)] G76 G79 → CPx b n G79 q → (G79.1 5 9).toInt = lv → p < q → pWalker b n NS p = .inr ((tL b n (tNx b n p), tV b n (tNx b n (tNx b n (tNx b n p))), tV b n (tNx b n (tNx b n (tNx b n (tNx b n (tNx b n p))))), tV b n p7, lv), q) → (∃ (y_85 : Int32), y_85.toInt = (G.1 2 10).toInt + 1 ∧ ∃ (G_86 : GS), Bd G_86 ∧ Fr [25] [(2, 10)] G79 G_86 ∧ G_86.1 2 10 = y_85 ∧ G_86.1 25 = (upd (G79.1 25) ((G.1 2 10).toNatClampNeg) (G79.1 5 9)) ∧ ∃ (r_90 : Int32) (G_91 : GS), P_tPass 59 G_86 r_90 G_91 ∧ r_90 = r ∧ G_91 = G1) → LnC b n p (smi b n (pWalker b n NS p)) r G1 (fun x => NmC 35 (NS ++ [x.1]) G1 ∧ (G1.1 2 10).toInt = (NS.length : Int) + 1 ∧ WkC_2 NS.length x.2 G1 ∧ ∀ k, k ≠ NS.length → G1.1 22 k = G.1 22 k ∧ G1.1 23 k = G.1 23 k ∧ G1.1 24 k = G.1 24 k ∧ G1.1 25 k = G.1 25 k) := by
    intro G79 q lv hF79 hpq v79 hlt2 hE hx
    obtain ⟨y85, t85, G86, -, hF86, w10, w86, r90, G91, hp90, rfl, rfl⟩ := hx
    rw [hmc] at w86
    have b0 : ∀ i, i = 22 ∨ i = 23 ∨ i = 24 ∨ i = 25 → G13.1 i = G.1 i ∧ G20.1 i = G13.1 i ∧ G27.1 i = G20.1 i ∧ G36.1 i = G27.1 i ∧ G44.1 i = G42.1 i ∧ G53.1 i = G44.1 i ∧ G61.1 i = G59.1 i ∧ G70.1 i = G61.1 i ∧ G79.1 i = G76.1 i ∧ G91.1 i = G86.1 i := by
      intro i hi
      rcases hi with rfl | rfl | rfl | rfl <;> exact ⟨hf1.2.1.row1 _ (by decide) (by decide), hnm.2.1.row1 _ (by decide) (by decide), hp26.2.1.row1 _ (by decide) (by decide), hn35.2.1.row1 _ (by decide) (by decide), hp43.2.1.row1 _ (by decide) (by decide), hn52.2.1.row1 _ (by decide) (by decide), hp60.2.1.row1 _ (by decide) (by decide), hn69.2.1.row1 _ (by decide) (by decide), hF79.row1 _ (by decide) (by decide), hp90.2.1.row1 _ (by decide) (by decide)⟩
    have r2 : G91.1 22 = upd (G.1 22) NS.length (G36.1 5 9) := by
      obtain ⟨a1, a2, a3, a4, a5, a6, a7, a8, a9, a10⟩ := b0 22 (Or.inl rfl)
      rw [a10, hF86.row1 22 (by decide) (by decide), a9, hF76.row1 22 (by decide) (by decide), a8, a7, hF59.row1 22 (by decide) (by decide), a6, a5, w42, a4, a3, a2, a1]
    have r3 : G91.1 23 = upd (G.1 23) NS.length (G53.1 5 9) := by
      obtain ⟨a1, a2, a3, a4, a5, a6, a7, a8, a9, a10⟩ := b0 23 (Or.inr (Or.inl rfl))
      rw [a10, hF86.row1 23 (by decide) (by decide), a9, hF76.row1 23 (by decide) (by decide), a8, a7, w59, a6, a5, hF42.row1 23 (by decide) (by decide), a4, a3, a2, a1]
    have r4 : G91.1 24 = upd (G.1 24) NS.length (G70.1 5 9) := by
      obtain ⟨a1, a2, a3, a4, a5, a6, a7, a8, a9, a10⟩ := b0 24 (Or.inr (Or.inr (Or.inl rfl)))
      rw [a10, hF86.row1 24 (by decide) (by decide), a9, w76, a8, a7, hF59.row1 24 (by decide) (by decide), a6, a5, hF42.row1 24 (by decide) (by decide), a4, a3, a2, a1]
    have r5 : G91.1 25 = upd (G.1 25) NS.length (G79.1 5 9) := by
      obtain ⟨a1, a2, a3, a4, a5, a6, a7, a8, a9, a10⟩ := b0 25 (Or.inr (Or.inr (Or.inr rfl)))
      rw [a10, w86, a9, hF76.row1 25 (by decide) (by decide), a8, a7, hF59.row1 25 (by decide) (by decide), a6, a5, hF42.row1 25 (by decide) (by decide), a4, a3, a2, a1]
    have hN86 : NmC 35 (NS ++ [tL b n (tNx b n p)]) G86 := (((((((((hN20.fr hp26.2.1 (by decide) (by decide)).fr hn35.2.1 (by decide) (by decide)).fr hF42 (by decide) (by decide)).fr hp43.2.1 (by decide) (by decide)).fr hn52.2.1 (by decide) (by decide)).fr hF59 (by decide) (by decide)).fr hp60.2.1 (by decide) (by decide)).fr hn69.2.1 (by decide) (by decide)).fr hF76 (by decide) (by decide)).fr hF79 (by decide) (by decide) |>.fr hF86 (by decide) (by decide)
    refine c_semi hp90 (hpq.fr hF86 (by decide) (by decide) (by decide) (by decide)) hE hlt2 (fun hFz => ?_)
    refine ⟨hN86.fr hFz (by decide) (by decide), by rw [hFz.i 2 10 (by decide) (by decide), w10]; omega, ⟨?_, ?_, ?_, ?_⟩, fun k hk2 => ⟨?_, ?_, ?_, ?_⟩⟩
    · rw [r2, show upd (G.1 22) NS.length (G36.1 5 9) NS.length = G36.1 5 9 from if_pos rfl]
      exact v5
    · rw [r3, show upd (G.1 23) NS.length (G53.1 5 9) NS.length = G53.1 5 9 from if_pos rfl]
      exact v7
    · rw [r4, show upd (G.1 24) NS.length (G70.1 5 9) NS.length = G70.1 5 9 from if_pos rfl]
      exact v9
    · rw [r5, show upd (G.1 25) NS.length (G79.1 5 9) NS.length = G79.1 5 9 from if_pos rfl]
      exact v79
    · rw [r2]
      exact if_neg hk2
    · rw [r3]
      exact if_neg hk2
    · rw [r4]
      exact if_neg hk2
    · rw [r5]
      exact if_neg hk2
  have e8 : pWalker b n NS p = (if tK b n (tNx b n p7) = 133 then bnd (pNum b n (tV b n p7 + 1) 99 (tNx b n (tNx b n p7))) fun v q => .inr ((tL b n (tNx b n p), tV b n (tNx b n (tNx b n (tNx b n p))), tV b n (tNx b n (tNx b n (tNx b n (tNx b n (tNx b n p))))), tV b n p7, v), q) else .inr ((tL b n (tNx b n p), tV b n (tNx b n (tNx b n (tNx b n p))), tV b n (tNx b n (tNx b n (tNx b n (tNx b n (tNx b n p))))), tV b n p7, tV b n p7), tNx b n p7)) := by
    unfold pWalker
    exact (bnd_r e1).trans ((bnd_r e2).trans ((bnd_r e3).trans ((bnd_r e4).trans ((bnd_r e5).trans ((bnd_r e6).trans (bnd_r e7))))))
  have h14 : ∀ {Gq : GS}, Gq.1 24 = G76.1 24 → ∀ {y : Int32}, y = Gq.1 24 ((G.1 2 10).toNatClampNeg) → y.toInt = tV b n p7 := by
    intro Gq e y e2'
    rw [e2', e, hmc, w76, show upd (G70.1 24) NS.length (G70.1 5 9) NS.length = G70.1 5 9 from if_pos rfl]
    exact v9
  rcases hh with ⟨c133, r98, G99, hp98, hh⟩ | ⟨G79, hj, -, -, hF79, hh⟩
  · rw [k70] at c133
    rw [if_pos c133] at e8
    rcases c_pass hp98 hp9 (by decide) with ⟨f, hf, hC⟩ | ⟨e9, hr98, hp10⟩
    · have : pKw b n 133 (tNx b n p7) = .inl f := hf
      unfold pKw at this
      rw [if_pos c133] at this
      exact absurd this (by simp)
    rcases hh with ⟨c, -⟩ | ⟨c, y105, e105, y106, t106, r108, G109, hn108, c108, rfl, rfl⟩
    · omega
    have h105 := h14 (hp98.2.1.row1 24 (by decide) (by decide)) e105
    rcases c_num hn108 hp10 with ⟨f, hf, hC⟩ | ⟨e10, hr108, -⟩
    · rw [show y106.toInt = tV b n p7 + 1 by omega] at hf
      exact Or.inl ⟨f, smi_l (e8.trans (bnd_l hf)), rfl, hC.2⟩
    · omega
  · rcases hj with ⟨c133, r98, G99, hp98, c98, y105, e105, y106, t106, r108, G109, hn108, c108, rfl⟩ | ⟨c133, rfl⟩
    · rw [k70] at c133
      rw [if_pos c133] at e8
      rcases c_pass hp98 hp9 (by decide) with ⟨f, hf, hC⟩ | ⟨e9, hr98, hp10⟩
      · exact absurd hC.1 c98
      have h105 := h14 (hp98.2.1.row1 24 (by decide) (by decide)) e105
      have t11 := tN_p (b := b) hp10.1.2.1 hp10.2.2.2
      rcases c_num hn108 hp10 with ⟨f, hf, hC⟩ | ⟨e10, hr108, hp11, v11, -⟩
      · exact absurd hC.1 c108
      · rw [show y106.toInt = tV b n p7 + 1 by omega] at e10
        exact fin hF79 hp11 v11 (by omega) (e8.trans (bnd_r e10)) hh
    · rw [k70] at c133
      rw [if_neg c133] at e8
      refine fin hF79 hp9 ?_ (by omega) e8 hh
      rw [hF76.i 5 9 (by decide) (by decide)]
      exact v9
theorem c_hand_2 {b : Nat → Int} {n p : Nat} {r : Int32} {G G1 : GS} (h : P_rHand_2 G r G1) (hp : CPx b n G p) (hk : tK b n p ≠ 202) (hk3 : tK b n p ≠ 203) : ((G.1 5 7).toInt ≠ 0 ∧ CF (fl b n 2 p) r G1) ∨ ((G.1 5 7).toInt = 0 ∧ LnC b n p (smi b n (pHand b n p)) r G1 (fun x => (G1.1 5 7).toInt = 1 ∧ (G1.1 2 14).toInt = x.1 ∧ (G1.1 2 15).toInt = x.2)) := by
  obtain ⟨-, -, -, w3, G5, hj, -, -, -, r10, G11, hf1, hh⟩ := h
  have hj2 : G = G5 ∧ (((G.1 5 7).toInt ≠ 0 ∧ w3.toInt = 0) ∨ ((G.1 5 7).toInt = 0 ∧ w3.toInt = 1)) := by
    rcases hj with ⟨c, e1, e2⟩ | ⟨c, e1, e2⟩
    · exact ⟨e2, Or.inr ⟨c, by rw [← e1]; rfl⟩⟩
    · exact ⟨e2, Or.inl ⟨c, by rw [← e1]; rfl⟩⟩
  obtain ⟨rfl, hj3⟩ := hj2
  clear hj
  have ht := tN_p (b := b) hp.1.2.1 hp.2.2.2
  have htp := (ht.2.2 hk3).1
  rcases c_first hf1 hp hk with ⟨hm0, hC⟩ | ⟨hm1, hr, hp2⟩
  · rcases hh with ⟨c, rfl, rfl⟩ | ⟨c, -⟩
    · exact Or.inl ⟨by omega, rfl, hC.2⟩
    · exact absurd hC.1 c
  refine Or.inr ⟨by omega, ?_⟩
  rcases hh with ⟨c, -⟩ | ⟨c, r19, G20, hn1, hh⟩
  · omega
  rcases c_num hn1 hp2 with ⟨f, hf, hC⟩ | ⟨e1, hr19, hp3, v3, -, -⟩
  · rcases hh with ⟨c, rfl, rfl⟩ | ⟨c, -⟩
    · exact Or.inl ⟨f, smi_l (by unfold pHand; exact bnd_l hf), rfl, hC.2⟩
    · exact absurd hC.1 c
  rcases hh with ⟨c, -⟩ | ⟨c, G27, -, hF27, w14, w7, r28, G29, hps, hh⟩
  · omega
  have t3 := tN_p (b := b) hp2.1.2.1 hp2.2.2.2
  replace hp3 := hp3.fr hF27 (by decide) (by decide) (by decide) (by decide)
  rcases c_pass hps hp3 (by decide) with ⟨f, hf, hC⟩ | ⟨e2, hr28, hp4⟩
  · rcases hh with ⟨c, rfl, rfl⟩ | ⟨c, -⟩
    · exact Or.inl ⟨f, smi_l (by unfold pHand; exact (bnd_r e1).trans (bnd_l hf)), rfl, hC.2⟩
    · exact absurd hC.1 c
  rcases hh with ⟨c, -⟩ | ⟨c, r37, G38, hn2, hh⟩
  · omega
  have t4 := tN_p (b := b) hp3.1.2.1 hp3.2.2.2
  rcases c_num hn2 hp4 with ⟨f, hf, hC⟩ | ⟨e3, hr37, hp5, v5, -, -⟩
  · rcases hh with ⟨c, rfl, rfl⟩ | ⟨c, -⟩
    · exact Or.inl ⟨f, smi_l (by unfold pHand; exact (bnd_r e1).trans ((bnd_r e2).trans (bnd_l hf))), rfl, hC.2⟩
    · exact absurd hC.1 c
  rcases hh with ⟨c, -⟩ | ⟨c, G44, -, hF44, w15, r45, G46, hp45, rfl, rfl⟩
  · omega
  have t5 := tN_p (b := b) hp4.1.2.1 hp4.2.2.2
  refine c_semi hp45 (hp5.fr hF44 (by decide) (by decide) (by decide) (by decide)) (by unfold pHand; exact (bnd_r e1).trans ((bnd_r e2).trans (bnd_r e3))) (by omega) (fun hFz => ⟨?_, ?_, ?_⟩)
  · rw [hFz.i 5 7 (by decide) (by decide), hF44.i 5 7 (by decide) (by decide), hn2.2.1.i 5 7 (by decide) (by decide), hps.2.1.i 5 7 (by decide) (by decide), w7]
    rfl
  · rw [hFz.i 2 14 (by decide) (by decide), hF44.i 2 14 (by decide) (by decide), hn2.2.1.i 2 14 (by decide) (by decide), hps.2.1.i 2 14 (by decide) (by decide), w14]
    exact v3
  · rw [hFz.i 2 15 (by decide) (by decide), w15]
    exact v5
theorem c_draw_2 {b : Nat → Int} {n p : Nat} {r : Int32} {G G1 : GS} (h : P_rDraw_2 G r G1) (hp : CPx b n G p) (hk : tK b n p ≠ 202) (hk3 : tK b n p ≠ 203) : ((G.1 5 8).toInt ≠ 0 ∧ CF (fl b n 2 p) r G1) ∨ ((G.1 5 8).toInt = 0 ∧ LnC b n p (smi b n (pDraw b n p)) r G1 (fun x => (G1.1 5 8).toInt = 1 ∧ (G1.1 2 16).toInt = x)) := by
  obtain ⟨-, -, -, w3, G5, hj, -, -, -, r10, G11, hf1, hh⟩ := h
  have hj2 : G = G5 ∧ (((G.1 5 8).toInt ≠ 0 ∧ w3.toInt = 0) ∨ ((G.1 5 8).toInt = 0 ∧ w3.toInt = 1)) := by
    rcases hj with ⟨c, e1, e2⟩ | ⟨c, e1, e2⟩
    · exact ⟨e2, Or.inr ⟨c, by rw [← e1]; rfl⟩⟩
    · exact ⟨e2, Or.inl ⟨c, by rw [← e1]; rfl⟩⟩
  obtain ⟨rfl, hj3⟩ := hj2
  clear hj
  have ht := tN_p (b := b) hp.1.2.1 hp.2.2.2
  have htp := (ht.2.2 hk3).1
  rcases c_first hf1 hp hk with ⟨hm0, hC⟩ | ⟨hm1, hr, hp2⟩
  · rcases hh with ⟨c, rfl, rfl⟩ | ⟨c, -⟩
    · exact Or.inl ⟨by omega, rfl, hC.2⟩
    · exact absurd hC.1 c
  refine Or.inr ⟨by omega, ?_⟩
  rcases hh with ⟨c, -⟩ | ⟨c, r19, G20, hn1, hh⟩
  · omega
  rcases c_num hn1 hp2 with ⟨f, hf, hC⟩ | ⟨e1, hr19, hp3, v3, -, -⟩
  · rcases hh with ⟨c, rfl, rfl⟩ | ⟨c, -⟩
    · exact Or.inl ⟨f, smi_l hf, rfl, hC.2⟩
    · exact absurd hC.1 c
  rcases hh with ⟨c, -⟩ | ⟨c, G27, -, hF27, w16, w8, r28, G29, hp28, rfl, rfl⟩
  · omega
  have t3 := tN_p (b := b) hp2.1.2.1 hp2.2.2.2
  refine c_semi hp28 (hp3.fr hF27 (by decide) (by decide) (by decide) (by decide)) e1 (by omega) (fun hFz => ⟨?_, ?_⟩)
  · rw [hFz.i 5 8 (by decide) (by decide), w8]
    rfl
  · rw [hFz.i 2 16 (by decide) (by decide), w16]
    exact v3
def SlI_2 (b : Nat → Int) (n p : Nat) (x s : Int32) (G : GS) : Prop := ∃ q, CPx b n G q ∧ p < q ∧ (G.1 5 6).toInt = 1 ∧ ((x.toInt = 0 ∧ s.toInt = 0 ∧ q = tNx b n p) ∨ (x.toInt = 1 ∧ pNum b n 0 9 (tNx b n p) = .inr ((G.1 26 0).toInt, q) ∧ s.toInt = (G.1 26 0).toInt) ∨ (x.toInt = 2 ∧ ∃ q1, pNum b n 0 9 (tNx b n p) = .inr ((G.1 26 0).toInt, q1) ∧ pNum b n 0 9 q1 = .inr ((G.1 26 1).toInt, q) ∧ s.toInt = (G.1 26 0).toInt + (G.1 26 1).toInt) ∨ (x.toInt = 3 ∧ pSlip b n p = .inr (((G.1 26 0).toInt, (G.1 26 1).toInt, (G.1 26 2).toInt), q)))
theorem c_slip_2 {b : Nat → Int} {n p : Nat} {r : Int32} {G G1 : GS} (h : P_rSlip_2 G r G1) (hp : CPx b n G p) (hk : tK b n p ≠ 202) (hk3 : tK b n p ≠ 203) : ((G.1 5 6).toInt ≠ 0 ∧ CF (fl b n 2 p) r G1) ∨ ((G.1 5 6).toInt = 0 ∧ LnC b n p (smi b n (pSlip b n p)) r G1 (fun x => (G1.1 5 6).toInt = 1 ∧ (G1.1 26 0).toInt = x.1 ∧ (G1.1 26 1).toInt = x.2.1 ∧ (G1.1 26 2).toInt = x.2.2)) := by
  obtain ⟨-, -, -, w3, G5, hj, -, -, -, r10, G11, hf1, hh⟩ := h
  have hj2 : G = G5 ∧ (((G.1 5 6).toInt ≠ 0 ∧ w3.toInt = 0) ∨ ((G.1 5 6).toInt = 0 ∧ w3.toInt = 1)) := by
    rcases hj with ⟨c, e1, e2⟩ | ⟨c, e1, e2⟩
    · exact ⟨e2, Or.inr ⟨c, by rw [← e1]; rfl⟩⟩
    · exact ⟨e2, Or.inl ⟨c, by rw [← e1]; rfl⟩⟩
  obtain ⟨rfl, hj3⟩ := hj2
  clear hj
  have ht := tN_p (b := b) hp.1.2.1 hp.2.2.2
  have htp := (ht.2.2 hk3).1
  rcases c_first hf1 hp hk with ⟨hm0, hC⟩ | ⟨hm1, hr, hp2⟩
  · rcases hh with ⟨c, rfl, rfl⟩ | ⟨c, -⟩
    · exact Or.inl ⟨by omega, rfl, hC.2⟩
    · exact absurd hC.1 c
  refine Or.inr ⟨by omega, ?_⟩
  rcases hh with ⟨c, -⟩ | ⟨c, G17, -, hF17, w6, x22, x23, G18, hl, -, -, -, -, -, hh⟩
  · omega
  have z0 : ((0 : Int32).toInt = 0) := rfl
  have hI0 : SlI_2 b n p 0 0 G17 := ⟨tNx b n p, hp2.fr hF17 (by decide) (by decide) (by decide) (by decide), htp, by rw [w6]; rfl, Or.inl ⟨rfl, rfl, rfl⟩⟩
  have num : ∀ {x s : Int32} {Ga Gb Gc : GS} {lo r7 : Int32} {x' s' : Int32}, SlI_2 b n p x s Ga → P_rNum lo 9 Ga r7 Gb → r7.toInt ≠ 0 → x.toInt < 3 → lo.toInt = (if x.toInt = 2 ∧ s.toInt = 0 then 1 else 0) → s'.toInt = s.toInt + (Gb.1 5 9).toInt → x'.toInt = x.toInt + 1 → Fr [26] [] Gb Gc → Gc.1 26 = upd (Gb.1 26) x.toNatClampNeg (Gb.1 5 9) → SlI_2 b n p x' s' Gc := by
    intro x s Ga Gb Gc lo r7 x' s' hi hn hr7 hx3 hlo hs' hx' hFc e6
    obtain ⟨q, i1, i2, i3, i4⟩ := hi
    have tq := tN_p (b := b) i1.1.2.1 i1.2.2.2
    rcases c_num hn i1 with ⟨f, -, hC⟩ | ⟨ev, -, hpn, v, -, -⟩
    · exact absurd hC.1 hr7
    have r6 : Gb.1 26 = Ga.1 26 := hn.2.1.row1 26 (by decide) (by decide)
    have h56 : (Gc.1 5 6).toInt = 1 := by
      rw [hFc.i 5 6 (by decide) (by decide), hn.2.1.i 5 6 (by decide) (by decide)]
      exact i3
    rw [r6] at e6
    refine ⟨tNx b n q, hpn.fr hFc (by decide) (by decide) (by decide) (by decide), by omega, h56, ?_⟩
    rcases i4 with ⟨a1, a2, a3⟩ | ⟨a1, a2, a3⟩ | ⟨a1, q1, a2, a3, a4⟩ | ⟨a1, -⟩
    · rw [if_neg (by omega)] at hlo
      rw [cn_eq (x := x) (e := 0) (by omega)] at e6
      have d0 : Gc.1 26 0 = Gb.1 5 9 := by rw [e6]; exact if_pos rfl
      refine Or.inr (Or.inl ⟨by omega, ?_, by rw [d0]; omega⟩)
      rw [d0, v, ← a3, ← hlo]
      exact ev
    · rw [if_neg (by omega)] at hlo
      rw [cn_eq (x := x) (e := 1) (by omega)] at e6
      have d0 : Gc.1 26 0 = Ga.1 26 0 := by rw [e6]; exact if_neg (by decide)
      have d1 : Gc.1 26 1 = Gb.1 5 9 := by rw [e6]; exact if_pos rfl
      refine Or.inr (Or.inr (Or.inl ⟨by omega, q, by rw [d0]; exact a2, ?_, by rw [d0, d1]; omega⟩))
      rw [d1, v, ← hlo]
      exact ev
    · rw [cn_eq (x := x) (e := 2) (by omega)] at e6
      have d0 : Gc.1 26 0 = Ga.1 26 0 := by rw [e6]; exact if_neg (by decide)
      have d1 : Gc.1 26 1 = Ga.1 26 1 := by rw [e6]; exact if_neg (by decide)
      have d2 : Gc.1 26 2 = Gb.1 5 9 := by rw [e6]; exact if_pos rfl
      refine Or.inr (Or.inr (Or.inr ⟨by omega, ?_⟩))
      have hlo2 : lo.toInt = (if (Ga.1 26 0).toInt + (Ga.1 26 1).toInt = 0 then 1 else 0) := by
        rw [hlo]
        by_cases hz : (Ga.1 26 0).toInt + (Ga.1 26 1).toInt = 0
        · rw [if_pos hz, if_pos (by omega)]
        · rw [if_neg hz, if_neg (by omega)]
      rw [hlo2] at ev
      unfold pSlip
      rw [d0, d1, d2, v]
      exact (bnd_r a2).trans ((bnd_r a3).trans (bnd_r ev))
    · omega
  have nof : ∀ {x s : Int32} {Ga Gb : GS} {lo r7 : Int32}, SlI_2 b n p x s Ga → P_rNum lo 9 Ga r7 Gb → r7.toInt = 0 → x.toInt < 3 → lo.toInt = (if x.toInt = 2 ∧ s.toInt = 0 then 1 else 0) → ∃ f, pSlip b n p = .inl f ∧ CF f r7 Gb := by
    intro x s Ga Gb lo r7 hi hn hr7 hx3 hlo
    obtain ⟨q, i1, i2, i3, i4⟩ := hi
    rcases c_num hn i1 with ⟨f, hf, hC⟩ | ⟨ev, hr, -⟩
    · refine ⟨f, ?_, hC⟩
      unfold pSlip
      rcases i4 with ⟨a1, a2, a3⟩ | ⟨a1, a2, a3⟩ | ⟨a1, q1, a2, a3, a4⟩ | ⟨a1, -⟩
      · rw [if_neg (by omega)] at hlo
        rw [hlo, a3] at hf
        exact bnd_l hf
      · rw [if_neg (by omega)] at hlo
        rw [hlo] at hf
        exact (bnd_r a2).trans (bnd_l hf)
      · have hlo2 : lo.toInt = (if (Ga.1 26 0).toInt + (Ga.1 26 1).toInt = 0 then 1 else 0) := by
          rw [hlo]
          by_cases hz : (Ga.1 26 0).toInt + (Ga.1 26 1).toInt = 0
          · rw [if_pos hz, if_pos (by omega)]
          · rw [if_neg hz, if_neg (by omega)]
        rw [hlo2] at hf
        exact (bnd_r a2).trans ((bnd_r a3).trans (bnd_l hf))
      · omega
    · omega
  have jn3 : ∀ {x s : Int32} {Ga Gb : GS}, Jn_k_rSlip_2_3 x s Ga Gb → Ga = Gb ∧ (0 : Int32).toInt = (if x.toInt = 2 ∧ s.toInt = 0 then 1 else 0) := by
    intro x s Ga Gb hj
    rcases hj with ⟨c1, c2, e⟩ | ⟨c1, e⟩
    · exact ⟨e, by rw [if_neg (fun q => c2 q.2)]; rfl⟩
    · exact ⟨e, by rw [if_neg (fun q => c1 q.1)]; rfl⟩
  have hI : SlI_2 b n p x22 x23 G18 := hl (fun q => SlI_2 b n p q.1 q.2.1 q.2.2) hI0 (by
    rintro ⟨x1, s1, G_1⟩ ⟨xn, sn, G_1n⟩ hi ⟨x1q, s1q, G_1q, xnq, snq, G_1nq, q1, q2, -, -, -, -, c1, hd⟩
    obtain ⟨rfl, q1x⟩ := Prod.mk.inj q1
    obtain ⟨rfl, rfl⟩ := Prod.mk.inj q1x
    obtain ⟨rfl, q2x⟩ := Prod.mk.inj q2
    obtain ⟨rfl, rfl⟩ := Prod.mk.inj q2x
    rcases hd with ⟨c2, c3, r61, G62, hn, hr, y69, t69, y71, t71, ex, es, hFc, e6⟩ | ⟨G41, hj, -, -, r47, G48, hn, hr, y55, t55, y56, t56, ex, es, hFc, e6⟩
    · exact num hi hn hr c1 (by rw [if_pos ⟨c2, c3⟩]; rfl) (by rw [← es]; exact t69) (by rw [← ex]; exact t71) hFc e6
    · obtain ⟨rfl, hz⟩ := jn3 hj
      exact num hi hn hr c1 hz (by rw [← es]; exact t55) (by rw [← ex]; exact t56) hFc e6)
  rcases hh with ⟨c3, r31, G32, hps, rfl, rfl⟩ | ⟨c3, hh⟩
  · obtain ⟨q, i1, i2, i3, i4⟩ := hI
    rcases i4 with ⟨a1, -⟩ | ⟨a1, -⟩ | ⟨a1, -⟩ | ⟨a1, a2⟩
    · omega
    · omega
    · omega
    · refine c_semi hps i1 a2 i2 (fun hFz => ?_)
      rw [hFz.i 5 6 (by decide) (by decide), hFz.row1 26 (by decide) (by decide)]
      exact ⟨i3, rfl, rfl, rfl⟩
  · rcases hh with ⟨c4, c5, r61, G62, hn, hr, rfl, rfl⟩ | ⟨G41, hj, -, -, r47, G48, hn, hr, rfl, rfl⟩
    · obtain ⟨f, g1, g2⟩ := nof hI hn hr c3 (by rw [if_pos ⟨c4, c5⟩]; rfl)
      exact Or.inl ⟨f, smi_l g1, rfl, g2.2⟩
    · obtain ⟨rfl, hz⟩ := jn3 hj
      obtain ⟨f, g1, g2⟩ := nof hI hn hr c3 hz
      exact Or.inl ⟨f, smi_l g1, rfl, g2.2⟩
theorem c_formC_2 {b : Nat → Int} {n c0 p : Nat} {r : Int32} {G G1 : GS} {w : Int} {C : List (Int × Int)} (h : P_fRead_2 G r G1) (hp : CPx b n G p) (hw : (G.1 2 12).toInt = w) (hw90 : w ≤ 90) (hC : CodeC_2 c0 C G) : (∃ f, CF f r G1 ∧ Ev b n (true, p, [], C, 0, w) (.inl f)) ∨ (∃ p' u' w' C', r.toInt = 1 ∧ CfC_2 b n c0 G1 p' C' u' w' ∧ p < p' ∧ Ev b n (true, p, [], C, 0, w) (.inr (p', C', u', w'))) := by
  obtain ⟨-, -, -, G2, -, hF2, -, e2, r3, G4, h1, rfl, rfl⟩ := h
  have hc : CfC_2 b n c0 G2 p C 0 w := ⟨hp.fr hF2 (by decide) (by decide) (by decide) (by decide), by rw [e2]; rfl, by rw [hF2.i 2 12 (by decide) (by decide)]; exact hw, hC.fr hF2 (by decide) (by decide) (by decide) (by decide), by decide, hw90⟩
  have hg := c_grp_2 (b := b) (n := n) (c0 := c0) 7
  rcases c_either_2 (d := 0) hg.1 hg.2 h1 rfl hc with ⟨f, hf1, hf2⟩ | ⟨p1, u1, w1, C1, hr1, hc1, hv1⟩
  · exact Or.inl ⟨f, hf1, Ev_topf hf2⟩
  · exact Or.inr ⟨p1, u1, w1, C1, hr1, hc1, hv1.1, Ev_top hv1⟩
theorem CodeC_2.cp {C : List (Int × Int)} {G : GS} (h : CodeC_2 0 C G) : (G.1 2 13).toInt = cap C.length := by
  have h1 := h.1
  unfold cap
  by_cases hq : C.length ≤ 580
  · rw [if_pos hq]
    omega
  · rw [if_neg hq]
    omega
theorem c_rule_2 {b : Nat → Int} {n p : Nat} {r : Int32} {G G1 : GS} {R : VR} {w : Int} (h : P_rRule_2 G r G1) (hp : CPx b n G p) (hk : tK b n p ≠ 202) (hk3 : tK b n p ≠ 203) (hR : RlsC_2 R w G) : (6 ≤ R.length ∧ CF (fl b n 2 p) r G1) ∨ (R.length < 6 ∧ LnC b n p (smi b n (pRule b n (nms R) w p)) r G1 (fun x => RlsC_2 (R ++ [(x.1, x.2.1)]) x.2.2 G1)) := by
  obtain ⟨hm, hN, h12, hw0, hw9, hC0, hE0⟩ := hR
  have hml : (G.1 2 11).toInt = ((nms R).length : Int) := by rw [nms_len]; exact hm
  obtain ⟨-, -, -, w3, G5, hj, -, -, -, -, r12, G13, hf1, hh⟩ := h
  have hj2 : G = G5 ∧ ((6 ≤ R.length ∧ w3.toInt = 0) ∨ (R.length < 6 ∧ w3.toInt = 1)) := by
    rcases hj with ⟨c, e1, e2⟩ | ⟨c, e1, e2⟩
    · exact ⟨e2, Or.inl ⟨by omega, by rw [← e1]; rfl⟩⟩
    · exact ⟨e2, Or.inr ⟨by omega, by rw [← e1]; rfl⟩⟩
  obtain ⟨rfl, hj3⟩ := hj2
  clear hj
  have ht := tN_p (b := b) hp.1.2.1 hp.2.2.2
  have htp := (ht.2.2 hk3).1
  rcases c_first hf1 hp hk with ⟨hm0, hC⟩ | ⟨hm1, hr, hp2⟩
  · rcases hh with ⟨c, rfl, rfl⟩ | ⟨c, -⟩
    · exact Or.inl ⟨by omega, rfl, hC.2⟩
    · exact absurd hC.1 c
  have hlt : R.length < 6 := by omega
  refine Or.inr ⟨hlt, ?_⟩
  rcases hh with ⟨c, -⟩ | ⟨c, r19, G20, hnm, hh⟩
  · omega
  rcases c_name_36 hnm hp2 (hN.fr hf1.2.1 (by decide) (by decide)) hml (by rw [nms_len]; exact hlt) with ⟨f, hf, hC⟩ | ⟨e1, hr19, hp3, hN20⟩
  · rcases hh with ⟨c, rfl, rfl⟩ | ⟨c, -⟩
    · exact Or.inl ⟨f, smi_l (by unfold pRule; exact bnd_l hf), rfl, hC.2⟩
    · exact absurd hC.1 c
  rcases hh with ⟨c, -⟩ | ⟨c, G27, -, hF27, w27, r28, G29, hfm, hh⟩
  · omega
  have t3 := tN_p (b := b) hp2.1.2.1 hp2.2.2.2
  replace hp3 := hp3.fr hF27 (by decide) (by decide) (by decide) (by decide)
  rw [cn_eq hm] at w27
  have h12' : (G27.1 2 12).toInt = w := by
    rw [hF27.i 2 12 (by decide) (by decide), hnm.2.1.i 2 12 (by decide) (by decide), hf1.2.1.i 2 12 (by decide) (by decide)]
    exact h12
  have hC27 : CodeC_2 0 (fcd R) G27 := ((hC0.fr hf1.2.1 (by decide) (by decide) (by decide) (by decide)).fr hnm.2.1 (by decide) (by decide) (by decide) (by decide)).fr hF27 (by decide) (by decide) (by decide) (by decide)
  rcases c_formC_2 hfm hp3 h12' hw9 hC27 with ⟨f, hC, hev⟩ | ⟨p', u', w', C', hr28, hc29, hpp, hev⟩
  · obtain ⟨o', ho1, ho2⟩ := Ev_pre hev
    cases o' with
    | inr o' => exact absurd ho2 (by simp [preO])
    | inl f' =>
      have hff : f = f' := by simpa [preO] using ho2
      subst hff
      rcases hh with ⟨c, rfl, rfl⟩ | ⟨c, -⟩
      · exact Or.inl ⟨f, smi_l (by unfold pRule; exact (bnd_r e1).trans (bnd_l (pForm_l ho1))), rfl, hC.2⟩
      · exact absurd hC.1 c
  obtain ⟨o', ho1, ho2⟩ := Ev_pre hev
  cases o' with
  | inl f' => exact absurd ho2 (by simp [preO])
  | inr o' =>
    obtain ⟨p2, D, u2, w2⟩ := o'
    have hq : p' = p2 ∧ C' = fcd R ++ D ∧ u' = u2 ∧ w' = w2 := by
      have := Sum.inr.inj ho2
      simpa using this
    obtain ⟨rfl, rfl, rfl, rfl⟩ := hq
    rcases hh with ⟨c, -⟩ | ⟨c, y35, t35, G38, -, hF38, w11, w38, r39, G40, hps, rfl, rfl⟩
    · omega
    obtain ⟨hp29, -, hw29, hC29, -, hw90⟩ := hc29
    have hrl : pRule b n (nms R) w p = .inr ((tL b n (tNx b n p), D, w'), p') := by
      unfold pRule
      exact (bnd_r e1).trans (bnd_r (pForm_r ho1))
    have hw0' : 0 ≤ w' := by
      rw [← hw29]
      exact (hfm.1.i 2 12 (lo := 0) (hi := 90) rfl rfl).1
    refine c_semi hps (hp29.fr hF38 (by decide) (by decide) (by decide) (by decide)) hrl (by omega) (fun hFz => ?_)
    have r8 : G40.1 28 = upd (upd (G20.1 28) R.length (G.1 2 13)) (R.length + 1) (G29.1 2 13) := by
      rw [hFz.row1 28 (by decide) (by decide), w38, cn_eq (x := y35) (e := R.length + 1) (by omega), hfm.2.1.row1 28 (by decide) (by decide), w27]
    have hcap : (G.1 2 13).toInt = cap (fcd R).length := hC0.cp
    have hcap2 : (G29.1 2 13).toInt = cap (fcd R ++ D).length := hC29.cp
    have h20 : G20.1 28 = G.1 28 := by rw [hnm.2.1.row1 28 (by decide) (by decide), hf1.2.1.row1 28 (by decide) (by decide)]
    rw [h20] at r8
    refine ⟨by rw [hFz.i 2 11 (by decide) (by decide), w11, List.length_append, List.length_singleton]; omega, ?_, by rw [hFz.i 2 12 (by decide) (by decide), hF38.i 2 12 (by decide) (by decide)]; exact hw29, hw0', hw90, ?_, ?_⟩
    · rw [nms_snoc]
      exact (((hN20.fr hF27 (by decide) (by decide)).fr hfm.2.1 (by decide) (by decide)).fr hF38 (by decide) (by decide)).fr hFz (by decide) (by decide)
    · rw [fcd_snoc]
      exact (hC29.fr hF38 (by decide) (by decide) (by decide) (by decide)).fr hFz (by decide) (by decide) (by decide) (by decide)
    · intro k hk2
      rw [List.length_append, List.length_singleton] at hk2
      rw [r8]
      by_cases hq : k = R.length
      · subst hq
        rw [show upd (upd (G.1 28) R.length (G.1 2 13)) (R.length + 1) (G29.1 2 13) R.length = upd (G.1 28) R.length (G.1 2 13) R.length from if_neg (by omega), show upd (G.1 28) R.length (G.1 2 13) R.length = G.1 2 13 from if_pos rfl, show upd (upd (G.1 28) R.length (G.1 2 13)) (R.length + 1) (G29.1 2 13) (R.length + 1) = G29.1 2 13 from if_pos rfl, take_snoc (Nat.le_refl _), List.take_length, take_all, fcd_snoc]
        exact ⟨hcap, hcap2⟩
      · have hE := hE0 k (by omega)
        rw [show upd (upd (G.1 28) R.length (G.1 2 13)) (R.length + 1) (G29.1 2 13) k = upd (G.1 28) R.length (G.1 2 13) k from if_neg (by omega), show upd (G.1 28) R.length (G.1 2 13) k = G.1 28 k from if_neg (by omega), show upd (upd (G.1 28) R.length (G.1 2 13)) (R.length + 1) (G29.1 2 13) (k + 1) = upd (G.1 28) R.length (G.1 2 13) (k + 1) from if_neg (by omega), take_snoc (by omega), take_snoc (by omega)]
        refine ⟨hE.1, ?_⟩
        by_cases hq2 : k + 1 = R.length
        · rw [show upd (G.1 28) R.length (G.1 2 13) (k + 1) = G.1 2 13 from if_pos hq2, hq2, List.take_length]
          exact hcap
        · rw [show upd (G.1 28) R.length (G.1 2 13) (k + 1) = G.1 28 (k + 1) from if_neg hq2]
          exact hE.2

/-! the whole text by the program -/
theorem pLn_s {b : Nat → Int} {n : Nat} {V : PV} {p : Nat} : pLn b n V p = smi b n (pLine b n V p) := rfl
theorem topS_l {b : Nat → Int} {n : Nat} {V : PV} {p : Nat} {f : Int × Int} (hk : tK b n p ≠ 203) (h : pLn b n V p = .inl f) : topS b n (V, p) = .inr (.inl f) := by
  unfold topS
  rw [if_neg hk]
  have h' : pLn b n (V, p).1 (V, p).2 = .inl f := h
  rw [h']
theorem topS_r {b : Nat → Int} {n : Nat} {V V' : PV} {p p' : Nat} (hk : tK b n p ≠ 203) (h : pLn b n V p = .inr (V', p')) : topS b n (V, p) = .inl (V', p') := by
  unfold topS
  rw [if_neg hk]
  have h' : pLn b n (V, p).1 (V, p).2 = .inr (V', p') := h
  rw [h']
theorem topS_e {b : Nat → Int} {n : Nat} {V : PV} {p : Nat} (hk : tK b n p = 203) : topS b n (V, p) = .inr (.inr (V, p)) := by
  unfold topS
  rw [if_pos hk]
theorem pLn_1 {b : Nat → Int} {n : Nat} {V : PV} {p : Nat} (hk : tK b n p = 128) (hl : V.1.length < 3) : pLn b n V p = bnd (smi b n (pStreet b n (nms V.1) p)) fun x q => .inr ((V.1 ++ [x], V.2), q) := by
  rw [pLn_s, ← smi_b]
  unfold pLine
  rw [if_pos ⟨hk, hl⟩]
theorem pLn_2 {b : Nat → Int} {n : Nat} {V : PV} {p : Nat} (hk : tK b n p = 129) (hl : V.2.1.length < 4) : pLn b n V p = bnd (smi b n (pWalker b n (nms V.2.1) p)) fun x q => .inr ((V.1, V.2.1 ++ [x], V.2.2), q) := by
  rw [pLn_s, ← smi_b]
  unfold pLine
  rw [if_neg (fun q => by have := q.1; omega), if_pos ⟨hk, hl⟩]
theorem pLn_3 {b : Nat → Int} {n : Nat} {V : PV} {p : Nat} (hk : tK b n p = 134) (hl : V.2.2.1.length < 6) : pLn b n V p = bnd (smi b n (pRule b n (nms V.2.2.1) V.2.2.2.1 p)) fun x q => .inr ((V.1, V.2.1, V.2.2.1 ++ [(x.1, x.2.1)], x.2.2, V.2.2.2.2), q) := by
  rw [pLn_s, ← smi_b]
  unfold pLine
  rw [if_neg (fun q => by have := q.1; omega), if_neg (fun q => by have := q.1; omega), if_pos ⟨hk, hl⟩]
theorem pLn_4 {b : Nat → Int} {n : Nat} {V : PV} {p : Nat} (hk : tK b n p = 135) (hl : V.2.2.2.2.1.isNone = true) : pLn b n V p = bnd (smi b n (pSlip b n p)) fun x q => .inr ((V.1, V.2.1, V.2.2.1, V.2.2.2.1, some x, V.2.2.2.2.2), q) := by
  rw [pLn_s, ← smi_b]
  unfold pLine
  rw [if_neg (fun q => by have := q.1; omega), if_neg (fun q => by have := q.1; omega), if_neg (fun q => by have := q.1; omega), if_pos ⟨hk, hl⟩]
theorem pLn_5 {b : Nat → Int} {n : Nat} {V : PV} {p : Nat} (hk : tK b n p = 136) (hl : V.2.2.2.2.2.1.isNone = true) : pLn b n V p = bnd (smi b n (pHand b n p)) fun x q => .inr ((V.1, V.2.1, V.2.2.1, V.2.2.2.1, V.2.2.2.2.1, some x, V.2.2.2.2.2.2), q) := by
  rw [pLn_s, ← smi_b]
  unfold pLine
  rw [if_neg (fun q => by have := q.1; omega), if_neg (fun q => by have := q.1; omega), if_neg (fun q => by have := q.1; omega), if_neg (fun q => by have := q.1; omega), if_pos ⟨hk, hl⟩]
theorem pLn_6 {b : Nat → Int} {n : Nat} {V : PV} {p : Nat} (hk : tK b n p = 138) (hl : V.2.2.2.2.2.2.isNone = true) : pLn b n V p = bnd (smi b n (pDraw b n p)) fun x q => .inr ((V.1, V.2.1, V.2.2.1, V.2.2.2.1, V.2.2.2.2.1, V.2.2.2.2.2.1, some x), q) := by
  rw [pLn_s, ← smi_b]
  unfold pLine
  rw [if_neg (fun q => by have := q.1; omega), if_neg (fun q => by have := q.1; omega), if_neg (fun q => by have := q.1; omega), if_neg (fun q => by have := q.1; omega), if_neg (fun q => by have := q.1; omega), if_pos ⟨hk, hl⟩]
theorem pLn_0 {b : Nat → Int} {n : Nat} {V : PV} {p : Nat} (h1 : ¬ (tK b n p = 128 ∧ V.1.length < 3)) (h2 : ¬ (tK b n p = 129 ∧ V.2.1.length < 4)) (h3 : ¬ (tK b n p = 134 ∧ V.2.2.1.length < 6)) (h4 : ¬ (tK b n p = 135 ∧ V.2.2.2.2.1.isNone = true)) (h5 : ¬ (tK b n p = 136 ∧ V.2.2.2.2.2.1.isNone = true)) (h6 : ¬ (tK b n p = 138 ∧ V.2.2.2.2.2.2.isNone = true)) : pLn b n V p = .inl (fl b n 2 p) := by
  rw [pLn_s]
  refine smi_l ?_
  unfold pLine
  rw [if_neg h1, if_neg h2, if_neg h3, if_neg h4, if_neg h5, if_neg h6]
def RdC_1 (b : Nat → Int) (n : Nat) (V : PV) (p : Nat) (r : Int32) (G1 : GS) : Prop := (∃ f, pLn b n V p = .inl f ∧ CF f r G1) ∨ (∃ V' p', pLn b n V p = .inr (V', p') ∧ r.toInt = 1 ∧ CPx b n G1 p' ∧ p < p' ∧ CV_1 V' G1)
theorem c_ln1_1 {b : Nat → Int} {n p : Nat} {r : Int32} {G G1 : GS} {V : PV} (h : P_rStreet_1 G r G1) (hp : CPx b n G p) (hk : tK b n p = 128) (hV : CV_1 V G) : RdC_1 b n V p r G1 := by
  rcases c_street_1 h hp (by omega) (by omega) hV.1.2.1 (by rw [nms_len]; exact hV.1.1) with ⟨hl, hC⟩ | ⟨hl, hR⟩
  · rw [nms_len] at hl
    exact Or.inl ⟨_, pLn_0 (fun q => by have := q.2; omega) (fun q => by have := q.1; omega) (fun q => by have := q.1; omega) (fun q => by have := q.1; omega) (fun q => by have := q.1; omega) (fun q => by have := q.1; omega), hC⟩
  · rw [nms_len] at hl
    have e0 := pLn_1 hk hl
    rcases hR with ⟨f, e, hC⟩ | ⟨x, p', e, hr, hp', hlt, k1, k2, k3, k4, k5⟩
    · exact Or.inl ⟨f, e0.trans (bnd_l e), hC⟩
    · rw [nms_len] at k2 k3 k4
      refine Or.inr ⟨_, p', e0.trans (bnd_r e), hr, hp', hlt, ⟨?_, ?_, fun s hs => ?_⟩, hV.2.1.fr h.2.1 (by decide) (by decide) (by decide), hV.2.2.1.fr h.2.1 (by decide) (by decide) (by decide), hV.2.2.2.1.fr h.2.1 (by decide) (by decide) (by decide) (by decide), hV.2.2.2.2.1.fr h.2.1 (by decide) (by decide), hV.2.2.2.2.2.fr h.2.1 (by decide) (by decide)⟩
      · rw [k2]
        show (V.1.length : Int) + 1 = ((V.1 ++ [x]).length : Int)
        rw [List.length_append, List.length_singleton]
        omega
      · show NmC 34 (nms (V.1 ++ [x])) G1
        rw [nms_snoc]
        exact k1
      · have hs' : s < V.1.length + 1 := by
          have : s < (V.1 ++ [x]).length := hs
          rw [List.length_append, List.length_singleton] at this
          exact this
        show StC_1 s ((V.1 ++ [x]).getD s ([], [])).2 G1 ∧ (((V.1 ++ [x]).getD s ([], [])).2.length : Int) ≤ 400
        by_cases hq : s < V.1.length
        · rw [getD_snl hq]
          obtain ⟨a1, a2⟩ := hV.1.2.2 s hq
          refine ⟨⟨?_, fun i hi => ?_⟩, a2⟩
          · rw [k4.1 s (by omega)]
            exact a1.1
          · rw [k4.2 (400 * s + i) (by omega)]
            exact a1.2 i hi
        · have hs2 : s = V.1.length := by omega
          subst hs2
          rw [getD_snr]
          exact ⟨k3, k5⟩
theorem c_ln2_1 {b : Nat → Int} {n p : Nat} {r : Int32} {G G1 : GS} {V : PV} (h : P_rWalker_1 G r G1) (hp : CPx b n G p) (hk : tK b n p = 129) (hV : CV_1 V G) : RdC_1 b n V p r G1 := by
  rcases c_walker_1 h hp (by omega) (by omega) hV.2.1.2.1 (by rw [nms_len]; exact hV.2.1.1) with ⟨hl, hC⟩ | ⟨hl, hR⟩
  · rw [nms_len] at hl
    exact Or.inl ⟨_, pLn_0 (fun q => by have := q.1; omega) (fun q => by have := q.2; omega) (fun q => by have := q.1; omega) (fun q => by have := q.1; omega) (fun q => by have := q.1; omega) (fun q => by have := q.1; omega), hC⟩
  · rw [nms_len] at hl
    have e0 := pLn_2 hk hl
    rcases hR with ⟨f, e, hC⟩ | ⟨x, p', e, hr, hp', hlt, k1, k2, k3, k4⟩
    · exact Or.inl ⟨f, e0.trans (bnd_l e), hC⟩
    · rw [nms_len] at k2 k3 k4
      refine Or.inr ⟨_, p', e0.trans (bnd_r e), hr, hp', hlt, hV.1.fr h.2.1 (by decide) (by decide) (by decide), ⟨?_, ?_, fun s hs => ?_⟩, hV.2.2.1.fr h.2.1 (by decide) (by decide) (by decide), hV.2.2.2.1.fr h.2.1 (by decide) (by decide) (by decide) (by decide), hV.2.2.2.2.1.fr h.2.1 (by decide) (by decide), hV.2.2.2.2.2.fr h.2.1 (by decide) (by decide)⟩
      · rw [k2]
        show (V.2.1.length : Int) + 1 = ((V.2.1 ++ [x]).length : Int)
        rw [List.length_append, List.length_singleton]
        omega
      · show NmC 35 (nms (V.2.1 ++ [x])) G1
        rw [nms_snoc]
        exact k1
      · have hs' : s < V.2.1.length + 1 := by
          have : s < (V.2.1 ++ [x]).length := hs
          rw [List.length_append, List.length_singleton] at this
          exact this
        show WkC_1 s ((V.2.1 ++ [x]).getD s ([], 0, 0, 0, 0)).2 G1
        by_cases hq : s < V.2.1.length
        · rw [getD_snl hq]
          have a1 := hV.2.1.2.2 s hq
          obtain ⟨b1, b2, b3, b4⟩ := k4 s (by omega)
          unfold WkC_1 at a1 ⊢
          rw [b1, b2, b3, b4]
          exact a1
        · have hs2 : s = V.2.1.length := by omega
          subst hs2
          rw [getD_snr]
          exact k3
theorem c_ln3_1 {b : Nat → Int} {n p : Nat} {r : Int32} {G G1 : GS} {V : PV} (h : P_rRule_1 G r G1) (hp : CPx b n G p) (hk : tK b n p = 134) (hV : CV_1 V G) : RdC_1 b n V p r G1 := by
  rcases c_rule_1 h hp (by omega) (by omega) hV.2.2.1 with ⟨hl, hC⟩ | ⟨hl, hR⟩
  · exact Or.inl ⟨_, pLn_0 (fun q => by have := q.1; omega) (fun q => by have := q.1; omega) (fun q => by have := q.2; omega) (fun q => by have := q.1; omega) (fun q => by have := q.1; omega) (fun q => by have := q.1; omega), hC⟩
  · have e0 := pLn_3 hk hl
    rcases hR with ⟨f, e, hC⟩ | ⟨x, p', e, hr, hp', hlt, k1⟩
    · exact Or.inl ⟨f, e0.trans (bnd_l e), hC⟩
    · exact Or.inr ⟨_, p', e0.trans (bnd_r e), hr, hp', hlt, hV.1.fr h.2.1 (by decide) (by decide) (by decide), hV.2.1.fr h.2.1 (by decide) (by decide) (by decide), k1, hV.2.2.2.1.fr h.2.1 (by decide) (by decide) (by decide) (by decide), hV.2.2.2.2.1.fr h.2.1 (by decide) (by decide), hV.2.2.2.2.2.fr h.2.1 (by decide) (by decide)⟩
theorem c_ln4_1 {b : Nat → Int} {n p : Nat} {r : Int32} {G G1 : GS} {V : PV} (h : P_rSlip_1 G r G1) (hp : CPx b n G p) (hk : tK b n p = 135) (hV : CV_1 V G) : RdC_1 b n V p r G1 := by
  rcases c_slip_1 h hp (by omega) (by omega) with ⟨hl, hC⟩ | ⟨hl, hR⟩
  · exact Or.inl ⟨_, pLn_0 (fun q => by have := q.1; omega) (fun q => by have := q.1; omega) (fun q => by have := q.1; omega) (fun q => hl (hV.2.2.2.1.1.mp q.2)) (fun q => by have := q.1; omega) (fun q => by have := q.1; omega), hC⟩
  · have e0 := pLn_4 hk (hV.2.2.2.1.1.mpr hl)
    rcases hR with ⟨f, e, hC⟩ | ⟨x, p', e, hr, hp', hlt, k1, k2⟩
    · exact Or.inl ⟨f, e0.trans (bnd_l e), hC⟩
    · exact Or.inr ⟨_, p', e0.trans (bnd_r e), hr, hp', hlt, hV.1.fr h.2.1 (by decide) (by decide) (by decide), hV.2.1.fr h.2.1 (by decide) (by decide) (by decide), hV.2.2.1.fr h.2.1 (by decide) (by decide) (by decide), ⟨⟨fun q => absurd q (by simp), fun q => absurd (k1.symm.trans q) (by decide)⟩, k2⟩, hV.2.2.2.2.1.fr h.2.1 (by decide) (by decide), hV.2.2.2.2.2.fr h.2.1 (by decide) (by decide)⟩
theorem c_ln5_1 {b : Nat → Int} {n p : Nat} {r : Int32} {G G1 : GS} {V : PV} (h : P_rHand_1 G r G1) (hp : CPx b n G p) (hk : tK b n p = 136) (hV : CV_1 V G) : RdC_1 b n V p r G1 := by
  rcases c_hand_1 h hp (by omega) (by omega) with ⟨hl, hC⟩ | ⟨hl, hR⟩
  · exact Or.inl ⟨_, pLn_0 (fun q => by have := q.1; omega) (fun q => by have := q.1; omega) (fun q => by have := q.1; omega) (fun q => by have := q.1; omega) (fun q => hl (hV.2.2.2.2.1.1.mp q.2)) (fun q => by have := q.1; omega), hC⟩
  · have e0 := pLn_5 hk (hV.2.2.2.2.1.1.mpr hl)
    rcases hR with ⟨f, e, hC⟩ | ⟨x, p', e, hr, hp', hlt, k1, k2⟩
    · exact Or.inl ⟨f, e0.trans (bnd_l e), hC⟩
    · exact Or.inr ⟨_, p', e0.trans (bnd_r e), hr, hp', hlt, hV.1.fr h.2.1 (by decide) (by decide) (by decide), hV.2.1.fr h.2.1 (by decide) (by decide) (by decide), hV.2.2.1.fr h.2.1 (by decide) (by decide) (by decide), hV.2.2.2.1.fr h.2.1 (by decide) (by decide) (by decide) (by decide), ⟨⟨fun q => absurd q (by simp), fun q => absurd (k1.symm.trans q) (by decide)⟩, k2⟩, hV.2.2.2.2.2.fr h.2.1 (by decide) (by decide)⟩
theorem c_ln6_1 {b : Nat → Int} {n p : Nat} {r : Int32} {G G1 : GS} {V : PV} (h : P_rDraw_1 G r G1) (hp : CPx b n G p) (hk : tK b n p = 138) (hV : CV_1 V G) : RdC_1 b n V p r G1 := by
  rcases c_draw_1 h hp (by omega) (by omega) with ⟨hl, hC⟩ | ⟨hl, hR⟩
  · exact Or.inl ⟨_, pLn_0 (fun q => by have := q.1; omega) (fun q => by have := q.1; omega) (fun q => by have := q.1; omega) (fun q => by have := q.1; omega) (fun q => by have := q.1; omega) (fun q => hl (hV.2.2.2.2.2.1.mp q.2)), hC⟩
  · have e0 := pLn_6 hk (hV.2.2.2.2.2.1.mpr hl)
    rcases hR with ⟨f, e, hC⟩ | ⟨x, p', e, hr, hp', hlt, k1, k2⟩
    · exact Or.inl ⟨f, e0.trans (bnd_l e), hC⟩
    · exact Or.inr ⟨_, p', e0.trans (bnd_r e), hr, hp', hlt, hV.1.fr h.2.1 (by decide) (by decide) (by decide), hV.2.1.fr h.2.1 (by decide) (by decide) (by decide), hV.2.2.1.fr h.2.1 (by decide) (by decide) (by decide), hV.2.2.2.1.fr h.2.1 (by decide) (by decide) (by decide) (by decide), hV.2.2.2.2.1.fr h.2.1 (by decide) (by decide), ⟨⟨fun q => absurd q (by simp), fun q => absurd (k1.symm.trans q) (by decide)⟩, k2⟩⟩
theorem c_ln0_1 {b : Nat → Int} {n p : Nat} {r : Int32} {G G1 : GS} {V : PV} (h : P_tRefuse 2 G r G1) (hp : CPx b n G p) (hk : tK b n p ≠ 128 ∧ tK b n p ≠ 129 ∧ tK b n p ≠ 134 ∧ tK b n p ≠ 135 ∧ tK b n p ≠ 136 ∧ tK b n p ≠ 138) : RdC_1 b n V p r G1 := Or.inl ⟨_, pLn_0 (fun q => hk.1 q.1) (fun q => hk.2.1 q.1) (fun q => hk.2.2.1 q.1) (fun q => hk.2.2.2.1 q.1) (fun q => hk.2.2.2.2.1 q.1) (fun q => hk.2.2.2.2.2 q.1), (c_ref h hp).1⟩
def RI_1 (b : Nat → Int) (n : Nat) (x g : Int32) (G : GS) : Prop := (∃ f, g.toInt = 0 ∧ parse b n = .inl f ∧ CF f g G) ∨ (∃ V p, g.toInt = 1 ∧ CPx b n G p ∧ CV_1 V G ∧ x.toInt ≤ (p : Int) ∧ ∀ o, Et (topS b n) (V0, 0) o ↔ Et (topS b n) (V, p) o)
theorem c_rstep_1 {b : Nat → Int} {n : Nat} {q q1 : Int32 × Int32 × GS} (hs : St_k_rRead_1_1 q q1) (hi : RI_1 b n q.1 q.2.1 q.2.2) : RI_1 b n q1.1 q1.2.1 q1.2.2 := by
  obtain ⟨x, g, G, xn, gn, Gn, rfl, rfl, -, -, -, c1, c2, c3, hh⟩ := hs
  rcases hi with ⟨f, hg, -⟩ | ⟨V, p, hg, hp, hV, hx, hE⟩
  · exact absurd hg c1
  have hk := hp.2.1.1
  have k203 : tK b n p ≠ 203 := by rw [← hk]; exact c3
  have fin : RdC_1 b n V p gn Gn → xn.toInt = x.toInt + 1 → RI_1 b n xn gn Gn := by
    intro hR hxn
    rcases hR with ⟨f, e, hC⟩ | ⟨V', p', e, hr, hp', hlt, hV'⟩
    · exact Or.inl ⟨f, hC.1, run_eq ((hE _).mpr ((Et_r (topS_l k203 e)).mpr rfl)), hC⟩
    · exact Or.inr ⟨V', p', hr, hp', hV', by have hx' : x.toInt ≤ (p : Int) := hx; omega, fun o => (hE o).trans (Et_i (topS_r k203 e))⟩
  simp only at hp hk
  rw [hk] at hh
  clear hE
  rcases hh with ⟨d, r7, G7, d1, y7, t7, rfl, rfl, rfl⟩ | ⟨n128, hh⟩
  · exact fin (c_ln1_1 d1 hp d hV) t7
  rcases hh with ⟨d, r7, G7, d1, y7, t7, rfl, rfl, rfl⟩ | ⟨n129, hh⟩
  · exact fin (c_ln2_1 d1 hp d hV) t7
  rcases hh with ⟨d, r7, G7, d1, y7, t7, rfl, rfl, rfl⟩ | ⟨n130, hh⟩
  · exact fin (c_ln0_1 d1 hp (by omega)) t7
  rcases hh with ⟨d, r7, G7, d1, y7, t7, rfl, rfl, rfl⟩ | ⟨n131, hh⟩
  · exact fin (c_ln0_1 d1 hp (by omega)) t7
  rcases hh with ⟨d, r7, G7, d1, y7, t7, rfl, rfl, rfl⟩ | ⟨n132, hh⟩
  · exact fin (c_ln0_1 d1 hp (by omega)) t7
  rcases hh with ⟨d, r7, G7, d1, y7, t7, rfl, rfl, rfl⟩ | ⟨n133, hh⟩
  · exact fin (c_ln0_1 d1 hp (by omega)) t7
  rcases hh with ⟨d, r7, G7, d1, y7, t7, rfl, rfl, rfl⟩ | ⟨n134, hh⟩
  · exact fin (c_ln3_1 d1 hp d hV) t7
  rcases hh with ⟨d, r7, G7, d1, y7, t7, rfl, rfl, rfl⟩ | ⟨n135, hh⟩
  · exact fin (c_ln4_1 d1 hp d hV) t7
  rcases hh with ⟨d, r7, G7, d1, y7, t7, rfl, rfl, rfl⟩ | ⟨n136, hh⟩
  · exact fin (c_ln5_1 d1 hp d hV) t7
  rcases hh with ⟨d, r7, G7, d1, y7, t7, rfl, rfl, rfl⟩ | ⟨n137, hh⟩
  · exact fin (c_ln0_1 d1 hp (by omega)) t7
  rcases hh with ⟨d, r7, G7, d1, y7, t7, rfl, rfl, rfl⟩ | ⟨n138, hh⟩
  · exact fin (c_ln6_1 d1 hp d hV) t7
  obtain ⟨r7, G7, d1, y7, t7, rfl, rfl, rfl⟩ := hh
  exact fin (c_ln0_1 d1 hp ⟨n128, n129, n134, n135, n136, n138⟩) t7
theorem c_read_1 {b : Nat → Int} {n : Nat} {p0 r : Int32} {G G1 : GS} (h : P_rRead_1 p0 G r G1) (hn0 : p0.toInt = (n : Int)) (hn : n ≤ 1600) (hT : ∀ j, j < n → (b j < 128 → (G.1 32 j).toInt = b j) ∧ (128 ≤ b j → (G.1 32 j).toInt = b j - 256) ∧ 0 ≤ b j ∧ b j ≤ 255) : (∃ f, parse b n = .inl f ∧ CF f r G1) ∨ (∃ V p, parse b n = .inr (V, p) ∧ r.toInt = 1 ∧ CV_1 V G1 ∧ (G1.1 3 7).toInt = 0 ∧ (G1.1 3 8).toInt = -1) := by
  obtain ⟨-, -, -, Ga, -, hFa, -, Gb, hem, Gc, -, hFc, w6, w7, w8', Gd, hop, x, g, G15, hl, -, -, -, -, hh⟩ := h
  obtain ⟨-, hFe, -, e9, e10, e11, e12, e13, e14, e15, e16, eS⟩ := hem
  obtain ⟨-, hFo, y1, t1, G5, -, hF5, f1, f2, f7, f8, r6, G7, hadv, rfl⟩ := hop
  have hy1 : y1.toInt = (n : Int) := by omega
  have hX5 : XC b n G5 := by
    refine ⟨by rw [f1]; exact hy1, hn, ?_⟩
    rw [hF5.row1 32 (by decide) (by decide), hFc.row1 32 (by decide) (by decide), hFe.row1 32 (by decide) (by decide), hFa.row1 32 (by decide) (by decide)]
    exact hT
  obtain ⟨-, hX7, hT7⟩ := c_adv (q := 0) hX5 (by rw [f2]; rfl) (Nat.zero_le n) hadv
  have hp7 : CPx b n G7 0 := ⟨hX7, hT7, ⟨by rw [hadv.2.1.i 3 7 (by decide) (by decide), f7]; rfl, by rw [hadv.2.1.i 3 8 (by decide) (by decide), f8]; rfl⟩, Nat.zero_le n⟩
  have r7 : ∀ j, j ≠ 1 → G7.1 1 j = G7.1 1 j := fun _ _ => rfl
  have kc : ∀ j, G7.1 1 j = Gb.1 1 j := fun j => by rw [hadv.2.1.row1 1 (by decide) (by decide), hF5.row1 1 (by decide) (by decide), hFc.row1 1 (by decide) (by decide)]
  have ks : G7.1 16 = Gb.1 16 := by rw [hadv.2.1.row1 16 (by decide) (by decide), hF5.row1 16 (by decide) (by decide), hFc.row1 16 (by decide) (by decide)]
  have hV0 : CV_1 V0 G7 := by
    refine ⟨⟨by rw [kc, e9]; rfl, fun k hk => absurd hk (Nat.not_lt_zero k), fun s hs => absurd hs (Nat.not_lt_zero s)⟩, ⟨by rw [kc, e10]; rfl, fun k hk => absurd hk (Nat.not_lt_zero k), fun s hs => absurd hs (Nat.not_lt_zero s)⟩, ⟨by rw [kc, e11]; rfl, fun k hk => absurd hk (Nat.not_lt_zero k), by rw [kc, e12]; rfl, by decide, by decide, ⟨Or.inl ⟨by decide, by rw [kc, e13]; rfl⟩, fun i hi => absurd hi (Nat.not_lt_zero i)⟩, fun k hk => absurd hk (Nat.not_lt_zero k)⟩, ⟨⟨fun _ => ?_, fun _ => rfl⟩, ?_, ?_, ?_⟩, ⟨⟨fun _ => ?_, fun _ => rfl⟩, by rw [kc, e14]; rfl, by rw [kc, e15]; rfl⟩, ⟨⟨fun _ => ?_, fun _ => rfl⟩, by rw [kc, e16]; rfl⟩⟩
    · rw [hadv.2.1.i 5 6 (by decide) (by decide), hF5.i 5 6 (by decide) (by decide), w6]
      rfl
    · rw [ks, eS]
      rfl
    · rw [ks, eS]
      rfl
    · rw [ks, eS]
      rfl
    · rw [hadv.2.1.i 5 7 (by decide) (by decide), hF5.i 5 7 (by decide) (by decide), w7]
      rfl
    · rw [hadv.2.1.i 5 8 (by decide) (by decide), hF5.i 5 8 (by decide) (by decide), w8']
      rfl
  have hI : RI_1 b n x g G15 := hl (fun q => RI_1 b n q.1 q.2.1 q.2.2) (Or.inr ⟨V0, 0, rfl, hp7, hV0, Int.le_refl 0, fun o => Iff.rfl⟩) (fun a a' ha hs => c_rstep_1 hs ha)
  clear hl
  rcases hI with ⟨f, hg, e, hC⟩ | ⟨V, p, hg, hp, hV, hx, hE⟩
  · rcases hh with ⟨-, rfl, rfl⟩ | ⟨c, -⟩
    · exact Or.inl ⟨f, e, hC⟩
    · exact absurd hg c
  · have hk := hp.2.1.1
    have k203 : tK b n p = 203 ∧ g = r ∧ G15 = G1 := by
      rcases hh with ⟨c, -⟩ | ⟨c, ⟨d, e1, e2⟩ | ⟨d, d2, e1, e2⟩⟩
      · omega
      · refine ⟨?_, e1, e2⟩
        refine Classical.byContradiction (fun q => ?_)
        have := (tN_p (b := b) hp.1.2.1 hp.2.2.2).2.2 q
        have := (tS_p (b := b) hp.1.2.1 hp.2.2.2)
        have := hp.2.2.2
        omega
      · exact ⟨by rw [← hk]; exact d2, e1, e2⟩
    obtain ⟨k203, rfl, rfl⟩ := k203
    exact Or.inr ⟨V, p, run_eq ((hE _).mpr ((Et_r (topS_e k203)).mpr rfl)), hg, hV, hp.2.2.1.1, hp.2.2.1.2⟩
def RdC_2 (b : Nat → Int) (n : Nat) (V : PV) (p : Nat) (r : Int32) (G1 : GS) : Prop := (∃ f, pLn b n V p = .inl f ∧ CF f r G1) ∨ (∃ V' p', pLn b n V p = .inr (V', p') ∧ r.toInt = 1 ∧ CPx b n G1 p' ∧ p < p' ∧ CV_2 V' G1)
theorem c_ln1_2 {b : Nat → Int} {n p : Nat} {r : Int32} {G G1 : GS} {V : PV} (h : P_rStreet_2 G r G1) (hp : CPx b n G p) (hk : tK b n p = 128) (hV : CV_2 V G) : RdC_2 b n V p r G1 := by
  rcases c_street_2 h hp (by omega) (by omega) hV.1.2.1 (by rw [nms_len]; exact hV.1.1) with ⟨hl, hC⟩ | ⟨hl, hR⟩
  · rw [nms_len] at hl
    exact Or.inl ⟨_, pLn_0 (fun q => by have := q.2; omega) (fun q => by have := q.1; omega) (fun q => by have := q.1; omega) (fun q => by have := q.1; omega) (fun q => by have := q.1; omega) (fun q => by have := q.1; omega), hC⟩
  · rw [nms_len] at hl
    have e0 := pLn_1 hk hl
    rcases hR with ⟨f, e, hC⟩ | ⟨x, p', e, hr, hp', hlt, k1, k2, k3, k4, k5⟩
    · exact Or.inl ⟨f, e0.trans (bnd_l e), hC⟩
    · rw [nms_len] at k2 k3 k4
      refine Or.inr ⟨_, p', e0.trans (bnd_r e), hr, hp', hlt, ⟨?_, ?_, fun s hs => ?_⟩, hV.2.1.fr h.2.1 (by decide) (by decide) (by decide), hV.2.2.1.fr h.2.1 (by decide) (by decide) (by decide), hV.2.2.2.1.fr h.2.1 (by decide) (by decide) (by decide) (by decide), hV.2.2.2.2.1.fr h.2.1 (by decide) (by decide), hV.2.2.2.2.2.fr h.2.1 (by decide) (by decide)⟩
      · rw [k2]
        show (V.1.length : Int) + 1 = ((V.1 ++ [x]).length : Int)
        rw [List.length_append, List.length_singleton]
        omega
      · show NmC 34 (nms (V.1 ++ [x])) G1
        rw [nms_snoc]
        exact k1
      · have hs' : s < V.1.length + 1 := by
          have : s < (V.1 ++ [x]).length := hs
          rw [List.length_append, List.length_singleton] at this
          exact this
        show StC_2 s ((V.1 ++ [x]).getD s ([], [])).2 G1 ∧ (((V.1 ++ [x]).getD s ([], [])).2.length : Int) ≤ 400
        by_cases hq : s < V.1.length
        · rw [getD_snl hq]
          obtain ⟨a1, a2⟩ := hV.1.2.2 s hq
          refine ⟨⟨?_, fun i hi => ?_⟩, a2⟩
          · rw [k4.1 s (by omega)]
            exact a1.1
          · rw [k4.2 (400 * s + i) (by omega)]
            exact a1.2 i hi
        · have hs2 : s = V.1.length := by omega
          subst hs2
          rw [getD_snr]
          exact ⟨k3, k5⟩
theorem c_ln2_2 {b : Nat → Int} {n p : Nat} {r : Int32} {G G1 : GS} {V : PV} (h : P_rWalker_2 G r G1) (hp : CPx b n G p) (hk : tK b n p = 129) (hV : CV_2 V G) : RdC_2 b n V p r G1 := by
  rcases c_walker_2 h hp (by omega) (by omega) hV.2.1.2.1 (by rw [nms_len]; exact hV.2.1.1) with ⟨hl, hC⟩ | ⟨hl, hR⟩
  · rw [nms_len] at hl
    exact Or.inl ⟨_, pLn_0 (fun q => by have := q.1; omega) (fun q => by have := q.2; omega) (fun q => by have := q.1; omega) (fun q => by have := q.1; omega) (fun q => by have := q.1; omega) (fun q => by have := q.1; omega), hC⟩
  · rw [nms_len] at hl
    have e0 := pLn_2 hk hl
    rcases hR with ⟨f, e, hC⟩ | ⟨x, p', e, hr, hp', hlt, k1, k2, k3, k4⟩
    · exact Or.inl ⟨f, e0.trans (bnd_l e), hC⟩
    · rw [nms_len] at k2 k3 k4
      refine Or.inr ⟨_, p', e0.trans (bnd_r e), hr, hp', hlt, hV.1.fr h.2.1 (by decide) (by decide) (by decide), ⟨?_, ?_, fun s hs => ?_⟩, hV.2.2.1.fr h.2.1 (by decide) (by decide) (by decide), hV.2.2.2.1.fr h.2.1 (by decide) (by decide) (by decide) (by decide), hV.2.2.2.2.1.fr h.2.1 (by decide) (by decide), hV.2.2.2.2.2.fr h.2.1 (by decide) (by decide)⟩
      · rw [k2]
        show (V.2.1.length : Int) + 1 = ((V.2.1 ++ [x]).length : Int)
        rw [List.length_append, List.length_singleton]
        omega
      · show NmC 35 (nms (V.2.1 ++ [x])) G1
        rw [nms_snoc]
        exact k1
      · have hs' : s < V.2.1.length + 1 := by
          have : s < (V.2.1 ++ [x]).length := hs
          rw [List.length_append, List.length_singleton] at this
          exact this
        show WkC_2 s ((V.2.1 ++ [x]).getD s ([], 0, 0, 0, 0)).2 G1
        by_cases hq : s < V.2.1.length
        · rw [getD_snl hq]
          have a1 := hV.2.1.2.2 s hq
          obtain ⟨b1, b2, b3, b4⟩ := k4 s (by omega)
          unfold WkC_2 at a1 ⊢
          rw [b1, b2, b3, b4]
          exact a1
        · have hs2 : s = V.2.1.length := by omega
          subst hs2
          rw [getD_snr]
          exact k3
theorem c_ln3_2 {b : Nat → Int} {n p : Nat} {r : Int32} {G G1 : GS} {V : PV} (h : P_rRule_2 G r G1) (hp : CPx b n G p) (hk : tK b n p = 134) (hV : CV_2 V G) : RdC_2 b n V p r G1 := by
  rcases c_rule_2 h hp (by omega) (by omega) hV.2.2.1 with ⟨hl, hC⟩ | ⟨hl, hR⟩
  · exact Or.inl ⟨_, pLn_0 (fun q => by have := q.1; omega) (fun q => by have := q.1; omega) (fun q => by have := q.2; omega) (fun q => by have := q.1; omega) (fun q => by have := q.1; omega) (fun q => by have := q.1; omega), hC⟩
  · have e0 := pLn_3 hk hl
    rcases hR with ⟨f, e, hC⟩ | ⟨x, p', e, hr, hp', hlt, k1⟩
    · exact Or.inl ⟨f, e0.trans (bnd_l e), hC⟩
    · exact Or.inr ⟨_, p', e0.trans (bnd_r e), hr, hp', hlt, hV.1.fr h.2.1 (by decide) (by decide) (by decide), hV.2.1.fr h.2.1 (by decide) (by decide) (by decide), k1, hV.2.2.2.1.fr h.2.1 (by decide) (by decide) (by decide) (by decide), hV.2.2.2.2.1.fr h.2.1 (by decide) (by decide), hV.2.2.2.2.2.fr h.2.1 (by decide) (by decide)⟩
theorem c_ln4_2 {b : Nat → Int} {n p : Nat} {r : Int32} {G G1 : GS} {V : PV} (h : P_rSlip_2 G r G1) (hp : CPx b n G p) (hk : tK b n p = 135) (hV : CV_2 V G) : RdC_2 b n V p r G1 := by
  rcases c_slip_2 h hp (by omega) (by omega) with ⟨hl, hC⟩ | ⟨hl, hR⟩
  · exact Or.inl ⟨_, pLn_0 (fun q => by have := q.1; omega) (fun q => by have := q.1; omega) (fun q => by have := q.1; omega) (fun q => hl (hV.2.2.2.1.1.mp q.2)) (fun q => by have := q.1; omega) (fun q => by have := q.1; omega), hC⟩
  · have e0 := pLn_4 hk (hV.2.2.2.1.1.mpr hl)
    rcases hR with ⟨f, e, hC⟩ | ⟨x, p', e, hr, hp', hlt, k1, k2⟩
    · exact Or.inl ⟨f, e0.trans (bnd_l e), hC⟩
    · exact Or.inr ⟨_, p', e0.trans (bnd_r e), hr, hp', hlt, hV.1.fr h.2.1 (by decide) (by decide) (by decide), hV.2.1.fr h.2.1 (by decide) (by decide) (by decide), hV.2.2.1.fr h.2.1 (by decide) (by decide) (by decide), ⟨⟨fun q => absurd q (by simp), fun q => absurd (k1.symm.trans q) (by decide)⟩, k2⟩, hV.2.2.2.2.1.fr h.2.1 (by decide) (by decide), hV.2.2.2.2.2.fr h.2.1 (by decide) (by decide)⟩
theorem c_ln5_2 {b : Nat → Int} {n p : Nat} {r : Int32} {G G1 : GS} {V : PV} (h : P_rHand_2 G r G1) (hp : CPx b n G p) (hk : tK b n p = 136) (hV : CV_2 V G) : RdC_2 b n V p r G1 := by
  rcases c_hand_2 h hp (by omega) (by omega) with ⟨hl, hC⟩ | ⟨hl, hR⟩
  · exact Or.inl ⟨_, pLn_0 (fun q => by have := q.1; omega) (fun q => by have := q.1; omega) (fun q => by have := q.1; omega) (fun q => by have := q.1; omega) (fun q => hl (hV.2.2.2.2.1.1.mp q.2)) (fun q => by have := q.1; omega), hC⟩
  · have e0 := pLn_5 hk (hV.2.2.2.2.1.1.mpr hl)
    rcases hR with ⟨f, e, hC⟩ | ⟨x, p', e, hr, hp', hlt, k1, k2⟩
    · exact Or.inl ⟨f, e0.trans (bnd_l e), hC⟩
    · exact Or.inr ⟨_, p', e0.trans (bnd_r e), hr, hp', hlt, hV.1.fr h.2.1 (by decide) (by decide) (by decide), hV.2.1.fr h.2.1 (by decide) (by decide) (by decide), hV.2.2.1.fr h.2.1 (by decide) (by decide) (by decide), hV.2.2.2.1.fr h.2.1 (by decide) (by decide) (by decide) (by decide), ⟨⟨fun q => absurd q (by simp), fun q => absurd (k1.symm.trans q) (by decide)⟩, k2⟩, hV.2.2.2.2.2.fr h.2.1 (by decide) (by decide)⟩
theorem c_ln6_2 {b : Nat → Int} {n p : Nat} {r : Int32} {G G1 : GS} {V : PV} (h : P_rDraw_2 G r G1) (hp : CPx b n G p) (hk : tK b n p = 138) (hV : CV_2 V G) : RdC_2 b n V p r G1 := by
  rcases c_draw_2 h hp (by omega) (by omega) with ⟨hl, hC⟩ | ⟨hl, hR⟩
  · exact Or.inl ⟨_, pLn_0 (fun q => by have := q.1; omega) (fun q => by have := q.1; omega) (fun q => by have := q.1; omega) (fun q => by have := q.1; omega) (fun q => by have := q.1; omega) (fun q => hl (hV.2.2.2.2.2.1.mp q.2)), hC⟩
  · have e0 := pLn_6 hk (hV.2.2.2.2.2.1.mpr hl)
    rcases hR with ⟨f, e, hC⟩ | ⟨x, p', e, hr, hp', hlt, k1, k2⟩
    · exact Or.inl ⟨f, e0.trans (bnd_l e), hC⟩
    · exact Or.inr ⟨_, p', e0.trans (bnd_r e), hr, hp', hlt, hV.1.fr h.2.1 (by decide) (by decide) (by decide), hV.2.1.fr h.2.1 (by decide) (by decide) (by decide), hV.2.2.1.fr h.2.1 (by decide) (by decide) (by decide), hV.2.2.2.1.fr h.2.1 (by decide) (by decide) (by decide) (by decide), hV.2.2.2.2.1.fr h.2.1 (by decide) (by decide), ⟨⟨fun q => absurd q (by simp), fun q => absurd (k1.symm.trans q) (by decide)⟩, k2⟩⟩
theorem c_ln0_2 {b : Nat → Int} {n p : Nat} {r : Int32} {G G1 : GS} {V : PV} (h : P_tRefuse 2 G r G1) (hp : CPx b n G p) (hk : tK b n p ≠ 128 ∧ tK b n p ≠ 129 ∧ tK b n p ≠ 134 ∧ tK b n p ≠ 135 ∧ tK b n p ≠ 136 ∧ tK b n p ≠ 138) : RdC_2 b n V p r G1 := Or.inl ⟨_, pLn_0 (fun q => hk.1 q.1) (fun q => hk.2.1 q.1) (fun q => hk.2.2.1 q.1) (fun q => hk.2.2.2.1 q.1) (fun q => hk.2.2.2.2.1 q.1) (fun q => hk.2.2.2.2.2 q.1), (c_ref h hp).1⟩
def RI_2 (b : Nat → Int) (n : Nat) (x g : Int32) (G : GS) : Prop := (∃ f, g.toInt = 0 ∧ parse b n = .inl f ∧ CF f g G) ∨ (∃ V p, g.toInt = 1 ∧ CPx b n G p ∧ CV_2 V G ∧ x.toInt ≤ (p : Int) ∧ ∀ o, Et (topS b n) (V0, 0) o ↔ Et (topS b n) (V, p) o)
theorem c_rstep_2 {b : Nat → Int} {n : Nat} {q q1 : Int32 × Int32 × GS} (hs : St_k_rRead_2_1 q q1) (hi : RI_2 b n q.1 q.2.1 q.2.2) : RI_2 b n q1.1 q1.2.1 q1.2.2 := by
  obtain ⟨x, g, G, xn, gn, Gn, rfl, rfl, -, -, -, c1, c2, c3, hh⟩ := hs
  rcases hi with ⟨f, hg, -⟩ | ⟨V, p, hg, hp, hV, hx, hE⟩
  · exact absurd hg c1
  have hk := hp.2.1.1
  have k203 : tK b n p ≠ 203 := by rw [← hk]; exact c3
  have fin : RdC_2 b n V p gn Gn → xn.toInt = x.toInt + 1 → RI_2 b n xn gn Gn := by
    intro hR hxn
    rcases hR with ⟨f, e, hC⟩ | ⟨V', p', e, hr, hp', hlt, hV'⟩
    · exact Or.inl ⟨f, hC.1, run_eq ((hE _).mpr ((Et_r (topS_l k203 e)).mpr rfl)), hC⟩
    · exact Or.inr ⟨V', p', hr, hp', hV', by have hx' : x.toInt ≤ (p : Int) := hx; omega, fun o => (hE o).trans (Et_i (topS_r k203 e))⟩
  simp only at hp hk
  rw [hk] at hh
  clear hE
  rcases hh with ⟨d, r7, G7, d1, y7, t7, rfl, rfl, rfl⟩ | ⟨n128, hh⟩
  · exact fin (c_ln1_2 d1 hp d hV) t7
  rcases hh with ⟨d, r7, G7, d1, y7, t7, rfl, rfl, rfl⟩ | ⟨n129, hh⟩
  · exact fin (c_ln2_2 d1 hp d hV) t7
  rcases hh with ⟨d, r7, G7, d1, y7, t7, rfl, rfl, rfl⟩ | ⟨n130, hh⟩
  · exact fin (c_ln0_2 d1 hp (by omega)) t7
  rcases hh with ⟨d, r7, G7, d1, y7, t7, rfl, rfl, rfl⟩ | ⟨n131, hh⟩
  · exact fin (c_ln0_2 d1 hp (by omega)) t7
  rcases hh with ⟨d, r7, G7, d1, y7, t7, rfl, rfl, rfl⟩ | ⟨n132, hh⟩
  · exact fin (c_ln0_2 d1 hp (by omega)) t7
  rcases hh with ⟨d, r7, G7, d1, y7, t7, rfl, rfl, rfl⟩ | ⟨n133, hh⟩
  · exact fin (c_ln0_2 d1 hp (by omega)) t7
  rcases hh with ⟨d, r7, G7, d1, y7, t7, rfl, rfl, rfl⟩ | ⟨n134, hh⟩
  · exact fin (c_ln3_2 d1 hp d hV) t7
  rcases hh with ⟨d, r7, G7, d1, y7, t7, rfl, rfl, rfl⟩ | ⟨n135, hh⟩
  · exact fin (c_ln4_2 d1 hp d hV) t7
  rcases hh with ⟨d, r7, G7, d1, y7, t7, rfl, rfl, rfl⟩ | ⟨n136, hh⟩
  · exact fin (c_ln5_2 d1 hp d hV) t7
  rcases hh with ⟨d, r7, G7, d1, y7, t7, rfl, rfl, rfl⟩ | ⟨n137, hh⟩
  · exact fin (c_ln0_2 d1 hp (by omega)) t7
  rcases hh with ⟨d, r7, G7, d1, y7, t7, rfl, rfl, rfl⟩ | ⟨n138, hh⟩
  · exact fin (c_ln6_2 d1 hp d hV) t7
  obtain ⟨r7, G7, d1, y7, t7, rfl, rfl, rfl⟩ := hh
  exact fin (c_ln0_2 d1 hp ⟨n128, n129, n134, n135, n136, n138⟩) t7
theorem c_read_2 {b : Nat → Int} {n : Nat} {p0 r : Int32} {G G1 : GS} (h : P_rRead_2 p0 G r G1) (hn0 : p0.toInt = (n : Int)) (hn : n ≤ 1600) (hT : ∀ j, j < n → (b j < 128 → (G.1 32 j).toInt = b j) ∧ (128 ≤ b j → (G.1 32 j).toInt = b j - 256) ∧ 0 ≤ b j ∧ b j ≤ 255) : (∃ f, parse b n = .inl f ∧ CF f r G1) ∨ (∃ V p, parse b n = .inr (V, p) ∧ r.toInt = 1 ∧ CV_2 V G1 ∧ (G1.1 3 7).toInt = 0 ∧ (G1.1 3 8).toInt = -1) := by
  obtain ⟨-, -, -, Ga, -, hFa, -, Gb, hem, Gc, -, hFc, w6, w7, w8', Gd, hop, x, g, G15, hl, -, -, -, -, hh⟩ := h
  obtain ⟨-, hFe, -, e9, e10, e11, e12, e13, e14, e15, e16, eS⟩ := hem
  obtain ⟨-, hFo, y1, t1, G5, -, hF5, f1, f2, f7, f8, r6, G7, hadv, rfl⟩ := hop
  have hy1 : y1.toInt = (n : Int) := by omega
  have hX5 : XC b n G5 := by
    refine ⟨by rw [f1]; exact hy1, hn, ?_⟩
    rw [hF5.row1 32 (by decide) (by decide), hFc.row1 32 (by decide) (by decide), hFe.row1 32 (by decide) (by decide), hFa.row1 32 (by decide) (by decide)]
    exact hT
  obtain ⟨-, hX7, hT7⟩ := c_adv (q := 0) hX5 (by rw [f2]; rfl) (Nat.zero_le n) hadv
  have hp7 : CPx b n G7 0 := ⟨hX7, hT7, ⟨by rw [hadv.2.1.i 3 7 (by decide) (by decide), f7]; rfl, by rw [hadv.2.1.i 3 8 (by decide) (by decide), f8]; rfl⟩, Nat.zero_le n⟩
  have r7 : ∀ j, j ≠ 1 → G7.1 2 j = G7.1 2 j := fun _ _ => rfl
  have kc : ∀ j, G7.1 2 j = Gb.1 2 j := fun j => by rw [hadv.2.1.row1 2 (by decide) (by decide), hF5.row1 2 (by decide) (by decide), hFc.row1 2 (by decide) (by decide)]
  have ks : G7.1 26 = Gb.1 26 := by rw [hadv.2.1.row1 26 (by decide) (by decide), hF5.row1 26 (by decide) (by decide), hFc.row1 26 (by decide) (by decide)]
  have hV0 : CV_2 V0 G7 := by
    refine ⟨⟨by rw [kc, e9]; rfl, fun k hk => absurd hk (Nat.not_lt_zero k), fun s hs => absurd hs (Nat.not_lt_zero s)⟩, ⟨by rw [kc, e10]; rfl, fun k hk => absurd hk (Nat.not_lt_zero k), fun s hs => absurd hs (Nat.not_lt_zero s)⟩, ⟨by rw [kc, e11]; rfl, fun k hk => absurd hk (Nat.not_lt_zero k), by rw [kc, e12]; rfl, by decide, by decide, ⟨Or.inl ⟨by decide, by rw [kc, e13]; rfl⟩, fun i hi => absurd hi (Nat.not_lt_zero i)⟩, fun k hk => absurd hk (Nat.not_lt_zero k)⟩, ⟨⟨fun _ => ?_, fun _ => rfl⟩, ?_, ?_, ?_⟩, ⟨⟨fun _ => ?_, fun _ => rfl⟩, by rw [kc, e14]; rfl, by rw [kc, e15]; rfl⟩, ⟨⟨fun _ => ?_, fun _ => rfl⟩, by rw [kc, e16]; rfl⟩⟩
    · rw [hadv.2.1.i 5 6 (by decide) (by decide), hF5.i 5 6 (by decide) (by decide), w6]
      rfl
    · rw [ks, eS]
      rfl
    · rw [ks, eS]
      rfl
    · rw [ks, eS]
      rfl
    · rw [hadv.2.1.i 5 7 (by decide) (by decide), hF5.i 5 7 (by decide) (by decide), w7]
      rfl
    · rw [hadv.2.1.i 5 8 (by decide) (by decide), hF5.i 5 8 (by decide) (by decide), w8']
      rfl
  have hI : RI_2 b n x g G15 := hl (fun q => RI_2 b n q.1 q.2.1 q.2.2) (Or.inr ⟨V0, 0, rfl, hp7, hV0, Int.le_refl 0, fun o => Iff.rfl⟩) (fun a a' ha hs => c_rstep_2 hs ha)
  clear hl
  rcases hI with ⟨f, hg, e, hC⟩ | ⟨V, p, hg, hp, hV, hx, hE⟩
  · rcases hh with ⟨-, rfl, rfl⟩ | ⟨c, -⟩
    · exact Or.inl ⟨f, e, hC⟩
    · exact absurd hg c
  · have hk := hp.2.1.1
    have k203 : tK b n p = 203 ∧ g = r ∧ G15 = G1 := by
      rcases hh with ⟨c, -⟩ | ⟨c, ⟨d, e1, e2⟩ | ⟨d, d2, e1, e2⟩⟩
      · omega
      · refine ⟨?_, e1, e2⟩
        refine Classical.byContradiction (fun q => ?_)
        have := (tN_p (b := b) hp.1.2.1 hp.2.2.2).2.2 q
        have := (tS_p (b := b) hp.1.2.1 hp.2.2.2)
        have := hp.2.2.2
        omega
      · exact ⟨by rw [← hk]; exact d2, e1, e2⟩
    obtain ⟨k203, rfl, rfl⟩ := k203
    exact Or.inr ⟨V, p, run_eq ((hE _).mpr ((Et_r (topS_e k203)).mpr rfl)), hg, hV, hp.2.2.1.1, hp.2.2.1.2⟩

/-! SLABS and STREETS by the reference -/
def StM (s : Nat) (I : List IC) (G : GS) : Prop := (G.1 81 s).toInt = (I.length : Int) ∧ ∀ i, i < I.length → (G.1 77 (400 * s + i)).toInt = (I.getD i (0, 0, 0, 0)).1 ∧ (G.1 78 (400 * s + i)).toInt = (I.getD i (0, 0, 0, 0)).2.1 ∧ (G.1 79 (400 * s + i)).toInt = (I.getD i (0, 0, 0, 0)).2.2.1 ∧ (G.1 80 (400 * s + i)).toInt = (I.getD i (0, 0, 0, 0)).2.2.2
def KeM (s : Nat) (G G1 : GS) : Prop := (∀ s', s' ≠ s → G1.1 81 s' = G.1 81 s') ∧ ∀ j, j < 400 * s → G1.1 77 j = G.1 77 j ∧ G1.1 78 j = G.1 78 j ∧ G1.1 79 j = G.1 79 j ∧ G1.1 80 j = G.1 80 j
theorem KeM.tr {s : Nat} {G G1 G2 : GS} (h : KeM s G G1) (h' : KeM s G1 G2) : KeM s G G2 := ⟨fun s' q => (h'.1 s' q).trans (h.1 s' q), fun j q => ⟨(h'.2 j q).1.trans (h.2 j q).1, (h'.2 j q).2.1.trans (h.2 j q).2.1, (h'.2 j q).2.2.1.trans (h.2 j q).2.2.1, (h'.2 j q).2.2.2.trans (h.2 j q).2.2.2⟩⟩
theorem KeM.of {s : Nat} {rs : List Nat} {fs : List (Nat × Nat)} {G G1 : GS} (hF : Fr rs fs G G1) (h1 : 77 ∉ rs ∧ 78 ∉ rs ∧ 79 ∉ rs ∧ 80 ∉ rs ∧ 81 ∉ rs) (h2 : ∀ x ∈ fs, x.1 ≠ 77 ∧ x.1 ≠ 78 ∧ x.1 ≠ 79 ∧ x.1 ≠ 80 ∧ x.1 ≠ 81) : KeM s G G1 := by
  unfold KeM
  rw [hF.row1 77 h1.1 (fun x hx => (h2 x hx).1), hF.row1 78 h1.2.1 (fun x hx => (h2 x hx).2.1), hF.row1 79 h1.2.2.1 (fun x hx => (h2 x hx).2.2.1), hF.row1 80 h1.2.2.2.1 (fun x hx => (h2 x hx).2.2.2.1), hF.row1 81 h1.2.2.2.2 (fun x hx => (h2 x hx).2.2.2.2)]
  exact ⟨fun _ _ => rfl, fun _ _ => ⟨rfl, rfl, rfl, rfl⟩⟩
theorem StM.fr {s : Nat} {I : List IC} {rs : List Nat} {fs : List (Nat × Nat)} {G G1 : GS} (h : StM s I G) (hF : Fr rs fs G G1) (h1 : 77 ∉ rs ∧ 78 ∉ rs ∧ 79 ∉ rs ∧ 80 ∉ rs ∧ 81 ∉ rs) (h2 : ∀ x ∈ fs, x.1 ≠ 77 ∧ x.1 ≠ 78 ∧ x.1 ≠ 79 ∧ x.1 ≠ 80 ∧ x.1 ≠ 81) : StM s I G1 := by
  unfold StM at h ⊢
  rw [hF.row1 77 h1.1 (fun x hx => (h2 x hx).1), hF.row1 78 h1.2.1 (fun x hx => (h2 x hx).2.1), hF.row1 79 h1.2.2.1 (fun x hx => (h2 x hx).2.2.1), hF.row1 80 h1.2.2.2.1 (fun x hx => (h2 x hx).2.2.2.1), hF.row1 81 h1.2.2.2.2 (fun x hx => (h2 x hx).2.2.2.2)]
  exact h
theorem m_pave {s : Nat} {I : List IC} {G G1 : GS} {p0 p1 p2 : Int32} {m nth w : Int} {j0 : Nat} (h : Q_pave p0 p1 p2 j0 G G1) (hs : (G.1 66 45).toInt = (s : Int)) (hS : StM s I G) (h0 : p0.toInt = m) (h1 : p1.toInt = nth) (h2 : p2.toInt = w) (hw0 : 0 ≤ w) : StM s (I ++ layI m nth w) G1 ∧ KeM s G G1 := by
  obtain ⟨-, -, -, x, G4, hl, -, -, -, -, -, c1, rfl⟩ := h
  have hI := hl (fun q => ∃ k : Nat, q.1.toInt = (k : Int) ∧ (k : Int) ≤ w ∧ (q.2.1 81 s).toInt = (I.length : Int) + (k : Int) ∧ (∀ s', s' ≠ s → q.2.1 81 s' = G.1 81 s') ∧ (∀ j, j < 400 * s + I.length → q.2.1 77 j = G.1 77 j ∧ q.2.1 78 j = G.1 78 j ∧ q.2.1 79 j = G.1 79 j ∧ q.2.1 80 j = G.1 80 j) ∧ ∀ i, i < k → (q.2.1 77 (400 * s + I.length + i)).toInt = m ∧ (q.2.1 78 (400 * s + I.length + i)).toInt = nth ∧ (q.2.1 79 (400 * s + I.length + i)).toInt = (i : Int) ∧ (q.2.1 80 (400 * s + I.length + i)).toInt = w) ⟨0, rfl, hw0, by rw [hS.1]; simp, fun _ _ => rfl, fun _ _ => ⟨rfl, rfl, rfl, rfl⟩, fun i hi => absurd hi (Nat.not_lt_zero i)⟩ (by
    rintro ⟨x1, G_1⟩ ⟨xn, G_1n⟩ ⟨k, g1, g2, g3, g4, g5, g6⟩ ⟨x1q, G_1q, xnq, G_1nq, e1, e2, -, -, -, -, c1, y14, t14, y15, e15, y17, t17, y22, e22, y24, t24, y26, t26, ex, -, e77, e78, e79, e80, e81⟩
    obtain ⟨rfl, rfl⟩ := Prod.mk.inj e1
    obtain ⟨rfl, rfl⟩ := Prod.mk.inj e2
    simp only at g1 g3 g4 g5 g6
    rw [cn_eq hs] at e15 e22 e81
    have a15 : y15.toInt = (I.length : Int) + (k : Int) := by rw [e15]; exact g3
    have a22 : y22.toInt = (I.length : Int) + (k : Int) := by rw [e22]; exact g3
    have hy : y17.toNatClampNeg = 400 * s + I.length + k := cn_eq (by omega)
    rw [hy] at e77 e78 e79 e80
    refine ⟨k + 1, by show xn.toInt = _; rw [← ex]; omega, by omega, ?_, fun s' q => ?_, fun j hj => ?_, fun i hi => ?_⟩
    · show (G_1n.1 81 s).toInt = _
      have e : upd (G_1.1 81) s y24 s = y24 := if_pos rfl
      rw [e81, e]
      omega
    · show G_1n.1 81 s' = _
      have e : upd (G_1.1 81) s y24 s' = G_1.1 81 s' := if_neg q
      rw [e81, e]
      exact g4 s' q
    · show G_1n.1 77 j = _ ∧ G_1n.1 78 j = _ ∧ G_1n.1 79 j = _ ∧ G_1n.1 80 j = _
      have e : ∀ (g : Nat → Int32) (v : Int32), upd g (400 * s + I.length + k) v j = g j := fun g v => if_neg (by omega)
      rw [e77, e78, e79, e80, e, e, e, e]
      exact g5 j hj
    · show (G_1n.1 77 (400 * s + I.length + i)).toInt = _ ∧ (G_1n.1 78 (400 * s + I.length + i)).toInt = _ ∧ (G_1n.1 79 (400 * s + I.length + i)).toInt = _ ∧ (G_1n.1 80 (400 * s + I.length + i)).toInt = _
      rw [e77, e78, e79, e80]
      by_cases hik : i = k
      · subst hik
        have e : ∀ (g : Nat → Int32) (v : Int32), upd g (400 * s + I.length + i) v (400 * s + I.length + i) = v := fun g v => if_pos rfl
        rw [e, e, e, e]
        exact ⟨h0, h1, g1, h2⟩
      · have e : ∀ (g : Nat → Int32) (v : Int32), upd g (400 * s + I.length + k) v (400 * s + I.length + i) = g (400 * s + I.length + i) := fun g v => if_neg (by omega)
        rw [e, e, e, e]
        exact g6 i (by omega))
  obtain ⟨k, g1, g2, g3, g4, g5, g6⟩ := hI
  simp only at g1 g3 g4 g5 g6
  have hk : k = w.toNat := by omega
  refine ⟨⟨?_, fun i hi => ?_⟩, g4, fun j hj => g5 j (by omega)⟩
  · rw [g3, List.length_append, layI_len]
    omega
  · rw [List.length_append, layI_len] at hi
    rw [getD_app]
    by_cases hq : i < I.length
    · obtain ⟨a1, a2, a3, a4⟩ := g5 (400 * s + i) (by omega)
      rw [if_pos hq, a1, a2, a3, a4]
      exact hS.2 i hq
    · have := g6 (i - I.length) (by omega)
      rw [show 400 * s + I.length + (i - I.length) = 400 * s + i by omega] at this
      rw [if_neg hq, layI_get (by omega)]
      exact this
theorem m_mrk {b : Nat → Int} {n p : Nat} {G G1 : GS} {r : Int32} (hp : MP b n G p) (hs : (G.1 66 6).toInt = 1) (h : Q_mark G r G1) : G = G1 ∧ ((140 ≤ tK b n p ∧ tK b n p ≤ 143 ∧ r = mkw (tK b n p)) ∨ (¬ (140 ≤ tK b n p ∧ tK b n p ≤ 143) ∧ r.toInt = 0)) := by
  have hk := hp.so.2.2.1.mp hs
  have hw := tK_w (b := b) hp.1.2.1 hp.2.2.2 hk.1 hk.2
  have h9 := hp.2.1.2.2.2.2 hk.1 hk.2
  obtain ⟨e, m1, m2, m3, m4, m5⟩ := m_mark h9 hw.2 h
  rw [← hw.1] at m1 m2 m3 m4 m5
  refine ⟨e, ?_⟩
  by_cases hq : 140 ≤ tK b n p ∧ tK b n p ≤ 143
  · refine Or.inl ⟨hq.1, hq.2, ?_⟩
    have h4 : tK b n p = 140 ∨ tK b n p = 141 ∨ tK b n p = 142 ∨ tK b n p = 143 := by
      clear m1 m2 m3 m4 m5
      omega
    rcases h4 with e | e | e | e
    · rw [e]
      exact Int32.toInt_inj.mp (m1 e)
    · rw [e]
      exact Int32.toInt_inj.mp (m2 e)
    · rw [e]
      exact Int32.toInt_inj.mp (m3 e)
    · rw [e]
      exact Int32.toInt_inj.mp (m4 e)
  · refine Or.inr ⟨hq, m5 ?_⟩
    clear m1 m2 m3 m4 m5
    omega
def MkI (b : Nat → Int) (n q : Nat) (x m : Int32) (G : GS) : Prop := (∃ f, MF f G ∧ pMk b n q = .inl f) ∨ (∃ p' v, MP b n G p' ∧ q ≤ p' ∧ v < 16 ∧ m = Int32.ofNat v ∧ (∀ o, Et (mkS b n) (0, q) o ↔ Et (mkS b n) (m, p') o) ∧ (x.toInt = 0 → ¬ (140 ≤ tK b n p' ∧ tK b n p' ≤ 143)))
theorem m_mkstep {b : Nat → Int} {n q : Nat} {r5 w14 : Int32} {G : GS} {s s1 : Int32 × Int32 × GS} (hs : St_n_readSlab_3 r5 w14 G s s1) (hi : MkI b n q s.1 s.2.1 s.2.2) : MkI b n q s1.1 s1.2.1 s1.2.2 := by
  obtain ⟨x, m, G3, xn, mn, G3n, rfl, rfl, -, -, -, -, -, hx, hf0, hh⟩ := hs
  rcases hi with ⟨f, hm, -⟩ | ⟨p', v, hp, hqp, hv, hmv, hE, -⟩
  · exact absurd hf0 (by have := MF.pos (G := G3) hm; omega)
  replace hp : MP b n G3 p' := hp
  replace hmv : m = Int32.ofNat v := hmv
  replace hE : ∀ o, Et (mkS b n) (0, q) o ↔ Et (mkS b n) (m, p') o := hE
  have ht := tN_p (b := b) hp.1.2.1 hp.2.2.2
  rcases hh with ⟨c1, r1, Ga, hm1, c2, r2, Gb, hm2, y, ey, hh⟩ | ⟨Ga, hj, -, -, rfl, rfl, rfl⟩
  · obtain ⟨rfl, hk⟩ := m_mrk hp c1 hm1
    have hk1 : 140 ≤ tK b n p' ∧ tK b n p' ≤ 143 := by
      rcases hk with ⟨a, b', -⟩ | ⟨-, a⟩
      · exact ⟨a, b'⟩
      · omega
    clear hk
    have mw : ∀ {r : Int32} {Gx : GS}, Q_mark G3 r Gx → G3 = Gx ∧ r = mkw (tK b n p') := by
      intro r Gx hm
      obtain ⟨e, hk⟩ := m_mrk hp c1 hm
      rcases hk with ⟨-, -, a⟩ | ⟨a, -⟩
      · exact ⟨e, a⟩
      · exact absurd hk1 a
    obtain ⟨rfl, rfl⟩ := mw hm2
    rcases hh with ⟨c3, r3, Gc, hm3, y2, ey2, Gd, htk, rfl, rfl, rfl⟩ | ⟨c3, Gc, hwr, hh⟩
    · obtain ⟨rfl, rfl⟩ := mw hm3
      rw [ey, hmv] at c3
      obtain ⟨v', g1, g2, g3⟩ := mk_ok hv hk1.1 hk1.2 c3
      have hst : mkS b n (m, p') = .inl (m ||| mkw (tK b n p'), tNx b n p') := by
        unfold mkS
        rw [if_pos hk1, if_neg (by rw [hmv]; exact fun q => q c3)]
      refine Or.inr ⟨tNx b n p', v', m_next htk hp (by omega), by omega, g1, by show y2 = _; rw [ey2, hmv]; exact g3, fun o => (hE o).trans ?_, fun q => absurd q (show ¬ (1 : Int32).toInt = 0 by decide)⟩
      show _ ↔ Et (mkS b n) (y2, tNx b n p') o
      rw [ey2]
      exact Et_i hst
    · obtain ⟨hm, -⟩ := m_wrong hwr hp (by decide)
      have hst : mkS b n (m, p') = .inr (.inl (fl b n 2 p')) := by
        unfold mkS
        rw [if_pos hk1, if_pos (by rw [← ey]; exact c3)]
      rcases hh with ⟨c4, -⟩ | ⟨-, rfl, rfl, rfl⟩
      · exact absurd c4 (by have := hm.pos; omega)
      · exact Or.inl ⟨_, hm, run_eq ((hE _).mpr ((Et_r hst).mpr rfl))⟩
  · have hj2 : G3 = Ga ∧ ¬ (140 ≤ tK b n p' ∧ tK b n p' ≤ 143) := by
      rcases hj with ⟨c1, r1, Gb, hm1, c2, e⟩ | ⟨c1, e⟩
      · obtain ⟨rfl, hk⟩ := m_mrk hp c1 hm1
        refine ⟨e, fun hq => ?_⟩
        rcases hk with ⟨-, -, a⟩ | ⟨a, -⟩
        · have : 0 < r1.toInt := by
            rw [a]
            unfold mkw
            split
            · decide
            · split
              · decide
              · split <;> decide
          omega
        · exact a hq
      · have hs := hp.so.2.2.1
        refine ⟨e, fun hq => c1 (hs.mpr ?_)⟩
        clear hs
        omega
    obtain ⟨rfl, hno⟩ := hj2
    exact Or.inr ⟨p', v, hp, hqp, hv, hmv, hE, fun _ => hno⟩
theorem pNum_60l {b : Nat → Int} {n p : Nat} {R : Int} {f : Int × Int} (h : pNum b n 1 60 p = .inl f) : pNum b n 1 (rmx R) p = .inl f := by
  unfold pNum at h ⊢
  by_cases h1 : tK b n p ≠ 201
  · rw [if_pos h1] at h ⊢
    exact h
  · rw [if_neg h1] at h ⊢
    by_cases h2 : tV b n p < 1 ∨ 60 < tV b n p
    · rw [if_pos h2] at h
      have h3 : tV b n p < 1 ∨ rmx R < tV b n p := by
        unfold rmx
        split <;> omega
      rw [if_pos h3]
      exact h
    · rw [if_neg h2] at h
      exact absurd h (by simp)
theorem pNum_60r {b : Nat → Int} {n p : Nat} {R : Int} (h : pNum b n 1 60 p = .inr (tV b n p, tNx b n p)) : (tV b n p ≤ R → pNum b n 1 (rmx R) p = .inr (tV b n p, tNx b n p)) ∧ (R < tV b n p → pNum b n 1 (rmx R) p = .inl (4, (tS b n p : Int))) := by
  unfold pNum at h ⊢
  by_cases h1 : tK b n p ≠ 201
  · rw [if_pos h1] at h
    exact absurd h (by simp)
  · have h201 : tK b n p = 201 := Classical.byContradiction h1
    rw [if_neg h1] at h
    rw [if_neg h1]
    by_cases h2 : tV b n p < 1 ∨ 60 < tV b n p
    · rw [if_pos h2] at h
      exact absurd h (by simp)
    · have h3 : ∀ x : Int, (x = rmx R) → ((tV b n p ≤ R ↔ tV b n p ≤ x)) := by
        intro x hx
        unfold rmx at hx
        by_cases hR : 60 ≤ R
        · rw [if_pos hR] at hx
          omega
        · rw [if_neg hR] at hx
          omega
      have h4 := h3 _ rfl
      refine ⟨fun q => ?_, fun q => ?_⟩
      · have := h4.mp q
        clear h3 h4
        rw [if_neg (by omega)]
      · have h5 : ¬ tV b n p ≤ rmx R := fun w => by have := h4.mpr w; omega
        clear h3 h4
        rw [if_pos (by omega)]
        unfold fl
        rw [if_neg (by omega)]
def SlM (b : Nat → Int) (n : Nat) (J : Int) (nth s : Nat) (I : List IC) (p : Nat) (G G1 : GS) : Prop := (∃ f, pSlab b n J nth I.length p = .inl f ∧ MF f G1) ∨ (∃ vx p', pSlab b n J nth I.length p = .inr (vx, p') ∧ MP b n G1 p' ∧ p < p' ∧ StM s (I ++ slI J nth vx) G1 ∧ KeM s G G1 ∧ 1 ≤ vx.1 ∧ ((I ++ slI J nth vx).length : Int) ≤ 400)
theorem m_slab {b : Nat → Int} {n : Nat} {J : Int} {nth s j0 : Nat} {I : List IC} {p : Nat} {p0 p1 : Int32} {G G1 : GS} (h : Q_readSlab p0 p1 j0 G G1) (hp : MP b n G p) (hs : (G.1 66 45).toInt = (s : Int)) (hS : StM s I G) (h0 : p0.toInt = J) (h1 : p1.toInt = (nth : Int)) (hn4 : nth ≤ 400) (hJ0 : 0 ≤ J) (hJ9 : J ≤ 9) : SlM b n J nth s I p G G1 := by
  obtain ⟨-, -, -, r5, G6, htd, w14, G15, hj1, -, -, -, G25, hj2, -, -, hF25, x, m, G32, hl, -, -, -, -, -, hF32, G58, hj4, -, -, hh⟩ := h
  have hG : G6 = G15 ∧ w14.toInt = ahd J nth := by
    unfold ahd
    rcases hj1 with ⟨c, e1, e2⟩ | ⟨c, e1, e2⟩
    · rw [if_pos (by omega), ← e1]
      exact ⟨e2, rfl⟩
    · rw [if_neg (by omega), ← e1]
      exact ⟨e2, h0⟩
  obtain ⟨rfl, hw14⟩ := hG
  clear hj1
  have har := ahd_r (nth := nth) hJ0 hJ9
  have e58 : G32 = G58 := by
    rcases hj4 with ⟨-, e⟩ | ⟨-, -, e⟩ <;> exact e
  have stop : ∀ {f : Int × Int}, MF f G25 → pSlab b n J nth I.length p = .inl f → SlM b n J nth s I p G G1 := by
    intro f hm he
    have hI : MF f G32 := hl (fun q => MF f q.2.2) hm (by
      rintro ⟨x1, m1, G_1⟩ ⟨xn, mn, G_1n⟩ hi ⟨x1q, m1q, G_1q, xnq, mnq, G_1nq, e1, e2, -, -, -, -, -, -, hf0, -⟩
      obtain ⟨rfl, e1x⟩ := Prod.mk.inj e1
      obtain ⟨rfl, rfl⟩ := Prod.mk.inj e1x
      exact absurd hf0 (by have := MF.pos (G := G_1) hi; omega))
    rcases hh with ⟨c, -⟩ | ⟨-, e⟩
    · exact absurd c (by have := hI.pos; omega)
    · subst e58
      subst e
      exact Or.inl ⟨f, he, hI⟩
  have r81 : G6.1 81 = G.1 81 := htd.2.1.row1 81 (by decide) (by decide)
  rcases m_told htd hp with ⟨f, hf, hm⟩ | ⟨hv, hp6, hr5, hl1, hl2⟩
  · have hpo := hm.pos
    rcases hj2 with ⟨c, -⟩ | ⟨-, e⟩
    · omega
    · subst e
      exact stop hm (bnd_l (pNum_60l hf))
  have hf6 : (G6.1 66 2).toInt = 0 := hp6.2.2.1.1
  have hv60 := pNum_60r (R := 400 - (I.length : Int) - ahd J nth) hv
  have k201 : tK b n p = 201 := by
    have hv' : pNum b n 1 60 p = .inr (tV b n p, tNx b n p) := hv
    unfold pNum at hv'
    refine Classical.byContradiction (fun q => ?_)
    rw [if_pos q] at hv'
    exact absurd hv' (by simp)
  have ht := tN_p (b := b) hp.1.2.1 hp.2.2.2
  have htp := (ht.2.2 (by omega)).1
  rcases hj2 with ⟨-, y190, e190, y192, t192, y193, t193, hh2⟩ | ⟨c, -⟩
  rotate_left
  · exact absurd hf6 c
  rw [cn_eq hs, r81] at e190
  have h190 : y190.toInt = (I.length : Int) := by rw [e190]; exact hS.1
  rcases hh2 with ⟨c4, rfl⟩ | ⟨c4, Gw, hwa, rfl⟩
  rotate_left
  · obtain ⟨-, -, -, hwa⟩ := hwa
    rcases hwa with ⟨-, -, e2, e3⟩ | ⟨c, -⟩
    · refine stop (f := (4, (tS b n p : Int))) ⟨by rw [e2]; rfl, by rw [e3]; exact hp.2.1.2.1, show (0 : Int) < 4 by decide⟩ (bnd_l (hv60.2 (by omega)))
    · omega
  have hvv := hv60.1 (by omega)
  have hI : MkI b n (tNx b n p) x m G32 := hl (fun q => MkI b n (tNx b n p) q.1 q.2.1 q.2.2) (Or.inr ⟨tNx b n p, 0, hp6, Nat.le_refl _, by decide, rfl, fun o => Iff.rfl, fun q => absurd q (show ¬ (1 : Int32).toInt = 0 by decide)⟩) (fun a a' ha hst => m_mkstep hst ha)
  rcases hI with ⟨f, hm, he⟩ | ⟨p', v, hp3, hqp, hv16, hmv, hE, hx0⟩
  · rcases hh with ⟨c, -⟩ | ⟨-, e⟩
    · exact absurd c (by have := hm.pos; omega)
    · subst e58
      subst e
      exact Or.inl ⟨f, (bnd_r hvv).trans (bnd_l he), hm⟩
  have hf3 : (G32.1 66 2).toInt = 0 := hp3.2.2.1.1
  have hx : x.toInt = 0 := by
    rcases hj4 with ⟨c, -⟩ | ⟨-, c, -⟩
    · exact c
    · exact absurd hf3 c
  have hno := hx0 hx
  have hst : mkS b n (m, p') = .inr (.inr (m, p')) := by
    unfold mkS
    rw [if_neg hno]
  have hmk : pMk b n (tNx b n p) = .inr (m, p') := run_eq ((hE _).mpr ((Et_r hst).mpr rfl))
  have hps : pSlab b n J nth I.length p = .inr ((tV b n p, m), p') := (bnd_r hvv).trans (bnd_r hmk)
  subst e58
  rcases hh with ⟨-, y63, e63, Ga, hpa1, Gb, hpa2, rfl⟩ | ⟨c, -⟩
  rotate_left
  · omega
  have hl1' : 1 ≤ tV b n p := hl1
  have hs32 : (G32.1 66 45).toInt = (s : Int) := by
    rw [hF32.i 66 45 (by decide) (by decide), htd.2.1.i 66 45 (by decide) (by decide)]
    exact hs
  have hS32 : StM s I G32 := (hS.fr htd.2.1 (by decide) (by decide)).fr hF32 (by decide) (by decide)
  have hK32 : KeM s G G32 := (KeM.of htd.2.1 (by decide) (by decide)).tr (KeM.of hF32 (by decide) (by decide))
  have h63 : y63.toInt = (nth : Int) - 1 := xI_sub (Y := 1) h1 rfl e63 (by omega) (by omega)
  obtain ⟨k1, k2⟩ := m_pave (m := -1) hpa1 hs32 hS32 rfl h63 hw14 har.1
  have hs2 : (Ga.1 66 45).toInt = (s : Int) := by
    rw [hpa1.2.1.i 66 45 (by decide) (by decide)]
    exact hs32
  obtain ⟨k3, k4⟩ := m_pave hpa2 hs2 k1 rfl h1 hr5 (by omega)
  refine Or.inr ⟨_, p', hps, (hp3.fr hpa1.2.1 (by decide) (by decide) (by decide) (by decide)).fr hpa2.2.1 (by decide) (by decide) (by decide) (by decide), by omega, ?_, (hK32.tr k2).tr k4, hl1', ?_⟩
  · rw [List.append_assoc] at k3
    exact k3
  · rw [List.length_append, slI_len]
    show ((I.length + ((ahd J nth).toNat + (tV b n p).toNat) : Nat) : Int) ≤ 400
    omega

/-! lines by the reference -/
def LnM {α : Type} (b : Nat → Int) (n p : Nat) (o : Rs α) (G1 : GS) (K : α → Prop) : Prop := (∃ f, o = .inl f ∧ MF f G1) ∨ (∃ x p', o = .inr (x, p') ∧ MP b n G1 p' ∧ p < p' ∧ K x)
def TlM (G G1 : GS) : Prop := (((G.1 66 2).toInt = 0 ∧ ((((G.1 66 6).toInt = 59 ∧ (∃ (Ga : GS), Q_token G Ga ∧ Ga = G1)) ∨ ((G.1 66 6).toInt ≠ 59 ∧ (∃ (Ga : GS), Q_wrong 2 G Ga ∧ (((Ga.1 66 2).toInt = 0 ∧ (∃ (Gb : GS), Q_token Ga Gb ∧ Gb = G1)) ∨ ((Ga.1 66 2).toInt ≠ 0 ∧ (Ga = G1)))))))) ∨ ((G.1 66 2).toInt ≠ 0 ∧ (G = G1)))
theorem m_semi {α : Type} {b : Nat → Int} {n p : Nat} {o : Rs α} {G G1 : GS} {K K' : α → Prop} (h : LnM b n p o G K) (ht : TlM G G1) (hK : ∀ x, Fr [] [(66, 4), (66, 6), (66, 7), (66, 8), (66, 9)] G G1 → K x → K' x) : LnM b n p (smi b n o) G1 K' := by
  rcases h with ⟨f, e, hm⟩ | ⟨x, p', e, hp, hlt, hx⟩
  · have hpo := hm.pos
    rcases ht with ⟨c, -⟩ | ⟨-, rfl⟩
    · omega
    · exact Or.inl ⟨f, smi_l e, hm⟩
  · have hf0 : (G.1 66 2).toInt = 0 := hp.2.2.1.1
    have h59 := hp.so.2.2.2.2 59 (by decide) (by decide)
    have htn := tN_p (b := b) hp.1.2.1 hp.2.2.2
    rcases ht with ⟨-, ⟨c, Ga, htk, rfl⟩ | ⟨c, Ga, hwr, hh⟩⟩ | ⟨c, -⟩
    · have k := h59.mp c
      have hkw : pKw b n 59 p' = .inr ((), tNx b n p') := by
        unfold pKw
        rw [if_pos k]
      exact Or.inr ⟨x, tNx b n p', (smi_r e).trans (bnd_r hkw), m_next htk hp (by omega), by omega, hK x htk.2.1 hx⟩
    · have k : tK b n p' ≠ 59 := fun q => c (h59.mpr q)
      obtain ⟨hm, -⟩ := m_wrong hwr hp (by decide)
      have hkw : pKw b n 59 p' = .inl (fl b n 2 p') := by
        unfold pKw
        rw [if_neg k]
      rcases hh with ⟨c2, -⟩ | ⟨-, rfl⟩
      · exact absurd c2 (by have := hm.pos; omega)
      · exact Or.inl ⟨_, (smi_r e).trans (bnd_l hkw), hm⟩
    · exact absurd hf0 c
/-- the names' row gets one more -/
def NmU (base : Nat) (NS : List (List Int)) (L : List Int) (G G1 : GS) : Prop := LW L ∧ G1.2.1 68 = vp_updL (G.2.1 68) (base + NS.length) (w8 L)
theorem NmU.frl {base : Nat} {NS : List (List Int)} {L : List Int} {rs : List Nat} {fs : List (Nat × Nat)} {G G1 G2 : GS} (h : NmU base NS L G G1) (hF : Fr rs fs G1 G2) (h1 : 68 ∉ rs) (h2 : ∀ x ∈ fs, x.1 ≠ 68) : NmU base NS L G G2 := ⟨h.1, by rw [hF.rowl 68 h1 h2]; exact h.2⟩
theorem NmM.fr {base : Nat} {NS : List (List Int)} {rs : List Nat} {fs : List (Nat × Nat)} {G G1 : GS} (h : NmM base NS G) (hF : Fr rs fs G G1) (h1 : 68 ∉ rs) (h2 : ∀ x ∈ fs, x.1 ≠ 68) : NmM base NS G1 := by
  unfold NmM at h ⊢
  rw [hF.rowl 68 h1 h2]
  exact h
theorem NmU.own {base : Nat} {NS : List (List Int)} {L : List Int} {G G1 : GS} (h : NmU base NS L G G1) (hN : NmM base NS G) : NmM base (NS ++ [L]) G1 := by
  intro k hk
  rw [List.length_append, List.length_singleton] at hk
  rw [h.2, getD_snoc]
  by_cases hq : k < NS.length
  · rw [if_pos hq, show vp_updL (G.2.1 68) (base + NS.length) (w8 L) (base + k) = G.2.1 68 (base + k) from if_neg (by omega)]
    exact hN k hq
  · rw [if_neg hq, if_pos (by omega), show vp_updL (G.2.1 68) (base + NS.length) (w8 L) (base + k) = w8 L from if_pos (by omega)]
    exact ⟨rfl, h.1⟩
theorem NmU.oth {base base' : Nat} {NS NS' : List (List Int)} {L : List Int} {G G1 : GS} (h : NmU base NS L G G1) (hN : NmM base' NS' G) (hd : base + NS.length < base' ∨ base' + NS'.length ≤ base + NS.length) : NmM base' NS' G1 := by
  intro k hk
  rw [h.2, show vp_updL (G.2.1 68) (base + NS.length) (w8 L) (base' + k) = G.2.1 68 (base' + k) from if_neg (by omega)]
  exact hN k hk
theorem MP.k2 {b : Nat → Int} {n p : Nat} {G : GS} (h : MP b n G p) : (G.1 66 2).toInt = 0 := h.2.2.1.1
theorem kn_eq {α : Type} {b : Nat → Int} {n p : Nat} {k lo hi : Int} {K : Int → Nat → Rs α} : (bnd (pKw b n k p) fun _ q => bnd (pNum b n lo hi q) K) = bnd (bnd (pKw b n k p) fun _ q => pNum b n lo hi q) K := by
  cases pKw b n k p with
  | inl f => rfl
  | inr x => rfl
theorem pKw_n {b : Nat → Int} {n p q : Nat} {k : Int} {x : Unit} (h : pKw b n k p = .inr (x, q)) : q = tNx b n p := by
  unfold pKw at h
  split at h
  · exact ((Prod.mk.inj (Sum.inr.inj h)).2).symm
  · exact absurd h (by simp)
theorem pNum_n {b : Nat → Int} {n p q : Nat} {lo hi v : Int} (h : pNum b n lo hi p = .inr (v, q)) : q = tNx b n p := by
  unfold pNum at h
  split at h
  · exact absurd h (by simp)
  · split at h
    · exact absurd h (by simp)
    · exact ((Prod.mk.inj (Sum.inr.inj h)).2).symm
theorem kn_p {b : Nat → Int} {n p q : Nat} {k lo hi v : Int} (hn : n ≤ 1600) (hp : p ≤ n) (h : (bnd (pKw b n k p) fun _ q => pNum b n lo hi q) = .inr (v, q)) : p ≤ q := by
  cases hkw : pKw b n k p with
  | inl f =>
    rw [hkw] at h
    exact absurd h (by simp [bnd])
  | inr x =>
    rw [hkw] at h
    obtain ⟨x1, x2⟩ := x
    have h1 : pNum b n lo hi x2 = .inr (v, q) := h
    have e1 := pKw_n hkw
    have e2 := pNum_n h1
    have t1 := tN_p (b := b) hn hp
    have t2 := tN_p (b := b) hn t1.2.1
    rw [e2, e1]
    omega
theorem m_street {b : Nat → Int} {n p : Nat} {G G1 : GS} {NS : List (List Int)} (h : Q_readStreet G G1) (hp : MP b n G p) (hk : tK b n p ≠ 202) (hk3 : tK b n p ≠ 203) (hN : NmM 0 NS G) (hm : (G.1 66 45).toInt = (NS.length : Int)) : LnM b n p (pStreet b n NS p) G1 (fun x => NmU 0 NS x.1 G G1 ∧ (G1.1 66 45).toInt = (NS.length : Int) + 1 ∧ StM NS.length x.2 G1 ∧ KeM NS.length G G1 ∧ (x.2.length : Int) ≤ 400) := by
  obtain ⟨-, -, -, G4, hnm, r12, G13, ht2, hh⟩ := h
  have ht := tN_p (b := b) hp.1.2.1 hp.2.2.2
  have htp := (ht.2.2 hk3).1
  rcases m_name hnm hp hk hN rfl hm with ⟨f, hf, hmf⟩ | ⟨e1, hp2, hLW, e68⟩
  · have hpo := hmf.pos
    have e := told2_f ht2 hpo
    subst e
    rcases hh with ⟨c, -⟩ | ⟨-, rfl⟩
    · omega
    · exact Or.inl ⟨f, by unfold pStreet; exact bnd_l hf, hmf⟩
  have hU : NmU 0 NS (tL b n (tNx b n p)) G G4 := ⟨hLW, e68⟩
  have hq2 : tNx b n p ≤ n := ht.2.1
  have htn2 := tN_p (b := b) hp.1.2.1 hq2
  rcases m_told2 (i := 11) (by decide) (by decide +kernel) ht2 hp2 with ⟨f, hf, hmf⟩ | ⟨J, p5, e2, hp5, hrJ, hlo, hhi⟩
  · have hpo := hmf.pos
    have hf' : pStreet b n NS p = .inl f := by
      unfold pStreet
      exact (bnd_r e1).trans (kn_eq.trans (bnd_l hf))
    rcases hh with ⟨c, -⟩ | ⟨-, rfl⟩
    · omega
    · exact Or.inl ⟨f, hf', hmf⟩
  have hlo' : 0 ≤ J := hlo
  have hhi' : J ≤ 9 := hhi
  have hq5 : tNx b n (tNx b n p) ≤ p5 := kn_p hp.1.2.1 htn2.2.1 e2
  have hbn : ∀ {β : Type} (K : Int → Nat → Rs β), (bnd (pKw b n 139 (tNx b n (tNx b n p))) fun _ q => bnd (pNum b n 0 9 q) K) = K J p5 := fun K => kn_eq.trans (bnd_r e2)
  have hf13 : (G13.1 66 2).toInt = 0 := hp5.k2
  rcases hh with ⟨-, G19, -, hF19, e81, x24, G20, hl, -, -, -, hF20, hh⟩ | ⟨c, -⟩
  rotate_left
  · omega
  rw [cn_eq hm] at e81
  have hK13 : KeM NS.length G G13 := (KeM.of hnm.2.1 (by decide) (by decide)).tr (KeM.of ht2.2.1 (by decide) (by decide))
  have hK19 : KeM NS.length G G19 := hK13.tr ⟨fun s' q => by rw [e81]; exact if_neg q, fun j q => by rw [hF19.row1 77 (by decide) (by decide), hF19.row1 78 (by decide) (by decide), hF19.row1 79 (by decide) (by decide), hF19.row1 80 (by decide) (by decide)]; exact ⟨rfl, rfl, rfl, rfl⟩⟩
  have h45 : (G19.1 66 45).toInt = (NS.length : Int) := by
    rw [hF19.i 66 45 (by decide) (by decide), ht2.2.1.i 66 45 (by decide) (by decide), hnm.2.1.i 66 45 (by decide) (by decide)]
    exact hm
  have hS19 : StM NS.length [] G19 := ⟨by rw [e81, show upd (G13.1 81) NS.length 0 NS.length = 0 from if_pos rfl]; rfl, fun i hi => absurd hi (Nat.not_lt_zero i)⟩
  have hp19 : MP b n G19 p5 := hp5.fr hF19 (by decide) (by decide) (by decide) (by decide)
  have hU19 : NmU 0 NS (tL b n (tNx b n p)) G G19 := (hU.frl ht2.2.1 (by decide) (by decide)).frl hF19 (by decide) (by decide)
  have hI := hl (fun q => (∃ f, MF f q.2 ∧ pSls b n J p5 = .inl f) ∨ (∃ (nth : Nat) (I : List IC) (p' : Nat), q.1.toInt = (nth : Int) ∧ MP b n q.2 p' ∧ p5 ≤ p' ∧ (q.2.1 66 45).toInt = (NS.length : Int) ∧ StM NS.length I q.2 ∧ KeM NS.length G q.2 ∧ (I.length : Int) ≤ 400 ∧ nth ≤ I.length ∧ ∀ o, Et (slS b n J) (0, [], p5) o ↔ Et (slS b n J) (nth, I, p') o)) (Or.inr ⟨0, [], p5, rfl, hp19, Nat.le_refl _, h45, hS19, hK19, by decide, Nat.le_refl _, fun o => Iff.rfl⟩) (by
    rintro ⟨x1, G_1⟩ ⟨xn, G_1n⟩ hi ⟨x1q, G_1q, xnq, G_1nq, q1, q2, -, -, -, hf0, hd⟩
    obtain ⟨rfl, rfl⟩ := Prod.mk.inj q1
    obtain ⟨rfl, rfl⟩ := Prod.mk.inj q2
    rcases hi with ⟨f, hmf, -⟩ | ⟨nth, I, p', g1, g2, g3, g4, g5, g6, g7, g8, g9⟩
    · exact absurd hf0 (by have := MF.pos (G := G_1) hmf; omega)
    simp only at g1 g2 g4 g5 g6
    have h201 := g2.so.2.1
    have hd2 : (nth = 0 ∨ tK b n p' = 201) ∧ Q_readSlab r12 x1 ((G.1 66 45).toNatClampNeg) G_1 G_1n ∧ xn.toInt = x1.toInt + 1 := by
      rcases hd with ⟨d0, G7, d1, y7, d3, d4, d5⟩ | ⟨d0, d6, G7, d1, y7, d3, d4, d5⟩
      · subst d5
        exact ⟨Or.inl (by clear h201; omega), d1, by rw [← d4]; exact d3⟩
      · subst d5
        refine ⟨Or.inr (h201.mp d6), d1, ?_⟩
        rw [← d4]
        exact tI_add (y := 1) d3 (by have o : (1 : Int32).toInt = 1 := rfl; clear h201; omega) (by have o : (1 : Int32).toInt = 1 := rfl; clear h201; omega)
    clear hd h201
    obtain ⟨hc, d1, d3⟩ := hd2
    rcases m_slab d1 g2 g4 g5 hrJ g1 (by omega) hlo' hhi' with ⟨f, s1, s2⟩ | ⟨vx, p2, s1, s3, s4, s5, s6, s7, s8⟩
    · have hsl : slS b n J (nth, I, p') = .inr (.inl f) := slS_l hc s1
      exact Or.inl ⟨f, s2, run_eq ((g9 _).mpr ((Et_r hsl).mpr rfl))⟩
    · have hsl : slS b n J (nth, I, p') = .inl (nth + 1, I ++ slI J nth vx, p2) := slS_r hc s1
      have hle : nth + 1 ≤ (I ++ slI J nth vx).length := by
        rw [List.length_append, slI_len]
        omega
      refine Or.inr ⟨nth + 1, I ++ slI J nth vx, p2, by show xn.toInt = _; omega, s3, by omega, ?_, s5, g6.tr s6, s8, hle, fun o => (g9 o).trans (Et_i hsl)⟩
      show (G_1n.1 66 45).toInt = _
      rw [d1.2.1.i 66 45 (by decide) (by decide)]
      exact g4)
  rcases hI with ⟨f, hmf, he⟩ | ⟨nth, I, p', g1, g2, g3, g4, g5, g6, g7, g8, g9⟩
  · have hpo : 0 < (G20.1 66 2).toInt := MF.pos hmf
    rcases hh with ⟨c, -⟩ | ⟨-, rfl⟩
    · omega
    · exact Or.inl ⟨f, by unfold pStreet; exact (bnd_r e1).trans ((hbn _).trans (bnd_l he)), hmf⟩
  simp only at g1 g2 g4 g5 g6
  have hf20 : (G20.1 66 2).toInt = 0 := g2.k2
  rcases hh with ⟨-, c0, c2, y52, t52, hFe, e45⟩ | ⟨c, -⟩
  rotate_left
  · omega
  have h201 := g2.so.2.1
  have n201 : tK b n p' ≠ 201 := fun q => c2 (h201.mpr q)
  clear h201
  have hsl : slS b n J (nth, I, p') = .inr (.inr (I, p')) := by
    unfold slS
    rw [if_neg (show ¬ (nth = 0 ∨ tK b n p' = 201) by omega)]
  have hpl : pSls b n J p5 = .inr (I, p') := run_eq ((g9 _).mpr ((Et_r hsl).mpr rfl))
  refine Or.inr ⟨(tL b n (tNx b n p), I), p', by unfold pStreet; exact (bnd_r e1).trans ((hbn _).trans (bnd_r hpl)), g2.fr hFe (by decide) (by decide) (by decide) (by decide), by omega, (hU19.frl hF20 (by decide) (by decide)).frl hFe (by decide) (by decide), by rw [e45]; omega, g5.fr hFe (by decide) (by decide), g6.tr (KeM.of hFe (by decide) (by decide)), g7⟩

/-! the reference's formulas leave earlier code as it was -/
def KpM (f : Nat) (G G1 : GS) : Prop := (∀ j, j < 320 * f → G1.1 69 j = G.1 69 j ∧ G1.1 70 j = G.1 70 j) ∧ ∀ k, k < f → G1.1 71 k = G.1 71 k
theorem KpM.tr {f : Nat} {G G1 G2 : GS} (h : KpM f G G1) (h' : KpM f G1 G2) : KpM f G G2 := ⟨fun j q => ⟨(h'.1 j q).1.trans (h.1 j q).1, (h'.1 j q).2.trans (h.1 j q).2⟩, fun k q => (h'.2 k q).trans (h.2 k q)⟩
theorem KpM.of {f : Nat} {rs : List Nat} {fs : List (Nat × Nat)} {G G1 : GS} (hF : Fr rs fs G G1) (h1 : 69 ∉ rs ∧ 70 ∉ rs ∧ 71 ∉ rs) (h2 : ∀ x ∈ fs, x.1 ≠ 69 ∧ x.1 ≠ 70 ∧ x.1 ≠ 71) : KpM f G G1 := by
  unfold KpM
  rw [hF.row1 69 h1.1 (fun x hx => (h2 x hx).1), hF.row1 70 h1.2.1 (fun x hx => (h2 x hx).2.1), hF.row1 71 h1.2.2 (fun x hx => (h2 x hx).2.2)]
  exact ⟨fun _ _ => ⟨rfl, rfl⟩, fun _ _ => rfl⟩
theorem CodeM.kp {f k : Nat} {C : List (Int × Int)} {G G1 : GS} (h : CodeM k C G) (hK : KpM f G G1) (hk : k < f) (hl : C.length ≤ 320) : CodeM k C G1 := by
  refine ⟨by rw [hK.2 k hk]; exact h.1, fun i hi => ?_⟩
  obtain ⟨e1, e2⟩ := hK.1 (320 * k + i) (by omega)
  rw [e1, e2]
  exact h.2 i hi
theorem kp_add {f : Nat} {s v : Int32} {G G1 : GS} (h : Q_add s v G G1) (hB : Bd G) (hf : (G.1 66 19).toInt = (f : Int)) : KpM f G G1 := by
  obtain ⟨-, -, -, y2, t2, y3, e3, y5, t5, y7, t7, y8, e8, y10, t10, y12, e12, y14, t14, -, e69, e70, e71⟩ := h
  have hb : 0 ≤ (G.1 71 f).toInt := (hB.i 71 f (lo := 0) (hi := 320) rfl rfl).1
  rw [cn_eq hf] at e3 e8 e71
  subst e3
  subst e8
  have c5 := c_nat y5
  have c10 := c_nat y10
  refine ⟨fun j hj => ⟨?_, ?_⟩, fun k hk => ?_⟩
  · rw [e69]
    exact if_neg (by omega)
  · rw [e70]
    exact if_neg (by omega)
  · rw [e71]
    exact if_neg (by omega)
theorem kp_close {f : Nat} {L : Int32} {G G1 : GS} (h : Q_close L G G1) (hf : (G.1 66 19).toInt = (f : Int)) : KpM f G G1 := by
  obtain ⟨-, -, -, G2, hl, -, -, -, -, -, -, -, -, -, -, hh⟩ := h
  have hI := hl (fun q => (q.1 66 19).toInt = (f : Int) ∧ KpM f G q) ⟨hf, fun _ _ => ⟨rfl, rfl⟩, fun _ _ => rfl⟩ (by
    rintro Ga Gb ⟨i1, i2⟩ ⟨Gc, Gd, rfl, rfl, -, -, -, -, -, -, -, -, -, -, y21, -, y22, -, -, y25, -, y26, -, r28, G29, htg, -, y50, -, y52, -, hd⟩
    have e := htg.2.1.nil
    subst e
    rcases hd with ⟨-, G51, hB, hF, -, G82, had, y86, -, hF2, -⟩ | ⟨-, y58, -, G51, hB, hF, -, G64, had, rfl⟩
    · have j1 : (G51.1 66 19).toInt = (f : Int) := by rw [hF.i 66 19 (by decide) (by decide)]; exact i1
      exact ⟨by rw [hF2.i 66 19 (by decide) (by decide), had.2.1.i 66 19 (by decide) (by decide)]; exact j1, ((i2.tr (KpM.of hF (by decide) (by decide))).tr (kp_add had hB j1)).tr (KpM.of hF2 (by decide) (by decide))⟩
    · have j1 : (G51.1 66 19).toInt = (f : Int) := by rw [hF.i 66 19 (by decide) (by decide)]; exact i1
      exact ⟨by rw [had.2.1.i 66 19 (by decide) (by decide)]; exact j1, (i2.tr (KpM.of hF (by decide) (by decide))).tr (kp_add had hB j1)⟩)
  rcases hh with ⟨-, rfl⟩ | ⟨-, y21, -, y22, -, hh⟩
  · exact hI.2
  · rcases hh with ⟨-, rfl⟩ | ⟨-, y25, -, y26, -, r28, G29, htg, -, rfl⟩
    · exact hI.2
    · have e := htg.2.1.nil
      subst e
      exact hI.2
theorem kp_cat {f : Nat} {s v : Int32} {G Gc Gd Ge : GS} (hcu : Q_countUnit G Gc) (had : Q_add s v Gc Gd) (htk : Q_token Gd Ge) (hf : (G.1 66 19).toInt = (f : Int)) : KpM f G Ge := by
  have j1 : (Gc.1 66 19).toInt = (f : Int) := by rw [hcu.2.1.i 66 19 (by decide) (by decide)]; exact hf
  exact ((KpM.of hcu.2.1 (by decide) (by decide)).tr (kp_add had hcu.1 j1)).tr (KpM.of htk.2.1 (by decide) (by decide))
theorem kp_unit {f : Nat} {G G1 : GS} (h : Q_unit G G1) (hf : (G.1 66 19).toInt = (f : Int)) : KpM f G G1 := by
  obtain ⟨-, -, -, x, G3, -, -, -, -, -, -, hF3, G29, -, -, hF29, hh⟩ := h
  have e29 := hF29.nil
  subst e29
  have k3 : KpM f G G3 := KpM.of hF3 (by decide) (by decide)
  have f3 : (G3.1 66 19).toInt = (f : Int) := by rw [hF3.i 66 19 (by decide) (by decide)]; exact hf
  have w : ∀ {Gw : GS}, Q_wrong 2 G3 Gw → KpM f G Gw ∧ (Gw.1 66 19).toInt = (f : Int) := fun hw => ⟨k3.tr (KpM.of hw.2.1 (by decide) (by decide)), by rw [hw.2.1.i 66 19 (by decide) (by decide)]; exact f3⟩
  rcases hh with ⟨-, r34, Ga, hask, hh⟩ | ⟨-, rfl⟩
  rotate_left
  · exact k3
  have ea := hask.2.1.nil
  subst ea
  rcases hh with ⟨-, r42, Gb, hfu, hh⟩ | ⟨-, hh⟩
  · have eb := hfu.2.1.nil
    subst eb
    rcases hh with ⟨-, Gc, hcu, ⟨-, Gd, had, Ge, htk, rfl⟩ | ⟨-, Gd, had, Ge, htk, rfl⟩⟩ | ⟨-, Gc, hwr, ⟨-, Gd, hcu, ⟨-, Ge, had, Gf, htk, rfl⟩ | ⟨-, Ge, had, Gf, htk, rfl⟩⟩ | ⟨-, rfl⟩⟩
    · exact k3.tr (kp_cat hcu had htk f3)
    · exact k3.tr (kp_cat hcu had htk f3)
    · exact (w hwr).1.tr (kp_cat hcu had htk (w hwr).2)
    · exact (w hwr).1.tr (kp_cat hcu had htk (w hwr).2)
    · exact (w hwr).1
  · rcases hh with ⟨-, Gc, hwr, ⟨-, Gd, hcu, Ge, had, Gf, htk, rfl⟩ | ⟨-, rfl⟩⟩ | ⟨-, r45, Gb, hfu, hh⟩
    · exact (w hwr).1.tr (kp_cat hcu had htk (w hwr).2)
    · exact (w hwr).1
    · have eb := hfu.2.1.nil
      subst eb
      rcases hh with ⟨-, Gc, hcu, Gd, had, Ge, htk, rfl⟩ | ⟨-, Gc, hwr, ⟨-, Gd, hcu, Ge, had, Gf, htk, rfl⟩ | ⟨-, rfl⟩⟩
      · exact k3.tr (kp_cat hcu had htk f3)
      · exact (w hwr).1.tr (kp_cat hcu had htk (w hwr).2)
      · exact (w hwr).1
theorem kp_form {f : Nat} {p0 : Int32} {G G1 : GS} (h : Q_formula p0 G G1) (hf : p0.toInt = (f : Int)) : KpM f G G1 := by
  obtain ⟨-, -, -, G5, -, hF5, e19, -, -, -, e71, G21, hun, x, G3, hl, -, -, -, -, -, G48, -, -, hF48, hh⟩ := h
  have f5 : (G5.1 66 19).toInt = (f : Int) := by rw [e19]; exact hf
  have k5 : KpM f G G5 := by
    refine ⟨fun j hj => ?_, fun k hk => ?_⟩
    · rw [hF5.row1 69 (by decide) (by decide), hF5.row1 70 (by decide) (by decide)]
      exact ⟨rfl, rfl⟩
    · rw [e71, cn_eq hf]
      exact if_neg (by omega)
  have hI := hl (fun q => (q.2.1 66 19).toInt = (f : Int) ∧ KpM f G q.2) ⟨by show (G21.1 66 19).toInt = _; rw [hun.2.1.i 66 19 (by decide) (by decide)]; exact f5, k5.tr (kp_unit hun f5)⟩ (by
    rintro ⟨x1, G_1⟩ ⟨xn, G_1n⟩ ⟨i1, i2⟩ ⟨x1q, G_1q, xnq, G_1nq, q1, q2, -, -, -, -, -, -, r1, Ga, hsg, hd⟩
    obtain ⟨rfl, rfl⟩ := Prod.mk.inj q1
    obtain ⟨rfl, rfl⟩ := Prod.mk.inj q2
    have ea := hsg.2.1.nil
    subst ea
    simp only at i1 i2
    rcases hd with ⟨-, r2, Gb, hbr, -, Gc, hcl, y1, -, y2, -, Gd, -, hF, -, -, Ge, htk, -, rfl⟩ | ⟨Gb, -, -, hFb, hd⟩
    · have eb := hbr.2.1.nil
      subst eb
      refine ⟨?_, ((i2.tr (kp_close hcl i1)).tr (KpM.of hF (by decide) (by decide))).tr (KpM.of htk.2.1 (by decide) (by decide))⟩
      show (Ge.1 66 19).toInt = _
      rw [htk.2.1.i 66 19 (by decide) (by decide), hF.i 66 19 (by decide) (by decide), hcl.2.1.i 66 19 (by decide) (by decide)]
      exact i1
    · have eb := hFb.nil
      subst eb
      rcases hd with ⟨-, -, rfl⟩ | ⟨-, r3, Gc, htg, hd⟩
      · exact ⟨i1, i2⟩
      · have ec := htg.2.1.nil
        subst ec
        rcases hd with ⟨-, r4, Gd, hrl', -, -, rfl⟩ | ⟨Gd, -, -, hFd, r4, Ge, htg2, Gf, hcl, y1, -, Gg, -, hF, -, -, Gh, htk, Gi, hun2, -, rfl⟩
        · have ed := hrl'.2.1.nil
          subst ed
          exact ⟨i1, i2⟩
        · have ed := hFd.nil
          subst ed
          have ee := htg2.2.1.nil
          subst ee
          have j1 : (Gh.1 66 19).toInt = (f : Int) := by
            rw [htk.2.1.i 66 19 (by decide) (by decide), hF.i 66 19 (by decide) (by decide), hcl.2.1.i 66 19 (by decide) (by decide)]
            exact i1
          refine ⟨?_, (((i2.tr (kp_close hcl i1)).tr (KpM.of hF (by decide) (by decide))).tr (KpM.of htk.2.1 (by decide) (by decide))).tr (kp_unit hun2 j1)⟩
          show (Gi.1 66 19).toInt = _
          rw [hun2.2.1.i 66 19 (by decide) (by decide)]
          exact j1)
  obtain ⟨i1, i2⟩ := hI
  simp only at i1 i2
  have e48 := hF48.nil
  subst e48
  rcases hh with ⟨-, r, Ga, hbr, hh⟩ | ⟨-, rfl⟩
  · have ea := hbr.2.1.nil
    subst ea
    rcases hh with ⟨-, Gb, hcl, rfl⟩ | ⟨-, Gb, hwr, ⟨-, Gc, hcl, rfl⟩ | ⟨-, rfl⟩⟩
    · exact i2.tr (kp_close hcl i1)
    · exact (i2.tr (KpM.of hwr.2.1 (by decide) (by decide))).tr (kp_close hcl (by rw [hwr.2.1.i 66 19 (by decide) (by decide)]; exact i1))
    · exact i2.tr (KpM.of hwr.2.1 (by decide) (by decide))
  · exact i2

/-! the other lines by the reference -/
theorem MF.fr {f : Int × Int} {rs : List Nat} {fs : List (Nat × Nat)} {G G1 : GS} (h : MF f G) (hF : Fr rs fs G G1) (h1 : 66 ∉ rs) (h2 : (66, 2) ∉ fs ∧ (66, 3) ∉ fs) : MF f G1 := by
  unfold MF at h ⊢
  rw [hF.i 66 2 h1 h2.1, hF.i 66 3 h1 h2.2]
  exact h
theorem takes_f {c : Int64} {r : Int32} {G G1 : GS} (h : Q_takes c G r G1) (hf : 0 < (G.1 66 2).toInt) : r.toInt = 0 ∧ G = G1 := by
  obtain ⟨-, -, -, -, hh⟩ := h
  rcases hh with ⟨c1, -⟩ | ⟨c1, e1, e2⟩
  · omega
  · exact ⟨by rw [← e1]; rfl, e2⟩
def WkM (k : Nat) (x : WK) (G : GS) : Prop := (G.1 82 k).toInt = x.1 ∧ (G.1 83 k).toInt = x.2.1 ∧ (G.1 84 k).toInt = x.2.2.1 ∧ (G.1 85 k).toInt = x.2.2.2
theorem m_walker {b : Nat → Int} {n p : Nat} {G G1 : GS} {NS : List (List Int)} (h : Q_readWalker G G1) (hp : MP b n G p) (hk : tK b n p ≠ 202) (hk3 : tK b n p ≠ 203) (hN : NmM 3 NS G) (hm : (G.1 66 46).toInt = (NS.length : Int)) : LnM b n p (pWalker b n NS p) G1 (fun x => NmU 3 NS x.1 G G1 ∧ (G1.1 66 46).toInt = (NS.length : Int) + 1 ∧ WkM NS.length x.2 G1 ∧ ∀ k, k ≠ NS.length → G1.1 82 k = G.1 82 k ∧ G1.1 83 k = G.1 83 k ∧ G1.1 84 k = G.1 84 k ∧ G1.1 85 k = G.1 85 k) := by
  obtain ⟨-, -, -, G4, hnm, r12, G13, t12, G17, -, hF17, e82, r25, G26, t25, y31, e31, G30, -, hF30, e83, r39, G40, t39, y45, e45, G47, -, hF47, e84, e85, r51, G52, htk, hh⟩ := h
  have hmc := cn_eq hm
  rw [hmc] at e82 e31 e83 e45 e84 e85
  have ht := tN_p (b := b) hp.1.2.1 hp.2.2.2
  have htp := (ht.2.2 hk3).1
  have d4 : ∀ {f : Int × Int}, MF f G47 → MF f G1 := by
    intro f hmf
    obtain ⟨c, rfl⟩ := takes_f htk hmf.pos
    rcases hh with ⟨-, ⟨c2, -⟩ | ⟨-, rfl⟩⟩ | ⟨c2, -⟩
    · exact absurd c2 (by have := hmf.pos; rw [hF47.i 66 2 (by decide) (by decide)] at this; omega)
    · exact hmf
    · omega
  have d3 : ∀ {f : Int × Int}, MF f G30 → MF f G1 := by
    intro f hmf
    have e := told2_f t39 hmf.pos
    subst e
    exact d4 (hmf.fr hF47 (by decide) (by decide))
  have d2 : ∀ {f : Int × Int}, MF f G17 → MF f G1 := by
    intro f hmf
    have e := told2_f t25 hmf.pos
    subst e
    exact d3 (hmf.fr hF30 (by decide) (by decide))
  have d1 : ∀ {f : Int × Int}, MF f G4 → MF f G1 := by
    intro f hmf
    have e := told2_f t12 hmf.pos
    subst e
    exact d2 (hmf.fr hF17 (by decide) (by decide))
  rcases m_name hnm hp hk hN rfl hm with ⟨f, hf, hmf⟩ | ⟨e1, hp2, hLW, e68⟩
  · exact Or.inl ⟨f, by unfold pWalker; exact bnd_l hf, d1 hmf⟩
  have ht1 := tN_p (b := b) hp.1.2.1 ht.2.1
  rcases m_told2 (i := 2) (by decide) (by decide +kernel) t12 hp2 with ⟨f, hf, hmf⟩ | ⟨v1, p3, e2, hp3, hr12, -, -⟩
  · exact Or.inl ⟨f, by unfold pWalker; exact (bnd_r e1).trans (kn_eq.trans (bnd_l hf)), d2 (hmf.fr hF17 (by decide) (by decide))⟩
  have l3 := kn_p hp.1.2.1 ht1.2.1 e2
  replace hp3 := hp3.fr hF17 (by decide) (by decide) (by decide) (by decide)
  rcases m_told2 (i := 3) (by decide) (by decide +kernel) t25 hp3 with ⟨f, hf, hmf⟩ | ⟨v2, p4, e3, hp4, hr25, lo4, hi4⟩
  · exact Or.inl ⟨f, by unfold pWalker; exact (bnd_r e1).trans (kn_eq.trans ((bnd_r e2).trans (kn_eq.trans (bnd_l hf)))), d3 (hmf.fr hF30 (by decide) (by decide))⟩
  have l4 := kn_p hp3.1.2.1 hp3.2.2.2 e3
  replace hp4 := hp4.fr hF30 (by decide) (by decide) (by decide) (by decide)
  have h31 : y31.toInt = v2 := by
    rw [e31, show upd (G26.1 83) NS.length r25 NS.length = r25 from if_pos rfl]
    exact hr25
  have o4 := m_told2 (i := 4) (by decide) (by decide +kernel) t39 hp4
  rw [h31] at o4
  rcases o4 with ⟨f, hf, hmf⟩ | ⟨v3, p5, e4, hp5, hr39, lo5, hi5⟩
  · exact Or.inl ⟨f, by unfold pWalker; exact (bnd_r e1).trans (kn_eq.trans ((bnd_r e2).trans (kn_eq.trans ((bnd_r e3).trans (kn_eq.trans (bnd_l hf)))))), d4 (hmf.fr hF47 (by decide) (by decide))⟩
  have l5 := kn_p hp4.1.2.1 hp4.2.2.2 e4
  have hf40 : (G40.1 66 2).toInt = 0 := hp5.k2
  replace hp5 := hp5.fr hF47 (by decide) (by decide) (by decide) (by decide)
  have h45 : y45.toInt = v3 := by
    rw [e45, show upd (G40.1 84) NS.length r39 NS.length = r39 from if_pos rfl]
    exact hr39
  have e5 : pWalker b n NS p = (if tK b n p5 = 133 then bnd (pNum b n (v3 + 1) 99 (tNx b n p5)) fun v q => .inr ((tL b n (tNx b n p), v1, v2, v3, v), q) else .inr ((tL b n (tNx b n p), v1, v2, v3, v3), p5)) := by
    unfold pWalker
    exact (bnd_r e1).trans (kn_eq.trans ((bnd_r e2).trans (kn_eq.trans ((bnd_r e3).trans (kn_eq.trans (bnd_r e4))))))
  have hU4 : NmU 3 NS (tL b n (tNx b n p)) G G4 := ⟨hLW, e68⟩
  have hU47 : NmU 3 NS (tL b n (tNx b n p)) G G47 := (((((hU4.frl t12.2.1 (by decide) (by decide)).frl hF17 (by decide) (by decide)).frl t25.2.1 (by decide) (by decide)).frl hF30 (by decide) (by decide)).frl t39.2.1 (by decide) (by decide)).frl hF47 (by decide) (by decide)
  have b0 : ∀ i, i = 82 ∨ i = 83 ∨ i = 84 ∨ i = 85 → G4.1 i = G.1 i ∧ G13.1 i = G4.1 i ∧ G26.1 i = G17.1 i ∧ G40.1 i = G30.1 i ∧ G52.1 i = G47.1 i := by
    intro i hi
    rcases hi with rfl | rfl | rfl | rfl <;> exact ⟨hnm.2.1.row1 _ (by decide) (by decide), t12.2.1.row1 _ (by decide) (by decide), t25.2.1.row1 _ (by decide) (by decide), t39.2.1.row1 _ (by decide) (by decide), htk.2.1.row1 _ (by decide) (by decide)⟩
  have r2 : G52.1 82 = upd (G.1 82) NS.length r12 := by
    obtain ⟨a1, a2, a3, a4, a5⟩ := b0 82 (Or.inl rfl)
    rw [a5, hF47.row1 82 (by decide) (by decide), a4, hF30.row1 82 (by decide) (by decide), a3, e82, a2, a1]
  have r3 : G52.1 83 = upd (G.1 83) NS.length r25 := by
    obtain ⟨a1, a2, a3, a4, a5⟩ := b0 83 (Or.inr (Or.inl rfl))
    rw [a5, hF47.row1 83 (by decide) (by decide), a4, e83, a3, hF17.row1 83 (by decide) (by decide), a2, a1]
  have r4 : G52.1 84 = upd (G.1 84) NS.length r39 := by
    obtain ⟨a1, a2, a3, a4, a5⟩ := b0 84 (Or.inr (Or.inr (Or.inl rfl)))
    rw [a5, e84, a4, hF30.row1 84 (by decide) (by decide), a3, hF17.row1 84 (by decide) (by decide), a2, a1]
  have r5 : G52.1 85 = upd (G.1 85) NS.length y45 := by
    obtain ⟨a1, a2, a3, a4, a5⟩ := b0 85 (Or.inr (Or.inr (Or.inr rfl)))
    rw [a5, e85, a4, hF30.row1 85 (by decide) (by decide), a3, hF17.row1 85 (by decide) (by decide), a2, a1]
  have h46 : (G52.1 66 46).toInt = (NS.length : Int) := by
    rw [htk.2.1.i 66 46 (by decide) (by decide), hF47.i 66 46 (by decide) (by decide), t39.2.1.i 66 46 (by decide) (by decide), hF30.i 66 46 (by decide) (by decide), t25.2.1.i 66 46 (by decide) (by decide), hF17.i 66 46 (by decide) (by decide), t12.2.1.i 66 46 (by decide) (by decide), hnm.2.1.i 66 46 (by decide) (by decide)]
    exact hm
  have up : ∀ {Gz : GS} {v : Int32} {lv : Int}, Gz.1 82 = G52.1 82 → Gz.1 83 = G52.1 83 → Gz.1 84 = G52.1 84 → Gz.1 85 = upd (G.1 85) NS.length v → v.toInt = lv → WkM NS.length (v1, v2, v3, lv) Gz ∧ ∀ k, k ≠ NS.length → Gz.1 82 k = G.1 82 k ∧ Gz.1 83 k = G.1 83 k ∧ Gz.1 84 k = G.1 84 k ∧ Gz.1 85 k = G.1 85 k := by
    intro Gz v lv z2 z3 z4 z5 hv
    have own : ∀ (g : Nat → Int32) (x : Int32), upd g NS.length x NS.length = x := fun g x => if_pos rfl
    refine ⟨⟨?_, ?_, ?_, ?_⟩, fun k hk2 => ⟨?_, ?_, ?_, ?_⟩⟩
    · rw [z2, r2, own]
      exact hr12
    · rw [z3, r3, own]
      exact hr25
    · rw [z4, r4, own]
      exact hr39
    · rw [z5, own]
      exact hv
    · rw [z2, r2]
      exact if_neg hk2
    · rw [z3, r3]
      exact if_neg hk2
    · rw [z4, r4]
      exact if_neg hk2
    · rw [z5]
      exact if_neg hk2
  rcases m_takes (i := 5) (by decide) (by decide +kernel) htk hp5 with ⟨hr, hn5, rfl⟩ | ⟨hr, hk5, hp6⟩
  · have n133 : tK b n p5 ≠ 133 := hn5
    rw [if_neg n133] at e5
    rcases hh with ⟨-, ⟨-, y63, t63, hFe, e46⟩ | ⟨c, -⟩⟩ | ⟨c, -⟩
    · obtain ⟨u1, u2⟩ := up (Gz := G1) (hFe.row1 82 (by decide) (by decide)) (hFe.row1 83 (by decide) (by decide)) (hFe.row1 84 (by decide) (by decide)) ((hFe.row1 85 (by decide) (by decide)).trans r5) h45
      exact Or.inr ⟨_, p5, e5, hp5.fr hFe (by decide) (by decide) (by decide) (by decide), by omega, hU47.frl hFe (by decide) (by decide), by rw [e46]; omega, u1, u2⟩
    · exact absurd hf40 c
    · exact absurd hr c
  · have k133 : tK b n p5 = 133 := hk5
    rw [if_pos k133] at e5
    have t5 := tN_p (b := b) hp5.1.2.1 hp5.2.2.2
    rcases hh with ⟨c, -⟩ | ⟨-, y70, e70, y72, e72, r78, G79, t78, hh⟩
    · omega
    have h70 : y70.toInt = v3 := by
      rw [e70, hmc, r4, show upd (G.1 84) NS.length r39 NS.length = r39 from if_pos rfl]
      exact hr39
    have hi5' : v3 ≤ 60 := hi5
    have lo5' : v2 ≤ v3 := lo5
    have lo4' : 1 ≤ v2 := lo4
    have h72 : y72.toInt = v3 + 1 := xI_add (Y := 1) h70 rfl e72 (by omega) (by omega)
    have o6 := m_told t78 hp6
    rw [h72] at o6
    have t6 := tN_p (b := b) hp6.1.2.1 hp6.2.2.2
    rcases o6 with ⟨f, hf, hmf⟩ | ⟨e6, hp7, hr78, -, -⟩
    · refine Or.inl ⟨f, e5.trans (bnd_l hf), ?_⟩
      rcases hh with ⟨c, -⟩ | ⟨-, hFe, -⟩
      · exact absurd c (by have := hmf.pos; omega)
      · exact hmf.fr hFe (by decide) (by decide)
    · have hf79 : (G79.1 66 2).toInt = 0 := hp7.k2
      rcases hh with ⟨-, y90, t90, hFe, e46, e85'⟩ | ⟨c, -⟩
      · rw [hmc, t78.2.1.row1 85 (by decide) (by decide), r5] at e85'
        have e85'' : G1.1 85 = upd (G.1 85) NS.length r78 := by
          rw [e85']
          funext j
          unfold upd
          by_cases hj : j = NS.length
          · rw [if_pos hj, if_pos hj]
          · rw [if_neg hj, if_neg hj, if_neg hj]
        obtain ⟨u1, u2⟩ := up (Gz := G1) ((hFe.row1 82 (by decide) (by decide)).trans (t78.2.1.row1 82 (by decide) (by decide))) ((hFe.row1 83 (by decide) (by decide)).trans (t78.2.1.row1 83 (by decide) (by decide))) ((hFe.row1 84 (by decide) (by decide)).trans (t78.2.1.row1 84 (by decide) (by decide))) e85'' hr78
        exact Or.inr ⟨_, _, e5.trans (bnd_r e6), hp7.fr hFe (by decide) (by decide) (by decide) (by decide), by omega, ((hU47.frl htk.2.1 (by decide) (by decide)).frl t78.2.1 (by decide) (by decide)).frl hFe (by decide) (by decide), by rw [e46]; omega, u1, u2⟩
      · exact absurd hf79 c
def SlpM (o : Option (Int × Int × Int)) (G : GS) : Prop := (G.1 86 0).toInt = (o.getD (0, 1, 0)).1 ∧ (G.1 86 1).toInt = (o.getD (0, 1, 0)).2.1 ∧ (G.1 86 2).toInt = (o.getD (0, 1, 0)).2.2
theorem m_slip {b : Nat → Int} {n p : Nat} {G G1 : GS} (h : Q_readSlip G G1) (hp : MP b n G p) (hk : tK b n p ≠ 202) (hk3 : tK b n p ≠ 203) : LnM b n p (pSlip b n p) G1 (fun x => SlpM (some x) G1) := by
  obtain ⟨-, -, -, G2, htk, r11, G12, t11, G16, -, hF16, w16, r24, G25, t24, y30, e30, y32, e32, y34, e34, hh⟩ := h
  have ht := tN_p (b := b) hp.1.2.1 hp.2.2.2
  have htp := (ht.2.2 hk3).1
  have z0 : (0 : Int32).toNatClampNeg = 0 := rfl
  have z1 : (1 : Int32).toNatClampNeg = 1 := rfl
  have z2 : (2 : Int32).toNatClampNeg = 2 := rfl
  rw [z0] at w16 e30
  rw [z1] at e30 e32
  have d3 : ∀ {f : Int × Int}, MF f G25 → MF f G1 := by
    intro f hmf
    rcases hh with ⟨-, G29, -, hF29, -, r65, G66, t65, hFe, -⟩ | ⟨-, G29, -, hF29, -, r65, G66, t65, hFe, -⟩
    · have hm2 := hmf.fr hF29 (by decide) (by decide)
      have e := told_f t65 hm2.pos
      subst e
      exact hm2.fr hFe (by decide) (by decide)
    · have hm2 := hmf.fr hF29 (by decide) (by decide)
      have e := told_f t65 hm2.pos
      subst e
      exact hm2.fr hFe (by decide) (by decide)
  have d2 : ∀ {f : Int × Int}, MF f G16 → MF f G1 := by
    intro f hmf
    have e := told_f t24 hmf.pos
    subst e
    exact d3 hmf
  have hp2 := m_next htk hp hk
  rcases m_told t11 hp2 with ⟨f, hf, hmf⟩ | ⟨e1, hp3, hr11, lo1, hi1⟩
  · exact Or.inl ⟨f, by unfold pSlip; exact bnd_l hf, d2 (hmf.fr hF16 (by decide) (by decide))⟩
  have t2 := tN_p (b := b) hp2.1.2.1 hp2.2.2.2
  replace hp3 := hp3.fr hF16 (by decide) (by decide) (by decide) (by decide)
  rcases m_told t24 hp3 with ⟨f, hf, hmf⟩ | ⟨e2, hp4, hr24, lo2, hi2⟩
  · exact Or.inl ⟨f, by unfold pSlip; exact (bnd_r e1).trans (bnd_l hf), d3 hmf⟩
  have t3 := tN_p (b := b) hp3.1.2.1 hp3.2.2.2
  have t4 := tN_p (b := b) hp4.1.2.1 hp4.2.2.2
  have lo1' : 0 ≤ tV b n (tNx b n p) := lo1
  have hi1' : tV b n (tNx b n p) ≤ 9 := hi1
  have lo2' : 0 ≤ tV b n (tNx b n (tNx b n p)) := lo2
  have hi2' : tV b n (tNx b n (tNx b n p)) ≤ 9 := hi2
  have r25 : G25.1 86 = upd (G12.1 86) 0 r11 := by rw [t24.2.1.row1 86 (by decide) (by decide), w16]
  have h30 : y30.toInt = tV b n (tNx b n p) := by
    rw [e30, show upd (G25.1 86) 1 r24 0 = G25.1 86 0 from if_neg (by decide), r25, show upd (G12.1 86) 0 r11 0 = r11 from if_pos rfl]
    exact hr11
  have h32 : y32.toInt = tV b n (tNx b n (tNx b n p)) := by
    rw [e32, show upd (G25.1 86) 1 r24 1 = r24 from if_pos rfl]
    exact hr24
  have h34 : y34.toInt = tV b n (tNx b n p) + tV b n (tNx b n (tNx b n p)) := xI_add h30 h32 e34 (by omega) (by omega)
  have fin : ∀ {lo r65 : Int32} {G29 G66 : GS}, lo.toInt = (if tV b n (tNx b n p) + tV b n (tNx b n (tNx b n p)) = 0 then 1 else 0) → Fr [86] [] G25 G29 → G29.1 86 = upd (G25.1 86) 1 r24 → Q_told lo 9 G29 r65 G66 → Fr [86] [] G66 G1 → G1.1 86 = upd (G66.1 86) 2 r65 → LnM b n p (pSlip b n p) G1 (fun x => SlpM (some x) G1) := by
    intro lo r65 G29 G66 hlo hF29 w29 t65 hFe we
    have o := m_told t65 (hp4.fr hF29 (by decide) (by decide) (by decide) (by decide))
    rw [hlo] at o
    rcases o with ⟨f, hf, hmf⟩ | ⟨e3, hp5, hr65, -, -⟩
    · exact Or.inl ⟨f, by unfold pSlip; exact (bnd_r e1).trans ((bnd_r e2).trans (bnd_l hf)), hmf.fr hFe (by decide) (by decide)⟩
    · refine Or.inr ⟨_, _, by unfold pSlip; exact (bnd_r e1).trans ((bnd_r e2).trans (bnd_r e3)), hp5.fr hFe (by decide) (by decide) (by decide) (by decide), by omega, ?_, ?_, ?_⟩
      · rw [we, show upd (G66.1 86) 2 r65 0 = G66.1 86 0 from if_neg (by decide), t65.2.1.row1 86 (by decide) (by decide), w29, show upd (G25.1 86) 1 r24 0 = G25.1 86 0 from if_neg (by decide), r25, show upd (G12.1 86) 0 r11 0 = r11 from if_pos rfl]
        exact hr11
      · rw [we, show upd (G66.1 86) 2 r65 1 = G66.1 86 1 from if_neg (by decide), t65.2.1.row1 86 (by decide) (by decide), w29, show upd (G25.1 86) 1 r24 1 = r24 from if_pos rfl]
        exact hr24
      · rw [we, show upd (G66.1 86) 2 r65 2 = r65 from if_pos rfl]
        exact hr65
  rcases hh with ⟨c, G29, -, hF29, w29, r65, G66, t65, hFe, we⟩ | ⟨c, G29, -, hF29, w29, r65, G66, t65, hFe, we⟩
  · exact fin (by rw [if_pos (by omega)]; rfl) hF29 w29 t65 hFe we
  · exact fin (by rw [if_neg (by omega)]; rfl) hF29 w29 t65 hFe we
theorem m_rule {b : Nat → Int} {n p : Nat} {G G1 : GS} {NS : List (List Int)} {w : Int} (h : Q_readRule G G1) (hp : MP b n G p) (hk : tK b n p ≠ 202) (hk3 : tK b n p ≠ 203) (hN : NmM 7 NS G) (hm : (G.1 66 47).toInt = (NS.length : Int)) (hw : (G.1 66 21).toInt = w) (hw0 : 0 ≤ w) (hw9 : w ≤ 90) : LnM b n p (pRule b n NS w p) G1 (fun x => NmU 7 NS x.1 G G1 ∧ (G1.1 66 47).toInt = (NS.length : Int) + 1 ∧ (G1.1 66 21).toInt = x.2.2 ∧ 0 ≤ x.2.2 ∧ x.2.2 ≤ 90 ∧ CodeM NS.length x.2.1 G1 ∧ KpM NS.length G G1) := by
  obtain ⟨-, -, -, G4, hnm, hh⟩ := h
  have ht := tN_p (b := b) hp.1.2.1 hp.2.2.2
  have htp := (ht.2.2 hk3).1
  rcases m_name hnm hp hk hN rfl hm with ⟨f, hf, hmf⟩ | ⟨e1, hp2, hLW, e68⟩
  · have hpo := hmf.pos
    rcases hh with ⟨c, -⟩ | ⟨-, rfl⟩
    · omega
    · exact Or.inl ⟨f, by unfold pRule; exact bnd_l hf, hmf⟩
  have hf4 : (G4.1 66 2).toInt = 0 := hp2.k2
  have ht1 := tN_p (b := b) hp.1.2.1 ht.2.1
  rcases hh with ⟨-, G14, hfo, hh⟩ | ⟨c, -⟩
  rotate_left
  · omega
  have h21 : (G4.1 66 21).toInt = w := by
    rw [hnm.2.1.i 66 21 (by decide) (by decide)]
    exact hw
  rcases m_form hfo hp2 hm h21 hw0 hw9 with ⟨f, hmf, hev⟩ | ⟨p', C', u', w', hp3, hC, h21', hw0', hw9', hpp, hev⟩
  · have hpo := hmf.pos
    rcases hh with ⟨c, -⟩ | ⟨-, rfl⟩
    · omega
    · exact Or.inl ⟨f, by unfold pRule; exact (bnd_r e1).trans (bnd_l (pForm_l hev)), hmf⟩
  · have hf14 : (G14.1 66 2).toInt = 0 := hp3.k2
    rcases hh with ⟨-, y23, t23, hFe, e47⟩ | ⟨c, -⟩
    · have hU : NmU 7 NS (tL b n (tNx b n p)) G G4 := ⟨hLW, e68⟩
      exact Or.inr ⟨(tL b n (tNx b n p), C', w'), p', by unfold pRule; exact (bnd_r e1).trans (bnd_r (pForm_r hev)), hp3.fr hFe (by decide) (by decide) (by decide) (by decide), by omega, (hU.frl hfo.2.1 (by decide) (by decide)).frl hFe (by decide) (by decide), by rw [e47]; omega, by rw [hFe.i 66 21 (by decide) (by decide)]; exact h21', hw0', hw9', hC.fr hFe (by decide) (by decide), ((KpM.of hnm.2.1 (by decide) (by decide)).tr (kp_form hfo hm)).tr (KpM.of hFe (by decide) (by decide))⟩
    · exact absurd hf14 c
theorem kn_go {b : Nat → Int} {n p : Nat} {k lo hi : Int} (h : tK b n p = k) : (bnd (pKw b n k p) fun _ q => pNum b n lo hi q) = pNum b n lo hi (tNx b n p) := by
  have : pKw b n k p = .inr ((), tNx b n p) := by
    unfold pKw
    rw [if_pos h]
  exact bnd_r this
theorem m_once {b : Nat → Int} {n p i : Nat} {G G1 : GS} {c : Int64} {k r : Int32} (hi : i < 23) (hc : w8 (KW.getD i []) = c) (h : Q_isOnce c k G r G1) (hp : MP b n G p) : G = G1 ∧ (r.toInt ≠ 0 ↔ (tK b n p = 128 + (i : Int) ∧ (G.1 66 51 &&& k).toInt = 0)) := by
  obtain ⟨-, hF, -, -, r1, G2, hw, hh⟩ := h
  obtain ⟨rfl, hr⟩ := m_isWord hi hc hw hp
  refine ⟨hF.nil, ?_⟩
  rcases hh with ⟨c1, e, -⟩ | ⟨c1, y8, e8, ⟨c2, e, -⟩ | ⟨c2, e, -⟩⟩
  · subst e
    exact ⟨fun q => absurd rfl q, fun q => absurd c1 (hr.mpr q.1)⟩
  · subst e
    rw [e8] at c2
    exact ⟨fun _ => ⟨hr.mp c1, c2⟩, fun _ => by decide⟩
  · subst e
    rw [e8] at c2
    exact ⟨fun q => absurd rfl q, fun q => absurd q.2 c2⟩
def onb (s h d : Bool) : Int32 := (if s = true then (0 : Int32) else 1) ||| ((if h = true then (0 : Int32) else 2) ||| (if d = true then (0 : Int32) else 4))
theorem onb_1 : ∀ s h d : Bool, ((onb s h d &&& 1).toInt = 0 ↔ s = true) ∧ ((onb s h d &&& 2).toInt = 0 ↔ h = true) ∧ ((onb s h d &&& 4).toInt = 0 ↔ d = true) ∧ onb s h d ||| 1 = onb false h d ∧ onb s h d ||| 2 = onb s false d ∧ onb s h d ||| 4 = onb s h false := by decide

/-! the whole text by the reference -/
def StsM (S : VS) (G : GS) : Prop := (G.1 66 45).toInt = (S.length : Int) ∧ S.length ≤ 3 ∧ NmM 0 (nms S) G ∧ ∀ s, s < S.length → StM s (S.getD s ([], [])).2 G ∧ ((S.getD s ([], [])).2.length : Int) ≤ 400
def WksM (W : VW) (G : GS) : Prop := (G.1 66 46).toInt = (W.length : Int) ∧ W.length ≤ 4 ∧ NmM 3 (nms W) G ∧ ∀ k, k < W.length → WkM k (W.getD k ([], 0, 0, 0, 0)).2 G
def RlsM (R : VR) (w : Int) (G : GS) : Prop := (G.1 66 47).toInt = (R.length : Int) ∧ R.length ≤ 6 ∧ NmM 7 (nms R) G ∧ (G.1 66 21).toInt = w ∧ 0 ≤ w ∧ w ≤ 90 ∧ ∀ k, k < R.length → CodeM k (R.getD k ([], [])).2 G ∧ (R.getD k ([], [])).2.length ≤ 320
def HndM (o : Option (Int × Int)) (G : GS) : Prop := (G.1 66 48).toInt = (o.getD (30, 10)).1 ∧ (G.1 66 49).toInt = (o.getD (30, 10)).2
def DrwM (o : Option Int) (G : GS) : Prop := (G.1 66 50).toInt = o.getD 0
def MV (V : PV) (G : GS) : Prop := StsM V.1 G ∧ WksM V.2.1 G ∧ RlsM V.2.2.1 V.2.2.2.1 G ∧ SlpM V.2.2.2.2.1 G ∧ HndM V.2.2.2.2.2.1 G ∧ DrwM V.2.2.2.2.2.2 G ∧ G.1 66 51 = onb V.2.2.2.2.1.isNone V.2.2.2.2.2.1.isNone V.2.2.2.2.2.2.isNone
abbrev NoS (rs : List Nat) (fs : List (Nat × Nat)) : Prop := (66 ∉ rs ∧ 77 ∉ rs ∧ 78 ∉ rs ∧ 79 ∉ rs ∧ 80 ∉ rs ∧ 81 ∉ rs) ∧ (66, 45) ∉ fs ∧ ∀ x ∈ fs, x.1 ≠ 77 ∧ x.1 ≠ 78 ∧ x.1 ≠ 79 ∧ x.1 ≠ 80 ∧ x.1 ≠ 81
theorem StsM.fr {S : VS} {rs : List Nat} {fs : List (Nat × Nat)} {G G1 : GS} (h : StsM S G) (hF : Fr rs fs G G1) (hN : NmM 0 (nms S) G1) (h1 : 66 ∉ rs) (h2 : 77 ∉ rs ∧ 78 ∉ rs ∧ 79 ∉ rs ∧ 80 ∉ rs ∧ 81 ∉ rs) (h3 : (66, 45) ∉ fs) (h4 : ∀ x ∈ fs, x.1 ≠ 77 ∧ x.1 ≠ 78 ∧ x.1 ≠ 79 ∧ x.1 ≠ 80 ∧ x.1 ≠ 81) : StsM S G1 := by
  obtain ⟨a1, a2, -, a4⟩ := h
  exact ⟨by rw [hF.i 66 45 h1 h3]; exact a1, a2, hN, fun s hs => ⟨(a4 s hs).1.fr hF h2 h4, (a4 s hs).2⟩⟩
theorem WksM.fr {W : VW} {rs : List Nat} {fs : List (Nat × Nat)} {G G1 : GS} (h : WksM W G) (hF : Fr rs fs G G1) (hN : NmM 3 (nms W) G1) (h1 : 66 ∉ rs) (h2 : 82 ∉ rs ∧ 83 ∉ rs ∧ 84 ∉ rs ∧ 85 ∉ rs) (h3 : (66, 46) ∉ fs) (h4 : ∀ x ∈ fs, x.1 ≠ 82 ∧ x.1 ≠ 83 ∧ x.1 ≠ 84 ∧ x.1 ≠ 85) : WksM W G1 := by
  obtain ⟨a1, a2, -, a4⟩ := h
  refine ⟨by rw [hF.i 66 46 h1 h3]; exact a1, a2, hN, fun k hk => ?_⟩
  have h5 := a4 k hk
  unfold WkM at h5 ⊢
  rw [hF.row1 82 h2.1 (fun x hx => (h4 x hx).1), hF.row1 83 h2.2.1 (fun x hx => (h4 x hx).2.1), hF.row1 84 h2.2.2.1 (fun x hx => (h4 x hx).2.2.1), hF.row1 85 h2.2.2.2 (fun x hx => (h4 x hx).2.2.2)]
  exact h5
theorem RlsM.fr {R : VR} {w : Int} {rs : List Nat} {fs : List (Nat × Nat)} {G G1 : GS} (h : RlsM R w G) (hF : Fr rs fs G G1) (hN : NmM 7 (nms R) G1) (h1 : 66 ∉ rs) (h3 : (66, 47) ∉ fs ∧ (66, 21) ∉ fs) (h5 : 69 ∉ rs ∧ 70 ∉ rs ∧ 71 ∉ rs) (h6 : ∀ x ∈ fs, x.1 ≠ 69 ∧ x.1 ≠ 70 ∧ x.1 ≠ 71) : RlsM R w G1 := by
  obtain ⟨a1, a2, -, a4, a5, a6, a7⟩ := h
  exact ⟨by rw [hF.i 66 47 h1 h3.1]; exact a1, a2, hN, by rw [hF.i 66 21 h1 h3.2]; exact a4, a5, a6, fun k hk => ⟨(a7 k hk).1.fr hF h5 h6, (a7 k hk).2⟩⟩
theorem SlpM.fr {o : Option (Int × Int × Int)} {rs : List Nat} {fs : List (Nat × Nat)} {G G1 : GS} (h : SlpM o G) (hF : Fr rs fs G G1) (h1 : 86 ∉ rs) (h2 : ∀ x ∈ fs, x.1 ≠ 86) : SlpM o G1 := by
  unfold SlpM at h ⊢
  rw [hF.row1 86 h1 h2]
  exact h
theorem HndM.fr {o : Option (Int × Int)} {rs : List Nat} {fs : List (Nat × Nat)} {G G1 : GS} (h : HndM o G) (hF : Fr rs fs G G1) (h1 : 66 ∉ rs) (h2 : (66, 48) ∉ fs ∧ (66, 49) ∉ fs) : HndM o G1 := by
  unfold HndM at h ⊢
  rw [hF.i 66 48 h1 h2.1, hF.i 66 49 h1 h2.2]
  exact h
theorem DrwM.fr {o : Option Int} {rs : List Nat} {fs : List (Nat × Nat)} {G G1 : GS} (h : DrwM o G) (hF : Fr rs fs G G1) (h1 : 66 ∉ rs) (h2 : (66, 50) ∉ fs) : DrwM o G1 := by
  unfold DrwM at h ⊢
  rw [hF.i 66 50 h1 h2]
  exact h
/-- a step that touches TOKENS alone -/
theorem MV.tok {V : PV} {G G1 : GS} (h : MV V G) (hF : Fr [] [(66, 4), (66, 6), (66, 7), (66, 8), (66, 9)] G G1) : MV V G1 := by
  obtain ⟨a1, a2, a3, a4, a5, a6, a7⟩ := h
  exact ⟨a1.fr hF (a1.2.2.1.fr hF (by decide) (by decide)) (by decide) (by decide) (by decide) (by decide), a2.fr hF (a2.2.2.1.fr hF (by decide) (by decide)) (by decide) (by decide) (by decide) (by decide), a3.fr hF (a3.2.2.1.fr hF (by decide) (by decide)) (by decide) (by decide) (by decide) (by decide), a4.fr hF (by decide) (by decide), a5.fr hF (by decide) (by decide), a6.fr hF (by decide) (by decide), by rw [hF.i 66 51 (by decide) (by decide)]; exact a7⟩
def RdM (b : Nat → Int) (n : Nat) (V : PV) (p : Nat) (G1 : GS) : Prop := (∃ f, pLn b n V p = .inl f ∧ MF f G1) ∨ (∃ V' p', pLn b n V p = .inr (V', p') ∧ MP b n G1 p' ∧ p < p' ∧ MV V' G1)
theorem RdM.of {α : Type} {b : Nat → Int} {n : Nat} {V : PV} {p : Nat} {G1 : GS} {o : Rs α} {F : α → PV} (e0 : pLn b n V p = bnd o fun x q => .inr (F x, q)) (h : LnM b n p o G1 (fun x => MV (F x) G1)) : RdM b n V p G1 := by
  rcases h with ⟨f, e, hm⟩ | ⟨x, p', e, hp, hlt, hV⟩
  · exact Or.inl ⟨f, e0.trans (bnd_l e), hm⟩
  · exact Or.inr ⟨F x, p', e0.trans (bnd_r e), hp, hlt, hV⟩
theorem LnM.imp {α : Type} {b : Nat → Int} {n p : Nat} {o : Rs α} {G1 : GS} {K K' : α → Prop} (h : LnM b n p o G1 K) (hK : ∀ x, K x → K' x) : LnM b n p o G1 K' := by
  rcases h with ⟨f, e, hm⟩ | ⟨x, p', e, hp, hlt, hV⟩
  · exact Or.inl ⟨f, e, hm⟩
  · exact Or.inr ⟨x, p', e, hp, hlt, hK x hV⟩
theorem m_ln1 {b : Nat → Int} {n p : Nat} {G Gx G1 : GS} {V : PV} (h : Q_readStreet G Gx) (htl : TlM Gx G1) (hp : MP b n G p) (hk : tK b n p = 128) (hl : V.1.length < 3) (hV : MV V G) : RdM b n V p G1 := by
  refine RdM.of (pLn_1 hk hl) (m_semi (m_street h hp (by omega) (by omega) hV.1.2.2.1 (by rw [nms_len]; exact hV.1.1)) htl (fun x hFz hx => ?_))
  obtain ⟨k1, k2, k3, k4, k5⟩ := hx
  rw [nms_len] at k2 k3 k4
  obtain ⟨a1, a2, a3, a4, a5, a6, a7⟩ := hV
  have hF := h.2.1
  refine MV.tok (V := (V.1 ++ [x], V.2)) ⟨⟨?_, ?_, ?_, fun s hs => ?_⟩, a2.fr hF (k1.oth a2.2.2.1 (Or.inl (by rw [nms_len]; omega))) (by decide) (by decide) (by decide) (by decide), a3.fr hF (k1.oth a3.2.2.1 (Or.inl (by rw [nms_len]; omega))) (by decide) (by decide) (by decide) (by decide), a4.fr hF (by decide) (by decide), a5.fr hF (by decide) (by decide), a6.fr hF (by decide) (by decide), by rw [hF.i 66 51 (by decide) (by decide)]; exact a7⟩ hFz
  · rw [k2]
    show (V.1.length : Int) + 1 = ((V.1 ++ [x]).length : Int)
    rw [List.length_append, List.length_singleton]
    omega
  · show (V.1 ++ [x]).length ≤ 3
    rw [List.length_append, List.length_singleton]
    omega
  · show NmM 0 (nms (V.1 ++ [x])) Gx
    rw [nms_snoc]
    exact k1.own a1.2.2.1
  · have hs' : s < V.1.length + 1 := by
      have : s < (V.1 ++ [x]).length := hs
      rw [List.length_append, List.length_singleton] at this
      exact this
    show StM s ((V.1 ++ [x]).getD s ([], [])).2 Gx ∧ (((V.1 ++ [x]).getD s ([], [])).2.length : Int) ≤ 400
    by_cases hq : s < V.1.length
    · rw [getD_snl hq]
      obtain ⟨b1, b2⟩ := a1.2.2.2 s hq
      refine ⟨⟨?_, fun i hi => ?_⟩, b2⟩
      · rw [k4.1 s (by omega)]
        exact b1.1
      · obtain ⟨c1, c2, c3, c4⟩ := k4.2 (400 * s + i) (by omega)
        rw [c1, c2, c3, c4]
        exact b1.2 i hi
    · have hs2 : s = V.1.length := by omega
      subst hs2
      rw [getD_snr]
      exact ⟨k3, k5⟩
theorem m_ln2 {b : Nat → Int} {n p : Nat} {G Gx G1 : GS} {V : PV} (h : Q_readWalker G Gx) (htl : TlM Gx G1) (hp : MP b n G p) (hk : tK b n p = 129) (hl : V.2.1.length < 4) (hV : MV V G) : RdM b n V p G1 := by
  refine RdM.of (pLn_2 hk hl) (m_semi (m_walker h hp (by omega) (by omega) hV.2.1.2.2.1 (by rw [nms_len]; exact hV.2.1.1)) htl (fun x hFz hx => ?_))
  obtain ⟨k1, k2, k3, k4⟩ := hx
  rw [nms_len] at k2 k3 k4
  obtain ⟨a1, a2, a3, a4, a5, a6, a7⟩ := hV
  have hF := h.2.1
  refine MV.tok (V := (V.1, V.2.1 ++ [x], V.2.2)) ⟨a1.fr hF (k1.oth a1.2.2.1 (Or.inr (by rw [nms_len]; have := a1.2.1; omega))) (by decide) (by decide) (by decide) (by decide), ⟨?_, ?_, ?_, fun s hs => ?_⟩, a3.fr hF (k1.oth a3.2.2.1 (Or.inl (by rw [nms_len]; omega))) (by decide) (by decide) (by decide) (by decide), a4.fr hF (by decide) (by decide), a5.fr hF (by decide) (by decide), a6.fr hF (by decide) (by decide), by rw [hF.i 66 51 (by decide) (by decide)]; exact a7⟩ hFz
  · rw [k2]
    show (V.2.1.length : Int) + 1 = ((V.2.1 ++ [x]).length : Int)
    rw [List.length_append, List.length_singleton]
    omega
  · show (V.2.1 ++ [x]).length ≤ 4
    rw [List.length_append, List.length_singleton]
    omega
  · show NmM 3 (nms (V.2.1 ++ [x])) Gx
    rw [nms_snoc]
    exact k1.own a2.2.2.1
  · have hs' : s < V.2.1.length + 1 := by
      have : s < (V.2.1 ++ [x]).length := hs
      rw [List.length_append, List.length_singleton] at this
      exact this
    show WkM s ((V.2.1 ++ [x]).getD s ([], 0, 0, 0, 0)).2 Gx
    by_cases hq : s < V.2.1.length
    · rw [getD_snl hq]
      have b1 := a2.2.2.2 s hq
      obtain ⟨c1, c2, c3, c4⟩ := k4 s (by omega)
      unfold WkM at b1 ⊢
      rw [c1, c2, c3, c4]
      exact b1
    · have hs2 : s = V.2.1.length := by omega
      subst hs2
      rw [getD_snr]
      exact k3
theorem m_ln3 {b : Nat → Int} {n p : Nat} {G Gx G1 : GS} {V : PV} (h : Q_readRule G Gx) (htl : TlM Gx G1) (hp : MP b n G p) (hk : tK b n p = 134) (hl : V.2.2.1.length < 6) (hV : MV V G) : RdM b n V p G1 := by
  refine RdM.of (pLn_3 hk hl) (m_semi (m_rule h hp (by omega) (by omega) hV.2.2.1.2.2.1 (by rw [nms_len]; exact hV.2.2.1.1) hV.2.2.1.2.2.2.1 hV.2.2.1.2.2.2.2.1 hV.2.2.1.2.2.2.2.2.1) htl (fun x hFz hx => ?_))
  obtain ⟨k1, k2, k3, k4, k5, k6, k7⟩ := hx
  rw [nms_len] at k2 k6 k7
  obtain ⟨a1, a2, a3, a4, a5, a6, a7⟩ := hV
  have hF := h.2.1
  refine MV.tok (V := (V.1, V.2.1, V.2.2.1 ++ [(x.1, x.2.1)], x.2.2, V.2.2.2.2)) ⟨a1.fr hF (k1.oth a1.2.2.1 (Or.inr (by rw [nms_len]; have := a1.2.1; omega))) (by decide) (by decide) (by decide) (by decide), a2.fr hF (k1.oth a2.2.2.1 (Or.inr (by rw [nms_len]; have := a2.2.1; omega))) (by decide) (by decide) (by decide) (by decide), ⟨?_, ?_, ?_, k3, k4, k5, fun s hs => ?_⟩, a4.fr hF (by decide) (by decide), a5.fr hF (by decide) (by decide), a6.fr hF (by decide) (by decide), by rw [hF.i 66 51 (by decide) (by decide)]; exact a7⟩ hFz
  · rw [k2]
    show (V.2.2.1.length : Int) + 1 = ((V.2.2.1 ++ [(x.1, x.2.1)]).length : Int)
    rw [List.length_append, List.length_singleton]
    omega
  · show (V.2.2.1 ++ [(x.1, x.2.1)]).length ≤ 6
    rw [List.length_append, List.length_singleton]
    omega
  · show NmM 7 (nms (V.2.2.1 ++ [(x.1, x.2.1)])) Gx
    rw [nms_snoc]
    exact k1.own a3.2.2.1
  · have hs' : s < V.2.2.1.length + 1 := by
      have : s < (V.2.2.1 ++ [(x.1, x.2.1)]).length := hs
      rw [List.length_append, List.length_singleton] at this
      exact this
    show CodeM s ((V.2.2.1 ++ [(x.1, x.2.1)]).getD s ([], [])).2 Gx ∧ ((V.2.2.1 ++ [(x.1, x.2.1)]).getD s ([], [])).2.length ≤ 320
    by_cases hq : s < V.2.2.1.length
    · rw [getD_snl hq]
      obtain ⟨b1, b2⟩ := a3.2.2.2.2.2.2 s hq
      exact ⟨b1.kp k7 hq b2, b2⟩
    · have hs2 : s = V.2.2.1.length := by omega
      subst hs2
      rw [getD_snr]
      refine ⟨k6, ?_⟩
      have h1 := k6.1
      have h2 := (h.1.i 71 V.2.2.1.length (lo := 0) (hi := 320) rfl rfl).2
      show x.2.1.length ≤ 320
      omega
theorem m_line {b : Nat → Int} {n p : Nat} {G G1 : GS} {V : PV} (h : Q_readLine G G1) (hp : MP b n G p) (hV : MV V G) : RdM b n V p G1 := by
  obtain ⟨-, -, -, r1, G2, hw1, hh⟩ := h
  have l1 := hV.1.1
  have l2 := hV.2.1.1
  have l3 := hV.2.2.1.1
  obtain ⟨rfl, q1⟩ := m_isWord (i := 0) (by decide) (by decide +kernel) hw1 hp
  have q128 : r1.toInt ≠ 0 ↔ tK b n p = 128 := q1
  clear q1
  rcases hh with ⟨c, c3, Gx, hst, htl⟩ | ⟨G8, hj1, -, -, r13, G14, hw2, hh⟩
  · exact m_ln1 hst htl hp (q128.mp c) (by clear q128 htl; omega) hV
  have n1 : G = G8 ∧ ¬ (tK b n p = 128 ∧ V.1.length < 3) := by
    rcases hj1 with ⟨c, e⟩ | ⟨c, c3, e⟩
    · exact ⟨e, fun q => q128.mpr q.1 c⟩
    · exact ⟨e, fun q => by have := q.2; clear q128 hh; omega⟩
  obtain ⟨rfl, n1⟩ := n1
  clear hj1 q128
  obtain ⟨rfl, q1⟩ := m_isWord (i := 1) (by decide) (by decide +kernel) hw2 hp
  have q129 : r13.toInt ≠ 0 ↔ tK b n p = 129 := q1
  clear q1
  rcases hh with ⟨c, c3, Gx, hst, htl⟩ | ⟨G20, hj2, -, -, r25, G26, hw3, hh⟩
  · exact m_ln2 hst htl hp (q129.mp c) (by clear q129 htl; omega) hV
  have n2 : G = G20 ∧ ¬ (tK b n p = 129 ∧ V.2.1.length < 4) := by
    rcases hj2 with ⟨c, e⟩ | ⟨c, c3, e⟩
    · exact ⟨e, fun q => q129.mpr q.1 c⟩
    · exact ⟨e, fun q => by have := q.2; clear q129 hh; omega⟩
  obtain ⟨rfl, n2⟩ := n2
  clear hj2 q129
  obtain ⟨rfl, q1⟩ := m_isWord (i := 6) (by decide) (by decide +kernel) hw3 hp
  have q134 : r25.toInt ≠ 0 ↔ tK b n p = 134 := q1
  clear q1
  rcases hh with ⟨c, c3, Gx, hst, htl⟩ | ⟨G32, hj3, -, -, r38, G39, ho1, G45, hj4, -, -, -, hF45, htl⟩
  · exact m_ln3 hst htl hp (q134.mp c) (by clear q134 htl; omega) hV
  have n3 : G = G32 ∧ ¬ (tK b n p = 134 ∧ V.2.2.1.length < 6) := by
    rcases hj3 with ⟨c, e⟩ | ⟨c, c3, e⟩
    · exact ⟨e, fun q => q134.mpr q.1 c⟩
    · exact ⟨e, fun q => by have := q.2; clear q134 htl hj4; omega⟩
  obtain ⟨rfl, n3⟩ := n3
  clear hj3 q134
  replace htl : TlM G45 G1 := htl
  obtain ⟨rfl, q1⟩ := m_once (i := 7) (by decide) (by decide +kernel) ho1 hp
  have hb := onb_1 V.2.2.2.2.1.isNone V.2.2.2.2.2.1.isNone V.2.2.2.2.2.2.isNone
  obtain ⟨a1, a2, a3, a4, a5, a6, a7⟩ := hV
  rw [a7] at q1
  have q135 : r38.toInt ≠ 0 ↔ (tK b n p = 135 ∧ V.2.2.2.2.1.isNone = true) := q1.trans (and_congr Iff.rfl hb.1)
  clear q1
  have ht := tN_p (b := b) hp.1.2.1 hp.2.2.2
  have mv : ∀ {V' : PV} {Gz : GS}, Fr [86] [(66, 2), (66, 3), (66, 4), (66, 6), (66, 7), (66, 8), (66, 9), (66, 48), (66, 49), (66, 50), (66, 51)] G Gz → V'.1 = V.1 → V'.2.1 = V.2.1 → V'.2.2.1 = V.2.2.1 → V'.2.2.2.1 = V.2.2.2.1 → SlpM V'.2.2.2.2.1 Gz → HndM V'.2.2.2.2.2.1 Gz → DrwM V'.2.2.2.2.2.2 Gz → Gz.1 66 51 = onb V'.2.2.2.2.1.isNone V'.2.2.2.2.2.1.isNone V'.2.2.2.2.2.2.isNone → MV V' Gz := by
    intro V' Gz hF z1 z2 z3 z4 z5 z6 z7 z8
    refine ⟨?_, ?_, ?_, z5, z6, z7, z8⟩
    · rw [z1]
      exact a1.fr hF (a1.2.2.1.fr hF (by decide) (by decide)) (by decide) (by decide) (by decide) (by decide)
    · rw [z2]
      exact a2.fr hF (a2.2.2.1.fr hF (by decide) (by decide)) (by decide) (by decide) (by decide) (by decide)
    · rw [z3, z4]
      exact a3.fr hF (a3.2.2.1.fr hF (by decide) (by decide)) (by decide) (by decide) (by decide) (by decide)
  rcases hj4 with ⟨c, r102, G103, ho2, hj4⟩ | ⟨c, y196, e196, G197, -, hF197, w197, G204, hsl, rfl⟩
  · have n4 : ¬ (tK b n p = 135 ∧ V.2.2.2.2.1.isNone = true) := fun q => q135.mpr q c
    clear q135
    obtain ⟨rfl, q1⟩ := m_once (i := 8) (by decide) (by decide +kernel) ho2 hp
    rw [a7] at q1
    have q136 : r102.toInt ≠ 0 ↔ (tK b n p = 136 ∧ V.2.2.2.2.2.1.isNone = true) := q1.trans (and_congr Iff.rfl hb.2.1)
    clear q1
    rcases hj4 with ⟨c2, r111, G112, ho3, hj4⟩ | ⟨c2, y158, e158, G159, -, hF159, w159, r167, G168, t167, G172, -, hF172, w172, r180, G181, t180, hFe, we⟩
    · have n5 : ¬ (tK b n p = 136 ∧ V.2.2.2.2.2.1.isNone = true) := fun q => q136.mpr q c2
      clear q136
      obtain ⟨rfl, q1⟩ := m_once (i := 10) (by decide) (by decide +kernel) ho3 hp
      rw [a7] at q1
      have q138 : r111.toInt ≠ 0 ↔ (tK b n p = 138 ∧ V.2.2.2.2.2.2.isNone = true) := q1.trans (and_congr Iff.rfl hb.2.2.1)
      clear q1
      rcases hj4 with ⟨c3, G120, hwr, rfl⟩ | ⟨c3, y133, e133, G134, -, hF134, w134, r142, G143, t142, hFe, we⟩
      · have n6 : ¬ (tK b n p = 138 ∧ V.2.2.2.2.2.2.isNone = true) := fun q => q138.mpr q c3
        obtain ⟨hm, -⟩ := m_wrong hwr hp (by decide)
        rcases htl with ⟨c4, -⟩ | ⟨-, rfl⟩
        · exact absurd c4 (by have := hm.pos; clear q138; omega)
        · exact Or.inl ⟨_, pLn_0 n1 n2 n3 n4 n5 n6, hm⟩
      · have k138 := q138.mp c3
        clear q138
        have hp1 := hp.fr hF134 (by decide) (by decide) (by decide) (by decide)
        refine RdM.of (pLn_6 k138.1 k138.2) (m_semi (K := fun x => MV (V.1, V.2.1, V.2.2.1, V.2.2.2.1, V.2.2.2.2.1, V.2.2.2.2.2.1, some x) G45) ?_ htl (fun x hFz hx => hx.tok hFz))
        rcases m_told2 (i := 10) (by decide) (by decide +kernel) t142 hp1 with ⟨f, hf, hmf⟩ | ⟨v, p', ev, hp2, hr, -, -⟩
        · exact Or.inl ⟨f, (kn_go k138.1).symm.trans hf, hmf.fr hFe (by decide) (by decide)⟩
        · have ev' : pDraw b n p = .inr (v, p') := (kn_go k138.1).symm.trans ev
          have hpq := pNum_n ev'
          have t2 := tN_p (b := b) hp.1.2.1 ht.2.1
          refine Or.inr ⟨v, p', ev', hp2.fr hFe (by decide) (by decide) (by decide) (by decide), by have := (ht.2.2 (by omega)).1; omega, mv hF45 rfl rfl rfl rfl ?_ ?_ ?_ ?_⟩
          · exact ((a4.fr hF134 (by decide) (by decide)).fr t142.2.1 (by decide) (by decide)).fr hFe (by decide) (by decide)
          · exact ((a5.fr hF134 (by decide) (by decide)).fr t142.2.1 (by decide) (by decide)).fr hFe (by decide) (by decide)
          · show (G45.1 66 50).toInt = v
            rw [we]
            exact hr
          · show G45.1 66 51 = onb V.2.2.2.2.1.isNone V.2.2.2.2.2.1.isNone false
            rw [hFe.i 66 51 (by decide) (by decide), t142.2.1.i 66 51 (by decide) (by decide), w134, e133, a7]
            exact hb.2.2.2.2.2
    · have k136 := q136.mp c2
      clear q136
      have hp1 := hp.fr hF159 (by decide) (by decide) (by decide) (by decide)
      refine RdM.of (pLn_5 k136.1 k136.2) (m_semi (K := fun x => MV (V.1, V.2.1, V.2.2.1, V.2.2.2.1, V.2.2.2.2.1, some x, V.2.2.2.2.2.2) G45) ?_ htl (fun x hFz hx => hx.tok hFz))
      rcases m_told2 (i := 8) (by decide) (by decide +kernel) t167 hp1 with ⟨f, hf, hmf⟩ | ⟨v, p', ev, hp2, hr, -, -⟩
      · have hm2 := hmf.fr hF172 (by decide) (by decide)
        have e := told2_f t180 hm2.pos
        subst e
        exact Or.inl ⟨f, by unfold pHand; exact bnd_l ((kn_go k136.1).symm.trans hf), hm2.fr hFe (by decide) (by decide)⟩
      have ev' : pNum b n 1 99 (tNx b n p) = .inr (v, p') := (kn_go k136.1).symm.trans ev
      have hpq := pNum_n ev'
      have t2 := tN_p (b := b) hp.1.2.1 ht.2.1
      have t2' := (ht.2.2 (by omega)).1
      replace hp2 := hp2.fr hF172 (by decide) (by decide) (by decide) (by decide)
      rcases m_told2 (i := 9) (by decide) (by decide +kernel) t180 hp2 with ⟨f, hf, hmf⟩ | ⟨v2, p2, ev2, hp3, hr2, -, -⟩
      · exact Or.inl ⟨f, by unfold pHand; exact (bnd_r ev').trans (kn_eq.trans (bnd_l hf)), hmf.fr hFe (by decide) (by decide)⟩
      · have l := kn_p hp.1.2.1 hp2.2.2.2 ev2
        refine Or.inr ⟨(v, v2), p2, by unfold pHand; exact (bnd_r ev').trans (kn_eq.trans (bnd_r ev2)), hp3.fr hFe (by decide) (by decide) (by decide) (by decide), by omega, mv hF45 rfl rfl rfl rfl ?_ ?_ ?_ ?_⟩
        · exact ((((a4.fr hF159 (by decide) (by decide)).fr t167.2.1 (by decide) (by decide)).fr hF172 (by decide) (by decide)).fr t180.2.1 (by decide) (by decide)).fr hFe (by decide) (by decide)
        · refine ⟨?_, ?_⟩
          · show (G45.1 66 48).toInt = v
            rw [hFe.i 66 48 (by decide) (by decide), t180.2.1.i 66 48 (by decide) (by decide), w172]
            exact hr
          · show (G45.1 66 49).toInt = v2
            rw [we]
            exact hr2
        · exact ((((a6.fr hF159 (by decide) (by decide)).fr t167.2.1 (by decide) (by decide)).fr hF172 (by decide) (by decide)).fr t180.2.1 (by decide) (by decide)).fr hFe (by decide) (by decide)
        · show G45.1 66 51 = onb V.2.2.2.2.1.isNone false V.2.2.2.2.2.2.isNone
          rw [hFe.i 66 51 (by decide) (by decide), t180.2.1.i 66 51 (by decide) (by decide), hF172.i 66 51 (by decide) (by decide), t167.2.1.i 66 51 (by decide) (by decide), w159, e158, a7]
          exact hb.2.2.2.2.1
  · have k135 := q135.mp c
    clear q135
    refine RdM.of (pLn_4 k135.1 k135.2) (m_semi (K := fun x => MV (V.1, V.2.1, V.2.2.1, V.2.2.2.1, some x, V.2.2.2.2.2) G204) ((m_slip hsl (hp.fr hF197 (by decide) (by decide) (by decide) (by decide)) (by omega) (by omega)).imp (fun x hx => ?_)) htl (fun x hFz hx => hx.tok hFz))
    refine mv hF45 rfl rfl rfl rfl hx ?_ ?_ ?_
    · exact (a5.fr hF197 (by decide) (by decide)).fr hsl.2.1 (by decide) (by decide)
    · exact (a6.fr hF197 (by decide) (by decide)).fr hsl.2.1 (by decide) (by decide)
    · show G204.1 66 51 = onb false V.2.2.2.2.2.1.isNone V.2.2.2.2.2.2.isNone
      rw [hsl.2.1.i 66 51 (by decide) (by decide), w197, e196, a7]
      exact hb.2.2.2.1
def AI (b : Nat → Int) (n : Nat) (G : GS) : Prop := (∃ f, MF f G ∧ parse b n = .inl f) ∨ (∃ V p, MP b n G p ∧ MV V G ∧ ∀ o, Et (topS b n) (V0, 0) o ↔ Et (topS b n) (V, p) o)
theorem m_readAll {b : Nat → Int} {n : Nat} {G G1 : GS} (h : Q_readAll G G1) (hn0 : (G.1 66 1).toInt = (n : Int)) (hn : n ≤ 1600) (hT : ∀ j, j < n → (G.1 67 j).toInt = b j ∧ 0 ≤ b j ∧ b j ≤ 255) : (∃ f, parse b n = .inl f ∧ MF f G1) ∨ (∃ V p, parse b n = .inr (V, p) ∧ MV V G1 ∧ (G1.1 66 2).toInt = 0 ∧ (G1.1 66 3).toInt = -1) := by
  obtain ⟨-, -, -, G19, -, hF19, e1, e2, e3, e4, e5, e21, e45, e46, e47, e48, e49, e50, e51, e86, G23, htk, G27, hl, -, -, -, hh⟩ := h
  have hX : XM b n G19 := by
    refine ⟨by rw [e5]; exact hn0, hn, ?_⟩
    rw [hF19.row1 67 (by decide) (by decide)]
    exact hT
  obtain ⟨hX2, hT2⟩ := r_tok (q := 0) hX (by rw [e4]; rfl) (Nat.zero_le n) htk
  have hp0 : MP b n G23 0 := ⟨hX2, hT2, ⟨by rw [htk.2.1.i 66 2 (by decide) (by decide), e2]; rfl, by rw [htk.2.1.i 66 3 (by decide) (by decide), e3]; rfl⟩, Nat.zero_le n⟩
  have hV0 : MV V0 G19 := by
    refine ⟨⟨by rw [e45]; rfl, by decide, fun k hk => absurd hk (Nat.not_lt_zero k), fun s hs => absurd hs (Nat.not_lt_zero s)⟩, ⟨by rw [e46]; rfl, by decide, fun k hk => absurd hk (Nat.not_lt_zero k), fun s hs => absurd hs (Nat.not_lt_zero s)⟩, ⟨by rw [e47]; rfl, by decide, fun k hk => absurd hk (Nat.not_lt_zero k), by rw [e21]; rfl, by decide, by decide, fun s hs => absurd hs (Nat.not_lt_zero s)⟩, ⟨by rw [e86]; rfl, by rw [e86]; rfl, by rw [e86]; rfl⟩, ⟨by rw [e48]; rfl, by rw [e49]; rfl⟩, ?_, by rw [e51]; rfl⟩
    show (G19.1 66 50).toInt = 0
    rw [e50]
    rfl
  have hI : AI b n G27 := hl (fun q => AI b n q) (Or.inr ⟨V0, 0, hp0, hV0.tok htk.2.1, fun o => Iff.rfl⟩) (by
    rintro Ga Gb hi ⟨Gc, Gd, rfl, rfl, -, -, hf0, hs0, G49, hln, rfl⟩
    rcases hi with ⟨f, hm, -⟩ | ⟨V, p, hp, hV, hE⟩
    · exact absurd hf0 (by have := hm.pos; omega)
    · have k203 : tK b n p ≠ 203 := fun q => hs0 (hp.so.2.2.2.1.mpr q)
      rcases m_line hln hp hV with ⟨f, e, hm⟩ | ⟨V', p', e, hp', -, hV'⟩
      · exact Or.inl ⟨f, hm, run_eq ((hE _).mpr ((Et_r (topS_l k203 e)).mpr rfl))⟩
      · exact Or.inr ⟨V', p', hp', hV', fun o => (hE o).trans (Et_i (topS_r k203 e))⟩)
  rcases hI with ⟨f, hm, he⟩ | ⟨V, p, hp, hV, hE⟩
  · have hpo := hm.pos
    rcases hh with ⟨c, -⟩ | ⟨-, rfl⟩
    · omega
    · exact Or.inl ⟨f, he, hm⟩
  · have hf0 := hp.k2
    rcases hh with ⟨-, c, rfl⟩ | ⟨c, -⟩
    · exact Or.inr ⟨V, p, run_eq ((hE _).mpr ((Et_r (topS_e (hp.so.2.2.2.1.mp c))).mpr rfl)), hV, hp.2.2.1.1, hp.2.2.1.2⟩
    · exact absurd hf0 c
