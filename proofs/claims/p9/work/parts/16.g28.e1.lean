/-! what a formula's code is like: its pieces, how deep it goes, how long it is -/
def sgO (o : Int) : Prop := o = 124 ∨ o = 38 ∨ o = 60 ∨ o = 62 ∨ o = 61 ∨ o = 43 ∨ o = 45 ∨ o = 42 ∨ o = 47 ∨ o = 37
def cOK (c : Int × Int) : Prop := (c.1 = 0 ∧ 0 ≤ c.2 ∧ c.2 ≤ 9999) ∨ (c.1 = 1 ∧ 0 ≤ c.2 ∧ c.2 ≤ 8) ∨ (c.1 = 2 ∧ c.2 = 0) ∨ (c.1 = 3 ∧ sgO c.2)
def dst (d : Option Nat) (c : Int × Int) : Option Nat := match d with
  | none => none
  | some k => if c.1 ≤ 1 then some (k + 1) else if c.1 = 2 then (if 1 ≤ k then some k else none) else (if 2 ≤ k then some (k - 1) else none)
def dep (C : List (Int × Int)) : Option Nat := C.foldl dst (some 0)
theorem dep_snoc {C : List (Int × Int)} {c : Int × Int} : dep (C ++ [c]) = dst (dep C) c := by simp [dep, List.foldl_append]
def bin : List Int → Nat
  | [] => 0
  | o :: S => if o = 20 ∨ o = 21 then bin S else bin S + 1
def n21 : List Int → Nat
  | [] => 0
  | o :: S => if o = 21 then n21 S + 1 else n21 S
def nNo (C : List (Int × Int)) : Nat := (C.filter (fun c => decide (c.1 = 2))).length
def nPu (C : List (Int × Int)) : Nat := (C.filter (fun c => decide (c.1 ≤ 1))).length
theorem nNo_snoc {C : List (Int × Int)} {c : Int × Int} : nNo (C ++ [c]) = nNo C + (if c.1 = 2 then 1 else 0) := by
  unfold nNo
  rw [List.filter_append, List.length_append]
  by_cases h : c.1 = 2
  · rw [if_pos h, List.filter_cons_of_pos (by simpa using h)]
    rfl
  · rw [if_neg h, List.filter_cons_of_neg (by simpa using h)]
    rfl
theorem nPu_snoc {C : List (Int × Int)} {c : Int × Int} : nPu (C ++ [c]) = nPu C + (if c.1 ≤ 1 then 1 else 0) := by
  unfold nPu
  rw [List.filter_append, List.length_append]
  by_cases h : c.1 ≤ 1
  · rw [if_pos h, List.filter_cons_of_pos (by simpa using h)]
    rfl
  · rw [if_neg h, List.filter_cons_of_neg (by simpa using h)]
    rfl
/-- code and signs that wait, with so many values on the stack -/
def CI (d : Nat) (S : List Int) (C : List (Int × Int)) : Prop := (∀ c ∈ C, cOK c) ∧ (∀ o ∈ S, o = 20 ∨ o = 21 ∨ sgO o) ∧ dep C = some d ∧ d = bin S + 1 ∧ C.length + d = 2 * nPu C + nNo C
theorem sgO_n {o : Int} (h : sgO o) : o ≠ 20 ∧ o ≠ 21 := by
  unfold sgO at h
  omega
theorem CI_clo (L : Int) : ∀ (S : List Int) (C : List (Int × Int)) (d : Nat), CI d S C → ∃ d', CI d' (clo L S C).1 (clo L S C).2 ∧ nPu (clo L S C).2 = nPu C ∧ nNo (clo L S C).2 + n21 (clo L S C).1 = nNo C + n21 S
  | [], C, d, h => ⟨d, h, rfl, rfl⟩
  | o :: S, C, d, h => by
    rw [clo]
    by_cases ho : o ≠ 20 ∧ L ≤ tgt o
    · rw [if_pos ho]
      obtain ⟨h1, h2, h3, h4, h5⟩ := h
      have hoo := h2 o (by simp)
      by_cases h21 : o = 21
      · subst h21
        have hc : cdo 21 = (2, 0) := rfl
        have hb : bin (21 :: S) = bin S := by rw [bin, if_pos (Or.inr rfl)]
        have hn : n21 (21 :: S) = n21 S + 1 := by rw [n21, if_pos rfl]
        have hCI : CI d S (C ++ [cdo 21]) := by
          refine ⟨fun c hc' => ?_, fun x hx => h2 x (by simp [hx]), ?_, by omega, ?_⟩
          · rcases List.mem_append.mp hc' with q | q
            · exact h1 c q
            · rw [List.mem_singleton] at q
              subst q
              exact Or.inr (Or.inr (Or.inl ⟨rfl, rfl⟩))
          · rw [dep_snoc, h3, hc]
            show dst (some d) (2, 0) = some d
            simp only [dst]
            rw [if_neg (by decide), if_pos (by trivial), if_pos (by omega)]
          · rw [List.length_append, nPu_snoc, nNo_snoc, hc]
            show C.length + 1 + d = 2 * (nPu C + (if (2 : Int) ≤ 1 then 1 else 0)) + (nNo C + (if (2 : Int) = 2 then 1 else 0))
            rw [if_neg (by decide), if_pos rfl]
            omega
        obtain ⟨d', k1, k2, k3⟩ := CI_clo L S (C ++ [cdo 21]) d hCI
        refine ⟨d', k1, ?_, ?_⟩
        · rw [k2, nPu_snoc, hc]
          rfl
        · rw [k3, nNo_snoc, hc, hn]
          show nNo C + (if (2 : Int) = 2 then 1 else 0) + n21 S = _
          rw [if_pos rfl]
          omega
      · have hsg : sgO o := by
          rcases hoo with q | q | q
          · exact absurd q ho.1
          · exact absurd q h21
          · exact q
        have hc : cdo o = (3, o) := by
          unfold cdo
          rw [if_neg h21]
        have hb : bin (o :: S) = bin S + 1 := by rw [bin, if_neg (fun q => q.elim ho.1 h21)]
        have hn : n21 (o :: S) = n21 S := by rw [n21, if_neg h21]
        have hCI : CI (d - 1) S (C ++ [cdo o]) := by
          refine ⟨fun c hc' => ?_, fun x hx => h2 x (by simp [hx]), ?_, by omega, ?_⟩
          · rcases List.mem_append.mp hc' with q | q
            · exact h1 c q
            · rw [List.mem_singleton] at q
              subst q
              rw [hc]
              exact Or.inr (Or.inr (Or.inr ⟨rfl, hsg⟩))
          · rw [dep_snoc, h3, hc]
            show (if (3 : Int) ≤ 1 then some (d + 1) else if (3 : Int) = 2 then (if 1 ≤ d then some d else none) else (if 2 ≤ d then some (d - 1) else none)) = some (d - 1)
            rw [if_neg (by decide), if_neg (by decide), if_pos (by omega)]
          · rw [List.length_append, nPu_snoc, nNo_snoc, hc]
            show C.length + 1 + (d - 1) = 2 * (nPu C + (if (3 : Int) ≤ 1 then 1 else 0)) + (nNo C + (if (3 : Int) = 2 then 1 else 0))
            rw [if_neg (by decide), if_neg (by decide)]
            omega
        obtain ⟨d', k1, k2, k3⟩ := CI_clo L S (C ++ [cdo o]) (d - 1) hCI
        refine ⟨d', k1, ?_, ?_⟩
        · rw [k2, nPu_snoc, hc]
          rfl
        · rw [k3, nNo_snoc, hc, hn]
          show nNo C + (if (3 : Int) = 2 then 1 else 0) + n21 S = _
          rw [if_neg (by decide)]
          rfl
    · rw [if_neg ho]
      exact ⟨d, h, rfl, rfl⟩
/-- ahead of a unit there is one value less -/
def CIb (S : List Int) (C : List (Int × Int)) : Prop := (∀ c ∈ C, cOK c) ∧ (∀ o ∈ S, o = 20 ∨ o = 21 ∨ sgO o) ∧ dep C = some (bin S) ∧ C.length + bin S = 2 * nPu C + nNo C
/-- the place, against the nots: each is three letters with none directly behind -/
def NP (b : Nat → Int) (n p0 p N : Nat) : Prop := p0 ≤ p ∧ 4 * N ≤ p - p0 + 1 ∧ (4 * N ≤ p - p0 ∨ ¬ (p < n ∧ ltr (b p) = true))
def FSI (b : Nat → Int) (n p0 : Nat) (w0 : Int) (s : FS) : Prop := s.2.1 ≤ n ∧ NP b n p0 s.2.1 (nNo s.2.2.2.1 + n21 s.2.2.1) ∧ (nPu s.2.2.2.1 : Int) ≤ s.2.2.2.2.1 ∧ s.2.2.2.2.2 = w0 + s.2.2.2.2.1 ∧ 0 ≤ s.2.2.2.2.1 ∧ s.2.2.2.2.1 ≤ 30 ∧ (if s.1 = true then CIb s.2.2.1 s.2.2.2.1 else ∃ d, CI d s.2.2.1 s.2.2.2.1)
theorem tN_w {b : Nat → Int} {n p : Nat} (hn : n ≤ 1600) (hp : p ≤ n) (hk : 128 ≤ tK b n p ∧ tK b n p ≤ 200) : tNx b n p = tS b n p + (tL b n p).length ∧ ltr (b (tS b n p)) = true ∧ ¬ (tNx b n p < n ∧ ltr (b (tNx b n p)) = true) ∧ (tS b n p = p ∨ ¬ (p < n ∧ ltr (b p) = true)) := by
  have hs := tS_p (b := b) hn hp
  have h1 : ¬ n ≤ tS b n p := by
    intro q
    have : tK b n p = 203 := by
      unfold tK
      rw [if_pos q]
    omega
  have h2 : ltr (b (tS b n p)) = true := by
    refine Classical.byContradiction (fun q => ?_)
    have hk2 : tK b n p = (if dgt (b (tS b n p)) = true then (if 4 < tD b n p - tS b n p ∨ (tD b n p < n ∧ ltr (b (tD b n p)) = true) then 202 else 201) else if sgn (b (tS b n p)) = true then b (tS b n p) else 202) := by
      unfold tK
      rw [if_neg h1, if_neg q]
    by_cases hd : dgt (b (tS b n p)) = true
    · rw [if_pos hd] at hk2
      split at hk2 <;> omega
    · rw [if_neg hd] at hk2
      by_cases hg : sgn (b (tS b n p)) = true
      · rw [if_pos hg] at hk2
        have := sgn_i.mp hg
        omega
      · rw [if_neg hg] at hk2
        omega
  have h3 : tNx b n p = tW b n p := by
    unfold tNx
    rw [if_neg h1, if_pos h2]
  obtain ⟨r1, r2, r3, r4⟩ := rn_p (c := ltr) (b := b) (n := n) 1601 (tS b n p) (by omega)
  refine ⟨?_, h2, ?_, ?_⟩
  · rw [h3]
    unfold tL
    rw [cut_len]
    show tW b n p = _
    have : tS b n p ≤ tW b n p := r1
    omega
  · rw [h3]
    exact r4
  · by_cases he : tS b n p = p
    · exact Or.inl he
    · obtain ⟨s1, s2, s3, s4⟩ := rn_p (c := blk) (b := b) (n := n) 1601 p (by omega)
      have := s3 p (Nat.le_refl p) (by have : p ≤ tS b n p := hs.1; show p < tS b n p; omega)
      refine Or.inr (fun q => ?_)
      have e1 := blk_i.mp this.2
      have e2 := ltr_i.mp q.2
      omega
