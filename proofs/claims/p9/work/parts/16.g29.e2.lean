/-! along the stack of signs -/
theorem NP_up {b : Nat → Int} {n p0 p q N : Nat} (h : NP b n p0 p N) (hq : p < q) : NP b n p0 q N := by
  obtain ⟨h1, h2, -⟩ := h
  exact ⟨by omega, by omega, Or.inl (by omega)⟩
theorem NP_not {b : Nat → Int} {n p0 p N : Nat} (hn : n ≤ 1600) (hp : p ≤ n) (hk : tK b n p = 146) (h : NP b n p0 p N) : NP b n p0 (tNx b n p) (N + 1) := by
  obtain ⟨h1, h2, h3⟩ := h
  obtain ⟨g1, g2, g3, g4⟩ := tN_w (b := b) hn hp (by omega)
  have hL : (tL b n p).length = 3 := by
    have hw := tK_w (b := b) hn hp (by omega) (by omega)
    have : tL b n p = KW.getD 18 [] := (kwd_iff (i := 18) (by decide)).mp (by rw [← hw.1, hk]; rfl)
    rw [this]
    rfl
  have hs := tS_p (b := b) hn hp
  have hst := (tN_p (b := b) hn hp).2.2 (by omega)
  refine ⟨by omega, ?_, Or.inr g3⟩
  rcases h3 with q | q
  · omega
  · rcases g4 with e | e
    · refine absurd ⟨by omega, ?_⟩ q
      rw [← e]
      exact g2
    · have : tS b n p ≠ p := fun e' => q ⟨by omega, by rw [← e']; exact g2⟩
      omega
theorem val_r : ∀ (L : List Int), (∀ x ∈ L, 48 ≤ x ∧ x ≤ 57) → 0 ≤ val L ∧ val L < 10 ^ L.length := by
  intro L
  have key : ∀ M : List Int, (∀ x ∈ M, 48 ≤ x ∧ x ≤ 57) → 0 ≤ val M.reverse ∧ val M.reverse < 10 ^ M.length := by
    intro M
    induction M with
    | nil => intro _; exact ⟨by decide, by decide⟩
    | cons x M ih =>
      intro hM
      have i := ih (fun z hz => hM z (by simp [hz]))
      have hx := hM x (by simp)
      rw [List.reverse_cons, val_snoc, List.length_cons, Int.pow_succ]
      omega
  intro h
  have := key L.reverse (fun x hx => h x (List.mem_reverse.mp hx))
  rw [List.reverse_reverse, List.length_reverse] at this
  exact this
theorem tV_r {b : Nat → Int} {n p : Nat} (hn : n ≤ 1600) (hp : p ≤ n) (hk : tK b n p = 201) : 0 ≤ tV b n p ∧ tV b n p ≤ 9999 := by
  have hs := tS_p (b := b) hn hp
  have h1 : ¬ n ≤ tS b n p := by
    intro q
    have : tK b n p = 203 := by
      unfold tK
      rw [if_pos q]
    omega
  obtain ⟨r1, r2, r3, r4⟩ := rn_p (c := dgt) (b := b) (n := n) 1601 (tS b n p) (by omega)
  have h4 : tD b n p - tS b n p ≤ 4 := by
    refine Classical.byContradiction (fun q => ?_)
    unfold tK at hk
    rw [if_neg h1] at hk
    by_cases h2 : ltr (b (tS b n p)) = true
    · rw [if_pos h2] at hk
      have := kwd_r (tL b n p)
      split at hk <;> omega
    · rw [if_neg h2] at hk
      by_cases h3 : dgt (b (tS b n p)) = true
      · rw [if_pos h3, if_pos (Or.inl (by omega))] at hk
        omega
      · rw [if_neg h3] at hk
        by_cases h5 : sgn (b (tS b n p)) = true
        · rw [if_pos h5] at hk
          have := sgn_i.mp h5
          omega
        · rw [if_neg h5] at hk
          omega
  have hv := val_r (cut b (tS b n p) (tD b n p)) (fun x hx => by
    obtain ⟨k, k1, k2, rfl⟩ := cut_mem hx
    exact dgt_i.mp (r3 k k1 k2).2)
  rw [cut_len] at hv
  have hpow : (10 : Int) ^ (tD b n p - tS b n p) ≤ 10000 := by
    have h5 : tD b n p - tS b n p = 0 ∨ tD b n p - tS b n p = 1 ∨ tD b n p - tS b n p = 2 ∨ tD b n p - tS b n p = 3 ∨ tD b n p - tS b n p = 4 := by omega
    rcases h5 with e | e | e | e | e <;> rw [e] <;> decide
  refine ⟨hv.1, ?_⟩
  have : tV b n p < 10000 := Int.lt_of_lt_of_le hv.2 hpow
  omega
theorem ask_r (k : Int) : ask k ≤ 8 ∧ -1 ≤ ask k := by
  unfold ask
  repeat' split
  all_goals omega
theorem clo0_nil : ∀ {S : List Int} {C : List (Int × Int)}, ¬ (20 : Int) ∈ S → (clo 0 S C).1 = []
  | [], _, _ => rfl
  | o :: S, C, h => by
    rw [clo, if_pos ⟨fun e => h (by simp [e]), by have := tgt_r o; omega⟩]
    exact clo0_nil (fun q => h (by simp [q]))
theorem sig_sg {k : Int} (h : sig k ≠ 0) : sgO (sig k) := by
  unfold sig at h ⊢
  unfold sgO
  by_cases h1 : k = 145
  · rw [if_pos h1]
    omega
  · rw [if_neg h1] at h ⊢
    by_cases h2 : k = 144
    · rw [if_pos h2]
      omega
    · rw [if_neg h2] at h ⊢
      by_cases h3 : k = 60 ∨ k = 62 ∨ k = 61 ∨ k = 43 ∨ k = 45 ∨ k = 42 ∨ k = 47 ∨ k = 37
      · rw [if_pos h3]
        omega
      · rw [if_neg h3] at h
        exact absurd rfl h
theorem FSI_step {b : Nat → Int} {n p0 : Nat} {w0 : Int} {s s' : FS} (hn : n ≤ 1600) (h : FSI b n p0 w0 s) (hs : sy b n s = .inl s') : FSI b n p0 w0 s' := by
  obtain ⟨m, p, S, C, u, w⟩ := s
  obtain ⟨h1, h2, h3, h4, h5, h6, h7⟩ := h
  simp only at h1 h2 h3 h4 h5 h6 h7
  have ht := tN_p (b := b) hn h1
  cases m with
  | true =>
    rw [if_pos rfl] at h7
    have hs' : syB b n p S C u w = .inl s' := hs
    unfold syB at hs'
    by_cases c1 : tK b n p = 146 ∧ mno S = true
    · rw [if_pos c1] at hs'
      by_cases c2 : 6 < dps S
      · rw [if_pos c2] at hs'
        exact absurd hs' (by simp)
      · rw [if_neg c2] at hs'
        have e := Sum.inl.inj hs'
        subst e
        have hb : bin (21 :: S) = bin S := by rw [bin, if_pos (Or.inr rfl)]
        have h21 : n21 (21 :: S) = n21 S + 1 := by rw [n21, if_pos rfl]
        refine ⟨ht.2.1, ?_, h3, h4, h5, h6, ?_⟩
        · show NP b n p0 (tNx b n p) (nNo C + n21 (21 :: S))
          rw [h21, ← Nat.add_assoc]
          exact NP_not hn h1 c1.1 h2
        · show if true = true then CIb (21 :: S) C else _
          rw [if_pos rfl]
          refine ⟨h7.1, fun o ho => ?_, by rw [hb]; exact h7.2.2.1, by rw [hb]; exact h7.2.2.2⟩
          rcases List.mem_cons.mp ho with e | e
          · exact Or.inr (Or.inl e)
          · exact h7.2.1 o e
    · rw [if_neg c1] at hs'
      by_cases c2 : tK b n p = 40
      · rw [if_pos c2] at hs'
        have hlt := (ht.2.2 (by omega)).1
        by_cases c3 : (w = 90 ∨ u = 30) ∨ 6 < dps S
        · rw [if_pos c3] at hs'
          exact absurd hs' (by simp)
        · rw [if_neg c3] at hs'
          have e := Sum.inl.inj hs'
          subst e
          have hb : bin (20 :: S) = bin S := by rw [bin, if_pos (Or.inl rfl)]
          have h21 : n21 (20 :: S) = n21 S := by rw [n21, if_neg (by decide)]
          refine ⟨ht.2.1, ?_, ?_, ?_, ?_, ?_, ?_⟩
          · show NP b n p0 (tNx b n p) (nNo C + n21 (20 :: S))
            rw [h21]
            exact NP_up h2 hlt
          · show (nPu C : Int) ≤ u + 1
            omega
          · show w + 1 = w0 + (u + 1)
            omega
          · show 0 ≤ u + 1
            omega
          · show u + 1 ≤ 30
            omega
          · show if true = true then CIb (20 :: S) C else _
            rw [if_pos rfl]
            refine ⟨h7.1, fun o ho => ?_, by rw [hb]; exact h7.2.2.1, by rw [hb]; exact h7.2.2.2⟩
            rcases List.mem_cons.mp ho with e | e
            · exact Or.inl e
            · exact h7.2.1 o e
      · rw [if_neg c2] at hs'
        by_cases c3 : (tK b n p ≠ 201 ∧ ask (tK b n p) < 0) ∨ (w = 90 ∨ u = 30)
        · rw [if_pos c3] at hs'
          exact absurd hs' (by simp)
        · rw [if_neg c3] at hs'
          have e := Sum.inl.inj hs'
          subst e
          have hne : tK b n p ≠ 203 := fun q => c3 (Or.inl ⟨by omega, by rw [q]; decide⟩)
          have hlt := (ht.2.2 hne).1
          obtain ⟨c, hc⟩ : ∃ c : Int × Int, c = (if ask (tK b n p) < 0 then (0, tV b n p) else (1, ask (tK b n p))) := ⟨_, rfl⟩
          rw [← hc]
          have hc1 : c.1 ≤ 1 ∧ c.1 ≠ 2 ∧ cOK c := by
            rw [hc]
            by_cases ha : ask (tK b n p) < 0
            · rw [if_pos ha]
              have k201 : tK b n p = 201 := Classical.byContradiction (fun q => c3 (Or.inl ⟨q, ha⟩))
              have hv := tV_r hn h1 k201
              exact ⟨by show (0 : Int) ≤ 1; decide, by show (0 : Int) ≠ 2; decide, Or.inl ⟨rfl, hv.1, hv.2⟩⟩
            · rw [if_neg ha]
              have har := ask_r (tK b n p)
              exact ⟨by show (1 : Int) ≤ 1; decide, by show (1 : Int) ≠ 2; decide, Or.inr (Or.inl ⟨rfl, by show 0 ≤ ask (tK b n p); omega, har.1⟩)⟩
          obtain ⟨k1, k2, k3⟩ := hc1
          refine ⟨ht.2.1, ?_, ?_, ?_, ?_, ?_, ?_⟩
          · show NP b n p0 (tNx b n p) (nNo (C ++ [c]) + n21 S)
            rw [nNo_snoc, if_neg k2, Nat.add_zero]
            exact NP_up h2 hlt
          · show (nPu (C ++ [c]) : Int) ≤ u + 1
            rw [nPu_snoc, if_pos k1]
            omega
          · show w + 1 = w0 + (u + 1)
            omega
          · show 0 ≤ u + 1
            omega
          · show u + 1 ≤ 30
            omega
          · show if false = true then _ else ∃ d, CI d S (C ++ [c])
            rw [if_neg (by decide)]
            refine ⟨bin S + 1, fun x hx => ?_, h7.2.1, ?_, rfl, ?_⟩
            · rcases List.mem_append.mp hx with q | q
              · exact h7.1 x q
              · rw [List.mem_singleton] at q
                subst q
                exact k3
            · rw [dep_snoc, h7.2.2.1]
              show (if c.1 ≤ 1 then some (bin S + 1) else _) = _
              rw [if_pos k1]
            · rw [List.length_append, nPu_snoc, nNo_snoc, if_pos k1, if_neg k2, List.length_singleton]
              have := h7.2.2.2
              omega
  | false =>
    rw [if_neg (by decide)] at h7
    obtain ⟨d, h7⟩ := h7
    have hs' : syA b n p S C u w = .inl s' := hs
    unfold syA at hs'
    by_cases c1 : tK b n p = 41 ∧ 20 ∈ S
    · rw [if_pos c1] at hs'
      have hlt := (ht.2.2 (by omega)).1
      have e := Sum.inl.inj hs'
      subst e
      obtain ⟨d', k1, k2, k3⟩ := CI_clo 0 S C d h7
      obtain ⟨T, hT⟩ := clo0_br (S := S) (C := C) c1.2
      rw [hT] at k1 k3
      have hb : bin (20 :: T) = bin T := by rw [bin, if_pos (Or.inl rfl)]
      have h21 : n21 (20 :: T) = n21 T := by rw [n21, if_neg (by decide)]
      rw [h21] at k3
      rw [hT]
      refine ⟨ht.2.1, ?_, ?_, h4, h5, h6, ?_⟩
      · show NP b n p0 (tNx b n p) (nNo (clo 0 S C).2 + n21 T)
        rw [k3]
        exact NP_up h2 hlt
      · show (nPu (clo 0 S C).2 : Int) ≤ u
        rw [k2]
        exact h3
      · show if false = true then _ else ∃ d, CI d T (clo 0 S C).2
        rw [if_neg (by decide)]
        exact ⟨d', k1.1, fun o ho => k1.2.1 o (by simp [ho]), k1.2.2.1, by rw [← hb]; exact k1.2.2.2.1, k1.2.2.2.2⟩
    · rw [if_neg c1] at hs'
      by_cases c2 : sig (tK b n p) ≠ 0 ∧ ¬ (tgt (sig (tK b n p)) = 4 ∧ hrl S = true)
      · rw [if_pos c2] at hs'
        have hsn := sig_n c2.1
        have hlt := (ht.2.2 hsn.2.2).1
        have e := Sum.inl.inj hs'
        subst e
        obtain ⟨d', k1, k2, k3⟩ := CI_clo (tgt (sig (tK b n p))) S C d h7
        have hsg := sig_sg c2.1
        have hne := sgO_n hsg
        have hb : ∀ T, bin (sig (tK b n p) :: T) = bin T + 1 := fun T => by rw [bin, if_neg (fun q => q.elim hne.1 hne.2)]
        have h21 : ∀ T, n21 (sig (tK b n p) :: T) = n21 T := fun T => by rw [n21, if_neg hne.2]
        refine ⟨ht.2.1, ?_, ?_, h4, h5, h6, ?_⟩
        · show NP b n p0 (tNx b n p) (nNo (clo (tgt (sig (tK b n p))) S C).2 + n21 (sig (tK b n p) :: (clo (tgt (sig (tK b n p))) S C).1))
          rw [h21, k3]
          exact NP_up h2 hlt
        · show (nPu (clo (tgt (sig (tK b n p))) S C).2 : Int) ≤ u
          rw [k2]
          exact h3
        · show if true = true then CIb (sig (tK b n p) :: (clo (tgt (sig (tK b n p))) S C).1) (clo (tgt (sig (tK b n p))) S C).2 else _
          rw [if_pos rfl]
          refine ⟨k1.1, fun o ho => ?_, ?_, ?_⟩
          · rcases List.mem_cons.mp ho with e | e
            · subst e
              exact Or.inr (Or.inr hsg)
            · exact k1.2.1 o e
          · rw [hb, ← k1.2.2.2.1]
            exact k1.2.2.1
          · rw [hb, ← k1.2.2.2.1]
            exact k1.2.2.2.2
      · rw [if_neg c2] at hs'
        by_cases c3 : (20 : Int) ∈ S
        · rw [if_pos c3] at hs'
          exact absurd hs' (by simp)
        · rw [if_neg c3] at hs'
          exact absurd hs' (by simp)
/-- a formula's code: its pieces, one value at its end, its length -/
def FEnd (p0 p' : Nat) (w0 : Int) (C : List (Int × Int)) (u w : Int) : Prop := (∀ c ∈ C, cOK c) ∧ dep C = some 1 ∧ C.length + 1 = 2 * nPu C + nNo C ∧ (nPu C : Int) ≤ u ∧ 0 ≤ u ∧ u ≤ 30 ∧ w = w0 + u ∧ p0 ≤ p' ∧ 4 * nNo C ≤ p' - p0 + 1
theorem FSI_end {b : Nat → Int} {n p0 p' : Nat} {w0 u w : Int} {C : List (Int × Int)} {s : FS} (h : FSI b n p0 w0 s) (hs : sy b n s = .inr (.inr (p', C, u, w))) : FEnd p0 p' w0 C u w := by
  obtain ⟨m, p, S, C0, u0, w0'⟩ := s
  obtain ⟨h1, h2, h3, h4, h5, h6, h7⟩ := h
  simp only at h1 h2 h3 h4 h5 h6 h7
  cases m with
  | true =>
    have hs' : syB b n p S C0 u0 w0' = .inr (.inr (p', C, u, w)) := hs
    unfold syB at hs'
    split at hs'
    · split at hs' <;> exact absurd hs' (by simp)
    · split at hs'
      · split at hs' <;> exact absurd hs' (by simp)
      · split at hs' <;> exact absurd hs' (by simp)
  | false =>
    rw [if_neg (by decide)] at h7
    obtain ⟨d, h7⟩ := h7
    have hs' : syA b n p S C0 u0 w0' = .inr (.inr (p', C, u, w)) := hs
    unfold syA at hs'
    by_cases c1 : tK b n p = 41 ∧ 20 ∈ S
    · rw [if_pos c1] at hs'
      exact absurd hs' (by simp)
    · rw [if_neg c1] at hs'
      by_cases c2 : sig (tK b n p) ≠ 0 ∧ ¬ (tgt (sig (tK b n p)) = 4 ∧ hrl S = true)
      · rw [if_pos c2] at hs'
        exact absurd hs' (by simp)
      · rw [if_neg c2] at hs'
        by_cases c3 : (20 : Int) ∈ S
        · rw [if_pos c3] at hs'
          exact absurd hs' (by simp)
        · rw [if_neg c3] at hs'
          have e := Sum.inr.inj (Sum.inr.inj hs')
          obtain ⟨rfl, e2⟩ := Prod.mk.inj e
          obtain ⟨rfl, e3⟩ := Prod.mk.inj e2
          obtain ⟨rfl, rfl⟩ := Prod.mk.inj e3
          obtain ⟨d', k1, k2, k3⟩ := CI_clo 0 S C0 d h7
          rw [clo0_nil c3] at k1 k3
          have hd : d' = 1 := k1.2.2.2.1
          subst hd
          have hz : n21 [] = 0 := rfl
          rw [hz, Nat.add_zero] at k3
          refine ⟨k1.1, k1.2.2.1, k1.2.2.2.2, ?_, h5, h6, h4, h2.1, ?_⟩
          · rw [k2]
            exact h3
          · have := h2.2.1
            omega
theorem Ev_ok {b : Nat → Int} {n p p' : Nat} {w u w' : Int} {C : List (Int × Int)} (hn : n ≤ 1600) (hp : p ≤ n) (h : Ev b n (true, p, [], [], 0, w) (.inr (p', C, u, w'))) : FEnd p p' w C u w' := by
  obtain ⟨k, hk⟩ := h
  have key : ∀ (k : Nat) (s : FS), FSI b n p w s → itn b n k s = some (.inr (p', C, u, w')) → FEnd p p' w C u w' := by
    intro k
    induction k with
    | zero => intro s _ h1; exact absurd h1 (by simp [itn])
    | succ k ih =>
      intro s hs h1
      rw [itn] at h1
      cases e : sy b n s with
      | inr o =>
        rw [e] at h1
        have := Option.some.inj h1
        subst this
        exact FSI_end hs e
      | inl s' =>
        rw [e] at h1
        exact ih s' (FSI_step hn hs e) h1
  refine key k (true, p, [], [], 0, w) ⟨hp, ⟨Nat.le_refl p, Nat.zero_le _, Or.inl (Nat.zero_le _)⟩, by show ((0 : Nat) : Int) ≤ 0; decide, by show w = w + 0; omega, by show (0 : Int) ≤ 0; decide, by show (0 : Int) ≤ 30; decide, ?_⟩ hk
  show if true = true then CIb [] [] else _
  rw [if_pos rfl]
  exact ⟨fun c hc => absurd hc (by simp), fun o ho => absurd ho (by simp), rfl, rfl⟩
