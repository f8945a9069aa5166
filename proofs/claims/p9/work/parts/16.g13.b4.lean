/-! formulas by the reference: the whole formula -/
theorem clo0_br : ∀ {S : List Int} {C : List (Int × Int)}, (20 : Int) ∈ S → ∃ T, (clo 0 S C).1 = 20 :: T
  | [], _, h => absurd h (by simp)
  | o :: S, C, h => by
    rw [clo]
    by_cases ho : o = 20
    · subst ho
      rw [if_neg (fun q => q.1 rfl)]
      exact ⟨S, rfl⟩
    · rw [if_pos ⟨ho, by have := tgt_r o; omega⟩]
      rcases List.mem_cons.mp h with e | e
      · exact absurd e.symm ho
      · exact clo0_br e
def FI (b : Nat → Int) (n f p : Nat) (s : FS) (x : Int32) (G : GS) : Prop := (∃ ft, MF ft G ∧ Ev b n s (.inl ft)) ∨ (∃ p' S' C' u' w', CfM b n f G p' S' C' u' w' ∧ p < p' ∧ (∀ o, Ev b n s o ↔ Ev b n (false, p', S', C', u', w') o) ∧ (x.toInt = 0 → ¬ (tK b n p' = 41 ∧ (20 : Int) ∈ S') ∧ ¬ (sig (tK b n p') ≠ 0 ∧ ¬ (tgt (sig (tK b n p')) = 4 ∧ hrl S' = true))))
theorem CfM.popB {b : Nat → Int} {n f p : Nat} {G G1 : GS} {S : List Int} {C : List (Int × Int)} {u w : Int} {y z : Int32} (hc : CfM b n f G p (20 :: S) C u w) (hF : Fr [] [(66, 20), (66, 24)] G G1) (e1 : G1.1 66 20 = y) (e2 : G1.1 66 24 = z) (hy : y.toInt = (G.1 66 20).toInt - 1) (hz : z.toInt = (G.1 66 24).toInt - 1) : CfM b n f G1 p S C u w := by
  obtain ⟨c1, c2, c3, c4, c5, c6, c7, c8⟩ := hc
  have hd : dps (20 :: S) = dps S + 1 := by rw [dps, if_pos (Or.inl rfl)]
  rw [hd] at c3
  refine ⟨c1.fr hF (by decide) (by decide) (by decide) (by decide), stk_pop c2 hF (by decide) (by decide) (by rw [e1]; exact hy), by rw [e2]; omega, by rw [hF.i 66 23 (by decide) (by decide)]; exact c4, by rw [hF.i 66 21 (by decide) (by decide)]; exact c5, by rw [hF.i 66 19 (by decide) (by decide)]; exact c6, c7.fr hF (by decide) (by decide), c8⟩
theorem CfM.push {b : Nat → Int} {n f p : Nat} {G G1 : GS} {S : List Int} {C : List (Int × Int)} {u w : Int} {o y : Int32} (hc : CfM b n f G p S C u w) (hF : Fr [75] [(66, 20)] G G1) (e1 : G1.1 66 20 = y) (hy : y.toInt = (G.1 66 20).toInt + 1) (e75 : G1.1 75 = upd (G.1 75) (G.1 66 20).toNatClampNeg o) (ho : ¬ (o.toInt = 20 ∨ o.toInt = 21)) : CfM b n f G1 p (o.toInt :: S) C u w := by
  obtain ⟨c1, c2, c3, c4, c5, c6, c7, c8⟩ := hc
  refine ⟨c1.fr hF (by decide) (by decide) (by decide) (by decide), stk_push c2 (by rw [e1]; exact hy) e75, by rw [hF.i 66 24 (by decide) (by decide), dps, if_neg ho]; exact c3, by rw [hF.i 66 23 (by decide) (by decide)]; exact c4, by rw [hF.i 66 21 (by decide) (by decide)]; exact c5, by rw [hF.i 66 19 (by decide) (by decide)]; exact c6, c7.fr hF (by decide) (by decide), c8⟩
theorem sig_n {k : Int} (h : sig k ≠ 0) : ¬ (sig k = 20 ∨ sig k = 21) ∧ k ≠ 202 ∧ k ≠ 203 := by
  unfold sig at h ⊢
  by_cases h1 : k = 145
  · rw [if_pos h1]
    omega
  · rw [if_neg h1] at h ⊢
    by_cases h2 : k = 144
    · rw [if_pos h2]
      omega
    · rw [if_neg h2] at h ⊢
      by_cases h3 : k = 60 ∨ k = 62 ∨ k = 61 ∨ k = 43 ∨ k = 45 ∨ k = 42 ∨ k = 47 ∨ k = 37
      · rw [if_pos h3]
        omega
      · rw [if_neg h3] at h
        exact absurd rfl h
theorem m_fstep {b : Nat → Int} {n f p : Nat} {s : FS} {G : GS} {q q1 : Int32 × GS} (hs : St_n_formula_1 G q q1) (hi : FI b n f p s q.1 q.2) : FI b n f p s q1.1 q1.2 := by
  obtain ⟨x, G3, xn, G3n, rfl, rfl, -, -, -, -, hx, hf0, r1, Ga, hsg, hh⟩ := hs
  rcases hi with ⟨ft, hm, -⟩ | ⟨p', S', C', u', w', hc, hpp, hev, -⟩
  · exact absurd hf0 (by have := MF.pos (G := G3) hm; omega)
  have ht := hc.t
  obtain ⟨rfl, hr⟩ := m_sign hsg hc.1
  have h41 := hc.1.so.2.2.2.2 41 (by decide) (by decide)
  rcases hh with ⟨c41, r2, Gb, hb, hr2, Gc, hcl, y1, hy1, y2, hy2, Gd, -, hF, e1, e2, Ge, htk, rfl, rfl⟩ | ⟨Gb, hj, -, -, hh⟩
  · have k41 := h41.mp c41
    obtain ⟨rfl, qb⟩ := m_hasBracket hb hc.2.1
    have kb := qb.mp hr2
    have h1 : CfM b n f Gc p' (clo 0 S' C').1 (clo 0 S' C').2 u' w' := CfM.close hcl hc
    obtain ⟨T, hT⟩ := clo0_br (S := S') (C := C') kb
    have h2 : CfM b n f Gd p' T (clo 0 S' C').2 u' w' := CfM.popB (by rw [← hT]; exact h1) hF e1 e2 hy1 hy2
    have h3 := CfM.next htk h2 (by omega)
    have hsy : syA b n p' S' C' u' w' = .inl (false, tNx b n p', T, (clo 0 S' C').2, u', w') := by
      unfold syA
      rw [if_pos ⟨k41, kb⟩, hT]
      rfl
    exact Or.inr ⟨tNx b n p', T, _, u', w', h3, by omega, fun o => (hev o).trans (Ev_A hsy), fun q => absurd q hx⟩
  · have hno : ¬ (tK b n p' = 41 ∧ (20 : Int) ∈ S') ∧ G3 = Gb := by
      rcases hj with ⟨c, r2, Gc, hb, hr2, e⟩ | ⟨c, e⟩
      · obtain ⟨rfl, qb⟩ := m_hasBracket hb hc.2.1
        exact ⟨fun q => (qb.mpr q.2) hr2, e⟩
      · exact ⟨fun q => c (h41.mpr q.1), e⟩
    obtain ⟨hno, rfl⟩ := hno
    clear h41
    rcases hh with ⟨c0, rfl, rfl⟩ | ⟨c0, r3, Gc, htg, hh⟩
    · exact Or.inr ⟨p', S', C', u', w', hc, hpp, hev, fun _ => ⟨hno, fun q => q.1 (by rw [← hr]; exact c0)⟩⟩
    · have hsn := sig_n (k := tK b n p') (by rw [← hr]; exact c0)
      obtain ⟨rfl, ht3⟩ := m_tight htg
      rw [hr] at ht3
      rcases hh with ⟨c4, r4, Gd, hrl', hr4, rfl, rfl⟩ | ⟨Gd, hj, -, -, r4, Ge, htg2, Gf, hcl, y1, hy1, Gg, -, hF, e1, e75, Gh, htk, Gi, hun, rfl, rfl⟩
      · obtain ⟨rfl, ql⟩ := m_hasRel hrl' hc.2.1
        exact Or.inr ⟨p', S', C', u', w', hc, hpp, hev, fun _ => ⟨hno, fun q => q.2 ⟨by rw [← ht3]; exact c4, ql.mp hr4⟩⟩⟩
      · have hno2 : ¬ (tgt (sig (tK b n p')) = 4 ∧ hrl S' = true) ∧ G3 = Gd := by
          rcases hj with ⟨c, r5, Gj, hrl', hr5, e⟩ | ⟨c, e⟩
          · obtain ⟨rfl, ql⟩ := m_hasRel hrl' hc.2.1
            exact ⟨fun q => (ql.mpr q.2) hr5, e⟩
          · exact ⟨fun q => c (by rw [ht3]; exact q.1), e⟩
        obtain ⟨hno2, rfl⟩ := hno2
        obtain ⟨rfl, ht4⟩ := m_tight htg2
        rw [hr] at ht4
        have h1 := CfM.close hcl hc
        rw [ht4] at h1
        have h2 := CfM.push h1 hF e1 hy1 e75 (by rw [hr]; exact hsn.1)
        rw [hr] at h2
        have h3 := CfM.next htk h2 hsn.2.1
        have hsy : syA b n p' S' C' u' w' = .inl (true, tNx b n p', sig (tK b n p') :: (clo (tgt (sig (tK b n p'))) S' C').1, (clo (tgt (sig (tK b n p'))) S' C').2, u', w') := by
          unfold syA
          rw [if_neg hno, if_pos ⟨by rw [← hr]; exact c0, hno2⟩]
        rcases m_unit hun h3 with ⟨ft, hm, he⟩ | ⟨p2, S2, C2, u2, w2, hc2, hp2, he2⟩
        · exact Or.inl ⟨ft, hm, (hev _).mpr ((Ev_A hsy).mpr he)⟩
        · exact Or.inr ⟨p2, S2, C2, u2, w2, hc2, by omega, fun o => ((hev o).trans (Ev_A hsy)).trans (he2 o), fun q => absurd q hx⟩
/-- the reference's formula: its FAULT, or its code, place and count of units, as the stack says -/
def FOM (b : Nat → Int) (n f p : Nat) (w : Int) (G1 : GS) : Prop := (∃ ft, MF ft G1 ∧ Ev b n (true, p, [], [], 0, w) (.inl ft)) ∨ (∃ p' C' u' w', MP b n G1 p' ∧ CodeM f C' G1 ∧ (G1.1 66 21).toInt = w' ∧ 0 ≤ w' ∧ w' ≤ 90 ∧ p < p' ∧ Ev b n (true, p, [], [], 0, w) (.inr (p', C', u', w')))
theorem m_form {b : Nat → Int} {n f p : Nat} {w : Int} {G G1 : GS} {p0 : Int32} (h : Q_formula p0 G G1) (hp : MP b n G p) (hf : p0.toInt = (f : Int)) (hw : (G.1 66 21).toInt = w) (hw0 : 0 ≤ w) (hw9 : w ≤ 90) : FOM b n f p w G1 := by
  obtain ⟨-, -, -, G5, -, hF5, e19, e20, e23, e24, e71, G21, hun, x, G3, hl, -, -, -, -, -, G48, hj, -, -, hh⟩ := h
  have hc0 : CfM b n f G5 p [] [] 0 w := by
    refine ⟨hp.fr hF5 (by decide) (by decide) (by decide) (by decide), ⟨by rw [e20]; rfl, fun i hi => absurd hi (by simp)⟩, by rw [e24]; rfl, by rw [e23]; rfl, by rw [hF5.i 66 21 (by decide) (by decide)]; exact hw, by rw [e19]; exact hf, ⟨?_, fun i hi => absurd hi (by simp)⟩, hw0, hw9⟩
    rw [e71, cn_eq hf]
    have : upd (G.1 71) f 0 f = 0 := by simp [upd]
    rw [this]
    rfl
  have hi : FI b n f p (true, p, [], [], 0, w) x G3 := by
    refine hl (fun q => FI b n f p (true, p, [], [], 0, w) q.1 q.2) ?_ (fun a a' ha hs => m_fstep hs ha)
    rcases m_unit hun hc0 with ⟨ft, hm, he⟩ | ⟨p2, S2, C2, u2, w2, hc2, hp2, he2⟩
    · exact Or.inl ⟨ft, hm, he⟩
    · exact Or.inr ⟨p2, S2, C2, u2, w2, hc2, hp2, he2, fun q => absurd q (show ¬ (1 : Int32).toInt = 0 by decide)⟩
  clear hl hun hc0
  have e48 : G3 = G48 := by
    rcases hj with ⟨-, e⟩ | ⟨-, -, e⟩ <;> exact e
  rcases hi with ⟨ft, hm, he⟩ | ⟨p', S', C', u', w', hc, hpp, hev, hx0⟩
  · have hpos := hm.pos
    rcases hh with ⟨c, -⟩ | ⟨-, e⟩
    · omega
    · subst e48
      subst e
      exact Or.inl ⟨ft, hm, he⟩
  have hf0 : (G3.1 66 2).toInt = 0 := hc.1.2.2.1.1
  have hx : x.toInt = 0 := by
    rcases hj with ⟨c, -⟩ | ⟨-, c, -⟩
    · exact c
    · exact absurd hf0 c
  obtain ⟨hno, hno2⟩ := hx0 hx
  clear hx0 hj hx
  subst e48
  rcases hh with ⟨-, r, Ga, hb, hh⟩ | ⟨c, -⟩
  · obtain ⟨rfl, qb⟩ := m_hasBracket hb hc.2.1
    rcases hh with ⟨hr, Gb, hcl, rfl⟩ | ⟨hr, Gb, hwr, hh⟩
    · have nb : ¬ (20 : Int) ∈ S' := fun q => (qb.mpr q) hr
      have h1 : CfM b n f Gb p' (clo 0 S' C').1 (clo 0 S' C').2 u' w' := CfM.close hcl hc
      have hsy : syA b n p' S' C' u' w' = .inr (.inr (p', (clo 0 S' C').2, u', w')) := by
        unfold syA
        rw [if_neg hno, if_neg hno2, if_neg nb]
      exact Or.inr ⟨p', _, u', w', h1.1, h1.2.2.2.2.2.2.1, h1.2.2.2.2.1, h1.2.2.2.2.2.2.2.1, h1.2.2.2.2.2.2.2.2, hpp, (hev _).mpr ((Ev_Ar hsy).mpr rfl)⟩
    · have kb := qb.mp hr
      obtain ⟨hm, -⟩ := m_wrong hwr hc.1 (by decide)
      have hsy : syA b n p' S' C' u' w' = .inr (.inl (fl b n 2 p')) := by
        unfold syA
        rw [if_neg hno, if_neg hno2, if_pos kb]
      rcases hh with ⟨c, -⟩ | ⟨-, rfl⟩
      · exact absurd c (by have := hm.pos; omega)
      · exact Or.inl ⟨fl b n 2 p', hm, (hev _).mpr ((Ev_Ar hsy).mpr rfl)⟩
  · exact absurd hf0 c
theorem Ev_one {b : Nat → Int} {n : Nat} {s : FS} {o o' : FO} (h : Ev b n s o) (h' : Ev b n s o') : o = o' := by
  obtain ⟨k, hk⟩ := h
  obtain ⟨k', hk'⟩ := h'
  have key : ∀ (k k' : Nat) (s : FS), itn b n k s = some o → itn b n k' s = some o' → o = o' := by
    intro k
    induction k with
    | zero => intro k' s h1; exact absurd h1 (by simp [itn])
    | succ k ih =>
      intro k' s h1 h2
      cases k' with
      | zero => exact absurd h2 (by simp [itn])
      | succ k' =>
        rw [itn] at h1 h2
        cases hs : sy b n s with
        | inr v =>
          rw [hs] at h1 h2
          exact (Option.some.inj h1).symm.trans (Option.some.inj h2)
        | inl v =>
          rw [hs] at h1 h2
          exact ih k' v h1 h2
  exact key k k' s hk hk'
