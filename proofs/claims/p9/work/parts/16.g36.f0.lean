/-! what a text that is told leaves: RULES well made, not too long */ -/
theorem sy_lt {b : Nat → Int} {n : Nat} {s s' : FS} (hn : n ≤ 1600) (hp : s.2.1 ≤ n) (h : sy b n s = .inl s') : s.2.1 < s'.2.1 ∧ s'.2.1 ≤ n := by
  obtain ⟨m, p, S, C, u, w⟩ := s
  simp only at hp
  have ht := tN_p (b := b) hn hp
  show p < s'.2.1 ∧ s'.2.1 ≤ n
  cases m with
  | true =>
    have h' : syB b n p S C u w = .inl s' := h
    unfold syB at h'
    by_cases c1 : tK b n p = 146 ∧ mno S = true
    · rw [if_pos c1] at h'
      by_cases c2 : 6 < dps S
      · rw [if_pos c2] at h'
        exact absurd h' (by simp)
      · rw [if_neg c2] at h'
        have e := Sum.inl.inj h'
        subst e
        exact ⟨(ht.2.2 (by omega)).1, ht.2.1⟩
    · rw [if_neg c1] at h'
      by_cases c2 : tK b n p = 40
      · rw [if_pos c2] at h'
        by_cases c3 : (w = 90 ∨ u = 30) ∨ 6 < dps S
        · rw [if_pos c3] at h'
          exact absurd h' (by simp)
        · rw [if_neg c3] at h'
          have e := Sum.inl.inj h'
          subst e
          exact ⟨(ht.2.2 (by omega)).1, ht.2.1⟩
      · rw [if_neg c2] at h'
        by_cases c3 : (tK b n p ≠ 201 ∧ ask (tK b n p) < 0) ∨ (w = 90 ∨ u = 30)
        · rw [if_pos c3] at h'
          exact absurd h' (by simp)
        · rw [if_neg c3] at h'
          have e := Sum.inl.inj h'
          subst e
          have hne : tK b n p ≠ 203 := fun q => c3 (Or.inl ⟨by omega, by rw [q]; decide⟩)
          exact ⟨(ht.2.2 hne).1, ht.2.1⟩
  | false =>
    have h' : syA b n p S C u w = .inl s' := h
    unfold syA at h'
    by_cases c1 : tK b n p = 41 ∧ 20 ∈ S
    · rw [if_pos c1] at h'
      have e := Sum.inl.inj h'
      subst e
      exact ⟨(ht.2.2 (by omega)).1, ht.2.1⟩
    · rw [if_neg c1] at h'
      by_cases c2 : sig (tK b n p) ≠ 0 ∧ ¬ (tgt (sig (tK b n p)) = 4 ∧ hrl S = true)
      · rw [if_pos c2] at h'
        have e := Sum.inl.inj h'
        subst e
        exact ⟨(ht.2.2 (sig_n c2.1).2.2).1, ht.2.1⟩
      · rw [if_neg c2] at h'
        by_cases c3 : (20 : Int) ∈ S
        · rw [if_pos c3] at h'
          exact absurd h' (by simp)
        · rw [if_neg c3] at h'
          exact absurd h' (by simp)
theorem Ev_ex {b : Nat → Int} {n : Nat} (hn : n ≤ 1600) : ∀ (k : Nat) (s : FS), s.2.1 ≤ n → n - s.2.1 < k → ∃ o, Ev b n s o
  | 0, _, _, h => absurd h (Nat.not_lt_zero _)
  | k + 1, s, hp, h => by
    cases e : sy b n s with
    | inr o => exact ⟨o, (Ev_r e).mpr rfl⟩
    | inl s' =>
      obtain ⟨h1, h2⟩ := sy_lt hn hp e
      obtain ⟨o, ho⟩ := Ev_ex hn k s' h2 (by omega)
      exact ⟨o, (Ev_i e).mpr ho⟩
theorem pForm_ok {b : Nat → Int} {n p q : Nat} {w : Int} {x : List (Int × Int) × Int} (hn : n ≤ 1600) (hp : p ≤ n) (h : pForm b n w p = .inr (x, q)) : ∃ u, FEnd p q w x.1 u x.2 := by
  obtain ⟨o, ho⟩ := Ev_ex (b := b) hn (n - p + 1) (true, p, [], [], 0, w) hp (by show n - p < n - p + 1; omega)
  cases o with
  | inl f =>
    rw [pForm_l ho] at h
    exact absurd h (by simp)
  | inr t =>
    obtain ⟨p', C, u, w'⟩ := t
    rw [pForm_r ho] at h
    have e := Sum.inr.inj h
    obtain ⟨rfl, rfl⟩ := Prod.mk.inj e
    exact ⟨u, Ev_ok hn hp ho⟩
theorem bnd_inv {α β : Type} {o : Rs α} {k : α → Nat → Rs β} {r : β × Nat} (h : bnd o k = .inr r) : ∃ x q, o = .inr (x, q) ∧ k x q = .inr r := by
  cases o with
  | inl f => exact absurd h (by simp [bnd])
  | inr t =>
    obtain ⟨x, q⟩ := t
    exact ⟨x, q, rfl, h⟩
theorem smi_inv {α : Type} {b : Nat → Int} {n : Nat} {o : Rs α} {x : α} {q : Nat} (h : smi b n o = .inr (x, q)) : ∃ q1, o = .inr (x, q1) ∧ tK b n q1 = 59 ∧ q = tNx b n q1 := by
  unfold smi at h
  obtain ⟨y, q1, h1, h2⟩ := bnd_inv h
  obtain ⟨y2, q2, h3, h4⟩ := bnd_inv h2
  have e := Sum.inr.inj h4
  obtain ⟨rfl, rfl⟩ := Prod.mk.inj e
  refine ⟨q1, h1, ?_, pKw_n h3⟩
  unfold pKw at h3
  by_cases c : tK b n q1 = 59
  · exact c
  · rw [if_neg c] at h3
    exact absurd h3 (by simp)
theorem pName_n {b : Nat → Int} {n p q : Nat} {NS : List (List Int)} {L : List Int} (h : pName b n NS p = .inr (L, q)) : q = tNx b n p := by
  unfold pName at h
  by_cases c : tK b n p ≠ 200
  · rw [if_pos c] at h
    exact absurd h (by simp)
  · rw [if_neg c] at h
    by_cases c2 : tL b n p ∈ NS
    · rw [if_pos c2] at h
      exact absurd h (by simp)
    · rw [if_neg c2] at h
      have e := Sum.inr.inj h
      exact (Prod.mk.inj e).2.symm
def PI (n : Nat) (V : PV) (p : Nat) : Prop := V.2.2.1.length ≤ 6 ∧ 4 * ((fcd V.2.2.1).length : Int) ≤ 8 * V.2.2.2.1 + (p : Int) ∧ V.2.2.2.1 ≤ 90 ∧ p ≤ n ∧ ∀ k, k < V.2.2.1.length → FOK (V.2.2.1.getD k ([], [])).2
theorem PI.ok {n : Nat} {V : PV} {p : Nat} (h : PI n V p) (hn : n ≤ 1600) : PVok V := by
  obtain ⟨h1, h2, h3, h4, h5⟩ := h
  exact ⟨h1, by omega, h5⟩
theorem PI.same {n : Nat} {V V' : PV} {p p' : Nat} (h : PI n V p) (e1 : V'.2.2.1 = V.2.2.1) (e2 : V'.2.2.2.1 = V.2.2.2.1) (hp : p ≤ p') (hp' : p' ≤ n) : PI n V' p' := by
  obtain ⟨h1, h2, h3, h4, h5⟩ := h
  unfold PI
  rw [e1, e2]
  exact ⟨h1, by omega, h3, hp', h5⟩
theorem PI_step {b : Nat → Int} {n p p' : Nat} {V V' : PV} (hn : n ≤ 1600) (h : PI n V p) (hl : pLn b n V p = .inr (V', p')) (hpp : p < p') (hp' : p' ≤ n) (hw : V'.2.2.2.1 ≤ 90) : PI n V' p' := by
  by_cases c1 : tK b n p = 128 ∧ V.1.length < 3
  · rw [pLn_1 c1.1 c1.2] at hl
    obtain ⟨x, q, -, h2⟩ := bnd_inv hl
    obtain ⟨rfl, rfl⟩ := Prod.mk.inj (Sum.inr.inj h2)
    exact h.same rfl rfl (by omega) hp'
  by_cases c2 : tK b n p = 129 ∧ V.2.1.length < 4
  · rw [pLn_2 c2.1 c2.2] at hl
    obtain ⟨x, q, -, h2⟩ := bnd_inv hl
    obtain ⟨rfl, rfl⟩ := Prod.mk.inj (Sum.inr.inj h2)
    exact h.same rfl rfl (by omega) hp'
  by_cases c3 : tK b n p = 134 ∧ V.2.2.1.length < 6
  · rw [pLn_3 c3.1 c3.2] at hl
    obtain ⟨x, q, h1, h2⟩ := bnd_inv hl
    obtain ⟨rfl, rfl⟩ := Prod.mk.inj (Sum.inr.inj h2)
    obtain ⟨q1, h3, h59, eq⟩ := smi_inv h1
    unfold pRule at h3
    obtain ⟨L, q0, h4, h5⟩ := bnd_inv h3
    obtain ⟨y, q2, h6, h7⟩ := bnd_inv h5
    obtain ⟨rfl, rfl⟩ := Prod.mk.inj (Sum.inr.inj h7)
    obtain ⟨g1, g2, g3, g4, g5⟩ := h
    have t1 := tN_p (b := b) hn g4
    have t2 := tN_p (b := b) hn t1.2.1
    have e0 := pName_n h4
    obtain ⟨u, f1, f2, f3, f4, f5, f6, f7, f8, f9⟩ := pForm_ok hn (by omega) h6
    have hq2 : q2 ≤ n := by
      refine Classical.byContradiction (fun w => ?_)
      have r := (rn_p (c := blk) (b := b) (n := n) 1601 q2 (by omega)).1
      have : tK b n q2 = 203 := by
        unfold tK
        rw [if_pos (by show n ≤ tS b n q2; unfold tS; omega)]
      omega
    have t3 := tN_p (b := b) hn hq2
    refine ⟨?_, ?_, hw, hp', fun k hk => ?_⟩
    · show (V.2.2.1 ++ [(L, y.1)]).length ≤ 6
      rw [List.length_append, List.length_singleton]
      omega
    · show 4 * ((fcd (V.2.2.1 ++ [(L, y.1)])).length : Int) ≤ 8 * y.2 + _
      rw [fcd_snoc, List.length_append]
      show 4 * (((fcd V.2.2.1).length + y.1.length : Nat) : Int) ≤ 8 * y.2 + _
      omega
    · have hk' : k < (V.2.2.1 ++ [(L, y.1)]).length := hk
      show FOK ((V.2.2.1 ++ [(L, y.1)]).getD k ([], [])).2
      rw [List.length_append, List.length_singleton] at hk'
      rw [getD_app]
      by_cases hkl : k < V.2.2.1.length
      · rw [if_pos hkl]
        exact g5 k hkl
      · rw [if_neg hkl, show k - V.2.2.1.length = 0 by omega]
        exact ⟨f1, f2, by show nPu y.1 ≤ 30; omega⟩
  by_cases c4 : tK b n p = 135 ∧ V.2.2.2.2.1.isNone = true
  · rw [pLn_4 c4.1 c4.2] at hl
    obtain ⟨x, q, -, h2⟩ := bnd_inv hl
    obtain ⟨rfl, rfl⟩ := Prod.mk.inj (Sum.inr.inj h2)
    exact h.same rfl rfl (by omega) hp'
  by_cases c5 : tK b n p = 136 ∧ V.2.2.2.2.2.1.isNone = true
  · rw [pLn_5 c5.1 c5.2] at hl
    obtain ⟨x, q, -, h2⟩ := bnd_inv hl
    obtain ⟨rfl, rfl⟩ := Prod.mk.inj (Sum.inr.inj h2)
    exact h.same rfl rfl (by omega) hp'
  by_cases c6 : tK b n p = 138 ∧ V.2.2.2.2.2.2.isNone = true
  · rw [pLn_6 c6.1 c6.2] at hl
    obtain ⟨x, q, -, h2⟩ := bnd_inv hl
    obtain ⟨rfl, rfl⟩ := Prod.mk.inj (Sum.inr.inj h2)
    exact h.same rfl rfl (by omega) hp'
  rw [pLn_0 c1 c2 c3 c4 c5 c6] at hl
  exact absurd hl (by simp)
def AP (b : Nat → Int) (n : Nat) (G : GS) : Prop := (∃ f, MF f G ∧ parse b n = .inl f) ∨ (∃ V p, MP b n G p ∧ MV V G ∧ PI n V p ∧ ∀ o, Et (topS b n) (V0, 0) o ↔ Et (topS b n) (V, p) o)
theorem m_readAllP {b : Nat → Int} {n : Nat} {G G1 : GS} (h : Q_readAll G G1) (hn0 : (G.1 66 1).toInt = (n : Int)) (hn : n ≤ 1600) (hT : ∀ j, j < n → (G.1 67 j).toInt = b j ∧ 0 ≤ b j ∧ b j ≤ 255) : (∃ f, parse b n = .inl f ∧ MF f G1) ∨ (∃ V p, parse b n = .inr (V, p) ∧ MV V G1 ∧ (G1.1 66 2).toInt = 0 ∧ (G1.1 66 3).toInt = -1 ∧ PVok V) := by
  obtain ⟨-, -, -, G19, -, hF19, e1, e2, e3, e4, e5, e21, e45, e46, e47, e48, e49, e50, e51, e86, G23, htk, G27, hl, -, -, -, hh⟩ := h
  have hX : XM b n G19 := by
    refine ⟨by rw [e5]; exact hn0, hn, ?_⟩
    rw [hF19.row1 67 (by decide) (by decide)]
    exact hT
  obtain ⟨hX2, hT2⟩ := r_tok (q := 0) hX (by rw [e4]; rfl) (Nat.zero_le n) htk
  have hp0 : MP b n G23 0 := ⟨hX2, hT2, ⟨by rw [htk.2.1.i 66 2 (by decide) (by decide), e2]; rfl, by rw [htk.2.1.i 66 3 (by decide) (by decide), e3]; rfl⟩, Nat.zero_le n⟩
  have hV0 : MV V0 G19 := by
    refine ⟨⟨by rw [e45]; rfl, by decide, fun k hk => absurd hk (Nat.not_lt_zero k), fun s hs => absurd hs (Nat.not_lt_zero s)⟩, ⟨by rw [e46]; rfl, by decide, fun k hk => absurd hk (Nat.not_lt_zero k), fun s hs => absurd hs (Nat.not_lt_zero s)⟩, ⟨by rw [e47]; rfl, by decide, fun k hk => absurd hk (Nat.not_lt_zero k), by rw [e21]; rfl, by decide, by decide, fun s hs => absurd hs (Nat.not_lt_zero s)⟩, ⟨by rw [e86]; rfl, by rw [e86]; rfl, by rw [e86]; rfl⟩, ⟨by rw [e48]; rfl, by rw [e49]; rfl⟩, ?_, by rw [e51]; rfl⟩
    show (G19.1 66 50).toInt = 0
    rw [e50]
    rfl
  have hI : AP b n G27 := hl (fun q => AP b n q) (Or.inr ⟨V0, 0, hp0, hV0.tok htk.2.1, ⟨by decide, by decide, by decide, Nat.zero_le n, fun k hk => absurd hk (Nat.not_lt_zero k)⟩, fun o => Iff.rfl⟩) (by
    rintro Ga Gb hi ⟨Gc, Gd, rfl, rfl, -, -, hf0, hs0, G49, hln, rfl⟩
    rcases hi with ⟨f, hm, -⟩ | ⟨V, p, hp, hV, hP, hE⟩
    · exact absurd hf0 (by have := hm.pos; omega)
    · have k203 : tK b n p ≠ 203 := fun q => hs0 (hp.so.2.2.2.1.mpr q)
      rcases m_line hln hp hV with ⟨f, e, hm⟩ | ⟨V', p', e, hp', hpp, hV'⟩
      · exact Or.inl ⟨f, hm, run_eq ((hE _).mpr ((Et_r (topS_l k203 e)).mpr rfl))⟩
      · exact Or.inr ⟨V', p', hp', hV', PI_step hn hP e hpp hp'.2.2.2 hV'.2.2.1.2.2.2.2.2.1, fun o => (hE o).trans (Et_i (topS_r k203 e))⟩)
  rcases hI with ⟨f, hm, he⟩ | ⟨V, p, hp, hV, hP, hE⟩
  · have hpo := hm.pos
    rcases hh with ⟨c, -⟩ | ⟨-, rfl⟩
    · omega
    · exact Or.inl ⟨f, he, hm⟩
  · have hf0 := hp.k2
    rcases hh with ⟨-, c, rfl⟩ | ⟨c, -⟩
    · exact Or.inr ⟨V, p, run_eq ((hE _).mpr ((Et_r (topS_e (hp.so.2.2.2.1.mp c))).mpr rfl)), hV, hp.2.2.1.1, hp.2.2.1.2, hP.ok hn⟩
    · exact absurd hf0 c
