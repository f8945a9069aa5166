/-! what a text that is told leaves: RULES well made, not too long */ -/
theorem sy_lt {b : Nat → Int} {n : Nat} {s s' : FS} (hn : n ≤ 1600) (hp : s.2.1 ≤ n) (h : sy b n s = .inl s') : s.2.1 < s'.2.1 ∧ s'.2.1 ≤ n := by
  obtain ⟨m, p, S, C, u, w⟩ := s
  simp only at hp
  have ht := tN_p (b := b) hn hp
  show p < s'.2.1 ∧ s'.2.1 ≤ n
  cases m with
  | true =>
    have h' : syB b n p S C u w = .inl s' := h
    unfold syB at h'
    by_cases c1 : tK b n p = 146 ∧ mno S = true
    · rw [if_pos c1] at h'
      by_cases c2 : 6 < dps S
      · rw [if_pos c2] at h'
        exact absurd h' (by simp)
      · rw [if_neg c2] at h'
        have e := Sum.inl.inj h'
        subst e
        exact ⟨(ht.2.2 (by omega)).1, ht.2.1⟩
    · rw [if_neg c1] at h'
      by_cases c2 : tK b n p = 40
      · rw [if_pos c2] at h'
        by_cases c3 : (w = 90 ∨ u = 30) ∨ 6 < dps S
        · rw [if_pos c3] at h'
          exact absurd h' (by simp)
        · rw [if_neg c3] at h'
          have e := Sum.inl.inj h'
          subst e
          exact ⟨(ht.2.2 (by omega)).1, ht.2.1⟩
      · rw [if_neg c2] at h'
        by_cases c3 : (tK b n p ≠ 201 ∧ ask (tK b n p) < 0) ∨ (w = 90 ∨ u = 30)
        · rw [if_pos c3] at h'
          exact absurd h' (by simp)
        · rw [if_neg c3] at h'
          have e := Sum.inl.inj h'
          subst e
          have hne : tK b n p ≠ 203 := fun q => c3 (Or.inl ⟨by omega, by rw [q]; decide⟩)
          exact ⟨(ht.2.2 hne).1, ht.2.1⟩
  | false =>
    have h' : syA b n p S C u w = .inl s' := h
    unfold syA at h'
    by_cases c1 : tK b n p = 41 ∧ 20 ∈ S
    · rw [if_pos c1] at h'
      have e := Sum.inl.inj h'
      subst e
      exact ⟨(ht.2.2 (by omega)).1, ht.2.1⟩
    · rw [if_neg c1] at h'
      by_cases c2 : sig (tK b n p) ≠ 0 ∧ ¬ (tgt (sig (tK b n p)) = 4 ∧ hrl S = true)
      · rw [if_pos c2] at h'
        have e := Sum.inl.inj h'
        subst e
        exact ⟨(ht.2.2 (sig_n c2.1).2.2).1, ht.2.1⟩
      · rw [if_neg c2] at h'
        by_cases c3 : (20 : Int) ∈ S
        · rw [if_pos c3] at h'
          exact absurd h' (by simp)
        · rw [if_neg c3] at h'
          exact absurd h' (by simp)
theorem Ev_ex {b : Nat → Int} {n : Nat} (hn : n ≤ 1600) : ∀ (k : Nat) (s : FS), s.2.1 ≤ n → n - s.2.1 < k → ∃ o, Ev b n s o
  | 0, _, _, h => absurd h (Nat.not_lt_zero _)
  | k + 1, s, hp, h => by
    cases e : sy b n s with
    | inr o => exact ⟨o, (Ev_r e).mpr rfl⟩
    | inl s' =>
      obtain ⟨h1, h2⟩ := sy_lt hn hp e
      obtain ⟨o, ho⟩ := Ev_ex hn k s' h2 (by omega)
      exact ⟨o, (Ev_i e).mpr ho⟩
theorem pForm_ok {b : Nat → Int} {n p q : Nat} {w : Int} {x : List (Int × Int) × Int} (hn : n ≤ 1600) (hp : p ≤ n) (h : pForm b n w p = .inr (x, q)) : ∃ u, FEnd p q w x.1 u x.2 := by
  obtain ⟨o, ho⟩ := Ev_ex (b := b) hn (n - p + 1) (true, p, [], [], 0, w) hp (by show n - p < n - p + 1; omega)
  cases o with
  | inl f =>
    rw [pForm_l ho] at h
    exact absurd h (by simp)
  | inr t =>
    obtain ⟨p', C, u, w'⟩ := t
    rw [pForm_r ho] at h
    have e := Sum.inr.inj h
    obtain ⟨rfl, rfl⟩ := Prod.mk.inj e
    exact ⟨u, Ev_ok hn hp ho⟩
theorem bnd_inv {α β : Type} {o : Rs α} {k : α → Nat → Rs β} {r : β × Nat} (h : bnd o k = .inr r) : ∃ x q, o = .inr (x, q) ∧ k x q = .inr r := by
  cases o with
  | inl f => exact absurd h (by simp [bnd])
  | inr t =>
    obtain ⟨x, q⟩ := t
    exact ⟨x, q, rfl, h⟩
theorem smi_inv {α : Type} {b : Nat → Int} {n : Nat} {o : Rs α} {x : α} {q : Nat} (h : smi b n o = .inr (x, q)) : ∃ q1, o = .inr (x, q1) ∧ tK b n q1 = 59 ∧ q = tNx b n q1 := by
  unfold smi at h
  obtain ⟨y, q1, h1, h2⟩ := bnd_inv h
  obtain ⟨y2, q2, h3, h4⟩ := bnd_inv h2
  have e := Sum.inr.inj h4
  obtain ⟨rfl, rfl⟩ := Prod.mk.inj e
  refine ⟨q1, h1, ?_, pKw_n h3⟩
  unfold pKw at h3
  by_cases c : tK b n q1 = 59
  · exact c
  · rw [if_neg c] at h3
    exact absurd h3 (by simp)
theorem pName_n {b : Nat → Int} {n p q : Nat} {NS : List (List Int)} {L : List Int} (h : pName b n NS p = .inr (L, q)) : q = tNx b n p := by
  unfold pName at h
  by_cases c : tK b n p ≠ 200
  · rw [if_pos c] at h
    exact absurd h (by simp)
  · rw [if_neg c] at h
    by_cases c2 : tL b n p ∈ NS
    · rw [if_pos c2] at h
      exact absurd h (by simp)
    · rw [if_neg c2] at h
      have e := Sum.inr.inj h
      exact (Prod.mk.inj e).2.symm
def PI (n : Nat) (V : PV) (p : Nat) : Prop := V.2.2.1.length ≤ 6 ∧ 4 * ((fcd V.2.2.1).length : Int) ≤ 8 * V.2.2.2.1 + (p : Int) ∧ V.2.2.2.1 ≤ 90 ∧ p ≤ n ∧ ∀ k, k < V.2.2.1.length → FOK (V.2.2.1.getD k ([], [])).2
theorem PI.ok {n : Nat} {V : PV} {p : Nat} (h : PI n V p) (hn : n ≤ 1600) : PVok V := by
  obtain ⟨h1, h2, h3, h4, h5⟩ := h
  exact ⟨h1, by omega, h5⟩
theorem PI.same {n : Nat} {V V' : PV} {p p' : Nat} (h : PI n V p) (e1 : V'.2.2.1 = V.2.2.1) (e2 : V'.2.2.2.1 = V.2.2.2.1) (hp : p ≤ p') (hp' : p' ≤ n) : PI n V' p' := by
  obtain ⟨h1, h2, h3, h4, h5⟩ := h
  unfold PI
  rw [e1, e2]
  exact ⟨h1, by omega, h3, hp', h5⟩
theorem PI_step {b : Nat → Int} {n p p' : Nat} {V V' : PV} (hn : n ≤ 1600) (h : PI n V p) (hl : pLn b n V p = .inr (V', p')) (hpp : p < p') (hp' : p' ≤ n) (hw : V'.2.2.2.1 ≤ 90) : PI n V' p' := by
  by_cases c1 : tK b n p = 128 ∧ V.1.length < 3
  · rw [pLn_1 c1.1 c1.2] at hl
    obtain ⟨x, q, -, h2⟩ := bnd_inv hl
    obtain ⟨rfl, rfl⟩ := Prod.mk.inj (Sum.inr.inj h2)
    exact h.same rfl rfl (by omega) hp'
  by_cases c2 : tK b n p = 129 ∧ V.2.1.length < 4
  · rw [pLn_2 c2.1 c2.2] at hl
    obtain ⟨x, q, -, h2⟩ := bnd_inv hl
    obtain ⟨rfl, rfl⟩ := Prod.mk.inj (Sum.inr.inj h2)
    exact h.same rfl rfl (by omega) hp'
  by_cases c3 : tK b n p = 134 ∧ V.2.2.1.length < 6
  · rw [pLn_3 c3.1 c3.2] at hl
    obtain ⟨x, q, h1, h2⟩ := bnd_inv hl
    obtain ⟨rfl, rfl⟩ := Prod.mk.inj (Sum.inr.inj h2)
    obtain ⟨q1, h3, h59, eq⟩ := smi_inv h1
    unfold pRule at h3
    obtain ⟨L, q0, h4, h5⟩ := bnd_inv h3
    obtain ⟨y, q2, h6, h7⟩ := bnd_inv h5
    obtain ⟨rfl, rfl⟩ := Prod.mk.inj (Sum.inr.inj h7)
    obtain ⟨g1, g2, g3, g4, g5⟩ := h
    have t1 := tN_p (b := b) hn g4
    have t2 := tN_p (b := b) hn t1.2.1
    have e0 := pName_n h4
    obtain ⟨u, f1, f2, f3, f4, f5, f6, f7, f8, f9⟩ := pForm_ok hn (by omega) h6
    have hq2 : q2 ≤ n := by
      refine Classical.byContradiction (fun w => ?_)
      have r := (rn_p (c := blk) (b := b) (n := n) 1601 q2 (by omega)).1
      have : tK b n q2 = 203 := by
        unfold tK
        rw [if_pos (by show n ≤ tS b n q2; unfold tS; omega)]
      omega
    have t3 := tN_p (b := b) hn hq2
    refine ⟨?_, ?_, hw, hp', fun k hk => ?_⟩
    · show (V.2.2.1 ++ [(L, y.1)]).length ≤ 6
      rw [List.length_append, List.length_singleton]
      omega
    · show 4 * ((fcd (V.2.2.1 ++ [(L, y.1)])).length : Int) ≤ 8 * y.2 + _
      rw [fcd_snoc, List.length_append]
      show 4 * (((fcd V.2.2.1).length + y.1.length : Nat) : Int) ≤ 8 * y.2 + _
      omega
    · have hk' : k < (V.2.2.1 ++ [(L, y.1)]).length := hk
      show FOK ((V.2.2.1 ++ [(L, y.1)]).getD k ([], [])).2
      rw [List.length_append, List.length_singleton] at hk'
      rw [getD_app]
      by_cases hkl : k < V.2.2.1.length
      · rw [if_pos hkl]
        exact g5 k hkl
      · rw [if_neg hkl, show k - V.2.2.1.length = 0 by omega]
        exact ⟨f1, f2, by show nPu y.1 ≤ 30; omega⟩
  by_cases c4 : tK b n p = 135 ∧ V.2.2.2.2.1.isNone = true
  · rw [pLn_4 c4.1 c4.2] at hl
    obtain ⟨x, q, -, h2⟩ := bnd_inv hl
    obtain ⟨rfl, rfl⟩ := Prod.mk.inj (Sum.inr.inj h2)
    exact h.same rfl rfl (by omega) hp'
  by_cases c5 : tK b n p = 136 ∧ V.2.2.2.2.2.1.isNone = true
  · rw [pLn_5 c5.1 c5.2] at hl
    obtain ⟨x, q, -, h2⟩ := bnd_inv hl
    obtain ⟨rfl, rfl⟩ := Prod.mk.inj (Sum.inr.inj h2)
    exact h.same rfl rfl (by omega) hp'
  by_cases c6 : tK b n p = 138 ∧ V.2.2.2.2.2.2.isNone = true
  · rw [pLn_6 c6.1 c6.2] at hl
    obtain ⟨x, q, -, h2⟩ := bnd_inv hl
    obtain ⟨rfl, rfl⟩ := Prod.mk.inj (Sum.inr.inj h2)
    exact h.same rfl rfl (by omega) hp'
  rw [pLn_0 c1 c2 c3 c4 c5 c6] at hl
  exact absurd hl (by simp)
def AP (b : Nat → Int) (n : Nat) (G : GS) : Prop := (∃ f, MF f G ∧ parse b n = .inl f) ∨ (∃ V p, MP b n G p ∧ MV V G ∧ PI n V p ∧ ∀ o, Et (topS b n) (V0, 0) o ↔ Et (topS b n) (V, p) o)
theorem m_readAllP {b : Nat → Int} {n : Nat} {G G1 : GS} (h : Q_readAll G G1) (hn0 : (G.1 66 1).toInt = (n : Int)) (hn : n ≤ 1600) (hT : ∀ j, j < n → (G.1 67 j).toInt = b j ∧ 0 ≤ b j ∧ b j ≤ 255) : (∃ f, parse b n = .inl f ∧ MF f G1) ∨ (∃ V p, parse b n = .inr (V, p) ∧ MV V G1 ∧ (G1.1 66 2).toInt = 0 ∧ (G1.1 66 3).toInt = -1 ∧ PVok V) := by
  obtain ⟨-, -, -, G19, -, hF19, e1, e2, e3, e4, e5, e21, e45, e46, e47, e48, e49, e50, e51, e86, G23, htk, G27, hl, -, -, -, hh⟩ := h
  have hX : XM b n G19 := by
    refine ⟨by rw [e5]; exact hn0, hn, ?_⟩
    rw [hF19.row1 67 (by decide) (by decide)]
    exact hT
  obtain ⟨hX2, hT2⟩ := r_tok (q := 0) hX (by rw [e4]; rfl) (Nat.zero_le n) htk
  have hp0 : MP b n G23 0 := ⟨hX2, hT2, ⟨by rw [htk.2.1.i 66 2 (by decide) (by decide), e2]; rfl, by rw [htk.2.1.i 66 3 (by decide) (by decide), e3]; rfl⟩, Nat.zero_le n⟩
  have hV0 : MV V0 G19 := by
    refine ⟨⟨by rw [e45]; rfl, by decide, fun k hk => absurd hk (Nat.not_lt_zero k), fun s hs => absurd hs (Nat.not_lt_zero s)⟩, ⟨by rw [e46]; rfl, by decide, fun k hk => absurd hk (Nat.not_lt_zero k), fun s hs => absurd hs (Nat.not_lt_zero s)⟩, ⟨by rw [e47]; rfl, by decide, fun k hk => absurd hk (Nat.not_lt_zero k), by rw [e21]; rfl, by decide, by decide, fun s hs => absurd hs (Nat.not_lt_zero s)⟩, ⟨by rw [e86]; rfl, by rw [e86]; rfl, by rw [e86]; rfl⟩, ⟨by rw [e48]; rfl, by rw [e49]; rfl⟩, ?_, by rw [e51]; rfl⟩
    show (G19.1 66 50).toInt = 0
    rw [e50]
    rfl
  have hI : AP b n G27 := hl (fun q => AP b n q) (Or.inr ⟨V0, 0, hp0, hV0.tok htk.2.1, ⟨by decide, by decide, by decide, Nat.zero_le n, fun k hk => absurd hk (Nat.not_lt_zero k)⟩, fun o => Iff.rfl⟩) (by
    rintro Ga Gb hi ⟨Gc, Gd, rfl, rfl, -, -, hf0, hs0, G49, hln, rfl⟩
    rcases hi with ⟨f, hm, -⟩ | ⟨V, p, hp, hV, hP, hE⟩
    · exact absurd hf0 (by have := hm.pos; omega)
    · have k203 : tK b n p ≠ 203 := fun q => hs0 (hp.so.2.2.2.1.mpr q)
      rcases m_line hln hp hV with ⟨f, e, hm⟩ | ⟨V', p', e, hp', hpp, hV'⟩
      · exact Or.inl ⟨f, hm, run_eq ((hE _).mpr ((Et_r (topS_l k203 e)).mpr rfl))⟩
      · exact Or.inr ⟨V', p', hp', hV', PI_step hn hP e hpp hp'.2.2.2 hV'.2.2.1.2.2.2.2.2.1, fun o => (hE o).trans (Et_i (topS_r k203 e))⟩)
  rcases hI with ⟨f, hm, he⟩ | ⟨V, p, hp, hV, hP, hE⟩
  · have hpo := hm.pos
    rcases hh with ⟨c, -⟩ | ⟨-, rfl⟩
    · omega
    · exact Or.inl ⟨f, he, hm⟩
  · have hf0 := hp.k2
    rcases hh with ⟨-, c, rfl⟩ | ⟨c, -⟩
    · exact Or.inr ⟨V, p, run_eq ((hE _).mpr ((Et_r (topS_e (hp.so.2.2.2.1.mp c))).mpr rfl)), hV, hp.2.2.1.1, hp.2.2.1.2, hP.ok hn⟩
    · exact absurd hf0 c

/-! who walks, ACTS, BOXES: each side by itself -/
theorem ud_at {f : Nat → Int32} {i : Nat} {v : Int32} : upd f i v i = v := if_pos rfl
theorem ud_no {f : Nat → Int32} {i j : Nat} {v : Int32} (h : j ≠ i) : upd f i v j = f j := if_neg h
theorem cpy_in {f g : Nat → Int32} {sp dp n k : Nat} (h1 : dp ≤ k) (h2 : k < dp + n) : va_cpy f g sp dp n k = f (sp + (k - dp)) := if_pos ⟨h1, h2⟩
theorem cpy_out {f g : Nat → Int32} {sp dp n k : Nat} (h : k < dp ∨ dp + n ≤ k) : va_cpy f g sp dp n k = g k := if_neg (by omega)
theorem z32 : (0 : Int32).toNatClampNeg = 0 ∧ (1 : Int32).toNatClampNeg = 1 ∧ (2 : Int32).toNatClampNeg = 2 ∧ (3 : Int32).toNatClampNeg = 3 ∧ (4 : Int32).toNatClampNeg = 4 ∧ (5 : Int32).toNatClampNeg = 5 ∧ (6 : Int32).toNatClampNeg = 6 ∧ (7 : Int32).toNatClampNeg = 7 ∧ (8 : Int32).toNatClampNeg = 8 ∧ (9 : Int32).toNatClampNeg = 9 ∧ (10 : Int32).toNatClampNeg = 10 ∧ (400 : Int32).toNatClampNeg = 400 := ⟨rfl, rfl, rfl, rfl, rfl, rfl, rfl, rfl, rfl, rfl, rfl, rfl⟩
/-- rows that are copied place by place -/
theorem cp_loop {S : Int32 × GS → Int32 × GS → Prop} {src dst N so dp : Nat} {G G1 : GS} {x : Int32} (hl : Rc S (0, G) (x, G1)) (hS : ∀ (y : Int32) (Gy : GS) (yn : Int32) (Gn : GS), S (y, Gy) (yn, Gn) → ∀ k : Nat, y.toInt = (k : Int) → k < N ∧ yn.toInt = (k : Int) + 1 ∧ Gn.1 dst = upd (Gy.1 dst) (dp + k) (Gy.1 src (so + k)) ∧ Gn.1 src = Gy.1 src) (hx : (N : Int) ≤ x.toInt) : (∀ j, j < N → G1.1 dst (dp + j) = G.1 src (so + j)) ∧ (∀ i, i < dp ∨ dp + N ≤ i → G1.1 dst i = G.1 dst i) ∧ G1.1 src = G.1 src := by
  have hI := hl (fun q => q.2.1 src = G.1 src ∧ ∃ k : Nat, q.1.toInt = (k : Int) ∧ k ≤ N ∧ (∀ j, j < k → q.2.1 dst (dp + j) = G.1 src (so + j)) ∧ ∀ i, i < dp ∨ dp + k ≤ i → q.2.1 dst i = G.1 dst i) ⟨rfl, 0, rfl, Nat.zero_le _, fun j hj => absurd hj (Nat.not_lt_zero j), fun _ _ => rfl⟩ (by
    rintro ⟨y, Gy⟩ ⟨yn, Gn⟩ ⟨i1, k, i2, i3, i4, i5⟩ hs
    simp only at i1 i2 i4 i5
    obtain ⟨s1, s2, s3, s4⟩ := hS y Gy yn Gn hs k i2
    refine ⟨s4.trans i1, k + 1, by show yn.toInt = _; omega, by omega, fun j hj => ?_, fun i hi => ?_⟩
    · show Gn.1 dst (dp + j) = _
      rw [s3, i1]
      by_cases hjk : j = k
      · subst hjk
        exact ud_at
      · rw [ud_no (by omega)]
        exact i4 j (by omega)
    · show Gn.1 dst i = _
      rw [s3, ud_no (by omega)]
      exact i5 i (by omega))
  obtain ⟨i1, k, i2, i3, i4, i5⟩ := hI
  simp only at i1 i2 i4 i5
  have hk : k = N := by omega
  subst hk
  exact ⟨i4, i5, i1⟩
def shd (n : Nat) : Nat := if n < 40 then 0 else 1
theorem shd_r {n : Nat} (h : n ≤ 40) : (n < 40 ∧ shd n = 0) ∨ (n = 40 ∧ shd n = 1) := by
  unfold shd
  by_cases q : n < 40
  · exact Or.inl ⟨q, if_pos q⟩
  · exact Or.inr ⟨by omega, if_neg q⟩
/-- the program keeps an ACT -/
theorem c_keep {G G1 : GS} {n : Nat} (h : P_eKeep G G1) (hn : (G.1 30 4).toInt = (n : Int)) (hn4 : n ≤ 40) : (G1.1 30 4).toInt = ((n + 1 - shd n : Nat) : Int) ∧ (G1.1 30 5).toInt = 0 ∧ (∀ k j, k < n + 1 - shd n → j < 10 → G1.1 59 (10 * k + j) = G.1 59 (10 * (k + shd n) + j)) ∧ ∀ j, j < 10 → G1.1 59 (10 * (n + 1 - shd n) + j) = G.1 58 j := by
  obtain ⟨-, -, -, hh⟩ := h
  obtain ⟨z0, -, -, -, -, -, -, -, -, -, z10, z400⟩ := z32
  rcases hh with ⟨c, y3, t3, y6, t6, hF, e4, e5, e59⟩ | ⟨c, hF, e4, e5, e59⟩
  · rcases shd_r hn4 with ⟨hlt, hs⟩ | ⟨hlt, hs⟩
    · rw [hs, Nat.sub_zero]
      rw [cn_eq (x := y6) (e := 10 * (n + 1)) (by omega), z0, z10] at e59
      refine ⟨by rw [e4]; omega, by rw [e5]; rfl, fun k j hk hj => ?_, fun j hj => ?_⟩
      · rw [e59, cpy_out (by omega), Nat.add_zero]
      · rw [e59, cpy_in (by omega) (by omega), show 0 + (10 * (n + 1) + j - 10 * (n + 1)) = j by omega]
    · omega
  · rcases shd_r hn4 with ⟨hlt, hs⟩ | ⟨hlt, hs⟩
    · omega
    · subst hlt
      rw [hs]
      rw [z0, z10, z400] at e59
      refine ⟨by rw [e4]; rfl, by rw [e5]; rfl, fun k j hk hj => ?_, fun j hj => ?_⟩
      · rw [e59, cpy_out (by omega), cpy_in (by omega) (by omega), show 10 + (10 * k + j - 0) = 10 * (k + 1) + j by omega]
      · rw [e59, cpy_in (by omega) (by omega), show 0 + (10 * (40 + 1 - 1) + j - 400) = j by omega]
theorem m_act1 {G G3 : GS} {x : Int32} {n : Nat} (hl : Rc (St_n_act_1 G) (0, G) (x, G3)) (hx : 10 ≤ x.toInt) (hn : (G.1 66 78).toInt = (n : Int)) : (∀ j, j < 10 → G3.1 111 (16 * n + j) = G.1 110 (0 + j)) ∧ (∀ i, i < 16 * n ∨ 16 * n + 10 ≤ i → G3.1 111 i = G.1 111 i) ∧ G3.1 110 = G.1 110 := by
  refine cp_loop (N := 10) (so := 0) (dp := 16 * n) hl (fun y Gy yn Gn hs k hk => ?_) hx
  obtain ⟨a, b, an, bn, q1, q2, -, -, c, y18, t18, y19, t19, y20, e20, y22, t22, ex, hF, w⟩ := hs
  obtain ⟨rfl, rfl⟩ := Prod.mk.inj q1
  obtain ⟨rfl, rfl⟩ := Prod.mk.inj q2
  rw [cn_eq (x := y19) (e := 16 * n + k) (by omega), e20, cn_eq hk] at w
  refine ⟨by omega, by rw [← ex]; omega, by rw [Nat.zero_add]; exact w, hF.row1 110 (by decide) (by decide)⟩
theorem m_act3 {G G3 : GS} {x y33 : Int32} {n : Nat} (hl : Rc (St_n_act_3 y33) (0, G) (x, G3)) (hx : 10 ≤ x.toInt) (hn : y33.toInt = (n : Int)) : (∀ j, j < 10 → G3.1 111 (16 * n + j) = G.1 110 (0 + j)) ∧ (∀ i, i < 16 * n ∨ 16 * n + 10 ≤ i → G3.1 111 i = G.1 111 i) ∧ G3.1 110 = G.1 110 := by
  refine cp_loop (N := 10) (so := 0) (dp := 16 * n) hl (fun y Gy yn Gn hs k hk => ?_) hx
  obtain ⟨a, b, an, bn, q1, q2, -, -, c, y18, t18, y19, t19, y20, e20, y22, t22, ex, hF, w⟩ := hs
  obtain ⟨rfl, rfl⟩ := Prod.mk.inj q1
  obtain ⟨rfl, rfl⟩ := Prod.mk.inj q2
  rw [cn_eq (x := y19) (e := 16 * n + k) (by omega), e20, cn_eq hk] at w
  refine ⟨by omega, by rw [← ex]; omega, by rw [Nat.zero_add]; exact w, hF.row1 110 (by decide) (by decide)⟩
theorem m_act2 {G G3 : GS} {x : Int32} (hl : Rc St_n_act_2 (0, G) (x, G3)) (hx : 624 ≤ x.toInt) : (∀ i, i < 624 → G3.1 111 i = G.1 111 (16 + i)) ∧ G3.1 110 = G.1 110 := by
  have hI := hl (fun q => q.2.1 110 = G.1 110 ∧ ∃ k : Nat, q.1.toInt = (k : Int) ∧ (∀ i, i < k → q.2.1 111 i = G.1 111 (16 + i)) ∧ ∀ i, k ≤ i → q.2.1 111 i = G.1 111 i) ⟨rfl, 0, rfl, fun j hj => absurd hj (Nat.not_lt_zero j), fun _ _ => rfl⟩ (by
    rintro ⟨y, Gy⟩ ⟨yn, Gn⟩ ⟨i1, k, i2, i4, i5⟩ ⟨a, b, an, bn, q1, q2, -, -, c, y55, t55, y56, e56, y58, t58, ex, hF, w⟩
    obtain ⟨rfl, rfl⟩ := Prod.mk.inj q1
    obtain ⟨rfl, rfl⟩ := Prod.mk.inj q2
    simp only at i1 i2 i4 i5
    rw [cn_eq (x := y55) (e := 16 + k) (by omega)] at e56
    rw [cn_eq i2, e56] at w
    refine ⟨(hF.row1 110 (by decide) (by decide)).trans i1, k + 1, by show yn.toInt = _; rw [← ex]; omega, fun i hi => ?_, fun i hi => ?_⟩
    · show Gn.1 111 i = _
      rw [w]
      by_cases hik : i = k
      · subst hik
        rw [ud_at]
        exact i5 (16 + i) (by omega)
      · rw [ud_no hik]
        exact i4 i (by omega)
    · show Gn.1 111 i = _
      rw [w, ud_no (by omega)]
      exact i5 i (by omega))
  obtain ⟨i1, k, i2, i4, i5⟩ := hI
  simp only at i1 i2 i4
  exact ⟨fun i hi => i4 i (by omega), i1⟩
/-- the reference keeps an ACT: what was ahead of it -/
theorem m_act {G G1 : GS} {n : Nat} (h : Q_act G G1) (hn : (G.1 66 78).toInt = (n : Int)) (hn4 : n ≤ 40) : (G1.1 66 78).toInt = ((n + 1 - shd n : Nat) : Int) ∧ (G1.1 66 79).toInt = 0 ∧ (∀ k j, k + 1 < n + 1 - shd n → j < 10 → G1.1 111 (16 * k + j) = G.1 111 (16 * (k + shd n) + j)) ∧ ∀ j, j < 10 → G1.1 111 (16 * (n - shd n) + j) = G.1 110 j := by
  obtain ⟨-, -, -, hh⟩ := h
  rcases hh with ⟨c, x27, G23, hl2, -, -, -, c2, y33, t33, G34, -, hF34, e34, x39, G35, hl3, -, -, -, c3, y45, t45, hFe, e78, e79⟩ | ⟨c, x7, G3, hl1, -, -, -, c2, y13, t13, hFe, e78, e79⟩
  · rcases shd_r hn4 with ⟨hlt, hs⟩ | ⟨hlt, hs⟩
    · omega
    · subst hlt
      rw [hs]
      obtain ⟨a1, a2⟩ := m_act2 hl2 c2
      obtain ⟨b1, b2, b3⟩ := m_act3 (n := 39) hl3 c3 (by omega)
      have r111 : G1.1 111 = G35.1 111 := hFe.row1 111 (by decide) (by decide)
      refine ⟨by rw [e78]; omega, by rw [e79]; rfl, fun k j hk hj => ?_, fun j hj => ?_⟩
      · rw [r111, b2 _ (by omega), hF34.row1 111 (by decide) (by decide), a1 _ (by omega), show 16 + (16 * k + j) = 16 * (k + 1) + j by omega]
      · rw [r111, show 40 - 1 = 39 from rfl, b1 j hj, Nat.zero_add, hF34.row1 110 (by decide) (by decide), a2]
  · rcases shd_r hn4 with ⟨hlt, hs⟩ | ⟨hlt, hs⟩
    · rw [hs, Nat.sub_zero, Nat.sub_zero]
      obtain ⟨b1, b2, b3⟩ := m_act1 hl1 c2 hn
      have r111 : G1.1 111 = G3.1 111 := hFe.row1 111 (by decide) (by decide)
      refine ⟨by rw [e78]; omega, by rw [e79]; rfl, fun k j hk hj => ?_, fun j hj => ?_⟩
      · rw [r111, b2 _ (by omega), Nat.add_zero]
      · rw [r111, b1 j hj, Nat.zero_add]
    · omega
theorem m_exch {G G1 : GS} {p0 : Int32} {p : Nat} (h : Q_exchange p0 G G1) (hp : p0.toInt = (p : Int)) : (∀ j, j < 10 → G1.1 110 j = G.1 111 (p + j) ∧ G1.1 111 (p + j) = G.1 110 j) ∧ (∀ i, i < p ∨ p + 10 ≤ i → G1.1 111 i = G.1 111 i) := by
  obtain ⟨-, -, x, G2, hl, -, -, -, c, rfl⟩ := h
  have hI := hl (fun q => ∃ k : Nat, q.1.toInt = (k : Int) ∧ k ≤ 10 ∧ (∀ j, j < k → q.2.1 110 j = G.1 111 (p + j) ∧ q.2.1 111 (p + j) = G.1 110 j) ∧ (∀ j, k ≤ j → q.2.1 110 j = G.1 110 j) ∧ ∀ i, i < p ∨ p + k ≤ i → q.2.1 111 i = G.1 111 i) ⟨0, rfl, by decide, fun j hj => absurd hj (Nat.not_lt_zero j), fun _ _ => rfl, fun _ _ => rfl⟩ (by
    rintro ⟨y, Gy⟩ ⟨yn, Gn⟩ ⟨k, i2, i3, i4, i5, i6⟩ ⟨a, b, an, bn, q1, q2, -, -, c1, y11, t11, y12, e12, y13, t13, y14, e14, y17, t17, ex, hF, w0, w1⟩
    obtain ⟨rfl, rfl⟩ := Prod.mk.inj q1
    obtain ⟨rfl, rfl⟩ := Prod.mk.inj q2
    simp only at i2 i4 i5 i6
    rw [cn_eq (x := y11) (e := p + k) (by omega), i6 (p + k) (by omega)] at e12
    rw [cn_eq i2, i5 k (Nat.le_refl k)] at e14
    rw [cn_eq i2, e12] at w0
    rw [cn_eq (x := y13) (e := p + k) (by omega), e14] at w1
    refine ⟨k + 1, by show yn.toInt = _; rw [← ex]; omega, by omega, fun j hj => ?_, fun j hj => ?_, fun i hi => ?_⟩
    · show Gn.1 110 j = _ ∧ Gn.1 111 (p + j) = _
      rw [w0, w1]
      by_cases hjk : j = k
      · subst hjk
        exact ⟨ud_at, ud_at⟩
      · rw [ud_no hjk, ud_no (by omega)]
        exact i4 j (by omega)
    · show Gn.1 110 j = _
      rw [w0, ud_no (by omega)]
      exact i5 j (by omega)
    · show Gn.1 111 i = _
      rw [w1, ud_no (by omega)]
      exact i6 i (by omega))
  obtain ⟨k, i2, i3, i4, i5, i6⟩ := hI
  simp only at i2 i4 i6
  have hk : k = 10 := by omega
  subst hk
  exact ⟨i4, i6⟩
/-! both sides -/
def ROK (V : PV) (v : Nat → Int32) : Prop := ((v 0).toInt = -1 ∨ (0 ≤ (v 0).toInt ∧ (v 0).toInt < (V.2.1.length : Int) ∧ 0 ≤ (v 1).toInt ∧ (v 1).toInt < (V.1.length : Int))) ∧ (0 ≤ (v 6).toInt ∧ (v 6).toInt ≤ 1000) ∧ ((v 9).toInt = 0 ∨ (v 9).toInt = 1) ∧ 0 ≤ (v 8).toInt ∧ (v 8).toInt < 64
theorem ROK.cg {V : PV} {v w : Nat → Int32} (h : ROK V v) (e : ∀ j, j < 10 → w j = v j) : ROK V w := by
  unfold ROK at h ⊢
  rw [e 0 (by decide), e 1 (by decide), e 6 (by decide), e 8 (by decide), e 9 (by decide)]
  exact h
def ERn (V : PV) (G : GS) (n m : Nat) : Prop := ((G.1 30 4).toInt = (n : Int) ∧ (G.1 30 5).toInt = (m : Int) ∧ (G.1 66 78).toInt = (n : Int) ∧ (G.1 66 79).toInt = (m : Int) ∧ n + m ≤ 40) ∧ (∀ j, j < 10 → G.1 110 j = G.1 58 j) ∧ (∀ k, k ≤ n + m → ROK V (fun j => G.1 59 (10 * k + j))) ∧ (∀ j, j < 10 → G.1 59 (10 * n + j) = G.1 58 j) ∧ (∀ k j, k < n → j < 10 → G.1 111 (16 * k + j) = G.1 59 (10 * k + j)) ∧ ∀ k j, n ≤ k → k < n + m → j < 10 → G.1 111 (16 * k + j) = G.1 59 (10 * (k + 1) + j)
def BXs (V : PV) (G : GS) : Prop := ∃ f : Nat, f < 8 ∧ G.1 30 3 = Int32.ofNat f ∧ ∀ b, b < 3 → ((G.1 117 b).toInt ≠ 0 ↔ f.testBit b = true) ∧ (f.testBit b = true → (∀ j, j < 10 → G.1 118 (16 * b + j) = G.1 60 (10 * b + j)) ∧ ROK V (fun j => G.1 60 (10 * b + j)))
def ER (V : PV) (G : GS) : Prop := (∃ n m, ERn V G n m) ∧ BXs V G
theorem ERn.now {V : PV} {G : GS} {n m : Nat} (h : ERn V G n m) : ROK V (G.1 58) := (h.2.2.1 n (by omega)).cg (fun j hj => (h.2.2.2.1 j hj).symm)
theorem ERn.now2 {V : PV} {G : GS} {n m : Nat} (h : ERn V G n m) : ROK V (G.1 110) := h.now.cg (fun j hj => h.2.1 j hj)
/-- nothing of it is touched -/
theorem ERn.fr {V : PV} {G G1 : GS} {n m : Nat} (h : ERn V G n m) (hr : ∀ i, i ∈ [58, 59, 110, 111] → G1.1 i = G.1 i) (hf : ∀ y : Nat × Nat, y ∈ [(30, 4), (30, 5), (66, 78), (66, 79)] → G1.1 y.1 y.2 = G.1 y.1 y.2) : ERn V G1 n m := by
  unfold ERn at h ⊢
  rw [hf (30, 4) (by decide), hf (30, 5) (by decide), hf (66, 78) (by decide), hf (66, 79) (by decide), hr 58 (by decide), hr 59 (by decide), hr 110 (by decide), hr 111 (by decide)]
  exact h
theorem BXs.fr {V : PV} {G G1 : GS} (h : BXs V G) (hr : ∀ i, i ∈ [60, 117, 118] → G1.1 i = G.1 i) (hf : G1.1 30 3 = G.1 30 3) : BXs V G1 := by
  unfold BXs at h ⊢
  rw [hf, hr 60 (by decide), hr 117 (by decide), hr 118 (by decide)]
  exact h
/-- an ACT on both sides: the program's new row w (kept behind it), the reference's of the same places -/
theorem ER_act {V : PV} {G Gc Gd Gm Gn : GS} {n m : Nat} (h : ERn V G n m) (hk : P_eKeep Gc Gd) (hFc : ∀ i, i ∈ [59] → Gc.1 i = G.1 i) (hc4 : Gc.1 30 4 = G.1 30 4) (ha : Q_act Gm Gn) (hm110 : Gm.1 110 = G.1 110) (hm111 : Gm.1 111 = G.1 111) (hm78 : Gm.1 66 78 = G.1 66 78) (hw : ROK V (Gc.1 58)) {Gz : GS} (z58 : Gz.1 58 = Gd.1 58) (z59 : Gz.1 59 = Gd.1 59) (z4 : Gz.1 30 4 = Gd.1 30 4) (z5 : Gz.1 30 5 = Gd.1 30 5) (z111 : Gz.1 111 = Gn.1 111) (z78 : Gz.1 66 78 = Gn.1 66 78) (z79 : Gz.1 66 79 = Gn.1 66 79) (zr : ∀ j, j < 10 → Gz.1 110 j = Gc.1 58 j) : ERn V Gz (n + 1 - shd n) 0 := by
  obtain ⟨⟨h1, h2, h3, h4, h5⟩, h6, h7, h8, h9, h10⟩ := h
  have r58 : Gd.1 58 = Gc.1 58 := hk.2.1.row1 58 (by decide) (by decide)
  have hn4 : n ≤ 40 := by omega
  obtain ⟨k1, k2, k3, k4⟩ := c_keep (n := n) hk (by rw [hc4]; exact h1) hn4
  obtain ⟨m1, m2, m3, m4⟩ := m_act (n := n) ha (by rw [hm78]; exact h3) hn4
  rw [hFc 59 (by decide)] at k3
  rw [hm111] at m3
  rw [hm110] at m4
  have hsh := shd_r hn4
  refine ⟨⟨by rw [z4]; exact k1, by rw [z5]; exact k2, by rw [z78]; exact m1, by rw [z79]; exact m2, by omega⟩, fun j hj => by rw [zr j hj, z58, r58], fun k hkn => ?_, fun j hj => ?_, fun k j hkn hj => ?_, fun k j hk1 hk2 hj => by omega⟩
  · by_cases he : k = n + 1 - shd n
    · subst he
      exact hw.cg (fun j hj => by show Gz.1 59 _ = _; rw [z59]; exact k4 j hj)
    · exact (h7 (k + shd n) (by omega)).cg (fun j hj => by show Gz.1 59 _ = G.1 59 _; rw [z59]; exact k3 k j (by omega) hj)
  · rw [z59, z58, r58]
    exact k4 j hj
  · rw [z111, z59, k3 k j hkn hj]
    by_cases he : k + 1 = n + 1 - shd n
    · have e1 : k = n - shd n := by omega
      have e2 : k + shd n = n := by omega
      rw [e2, h8 j hj, ← h6 j hj, e1]
      exact m4 j hj
    · rw [m3 k j (by omega) hj]
      exact h9 (k + shd n) j (by omega) hj

/-! ACTS, UNDO, REDO, BOXES on both sides */ -/
theorem fr2 {rs rs' : List Nat} {fs fs' : List (Nat × Nat)} {G Ga Gb : GS} (h : Fr rs fs G Ga) (h' : Fr rs' fs' Ga Gb) {L : List Nat} (h1 : ∀ i ∈ L, i ∉ rs ∧ ∀ x ∈ fs, x.1 ≠ i) (h2 : ∀ i ∈ L, i ∉ rs' ∧ ∀ x ∈ fs', x.1 ≠ i) {i : Nat} (hi : i ∈ L) : Gb.1 i = G.1 i := (h'.rows h2 hi).trans (h.rows h1 hi)
theorem ER_ac {V : PV} {rsc rsm rsn : List Nat} {fsc fsm fsn : List (Nat × Nat)} {G Gc Ga Gm Gn Gb : GS} (hE : ER V G) (hFc : Fr rsc fsc G Gc) (hk : P_eKeep Gc Ga) (hFm : Fr rsm fsm Ga Gm) (ha : Q_act Gm Gn) (hFn : Fr rsn fsn Gn Gb) (hw : ROK V (Gc.1 58)) (zr : ∀ j, j < 10 → Gb.1 110 j = Gc.1 58 j) (c1 : (∀ i ∈ [59, 60, 110, 111, 117, 118], i ∉ rsc ∧ ∀ x ∈ fsc, x.1 ≠ i) ∧ ∀ y ∈ [(30, 3), (30, 4), (66, 78)], y.1 ∉ rsc ∧ y ∉ fsc) (c2 : (∀ i ∈ [58, 59, 60, 110, 111, 117, 118], i ∉ rsm ∧ ∀ x ∈ fsm, x.1 ≠ i) ∧ ∀ y ∈ [(30, 3), (30, 4), (30, 5), (66, 78)], y.1 ∉ rsm ∧ y ∉ fsm) (c3 : (∀ i ∈ [58, 59, 60, 111, 117, 118], i ∉ rsn ∧ ∀ x ∈ fsn, x.1 ≠ i) ∧ ∀ y ∈ [(30, 3), (30, 4), (30, 5), (66, 78), (66, 79)], y.1 ∉ rsn ∧ y ∉ fsn) : ER V Gb := by
  obtain ⟨⟨n, m, hE⟩, hB⟩ := hE
  have hFk := hk.2.1
  have hFa := ha.2.1
  have f1 : ∀ {i j : Nat}, (i, j) ∈ [(30, 3), (30, 4), (66, 78)] → Gc.1 i j = G.1 i j := fun q => hFc.i _ _ (c1.2 _ q).1 (c1.2 _ q).2
  have f2 : ∀ {i j : Nat}, (i, j) ∈ [(30, 3), (30, 4), (30, 5), (66, 78)] → Gm.1 i j = Ga.1 i j := fun q => hFm.i _ _ (c2.2 _ q).1 (c2.2 _ q).2
  have f3 : ∀ {i j : Nat}, (i, j) ∈ [(30, 3), (30, 4), (30, 5), (66, 78), (66, 79)] → Gb.1 i j = Gn.1 i j := fun q => hFn.i _ _ (c3.2 _ q).1 (c3.2 _ q).2
  have g1 : ∀ {i : Nat}, i ∈ [59, 60, 110, 111, 117, 118] → Gc.1 i = G.1 i := fun q => hFc.rows c1.1 q
  have g2 : ∀ {i : Nat}, i ∈ [58, 59, 60, 110, 111, 117, 118] → Gm.1 i = Ga.1 i := fun q => hFm.rows c2.1 q
  have g3 : ∀ {i : Nat}, i ∈ [58, 59, 60, 111, 117, 118] → Gb.1 i = Gn.1 i := fun q => hFn.rows c3.1 q
  refine ⟨⟨n + 1 - shd n, 0, ER_act hE hk (fun i hi => ?_) (f1 (by decide)) ha ?_ ?_ ?_ hw ?_ ?_ ?_ ?_ (g3 (by decide)) (f3 (by decide)) (f3 (by decide)) zr⟩, hB.fr (fun i hi => ?_) ?_⟩
  · rcases (by simpa using hi : i = 59) with rfl
    exact g1 (by decide)
  · rw [g2 (by decide), hFk.row1 110 (by decide) (by decide), g1 (by decide)]
  · rw [g2 (by decide), hFk.row1 111 (by decide) (by decide), g1 (by decide)]
  · rw [f2 (by decide), hFk.i 66 78 (by decide) (by decide), f1 (by decide)]
  · rw [g3 (by decide), hFa.row1 58 (by decide) (by decide), g2 (by decide)]
  · rw [g3 (by decide), hFa.row1 59 (by decide) (by decide), g2 (by decide)]
  · rw [f3 (by decide), hFa.i 30 4 (by decide) (by decide), f2 (by decide)]
  · rw [f3 (by decide), hFa.i 30 5 (by decide) (by decide), f2 (by decide)]
  · rcases (by simpa using hi : i = 60 ∨ i = 117 ∨ i = 118) with rfl | rfl | rfl
    · rw [g3 (by decide), hFa.row1 60 (by decide) (by decide), g2 (by decide), hFk.row1 60 (by decide) (by decide), g1 (by decide)]
    · rw [g3 (by decide), hFa.row1 117 (by decide) (by decide), g2 (by decide), hFk.row1 117 (by decide) (by decide), g1 (by decide)]
    · rw [g3 (by decide), hFa.row1 118 (by decide) (by decide), g2 (by decide), hFk.row1 118 (by decide) (by decide), g1 (by decide)]
  · rw [f3 (by decide), hFa.i 30 3 (by decide) (by decide), f2 (by decide), hFk.i 30 3 (by decide) (by decide), f1 (by decide)]
theorem ER.fr {V : PV} {rs : List Nat} {fs : List (Nat × Nat)} {G G1 : GS} (h : ER V G) (hF : Fr rs fs G G1) (h1 : ∀ i ∈ [58, 59, 60, 110, 111, 117, 118], i ∉ rs ∧ ∀ x ∈ fs, x.1 ≠ i) (h2 : ∀ y ∈ [(30, 3), (30, 4), (30, 5), (66, 78), (66, 79)], y.1 ∉ rs ∧ y ∉ fs) : ER V G1 := by
  obtain ⟨⟨n, m, hE⟩, hB⟩ := h
  refine ⟨⟨n, m, hE.fr (fun i hi => hF.rows h1 ?_) (fun y hy => hF.i y.1 y.2 (h2 y ?_).1 (h2 y ?_).2)⟩, hB.fr (fun i hi => hF.rows h1 ?_) (hF.i 30 3 (h2 (30, 3) (by decide)).1 (h2 (30, 3) (by decide)).2)⟩
  · rcases (by simpa using hi : i = 58 ∨ i = 59 ∨ i = 110 ∨ i = 111) with rfl | rfl | rfl | rfl <;> decide
  · rcases (by simpa using hy : y = (30, 4) ∨ y = (30, 5) ∨ y = (66, 78) ∨ y = (66, 79)) with rfl | rfl | rfl | rfl <;> decide
  · rcases (by simpa using hy : y = (30, 4) ∨ y = (30, 5) ∨ y = (66, 78) ∨ y = (66, 79)) with rfl | rfl | rfl | rfl <;> decide
  · rcases (by simpa using hi : i = 60 ∨ i = 117 ∨ i = 118) with rfl | rfl | rfl <;> decide
theorem ROK.sk {V : PV} {v : Nat → Int32} {j : Nat} {x : Int32} (h : ROK V v) (hj : j ≠ 0 ∧ j ≠ 1 ∧ j ≠ 6 ∧ j ≠ 8 ∧ j ≠ 9) : ROK V (upd v j x) := by
  unfold ROK at h ⊢
  rw [ud_no (Ne.symm hj.1), ud_no (Ne.symm hj.2.1), ud_no (Ne.symm hj.2.2.1), ud_no (Ne.symm hj.2.2.2.1), ud_no (Ne.symm hj.2.2.2.2)]
  exact h
theorem ROK.s9 {V : PV} {v : Nat → Int32} {x : Int32} (h : ROK V v) (hx : x.toInt = 0 ∨ x.toInt = 1) : ROK V (upd v 9 x) := by
  unfold ROK at h ⊢
  rw [ud_no (show (0 : Nat) ≠ 9 by decide), ud_no (show (1 : Nat) ≠ 9 by decide), ud_no (show (6 : Nat) ≠ 9 by decide), ud_no (show (8 : Nat) ≠ 9 by decide), ud_at]
  exact ⟨h.1, h.2.1, hx, h.2.2.2⟩
theorem ROK.s6 {V : PV} {v : Nat → Int32} {x : Int32} (h : ROK V v) (hx : 0 ≤ x.toInt ∧ x.toInt ≤ 1000) : ROK V (upd v 6 x) := by
  unfold ROK at h ⊢
  rw [ud_no (show (0 : Nat) ≠ 6 by decide), ud_no (show (1 : Nat) ≠ 6 by decide), ud_no (show (9 : Nat) ≠ 6 by decide), ud_no (show (8 : Nat) ≠ 6 by decide), ud_at]
  exact ⟨h.1, hx, h.2.2⟩
theorem ROK.s8 {V : PV} {v : Nat → Int32} {x : Int32} (h : ROK V v) (hx : 0 ≤ x.toInt ∧ x.toInt < 64) : ROK V (upd v 8 x) := by
  unfold ROK at h ⊢
  rw [ud_no (show (0 : Nat) ≠ 8 by decide), ud_no (show (1 : Nat) ≠ 8 by decide), ud_no (show (9 : Nat) ≠ 8 by decide), ud_no (show (6 : Nat) ≠ 8 by decide), ud_at]
  exact ⟨h.1, h.2.1, h.2.2.1, hx⟩
theorem k_today_eq {r : Int32} {G G1 : GS} (h : P_wToday G r G1) : G = G1 ∧ r = G.1 58 6 := by
  obtain ⟨-, hF, y, e, rfl, -⟩ := h
  exact ⟨hF.nil, e⟩
theorem act_rain {V : PV} {G Ga Gb : GS} {r r' : Int32} (hx : P_Wrain G r Ga) (hm : Q_rain Ga r' Gb) (hE : ER V G) : r.toInt = r'.toInt ∧ ER V Gb := by
  have hFx := hx.2.1
  obtain ⟨-, -, -, -, y1, e1, y2, e2, G3, -, hF3, w3, G5, hk, y9, e9, hh⟩ := hx
  obtain ⟨-, -, -, -, M2, ha, y6, e6, y7, e7, y10, e10, hh2⟩ := hm
  obtain ⟨-, -, -, -, -, -, -, -, -, z9, -, -⟩ := z32
  obtain ⟨n, m, hEn⟩ := hE.1
  rw [z9] at e1 w3 e9 e6 e10 hh2
  rw [ud_at] at e10
  have a110 : M2.1 110 = G.1 110 := (ha.2.1.row1 110 (by decide) (by decide)).trans (hFx.row1 110 (by decide) (by decide))
  have e19 : G.1 110 9 = G.1 58 9 := hEn.2.1 9 (by decide)
  have hv := hEn.now.2.2.1
  have h27 : y7 = y2 ∧ (y2.toInt = 0 ∨ y2.toInt = 1) := by
    rw [e7, e6, a110, e19, e2, e1]
    rcases hv with q | q
    · have e : G.1 58 9 = 0 := Int32.toInt_inj.mp (by rw [q]; rfl)
      rw [e]
      decide
    · have e : G.1 58 9 = 1 := Int32.toInt_inj.mp (by rw [q]; rfl)
      rw [e]
      decide
  have r58 : G5.1 58 = G3.1 58 := hk.2.1.row1 58 (by decide) (by decide)
  have e9' : y9 = y2 := by rw [e9, r58, w3, ud_at]
  have t1 : y9.toInt = y10.toInt := by rw [e9', e10, h27.1]
  have hw : ROK V (G3.1 58) := by
    rw [w3]
    exact hEn.now.s9 h27.2
  have hE2 : ∀ {Gz : GS}, G5 = Ga → Fr [110] [] M2 Gz → Gz.1 110 = upd (M2.1 110) 9 y7 → ER V Gz := by
    intro Gz e hFn w
    subst e
    refine ER_ac (rsm := []) (fsm := []) hE hF3 hk Fr.rf ha hFn hw (fun j hj => ?_) (by decide) (by decide) (by decide)
    rw [w, w3, a110, h27.1]
    by_cases hj9 : j = 9
    · subst hj9
      rw [ud_at, ud_at]
    · rw [ud_no hj9, ud_no hj9]
      exact hEn.2.1 j hj
  rcases hh with ⟨c, e, eG⟩ | ⟨c, e, eG⟩
  · rcases hh2 with ⟨d, e', hFn, w⟩ | ⟨d, e', hFn, w⟩
    · exact ⟨by rw [← e, ← e'], hE2 eG hFn w⟩
    · omega
  · rcases hh2 with ⟨d, e', hFn, w⟩ | ⟨d, e', hFn, w⟩
    · omega
    · exact ⟨by rw [← e, ← e'], hE2 eG hFn w⟩
theorem act_day {V : PV} {G Ga Gb : GS} {r r' : Int32} (hx : P_Wday G r Ga) (hm : Q_day Ga r' Gb) (hE : ER V G) : r.toInt = r'.toInt ∧ ER V Gb := by
  have hFx := hx.2.1
  obtain ⟨-, -, -, r1, G2, htd, hh⟩ := hx
  obtain ⟨rfl, er1⟩ := k_today_eq htd
  obtain ⟨-, -, -, y1, e1, hh2⟩ := hm
  obtain ⟨-, -, -, -, -, -, z6, -, -, -, -, -⟩ := z32
  obtain ⟨n, m, hEn⟩ := hE.1
  have hv := hEn.now.2.1
  have b110 : Ga.1 110 = G.1 110 := hFx.row1 110 (by decide) (by decide)
  have e16 : G.1 110 6 = G.1 58 6 := hEn.2.1 6 (by decide)
  rw [z6, b110, e16] at e1
  rcases hh with ⟨c, y7, e7, y8, e8, G9, -, hF9, w9, G11, hk, r15, G16, htd2, e, eG⟩ | ⟨c, e, eG⟩
  · obtain ⟨e15, er15⟩ := k_today_eq htd2
    rw [z6] at e7 w9
    rw [er1] at c
    rcases hh2 with ⟨d, -⟩ | ⟨d, M4, ha, y8', e8', y9', e9', y12, e12, e', hFn, w⟩
    · rw [e1] at d
      omega
    · rw [z6] at e8' e12 w
      rw [ud_at] at e12
      have eGa : G11 = Ga := e15.trans eG
      subst eGa
      have a110 : M4.1 110 = G.1 110 := (ha.2.1.row1 110 (by decide) (by decide)).trans b110
      have e88 : y9' = y8 := by rw [e9', e8', a110, e16, e8, e7]
      have r58 : G11.1 58 = G9.1 58 := hk.2.1.row1 58 (by decide) (by decide)
      have t8 : y8.toInt = (G.1 58 6).toInt + 1 := by
        have o1 : (1 : Int32).toInt = 1 := rfl
        have := tI_add e8 (by rw [e7, o1]; omega) (by rw [e7, o1]; omega)
        rw [this, e7, o1]
      refine ⟨?_, ER_ac (rsm := []) (fsm := []) hE hF9 hk Fr.rf ha hFn ?_ (fun j hj => ?_) (by decide) (by decide) (by decide)⟩
      · rw [← e, ← e', er15, r58, w9, ud_at, e12, e88]
      · rw [w9]
        exact hEn.now.s6 (by omega)
      · rw [w, w9, a110, e88]
        by_cases hj6 : j = 6
        · subst hj6
          rw [ud_at, ud_at]
        · rw [ud_no hj6, ud_no hj6]
          exact hEn.2.1 j hj
  · subst eG
    rw [er1] at c
    rcases hh2 with ⟨d, e', rfl⟩ | ⟨d, -⟩
    · exact ⟨by rw [← e, ← e'], hE⟩
    · rw [e1] at d
      omega
theorem xor_key : ∀ f : Nat, f < 64 → ∀ k : Nat, k < 6 → 0 ≤ (Int32.ofNat f ^^^ (1 : Int32) <<< (Int32.ofNat k &&& 31)).toInt ∧ (Int32.ofNat f ^^^ (1 : Int32) <<< (Int32.ofNat k &&& 31)).toInt < 64 := by decide +kernel
theorem xor_r {x p : Int32} (h0 : 0 ≤ x.toInt) (h1 : x.toInt < 64) (p0 : 0 ≤ p.toInt) (p1 : p.toInt < 6) : 0 ≤ (x ^^^ (1 : Int32) <<< (p &&& 31)).toInt ∧ (x ^^^ (1 : Int32) <<< (p &&& 31)).toInt < 64 := by
  have := xor_key x.toInt.toNat (by omega) p.toInt.toNat (by omega)
  rw [← nat_i h0, ← nat_i p0] at this
  exact this
-- the rest is written by g2.py
theorem q_isRule {p0 r : Int32} {G G1 : GS} (h : Q_isRule p0 G r G1) : G = G1 ∧ (r.toInt ≠ 0 ↔ (0 ≤ p0.toInt ∧ p0.toInt < (G.1 66 54).toInt)) := by
  obtain ⟨-, hF, -, -, y2, t2, r4, G5, hi, rfl, rfl⟩ := h
  refine ⟨hF.nil, (q_isIn hi).2.trans ⟨fun q => ⟨q.1, by have := q.2; omega⟩, fun q => ⟨q.1, by have := q.2; omega⟩⟩⟩
theorem k_hasRule_1_eq {p0 r : Int32} {G G1 : GS} (h : P_hasRule_1 p0 G r G1) : G = G1 ∧ (r.toInt ≠ 0 ↔ (0 ≤ p0.toInt ∧ p0.toInt < (G.1 1 11).toInt ∧ p0.toInt < 6)) := by
  obtain ⟨-, hF, -, h6, hh⟩ := h
  have z : (0 : Int32).toInt = 0 := rfl
  have o : (1 : Int32).toInt = 1 := rfl
  refine ⟨hF.nil, ?_⟩
  rcases hh with ⟨c, rfl, -⟩ | ⟨c, ⟨d, rfl, -⟩ | ⟨d, rfl, -⟩⟩ <;> omega
theorem act_force_1 {V : PV} {p0 q0 : Int32} {G Ga Gb : GS} {r r' : Int32} (hx : P_Wforce_1 p0 G r Ga) (hm : Q_force q0 Ga r' Gb) (i0 : p0.toInt = q0.toInt) (hW : CW_1 V G) (hR : RV V G) (hE : ER V G) : r.toInt = r'.toInt ∧ ER V Gb := by
  obtain rfl := Int32.toInt_inj.mp i0
  have hFx := hx.2.1
  obtain ⟨-, -, -, r1, G2, hhr, hh⟩ := hx
  obtain ⟨rfl, k1⟩ := k_hasRule_1_eq hhr
  obtain ⟨-, -, -, r1', M2, hir, hh2⟩ := hm
  obtain ⟨rfl, k2⟩ := q_isRule hir
  have b54 : Ga.1 66 54 = G.1 66 54 := hFx.i 66 54 (by decide) (by decide)
  rw [hW.2.2.1.1] at k1
  rw [b54, hR.2.2.1.1] at k2
  have h6 := hR.2.2.1.2.1
  have k12 : r1.toInt ≠ 0 ↔ r1'.toInt ≠ 0 := k1.trans ⟨fun q => k2.mpr ⟨q.1, q.2.1⟩, fun q => by have := k2.mp q; exact ⟨this.1, this.2, by omega⟩⟩
  obtain ⟨-, -, -, -, -, -, -, -, z8, -, -, -⟩ := z32
  obtain ⟨n, m, hEn⟩ := hE.1
  have hv := hEn.now.2.2.2
  have b110 : Ga.1 110 = G.1 110 := hFx.row1 110 (by decide) (by decide)
  have e18 : G.1 110 8 = G.1 58 8 := hEn.2.1 8 (by decide)
  rcases hh with ⟨c, e, eG⟩ | ⟨c, y8, e8, y9, e9, y10, e10, G11, -, hF11, w11, G13, hk, y17, e17, y18, e18', y19, e19, e, eG⟩
  · rcases hh2 with ⟨d, e', eG'⟩ | ⟨d, -⟩
    · subst eG
      subst eG'
      exact ⟨by rw [← e, ← e'], hE⟩
    · exact absurd c (k12.mpr d)
  · rcases hh2 with ⟨d, -⟩ | ⟨d, M9, ha, y13', e13', y14', e14', y15', e15', y18', f18, y19', f19, y20', f20, e', hFn, w⟩
    · exact absurd d (k12.mp c)
    · subst eG
      have kk := k1.mp c
      clear k1 k2 k12
      rw [z8] at e8 w11 e17 e13' f18 w
      rw [ud_at] at f18
      have a110 : M9.1 110 = G.1 110 := (ha.2.1.row1 110 (by decide) (by decide)).trans b110
      have e1510 : y15' = y10 := by rw [e15', e13', e14', a110, e18, e10, e8, e9]
      have r58 : G13.1 58 = G11.1 58 := hk.2.1.row1 58 (by decide) (by decide)
      have e1710 : y17 = y10 := by rw [e17, r58, w11, ud_at]
      refine ⟨?_, ER_ac (rsm := []) (fsm := []) hE hF11 hk Fr.rf ha hFn ?_ (fun j hj => ?_) (by decide) (by decide) (by decide)⟩
      · rw [← e, ← e', e19, e18', e1710, f20, f19, f18, e1510]
      · rw [w11]
        refine hEn.now.s8 ?_
        rw [e10, e9, e8]
        exact xor_r hv.1 hv.2 kk.1 kk.2.2
      · rw [w, w11, a110, e1510]
        by_cases hj8 : j = 8
        · subst hj8
          rw [ud_at, ud_at]
        · rw [ud_no hj8, ud_no hj8]
          exact hEn.2.1 j hj
theorem k_hasRule_2_eq {p0 r : Int32} {G G1 : GS} (h : P_hasRule_2 p0 G r G1) : G = G1 ∧ (r.toInt ≠ 0 ↔ (0 ≤ p0.toInt ∧ p0.toInt < (G.1 2 11).toInt ∧ p0.toInt < 6)) := by
  obtain ⟨-, hF, -, h6, hh⟩ := h
  have z : (0 : Int32).toInt = 0 := rfl
  have o : (1 : Int32).toInt = 1 := rfl
  refine ⟨hF.nil, ?_⟩
  rcases hh with ⟨c, rfl, -⟩ | ⟨c, ⟨d, rfl, -⟩ | ⟨d, rfl, -⟩⟩ <;> omega
theorem act_force_2 {V : PV} {p0 q0 : Int32} {G Ga Gb : GS} {r r' : Int32} (hx : P_Wforce_2 p0 G r Ga) (hm : Q_force q0 Ga r' Gb) (i0 : p0.toInt = q0.toInt) (hW : CW_2 V G) (hR : RV V G) (hE : ER V G) : r.toInt = r'.toInt ∧ ER V Gb := by
  obtain rfl := Int32.toInt_inj.mp i0
  have hFx := hx.2.1
  obtain ⟨-, -, -, r1, G2, hhr, hh⟩ := hx
  obtain ⟨rfl, k1⟩ := k_hasRule_2_eq hhr
  obtain ⟨-, -, -, r1', M2, hir, hh2⟩ := hm
  obtain ⟨rfl, k2⟩ := q_isRule hir
  have b54 : Ga.1 66 54 = G.1 66 54 := hFx.i 66 54 (by decide) (by decide)
  rw [hW.2.2.1.1] at k1
  rw [b54, hR.2.2.1.1] at k2
  have h6 := hR.2.2.1.2.1
  have k12 : r1.toInt ≠ 0 ↔ r1'.toInt ≠ 0 := k1.trans ⟨fun q => k2.mpr ⟨q.1, q.2.1⟩, fun q => by have := k2.mp q; exact ⟨this.1, this.2, by omega⟩⟩
  obtain ⟨-, -, -, -, -, -, -, -, z8, -, -, -⟩ := z32
  obtain ⟨n, m, hEn⟩ := hE.1
  have hv := hEn.now.2.2.2
  have b110 : Ga.1 110 = G.1 110 := hFx.row1 110 (by decide) (by decide)
  have e18 : G.1 110 8 = G.1 58 8 := hEn.2.1 8 (by decide)
  rcases hh with ⟨c, e, eG⟩ | ⟨c, y8, e8, y9, e9, y10, e10, G11, -, hF11, w11, G13, hk, y17, e17, y18, e18', y19, e19, e, eG⟩
  · rcases hh2 with ⟨d, e', eG'⟩ | ⟨d, -⟩
    · subst eG
      subst eG'
      exact ⟨by rw [← e, ← e'], hE⟩
    · exact absurd c (k12.mpr d)
  · rcases hh2 with ⟨d, -⟩ | ⟨d, M9, ha, y13', e13', y14', e14', y15', e15', y18', f18, y19', f19, y20', f20, e', hFn, w⟩
    · exact absurd d (k12.mp c)
    · subst eG
      have kk := k1.mp c
      clear k1 k2 k12
      rw [z8] at e8 w11 e17 e13' f18 w
      rw [ud_at] at f18
      have a110 : M9.1 110 = G.1 110 := (ha.2.1.row1 110 (by decide) (by decide)).trans b110
      have e1510 : y15' = y10 := by rw [e15', e13', e14', a110, e18, e10, e8, e9]
      have r58 : G13.1 58 = G11.1 58 := hk.2.1.row1 58 (by decide) (by decide)
      have e1710 : y17 = y10 := by rw [e17, r58, w11, ud_at]
      refine ⟨?_, ER_ac (rsm := []) (fsm := []) hE hF11 hk Fr.rf ha hFn ?_ (fun j hj => ?_) (by decide) (by decide) (by decide)⟩
      · rw [← e, ← e', e19, e18', e1710, f20, f19, f18, e1510]
      · rw [w11]
        refine hEn.now.s8 ?_
        rw [e10, e9, e8]
        exact xor_r hv.1 hv.2 kk.1 kk.2.2
      · rw [w, w11, a110, e1510]
        by_cases hj8 : j = 8
        · subst hj8
          rw [ud_at, ud_at]
        · rw [ud_no hj8, ud_no hj8]
          exact hEn.2.1 j hj
theorem act_undo {V : PV} {G Ga Gb : GS} {r r' : Int32} (hx : P_Wundo G r Ga) (hm : Q_undo Ga r' Gb) (hE : ER V G) : r.toInt = r'.toInt ∧ ER V Gb := by
  have hFx := hx.2.1
  have hFm := hm.2.1
  obtain ⟨-, -, -, -, r3, G4, hb, rfl, rfl⟩ := hx
  obtain ⟨-, -, -, -, hh⟩ := hb
  obtain ⟨-, -, -, -, hh2⟩ := hm
  obtain ⟨⟨n, m, ⟨h1, h2, h3, h4, h5⟩, h6, h7, h8, h9, h10⟩, hB⟩ := hE
  obtain ⟨z0, -, -, -, -, -, -, -, -, -, z10, -⟩ := z32
  have b78 : G4.1 66 78 = G.1 66 78 := hFx.i 66 78 (by decide) (by decide)
  have b79 : G4.1 66 79 = G.1 66 79 := hFx.i 66 79 (by decide) (by decide)
  have b110 : G4.1 110 = G.1 110 := hFx.row1 110 (by decide) (by decide)
  have b111 : G4.1 111 = G.1 111 := hFx.row1 111 (by decide) (by decide)
  have b59 : G4.1 59 = G.1 59 := hFx.row1 59 (by decide) (by decide)
  rcases hh with ⟨c, y3, t3, y6, t6, y8, t8, e, hF, w4, w5, w58⟩ | ⟨c, e, eG⟩
  · rcases hh2 with ⟨d, -⟩ | ⟨d, y3', t3', y6', t6', y8', t8', M7, -, hF7, v78, v79, M10, hex, e', eM⟩
    · rw [b78] at d
      omega
    · subst eM
      obtain ⟨k, hk⟩ : ∃ k, n = k + 1 := ⟨n - 1, by omega⟩
      subst hk
      rw [b78] at t3'
      rw [b79] at t6'
      obtain ⟨x1, x2⟩ := m_exch (p := 16 * k) hex (by omega)
      rw [hF7.row1 111 (by decide) (by decide), hF7.row1 110 (by decide) (by decide), b111, b110] at x1
      rw [hF7.row1 111 (by decide) (by decide), b111] at x2
      rw [cn_eq (x := y8) (e := 10 * k) (by omega), z0, z10] at w58
      have m30 : ∀ j, M10.1 30 j = G4.1 30 j := fun j => hFm.i 30 j (by decide) (by simp)
      have m58 : M10.1 58 = G4.1 58 := hFm.row1 58 (by decide) (by decide)
      have m59 : M10.1 59 = G.1 59 := (hFm.row1 59 (by decide) (by decide)).trans b59
      have m78 : M10.1 66 78 = M7.1 66 78 := hex.2.1.i 66 78 (by decide) (by decide)
      have m79 : M10.1 66 79 = M7.1 66 79 := hex.2.1.i 66 79 (by decide) (by decide)
      have w58' : ∀ j, j < 10 → M10.1 58 j = G.1 59 (10 * k + j) := fun j hj => by
        rw [m58, w58, cpy_in (by omega) (by omega), show 10 * k + (j - 0) = 10 * k + j by omega]
      refine ⟨by rw [← e, ← e'], ⟨k, m + 1, ⟨?_, ?_, ?_, ?_, by omega⟩, fun j hj => ?_, fun i hi => ?_, fun j hj => ?_, fun i j hi hj => ?_, fun i j hi hi2 hj => ?_⟩, hB.fr (fun i hi => ?_) ?_⟩
      · rw [m30, w4]
        omega
      · rw [m30, w5]
        omega
      · rw [m78, v78]
        omega
      · rw [m79, v79]
        omega
      · rw [w58' j hj, (x1 j hj).1]
        exact h9 k j (by omega) hj
      · rw [m59]
        exact h7 i (by omega)
      · rw [m59, w58' j hj]
      · rw [m59, x2 _ (by omega)]
        exact h9 i j (by omega) hj
      · rw [m59]
        by_cases hik : i = k
        · subst hik
          rw [(x1 j hj).2, h6 j hj]
          exact (h8 j hj).symm
        · rw [x2 _ (by omega)]
          exact h10 i j (by omega) (by omega) hj
      · rcases (by simpa using hi : i = 60 ∨ i = 117 ∨ i = 118) with rfl | rfl | rfl
        · exact (hFm.row1 60 (by decide) (by decide)).trans (hFx.row1 60 (by decide) (by decide))
        · exact (hFm.row1 117 (by decide) (by decide)).trans (hFx.row1 117 (by decide) (by decide))
        · exact (hFm.row1 118 (by decide) (by decide)).trans (hFx.row1 118 (by decide) (by decide))
      · exact (hFm.i 30 3 (by decide) (by decide)).trans (hFx.i 30 3 (by decide) (by decide))
  · subst eG
    rcases hh2 with ⟨d, e', rfl⟩ | ⟨d, -⟩
    · exact ⟨by rw [← e, ← e'], ⟨n, m, ⟨h1, h2, h3, h4, h5⟩, h6, h7, h8, h9, h10⟩, hB⟩
    · omega
theorem act_redo {V : PV} {G Ga Gb : GS} {r r' : Int32} (hx : P_Wredo G r Ga) (hm : Q_redo Ga r' Gb) (hE : ER V G) : r.toInt = r'.toInt ∧ ER V Gb := by
  have hFx := hx.2.1
  have hFm := hm.2.1
  obtain ⟨-, -, -, -, r3, G4, hb, rfl, rfl⟩ := hx
  obtain ⟨-, -, -, -, hh⟩ := hb
  obtain ⟨-, -, -, -, hh2⟩ := hm
  obtain ⟨⟨n, m, ⟨h1, h2, h3, h4, h5⟩, h6, h7, h8, h9, h10⟩, hB⟩ := hE
  obtain ⟨z0, -, -, -, -, -, -, -, -, -, z10, -⟩ := z32
  have b78 : G4.1 66 78 = G.1 66 78 := hFx.i 66 78 (by decide) (by decide)
  have b79 : G4.1 66 79 = G.1 66 79 := hFx.i 66 79 (by decide) (by decide)
  have b110 : G4.1 110 = G.1 110 := hFx.row1 110 (by decide) (by decide)
  have b111 : G4.1 111 = G.1 111 := hFx.row1 111 (by decide) (by decide)
  have b59 : G4.1 59 = G.1 59 := hFx.row1 59 (by decide) (by decide)
  rcases hh with ⟨c, y4, t4, y6, t6, y8, t8, e, hF, w4, w5, w58⟩ | ⟨c, e, eG⟩
  · rcases hh2 with ⟨d, -⟩ | ⟨d, y4', t4', M6, hex, y10', t10', y12', t12', e', hFe, v78, v79⟩
    · rw [b79] at d
      omega
    · obtain ⟨k, hk⟩ : ∃ k, m = k + 1 := ⟨m - 1, by omega⟩
      subst hk
      rw [b78] at t4' t10'
      rw [b79] at t12'
      obtain ⟨x1, x2⟩ := m_exch (p := 16 * n) hex (by omega)
      rw [b111, b110] at x1
      rw [b111] at x2
      rw [cn_eq (x := y8) (e := 10 * (n + 1)) (by omega), z0, z10] at w58
      have m30 : ∀ j, Gb.1 30 j = G4.1 30 j := fun j => hFm.i 30 j (by decide) (by simp)
      have m58 : Gb.1 58 = G4.1 58 := hFm.row1 58 (by decide) (by decide)
      have m59 : Gb.1 59 = G.1 59 := (hFm.row1 59 (by decide) (by decide)).trans b59
      have m110 : Gb.1 110 = M6.1 110 := hFe.row1 110 (by decide) (by decide)
      have m111 : Gb.1 111 = M6.1 111 := hFe.row1 111 (by decide) (by decide)
      have w58' : ∀ j, j < 10 → Gb.1 58 j = G.1 59 (10 * (n + 1) + j) := fun j hj => by
        rw [m58, w58, cpy_in (by omega) (by omega), show 10 * (n + 1) + (j - 0) = 10 * (n + 1) + j by omega]
      refine ⟨by rw [← e, ← e'], ⟨n + 1, k, ⟨?_, ?_, ?_, ?_, by omega⟩, fun j hj => ?_, fun i hi => ?_, fun j hj => ?_, fun i j hi hj => ?_, fun i j hi hi2 hj => ?_⟩, hB.fr (fun i hi => ?_) ?_⟩
      · rw [m30, w4]
        omega
      · rw [m30, w5]
        omega
      · rw [v78]
        omega
      · rw [v79]
        omega
      · rw [w58' j hj, m110, (x1 j hj).1]
        exact h10 n j (Nat.le_refl n) (by omega) hj
      · rw [m59]
        exact h7 i (by omega)
      · rw [m59, w58' j hj]
      · rw [m59, m111]
        by_cases hik : i = n
        · subst hik
          rw [(x1 j hj).2, h6 j hj]
          exact (h8 j hj).symm
        · rw [x2 _ (by omega)]
          exact h9 i j (by omega) hj
      · rw [m59, m111, x2 _ (by omega)]
        exact h10 i j (by omega) (by omega) hj
      · rcases (by simpa using hi : i = 60 ∨ i = 117 ∨ i = 118) with rfl | rfl | rfl
        · exact (hFm.row1 60 (by decide) (by decide)).trans (hFx.row1 60 (by decide) (by decide))
        · exact (hFm.row1 117 (by decide) (by decide)).trans (hFx.row1 117 (by decide) (by decide))
        · exact (hFm.row1 118 (by decide) (by decide)).trans (hFx.row1 118 (by decide) (by decide))
      · exact (hFm.i 30 3 (by decide) (by decide)).trans (hFx.i 30 3 (by decide) (by decide))
  · subst eG
    rcases hh2 with ⟨d, e', rfl⟩ | ⟨d, -⟩
    · exact ⟨by rw [← e, ← e'], ⟨n, m, ⟨h1, h2, h3, h4, h5⟩, h6, h7, h8, h9, h10⟩, hB⟩
    · omega
theorem q_isBox {p0 r : Int32} {G G1 : GS} (h : Q_isBox p0 G r G1) : G = G1 ∧ (r.toInt ≠ 0 ↔ (0 ≤ p0.toInt ∧ p0.toInt < 3)) := by
  obtain ⟨-, hF, -, -, hh⟩ := h
  have z : (0 : Int32).toInt = 0 := rfl
  have o : (1 : Int32).toInt = 1 := rfl
  refine ⟨hF.nil, ?_⟩
  rcases hh with ⟨c, rfl, -⟩ | ⟨c, ⟨d, rfl, -⟩ | ⟨d, rfl, -⟩⟩ <;> omega
theorem box_set : ∀ f : Nat, f < 8 → ∀ b : Nat, b < 3 → (Int32.ofNat f ||| (1 : Int32) <<< (Int32.ofNat b &&& 31)) = Int32.ofNat (f ||| 2 ^ b) ∧ f ||| 2 ^ b < 8 ∧ ∀ c : Nat, c < 3 → ((f ||| 2 ^ b).testBit c = true ↔ (c = b ∨ f.testBit c = true)) := by decide +kernel
theorem box_get : ∀ f : Nat, f < 8 → ∀ b : Nat, b < 3 → (((Int32.ofNat f >>> (Int32.ofNat b &&& 31)) &&& 1).toInt ≠ 0 ↔ f.testBit b = true) := by decide +kernel
theorem m_imgl {p0 x : Int32} {G G1 : GS} {b : Nat} (hl : Rc (St_n_image_1 p0) (0, G) (x, G1)) (hx : 10 ≤ x.toInt) (hp : p0.toInt = (b : Int)) : (∀ j, j < 10 → G1.1 118 (16 * b + j) = G.1 110 (0 + j)) ∧ (∀ i, i < 16 * b ∨ 16 * b + 10 ≤ i → G1.1 118 i = G.1 118 i) ∧ G1.1 110 = G.1 110 := by
  refine cp_loop (N := 10) (so := 0) (dp := 16 * b) hl (fun y Gy yn Gn hs k hk => ?_) hx
  obtain ⟨a, b', an, bn, q1, q2, -, -, c, y24, t24, y25, t25, y26, e26, y28, t28, ex, hF, w⟩ := hs
  obtain ⟨rfl, rfl⟩ := Prod.mk.inj q1
  obtain ⟨rfl, rfl⟩ := Prod.mk.inj q2
  rw [cn_eq (x := y25) (e := 16 * b + k) (by omega), e26, cn_eq hk] at w
  refine ⟨by omega, by rw [← ex]; omega, by rw [Nat.zero_add]; exact w, hF.row1 110 (by decide) (by decide)⟩
theorem m_backl {p0 x : Int32} {G G1 : GS} {b : Nat} (hl : Rc (St_n_back_1 p0) (0, G) (x, G1)) (hx : 10 ≤ x.toInt) (hp : p0.toInt = (b : Int)) : (∀ j, j < 10 → G1.1 110 (0 + j) = G.1 118 (16 * b + j)) ∧ (∀ i, i < 0 ∨ 0 + 10 ≤ i → G1.1 110 i = G.1 110 i) ∧ G1.1 118 = G.1 118 := by
  refine cp_loop (N := 10) (so := 16 * b) (dp := 0) hl (fun y Gy yn Gn hs k hk => ?_) hx
  obtain ⟨a, b', an, bn, q1, q2, -, -, c, y29, t29, y30, t30, y31, e31, y33, t33, ex, hF, w⟩ := hs
  obtain ⟨rfl, rfl⟩ := Prod.mk.inj q1
  obtain ⟨rfl, rfl⟩ := Prod.mk.inj q2
  rw [cn_eq (x := y30) (e := 16 * b + k) (by omega)] at e31
  rw [e31, cn_eq hk] at w
  refine ⟨by omega, by rw [← ex]; omega, by rw [Nat.zero_add]; exact w, hF.row1 118 (by decide) (by decide)⟩
theorem act_image {V : PV} {p0 q0 : Int32} {G Ga Gb : GS} {r r' : Int32} (hx : P_Wimage p0 G r Ga) (hm : Q_image q0 Ga r' Gb) (i0 : p0.toInt = q0.toInt) (hE : ER V G) : r.toInt = r'.toInt ∧ ER V Gb := by
  obtain rfl := Int32.toInt_inj.mp i0
  have hFx := hx.2.1
  have hFm := hm.2.1
  obtain ⟨-, -, -, r3, G4, hin, hh⟩ := hx
  obtain ⟨-, -, -, -, hin⟩ := hin
  obtain ⟨-, -, -, r1, M2, hib, hh2⟩ := hm
  obtain ⟨rfl, k2⟩ := q_isBox hib
  obtain ⟨⟨n, m, hEn⟩, hB⟩ := hE
  obtain ⟨z0, -, -, -, -, -, z6, -, -, -, z10, -⟩ := z32
  have b110 : Ga.1 110 = G.1 110 := hFx.row1 110 (by decide) (by decide)
  have e16 : G.1 110 6 = G.1 58 6 := hEn.2.1 6 (by decide)
  have out : G = G4 → r3.toInt = 0 → ¬ (0 ≤ p0.toInt ∧ p0.toInt < 3) → r.toInt = r'.toInt ∧ ER V Gb := by
    intro e4 h0 hno
    have hr1 : r1.toInt = 0 := Classical.byContradiction (fun w => hno (k2.mp w))
    rcases hh with ⟨-, e, eG⟩ | ⟨c, -⟩
    · rcases hh2 with ⟨-, e', eG'⟩ | ⟨c', -⟩
      · subst e4
        subst eG
        subst eG'
        exact ⟨by rw [← e, ← e'], ⟨n, m, hEn⟩, hB⟩
      · exact absurd hr1 c'
    · exact absurd h0 c
  rcases hin with ⟨c, e, e4⟩ | ⟨c, ⟨d, y5, t5, y9, e9, y10, e10, e3, hF4, w3, w60⟩ | ⟨d, e, e4⟩⟩
  · exact out e4 (by rw [← e]; rfl) (by omega)
  · have hr1 : r1.toInt ≠ 0 := k2.mpr ⟨c, d⟩
    clear k2 out
    have h31 : r3.toInt ≠ 0 := by rw [← e3]; decide
    rcases hh with ⟨c1, -⟩ | ⟨-, r12, G13, htd, e, eG⟩
    · exact absurd c1 h31
    rcases hh2 with ⟨c1, -⟩ | ⟨-, M8, -, hF8, w117, x13, M9, hl, -, -, hF9, c13, y19, e19, e', eG'⟩
    · exact absurd c1 hr1
    obtain ⟨e13, er12⟩ := k_today_eq htd
    have eGa : G4 = Ga := e13.trans eG
    subst eGa
    subst eG'
    obtain ⟨b, hb⟩ : ∃ b : Nat, p0.toInt = (b : Int) := ⟨p0.toInt.toNat, by omega⟩
    obtain ⟨l1, l2, l3⟩ := m_imgl hl c13 hb
    rw [hF8.row1 110 (by decide) (by decide), b110] at l1 l3
    rw [hF8.row1 118 (by decide) (by decide), hFx.row1 118 (by decide) (by decide)] at l2
    rw [z6, l3, e16] at e19
    rw [cn_eq (x := y5) (e := 10 * b) (by omega), z0, z10] at w60
    obtain ⟨f, hf8, hf, hBx⟩ := hB
    have ep : p0 = Int32.ofNat b := by
      rw [nat_i (x := p0) c, hb]
      rfl
    obtain ⟨s1, s2, s3⟩ := box_set f hf8 b (by omega)
    rw [cn_eq hb, hFx.row1 117 (by decide) (by decide)] at w117
    have m117 : M9.1 117 = upd (G.1 117) b (vp_nar .boolean 1) := (hF9.row1 117 (by decide) (by decide)).trans w117
    have m60 : M9.1 60 = va_cpy (G.1 58) (G.1 60) 0 (10 * b) 10 := (hFm.row1 60 (by decide) (by decide)).trans w60
    refine ⟨?_, ⟨n, m, hEn.fr (fun i hi => ?_) (fun y hy => ?_)⟩, f ||| 2 ^ b, s2, ?_, fun b' hb' => ⟨?_, fun q => ⟨fun j hj => ?_, ?_⟩⟩⟩
    · rw [← e, ← e', er12, e19, hF4.row1 58 (by decide) (by decide)]
    · rcases (by simpa using hi : i = 58 ∨ i = 59 ∨ i = 110 ∨ i = 111) with rfl | rfl | rfl | rfl
      · exact (hFm.row1 58 (by decide) (by decide)).trans (hFx.row1 58 (by decide) (by decide))
      · exact (hFm.row1 59 (by decide) (by decide)).trans (hFx.row1 59 (by decide) (by decide))
      · exact (hFm.row1 110 (by decide) (by decide)).trans (hFx.row1 110 (by decide) (by decide))
      · exact (hFm.row1 111 (by decide) (by decide)).trans (hFx.row1 111 (by decide) (by decide))
    · rcases (by simpa using hy : y = (30, 4) ∨ y = (30, 5) ∨ y = (66, 78) ∨ y = (66, 79)) with rfl | rfl | rfl | rfl
      · exact (hFm.i 30 4 (by decide) (by decide)).trans (hFx.i 30 4 (by decide) (by decide))
      · exact (hFm.i 30 5 (by decide) (by decide)).trans (hFx.i 30 5 (by decide) (by decide))
      · exact (hFm.i 66 78 (by decide) (by decide)).trans (hFx.i 66 78 (by decide) (by decide))
      · exact (hFm.i 66 79 (by decide) (by decide)).trans (hFx.i 66 79 (by decide) (by decide))
    · rw [hFm.i 30 3 (by decide) (by decide), w3, e10, e9, hf, ep]
      exact s1
    · rw [m117]
      by_cases hbb : b' = b
      · subst hbb
        rw [ud_at]
        exact ⟨fun _ => (s3 b' hb').mpr (Or.inl rfl), fun _ => by decide⟩
      · rw [ud_no hbb]
        exact ((hBx b' hb').1).trans ⟨fun q => (s3 b' hb').mpr (Or.inr q), fun q => ((s3 b' hb').mp q).resolve_left hbb⟩
    · rw [m60]
      by_cases hbb : b' = b
      · subst hbb
        rw [l1 j hj, cpy_in (by omega) (by omega), Nat.zero_add, show 0 + (10 * b' + j - 10 * b') = j by omega]
        exact hEn.2.1 j hj
      · rw [l2 _ (by omega), cpy_out (by omega)]
        exact ((hBx b' hb').2 (((s3 b' hb').mp q).resolve_left hbb)).1 j hj
    · by_cases hbb : b' = b
      · subst hbb
        refine hEn.now.cg (fun j hj => ?_)
        show M9.1 60 (10 * b' + j) = _
        rw [m60, cpy_in (by omega) (by omega), show 0 + (10 * b' + j - 10 * b') = j by omega]
      · refine ((hBx b' hb').2 (((s3 b' hb').mp q).resolve_left hbb)).2.cg (fun j hj => ?_)
        show M9.1 60 (10 * b' + j) = _
        rw [m60, cpy_out (by omega)]
  · exact out e4 (by rw [← e]; rfl) (by omega)
theorem act_back {V : PV} {p0 q0 : Int32} {G Ga Gb : GS} {r r' : Int32} (hx : P_Wback p0 G r Ga) (hm : Q_back q0 Ga r' Gb) (i0 : p0.toInt = q0.toInt) (hE : ER V G) : r.toInt = r'.toInt ∧ ER V Gb := by
  obtain rfl := Int32.toInt_inj.mp i0
  have hFx := hx.2.1
  have hFm := hm.2.1
  obtain ⟨-, -, -, r3, G4, hin, hh⟩ := hx
  obtain ⟨-, -, -, -, hin⟩ := hin
  obtain ⟨-, -, -, r1, M2, hib, hh2⟩ := hm
  obtain ⟨rfl, k2⟩ := q_isBox hib
  obtain ⟨⟨n, m, hEn⟩, hB⟩ := hE
  obtain ⟨z0, -, -, -, -, -, z6, -, -, -, z10, -⟩ := z32
  obtain ⟨f, hf8, hf, hBx⟩ := hB
  have b117 : Ga.1 117 = G.1 117 := hFx.row1 117 (by decide) (by decide)
  have b118 : Ga.1 118 = G.1 118 := hFx.row1 118 (by decide) (by decide)
  have out : G = G4 → r3.toInt = 0 → (r1.toInt ≠ 0 → (G.1 117 p0.toNatClampNeg).toInt = 0) → r.toInt = r'.toInt ∧ ER V Gb := by
    intro e4 h0 hno
    rcases hh with ⟨-, e, eG⟩ | ⟨c, -⟩
    · subst e4
      subst eG
      rcases hh2 with ⟨-, e', eG'⟩ | ⟨c', y12, e12, ⟨-, e', eG'⟩ | ⟨d, -⟩⟩
      · subst eG'
        exact ⟨by rw [← e, ← e'], ⟨n, m, hEn⟩, f, hf8, hf, hBx⟩
      · subst eG'
        exact ⟨by rw [← e, ← e'], ⟨n, m, hEn⟩, f, hf8, hf, hBx⟩
      · rw [e12] at d
        exact absurd (hno c') d
    · exact absurd h0 c
  rcases hin with ⟨c, e, e4⟩ | ⟨c, ⟨d, e, e4⟩ | ⟨d, y7, e7, y8, e8, hin⟩⟩
  · exact out e4 (by rw [← e]; rfl) (fun w => absurd (k2.mp w) (by omega))
  · exact out e4 (by rw [← e]; rfl) (fun w => absurd (k2.mp w) (by omega))
  · have hr1 : r1.toInt ≠ 0 := k2.mpr ⟨c, d⟩
    clear k2
    obtain ⟨b, hb⟩ : ∃ b : Nat, p0.toInt = (b : Int) := ⟨p0.toInt.toNat, by omega⟩
    have ep : p0 = Int32.ofNat b := by
      rw [nat_i (x := p0) c, hb]
      rfl
    have hg := box_get f hf8 b (by omega)
    rw [hf, ep] at e7
    rw [e7] at e8
    rw [← e8] at hg
    have hbx := hBx b (by omega)
    rcases hin with ⟨g, e, e4⟩ | ⟨g, y10, t10, G11, -, hF11, w58, G15, hfo, e3, eG⟩
    · refine out e4 (by rw [← e]; rfl) (fun _ => ?_)
      rw [cn_eq hb]
      exact Classical.byContradiction (fun w => (hg.mpr (hbx.1.mp w)) g)
    · clear out
      have hbit := hg.mp g
      obtain ⟨hrow, hrok⟩ := hbx.2 hbit
      have h117 : (G.1 117 b).toInt ≠ 0 := hbx.1.mpr hbit
      have h31 : r3.toInt ≠ 0 := by rw [← e3]; decide
      subst eG
      rcases hh with ⟨c1, -⟩ | ⟨-, r12, G13, htd, e, eG⟩
      · exact absurd c1 h31
      rcases hh2 with ⟨c1, -⟩ | ⟨-, y12, e12, ⟨c1, -⟩ | ⟨-, x18, M14, hl, -, -, hF14, c18, y26, e26, e', hFe, v78, v79⟩⟩
      · exact absurd c1 hr1
      · rw [e12, cn_eq hb, b117] at c1
        exact absurd c1 h117
      obtain ⟨e13, er12⟩ := k_today_eq htd
      have eGa : G15 = Ga := e13.trans eG
      subst eGa
      obtain ⟨l1, l2, l3⟩ := m_backl hl c18 hb
      rw [b118] at l1
      obtain ⟨-, hFf, -, -, f4, f5, f59⟩ := hfo
      rw [cn_eq (x := y10) (e := 10 * b) (by omega), z0, z10] at w58
      rw [z0, z10] at f59
      have m58 : Gb.1 58 = G11.1 58 := (hFm.row1 58 (by decide) (by decide)).trans (hFf.row1 58 (by decide) (by decide))
      have m59 : Gb.1 59 = G15.1 59 := hFm.row1 59 (by decide) (by decide)
      have m110 : Gb.1 110 = M14.1 110 := hFe.row1 110 (by decide) (by decide)
      have w58' : ∀ j, j < 10 → Gb.1 58 j = G.1 60 (10 * b + j) := fun j hj => by
        rw [m58, w58, cpy_in (by omega) (by omega), show 10 * b + (j - 0) = 10 * b + j by omega]
      have w110 : ∀ j, j < 10 → Gb.1 110 j = Gb.1 58 j := fun j hj => by
        have := l1 j hj
        rw [Nat.zero_add] at this
        rw [m110, this, w58' j hj]
        exact hrow j hj
      have w59 : ∀ j, j < 10 → Gb.1 59 j = Gb.1 58 j := fun j hj => by
        rw [m59, f59, cpy_in (by omega) (by omega), m58, show 0 + (j - 0) = j by omega]
      refine ⟨?_, ⟨0, 0, ⟨?_, ?_, ?_, ?_, by decide⟩, w110, fun k hk => ?_, fun j hj => ?_, fun k j hk => absurd hk (Nat.not_lt_zero k), fun k j hk hk2 => absurd hk2 (Nat.not_lt_zero k)⟩, BXs.fr (G := G) ⟨f, hf8, hf, hBx⟩ (fun i hi => ?_) ?_⟩
      · rw [← e, ← e', er12, e26, z6, ← m110, w110 6 (by decide), hFm.row1 58 (by decide) (by decide)]
      · rw [hFm.i 30 4 (by decide) (by decide), f4]
        rfl
      · rw [hFm.i 30 5 (by decide) (by decide), f5]
        rfl
      · rw [v78]
        rfl
      · rw [v79]
        rfl
      · have hk0 : k = 0 := by omega
        subst hk0
        refine hrok.cg (fun j hj => ?_)
        show Gb.1 59 (10 * 0 + j) = G.1 60 (10 * b + j)
        rw [show 10 * 0 + j = j by omega, w59 j hj, w58' j hj]
      · rw [show 10 * 0 + j = j by omega]
        exact w59 j hj
      · rcases (by simpa using hi : i = 60 ∨ i = 117 ∨ i = 118) with rfl | rfl | rfl
        · exact (hFm.row1 60 (by decide) (by decide)).trans (hFx.row1 60 (by decide) (by decide))
        · exact (hFm.row1 117 (by decide) (by decide)).trans (hFx.row1 117 (by decide) (by decide))
        · exact (hFm.row1 118 (by decide) (by decide)).trans (hFx.row1 118 (by decide) (by decide))
      · exact (hFm.i 30 3 (by decide) (by decide)).trans (hFx.i 30 3 (by decide) (by decide))
theorem walker_eq {V : PV} {p0 q0 : Int32} {G Ga Gb : GS} {r r' : Int32} (hx : P_Wwalker p0 G r Ga) (hm : Q_walker q0 Ga r' Gb) (i0 : p0.toInt = q0.toInt) (hE : ER V G) : r.toInt = r'.toInt := by
  obtain rfl := Int32.toInt_inj.mp i0
  have eG := hx.2.1.nil
  subst eG
  obtain ⟨-, -, y1, e1, hx⟩ := hx
  obtain ⟨-, -, y1', e1', hm⟩ := hm
  obtain ⟨⟨n, m, hEn⟩, hB⟩ := hE
  obtain ⟨z0, -, -, -, -, -, -, -, -, -, -, -⟩ := z32
  have h0 := hEn.2.1 0 (by decide)
  have hv := hEn.now.1
  rw [z0] at e1 e1'
  rw [h0] at e1'
  rw [← e1] at hv e1'
  rcases hx with ⟨c, rfl, -⟩ | ⟨c, hx⟩
  · rcases hm with ⟨-, rfl, -⟩ | ⟨d, -⟩
    · rfl
    · rw [e1'] at d
      omega
  · rcases hm with ⟨d, -⟩ | ⟨d, r5, G6, hi, hm⟩
    · rw [e1'] at d
      omega
    · obtain ⟨rfl, k⟩ := q_isIn hi
      have z : (0 : Int32).toInt = 0 := rfl
      have f : (5 : Int32).toInt = 5 := rfl
      rw [z, f] at k
      rcases hx with ⟨c2, rfl, -⟩ | ⟨c2, ⟨c3, y5, e5, rfl, -⟩ | ⟨c3, rfl, -⟩⟩
      · rcases hm with ⟨-, rfl, -⟩ | ⟨d2, -⟩
        · rfl
        · exact absurd (k.mp d2) (by omega)
      · rcases hm with ⟨d2, -⟩ | ⟨-, y12, e12, rfl, -⟩
        · exact absurd d2 (k.mpr ⟨c2, c3⟩)
        · clear k
          obtain ⟨w, hw⟩ : ∃ w : Nat, p0.toInt = (w : Int) := ⟨p0.toInt.toNat, by omega⟩
          rw [e5, e12, cn_eq hw, hEn.2.1 w (by omega)]
      · rcases hm with ⟨-, rfl, -⟩ | ⟨d2, -⟩
        · rfl
        · exact absurd (k.mp d2) (by omega)

/-! LAWFUL on both sides -/
def stl (V : PV) (s : Nat) : Nat := (V.1.getD s ([], [])).2.length
def wk (V : PV) (w : Nat) : WK := (V.2.1.getD w ([], 0, 0, 0, 0)).2
def icl (V : PV) (s i : Nat) : IC := (V.1.getD s ([], [])).2.getD i (0, 0, 0, 0)
def LNx (V : PV) (day : Int32) (s t i : Nat) : Prop := LNs V day (icl V s i) t
def LWF (V : PV) (day : Int32) (w s t : Nat) (x : Int) : Prop := 0 ≤ x ∧ x + (wk V w).1 ≤ (stl V s : Int) ∧ ∀ k : Nat, x ≤ (k : Int) → (k : Int) < x + (wk V w).1 → ¬ LNx V day s t k
def WKok (x : WK) : Prop := 1 ≤ x.1 ∧ x.1 ≤ 12 ∧ 1 ≤ x.2.1 ∧ x.2.1 ≤ x.2.2.1 ∧ x.2.2.1 ≤ 60 ∧ x.2.2.1 ≤ x.2.2.2 ∧ x.2.2.2 ≤ 99
theorem RV.wk {V : PV} {G : GS} {w : Nat} (h : RV V G) (hg : gW G = 1) (hw : w < V.2.1.length) : WKok (wk V w) := by
  obtain ⟨-, ⟨h1, h2, h3⟩, -⟩ := h
  obtain ⟨k1, k2, k3, k4⟩ := h3 w hw
  have e : (Int32.ofNat w).toInt = (w : Int) := on_i (by omega)
  have := gW_at hg (Int32.ofNat w) (by omega) (by omega)
  rw [cn_eq e, k1, k2, k3, k4] at this
  exact this
theorem nar_b {r : Int32} (h0 : 0 ≤ r.toInt) (h1 : r.toInt ≤ 1) : (vp_nar .boolean r).toInt = r.toInt := by
  have h : r.toInt = 0 ∨ r.toInt = 1 := by omega
  rcases h with q | q
  · have e : r = 0 := Int32.toInt_inj.mp (by rw [q]; rfl)
    subst e
    decide
  · have e : r = 1 := Int32.toInt_inj.mp (by rw [q]; rfl)
    subst e
    decide
/-- what a LINE is asked of stays the same -/
def SmL (G Gq : GS) : Prop := (∀ i ∈ [72, 73, 74, 87, 88, 89, 90, 91, 92, 93, 94, 95, 96, 110], Gq.1 i = G.1 i) ∧ Gq.1 66 54 = G.1 66 54
theorem SmL.rf {G : GS} : SmL G G := ⟨fun _ _ => rfl, rfl⟩
theorem SmL.fr {rs : List Nat} {fs : List (Nat × Nat)} {G Ga Gb : GS} (h : SmL G Ga) (hF : Fr rs fs Ga Gb) (h1 : ∀ i ∈ [72, 73, 74, 87, 88, 89, 90, 91, 92, 93, 94, 95, 96, 110], i ∉ rs ∧ ∀ x ∈ fs, x.1 ≠ i) (h2 : 66 ∉ rs ∧ (66, 54) ∉ fs) : SmL G Gb := ⟨fun i hi => (hF.rows h1 hi).trans (h.1 i hi), (hF.i 66 54 h2.1 h2.2).trans h.2⟩
theorem q_isLineS {V : PV} {p0 p1 p2 r : Int32} {G Gq Gn : GS} {s i t : Nat} (h : Q_isLine p0 p1 p2 Gq r Gn) (hS : SmL G Gq) (hs : p0.toInt = (s : Int)) (hsl : s < V.1.length) (hi : p2.toInt = (i : Int)) (hil : i < stl V s) (ht : p1.toInt = (t : Int)) (ht64 : t < 64) (hR : RV V G) (hV : PVok V) (hok : ICok (icl V s i)) : SmL G Gn ∧ Fr [76] [] Gq Gn ∧ (0 ≤ r.toInt ∧ r.toInt ≤ 1) ∧ (r.toInt ≠ 0 ↔ LNx V (G.1 110 6) s t i) := by
  have hF := h.2.1
  have hrng := h.2.2.1
  have hSt := (hR.1.2.2 s hsl).1.2 i hil
  have hx : IcR (icl V s i) (400 * s + i) Gq := by
    unfold IcR
    rw [hS.1 87 (by decide), hS.1 88 (by decide), hS.1 89 (by decide), hS.1 90 (by decide)]
    exact hSt
  have hl : (Gq.1 66 54).toInt = (V.2.2.1.length : Int) := by
    rw [hS.2]
    exact hR.2.2.1.1
  have hC : ∀ k, k < V.2.2.1.length → RCd k (V.2.2.1.getD k ([], [])).2 Gq := by
    intro k hk
    have := (hR.2.2.1.2.2.2 k hk).1
    unfold RCd at this ⊢
    rw [hS.1 72 (by decide), hS.1 73 (by decide), hS.1 74 (by decide)]
    exact this
  obtain ⟨-, k⟩ := q_isLine_eq h hs hi ht ht64 hx hok hl hV hC
  rw [hS.1 110 (by decide)] at k
  exact ⟨hS.fr hF (by decide) (by decide), hF, hrng, k⟩
theorem m_lay {V : PV} {p0 p1 p2 : Int32} {G G1 : GS} {w s t : Nat} (h : Q_layStreet p0 p1 p2 G G1) (hw : p0.toInt = (w : Int)) (hwl : w < V.2.1.length) (hs : p1.toInt = (s : Int)) (hsl : s < V.1.length) (ht : p2.toInt = (t : Int)) (ht64 : t < 64) (hR : RV V G) (hV : PVok V) (hok : ∀ i, i < stl V s → ICok (icl V s i)) : ((G1.1 66 59).toInt = (stl V s : Int) ∧ (G1.1 66 60).toInt = (wk V w).1 ∧ (G1.1 66 61).toInt = (wk V w).2.1 ∧ (G1.1 66 62).toInt = (wk V w).2.2.1 ∧ (G1.1 66 63).toInt = (wk V w).2.2.2) ∧ ∀ x : Nat, x < 512 → ((G1.1 98 x).toInt = 0 ∨ (G1.1 98 x).toInt = 1) ∧ ((G1.1 98 x).toInt ≠ 0 ↔ LWF V (G.1 110 6) w s t (x : Int)) := by
  obtain ⟨hBd, hFall, -, y1, e1, y4, e4, y7, e7, y10, e10, y13, e13, G15, -, hF15, v59, v60, v61, v62, v63, x20, G16, hl1, -, -, hF16, c20, x30, G26, hl2, -, -, -, hF26, c30, rfl⟩ := h
  rw [cn_eq hs] at e1
  rw [cn_eq hw] at e4 e7 e10 e13
  have hSt := (hR.1.2.2 s hsl).1
  obtain ⟨k1, k2, k3, k4⟩ := hR.2.1.2.2 w hwl
  have t1 : y1.toInt = (stl V s : Int) := by rw [e1]; exact hSt.1
  have t4 : y4.toInt = (wk V w).1 := by rw [e4]; exact k1
  have hf0 : 0 ≤ (wk V w).1 := by
    have := (hBd.i 92 w (lo := 0) (hi := 12) rfl rfl).1
    rw [hFall.row1 92 (by decide) (by decide)] at this
    rw [← t4, e4]
    exact this
  have fld : ∀ j, j = 59 ∨ j = 60 ∨ j = 61 ∨ j = 62 ∨ j = 63 → G26.1 66 j = G15.1 66 j := by
    intro j hj
    rcases hj with rfl | rfl | rfl | rfl | rfl <;> rw [hF26.i 66 _ (by decide) (by decide), hF16.i 66 _ (by decide) (by decide)]
  refine ⟨⟨?_, ?_, ?_, ?_, ?_⟩, ?_⟩
  · rw [fld 59 (by simp), v59]
    exact t1
  · rw [fld 60 (by simp), v60]
    exact t4
  · rw [fld 61 (by simp), v61, e7]
    exact k2
  · rw [fld 62 (by simp), v62, e10]
    exact k3
  · rw [fld 63 (by simp), v63, e13]
    exact k4
  have hS15 : SmL G G15 := SmL.rf.fr hF15 (by decide) (by decide)
  have hI1 := hl1 (fun q => SmL G q.2 ∧ ∃ n : Nat, q.1.toInt = (n : Int) ∧ ∀ i, i < n → ((q.2.1 97 i).toInt ≠ 0 ↔ LNx V (G.1 110 6) s t i)) ⟨hS15, 0, rfl, fun i hi => absurd hi (Nat.not_lt_zero i)⟩ (by
    rintro ⟨a0, b0⟩ ⟨an0, bn0⟩ ⟨i1, n, i2, i3⟩ ⟨a, b, an, bn, q1, q2, -, -, c, r107, G108, hil, y114, t114, ex, hF, w97⟩
    obtain ⟨rfl, rfl⟩ := Prod.mk.inj q1
    obtain ⟨rfl, rfl⟩ := Prod.mk.inj q2
    simp only at i1 i2 i3
    have hn : n < stl V s := by omega
    obtain ⟨j1, j2, j3, j4⟩ := q_isLineS hil i1 hs hsl i2 hn ht ht64 hR hV (hok n hn)
    refine ⟨j1.fr hF (by decide) (by decide), n + 1, by show an0.toInt = _; rw [← ex]; omega, fun i hi => ?_⟩
    show (bn0.1 97 i).toInt ≠ 0 ↔ _
    rw [w97, cn_eq i2]
    by_cases hin : i = n
    · subst hin
      rw [ud_at, nar_b j3.1 j3.2]
      exact j4
    · rw [ud_no hin, j2.row1 97 (by decide) (by decide)]
      exact i3 i (by omega))
  obtain ⟨-, n1, i2, i3⟩ := hI1
  simp only at i2 i3
  have hLn : ∀ i, i < stl V s → ((G16.1 97 i).toInt ≠ 0 ↔ LNx V (G.1 110 6) s t i) := fun i hi => i3 i (by omega)
  clear i3 i2 hl1
  have h59 : (G16.1 66 59).toInt = (stl V s : Int) := by
    rw [hF16.i 66 59 (by decide) (by decide), v59]
    exact t1
  have h60 : (G16.1 66 60).toInt = (wk V w).1 := by
    rw [hF16.i 66 60 (by decide) (by decide), v60]
    exact t4
  have nar1 : (vp_nar .boolean 1).toInt = 1 := by decide
  have nar0 : (vp_nar .boolean 0).toInt = 0 := by decide
  have hI2 := hl2 (fun q => (q.2.1 97 = G16.1 97 ∧ q.2.1 66 59 = G16.1 66 59 ∧ q.2.1 66 60 = G16.1 66 60) ∧ ∃ n : Nat, q.1.toInt = (n : Int) ∧ ∀ x, x < n → ((q.2.1 98 x).toInt = 0 ∨ (q.2.1 98 x).toInt = 1) ∧ ((q.2.1 98 x).toInt ≠ 0 ↔ LWF V (G.1 110 6) w s t (x : Int))) ⟨⟨rfl, rfl, rfl⟩, 0, rfl, fun i hi => absurd hi (Nat.not_lt_zero i)⟩ (by
    rintro ⟨a0, b0⟩ ⟨an0, bn0⟩ ⟨⟨i1, i9, i0⟩, n, i2, i3⟩ ⟨a, b, an, bn, q1, q2, -, -, -, c, r49, G50, hst, G56, -, hF56, w56, x63, G59, hl3, -, -, -, -, -, hF59, y78, t78, hd⟩
    obtain ⟨rfl, rfl⟩ := Prod.mk.inj q1
    obtain ⟨rfl, rfl⟩ := Prod.mk.inj q2
    simp only at i1 i2 i3 i9 i0
    have e50 := hst.2.1.nil
    subst e50
    have hr49 := hst.2.2.1
    have hsd : r49.toInt ≠ 0 ↔ (n : Int) + (wk V w).1 ≤ (stl V s : Int) := by
      have p1 := hst.2.2.2.1.1
      have p2 := hst.2.2.2.1.2
      rw [i9, i0, h59, h60, i2] at p1 p2
      constructor
      · intro q
        exact (p1 (by omega)).2
      · intro q
        have := p2 ⟨by omega, q⟩
        omega
    rw [cn_eq i2] at w56
    -- the walk along the FOOT
    have z97 : G56.1 97 = G16.1 97 := (hF56.row1 97 (by decide) (by decide)).trans i1
    have zj : ∀ j, j ≠ n → G56.1 98 j = b0.1 98 j := fun j hj => by rw [w56, ud_no hj]
    have z01 : (G56.1 98 n).toInt = 0 ∨ (G56.1 98 n).toInt = 1 := by
      rw [w56, ud_at, nar_b hr49.1 hr49.2]
      clear hsd
      omega
    have zne : (G56.1 98 n).toInt ≠ 0 ↔ ((n : Int) + (wk V w).1 ≤ (stl V s : Int) ∧ ∀ i, n ≤ i → i < n → ¬ LNx V (G.1 110 6) s t i) := by
      rw [w56, ud_at, nar_b hr49.1 hr49.2]
      exact hsd.trans ⟨fun q => ⟨q, fun i h1 h2 => absurd h2 (by omega)⟩, fun q => q.1⟩
    have hI3 := hl3 (fun q => (q.2.1 97 = G16.1 97 ∧ ∀ j, j ≠ n → q.2.1 98 j = b0.1 98 j) ∧ ∃ k : Nat, q.1.toInt = (k : Int) ∧ n ≤ k ∧ (k : Int) ≤ (n : Int) + (wk V w).1 ∧ ((q.2.1 98 n).toInt = 0 ∨ (q.2.1 98 n).toInt = 1) ∧ ((q.2.1 98 n).toInt ≠ 0 ↔ ((n : Int) + (wk V w).1 ≤ (stl V s : Int) ∧ ∀ i, n ≤ i → i < k → ¬ LNx V (G.1 110 6) s t i))) ⟨⟨z97, zj⟩, n, i2, Nat.le_refl n, by clear zne hsd; omega, z01, zne⟩ (by
      rintro ⟨a1, b1⟩ ⟨an1, bn1⟩ ⟨⟨u1, u2⟩, k, u3, u4, u5, u6, u7⟩ ⟨a', b', an', bn', q1, q2, -, -, -, -, -, y78', t78', c', y82, e82, c82, y87, e87, hd'⟩
      obtain ⟨rfl, rfl⟩ := Prod.mk.inj q1
      obtain ⟨rfl, rfl⟩ := Prod.mk.inj q2
      simp only at u1 u2 u3 u6 u7
      rw [cn_eq i2] at e82
      rw [cn_eq u3, u1] at e87
      have hyes := u7.mp (by rw [← e82]; exact c82)
      clear u7
      have hk : k < stl V s := by omega
      have hLk := hLn k hk
      rw [← e87] at hLk
      rcases hd' with ⟨f, y, ty, ex, hF, w98⟩ | ⟨f, y, ty, ex, hF, w98⟩
      · rw [cn_eq i2] at w98
        refine ⟨⟨(hF.row1 97 (by decide) (by decide)).trans u1, fun j hj => ?_⟩, k + 1, by show an1.toInt = _; rw [← ex]; clear hLk; omega, by omega, by clear hLk; omega, ?_, ?_⟩
        · show bn1.1 98 j = _
          rw [w98, ud_no hj]
          exact u2 j hj
        · show (bn1.1 98 n).toInt = 0 ∨ (bn1.1 98 n).toInt = 1
          rw [w98, ud_at]
          exact Or.inr nar1
        · show (bn1.1 98 n).toInt ≠ 0 ↔ _
          rw [w98, ud_at, nar1]
          refine ⟨fun _ => ⟨hyes.1, fun i hi1 hi2 => ?_⟩, fun _ => by decide⟩
          by_cases hik : i = k
          · subst hik
            exact fun q => absurd f (hLk.mpr q)
          · exact hyes.2 i hi1 (by omega)
      · rw [cn_eq i2] at w98
        refine ⟨⟨(hF.row1 97 (by decide) (by decide)).trans u1, fun j hj => ?_⟩, k + 1, by show an1.toInt = _; rw [← ex]; clear hLk; omega, by omega, by clear hLk; omega, ?_, ?_⟩
        · show bn1.1 98 j = _
          rw [w98, ud_no hj]
          exact u2 j hj
        · show (bn1.1 98 n).toInt = 0 ∨ (bn1.1 98 n).toInt = 1
          rw [w98, ud_at]
          exact Or.inl nar0
        · show (bn1.1 98 n).toInt ≠ 0 ↔ _
          rw [w98, ud_at, nar0]
          exact ⟨fun q => absurd rfl q, fun q => absurd (hLk.mp f) (q.2 k u4 (by omega))⟩)
    obtain ⟨⟨u1, u2⟩, k, u3, u4, u5, u6, u7⟩ := hI3
    simp only at u1 u2 u3 u6 u7
    have fin : ((n : Int) + (wk V w).1 ≤ (k : Int) ∨ (G59.1 98 n).toInt = 0) → ((G59.1 98 n).toInt ≠ 0 ↔ LWF V (G.1 110 6) w s t (n : Int)) := by
      intro hcase
      unfold LWF
      refine u7.trans ⟨fun q => ⟨by omega, q.1, fun i h1 h2 => q.2 i (by omega) ?_⟩, fun q => ⟨q.2.1, fun i h1 h2 => q.2.2 i (by omega) (by omega)⟩⟩
      rcases hcase with e | e
      · omega
      · exact absurd e (u7.mpr q)
    have hFz : ∀ {Gz : GS} {y : Int32}, G59 = Gz → y.toInt = a0.toInt + 1 → ((n : Int) + (wk V w).1 ≤ (k : Int) ∨ (G59.1 98 n).toInt = 0) → (Gz.1 97 = G16.1 97 ∧ Gz.1 66 59 = G16.1 66 59 ∧ Gz.1 66 60 = G16.1 66 60) ∧ ∃ n : Nat, y.toInt = (n : Int) ∧ ∀ x, x < n → ((Gz.1 98 x).toInt = 0 ∨ (Gz.1 98 x).toInt = 1) ∧ ((Gz.1 98 x).toInt ≠ 0 ↔ LWF V (G.1 110 6) w s t (x : Int)) := by
      intro Gz y e ty hcase
      subst e
      refine ⟨⟨u1, ?_, ?_⟩, n + 1, by clear fin u7 hsd; omega, fun x hx => ?_⟩
      · rw [hF59.i 66 59 (by decide) (by decide), hF56.i 66 59 (by decide) (by decide)]
        exact i9
      · rw [hF59.i 66 60 (by decide) (by decide), hF56.i 66 60 (by decide) (by decide)]
        exact i0
      · by_cases hxn : x = n
        · subst hxn
          exact ⟨u6, fin hcase⟩
        · rw [u2 x hxn]
          exact i3 x (by omega)
    rcases hd with ⟨f, y80, t80, ex, eG⟩ | ⟨f, y82, e82, c82, y85, t85, ex, eG⟩
    · exact hFz eG (by show an0.toInt = _; rw [← ex]; exact t80) (Or.inl (by clear fin u7 hsd; omega))
    · refine hFz eG (by show an0.toInt = _; rw [← ex]; exact t85) (Or.inr ?_)
      rw [cn_eq i2] at e82
      rw [← e82]
      exact c82)
  obtain ⟨-, n2, j2, j3⟩ := hI2
  simp only at j2 j3
  exact fun x hx => j3 x (by omega)
theorem CW_1.ok {V : PV} {G : GS} {s : Nat} (h : CW_1 V G) (hs : s < V.1.length) : ∀ i, i < stl V s → ICok (icl V s i) := fun i hi => ((h.1.2 s hs).1.2 i hi).2
theorem CaC_1.fr {V : PV} {G G1 : GS} (h : CaC_1 V G) (h37 : G1.1 37 = G.1 37) (h38 : G1.1 38 = G.1 38) : CaC_1 V G1 := by
  unfold CaC_1 FoC_1 at h ⊢
  rw [h37, h38]
  exact h
theorem ca_find_1 {V : PV} {p0 day : Int32} {G G1 : GS} (h : P_lFind_1 p0 day G G1) (hW : CW_1 V G) (hR3 : V.1.length ≤ 3) (hV : PVok V) (hd0 : 0 ≤ day.toInt) (hCa : CaC_1 V G) : CaC_1 V G1 := by
  by_cases hs : 0 ≤ p0.toInt ∧ p0.toInt < (V.1.length : Int)
  · exact (k_find_1 (s := p0.toInt.toNat) h (by omega) (by omega) hR3 hW hV hd0 hCa).2
  · obtain ⟨-, -, r1, G2, hst, hh⟩ := h
    obtain ⟨rfl, k1⟩ := k_hasStreet_1_eq hst
    rw [hW.1.1] at k1
    rcases hh with ⟨-, rfl⟩ | ⟨c, -⟩
    · exact hCa
    · exact absurd (k1.mp c) hs
theorem CW_1.fr {V : PV} {rs : List Nat} {fs : List (Nat × Nat)} {G G1 : GS} (h : CW_1 V G) (hF : Fr rs fs G G1) (h1 : ∀ i ∈ [10, 11, 12, 13, 14, 15, 16, 17, 18], i ∉ rs ∧ ∀ x ∈ fs, x.1 ≠ i) (h2 : ∀ y ∈ [(1, 9), (1, 10), (1, 11), (1, 12), (1, 13), (1, 14), (1, 15), (1, 16)], y.1 ∉ rs ∧ y ∉ fs) : CW_1 V G1 := by
  have hf : ∀ {j : Nat}, (1, j) ∈ [(1, 9), (1, 10), (1, 11), (1, 12), (1, 13), (1, 14), (1, 15), (1, 16)] → G1.1 1 j = G.1 1 j := fun hj => hF.i 1 _ (h2 _ hj).1 (h2 _ hj).2
  unfold CW_1 StC_1 WkC_1 CodeC_1 EndC_1 at h ⊢
  rw [hf (j := 9) (by decide), hf (j := 10) (by decide), hf (j := 11) (by decide), hf (j := 12) (by decide), hf (j := 13) (by decide), hf (j := 14) (by decide), hf (j := 15) (by decide), hf (j := 16) (by decide), hF.rows h1 (i := 10) (by decide), hF.rows h1 (i := 11) (by decide), hF.rows h1 (i := 12) (by decide), hF.rows h1 (i := 13) (by decide), hF.rows h1 (i := 14) (by decide), hF.rows h1 (i := 15) (by decide), hF.rows h1 (i := 16) (by decide), hF.rows h1 (i := 17) (by decide), hF.rows h1 (i := 18) (by decide)]
  exact h
theorem k_isLawful_1 {V : PV} {p0 p1 p2 p3 r day : Int32} {G G1 : GS} {w s t : Nat} (h : P_lIsLawful_1 p0 p1 p2 p3 G r G1) (hw : p0.toInt = (w : Int)) (hwl : w < V.2.1.length) (hs : p1.toInt = (s : Int)) (hsl : s < V.1.length) (ht : p2.toInt = (t : Int)) (ht64 : t < 64) (hW : CW_1 V G) (hV : PVok V) (hFo : FoC_1 V s day G) : G = G1 ∧ (r.toInt ≠ 0 ↔ LWF V day w s t p3.toInt) := by
  obtain ⟨-, hFr, -, r1, G2, hst, hh⟩ := h
  refine ⟨hFr.nil, ?_⟩
  obtain ⟨rfl, k1⟩ := k_stands_1_eq hst hW
  have ew : p0.toInt.toNat = w := by omega
  have es : p1.toInt.toNat = s := by omega
  rw [ew, es] at k1
  have z : (0 : Int32).toInt = 0 := rfl
  have o : (1 : Int32).toInt = 1 := rfl
  rcases hh with ⟨c, rfl, -⟩ | ⟨c, x12, G8, hl, -, -, hF8, y16, e16, y17, t17, hh⟩
  · exact ⟨fun q => absurd z q, fun q => absurd c (k1.mpr ⟨⟨by omega, by omega⟩, ⟨by omega, by omega⟩, q.1, by have := q.2.1; unfold stl wk at this; omega⟩)⟩
  have e8 := hF8.nil
  subst e8
  obtain ⟨-, -, g1, g2⟩ := k1.mp c
  clear k1
  have hwk := (hW.2.1.2 w hwl).1
  rw [cn_eq hw] at e16
  have t16 : y16.toInt = (wk V w).1 := by rw [e16]; exact hwk
  have hst2 : p3.toInt + (wk V w).1 ≤ (stl V s : Int) := by
    unfold stl wk
    omega
  have hI := hl (fun q => q.2 = G ∧ ∃ k : Nat, q.1.toInt = (k : Int) ∧ p3.toInt ≤ (k : Int) ∧ ∀ i : Nat, p3.toInt ≤ (i : Int) → i < k → ¬ LNx V day s t i) ⟨rfl, p3.toInt.toNat, by show p3.toInt = _; omega, by omega, fun i h1 h2 => absurd h2 (by omega)⟩ (by
    rintro ⟨a0, b0⟩ ⟨an0, bn0⟩ ⟨i1, k, i2, i3, i4⟩ ⟨a, b, an, bn, q1, q2, -, -, y16', e16', y17', t17', c', r19, G20, hil, c19, y26, t26, ex, eG⟩
    obtain ⟨rfl, rfl⟩ := Prod.mk.inj q1
    obtain ⟨rfl, rfl⟩ := Prod.mk.inj q2
    simp only at i1 i2
    subst i1
    rw [cn_eq hw] at e16'
    have t16' : y16'.toInt = (wk V w).1 := by rw [e16']; exact hwk
    obtain ⟨rfl, kl⟩ := k_isLine_1 hil hs hsl i2 ht ht64 hW hV hFo
    have hk : k < stl V s := by clear kl; omega
    refine ⟨eG.symm, k + 1, by show an0.toInt = _; rw [← ex]; clear kl; omega, by clear kl; omega, fun i h1 h2 => ?_⟩
    by_cases hik : i = k
    · subst hik
      exact fun q => (kl.mpr ⟨hk, q⟩) c19
    · exact i4 i h1 (by omega))
  obtain ⟨-, k, i2, i3, i4⟩ := hI
  simp only at i2
  unfold LWF
  rcases hh with ⟨f, rfl, -⟩ | ⟨f, r19, G20, hil, c19, rfl, -⟩
  · exact ⟨fun _ => ⟨g1, hst2, fun i h1 h2 => i4 i h1 (by omega)⟩, fun _ => by omega⟩
  · refine ⟨fun q => absurd z q, fun q => ?_⟩
    have kl := (k_isLine_1 hil hs hsl i2 ht ht64 hW hV hFo).2.mp c19
    exact absurd kl.2 (q.2.2 k i3 (by omega))
theorem CW_2.ok {V : PV} {G : GS} {s : Nat} (h : CW_2 V G) (hs : s < V.1.length) : ∀ i, i < stl V s → ICok (icl V s i) := fun i hi => ((h.1.2 s hs).1.2 i hi).2
theorem CaC_2.fr {V : PV} {G G1 : GS} (h : CaC_2 V G) (h37 : G1.1 37 = G.1 37) (h38 : G1.1 38 = G.1 38) : CaC_2 V G1 := by
  unfold CaC_2 FoC_2 at h ⊢
  rw [h37, h38]
  exact h
theorem ca_find_2 {V : PV} {p0 day : Int32} {G G1 : GS} (h : P_lFind_2 p0 day G G1) (hW : CW_2 V G) (hR3 : V.1.length ≤ 3) (hV : PVok V) (hd0 : 0 ≤ day.toInt) (hCa : CaC_2 V G) : CaC_2 V G1 := by
  by_cases hs : 0 ≤ p0.toInt ∧ p0.toInt < (V.1.length : Int)
  · exact (k_find_2 (s := p0.toInt.toNat) h (by omega) (by omega) hR3 hW hV hd0 hCa).2
  · obtain ⟨-, -, r1, G2, hst, hh⟩ := h
    obtain ⟨rfl, k1⟩ := k_hasStreet_2_eq hst
    rw [hW.1.1] at k1
    rcases hh with ⟨-, rfl⟩ | ⟨c, -⟩
    · exact hCa
    · exact absurd (k1.mp c) hs
theorem CW_2.fr {V : PV} {rs : List Nat} {fs : List (Nat × Nat)} {G G1 : GS} (h : CW_2 V G) (hF : Fr rs fs G G1) (h1 : ∀ i ∈ [20, 21, 22, 23, 24, 25, 26, 27, 28], i ∉ rs ∧ ∀ x ∈ fs, x.1 ≠ i) (h2 : ∀ y ∈ [(2, 9), (2, 10), (2, 11), (2, 12), (2, 13), (2, 14), (2, 15), (2, 16)], y.1 ∉ rs ∧ y ∉ fs) : CW_2 V G1 := by
  have hf : ∀ {j : Nat}, (2, j) ∈ [(2, 9), (2, 10), (2, 11), (2, 12), (2, 13), (2, 14), (2, 15), (2, 16)] → G1.1 2 j = G.1 2 j := fun hj => hF.i 2 _ (h2 _ hj).1 (h2 _ hj).2
  unfold CW_2 StC_2 WkC_2 CodeC_2 EndC_2 at h ⊢
  rw [hf (j := 9) (by decide), hf (j := 10) (by decide), hf (j := 11) (by decide), hf (j := 12) (by decide), hf (j := 13) (by decide), hf (j := 14) (by decide), hf (j := 15) (by decide), hf (j := 16) (by decide), hF.rows h1 (i := 20) (by decide), hF.rows h1 (i := 21) (by decide), hF.rows h1 (i := 22) (by decide), hF.rows h1 (i := 23) (by decide), hF.rows h1 (i := 24) (by decide), hF.rows h1 (i := 25) (by decide), hF.rows h1 (i := 26) (by decide), hF.rows h1 (i := 27) (by decide), hF.rows h1 (i := 28) (by decide)]
  exact h
theorem k_isLawful_2 {V : PV} {p0 p1 p2 p3 r day : Int32} {G G1 : GS} {w s t : Nat} (h : P_lIsLawful_2 p0 p1 p2 p3 G r G1) (hw : p0.toInt = (w : Int)) (hwl : w < V.2.1.length) (hs : p1.toInt = (s : Int)) (hsl : s < V.1.length) (ht : p2.toInt = (t : Int)) (ht64 : t < 64) (hW : CW_2 V G) (hV : PVok V) (hFo : FoC_2 V s day G) : G = G1 ∧ (r.toInt ≠ 0 ↔ LWF V day w s t p3.toInt) := by
  obtain ⟨-, hFr, -, r1, G2, hst, hh⟩ := h
  refine ⟨hFr.nil, ?_⟩
  obtain ⟨rfl, k1⟩ := k_stands_2_eq hst hW
  have ew : p0.toInt.toNat = w := by omega
  have es : p1.toInt.toNat = s := by omega
  rw [ew, es] at k1
  have z : (0 : Int32).toInt = 0 := rfl
  have o : (1 : Int32).toInt = 1 := rfl
  rcases hh with ⟨c, rfl, -⟩ | ⟨c, x12, G8, hl, -, -, hF8, y16, e16, y17, t17, hh⟩
  · exact ⟨fun q => absurd z q, fun q => absurd c (k1.mpr ⟨⟨by omega, by omega⟩, ⟨by omega, by omega⟩, q.1, by have := q.2.1; unfold stl wk at this; omega⟩)⟩
  have e8 := hF8.nil
  subst e8
  obtain ⟨-, -, g1, g2⟩ := k1.mp c
  clear k1
  have hwk := (hW.2.1.2 w hwl).1
  rw [cn_eq hw] at e16
  have t16 : y16.toInt = (wk V w).1 := by rw [e16]; exact hwk
  have hst2 : p3.toInt + (wk V w).1 ≤ (stl V s : Int) := by
    unfold stl wk
    omega
  have hI := hl (fun q => q.2 = G ∧ ∃ k : Nat, q.1.toInt = (k : Int) ∧ p3.toInt ≤ (k : Int) ∧ ∀ i : Nat, p3.toInt ≤ (i : Int) → i < k → ¬ LNx V day s t i) ⟨rfl, p3.toInt.toNat, by show p3.toInt = _; omega, by omega, fun i h1 h2 => absurd h2 (by omega)⟩ (by
    rintro ⟨a0, b0⟩ ⟨an0, bn0⟩ ⟨i1, k, i2, i3, i4⟩ ⟨a, b, an, bn, q1, q2, -, -, y16', e16', y17', t17', c', r19, G20, hil, c19, y26, t26, ex, eG⟩
    obtain ⟨rfl, rfl⟩ := Prod.mk.inj q1
    obtain ⟨rfl, rfl⟩ := Prod.mk.inj q2
    simp only at i1 i2
    subst i1
    rw [cn_eq hw] at e16'
    have t16' : y16'.toInt = (wk V w).1 := by rw [e16']; exact hwk
    obtain ⟨rfl, kl⟩ := k_isLine_2 hil hs hsl i2 ht ht64 hW hV hFo
    have hk : k < stl V s := by clear kl; omega
    refine ⟨eG.symm, k + 1, by show an0.toInt = _; rw [← ex]; clear kl; omega, by clear kl; omega, fun i h1 h2 => ?_⟩
    by_cases hik : i = k
    · subst hik
      exact fun q => (kl.mpr ⟨hk, q⟩) c19
    · exact i4 i h1 (by omega))
  obtain ⟨-, k, i2, i3, i4⟩ := hI
  simp only at i2
  unfold LWF
  rcases hh with ⟨f, rfl, -⟩ | ⟨f, r19, G20, hil, c19, rfl, -⟩
  · exact ⟨fun _ => ⟨g1, hst2, fun i h1 h2 => i4 i h1 (by omega)⟩, fun _ => by omega⟩
  · refine ⟨fun q => absurd z q, fun q => ?_⟩
    have kl := (k_isLine_2 hil hs hsl i2 ht ht64 hW hV hFo).2.mp c19
    exact absurd kl.2 (q.2.2 k i3 (by omega))
