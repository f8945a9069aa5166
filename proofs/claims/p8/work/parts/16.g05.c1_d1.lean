/-! SLABS and STREETS by the reference -/
def StM (s : Nat) (I : List IC) (G : GS) : Prop := (G.1 81 s).toInt = (I.length : Int) ∧ ∀ i, i < I.length → (G.1 77 (400 * s + i)).toInt = (I.getD i (0, 0, 0, 0)).1 ∧ (G.1 78 (400 * s + i)).toInt = (I.getD i (0, 0, 0, 0)).2.1 ∧ (G.1 79 (400 * s + i)).toInt = (I.getD i (0, 0, 0, 0)).2.2.1 ∧ (G.1 80 (400 * s + i)).toInt = (I.getD i (0, 0, 0, 0)).2.2.2
def KeM (s : Nat) (G G1 : GS) : Prop := (∀ s', s' ≠ s → G1.1 81 s' = G.1 81 s') ∧ ∀ j, j < 400 * s → G1.1 77 j = G.1 77 j ∧ G1.1 78 j = G.1 78 j ∧ G1.1 79 j = G.1 79 j ∧ G1.1 80 j = G.1 80 j
theorem KeM.tr {s : Nat} {G G1 G2 : GS} (h : KeM s G G1) (h' : KeM s G1 G2) : KeM s G G2 := ⟨fun s' q => (h'.1 s' q).trans (h.1 s' q), fun j q => ⟨(h'.2 j q).1.trans (h.2 j q).1, (h'.2 j q).2.1.trans (h.2 j q).2.1, (h'.2 j q).2.2.1.trans (h.2 j q).2.2.1, (h'.2 j q).2.2.2.trans (h.2 j q).2.2.2⟩⟩
theorem KeM.of {s : Nat} {rs : List Nat} {fs : List (Nat × Nat)} {G G1 : GS} (hF : Fr rs fs G G1) (h1 : 77 ∉ rs ∧ 78 ∉ rs ∧ 79 ∉ rs ∧ 80 ∉ rs ∧ 81 ∉ rs) (h2 : ∀ x ∈ fs, x.1 ≠ 77 ∧ x.1 ≠ 78 ∧ x.1 ≠ 79 ∧ x.1 ≠ 80 ∧ x.1 ≠ 81) : KeM s G G1 := by
  unfold KeM
  rw [hF.row1 77 h1.1 (fun x hx => (h2 x hx).1), hF.row1 78 h1.2.1 (fun x hx => (h2 x hx).2.1), hF.row1 79 h1.2.2.1 (fun x hx => (h2 x hx).2.2.1), hF.row1 80 h1.2.2.2.1 (fun x hx => (h2 x hx).2.2.2.1), hF.row1 81 h1.2.2.2.2 (fun x hx => (h2 x hx).2.2.2.2)]
  exact ⟨fun _ _ => rfl, fun _ _ => ⟨rfl, rfl, rfl, rfl⟩⟩
theorem StM.fr {s : Nat} {I : List IC} {rs : List Nat} {fs : List (Nat × Nat)} {G G1 : GS} (h : StM s I G) (hF : Fr rs fs G G1) (h1 : 77 ∉ rs ∧ 78 ∉ rs ∧ 79 ∉ rs ∧ 80 ∉ rs ∧ 81 ∉ rs) (h2 : ∀ x ∈ fs, x.1 ≠ 77 ∧ x.1 ≠ 78 ∧ x.1 ≠ 79 ∧ x.1 ≠ 80 ∧ x.1 ≠ 81) : StM s I G1 := by
  unfold StM at h ⊢
  rw [hF.row1 77 h1.1 (fun x hx => (h2 x hx).1), hF.row1 78 h1.2.1 (fun x hx => (h2 x hx).2.1), hF.row1 79 h1.2.2.1 (fun x hx => (h2 x hx).2.2.1), hF.row1 80 h1.2.2.2.1 (fun x hx => (h2 x hx).2.2.2.1), hF.row1 81 h1.2.2.2.2 (fun x hx => (h2 x hx).2.2.2.2)]
  exact h
theorem m_pave {s : Nat} {I : List IC} {G G1 : GS} {p0 p1 p2 : Int32} {m nth w : Int} {j0 : Nat} (h : Q_pave p0 p1 p2 j0 G G1) (hs : (G.1 66 45).toInt = (s : Int)) (hS : StM s I G) (h0 : p0.toInt = m) (h1 : p1.toInt = nth) (h2 : p2.toInt = w) (hw0 : 0 ≤ w) : StM s (I ++ layI m nth w) G1 ∧ KeM s G G1 := by
  obtain ⟨-, -, -, x, G4, hl, -, -, -, -, -, c1, rfl⟩ := h
  have hI := hl (fun q => ∃ k : Nat, q.1.toInt = (k : Int) ∧ (k : Int) ≤ w ∧ (q.2.1 81 s).toInt = (I.length : Int) + (k : Int) ∧ (∀ s', s' ≠ s → q.2.1 81 s' = G.1 81 s') ∧ (∀ j, j < 400 * s + I.length → q.2.1 77 j = G.1 77 j ∧ q.2.1 78 j = G.1 78 j ∧ q.2.1 79 j = G.1 79 j ∧ q.2.1 80 j = G.1 80 j) ∧ ∀ i, i < k → (q.2.1 77 (400 * s + I.length + i)).toInt = m ∧ (q.2.1 78 (400 * s + I.length + i)).toInt = nth ∧ (q.2.1 79 (400 * s + I.length + i)).toInt = (i : Int) ∧ (q.2.1 80 (400 * s + I.length + i)).toInt = w) ⟨0, rfl, hw0, by rw [hS.1]; simp, fun _ _ => rfl, fun _ _ => ⟨rfl, rfl, rfl, rfl⟩, fun i hi => absurd hi (Nat.not_lt_zero i)⟩ (by
    rintro ⟨x1, G_1⟩ ⟨xn, G_1n⟩ ⟨k, g1, g2, g3, g4, g5, g6⟩ ⟨x1q, G_1q, xnq, G_1nq, e1, e2, -, -, -, -, c1, y14, t14, y15, e15, y17, t17, y22, e22, y24, t24, y26, t26, ex, -, e77, e78, e79, e80, e81⟩
    obtain ⟨rfl, rfl⟩ := Prod.mk.inj e1
    obtain ⟨rfl, rfl⟩ := Prod.mk.inj e2
    simp only at g1 g3 g4 g5 g6
    rw [cn_eq hs] at e15 e22 e81
    have a15 : y15.toInt = (I.length : Int) + (k : Int) := by rw [e15]; exact g3
    have a22 : y22.toInt = (I.length : Int) + (k : Int) := by rw [e22]; exact g3
    have hy : y17.toNatClampNeg = 400 * s + I.length + k := cn_eq (by omega)
    rw [hy] at e77 e78 e79 e80
    refine ⟨k + 1, by show xn.toInt = _; rw [← ex]; omega, by omega, ?_, fun s' q => ?_, fun j hj => ?_, fun i hi => ?_⟩
    · show (G_1n.1 81 s).toInt = _
      have e : upd (G_1.1 81) s y24 s = y24 := if_pos rfl
      rw [e81, e]
      omega
    · show G_1n.1 81 s' = _
      have e : upd (G_1.1 81) s y24 s' = G_1.1 81 s' := if_neg q
      rw [e81, e]
      exact g4 s' q
    · show G_1n.1 77 j = _ ∧ G_1n.1 78 j = _ ∧ G_1n.1 79 j = _ ∧ G_1n.1 80 j = _
      have e : ∀ (g : Nat → Int32) (v : Int32), upd g (400 * s + I.length + k) v j = g j := fun g v => if_neg (by omega)
      rw [e77, e78, e79, e80, e, e, e, e]
      exact g5 j hj
    · show (G_1n.1 77 (400 * s + I.length + i)).toInt = _ ∧ (G_1n.1 78 (400 * s + I.length + i)).toInt = _ ∧ (G_1n.1 79 (400 * s + I.length + i)).toInt = _ ∧ (G_1n.1 80 (400 * s + I.length + i)).toInt = _
      rw [e77, e78, e79, e80]
      by_cases hik : i = k
      · subst hik
        have e : ∀ (g : Nat → Int32) (v : Int32), upd g (400 * s + I.length + i) v (400 * s + I.length + i) = v := fun g v => if_pos rfl
        rw [e, e, e, e]
        exact ⟨h0, h1, g1, h2⟩
      · have e : ∀ (g : Nat → Int32) (v : Int32), upd g (400 * s + I.length + k) v (400 * s + I.length + i) = g (400 * s + I.length + i) := fun g v => if_neg (by omega)
        rw [e, e, e, e]
        exact g6 i (by omega))
  obtain ⟨k, g1, g2, g3, g4, g5, g6⟩ := hI
  simp only at g1 g3 g4 g5 g6
  have hk : k = w.toNat := by omega
  refine ⟨⟨?_, fun i hi => ?_⟩, g4, fun j hj => g5 j (by omega)⟩
  · rw [g3, List.length_append, layI_len]
    omega
  · rw [List.length_append, layI_len] at hi
    rw [getD_app]
    by_cases hq : i < I.length
    · obtain ⟨a1, a2, a3, a4⟩ := g5 (400 * s + i) (by omega)
      rw [if_pos hq, a1, a2, a3, a4]
      exact hS.2 i hq
    · have := g6 (i - I.length) (by omega)
      rw [show 400 * s + I.length + (i - I.length) = 400 * s + i by omega] at this
      rw [if_neg hq, layI_get (by omega)]
      exact this
theorem m_mrk {b : Nat → Int} {n p : Nat} {G G1 : GS} {r : Int32} (hp : MP b n G p) (hs : (G.1 66 6).toInt = 1) (h : Q_mark G r G1) : G = G1 ∧ ((140 ≤ tK b n p ∧ tK b n p ≤ 143 ∧ r = mkw (tK b n p)) ∨ (¬ (140 ≤ tK b n p ∧ tK b n p ≤ 143) ∧ r.toInt = 0)) := by
  have hk := hp.so.2.2.1.mp hs
  have hw := tK_w (b := b) hp.1.2.1 hp.2.2.2 hk.1 hk.2
  have h9 := hp.2.1.2.2.2.2 hk.1 hk.2
  obtain ⟨e, m1, m2, m3, m4, m5⟩ := m_mark h9 hw.2 h
  rw [← hw.1] at m1 m2 m3 m4 m5
  refine ⟨e, ?_⟩
  by_cases hq : 140 ≤ tK b n p ∧ tK b n p ≤ 143
  · refine Or.inl ⟨hq.1, hq.2, ?_⟩
    have h4 : tK b n p = 140 ∨ tK b n p = 141 ∨ tK b n p = 142 ∨ tK b n p = 143 := by
      clear m1 m2 m3 m4 m5
      omega
    rcases h4 with e | e | e | e
    · rw [e]
      exact Int32.toInt_inj.mp (m1 e)
    · rw [e]
      exact Int32.toInt_inj.mp (m2 e)
    · rw [e]
      exact Int32.toInt_inj.mp (m3 e)
    · rw [e]
      exact Int32.toInt_inj.mp (m4 e)
  · refine Or.inr ⟨hq, m5 ?_⟩
    clear m1 m2 m3 m4 m5
    omega
def MkI (b : Nat → Int) (n q : Nat) (x m : Int32) (G : GS) : Prop := (∃ f, MF f G ∧ pMk b n q = .inl f) ∨ (∃ p' v, MP b n G p' ∧ q ≤ p' ∧ v < 16 ∧ m = Int32.ofNat v ∧ (∀ o, Et (mkS b n) (0, q) o ↔ Et (mkS b n) (m, p') o) ∧ (x.toInt = 0 → ¬ (140 ≤ tK b n p' ∧ tK b n p' ≤ 143)))
theorem m_mkstep {b : Nat → Int} {n q : Nat} {r5 w14 : Int32} {G : GS} {s s1 : Int32 × Int32 × GS} (hs : St_n_readSlab_3 r5 w14 G s s1) (hi : MkI b n q s.1 s.2.1 s.2.2) : MkI b n q s1.1 s1.2.1 s1.2.2 := by
  obtain ⟨x, m, G3, xn, mn, G3n, rfl, rfl, -, -, -, -, -, hx, hf0, hh⟩ := hs
  rcases hi with ⟨f, hm, -⟩ | ⟨p', v, hp, hqp, hv, hmv, hE, -⟩
  · exact absurd hf0 (by have := MF.pos (G := G3) hm; omega)
  replace hp : MP b n G3 p' := hp
  replace hmv : m = Int32.ofNat v := hmv
  replace hE : ∀ o, Et (mkS b n) (0, q) o ↔ Et (mkS b n) (m, p') o := hE
  have ht := tN_p (b := b) hp.1.2.1 hp.2.2.2
  rcases hh with ⟨c1, r1, Ga, hm1, c2, r2, Gb, hm2, y, ey, hh⟩ | ⟨Ga, hj, -, -, rfl, rfl, rfl⟩
  · obtain ⟨rfl, hk⟩ := m_mrk hp c1 hm1
    have hk1 : 140 ≤ tK b n p' ∧ tK b n p' ≤ 143 := by
      rcases hk with ⟨a, b', -⟩ | ⟨-, a⟩
      · exact ⟨a, b'⟩
      · omega
    clear hk
    have mw : ∀ {r : Int32} {Gx : GS}, Q_mark G3 r Gx → G3 = Gx ∧ r = mkw (tK b n p') := by
      intro r Gx hm
      obtain ⟨e, hk⟩ := m_mrk hp c1 hm
      rcases hk with ⟨-, -, a⟩ | ⟨a, -⟩
      · exact ⟨e, a⟩
      · exact absurd hk1 a
    obtain ⟨rfl, rfl⟩ := mw hm2
    rcases hh with ⟨c3, r3, Gc, hm3, y2, ey2, Gd, htk, rfl, rfl, rfl⟩ | ⟨c3, Gc, hwr, hh⟩
    · obtain ⟨rfl, rfl⟩ := mw hm3
      rw [ey, hmv] at c3
      obtain ⟨v', g1, g2, g3⟩ := mk_ok hv hk1.1 hk1.2 c3
      have hst : mkS b n (m, p') = .inl (m ||| mkw (tK b n p'), tNx b n p') := by
        unfold mkS
        rw [if_pos hk1, if_neg (by rw [hmv]; exact fun q => q c3)]
      refine Or.inr ⟨tNx b n p', v', m_next htk hp (by omega), by omega, g1, by show y2 = _; rw [ey2, hmv]; exact g3, fun o => (hE o).trans ?_, fun q => absurd q (show ¬ (1 : Int32).toInt = 0 by decide)⟩
      show _ ↔ Et (mkS b n) (y2, tNx b n p') o
      rw [ey2]
      exact Et_i hst
    · obtain ⟨hm, -⟩ := m_wrong hwr hp (by decide)
      have hst : mkS b n (m, p') = .inr (.inl (fl b n 2 p')) := by
        unfold mkS
        rw [if_pos hk1, if_pos (by rw [← ey]; exact c3)]
      rcases hh with ⟨c4, -⟩ | ⟨-, rfl, rfl, rfl⟩
      · exact absurd c4 (by have := hm.pos; omega)
      · exact Or.inl ⟨_, hm, run_eq ((hE _).mpr ((Et_r hst).mpr rfl))⟩
  · have hj2 : G3 = Ga ∧ ¬ (140 ≤ tK b n p' ∧ tK b n p' ≤ 143) := by
      rcases hj with ⟨c1, r1, Gb, hm1, c2, e⟩ | ⟨c1, e⟩
      · obtain ⟨rfl, hk⟩ := m_mrk hp c1 hm1
        refine ⟨e, fun hq => ?_⟩
        rcases hk with ⟨-, -, a⟩ | ⟨a, -⟩
        · have : 0 < r1.toInt := by
            rw [a]
            unfold mkw
            split
            · decide
            · split
              · decide
              · split <;> decide
          omega
        · exact a hq
      · have hs := hp.so.2.2.1
        refine ⟨e, fun hq => c1 (hs.mpr ?_)⟩
        clear hs
        omega
    obtain ⟨rfl, hno⟩ := hj2
    exact Or.inr ⟨p', v, hp, hqp, hv, hmv, hE, fun _ => hno⟩
theorem pNum_60l {b : Nat → Int} {n p : Nat} {R : Int} {f : Int × Int} (h : pNum b n 1 60 p = .inl f) : pNum b n 1 (rmx R) p = .inl f := by
  unfold pNum at h ⊢
  by_cases h1 : tK b n p ≠ 201
  · rw [if_pos h1] at h ⊢
    exact h
  · rw [if_neg h1] at h ⊢
    by_cases h2 : tV b n p < 1 ∨ 60 < tV b n p
    · rw [if_pos h2] at h
      have h3 : tV b n p < 1 ∨ rmx R < tV b n p := by
        unfold rmx
        split <;> omega
      rw [if_pos h3]
      exact h
    · rw [if_neg h2] at h
      exact absurd h (by simp)
theorem pNum_60r {b : Nat → Int} {n p : Nat} {R : Int} (h : pNum b n 1 60 p = .inr (tV b n p, tNx b n p)) : (tV b n p ≤ R → pNum b n 1 (rmx R) p = .inr (tV b n p, tNx b n p)) ∧ (R < tV b n p → pNum b n 1 (rmx R) p = .inl (4, (tS b n p : Int))) := by
  unfold pNum at h ⊢
  by_cases h1 : tK b n p ≠ 201
  · rw [if_pos h1] at h
    exact absurd h (by simp)
  · have h201 : tK b n p = 201 := Classical.byContradiction h1
    rw [if_neg h1] at h
    rw [if_neg h1]
    by_cases h2 : tV b n p < 1 ∨ 60 < tV b n p
    · rw [if_pos h2] at h
      exact absurd h (by simp)
    · have h3 : ∀ x : Int, (x = rmx R) → ((tV b n p ≤ R ↔ tV b n p ≤ x)) := by
        intro x hx
        unfold rmx at hx
        by_cases hR : 60 ≤ R
        · rw [if_pos hR] at hx
          omega
        · rw [if_neg hR] at hx
          omega
      have h4 := h3 _ rfl
      refine ⟨fun q => ?_, fun q => ?_⟩
      · have := h4.mp q
        clear h3 h4
        rw [if_neg (by omega)]
      · have h5 : ¬ tV b n p ≤ rmx R := fun w => by have := h4.mpr w; omega
        clear h3 h4
        rw [if_pos (by omega)]
        unfold fl
        rw [if_neg (by omega)]
def SlM (b : Nat → Int) (n : Nat) (J : Int) (nth s : Nat) (I : List IC) (p : Nat) (G G1 : GS) : Prop := (∃ f, pSlab b n J nth I.length p = .inl f ∧ MF f G1) ∨ (∃ vx p', pSlab b n J nth I.length p = .inr (vx, p') ∧ MP b n G1 p' ∧ p < p' ∧ StM s (I ++ slI J nth vx) G1 ∧ KeM s G G1 ∧ 1 ≤ vx.1 ∧ ((I ++ slI J nth vx).length : Int) ≤ 400)
theorem m_slab {b : Nat → Int} {n : Nat} {J : Int} {nth s j0 : Nat} {I : List IC} {p : Nat} {p0 p1 : Int32} {G G1 : GS} (h : Q_readSlab p0 p1 j0 G G1) (hp : MP b n G p) (hs : (G.1 66 45).toInt = (s : Int)) (hS : StM s I G) (h0 : p0.toInt = J) (h1 : p1.toInt = (nth : Int)) (hn4 : nth ≤ 400) (hJ0 : 0 ≤ J) (hJ9 : J ≤ 9) : SlM b n J nth s I p G G1 := by
  obtain ⟨-, -, -, r5, G6, htd, w14, G15, hj1, -, -, -, G25, hj2, -, -, hF25, x, m, G32, hl, -, -, -, -, -, hF32, G58, hj4, -, -, hh⟩ := h
  have hG : G6 = G15 ∧ w14.toInt = ahd J nth := by
    unfold ahd
    rcases hj1 with ⟨c, e1, e2⟩ | ⟨c, e1, e2⟩
    · rw [if_pos (by omega), ← e1]
      exact ⟨e2, rfl⟩
    · rw [if_neg (by omega), ← e1]
      exact ⟨e2, h0⟩
  obtain ⟨rfl, hw14⟩ := hG
  clear hj1
  have har := ahd_r (nth := nth) hJ0 hJ9
  have e58 : G32 = G58 := by
    rcases hj4 with ⟨-, e⟩ | ⟨-, -, e⟩ <;> exact e
  have stop : ∀ {f : Int × Int}, MF f G25 → pSlab b n J nth I.length p = .inl f → SlM b n J nth s I p G G1 := by
    intro f hm he
    have hI : MF f G32 := hl (fun q => MF f q.2.2) hm (by
      rintro ⟨x1, m1, G_1⟩ ⟨xn, mn, G_1n⟩ hi ⟨x1q, m1q, G_1q, xnq, mnq, G_1nq, e1, e2, -, -, -, -, -, -, hf0, -⟩
      obtain ⟨rfl, e1x⟩ := Prod.mk.inj e1
      obtain ⟨rfl, rfl⟩ := Prod.mk.inj e1x
      exact absurd hf0 (by have := MF.pos (G := G_1) hi; omega))
    rcases hh with ⟨c, -⟩ | ⟨-, e⟩
    · exact absurd c (by have := hI.pos; omega)
    · subst e58
      subst e
      exact Or.inl ⟨f, he, hI⟩
  have r81 : G6.1 81 = G.1 81 := htd.2.1.row1 81 (by decide) (by decide)
  rcases m_told htd hp with ⟨f, hf, hm⟩ | ⟨hv, hp6, hr5, hl1, hl2⟩
  · have hpo := hm.pos
    rcases hj2 with ⟨c, -⟩ | ⟨-, e⟩
    · omega
    · subst e
      exact stop hm (bnd_l (pNum_60l hf))
  have hf6 : (G6.1 66 2).toInt = 0 := hp6.2.2.1.1
  have hv60 := pNum_60r (R := 400 - (I.length : Int) - ahd J nth) hv
  have k201 : tK b n p = 201 := by
    have hv' : pNum b n 1 60 p = .inr (tV b n p, tNx b n p) := hv
    unfold pNum at hv'
    refine Classical.byContradiction (fun q => ?_)
    rw [if_pos q] at hv'
    exact absurd hv' (by simp)
  have ht := tN_p (b := b) hp.1.2.1 hp.2.2.2
  have htp := (ht.2.2 (by omega)).1
  rcases hj2 with ⟨-, y190, e190, y192, t192, y193, t193, hh2⟩ | ⟨c, -⟩
  rotate_left
  · exact absurd hf6 c
  rw [cn_eq hs, r81] at e190
  have h190 : y190.toInt = (I.length : Int) := by rw [e190]; exact hS.1
  rcases hh2 with ⟨c4, rfl⟩ | ⟨c4, Gw, hwa, rfl⟩
  rotate_left
  · obtain ⟨-, -, -, hwa⟩ := hwa
    rcases hwa with ⟨-, -, e2, e3⟩ | ⟨c, -⟩
    · refine stop (f := (4, (tS b n p : Int))) ⟨by rw [e2]; rfl, by rw [e3]; exact hp.2.1.2.1, show (0 : Int) < 4 by decide⟩ (bnd_l (hv60.2 (by omega)))
    · omega
  have hvv := hv60.1 (by omega)
  have hI : MkI b n (tNx b n p) x m G32 := hl (fun q => MkI b n (tNx b n p) q.1 q.2.1 q.2.2) (Or.inr ⟨tNx b n p, 0, hp6, Nat.le_refl _, by decide, rfl, fun o => Iff.rfl, fun q => absurd q (show ¬ (1 : Int32).toInt = 0 by decide)⟩) (fun a a' ha hst => m_mkstep hst ha)
  rcases hI with ⟨f, hm, he⟩ | ⟨p', v, hp3, hqp, hv16, hmv, hE, hx0⟩
  · rcases hh with ⟨c, -⟩ | ⟨-, e⟩
    · exact absurd c (by have := hm.pos; omega)
    · subst e58
      subst e
      exact Or.inl ⟨f, (bnd_r hvv).trans (bnd_l he), hm⟩
  have hf3 : (G32.1 66 2).toInt = 0 := hp3.2.2.1.1
  have hx : x.toInt = 0 := by
    rcases hj4 with ⟨c, -⟩ | ⟨-, c, -⟩
    · exact c
    · exact absurd hf3 c
  have hno := hx0 hx
  have hst : mkS b n (m, p') = .inr (.inr (m, p')) := by
    unfold mkS
    rw [if_neg hno]
  have hmk : pMk b n (tNx b n p) = .inr (m, p') := run_eq ((hE _).mpr ((Et_r hst).mpr rfl))
  have hps : pSlab b n J nth I.length p = .inr ((tV b n p, m), p') := (bnd_r hvv).trans (bnd_r hmk)
  subst e58
  rcases hh with ⟨-, y63, e63, Ga, hpa1, Gb, hpa2, rfl⟩ | ⟨c, -⟩
  rotate_left
  · omega
  have hl1' : 1 ≤ tV b n p := hl1
  have hs32 : (G32.1 66 45).toInt = (s : Int) := by
    rw [hF32.i 66 45 (by decide) (by decide), htd.2.1.i 66 45 (by decide) (by decide)]
    exact hs
  have hS32 : StM s I G32 := (hS.fr htd.2.1 (by decide) (by decide)).fr hF32 (by decide) (by decide)
  have hK32 : KeM s G G32 := (KeM.of htd.2.1 (by decide) (by decide)).tr (KeM.of hF32 (by decide) (by decide))
  have h63 : y63.toInt = (nth : Int) - 1 := xI_sub (Y := 1) h1 rfl e63 (by omega) (by omega)
  obtain ⟨k1, k2⟩ := m_pave (m := -1) hpa1 hs32 hS32 rfl h63 hw14 har.1
  have hs2 : (Ga.1 66 45).toInt = (s : Int) := by
    rw [hpa1.2.1.i 66 45 (by decide) (by decide)]
    exact hs32
  obtain ⟨k3, k4⟩ := m_pave hpa2 hs2 k1 rfl h1 hr5 (by omega)
  refine Or.inr ⟨_, p', hps, (hp3.fr hpa1.2.1 (by decide) (by decide) (by decide) (by decide)).fr hpa2.2.1 (by decide) (by decide) (by decide) (by decide), by omega, ?_, (hK32.tr k2).tr k4, hl1', ?_⟩
  · rw [List.append_assoc] at k3
    exact k3
  · rw [List.length_append, slI_len]
    show ((I.length + ((ahd J nth).toNat + (tV b n p).toNat) : Nat) : Int) ≤ 400
    omega

/-! lines by the reference -/
def LnM {α : Type} (b : Nat → Int) (n p : Nat) (o : Rs α) (G1 : GS) (K : α → Prop) : Prop := (∃ f, o = .inl f ∧ MF f G1) ∨ (∃ x p', o = .inr (x, p') ∧ MP b n G1 p' ∧ p < p' ∧ K x)
def TlM (G G1 : GS) : Prop := (((G.1 66 2).toInt = 0 ∧ ((((G.1 66 6).toInt = 59 ∧ (∃ (Ga : GS), Q_token G Ga ∧ Ga = G1)) ∨ ((G.1 66 6).toInt ≠ 59 ∧ (∃ (Ga : GS), Q_wrong 2 G Ga ∧ (((Ga.1 66 2).toInt = 0 ∧ (∃ (Gb : GS), Q_token Ga Gb ∧ Gb = G1)) ∨ ((Ga.1 66 2).toInt ≠ 0 ∧ (Ga = G1)))))))) ∨ ((G.1 66 2).toInt ≠ 0 ∧ (G = G1)))
theorem m_semi {α : Type} {b : Nat → Int} {n p : Nat} {o : Rs α} {G G1 : GS} {K K' : α → Prop} (h : LnM b n p o G K) (ht : TlM G G1) (hK : ∀ x, Fr [] [(66, 4), (66, 6), (66, 7), (66, 8), (66, 9)] G G1 → K x → K' x) : LnM b n p (smi b n o) G1 K' := by
  rcases h with ⟨f, e, hm⟩ | ⟨x, p', e, hp, hlt, hx⟩
  · have hpo := hm.pos
    rcases ht with ⟨c, -⟩ | ⟨-, rfl⟩
    · omega
    · exact Or.inl ⟨f, smi_l e, hm⟩
  · have hf0 : (G.1 66 2).toInt = 0 := hp.2.2.1.1
    have h59 := hp.so.2.2.2.2 59 (by decide) (by decide)
    have htn := tN_p (b := b) hp.1.2.1 hp.2.2.2
    rcases ht with ⟨-, ⟨c, Ga, htk, rfl⟩ | ⟨c, Ga, hwr, hh⟩⟩ | ⟨c, -⟩
    · have k := h59.mp c
      have hkw : pKw b n 59 p' = .inr ((), tNx b n p') := by
        unfold pKw
        rw [if_pos k]
      exact Or.inr ⟨x, tNx b n p', (smi_r e).trans (bnd_r hkw), m_next htk hp (by omega), by omega, hK x htk.2.1 hx⟩
    · have k : tK b n p' ≠ 59 := fun q => c (h59.mpr q)
      obtain ⟨hm, -⟩ := m_wrong hwr hp (by decide)
      have hkw : pKw b n 59 p' = .inl (fl b n 2 p') := by
        unfold pKw
        rw [if_neg k]
      rcases hh with ⟨c2, -⟩ | ⟨-, rfl⟩
      · exact absurd c2 (by have := hm.pos; omega)
      · exact Or.inl ⟨_, (smi_r e).trans (bnd_l hkw), hm⟩
    · exact absurd hf0 c
/-- the names' row gets one more -/
def NmU (base : Nat) (NS : List (List Int)) (L : List Int) (G G1 : GS) : Prop := LW L ∧ G1.2.1 68 = vp_updL (G.2.1 68) (base + NS.length) (w8 L)
theorem NmU.frl {base : Nat} {NS : List (List Int)} {L : List Int} {rs : List Nat} {fs : List (Nat × Nat)} {G G1 G2 : GS} (h : NmU base NS L G G1) (hF : Fr rs fs G1 G2) (h1 : 68 ∉ rs) (h2 : ∀ x ∈ fs, x.1 ≠ 68) : NmU base NS L G G2 := ⟨h.1, by rw [hF.rowl 68 h1 h2]; exact h.2⟩
theorem NmM.fr {base : Nat} {NS : List (List Int)} {rs : List Nat} {fs : List (Nat × Nat)} {G G1 : GS} (h : NmM base NS G) (hF : Fr rs fs G G1) (h1 : 68 ∉ rs) (h2 : ∀ x ∈ fs, x.1 ≠ 68) : NmM base NS G1 := by
  unfold NmM at h ⊢
  rw [hF.rowl 68 h1 h2]
  exact h
theorem NmU.own {base : Nat} {NS : List (List Int)} {L : List Int} {G G1 : GS} (h : NmU base NS L G G1) (hN : NmM base NS G) : NmM base (NS ++ [L]) G1 := by
  intro k hk
  rw [List.length_append, List.length_singleton] at hk
  rw [h.2, getD_snoc]
  by_cases hq : k < NS.length
  · rw [if_pos hq, show vp_updL (G.2.1 68) (base + NS.length) (w8 L) (base + k) = G.2.1 68 (base + k) from if_neg (by omega)]
    exact hN k hq
  · rw [if_neg hq, if_pos (by omega), show vp_updL (G.2.1 68) (base + NS.length) (w8 L) (base + k) = w8 L from if_pos (by omega)]
    exact ⟨rfl, h.1⟩
theorem NmU.oth {base base' : Nat} {NS NS' : List (List Int)} {L : List Int} {G G1 : GS} (h : NmU base NS L G G1) (hN : NmM base' NS' G) (hd : base + NS.length < base' ∨ base' + NS'.length ≤ base + NS.length) : NmM base' NS' G1 := by
  intro k hk
  rw [h.2, show vp_updL (G.2.1 68) (base + NS.length) (w8 L) (base' + k) = G.2.1 68 (base' + k) from if_neg (by omega)]
  exact hN k hk
theorem MP.k2 {b : Nat → Int} {n p : Nat} {G : GS} (h : MP b n G p) : (G.1 66 2).toInt = 0 := h.2.2.1.1
theorem kn_eq {α : Type} {b : Nat → Int} {n p : Nat} {k lo hi : Int} {K : Int → Nat → Rs α} : (bnd (pKw b n k p) fun _ q => bnd (pNum b n lo hi q) K) = bnd (bnd (pKw b n k p) fun _ q => pNum b n lo hi q) K := by
  cases pKw b n k p with
  | inl f => rfl
  | inr x => rfl
theorem pKw_n {b : Nat → Int} {n p q : Nat} {k : Int} {x : Unit} (h : pKw b n k p = .inr (x, q)) : q = tNx b n p := by
  unfold pKw at h
  split at h
  · exact ((Prod.mk.inj (Sum.inr.inj h)).2).symm
  · exact absurd h (by simp)
theorem pNum_n {b : Nat → Int} {n p q : Nat} {lo hi v : Int} (h : pNum b n lo hi p = .inr (v, q)) : q = tNx b n p := by
  unfold pNum at h
  split at h
  · exact absurd h (by simp)
  · split at h
    · exact absurd h (by simp)
    · exact ((Prod.mk.inj (Sum.inr.inj h)).2).symm
theorem kn_p {b : Nat → Int} {n p q : Nat} {k lo hi v : Int} (hn : n ≤ 1600) (hp : p ≤ n) (h : (bnd (pKw b n k p) fun _ q => pNum b n lo hi q) = .inr (v, q)) : p ≤ q := by
  cases hkw : pKw b n k p with
  | inl f =>
    rw [hkw] at h
    exact absurd h (by simp [bnd])
  | inr x =>
    rw [hkw] at h
    obtain ⟨x1, x2⟩ := x
    have h1 : pNum b n lo hi x2 = .inr (v, q) := h
    have e1 := pKw_n hkw
    have e2 := pNum_n h1
    have t1 := tN_p (b := b) hn hp
    have t2 := tN_p (b := b) hn t1.2.1
    rw [e2, e1]
    omega
theorem m_street {b : Nat → Int} {n p : Nat} {G G1 : GS} {NS : List (List Int)} (h : Q_readStreet G G1) (hp : MP b n G p) (hk : tK b n p ≠ 202) (hk3 : tK b n p ≠ 203) (hN : NmM 0 NS G) (hm : (G.1 66 45).toInt = (NS.length : Int)) : LnM b n p (pStreet b n NS p) G1 (fun x => NmU 0 NS x.1 G G1 ∧ (G1.1 66 45).toInt = (NS.length : Int) + 1 ∧ StM NS.length x.2 G1 ∧ KeM NS.length G G1 ∧ (x.2.length : Int) ≤ 400) := by
  obtain ⟨-, -, -, G4, hnm, r12, G13, ht2, hh⟩ := h
  have ht := tN_p (b := b) hp.1.2.1 hp.2.2.2
  have htp := (ht.2.2 hk3).1
  rcases m_name hnm hp hk hN rfl hm with ⟨f, hf, hmf⟩ | ⟨e1, hp2, hLW, e68⟩
  · have hpo := hmf.pos
    have e := told2_f ht2 hpo
    subst e
    rcases hh with ⟨c, -⟩ | ⟨-, rfl⟩
    · omega
    · exact Or.inl ⟨f, by unfold pStreet; exact bnd_l hf, hmf⟩
  have hU : NmU 0 NS (tL b n (tNx b n p)) G G4 := ⟨hLW, e68⟩
  have hq2 : tNx b n p ≤ n := ht.2.1
  have htn2 := tN_p (b := b) hp.1.2.1 hq2
  rcases m_told2 (i := 11) (by decide) (by decide +kernel) ht2 hp2 with ⟨f, hf, hmf⟩ | ⟨J, p5, e2, hp5, hrJ, hlo, hhi⟩
  · have hpo := hmf.pos
    have hf' : pStreet b n NS p = .inl f := by
      unfold pStreet
      exact (bnd_r e1).trans (kn_eq.trans (bnd_l hf))
    rcases hh with ⟨c, -⟩ | ⟨-, rfl⟩
    · omega
    · exact Or.inl ⟨f, hf', hmf⟩
  have hlo' : 0 ≤ J := hlo
  have hhi' : J ≤ 9 := hhi
  have hq5 : tNx b n (tNx b n p) ≤ p5 := kn_p hp.1.2.1 htn2.2.1 e2
  have hbn : ∀ {β : Type} (K : Int → Nat → Rs β), (bnd (pKw b n 139 (tNx b n (tNx b n p))) fun _ q => bnd (pNum b n 0 9 q) K) = K J p5 := fun K => kn_eq.trans (bnd_r e2)
  have hf13 : (G13.1 66 2).toInt = 0 := hp5.k2
  rcases hh with ⟨-, G19, -, hF19, e81, x24, G20, hl, -, -, -, hF20, hh⟩ | ⟨c, -⟩
  rotate_left
  · omega
  rw [cn_eq hm] at e81
  have hK13 : KeM NS.length G G13 := (KeM.of hnm.2.1 (by decide) (by decide)).tr (KeM.of ht2.2.1 (by decide) (by decide))
  have hK19 : KeM NS.length G G19 := hK13.tr ⟨fun s' q => by rw [e81]; exact if_neg q, fun j q => by rw [hF19.row1 77 (by decide) (by decide), hF19.row1 78 (by decide) (by decide), hF19.row1 79 (by decide) (by decide), hF19.row1 80 (by decide) (by decide)]; exact ⟨rfl, rfl, rfl, rfl⟩⟩
  have h45 : (G19.1 66 45).toInt = (NS.length : Int) := by
    rw [hF19.i 66 45 (by decide) (by decide), ht2.2.1.i 66 45 (by decide) (by decide), hnm.2.1.i 66 45 (by decide) (by decide)]
    exact hm
  have hS19 : StM NS.length [] G19 := ⟨by rw [e81, show upd (G13.1 81) NS.length 0 NS.length = 0 from if_pos rfl]; rfl, fun i hi => absurd hi (Nat.not_lt_zero i)⟩
  have hp19 : MP b n G19 p5 := hp5.fr hF19 (by decide) (by decide) (by decide) (by decide)
  have hU19 : NmU 0 NS (tL b n (tNx b n p)) G G19 := (hU.frl ht2.2.1 (by decide) (by decide)).frl hF19 (by decide) (by decide)
  have hI := hl (fun q => (∃ f, MF f q.2 ∧ pSls b n J p5 = .inl f) ∨ (∃ (nth : Nat) (I : List IC) (p' : Nat), q.1.toInt = (nth : Int) ∧ MP b n q.2 p' ∧ p5 ≤ p' ∧ (q.2.1 66 45).toInt = (NS.length : Int) ∧ StM NS.length I q.2 ∧ KeM NS.length G q.2 ∧ (I.length : Int) ≤ 400 ∧ nth ≤ I.length ∧ ∀ o, Et (slS b n J) (0, [], p5) o ↔ Et (slS b n J) (nth, I, p') o)) (Or.inr ⟨0, [], p5, rfl, hp19, Nat.le_refl _, h45, hS19, hK19, by decide, Nat.le_refl _, fun o => Iff.rfl⟩) (by
    rintro ⟨x1, G_1⟩ ⟨xn, G_1n⟩ hi ⟨x1q, G_1q, xnq, G_1nq, q1, q2, -, -, -, hf0, hd⟩
    obtain ⟨rfl, rfl⟩ := Prod.mk.inj q1
    obtain ⟨rfl, rfl⟩ := Prod.mk.inj q2
    rcases hi with ⟨f, hmf, -⟩ | ⟨nth, I, p', g1, g2, g3, g4, g5, g6, g7, g8, g9⟩
    · exact absurd hf0 (by have := MF.pos (G := G_1) hmf; omega)
    simp only at g1 g2 g4 g5 g6
    have h201 := g2.so.2.1
    have hd2 : (nth = 0 ∨ tK b n p' = 201) ∧ Q_readSlab r12 x1 ((G.1 66 45).toNatClampNeg) G_1 G_1n ∧ xn.toInt = x1.toInt + 1 := by
      rcases hd with ⟨d0, G7, d1, y7, d3, d4, d5⟩ | ⟨d0, d6, G7, d1, y7, d3, d4, d5⟩
      · subst d5
        exact ⟨Or.inl (by clear h201; omega), d1, by rw [← d4]; exact d3⟩
      · subst d5
        refine ⟨Or.inr (h201.mp d6), d1, ?_⟩
        rw [← d4]
        exact tI_add (y := 1) d3 (by have o : (1 : Int32).toInt = 1 := rfl; clear h201; omega) (by have o : (1 : Int32).toInt = 1 := rfl; clear h201; omega)
    clear hd h201
    obtain ⟨hc, d1, d3⟩ := hd2
    rcases m_slab d1 g2 g4 g5 hrJ g1 (by omega) hlo' hhi' with ⟨f, s1, s2⟩ | ⟨vx, p2, s1, s3, s4, s5, s6, s7, s8⟩
    · have hsl : slS b n J (nth, I, p') = .inr (.inl f) := slS_l hc s1
      exact Or.inl ⟨f, s2, run_eq ((g9 _).mpr ((Et_r hsl).mpr rfl))⟩
    · have hsl : slS b n J (nth, I, p') = .inl (nth + 1, I ++ slI J nth vx, p2) := slS_r hc s1
      have hle : nth + 1 ≤ (I ++ slI J nth vx).length := by
        rw [List.length_append, slI_len]
        omega
      refine Or.inr ⟨nth + 1, I ++ slI J nth vx, p2, by show xn.toInt = _; omega, s3, by omega, ?_, s5, g6.tr s6, s8, hle, fun o => (g9 o).trans (Et_i hsl)⟩
      show (G_1n.1 66 45).toInt = _
      rw [d1.2.1.i 66 45 (by decide) (by decide)]
      exact g4)
  rcases hI with ⟨f, hmf, he⟩ | ⟨nth, I, p', g1, g2, g3, g4, g5, g6, g7, g8, g9⟩
  · have hpo : 0 < (G20.1 66 2).toInt := MF.pos hmf
    rcases hh with ⟨c, -⟩ | ⟨-, rfl⟩
    · omega
    · exact Or.inl ⟨f, by unfold pStreet; exact (bnd_r e1).trans ((hbn _).trans (bnd_l he)), hmf⟩
  simp only at g1 g2 g4 g5 g6
  have hf20 : (G20.1 66 2).toInt = 0 := g2.k2
  rcases hh with ⟨-, c0, c2, y52, t52, hFe, e45⟩ | ⟨c, -⟩
  rotate_left
  · omega
  have h201 := g2.so.2.1
  have n201 : tK b n p' ≠ 201 := fun q => c2 (h201.mpr q)
  clear h201
  have hsl : slS b n J (nth, I, p') = .inr (.inr (I, p')) := by
    unfold slS
    rw [if_neg (show ¬ (nth = 0 ∨ tK b n p' = 201) by omega)]
  have hpl : pSls b n J p5 = .inr (I, p') := run_eq ((g9 _).mpr ((Et_r hsl).mpr rfl))
  refine Or.inr ⟨(tL b n (tNx b n p), I), p', by unfold pStreet; exact (bnd_r e1).trans ((hbn _).trans (bnd_r hpl)), g2.fr hFe (by decide) (by decide) (by decide) (by decide), by omega, (hU19.frl hF20 (by decide) (by decide)).frl hFe (by decide) (by decide), by rw [e45]; omega, g5.fr hFe (by decide) (by decide), g6.tr (KeM.of hFe (by decide) (by decide)), g7⟩

/-! the reference's formulas leave earlier code as it was -/
def KpM (f : Nat) (G G1 : GS) : Prop := (∀ j, j < 320 * f → G1.1 69 j = G.1 69 j ∧ G1.1 70 j = G.1 70 j) ∧ ∀ k, k < f → G1.1 71 k = G.1 71 k
theorem KpM.tr {f : Nat} {G G1 G2 : GS} (h : KpM f G G1) (h' : KpM f G1 G2) : KpM f G G2 := ⟨fun j q => ⟨(h'.1 j q).1.trans (h.1 j q).1, (h'.1 j q).2.trans (h.1 j q).2⟩, fun k q => (h'.2 k q).trans (h.2 k q)⟩
theorem KpM.of {f : Nat} {rs : List Nat} {fs : List (Nat × Nat)} {G G1 : GS} (hF : Fr rs fs G G1) (h1 : 69 ∉ rs ∧ 70 ∉ rs ∧ 71 ∉ rs) (h2 : ∀ x ∈ fs, x.1 ≠ 69 ∧ x.1 ≠ 70 ∧ x.1 ≠ 71) : KpM f G G1 := by
  unfold KpM
  rw [hF.row1 69 h1.1 (fun x hx => (h2 x hx).1), hF.row1 70 h1.2.1 (fun x hx => (h2 x hx).2.1), hF.row1 71 h1.2.2 (fun x hx => (h2 x hx).2.2)]
  exact ⟨fun _ _ => ⟨rfl, rfl⟩, fun _ _ => rfl⟩
theorem CodeM.kp {f k : Nat} {C : List (Int × Int)} {G G1 : GS} (h : CodeM k C G) (hK : KpM f G G1) (hk : k < f) (hl : C.length ≤ 320) : CodeM k C G1 := by
  refine ⟨by rw [hK.2 k hk]; exact h.1, fun i hi => ?_⟩
  obtain ⟨e1, e2⟩ := hK.1 (320 * k + i) (by omega)
  rw [e1, e2]
  exact h.2 i hi
theorem kp_add {f : Nat} {s v : Int32} {G G1 : GS} (h : Q_add s v G G1) (hB : Bd G) (hf : (G.1 66 19).toInt = (f : Int)) : KpM f G G1 := by
  obtain ⟨-, -, -, y2, t2, y3, e3, y5, t5, y7, t7, y8, e8, y10, t10, y12, e12, y14, t14, -, e69, e70, e71⟩ := h
  have hb : 0 ≤ (G.1 71 f).toInt := (hB.i 71 f (lo := 0) (hi := 320) rfl rfl).1
  rw [cn_eq hf] at e3 e8 e71
  subst e3
  subst e8
  have c5 := c_nat y5
  have c10 := c_nat y10
  refine ⟨fun j hj => ⟨?_, ?_⟩, fun k hk => ?_⟩
  · rw [e69]
    exact if_neg (by omega)
  · rw [e70]
    exact if_neg (by omega)
  · rw [e71]
    exact if_neg (by omega)
theorem kp_close {f : Nat} {L : Int32} {G G1 : GS} (h : Q_close L G G1) (hf : (G.1 66 19).toInt = (f : Int)) : KpM f G G1 := by
  obtain ⟨-, -, -, G2, hl, -, -, -, -, -, -, -, -, -, -, hh⟩ := h
  have hI := hl (fun q => (q.1 66 19).toInt = (f : Int) ∧ KpM f G q) ⟨hf, fun _ _ => ⟨rfl, rfl⟩, fun _ _ => rfl⟩ (by
    rintro Ga Gb ⟨i1, i2⟩ ⟨Gc, Gd, rfl, rfl, -, -, -, -, -, -, -, -, -, -, y21, -, y22, -, -, y25, -, y26, -, r28, G29, htg, -, y50, -, y52, -, hd⟩
    have e := htg.2.1.nil
    subst e
    rcases hd with ⟨-, G51, hB, hF, -, G82, had, y86, -, hF2, -⟩ | ⟨-, y58, -, G51, hB, hF, -, G64, had, rfl⟩
    · have j1 : (G51.1 66 19).toInt = (f : Int) := by rw [hF.i 66 19 (by decide) (by decide)]; exact i1
      exact ⟨by rw [hF2.i 66 19 (by decide) (by decide), had.2.1.i 66 19 (by decide) (by decide)]; exact j1, ((i2.tr (KpM.of hF (by decide) (by decide))).tr (kp_add had hB j1)).tr (KpM.of hF2 (by decide) (by decide))⟩
    · have j1 : (G51.1 66 19).toInt = (f : Int) := by rw [hF.i 66 19 (by decide) (by decide)]; exact i1
      exact ⟨by rw [had.2.1.i 66 19 (by decide) (by decide)]; exact j1, (i2.tr (KpM.of hF (by decide) (by decide))).tr (kp_add had hB j1)⟩)
  rcases hh with ⟨-, rfl⟩ | ⟨-, y21, -, y22, -, hh⟩
  · exact hI.2
  · rcases hh with ⟨-, rfl⟩ | ⟨-, y25, -, y26, -, r28, G29, htg, -, rfl⟩
    · exact hI.2
    · have e := htg.2.1.nil
      subst e
      exact hI.2
theorem kp_cat {f : Nat} {s v : Int32} {G Gc Gd Ge : GS} (hcu : Q_countUnit G Gc) (had : Q_add s v Gc Gd) (htk : Q_token Gd Ge) (hf : (G.1 66 19).toInt = (f : Int)) : KpM f G Ge := by
  have j1 : (Gc.1 66 19).toInt = (f : Int) := by rw [hcu.2.1.i 66 19 (by decide) (by decide)]; exact hf
  exact ((KpM.of hcu.2.1 (by decide) (by decide)).tr (kp_add had hcu.1 j1)).tr (KpM.of htk.2.1 (by decide) (by decide))
theorem kp_unit {f : Nat} {G G1 : GS} (h : Q_unit G G1) (hf : (G.1 66 19).toInt = (f : Int)) : KpM f G G1 := by
  obtain ⟨-, -, -, x, G3, -, -, -, -, -, -, hF3, G29, -, -, hF29, hh⟩ := h
  have e29 := hF29.nil
  subst e29
  have k3 : KpM f G G3 := KpM.of hF3 (by decide) (by decide)
  have f3 : (G3.1 66 19).toInt = (f : Int) := by rw [hF3.i 66 19 (by decide) (by decide)]; exact hf
  have w : ∀ {Gw : GS}, Q_wrong 2 G3 Gw → KpM f G Gw ∧ (Gw.1 66 19).toInt = (f : Int) := fun hw => ⟨k3.tr (KpM.of hw.2.1 (by decide) (by decide)), by rw [hw.2.1.i 66 19 (by decide) (by decide)]; exact f3⟩
  rcases hh with ⟨-, r34, Ga, hask, hh⟩ | ⟨-, rfl⟩
  rotate_left
  · exact k3
  have ea := hask.2.1.nil
  subst ea
  rcases hh with ⟨-, r42, Gb, hfu, hh⟩ | ⟨-, hh⟩
  · have eb := hfu.2.1.nil
    subst eb
    rcases hh with ⟨-, Gc, hcu, ⟨-, Gd, had, Ge, htk, rfl⟩ | ⟨-, Gd, had, Ge, htk, rfl⟩⟩ | ⟨-, Gc, hwr, ⟨-, Gd, hcu, ⟨-, Ge, had, Gf, htk, rfl⟩ | ⟨-, Ge, had, Gf, htk, rfl⟩⟩ | ⟨-, rfl⟩⟩
    · exact k3.tr (kp_cat hcu had htk f3)
    · exact k3.tr (kp_cat hcu had htk f3)
    · exact (w hwr).1.tr (kp_cat hcu had htk (w hwr).2)
    · exact (w hwr).1.tr (kp_cat hcu had htk (w hwr).2)
    · exact (w hwr).1
  · rcases hh with ⟨-, Gc, hwr, ⟨-, Gd, hcu, Ge, had, Gf, htk, rfl⟩ | ⟨-, rfl⟩⟩ | ⟨-, r45, Gb, hfu, hh⟩
    · exact (w hwr).1.tr (kp_cat hcu had htk (w hwr).2)
    · exact (w hwr).1
    · have eb := hfu.2.1.nil
      subst eb
      rcases hh with ⟨-, Gc, hcu, Gd, had, Ge, htk, rfl⟩ | ⟨-, Gc, hwr, ⟨-, Gd, hcu, Ge, had, Gf, htk, rfl⟩ | ⟨-, rfl⟩⟩
      · exact k3.tr (kp_cat hcu had htk f3)
      · exact (w hwr).1.tr (kp_cat hcu had htk (w hwr).2)
      · exact (w hwr).1
theorem kp_form {f : Nat} {p0 : Int32} {G G1 : GS} (h : Q_formula p0 G G1) (hf : p0.toInt = (f : Int)) : KpM f G G1 := by
  obtain ⟨-, -, -, G5, -, hF5, e19, -, -, -, e71, G21, hun, x, G3, hl, -, -, -, -, -, G48, -, -, hF48, hh⟩ := h
  have f5 : (G5.1 66 19).toInt = (f : Int) := by rw [e19]; exact hf
  have k5 : KpM f G G5 := by
    refine ⟨fun j hj => ?_, fun k hk => ?_⟩
    · rw [hF5.row1 69 (by decide) (by decide), hF5.row1 70 (by decide) (by decide)]
      exact ⟨rfl, rfl⟩
    · rw [e71, cn_eq hf]
      exact if_neg (by omega)
  have hI := hl (fun q => (q.2.1 66 19).toInt = (f : Int) ∧ KpM f G q.2) ⟨by show (G21.1 66 19).toInt = _; rw [hun.2.1.i 66 19 (by decide) (by decide)]; exact f5, k5.tr (kp_unit hun f5)⟩ (by
    rintro ⟨x1, G_1⟩ ⟨xn, G_1n⟩ ⟨i1, i2⟩ ⟨x1q, G_1q, xnq, G_1nq, q1, q2, -, -, -, -, -, -, r1, Ga, hsg, hd⟩
    obtain ⟨rfl, rfl⟩ := Prod.mk.inj q1
    obtain ⟨rfl, rfl⟩ := Prod.mk.inj q2
    have ea := hsg.2.1.nil
    subst ea
    simp only at i1 i2
    rcases hd with ⟨-, r2, Gb, hbr, -, Gc, hcl, y1, -, y2, -, Gd, -, hF, -, -, Ge, htk, -, rfl⟩ | ⟨Gb, -, -, hFb, hd⟩
    · have eb := hbr.2.1.nil
      subst eb
      refine ⟨?_, ((i2.tr (kp_close hcl i1)).tr (KpM.of hF (by decide) (by decide))).tr (KpM.of htk.2.1 (by decide) (by decide))⟩
      show (Ge.1 66 19).toInt = _
      rw [htk.2.1.i 66 19 (by decide) (by decide), hF.i 66 19 (by decide) (by decide), hcl.2.1.i 66 19 (by decide) (by decide)]
      exact i1
    · have eb := hFb.nil
      subst eb
      rcases hd with ⟨-, -, rfl⟩ | ⟨-, r3, Gc, htg, hd⟩
      · exact ⟨i1, i2⟩
      · have ec := htg.2.1.nil
        subst ec
        rcases hd with ⟨-, r4, Gd, hrl', -, -, rfl⟩ | ⟨Gd, -, -, hFd, r4, Ge, htg2, Gf, hcl, y1, -, Gg, -, hF, -, -, Gh, htk, Gi, hun2, -, rfl⟩
        · have ed := hrl'.2.1.nil
          subst ed
          exact ⟨i1, i2⟩
        · have ed := hFd.nil
          subst ed
          have ee := htg2.2.1.nil
          subst ee
          have j1 : (Gh.1 66 19).toInt = (f : Int) := by
            rw [htk.2.1.i 66 19 (by decide) (by decide), hF.i 66 19 (by decide) (by decide), hcl.2.1.i 66 19 (by decide) (by decide)]
            exact i1
          refine ⟨?_, (((i2.tr (kp_close hcl i1)).tr (KpM.of hF (by decide) (by decide))).tr (KpM.of htk.2.1 (by decide) (by decide))).tr (kp_unit hun2 j1)⟩
          show (Gi.1 66 19).toInt = _
          rw [hun2.2.1.i 66 19 (by decide) (by decide)]
          exact j1)
  obtain ⟨i1, i2⟩ := hI
  simp only at i1 i2
  have e48 := hF48.nil
  subst e48
  rcases hh with ⟨-, r, Ga, hbr, hh⟩ | ⟨-, rfl⟩
  · have ea := hbr.2.1.nil
    subst ea
    rcases hh with ⟨-, Gb, hcl, rfl⟩ | ⟨-, Gb, hwr, ⟨-, Gc, hcl, rfl⟩ | ⟨-, rfl⟩⟩
    · exact i2.tr (kp_close hcl i1)
    · exact (i2.tr (KpM.of hwr.2.1 (by decide) (by decide))).tr (kp_close hcl (by rw [hwr.2.1.i 66 19 (by decide) (by decide)]; exact i1))
    · exact i2.tr (KpM.of hwr.2.1 (by decide) (by decide))
  · exact i2

/-! the other lines by the reference -/
theorem MF.fr {f : Int × Int} {rs : List Nat} {fs : List (Nat × Nat)} {G G1 : GS} (h : MF f G) (hF : Fr rs fs G G1) (h1 : 66 ∉ rs) (h2 : (66, 2) ∉ fs ∧ (66, 3) ∉ fs) : MF f G1 := by
  unfold MF at h ⊢
  rw [hF.i 66 2 h1 h2.1, hF.i 66 3 h1 h2.2]
  exact h
theorem takes_f {c : Int64} {r : Int32} {G G1 : GS} (h : Q_takes c G r G1) (hf : 0 < (G.1 66 2).toInt) : r.toInt = 0 ∧ G = G1 := by
  obtain ⟨-, -, -, -, hh⟩ := h
  rcases hh with ⟨c1, -⟩ | ⟨c1, e1, e2⟩
  · omega
  · exact ⟨by rw [← e1]; rfl, e2⟩
def WkM (k : Nat) (x : WK) (G : GS) : Prop := (G.1 82 k).toInt = x.1 ∧ (G.1 83 k).toInt = x.2.1 ∧ (G.1 84 k).toInt = x.2.2.1 ∧ (G.1 85 k).toInt = x.2.2.2
theorem m_walker {b : Nat → Int} {n p : Nat} {G G1 : GS} {NS : List (List Int)} (h : Q_readWalker G G1) (hp : MP b n G p) (hk : tK b n p ≠ 202) (hk3 : tK b n p ≠ 203) (hN : NmM 3 NS G) (hm : (G.1 66 46).toInt = (NS.length : Int)) : LnM b n p (pWalker b n NS p) G1 (fun x => NmU 3 NS x.1 G G1 ∧ (G1.1 66 46).toInt = (NS.length : Int) + 1 ∧ WkM NS.length x.2 G1 ∧ ∀ k, k ≠ NS.length → G1.1 82 k = G.1 82 k ∧ G1.1 83 k = G.1 83 k ∧ G1.1 84 k = G.1 84 k ∧ G1.1 85 k = G.1 85 k) := by
  obtain ⟨-, -, -, G4, hnm, r12, G13, t12, G17, -, hF17, e82, r25, G26, t25, y31, e31, G30, -, hF30, e83, r39, G40, t39, y45, e45, G47, -, hF47, e84, e85, r51, G52, htk, hh⟩ := h
  have hmc := cn_eq hm
  rw [hmc] at e82 e31 e83 e45 e84 e85
  have ht := tN_p (b := b) hp.1.2.1 hp.2.2.2
  have htp := (ht.2.2 hk3).1
  have d4 : ∀ {f : Int × Int}, MF f G47 → MF f G1 := by
    intro f hmf
    obtain ⟨c, rfl⟩ := takes_f htk hmf.pos
    rcases hh with ⟨-, ⟨c2, -⟩ | ⟨-, rfl⟩⟩ | ⟨c2, -⟩
    · exact absurd c2 (by have := hmf.pos; rw [hF47.i 66 2 (by decide) (by decide)] at this; omega)
    · exact hmf
    · omega
  have d3 : ∀ {f : Int × Int}, MF f G30 → MF f G1 := by
    intro f hmf
    have e := told2_f t39 hmf.pos
    subst e
    exact d4 (hmf.fr hF47 (by decide) (by decide))
  have d2 : ∀ {f : Int × Int}, MF f G17 → MF f G1 := by
    intro f hmf
    have e := told2_f t25 hmf.pos
    subst e
    exact d3 (hmf.fr hF30 (by decide) (by decide))
  have d1 : ∀ {f : Int × Int}, MF f G4 → MF f G1 := by
    intro f hmf
    have e := told2_f t12 hmf.pos
    subst e
    exact d2 (hmf.fr hF17 (by decide) (by decide))
  rcases m_name hnm hp hk hN rfl hm with ⟨f, hf, hmf⟩ | ⟨e1, hp2, hLW, e68⟩
  · exact Or.inl ⟨f, by unfold pWalker; exact bnd_l hf, d1 hmf⟩
  have ht1 := tN_p (b := b) hp.1.2.1 ht.2.1
  rcases m_told2 (i := 2) (by decide) (by decide +kernel) t12 hp2 with ⟨f, hf, hmf⟩ | ⟨v1, p3, e2, hp3, hr12, -, -⟩
  · exact Or.inl ⟨f, by unfold pWalker; exact (bnd_r e1).trans (kn_eq.trans (bnd_l hf)), d2 (hmf.fr hF17 (by decide) (by decide))⟩
  have l3 := kn_p hp.1.2.1 ht1.2.1 e2
  replace hp3 := hp3.fr hF17 (by decide) (by decide) (by decide) (by decide)
  rcases m_told2 (i := 3) (by decide) (by decide +kernel) t25 hp3 with ⟨f, hf, hmf⟩ | ⟨v2, p4, e3, hp4, hr25, lo4, hi4⟩
  · exact Or.inl ⟨f, by unfold pWalker; exact (bnd_r e1).trans (kn_eq.trans ((bnd_r e2).trans (kn_eq.trans (bnd_l hf)))), d3 (hmf.fr hF30 (by decide) (by decide))⟩
  have l4 := kn_p hp3.1.2.1 hp3.2.2.2 e3
  replace hp4 := hp4.fr hF30 (by decide) (by decide) (by decide) (by decide)
  have h31 : y31.toInt = v2 := by
    rw [e31, show upd (G26.1 83) NS.length r25 NS.length = r25 from if_pos rfl]
    exact hr25
  have o4 := m_told2 (i := 4) (by decide) (by decide +kernel) t39 hp4
  rw [h31] at o4
  rcases o4 with ⟨f, hf, hmf⟩ | ⟨v3, p5, e4, hp5, hr39, lo5, hi5⟩
  · exact Or.inl ⟨f, by unfold pWalker; exact (bnd_r e1).trans (kn_eq.trans ((bnd_r e2).trans (kn_eq.trans ((bnd_r e3).trans (kn_eq.trans (bnd_l hf)))))), d4 (hmf.fr hF47 (by decide) (by decide))⟩
  have l5 := kn_p hp4.1.2.1 hp4.2.2.2 e4
  have hf40 : (G40.1 66 2).toInt = 0 := hp5.k2
  replace hp5 := hp5.fr hF47 (by decide) (by decide) (by decide) (by decide)
  have h45 : y45.toInt = v3 := by
    rw [e45, show upd (G40.1 84) NS.length r39 NS.length = r39 from if_pos rfl]
    exact hr39
  have e5 : pWalker b n NS p = (if tK b n p5 = 133 then bnd (pNum b n (v3 + 1) 99 (tNx b n p5)) fun v q => .inr ((tL b n (tNx b n p), v1, v2, v3, v), q) else .inr ((tL b n (tNx b n p), v1, v2, v3, v3), p5)) := by
    unfold pWalker
    exact (bnd_r e1).trans (kn_eq.trans ((bnd_r e2).trans (kn_eq.trans ((bnd_r e3).trans (kn_eq.trans (bnd_r e4))))))
  have hU4 : NmU 3 NS (tL b n (tNx b n p)) G G4 := ⟨hLW, e68⟩
  have hU47 : NmU 3 NS (tL b n (tNx b n p)) G G47 := (((((hU4.frl t12.2.1 (by decide) (by decide)).frl hF17 (by decide) (by decide)).frl t25.2.1 (by decide) (by decide)).frl hF30 (by decide) (by decide)).frl t39.2.1 (by decide) (by decide)).frl hF47 (by decide) (by decide)
  have b0 : ∀ i, i = 82 ∨ i = 83 ∨ i = 84 ∨ i = 85 → G4.1 i = G.1 i ∧ G13.1 i = G4.1 i ∧ G26.1 i = G17.1 i ∧ G40.1 i = G30.1 i ∧ G52.1 i = G47.1 i := by
    intro i hi
    rcases hi with rfl | rfl | rfl | rfl <;> exact ⟨hnm.2.1.row1 _ (by decide) (by decide), t12.2.1.row1 _ (by decide) (by decide), t25.2.1.row1 _ (by decide) (by decide), t39.2.1.row1 _ (by decide) (by decide), htk.2.1.row1 _ (by decide) (by decide)⟩
  have r2 : G52.1 82 = upd (G.1 82) NS.length r12 := by
    obtain ⟨a1, a2, a3, a4, a5⟩ := b0 82 (Or.inl rfl)
    rw [a5, hF47.row1 82 (by decide) (by decide), a4, hF30.row1 82 (by decide) (by decide), a3, e82, a2, a1]
  have r3 : G52.1 83 = upd (G.1 83) NS.length r25 := by
    obtain ⟨a1, a2, a3, a4, a5⟩ := b0 83 (Or.inr (Or.inl rfl))
    rw [a5, hF47.row1 83 (by decide) (by decide), a4, e83, a3, hF17.row1 83 (by decide) (by decide), a2, a1]
  have r4 : G52.1 84 = upd (G.1 84) NS.length r39 := by
    obtain ⟨a1, a2, a3, a4, a5⟩ := b0 84 (Or.inr (Or.inr (Or.inl rfl)))
    rw [a5, e84, a4, hF30.row1 84 (by decide) (by decide), a3, hF17.row1 84 (by decide) (by decide), a2, a1]
  have r5 : G52.1 85 = upd (G.1 85) NS.length y45 := by
    obtain ⟨a1, a2, a3, a4, a5⟩ := b0 85 (Or.inr (Or.inr (Or.inr rfl)))
    rw [a5, e85, a4, hF30.row1 85 (by decide) (by decide), a3, hF17.row1 85 (by decide) (by decide), a2, a1]
  have h46 : (G52.1 66 46).toInt = (NS.length : Int) := by
    rw [htk.2.1.i 66 46 (by decide) (by decide), hF47.i 66 46 (by decide) (by decide), t39.2.1.i 66 46 (by decide) (by decide), hF30.i 66 46 (by decide) (by decide), t25.2.1.i 66 46 (by decide) (by decide), hF17.i 66 46 (by decide) (by decide), t12.2.1.i 66 46 (by decide) (by decide), hnm.2.1.i 66 46 (by decide) (by decide)]
    exact hm
  have up : ∀ {Gz : GS} {v : Int32} {lv : Int}, Gz.1 82 = G52.1 82 → Gz.1 83 = G52.1 83 → Gz.1 84 = G52.1 84 → Gz.1 85 = upd (G.1 85) NS.length v → v.toInt = lv → WkM NS.length (v1, v2, v3, lv) Gz ∧ ∀ k, k ≠ NS.length → Gz.1 82 k = G.1 82 k ∧ Gz.1 83 k = G.1 83 k ∧ Gz.1 84 k = G.1 84 k ∧ Gz.1 85 k = G.1 85 k := by
    intro Gz v lv z2 z3 z4 z5 hv
    have own : ∀ (g : Nat → Int32) (x : Int32), upd g NS.length x NS.length = x := fun g x => if_pos rfl
    refine ⟨⟨?_, ?_, ?_, ?_⟩, fun k hk2 => ⟨?_, ?_, ?_, ?_⟩⟩
    · rw [z2, r2, own]
      exact hr12
    · rw [z3, r3, own]
      exact hr25
    · rw [z4, r4, own]
      exact hr39
    · rw [z5, own]
      exact hv
    · rw [z2, r2]
      exact if_neg hk2
    · rw [z3, r3]
      exact if_neg hk2
    · rw [z4, r4]
      exact if_neg hk2
    · rw [z5]
      exact if_neg hk2
  rcases m_takes (i := 5) (by decide) (by decide +kernel) htk hp5 with ⟨hr, hn5, rfl⟩ | ⟨hr, hk5, hp6⟩
  · have n133 : tK b n p5 ≠ 133 := hn5
    rw [if_neg n133] at e5
    rcases hh with ⟨-, ⟨-, y63, t63, hFe, e46⟩ | ⟨c, -⟩⟩ | ⟨c, -⟩
    · obtain ⟨u1, u2⟩ := up (Gz := G1) (hFe.row1 82 (by decide) (by decide)) (hFe.row1 83 (by decide) (by decide)) (hFe.row1 84 (by decide) (by decide)) ((hFe.row1 85 (by decide) (by decide)).trans r5) h45
      exact Or.inr ⟨_, p5, e5, hp5.fr hFe (by decide) (by decide) (by decide) (by decide), by omega, hU47.frl hFe (by decide) (by decide), by rw [e46]; omega, u1, u2⟩
    · exact absurd hf40 c
    · exact absurd hr c
  · have k133 : tK b n p5 = 133 := hk5
    rw [if_pos k133] at e5
    have t5 := tN_p (b := b) hp5.1.2.1 hp5.2.2.2
    rcases hh with ⟨c, -⟩ | ⟨-, y70, e70, y72, e72, r78, G79, t78, hh⟩
    · omega
    have h70 : y70.toInt = v3 := by
      rw [e70, hmc, r4, show upd (G.1 84) NS.length r39 NS.length = r39 from if_pos rfl]
      exact hr39
    have hi5' : v3 ≤ 60 := hi5
    have lo5' : v2 ≤ v3 := lo5
    have lo4' : 1 ≤ v2 := lo4
    have h72 : y72.toInt = v3 + 1 := xI_add (Y := 1) h70 rfl e72 (by omega) (by omega)
    have o6 := m_told t78 hp6
    rw [h72] at o6
    have t6 := tN_p (b := b) hp6.1.2.1 hp6.2.2.2
    rcases o6 with ⟨f, hf, hmf⟩ | ⟨e6, hp7, hr78, -, -⟩
    · refine Or.inl ⟨f, e5.trans (bnd_l hf), ?_⟩
      rcases hh with ⟨c, -⟩ | ⟨-, hFe, -⟩
      · exact absurd c (by have := hmf.pos; omega)
      · exact hmf.fr hFe (by decide) (by decide)
    · have hf79 : (G79.1 66 2).toInt = 0 := hp7.k2
      rcases hh with ⟨-, y90, t90, hFe, e46, e85'⟩ | ⟨c, -⟩
      · rw [hmc, t78.2.1.row1 85 (by decide) (by decide), r5] at e85'
        have e85'' : G1.1 85 = upd (G.1 85) NS.length r78 := by
          rw [e85']
          funext j
          unfold upd
          by_cases hj : j = NS.length
          · rw [if_pos hj, if_pos hj]
          · rw [if_neg hj, if_neg hj, if_neg hj]
        obtain ⟨u1, u2⟩ := up (Gz := G1) ((hFe.row1 82 (by decide) (by decide)).trans (t78.2.1.row1 82 (by decide) (by decide))) ((hFe.row1 83 (by decide) (by decide)).trans (t78.2.1.row1 83 (by decide) (by decide))) ((hFe.row1 84 (by decide) (by decide)).trans (t78.2.1.row1 84 (by decide) (by decide))) e85'' hr78
        exact Or.inr ⟨_, _, e5.trans (bnd_r e6), hp7.fr hFe (by decide) (by decide) (by decide) (by decide), by omega, ((hU47.frl htk.2.1 (by decide) (by decide)).frl t78.2.1 (by decide) (by decide)).frl hFe (by decide) (by decide), by rw [e46]; omega, u1, u2⟩
      · exact absurd hf79 c
def SlpM (o : Option (Int × Int × Int)) (G : GS) : Prop := (G.1 86 0).toInt = (o.getD (0, 1, 0)).1 ∧ (G.1 86 1).toInt = (o.getD (0, 1, 0)).2.1 ∧ (G.1 86 2).toInt = (o.getD (0, 1, 0)).2.2
theorem m_slip {b : Nat → Int} {n p : Nat} {G G1 : GS} (h : Q_readSlip G G1) (hp : MP b n G p) (hk : tK b n p ≠ 202) (hk3 : tK b n p ≠ 203) : LnM b n p (pSlip b n p) G1 (fun x => SlpM (some x) G1) := by
  obtain ⟨-, -, -, G2, htk, r11, G12, t11, G16, -, hF16, w16, r24, G25, t24, y30, e30, y32, e32, y34, e34, hh⟩ := h
  have ht := tN_p (b := b) hp.1.2.1 hp.2.2.2
  have htp := (ht.2.2 hk3).1
  have z0 : (0 : Int32).toNatClampNeg = 0 := rfl
  have z1 : (1 : Int32).toNatClampNeg = 1 := rfl
  have z2 : (2 : Int32).toNatClampNeg = 2 := rfl
  rw [z0] at w16 e30
  rw [z1] at e30 e32
  have d3 : ∀ {f : Int × Int}, MF f G25 → MF f G1 := by
    intro f hmf
    rcases hh with ⟨-, G29, -, hF29, -, r65, G66, t65, hFe, -⟩ | ⟨-, G29, -, hF29, -, r65, G66, t65, hFe, -⟩
    · have hm2 := hmf.fr hF29 (by decide) (by decide)
      have e := told_f t65 hm2.pos
      subst e
      exact hm2.fr hFe (by decide) (by decide)
    · have hm2 := hmf.fr hF29 (by decide) (by decide)
      have e := told_f t65 hm2.pos
      subst e
      exact hm2.fr hFe (by decide) (by decide)
  have d2 : ∀ {f : Int × Int}, MF f G16 → MF f G1 := by
    intro f hmf
    have e := told_f t24 hmf.pos
    subst e
    exact d3 hmf
  have hp2 := m_next htk hp hk
  rcases m_told t11 hp2 with ⟨f, hf, hmf⟩ | ⟨e1, hp3, hr11, lo1, hi1⟩
  · exact Or.inl ⟨f, by unfold pSlip; exact bnd_l hf, d2 (hmf.fr hF16 (by decide) (by decide))⟩
  have t2 := tN_p (b := b) hp2.1.2.1 hp2.2.2.2
  replace hp3 := hp3.fr hF16 (by decide) (by decide) (by decide) (by decide)
  rcases m_told t24 hp3 with ⟨f, hf, hmf⟩ | ⟨e2, hp4, hr24, lo2, hi2⟩
  · exact Or.inl ⟨f, by unfold pSlip; exact (bnd_r e1).trans (bnd_l hf), d3 hmf⟩
  have t3 := tN_p (b := b) hp3.1.2.1 hp3.2.2.2
  have t4 := tN_p (b := b) hp4.1.2.1 hp4.2.2.2
  have lo1' : 0 ≤ tV b n (tNx b n p) := lo1
  have hi1' : tV b n (tNx b n p) ≤ 9 := hi1
  have lo2' : 0 ≤ tV b n (tNx b n (tNx b n p)) := lo2
  have hi2' : tV b n (tNx b n (tNx b n p)) ≤ 9 := hi2
  have r25 : G25.1 86 = upd (G12.1 86) 0 r11 := by rw [t24.2.1.row1 86 (by decide) (by decide), w16]
  have h30 : y30.toInt = tV b n (tNx b n p) := by
    rw [e30, show upd (G25.1 86) 1 r24 0 = G25.1 86 0 from if_neg (by decide), r25, show upd (G12.1 86) 0 r11 0 = r11 from if_pos rfl]
    exact hr11
  have h32 : y32.toInt = tV b n (tNx b n (tNx b n p)) := by
    rw [e32, show upd (G25.1 86) 1 r24 1 = r24 from if_pos rfl]
    exact hr24
  have h34 : y34.toInt = tV b n (tNx b n p) + tV b n (tNx b n (tNx b n p)) := xI_add h30 h32 e34 (by omega) (by omega)
  have fin : ∀ {lo r65 : Int32} {G29 G66 : GS}, lo.toInt = (if tV b n (tNx b n p) + tV b n (tNx b n (tNx b n p)) = 0 then 1 else 0) → Fr [86] [] G25 G29 → G29.1 86 = upd (G25.1 86) 1 r24 → Q_told lo 9 G29 r65 G66 → Fr [86] [] G66 G1 → G1.1 86 = upd (G66.1 86) 2 r65 → LnM b n p (pSlip b n p) G1 (fun x => SlpM (some x) G1) := by
    intro lo r65 G29 G66 hlo hF29 w29 t65 hFe we
    have o := m_told t65 (hp4.fr hF29 (by decide) (by decide) (by decide) (by decide))
    rw [hlo] at o
    rcases o with ⟨f, hf, hmf⟩ | ⟨e3, hp5, hr65, -, -⟩
    · exact Or.inl ⟨f, by unfold pSlip; exact (bnd_r e1).trans ((bnd_r e2).trans (bnd_l hf)), hmf.fr hFe (by decide) (by decide)⟩
    · refine Or.inr ⟨_, _, by unfold pSlip; exact (bnd_r e1).trans ((bnd_r e2).trans (bnd_r e3)), hp5.fr hFe (by decide) (by decide) (by decide) (by decide), by omega, ?_, ?_, ?_⟩
      · rw [we, show upd (G66.1 86) 2 r65 0 = G66.1 86 0 from if_neg (by decide), t65.2.1.row1 86 (by decide) (by decide), w29, show upd (G25.1 86) 1 r24 0 = G25.1 86 0 from if_neg (by decide), r25, show upd (G12.1 86) 0 r11 0 = r11 from if_pos rfl]
        exact hr11
      · rw [we, show upd (G66.1 86) 2 r65 1 = G66.1 86 1 from if_neg (by decide), t65.2.1.row1 86 (by decide) (by decide), w29, show upd (G25.1 86) 1 r24 1 = r24 from if_pos rfl]
        exact hr24
      · rw [we, show upd (G66.1 86) 2 r65 2 = r65 from if_pos rfl]
        exact hr65
  rcases hh with ⟨c, G29, -, hF29, w29, r65, G66, t65, hFe, we⟩ | ⟨c, G29, -, hF29, w29, r65, G66, t65, hFe, we⟩
  · exact fin (by rw [if_pos (by omega)]; rfl) hF29 w29 t65 hFe we
  · exact fin (by rw [if_neg (by omega)]; rfl) hF29 w29 t65 hFe we
theorem m_rule {b : Nat → Int} {n p : Nat} {G G1 : GS} {NS : List (List Int)} {w : Int} (h : Q_readRule G G1) (hp : MP b n G p) (hk : tK b n p ≠ 202) (hk3 : tK b n p ≠ 203) (hN : NmM 7 NS G) (hm : (G.1 66 47).toInt = (NS.length : Int)) (hw : (G.1 66 21).toInt = w) (hw0 : 0 ≤ w) (hw9 : w ≤ 90) : LnM b n p (pRule b n NS w p) G1 (fun x => NmU 7 NS x.1 G G1 ∧ (G1.1 66 47).toInt = (NS.length : Int) + 1 ∧ (G1.1 66 21).toInt = x.2.2 ∧ 0 ≤ x.2.2 ∧ x.2.2 ≤ 90 ∧ CodeM NS.length x.2.1 G1 ∧ KpM NS.length G G1) := by
  obtain ⟨-, -, -, G4, hnm, hh⟩ := h
  have ht := tN_p (b := b) hp.1.2.1 hp.2.2.2
  have htp := (ht.2.2 hk3).1
  rcases m_name hnm hp hk hN rfl hm with ⟨f, hf, hmf⟩ | ⟨e1, hp2, hLW, e68⟩
  · have hpo := hmf.pos
    rcases hh with ⟨c, -⟩ | ⟨-, rfl⟩
    · omega
    · exact Or.inl ⟨f, by unfold pRule; exact bnd_l hf, hmf⟩
  have hf4 : (G4.1 66 2).toInt = 0 := hp2.k2
  have ht1 := tN_p (b := b) hp.1.2.1 ht.2.1
  rcases hh with ⟨-, G14, hfo, hh⟩ | ⟨c, -⟩
  rotate_left
  · omega
  have h21 : (G4.1 66 21).toInt = w := by
    rw [hnm.2.1.i 66 21 (by decide) (by decide)]
    exact hw
  rcases m_form hfo hp2 hm h21 hw0 hw9 with ⟨f, hmf, hev⟩ | ⟨p', C', u', w', hp3, hC, h21', hw0', hw9', hpp, hev⟩
  · have hpo := hmf.pos
    rcases hh with ⟨c, -⟩ | ⟨-, rfl⟩
    · omega
    · exact Or.inl ⟨f, by unfold pRule; exact (bnd_r e1).trans (bnd_l (pForm_l hev)), hmf⟩
  · have hf14 : (G14.1 66 2).toInt = 0 := hp3.k2
    rcases hh with ⟨-, y23, t23, hFe, e47⟩ | ⟨c, -⟩
    · have hU : NmU 7 NS (tL b n (tNx b n p)) G G4 := ⟨hLW, e68⟩
      exact Or.inr ⟨(tL b n (tNx b n p), C', w'), p', by unfold pRule; exact (bnd_r e1).trans (bnd_r (pForm_r hev)), hp3.fr hFe (by decide) (by decide) (by decide) (by decide), by omega, (hU.frl hfo.2.1 (by decide) (by decide)).frl hFe (by decide) (by decide), by rw [e47]; omega, by rw [hFe.i 66 21 (by decide) (by decide)]; exact h21', hw0', hw9', hC.fr hFe (by decide) (by decide), ((KpM.of hnm.2.1 (by decide) (by decide)).tr (kp_form hfo hm)).tr (KpM.of hFe (by decide) (by decide))⟩
    · exact absurd hf14 c
theorem kn_go {b : Nat → Int} {n p : Nat} {k lo hi : Int} (h : tK b n p = k) : (bnd (pKw b n k p) fun _ q => pNum b n lo hi q) = pNum b n lo hi (tNx b n p) := by
  have : pKw b n k p = .inr ((), tNx b n p) := by
    unfold pKw
    rw [if_pos h]
  exact bnd_r this
theorem m_once {b : Nat → Int} {n p i : Nat} {G G1 : GS} {c : Int64} {k r : Int32} (hi : i < 23) (hc : w8 (KW.getD i []) = c) (h : Q_isOnce c k G r G1) (hp : MP b n G p) : G = G1 ∧ (r.toInt ≠ 0 ↔ (tK b n p = 128 + (i : Int) ∧ (G.1 66 51 &&& k).toInt = 0)) := by
  obtain ⟨-, hF, -, -, r1, G2, hw, hh⟩ := h
  obtain ⟨rfl, hr⟩ := m_isWord hi hc hw hp
  refine ⟨hF.nil, ?_⟩
  rcases hh with ⟨c1, e, -⟩ | ⟨c1, y8, e8, ⟨c2, e, -⟩ | ⟨c2, e, -⟩⟩
  · subst e
    exact ⟨fun q => absurd rfl q, fun q => absurd c1 (hr.mpr q.1)⟩
  · subst e
    rw [e8] at c2
    exact ⟨fun _ => ⟨hr.mp c1, c2⟩, fun _ => by decide⟩
  · subst e
    rw [e8] at c2
    exact ⟨fun q => absurd rfl q, fun q => absurd q.2 c2⟩
def onb (s h d : Bool) : Int32 := (if s = true then (0 : Int32) else 1) ||| ((if h = true then (0 : Int32) else 2) ||| (if d = true then (0 : Int32) else 4))
theorem onb_1 : ∀ s h d : Bool, ((onb s h d &&& 1).toInt = 0 ↔ s = true) ∧ ((onb s h d &&& 2).toInt = 0 ↔ h = true) ∧ ((onb s h d &&& 4).toInt = 0 ↔ d = true) ∧ onb s h d ||| 1 = onb false h d ∧ onb s h d ||| 2 = onb s false d ∧ onb s h d ||| 4 = onb s h false := by decide

/-! the whole text by the reference -/
def StsM (S : VS) (G : GS) : Prop := (G.1 66 45).toInt = (S.length : Int) ∧ S.length ≤ 3 ∧ NmM 0 (nms S) G ∧ ∀ s, s < S.length → StM s (S.getD s ([], [])).2 G ∧ ((S.getD s ([], [])).2.length : Int) ≤ 400
def WksM (W : VW) (G : GS) : Prop := (G.1 66 46).toInt = (W.length : Int) ∧ W.length ≤ 4 ∧ NmM 3 (nms W) G ∧ ∀ k, k < W.length → WkM k (W.getD k ([], 0, 0, 0, 0)).2 G
def RlsM (R : VR) (w : Int) (G : GS) : Prop := (G.1 66 47).toInt = (R.length : Int) ∧ R.length ≤ 6 ∧ NmM 7 (nms R) G ∧ (G.1 66 21).toInt = w ∧ 0 ≤ w ∧ w ≤ 90 ∧ ∀ k, k < R.length → CodeM k (R.getD k ([], [])).2 G ∧ (R.getD k ([], [])).2.length ≤ 320
def HndM (o : Option (Int × Int)) (G : GS) : Prop := (G.1 66 48).toInt = (o.getD (30, 10)).1 ∧ (G.1 66 49).toInt = (o.getD (30, 10)).2
def DrwM (o : Option Int) (G : GS) : Prop := (G.1 66 50).toInt = o.getD 0
def MV (V : PV) (G : GS) : Prop := StsM V.1 G ∧ WksM V.2.1 G ∧ RlsM V.2.2.1 V.2.2.2.1 G ∧ SlpM V.2.2.2.2.1 G ∧ HndM V.2.2.2.2.2.1 G ∧ DrwM V.2.2.2.2.2.2 G ∧ G.1 66 51 = onb V.2.2.2.2.1.isNone V.2.2.2.2.2.1.isNone V.2.2.2.2.2.2.isNone
abbrev NoS (rs : List Nat) (fs : List (Nat × Nat)) : Prop := (66 ∉ rs ∧ 77 ∉ rs ∧ 78 ∉ rs ∧ 79 ∉ rs ∧ 80 ∉ rs ∧ 81 ∉ rs) ∧ (66, 45) ∉ fs ∧ ∀ x ∈ fs, x.1 ≠ 77 ∧ x.1 ≠ 78 ∧ x.1 ≠ 79 ∧ x.1 ≠ 80 ∧ x.1 ≠ 81
theorem StsM.fr {S : VS} {rs : List Nat} {fs : List (Nat × Nat)} {G G1 : GS} (h : StsM S G) (hF : Fr rs fs G G1) (hN : NmM 0 (nms S) G1) (h1 : 66 ∉ rs) (h2 : 77 ∉ rs ∧ 78 ∉ rs ∧ 79 ∉ rs ∧ 80 ∉ rs ∧ 81 ∉ rs) (h3 : (66, 45) ∉ fs) (h4 : ∀ x ∈ fs, x.1 ≠ 77 ∧ x.1 ≠ 78 ∧ x.1 ≠ 79 ∧ x.1 ≠ 80 ∧ x.1 ≠ 81) : StsM S G1 := by
  obtain ⟨a1, a2, -, a4⟩ := h
  exact ⟨by rw [hF.i 66 45 h1 h3]; exact a1, a2, hN, fun s hs => ⟨(a4 s hs).1.fr hF h2 h4, (a4 s hs).2⟩⟩
theorem WksM.fr {W : VW} {rs : List Nat} {fs : List (Nat × Nat)} {G G1 : GS} (h : WksM W G) (hF : Fr rs fs G G1) (hN : NmM 3 (nms W) G1) (h1 : 66 ∉ rs) (h2 : 82 ∉ rs ∧ 83 ∉ rs ∧ 84 ∉ rs ∧ 85 ∉ rs) (h3 : (66, 46) ∉ fs) (h4 : ∀ x ∈ fs, x.1 ≠ 82 ∧ x.1 ≠ 83 ∧ x.1 ≠ 84 ∧ x.1 ≠ 85) : WksM W G1 := by
  obtain ⟨a1, a2, -, a4⟩ := h
  refine ⟨by rw [hF.i 66 46 h1 h3]; exact a1, a2, hN, fun k hk => ?_⟩
  have h5 := a4 k hk
  unfold WkM at h5 ⊢
  rw [hF.row1 82 h2.1 (fun x hx => (h4 x hx).1), hF.row1 83 h2.2.1 (fun x hx => (h4 x hx).2.1), hF.row1 84 h2.2.2.1 (fun x hx => (h4 x hx).2.2.1), hF.row1 85 h2.2.2.2 (fun x hx => (h4 x hx).2.2.2)]
  exact h5
theorem RlsM.fr {R : VR} {w : Int} {rs : List Nat} {fs : List (Nat × Nat)} {G G1 : GS} (h : RlsM R w G) (hF : Fr rs fs G G1) (hN : NmM 7 (nms R) G1) (h1 : 66 ∉ rs) (h3 : (66, 47) ∉ fs ∧ (66, 21) ∉ fs) (h5 : 69 ∉ rs ∧ 70 ∉ rs ∧ 71 ∉ rs) (h6 : ∀ x ∈ fs, x.1 ≠ 69 ∧ x.1 ≠ 70 ∧ x.1 ≠ 71) : RlsM R w G1 := by
  obtain ⟨a1, a2, -, a4, a5, a6, a7⟩ := h
  exact ⟨by rw [hF.i 66 47 h1 h3.1]; exact a1, a2, hN, by rw [hF.i 66 21 h1 h3.2]; exact a4, a5, a6, fun k hk => ⟨(a7 k hk).1.fr hF h5 h6, (a7 k hk).2⟩⟩
theorem SlpM.fr {o : Option (Int × Int × Int)} {rs : List Nat} {fs : List (Nat × Nat)} {G G1 : GS} (h : SlpM o G) (hF : Fr rs fs G G1) (h1 : 86 ∉ rs) (h2 : ∀ x ∈ fs, x.1 ≠ 86) : SlpM o G1 := by
  unfold SlpM at h ⊢
  rw [hF.row1 86 h1 h2]
  exact h
theorem HndM.fr {o : Option (Int × Int)} {rs : List Nat} {fs : List (Nat × Nat)} {G G1 : GS} (h : HndM o G) (hF : Fr rs fs G G1) (h1 : 66 ∉ rs) (h2 : (66, 48) ∉ fs ∧ (66, 49) ∉ fs) : HndM o G1 := by
  unfold HndM at h ⊢
  rw [hF.i 66 48 h1 h2.1, hF.i 66 49 h1 h2.2]
  exact h
theorem DrwM.fr {o : Option Int} {rs : List Nat} {fs : List (Nat × Nat)} {G G1 : GS} (h : DrwM o G) (hF : Fr rs fs G G1) (h1 : 66 ∉ rs) (h2 : (66, 50) ∉ fs) : DrwM o G1 := by
  unfold DrwM at h ⊢
  rw [hF.i 66 50 h1 h2]
  exact h
/-- a step that touches TOKENS alone -/
theorem MV.tok {V : PV} {G G1 : GS} (h : MV V G) (hF : Fr [] [(66, 4), (66, 6), (66, 7), (66, 8), (66, 9)] G G1) : MV V G1 := by
  obtain ⟨a1, a2, a3, a4, a5, a6, a7⟩ := h
  exact ⟨a1.fr hF (a1.2.2.1.fr hF (by decide) (by decide)) (by decide) (by decide) (by decide) (by decide), a2.fr hF (a2.2.2.1.fr hF (by decide) (by decide)) (by decide) (by decide) (by decide) (by decide), a3.fr hF (a3.2.2.1.fr hF (by decide) (by decide)) (by decide) (by decide) (by decide) (by decide), a4.fr hF (by decide) (by decide), a5.fr hF (by decide) (by decide), a6.fr hF (by decide) (by decide), by rw [hF.i 66 51 (by decide) (by decide)]; exact a7⟩
def RdM (b : Nat → Int) (n : Nat) (V : PV) (p : Nat) (G1 : GS) : Prop := (∃ f, pLn b n V p = .inl f ∧ MF f G1) ∨ (∃ V' p', pLn b n V p = .inr (V', p') ∧ MP b n G1 p' ∧ p < p' ∧ MV V' G1)
theorem RdM.of {α : Type} {b : Nat → Int} {n : Nat} {V : PV} {p : Nat} {G1 : GS} {o : Rs α} {F : α → PV} (e0 : pLn b n V p = bnd o fun x q => .inr (F x, q)) (h : LnM b n p o G1 (fun x => MV (F x) G1)) : RdM b n V p G1 := by
  rcases h with ⟨f, e, hm⟩ | ⟨x, p', e, hp, hlt, hV⟩
  · exact Or.inl ⟨f, e0.trans (bnd_l e), hm⟩
  · exact Or.inr ⟨F x, p', e0.trans (bnd_r e), hp, hlt, hV⟩
theorem LnM.imp {α : Type} {b : Nat → Int} {n p : Nat} {o : Rs α} {G1 : GS} {K K' : α → Prop} (h : LnM b n p o G1 K) (hK : ∀ x, K x → K' x) : LnM b n p o G1 K' := by
  rcases h with ⟨f, e, hm⟩ | ⟨x, p', e, hp, hlt, hV⟩
  · exact Or.inl ⟨f, e, hm⟩
  · exact Or.inr ⟨x, p', e, hp, hlt, hK x hV⟩
theorem m_ln1 {b : Nat → Int} {n p : Nat} {G Gx G1 : GS} {V : PV} (h : Q_readStreet G Gx) (htl : TlM Gx G1) (hp : MP b n G p) (hk : tK b n p = 128) (hl : V.1.length < 3) (hV : MV V G) : RdM b n V p G1 := by
  refine RdM.of (pLn_1 hk hl) (m_semi (m_street h hp (by omega) (by omega) hV.1.2.2.1 (by rw [nms_len]; exact hV.1.1)) htl (fun x hFz hx => ?_))
  obtain ⟨k1, k2, k3, k4, k5⟩ := hx
  rw [nms_len] at k2 k3 k4
  obtain ⟨a1, a2, a3, a4, a5, a6, a7⟩ := hV
  have hF := h.2.1
  refine MV.tok (V := (V.1 ++ [x], V.2)) ⟨⟨?_, ?_, ?_, fun s hs => ?_⟩, a2.fr hF (k1.oth a2.2.2.1 (Or.inl (by rw [nms_len]; omega))) (by decide) (by decide) (by decide) (by decide), a3.fr hF (k1.oth a3.2.2.1 (Or.inl (by rw [nms_len]; omega))) (by decide) (by decide) (by decide) (by decide), a4.fr hF (by decide) (by decide), a5.fr hF (by decide) (by decide), a6.fr hF (by decide) (by decide), by rw [hF.i 66 51 (by decide) (by decide)]; exact a7⟩ hFz
  · rw [k2]
    show (V.1.length : Int) + 1 = ((V.1 ++ [x]).length : Int)
    rw [List.length_append, List.length_singleton]
    omega
  · show (V.1 ++ [x]).length ≤ 3
    rw [List.length_append, List.length_singleton]
    omega
  · show NmM 0 (nms (V.1 ++ [x])) Gx
    rw [nms_snoc]
    exact k1.own a1.2.2.1
  · have hs' : s < V.1.length + 1 := by
      have : s < (V.1 ++ [x]).length := hs
      rw [List.length_append, List.length_singleton] at this
      exact this
    show StM s ((V.1 ++ [x]).getD s ([], [])).2 Gx ∧ (((V.1 ++ [x]).getD s ([], [])).2.length : Int) ≤ 400
    by_cases hq : s < V.1.length
    · rw [getD_snl hq]
      obtain ⟨b1, b2⟩ := a1.2.2.2 s hq
      refine ⟨⟨?_, fun i hi => ?_⟩, b2⟩
      · rw [k4.1 s (by omega)]
        exact b1.1
      · obtain ⟨c1, c2, c3, c4⟩ := k4.2 (400 * s + i) (by omega)
        rw [c1, c2, c3, c4]
        exact b1.2 i hi
    · have hs2 : s = V.1.length := by omega
      subst hs2
      rw [getD_snr]
      exact ⟨k3, k5⟩
theorem m_ln2 {b : Nat → Int} {n p : Nat} {G Gx G1 : GS} {V : PV} (h : Q_readWalker G Gx) (htl : TlM Gx G1) (hp : MP b n G p) (hk : tK b n p = 129) (hl : V.2.1.length < 4) (hV : MV V G) : RdM b n V p G1 := by
  refine RdM.of (pLn_2 hk hl) (m_semi (m_walker h hp (by omega) (by omega) hV.2.1.2.2.1 (by rw [nms_len]; exact hV.2.1.1)) htl (fun x hFz hx => ?_))
  obtain ⟨k1, k2, k3, k4⟩ := hx
  rw [nms_len] at k2 k3 k4
  obtain ⟨a1, a2, a3, a4, a5, a6, a7⟩ := hV
  have hF := h.2.1
  refine MV.tok (V := (V.1, V.2.1 ++ [x], V.2.2)) ⟨a1.fr hF (k1.oth a1.2.2.1 (Or.inr (by rw [nms_len]; have := a1.2.1; omega))) (by decide) (by decide) (by decide) (by decide), ⟨?_, ?_, ?_, fun s hs => ?_⟩, a3.fr hF (k1.oth a3.2.2.1 (Or.inl (by rw [nms_len]; omega))) (by decide) (by decide) (by decide) (by decide), a4.fr hF (by decide) (by decide), a5.fr hF (by decide) (by decide), a6.fr hF (by decide) (by decide), by rw [hF.i 66 51 (by decide) (by decide)]; exact a7⟩ hFz
  · rw [k2]
    show (V.2.1.length : Int) + 1 = ((V.2.1 ++ [x]).length : Int)
    rw [List.length_append, List.length_singleton]
    omega
  · show (V.2.1 ++ [x]).length ≤ 4
    rw [List.length_append, List.length_singleton]
    omega
  · show NmM 3 (nms (V.2.1 ++ [x])) Gx
    rw [nms_snoc]
    exact k1.own a2.2.2.1
  · have hs' : s < V.2.1.length + 1 := by
      have : s < (V.2.1 ++ [x]).length := hs
      rw [List.length_append, List.length_singleton] at this
      exact this
    show WkM s ((V.2.1 ++ [x]).getD s ([], 0, 0, 0, 0)).2 Gx
    by_cases hq : s < V.2.1.length
    · rw [getD_snl hq]
      have b1 := a2.2.2.2 s hq
      obtain ⟨c1, c2, c3, c4⟩ := k4 s (by omega)
      unfold WkM at b1 ⊢
      rw [c1, c2, c3, c4]
      exact b1
    · have hs2 : s = V.2.1.length := by omega
      subst hs2
      rw [getD_snr]
      exact k3
theorem m_ln3 {b : Nat → Int} {n p : Nat} {G Gx G1 : GS} {V : PV} (h : Q_readRule G Gx) (htl : TlM Gx G1) (hp : MP b n G p) (hk : tK b n p = 134) (hl : V.2.2.1.length < 6) (hV : MV V G) : RdM b n V p G1 := by
  refine RdM.of (pLn_3 hk hl) (m_semi (m_rule h hp (by omega) (by omega) hV.2.2.1.2.2.1 (by rw [nms_len]; exact hV.2.2.1.1) hV.2.2.1.2.2.2.1 hV.2.2.1.2.2.2.2.1 hV.2.2.1.2.2.2.2.2.1) htl (fun x hFz hx => ?_))
  obtain ⟨k1, k2, k3, k4, k5, k6, k7⟩ := hx
  rw [nms_len] at k2 k6 k7
  obtain ⟨a1, a2, a3, a4, a5, a6, a7⟩ := hV
  have hF := h.2.1
  refine MV.tok (V := (V.1, V.2.1, V.2.2.1 ++ [(x.1, x.2.1)], x.2.2, V.2.2.2.2)) ⟨a1.fr hF (k1.oth a1.2.2.1 (Or.inr (by rw [nms_len]; have := a1.2.1; omega))) (by decide) (by decide) (by decide) (by decide), a2.fr hF (k1.oth a2.2.2.1 (Or.inr (by rw [nms_len]; have := a2.2.1; omega))) (by decide) (by decide) (by decide) (by decide), ⟨?_, ?_, ?_, k3, k4, k5, fun s hs => ?_⟩, a4.fr hF (by decide) (by decide), a5.fr hF (by decide) (by decide), a6.fr hF (by decide) (by decide), by rw [hF.i 66 51 (by decide) (by decide)]; exact a7⟩ hFz
  · rw [k2]
    show (V.2.2.1.length : Int) + 1 = ((V.2.2.1 ++ [(x.1, x.2.1)]).length : Int)
    rw [List.length_append, List.length_singleton]
    omega
  · show (V.2.2.1 ++ [(x.1, x.2.1)]).length ≤ 6
    rw [List.length_append, List.length_singleton]
    omega
  · show NmM 7 (nms (V.2.2.1 ++ [(x.1, x.2.1)])) Gx
    rw [nms_snoc]
    exact k1.own a3.2.2.1
  · have hs' : s < V.2.2.1.length + 1 := by
      have : s < (V.2.2.1 ++ [(x.1, x.2.1)]).length := hs
      rw [List.length_append, List.length_singleton] at this
      exact this
    show CodeM s ((V.2.2.1 ++ [(x.1, x.2.1)]).getD s ([], [])).2 Gx ∧ ((V.2.2.1 ++ [(x.1, x.2.1)]).getD s ([], [])).2.length ≤ 320
    by_cases hq : s < V.2.2.1.length
    · rw [getD_snl hq]
      obtain ⟨b1, b2⟩ := a3.2.2.2.2.2.2 s hq
      exact ⟨b1.kp k7 hq b2, b2⟩
    · have hs2 : s = V.2.2.1.length := by omega
      subst hs2
      rw [getD_snr]
      refine ⟨k6, ?_⟩
      have h1 := k6.1
      have h2 := (h.1.i 71 V.2.2.1.length (lo := 0) (hi := 320) rfl rfl).2
      show x.2.1.length ≤ 320
      omega
theorem m_line {b : Nat → Int} {n p : Nat} {G G1 : GS} {V : PV} (h : Q_readLine G G1) (hp : MP b n G p) (hV : MV V G) : RdM b n V p G1 := by
  obtain ⟨-, -, -, r1, G2, hw1, hh⟩ := h
  have l1 := hV.1.1
  have l2 := hV.2.1.1
  have l3 := hV.2.2.1.1
  obtain ⟨rfl, q1⟩ := m_isWord (i := 0) (by decide) (by decide +kernel) hw1 hp
  have q128 : r1.toInt ≠ 0 ↔ tK b n p = 128 := q1
  clear q1
  rcases hh with ⟨c, c3, Gx, hst, htl⟩ | ⟨G8, hj1, -, -, r13, G14, hw2, hh⟩
  · exact m_ln1 hst htl hp (q128.mp c) (by clear q128 htl; omega) hV
  have n1 : G = G8 ∧ ¬ (tK b n p = 128 ∧ V.1.length < 3) := by
    rcases hj1 with ⟨c, e⟩ | ⟨c, c3, e⟩
    · exact ⟨e, fun q => q128.mpr q.1 c⟩
    · exact ⟨e, fun q => by have := q.2; clear q128 hh; omega⟩
  obtain ⟨rfl, n1⟩ := n1
  clear hj1 q128
  obtain ⟨rfl, q1⟩ := m_isWord (i := 1) (by decide) (by decide +kernel) hw2 hp
  have q129 : r13.toInt ≠ 0 ↔ tK b n p = 129 := q1
  clear q1
  rcases hh with ⟨c, c3, Gx, hst, htl⟩ | ⟨G20, hj2, -, -, r25, G26, hw3, hh⟩
  · exact m_ln2 hst htl hp (q129.mp c) (by clear q129 htl; omega) hV
  have n2 : G = G20 ∧ ¬ (tK b n p = 129 ∧ V.2.1.length < 4) := by
    rcases hj2 with ⟨c, e⟩ | ⟨c, c3, e⟩
    · exact ⟨e, fun q => q129.mpr q.1 c⟩
    · exact ⟨e, fun q => by have := q.2; clear q129 hh; omega⟩
  obtain ⟨rfl, n2⟩ := n2
  clear hj2 q129
  obtain ⟨rfl, q1⟩ := m_isWord (i := 6) (by decide) (by decide +kernel) hw3 hp
  have q134 : r25.toInt ≠ 0 ↔ tK b n p = 134 := q1
  clear q1
  rcases hh with ⟨c, c3, Gx, hst, htl⟩ | ⟨G32, hj3, -, -, r38, G39, ho1, G45, hj4, -, -, -, hF45, htl⟩
  · exact m_ln3 hst htl hp (q134.mp c) (by clear q134 htl; omega) hV
  have n3 : G = G32 ∧ ¬ (tK b n p = 134 ∧ V.2.2.1.length < 6) := by
    rcases hj3 with ⟨c, e⟩ | ⟨c, c3, e⟩
    · exact ⟨e, fun q => q134.mpr q.1 c⟩
    · exact ⟨e, fun q => by have := q.2; clear q134 htl hj4; omega⟩
  obtain ⟨rfl, n3⟩ := n3
  clear hj3 q134
  replace htl : TlM G45 G1 := htl
  obtain ⟨rfl, q1⟩ := m_once (i := 7) (by decide) (by decide +kernel) ho1 hp
  have hb := onb_1 V.2.2.2.2.1.isNone V.2.2.2.2.2.1.isNone V.2.2.2.2.2.2.isNone
  obtain ⟨a1, a2, a3, a4, a5, a6, a7⟩ := hV
  rw [a7] at q1
  have q135 : r38.toInt ≠ 0 ↔ (tK b n p = 135 ∧ V.2.2.2.2.1.isNone = true) := q1.trans (and_congr Iff.rfl hb.1)
  clear q1
  have ht := tN_p (b := b) hp.1.2.1 hp.2.2.2
  have mv : ∀ {V' : PV} {Gz : GS}, Fr [86] [(66, 2), (66, 3), (66, 4), (66, 6), (66, 7), (66, 8), (66, 9), (66, 48), (66, 49), (66, 50), (66, 51)] G Gz → V'.1 = V.1 → V'.2.1 = V.2.1 → V'.2.2.1 = V.2.2.1 → V'.2.2.2.1 = V.2.2.2.1 → SlpM V'.2.2.2.2.1 Gz → HndM V'.2.2.2.2.2.1 Gz → DrwM V'.2.2.2.2.2.2 Gz → Gz.1 66 51 = onb V'.2.2.2.2.1.isNone V'.2.2.2.2.2.1.isNone V'.2.2.2.2.2.2.isNone → MV V' Gz := by
    intro V' Gz hF z1 z2 z3 z4 z5 z6 z7 z8
    refine ⟨?_, ?_, ?_, z5, z6, z7, z8⟩
    · rw [z1]
      exact a1.fr hF (a1.2.2.1.fr hF (by decide) (by decide)) (by decide) (by decide) (by decide) (by decide)
    · rw [z2]
      exact a2.fr hF (a2.2.2.1.fr hF (by decide) (by decide)) (by decide) (by decide) (by decide) (by decide)
    · rw [z3, z4]
      exact a3.fr hF (a3.2.2.1.fr hF (by decide) (by decide)) (by decide) (by decide) (by decide) (by decide)
  rcases hj4 with ⟨c, r102, G103, ho2, hj4⟩ | ⟨c, y196, e196, G197, -, hF197, w197, G204, hsl, rfl⟩
  · have n4 : ¬ (tK b n p = 135 ∧ V.2.2.2.2.1.isNone = true) := fun q => q135.mpr q c
    clear q135
    obtain ⟨rfl, q1⟩ := m_once (i := 8) (by decide) (by decide +kernel) ho2 hp
    rw [a7] at q1
    have q136 : r102.toInt ≠ 0 ↔ (tK b n p = 136 ∧ V.2.2.2.2.2.1.isNone = true) := q1.trans (and_congr Iff.rfl hb.2.1)
    clear q1
    rcases hj4 with ⟨c2, r111, G112, ho3, hj4⟩ | ⟨c2, y158, e158, G159, -, hF159, w159, r167, G168, t167, G172, -, hF172, w172, r180, G181, t180, hFe, we⟩
    · have n5 : ¬ (tK b n p = 136 ∧ V.2.2.2.2.2.1.isNone = true) := fun q => q136.mpr q c2
      clear q136
      obtain ⟨rfl, q1⟩ := m_once (i := 10) (by decide) (by decide +kernel) ho3 hp
      rw [a7] at q1
      have q138 : r111.toInt ≠ 0 ↔ (tK b n p = 138 ∧ V.2.2.2.2.2.2.isNone = true) := q1.trans (and_congr Iff.rfl hb.2.2.1)
      clear q1
      rcases hj4 with ⟨c3, G120, hwr, rfl⟩ | ⟨c3, y133, e133, G134, -, hF134, w134, r142, G143, t142, hFe, we⟩
      · have n6 : ¬ (tK b n p = 138 ∧ V.2.2.2.2.2.2.isNone = true) := fun q => q138.mpr q c3
        obtain ⟨hm, -⟩ := m_wrong hwr hp (by decide)
        rcases htl with ⟨c4, -⟩ | ⟨-, rfl⟩
        · exact absurd c4 (by have := hm.pos; clear q138; omega)
        · exact Or.inl ⟨_, pLn_0 n1 n2 n3 n4 n5 n6, hm⟩
      · have k138 := q138.mp c3
        clear q138
        have hp1 := hp.fr hF134 (by decide) (by decide) (by decide) (by decide)
        refine RdM.of (pLn_6 k138.1 k138.2) (m_semi (K := fun x => MV (V.1, V.2.1, V.2.2.1, V.2.2.2.1, V.2.2.2.2.1, V.2.2.2.2.2.1, some x) G45) ?_ htl (fun x hFz hx => hx.tok hFz))
        rcases m_told2 (i := 10) (by decide) (by decide +kernel) t142 hp1 with ⟨f, hf, hmf⟩ | ⟨v, p', ev, hp2, hr, -, -⟩
        · exact Or.inl ⟨f, (kn_go k138.1).symm.trans hf, hmf.fr hFe (by decide) (by decide)⟩
        · have ev' : pDraw b n p = .inr (v, p') := (kn_go k138.1).symm.trans ev
          have hpq := pNum_n ev'
          have t2 := tN_p (b := b) hp.1.2.1 ht.2.1
          refine Or.inr ⟨v, p', ev', hp2.fr hFe (by decide) (by decide) (by decide) (by decide), by have := (ht.2.2 (by omega)).1; omega, mv hF45 rfl rfl rfl rfl ?_ ?_ ?_ ?_⟩
          · exact ((a4.fr hF134 (by decide) (by decide)).fr t142.2.1 (by decide) (by decide)).fr hFe (by decide) (by decide)
          · exact ((a5.fr hF134 (by decide) (by decide)).fr t142.2.1 (by decide) (by decide)).fr hFe (by decide) (by decide)
          · show (G45.1 66 50).toInt = v
            rw [we]
            exact hr
          · show G45.1 66 51 = onb V.2.2.2.2.1.isNone V.2.2.2.2.2.1.isNone false
            rw [hFe.i 66 51 (by decide) (by decide), t142.2.1.i 66 51 (by decide) (by decide), w134, e133, a7]
            exact hb.2.2.2.2.2
    · have k136 := q136.mp c2
      clear q136
      have hp1 := hp.fr hF159 (by decide) (by decide) (by decide) (by decide)
      refine RdM.of (pLn_5 k136.1 k136.2) (m_semi (K := fun x => MV (V.1, V.2.1, V.2.2.1, V.2.2.2.1, V.2.2.2.2.1, some x, V.2.2.2.2.2.2) G45) ?_ htl (fun x hFz hx => hx.tok hFz))
      rcases m_told2 (i := 8) (by decide) (by decide +kernel) t167 hp1 with ⟨f, hf, hmf⟩ | ⟨v, p', ev, hp2, hr, -, -⟩
      · have hm2 := hmf.fr hF172 (by decide) (by decide)
        have e := told2_f t180 hm2.pos
        subst e
        exact Or.inl ⟨f, by unfold pHand; exact bnd_l ((kn_go k136.1).symm.trans hf), hm2.fr hFe (by decide) (by decide)⟩
      have ev' : pNum b n 1 99 (tNx b n p) = .inr (v, p') := (kn_go k136.1).symm.trans ev
      have hpq := pNum_n ev'
      have t2 := tN_p (b := b) hp.1.2.1 ht.2.1
      have t2' := (ht.2.2 (by omega)).1
      replace hp2 := hp2.fr hF172 (by decide) (by decide) (by decide) (by decide)
      rcases m_told2 (i := 9) (by decide) (by decide +kernel) t180 hp2 with ⟨f, hf, hmf⟩ | ⟨v2, p2, ev2, hp3, hr2, -, -⟩
      · exact Or.inl ⟨f, by unfold pHand; exact (bnd_r ev').trans (kn_eq.trans (bnd_l hf)), hmf.fr hFe (by decide) (by decide)⟩
      · have l := kn_p hp.1.2.1 hp2.2.2.2 ev2
        refine Or.inr ⟨(v, v2), p2, by unfold pHand; exact (bnd_r ev').trans (kn_eq.trans (bnd_r ev2)), hp3.fr hFe (by decide) (by decide) (by decide) (by decide), by omega, mv hF45 rfl rfl rfl rfl ?_ ?_ ?_ ?_⟩
        · exact ((((a4.fr hF159 (by decide) (by decide)).fr t167.2.1 (by decide) (by decide)).fr hF172 (by decide) (by decide)).fr t180.2.1 (by decide) (by decide)).fr hFe (by decide) (by decide)
        · refine ⟨?_, ?_⟩
          · show (G45.1 66 48).toInt = v
            rw [hFe.i 66 48 (by decide) (by decide), t180.2.1.i 66 48 (by decide) (by decide), w172]
            exact hr
          · show (G45.1 66 49).toInt = v2
            rw [we]
            exact hr2
        · exact ((((a6.fr hF159 (by decide) (by decide)).fr t167.2.1 (by decide) (by decide)).fr hF172 (by decide) (by decide)).fr t180.2.1 (by decide) (by decide)).fr hFe (by decide) (by decide)
        · show G45.1 66 51 = onb V.2.2.2.2.1.isNone false V.2.2.2.2.2.2.isNone
          rw [hFe.i 66 51 (by decide) (by decide), t180.2.1.i 66 51 (by decide) (by decide), hF172.i 66 51 (by decide) (by decide), t167.2.1.i 66 51 (by decide) (by decide), w159, e158, a7]
          exact hb.2.2.2.2.1
  · have k135 := q135.mp c
    clear q135
    refine RdM.of (pLn_4 k135.1 k135.2) (m_semi (K := fun x => MV (V.1, V.2.1, V.2.2.1, V.2.2.2.1, some x, V.2.2.2.2.2) G204) ((m_slip hsl (hp.fr hF197 (by decide) (by decide) (by decide) (by decide)) (by omega) (by omega)).imp (fun x hx => ?_)) htl (fun x hFz hx => hx.tok hFz))
    refine mv hF45 rfl rfl rfl rfl hx ?_ ?_ ?_
    · exact (a5.fr hF197 (by decide) (by decide)).fr hsl.2.1 (by decide) (by decide)
    · exact (a6.fr hF197 (by decide) (by decide)).fr hsl.2.1 (by decide) (by decide)
    · show G204.1 66 51 = onb false V.2.2.2.2.2.1.isNone V.2.2.2.2.2.2.isNone
      rw [hsl.2.1.i 66 51 (by decide) (by decide), w197, e196, a7]
      exact hb.2.2.2.1
def AI (b : Nat → Int) (n : Nat) (G : GS) : Prop := (∃ f, MF f G ∧ parse b n = .inl f) ∨ (∃ V p, MP b n G p ∧ MV V G ∧ ∀ o, Et (topS b n) (V0, 0) o ↔ Et (topS b n) (V, p) o)
theorem m_readAll {b : Nat → Int} {n : Nat} {G G1 : GS} (h : Q_readAll G G1) (hn0 : (G.1 66 1).toInt = (n : Int)) (hn : n ≤ 1600) (hT : ∀ j, j < n → (G.1 67 j).toInt = b j ∧ 0 ≤ b j ∧ b j ≤ 255) : (∃ f, parse b n = .inl f ∧ MF f G1) ∨ (∃ V p, parse b n = .inr (V, p) ∧ MV V G1 ∧ (G1.1 66 2).toInt = 0 ∧ (G1.1 66 3).toInt = -1) := by
  obtain ⟨-, -, -, G19, -, hF19, e1, e2, e3, e4, e5, e21, e45, e46, e47, e48, e49, e50, e51, e86, G23, htk, G27, hl, -, -, -, hh⟩ := h
  have hX : XM b n G19 := by
    refine ⟨by rw [e5]; exact hn0, hn, ?_⟩
    rw [hF19.row1 67 (by decide) (by decide)]
    exact hT
  obtain ⟨hX2, hT2⟩ := r_tok (q := 0) hX (by rw [e4]; rfl) (Nat.zero_le n) htk
  have hp0 : MP b n G23 0 := ⟨hX2, hT2, ⟨by rw [htk.2.1.i 66 2 (by decide) (by decide), e2]; rfl, by rw [htk.2.1.i 66 3 (by decide) (by decide), e3]; rfl⟩, Nat.zero_le n⟩
  have hV0 : MV V0 G19 := by
    refine ⟨⟨by rw [e45]; rfl, by decide, fun k hk => absurd hk (Nat.not_lt_zero k), fun s hs => absurd hs (Nat.not_lt_zero s)⟩, ⟨by rw [e46]; rfl, by decide, fun k hk => absurd hk (Nat.not_lt_zero k), fun s hs => absurd hs (Nat.not_lt_zero s)⟩, ⟨by rw [e47]; rfl, by decide, fun k hk => absurd hk (Nat.not_lt_zero k), by rw [e21]; rfl, by decide, by decide, fun s hs => absurd hs (Nat.not_lt_zero s)⟩, ⟨by rw [e86]; rfl, by rw [e86]; rfl, by rw [e86]; rfl⟩, ⟨by rw [e48]; rfl, by rw [e49]; rfl⟩, ?_, by rw [e51]; rfl⟩
    show (G19.1 66 50).toInt = 0
    rw [e50]
    rfl
  have hI : AI b n G27 := hl (fun q => AI b n q) (Or.inr ⟨V0, 0, hp0, hV0.tok htk.2.1, fun o => Iff.rfl⟩) (by
    rintro Ga Gb hi ⟨Gc, Gd, rfl, rfl, -, -, hf0, hs0, G49, hln, rfl⟩
    rcases hi with ⟨f, hm, -⟩ | ⟨V, p, hp, hV, hE⟩
    · exact absurd hf0 (by have := hm.pos; omega)
    · have k203 : tK b n p ≠ 203 := fun q => hs0 (hp.so.2.2.2.1.mpr q)
      rcases m_line hln hp hV with ⟨f, e, hm⟩ | ⟨V', p', e, hp', -, hV'⟩
      · exact Or.inl ⟨f, hm, run_eq ((hE _).mpr ((Et_r (topS_l k203 e)).mpr rfl))⟩
      · exact Or.inr ⟨V', p', hp', hV', fun o => (hE o).trans (Et_i (topS_r k203 e))⟩)
  rcases hI with ⟨f, hm, he⟩ | ⟨V, p, hp, hV, hE⟩
  · have hpo := hm.pos
    rcases hh with ⟨c, -⟩ | ⟨-, rfl⟩
    · omega
    · exact Or.inl ⟨f, he, hm⟩
  · have hf0 := hp.k2
    rcases hh with ⟨-, c, rfl⟩ | ⟨c, -⟩
    · exact Or.inr ⟨V, p, run_eq ((hE _).mpr ((Et_r (topS_e (hp.so.2.2.2.1.mp c))).mpr rfl)), hV, hp.2.2.1.1, hp.2.2.1.2⟩
    · exact absurd hf0 c

/-! the TAPE on both sides -/
def TE (G : GS) : Prop := ∀ j : Nat, j < 1600 → 0 ≤ (G.1 67 j).toInt ∧ (G.1 67 j).toInt ≤ 255 ∧ ((G.1 67 j).toInt < 128 → (G.1 32 j).toInt = (G.1 67 j).toInt) ∧ (128 ≤ (G.1 67 j).toInt → (G.1 32 j).toInt = (G.1 67 j).toInt - 256)
def shf (p : Int32) (k : Nat) : Int32 := p >>> (Int32.ofInt (24 - 8 * (k : Int)) &&& 31)
def bC (p : Int32) (k : Nat) : Int32 := vp_nar .byte (shf p k).toInt8.toInt32
def bM (p : Int32) (k : Nat) : Int32 := shf p k &&& 255
theorem byt_and (x : Int32) : (x &&& 255).toInt8 = x.toInt8 := by
  apply Int8.toBitVec.inj
  show (x.toBitVec &&& 255#32).signExtend 8 = x.toBitVec.signExtend 8
  rw [BitVec.signExtend_eq_setWidth_of_le _ (by decide), BitVec.signExtend_eq_setWidth_of_le _ (by decide), BitVec.setWidth_and]
  have e : (255#32).setWidth 8 = BitVec.allOnes 8 := by decide
  rw [e, BitVec.and_allOnes]
theorem byt_rng (x : Int32) : 0 ≤ (x &&& 255).toInt ∧ (x &&& 255).toInt ≤ 255 := by
  have h1 : (x &&& 255).toBitVec.toNat ≤ 255 := by
    show (x.toBitVec &&& 255#32).toNat ≤ 255
    rw [BitVec.toNat_and]
    exact Nat.and_le_right
  have h2 : (x &&& 255).toInt = ((x &&& 255).toBitVec.toNat : Int) := by
    show (x &&& 255).toBitVec.toInt = _
    rw [BitVec.toInt_eq_toNat_cond, if_pos (by omega)]
  rw [h2]
  omega
theorem byt_eq (p : Int32) (k : Nat) : 0 ≤ (bM p k).toInt ∧ (bM p k).toInt ≤ 255 ∧ ((bM p k).toInt < 128 → (bC p k).toInt = (bM p k).toInt) ∧ (128 ≤ (bM p k).toInt → (bC p k).toInt = (bM p k).toInt - 256) := by
  have hr := byt_rng (shf p k)
  have h8 := i8_i (x := bM p k) hr.1 hr.2
  have e1 : bC p k = (shf p k).toInt8.toInt32 := by
    unfold bC
    show (shf p k).toInt8.toInt32.toInt8.toInt32 = _
    rw [Int8.toInt8_toInt32]
  have e2 : (bM p k).toInt8.toInt32 = (shf p k).toInt8.toInt32 := by
    unfold bM
    rw [byt_and]
  rw [e2, ← e1] at h8
  exact ⟨hr.1, hr.2, h8.1, h8.2⟩
theorem x_of {x : Int32} {k : Nat} (h : x.toInt = 24 - 8 * (k : Int)) : x = Int32.ofInt (24 - 8 * (k : Int)) := by rw [← h, Int32.ofInt_toInt]
def FC (u : Nat) (ps : Nat → Int32) (t : Nat) (G G1 : GS) : Prop := (G1.1 0 11).toInt = ((t + 4 * u : Nat) : Int) ∧ (∀ j, j < t ∨ t + 4 * u ≤ j → G1.1 32 j = G.1 32 j) ∧ ∀ i, i < 4 * u → G1.1 32 (t + i) = bC (ps (i / 4)) (i % 4)
def FM (u : Nat) (ps : Nat → Int32) (t : Nat) (G G1 : GS) : Prop := (G1.1 66 1).toInt = ((t + 4 * u : Nat) : Int) ∧ (∀ j, j < t ∨ t + 4 * u ≤ j → G1.1 67 j = G.1 67 j) ∧ ∀ i, i < 4 * u → G1.1 67 (t + i) = bM (ps (i / 4)) (i % 4)
theorem c_four {p0 : Int32} {G G1 : GS} {t : Nat} (h : P_Wfeed1 p0 G G1) (ht : (G.1 0 11).toInt = (t : Int)) (ht2 : t ≤ 1596) : (G1.1 0 11).toInt = ((t + 4 : Nat) : Int) ∧ (∀ j, j < t ∨ t + 4 ≤ j → G1.1 32 j = G.1 32 j) ∧ ∀ k, k < 4 → G1.1 32 (t + k) = bC p0 k := by
  obtain ⟨-, -, h4, x, G2, hl, -, -, -, -, -, c, rfl⟩ := h
  have hI := hl (fun q => ∃ k : Nat, k ≤ 4 ∧ q.1.toInt = 24 - 8 * (k : Int) ∧ (q.2.1 0 11).toInt = ((t + k : Nat) : Int) ∧ (∀ j, j < t ∨ t + k ≤ j → q.2.1 32 j = G.1 32 j) ∧ ∀ i, i < k → q.2.1 32 (t + i) = bC p0 i) ⟨0, by decide, rfl, by simpa using ht, fun _ _ => rfl, fun i hi => absurd hi (Nat.not_lt_zero i)⟩ (by
    rintro ⟨x1, G_1⟩ ⟨xn, G_1n⟩ ⟨k, g0, g1, g2, g3, g4⟩ ⟨x1q, G_1q, xnq, G_1nq, e1, e2, -, -, -, -, c1, hd⟩
    obtain ⟨rfl, rfl⟩ := Prod.mk.inj e1
    obtain ⟨rfl, rfl⟩ := Prod.mk.inj e2
    simp only at g1 g2 g3 g4
    rcases hd with ⟨d, -⟩ | ⟨d, y17, t17, y19, e19, y20, e20, y22, t22, ex, -, w11, w32⟩
    · omega
    · rw [cn_eq g2] at w32
      have hv : vp_nar .byte y20 = bC p0 k := by
        rw [e20, e19, x_of g1]
        rfl
      rw [hv] at w32
      refine ⟨k + 1, by omega, by show xn.toInt = _; rw [← ex]; omega, by show (G_1n.1 0 11).toInt = _; rw [w11]; omega, fun j hj => ?_, fun i hi => ?_⟩
      · show G_1n.1 32 j = _
        rw [w32, show upd (G_1.1 32) (t + k) (bC p0 k) j = G_1.1 32 j from if_neg (by omega)]
        exact g3 j (by omega)
      · show G_1n.1 32 (t + i) = _
        by_cases hik : i = k
        · subst hik
          rw [w32, show upd (G_1.1 32) (t + i) (bC p0 i) (t + i) = bC p0 i from if_pos rfl]
        · rw [w32, show upd (G_1.1 32) (t + k) (bC p0 k) (t + i) = G_1.1 32 (t + i) from if_neg (by omega)]
          exact g4 i (by omega))
  obtain ⟨k, g0, g1, g2, g3, g4⟩ := hI
  simp only at g1 g2 g3 g4
  have hk : k = 4 := by omega
  subst hk
  exact ⟨g2, g3, g4⟩
theorem m_four {p0 : Int32} {G G1 : GS} {t : Nat} (h : Q_four p0 G G1) (ht : (G.1 66 1).toInt = (t : Int)) : (G1.1 66 1).toInt = ((t + 4 : Nat) : Int) ∧ (∀ j, j < t ∨ t + 4 ≤ j → G1.1 67 j = G.1 67 j) ∧ ∀ k, k < 4 → G1.1 67 (t + k) = bM p0 k := by
  obtain ⟨-, -, h4, x, G2, hl, -, -, -, -, -, c, rfl⟩ := h
  have hI := hl (fun q => ∃ k : Nat, k ≤ 4 ∧ q.1.toInt = 24 - 8 * (k : Int) ∧ (q.2.1 66 1).toInt = ((t + k : Nat) : Int) ∧ (∀ j, j < t ∨ t + k ≤ j → q.2.1 67 j = G.1 67 j) ∧ ∀ i, i < k → q.2.1 67 (t + i) = bM p0 i) ⟨0, by decide, rfl, by simpa using ht, fun _ _ => rfl, fun i hi => absurd hi (Nat.not_lt_zero i)⟩ (by
    rintro ⟨x1, G_1⟩ ⟨xn, G_1n⟩ ⟨k, g0, g1, g2, g3, g4⟩ ⟨x1q, G_1q, xnq, G_1nq, e1, e2, -, -, -, -, c1, y15, e15, y16, e16, y18, t18, y20, t20, ex, -, w1, w67⟩
    obtain ⟨rfl, rfl⟩ := Prod.mk.inj e1
    obtain ⟨rfl, rfl⟩ := Prod.mk.inj e2
    simp only at g1 g2 g3 g4
    rw [cn_eq g2] at w67
    have hv : y16 = bM p0 k := by
      rw [e16, e15, x_of g1]
      rfl
    rw [hv] at w67
    refine ⟨k + 1, by omega, by show xn.toInt = _; rw [← ex]; omega, by show (G_1n.1 66 1).toInt = _; rw [w1]; omega, fun j hj => ?_, fun i hi => ?_⟩
    · show G_1n.1 67 j = _
      rw [w67, show upd (G_1.1 67) (t + k) (bM p0 k) j = G_1.1 67 j from if_neg (by omega)]
      exact g3 j (by omega)
    · show G_1n.1 67 (t + i) = _
      by_cases hik : i = k
      · subst hik
        rw [w67, show upd (G_1.1 67) (t + i) (bM p0 i) (t + i) = bM p0 i from if_pos rfl]
      · rw [w67, show upd (G_1.1 67) (t + k) (bM p0 k) (t + i) = G_1.1 67 (t + i) from if_neg (by omega)]
        exact g4 i (by omega))
  obtain ⟨k, g0, g1, g2, g3, g4⟩ := hI
  simp only at g1 g2 g3 g4
  have hk : k = 4 := by omega
  subst hk
  exact ⟨g2, g3, g4⟩
theorem FC_step {u t : Nat} {ps : Nat → Int32} {p : Int32} {G G1 G2 : GS} (h : FC u ps t G G1) (h2 : P_Wfeed1 p G1 G2) (hp : p = ps u) (ht : t + 4 * u ≤ 1596) : FC (u + 1) ps t G G2 := by
  obtain ⟨a1, a2, a3⟩ := c_four h2 h.1 ht
  refine ⟨by rw [a1]; omega, fun j hj => ?_, fun i hi => ?_⟩
  · rw [a2 j (by omega)]
    exact h.2.1 j (by omega)
  · by_cases hq : i < 4 * u
    · rw [a2 (t + i) (by omega)]
      exact h.2.2 i hq
    · have := a3 (i - 4 * u) (by omega)
      rw [show t + 4 * u + (i - 4 * u) = t + i by omega] at this
      rw [this, hp, show i / 4 = u by omega, show i % 4 = i - 4 * u by omega]
theorem FM_step {u t : Nat} {ps : Nat → Int32} {p : Int32} {G G1 G2 : GS} (h : FM u ps t G G1) (h2 : Q_four p G1 G2) (hp : p = ps u) : FM (u + 1) ps t G G2 := by
  obtain ⟨a1, a2, a3⟩ := m_four h2 h.1
  refine ⟨by rw [a1]; omega, fun j hj => ?_, fun i hi => ?_⟩
  · rw [a2 j (by omega)]
    exact h.2.1 j (by omega)
  · by_cases hq : i < 4 * u
    · rw [a2 (t + i) (by omega)]
      exact h.2.2 i hq
    · have := a3 (i - 4 * u) (by omega)
      rw [show t + 4 * u + (i - 4 * u) = t + i by omega] at this
      rw [this, hp, show i / 4 = u by omega, show i % 4 = i - 4 * u by omega]
theorem te_feed {p0 p1 p2 p3 p4 q0 q1 q2 q3 q4 r r' : Int32} {G Ga Gb : GS} (hx : P_Wfeed p0 p1 p2 p3 p4 G r Ga) (hm : Q_feed q0 q1 q2 q3 q4 Ga r' Gb) (i0 : p0.toInt = q0.toInt) (i1 : p1.toInt = q1.toInt) (i2 : p2.toInt = q2.toInt) (i3 : p3.toInt = q3.toInt) (i4 : p4.toInt = q4.toInt) (hT : TE G) (htp : (G.1 0 11).toInt = (G.1 66 1).toInt) (h0 : 0 ≤ (G.1 0 11).toInt) : TE Gb := by
  obtain rfl := Int32.toInt_inj.mp i0
  obtain rfl := Int32.toInt_inj.mp i1
  obtain rfl := Int32.toInt_inj.mp i2
  obtain rfl := Int32.toInt_inj.mp i3
  obtain rfl := Int32.toInt_inj.mp i4
  have r67a : Ga.1 67 = G.1 67 := hx.2.1.row1 67 (by decide) (by decide)
  have r32b : Gb.1 32 = Ga.1 32 := hm.2.1.row1 32 (by decide) (by decide)
  have e66 : (Ga.1 66 1).toInt = (G.1 66 1).toInt := by rw [hx.2.1.i 66 1 (by decide) (by decide)]
  obtain ⟨t, ht⟩ : ∃ t : Nat, (G.1 0 11).toInt = (t : Int) := ⟨(G.1 0 11).toInt.toNat, by omega⟩
  obtain ⟨ps, hps⟩ : ∃ ps : Nat → Int32, ps = fun i => [p0, p1, p2, p3, p4].getD i 0 := ⟨_, rfl⟩
  obtain ⟨-, -, -, y2, t2, hx⟩ := hx
  obtain ⟨-, -, -, z2, s2, hm⟩ := hm
  rcases hx with ⟨c, G5, f1, G11, f2, G17, f3, G23, f4, G29, f5, -, rfl⟩ | ⟨c, -, rfl⟩
  · rcases hm with ⟨c', M5, g1, M11, g2, M17, g3, M23, g4, M29, g5, -, rfl⟩ | ⟨c', -, -⟩
    · have hC : FC 5 ps t G G29 := FC_step (FC_step (FC_step (FC_step (FC_step (⟨by simpa using ht, fun _ _ => rfl, fun i hi => absurd hi (Nat.not_lt_zero i)⟩ : FC 0 ps t G G) f1 (by rw [hps]; rfl) (by omega)) f2 (by rw [hps]; rfl) (by omega)) f3 (by rw [hps]; rfl) (by omega)) f4 (by rw [hps]; rfl) (by omega)) f5 (by rw [hps]; rfl) (by omega)
      have hM : FM 5 ps t G29 M29 := FM_step (FM_step (FM_step (FM_step (FM_step (⟨by show (G29.1 66 1).toInt = ((t + 4 * 0 : Nat) : Int); omega, fun _ _ => rfl, fun i hi => absurd hi (Nat.not_lt_zero i)⟩ : FM 0 ps t G29 G29) g1 (by rw [hps]; rfl)) g2 (by rw [hps]; rfl)) g3 (by rw [hps]; rfl)) g4 (by rw [hps]; rfl)) g5 (by rw [hps]; rfl)
      intro j hj
      rw [r32b]
      by_cases hq : j < t ∨ t + 4 * 5 ≤ j
      · rw [hC.2.1 j hq, hM.2.1 j hq, r67a]
        exact hT j hj
      · have e1 := hC.2.2 (j - t) (by omega)
        have e2 := hM.2.2 (j - t) (by omega)
        rw [show t + (j - t) = j by omega] at e1 e2
        rw [e1, e2]
        exact byt_eq _ _
    · omega
  · rcases hm with ⟨c', -⟩ | ⟨c', -, rfl⟩
    · omega
    · exact hT
theorem TE.fr {rs : List Nat} {fs : List (Nat × Nat)} {G G1 : GS} (h : TE G) (hF : Fr rs fs G G1) (h1 : 32 ∉ rs ∧ 67 ∉ rs) (h2 : ∀ x ∈ fs, x.1 ≠ 32 ∧ x.1 ≠ 67) : TE G1 := by
  unfold TE at h ⊢
  rw [hF.row1 32 h1.1 (fun x hx => (h2 x hx).1), hF.row1 67 h1.2 (fun x hx => (h2 x hx).2)]
  exact h
noncomputable def gTE (G : GS) : Int := ind (TE G)
theorem gTE_fr {rs : List Nat} {fs : List (Nat × Nat)} {G G1 : GS} (h : Fr rs fs G G1) (h1 : ∀ i ∈ [32, 67], i ∉ rs ∧ ∀ x ∈ fs, x.1 ≠ i) (h2 : ∀ y ∈ ([] : List (Nat × Nat)), y.1 ∉ rs ∧ y ∉ fs) : gTE G1 = gTE G := by
  unfold gTE TE
  rw [h.rows h1 (i := 32) (by decide), h.rows h1 (i := 67) (by decide)]
theorem flt_eq {p q r r' : Int32} {G Ga Gb : GS} (hx : P_Wfault p G r Ga) (hm : Q_fault q Ga r' Gb) (hpq : p.toInt = q.toInt) (h7 : (G.1 3 7).toInt = (G.1 66 2).toInt) (h8 : (G.1 3 8).toInt = (G.1 66 3).toInt) : r.toInt = r'.toInt := by
  obtain rfl := Int32.toInt_inj.mp hpq
  have e := hx.2.1.nil
  subst e
  obtain ⟨-, -, hx⟩ := hx
  obtain ⟨-, -, hm⟩ := hm
  rcases hx with ⟨c, rfl, -⟩ | ⟨c, ⟨d, rfl, -⟩ | ⟨d, rfl, -⟩⟩
  · rcases hm with ⟨-, rfl, -⟩ | ⟨c', -⟩
    · exact h7
    · exact absurd c c'
  · rcases hm with ⟨c', -⟩ | ⟨-, ⟨-, rfl, -⟩ | ⟨d', -⟩⟩
    · exact absurd c' c
    · exact h8
    · exact absurd d d'
  · rcases hm with ⟨c', -⟩ | ⟨-, ⟨d', -⟩ | ⟨-, rfl, -⟩⟩
    · exact absurd c' c
    · exact absurd d' d
    · rfl

/-! numbers and bits -/
theorem tn_i {x : Int32} (h : 0 ≤ x.toInt) : (x.toBitVec.toNat : Int) = x.toInt := by
  have h1 : x.toInt = x.toBitVec.toInt := rfl
  have h2 := BitVec.toInt_eq_toNat_cond x.toBitVec
  have h3 := x.toBitVec.isLt
  rw [h1] at h ⊢
  rw [h2] at h ⊢
  split at h
  · rw [if_pos (by assumption)]
  · omega
theorem ti_n {x : Int32} {v : Nat} (h : x.toBitVec.toNat = v) (hv : v < 2147483648) : x.toInt = (v : Int) := by
  have h1 : x.toInt = x.toBitVec.toInt := rfl
  rw [h1, BitVec.toInt_eq_toNat_cond, h, if_pos (by omega)]
theorem or_i {x y : Int32} {k c : Nat} {X m : Int} (hc : 2 ^ k = c) (hx : x.toInt = X) (h0 : 0 ≤ X) (h1 : X < (c : Int)) (hy : y.toInt = m * (c : Int)) (hm : 0 ≤ m) (h2 : m * (c : Int) + X < 2147483648) : (x ||| y).toInt = X + m * (c : Int) := by
  have a1 := tn_i (x := x) (by omega)
  have hmc : 0 ≤ m * (c : Int) := Int.mul_nonneg hm (by omega)
  have a2 := tn_i (x := y) (by omega)
  have e1 : x.toBitVec.toNat = X.toNat := by omega
  have e2 : y.toBitVec.toNat = m.toNat * c := by
    have : ((m.toNat * c : Nat) : Int) = m * (c : Int) := by
      rw [Int.natCast_mul, Int.toNat_of_nonneg hm]
    omega
  have e3 : (x ||| y).toBitVec.toNat = m.toNat * c + X.toNat := by
    show (x.toBitVec ||| y.toBitVec).toNat = _
    rw [BitVec.toNat_or, e1, e2, Nat.or_comm, ← hc, ← Nat.shiftLeft_eq, Nat.shiftLeft_add_eq_or_of_lt (by omega)]
  have e4 : ((m.toNat * c : Nat) : Int) = m * (c : Int) := by
    rw [Int.natCast_mul, Int.toNat_of_nonneg hm]
  rw [ti_n e3 (by omega)]
  omega
theorem shl_i {x kk : Int32} {k c : Nat} {X : Int} (hk : (x <<< (kk &&& 31)).toBitVec = x.toBitVec <<< k) (hc : 2 ^ k = c) (hx : x.toInt = X) (h0 : 0 ≤ X) (h1 : X * (c : Int) < 2147483648) : (x <<< (kk &&& 31)).toInt = X * (c : Int) := by
  have a1 := tn_i (x := x) (by omega)
  have e1 : x.toBitVec.toNat = X.toNat := by omega
  have e4 : ((X.toNat * c : Nat) : Int) = X * (c : Int) := by
    rw [Int.natCast_mul, Int.toNat_of_nonneg h0]
  have e3 : (x <<< (kk &&& 31)).toBitVec.toNat = X.toNat * c := by
    rw [hk, BitVec.toNat_shiftLeft, e1, Nat.shiftLeft_eq, hc]
    exact Nat.mod_eq_of_lt (by omega)
  rw [ti_n e3 (by omega)]
  exact e4
theorem shr_i {x kk : Int32} {k c : Nat} {X : Int} (hk : (x >>> (kk &&& 31)).toBitVec = x.toBitVec.sshiftRight k) (hc : 2 ^ k = c) (hx : x.toInt = X) (h0 : 0 ≤ X) : (x >>> (kk &&& 31)).toInt = X / (c : Int) := by
  have a1 := tn_i (x := x) (by omega)
  have hlt := tI_rng x
  have e1 : x.toBitVec.toNat = X.toNat := by omega
  have hmsb : x.toBitVec.msb = false := by
    rw [BitVec.msb_eq_decide, decide_eq_false_iff_not]
    omega
  have e3 : (x >>> (kk &&& 31)).toBitVec.toNat = X.toNat / c := by
    rw [hk, BitVec.sshiftRight_eq_of_msb_false hmsb, BitVec.toNat_ushiftRight, e1, Nat.shiftRight_eq_div_pow, hc]
  have hle : X.toNat / c ≤ X.toNat := Nat.div_le_self _ _
  rw [ti_n e3 (by omega), Int.natCast_ediv, Int.toNat_of_nonneg h0]
theorem and_i {x m : Int32} {k c : Nat} {X : Int} (hm : m.toBitVec.toNat = 2 ^ k - 1) (hc : 2 ^ k = c) (hx : x.toInt = X) (h0 : 0 ≤ X) : (x &&& m).toInt = X % (c : Int) := by
  have a1 := tn_i (x := x) (by omega)
  have hlt := tI_rng x
  have e1 : x.toBitVec.toNat = X.toNat := by omega
  have e3 : (x &&& m).toBitVec.toNat = X.toNat % c := by
    show (x.toBitVec &&& m.toBitVec).toNat = _
    rw [BitVec.toNat_and, hm, e1, Nat.and_two_pow_sub_one_eq_mod, hc]
  have hle : X.toNat % c ≤ X.toNat := Nat.mod_le _ _
  rw [ti_n e3 (by omega), Int.natCast_emod, Int.toNat_of_nonneg h0]
theorem oi_i {v : Int} (h0 : 0 ≤ v) (h1 : v < 2147483648) : (Int32.ofInt v).toInt = v := Int32.toInt_ofInt_of_le (by omega) (by omega)
def encV (x : IC) : Int := (if x.1 < 0 then 1 else 2 * x.1) + 32 * x.2.1 + 16384 * x.2.2.1 + 1048576 * x.2.2.2
theorem encI_i {x : IC} (h : ICok x) : (encI x).toInt = encV x ∧ 0 ≤ encV x := by
  obtain ⟨m, nth, i, l⟩ := x
  obtain ⟨h1, h2, h3, h4, h5, h6, h7, h8⟩ := h
  simp only at h1 h2 h3 h4 h5 h6 h7 h8
  have a1 : (Int32.ofInt (if m < 0 then 0 else m)).toInt = (if m < 0 then 0 else m) := by
    split
    · rfl
    · exact oi_i (by omega) (by omega)
  have hw : 0 ≤ (if m < 0 then 0 else m) ∧ (if m < 0 then 0 else m) ≤ 15 := by
    split <;> omega
  have b1 := shl_i (kk := 1) (k := 1) (c := 2) rfl rfl a1 hw.1 (by omega)
  have a0 : (if m < 0 then (1 : Int32) else 0).toInt = (if m < 0 then 1 else 0) := by
    split <;> rfl
  have h01 : 0 ≤ (if m < 0 then (1 : Int) else 0) ∧ (if m < 0 then (1 : Int) else 0) < 2 := by
    split <;> omega
  have c1 := or_i (k := 1) (c := 2) rfl a0 h01.1 h01.2 b1 hw.1 (by omega)
  have b2 := shl_i (kk := 5) (k := 5) (c := 32) rfl rfl (oi_i h3 (by omega)) h3 (by omega)
  have c2 := or_i (k := 5) (c := 32) rfl c1 (by omega) (by omega) b2 h3 (by omega)
  have b3 := shl_i (kk := 14) (k := 14) (c := 16384) rfl rfl (oi_i h5 (by omega)) h5 (by omega)
  have c3 := or_i (k := 14) (c := 16384) rfl c2 (by omega) (by omega) b3 h5 (by omega)
  have b4 := shl_i (kk := 20) (k := 20) (c := 1048576) rfl rfl (oi_i h7 (by omega)) h7 (by omega)
  have c4 := or_i (k := 20) (c := 1048576) rfl c3 (by omega) (by omega) b4 h7 (by omega)
  have e : encV (m, nth, i, l) = (if m < 0 then 1 else 0) + (if m < 0 then 0 else m) * ((2 : Nat) : Int) + nth * ((32 : Nat) : Int) + i * ((16384 : Nat) : Int) + l * ((1048576 : Nat) : Int) := by
    show (if m < 0 then 1 else 2 * m) + 32 * nth + 16384 * i + 1048576 * l = _
    by_cases hm : m < 0
    · rw [if_pos hm, if_pos hm, if_pos hm]
      omega
    · rw [if_neg hm, if_neg hm, if_neg hm]
      omega
  refine ⟨?_, ?_⟩
  · rw [e]
    exact c4
  · rw [e]
    omega
/-- what an INCH says, told from its number -/
theorem part_i {x : IC} (h : ICok x) {y : Int32} (hy : y = encI x) : (y &&& 1).toInt = (if x.1 < 0 then 1 else 0) ∧ (y >>> (5 &&& 31) &&& 511).toInt = x.2.1 ∧ (y >>> (14 &&& 31) &&& 63).toInt = x.2.2.1 ∧ (y >>> (20 &&& 31) &&& 63).toInt = x.2.2.2 ∧ (y >>> (1 &&& 31) &&& 15).toInt = (if x.1 < 0 then 0 else x.1) := by
  obtain ⟨e1, e2⟩ := encI_i h
  rw [← hy] at e1
  obtain ⟨m, nth, i, l⟩ := x
  obtain ⟨h1, h2, h3, h4, h5, h6, h7, h8⟩ := h
  simp only at h1 h2 h3 h4 h5 h6 h7 h8
  have eV : encV (m, nth, i, l) = (if m < 0 then 1 else 2 * m) + 32 * nth + 16384 * i + 1048576 * l := rfl
  have q1 := and_i (m := 1) (k := 1) (c := 2) rfl rfl e1 e2
  have s5 := shr_i (kk := 5) (k := 5) (c := 32) rfl rfl e1 e2
  have s14 := shr_i (kk := 14) (k := 14) (c := 16384) rfl rfl e1 e2
  have s20 := shr_i (kk := 20) (k := 20) (c := 1048576) rfl rfl e1 e2
  have s1 := shr_i (kk := 1) (k := 1) (c := 2) rfl rfl e1 e2
  have q5 := and_i (m := 511) (k := 9) (c := 512) rfl rfl s5 (by omega)
  have q14 := and_i (m := 63) (k := 6) (c := 64) rfl rfl s14 (by omega)
  have q20 := and_i (m := 63) (k := 6) (c := 64) rfl rfl s20 (by omega)
  have qs1 := and_i (m := 15) (k := 4) (c := 16) rfl rfl s1 (by omega)
  rw [q1, q5, q14, q20, qs1]
  show encV (m, nth, i, l) % ((2 : Nat) : Int) = (if m < 0 then 1 else 0) ∧ encV (m, nth, i, l) / ((32 : Nat) : Int) % ((512 : Nat) : Int) = nth ∧ encV (m, nth, i, l) / ((16384 : Nat) : Int) % ((64 : Nat) : Int) = i ∧ encV (m, nth, i, l) / ((1048576 : Nat) : Int) % ((64 : Nat) : Int) = l ∧ encV (m, nth, i, l) / ((2 : Nat) : Int) % ((16 : Nat) : Int) = (if m < 0 then 0 else m)
  rw [eV]
  by_cases hm : m < 0
  · rw [if_pos hm, if_pos hm, if_pos hm]
    omega
  · rw [if_neg hm, if_neg hm, if_neg hm]
    omega
