/-! SLABS and STREETS by the reference -/
def StM (s : Nat) (I : List IC) (G : GS) : Prop := (G.1 81 s).toInt = (I.length : Int) ∧ ∀ i, i < I.length → (G.1 77 (400 * s + i)).toInt = (I.getD i (0, 0, 0, 0)).1 ∧ (G.1 78 (400 * s + i)).toInt = (I.getD i (0, 0, 0, 0)).2.1 ∧ (G.1 79 (400 * s + i)).toInt = (I.getD i (0, 0, 0, 0)).2.2.1 ∧ (G.1 80 (400 * s + i)).toInt = (I.getD i (0, 0, 0, 0)).2.2.2
def KeM (s : Nat) (G G1 : GS) : Prop := (∀ s', s' ≠ s → G1.1 81 s' = G.1 81 s') ∧ ∀ j, j < 400 * s → G1.1 77 j = G.1 77 j ∧ G1.1 78 j = G.1 78 j ∧ G1.1 79 j = G.1 79 j ∧ G1.1 80 j = G.1 80 j
theorem KeM.tr {s : Nat} {G G1 G2 : GS} (h : KeM s G G1) (h' : KeM s G1 G2) : KeM s G G2 := ⟨fun s' q => (h'.1 s' q).trans (h.1 s' q), fun j q => ⟨(h'.2 j q).1.trans (h.2 j q).1, (h'.2 j q).2.1.trans (h.2 j q).2.1, (h'.2 j q).2.2.1.trans (h.2 j q).2.2.1, (h'.2 j q).2.2.2.trans (h.2 j q).2.2.2⟩⟩
theorem KeM.of {s : Nat} {rs : List Nat} {fs : List (Nat × Nat)} {G G1 : GS} (hF : Fr rs fs G G1) (h1 : 77 ∉ rs ∧ 78 ∉ rs ∧ 79 ∉ rs ∧ 80 ∉ rs ∧ 81 ∉ rs) (h2 : ∀ x ∈ fs, x.1 ≠ 77 ∧ x.1 ≠ 78 ∧ x.1 ≠ 79 ∧ x.1 ≠ 80 ∧ x.1 ≠ 81) : KeM s G G1 := by
  unfold KeM
  rw [hF.row1 77 h1.1 (fun x hx => (h2 x hx).1), hF.row1 78 h1.2.1 (fun x hx => (h2 x hx).2.1), hF.row1 79 h1.2.2.1 (fun x hx => (h2 x hx).2.2.1), hF.row1 80 h1.2.2.2.1 (fun x hx => (h2 x hx).2.2.2.1), hF.row1 81 h1.2.2.2.2 (fun x hx => (h2 x hx).2.2.2.2)]
  exact ⟨fun _ _ => rfl, fun _ _ => ⟨rfl, rfl, rfl, rfl⟩⟩
theorem StM.fr {s : Nat} {I : List IC} {rs : List Nat} {fs : List (Nat × Nat)} {G G1 : GS} (h : StM s I G) (hF : Fr rs fs G G1) (h1 : 77 ∉ rs ∧ 78 ∉ rs ∧ 79 ∉ rs ∧ 80 ∉ rs ∧ 81 ∉ rs) (h2 : ∀ x ∈ fs, x.1 ≠ 77 ∧ x.1 ≠ 78 ∧ x.1 ≠ 79 ∧ x.1 ≠ 80 ∧ x.1 ≠ 81) : StM s I G1 := by
  unfold StM at h ⊢
  rw [hF.row1 77 h1.1 (fun x hx => (h2 x hx).1), hF.row1 78 h1.2.1 (fun x hx => (h2 x hx).2.1), hF.row1 79 h1.2.2.1 (fun x hx => (h2 x hx).2.2.1), hF.row1 80 h1.2.2.2.1 (fun x hx => (h2 x hx).2.2.2.1), hF.row1 81 h1.2.2.2.2 (fun x hx => (h2 x hx).2.2.2.2)]
  exact h
theorem m_pave {s : Nat} {I : List IC} {G G1 : GS} {p0 p1 p2 : Int32} {m nth w : Int} {j0 : Nat} (h : Q_pave p0 p1 p2 j0 G G1) (hs : (G.1 66 45).toInt = (s : Int)) (hS : StM s I G) (h0 : p0.toInt = m) (h1 : p1.toInt = nth) (h2 : p2.toInt = w) (hw0 : 0 ≤ w) : StM s (I ++ layI m nth w) G1 ∧ KeM s G G1 := by
  obtain ⟨-, -, -, x, G4, hl, -, -, -, -, -, c1, rfl⟩ := h
  have hI := hl (fun q => ∃ k : Nat, q.1.toInt = (k : Int) ∧ (k : Int) ≤ w ∧ (q.2.1 81 s).toInt = (I.length : Int) + (k : Int) ∧ (∀ s', s' ≠ s → q.2.1 81 s' = G.1 81 s') ∧ (∀ j, j < 400 * s + I.length → q.2.1 77 j = G.1 77 j ∧ q.2.1 78 j = G.1 78 j ∧ q.2.1 79 j = G.1 79 j ∧ q.2.1 80 j = G.1 80 j) ∧ ∀ i, i < k → (q.2.1 77 (400 * s + I.length + i)).toInt = m ∧ (q.2.1 78 (400 * s + I.length + i)).toInt = nth ∧ (q.2.1 79 (400 * s + I.length + i)).toInt = (i : Int) ∧ (q.2.1 80 (400 * s + I.length + i)).toInt = w) ⟨0, rfl, hw0, by rw [hS.1]; simp, fun _ _ => rfl, fun _ _ => ⟨rfl, rfl, rfl, rfl⟩, fun i hi => absurd hi (Nat.not_lt_zero i)⟩ (by
    rintro ⟨x1, G_1⟩ ⟨xn, G_1n⟩ ⟨k, g1, g2, g3, g4, g5, g6⟩ ⟨x1q, G_1q, xnq, G_1nq, e1, e2, -, -, -, -, c1, y14, t14, y15, e15, y17, t17, y22, e22, y24, t24, y26, t26, ex, -, e77, e78, e79, e80, e81⟩
    obtain ⟨rfl, rfl⟩ := Prod.mk.inj e1
    obtain ⟨rfl, rfl⟩ := Prod.mk.inj e2
    simp only at g1 g3 g4 g5 g6
    rw [cn_eq hs] at e15 e22 e81
    have a15 : y15.toInt = (I.length : Int) + (k : Int) := by rw [e15]; exact g3
    have a22 : y22.toInt = (I.length : Int) + (k : Int) := by rw [e22]; exact g3
    have hy : y17.toNatClampNeg = 400 * s + I.length + k := cn_eq (by omega)
    rw [hy] at e77 e78 e79 e80
    refine ⟨k + 1, by show xn.toInt = _; rw [← ex]; omega, by omega, ?_, fun s' q => ?_, fun j hj => ?_, fun i hi => ?_⟩
    · show (G_1n.1 81 s).toInt = _
      have e : upd (G_1.1 81) s y24 s = y24 := if_pos rfl
      rw [e81, e]
      omega
    · show G_1n.1 81 s' = _
      have e : upd (G_1.1 81) s y24 s' = G_1.1 81 s' := if_neg q
      rw [e81, e]
      exact g4 s' q
    · show G_1n.1 77 j = _ ∧ G_1n.1 78 j = _ ∧ G_1n.1 79 j = _ ∧ G_1n.1 80 j = _
      have e : ∀ (g : Nat → Int32) (v : Int32), upd g (400 * s + I.length + k) v j = g j := fun g v => if_neg (by omega)
      rw [e77, e78, e79, e80, e, e, e, e]
      exact g5 j hj
    · show (G_1n.1 77 (400 * s + I.length + i)).toInt = _ ∧ (G_1n.1 78 (400 * s + I.length + i)).toInt = _ ∧ (G_1n.1 79 (400 * s + I.length + i)).toInt = _ ∧ (G_1n.1 80 (400 * s + I.length + i)).toInt = _
      rw [e77, e78, e79, e80]
      by_cases hik : i = k
      · subst hik
        have e : ∀ (g : Nat → Int32) (v : Int32), upd g (400 * s + I.length + i) v (400 * s + I.length + i) = v := fun g v => if_pos rfl
        rw [e, e, e, e]
        exact ⟨h0, h1, g1, h2⟩
      · have e : ∀ (g : Nat → Int32) (v : Int32), upd g (400 * s + I.length + k) v (400 * s + I.length + i) = g (400 * s + I.length + i) := fun g v => if_neg (by omega)
        rw [e, e, e, e]
        exact g6 i (by omega))
  obtain ⟨k, g1, g2, g3, g4, g5, g6⟩ := hI
  simp only at g1 g3 g4 g5 g6
  have hk : k = w.toNat := by omega
  refine ⟨⟨?_, fun i hi => ?_⟩, g4, fun j hj => g5 j (by omega)⟩
  · rw [g3, List.length_append, layI_len]
    omega
  · rw [List.length_append, layI_len] at hi
    rw [getD_app]
    by_cases hq : i < I.length
    · obtain ⟨a1, a2, a3, a4⟩ := g5 (400 * s + i) (by omega)
      rw [if_pos hq, a1, a2, a3, a4]
      exact hS.2 i hq
    · have := g6 (i - I.length) (by omega)
      rw [show 400 * s + I.length + (i - I.length) = 400 * s + i by omega] at this
      rw [if_neg hq, layI_get (by omega)]
      exact this
theorem m_mrk {b : Nat → Int} {n p : Nat} {G G1 : GS} {r : Int32} (hp : MP b n G p) (hs : (G.1 66 6).toInt = 1) (h : Q_mark G r G1) : G = G1 ∧ ((140 ≤ tK b n p ∧ tK b n p ≤ 143 ∧ r = mkw (tK b n p)) ∨ (¬ (140 ≤ tK b n p ∧ tK b n p ≤ 143) ∧ r.toInt = 0)) := by
  have hk := hp.so.2.2.1.mp hs
  have hw := tK_w (b := b) hp.1.2.1 hp.2.2.2 hk.1 hk.2
  have h9 := hp.2.1.2.2.2.2 hk.1 hk.2
  obtain ⟨e, m1, m2, m3, m4, m5⟩ := m_mark h9 hw.2 h
  rw [← hw.1] at m1 m2 m3 m4 m5
  refine ⟨e, ?_⟩
  by_cases hq : 140 ≤ tK b n p ∧ tK b n p ≤ 143
  · refine Or.inl ⟨hq.1, hq.2, ?_⟩
    have h4 : tK b n p = 140 ∨ tK b n p = 141 ∨ tK b n p = 142 ∨ tK b n p = 143 := by
      clear m1 m2 m3 m4 m5
      omega
    rcases h4 with e | e | e | e
    · rw [e]
      exact Int32.toInt_inj.mp (m1 e)
    · rw [e]
      exact Int32.toInt_inj.mp (m2 e)
    · rw [e]
      exact Int32.toInt_inj.mp (m3 e)
    · rw [e]
      exact Int32.toInt_inj.mp (m4 e)
  · refine Or.inr ⟨hq, m5 ?_⟩
    clear m1 m2 m3 m4 m5
    omega
def MkI (b : Nat → Int) (n q : Nat) (x m : Int32) (G : GS) : Prop := (∃ f, MF f G ∧ pMk b n q = .inl f) ∨ (∃ p' v, MP b n G p' ∧ q ≤ p' ∧ v < 16 ∧ m = Int32.ofNat v ∧ (∀ o, Et (mkS b n) (0, q) o ↔ Et (mkS b n) (m, p') o) ∧ (x.toInt = 0 → ¬ (140 ≤ tK b n p' ∧ tK b n p' ≤ 143)))
theorem m_mkstep {b : Nat → Int} {n q : Nat} {r5 w14 : Int32} {G : GS} {s s1 : Int32 × Int32 × GS} (hs : St_n_readSlab_3 r5 w14 G s s1) (hi : MkI b n q s.1 s.2.1 s.2.2) : MkI b n q s1.1 s1.2.1 s1.2.2 := by
  obtain ⟨x, m, G3, xn, mn, G3n, rfl, rfl, -, -, -, -, -, hx, hf0, hh⟩ := hs
  rcases hi with ⟨f, hm, -⟩ | ⟨p', v, hp, hqp, hv, hmv, hE, -⟩
  · exact absurd hf0 (by have := MF.pos (G := G3) hm; omega)
  replace hp : MP b n G3 p' := hp
  replace hmv : m = Int32.ofNat v := hmv
  replace hE : ∀ o, Et (mkS b n) (0, q) o ↔ Et (mkS b n) (m, p') o := hE
  have ht := tN_p (b := b) hp.1.2.1 hp.2.2.2
  rcases hh with ⟨c1, r1, Ga, hm1, c2, r2, Gb, hm2, y, ey, hh⟩ | ⟨Ga, hj, -, -, rfl, rfl, rfl⟩
  · obtain ⟨rfl, hk⟩ := m_mrk hp c1 hm1
    have hk1 : 140 ≤ tK b n p' ∧ tK b n p' ≤ 143 := by
      rcases hk with ⟨a, b', -⟩ | ⟨-, a⟩
      · exact ⟨a, b'⟩
      · omega
    clear hk
    have mw : ∀ {r : Int32} {Gx : GS}, Q_mark G3 r Gx → G3 = Gx ∧ r = mkw (tK b n p') := by
      intro r Gx hm
      obtain ⟨e, hk⟩ := m_mrk hp c1 hm
      rcases hk with ⟨-, -, a⟩ | ⟨a, -⟩
      · exact ⟨e, a⟩
      · exact absurd hk1 a
    obtain ⟨rfl, rfl⟩ := mw hm2
    rcases hh with ⟨c3, r3, Gc, hm3, y2, ey2, Gd, htk, rfl, rfl, rfl⟩ | ⟨c3, Gc, hwr, hh⟩
    · obtain ⟨rfl, rfl⟩ := mw hm3
      rw [ey, hmv] at c3
      obtain ⟨v', g1, g2, g3⟩ := mk_ok hv hk1.1 hk1.2 c3
      have hst : mkS b n (m, p') = .inl (m ||| mkw (tK b n p'), tNx b n p') := by
        unfold mkS
        rw [if_pos hk1, if_neg (by rw [hmv]; exact fun q => q c3)]
      refine Or.inr ⟨tNx b n p', v', m_next htk hp (by omega), by omega, g1, by show y2 = _; rw [ey2, hmv]; exact g3, fun o => (hE o).trans ?_, fun q => absurd q (show ¬ (1 : Int32).toInt = 0 by decide)⟩
      show _ ↔ Et (mkS b n) (y2, tNx b n p') o
      rw [ey2]
      exact Et_i hst
    · obtain ⟨hm, -⟩ := m_wrong hwr hp (by decide)
      have hst : mkS b n (m, p') = .inr (.inl (fl b n 2 p')) := by
        unfold mkS
        rw [if_pos hk1, if_pos (by rw [← ey]; exact c3)]
      rcases hh with ⟨c4, -⟩ | ⟨-, rfl, rfl, rfl⟩
      · exact absurd c4 (by have := hm.pos; omega)
      · exact Or.inl ⟨_, hm, run_eq ((hE _).mpr ((Et_r hst).mpr rfl))⟩
  · have hj2 : G3 = Ga ∧ ¬ (140 ≤ tK b n p' ∧ tK b n p' ≤ 143) := by
      rcases hj with ⟨c1, r1, Gb, hm1, c2, e⟩ | ⟨c1, e⟩
      · obtain ⟨rfl, hk⟩ := m_mrk hp c1 hm1
        refine ⟨e, fun hq => ?_⟩
        rcases hk with ⟨-, -, a⟩ | ⟨a, -⟩
        · have : 0 < r1.toInt := by
            rw [a]
            unfold mkw
            split
            · decide
            · split
              · decide
              · split <;> decide
          omega
        · exact a hq
      · have hs := hp.so.2.2.1
        refine ⟨e, fun hq => c1 (hs.mpr ?_)⟩
        clear hs
        omega
    obtain ⟨rfl, hno⟩ := hj2
    exact Or.inr ⟨p', v, hp, hqp, hv, hmv, hE, fun _ => hno⟩
theorem pNum_60l {b : Nat → Int} {n p : Nat} {R : Int} {f : Int × Int} (h : pNum b n 1 60 p = .inl f) : pNum b n 1 (rmx R) p = .inl f := by
  unfold pNum at h ⊢
  by_cases h1 : tK b n p ≠ 201
  · rw [if_pos h1] at h ⊢
    exact h
  · rw [if_neg h1] at h ⊢
    by_cases h2 : tV b n p < 1 ∨ 60 < tV b n p
    · rw [if_pos h2] at h
      have h3 : tV b n p < 1 ∨ rmx R < tV b n p := by
        unfold rmx
        split <;> omega
      rw [if_pos h3]
      exact h
    · rw [if_neg h2] at h
      exact absurd h (by simp)
theorem pNum_60r {b : Nat → Int} {n p : Nat} {R : Int} (h : pNum b n 1 60 p = .inr (tV b n p, tNx b n p)) : (tV b n p ≤ R → pNum b n 1 (rmx R) p = .inr (tV b n p, tNx b n p)) ∧ (R < tV b n p → pNum b n 1 (rmx R) p = .inl (4, (tS b n p : Int))) := by
  unfold pNum at h ⊢
  by_cases h1 : tK b n p ≠ 201
  · rw [if_pos h1] at h
    exact absurd h (by simp)
  · have h201 : tK b n p = 201 := Classical.byContradiction h1
    rw [if_neg h1] at h
    rw [if_neg h1]
    by_cases h2 : tV b n p < 1 ∨ 60 < tV b n p
    · rw [if_pos h2] at h
      exact absurd h (by simp)
    · have h3 : ∀ x : Int, (x = rmx R) → ((tV b n p ≤ R ↔ tV b n p ≤ x)) := by
        intro x hx
        unfold rmx at hx
        by_cases hR : 60 ≤ R
        · rw [if_pos hR] at hx
          omega
        · rw [if_neg hR] at hx
          omega
      have h4 := h3 _ rfl
      refine ⟨fun q => ?_, fun q => ?_⟩
      · have := h4.mp q
        clear h3 h4
        rw [if_neg (by omega)]
      · have h5 : ¬ tV b n p ≤ rmx R := fun w => by have := h4.mpr w; omega
        clear h3 h4
        rw [if_pos (by omega)]
        unfold fl
        rw [if_neg (by omega)]
def SlM (b : Nat → Int) (n : Nat) (J : Int) (nth s : Nat) (I : List IC) (p : Nat) (G G1 : GS) : Prop := (∃ f, pSlab b n J nth I.length p = .inl f ∧ MF f G1) ∨ (∃ vx p', pSlab b n J nth I.length p = .inr (vx, p') ∧ MP b n G1 p' ∧ p < p' ∧ StM s (I ++ slI J nth vx) G1 ∧ KeM s G G1 ∧ 1 ≤ vx.1 ∧ ((I ++ slI J nth vx).length : Int) ≤ 400)
theorem m_slab {b : Nat → Int} {n : Nat} {J : Int} {nth s j0 : Nat} {I : List IC} {p : Nat} {p0 p1 : Int32} {G G1 : GS} (h : Q_readSlab p0 p1 j0 G G1) (hp : MP b n G p) (hs : (G.1 66 45).toInt = (s : Int)) (hS : StM s I G) (h0 : p0.toInt = J) (h1 : p1.toInt = (nth : Int)) (hn4 : nth ≤ 400) (hJ0 : 0 ≤ J) (hJ9 : J ≤ 9) : SlM b n J nth s I p G G1 := by
  obtain ⟨-, -, -, r5, G6, htd, w14, G15, hj1, -, -, -, G25, hj2, -, -, hF25, x, m, G32, hl, -, -, -, -, -, hF32, G58, hj4, -, -, hh⟩ := h
  have hG : G6 = G15 ∧ w14.toInt = ahd J nth := by
    unfold ahd
    rcases hj1 with ⟨c, e1, e2⟩ | ⟨c, e1, e2⟩
    · rw [if_pos (by omega), ← e1]
      exact ⟨e2, rfl⟩
    · rw [if_neg (by omega), ← e1]
      exact ⟨e2, h0⟩
  obtain ⟨rfl, hw14⟩ := hG
  clear hj1
  have har := ahd_r (nth := nth) hJ0 hJ9
  have e58 : G32 = G58 := by
    rcases hj4 with ⟨-, e⟩ | ⟨-, -, e⟩ <;> exact e
  have stop : ∀ {f : Int × Int}, MF f G25 → pSlab b n J nth I.length p = .inl f → SlM b n J nth s I p G G1 := by
    intro f hm he
    have hI : MF f G32 := hl (fun q => MF f q.2.2) hm (by
      rintro ⟨x1, m1, G_1⟩ ⟨xn, mn, G_1n⟩ hi ⟨x1q, m1q, G_1q, xnq, mnq, G_1nq, e1, e2, -, -, -, -, -, -, hf0, -⟩
      obtain ⟨rfl, e1x⟩ := Prod.mk.inj e1
      obtain ⟨rfl, rfl⟩ := Prod.mk.inj e1x
      exact absurd hf0 (by have := MF.pos (G := G_1) hi; omega))
    rcases hh with ⟨c, -⟩ | ⟨-, e⟩
    · exact absurd c (by have := hI.pos; omega)
    · subst e58
      subst e
      exact Or.inl ⟨f, he, hI⟩
  have r81 : G6.1 81 = G.1 81 := htd.2.1.row1 81 (by decide) (by decide)
  rcases m_told htd hp with ⟨f, hf, hm⟩ | ⟨hv, hp6, hr5, hl1, hl2⟩
  · have hpo := hm.pos
    rcases hj2 with ⟨c, -⟩ | ⟨-, e⟩
    · omega
    · subst e
      exact stop hm (bnd_l (pNum_60l hf))
  have hf6 : (G6.1 66 2).toInt = 0 := hp6.2.2.1.1
  have hv60 := pNum_60r (R := 400 - (I.length : Int) - ahd J nth) hv
  have k201 : tK b n p = 201 := by
    have hv' : pNum b n 1 60 p = .inr (tV b n p, tNx b n p) := hv
    unfold pNum at hv'
    refine Classical.byContradiction (fun q => ?_)
    rw [if_pos q] at hv'
    exact absurd hv' (by simp)
  have ht := tN_p (b := b) hp.1.2.1 hp.2.2.2
  have htp := (ht.2.2 (by omega)).1
  rcases hj2 with ⟨-, y190, e190, y192, t192, y193, t193, hh2⟩ | ⟨c, -⟩
  rotate_left
  · exact absurd hf6 c
  rw [cn_eq hs, r81] at e190
  have h190 : y190.toInt = (I.length : Int) := by rw [e190]; exact hS.1
  rcases hh2 with ⟨c4, rfl⟩ | ⟨c4, Gw, hwa, rfl⟩
  rotate_left
  · obtain ⟨-, -, -, hwa⟩ := hwa
    rcases hwa with ⟨-, -, e2, e3⟩ | ⟨c, -⟩
    · refine stop (f := (4, (tS b n p : Int))) ⟨by rw [e2]; rfl, by rw [e3]; exact hp.2.1.2.1, show (0 : Int) < 4 by decide⟩ (bnd_l (hv60.2 (by omega)))
    · omega
  have hvv := hv60.1 (by omega)
  have hI : MkI b n (tNx b n p) x m G32 := hl (fun q => MkI b n (tNx b n p) q.1 q.2.1 q.2.2) (Or.inr ⟨tNx b n p, 0, hp6, Nat.le_refl _, by decide, rfl, fun o => Iff.rfl, fun q => absurd q (show ¬ (1 : Int32).toInt = 0 by decide)⟩) (fun a a' ha hst => m_mkstep hst ha)
  rcases hI with ⟨f, hm, he⟩ | ⟨p', v, hp3, hqp, hv16, hmv, hE, hx0⟩
  · rcases hh with ⟨c, -⟩ | ⟨-, e⟩
    · exact absurd c (by have := hm.pos; omega)
    · subst e58
      subst e
      exact Or.inl ⟨f, (bnd_r hvv).trans (bnd_l he), hm⟩
  have hf3 : (G32.1 66 2).toInt = 0 := hp3.2.2.1.1
  have hx : x.toInt = 0 := by
    rcases hj4 with ⟨c, -⟩ | ⟨-, c, -⟩
    · exact c
    · exact absurd hf3 c
  have hno := hx0 hx
  have hst : mkS b n (m, p') = .inr (.inr (m, p')) := by
    unfold mkS
    rw [if_neg hno]
  have hmk : pMk b n (tNx b n p) = .inr (m, p') := run_eq ((hE _).mpr ((Et_r hst).mpr rfl))
  have hps : pSlab b n J nth I.length p = .inr ((tV b n p, m), p') := (bnd_r hvv).trans (bnd_r hmk)
  subst e58
  rcases hh with ⟨-, y63, e63, Ga, hpa1, Gb, hpa2, rfl⟩ | ⟨c, -⟩
  rotate_left
  · omega
  have hl1' : 1 ≤ tV b n p := hl1
  have hs32 : (G32.1 66 45).toInt = (s : Int) := by
    rw [hF32.i 66 45 (by decide) (by decide), htd.2.1.i 66 45 (by decide) (by decide)]
    exact hs
  have hS32 : StM s I G32 := (hS.fr htd.2.1 (by decide) (by decide)).fr hF32 (by decide) (by decide)
  have hK32 : KeM s G G32 := (KeM.of htd.2.1 (by decide) (by decide)).tr (KeM.of hF32 (by decide) (by decide))
  have h63 : y63.toInt = (nth : Int) - 1 := xI_sub (Y := 1) h1 rfl e63 (by omega) (by omega)
  obtain ⟨k1, k2⟩ := m_pave (m := -1) hpa1 hs32 hS32 rfl h63 hw14 har.1
  have hs2 : (Ga.1 66 45).toInt = (s : Int) := by
    rw [hpa1.2.1.i 66 45 (by decide) (by decide)]
    exact hs32
  obtain ⟨k3, k4⟩ := m_pave hpa2 hs2 k1 rfl h1 hr5 (by omega)
  refine Or.inr ⟨_, p', hps, (hp3.fr hpa1.2.1 (by decide) (by decide) (by decide) (by decide)).fr hpa2.2.1 (by decide) (by decide) (by decide) (by decide), by omega, ?_, (hK32.tr k2).tr k4, hl1', ?_⟩
  · rw [List.append_assoc] at k3
    exact k3
  · rw [List.length_append, slI_len]
    show ((I.length + ((ahd J nth).toNat + (tV b n p).toNat) : Nat) : Int) ≤ 400
    omega
