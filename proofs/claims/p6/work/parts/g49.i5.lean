/-! EVENEST: the best -/
def EVM (E : Int → Int → Prop) (lo hi what r : Int) : Prop := (r = -1 ∧ ∀ s b, lo ≤ s → s ≤ b → b ≤ hi → ¬ E s b) ∨ ∃ d s, 0 ≤ d ∧ lo ≤ s ∧ s + d ≤ hi ∧ E s (s + d) ∧ (∀ s' b', lo ≤ s' → s' ≤ b' → b' ≤ hi → E s' b' → d ≤ b' - s') ∧ (∀ s', lo ≤ s' → s' < s → ¬ E s' (s' + d)) ∧ (what = 1 → r = s) ∧ (what = 0 → r = d)
theorem EVM_one {E : Int → Int → Prop} {lo hi what r r' : Int} (h : EVM E lo hi what r) (h' : EVM E lo hi what r') (hw : what = 0 ∨ what = 1) : r = r' := by
  rcases h with ⟨a, b⟩ | ⟨d, s, a1, a2, a3, a4, a5, a6, a7, a8⟩
  · rcases h' with ⟨a', b'⟩ | ⟨d', s', a1', a2', a3', a4', -⟩
    · omega
    · exact absurd a4' (b s' (s' + d') a2' (by omega) a3')
  · rcases h' with ⟨a', b'⟩ | ⟨d', s', a1', a2', a3', a4', a5', a6', a7', a8'⟩
    · exact absurd a4 (b' s (s + d) a2 (by omega) a3)
    · have e1 := a5 s' (s' + d') a2' (by omega) a3' a4'
      have e2 := a5' s (s + d) a2 (by omega) a3 a4
      have ed : d = d' := by omega
      subst ed
      have es : s = s' := by
        rcases Int.lt_trichotomy s s' with q | q | q
        · exact absurd a4 (a6' s a2 q)
        · exact q
        · exact absurd a4' (a6 s' a2' q)
      subst es
      rcases hw with q | q
      · rw [a8 q, a8' q]
      · rw [a7 q, a7' q]
theorem k_eve {V : PV} {day : Int32} {w s t : Nat} {p0 p1 r y4 : Int32} {G G1 : GS} (h : P_tFirst p0 p1 G r G1) (hC : CrsC V day w s t G) (hk : WKok (wk V w)) (hl4 : (stl V s : Int) ≤ 400) (h1 : 1 ≤ p0.toInt) (h2 : p0.toInt ≤ p1.toInt) (h3 : p1.toInt ≤ (wk V w).2.2.1) (h4 : (y4.toInt = (wk V w).2.2.1 ∧ (wk V w).2.2.1 ≤ ndx V w s) ∨ (y4.toInt = ndx V w s ∧ ndx V w s < (wk V w).2.2.1)) : r.toInt < y4.toInt ↔ EVE V day w s t p0.toInt p1.toInt := by
  have hq := k_first h hC hk hl4 h1 h2 h3
  have hm60 := hk.2.2.2.2.1
  have h5 := NRx_le hq (c := y4.toInt - 1) (by omega)
  have h6 : r.toInt < y4.toInt ↔ r.toInt ≤ y4.toInt - 1 := by omega
  refine h6.trans (h5.trans ?_)
  clear h5 h6 hq
  constructor
  · rintro ⟨y, g1, g2, g3⟩
    refine ⟨y, g1, by omega, fun q => ?_, g3⟩
    have := (en_i (V := V) (w := w) (s := s) g1).mp q
    omega
  · rintro ⟨y, g1, g2, g3, g4⟩
    refine ⟨y, g1, ?_, g4⟩
    have g5 : ¬ ndx V w s ≤ y := fun q => g3 ((en_i (V := V) (w := w) (s := s) g1).mpr q)
    omega
theorem k_most {V : PV} {day : Int32} {w s t : Nat} {p0 r : Int32} {G G1 : GS} (h : P_tMost p0 G r G1) (hC : CrsC V day w s t G) (hk : WKok (wk V w)) (hl4 : (stl V s : Int) ≤ 400) (hw : p0.toInt = 0 ∨ p0.toInt = 1) : EVM (EVE V day w s t) (wk V w).2.1 (wk V w).2.2.1 p0.toInt r.toInt := by
  obtain ⟨E, hE⟩ : ∃ E, E = EVE V day w s t := ⟨_, rfl⟩
  rw [← hE]
  have hmono : ∀ {a b a' b' : Int}, E a b → a' ≤ a → b ≤ b' → E a' b' := by
    rw [hE]
    intro a b a' b' q1 q2 q3
    exact q1.mono q2 q3
  have hm60 := hk.2.2.2.2.1
  have hlo := hk.2.2.1
  have hlh := hk.2.2.2.1
  have m1 : (-1 : Int32).toInt = -1 := rfl
  have far : (1000000 : Int32).toInt = 1000000 := rfl
  have c3 : (G.1 7 3).toInt = (wk V w).2.1 := hC.1.2.2.1
  have c4 : (G.1 7 4).toInt = (wk V w).2.2.1 := hC.1.2.2.2.1
  have c7 : (G.1 7 7).toInt = ndx V w s := hC.1.2.2.2.2.2.2
  obtain ⟨-, -, y4, h4, x10, x11, x12, x13, G6, hl, -, -, -, -, -, hF6, c10, hh⟩ := h
  rw [c4, c7] at h4
  obtain ⟨lo, elo⟩ : ∃ lo, lo = (wk V w).2.1 := ⟨_, rfl⟩
  obtain ⟨hi, ehi⟩ : ∃ hi, hi = (wk V w).2.2.1 := ⟨_, rfl⟩
  rw [← elo, ← ehi]
  obtain ⟨-, i1, i2, i3, i4⟩ := hl (fun q => Fr [42] [] G q.2.2.2.2 ∧ (lo ≤ q.1.toInt) ∧ (∀ s' b, lo ≤ s' → s' < q.1.toInt → s' ≤ b → b ≤ hi → E s' b → q.2.2.2.1.toInt ≤ b - s') ∧ ((q.2.2.1.toInt = -1 ∧ q.2.2.2.1.toInt = 1000000) ∨ (lo ≤ q.2.2.1.toInt ∧ q.2.2.1.toInt < q.1.toInt ∧ 0 ≤ q.2.2.2.1.toInt ∧ q.2.2.1.toInt + q.2.2.2.1.toInt ≤ hi ∧ E q.2.2.1.toInt (q.2.2.1.toInt + q.2.2.2.1.toInt) ∧ ∀ s', lo ≤ s' → s' < q.2.2.1.toInt → ¬ E s' (s' + q.2.2.2.1.toInt))) ∧ (∀ s' b, b < q.2.1.toInt → q.1.toInt ≤ s' → s' ≤ b → b ≤ hi → ¬ E s' b)) ⟨Fr.rf, by show lo ≤ (G.1 7 3).toInt; omega, fun s' b q1 q2 => absurd q2 (by show ¬ s' < (G.1 7 3).toInt; omega), Or.inl ⟨rfl, rfl⟩, fun s' b q1 q2 q3 => by
      have q1' : b < (G.1 7 3).toInt := q1
      have q2' : (G.1 7 3).toInt ≤ s' := q2
      omega⟩ (by
    rintro ⟨a1, a2, a3, a4, b0⟩ ⟨n1, n2, n3, n4, bn⟩ ⟨iF, i1, i2, i3, i4⟩ ⟨v1, v2, v3, v4, v, s1, s2, s3, s4, sn, t1, t2, -, -, -, -, -, f1, y25, h25, x30, G26, hl2, -, -, -, G42, hJ, -, hF42, hd⟩
    simp only [Prod.mk.injEq] at t1 t2
    obtain ⟨rfl, rfl, rfl, rfl, rfl⟩ := t1
    obtain ⟨rfl, rfl, rfl, rfl, rfl⟩ := t2
    simp only at iF i1 i2 i3 i4
    obtain ⟨j0, j1, j2⟩ := hl2 (fun q => Fr [42] [] G q.2 ∧ y25.toInt ≤ q.1.toInt ∧ (∀ s' b, b < q.1.toInt → a1.toInt ≤ s' → s' ≤ b → b ≤ hi → ¬ E s' b)) ⟨iF, Int.le_refl _, fun s' b q1 q2 q3 q4 => by
        have q1' : b < y25.toInt := q1
        exact i4 s' b (by clear hd; omega) q2 q3 q4⟩ (by
      rintro ⟨d1, e⟩ ⟨m1, en⟩ ⟨jF, j1, j2⟩ ⟨w1, k, u1, kn, t1, t2, -, -, f2, r59, G60, hfi, f3, y65, t65, ex, eG⟩
      obtain ⟨rfl, rfl⟩ := Prod.mk.inj t1
      obtain ⟨rfl, rfl⟩ := Prod.mk.inj t2
      simp only at jF j1 j2
      subst eG
      have hev := k_eve hfi (hC.fr jF (by decide) (by decide)) hk hl4 (by clear hd; omega) (by clear hd; omega) (by clear hd; omega) h4
      rw [← hE] at hev
      have hn : ¬ E a1.toInt d1.toInt := fun q => by have := hev.mpr q; clear hd hev; omega
      clear hev
      refine ⟨jF.call hfi.2.1 (by decide) (by decide), by show y25.toInt ≤ m1.toInt; rw [← ex]; clear hd; omega, fun s' b q1 q2 q3 q4 q5 => ?_⟩
      have q1' : b < m1.toInt := q1
      rw [← ex, t65] at q1'
      by_cases eb : b = d1.toInt
      · subst eb
        exact hn (hmono q5 q2 (Int.le_refl _))
      · exact j2 s' b (by clear hd; omega) q2 q3 q4 q5)
    simp only at j0 j1 j2
    have jF := j0.call hF42 (by decide) (by decide)
    rcases hd with ⟨f, y47, t47, ex, e2, e3, e4, eG⟩ | ⟨f, y48, t48, hd⟩
    · subst eG ex e2 e3 e4
      refine ⟨jF, by show lo ≤ y47.toInt; omega, fun s' b q1 q2 q3 q4 q5 => ?_, ?_, fun s' b q1 q2 q3 q4 => j2 s' b q1 (by have q2' : y47.toInt ≤ s' := q2; omega) q3 q4⟩
      · have q2' : s' < y47.toInt := q2
        by_cases es : s' = a1.toInt
        · subst es
          exact absurd q5 (j2 a1.toInt b (by omega) (Int.le_refl _) q3 q4)
        · exact i2 s' b q1 (by omega) q3 q4 q5
      · rcases i3 with ⟨g1, g2⟩ | ⟨g1, g2, g3⟩
        · exact Or.inl ⟨g1, g2⟩
        · exact Or.inr ⟨g1, by show a3.toInt < y47.toInt; omega, g3⟩
    · have hEs : E a1.toInt x30.toInt := by
        rcases hJ with ⟨q, -⟩ | ⟨q, r59, G60, hfi, q2, -⟩
        · omega
        · have hev := k_eve hfi (hC.fr j0 (by decide) (by decide)) hk hl4 (by omega) (by omega) (by omega) h4
          rw [← hE] at hev
          exact hev.mp q2
      have hA : ∀ b, a1.toInt ≤ b → b ≤ hi → E a1.toInt b → x30.toInt ≤ b := fun b q1 q2 q3 => by
        refine Classical.byContradiction (fun q => ?_)
        exact j2 a1.toInt b (by omega) (Int.le_refl _) q1 q2 q3
      rcases hd with ⟨g, y50, t50, ex, e2, e3, e4, eG⟩ | ⟨g, y51, t51, y52, t52, ex, e2, e3, e4, eG⟩
      · subst eG ex e2 e3 e4
        refine ⟨jF, by show lo ≤ y50.toInt; omega, fun s' b q1 q2 q3 q4 q5 => ?_, ?_, fun s' b q1 q2 q3 q4 => j2 s' b q1 (by have q2' : y50.toInt ≤ s' := q2; omega) q3 q4⟩
        · have q2' : s' < y50.toInt := q2
          show a4.toInt ≤ b - s'
          by_cases es : s' = a1.toInt
          · subst es
            have := hA b q3 q4 q5
            omega
          · exact i2 s' b q1 (by omega) q3 q4 q5
        · rcases i3 with ⟨g1, g2⟩ | ⟨g1, g2, g3⟩
          · exact Or.inl ⟨g1, g2⟩
          · exact Or.inr ⟨g1, by show a3.toInt < y50.toInt; omega, g3⟩
      · subst eG ex e2 e3 e4
        refine ⟨jF, by show lo ≤ y52.toInt; omega, fun s' b q1 q2 q3 q4 q5 => ?_, ?_, fun s' b q1 q2 q3 q4 => j2 s' b q1 (by have q2' : y52.toInt ≤ s' := q2; omega) q3 q4⟩
        · have q2' : s' < y52.toInt := q2
          show y51.toInt ≤ b - s'
          by_cases es : s' = a1.toInt
          · subst es
            have := hA b q3 q4 q5
            omega
          · have := i2 s' b q1 (by omega) q3 q4 q5
            omega
        · refine Or.inr ⟨by show lo ≤ a1.toInt; exact i1, by show a1.toInt < y52.toInt; omega, by show 0 ≤ y51.toInt; omega, by show a1.toInt + y51.toInt ≤ hi; omega, ?_, fun s' q1 q2 q3 => ?_⟩
          · show E a1.toInt (a1.toInt + y51.toInt)
            rw [show a1.toInt + y51.toInt = x30.toInt by omega]
            exact hEs
          · have q2' : s' < a1.toInt := q2
            have q3' : E s' (s' + y51.toInt) := q3
            have := i2 s' (s' + y51.toInt) q1 q2' (by omega) (by omega) q3'
            omega)
  simp only at i1 i2 i3 i4
  rcases i3 with ⟨g1, g2⟩ | ⟨g1, g2, g3, g4, g5, g6⟩
  · rcases hh with ⟨f, rfl, -⟩ | ⟨f, -⟩
    · refine Or.inl ⟨g1, fun s' b q1 q2 q3 q4 => ?_⟩
      have := i2 s' b q1 (by omega) q2 q3 q4
      omega
    · exact absurd g1 f
  · have res : ∀ {v : Int}, (p0.toInt = 1 → v = x12.toInt) → (p0.toInt = 0 → v = x13.toInt) → EVM E lo hi p0.toInt v := fun v1 v2 => Or.inr ⟨x13.toInt, x12.toInt, g3, g1, g4, g5, fun s' b q1 q2 q3 q4 => i2 s' b q1 (by omega) q2 q3 q4, g6, v1, v2⟩
    rcases hh with ⟨f, -⟩ | ⟨f, ⟨g, rfl, -⟩ | ⟨g, rfl, -⟩⟩
    · omega
    · exact res (fun _ => rfl) (fun q => by omega)
    · exact res (fun q => absurd q g) (fun _ => rfl)
theorem m_evenest {V : PV} {p0 p1 p2 p3 r : Int32} {G G1 : GS} (h : Q_evenest p0 p1 p2 p3 G r G1) (hR : RV V G) (hV : PVok V) (hok : ∀ s i, s < V.1.length → i < stl V s → ICok (icl V s i)) (hw1 : ∀ w, w < V.2.1.length → WKok (wk V w)) : (¬ ((inW V p0 ∧ inS V p1 ∧ inR V p2) ∧ 0 ≤ p3.toInt ∧ p3.toInt ≤ 1) ∧ r.toInt = -1) ∨ (((inW V p0 ∧ inS V p1 ∧ inR V p2) ∧ 0 ≤ p3.toInt ∧ p3.toInt ≤ 1) ∧ EVM (EVE V (G.1 110 6) p0.toInt.toNat p1.toInt.toNat p2.toInt.toNat) (wk V p0.toInt.toNat).2.1 (wk V p0.toInt.toNat).2.2.1 p3.toInt r.toInt) := by
  have m1 : (-1 : Int32).toInt = -1 := rfl
  have z0 : (0 : Int32).toInt = 0 := rfl
  have o1 : (1 : Int32).toInt = 1 := rfl
  obtain ⟨-, -, r1, G2, hask, hh⟩ := h
  obtain ⟨rfl, k1⟩ := q_isAsked_eq hask hR
  rcases hh with ⟨c, rfl, -⟩ | ⟨c, r10, G11, hin, hh⟩
  · exact Or.inl ⟨fun q => absurd c (k1.mpr q.1), m1⟩
  have hA := k1.mp c
  obtain ⟨rfl, k2⟩ := q_isIn hin
  rw [z0, o1] at k2
  rcases hh with ⟨c2, rfl, -⟩ | ⟨c2, G19, hlay, x37, G33, hl, -, -, hF33, y42, t42, hh⟩
  · exact Or.inl ⟨fun q => absurd c2 (k2.mpr q.2), m1⟩
  have hX := k2.mp c2
  refine Or.inr ⟨⟨hA, hX⟩, ?_⟩
  clear k1 k2 c c2
  obtain ⟨hwl, hwn⟩ := hA.1.n
  obtain ⟨hsl, hsn⟩ := hA.2.1.n
  obtain ⟨ht64, htn⟩ := hA.2.2.lt hV.1
  have hC : CrsM V (G.1 110 6) p0.toInt.toNat p1.toInt.toNat p2.toInt.toNat G19 := m_lay hlay hwn hwl hsn hsl htn ht64 hR hV (fun i hi => hok _ i hsl hi)
  have hk := hw1 _ hwl
  have hl4 : (stl V p1.toInt.toNat : Int) ≤ 400 := (hR.1.2.2 _ hsl).2
  obtain ⟨w, ew⟩ : ∃ w, w = p0.toInt.toNat := ⟨_, rfl⟩
  obtain ⟨s, es⟩ : ∃ s, s = p1.toInt.toNat := ⟨_, rfl⟩
  obtain ⟨t, et⟩ : ∃ t, t = p2.toInt.toNat := ⟨_, rfl⟩
  obtain ⟨day, ed⟩ : ∃ day, day = G.1 110 6 := ⟨_, rfl⟩
  rw [← ew, ← es, ← et, ← ed] at hC
  rw [← ew] at hk
  rw [← es] at hl4
  rw [← ew, ← es, ← et, ← ed]
  obtain ⟨E, hE⟩ : ∃ E, E = EVE V day w s t := ⟨_, rfl⟩
  rw [← hE]
  have hm60 := hk.2.2.2.2.1
  have hlo := hk.2.2.1
  have hlh := hk.2.2.2.1
  have c3 : (G19.1 66 61).toInt = (wk V w).2.1 := hC.1.2.2.1
  have c4 : (G19.1 66 62).toInt = (wk V w).2.2.1 := hC.1.2.2.2.1
  obtain ⟨lo, elo⟩ : ∃ lo, lo = (wk V w).2.1 := ⟨_, rfl⟩
  obtain ⟨hi, ehi⟩ : ∃ hi, hi = (wk V w).2.2.1 := ⟨_, rfl⟩
  rw [← elo, ← ehi]
  -- the inner loop
  have inner : ∀ {Ga Gb : GS} {d x : Int32}, 0 ≤ d.toInt → Fr [103] [] G19 Ga → Rc (St_n_evenest_2 d G19) ((G19.1 66 61), Ga) (x, Gb) → Fr [103] [] G19 Gb ∧ lo ≤ x.toInt ∧ ∀ s', lo ≤ s' → s' < x.toInt → ¬ E s' (s' + d.toInt) := by
    intro Ga Gb d x hd0 hFa hlp
    exact hlp (fun q => Fr [103] [] G19 q.2 ∧ lo ≤ q.1.toInt ∧ ∀ s', lo ≤ s' → s' < q.1.toInt → ¬ E s' (s' + d.toInt)) ⟨hFa, by show lo ≤ (G19.1 66 61).toInt; omega, fun s' q1 q2 => by have q2' : s' < (G19.1 66 61).toInt := q2; omega⟩ (by
      rintro ⟨d1, e⟩ ⟨m1, en⟩ ⟨jF, j1, j2⟩ ⟨w1, k, u1, kn, t1, t2, -, -, y52, t52, f52, y55, t55, r56, G57, hev, f56, y63, t63, ex, eG⟩
      obtain ⟨rfl, rfl⟩ := Prod.mk.inj t1
      obtain ⟨rfl, rfl⟩ := Prod.mk.inj t2
      simp only at jF j1 j2
      subst eG ex
      have hq := m_isEven hev (hC.fr jF (by decide) (by decide)) hk hl4 (by omega) (by omega)
      rw [← hE, t55] at hq
      have hn : ¬ E d1.toInt (d1.toInt + d.toInt) := fun q => (hq.mpr q) f56
      clear hq
      refine ⟨jF.call hev.2.1 (by decide) (by decide), by show lo ≤ y63.toInt; omega, fun s' q1 q2 => ?_⟩
      have q2' : s' < y63.toInt := q2
      by_cases e9 : s' = d1.toInt
      · subst e9
        exact hn
      · exact j2 s' q1 (by omega))
  obtain ⟨i0, i1, i2⟩ := hl (fun q => Fr [103] [] G19 q.2 ∧ 0 ≤ q.1.toInt ∧ ∀ s' d', 0 ≤ d' → d' < q.1.toInt → lo ≤ s' → s' + d' ≤ hi → ¬ E s' (s' + d')) ⟨Fr.rf, Int.le_refl _, fun s' d' q1 q2 => by have q2' : d' < (0 : Int32).toInt := q2; omega⟩ (by
    rintro ⟨d1, e⟩ ⟨m1, en⟩ ⟨jF, j1, j2⟩ ⟨w1, k, u1, kn, t1, t2, -, -, y42, t42, f42, x48, G44, hl2, -, -, -, y52, t52, f52, y54, t54, ex, eG⟩
    obtain ⟨rfl, rfl⟩ := Prod.mk.inj t1
    obtain ⟨rfl, rfl⟩ := Prod.mk.inj t2
    simp only at jF j1 j2
    subst eG ex
    obtain ⟨kF, k1, k2⟩ := inner j1 jF hl2
    refine ⟨kF, by show 0 ≤ y54.toInt; omega, fun s' d' q1 q2 q3 q4 => ?_⟩
    have q2' : d' < y54.toInt := q2
    by_cases e9 : d' = d1.toInt
    · subst e9
      exact k2 s' q3 (by omega)
    · exact j2 s' d' q1 (by omega) q3 q4)
  simp only at i0 i1 i2
  rcases hh with ⟨f, rfl, -⟩ | ⟨f, x48, G44, hl2, -, -, -, y52, t52, f52, y55, t55, r56, G57, hev, f56, hh⟩
  · refine Or.inl ⟨m1, fun s' b q1 q2 q3 q4 => i2 s' (b - s') (by omega) (by omega) q1 (by omega) (by rw [show s' + (b - s') = b by omega]; exact q4)⟩
  · obtain ⟨kF, k1, k2⟩ := inner i1 i0 hl2
    have hq := m_isEven hev (hC.fr kF (by decide) (by decide)) hk hl4 (by omega) (by omega)
    rw [← hE, t55] at hq
    have hy := hq.mp f56
    clear hq
    refine Or.inr ⟨x37.toInt, x48.toInt, i1, k1, by omega, hy, fun s' b q1 q2 q3 q4 => ?_, k2, ?_⟩
    · refine Classical.byContradiction (fun q => ?_)
      exact i2 s' (b - s') (by omega) (by omega) q1 (by omega) (by rw [show s' + (b - s') = b by omega]; exact q4)
    · rcases hh with ⟨g, rfl, -⟩ | ⟨g, rfl, -⟩
      · exact ⟨fun q => by omega, fun _ => rfl⟩
      · exact ⟨fun _ => rfl, fun q => absurd q g⟩
theorem evenest_1 {V : PV} {p0 p1 p2 p3 q0 q1 q2 q3 r r' : Int32} {G Ga Gb : GS} (hx : P_Wevenest_1 p0 p1 p2 p3 G r Ga) (hm : Q_evenest q0 q1 q2 q3 Ga r' Gb) (i0 : p0.toInt = q0.toInt) (i1 : p1.toInt = q1.toInt) (i2 : p2.toInt = q2.toInt) (i3 : p3.toInt = q3.toInt) (hI : IV_1 V G) (hg : gW G = 1) : r.toInt = r'.toInt := by
  obtain rfl := Int32.toInt_inj.mp i0
  obtain rfl := Int32.toInt_inj.mp i1
  obtain rfl := Int32.toInt_inj.mp i2
  obtain rfl := Int32.toInt_inj.mp i3
  have hFx := hx.2.1
  have m1 : (-1 : Int32).toInt = -1 := rfl
  obtain ⟨hW, hR, hV, hCa, hE, hSV⟩ := hI
  have hd := hE.day
  have hw1 : ∀ w, w < V.2.1.length → WKok (wk V w) := fun w hw => hR.wk hg hw
  have hM := m_evenest hm (hR.fr hFx (by decide) (by decide)) hV (fun s i hs hi => hW.ok hs i hi) hw1
  rw [show Ga.1 110 6 = G.1 58 6 by rw [hFx.row1 110 (by decide) (by decide), hd.2]] at hM
  have no : ∀ {v : Int}, ¬ ((inW V p0 ∧ inS V p1 ∧ inR V p2) ∧ 0 ≤ p3.toInt ∧ p3.toInt ≤ 1) → v = -1 → v = r'.toInt := by
    intro v q e
    rcases hM with ⟨-, e2⟩ | ⟨y, -⟩
    · rw [e, e2]
    · exact absurd y q
  obtain ⟨-, -, r4, G5, hask, hh⟩ := hx
  obtain ⟨rfl, k1⟩ := k_wAsk_1_eq hask hW hV.1
  rcases hh with ⟨c, rfl, -⟩ | ⟨c, hh⟩
  · exact no (fun q => absurd c (k1.mpr q.1)) m1
  have hA := k1.mp c
  clear k1 c
  rcases hh with ⟨f, rfl, -⟩ | ⟨f, ⟨f2, G13, hp, r21, G22, hmo, rfl, -⟩ | ⟨f2, rfl, -⟩⟩
  · exact no (fun q => by have := q.2.1; omega) m1
  · have hk := hw1 _ hA.1.n.1
    have hcr := k_prep_1 hp hW hR.1.2.1 hV hCa hd.1.1 hA hk.1
    have hl4 : (stl V p1.toInt.toNat : Int) ≤ 400 := (hR.1.2.2 _ hA.2.1.n.1).2
    have hC := k_most hmo hcr hk hl4 (by omega)
    rcases hM with ⟨nn, -⟩ | ⟨-, e⟩
    · exact absurd ⟨hA, f, f2⟩ nn
    · exact EVM_one hC e (by omega)
  · exact no (fun q => by have := q.2.2; omega) m1
theorem evenest_2 {V : PV} {p0 p1 p2 p3 q0 q1 q2 q3 r r' : Int32} {G Ga Gb : GS} (hx : P_Wevenest_2 p0 p1 p2 p3 G r Ga) (hm : Q_evenest q0 q1 q2 q3 Ga r' Gb) (i0 : p0.toInt = q0.toInt) (i1 : p1.toInt = q1.toInt) (i2 : p2.toInt = q2.toInt) (i3 : p3.toInt = q3.toInt) (hI : IV_2 V G) (hg : gW G = 1) : r.toInt = r'.toInt := by
  obtain rfl := Int32.toInt_inj.mp i0
  obtain rfl := Int32.toInt_inj.mp i1
  obtain rfl := Int32.toInt_inj.mp i2
  obtain rfl := Int32.toInt_inj.mp i3
  have hFx := hx.2.1
  have m1 : (-1 : Int32).toInt = -1 := rfl
  obtain ⟨hW, hR, hV, hCa, hE, hSV⟩ := hI
  have hd := hE.day
  have hw1 : ∀ w, w < V.2.1.length → WKok (wk V w) := fun w hw => hR.wk hg hw
  have hM := m_evenest hm (hR.fr hFx (by decide) (by decide)) hV (fun s i hs hi => hW.ok hs i hi) hw1
  rw [show Ga.1 110 6 = G.1 58 6 by rw [hFx.row1 110 (by decide) (by decide), hd.2]] at hM
  have no : ∀ {v : Int}, ¬ ((inW V p0 ∧ inS V p1 ∧ inR V p2) ∧ 0 ≤ p3.toInt ∧ p3.toInt ≤ 1) → v = -1 → v = r'.toInt := by
    intro v q e
    rcases hM with ⟨-, e2⟩ | ⟨y, -⟩
    · rw [e, e2]
    · exact absurd y q
  obtain ⟨-, -, r4, G5, hask, hh⟩ := hx
  obtain ⟨rfl, k1⟩ := k_wAsk_2_eq hask hW hV.1
  rcases hh with ⟨c, rfl, -⟩ | ⟨c, hh⟩
  · exact no (fun q => absurd c (k1.mpr q.1)) m1
  have hA := k1.mp c
  clear k1 c
  rcases hh with ⟨f, rfl, -⟩ | ⟨f, ⟨f2, G13, hp, r21, G22, hmo, rfl, -⟩ | ⟨f2, rfl, -⟩⟩
  · exact no (fun q => by have := q.2.1; omega) m1
  · have hk := hw1 _ hA.1.n.1
    have hcr := k_prep_2 hp hW hR.1.2.1 hV hCa hd.1.1 hA hk.1
    have hl4 : (stl V p1.toInt.toNat : Int) ≤ 400 := (hR.1.2.2 _ hA.2.1.n.1).2
    have hC := k_most hmo hcr hk hl4 (by omega)
    rcases hM with ⟨nn, -⟩ | ⟨-, e⟩
    · exact absurd ⟨hA, f, f2⟩ nn
    · exact EVM_one hC e (by omega)
  · exact no (fun q => by have := q.2.2; omega) m1
