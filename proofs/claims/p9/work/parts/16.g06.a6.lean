/-! small pieces by the reference -/
theorem lc_iff {z : Int32} {x y : Int64} (e : z = lg_cmp x y) : z.toInt = 0 ↔ x = y := ⟨lc_eq e, fun h => Classical.byContradiction (fun q => lc_ne e q h)⟩
theorem w8_kw {L : List Int} (hL : LW L) {i : Nat} (hi : i < 23) {c : Int64} (hc : w8 (KW.getD i []) = c) : w8 L = c ↔ kwd L = 128 + (i : Int) := by
  subst hc
  rw [kwd_iff hi]
  exact ⟨fun h => w8_inj hL.2 (KW_n i hi).2 hL.1 (KW_n i hi).1 h, fun h => by rw [h]⟩
def MP (b : Nat → Int) (n : Nat) (G : GS) (p : Nat) : Prop := XM b n G ∧ TM b n G p ∧ ((G.1 66 2).toInt = 0 ∧ (G.1 66 3).toInt = -1) ∧ p ≤ n
def MF (f : Int × Int) (G1 : GS) : Prop := (G1.1 66 2).toInt = f.1 ∧ (G1.1 66 3).toInt = f.2 ∧ 0 < f.1
theorem MP.fr {b : Nat → Int} {n p : Nat} {rs : List Nat} {fs : List (Nat × Nat)} {G G1 : GS} (h : MP b n G p) (hF : Fr rs fs G G1) (h1 : 66 ∉ rs) (h2 : (66, 2) ∉ fs ∧ (66, 3) ∉ fs ∧ (66, 4) ∉ fs ∧ (66, 5) ∉ fs ∧ (66, 6) ∉ fs ∧ (66, 7) ∉ fs ∧ (66, 8) ∉ fs ∧ (66, 9) ∉ fs) (h3 : 67 ∉ rs) (h4 : ∀ x ∈ fs, x.1 ≠ 67) : MP b n G1 p := by
  obtain ⟨a1, a2, a3, a4⟩ := h
  obtain ⟨g2, g3, g4, g5, g6, g7, g8, g9⟩ := h2
  refine ⟨a1.fr hF h1 g5 h3 h4, ?_, by rw [hF.i 66 2 h1 g2, hF.i 66 3 h1 g3]; exact a3, a4⟩
  unfold TM at a2 ⊢
  rw [hF.i 66 6 h1 g6, hF.i 66 7 h1 g7, hF.i 66 4 h1 g4, hF.i 66 8 h1 g8, hF.l 66 9 h1 g9]
  exact a2
theorem tK_r {b : Nat → Int} {n p : Nat} (hn : n ≤ 1600) (hp : p ≤ n) : (37 ≤ tK b n p ∧ tK b n p ≤ 62) ∨ (128 ≤ tK b n p ∧ tK b n p ≤ 203) := by
  unfold tK
  by_cases c1 : n ≤ tS b n p
  · rw [if_pos c1]
    omega
  · rw [if_neg c1]
    by_cases c2 : ltr (b (tS b n p)) = true
    · rw [if_pos c2]
      have := kwd_r (tL b n p)
      split <;> omega
    · rw [if_neg c2]
      by_cases c4 : dgt (b (tS b n p)) = true
      · rw [if_pos c4]
        split <;> omega
      · rw [if_neg c4]
        by_cases c5 : sgn (b (tS b n p)) = true
        · rw [if_pos c5]
          have := sgn_i.mp c5
          omega
        · rw [if_neg c5]
          omega
theorem MP.so {b : Nat → Int} {n p : Nat} {G : GS} (h : MP b n G p) : ((G.1 66 6).toInt = 3 ↔ tK b n p = 202) ∧ ((G.1 66 6).toInt = 2 ↔ tK b n p = 201) ∧ ((G.1 66 6).toInt = 1 ↔ (128 ≤ tK b n p ∧ tK b n p ≤ 200)) ∧ ((G.1 66 6).toInt = 0 ↔ tK b n p = 203) ∧ (∀ c : Int, 4 ≤ c → c ≤ 127 → ((G.1 66 6).toInt = c ↔ tK b n p = c)) := by
  obtain ⟨s1, s2, s3, s4, s5⟩ := h.2.1.1
  have hr := tK_r (b := b) h.1.2.1 h.2.2.2
  refine ⟨by omega, by omega, by omega, by omega, fun c h1 h2 => by omega⟩
theorem m_wrong {b : Nat → Int} {n p : Nat} {G G1 : GS} {c : Int32} (h : Q_wrong c G G1) (hp : MP b n G p) (hc : 0 < c.toInt) : MF (fl b n c.toInt p) G1 ∧ Fr [] [(66, 2), (66, 3)] G G1 := by
  obtain ⟨-, hF, -, hh⟩ := h
  have hs := hp.so
  have k7 := hp.2.1.2.1
  have k2 := hp.2.2.1
  have o : (1 : Int32).toInt = 1 := rfl
  refine ⟨?_, hF⟩
  unfold MF fl
  rcases hh with ⟨c1, ⟨c2, -, e2, e3⟩ | ⟨c2, -, e2, e3⟩⟩ | ⟨c1, -⟩
  · rw [if_pos (hs.1.mp c2), e2, e3]
    exact ⟨rfl, k7, by show (0 : Int) < 1; decide⟩
  · rw [if_neg (fun q => c2 (hs.1.mpr q)), e2, e3]
    exact ⟨rfl, k7, hc⟩
  · omega
theorem m_next {b : Nat → Int} {n p : Nat} {G G1 : GS} (h : Q_token G G1) (hp : MP b n G p) (hk : tK b n p ≠ 202) : MP b n G1 (tNx b n p) := by
  obtain ⟨a1, a2, a3, a4⟩ := hp
  have ht := tN_p (b := b) a1.2.1 a4
  obtain ⟨h2, h3⟩ := r_tok a1 (a2.2.2.1 hk) ht.2.1 h
  refine ⟨h2, h3, ?_, ht.2.1⟩
  rw [h.2.1.i 66 2 (by decide) (by decide), h.2.1.i 66 3 (by decide) (by decide)]
  exact a3
theorem m_isWord {b : Nat → Int} {n p i : Nat} {G G1 : GS} {c : Int64} {r : Int32} (hi : i < 23) (hc : w8 (KW.getD i []) = c) (h : Q_isWord c G r G1) (hp : MP b n G p) : G = G1 ∧ (r.toInt ≠ 0 ↔ tK b n p = 128 + (i : Int)) := by
  obtain ⟨-, hF, -, -, hh⟩ := h
  have hs := hp.so.2.2.1
  have z : (0 : Int32).toInt = 0 := rfl
  have o : (1 : Int32).toInt = 1 := rfl
  refine ⟨hF.nil, ?_⟩
  rcases hh with ⟨c1, y2, e2, y3, e3, hh⟩ | ⟨c1, e, -⟩
  · have hk := hs.mp c1
    have hw := tK_w (b := b) hp.1.2.1 hp.2.2.2 hk.1 hk.2
    have h9 := hp.2.1.2.2.2.2 hk.1 hk.2
    have q : y3.toInt = 0 ↔ tK b n p = 128 + (i : Int) := by
      rw [lc_iff e3, e2, h9, hw.1]
      exact w8_kw hw.2 hi hc
    rcases hh with ⟨c2, e, -⟩ | ⟨c2, e, -⟩
    · subst e
      exact ⟨fun _ => q.mp c2, fun _ => by omega⟩
    · subst e
      exact ⟨fun q2 => by omega, fun q2 => absurd (q.mpr q2) c2⟩
  · subst e
    exact ⟨fun q2 => by omega, fun q2 => by omega⟩
theorem m_mark {L : List Int} {G G1 : GS} {r : Int32} (hw : G.2.1 66 9 = w8 L) (hL : LW L) (h : Q_mark G r G1) : G = G1 ∧ (kwd L = 140 → r.toInt = 1) ∧ (kwd L = 141 → r.toInt = 2) ∧ (kwd L = 142 → r.toInt = 4) ∧ (kwd L = 143 → r.toInt = 8) ∧ (kwd L < 140 ∨ 143 < kwd L → r.toInt = 0) := by
  obtain ⟨-, hF, -, -, h⟩ := h
  refine ⟨hF.nil, ?_⟩
  have v0 : (0 : Int32).toInt = 0 := rfl
  have v1 : (1 : Int32).toInt = 1 := rfl
  have v2 : (2 : Int32).toInt = 2 := rfl
  have v4 : (4 : Int32).toInt = 4 := rfl
  have v8 : (8 : Int32).toInt = 8 := rfl
  obtain ⟨y0, e0, z0, f0, h⟩ := h
  have q0 : z0.toInt = 0 ↔ kwd L = 128 + ((12 : Nat) : Int) := (lc_iff f0).trans (by rw [e0, hw]; exact w8_kw hL (by decide) (by decide +kernel))
  rcases h with ⟨c0, e, -⟩ | ⟨c0, h⟩
  · subst e
    have := q0.mp c0
    exact ⟨fun _ => by omega, fun _ => by omega, fun _ => by omega, fun _ => by omega, fun _ => by omega⟩
  obtain ⟨y1, e1, z1, f1, h⟩ := h
  have q1 : z1.toInt = 0 ↔ kwd L = 128 + ((13 : Nat) : Int) := (lc_iff f1).trans (by rw [e1, hw]; exact w8_kw hL (by decide) (by decide +kernel))
  rcases h with ⟨c1, e, -⟩ | ⟨c1, h⟩
  · subst e
    have := q1.mp c1
    exact ⟨fun _ => by omega, fun _ => by omega, fun _ => by omega, fun _ => by omega, fun _ => by omega⟩
  obtain ⟨y2, e2, z2, f2, h⟩ := h
  have q2 : z2.toInt = 0 ↔ kwd L = 128 + ((14 : Nat) : Int) := (lc_iff f2).trans (by rw [e2, hw]; exact w8_kw hL (by decide) (by decide +kernel))
  rcases h with ⟨c2, e, -⟩ | ⟨c2, h⟩
  · subst e
    have := q2.mp c2
    exact ⟨fun _ => by omega, fun _ => by omega, fun _ => by omega, fun _ => by omega, fun _ => by omega⟩
  obtain ⟨y3, e3, z3, f3, h⟩ := h
  have q3 : z3.toInt = 0 ↔ kwd L = 128 + ((15 : Nat) : Int) := (lc_iff f3).trans (by rw [e3, hw]; exact w8_kw hL (by decide) (by decide +kernel))
  rcases h with ⟨c3, e, -⟩ | ⟨c3, h⟩
  · subst e
    have := q3.mp c3
    exact ⟨fun _ => by omega, fun _ => by omega, fun _ => by omega, fun _ => by omega, fun _ => by omega⟩
  obtain ⟨e, -⟩ := h
  subst e
  exact ⟨fun _ => by omega, fun _ => by omega, fun _ => by omega, fun _ => by omega, fun _ => by omega⟩
theorem m_own {L : List Int} {G G1 : GS} {r : Int32} (hw : G.2.1 66 9 = w8 L) (hL : LW L) (h : Q_isOwn G r G1) : G = G1 ∧ (r.toInt = 0 ↔ kwd L = 200) := by
  obtain ⟨-, hF, -, h⟩ := h
  refine ⟨hF.nil, ?_⟩
  have v0 : (0 : Int32).toInt = 0 := rfl
  have v1 : (1 : Int32).toInt = 1 := rfl
  have hr := kwd_r L
  obtain ⟨y0, e0, z0, f0, h⟩ := h
  have q0 : z0.toInt = 0 ↔ kwd L = 128 := (lc_iff f0).trans (by rw [e0, hw]; exact w8_kw hL (i := 0) (by decide) (by decide +kernel))
  rcases h with ⟨c0, e, -⟩ | ⟨c0, h⟩
  · subst e
    have w := q0.mp c0
    exact ⟨fun q => absurd q (by decide), fun q => absurd (w.symm.trans q) (by decide)⟩
  have n0 : kwd L ≠ 128 := fun w => c0 (q0.mpr w)
  clear q0 c0 f0 z0 e0 y0
  obtain ⟨y1, e1, z1, f1, h⟩ := h
  have q1 : z1.toInt = 0 ↔ kwd L = 139 := (lc_iff f1).trans (by rw [e1, hw]; exact w8_kw hL (i := 11) (by decide) (by decide +kernel))
  rcases h with ⟨c1, e, -⟩ | ⟨c1, h⟩
  · subst e
    have w := q1.mp c1
    exact ⟨fun q => absurd q (by decide), fun q => absurd (w.symm.trans q) (by decide)⟩
  have n1 : kwd L ≠ 139 := fun w => c1 (q1.mpr w)
  clear q1 c1 f1 z1 e1 y1
  obtain ⟨y2, e2, z2, f2, h⟩ := h
  have q2 : z2.toInt = 0 ↔ kwd L = 129 := (lc_iff f2).trans (by rw [e2, hw]; exact w8_kw hL (i := 1) (by decide) (by decide +kernel))
  rcases h with ⟨c2, e, -⟩ | ⟨c2, h⟩
  · subst e
    have w := q2.mp c2
    exact ⟨fun q => absurd q (by decide), fun q => absurd (w.symm.trans q) (by decide)⟩
  have n2 : kwd L ≠ 129 := fun w => c2 (q2.mpr w)
  clear q2 c2 f2 z2 e2 y2
  obtain ⟨y3, e3, z3, f3, h⟩ := h
  have q3 : z3.toInt = 0 ↔ kwd L = 130 := (lc_iff f3).trans (by rw [e3, hw]; exact w8_kw hL (i := 2) (by decide) (by decide +kernel))
  rcases h with ⟨c3, e, -⟩ | ⟨c3, h⟩
  · subst e
    have w := q3.mp c3
    exact ⟨fun q => absurd q (by decide), fun q => absurd (w.symm.trans q) (by decide)⟩
  have n3 : kwd L ≠ 130 := fun w => c3 (q3.mpr w)
  clear q3 c3 f3 z3 e3 y3
  obtain ⟨y4, e4, z4, f4, h⟩ := h
  have q4 : z4.toInt = 0 ↔ kwd L = 131 := (lc_iff f4).trans (by rw [e4, hw]; exact w8_kw hL (i := 3) (by decide) (by decide +kernel))
  rcases h with ⟨c4, e, -⟩ | ⟨c4, h⟩
  · subst e
    have w := q4.mp c4
    exact ⟨fun q => absurd q (by decide), fun q => absurd (w.symm.trans q) (by decide)⟩
  have n4 : kwd L ≠ 131 := fun w => c4 (q4.mpr w)
  clear q4 c4 f4 z4 e4 y4
  obtain ⟨y5, e5, z5, f5, h⟩ := h
  have q5 : z5.toInt = 0 ↔ kwd L = 132 := (lc_iff f5).trans (by rw [e5, hw]; exact w8_kw hL (i := 4) (by decide) (by decide +kernel))
  rcases h with ⟨c5, e, -⟩ | ⟨c5, h⟩
  · subst e
    have w := q5.mp c5
    exact ⟨fun q => absurd q (by decide), fun q => absurd (w.symm.trans q) (by decide)⟩
  have n5 : kwd L ≠ 132 := fun w => c5 (q5.mpr w)
  clear q5 c5 f5 z5 e5 y5
  obtain ⟨y6, e6, z6, f6, h⟩ := h
  have q6 : z6.toInt = 0 ↔ kwd L = 133 := (lc_iff f6).trans (by rw [e6, hw]; exact w8_kw hL (i := 5) (by decide) (by decide +kernel))
  rcases h with ⟨c6, e, -⟩ | ⟨c6, h⟩
  · subst e
    have w := q6.mp c6
    exact ⟨fun q => absurd q (by decide), fun q => absurd (w.symm.trans q) (by decide)⟩
  have n6 : kwd L ≠ 133 := fun w => c6 (q6.mpr w)
  clear q6 c6 f6 z6 e6 y6
  obtain ⟨y7, e7, z7, f7, h⟩ := h
  have q7 : z7.toInt = 0 ↔ kwd L = 134 := (lc_iff f7).trans (by rw [e7, hw]; exact w8_kw hL (i := 6) (by decide) (by decide +kernel))
  rcases h with ⟨c7, e, -⟩ | ⟨c7, h⟩
  · subst e
    have w := q7.mp c7
    exact ⟨fun q => absurd q (by decide), fun q => absurd (w.symm.trans q) (by decide)⟩
  have n7 : kwd L ≠ 134 := fun w => c7 (q7.mpr w)
  clear q7 c7 f7 z7 e7 y7
  obtain ⟨y8, e8, z8, f8, h⟩ := h
  have q8 : z8.toInt = 0 ↔ kwd L = 135 := (lc_iff f8).trans (by rw [e8, hw]; exact w8_kw hL (i := 7) (by decide) (by decide +kernel))
  rcases h with ⟨c8, e, -⟩ | ⟨c8, h⟩
  · subst e
    have w := q8.mp c8
    exact ⟨fun q => absurd q (by decide), fun q => absurd (w.symm.trans q) (by decide)⟩
  have n8 : kwd L ≠ 135 := fun w => c8 (q8.mpr w)
  clear q8 c8 f8 z8 e8 y8
  obtain ⟨y9, e9, z9, f9, h⟩ := h
  have q9 : z9.toInt = 0 ↔ kwd L = 136 := (lc_iff f9).trans (by rw [e9, hw]; exact w8_kw hL (i := 8) (by decide) (by decide +kernel))
  rcases h with ⟨c9, e, -⟩ | ⟨c9, h⟩
  · subst e
    have w := q9.mp c9
    exact ⟨fun q => absurd q (by decide), fun q => absurd (w.symm.trans q) (by decide)⟩
  have n9 : kwd L ≠ 136 := fun w => c9 (q9.mpr w)
  clear q9 c9 f9 z9 e9 y9
  obtain ⟨y10, e10, z10, f10, h⟩ := h
  have q10 : z10.toInt = 0 ↔ kwd L = 137 := (lc_iff f10).trans (by rw [e10, hw]; exact w8_kw hL (i := 9) (by decide) (by decide +kernel))
  rcases h with ⟨c10, e, -⟩ | ⟨c10, h⟩
  · subst e
    have w := q10.mp c10
    exact ⟨fun q => absurd q (by decide), fun q => absurd (w.symm.trans q) (by decide)⟩
  have n10 : kwd L ≠ 137 := fun w => c10 (q10.mpr w)
  clear q10 c10 f10 z10 e10 y10
  obtain ⟨y11, e11, z11, f11, h⟩ := h
  have q11 : z11.toInt = 0 ↔ kwd L = 138 := (lc_iff f11).trans (by rw [e11, hw]; exact w8_kw hL (i := 10) (by decide) (by decide +kernel))
  rcases h with ⟨c11, e, -⟩ | ⟨c11, h⟩
  · subst e
    have w := q11.mp c11
    exact ⟨fun q => absurd q (by decide), fun q => absurd (w.symm.trans q) (by decide)⟩
  have n11 : kwd L ≠ 138 := fun w => c11 (q11.mpr w)
  clear q11 c11 f11 z11 e11 y11
  obtain ⟨rm, Gm, hm, h⟩ := h
  obtain ⟨-, m1, m2, m3, m4, m5⟩ := m_mark hw hL hm
  rcases h with ⟨cm, e, -⟩ | ⟨cm, h⟩
  · subst e
    refine ⟨fun q => absurd q (by decide), fun q => ?_⟩
    have := m5 (by rw [q]; decide)
    omega
  have n12 : ¬ (140 ≤ kwd L ∧ kwd L ≤ 143) := by
    clear h hr
    intro q
    have : kwd L = 140 ∨ kwd L = 141 ∨ kwd L = 142 ∨ kwd L = 143 := by omega
    rcases this with e | e | e | e
    · have := m1 e
      omega
    · have := m2 e
      omega
    · have := m3 e
      omega
    · have := m4 e
      omega
  clear m1 m2 m3 m4 m5 cm hm
  obtain ⟨y13, e13, z13, f13, h⟩ := h
  have q13 : z13.toInt = 0 ↔ kwd L = 147 := (lc_iff f13).trans (by rw [e13, hw]; exact w8_kw hL (i := 19) (by decide) (by decide +kernel))
  rcases h with ⟨c13, e, -⟩ | ⟨c13, h⟩
  · subst e
    have w := q13.mp c13
    exact ⟨fun q => absurd q (by decide), fun q => absurd (w.symm.trans q) (by decide)⟩
  have n13 : kwd L ≠ 147 := fun w => c13 (q13.mpr w)
  clear q13 c13 f13 z13 e13 y13
  obtain ⟨y14, e14, z14, f14, h⟩ := h
  have q14 : z14.toInt = 0 ↔ kwd L = 148 := (lc_iff f14).trans (by rw [e14, hw]; exact w8_kw hL (i := 20) (by decide) (by decide +kernel))
  rcases h with ⟨c14, e, -⟩ | ⟨c14, h⟩
  · subst e
    have w := q14.mp c14
    exact ⟨fun q => absurd q (by decide), fun q => absurd (w.symm.trans q) (by decide)⟩
  have n14 : kwd L ≠ 148 := fun w => c14 (q14.mpr w)
  clear q14 c14 f14 z14 e14 y14
  obtain ⟨y15, e15, z15, f15, h⟩ := h
  have q15 : z15.toInt = 0 ↔ kwd L = 149 := (lc_iff f15).trans (by rw [e15, hw]; exact w8_kw hL (i := 21) (by decide) (by decide +kernel))
  rcases h with ⟨c15, e, -⟩ | ⟨c15, h⟩
  · subst e
    have w := q15.mp c15
    exact ⟨fun q => absurd q (by decide), fun q => absurd (w.symm.trans q) (by decide)⟩
  have n15 : kwd L ≠ 149 := fun w => c15 (q15.mpr w)
  clear q15 c15 f15 z15 e15 y15
  obtain ⟨y16, e16, z16, f16, h⟩ := h
  have q16 : z16.toInt = 0 ↔ kwd L = 150 := (lc_iff f16).trans (by rw [e16, hw]; exact w8_kw hL (i := 22) (by decide) (by decide +kernel))
  rcases h with ⟨c16, e, -⟩ | ⟨c16, h⟩
  · subst e
    have w := q16.mp c16
    exact ⟨fun q => absurd q (by decide), fun q => absurd (w.symm.trans q) (by decide)⟩
  have n16 : kwd L ≠ 150 := fun w => c16 (q16.mpr w)
  clear q16 c16 f16 z16 e16 y16
  obtain ⟨y17, e17, z17, f17, h⟩ := h
  have q17 : z17.toInt = 0 ↔ kwd L = 145 := (lc_iff f17).trans (by rw [e17, hw]; exact w8_kw hL (i := 17) (by decide) (by decide +kernel))
  rcases h with ⟨c17, e, -⟩ | ⟨c17, h⟩
  · subst e
    have w := q17.mp c17
    exact ⟨fun q => absurd q (by decide), fun q => absurd (w.symm.trans q) (by decide)⟩
  have n17 : kwd L ≠ 145 := fun w => c17 (q17.mpr w)
  clear q17 c17 f17 z17 e17 y17
  obtain ⟨y18, e18, z18, f18, h⟩ := h
  have q18 : z18.toInt = 0 ↔ kwd L = 144 := (lc_iff f18).trans (by rw [e18, hw]; exact w8_kw hL (i := 16) (by decide) (by decide +kernel))
  rcases h with ⟨c18, e, -⟩ | ⟨c18, h⟩
  · subst e
    have w := q18.mp c18
    exact ⟨fun q => absurd q (by decide), fun q => absurd (w.symm.trans q) (by decide)⟩
  have n18 : kwd L ≠ 144 := fun w => c18 (q18.mpr w)
  clear q18 c18 f18 z18 e18 y18
  obtain ⟨y19, e19, z19, f19, h⟩ := h
  have q19 : z19.toInt = 0 ↔ kwd L = 146 := (lc_iff f19).trans (by rw [e19, hw]; exact w8_kw hL (i := 18) (by decide) (by decide +kernel))
  rcases h with ⟨c19, e, -⟩ | ⟨c19, h⟩
  · subst e
    have w := q19.mp c19
    exact ⟨fun q => absurd q (by decide), fun q => absurd (w.symm.trans q) (by decide)⟩
  have n19 : kwd L ≠ 146 := fun w => c19 (q19.mpr w)
  clear q19 c19 f19 z19 e19 y19
  obtain ⟨e, -⟩ := h
  subst e
  exact ⟨fun _ => by omega, fun _ => v0⟩
theorem m_isName {b : Nat → Int} {n p : Nat} {G G1 : GS} {r : Int32} (h : Q_isName G r G1) (hp : MP b n G p) : G = G1 ∧ (r.toInt ≠ 0 ↔ tK b n p = 200) := by
  obtain ⟨-, hF, -, hh⟩ := h
  have hs := hp.so.2.2.1
  have z : (0 : Int32).toInt = 0 := rfl
  have o : (1 : Int32).toInt = 1 := rfl
  refine ⟨hF.nil, ?_⟩
  rcases hh with ⟨c1, r2, G3, ho, hh⟩ | ⟨c1, e, -⟩
  · have hk := hs.mp c1
    have hw := tK_w (b := b) hp.1.2.1 hp.2.2.2 hk.1 hk.2
    have h9 := hp.2.1.2.2.2.2 hk.1 hk.2
    have q := (m_own h9 hw.2 ho).2
    rw [← hw.1] at q
    rcases hh with ⟨c2, e, -⟩ | ⟨c2, e, -⟩
    · subst e
      exact ⟨fun _ => q.mp c2, fun _ => by omega⟩
    · subst e
      exact ⟨fun q2 => by omega, fun q2 => absurd (q.mpr q2) c2⟩
  · subst e
    exact ⟨fun q2 => by omega, fun q2 => by omega⟩
theorem m_want {b : Nat → Int} {n p i : Nat} {G G1 : GS} {c : Int64} (hi : i < 23) (hc : w8 (KW.getD i []) = c) (h : Q_want c G G1) (hp : MP b n G p) : (∃ f, pKw b n (128 + (i : Int)) p = .inl f ∧ MF f G1) ∨ (pKw b n (128 + (i : Int)) p = .inr ((), tNx b n p) ∧ MP b n G1 (tNx b n p)) := by
  obtain ⟨-, -, -, hh⟩ := h
  have k2 := hp.2.2.1
  unfold pKw
  rcases hh with ⟨c1, r3, G4, hw, hh⟩ | ⟨c1, -⟩
  · obtain ⟨rfl, hr⟩ := m_isWord hi hc hw hp
    rcases hh with ⟨c2, G22, hq, rfl⟩ | ⟨c2, G14, hq, rfl⟩
    · rw [if_neg (fun q => hr.mpr q c2)]
      exact Or.inl ⟨_, rfl, (m_wrong hq hp (by decide)).1⟩
    · have := hr.mp c2
      rw [if_pos this]
      exact Or.inr ⟨rfl, m_next hq hp (by omega)⟩
  · omega
theorem m_takes {b : Nat → Int} {n p i : Nat} {G G1 : GS} {c : Int64} {r : Int32} (hi : i < 23) (hc : w8 (KW.getD i []) = c) (h : Q_takes c G r G1) (hp : MP b n G p) : (r.toInt = 0 ∧ tK b n p ≠ 128 + (i : Int) ∧ G = G1) ∨ (r.toInt = 1 ∧ tK b n p = 128 + (i : Int) ∧ MP b n G1 (tNx b n p)) := by
  obtain ⟨-, -, -, -, hh⟩ := h
  have k2 := hp.2.2.1
  have z : (0 : Int32).toInt = 0 := rfl
  have o : (1 : Int32).toInt = 1 := rfl
  rcases hh with ⟨c1, r5, G6, hw, hh⟩ | ⟨c1, -⟩
  · obtain ⟨rfl, hr⟩ := m_isWord hi hc hw hp
    rcases hh with ⟨c2, rfl, rfl⟩ | ⟨c2, G21, hq, rfl, rfl⟩
    · exact Or.inl ⟨z, fun q => hr.mpr q c2, rfl⟩
    · have := hr.mp c2
      exact Or.inr ⟨o, this, m_next hq hp (by omega)⟩
  · omega
theorem m_told {b : Nat → Int} {n p : Nat} {G G1 : GS} {lo hi r : Int32} (h : Q_told lo hi G r G1) (hp : MP b n G p) : (∃ f, pNum b n lo.toInt hi.toInt p = .inl f ∧ MF f G1) ∨ (pNum b n lo.toInt hi.toInt p = .inr (tV b n p, tNx b n p) ∧ MP b n G1 (tNx b n p) ∧ r.toInt = tV b n p ∧ lo.toInt ≤ tV b n p ∧ tV b n p ≤ hi.toInt) := by
  obtain ⟨-, -, -, hh⟩ := h
  have k2 := hp.2.2.1
  have hs := hp.so.2.1
  have k8 := hp.2.1.2.2.2.1
  have bad : ∀ (c : Int32) (G7 : GS), 0 < c.toInt → Q_wrong c G G7 → ∀ X : Prop, (((G7.1 66 2).toInt = 0 ∧ X) ∨ ((G7.1 66 2).toInt ≠ 0 ∧ ((G.1 66 8) = r ∧ G7 = G1))) → MF (fl b n c.toInt p) G1 := by
    intro c G7 hc hw X hh
    have hm := (m_wrong hw hp hc).1
    rcases hh with ⟨c1, -⟩ | ⟨c1, -, rfl⟩
    · have := hm.1
      have := hm.2.2
      omega
    · exact hm
  unfold pNum
  rcases hh with ⟨c, ⟨c1, ⟨c2, G7, hw, hh⟩ | ⟨c2, ⟨c3, G29, ht, er, rfl⟩ | ⟨c3, G7, hw, hh⟩⟩⟩ | ⟨c1, G7, hw, hh⟩⟩ | ⟨c, -⟩
  · have hk := hs.mp c1
    have := k8 hk
    rw [if_neg (by omega), if_pos (Or.inl (by omega))]
    exact Or.inl ⟨_, rfl, bad 4 G7 (by decide) hw _ hh⟩
  · have hk := hs.mp c1
    have := k8 hk
    rw [if_neg (by omega), if_neg (by omega)]
    subst er
    exact Or.inr ⟨rfl, m_next ht hp (by omega), this, by omega, by omega⟩
  · have hk := hs.mp c1
    have := k8 hk
    rw [if_neg (by omega), if_pos (Or.inr (by omega))]
    exact Or.inl ⟨_, rfl, bad 4 G7 (by decide) hw _ hh⟩
  · rw [if_pos (fun q => c1 (hs.mpr q))]
    exact Or.inl ⟨_, rfl, bad 2 G7 (by decide) hw _ hh⟩
  · omega
theorem told_f {G G1 : GS} {lo hi r : Int32} (h : Q_told lo hi G r G1) (hf : 0 < (G.1 66 2).toInt) : G = G1 := by
  obtain ⟨-, -, -, hh⟩ := h
  rcases hh with ⟨c, -⟩ | ⟨-, -, e⟩
  · omega
  · exact e
theorem want_f {G G1 : GS} {c : Int64} (h : Q_want c G G1) (hf : 0 < (G.1 66 2).toInt) : G = G1 := by
  obtain ⟨-, -, -, hh⟩ := h
  rcases hh with ⟨c, -⟩ | ⟨-, e⟩
  · omega
  · exact e
theorem told2_f {G G1 : GS} {c : Int64} {lo hi r : Int32} (h : Q_told2 c lo hi G r G1) (hf : 0 < (G.1 66 2).toInt) : G = G1 := by
  obtain ⟨-, -, -, G2, h1, r8, G9, h2, -, rfl⟩ := h
  have e1 := want_f h1 hf
  subst e1
  exact told_f h2 hf
theorem m_told2 {b : Nat → Int} {n p i : Nat} {G G1 : GS} {c : Int64} {lo hi r : Int32} (hx : i < 23) (hc : w8 (KW.getD i []) = c) (h : Q_told2 c lo hi G r G1) (hp : MP b n G p) : (∃ f, (bnd (pKw b n (128 + (i : Int)) p) fun _ p => pNum b n lo.toInt hi.toInt p) = .inl f ∧ MF f G1) ∨ (∃ v p', (bnd (pKw b n (128 + (i : Int)) p) fun _ p => pNum b n lo.toInt hi.toInt p) = .inr (v, p') ∧ MP b n G1 p' ∧ r.toInt = v ∧ lo.toInt ≤ v ∧ v ≤ hi.toInt) := by
  obtain ⟨-, -, -, G2, h1, r8, G9, h2, rfl, rfl⟩ := h
  rcases m_want hx hc h1 hp with ⟨f, e, hm⟩ | ⟨e, hp2⟩
  · rw [e]
    have e1 := told_f h2 (by have := hm.1; have := hm.2.2; omega)
    subst e1
    exact Or.inl ⟨f, rfl, hm⟩
  · rw [e]
    rcases m_told h2 hp2 with ⟨f, e, hm⟩ | ⟨e, hp3, hv⟩
    · exact Or.inl ⟨f, e, hm⟩
    · exact Or.inr ⟨_, _, e, hp3, hv⟩
def NmM (base : Nat) (NS : List (List Int)) (G : GS) : Prop := ∀ k, k < NS.length → G.2.1 68 (base + k) = w8 (NS.getD k []) ∧ LW (NS.getD k [])
theorem m_name {b : Nat → Int} {n p base : Nat} {G G1 : GS} {q0 m : Int32} {NS : List (List Int)} (h : Q_newName q0 m G G1) (hp : MP b n G p) (hk : tK b n p ≠ 202) (hN : NmM base NS G) (hb : q0.toInt = (base : Int)) (hm : m.toInt = (NS.length : Int)) : (∃ f, pName b n NS (tNx b n p) = .inl f ∧ MF f G1) ∨ (pName b n NS (tNx b n p) = .inr (tL b n (tNx b n p), tNx b n (tNx b n p)) ∧ MP b n G1 (tNx b n (tNx b n p)) ∧ LW (tL b n (tNx b n p)) ∧ G1.2.1 68 = vp_updL (G.2.1 68) (base + NS.length) (w8 (tL b n (tNx b n p)))) := by
  obtain ⟨-, -, -, G2, ht, r6, G7, hn, G15, hJ, -, -, -, x, G21, hRc, -, -, -, hF21, c1, hh⟩ := h
  have hp2 := m_next ht hp hk
  have hN2 : NmM base NS G2 := by
    intro k hk
    rw [ht.2.1.rowl 68 (by decide) (by decide)]
    exact hN k hk
  have e68 : G2.2.1 68 = G.2.1 68 := ht.2.1.rowl 68 (by decide) (by decide)
  generalize tNx b n p = p at hp2 ⊢
  obtain ⟨rfl, hr6⟩ := m_isName hn hp2
  have z : (0 : Int32).toInt = ((0 : Nat) : Int) := rfl
  unfold pName
  by_cases hK : tK b n p = 200
  · rw [if_neg (by omega)]
    have hw := tK_w (b := b) hp2.1.2.1 hp2.2.2.2 (by omega) (by omega)
    have h9 := hp2.2.1.2.2.2.2 (by omega) (by omega)
    have hG15 : G2 = G15 := by
      rcases hJ with ⟨c, -⟩ | ⟨c, e⟩
      · exact absurd c (hr6.mpr hK)
      · exact e
    subst hG15
    have hI := hRc (fun q => Fr [] [(66, 2), (66, 3)] G2 q.2 ∧ ((G2 = q.2 ∧ ∃ k : Nat, q.1.toInt = (k : Int) ∧ ∀ j, j < k → j < NS.length → NS.getD j [] ≠ tL b n p) ∨ (MF (fl b n 3 p) q.2 ∧ tL b n p ∈ NS))) ⟨Fr.rf, Or.inl ⟨rfl, 0, z, fun j a _ => by omega⟩⟩ (by
      rintro ⟨x1, G_1⟩ ⟨xn, G_1n⟩ ⟨hF, hI⟩ ⟨x1q, G_1q, xnq, G_1nq, e1, e2, -, -, -, c2, hh⟩
      obtain ⟨rfl, rfl⟩ := Prod.mk.inj e1
      obtain ⟨rfl, rfl⟩ := Prod.mk.inj e2
      simp only at hF hI
      rcases hI with ⟨h1, k, h2, h3⟩ | ⟨hM, hmem⟩
      · subst h1
        rcases hh with ⟨c3, y52, t52, y53, e53, y54, e54, y55, e55, hh⟩ | ⟨c3, y51, t51, ex, eG⟩
        · have hlt : k < NS.length := by omega
          have q := lc_iff e55
          rw [e53, e54, cn_eq (e := base + k) (by omega), (hN2 k hlt).1, h9] at q
          rcases hh with ⟨c4, G60, hw2, y64, t64, ex, eG⟩ | ⟨c4, y57, t57, ex, eG⟩
          · subst ex
            subst eG
            have hw3 := m_wrong hw2 hp2 (by decide)
            refine ⟨hw3.2, Or.inr ⟨hw3.1, mem_getD.mpr ⟨k, hlt, ?_⟩⟩⟩
            exact w8_inj (hN2 k hlt).2.2 hw.2.2 (hN2 k hlt).2.1 hw.2.1 (q.mp c4)
          · subst ex
            subst eG
            refine ⟨Fr.rf, Or.inl ⟨rfl, k + 1, by show y57.toInt = _; omega, fun j hj hl => ?_⟩⟩
            by_cases hjk : j = k
            · subst hjk
              intro e
              exact c4 (q.mpr (by rw [e]))
            · exact h3 j (by omega) hl
        · have := hp2.2.2.1
          omega
      · have hf0 := hM.1
        have hf1 := hM.2.2
        rcases hh with ⟨c3, -⟩ | ⟨c3, y51, t51, ex, eG⟩
        · omega
        · subst ex
          subst eG
          exact ⟨hF, Or.inr ⟨hM, hmem⟩⟩)
    obtain ⟨hF, hI⟩ := hI
    simp only at hF hI
    rcases hI with ⟨h1, k, h2, h3⟩ | ⟨hM, hmem⟩
    · subst h1
      rw [if_neg (fun q => by obtain ⟨j, hj, e⟩ := mem_getD.mp q; exact h3 j (by omega) hj e)]
      rcases hh with ⟨c3, y34, t34, y35, e35, G36, -, hF36, e36, G41, ht2, rfl⟩ | ⟨c3, -⟩
      · have hp36 := hp2.fr hF36 (by decide) (by decide) (by decide) (by decide)
        refine Or.inr ⟨rfl, m_next ht2 hp36 (by omega), hw.2, ?_⟩
        rw [ht2.2.1.rowl 68 (by decide) (by decide), e36, cn_eq (e := base + NS.length) (by omega), e35, h9, e68]
      · have := hp2.2.2.1
        omega
    · rw [if_pos hmem]
      have hf0 := hM.1
      have hf1 := hM.2.2
      rcases hh with ⟨c3, -⟩ | ⟨c3, rfl⟩
      · omega
      · exact Or.inl ⟨_, rfl, hM⟩
  · rw [if_pos hK]
    rcases hJ with ⟨c, G71, hw2, e71⟩ | ⟨c, -⟩
    · have hw3 := m_wrong hw2 hp2 (by decide)
      subst e71
      have hI := hRc (fun q => MF (fl b n 2 p) q.2) hw3.1 (by
        rintro ⟨x1, G_1⟩ ⟨xn, G_1n⟩ hM ⟨x1q, G_1q, xnq, G_1nq, e1, e2, -, -, -, c2, hh⟩
        obtain ⟨rfl, rfl⟩ := Prod.mk.inj e1
        obtain ⟨rfl, rfl⟩ := Prod.mk.inj e2
        simp only at hM
        have hf0 := hM.1
        have hf1 := hM.2.2
        rcases hh with ⟨c3, -⟩ | ⟨c3, y51, t51, ex, eG⟩
        · omega
        · subst eG
          exact hM)
      simp only at hI
      have hf0 := hI.1
      have hf1 := hI.2.2
      rcases hh with ⟨c3, -⟩ | ⟨c3, rfl⟩
      · omega
      · exact Or.inl ⟨_, rfl, hI⟩
    · exact absurd (hr6.mp c) hK
