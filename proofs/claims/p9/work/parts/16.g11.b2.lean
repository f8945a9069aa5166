/-! formulas by the reference: what is asked, signs -/
theorem m_asked {b : Nat → Int} {n p : Nat} {r : Int32} {G G1 : GS} (h : Q_asked G r G1) (hp : MP b n G p) : G = G1 ∧ r.toInt = ask (tK b n p) := by
  obtain ⟨-, hF, -, hh⟩ := h
  have hs := hp.so.2.2.1
  refine ⟨hF.nil, ?_⟩
  rcases hh with ⟨c1, y2, e2, y3, e3, hh⟩ | ⟨c1, e, -⟩
  · have hk := hs.mp c1
    have hw := tK_w (b := b) hp.1.2.1 hp.2.2.2 hk.1 hk.2
    have h9 := hp.2.1.2.2.2.2 hk.1 hk.2
    have q11 : y3.toInt = 0 ↔ tK b n p = 139 := (lc_iff e3).trans (by rw [e2, h9, hw.1]; exact w8_kw hw.2 (i := 11) (by decide) (by decide +kernel))
    rcases hh with ⟨c3, e, -⟩ | ⟨c3, r5, G6, hm, hh⟩
    · subst e
      rw [q11.mp c3]
      rfl
    · have n139 : tK b n p ≠ 139 := fun w => c3 (q11.mpr w)
      clear q11 c3 e3 y3 e2 y2
      obtain ⟨rfl, m1, m2, m3, m4, m5⟩ := m_mark h9 hw.2 hm
      rw [← hw.1] at m1 m2 m3 m4 m5
      rcases hh with ⟨c5, y12, e12, y13, e13, hh⟩ | ⟨c5, r24, G25, hm2, hh⟩
      · have n4 : ¬ (140 ≤ tK b n p ∧ tK b n p ≤ 143) := by
          clear hh
          intro q
          have : tK b n p = 140 ∨ tK b n p = 141 ∨ tK b n p = 142 ∨ tK b n p = 143 := by omega
          rcases this with e | e | e | e
          · have := m1 e
            omega
          · have := m2 e
            omega
          · have := m3 e
            omega
          · have := m4 e
            omega
        clear m1 m2 m3 m4 m5
        have q19 : y13.toInt = 0 ↔ tK b n p = 147 := (lc_iff e13).trans (by rw [e12, h9, hw.1]; exact w8_kw hw.2 (i := 19) (by decide) (by decide +kernel))
        rcases hh with ⟨c13, e, -⟩ | ⟨c13, y15, e15, y16, e16, hh⟩
        · subst e
          rw [q19.mp c13]
          rfl
        have n147 : tK b n p ≠ 147 := fun w => c13 (q19.mpr w)
        have q20 : y16.toInt = 0 ↔ tK b n p = 148 := (lc_iff e16).trans (by rw [e15, h9, hw.1]; exact w8_kw hw.2 (i := 20) (by decide) (by decide +kernel))
        rcases hh with ⟨c16, e, -⟩ | ⟨c16, y18, e18, y19, e19, hh⟩
        · subst e
          rw [q20.mp c16]
          rfl
        have n148 : tK b n p ≠ 148 := fun w => c16 (q20.mpr w)
        have q21 : y19.toInt = 0 ↔ tK b n p = 149 := (lc_iff e19).trans (by rw [e18, h9, hw.1]; exact w8_kw hw.2 (i := 21) (by decide) (by decide +kernel))
        rcases hh with ⟨c19, e, -⟩ | ⟨c19, y21, e21, y22, e22, hh⟩
        · subst e
          rw [q21.mp c19]
          rfl
        have n149 : tK b n p ≠ 149 := fun w => c19 (q21.mpr w)
        have q22 : y22.toInt = 0 ↔ tK b n p = 150 := (lc_iff e22).trans (by rw [e21, h9, hw.1]; exact w8_kw hw.2 (i := 22) (by decide) (by decide +kernel))
        rcases hh with ⟨c22, e, -⟩ | ⟨c22, e, -⟩
        · subst e
          rw [q22.mp c22]
          rfl
        · have n150 : tK b n p ≠ 150 := fun w => c22 (q22.mpr w)
          subst e
          rw [ask_neg n139 (by clear q19 q20 q21 q22; omega) (by clear q19 q20 q21 q22; omega) (by clear q19 q20 q21 q22; omega) (by clear q19 q20 q21 q22; omega) n147 n148 n149 n150]
          rfl
      · obtain ⟨rfl, k1, k2, k3, k4, k5⟩ := m_mark h9 hw.2 hm2
        rw [← hw.1] at k1 k2 k3 k4 k5
        have hin : tK b n p = 140 ∨ tK b n p = 141 ∨ tK b n p = 142 ∨ tK b n p = 143 := by
          by_cases q : 140 ≤ tK b n p ∧ tK b n p ≤ 143
          · clear hh
            omega
          · have := m5 (by clear hh; omega)
            clear hh
            omega
        clear m1 m2 m3 m4 m5 k5
        rcases hh with ⟨c24, e, -⟩ | ⟨c24, r31, G32, hm3, hh⟩
        · subst e
          rcases hin with e | e | e | e
          · have := k1 e; omega
          · have := k2 e; omega
          · have := k3 e; omega
          · rw [e]; rfl
        · obtain ⟨rfl, l1, l2, l3, l4, l5⟩ := m_mark h9 hw.2 hm3
          rw [← hw.1] at l1 l2 l3 l4 l5
          rcases hh with ⟨c31, e, -⟩ | ⟨c31, r38, G39, hm4, e, -⟩
          · subst e
            rcases hin with e | e | e | e
            · have := l1 e; omega
            · have := l2 e; omega
            · rw [e]; rfl
            · have := l4 e; omega
          · obtain ⟨-, j1, j2, j3, j4, j5⟩ := m_mark h9 hw.2 hm4
            rw [← hw.1] at j1 j2 j3 j4 j5
            subst e
            rcases hin with e | e | e | e
            · rw [j1 e, e]; rfl
            · rw [j2 e, e]; rfl
            · have := l3 e; omega
            · have := k4 e; omega
  · subst e
    rw [ask_neg (by omega) (by omega) (by omega) (by omega) (by omega) (by omega) (by omega) (by omega) (by omega)]
    rfl
theorem m_sign {b : Nat → Int} {n p : Nat} {r : Int32} {G G1 : GS} (h : Q_signOf G r G1) (hp : MP b n G p) : G = G1 ∧ r.toInt = sig (tK b n p) := by
  obtain ⟨-, hF, -, -, r1, G2, hw1, hh⟩ := h
  refine ⟨hF.nil, ?_⟩
  obtain ⟨rfl, q17⟩ := m_isWord (i := 17) (by decide) (by decide +kernel) hw1 hp
  have hs := hp.so.2.2.2.2
  rcases hh with ⟨c1, r9, G10, hw2, hh⟩ | ⟨c1, e, -⟩
  · have n145 : tK b n p ≠ 145 := fun w => q17.mpr (by rw [w]; rfl) c1
    obtain ⟨rfl, q16⟩ := m_isWord (i := 16) (by decide) (by decide +kernel) hw2 hp
    rcases hh with ⟨c9, hh⟩ | ⟨c9, e, -⟩
    · have n144 : tK b n p ≠ 144 := fun w => q16.mpr (by rw [w]; rfl) c9
      clear q16 q17
      have a60 := hs 60 (by decide) (by decide)
      have a62 := hs 62 (by decide) (by decide)
      have a61 := hs 61 (by decide) (by decide)
      have a43 := hs 43 (by decide) (by decide)
      have a45 := hs 45 (by decide) (by decide)
      have a42 := hs 42 (by decide) (by decide)
      have a47 := hs 47 (by decide) (by decide)
      have a37 := hs 37 (by decide) (by decide)
      rcases hh with ⟨c, e, -⟩ | ⟨c, ⟨d, e, -⟩ | ⟨d, ⟨f, e, -⟩ | ⟨f, ⟨g, e, -⟩ | ⟨g, ⟨i, e, -⟩ | ⟨i, ⟨j, e, -⟩ | ⟨j, ⟨k, e, -⟩ | ⟨k, ⟨l, e, -⟩ | ⟨l, e, -⟩⟩⟩⟩⟩⟩⟩⟩
      · subst e; rw [c, a60.mp c]; rfl
      · subst e; rw [d, a62.mp d]; rfl
      · subst e; rw [f, a61.mp f]; rfl
      · subst e; rw [g, a43.mp g]; rfl
      · subst e; rw [i, a45.mp i]; rfl
      · subst e; rw [j, a42.mp j]; rfl
      · subst e; rw [k, a47.mp k]; rfl
      · subst e; rw [l, a37.mp l]; rfl
      · subst e
        have b1 := fun w => c (a60.mpr w)
        have b2 := fun w => d (a62.mpr w)
        have b3 := fun w => f (a61.mpr w)
        have b4 := fun w => g (a43.mpr w)
        have b5 := fun w => i (a45.mpr w)
        have b6 := fun w => j (a42.mpr w)
        have b7 := fun w => k (a47.mpr w)
        have b8 := fun w => l (a37.mpr w)
        unfold sig
        rw [if_neg n145, if_neg n144, if_neg (fun q => by rcases q with q | q | q | q | q | q | q | q; exact b1 q; exact b2 q; exact b3 q; exact b4 q; exact b5 q; exact b6 q; exact b7 q; exact b8 q)]
        rfl
    · have := q16.mp c9
      subst e
      rw [this]
      rfl
  · have := q17.mp c1
    subst e
    rw [this]
    rfl
