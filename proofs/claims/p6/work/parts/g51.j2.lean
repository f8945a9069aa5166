/-! chance -/
theorem l_modv {x y z : Int64} (e : z = x - x / y * y) {a b : Nat} (hx : x.toInt = (a : Int)) (hy : y.toInt = (b : Int)) (hb : 0 < b) : z.toInt = ((a % b : Nat) : Int) := by
  have b1 := Int64.toInt_lt x
  have b2 := Int64.toInt_lt y
  have hx0 : 0 ≤ x.toInt := by omega
  have hy0 : 0 < y.toInt := by omega
  have h1 : (x / y).toInt = x.toInt / y.toInt := by
    have h2 := Int.ediv_le_self y.toInt hx0
    have h3 := Int.ediv_nonneg hx0 (Int.le_of_lt hy0)
    rw [Int64.toInt_div, Int.tdiv_eq_ediv_of_nonneg hx0, Int.bmod_eq_of_le (by omega) (by omega)]
  have h3 := Int.emod_nonneg x.toInt (show y.toInt ≠ 0 by omega)
  have h5 : x.toInt % y.toInt = x.toInt - y.toInt * (x.toInt / y.toInt) := Int.emod_def _ _
  have h6 := Int.ediv_nonneg hx0 (Int.le_of_lt hy0)
  have h7 : 0 ≤ y.toInt * (x.toInt / y.toInt) := Int.mul_nonneg (Int.le_of_lt hy0) h6
  have h8 : (x / y * y).toInt = y.toInt * (x.toInt / y.toInt) := by
    rw [Int64.toInt_mul, h1, Int.mul_comm, Int.bmod_eq_of_le (by omega) (by omega)]
  have h9 : z.toInt = x.toInt - y.toInt * (x.toInt / y.toInt) := by
    rw [e, Int64.toInt_sub, h8, Int.bmod_eq_of_le (by omega) (by omega)]
  have h10 : z.toInt = x.toInt % y.toInt := by omega
  rw [h10, hx, hy]
  rfl
theorem gcd_st (m n : Nat) : Nat.gcd n (m % n) = Nat.gcd m n := by rw [Nat.gcd_comm n (m % n), ← Nat.gcd_rec, Nat.gcd_comm]
theorem q_common_eq {p0 p1 r : Int64} {G G1 : GS} (h : Q_common p0 p1 G r G1) {a b : Nat} (h0 : p0.toInt = (a : Int)) (h1 : p1.toInt = (b : Int)) : r.toInt = (Nat.gcd a b : Int) := by
  have z : (0 : Int64).toInt = 0 := rfl
  obtain ⟨-, -, -, x5, x6, G2, hl, -, -, -, -, -, y12, e12, c, rfl, -⟩ := h
  obtain ⟨m, n, i1, i2, i3⟩ := hl (fun q => ∃ m n : Nat, q.2.1.toInt = (m : Int) ∧ q.1.toInt = (n : Int) ∧ Nat.gcd m n = Nat.gcd a b) ⟨a, b, h0, h1, rfl⟩ (by
    rintro ⟨a1, a2, b1⟩ ⟨n1, n2, bn⟩ ⟨m, n, i1, i2, i3⟩ ⟨x1, x2, g, u1, u2, gn, q1, q2, -, -, -, -, y12, e12, c, y16, e16, ex, e6, -⟩
    simp only [Prod.mk.injEq] at q1 q2
    obtain ⟨rfl, rfl, rfl⟩ := q1
    obtain ⟨rfl, rfl, rfl⟩ := q2
    simp only at i1 i2
    have hn := (lc_gt e12).1 c
    rw [z] at hn
    refine ⟨n, m % n, by show n2.toInt = _; rw [← e6]; exact i2, by show n1.toInt = _; rw [← ex]; exact l_modv e16 i1 i2 (by omega), ?_⟩
    rw [gcd_st]
    exact i3)
  simp only at i1 i2
  have hn := (lc_gt e12).2 c
  rw [z] at hn
  have : n = 0 := by omega
  subst this
  rw [← i3, Nat.gcd_zero_right]
  exact i1
theorem k_gcd_eq {p0 p1 r : Int64} {G G1 : GS} (h : P_gcd p0 p1 G r G1) {a b : Nat} (h0 : p0.toInt = (a : Int)) (h1 : p1.toInt = (b : Int)) (ha : a ≤ 79792266297612001) (hb : b ≤ 79792266297612001) : G = G1 ∧ r.toInt = (Nat.gcd a b : Int) := by
  have z : (0 : Int64).toInt = 0 := rfl
  obtain ⟨-, hF, x5, x6, x7, G2, hl, r0, -, -, hh⟩ := h
  refine ⟨hF.nil, ?_⟩
  obtain ⟨t, m, n, i0, i1, i2, i3, i4, i5, i6⟩ := hl (fun q => ∃ t m n : Nat, q.1.toInt = (t : Int) ∧ q.2.1.toInt = (m : Int) ∧ q.2.2.1.toInt = (n : Int) ∧ Nat.gcd m n = Nat.gcd a b ∧ (1 ≤ t → n < m) ∧ (t = 0 → m * n ≤ a * b) ∧ m * n * 2 ^ t ≤ 2 * (a * b)) ⟨0, a, b, rfl, h0, h1, rfl, fun q => absurd q (by decide), fun _ => Nat.le_refl _, by rw [Nat.pow_zero]; omega⟩ (by
    rintro ⟨a1, a2, a3, b1⟩ ⟨n1, n2, n3, bn⟩ ⟨t, m, n, i0, i1, i2, i3, i4, i5, i6⟩ ⟨x1, x2, x3, g, u1, u2, u3, gn, q1, q2, -, -, c, y13, e13, d, y15, e15, y16, e16, ex, e6, e7, -⟩
    simp only [Prod.mk.injEq] at q1 q2
    obtain ⟨rfl, rfl, rfl, rfl⟩ := q1
    obtain ⟨rfl, rfl, rfl, rfl⟩ := q2
    simp only at i0 i1 i2
    have hn : 0 < n := by
      refine Nat.pos_of_ne_zero (fun q => lc_ne e13 d (Int64.toInt_inj.mp ?_))
      rw [i2, q, z]
      rfl
    have hlt : m % n < n := Nat.mod_lt _ hn
    refine ⟨t + 1, n, m % n, by show n1.toInt = _; rw [← ex, e16, i0]; rfl, by show n2.toInt = _; rw [← e6]; exact i2, by show n3.toInt = _; rw [← e7]; exact l_modv e15 i1 i2 hn, by rw [gcd_st]; exact i3, fun _ => hlt, fun q => absurd q (by omega), ?_⟩
    by_cases ht : t = 0
    · subst ht
      have k1 : n * (m % n) ≤ n * m := Nat.mul_le_mul_left _ (Nat.mod_le _ _)
      have k2 := i5 rfl
      rw [Nat.mul_comm m n] at k2
      show n * (m % n) * 2 ≤ _
      omega
    · have k0 := i4 (by omega)
      have k1 : 2 * (m % n) ≤ m := by
        have e := Nat.div_add_mod m n
        have e1 : 1 ≤ m / n := (Nat.one_le_div_iff hn).mpr (by omega)
        have e2 : n * 1 ≤ n * (m / n) := Nat.mul_le_mul_left _ e1
        omega
      have k2 : n * (2 * (m % n)) ≤ n * m := Nat.mul_le_mul_left _ k1
      have k3 : n * (2 * (m % n)) * 2 ^ t ≤ n * m * 2 ^ t := Nat.mul_le_mul_right _ k2
      have k4 : n * (m % n) * 2 ^ (t + 1) = n * (2 * (m % n)) * 2 ^ t := by
        rw [Nat.pow_succ, Nat.mul_comm (2 ^ t) 2, ← Nat.mul_assoc, Nat.mul_assoc n (m % n) 2, Nat.mul_comm (m % n) 2]
      rw [k4]
      rw [Nat.mul_comm n m] at k3
      omega)
  simp only at i0 i1 i2
  have hn : n = 0 := by
    refine Classical.byContradiction (fun q => ?_)
    rcases hh with ⟨f, -, -⟩ | ⟨f, y13, e13, d, -, -⟩
    · have ht : t = 200 := by omega
      subst ht
      have k0 := i4 (by decide)
      have k1 : 1 * 1 ≤ m * n := Nat.mul_le_mul (by omega) (by omega)
      have k2 : 1 * 2 ^ 200 ≤ m * n * 2 ^ 200 := Nat.mul_le_mul_right _ (by omega)
      have k3 : a * b ≤ 79792266297612001 * 79792266297612001 := Nat.mul_le_mul ha hb
      have k4 : ¬ (1 * 2 ^ 200 ≤ 2 * (79792266297612001 * 79792266297612001)) := by decide
      exact k4 (Nat.le_trans k2 (Nat.le_trans i6 (Nat.mul_le_mul_left 2 k3)))
    · have := lc_eq e13 d
      rw [this, z] at i2
      omega
  subst hn
  rw [← i3, Nat.gcd_zero_right]
  rcases hh with ⟨f, rfl, -⟩ | ⟨f, y13, e13, d, rfl, -⟩
  · exact i1
  · exact i1
noncomputable def cLo (V : PV) (G : GS) (k : Int32) (m : Nat) : Int64 := prd (ctd G k) (fun j => ncn (nst V G j) 7) m
noncomputable def cUp (V : PV) (G : GS) (k : Int32) (n m : Nat) : Int64 := prd (ctd G k) (fun j => ncn (fun a => nst V G j a ∧ sgl V G n j a) 7) m
theorem q_chance_eq {V : PV} {p0 p1 p2 : Int32} {r : Int64} {G Gq G1 : GS} (h : Q_chance p0 p1 p2 Gq r G1) (hFq : Fr [37, 38, 39] [(6, 3)] G Gq) (hR : RV V G) (hV : PVok V) (hE : ER V G) (hSV : SV V G) (hw1 : ∀ w, w < V.2.1.length → WKok (wk V w)) (hok : ∀ s i, s < V.1.length → i < stl V s → ICok (icl V s i)) (hz : 0 ≤ (G.1 31 5).toInt) : (¬ ((0 ≤ p0.toInt ∧ p0.toInt < (V.2.2.1.length : Int)) ∧ 0 ≤ p1.toInt ∧ p1.toInt ≤ 1) ∧ r = -1) ∨ (((0 ≤ p0.toInt ∧ p0.toInt < (V.2.2.1.length : Int)) ∧ 0 ≤ p1.toInt ∧ p1.toInt ≤ 1) ∧ ∃ (u l : Nat) (g : Int64), (cUp V G p2 p0.toInt.toNat (G.1 31 5).toInt.toNat).toInt = (u : Int) ∧ (cLo V G p2 (G.1 31 5).toInt.toNat).toInt = (l : Int) ∧ 1 ≤ l ∧ u ≤ 79792266297612001 ∧ l ≤ 79792266297612001 ∧ g.toInt = (Nat.gcd u l : Int) ∧ r = if p1.toInt = 0 then cUp V G p2 p0.toInt.toNat (G.1 31 5).toInt.toNat / g else cLo V G p2 (G.1 31 5).toInt.toNat / g) := by
  have z : (0 : Int32).toInt = 0 := rfl
  have o : (1 : Int32).toInt = 1 := rfl
  obtain ⟨hc85, hS, hO⟩ := hSV
  have h54 : (Gq.1 66 54).toInt = (V.2.2.1.length : Int) := by rw [hFq.i 66 54 (by decide) (by decide)]; exact hR.2.2.1.1
  have h85 : (Gq.1 66 85).toInt = (G.1 31 5).toInt := by rw [hFq.i 66 85 (by decide) (by decide), hc85]
  obtain ⟨-, -, r1, G2, hru, hh⟩ := h
  obtain ⟨rfl, k1⟩ := q_isRule hru
  rw [h54] at k1
  rcases hh with ⟨c, rfl, -⟩ | ⟨c, r10, G11, hin, hh⟩
  · exact Or.inl ⟨fun q => absurd c (k1.mpr q.1), rfl⟩
  have hK := k1.mp c
  obtain ⟨rfl, k2⟩ := q_isIn hin
  rw [z, o] at k2
  rcases hh with ⟨c2, rfl, -⟩ | ⟨c2, x23, x24, x25, G19, hl, r23, r25, r24, -, -, c3, r35, G36, hcm, hh⟩
  · exact Or.inl ⟨fun q => absurd c2 (k2.mpr q.2), rfl⟩
  have hP := k2.mp c2
  refine Or.inr ⟨⟨hK, hP⟩, ?_⟩
  clear k1 k2 c c2
  obtain ⟨n, en⟩ : ∃ n, n = p0.toInt.toNat := ⟨_, rfl⟩
  rw [← en]
  have hn : n < V.2.2.1.length := by omega
  have hpn : p0.toInt = (n : Int) := by omega
  have hI := hl (fun q => Fr [76, 97, 98] [(66, 59), (66, 60), (66, 61), (66, 62), (66, 63)] Gq q.2.2.2 ∧ ∃ j : Nat, (j : Int) ≤ (G.1 31 5).toInt ∧ q.1.toInt = (j : Int) ∧ q.2.1 = cLo V G p2 j ∧ q.2.2.1 = cUp V G p2 n j) ⟨Fr.rf, 0, hz, rfl, rfl, rfl⟩ (by
    rintro ⟨d1, d2, d3, e⟩ ⟨m1, m2, m3, en⟩ ⟨jF, j, j0, j1, j2, j3⟩ ⟨v1, v2, v3, k, s1, s2, s3, kn, t1, t2, -, -, -, -, f1, r43, G44, hct, hd⟩
    simp only [Prod.mk.injEq] at t1 t2
    obtain ⟨rfl, rfl, rfl, rfl⟩ := t1
    obtain ⟨rfl, rfl, rfl, rfl⟩ := t2
    simp only at jF j1 j2 j3
    have hj : (j : Int) < (G.1 31 5).toInt := by omega
    obtain ⟨s61, s62, s63, s64, s65, s66⟩ := hS j hj
    obtain ⟨o1, o2, o3, o4⟩ := hO j hj
    obtain ⟨rfl, kc⟩ := q_counts_eq (G := G) hct j1 (by rw [jF.row1 115 (by decide) (by decide), hFq.row1 115 (by decide) (by decide), s64]) (by rw [jF.row1 116 (by decide) (by decide), hFq.row1 116 (by decide) (by decide), s65])
    rcases hd with ⟨f, y121, e121, ex, e5, e6, eG⟩ | ⟨f, y50, e50, y52, e52, y54, e54, G57, hlay, y67, e67, y69, e69, w74, w75, w76, W, hlp, -, -, -, -, -, -, -, -, -, hFW, y88, e88, y90, e90, c90, y92, e92, y93, e93, y95, e95, y96, e96, y98, e98, ex, e5, e6, eG⟩
    · subst eG
      refine ⟨jF, j + 1, by omega, by show m1.toInt = _; rw [← ex]; omega, ?_⟩
      show m2 = _ ∧ m3 = _
      rw [← e5, ← e6, j2, j3]
      have hnc : ¬ ctd G p2 j := fun q => (kc.mpr q) f
      exact ⟨(prd_n hnc).symm, (prd_n hnc).symm⟩
    · subst eG
      have g50 : y50 = e.1 112 j := by have : y50 = e.1 112 d1.toInt.toNat := e50; rw [this, tn_r j1]
      have g52 : y52 = e.1 113 j := by have : y52 = e.1 113 d1.toInt.toNat := e52; rw [this, tn_r j1]
      obtain ⟨⟨ha, hb⟩, hx⟩ := m_ls (G := G) (n := n) hlay (by rw [g50, jF.row1 112 (by decide) (by decide), hFq.row1 112 (by decide) (by decide), s61]) (by rw [g52, jF.row1 113 (by decide) (by decide), hFq.row1 113 (by decide) (by decide), s62]) e54 hpn hn (by rw [jF.row1 110 (by decide) (by decide), hFq.row1 110 (by decide) (by decide), hE.day.2]) ((hR.fr hFq (by decide) (by decide)).fr jF (by decide) (by decide)) hV hok o1 o2
      have jF2 := jF.call hlay.2.1 (by decide) (by decide)
      have g114 : (G57.1 114 j).toInt = (G.1 63 j).toInt := by rw [jF2.row1 114 (by decide) (by decide), hFq.row1 114 (by decide) (by decide), s63]
      have g67 : y67.toInt = (G.1 63 j).toInt := by
        have : y67 = G57.1 114 d1.toInt.toNat := e67
        rw [this, tn_r j1, g114]
      have hw := (hw1 _ o1.n.1).1
      have hs4 : (stl V (G.1 62 j).toInt.toNat : Int) ≤ 400 := (hR.1.2.2 _ o2.n.1).2
      have hIn := hlp (fun q => q.2.2.2 = G57 ∧ ∃ i : Nat, i ≤ 7 ∧ q.1.toInt = (G.1 63 j).toInt + ((i : Int) - 3) ∧ q.2.1.toInt = ncn (nst V G j) i ∧ q.2.2.1.toInt = ncn (fun a => nst V G j a ∧ sgl V G n j a) i) ⟨rfl, 0, Nat.zero_le _, by show y69.toInt = _; omega, rfl, rfl⟩ (by
        rintro ⟨b1, b2, b3, B⟩ ⟨c1, c2, c3, C⟩ ⟨iG, i, i0, i1, i2, i3⟩ ⟨a1, a2, a3, A, l1, l2, l3, L, t1, t2, -, -, -, -, -, -, -, -, -, y88, e88, y90, e90, c90, r102, G103, hst, hd⟩
        simp only [Prod.mk.injEq] at t1 t2
        obtain ⟨rfl, rfl, rfl, rfl⟩ := t1
        obtain ⟨rfl, rfl, rfl, rfl⟩ := t2
        simp only at iG i1 i2 i3
        subst iG
        have g88 : y88.toInt = (G.1 63 j).toInt := by
          have : y88 = B.1 114 d1.toInt.toNat := e88
          rw [this, tn_r j1, g114]
        obtain ⟨rfl, ks⟩ := q_stands1_eq hst
        rw [ha, hb, i1] at ks
        have ks2 : r102.toInt ≠ 0 ↔ nst V G j ((i : Int) - 3) := ks
        clear ks
        rcases hd with ⟨f, y120, e120, ex, e5, e6, eG⟩ | ⟨f, y109, e109, y110, e110, r112, G113, htr, y118, e118, y119, e119, ex, e5, e6, eG⟩
        · subst eG
          have hnn : ¬ nst V G j ((i : Int) - 3) := fun q => (ks2.mpr q) f
          refine ⟨rfl, i + 1, by omega, by show c1.toInt = _; rw [← ex]; omega, ?_⟩
          show c2.toInt = _ ∧ c3.toInt = _
          rw [← e5, ← e6, ncn_n hnn rfl, ncn_n (P := fun a => nst V G j a ∧ sgl V G n j a) (x := (i : Int) - 3) (fun q => hnn q.1) rfl]
          exact ⟨i2, i3⟩
        · obtain ⟨rfl, t112⟩ := q_truth htr
          subst eG
          have hnn := ks2.mp f
          obtain ⟨n1, n2⟩ := hnn
          have g110 : y110 = B.1 98 b1.toInt.toNat := e110
          obtain ⟨x1, x2⟩ := hx b1.toInt.toNat (by omega)
          rw [← g110, ← t112] at x1 x2
          have e9 : ((b1.toInt.toNat : Nat) : Int) = (G.1 63 j).toInt + ((i : Int) - 3) := by omega
          rw [e9] at x2
          have x3 : r112.toInt ≠ 0 ↔ sgl V G n j ((i : Int) - 3) := x2
          refine ⟨rfl, i + 1, by omega, by show c1.toInt = _; rw [← ex]; omega, ?_⟩
          show c2.toInt = _ ∧ c3.toInt = _
          rw [← e5, ← e6, ncn_y (P := nst V G j) (x := (i : Int) - 3) ⟨n1, n2⟩ rfl]
          refine ⟨by omega, ?_⟩
          by_cases q : r112.toInt = 0
          · rw [ncn_n (P := fun a => nst V G j a ∧ sgl V G n j a) (x := (i : Int) - 3) (fun w => (x3.mpr w.2) q) rfl]
            omega
          · rw [ncn_y (P := fun a => nst V G j a ∧ sgl V G n j a) (x := (i : Int) - 3) ⟨⟨n1, n2⟩, x3.mp q⟩ rfl]
            omega)
      obtain ⟨iG, i, i0, i1, i2, i3⟩ := hIn
      simp only at iG i1 i2 i3
      subst iG
      have g88 : y88.toInt = (G.1 63 j).toInt := by
        have : y88 = W.1 114 d1.toInt.toNat := e88
        rw [this, tn_r j1, g114]
      have e7 : i = 7 := by omega
      subst e7
      refine ⟨jF2, j + 1, by omega, by show m1.toInt = _; rw [← ex]; omega, ?_⟩
      show m2 = _ ∧ m3 = _
      have hcj : ctd G p2 j := kc.mp f
      rw [← e5, ← e6, e96, e93, e95, e92, j2, j3]
      exact ⟨(prd_y hcj i2).symm, (prd_y hcj i3).symm⟩)
  obtain ⟨-, j, j0, j1, j2, j3⟩ := hI
  simp only at j1 j2 j3
  have ej : j = (G.1 31 5).toInt.toNat := by omega
  rw [← ej, ← j2, ← j3]
  have hp7 := p7_at x23.toInt r23.1 r23.2
  refine ⟨x25.toInt.toNat, x24.toInt.toNat, r35, by omega, by omega, by omega, by omega, by omega, q_common_eq hcm (by omega) (by omega), ?_⟩
  rcases hh with ⟨f, y42, e42, rfl, -⟩ | ⟨f, y41, e41, rfl, -⟩
  · rw [if_pos f]
    exact e42
  · rw [if_neg f]
    exact e41
theorem chance_1 {V : PV} {p0 p1 p2 q0 q1 q2 : Int32} {r r' : Int64} {G Ga Gb : GS} (hx : P_Wchance_1 p0 p1 p2 G r Ga) (hm : Q_chance q0 q1 q2 Ga r' Gb) (i0 : p0.toInt = q0.toInt) (i1 : p1.toInt = q1.toInt) (i2 : p2.toInt = q2.toInt) (hI : IV_1 V G) (hg : gW G = 1) (hz : 0 ≤ (G.1 31 5).toInt) : r = r' ∧ IV_1 V Gb := by
  obtain rfl := Int32.toInt_inj.mp i0
  obtain rfl := Int32.toInt_inj.mp i1
  obtain rfl := Int32.toInt_inj.mp i2
  have hw1 : ∀ w, w < V.2.1.length → WKok (wk V w) := fun w hw => hI.2.1.wk hg hw
  refine ⟨?_, (hI.ca hx.2.1 (ca_chance_1 hx hI) (by decide) (by decide)).fr hm.2.1 (by decide) (by decide) (by decide)⟩
  have o : (1 : Int32).toInt = 1 := rfl
  have z : (0 : Int32).toInt = 0 := rfl
  have hM := q_chance_eq hm hx.2.1 hI.2.1 hI.2.2.1 hI.2.2.2.2.1 hI.2.2.2.2.2 hw1 (fun s i hs hi => hI.1.ok hs i hi) hz
  have h11 : (G.1 1 11).toInt = (V.2.2.1.length : Int) := hI.1.2.2.1.1
  have h6 : V.2.2.1.length ≤ 6 := hI.2.2.1.1
  obtain ⟨-, -, r1, G2, hru, hh⟩ := hx
  obtain ⟨rfl, k1⟩ := k_hasRule_1_eq hru
  rw [h11] at k1
  rcases hh with ⟨c, rfl, -⟩ | ⟨c, hh⟩
  · rcases hM with ⟨-, e⟩ | ⟨y, -⟩
    · exact e.symm
    · exact absurd c (k1.mpr ⟨y.1.1, y.1.2, by have := y.1.2; omega⟩)
  have hK := k1.mp c
  rcases hh with ⟨d, rfl, -⟩ | ⟨d, ⟨f, x14, x15, x16, G10, hl, -, -, -, c14, r23, G24, hgc, y28, e28, hh⟩ | ⟨f, rfl, -⟩⟩
  · rcases hM with ⟨-, e⟩ | ⟨y, -⟩
    · exact e.symm
    · have := y.2.1
      omega
  · rcases hM with ⟨nn, -⟩ | ⟨y, u, l, g, hu, hlo, l1, u2, l2, hg2, er⟩
    · exact absurd ⟨⟨hK.1, hK.2.1⟩, d, f⟩ nn
    obtain ⟨n, en⟩ : ∃ n, n = p0.toInt.toNat := ⟨_, rfl⟩
    rw [← en] at hu er
    have hn : n < V.2.2.1.length := by omega
    have hpn : p0.toInt = (n : Int) := by omega
    have hS := hI.2.2.2.2.2.2.1
    obtain ⟨-, -, j, j0, j1, j2, j3⟩ := hl (fun q => CX_1 V q.2.2.2 ∧ Fr [37, 38, 39] [(6, 3)] G q.2.2.2 ∧ ∃ j : Nat, (j : Int) ≤ (G.1 31 5).toInt ∧ q.1.toInt = (j : Int) ∧ q.2.1 = cLo V G p2 j ∧ q.2.2.1 = cUp V G p2 n j) ⟨hI.cx, Fr.rf, 0, hz, rfl, rfl, rfl⟩ (by
      rintro ⟨d1, d2, d3, e⟩ ⟨m1, m2, m3, en⟩ ⟨jX, jF, j, j0, j1, j2, j3⟩ ⟨v1, v2, v3, k, s1, s2, s3, kn, t1, t2, -, -, f1, r33, G34, hct, hd⟩
      simp only [Prod.mk.injEq] at t1 t2
      obtain ⟨rfl, rfl, rfl, rfl⟩ := t1
      obtain ⟨rfl, rfl, rfl, rfl⟩ := t2
      simp only at jX jF j1 j2 j3
      have hj : (j : Int) < (G.1 31 5).toInt := by omega
      obtain ⟨s61, s62, s63, s64, s65, s66⟩ := hS j hj
      obtain ⟨rfl, kc⟩ := k_counts_eq (G := G) hct j1 (jF.row1 64 (by decide) (by decide)) (jF.row1 65 (by decide) (by decide)) s66
      rcases hd with ⟨f, y40, t40, ex, e5, e6, eG⟩ | ⟨f, r41, G42, hn1, y46, e46, y47, e47, r48, G49, hn2, y53, e53, y54, e54, y55, t55, ex, e5, e6, eG⟩
      · subst eG
        refine ⟨jX, jF, j + 1, by omega, by show m1.toInt = _; rw [← ex]; omega, ?_⟩
        show m2 = _ ∧ m3 = _
        rw [← e5, ← e6, j2, j3]
        have hnc : ¬ ctd G p2 j := fun q => (kc.mpr q) f
        exact ⟨(prd_n hnc).symm, (prd_n hnc).symm⟩
      · subst eG
        obtain ⟨aX, aF, a⟩ := k_near_1 hn1 j1 hj hpn hn jX jF hI hw1
        obtain ⟨bX, bF, b⟩ := k_near_1 hn2 j1 hj hpn hn aX aF hI hw1
        refine ⟨bX, bF, j + 1, by omega, by show m1.toInt = _; rw [← ex]; omega, ?_⟩
        show m2 = _ ∧ m3 = _
        have hcj : ctd G p2 j := kc.mp f
        have a2 : r41.toInt = ncn (fun a => nst V G j a ∧ sgl V G n j a) 7 := a.trans (ncn_c 7 (fun i _ => ⟨fun w => ⟨w.1, w.2 (by rw [o]; decide)⟩, fun w => ⟨w.1, fun _ => w.2⟩⟩))
        have b2 : r48.toInt = ncn (nst V G j) 7 := b.trans (ncn_c 7 (fun i _ => ⟨fun w => w.1, fun w => ⟨w, fun q => absurd z q⟩⟩))
        rw [← e5, ← e6, e54, e47, e53, e46, j2, j3]
        exact ⟨(prd_y hcj b2).symm, (prd_y hcj a2).symm⟩)
    simp only at j1 j2 j3
    have ej : j = (G.1 31 5).toInt.toNat := by omega
    rw [← ej, ← j2] at hlo
    rw [← ej, ← j3] at hu
    rw [← ej, ← j2, ← j3] at er
    obtain ⟨rfl, hr⟩ := k_gcd_eq hgc hlo hu l2 u2
    have hgp : 0 < Nat.gcd l u := Nat.gcd_pos_of_pos_left _ l1
    have eg : r23 = g := Int64.toInt_inj.mp (by rw [hr, hg2, Nat.gcd_comm])
    rcases hh with ⟨k0, -, -⟩ | ⟨k0, ⟨p, y32, e32, rfl, -⟩ | ⟨p, y31, e31, rfl, -⟩⟩
    · have e := lc_eq e28 k0
      rw [e] at hr
      have : (0 : Int64).toInt = 0 := rfl
      omega
    · rw [if_pos p] at er
      rw [er, e32, eg]
    · rw [if_neg p] at er
      rw [er, e31, eg]
  · rcases hM with ⟨-, e⟩ | ⟨y, -⟩
    · exact e.symm
    · have := y.2.2
      omega
theorem chance_2 {V : PV} {p0 p1 p2 q0 q1 q2 : Int32} {r r' : Int64} {G Ga Gb : GS} (hx : P_Wchance_2 p0 p1 p2 G r Ga) (hm : Q_chance q0 q1 q2 Ga r' Gb) (i0 : p0.toInt = q0.toInt) (i1 : p1.toInt = q1.toInt) (i2 : p2.toInt = q2.toInt) (hI : IV_2 V G) (hg : gW G = 1) (hz : 0 ≤ (G.1 31 5).toInt) : r = r' ∧ IV_2 V Gb := by
  obtain rfl := Int32.toInt_inj.mp i0
  obtain rfl := Int32.toInt_inj.mp i1
  obtain rfl := Int32.toInt_inj.mp i2
  have hw1 : ∀ w, w < V.2.1.length → WKok (wk V w) := fun w hw => hI.2.1.wk hg hw
  refine ⟨?_, (hI.ca hx.2.1 (ca_chance_2 hx hI) (by decide) (by decide)).fr hm.2.1 (by decide) (by decide) (by decide)⟩
  have o : (1 : Int32).toInt = 1 := rfl
  have z : (0 : Int32).toInt = 0 := rfl
  have hM := q_chance_eq hm hx.2.1 hI.2.1 hI.2.2.1 hI.2.2.2.2.1 hI.2.2.2.2.2 hw1 (fun s i hs hi => hI.1.ok hs i hi) hz
  have h11 : (G.1 2 11).toInt = (V.2.2.1.length : Int) := hI.1.2.2.1.1
  have h6 : V.2.2.1.length ≤ 6 := hI.2.2.1.1
  obtain ⟨-, -, r1, G2, hru, hh⟩ := hx
  obtain ⟨rfl, k1⟩ := k_hasRule_2_eq hru
  rw [h11] at k1
  rcases hh with ⟨c, rfl, -⟩ | ⟨c, hh⟩
  · rcases hM with ⟨-, e⟩ | ⟨y, -⟩
    · exact e.symm
    · exact absurd c (k1.mpr ⟨y.1.1, y.1.2, by have := y.1.2; omega⟩)
  have hK := k1.mp c
  rcases hh with ⟨d, rfl, -⟩ | ⟨d, ⟨f, x14, x15, x16, G10, hl, -, -, -, c14, r23, G24, hgc, y28, e28, hh⟩ | ⟨f, rfl, -⟩⟩
  · rcases hM with ⟨-, e⟩ | ⟨y, -⟩
    · exact e.symm
    · have := y.2.1
      omega
  · rcases hM with ⟨nn, -⟩ | ⟨y, u, l, g, hu, hlo, l1, u2, l2, hg2, er⟩
    · exact absurd ⟨⟨hK.1, hK.2.1⟩, d, f⟩ nn
    obtain ⟨n, en⟩ : ∃ n, n = p0.toInt.toNat := ⟨_, rfl⟩
    rw [← en] at hu er
    have hn : n < V.2.2.1.length := by omega
    have hpn : p0.toInt = (n : Int) := by omega
    have hS := hI.2.2.2.2.2.2.1
    obtain ⟨-, -, j, j0, j1, j2, j3⟩ := hl (fun q => CX_2 V q.2.2.2 ∧ Fr [37, 38, 39] [(6, 3)] G q.2.2.2 ∧ ∃ j : Nat, (j : Int) ≤ (G.1 31 5).toInt ∧ q.1.toInt = (j : Int) ∧ q.2.1 = cLo V G p2 j ∧ q.2.2.1 = cUp V G p2 n j) ⟨hI.cx, Fr.rf, 0, hz, rfl, rfl, rfl⟩ (by
      rintro ⟨d1, d2, d3, e⟩ ⟨m1, m2, m3, en⟩ ⟨jX, jF, j, j0, j1, j2, j3⟩ ⟨v1, v2, v3, k, s1, s2, s3, kn, t1, t2, -, -, f1, r33, G34, hct, hd⟩
      simp only [Prod.mk.injEq] at t1 t2
      obtain ⟨rfl, rfl, rfl, rfl⟩ := t1
      obtain ⟨rfl, rfl, rfl, rfl⟩ := t2
      simp only at jX jF j1 j2 j3
      have hj : (j : Int) < (G.1 31 5).toInt := by omega
      obtain ⟨s61, s62, s63, s64, s65, s66⟩ := hS j hj
      obtain ⟨rfl, kc⟩ := k_counts_eq (G := G) hct j1 (jF.row1 64 (by decide) (by decide)) (jF.row1 65 (by decide) (by decide)) s66
      rcases hd with ⟨f, y40, t40, ex, e5, e6, eG⟩ | ⟨f, r41, G42, hn1, y46, e46, y47, e47, r48, G49, hn2, y53, e53, y54, e54, y55, t55, ex, e5, e6, eG⟩
      · subst eG
        refine ⟨jX, jF, j + 1, by omega, by show m1.toInt = _; rw [← ex]; omega, ?_⟩
        show m2 = _ ∧ m3 = _
        rw [← e5, ← e6, j2, j3]
        have hnc : ¬ ctd G p2 j := fun q => (kc.mpr q) f
        exact ⟨(prd_n hnc).symm, (prd_n hnc).symm⟩
      · subst eG
        obtain ⟨aX, aF, a⟩ := k_near_2 hn1 j1 hj hpn hn jX jF hI hw1
        obtain ⟨bX, bF, b⟩ := k_near_2 hn2 j1 hj hpn hn aX aF hI hw1
        refine ⟨bX, bF, j + 1, by omega, by show m1.toInt = _; rw [← ex]; omega, ?_⟩
        show m2 = _ ∧ m3 = _
        have hcj : ctd G p2 j := kc.mp f
        have a2 : r41.toInt = ncn (fun a => nst V G j a ∧ sgl V G n j a) 7 := a.trans (ncn_c 7 (fun i _ => ⟨fun w => ⟨w.1, w.2 (by rw [o]; decide)⟩, fun w => ⟨w.1, fun _ => w.2⟩⟩))
        have b2 : r48.toInt = ncn (nst V G j) 7 := b.trans (ncn_c 7 (fun i _ => ⟨fun w => w.1, fun w => ⟨w, fun q => absurd z q⟩⟩))
        rw [← e5, ← e6, e54, e47, e53, e46, j2, j3]
        exact ⟨(prd_y hcj b2).symm, (prd_y hcj a2).symm⟩)
    simp only at j1 j2 j3
    have ej : j = (G.1 31 5).toInt.toNat := by omega
    rw [← ej, ← j2] at hlo
    rw [← ej, ← j3] at hu
    rw [← ej, ← j2, ← j3] at er
    obtain ⟨rfl, hr⟩ := k_gcd_eq hgc hlo hu l2 u2
    have hgp : 0 < Nat.gcd l u := Nat.gcd_pos_of_pos_left _ l1
    have eg : r23 = g := Int64.toInt_inj.mp (by rw [hr, hg2, Nat.gcd_comm])
    rcases hh with ⟨k0, -, -⟩ | ⟨k0, ⟨p, y32, e32, rfl, -⟩ | ⟨p, y31, e31, rfl, -⟩⟩
    · have e := lc_eq e28 k0
      rw [e] at hr
      have : (0 : Int64).toInt = 0 := rfl
      omega
    · rw [if_pos p] at er
      rw [er, e32, eg]
    · rw [if_neg p] at er
      rw [er, e31, eg]
  · rcases hM with ⟨-, e⟩ | ⟨y, -⟩
    · exact e.symm
    · have := y.2.2
      omega
