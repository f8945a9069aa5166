/-! what lies there */ -/
def LYR (row : Nat → Int32) (cnt : Int) (L : List Int) : Prop := cnt = (L.length : Int) ∧ ∀ i, i < L.length → (row i).toInt = L.getD i 0
theorem LYR.add {row row' : Nat → Int32} {cnt cnt' x : Int} {L : List Int} {v : Int32} (h : LYR row cnt L) (hc : cnt' = cnt + 1) (hr : row' = upd row cnt.toNat v) (hv : v.toInt = x) : LYR row' cnt' (L ++ [x]) := by
  obtain ⟨h1, h2⟩ := h
  have e : cnt.toNat = L.length := by omega
  refine ⟨by rw [List.length_append, List.length_singleton]; omega, fun i hi => ?_⟩
  rw [List.length_append, List.length_singleton] at hi
  rw [hr, e, getD_app]
  by_cases q : i < L.length
  · rw [ud_no (by omega), if_pos q]
    exact h2 i q
  · have ei : i = L.length := by omega
    subst ei
    rw [ud_at, if_neg q, Nat.sub_self]
    exact hv
noncomputable def evL (P : Int → Prop) (a : Int) : Nat → List Int
  | 0 => []
  | n + 1 => evL P a n ++ pif (P (a + n)) [a + n] []
theorem evL_len (P : Int → Prop) (a : Int) : ∀ n, (evL P a n).length ≤ n
  | 0 => Nat.le_refl _
  | n + 1 => by
    have := evL_len P a n
    rw [evL, List.length_append]
    by_cases q : P (a + n)
    · rw [pif_p q, List.length_singleton]
      omega
    · rw [pif_n q, List.length_nil]
      omega
theorem evL_y {P : Int → Prop} {a : Int} {n : Nat} (h : P (a + n)) : evL P a (n + 1) = evL P a n ++ [a + n] := by rw [evL, pif_p h]
theorem evL_n {P : Int → Prop} {a : Int} {n : Nat} (h : ¬ P (a + n)) : evL P a (n + 1) = evL P a n := by rw [evL, pif_n h, List.append_nil]
def LIEQ (G : GS) : Prop := (G.1 0 12).toInt = (G.1 66 66).toInt ∧ ∀ i : Nat, (i : Int) < (G.1 0 12).toInt → (G.1 33 i).toInt = (G.1 100 i).toInt
theorem LIEQ.of {G : GS} {L : List Int} (h1 : LYR (G.1 33) (G.1 0 12).toInt L) (h2 : LYR (G.1 100) (G.1 66 66).toInt L) : LIEQ G := ⟨h1.1.trans h2.1.symm, fun i hi => by rw [h1.2 i (by have := h1.1; omega), h2.2 i (by have := h1.1; omega)]⟩
/-- which lengths come to the END evenly -/
def EVP (V : PV) (day : Int32) (w s t : Nat) (b : Int) : Prop := ∃ x, 0 ≤ x ∧ x < (wk V w).2.2.1 ∧ GD (LWF V day w s t) (ENx V w s) b b x
noncomputable def evA (V : PV) (day : Int32) (w s t : Nat) : List Int := evL (EVP V day w s t) (wk V w).2.1 ((wk V w).2.2.1 - (wk V w).2.1 + 1).toNat
theorem m_evens {V : PV} {p0 p1 p2 r : Int32} {G G1 : GS} (h : Q_evens p0 p1 p2 G r G1) (hR : RV V G) (hV : PVok V) (hok : ∀ s i, s < V.1.length → i < stl V s → ICok (icl V s i)) (hw1 : ∀ w, w < V.2.1.length → WKok (wk V w)) : (¬ (inW V p0 ∧ inS V p1 ∧ inR V p2) ∧ r.toInt = -1 ∧ (G1.1 66 66).toInt = 0) ∨ ((inW V p0 ∧ inS V p1 ∧ inR V p2) ∧ LYR (G1.1 100) (G1.1 66 66).toInt (evA V (G.1 110 6) p0.toInt.toNat p1.toInt.toNat p2.toInt.toNat) ∧ r = G1.1 66 66) := by
  have m1 : (-1 : Int32).toInt = -1 := rfl
  have o1 : (1 : Int32).toInt = 1 := rfl
  have z0 : (0 : Int32).toInt = 0 := rfl
  obtain ⟨-, -, G2, -, hF1, e66, r6, G7, hask, hh⟩ := h
  have hR2 : RV V G2 := hR.fr hF1 (by decide) (by decide)
  obtain ⟨rfl, k1⟩ := q_isAsked_eq hask hR2
  rcases hh with ⟨c, rfl, rfl⟩ | ⟨c, G15, hlay, x33, G29, hl, -, -, -, hF29, c33, e, rfl⟩
  · exact Or.inl ⟨fun q => absurd c (k1.mpr q), m1, by rw [e66]; rfl⟩
  have hA := k1.mp c
  clear k1 c
  refine Or.inr ⟨hA, ?_, e.symm⟩
  obtain ⟨hwl, hwn⟩ := hA.1.n
  obtain ⟨hsl, hsn⟩ := hA.2.1.n
  obtain ⟨ht64, htn⟩ := hA.2.2.lt hV.1
  have hcm := m_lay hlay hwn hwl hsn hsl htn ht64 hR2 hV (hok _ · hsl ·)
  rw [hF1.row1 110 (by decide) (by decide)] at hcm
  have hl4 : (stl V p1.toInt.toNat : Int) ≤ 400 := (hR.1.2.2 _ hsl).2
  have hk := hw1 _ hwl
  obtain ⟨w, ew⟩ : ∃ w, w = p0.toInt.toNat := ⟨_, rfl⟩
  obtain ⟨s, es⟩ : ∃ s, s = p1.toInt.toNat := ⟨_, rfl⟩
  obtain ⟨t, et⟩ : ∃ t, t = p2.toInt.toNat := ⟨_, rfl⟩
  rw [← ew] at hcm hk ⊢
  rw [← es] at hcm hl4 ⊢
  rw [← et] at hcm ⊢
  obtain ⟨day, ed⟩ : ∃ day, day = G.1 110 6 := ⟨_, rfl⟩
  rw [← ed] at hcm ⊢
  have hC15 : CrsM V day w s t G15 := hcm
  obtain ⟨⟨c1, c2, c3, c4, c5⟩, -⟩ := hcm
  have ha1 := hk.2.2.1
  have hab := hk.2.2.2.1
  have hb60 := hk.2.2.2.2.1
  have h66 : (G15.1 66 66).toInt = 0 := by
    rw [hlay.2.1.i 66 66 (by decide) (by decide), e66]
    rfl
  have hI := hl (fun q => Fr [100] [(66, 66)] G15 q.2 ∧ ∃ n : Nat, q.1.toInt = (wk V w).2.1 + n ∧ q.1.toInt ≤ (wk V w).2.2.1 + 1 ∧ LYR (q.2.1 100) (q.2.1 66 66).toInt (evL (EVP V day w s t) (wk V w).2.1 n)) ⟨Fr.rf, 0, by show (G15.1 66 61).toInt = _; rw [c3]; simp, by show (G15.1 66 61).toInt ≤ _; rw [c3]; omega, by rw [h66]; rfl, fun i hi => absurd hi (Nat.not_lt_zero i)⟩ (by
    rintro ⟨a1, b0⟩ ⟨n1, bn⟩ ⟨i0, n, i1, i2, i3⟩ ⟨x1, g, u1, gn, q1, q2, -, -, -, c62, x45, x46, G41, hl2, -, -, -, hF41, hd⟩
    obtain ⟨rfl, rfl⟩ := Prod.mk.inj q1
    obtain ⟨rfl, rfl⟩ := Prod.mk.inj q2
    simp only at i0 i1 i2 i3
    obtain rfl := hF41.nil
    rw [c4] at c62
    have hCb : CrsM V day w s t b0 := by
      refine ⟨⟨?_, ?_, ?_, ?_, ?_⟩, ?_⟩
      · rw [i0.i 66 59 (by decide) (by decide)]; exact hC15.1.1
      · rw [i0.i 66 60 (by decide) (by decide)]; exact hC15.1.2.1
      · rw [i0.i 66 61 (by decide) (by decide)]; exact hC15.1.2.2.1
      · rw [i0.i 66 62 (by decide) (by decide)]; exact hC15.1.2.2.2.1
      · rw [i0.i 66 63 (by decide) (by decide)]; exact hC15.1.2.2.2.2
      · rw [i0.row1 98 (by decide) (by decide)]; exact hC15.2
    have hI2 := hl2 (fun q => q.2.2 = b0 ∧ (q.2.1.toInt = 0 ∨ q.2.1.toInt = 1) ∧ ∃ m : Nat, q.1.toInt = (m : Int) ∧ (m : Int) ≤ (wk V w).2.2.1 ∧ (q.2.1.toInt ≠ 0 ↔ ∃ x, 0 ≤ x ∧ x < (m : Int) ∧ GD (LWF V day w s t) (ENx V w s) a1.toInt a1.toInt x)) ⟨rfl, Or.inl rfl, 0, rfl, by omega, fun q => absurd z0 q, fun ⟨x, h1, h2, _⟩ => absurd h2 (by omega)⟩ (by
      rintro ⟨d1, d2, f0⟩ ⟨k1, k2, fn⟩ ⟨j0, j1, m, j2, j3, j4⟩ ⟨y1, y2, g', v1, v2, gn', q1, q2, -, -, -, c45, c46, r76, G77, hce, y82, t82, ex, e46, eG⟩
      simp only [Prod.mk.injEq] at q1 q2
      obtain ⟨rfl, rfl, rfl⟩ := q1
      obtain ⟨rfl, rfl, rfl⟩ := q2
      simp only at j0 j1 j2 j4
      subst j0
      rw [c4] at c45
      obtain ⟨rfl, g1, g2⟩ := m_comes hce hCb hk hl4 (by clear j4; omega) (by clear j4; omega)
      rw [j2] at g2
      have hno : ¬ ∃ x, 0 ≤ x ∧ x < (m : Int) ∧ GD (LWF V day w s t) (ENx V w s) a1.toInt a1.toInt x := fun q => (j4.mpr q) c46
      clear j4
      refine ⟨eG.symm, by show k2.toInt = 0 ∨ k2.toInt = 1; rw [← e46]; exact g1, m + 1, by show k1.toInt = _; rw [← ex]; clear g2; omega, by clear g2; omega, ?_⟩
      show k2.toInt ≠ 0 ↔ _
      rw [← e46]
      refine g2.trans ⟨fun q => ⟨(m : Int), by omega, by omega, q⟩, fun ⟨x, h1, h2, h3⟩ => ?_⟩
      have : x = (m : Int) := Classical.byContradiction (fun w => hno ⟨x, h1, by omega, h3⟩)
      rw [← this]
      exact h3)
    obtain ⟨j0, j1, m, j2, j3, j4⟩ := hI2
    simp only at j0 j1 j2 j4
    have hev : EVP V day w s t ((wk V w).2.1 + n) ↔ ∃ x, 0 ≤ x ∧ x < (wk V w).2.2.1 ∧ GD (LWF V day w s t) (ENx V w s) a1.toInt a1.toInt x := by
      unfold EVP
      rw [i1]
    have hlen := evL_len (EVP V day w s t) (wk V w).2.1 n
    have lay : ∀ {Gz Gy : GS} {y : Int32}, Q_lay a1 b0 Gz → Gz = Gy → y.toInt = a1.toInt + 1 → EVP V day w s t ((wk V w).2.1 + n) → Fr [100] [(66, 66)] G15 Gy ∧ ∃ n : Nat, y.toInt = (wk V w).2.1 + n ∧ y.toInt ≤ (wk V w).2.2.1 + 1 ∧ LYR (Gy.1 100) (Gy.1 66 66).toInt (evL (EVP V day w s t) (wk V w).2.1 n) := by
      intro Gz Gy y hly e ty hy
      subst e
      obtain ⟨-, hFl, -, y3, t3, -, e3, w100⟩ := hly
      refine ⟨i0.call hFl (by decide) (by decide), n + 1, by clear j4 hev; omega, by clear j4 hev; omega, ?_⟩
      rw [evL_y hy]
      exact i3.add (by rw [e3]; exact t3) w100 i1
    have skip : ∀ {Gy : GS} {y : Int32}, b0 = Gy → y.toInt = a1.toInt + 1 → ¬ EVP V day w s t ((wk V w).2.1 + n) → Fr [100] [(66, 66)] G15 Gy ∧ ∃ n : Nat, y.toInt = (wk V w).2.1 + n ∧ y.toInt ≤ (wk V w).2.2.1 + 1 ∧ LYR (Gy.1 100) (Gy.1 66 66).toInt (evL (EVP V day w s t) (wk V w).2.1 n) := by
      intro Gy y e ty hy
      subst e
      refine ⟨i0, n + 1, by clear j4 hev; omega, by clear j4 hev; omega, ?_⟩
      rw [evL_n hy]
      exact i3
    rcases hd with ⟨g, ⟨f, y54, t54, ex, eG⟩ | ⟨f, G59, hly, y63, t63, ex, eG⟩⟩ | ⟨g, f, G70, hly, y74, t74, ex, eG⟩
    · rw [c4] at g
      refine skip eG (by show n1.toInt = _; rw [← ex]; exact t54) (fun q => ?_)
      obtain ⟨x, h1, h2, h3⟩ := hev.mp q
      exact (j4.mpr ⟨x, h1, by clear j4 hev; omega, h3⟩) f
    · refine lay hly eG (by show n1.toInt = _; rw [← ex]; exact t63) (hev.mpr ?_)
      obtain ⟨x, h1, h2, h3⟩ := j4.mp f
      exact ⟨x, h1, by clear j4 hev; omega, h3⟩
    · refine lay hly eG (by show n1.toInt = _; rw [← ex]; exact t74) (hev.mpr ?_)
      obtain ⟨x, h1, h2, h3⟩ := j4.mp f
      exact ⟨x, h1, by clear j4 hev; omega, h3⟩)
  obtain ⟨i0, n, i1, i2, i3⟩ := hI
  simp only at i0 i1 i2 i3
  rw [c4] at c33
  unfold evA
  have en : n = ((wk V w).2.2.1 - (wk V w).2.1 + 1).toNat := by omega
  rw [← en]
  exact i3
theorem evens_1 {V : PV} {p0 p1 p2 q0 q1 q2 r r' : Int32} {G Ga Gb : GS} (hx : P_Wevens_1 p0 p1 p2 G r Ga) (hm : Q_evens q0 q1 q2 Ga r' Gb) (i0 : p0.toInt = q0.toInt) (i1 : p1.toInt = q1.toInt) (i2 : p2.toInt = q2.toInt) (hI : IV_1 V G) (hg : gW G = 1) : r.toInt = r'.toInt ∧ LIEQ Gb := by
  obtain rfl := Int32.toInt_inj.mp i0
  obtain rfl := Int32.toInt_inj.mp i1
  obtain rfl := Int32.toInt_inj.mp i2
  have hFx := hx.2.1
  have hFm := hm.2.1
  have m1 : (-1 : Int32).toInt = -1 := rfl
  have z0 : (0 : Int32).toInt = 0 := rfl
  obtain ⟨hW, hR, hV, hCa, hE, hSV⟩ := hI
  have hd := hE.day
  have hw1 : ∀ w, w < V.2.1.length → WKok (wk V w) := fun w hw => hR.wk hg hw
  have hM := m_evens hm (hR.fr hFx (by decide) (by decide)) hV (fun s i hs hi => hW.ok hs i hi) hw1
  rw [show Ga.1 110 6 = G.1 58 6 by rw [hFx.row1 110 (by decide) (by decide), hd.2]] at hM
  have b33 : Gb.1 33 = Ga.1 33 := hFm.row1 33 (by decide) (by decide)
  have b12 : Gb.1 0 12 = Ga.1 0 12 := hFm.i 0 12 (by decide) (by decide)
  have hC : (¬ (inW V p0 ∧ inS V p1 ∧ inR V p2) ∧ r.toInt = -1 ∧ (Ga.1 0 12).toInt = 0) ∨ ((inW V p0 ∧ inS V p1 ∧ inR V p2) ∧ LYR (Ga.1 33) (Ga.1 0 12).toInt (evA V (G.1 58 6) p0.toInt.toNat p1.toInt.toNat p2.toInt.toNat) ∧ r = Ga.1 0 12) := by
    obtain ⟨-, -, G2, -, hF1, e12, r4, G5, hask, hh⟩ := hx
    have hW2 : CW_1 V G2 := hW.fr hF1 (by decide) (by decide)
    obtain ⟨rfl, k1⟩ := k_wAsk_1_eq hask hW2 hV.1
    rcases hh with ⟨c, rfl, rfl⟩ | ⟨c, G13, hp, x22, G18, hl, -, -, hF18, c22, e, rfl⟩
    · exact Or.inl ⟨fun q => absurd c (k1.mpr q), m1, by rw [e12]; rfl⟩
    have hA := k1.mp c
    clear k1 c
    refine Or.inr ⟨hA, ?_, e.symm⟩
    have hk := hw1 _ hA.1.n.1
    have r58 : G2.1 58 = G.1 58 := hF1.row1 58 (by decide) (by decide)
    have hcr := k_prep_1 hp hW2 hR.1.2.1 hV (hCa.fr (hF1.row1 37 (by decide) (by decide)) (hF1.row1 38 (by decide) (by decide))) (by rw [r58]; exact hd.1.1) hA hk.1
    rw [r58] at hcr
    have hl4 : (stl V p1.toInt.toNat : Int) ≤ 400 := (hR.1.2.2 _ hA.2.1.n.1).2
    have h12 : (G13.1 0 12).toInt = 0 := by
      rw [hp.2.1.i 0 12 (by decide) (by decide), e12]
      rfl
    obtain ⟨w, ew⟩ : ∃ w, w = p0.toInt.toNat := ⟨_, rfl⟩
    obtain ⟨s, es⟩ : ∃ s, s = p1.toInt.toNat := ⟨_, rfl⟩
    obtain ⟨t, et⟩ : ∃ t, t = p2.toInt.toNat := ⟨_, rfl⟩
    rw [← ew] at hcr hk ⊢
    rw [← es] at hcr hl4 ⊢
    rw [← et] at hcr ⊢
    obtain ⟨day, ed⟩ : ∃ day, day = G.1 58 6 := ⟨_, rfl⟩
    rw [← ed] at hcr ⊢
    have hcr' := hcr
    obtain ⟨⟨c1, c2, c3, c4, c5, c6, c7⟩, -⟩ := hcr'
    have ha1 := hk.2.2.1
    have hab := hk.2.2.2.1
    have hb60 := hk.2.2.2.2.1
    have hI := hl (fun q => Fr [33, 42] [(0, 12)] G13 q.2 ∧ ∃ n : Nat, q.1.toInt = (wk V w).2.1 + n ∧ q.1.toInt ≤ (wk V w).2.2.1 + 1 ∧ LYR (q.2.1 33) (q.2.1 0 12).toInt (evL (EVP V day w s t) (wk V w).2.1 n)) ⟨Fr.rf, 0, by show (G13.1 7 3).toInt = _; rw [c3]; simp, by show (G13.1 7 3).toInt ≤ _; rw [c3]; omega, by rw [h12]; rfl, fun i hi => absurd hi (Nat.not_lt_zero i)⟩ (by
      rintro ⟨a1, b0⟩ ⟨n1, bn⟩ ⟨j0, n, j1, j2, j3⟩ ⟨x1, g, u1, gn, q1, q2, -, -, c62, r36, G37, hev, hd'⟩
      obtain ⟨rfl, rfl⟩ := Prod.mk.inj q1
      obtain ⟨rfl, rfl⟩ := Prod.mk.inj q2
      simp only at j0 j1 j2 j3
      rw [c4] at c62
      have hq := k_evenly hev (hcr.fr j0 (by decide) (by decide)) hk hl4 (by omega) (by omega)
      have hq' : r36.toInt ≠ 0 ↔ EVP V day w s t ((wk V w).2.1 + n) := by
        unfold EVP
        rw [← j1]
        exact hq
      clear hq
      have hFe := hev.2.1
      have hlen := evL_len (EVP V day w s t) (wk V w).2.1 n
      have j3' : LYR (G37.1 33) (G37.1 0 12).toInt (evL (EVP V day w s t) (wk V w).2.1 n) := by
        rw [hFe.row1 33 (by decide) (by decide), hFe.i 0 12 (by decide) (by decide)]
        exact j3
      rcases hd' with ⟨f, y43, t43, ex, eG⟩ | ⟨f, G45, hly, y49, t49, ex, eG⟩
      · subst eG
        refine ⟨j0.call hFe (by decide) (by decide), n + 1, by show n1.toInt = _; rw [← ex]; clear hq'; omega, by show n1.toInt ≤ _; rw [← ex]; clear hq'; omega, ?_⟩
        rw [evL_n (fun q => (hq'.mpr q) f)]
        exact j3'
      · subst eG
        have hFl := hly.2.1
        obtain ⟨-, -, hly⟩ := hly
        rcases hly with ⟨g, -⟩ | ⟨g, y3, t3, -, e3, w33⟩
        · have := j3'.1
          clear hq'
          omega
        · refine ⟨(j0.call hFe (by decide) (by decide)).call hFl (by decide) (by decide), n + 1, by show n1.toInt = _; rw [← ex]; clear hq'; omega, by show n1.toInt ≤ _; rw [← ex]; clear hq'; omega, ?_⟩
          rw [evL_y (hq'.mp f)]
          exact j3'.add (by rw [e3]; exact t3) w33 j1)
    obtain ⟨j0, n, j1, j2, j3⟩ := hI
    simp only at j0 j1 j2 j3
    rw [c4] at c22
    unfold evA
    have en : n = ((wk V w).2.2.1 - (wk V w).2.1 + 1).toNat := by omega
    rw [← en]
    exact j3
  rcases hC with ⟨n1, v1, u1⟩ | ⟨y1, v1, u1⟩
  · rcases hM with ⟨n2, v2, u2⟩ | ⟨y2, -⟩
    · refine ⟨by rw [v1, v2], by rw [b12, u1, u2], fun i hi => ?_⟩
      rw [b12, u1] at hi
      omega
    · exact absurd y2 n1
  · rcases hM with ⟨n2, -⟩ | ⟨y2, v2, u2⟩
    · exact absurd y1 n2
    · rw [← b33, ← b12] at v1
      refine ⟨?_, LIEQ.of v1 v2⟩
      rw [u1, u2, ← b12, v1.1, v2.1]
theorem evens_2 {V : PV} {p0 p1 p2 q0 q1 q2 r r' : Int32} {G Ga Gb : GS} (hx : P_Wevens_2 p0 p1 p2 G r Ga) (hm : Q_evens q0 q1 q2 Ga r' Gb) (i0 : p0.toInt = q0.toInt) (i1 : p1.toInt = q1.toInt) (i2 : p2.toInt = q2.toInt) (hI : IV_2 V G) (hg : gW G = 1) : r.toInt = r'.toInt ∧ LIEQ Gb := by
  obtain rfl := Int32.toInt_inj.mp i0
  obtain rfl := Int32.toInt_inj.mp i1
  obtain rfl := Int32.toInt_inj.mp i2
  have hFx := hx.2.1
  have hFm := hm.2.1
  have m1 : (-1 : Int32).toInt = -1 := rfl
  have z0 : (0 : Int32).toInt = 0 := rfl
  obtain ⟨hW, hR, hV, hCa, hE, hSV⟩ := hI
  have hd := hE.day
  have hw1 : ∀ w, w < V.2.1.length → WKok (wk V w) := fun w hw => hR.wk hg hw
  have hM := m_evens hm (hR.fr hFx (by decide) (by decide)) hV (fun s i hs hi => hW.ok hs i hi) hw1
  rw [show Ga.1 110 6 = G.1 58 6 by rw [hFx.row1 110 (by decide) (by decide), hd.2]] at hM
  have b33 : Gb.1 33 = Ga.1 33 := hFm.row1 33 (by decide) (by decide)
  have b12 : Gb.1 0 12 = Ga.1 0 12 := hFm.i 0 12 (by decide) (by decide)
  have hC : (¬ (inW V p0 ∧ inS V p1 ∧ inR V p2) ∧ r.toInt = -1 ∧ (Ga.1 0 12).toInt = 0) ∨ ((inW V p0 ∧ inS V p1 ∧ inR V p2) ∧ LYR (Ga.1 33) (Ga.1 0 12).toInt (evA V (G.1 58 6) p0.toInt.toNat p1.toInt.toNat p2.toInt.toNat) ∧ r = Ga.1 0 12) := by
    obtain ⟨-, -, G2, -, hF1, e12, r4, G5, hask, hh⟩ := hx
    have hW2 : CW_2 V G2 := hW.fr hF1 (by decide) (by decide)
    obtain ⟨rfl, k1⟩ := k_wAsk_2_eq hask hW2 hV.1
    rcases hh with ⟨c, rfl, rfl⟩ | ⟨c, G13, hp, x22, G18, hl, -, -, hF18, c22, e, rfl⟩
    · exact Or.inl ⟨fun q => absurd c (k1.mpr q), m1, by rw [e12]; rfl⟩
    have hA := k1.mp c
    clear k1 c
    refine Or.inr ⟨hA, ?_, e.symm⟩
    have hk := hw1 _ hA.1.n.1
    have r58 : G2.1 58 = G.1 58 := hF1.row1 58 (by decide) (by decide)
    have hcr := k_prep_2 hp hW2 hR.1.2.1 hV (hCa.fr (hF1.row1 37 (by decide) (by decide)) (hF1.row1 38 (by decide) (by decide))) (by rw [r58]; exact hd.1.1) hA hk.1
    rw [r58] at hcr
    have hl4 : (stl V p1.toInt.toNat : Int) ≤ 400 := (hR.1.2.2 _ hA.2.1.n.1).2
    have h12 : (G13.1 0 12).toInt = 0 := by
      rw [hp.2.1.i 0 12 (by decide) (by decide), e12]
      rfl
    obtain ⟨w, ew⟩ : ∃ w, w = p0.toInt.toNat := ⟨_, rfl⟩
    obtain ⟨s, es⟩ : ∃ s, s = p1.toInt.toNat := ⟨_, rfl⟩
    obtain ⟨t, et⟩ : ∃ t, t = p2.toInt.toNat := ⟨_, rfl⟩
    rw [← ew] at hcr hk ⊢
    rw [← es] at hcr hl4 ⊢
    rw [← et] at hcr ⊢
    obtain ⟨day, ed⟩ : ∃ day, day = G.1 58 6 := ⟨_, rfl⟩
    rw [← ed] at hcr ⊢
    have hcr' := hcr
    obtain ⟨⟨c1, c2, c3, c4, c5, c6, c7⟩, -⟩ := hcr'
    have ha1 := hk.2.2.1
    have hab := hk.2.2.2.1
    have hb60 := hk.2.2.2.2.1
    have hI := hl (fun q => Fr [33, 42] [(0, 12)] G13 q.2 ∧ ∃ n : Nat, q.1.toInt = (wk V w).2.1 + n ∧ q.1.toInt ≤ (wk V w).2.2.1 + 1 ∧ LYR (q.2.1 33) (q.2.1 0 12).toInt (evL (EVP V day w s t) (wk V w).2.1 n)) ⟨Fr.rf, 0, by show (G13.1 7 3).toInt = _; rw [c3]; simp, by show (G13.1 7 3).toInt ≤ _; rw [c3]; omega, by rw [h12]; rfl, fun i hi => absurd hi (Nat.not_lt_zero i)⟩ (by
      rintro ⟨a1, b0⟩ ⟨n1, bn⟩ ⟨j0, n, j1, j2, j3⟩ ⟨x1, g, u1, gn, q1, q2, -, -, c62, r36, G37, hev, hd'⟩
      obtain ⟨rfl, rfl⟩ := Prod.mk.inj q1
      obtain ⟨rfl, rfl⟩ := Prod.mk.inj q2
      simp only at j0 j1 j2 j3
      rw [c4] at c62
      have hq := k_evenly hev (hcr.fr j0 (by decide) (by decide)) hk hl4 (by omega) (by omega)
      have hq' : r36.toInt ≠ 0 ↔ EVP V day w s t ((wk V w).2.1 + n) := by
        unfold EVP
        rw [← j1]
        exact hq
      clear hq
      have hFe := hev.2.1
      have hlen := evL_len (EVP V day w s t) (wk V w).2.1 n
      have j3' : LYR (G37.1 33) (G37.1 0 12).toInt (evL (EVP V day w s t) (wk V w).2.1 n) := by
        rw [hFe.row1 33 (by decide) (by decide), hFe.i 0 12 (by decide) (by decide)]
        exact j3
      rcases hd' with ⟨f, y43, t43, ex, eG⟩ | ⟨f, G45, hly, y49, t49, ex, eG⟩
      · subst eG
        refine ⟨j0.call hFe (by decide) (by decide), n + 1, by show n1.toInt = _; rw [← ex]; clear hq'; omega, by show n1.toInt ≤ _; rw [← ex]; clear hq'; omega, ?_⟩
        rw [evL_n (fun q => (hq'.mpr q) f)]
        exact j3'
      · subst eG
        have hFl := hly.2.1
        obtain ⟨-, -, hly⟩ := hly
        rcases hly with ⟨g, -⟩ | ⟨g, y3, t3, -, e3, w33⟩
        · have := j3'.1
          clear hq'
          omega
        · refine ⟨(j0.call hFe (by decide) (by decide)).call hFl (by decide) (by decide), n + 1, by show n1.toInt = _; rw [← ex]; clear hq'; omega, by show n1.toInt ≤ _; rw [← ex]; clear hq'; omega, ?_⟩
          rw [evL_y (hq'.mp f)]
          exact j3'.add (by rw [e3]; exact t3) w33 j1)
    obtain ⟨j0, n, j1, j2, j3⟩ := hI
    simp only at j0 j1 j2 j3
    rw [c4] at c22
    unfold evA
    have en : n = ((wk V w).2.2.1 - (wk V w).2.1 + 1).toNat := by omega
    rw [← en]
    exact j3
  rcases hC with ⟨n1, v1, u1⟩ | ⟨y1, v1, u1⟩
  · rcases hM with ⟨n2, v2, u2⟩ | ⟨y2, -⟩
    · refine ⟨by rw [v1, v2], by rw [b12, u1, u2], fun i hi => ?_⟩
      rw [b12, u1] at hi
      omega
    · exact absurd y2 n1
  · rcases hM with ⟨n2, -⟩ | ⟨y2, v2, u2⟩
    · exact absurd y1 n2
    · rw [← b33, ← b12] at v1
      refine ⟨?_, LIEQ.of v1 v2⟩
      rw [u1, u2, ← b12, v1.1, v2.1]
