/-! SIGHTS counted -/
theorem tn_r {x : Int32} {n : Nat} (h : x.toInt = (n : Int)) : x.toInt.toNat = n := by omega
def ctd (G : GS) (k : Int32) (j : Nat) : Prop := (G.1 64 j).toInt ≤ k.toInt ∧ ((G.1 65 j).toInt < 0 ∨ k.toInt < (G.1 65 j).toInt)
def sgl (V : PV) (G : GS) (n j : Nat) (a : Int) : Prop := LWF V (G.1 58 6) (G.1 61 j).toInt.toNat (G.1 62 j).toInt.toNat (2 ^ n) ((G.1 63 j).toInt + a)
def nst (V : PV) (G : GS) (j : Nat) (a : Int) : Prop := 0 ≤ (G.1 63 j).toInt + a ∧ (G.1 63 j).toInt + a + (wk V (G.1 61 j).toInt.toNat).1 ≤ (stl V (G.1 62 j).toInt.toNat : Int)
def ftt (V : PV) (G : GS) (k : Int32) (n m : Nat) : Prop := ∀ j, j < m → ctd G k j → sgl V G n j 0
noncomputable def fbI (P : Nat → Prop) : Nat → Int32
  | 0 => 0
  | n + 1 => fbI P n ||| pif (P n) (1 <<< (Int32.ofNat n &&& 31)) 0
noncomputable def ncn (P : Int → Prop) : Nat → Int
  | 0 => 0
  | i + 1 => ncn P i + pif (P ((i : Int) - 3)) 1 0
noncomputable def prd (C : Nat → Prop) (f : Nat → Int) : Nat → Int64
  | 0 => 1
  | j + 1 => pif (C j) (prd C f j * (Int32.ofInt (f j)).toInt64) (prd C f j)
theorem ncn_y {P : Int → Prop} {i : Nat} {x : Int} (h : P x) (hx : x = (i : Int) - 3) : ncn P (i + 1) = ncn P i + 1 := by
  subst hx
  rw [ncn, pif_p h]
theorem ncn_n {P : Int → Prop} {i : Nat} {x : Int} (h : ¬ P x) (hx : x = (i : Int) - 3) : ncn P (i + 1) = ncn P i := by
  subst hx
  rw [ncn, pif_n h]
  omega
theorem ncn_r (P : Int → Prop) : ∀ i : Nat, 0 ≤ ncn P i ∧ ncn P i ≤ (i : Int)
  | 0 => ⟨Int.le_refl _, Int.le_refl _⟩
  | i + 1 => by
    have h := ncn_r P i
    by_cases q : P ((i : Int) - 3)
    · rw [ncn_y q rfl]; omega
    · rw [ncn_n q rfl]; omega
theorem ncn_c {P Q : Int → Prop} : ∀ i : Nat, (∀ j : Nat, j < i → (P ((j : Int) - 3) ↔ Q ((j : Int) - 3))) → ncn P i = ncn Q i
  | 0, _ => rfl
  | i + 1, h => by
    have e := ncn_c i (fun j hj => h j (by omega))
    by_cases q : P ((i : Int) - 3)
    · rw [ncn_y q rfl, ncn_y ((h i (by omega)).mp q) rfl, e]
    · rw [ncn_n q rfl, ncn_n (fun q2 => q ((h i (by omega)).mpr q2)) rfl, e]
theorem prd_y {C : Nat → Prop} {f : Nat → Int} {j : Nat} {x : Int32} (h : C j) (hx : x.toInt = f j) : prd C f (j + 1) = prd C f j * x.toInt64 := by
  rw [prd, pif_p h, ← hx, Int32.ofInt_toInt]
theorem prd_n {C : Nat → Prop} {f : Nat → Int} {j : Nat} (h : ¬ C j) : prd C f (j + 1) = prd C f j := by
  rw [prd, pif_n h]
theorem ftt_n {V : PV} {G : GS} {k : Int32} {n m : Nat} (h : ctd G k m → sgl V G n m 0) : ftt V G k n (m + 1) ↔ ftt V G k n m := by
  constructor
  · intro q j hj
    exact q j (by omega)
  · intro q j hj hc
    by_cases e : j = m
    · subst e
      exact h hc
    · exact q j (by omega) hc
theorem k_counts_eq {p0 p1 r : Int32} {G Gq Gn : GS} {j : Nat} (h : P_sCounts p0 p1 Gq r Gn) (hp : p0.toInt = (j : Int)) (h64 : Gq.1 64 = G.1 64) (h65 : Gq.1 65 = G.1 65) (hm : -1 ≤ (G.1 65 j).toInt) : Gq = Gn ∧ (r.toInt ≠ 0 ↔ ctd G p1 j) := by
  have z : (0 : Int32).toInt = 0 := rfl
  have o : (1 : Int32).toInt = 1 := rfl
  obtain ⟨-, hF, -, y1, e1, hh⟩ := h
  have e1' : y1 = Gq.1 64 p0.toInt.toNat := e1
  rw [tn_r hp, h64] at e1'
  refine ⟨hF.nil, ?_⟩
  unfold ctd
  rw [← e1']
  rcases hh with ⟨c, rfl, -⟩ | ⟨c, y3, e3, hh⟩
  · exact ⟨fun q => absurd z q, fun q => by have := q.1; omega⟩
  have e3' : y3 = Gq.1 65 p0.toInt.toNat := e3
  rw [tn_r hp, h65] at e3'
  rw [← e3'] at hm ⊢
  rcases hh with ⟨d, rfl, -⟩ | ⟨d, y5, e5, hh⟩
  · exact ⟨fun _ => ⟨c, Or.inl (by omega)⟩, fun _ => by rw [o]; decide⟩
  have e5' : y5 = y3 := e5.trans e3.symm
  rw [e5'] at hh
  rcases hh with ⟨f, rfl, -⟩ | ⟨f, rfl, -⟩
  · exact ⟨fun q => absurd z q, fun q => by have := q.2; omega⟩
  · exact ⟨fun _ => ⟨c, Or.inr f⟩, fun _ => by rw [o]; decide⟩
theorem q_counts_eq {p0 p1 r : Int32} {G Gq Gn : GS} {j : Nat} (h : Q_counts p0 p1 Gq r Gn) (hp : p0.toInt = (j : Int)) (h115 : (Gq.1 115 j).toInt = (G.1 64 j).toInt) (h116 : (Gq.1 116 j).toInt = (G.1 65 j).toInt) : Gq = Gn ∧ (r.toInt ≠ 0 ↔ ctd G p1 j) := by
  have z : (0 : Int32).toInt = 0 := rfl
  have o : (1 : Int32).toInt = 1 := rfl
  obtain ⟨-, hF, -, y1, e1, hh⟩ := h
  have e1' : y1 = Gq.1 115 p0.toInt.toNat := e1
  rw [tn_r hp] at e1'
  rw [← e1'] at h115
  refine ⟨hF.nil, ?_⟩
  unfold ctd
  rw [← h115]
  rcases hh with ⟨c, rfl, -⟩ | ⟨c, y3, e3, hh⟩
  · exact ⟨fun q => absurd z q, fun q => by have := q.1; omega⟩
  have e3' : y3 = Gq.1 116 p0.toInt.toNat := e3
  rw [tn_r hp] at e3'
  rw [← e3'] at h116
  rw [← h116]
  rcases hh with ⟨d, rfl, -⟩ | ⟨d, y5, e5, hh⟩
  · exact ⟨fun _ => ⟨c, Or.inl (by omega)⟩, fun _ => by rw [o]; decide⟩
  have e5' : y5 = y3 := e5.trans e3.symm
  rw [e5'] at hh
  rcases hh with ⟨f, rfl, -⟩ | ⟨f, rfl, -⟩
  · exact ⟨fun q => absurd z q, fun q => by have := q.2; omega⟩
  · exact ⟨fun _ => ⟨c, Or.inr f⟩, fun _ => by rw [o]; decide⟩
theorem p2_lt {n : Nat} (h : n ≤ 5) : 2 ^ n < 64 := Nat.lt_of_le_of_lt (Nat.pow_le_pow_right (by decide) h) (by decide)
/-- what the reference lays for a SIGHT -/
theorem m_ls {V : PV} {y0 y1 y2 c : Int32} {G Gq Gn : GS} {j n : Nat} (hl : Q_layStreet y0 y1 y2 Gq Gn) (e0 : y0.toInt = (G.1 61 j).toInt) (e1 : y1.toInt = (G.1 62 j).toInt) (e2 : y2 = 1 <<< (c &&& 31)) (hc : c.toInt = (n : Int)) (hn : n < V.2.2.1.length) (hd : Gq.1 110 6 = G.1 58 6) (hR : RV V Gq) (hV : PVok V) (hok : ∀ s i, s < V.1.length → i < stl V s → ICok (icl V s i)) (hw : inW V (G.1 61 j)) (hs : inS V (G.1 62 j)) : ((Gn.1 66 59).toInt = (stl V (G.1 62 j).toInt.toNat : Int) ∧ (Gn.1 66 60).toInt = (wk V (G.1 61 j).toInt.toNat).1) ∧ ∀ x : Nat, x < 512 → ((Gn.1 98 x).toInt = 0 ∨ (Gn.1 98 x).toInt = 1) ∧ ((Gn.1 98 x).toInt ≠ 0 ↔ LWF V (G.1 58 6) (G.1 61 j).toInt.toNat (G.1 62 j).toInt.toNat (2 ^ n) (x : Int)) := by
  obtain ⟨hwl, hwn⟩ := hw.n
  obtain ⟨hsl, hsn⟩ := hs.n
  have h5 : n ≤ 5 := by have := hV.1; omega
  obtain ⟨a, b⟩ := m_lay hl (e0.trans hwn) hwl (e1.trans hsn) hsl (show y2.toInt = ((2 ^ n : Nat) : Int) by rw [e2]; exact sh_n hc (by omega)) (p2_lt h5) hR hV (fun i hi => hok _ i hsl hi)
  rw [hd] at b
  exact ⟨⟨a.1, a.2.1⟩, b⟩
theorem q_fits_eq {V : PV} {p0 r : Int32} {G Gq G1 : GS} (h : Q_fits p0 Gq r G1) (hFq : Fr [37, 38, 39] [(6, 3)] G Gq) (hR : RV V G) (hV : PVok V) (hE : ER V G) (hSV : SV V G) (hw1 : ∀ w, w < V.2.1.length → WKok (wk V w)) (hok : ∀ s i, s < V.1.length → i < stl V s → ICok (icl V s i)) (hz : 0 ≤ (G.1 31 5).toInt) : r = fbI (fun n => ftt V G p0 n (G.1 31 5).toInt.toNat) V.2.2.1.length := by
  have z : (0 : Int32).toInt = 0 := rfl
  have o : (1 : Int32).toInt = 1 := rfl
  obtain ⟨hc85, hS, hO⟩ := hSV
  have h54 : (Gq.1 66 54).toInt = (V.2.2.1.length : Int) := by rw [hFq.i 66 54 (by decide) (by decide)]; exact hR.2.2.1.1
  have h85 : (Gq.1 66 85).toInt = (G.1 31 5).toInt := by rw [hFq.i 66 85 (by decide) (by decide), hc85]
  have hz31 : ((0 : Nat) : Int) ≤ (G.1 31 5).toInt := hz
  obtain ⟨-, -, x5, x6, G2, hl, -, -, -, -, c, rfl, -⟩ := h
  have hI := hl (fun q => Fr [76, 97, 98] [(66, 59), (66, 60), (66, 61), (66, 62), (66, 63)] Gq q.2.2 ∧ ∃ n : Nat, n ≤ V.2.2.1.length ∧ q.1.toInt = (n : Int) ∧ q.2.1 = fbI (fun n => ftt V G p0 n (G.1 31 5).toInt.toNat) n) ⟨Fr.rf, 0, Nat.zero_le _, rfl, rfl⟩ (by
    rintro ⟨a1, a2, b⟩ ⟨n1, n2, bn⟩ ⟨iF, n, i0, i1, i2⟩ ⟨x1, x2, g, u1, u2, gn, q1, q2, -, -, -, c1, w18, w19, W, hin, -, -, -, hFin, hh⟩
    simp only [Prod.mk.injEq] at q1 q2
    obtain ⟨rfl, rfl, rfl⟩ := q1
    obtain ⟨rfl, rfl, rfl⟩ := q2
    simp only at iF i1 i2
    have hn : n < V.2.2.1.length := by omega
    have hIn := hin (fun q => Fr [76, 97, 98] [(66, 59), (66, 60), (66, 61), (66, 62), (66, 63)] Gq q.2.2 ∧ ∃ j : Nat, (j : Int) ≤ (G.1 31 5).toInt ∧ q.1.toInt = (j : Int) ∧ (q.2.1.toInt ≠ 0 ↔ ftt V G p0 n j)) ⟨iF, 0, hz31, rfl, ⟨fun _ j hj => absurd hj (Nat.not_lt_zero _), fun _ => by show (1 : Int32).toInt ≠ 0; rw [o]; decide⟩⟩ (by
      rintro ⟨d1, d2, e⟩ ⟨m1, m2, en⟩ ⟨jF, j, j0, j1, j2⟩ ⟨v1, v2, k, s1, s2, kn, t1, t2, -, -, -, f1, f2, r38, G39, hct, hd⟩
      simp only [Prod.mk.injEq] at t1 t2
      obtain ⟨rfl, rfl, rfl⟩ := t1
      obtain ⟨rfl, rfl, rfl⟩ := t2
      simp only at jF j1 j2
      have hj : (j : Int) < (G.1 31 5).toInt := by omega
      obtain ⟨s61, s62, s63, s64, s65, s66⟩ := hS j hj
      obtain ⟨o1, o2, o3, o4⟩ := hO j hj
      obtain ⟨rfl, kc⟩ := q_counts_eq (G := G) hct j1 (by rw [jF.row1 115 (by decide) (by decide), hFq.row1 115 (by decide) (by decide), s64]) (by rw [jF.row1 116 (by decide) (by decide), hFq.row1 116 (by decide) (by decide), s65])
      rcases hd with ⟨f, y57, e57, ex, e6, eG⟩ | ⟨f, y45, e45, y46, e46, y47, e47, G50, hlay, y54, e54, y55, e55, y56, e56, ex, e6, eG⟩
      · subst eG
        refine ⟨jF, j + 1, by omega, by show m1.toInt = _; rw [← ex]; omega, ?_⟩
        show m2.toInt ≠ 0 ↔ _
        rw [← e6]
        exact j2.trans (ftt_n (fun q => absurd f (kc.mpr q))).symm
      · subst eG
        have g45 : y45 = e.1 112 j := by have : y45 = e.1 112 d1.toInt.toNat := e45; rw [this, tn_r j1]
        have g46 : y46 = e.1 113 j := by have : y46 = e.1 113 d1.toInt.toNat := e46; rw [this, tn_r j1]
        obtain ⟨-, hx⟩ := m_ls (G := G) (n := n) hlay (by rw [g45, jF.row1 112 (by decide) (by decide), hFq.row1 112 (by decide) (by decide), s61]) (by rw [g46, jF.row1 113 (by decide) (by decide), hFq.row1 113 (by decide) (by decide), s62]) e47 i1 hn (by rw [jF.row1 110 (by decide) (by decide), hFq.row1 110 (by decide) (by decide), hE.day.2]) ((hR.fr hFq (by decide) (by decide)).fr jF (by decide) (by decide)) hV hok o1 o2
        have jF2 := jF.call hlay.2.1 (by decide) (by decide)
        have g54 : y54.toInt = (G.1 63 j).toInt := by
          have : y54 = G50.1 114 d1.toInt.toNat := e54
          rw [this, tn_r j1, jF2.row1 114 (by decide) (by decide), hFq.row1 114 (by decide) (by decide), s63]
        have g55 : y55 = G50.1 98 y54.toInt.toNat := e55
        have hw := (hw1 _ o1.n.1).1
        have hs4 : (stl V (G.1 62 j).toInt.toNat : Int) ≤ 400 := (hR.1.2.2 _ o2.n.1).2
        obtain ⟨h1, h2⟩ := hx y54.toInt.toNat (by omega)
        rw [← g55] at h1 h2
        refine ⟨jF2, j + 1, by omega, by show m1.toInt = _; rw [← ex]; omega, ?_⟩
        show m2.toInt ≠ 0 ↔ _
        rw [← e6]
        have hcj : ctd G p0 j := kc.mp f
        have e9 : ((y54.toInt.toNat : Nat) : Int) = (G.1 63 j).toInt + 0 := by omega
        rw [e9] at h2
        have hft : ftt V G p0 n j := j2.mp f2
        constructor
        · intro q
          exact (ftt_n (fun _ => h2.mp q)).mpr hft
        · intro q
          exact h2.mpr (q j (by omega) hcj))
    obtain ⟨jF, j, j0, j1, j2⟩ := hIn
    simp only at jF j1 j2
    have hval : ∀ y : Int32, (w19.toInt = 0 → y = 0) → (w19.toInt ≠ 0 → y = 1 <<< (a1 &&& 31)) → ((w19.toInt ≠ 0) ↔ ftt V G p0 n (G.1 31 5).toInt.toNat) → a2 ||| y = fbI (fun n => ftt V G p0 n (G.1 31 5).toInt.toNat) (n + 1) := by
      intro y y0 y1 hy
      have e5 : a1 = Int32.ofNat n := by rw [nat_i (x := a1) (by omega), tn_r i1]
      by_cases q : w19.toInt = 0
      · rw [fbI, pif_n (fun w => (hy.mpr w) q), ← i2, y0 q]
      · rw [fbI, pif_p (hy.mp q), ← i2, y1 q, e5]
    rcases hh with ⟨f, ⟨g0, y29, e29, y30, e30, ex, e6, eG⟩ | ⟨g0, y31, e31, y32, e32, y33, e33, ex, e6, eG⟩⟩ | ⟨f, g0, y36, e36, y37, e37, ex, e6, eG⟩
    · have ej : j = (G.1 31 5).toInt.toNat := by omega
      subst eG
      refine ⟨jF, n + 1, by omega, by show n1.toInt = _; rw [← ex]; omega, ?_⟩
      show n2 = _
      rw [← e6, e29]
      exact hval 0 (fun _ => rfl) (fun q => absurd g0 q) (by rw [← ej]; exact j2)
    · have ej : j = (G.1 31 5).toInt.toNat := by omega
      subst eG
      refine ⟨jF, n + 1, by omega, by show n1.toInt = _; rw [← ex]; omega, ?_⟩
      show n2 = _
      rw [← e6, e32]
      exact hval y31 (fun q => absurd q g0) (fun _ => e31) (by rw [← ej]; exact j2)
    · subst eG
      refine ⟨jF, n + 1, by omega, by show n1.toInt = _; rw [← ex]; omega, ?_⟩
      show n2 = _
      rw [← e6, e36]
      refine hval 0 (fun _ => rfl) (fun q => absurd g0 q) ⟨fun q => absurd g0 q, fun q => j2.mpr (fun i hi => q i (by omega))⟩)
  obtain ⟨-, n, i0, i1, i2⟩ := hI
  simp only at i1 i2
  have en : n = V.2.2.1.length := by omega
  rw [← en]
  exact i2
theorem k_ls_1 {V : PV} {p0 p1 p2 r : Int32} {G Gq Gn : GS} {j n : Nat} (h : P_wLSight_1 p0 p1 p2 Gq r Gn) (hp : p0.toInt = (j : Int)) (hj : (j : Int) < (G.1 31 5).toInt) (hq : p1.toInt = (n : Int)) (hn : n < V.2.2.1.length) (h2 : -3 ≤ p2.toInt ∧ p2.toInt ≤ 3) (hX : CX_1 V Gq) (hF : Fr [37, 38, 39] [(6, 3)] G Gq) (hI : IV_1 V G) (hw1 : ∀ w, w < V.2.1.length → WKok (wk V w)) : CX_1 V Gn ∧ Fr [37, 38, 39] [(6, 3)] G Gn ∧ (r.toInt ≠ 0 ↔ sgl V G n j p2.toInt) := by
  have hF1 := h.2.1
  have hX1 := CX_1.ls hX h hI.2.1.1.2.1 hI.2.2.1
  refine ⟨hX1, hF.call hF1 (by decide) (by decide), ?_⟩
  obtain ⟨hW, hR, hV, hCa, hE, hc, hS, hO⟩ := hI
  obtain ⟨-, -, -, y1, e1, y2, e2, y3, e3, r4, G5, htd, G10, hfi, y14, e14, y15, e15, y16, e16, r17, G18, hil, rfl, -⟩ := h
  obtain ⟨rfl, e4⟩ := k_today_eq htd
  obtain ⟨a1, a2, a3, a4⟩ := hO j hj
  obtain ⟨hwl, hwn⟩ := a1.n
  obtain ⟨hsl, hsn⟩ := a2.n
  have hFq := hF.call hfi.2.1 (by decide) (by decide)
  have f1 : y1 = G.1 63 j := by have : y1 = Gq.1 63 p0.toInt.toNat := e1; rw [this, tn_r hp, hF.row1 63 (by decide) (by decide)]
  have f3 : y3 = G.1 62 j := by have : y3 = Gq.1 62 p0.toInt.toNat := e3; rw [this, tn_r hp, hF.row1 62 (by decide) (by decide)]
  have f14 : y14 = G.1 61 j := by have : y14 = G10.1 61 p0.toInt.toNat := e14; rw [this, tn_r hp, hFq.row1 61 (by decide) (by decide)]
  have f15 : y15 = G.1 62 j := by have : y15 = G10.1 62 p0.toInt.toNat := e15; rw [this, tn_r hp, hFq.row1 62 (by decide) (by decide)]
  have f4 : r4 = G.1 58 6 := by rw [e4, hF.row1 58 (by decide) (by decide)]
  have hlen : (stl V (G.1 62 j).toInt.toNat : Int) ≤ 400 := (hW.1.2 _ hsl).2
  have hw0 := (hw1 _ hwl).1
  have t2 : y2.toInt = (G.1 63 j).toInt + p2.toInt := by rw [tI_add e2 (by rw [f1]; omega) (by rw [f1]; omega), f1]
  obtain ⟨hFo, -⟩ := k_find_1 hfi (by rw [f3]; exact hsn) hsl hR.1.2.1 hX.2.1 hV (by rw [f4]; exact hE.day.1.1) hX.1
  rw [f4] at hFo
  have h5 : n ≤ 5 := by have := hV.1; omega
  obtain ⟨-, kl⟩ := k_isLawful_1 hil (by rw [f14]; exact hwn) hwl (by rw [f15]; exact hsn) hsl (show y16.toInt = ((2 ^ n : Nat) : Int) by rw [e16]; exact sh_n hq (by omega)) (p2_lt h5) (hX.2.1.fr hfi.2.1 (by decide) (by decide)) hV hFo
  rw [t2] at kl
  exact kl
theorem k_near_1 {V : PV} {p0 p1 p2 r : Int32} {G Gq Gn : GS} {j n : Nat} (h : P_wNear_1 p0 p1 p2 Gq r Gn) (hp : p0.toInt = (j : Int)) (hj : (j : Int) < (G.1 31 5).toInt) (hq : p1.toInt = (n : Int)) (hn : n < V.2.2.1.length) (hX : CX_1 V Gq) (hF : Fr [37, 38, 39] [(6, 3)] G Gq) (hI : IV_1 V G) (hw1 : ∀ w, w < V.2.1.length → WKok (wk V w)) : CX_1 V Gn ∧ Fr [37, 38, 39] [(6, 3)] G Gn ∧ r.toInt = ncn (fun a => nst V G j a ∧ (p2.toInt ≠ 0 → sgl V G n j a)) 7 := by
  obtain ⟨-, -, x5, x6, G2, hl, -, -, -, c, rfl, rfl⟩ := h
  obtain ⟨P, hP⟩ : ∃ P, P = (fun a => nst V G j a ∧ (p2.toInt ≠ 0 → sgl V G n j a)) := ⟨_, rfl⟩
  have hPi : ∀ a, P a ↔ (nst V G j a ∧ (p2.toInt ≠ 0 → sgl V G n j a)) := fun a => by rw [hP]
  rw [← hP]
  have o1 : (1 : Int32).toInt = 1 := rfl
  have hO := hI.2.2.2.2.2.2.2 j hj
  have hIn := hl (fun q => CX_1 V q.2.2 ∧ Fr [37, 38, 39] [(6, 3)] G q.2.2 ∧ ∃ i : Nat, i ≤ 7 ∧ q.1.toInt = (i : Int) - 3 ∧ q.2.1.toInt = ncn P i) ⟨hX, hF, 0, by omega, rfl, rfl⟩ (by
    rintro ⟨a1, a2, b⟩ ⟨n1, n2, bn⟩ ⟨iX, iF, i, i0, i1, i2⟩ ⟨x1, x2, g, u1, u2, gn, q1, q2, -, -, c1, y13, e13, y14, e14, y15, e15, y16, e16, r19, G20, hst, hd⟩
    simp only [Prod.mk.injEq] at q1 q2
    obtain ⟨rfl, rfl, rfl⟩ := q1
    obtain ⟨rfl, rfl, rfl⟩ := q2
    simp only at iX iF i1 i2
    obtain ⟨s1, s2, s3, s4⟩ := hO
    have f13 : y13 = G.1 61 j := by have : y13 = b.1 61 p0.toInt.toNat := e13; rw [this, tn_r hp, iF.row1 61 (by decide) (by decide)]
    have f14 : y14 = G.1 62 j := by have : y14 = b.1 62 p0.toInt.toNat := e14; rw [this, tn_r hp, iF.row1 62 (by decide) (by decide)]
    have f15 : y15 = G.1 63 j := by have : y15 = b.1 63 p0.toInt.toNat := e15; rw [this, tn_r hp, iF.row1 63 (by decide) (by decide)]
    have hw0 := (hw1 _ s1.n.1).1
    have hlen : (stl V (G.1 62 j).toInt.toNat : Int) ≤ 400 := (hI.1.1.2 _ s2.n.1).2
    have t16 : y16.toInt = (G.1 63 j).toInt + a1.toInt := by rw [tI_add e16 (by rw [f15]; omega) (by rw [f15]; omega), f15]
    obtain ⟨rfl, ks⟩ := k_standsV_1 hst iX.2.1
    rw [f13, f14, t16] at ks
    have hr := ncn_r P i
    have ks2 : r19.toInt ≠ 0 ↔ nst V G j a1.toInt := ⟨fun w => ⟨(ks.mp w).2.2.1, (ks.mp w).2.2.2⟩, fun w => ks.mpr ⟨s1, s2, w.1, w.2⟩⟩
    clear ks
    rcases hd with ⟨f, y26, t26, ex, e6, eG⟩ | ⟨f, ⟨g2, y28, e28, y29, t29, ex, e6, eG⟩ | ⟨g2, r30, G31, hls, hd⟩⟩
    · subst eG
      refine ⟨iX, iF, i + 1, by omega, by show n1.toInt = _; rw [← ex]; omega, ?_⟩
      show n2.toInt = _
      rw [← e6, ncn_n (x := a1.toInt) (fun w => (ks2.mpr ((hPi _).mp w).1) f) i1, i2]
    · subst eG
      refine ⟨iX, iF, i + 1, by omega, by show n1.toInt = _; rw [← ex]; omega, ?_⟩
      show n2.toInt = _
      rw [← e6, ncn_y (x := a1.toInt) ((hPi _).mpr ⟨ks2.mp f, fun w => absurd g2 w⟩) i1, tI_add e28 (by rw [o1]; omega) (by rw [o1]; omega), i2, o1]
    · obtain ⟨kX, kF, kl⟩ := k_ls_1 hls hp hj hq hn (by omega) iX iF hI hw1
      rcases hd with ⟨k, y37, t37, ex, e6, eG⟩ | ⟨k, y38, e38, y39, t39, ex, e6, eG⟩
      · subst eG
        refine ⟨kX, kF, i + 1, by omega, by show n1.toInt = _; rw [← ex]; omega, ?_⟩
        show n2.toInt = _
        rw [← e6, ncn_n (x := a1.toInt) (fun w => (kl.mpr (((hPi _).mp w).2 g2)) k) i1, i2]
      · subst eG
        refine ⟨kX, kF, i + 1, by omega, by show n1.toInt = _; rw [← ex]; omega, ?_⟩
        show n2.toInt = _
        rw [← e6, ncn_y (x := a1.toInt) ((hPi _).mpr ⟨ks2.mp f, fun _ => kl.mp k⟩) i1, tI_add e38 (by rw [o1]; omega) (by rw [o1]; omega), i2, o1])
  obtain ⟨iX, iF, i, i0, i1, i2⟩ := hIn
  simp only at iX iF i1 i2
  have e7 : i = 7 := by omega
  subst e7
  exact ⟨iX, iF, i2⟩
theorem fits_1 {V : PV} {p0 q0 r r' : Int32} {G Ga Gb : GS} (hx : P_Wfits_1 p0 G r Ga) (hm : Q_fits q0 Ga r' Gb) (i0 : p0.toInt = q0.toInt) (hI : IV_1 V G) (hg : gW G = 1) (hz : 0 ≤ (G.1 31 5).toInt) : r.toInt = r'.toInt ∧ IV_1 V Gb := by
  obtain rfl := Int32.toInt_inj.mp i0
  have hw1 : ∀ w, w < V.2.1.length → WKok (wk V w) := fun w hw => hI.2.1.wk hg hw
  refine ⟨?_, (hI.ca hx.2.1 (ca_fits_1 hx hI) (by decide) (by decide)).fr hm.2.1 (by decide) (by decide) (by decide)⟩
  have o : (1 : Int32).toInt = 1 := rfl
  have z : (0 : Int32).toInt = 0 := rfl
  rw [q_fits_eq hm hx.2.1 hI.2.1 hI.2.2.1 hI.2.2.2.2.1 hI.2.2.2.2.2 hw1 (fun s i hs hi => hI.1.ok hs i hi) hz]
  have h11 : (G.1 1 11).toInt = (V.2.2.1.length : Int) := hI.1.2.2.1.1
  obtain ⟨-, -, x5, x6, G2, hl, -, -, -, -, c, rfl, -⟩ := hx
  have hI2 := hl (fun q => CX_1 V q.2.2 ∧ Fr [37, 38, 39] [(6, 3)] G q.2.2 ∧ ∃ n : Nat, n ≤ V.2.2.1.length ∧ q.1.toInt = (n : Int) ∧ q.2.1 = fbI (fun n => ftt V G p0 n (G.1 31 5).toInt.toNat) n) ⟨hI.cx, Fr.rf, 0, Nat.zero_le _, rfl, rfl⟩ (by
    rintro ⟨a1, a2, b⟩ ⟨n1, n2, bn⟩ ⟨iX, iF, n, i0, i1, i2⟩ ⟨x1, x2, g, u1, u2, gn, q1, q2, -, -, -, c1, r14, G15, hfa, hd⟩
    simp only [Prod.mk.injEq] at q1 q2
    obtain ⟨rfl, rfl, rfl⟩ := q1
    obtain ⟨rfl, rfl, rfl⟩ := q2
    simp only at iX iF i1 i2
    have hn : n < V.2.2.1.length := by omega
    have e5 : a1 = Int32.ofNat n := by rw [nat_i (x := a1) (by omega), tn_r i1]
    have kX := CX_1.fa iX hfa hI.2.1.1.2.1 hI.2.2.1
    have kF := iF.call hfa.2.1 (by decide) (by decide)
    have kf : r14.toInt ≠ 0 ↔ ftt V G p0 n (G.1 31 5).toInt.toNat := by
      clear hd
      obtain ⟨-, -, -, w5, W, hlp, -, -, -, hh⟩ := hfa
      have hS := hI.2.2.2.2.2.2.1
      have h31 : (b.1 31 5).toInt = (G.1 31 5).toInt := by rw [iF.i 31 5 (by decide) (by decide)]
      have hIn := hlp (fun q => CX_1 V q.2 ∧ Fr [37, 38, 39] [(6, 3)] G q.2 ∧ ∃ j : Nat, (j : Int) ≤ (G.1 31 5).toInt ∧ q.1.toInt = (j : Int) ∧ ftt V G p0 n j) ⟨iX, iF, 0, hz, rfl, fun j hj => absurd hj (Nat.not_lt_zero _)⟩ (by
        rintro ⟨d1, e⟩ ⟨m1, en⟩ ⟨jX, jF, j, j0, j1, j2⟩ ⟨v1, k, s1, kn, t1, t2, -, -, f1, r12, G13, hct, hd⟩
        obtain ⟨rfl, rfl⟩ := Prod.mk.inj t1
        obtain ⟨rfl, rfl⟩ := Prod.mk.inj t2
        simp only at jX jF j1 j2
        have hj : (j : Int) < (G.1 31 5).toInt := by omega
        obtain ⟨s61, s62, s63, s64, s65, s66⟩ := hS j hj
        obtain ⟨rfl, kc⟩ := k_counts_eq (G := G) hct j1 (jF.row1 64 (by decide) (by decide)) (jF.row1 65 (by decide) (by decide)) s66
        rcases hd with ⟨f, y19, e19, ex, eG⟩ | ⟨f, r20, G21, hls, g2, y27, e27, ex, eG⟩
        · subst eG
          exact ⟨jX, jF, j + 1, by omega, by show m1.toInt = _; rw [← ex]; omega, (ftt_n (fun q => absurd f (kc.mpr q))).mpr j2⟩
        · subst eG
          obtain ⟨kX, kF, kl⟩ := k_ls_1 hls j1 hj i1 hn ⟨by decide, by decide⟩ jX jF hI hw1
          exact ⟨kX, kF, j + 1, by omega, by show m1.toInt = _; rw [← ex]; omega, (ftt_n (fun _ => kl.mp g2)).mpr j2⟩)
      obtain ⟨jX, jF, j, j0, j1, j2⟩ := hIn
      simp only at jX jF j1 j2
      rcases hh with ⟨f, rfl, -⟩ | ⟨f, r12, G13, hct, g1, r20, G21, hls, g2, rfl, -⟩
      · have ej : j = (G.1 31 5).toInt.toNat := by omega
        rw [← ej]
        exact ⟨fun _ => j2, fun _ => by rw [o]; decide⟩
      · have hj : (j : Int) < (G.1 31 5).toInt := by omega
        obtain ⟨s61, s62, s63, s64, s65, s66⟩ := hS j hj
        obtain ⟨rfl, kc⟩ := k_counts_eq (G := G) hct j1 (jF.row1 64 (by decide) (by decide)) (jF.row1 65 (by decide) (by decide)) s66
        obtain ⟨-, -, kl⟩ := k_ls_1 hls j1 hj i1 hn ⟨by decide, by decide⟩ jX jF hI hw1
        exact ⟨fun q => absurd z q, fun q => absurd g2 (kl.mpr (q j (by omega) (kc.mp g1)))⟩
    rcases hd with ⟨f, y21, e21, y22, t22, ex, e6, eG⟩ | ⟨f, y23, e23, y24, e24, y25, t25, ex, e6, eG⟩
    · subst eG
      refine ⟨kX, kF, n + 1, by omega, by show n1.toInt = _; rw [← ex]; omega, ?_⟩
      show n2 = _
      rw [← e6, e21, fbI, pif_n (fun w => (kf.mpr w) f), ← i2]
    · subst eG
      refine ⟨kX, kF, n + 1, by omega, by show n1.toInt = _; rw [← ex]; omega, ?_⟩
      show n2 = _
      rw [← e6, e24, e23, fbI, pif_p (kf.mp f), ← i2, e5])
  obtain ⟨-, -, n, i0, i1, i2⟩ := hI2
  simp only at i1 i2
  have en : n = V.2.2.1.length := by omega
  rw [← en, i2]
theorem k_ls_2 {V : PV} {p0 p1 p2 r : Int32} {G Gq Gn : GS} {j n : Nat} (h : P_wLSight_2 p0 p1 p2 Gq r Gn) (hp : p0.toInt = (j : Int)) (hj : (j : Int) < (G.1 31 5).toInt) (hq : p1.toInt = (n : Int)) (hn : n < V.2.2.1.length) (h2 : -3 ≤ p2.toInt ∧ p2.toInt ≤ 3) (hX : CX_2 V Gq) (hF : Fr [37, 38, 39] [(6, 3)] G Gq) (hI : IV_2 V G) (hw1 : ∀ w, w < V.2.1.length → WKok (wk V w)) : CX_2 V Gn ∧ Fr [37, 38, 39] [(6, 3)] G Gn ∧ (r.toInt ≠ 0 ↔ sgl V G n j p2.toInt) := by
  have hF1 := h.2.1
  have hX1 := CX_2.ls hX h hI.2.1.1.2.1 hI.2.2.1
  refine ⟨hX1, hF.call hF1 (by decide) (by decide), ?_⟩
  obtain ⟨hW, hR, hV, hCa, hE, hc, hS, hO⟩ := hI
  obtain ⟨-, -, -, y1, e1, y2, e2, y3, e3, r4, G5, htd, G10, hfi, y14, e14, y15, e15, y16, e16, r17, G18, hil, rfl, -⟩ := h
  obtain ⟨rfl, e4⟩ := k_today_eq htd
  obtain ⟨a1, a2, a3, a4⟩ := hO j hj
  obtain ⟨hwl, hwn⟩ := a1.n
  obtain ⟨hsl, hsn⟩ := a2.n
  have hFq := hF.call hfi.2.1 (by decide) (by decide)
  have f1 : y1 = G.1 63 j := by have : y1 = Gq.1 63 p0.toInt.toNat := e1; rw [this, tn_r hp, hF.row1 63 (by decide) (by decide)]
  have f3 : y3 = G.1 62 j := by have : y3 = Gq.1 62 p0.toInt.toNat := e3; rw [this, tn_r hp, hF.row1 62 (by decide) (by decide)]
  have f14 : y14 = G.1 61 j := by have : y14 = G10.1 61 p0.toInt.toNat := e14; rw [this, tn_r hp, hFq.row1 61 (by decide) (by decide)]
  have f15 : y15 = G.1 62 j := by have : y15 = G10.1 62 p0.toInt.toNat := e15; rw [this, tn_r hp, hFq.row1 62 (by decide) (by decide)]
  have f4 : r4 = G.1 58 6 := by rw [e4, hF.row1 58 (by decide) (by decide)]
  have hlen : (stl V (G.1 62 j).toInt.toNat : Int) ≤ 400 := (hW.1.2 _ hsl).2
  have hw0 := (hw1 _ hwl).1
  have t2 : y2.toInt = (G.1 63 j).toInt + p2.toInt := by rw [tI_add e2 (by rw [f1]; omega) (by rw [f1]; omega), f1]
  obtain ⟨hFo, -⟩ := k_find_2 hfi (by rw [f3]; exact hsn) hsl hR.1.2.1 hX.2.1 hV (by rw [f4]; exact hE.day.1.1) hX.1
  rw [f4] at hFo
  have h5 : n ≤ 5 := by have := hV.1; omega
  obtain ⟨-, kl⟩ := k_isLawful_2 hil (by rw [f14]; exact hwn) hwl (by rw [f15]; exact hsn) hsl (show y16.toInt = ((2 ^ n : Nat) : Int) by rw [e16]; exact sh_n hq (by omega)) (p2_lt h5) (hX.2.1.fr hfi.2.1 (by decide) (by decide)) hV hFo
  rw [t2] at kl
  exact kl
theorem k_near_2 {V : PV} {p0 p1 p2 r : Int32} {G Gq Gn : GS} {j n : Nat} (h : P_wNear_2 p0 p1 p2 Gq r Gn) (hp : p0.toInt = (j : Int)) (hj : (j : Int) < (G.1 31 5).toInt) (hq : p1.toInt = (n : Int)) (hn : n < V.2.2.1.length) (hX : CX_2 V Gq) (hF : Fr [37, 38, 39] [(6, 3)] G Gq) (hI : IV_2 V G) (hw1 : ∀ w, w < V.2.1.length → WKok (wk V w)) : CX_2 V Gn ∧ Fr [37, 38, 39] [(6, 3)] G Gn ∧ r.toInt = ncn (fun a => nst V G j a ∧ (p2.toInt ≠ 0 → sgl V G n j a)) 7 := by
  obtain ⟨-, -, x5, x6, G2, hl, -, -, -, c, rfl, rfl⟩ := h
  obtain ⟨P, hP⟩ : ∃ P, P = (fun a => nst V G j a ∧ (p2.toInt ≠ 0 → sgl V G n j a)) := ⟨_, rfl⟩
  have hPi : ∀ a, P a ↔ (nst V G j a ∧ (p2.toInt ≠ 0 → sgl V G n j a)) := fun a => by rw [hP]
  rw [← hP]
  have o1 : (1 : Int32).toInt = 1 := rfl
  have hO := hI.2.2.2.2.2.2.2 j hj
  have hIn := hl (fun q => CX_2 V q.2.2 ∧ Fr [37, 38, 39] [(6, 3)] G q.2.2 ∧ ∃ i : Nat, i ≤ 7 ∧ q.1.toInt = (i : Int) - 3 ∧ q.2.1.toInt = ncn P i) ⟨hX, hF, 0, by omega, rfl, rfl⟩ (by
    rintro ⟨a1, a2, b⟩ ⟨n1, n2, bn⟩ ⟨iX, iF, i, i0, i1, i2⟩ ⟨x1, x2, g, u1, u2, gn, q1, q2, -, -, c1, y13, e13, y14, e14, y15, e15, y16, e16, r19, G20, hst, hd⟩
    simp only [Prod.mk.injEq] at q1 q2
    obtain ⟨rfl, rfl, rfl⟩ := q1
    obtain ⟨rfl, rfl, rfl⟩ := q2
    simp only at iX iF i1 i2
    obtain ⟨s1, s2, s3, s4⟩ := hO
    have f13 : y13 = G.1 61 j := by have : y13 = b.1 61 p0.toInt.toNat := e13; rw [this, tn_r hp, iF.row1 61 (by decide) (by decide)]
    have f14 : y14 = G.1 62 j := by have : y14 = b.1 62 p0.toInt.toNat := e14; rw [this, tn_r hp, iF.row1 62 (by decide) (by decide)]
    have f15 : y15 = G.1 63 j := by have : y15 = b.1 63 p0.toInt.toNat := e15; rw [this, tn_r hp, iF.row1 63 (by decide) (by decide)]
    have hw0 := (hw1 _ s1.n.1).1
    have hlen : (stl V (G.1 62 j).toInt.toNat : Int) ≤ 400 := (hI.1.1.2 _ s2.n.1).2
    have t16 : y16.toInt = (G.1 63 j).toInt + a1.toInt := by rw [tI_add e16 (by rw [f15]; omega) (by rw [f15]; omega), f15]
    obtain ⟨rfl, ks⟩ := k_standsV_2 hst iX.2.1
    rw [f13, f14, t16] at ks
    have hr := ncn_r P i
    have ks2 : r19.toInt ≠ 0 ↔ nst V G j a1.toInt := ⟨fun w => ⟨(ks.mp w).2.2.1, (ks.mp w).2.2.2⟩, fun w => ks.mpr ⟨s1, s2, w.1, w.2⟩⟩
    clear ks
    rcases hd with ⟨f, y26, t26, ex, e6, eG⟩ | ⟨f, ⟨g2, y28, e28, y29, t29, ex, e6, eG⟩ | ⟨g2, r30, G31, hls, hd⟩⟩
    · subst eG
      refine ⟨iX, iF, i + 1, by omega, by show n1.toInt = _; rw [← ex]; omega, ?_⟩
      show n2.toInt = _
      rw [← e6, ncn_n (x := a1.toInt) (fun w => (ks2.mpr ((hPi _).mp w).1) f) i1, i2]
    · subst eG
      refine ⟨iX, iF, i + 1, by omega, by show n1.toInt = _; rw [← ex]; omega, ?_⟩
      show n2.toInt = _
      rw [← e6, ncn_y (x := a1.toInt) ((hPi _).mpr ⟨ks2.mp f, fun w => absurd g2 w⟩) i1, tI_add e28 (by rw [o1]; omega) (by rw [o1]; omega), i2, o1]
    · obtain ⟨kX, kF, kl⟩ := k_ls_2 hls hp hj hq hn (by omega) iX iF hI hw1
      rcases hd with ⟨k, y37, t37, ex, e6, eG⟩ | ⟨k, y38, e38, y39, t39, ex, e6, eG⟩
      · subst eG
        refine ⟨kX, kF, i + 1, by omega, by show n1.toInt = _; rw [← ex]; omega, ?_⟩
        show n2.toInt = _
        rw [← e6, ncn_n (x := a1.toInt) (fun w => (kl.mpr (((hPi _).mp w).2 g2)) k) i1, i2]
      · subst eG
        refine ⟨kX, kF, i + 1, by omega, by show n1.toInt = _; rw [← ex]; omega, ?_⟩
        show n2.toInt = _
        rw [← e6, ncn_y (x := a1.toInt) ((hPi _).mpr ⟨ks2.mp f, fun _ => kl.mp k⟩) i1, tI_add e38 (by rw [o1]; omega) (by rw [o1]; omega), i2, o1])
  obtain ⟨iX, iF, i, i0, i1, i2⟩ := hIn
  simp only at iX iF i1 i2
  have e7 : i = 7 := by omega
  subst e7
  exact ⟨iX, iF, i2⟩
theorem fits_2 {V : PV} {p0 q0 r r' : Int32} {G Ga Gb : GS} (hx : P_Wfits_2 p0 G r Ga) (hm : Q_fits q0 Ga r' Gb) (i0 : p0.toInt = q0.toInt) (hI : IV_2 V G) (hg : gW G = 1) (hz : 0 ≤ (G.1 31 5).toInt) : r.toInt = r'.toInt ∧ IV_2 V Gb := by
  obtain rfl := Int32.toInt_inj.mp i0
  have hw1 : ∀ w, w < V.2.1.length → WKok (wk V w) := fun w hw => hI.2.1.wk hg hw
  refine ⟨?_, (hI.ca hx.2.1 (ca_fits_2 hx hI) (by decide) (by decide)).fr hm.2.1 (by decide) (by decide) (by decide)⟩
  have o : (1 : Int32).toInt = 1 := rfl
  have z : (0 : Int32).toInt = 0 := rfl
  rw [q_fits_eq hm hx.2.1 hI.2.1 hI.2.2.1 hI.2.2.2.2.1 hI.2.2.2.2.2 hw1 (fun s i hs hi => hI.1.ok hs i hi) hz]
  have h11 : (G.1 2 11).toInt = (V.2.2.1.length : Int) := hI.1.2.2.1.1
  obtain ⟨-, -, x5, x6, G2, hl, -, -, -, -, c, rfl, -⟩ := hx
  have hI2 := hl (fun q => CX_2 V q.2.2 ∧ Fr [37, 38, 39] [(6, 3)] G q.2.2 ∧ ∃ n : Nat, n ≤ V.2.2.1.length ∧ q.1.toInt = (n : Int) ∧ q.2.1 = fbI (fun n => ftt V G p0 n (G.1 31 5).toInt.toNat) n) ⟨hI.cx, Fr.rf, 0, Nat.zero_le _, rfl, rfl⟩ (by
    rintro ⟨a1, a2, b⟩ ⟨n1, n2, bn⟩ ⟨iX, iF, n, i0, i1, i2⟩ ⟨x1, x2, g, u1, u2, gn, q1, q2, -, -, -, c1, r14, G15, hfa, hd⟩
    simp only [Prod.mk.injEq] at q1 q2
    obtain ⟨rfl, rfl, rfl⟩ := q1
    obtain ⟨rfl, rfl, rfl⟩ := q2
    simp only at iX iF i1 i2
    have hn : n < V.2.2.1.length := by omega
    have e5 : a1 = Int32.ofNat n := by rw [nat_i (x := a1) (by omega), tn_r i1]
    have kX := CX_2.fa iX hfa hI.2.1.1.2.1 hI.2.2.1
    have kF := iF.call hfa.2.1 (by decide) (by decide)
    have kf : r14.toInt ≠ 0 ↔ ftt V G p0 n (G.1 31 5).toInt.toNat := by
      clear hd
      obtain ⟨-, -, -, w5, W, hlp, -, -, -, hh⟩ := hfa
      have hS := hI.2.2.2.2.2.2.1
      have h31 : (b.1 31 5).toInt = (G.1 31 5).toInt := by rw [iF.i 31 5 (by decide) (by decide)]
      have hIn := hlp (fun q => CX_2 V q.2 ∧ Fr [37, 38, 39] [(6, 3)] G q.2 ∧ ∃ j : Nat, (j : Int) ≤ (G.1 31 5).toInt ∧ q.1.toInt = (j : Int) ∧ ftt V G p0 n j) ⟨iX, iF, 0, hz, rfl, fun j hj => absurd hj (Nat.not_lt_zero _)⟩ (by
        rintro ⟨d1, e⟩ ⟨m1, en⟩ ⟨jX, jF, j, j0, j1, j2⟩ ⟨v1, k, s1, kn, t1, t2, -, -, f1, r12, G13, hct, hd⟩
        obtain ⟨rfl, rfl⟩ := Prod.mk.inj t1
        obtain ⟨rfl, rfl⟩ := Prod.mk.inj t2
        simp only at jX jF j1 j2
        have hj : (j : Int) < (G.1 31 5).toInt := by omega
        obtain ⟨s61, s62, s63, s64, s65, s66⟩ := hS j hj
        obtain ⟨rfl, kc⟩ := k_counts_eq (G := G) hct j1 (jF.row1 64 (by decide) (by decide)) (jF.row1 65 (by decide) (by decide)) s66
        rcases hd with ⟨f, y19, e19, ex, eG⟩ | ⟨f, r20, G21, hls, g2, y27, e27, ex, eG⟩
        · subst eG
          exact ⟨jX, jF, j + 1, by omega, by show m1.toInt = _; rw [← ex]; omega, (ftt_n (fun q => absurd f (kc.mpr q))).mpr j2⟩
        · subst eG
          obtain ⟨kX, kF, kl⟩ := k_ls_2 hls j1 hj i1 hn ⟨by decide, by decide⟩ jX jF hI hw1
          exact ⟨kX, kF, j + 1, by omega, by show m1.toInt = _; rw [← ex]; omega, (ftt_n (fun _ => kl.mp g2)).mpr j2⟩)
      obtain ⟨jX, jF, j, j0, j1, j2⟩ := hIn
      simp only at jX jF j1 j2
      rcases hh with ⟨f, rfl, -⟩ | ⟨f, r12, G13, hct, g1, r20, G21, hls, g2, rfl, -⟩
      · have ej : j = (G.1 31 5).toInt.toNat := by omega
        rw [← ej]
        exact ⟨fun _ => j2, fun _ => by rw [o]; decide⟩
      · have hj : (j : Int) < (G.1 31 5).toInt := by omega
        obtain ⟨s61, s62, s63, s64, s65, s66⟩ := hS j hj
        obtain ⟨rfl, kc⟩ := k_counts_eq (G := G) hct j1 (jF.row1 64 (by decide) (by decide)) (jF.row1 65 (by decide) (by decide)) s66
        obtain ⟨-, -, kl⟩ := k_ls_2 hls j1 hj i1 hn ⟨by decide, by decide⟩ jX jF hI hw1
        exact ⟨fun q => absurd z q, fun q => absurd g2 (kl.mpr (q j (by omega) (kc.mp g1)))⟩
    rcases hd with ⟨f, y21, e21, y22, t22, ex, e6, eG⟩ | ⟨f, y23, e23, y24, e24, y25, t25, ex, e6, eG⟩
    · subst eG
      refine ⟨kX, kF, n + 1, by omega, by show n1.toInt = _; rw [← ex]; omega, ?_⟩
      show n2 = _
      rw [← e6, e21, fbI, pif_n (fun w => (kf.mpr w) f), ← i2]
    · subst eG
      refine ⟨kX, kF, n + 1, by omega, by show n1.toInt = _; rw [← ex]; omega, ?_⟩
      show n2 = _
      rw [← e6, e24, e23, fbI, pif_p (kf.mp f), ← i2, e5])
  obtain ⟨-, -, n, i0, i1, i2⟩ := hI2
  simp only at i1 i2
  have en : n = V.2.2.1.length := by omega
  rw [← en, i2]
