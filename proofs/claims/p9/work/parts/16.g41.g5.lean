/-! walk, go: what the row is behind them -/
def setr (v : Nat → Int32) (p0 p1 p2 h : Int32) : Nat → Int32 := upd (upd (upd (upd (upd (upd v 0 p0) 1 p1) 2 p2) 3 1) 4 h) 5 0
theorem ud_cg {f g : Nat → Int32} {i : Nat} {u v : Int32} (h : ∀ j, j < 10 → f j = g j) (e : u = v) : ∀ j, j < 10 → upd f i u j = upd g i v j := by
  intro j hj
  subst e
  by_cases q : j = i
  · subst q
    rw [ud_at, ud_at]
  · rw [ud_no q, ud_no q, h j hj]
theorem setr_cg {v v' : Nat → Int32} {p0 p1 p2 h h' : Int32} (e : ∀ j, j < 10 → v j = v' j) (eh : h = h') : ∀ j, j < 10 → setr v p0 p1 p2 h j = setr v' p0 p1 p2 h' j := ud_cg (ud_cg (ud_cg (ud_cg (ud_cg (ud_cg e rfl) rfl) rfl) rfl) eh) rfl
theorem setr_at {v : Nat → Int32} {p0 p1 p2 h : Int32} : setr v p0 p1 p2 h 0 = p0 ∧ setr v p0 p1 p2 h 1 = p1 ∧ setr v p0 p1 p2 h 2 = p2 ∧ setr v p0 p1 p2 h 4 = h ∧ setr v p0 p1 p2 h 6 = v 6 ∧ setr v p0 p1 p2 h 8 = v 8 ∧ setr v p0 p1 p2 h 9 = v 9 := by
  unfold setr
  refine ⟨?_, ?_, ?_, ?_, ?_, ?_, ?_⟩
  · rw [ud_no (by decide), ud_no (by decide), ud_no (by decide), ud_no (by decide), ud_no (by decide), ud_at]
  · rw [ud_no (by decide), ud_no (by decide), ud_no (by decide), ud_no (by decide), ud_at]
  · rw [ud_no (by decide), ud_no (by decide), ud_no (by decide), ud_at]
  · rw [ud_no (by decide), ud_at]
  · rw [ud_no (by decide), ud_no (by decide), ud_no (by decide), ud_no (by decide), ud_no (by decide), ud_no (by decide)]
  · rw [ud_no (by decide), ud_no (by decide), ud_no (by decide), ud_no (by decide), ud_no (by decide), ud_no (by decide)]
  · rw [ud_no (by decide), ud_no (by decide), ud_no (by decide), ud_no (by decide), ud_no (by decide), ud_no (by decide)]
theorem setr_4 {v : Nat → Int32} {p0 p1 p2 h h' : Int32} : upd (setr v p0 p1 p2 h) 4 h' = setr v p0 p1 p2 h' := by
  funext j
  unfold setr
  by_cases q : j = 4
  · subst q
    rw [ud_at, ud_no (by decide), ud_at]
  · rw [ud_no q]
    by_cases q5 : j = 5
    · subst q5
      rw [ud_at, ud_at]
    · rw [ud_no q5, ud_no q5, ud_no q, ud_no q]
theorem ROK.set {V : PV} {v : Nat → Int32} {p0 p1 p2 h : Int32} (hv : ROK V v) (hw : inW V p0) (hs : inS V p1) : ROK V (setr v p0 p1 p2 h) := by
  obtain ⟨e0, e1, -, -, e6, e8, e9⟩ := setr_at (v := v) (p0 := p0) (p1 := p1) (p2 := p2) (h := h)
  unfold ROK at hv ⊢
  rw [e0, e1, e6, e8, e9]
  exact ⟨Or.inr ⟨hw.1, hw.2, hs.1, hs.2⟩, hv.2⟩
noncomputable def wkR (V : PV) (v : Nat → Int32) (p0 p1 p2 : Int32) : Nat → Int32 := setr v p0 p1 p2 (pif ((v 9).toInt = 1 ∨ LWF V (v 6) p0.toInt.toNat p1.toInt.toNat (v 8).toInt.toNat p2.toInt) 1 0)
def VWk (V : PV) (p0 p1 p2 : Int32) : Prop := inW V p0 ∧ inS V p1 ∧ 0 ≤ p2.toInt ∧ p2.toInt + (wk V p0.toInt.toNat).1 ≤ (stl V p1.toInt.toNat : Int) ∧ p2.toInt < (wk V p0.toInt.toNat).2.2.1
theorem wkR_cg {V : PV} {v v' : Nat → Int32} {p0 p1 p2 : Int32} (e : ∀ j, j < 10 → v j = v' j) : ∀ j, j < 10 → wkR V v p0 p1 p2 j = wkR V v' p0 p1 p2 j := by
  unfold wkR
  rw [e 9 (by decide), e 6 (by decide), e 8 (by decide)]
  exact setr_cg e rfl
/-- is he up where he stands -/
theorem q_stands_eq {p0 r : Int32} {G G1 : GS} (h : Q_stands p0 G r G1) : G = G1 ∧ (r.toInt = 0 ∨ r.toInt = 1) ∧ (r.toInt ≠ 0 ↔ ((G.1 110 9).toInt = 1 ∨ (G.1 98 p0.toNatClampNeg).toInt ≠ 0)) := by
  obtain ⟨-, hF, hr, y1, e1, hh⟩ := h
  have e1' : y1 = G.1 110 9 := e1
  have z0 : (0 : Int32).toInt = 0 := rfl
  have o1 : (1 : Int32).toInt = 1 := rfl
  refine ⟨hF.nil, by omega, ?_⟩
  rw [← e1']
  rcases hh with ⟨c, r4, G5, ht, rfl, -⟩ | ⟨c, y10, e10, ⟨d, r13, G14, ht, rfl, -⟩ | ⟨d, r20, G21, ht, rfl, -⟩⟩
  · rw [(q_truth ht).2]
    exact ⟨fun _ => Or.inl c, fun _ => by rw [o1]; decide⟩
  · rw [(q_truth ht).2, ← e10]
    exact ⟨fun q => absurd z0 q, fun q => absurd (q.resolve_left c) (by omega)⟩
  · rw [(q_truth ht).2, ← e10]
    exact ⟨fun _ => Or.inr d, fun _ => by rw [o1]; decide⟩
theorem pif_r {p : Prop} {r : Int32} (h01 : r.toInt = 0 ∨ r.toInt = 1) (h : r.toInt ≠ 0 ↔ p) : r = pif p 1 0 := by
  have z0 : (0 : Int32).toInt = 0 := rfl
  have o1 : (1 : Int32).toInt = 1 := rfl
  by_cases q : p
  · rw [pif_p q]
    have := h.mpr q
    exact Int32.toInt_inj.mp (by rw [o1]; omega)
  · rw [pif_n q]
    have : ¬ r.toInt ≠ 0 := fun w => q (h.mp w)
    exact Int32.toInt_inj.mp (by rw [z0]; omega)
theorem q_stands1_eq {p0 r : Int32} {G G1 : GS} (h : Q_stands1 p0 G r G1) : G = G1 ∧ (r.toInt ≠ 0 ↔ (0 ≤ p0.toInt ∧ p0.toInt + (G.1 66 60).toInt ≤ (G.1 66 59).toInt)) := by
  obtain ⟨-, hF, hr, hp, -⟩ := h
  refine ⟨hF.nil, fun q => hp.1 (by omega), fun q => ?_⟩
  have := hp.2 q
  omega
theorem m_walk {V : PV} {p0 p1 p2 r : Int32} {G G1 : GS} (h : Q_walk p0 p1 p2 G r G1) (hR : RV V G) (hV : PVok V) (hok : ∀ s i, s < V.1.length → i < stl V s → ICok (icl V s i)) (h8 : 0 ≤ (G.1 110 8).toInt ∧ (G.1 110 8).toInt < 64) : (¬ VWk V p0 p1 p2 ∧ r.toInt = -1 ∧ Fr [76, 97, 98] [(66, 59), (66, 60), (66, 61), (66, 62), (66, 63)] G G1) ∨ (VWk V p0 p1 p2 ∧ ∃ Gm Gn, Fr [76, 97, 98] [(66, 59), (66, 60), (66, 61), (66, 62), (66, 63)] G Gm ∧ Q_act Gm Gn ∧ Fr [110] [] Gn G1 ∧ G1.1 110 = wkR V (G.1 110) p0 p1 p2 ∧ r = G1.1 110 4) := by
  have m1 : (-1 : Int32).toInt = -1 := rfl
  have z0 : (0 : Int32).toInt = 0 := rfl
  obtain ⟨-, -, -, r1, G2, hw, hh⟩ := h
  obtain ⟨rfl, k1⟩ := q_isWalkerV hw hR
  rcases hh with ⟨c, rfl, rfl⟩ | ⟨c, r14, G15, hs, hh⟩
  · exact Or.inl ⟨fun q => absurd c (k1.mpr q.1), m1, Fr.rf⟩
  have hWk := k1.mp c
  obtain ⟨rfl, k2⟩ := q_isStreetV hs hR
  rcases hh with ⟨c2, rfl, rfl⟩ | ⟨c2, y25, e25, y26, t26, r28, G29, hi, hh⟩
  · exact Or.inl ⟨fun q => absurd c2 (k2.mpr q.2.1), m1, Fr.rf⟩
  have hS := k2.mp c2
  clear k1 k2 c c2
  obtain ⟨hwl, hwn⟩ := hWk.n
  obtain ⟨hsl, hsn⟩ := hS.n
  have t25 : y25.toInt = (wk V p0.toInt.toNat).2.2.1 := by
    rw [e25]
    exact (hR.2.1.2.2 _ hwl).2.2.1
  obtain ⟨rfl, k3⟩ := q_isIn hi
  rw [z0, t26, t25] at k3
  rcases hh with ⟨c3, rfl, rfl⟩ | ⟨c3, y35, e35, G38, hlay, r44, G45, hst, hh⟩
  · exact Or.inl ⟨fun q => absurd c3 (k3.mpr ⟨q.2.2.1, by have := q.2.2.2.2; omega⟩), m1, Fr.rf⟩
  have hin := k3.mp c3
  clear k3 c3
  have e35' : y35 = G.1 110 8 := e35
  have hl4 : (stl V p1.toInt.toNat : Int) ≤ 400 := (hR.1.2.2 _ hsl).2
  obtain ⟨⟨f1, f2, -, -, -⟩, hlw⟩ := m_lay (t := y35.toInt.toNat) hlay hwn hwl hsn hsl (by rw [e35']; omega) (by rw [e35']; omega) hR hV (hok _ · hsl ·)
  obtain ⟨rfl, k4⟩ := q_stands1_eq hst
  rw [f1, f2] at k4
  have hFl := hlay.2.1
  rcases hh with ⟨c4, rfl, rfl⟩ | ⟨c4, G52, ha, G62, -, hF62, w62, r65, G66, hsd, y76, e76, rfl, hFe, we⟩
  · exact Or.inl ⟨fun q => absurd c4 (k4.mpr ⟨q.2.2.1, q.2.2.2.1⟩), m1, hFl⟩
  have hsd2 := k4.mp c4
  clear k4 c4
  refine Or.inr ⟨⟨hWk, hS, hin.1, hsd2.2, by omega⟩, G38, G52, hFl, ha, ?_, ?_, ?_⟩
  · have e66 := hsd.2.1.nil
    subst e66
    exact (Fr.call Fr.rf hF62 (by decide) (by decide)).call hFe (by decide) (by decide)
  · obtain ⟨rfl, s1, s2⟩ := q_stands_eq hsd
    have a110 : G52.1 110 = G.1 110 := (ha.2.1.row1 110 (by decide) (by decide)).trans (hFl.row1 110 (by decide) (by decide))
    have hxn : p2.toInt = (p2.toInt.toNat : Int) := by omega
    have l98 : (G62.1 98 p2.toNatClampNeg).toInt ≠ 0 ↔ LWF V (G.1 110 6) p0.toInt.toNat p1.toInt.toNat (G.1 110 8).toInt.toNat p2.toInt := by
      rw [hF62.row1 98 (by decide) (by decide), ha.2.1.row1 98 (by decide) (by decide)]
      have b60 := (hlay.1.i 66 60 (lo := 0) (hi := 12) rfl rfl).1
      have := (hlw p2.toInt.toNat (by clear s2; omega)).2
      rw [← hxn, e35'] at this
      exact this
    have w62' : G62.1 110 = upd (upd (upd (upd (G.1 110) 0 p0) 1 p1) 2 p2) 3 1 := by
      rw [w62, a110]
      rfl
    have e9 : G62.1 110 9 = G.1 110 9 := by
      rw [w62', ud_no (by decide), ud_no (by decide), ud_no (by decide), ud_no (by decide)]
    rw [e9, l98] at s2
    have hr := pif_r s1 s2
    rw [we, w62', hr]
    rfl
  · rw [e76, we]
    have z4 : (4 : Int32).toNatClampNeg = 4 := rfl
    have z5 : (5 : Int32).toNatClampNeg = 5 := rfl
    rw [z4, z5]
/-! go -/
def slpV (V : PV) : Int × Int × Int := V.2.2.2.2.1.getD (0, 1, 0)
def all32 (V : PV) : Int32 := Int32.ofInt ((slpV V).1 + (slpV V).2.1 + (slpV V).2.2)
def slp (V : PV) (s : Int32) : Int32 := if (s - s / all32 V * all32 V).toInt < (slpV V).1 then -1 else if (s - s / all32 V * all32 V).toInt < (slpV V).1 + (slpV V).2.1 then 0 else 1
def goS (v : Nat → Int32) : Int32 := v 7 * 137 + 71 - (v 7 * 137 + 71) / 1000 * 1000
def goB (V : PV) (v : Nat → Int32) (p0 : Int32) : Int32 := if (wk V (v 0).toInt.toNat).2.2.1 < p0.toInt then 1 else 0
def goX (V : PV) (v : Nat → Int32) (p0 : Int32) : Int32 := v 2 + p0 + slp V (goS v)
def go0 (V : PV) (v : Nat → Int32) (p0 : Int32) : Nat → Int32 := upd (upd v 7 (goS v)) 5 (goB V v p0)
noncomputable def goR (V : PV) (v : Nat → Int32) (p0 : Int32) : Nat → Int32 := if 0 ≤ (goX V v p0).toInt ∧ (goX V v p0).toInt + (wk V (v 0).toInt.toNat).1 ≤ (stl V (v 1).toInt.toNat : Int) then upd (upd (upd (go0 V v p0) 2 (goX V v p0)) 3 (v 3 + 1)) 4 (pif ((v 9).toInt = 1 ∨ LWF V (v 6) (v 0).toInt.toNat (v 1).toInt.toNat (v 8).toInt.toNat (goX V v p0).toInt) 1 0) else upd (go0 V v p0) 4 2
def VGo (V : PV) (v : Nat → Int32) (p0 : Int32) : Prop := 0 ≤ (v 0).toInt ∧ (v 4).toInt = 1 ∧ (wk V (v 0).toInt.toNat).2.1 ≤ p0.toInt ∧ p0.toInt ≤ (if (v 5).toInt = 1 then (wk V (v 0).toInt.toNat).2.2.1 else (wk V (v 0).toInt.toNat).2.2.2)
theorem goR_cg {V : PV} {v v' : Nat → Int32} {p0 : Int32} (e : ∀ j, j < 10 → v j = v' j) : ∀ j, j < 10 → goR V v p0 j = goR V v' p0 j := by
  have eS : goS v = goS v' := by unfold goS; rw [e 7 (by decide)]
  have eB : goB V v p0 = goB V v' p0 := by unfold goB; rw [e 0 (by decide)]
  have eX : goX V v p0 = goX V v' p0 := by unfold goX; rw [e 2 (by decide), eS]
  have e0 : ∀ j, j < 10 → go0 V v p0 j = go0 V v' p0 j := ud_cg (ud_cg e eS) eB
  unfold goR
  rw [eX, e 0 (by decide), e 1 (by decide), e 3 (by decide), e 6 (by decide), e 8 (by decide), e 9 (by decide)]
  by_cases q : 0 ≤ (goX V v' p0).toInt ∧ (goX V v' p0).toInt + (wk V (v' 0).toInt.toNat).1 ≤ (stl V (v' 1).toInt.toNat : Int)
  · rw [if_pos q, if_pos q]
    exact ud_cg (ud_cg (ud_cg e0 rfl) rfl) rfl
  · rw [if_neg q, if_neg q]
    exact ud_cg e0 rfl
theorem ROK.go {V : PV} {v : Nat → Int32} {p0 : Int32} (h : ROK V v) : ROK V (goR V v p0) := by
  have h0 : ROK V (go0 V v p0) := (h.sk (by decide)).sk (by decide)
  unfold goR
  split
  · exact ((h0.sk (by decide)).sk (by decide)).sk (by decide)
  · exact h0.sk (by decide)
theorem q_allSlips_eq {V : PV} {r : Int32} {G G1 : GS} (h : Q_allSlips G r G1) (hR : RV V G) : G = G1 ∧ r = all32 V ∧ r.toInt = (slpV V).1 + (slpV V).2.1 + (slpV V).2.2 := by
  obtain ⟨-, hF, -, hp, -⟩ := h
  obtain ⟨-, -, -, ⟨s0, s1, s2⟩, -⟩ := hR
  rw [s0, s1, s2] at hp
  exact ⟨hF.nil, of_i hp, hp⟩
theorem m_go {V : PV} {p0 r : Int32} {G G1 : GS} (h : Q_go p0 G r G1) (hR : RV V G) (hV : PVok V) (hok : ∀ s i, s < V.1.length → i < stl V s → ICok (icl V s i)) (hv : ROK V (G.1 110)) : (¬ VGo V (G.1 110) p0 ∧ r.toInt = -1 ∧ G = G1) ∨ (VGo V (G.1 110) p0 ∧ ∃ Gn, Q_act G Gn ∧ Fr [110, 76, 97, 98] [(66, 59), (66, 60), (66, 61), (66, 62), (66, 63)] Gn G1 ∧ G1.1 110 = goR V (G.1 110) p0 ∧ r = G1.1 110 4) := by
  have m1 : (-1 : Int32).toInt = -1 := rfl
  obtain ⟨z0, z1, z2, z3, z4, z5, z6, z7, z8, z9, -, -⟩ := z32
  obtain ⟨-, -, -, y1, e1, hh⟩ := h
  rw [z0] at e1
  rcases hh with ⟨c, rfl, rfl⟩ | ⟨c, y5, e5, hh⟩
  · exact Or.inl ⟨fun q => by have := q.1; rw [e1] at c; omega, m1, rfl⟩
  rw [z4] at e5
  rcases hh with ⟨c2, y7, e7, y9, e9, y11, e11, w15, G18, hj1, -, -, hF18, r23, G24, hi, hh⟩ | ⟨c2, rfl, rfl⟩
  rotate_left
  · exact Or.inl ⟨fun q => by have := q.2.1; rw [e5] at c2; omega, m1, rfl⟩
  rw [z0] at e7
  rw [z5] at e11
  have hWk : inW V (G.1 110 0) ∧ inS V (G.1 110 1) := by
    rw [e1] at c
    rcases hv.1 with q | q
    · omega
    · exact ⟨⟨q.1, q.2.1⟩, ⟨q.2.2.1, q.2.2.2⟩⟩
  obtain ⟨hwl, hwn⟩ := hWk.1.n
  obtain ⟨hsl, hsn⟩ := hWk.2.n
  obtain ⟨k1, k2, k3, k4⟩ := hR.2.1.2.2 _ hwl
  have e18 := hF18.nil
  subst e18
  have t9 : y9.toInt = (wk V (G.1 110 0).toInt.toNat).2.1 := by
    rw [e9, e7]
    exact k2
  have t15 : w15.toInt = (if (G.1 110 5).toInt = 1 then (wk V (G.1 110 0).toInt.toNat).2.2.1 else (wk V (G.1 110 0).toInt.toNat).2.2.2) := by
    rw [← e11]
    rcases hj1 with ⟨f, y, e, ew, -⟩ | ⟨f, y, e, ew, -⟩
    · rw [if_pos f, ← ew, e, e7]
      exact k3
    · rw [if_neg f, ← ew, e, e7]
      exact k4
  obtain ⟨rfl, ki⟩ := q_isIn hi
  rw [t9, t15] at ki
  rcases hh with ⟨c3, rfl, rfl⟩ | ⟨c3, G31, ha, y35, e35, y36, e36, G39, hlay, y43, e43, y44, e44, y45, e45, y46, e46, y49, e49, G47, -, hF47, w47, r57, G58, hsl57, y63, e63, y64, e64, y65, e65, y66, e66, x68, w70, G73, hj2, -, -, hF73, r78, G79, htr, G84, -, hF84, w84, r90, G91, hst, hh⟩
  · exact Or.inl ⟨fun q => absurd c3 (ki.mpr ⟨q.2.2.1, q.2.2.2⟩), m1, rfl⟩
  have hVG : VGo V (G.1 110) p0 := ⟨hWk.1.1, by rw [← e5]; exact c2, (ki.mp c3).1, (ki.mp c3).2⟩
  clear ki c3 hj1 t15 t9
  refine Or.inr ⟨hVG, G31, ha, ?_⟩
  have a110 : G31.1 110 = G.1 110 := ha.2.1.row1 110 (by decide) (by decide)
  rw [z1, a110] at e35
  rw [z8, a110] at e36
  rw [e7, e35, e36] at hlay
  have hR31 : RV V G31 := hR.fr ha.2.1 (by decide) (by decide)
  have hFl := hlay.2.1
  obtain ⟨⟨f1, f2, -, -, -⟩, hlw⟩ := m_lay (t := (G.1 110 8).toInt.toNat) hlay hwn hwl hsn hsl (by have := hv.2.2.2; omega) (by have := hv.2.2.2; omega) hR31 hV (hok _ · hsl ·)
  rw [a110] at hlw
  have l110 : G39.1 110 = G.1 110 := (hFl.row1 110 (by decide) (by decide)).trans a110
  rw [z7, l110] at e43
  have e46' : y46 = goS (G.1 110) := by
    unfold goS
    rw [e46, e45, e44, e43]
  rw [z7, l110, e46'] at w47
  rw [z7, l110, ud_at, e46'] at e49
  have hR47 : RV V G47 := (hR31.fr hFl (by decide) (by decide)).fr hF47 (by decide) (by decide)
  obtain ⟨rfl, e57, t57⟩ := q_allSlips_eq hsl57 hR47
  obtain ⟨-, -, -, ⟨s0, s1, s2⟩, -⟩ := hR47
  have e64' : y64 = G.1 110 2 := by
    rw [e64, z2, w47, ud_no (by decide)]
  have t66 : y66.toInt = (slpV V).1 := by
    rw [e66]
    exact s0
  have e63' : y63 = goS (G.1 110) - goS (G.1 110) / all32 V * all32 V := by rw [e63, e49, e57]
  have hm94 : ∀ {Gq : GS}, Gq.1 94 = G.1 94 → (Gq.1 94 y7.toNatClampNeg).toInt = (wk V (G.1 110 0).toInt.toNat).2.2.1 := by
    intro Gq e
    rw [e, e7]
    exact k3
  have g94 : G47.1 94 = G.1 94 := (hF47.row1 94 (by decide) (by decide)).trans ((hFl.row1 94 (by decide) (by decide)).trans (ha.2.1.row1 94 (by decide) (by decide)))
  have hX : x68 = goX V (G.1 110) p0 ∧ w70 = goB V (G.1 110) p0 := by
    have hB : ∀ {y w : Int32}, y = G47.1 94 y7.toNatClampNeg → ((p0.toInt ≤ y.toInt ∧ 0 = w) ∨ (y.toInt < p0.toInt ∧ 1 = w)) → w = goB V (G.1 110) p0 := by
      intro y w ey hc
      have ty : y.toInt = (wk V (G.1 110 0).toInt.toNat).2.2.1 := by rw [ey]; exact hm94 g94
      unfold goB
      rcases hc with ⟨c, e⟩ | ⟨c, e⟩
      · rw [if_neg (by omega)]
        exact e.symm
      · rw [if_pos (by omega)]
        exact e.symm
    unfold goX slp
    rw [← e63', ← e64', ← e65]
    rcases hj2 with ⟨c, y125, e125, y127, e127, y129, t129, ⟨d, y131, e131, y132, e132, hc⟩ | ⟨d, y137, t137, y139, e139, hc⟩⟩ | ⟨c, y144, e144, y145, e145, hc⟩
    · have t125 : y125.toInt = (slpV V).1 := by rw [e125]; exact s0
      have t127 : y127.toInt = (slpV V).2.1 := by rw [e127]; exact s1
      rw [if_neg (by omega), if_neg (by omega)]
      rcases hc with ⟨f, ex, ew, -⟩ | ⟨f, ex, ew, -⟩
      · exact ⟨by rw [← ex, e131], hB e132 (Or.inl ⟨f, ew⟩)⟩
      · exact ⟨by rw [← ex, e131], hB e132 (Or.inr ⟨f, ew⟩)⟩
    · have t125 : y125.toInt = (slpV V).1 := by rw [e125]; exact s0
      have t127 : y127.toInt = (slpV V).2.1 := by rw [e127]; exact s1
      have e137 : y137 = y65 := Int32.toInt_inj.mp (by omega)
      rw [if_neg (by omega), if_pos (by omega), Int32.add_zero]
      rcases hc with ⟨f, ex, ew, -⟩ | ⟨f, ex, ew, -⟩
      · exact ⟨by rw [← ex, e137], hB e139 (Or.inl ⟨f, ew⟩)⟩
      · exact ⟨by rw [← ex, e137], hB e139 (Or.inr ⟨f, ew⟩)⟩
    · rw [if_pos (by omega)]
      rcases hc with ⟨f, ex, ew, -⟩ | ⟨f, ex, ew, -⟩
      · exact ⟨by rw [← ex, e144], hB e145 (Or.inl ⟨f, ew⟩)⟩
      · exact ⟨by rw [← ex, e144], hB e145 (Or.inr ⟨f, ew⟩)⟩
  obtain ⟨rfl, hw70⟩ := hX
  clear hj2
  have e73 := hF73.nil
  subst e73
  obtain ⟨rfl, t78⟩ := q_truth htr
  have e78 : r78 = goB V (G.1 110) p0 := (Int32.toInt_inj.mp t78).trans hw70
  have w84' : G84.1 110 = go0 V (G.1 110) p0 := by
    rw [w84, z5, w47, e78]
    rfl
  obtain ⟨rfl, ks⟩ := q_stands1_eq hst
  have g60 : ∀ j, j = 59 ∨ j = 60 → G84.1 66 j = G39.1 66 j := by
    intro j hj
    rcases hj with rfl | rfl <;> rw [hF84.i 66 _ (by decide) (by decide), hF47.i 66 _ (by decide) (by decide)]
  rw [g60 59 (Or.inl rfl), g60 60 (Or.inr rfl), f1, f2] at ks
  have hF84' : Fr [110, 76, 97, 98] [(66, 59), (66, 60), (66, 61), (66, 62), (66, 63)] G31 G84 := ((Fr.call Fr.rf hFl (by decide) (by decide)).call hF47 (by decide) (by decide)).call hF84 (by decide) (by decide)
  rcases hh with ⟨c4, rfl, hFe, we⟩ | ⟨c4, y99, e99, y100, e100, G101, -, hF101, w101, r103, G104, hsd, y111, e111, rfl, hFe, we⟩
  · have hno : ¬ (0 ≤ (goX V (G.1 110) p0).toInt ∧ (goX V (G.1 110) p0).toInt + (wk V (G.1 110 0).toInt.toNat).1 ≤ (stl V (G.1 110 1).toInt.toNat : Int)) := fun q => absurd c4 (ks.mpr q)
    rw [z4, w84'] at we
    refine ⟨hF84'.call hFe (by decide) (by decide), ?_, ?_⟩
    · rw [we]
      unfold goR
      rw [if_neg hno]
    · rw [we, ud_at]
  · have hyes := ks.mp c4
    clear ks c4
    obtain ⟨rfl, q1, q2⟩ := q_stands_eq hsd
    rw [z2, z3, w84'] at e99 w101
    rw [ud_no (by decide)] at e99
    have e99' : y99 = G.1 110 3 := by
      rw [e99]
      unfold go0
      rw [ud_no (by decide), ud_no (by decide)]
    have hl4 : (stl V (G.1 110 1).toInt.toNat : Int) ≤ 400 := (hR.1.2.2 _ hsl).2
    have hxn : (goX V (G.1 110) p0).toInt = ((goX V (G.1 110) p0).toInt.toNat : Int) := by omega
    have hf0 : 0 ≤ (wk V (G.1 110 0).toInt.toNat).1 := by
      rw [← f2]
      exact (hlay.1.i 66 60 (lo := 0) (hi := 12) rfl rfl).1
    have l98 : (G101.1 98 (goX V (G.1 110) p0).toNatClampNeg).toInt ≠ 0 ↔ LWF V (G.1 110 6) (G.1 110 0).toInt.toNat (G.1 110 1).toInt.toNat (G.1 110 8).toInt.toNat (goX V (G.1 110) p0).toInt := by
      rw [hF101.row1 98 (by decide) (by decide), hF84.row1 98 (by decide) (by decide), hF47.row1 98 (by decide) (by decide)]
      have := (hlw (goX V (G.1 110) p0).toInt.toNat (by clear q2; omega)).2
      rw [← hxn] at this
      exact this
    have e9' : G101.1 110 9 = G.1 110 9 := by
      rw [w101]
      unfold go0
      rw [ud_no (by decide), ud_no (by decide), ud_no (by decide), ud_no (by decide)]
    rw [e9', l98] at q2
    have hr := pif_r q1 q2
    rw [z4, w101, e100, e99', hr] at we
    refine ⟨(hF84'.call hF101 (by decide) (by decide)).call hFe (by decide) (by decide), ?_, ?_⟩
    · rw [we]
      unfold goR
      rw [if_pos hyes]
    · rw [e111, z4, ud_at, we, ud_at, hr]
theorem k_wLawful_1_eq {V : PV} {r : Int32} {G G1 : GS} {w s t : Nat} (h : P_wLawful_1 G r G1) (hW : CW_1 V G) (hR3 : V.1.length ≤ 3) (hV : PVok V) (hCa : CaC_1 V G) (hw : (G.1 58 0).toInt = (w : Int)) (hwl : w < V.2.1.length) (hs : (G.1 58 1).toInt = (s : Int)) (hsl : s < V.1.length) (ht : (G.1 58 8).toInt = (t : Int)) (ht64 : t < 64) (hd0 : 0 ≤ (G.1 58 6).toInt) : CaC_1 V G1 ∧ (r.toInt = 0 ∨ r.toInt = 1) ∧ (r.toInt ≠ 0 ↔ ((G.1 58 9).toInt = 1 ∨ LWF V (G.1 58 6) w s t (G.1 58 2).toInt)) := by
  obtain ⟨z0, z1, z2, -, -, -, -, -, z8, z9, -, -⟩ := z32
  have o1 : (1 : Int32).toInt = 1 := rfl
  have z00 : (0 : Int32).toInt = 0 := rfl
  obtain ⟨-, -, -, y1, e1, r2, G3, htd, G8, hfi, y12, e12, hh⟩ := h
  obtain ⟨rfl, e2⟩ := k_today_eq htd
  rw [z1] at e1
  obtain ⟨hFo, hCa2⟩ := k_find_1 (s := s) hfi (by rw [e1]; exact hs) hsl hR3 hW hV (by rw [e2]; exact hd0) hCa
  rw [e2] at hFo
  have r58 : G8.1 58 = G.1 58 := hfi.2.1.row1 58 (by decide) (by decide)
  rw [z9, r58] at e12
  rcases hh with ⟨c, rfl, rfl⟩ | ⟨c, y14, e14, y15, e15, y16, e16, r17, G18, hil, hh⟩
  · exact ⟨hCa2, Or.inr o1, fun _ => Or.inl (by rw [← e12]; exact c), fun _ => by rw [o1]; decide⟩
  · rw [z0, r58] at e14
    rw [z8, r58] at e15
    rw [z2, r58] at e16
    obtain ⟨rfl, kl⟩ := k_isLawful_1 (w := w) (s := s) (t := t) hil (by rw [e14]; exact hw) hwl (by rw [e1]; exact hs) hsl (by rw [e15]; exact ht) ht64 (hW.fr hfi.2.1 (by decide) (by decide)) hV hFo
    rw [e16] at kl
    rcases hh with ⟨f, rfl, rfl⟩ | ⟨f, rfl, rfl⟩
    · exact ⟨hCa2, Or.inl z00, fun q => absurd z00 q, fun q => by
        rcases q with q | q
        · exact absurd (by rw [e12]; exact q) c
        · exact absurd f (kl.mpr q)⟩
    · exact ⟨hCa2, Or.inr o1, fun _ => Or.inr (kl.mp f), fun _ => by rw [o1]; decide⟩
theorem k_standsV_1 {V : PV} {p0 p1 p2 r : Int32} {G G1 : GS} (h : P_stands_1 p0 p1 p2 G r G1) (hW : CW_1 V G) : G = G1 ∧ (r.toInt ≠ 0 ↔ (inW V p0 ∧ inS V p1 ∧ 0 ≤ p2.toInt ∧ p2.toInt + (wk V p0.toInt.toNat).1 ≤ (stl V p1.toInt.toNat : Int))) := by
  obtain ⟨e, k⟩ := k_stands_1_eq h hW
  refine ⟨e, k.trans ⟨fun q => ⟨q.1, q.2.1, q.2.2.1, ?_⟩, fun q => ⟨q.1, q.2.1, q.2.2.1, ?_⟩⟩⟩
  · have := q.2.2.2
    unfold wk stl
    omega
  · have := q.2.2.2
    unfold wk stl at this
    omega
theorem walk_1 {V : PV} {p0 p1 p2 q0 q1 q2 r r' : Int32} {G Ga Gb : GS} (hx : P_Wwalk_1 p0 p1 p2 G r Ga) (hm : Q_walk q0 q1 q2 Ga r' Gb) (i0 : p0.toInt = q0.toInt) (i1 : p1.toInt = q1.toInt) (i2 : p2.toInt = q2.toInt) (hI : IV_1 V G) : r.toInt = r'.toInt ∧ IV_1 V Gb := by
  obtain rfl := Int32.toInt_inj.mp i0
  obtain rfl := Int32.toInt_inj.mp i1
  obtain rfl := Int32.toInt_inj.mp i2
  have hFx := hx.2.1
  have hFm := hm.2.1
  have m1 : (-1 : Int32).toInt = -1 := rfl
  obtain ⟨z0, z1, z2, z3, z4, z5, z6, z7, z8, z9, -, -⟩ := z32
  obtain ⟨hW, hR, hV, hCa, hE, hSV⟩ := hI
  obtain ⟨n, m, hEn⟩ := hE.1
  have hnow := hEn.now
  have hRa : RV V Ga := hR.fr hFx (by decide) (by decide)
  have a110 : Ga.1 110 = G.1 110 := hFx.row1 110 (by decide) (by decide)
  have e8 : G.1 110 8 = G.1 58 8 := hEn.2.1 8 (by decide)
  have hM := m_walk hm hRa hV (fun s i hs hi => hW.ok hs i hi) (by rw [a110, e8]; exact hnow.2.2.2)
  rw [a110] at hM
  have hC : (¬ VWk V p0 p1 p2 ∧ r.toInt = -1 ∧ G = Ga) ∨ (VWk V p0 p1 p2 ∧ ∃ Gc, Fr [37, 38, 39, 58] [(6, 3)] G Gc ∧ P_eKeep Gc Ga ∧ CaC_1 V Ga ∧ Gc.1 58 = wkR V (G.1 58) p0 p1 p2 ∧ r = Gc.1 58 4) := by
    clear hM hm
    obtain ⟨-, -, -, r1, G2, hst, hh⟩ := hx
    obtain ⟨rfl, k1⟩ := k_standsV_1 hst hW
    rcases hh with ⟨c, rfl, rfl⟩ | ⟨c, y12, e12, hh⟩
    · exact Or.inl ⟨fun q => absurd c (k1.mpr ⟨q.1, q.2.1, q.2.2.1, q.2.2.2.1⟩), m1, rfl⟩
    obtain ⟨hWk, hS, h0, h1⟩ := k1.mp c
    clear k1 c
    obtain ⟨hwl, hwn⟩ := hWk.n
    obtain ⟨hsl, hsn⟩ := hS.n
    have t12 : y12.toInt = (wk V p0.toInt.toNat).2.2.1 := by
      rw [e12]
      exact (hW.2.1.2 _ hwl).2.2.1
    rcases hh with ⟨d, G15, hso, r19, G20, hlw, hh⟩ | ⟨d, rfl, rfl⟩
    rotate_left
    · exact Or.inl ⟨fun q => by have := q.2.2.2.2; omega, m1, rfl⟩
    have hVW : VWk V p0 p1 p2 := ⟨hWk, hS, h0, h1, by omega⟩
    have hFs := hso.2.1
    have w15 : G15.1 58 = setr (G.1 58) p0 p1 p2 1 := by
      rw [hso.2.2.2]
      rfl
    obtain ⟨s0, s1, s2, s4, s6, s8, s9⟩ := setr_at (v := G.1 58) (p0 := p0) (p1 := p1) (p2 := p2) (h := 1)
    obtain ⟨hCa2, q1, q2⟩ := k_wLawful_1_eq (w := p0.toInt.toNat) (s := p1.toInt.toNat) (t := (G.1 58 8).toInt.toNat) hlw (hW.fr hFs (by decide) (by decide)) hR.1.2.1 hV (hCa.fr (hFs.row1 37 (by decide) (by decide)) (hFs.row1 38 (by decide) (by decide))) (by rw [w15, s0]; exact hwn) hwl (by rw [w15, s1]; exact hsn) hsl (by rw [w15, s8]; have := hnow.2.2.2; omega) (by have := hnow.2.2.2; omega) (by rw [w15, s6]; exact hnow.2.1.1)
    rw [w15, s9, s6, s2] at q2
    have hr := pif_r q1 q2
    have r20 : G20.1 58 = setr (G.1 58) p0 p1 p2 1 := (hlw.2.1.row1 58 (by decide) (by decide)).trans w15
    have hF20 : Fr [37, 38, 39, 58] [(6, 3)] G G20 := (Fr.call Fr.rf hFs (by decide) (by decide)).call hlw.2.1 (by decide) (by decide)
    refine Or.inr ⟨hVW, ?_⟩
    rcases hh with ⟨f, G34, -, hF34, w34, G36, hk, y40, e40, rfl, rfl⟩ | ⟨f, G27, hk, y31, e31, rfl, rfl⟩
    · have hno : ¬ ((G.1 58 9).toInt = 1 ∨ LWF V (G.1 58 6) p0.toInt.toNat p1.toInt.toNat (G.1 58 8).toInt.toNat p2.toInt) := fun q => (q2.mpr q) f
      rw [z4, r20, setr_4] at w34
      have h34 : G34.1 58 = wkR V (G.1 58) p0 p1 p2 := by
        rw [w34]
        unfold wkR
        rw [pif_n hno]
      refine ⟨G34, hF20.call hF34 (by decide) (by decide), hk, ?_, h34, ?_⟩
      · exact (hCa2.fr (hF34.row1 37 (by decide) (by decide)) (hF34.row1 38 (by decide) (by decide))).fr (hk.2.1.row1 37 (by decide) (by decide)) (hk.2.1.row1 38 (by decide) (by decide))
      · rw [e40, z4, hk.2.1.row1 58 (by decide) (by decide)]
    · have hyes := q2.mp f
      have h27 : G20.1 58 = wkR V (G.1 58) p0 p1 p2 := by
        rw [r20]
        unfold wkR
        rw [pif_p hyes]
      refine ⟨G20, hF20, hk, ?_, h27, ?_⟩
      · exact hCa2.fr (hk.2.1.row1 37 (by decide) (by decide)) (hk.2.1.row1 38 (by decide) (by decide))
      · rw [e31, z4, hk.2.1.row1 58 (by decide) (by decide)]
  rcases hC with ⟨n1, v1, rfl⟩ | ⟨y1, Gc, hFc, hk, hCaa, hrow, hr⟩
  · rcases hM with ⟨n2, v2, hFb⟩ | ⟨y2, -⟩
    · exact ⟨by rw [v1, v2], IV_1.fr ⟨hW, hR, hV, hCa, hE, hSV⟩ hFb (by decide) (by decide) (by decide)⟩
    · exact absurd y2 n1
  · rcases hM with ⟨n2, -⟩ | ⟨y2, Gm, Gn, hFm1, ha, hFn, hrow2, hr2⟩
    · exact absurd y1 n2
    · have zr : ∀ j, j < 10 → Gb.1 110 j = Gc.1 58 j := fun j hj => by
        rw [hrow2, hrow]
        exact wkR_cg hEn.2.1 j hj
      refine ⟨by rw [hr, hr2, zr 4 (by decide)], (hW.fr hFx (by decide) (by decide)).fr hFm (by decide) (by decide), hRa.fr hFm (by decide) (by decide), hV, hCaa.fr (hFm.row1 37 (by decide) (by decide)) (hFm.row1 38 (by decide) (by decide)), ER_ac hE hFc hk hFm1 ha hFn ?_ zr (by decide) (by decide) (by decide), (hSV.fr hFx (by decide) (by decide)).fr hFm (by decide) (by decide)⟩
      rw [hrow]
      exact hnow.set y1.1 y1.2.1
theorem k_slipBy_1_eq {V : PV} {p0 r : Int32} {G G1 : GS} (h : P_slipBy_1 p0 G r G1) (hW : CW_1 V G) (hs1 : 1 ≤ (slpV V).1 + (slpV V).2.1 + (slpV V).2.2) : G = G1 ∧ r = slp V p0 := by
  obtain ⟨-, hF, -, r1, G2, hal, w8, G9, hj, -, hF9, y13, e13, hh⟩ := h
  refine ⟨hF.nil, ?_⟩
  obtain ⟨-, hFa, -, y1, e1, y2, e2, y3, t3, y4, e4, y5, t5, rfl, rfl⟩ := hal
  obtain ⟨-, -, -, ⟨s0, s1, s2⟩, -⟩ := hW
  have t1 : y1.toInt = (slpV V).1 := by rw [e1]; exact s0
  have t2 : y2.toInt = (slpV V).2.1 := by rw [e2]; exact s1
  have t4 : y4.toInt = (slpV V).2.2 := by rw [e4]; exact s2
  have t5' : y5.toInt = (slpV V).1 + (slpV V).2.1 + (slpV V).2.2 := by omega
  have e5 : y5 = all32 V := of_i t5'
  have e9 := hF9.nil
  subst e9
  have hw8 : w8 = p0 - p0 / all32 V * all32 V := by
    rcases hj with ⟨c, -⟩ | ⟨c, y20, e20, ew, -⟩
    · omega
    · rw [← ew, e20, e5]
  have t13 : y13.toInt = (slpV V).1 := by rw [e13]; exact s0
  unfold slp
  rw [← hw8]
  rcases hh with ⟨c, y15, e15, y16, e16, y17, t17, ⟨d, rfl, -⟩ | ⟨d, rfl, -⟩⟩ | ⟨c, rfl, -⟩
  · have t15 : y15.toInt = (slpV V).1 := by rw [e15]; exact s0
    have t16 : y16.toInt = (slpV V).2.1 := by rw [e16]; exact s1
    rw [if_neg (by omega), if_neg (by omega)]
  · have t15 : y15.toInt = (slpV V).1 := by rw [e15]; exact s0
    have t16 : y16.toInt = (slpV V).2.1 := by rw [e16]; exact s1
    rw [if_neg (by omega), if_pos (by omega)]
  · rw [if_pos (by omega)]
theorem k_wGo_1_eq {V : PV} {p0 r : Int32} {G G1 : GS} (h : P_wGo_1 p0 G r G1) (hW : CW_1 V G) (hv : ROK V (G.1 58)) : G = G1 ∧ (r.toInt ≠ 0 ↔ VGo V (G.1 58) p0) := by
  obtain ⟨z0, -, -, -, z4, z5, -, -, -, -, -, -⟩ := z32
  have o1 : (1 : Int32).toInt = 1 := rfl
  have z00 : (0 : Int32).toInt = 0 := rfl
  obtain ⟨-, hF, -, -, y1, e1, r3, G4, hhw, hh⟩ := h
  refine ⟨hF.nil, ?_⟩
  rw [z0] at e1
  obtain ⟨rfl, k1⟩ := k_hasWalkerV_1 hhw hW
  rcases hh with ⟨c, rfl, -⟩ | ⟨c, y10, e10, hh⟩
  · refine ⟨fun q => absurd z00 q, fun q => absurd c (k1.mpr ?_)⟩
    rw [e1]
    rcases hv.1 with w | w
    · exact absurd q.1 (by omega)
    · exact ⟨w.1, w.2.1⟩
  have hWk := k1.mp c
  clear k1 c
  rw [e1] at hWk
  obtain ⟨hwl, hwn⟩ := hWk.n
  obtain ⟨k1, k2, k3, k4⟩ := hW.2.1.2 _ hwl
  rw [z4] at e10
  rcases hh with ⟨c, y12, e12, hh⟩ | ⟨c, rfl, -⟩
  rotate_left
  · exact ⟨fun q => absurd z00 q, fun q => absurd (by rw [e10]; exact q.2.1) c⟩
  have t12 : y12.toInt = (wk V (G.1 58 0).toInt.toNat).2.1 := by
    rw [e12, e1]
    exact k2
  rcases hh with ⟨d, y14, e14, w18, G19, hj, -, -, hF19, hh⟩ | ⟨d, rfl, -⟩
  rotate_left
  · exact ⟨fun q => absurd z00 q, fun q => by have := q.2.2.1; omega⟩
  rw [z5] at e14
  have e19 := hF19.nil
  subst e19
  have hw18 : w18.toInt = 0 ↔ ¬ (G.1 58 5).toInt = 1 := by
    rw [← e14]
    rcases hj with ⟨f, ew, -⟩ | ⟨f, ew, -⟩
    · rw [← ew]
      exact ⟨fun q => absurd q (by decide), fun q => absurd f q⟩
    · rw [← ew]
      exact ⟨fun _ => f, fun _ => rfl⟩
  have ht : ∀ {y : Int32}, y.toInt = (if (G.1 58 5).toInt = 1 then (wk V (G.1 58 0).toInt.toNat).2.2.1 else (wk V (G.1 58 0).toInt.toNat).2.2.2) → ((y.toInt < p0.toInt ∧ 0 = r) ∨ (p0.toInt ≤ y.toInt ∧ 1 = r)) → (r.toInt ≠ 0 ↔ VGo V (G.1 58) p0) := by
    intro y ty hc
    rcases hc with ⟨f, rfl⟩ | ⟨f, rfl⟩
    · refine ⟨fun q => absurd z00 q, fun q => ?_⟩
      have := q.2.2.2
      rw [← ty] at this
      omega
    · refine ⟨fun _ => ⟨hWk.1, by rw [← e10]; exact c, by rw [← t12]; exact d, by rw [← ty]; exact f⟩, fun _ => by rw [o1]; decide⟩
  rcases hh with ⟨c18, y, ey, hh⟩ | ⟨c18, y, ey, hh⟩
  · have h5 := hw18.mp c18
    refine ht (y := y) ?_ ?_
    · rw [if_neg h5, ey, e1]
      exact k4
    · rcases hh with ⟨f, e, -⟩ | ⟨f, e, -⟩
      · exact Or.inl ⟨f, e⟩
      · exact Or.inr ⟨f, e⟩
  · have h5 : (G.1 58 5).toInt = 1 := Classical.byContradiction (fun q => c18 (hw18.mpr q))
    refine ht (y := y) ?_ ?_
    · rw [if_pos h5, ey, e1]
      exact k3
    · rcases hh with ⟨f, e, -⟩ | ⟨f, e, -⟩
      · exact Or.inl ⟨f, e⟩
      · exact Or.inr ⟨f, e⟩
theorem go_1 {V : PV} {p0 q0 r r' : Int32} {G Ga Gb : GS} (hx : P_Wgo_1 p0 G r Ga) (hm : Q_go q0 Ga r' Gb) (i0 : p0.toInt = q0.toInt) (hI : IV_1 V G) (hs1 : 1 ≤ (slpV V).1 + (slpV V).2.1 + (slpV V).2.2) : r.toInt = r'.toInt ∧ IV_1 V Gb := by
  obtain rfl := Int32.toInt_inj.mp i0
  have hFx := hx.2.1
  have hFm := hm.2.1
  have m1 : (-1 : Int32).toInt = -1 := rfl
  obtain ⟨z0, z1, z2, z3, z4, z5, z6, z7, z8, z9, -, -⟩ := z32
  obtain ⟨hW, hR, hV, hCa, hE, hSV⟩ := hI
  obtain ⟨n, m, hEn⟩ := hE.1
  have hnow := hEn.now
  have hRa : RV V Ga := hR.fr hFx (by decide) (by decide)
  have a110 : Ga.1 110 = G.1 110 := hFx.row1 110 (by decide) (by decide)
  have hM := m_go hm hRa hV (fun s i hs hi => hW.ok hs i hi) (by rw [a110]; exact hEn.now2)
  rw [a110] at hM
  have hC : (¬ VGo V (G.1 58) p0 ∧ r.toInt = -1 ∧ G = Ga) ∨ (VGo V (G.1 58) p0 ∧ ∃ Gc, Fr [37, 38, 39, 58] [(6, 3)] G Gc ∧ P_eKeep Gc Ga ∧ CaC_1 V Ga ∧ Gc.1 58 = goR V (G.1 58) p0 ∧ r = Gc.1 58 4) := by
    clear hM hm
    obtain ⟨-, -, -, r1, G2, hgo, hh⟩ := hx
    obtain ⟨rfl, k1⟩ := k_wGo_1_eq hgo hW hnow
    rcases hh with ⟨c, rfl, rfl⟩ | ⟨c, y8, e8, G11, hdr, y15, e15, y16, e16, y17, e17, r18, G19, hsb, y24, e24, y25, e25, x26, w30, G33, hj, -, -, hF33, y39, e39, G38, -, hF38, w38, r42, G43, hst, hh⟩
    · exact Or.inl ⟨fun q => absurd c (k1.mpr q), m1, rfl⟩
    have hVG := k1.mp c
    clear k1 c
    have hWS : inW V (G.1 58 0) ∧ inS V (G.1 58 1) := by
      rcases hnow.1 with q | q
      · have := hVG.1
        omega
      · exact ⟨⟨q.1, q.2.1⟩, ⟨q.2.2.1, q.2.2.2⟩⟩
    obtain ⟨hwl, hwn⟩ := hWS.1.n
    obtain ⟨hsl, hsn⟩ := hWS.2.n
    rw [z0] at e8
    have hFd := hdr.2.1
    obtain ⟨-, -, d1, f1, d2, f2, d3, f3, d4, f4, -, w11⟩ := hdr
    rw [z7] at f1 w11
    have f4' : d4 = goS (G.1 58) := by
      unfold goS
      rw [f4, f3, f2, f1]
    rw [f4'] at w11
    rw [z2, w11, ud_no (by decide)] at e15
    rw [z7, w11, ud_at] at e17
    have hW11 : CW_1 V G11 := hW.fr hFd (by decide) (by decide)
    obtain ⟨rfl, e18⟩ := k_slipBy_1_eq hsb hW11 hs1
    have e24' : y24 = goX V (G.1 58) p0 := by
      unfold goX
      rw [e24, e16, e15, e18, e17]
    have t25 : y25.toInt = (wk V (G.1 58 0).toInt.toNat).2.2.1 := by
      rw [e25, e8]
      exact (hW11.2.1.2 _ hwl).2.2.1
    have e33 := hF33.nil
    subst e33
    have hJ : x26 = goX V (G.1 58) p0 ∧ w30 = goB V (G.1 58) p0 := by
      unfold goB
      rcases hj with ⟨f, ex, ew, -⟩ | ⟨f, ex, ew, -⟩
      · exact ⟨by rw [← ex, e24'], by rw [if_neg (by omega)]; exact ew.symm⟩
      · exact ⟨by rw [← ex, e24'], by rw [if_pos (by omega)]; exact ew.symm⟩
    obtain ⟨rfl, rfl⟩ := hJ
    rw [z5, w11] at w38
    have w38' : G38.1 58 = go0 V (G.1 58) p0 := w38
    rw [z1, z5, w11, ud_no (by decide), ud_no (by decide)] at e39
    have hW38 : CW_1 V G38 := hW11.fr hF38 (by decide) (by decide)
    obtain ⟨rfl, ks⟩ := k_standsV_1 hst hW38
    rw [e8, e39] at ks
    have hF38' : Fr [37, 38, 39, 58] [(6, 3)] G G38 := (Fr.call Fr.rf hFd (by decide) (by decide)).call hF38 (by decide) (by decide)
    have hCa38 : CaC_1 V G38 := (hCa.fr (hFd.row1 37 (by decide) (by decide)) (hFd.row1 38 (by decide) (by decide))).fr (hF38.row1 37 (by decide) (by decide)) (hF38.row1 38 (by decide) (by decide))
    refine Or.inr ⟨hVG, ?_⟩
    rcases hh with ⟨c4, G49, -, hF49, w49, G51, hk, y55, e55, rfl, rfl⟩ | ⟨c4, y59, e59, y60, e60, G61, -, hF61, w61, r62, G63, hlw, hh⟩
    · have hno : ¬ (0 ≤ (goX V (G.1 58) p0).toInt ∧ (goX V (G.1 58) p0).toInt + (wk V (G.1 58 0).toInt.toNat).1 ≤ (stl V (G.1 58 1).toInt.toNat : Int)) := fun q => absurd c4 (ks.mpr ⟨hWS.1, hWS.2, q.1, q.2⟩)
      rw [z4, w38'] at w49
      refine ⟨G49, hF38'.call hF49 (by decide) (by decide), hk, ?_, ?_, ?_⟩
      · exact (hCa38.fr (hF49.row1 37 (by decide) (by decide)) (hF49.row1 38 (by decide) (by decide))).fr (hk.2.1.row1 37 (by decide) (by decide)) (hk.2.1.row1 38 (by decide) (by decide))
      · rw [w49]
        unfold goR
        rw [if_neg hno]
      · rw [e55, z4, hk.2.1.row1 58 (by decide) (by decide)]
    · obtain ⟨-, -, g1, g2⟩ := ks.mp c4
      clear ks c4
      rw [z2, z3, w38'] at e59 w61
      rw [ud_no (by decide)] at e59
      have e59' : y59 = G.1 58 3 := by
        rw [e59]
        unfold go0
        rw [ud_no (by decide), ud_no (by decide)]
      rw [e60, e59'] at w61
      have at61 : ∀ j, j = 0 ∨ j = 1 ∨ j = 6 ∨ j = 8 ∨ j = 9 → G61.1 58 j = G.1 58 j := by
        intro j hj
        rw [w61]
        unfold go0
        rcases hj with rfl | rfl | rfl | rfl | rfl <;> rw [ud_no (by decide), ud_no (by decide), ud_no (by decide), ud_no (by decide)]
      have at2 : G61.1 58 2 = goX V (G.1 58) p0 := by
        rw [w61, ud_no (by decide), ud_at]
      obtain ⟨hCa2, q1, q2⟩ := k_wLawful_1_eq (w := (G.1 58 0).toInt.toNat) (s := (G.1 58 1).toInt.toNat) (t := (G.1 58 8).toInt.toNat) hlw (hW38.fr hF61 (by decide) (by decide)) hR.1.2.1 hV (hCa38.fr (hF61.row1 37 (by decide) (by decide)) (hF61.row1 38 (by decide) (by decide))) (by rw [at61 0 (by simp)]; exact hwn) hwl (by rw [at61 1 (by simp)]; exact hsn) hsl (by rw [at61 8 (by simp)]; have := hnow.2.2.2; omega) (by have := hnow.2.2.2; omega) (by rw [at61 6 (by simp)]; exact hnow.2.1.1)
      rw [at61 9 (by simp), at61 6 (by simp), at2] at q2
      have hr := pif_r q1 q2
      have r63 : G63.1 58 = upd (upd (go0 V (G.1 58) p0) 2 (goX V (G.1 58) p0)) 3 (G.1 58 3 + 1) := (hlw.2.1.row1 58 (by decide) (by decide)).trans w61
      have hF63 : Fr [37, 38, 39, 58] [(6, 3)] G G63 := (hF38'.call hF61 (by decide) (by decide)).call hlw.2.1 (by decide) (by decide)
      have hyes : 0 ≤ (goX V (G.1 58) p0).toInt ∧ (goX V (G.1 58) p0).toInt + (wk V (G.1 58 0).toInt.toNat).1 ≤ (stl V (G.1 58 1).toInt.toNat : Int) := ⟨g1, g2⟩
      rcases hh with ⟨f, G69, -, hF69, w69, G71, hk, y75, e75, rfl, rfl⟩ | ⟨f, G78, -, hF78, w78, G80, hk, y84, e84, rfl, rfl⟩
      · have hno : ¬ ((G.1 58 9).toInt = 1 ∨ LWF V (G.1 58 6) (G.1 58 0).toInt.toNat (G.1 58 1).toInt.toNat (G.1 58 8).toInt.toNat (goX V (G.1 58) p0).toInt) := fun q => (q2.mpr q) f
        rw [z4, r63] at w69
        refine ⟨G69, hF63.call hF69 (by decide) (by decide), hk, ?_, ?_, ?_⟩
        · exact (hCa2.fr (hF69.row1 37 (by decide) (by decide)) (hF69.row1 38 (by decide) (by decide))).fr (hk.2.1.row1 37 (by decide) (by decide)) (hk.2.1.row1 38 (by decide) (by decide))
        · rw [w69]
          unfold goR
          rw [if_pos hyes, pif_n hno]
        · rw [e75, z4, hk.2.1.row1 58 (by decide) (by decide)]
      · have hy2 := q2.mp f
        rw [z4, r63] at w78
        refine ⟨G78, hF63.call hF78 (by decide) (by decide), hk, ?_, ?_, ?_⟩
        · exact (hCa2.fr (hF78.row1 37 (by decide) (by decide)) (hF78.row1 38 (by decide) (by decide))).fr (hk.2.1.row1 37 (by decide) (by decide)) (hk.2.1.row1 38 (by decide) (by decide))
        · rw [w78]
          unfold goR
          rw [if_pos hyes, pif_p hy2]
        · rw [e84, z4, hk.2.1.row1 58 (by decide) (by decide)]
  have hvv : VGo V (G.1 58) p0 ↔ VGo V (G.1 110) p0 := by
    unfold VGo
    rw [hEn.2.1 0 (by decide), hEn.2.1 4 (by decide), hEn.2.1 5 (by decide)]
  rcases hC with ⟨n1, v1, rfl⟩ | ⟨y1, Gc, hFc, hk, hCaa, hrow, hr⟩
  · rcases hM with ⟨n2, v2, rfl⟩ | ⟨y2, -⟩
    · exact ⟨by rw [v1, v2], hW, hR, hV, hCa, hE, hSV⟩
    · exact absurd (hvv.mpr y2) n1
  · rcases hM with ⟨n2, -⟩ | ⟨y2, Gn, ha, hFn, hrow2, hr2⟩
    · exact absurd (hvv.mp y1) n2
    · have zr : ∀ j, j < 10 → Gb.1 110 j = Gc.1 58 j := fun j hj => by
        rw [hrow2, hrow]
        exact goR_cg hEn.2.1 j hj
      refine ⟨by rw [hr, hr2, zr 4 (by decide)], (hW.fr hFx (by decide) (by decide)).fr hFm (by decide) (by decide), hRa.fr hFm (by decide) (by decide), hV, hCaa.fr (hFm.row1 37 (by decide) (by decide)) (hFm.row1 38 (by decide) (by decide)), ER_ac (rsm := []) (fsm := []) hE hFc hk Fr.rf ha hFn ?_ zr (by decide) (by decide) (by decide), (hSV.fr hFx (by decide) (by decide)).fr hFm (by decide) (by decide)⟩
      rw [hrow]
      exact hnow.go
/-- the ACTS that touch no LINE -/
theorem IV_1.er {V : PV} {rs : List Nat} {fs : List (Nat × Nat)} {rs' : List Nat} {fs' : List (Nat × Nat)} {G Ga Gb : GS} (h : IV_1 V G) (hF : Fr rs fs G Ga) (hF' : Fr rs' fs' Ga Gb) (hE : ER V Gb) (h1 : (∀ i ∈ [10, 11, 12, 13, 14, 15, 16, 17, 18, 37, 38, 61, 62, 63, 64, 65, 72, 73, 74, 87, 88, 89, 90, 91, 92, 93, 94, 95, 96, 112, 113, 114, 115, 116], i ∉ rs ∧ ∀ x ∈ fs, x.1 ≠ i) ∧ ∀ i ∈ [10, 11, 12, 13, 14, 15, 16, 17, 18, 37, 38, 61, 62, 63, 64, 65, 72, 73, 74, 87, 88, 89, 90, 91, 92, 93, 94, 95, 96, 112, 113, 114, 115, 116], i ∉ rs' ∧ ∀ x ∈ fs', x.1 ≠ i) (h2 : (∀ y ∈ [(1, 9), (1, 10), (1, 11), (1, 12), (1, 13), (1, 14), (1, 15), (1, 16), (31, 5), (66, 22), (66, 52), (66, 53), (66, 54), (66, 55), (66, 56), (66, 85)], y.1 ∉ rs ∧ y ∉ fs) ∧ ∀ y ∈ [(1, 9), (1, 10), (1, 11), (1, 12), (1, 13), (1, 14), (1, 15), (1, 16), (31, 5), (66, 22), (66, 52), (66, 53), (66, 54), (66, 55), (66, 56), (66, 85)], y.1 ∉ rs' ∧ y ∉ fs') : IV_1 V Gb := by
  obtain ⟨a, b, c, d, -, f⟩ := h
  have l1 : ∀ i ∈ [10, 11, 12, 13, 14, 15, 16, 17, 18], i ∈ [10, 11, 12, 13, 14, 15, 16, 17, 18, 37, 38, 61, 62, 63, 64, 65, 72, 73, 74, 87, 88, 89, 90, 91, 92, 93, 94, 95, 96, 112, 113, 114, 115, 116] := by decide
  have l2 : ∀ i ∈ [72, 73, 74, 87, 88, 89, 90, 91, 92, 93, 94, 95, 96], i ∈ [10, 11, 12, 13, 14, 15, 16, 17, 18, 37, 38, 61, 62, 63, 64, 65, 72, 73, 74, 87, 88, 89, 90, 91, 92, 93, 94, 95, 96, 112, 113, 114, 115, 116] := by decide
  have l3 : ∀ y ∈ [(1, 9), (1, 10), (1, 11), (1, 12), (1, 13), (1, 14), (1, 15), (1, 16)], y ∈ [(1, 9), (1, 10), (1, 11), (1, 12), (1, 13), (1, 14), (1, 15), (1, 16), (31, 5), (66, 22), (66, 52), (66, 53), (66, 54), (66, 55), (66, 56), (66, 85)] := by decide
  have l4 : ∀ y ∈ [(66, 22), (66, 52), (66, 53), (66, 54), (66, 55), (66, 56)], y ∈ [(1, 9), (1, 10), (1, 11), (1, 12), (1, 13), (1, 14), (1, 15), (1, 16), (31, 5), (66, 22), (66, 52), (66, 53), (66, 54), (66, 55), (66, 56), (66, 85)] := by decide
  have l5 : ∀ i ∈ [61, 62, 63, 64, 65, 112, 113, 114, 115, 116], i ∈ [10, 11, 12, 13, 14, 15, 16, 17, 18, 37, 38, 61, 62, 63, 64, 65, 72, 73, 74, 87, 88, 89, 90, 91, 92, 93, 94, 95, 96, 112, 113, 114, 115, 116] := by decide
  have l6 : ∀ y ∈ [(31, 5), (66, 85)], y ∈ [(1, 9), (1, 10), (1, 11), (1, 12), (1, 13), (1, 14), (1, 15), (1, 16), (31, 5), (66, 22), (66, 52), (66, 53), (66, 54), (66, 55), (66, 56), (66, 85)] := by decide
  refine ⟨(a.fr hF (fun i hi => h1.1 i (l1 i hi)) (fun y hy => h2.1 y (l3 y hy))).fr hF' (fun i hi => h1.2 i (l1 i hi)) (fun y hy => h2.2 y (l3 y hy)), (b.fr hF (fun i hi => h1.1 i (l2 i hi)) (fun y hy => h2.1 y (l4 y hy))).fr hF' (fun i hi => h1.2 i (l2 i hi)) (fun y hy => h2.2 y (l4 y hy)), c, d.fr ?_ ?_, hE, (f.fr hF (fun i hi => h1.1 i (l5 i hi)) (fun y hy => h2.1 y (l6 y hy))).fr hF' (fun i hi => h1.2 i (l5 i hi)) (fun y hy => h2.2 y (l6 y hy))⟩
  · rw [hF'.rows h1.2 (i := 37) (by decide), hF.rows h1.1 (i := 37) (by decide)]
  · rw [hF'.rows h1.2 (i := 38) (by decide), hF.rows h1.1 (i := 38) (by decide)]
theorem k_wLawful_2_eq {V : PV} {r : Int32} {G G1 : GS} {w s t : Nat} (h : P_wLawful_2 G r G1) (hW : CW_2 V G) (hR3 : V.1.length ≤ 3) (hV : PVok V) (hCa : CaC_2 V G) (hw : (G.1 58 0).toInt = (w : Int)) (hwl : w < V.2.1.length) (hs : (G.1 58 1).toInt = (s : Int)) (hsl : s < V.1.length) (ht : (G.1 58 8).toInt = (t : Int)) (ht64 : t < 64) (hd0 : 0 ≤ (G.1 58 6).toInt) : CaC_2 V G1 ∧ (r.toInt = 0 ∨ r.toInt = 1) ∧ (r.toInt ≠ 0 ↔ ((G.1 58 9).toInt = 1 ∨ LWF V (G.1 58 6) w s t (G.1 58 2).toInt)) := by
  obtain ⟨z0, z1, z2, -, -, -, -, -, z8, z9, -, -⟩ := z32
  have o1 : (1 : Int32).toInt = 1 := rfl
  have z00 : (0 : Int32).toInt = 0 := rfl
  obtain ⟨-, -, -, y1, e1, r2, G3, htd, G8, hfi, y12, e12, hh⟩ := h
  obtain ⟨rfl, e2⟩ := k_today_eq htd
  rw [z1] at e1
  obtain ⟨hFo, hCa2⟩ := k_find_2 (s := s) hfi (by rw [e1]; exact hs) hsl hR3 hW hV (by rw [e2]; exact hd0) hCa
  rw [e2] at hFo
  have r58 : G8.1 58 = G.1 58 := hfi.2.1.row1 58 (by decide) (by decide)
  rw [z9, r58] at e12
  rcases hh with ⟨c, rfl, rfl⟩ | ⟨c, y14, e14, y15, e15, y16, e16, r17, G18, hil, hh⟩
  · exact ⟨hCa2, Or.inr o1, fun _ => Or.inl (by rw [← e12]; exact c), fun _ => by rw [o1]; decide⟩
  · rw [z0, r58] at e14
    rw [z8, r58] at e15
    rw [z2, r58] at e16
    obtain ⟨rfl, kl⟩ := k_isLawful_2 (w := w) (s := s) (t := t) hil (by rw [e14]; exact hw) hwl (by rw [e1]; exact hs) hsl (by rw [e15]; exact ht) ht64 (hW.fr hfi.2.1 (by decide) (by decide)) hV hFo
    rw [e16] at kl
    rcases hh with ⟨f, rfl, rfl⟩ | ⟨f, rfl, rfl⟩
    · exact ⟨hCa2, Or.inl z00, fun q => absurd z00 q, fun q => by
        rcases q with q | q
        · exact absurd (by rw [e12]; exact q) c
        · exact absurd f (kl.mpr q)⟩
    · exact ⟨hCa2, Or.inr o1, fun _ => Or.inr (kl.mp f), fun _ => by rw [o1]; decide⟩
theorem k_standsV_2 {V : PV} {p0 p1 p2 r : Int32} {G G1 : GS} (h : P_stands_2 p0 p1 p2 G r G1) (hW : CW_2 V G) : G = G1 ∧ (r.toInt ≠ 0 ↔ (inW V p0 ∧ inS V p1 ∧ 0 ≤ p2.toInt ∧ p2.toInt + (wk V p0.toInt.toNat).1 ≤ (stl V p1.toInt.toNat : Int))) := by
  obtain ⟨e, k⟩ := k_stands_2_eq h hW
  refine ⟨e, k.trans ⟨fun q => ⟨q.1, q.2.1, q.2.2.1, ?_⟩, fun q => ⟨q.1, q.2.1, q.2.2.1, ?_⟩⟩⟩
  · have := q.2.2.2
    unfold wk stl
    omega
  · have := q.2.2.2
    unfold wk stl at this
    omega
theorem walk_2 {V : PV} {p0 p1 p2 q0 q1 q2 r r' : Int32} {G Ga Gb : GS} (hx : P_Wwalk_2 p0 p1 p2 G r Ga) (hm : Q_walk q0 q1 q2 Ga r' Gb) (i0 : p0.toInt = q0.toInt) (i1 : p1.toInt = q1.toInt) (i2 : p2.toInt = q2.toInt) (hI : IV_2 V G) : r.toInt = r'.toInt ∧ IV_2 V Gb := by
  obtain rfl := Int32.toInt_inj.mp i0
  obtain rfl := Int32.toInt_inj.mp i1
  obtain rfl := Int32.toInt_inj.mp i2
  have hFx := hx.2.1
  have hFm := hm.2.1
  have m1 : (-1 : Int32).toInt = -1 := rfl
  obtain ⟨z0, z1, z2, z3, z4, z5, z6, z7, z8, z9, -, -⟩ := z32
  obtain ⟨hW, hR, hV, hCa, hE, hSV⟩ := hI
  obtain ⟨n, m, hEn⟩ := hE.1
  have hnow := hEn.now
  have hRa : RV V Ga := hR.fr hFx (by decide) (by decide)
  have a110 : Ga.1 110 = G.1 110 := hFx.row1 110 (by decide) (by decide)
  have e8 : G.1 110 8 = G.1 58 8 := hEn.2.1 8 (by decide)
  have hM := m_walk hm hRa hV (fun s i hs hi => hW.ok hs i hi) (by rw [a110, e8]; exact hnow.2.2.2)
  rw [a110] at hM
  have hC : (¬ VWk V p0 p1 p2 ∧ r.toInt = -1 ∧ G = Ga) ∨ (VWk V p0 p1 p2 ∧ ∃ Gc, Fr [37, 38, 39, 58] [(6, 3)] G Gc ∧ P_eKeep Gc Ga ∧ CaC_2 V Ga ∧ Gc.1 58 = wkR V (G.1 58) p0 p1 p2 ∧ r = Gc.1 58 4) := by
    clear hM hm
    obtain ⟨-, -, -, r1, G2, hst, hh⟩ := hx
    obtain ⟨rfl, k1⟩ := k_standsV_2 hst hW
    rcases hh with ⟨c, rfl, rfl⟩ | ⟨c, y12, e12, hh⟩
    · exact Or.inl ⟨fun q => absurd c (k1.mpr ⟨q.1, q.2.1, q.2.2.1, q.2.2.2.1⟩), m1, rfl⟩
    obtain ⟨hWk, hS, h0, h1⟩ := k1.mp c
    clear k1 c
    obtain ⟨hwl, hwn⟩ := hWk.n
    obtain ⟨hsl, hsn⟩ := hS.n
    have t12 : y12.toInt = (wk V p0.toInt.toNat).2.2.1 := by
      rw [e12]
      exact (hW.2.1.2 _ hwl).2.2.1
    rcases hh with ⟨d, G15, hso, r19, G20, hlw, hh⟩ | ⟨d, rfl, rfl⟩
    rotate_left
    · exact Or.inl ⟨fun q => by have := q.2.2.2.2; omega, m1, rfl⟩
    have hVW : VWk V p0 p1 p2 := ⟨hWk, hS, h0, h1, by omega⟩
    have hFs := hso.2.1
    have w15 : G15.1 58 = setr (G.1 58) p0 p1 p2 1 := by
      rw [hso.2.2.2]
      rfl
    obtain ⟨s0, s1, s2, s4, s6, s8, s9⟩ := setr_at (v := G.1 58) (p0 := p0) (p1 := p1) (p2 := p2) (h := 1)
    obtain ⟨hCa2, q1, q2⟩ := k_wLawful_2_eq (w := p0.toInt.toNat) (s := p1.toInt.toNat) (t := (G.1 58 8).toInt.toNat) hlw (hW.fr hFs (by decide) (by decide)) hR.1.2.1 hV (hCa.fr (hFs.row1 37 (by decide) (by decide)) (hFs.row1 38 (by decide) (by decide))) (by rw [w15, s0]; exact hwn) hwl (by rw [w15, s1]; exact hsn) hsl (by rw [w15, s8]; have := hnow.2.2.2; omega) (by have := hnow.2.2.2; omega) (by rw [w15, s6]; exact hnow.2.1.1)
    rw [w15, s9, s6, s2] at q2
    have hr := pif_r q1 q2
    have r20 : G20.1 58 = setr (G.1 58) p0 p1 p2 1 := (hlw.2.1.row1 58 (by decide) (by decide)).trans w15
    have hF20 : Fr [37, 38, 39, 58] [(6, 3)] G G20 := (Fr.call Fr.rf hFs (by decide) (by decide)).call hlw.2.1 (by decide) (by decide)
    refine Or.inr ⟨hVW, ?_⟩
    rcases hh with ⟨f, G34, -, hF34, w34, G36, hk, y40, e40, rfl, rfl⟩ | ⟨f, G27, hk, y31, e31, rfl, rfl⟩
    · have hno : ¬ ((G.1 58 9).toInt = 1 ∨ LWF V (G.1 58 6) p0.toInt.toNat p1.toInt.toNat (G.1 58 8).toInt.toNat p2.toInt) := fun q => (q2.mpr q) f
      rw [z4, r20, setr_4] at w34
      have h34 : G34.1 58 = wkR V (G.1 58) p0 p1 p2 := by
        rw [w34]
        unfold wkR
        rw [pif_n hno]
      refine ⟨G34, hF20.call hF34 (by decide) (by decide), hk, ?_, h34, ?_⟩
      · exact (hCa2.fr (hF34.row1 37 (by decide) (by decide)) (hF34.row1 38 (by decide) (by decide))).fr (hk.2.1.row1 37 (by decide) (by decide)) (hk.2.1.row1 38 (by decide) (by decide))
      · rw [e40, z4, hk.2.1.row1 58 (by decide) (by decide)]
    · have hyes := q2.mp f
      have h27 : G20.1 58 = wkR V (G.1 58) p0 p1 p2 := by
        rw [r20]
        unfold wkR
        rw [pif_p hyes]
      refine ⟨G20, hF20, hk, ?_, h27, ?_⟩
      · exact hCa2.fr (hk.2.1.row1 37 (by decide) (by decide)) (hk.2.1.row1 38 (by decide) (by decide))
      · rw [e31, z4, hk.2.1.row1 58 (by decide) (by decide)]
  rcases hC with ⟨n1, v1, rfl⟩ | ⟨y1, Gc, hFc, hk, hCaa, hrow, hr⟩
  · rcases hM with ⟨n2, v2, hFb⟩ | ⟨y2, -⟩
    · exact ⟨by rw [v1, v2], IV_2.fr ⟨hW, hR, hV, hCa, hE, hSV⟩ hFb (by decide) (by decide) (by decide)⟩
    · exact absurd y2 n1
  · rcases hM with ⟨n2, -⟩ | ⟨y2, Gm, Gn, hFm1, ha, hFn, hrow2, hr2⟩
    · exact absurd y1 n2
    · have zr : ∀ j, j < 10 → Gb.1 110 j = Gc.1 58 j := fun j hj => by
        rw [hrow2, hrow]
        exact wkR_cg hEn.2.1 j hj
      refine ⟨by rw [hr, hr2, zr 4 (by decide)], (hW.fr hFx (by decide) (by decide)).fr hFm (by decide) (by decide), hRa.fr hFm (by decide) (by decide), hV, hCaa.fr (hFm.row1 37 (by decide) (by decide)) (hFm.row1 38 (by decide) (by decide)), ER_ac hE hFc hk hFm1 ha hFn ?_ zr (by decide) (by decide) (by decide), (hSV.fr hFx (by decide) (by decide)).fr hFm (by decide) (by decide)⟩
      rw [hrow]
      exact hnow.set y1.1 y1.2.1
theorem k_slipBy_2_eq {V : PV} {p0 r : Int32} {G G1 : GS} (h : P_slipBy_2 p0 G r G1) (hW : CW_2 V G) (hs1 : 1 ≤ (slpV V).1 + (slpV V).2.1 + (slpV V).2.2) : G = G1 ∧ r = slp V p0 := by
  obtain ⟨-, hF, -, r1, G2, hal, w8, G9, hj, -, hF9, y13, e13, hh⟩ := h
  refine ⟨hF.nil, ?_⟩
  obtain ⟨-, hFa, -, y1, e1, y2, e2, y3, t3, y4, e4, y5, t5, rfl, rfl⟩ := hal
  obtain ⟨-, -, -, ⟨s0, s1, s2⟩, -⟩ := hW
  have t1 : y1.toInt = (slpV V).1 := by rw [e1]; exact s0
  have t2 : y2.toInt = (slpV V).2.1 := by rw [e2]; exact s1
  have t4 : y4.toInt = (slpV V).2.2 := by rw [e4]; exact s2
  have t5' : y5.toInt = (slpV V).1 + (slpV V).2.1 + (slpV V).2.2 := by omega
  have e5 : y5 = all32 V := of_i t5'
  have e9 := hF9.nil
  subst e9
  have hw8 : w8 = p0 - p0 / all32 V * all32 V := by
    rcases hj with ⟨c, -⟩ | ⟨c, y20, e20, ew, -⟩
    · omega
    · rw [← ew, e20, e5]
  have t13 : y13.toInt = (slpV V).1 := by rw [e13]; exact s0
  unfold slp
  rw [← hw8]
  rcases hh with ⟨c, y15, e15, y16, e16, y17, t17, ⟨d, rfl, -⟩ | ⟨d, rfl, -⟩⟩ | ⟨c, rfl, -⟩
  · have t15 : y15.toInt = (slpV V).1 := by rw [e15]; exact s0
    have t16 : y16.toInt = (slpV V).2.1 := by rw [e16]; exact s1
    rw [if_neg (by omega), if_neg (by omega)]
  · have t15 : y15.toInt = (slpV V).1 := by rw [e15]; exact s0
    have t16 : y16.toInt = (slpV V).2.1 := by rw [e16]; exact s1
    rw [if_neg (by omega), if_pos (by omega)]
  · rw [if_pos (by omega)]
theorem k_wGo_2_eq {V : PV} {p0 r : Int32} {G G1 : GS} (h : P_wGo_2 p0 G r G1) (hW : CW_2 V G) (hv : ROK V (G.1 58)) : G = G1 ∧ (r.toInt ≠ 0 ↔ VGo V (G.1 58) p0) := by
  obtain ⟨z0, -, -, -, z4, z5, -, -, -, -, -, -⟩ := z32
  have o1 : (1 : Int32).toInt = 1 := rfl
  have z00 : (0 : Int32).toInt = 0 := rfl
  obtain ⟨-, hF, -, -, y1, e1, r3, G4, hhw, hh⟩ := h
  refine ⟨hF.nil, ?_⟩
  rw [z0] at e1
  obtain ⟨rfl, k1⟩ := k_hasWalkerV_2 hhw hW
  rcases hh with ⟨c, rfl, -⟩ | ⟨c, y10, e10, hh⟩
  · refine ⟨fun q => absurd z00 q, fun q => absurd c (k1.mpr ?_)⟩
    rw [e1]
    rcases hv.1 with w | w
    · exact absurd q.1 (by omega)
    · exact ⟨w.1, w.2.1⟩
  have hWk := k1.mp c
  clear k1 c
  rw [e1] at hWk
  obtain ⟨hwl, hwn⟩ := hWk.n
  obtain ⟨k1, k2, k3, k4⟩ := hW.2.1.2 _ hwl
  rw [z4] at e10
  rcases hh with ⟨c, y12, e12, hh⟩ | ⟨c, rfl, -⟩
  rotate_left
  · exact ⟨fun q => absurd z00 q, fun q => absurd (by rw [e10]; exact q.2.1) c⟩
  have t12 : y12.toInt = (wk V (G.1 58 0).toInt.toNat).2.1 := by
    rw [e12, e1]
    exact k2
  rcases hh with ⟨d, y14, e14, w18, G19, hj, -, -, hF19, hh⟩ | ⟨d, rfl, -⟩
  rotate_left
  · exact ⟨fun q => absurd z00 q, fun q => by have := q.2.2.1; omega⟩
  rw [z5] at e14
  have e19 := hF19.nil
  subst e19
  have hw18 : w18.toInt = 0 ↔ ¬ (G.1 58 5).toInt = 1 := by
    rw [← e14]
    rcases hj with ⟨f, ew, -⟩ | ⟨f, ew, -⟩
    · rw [← ew]
      exact ⟨fun q => absurd q (by decide), fun q => absurd f q⟩
    · rw [← ew]
      exact ⟨fun _ => f, fun _ => rfl⟩
  have ht : ∀ {y : Int32}, y.toInt = (if (G.1 58 5).toInt = 1 then (wk V (G.1 58 0).toInt.toNat).2.2.1 else (wk V (G.1 58 0).toInt.toNat).2.2.2) → ((y.toInt < p0.toInt ∧ 0 = r) ∨ (p0.toInt ≤ y.toInt ∧ 1 = r)) → (r.toInt ≠ 0 ↔ VGo V (G.1 58) p0) := by
    intro y ty hc
    rcases hc with ⟨f, rfl⟩ | ⟨f, rfl⟩
    · refine ⟨fun q => absurd z00 q, fun q => ?_⟩
      have := q.2.2.2
      rw [← ty] at this
      omega
    · refine ⟨fun _ => ⟨hWk.1, by rw [← e10]; exact c, by rw [← t12]; exact d, by rw [← ty]; exact f⟩, fun _ => by rw [o1]; decide⟩
  rcases hh with ⟨c18, y, ey, hh⟩ | ⟨c18, y, ey, hh⟩
  · have h5 := hw18.mp c18
    refine ht (y := y) ?_ ?_
    · rw [if_neg h5, ey, e1]
      exact k4
    · rcases hh with ⟨f, e, -⟩ | ⟨f, e, -⟩
      · exact Or.inl ⟨f, e⟩
      · exact Or.inr ⟨f, e⟩
  · have h5 : (G.1 58 5).toInt = 1 := Classical.byContradiction (fun q => c18 (hw18.mpr q))
    refine ht (y := y) ?_ ?_
    · rw [if_pos h5, ey, e1]
      exact k3
    · rcases hh with ⟨f, e, -⟩ | ⟨f, e, -⟩
      · exact Or.inl ⟨f, e⟩
      · exact Or.inr ⟨f, e⟩
theorem go_2 {V : PV} {p0 q0 r r' : Int32} {G Ga Gb : GS} (hx : P_Wgo_2 p0 G r Ga) (hm : Q_go q0 Ga r' Gb) (i0 : p0.toInt = q0.toInt) (hI : IV_2 V G) (hs1 : 1 ≤ (slpV V).1 + (slpV V).2.1 + (slpV V).2.2) : r.toInt = r'.toInt ∧ IV_2 V Gb := by
  obtain rfl := Int32.toInt_inj.mp i0
  have hFx := hx.2.1
  have hFm := hm.2.1
  have m1 : (-1 : Int32).toInt = -1 := rfl
  obtain ⟨z0, z1, z2, z3, z4, z5, z6, z7, z8, z9, -, -⟩ := z32
  obtain ⟨hW, hR, hV, hCa, hE, hSV⟩ := hI
  obtain ⟨n, m, hEn⟩ := hE.1
  have hnow := hEn.now
  have hRa : RV V Ga := hR.fr hFx (by decide) (by decide)
  have a110 : Ga.1 110 = G.1 110 := hFx.row1 110 (by decide) (by decide)
  have hM := m_go hm hRa hV (fun s i hs hi => hW.ok hs i hi) (by rw [a110]; exact hEn.now2)
  rw [a110] at hM
  have hC : (¬ VGo V (G.1 58) p0 ∧ r.toInt = -1 ∧ G = Ga) ∨ (VGo V (G.1 58) p0 ∧ ∃ Gc, Fr [37, 38, 39, 58] [(6, 3)] G Gc ∧ P_eKeep Gc Ga ∧ CaC_2 V Ga ∧ Gc.1 58 = goR V (G.1 58) p0 ∧ r = Gc.1 58 4) := by
    clear hM hm
    obtain ⟨-, -, -, r1, G2, hgo, hh⟩ := hx
    obtain ⟨rfl, k1⟩ := k_wGo_2_eq hgo hW hnow
    rcases hh with ⟨c, rfl, rfl⟩ | ⟨c, y8, e8, G11, hdr, y15, e15, y16, e16, y17, e17, r18, G19, hsb, y24, e24, y25, e25, x26, w30, G33, hj, -, -, hF33, y39, e39, G38, -, hF38, w38, r42, G43, hst, hh⟩
    · exact Or.inl ⟨fun q => absurd c (k1.mpr q), m1, rfl⟩
    have hVG := k1.mp c
    clear k1 c
    have hWS : inW V (G.1 58 0) ∧ inS V (G.1 58 1) := by
      rcases hnow.1 with q | q
      · have := hVG.1
        omega
      · exact ⟨⟨q.1, q.2.1⟩, ⟨q.2.2.1, q.2.2.2⟩⟩
    obtain ⟨hwl, hwn⟩ := hWS.1.n
    obtain ⟨hsl, hsn⟩ := hWS.2.n
    rw [z0] at e8
    have hFd := hdr.2.1
    obtain ⟨-, -, d1, f1, d2, f2, d3, f3, d4, f4, -, w11⟩ := hdr
    rw [z7] at f1 w11
    have f4' : d4 = goS (G.1 58) := by
      unfold goS
      rw [f4, f3, f2, f1]
    rw [f4'] at w11
    rw [z2, w11, ud_no (by decide)] at e15
    rw [z7, w11, ud_at] at e17
    have hW11 : CW_2 V G11 := hW.fr hFd (by decide) (by decide)
    obtain ⟨rfl, e18⟩ := k_slipBy_2_eq hsb hW11 hs1
    have e24' : y24 = goX V (G.1 58) p0 := by
      unfold goX
      rw [e24, e16, e15, e18, e17]
    have t25 : y25.toInt = (wk V (G.1 58 0).toInt.toNat).2.2.1 := by
      rw [e25, e8]
      exact (hW11.2.1.2 _ hwl).2.2.1
    have e33 := hF33.nil
    subst e33
    have hJ : x26 = goX V (G.1 58) p0 ∧ w30 = goB V (G.1 58) p0 := by
      unfold goB
      rcases hj with ⟨f, ex, ew, -⟩ | ⟨f, ex, ew, -⟩
      · exact ⟨by rw [← ex, e24'], by rw [if_neg (by omega)]; exact ew.symm⟩
      · exact ⟨by rw [← ex, e24'], by rw [if_pos (by omega)]; exact ew.symm⟩
    obtain ⟨rfl, rfl⟩ := hJ
    rw [z5, w11] at w38
    have w38' : G38.1 58 = go0 V (G.1 58) p0 := w38
    rw [z1, z5, w11, ud_no (by decide), ud_no (by decide)] at e39
    have hW38 : CW_2 V G38 := hW11.fr hF38 (by decide) (by decide)
    obtain ⟨rfl, ks⟩ := k_standsV_2 hst hW38
    rw [e8, e39] at ks
    have hF38' : Fr [37, 38, 39, 58] [(6, 3)] G G38 := (Fr.call Fr.rf hFd (by decide) (by decide)).call hF38 (by decide) (by decide)
    have hCa38 : CaC_2 V G38 := (hCa.fr (hFd.row1 37 (by decide) (by decide)) (hFd.row1 38 (by decide) (by decide))).fr (hF38.row1 37 (by decide) (by decide)) (hF38.row1 38 (by decide) (by decide))
    refine Or.inr ⟨hVG, ?_⟩
    rcases hh with ⟨c4, G49, -, hF49, w49, G51, hk, y55, e55, rfl, rfl⟩ | ⟨c4, y59, e59, y60, e60, G61, -, hF61, w61, r62, G63, hlw, hh⟩
    · have hno : ¬ (0 ≤ (goX V (G.1 58) p0).toInt ∧ (goX V (G.1 58) p0).toInt + (wk V (G.1 58 0).toInt.toNat).1 ≤ (stl V (G.1 58 1).toInt.toNat : Int)) := fun q => absurd c4 (ks.mpr ⟨hWS.1, hWS.2, q.1, q.2⟩)
      rw [z4, w38'] at w49
      refine ⟨G49, hF38'.call hF49 (by decide) (by decide), hk, ?_, ?_, ?_⟩
      · exact (hCa38.fr (hF49.row1 37 (by decide) (by decide)) (hF49.row1 38 (by decide) (by decide))).fr (hk.2.1.row1 37 (by decide) (by decide)) (hk.2.1.row1 38 (by decide) (by decide))
      · rw [w49]
        unfold goR
        rw [if_neg hno]
      · rw [e55, z4, hk.2.1.row1 58 (by decide) (by decide)]
    · obtain ⟨-, -, g1, g2⟩ := ks.mp c4
      clear ks c4
      rw [z2, z3, w38'] at e59 w61
      rw [ud_no (by decide)] at e59
      have e59' : y59 = G.1 58 3 := by
        rw [e59]
        unfold go0
        rw [ud_no (by decide), ud_no (by decide)]
      rw [e60, e59'] at w61
      have at61 : ∀ j, j = 0 ∨ j = 1 ∨ j = 6 ∨ j = 8 ∨ j = 9 → G61.1 58 j = G.1 58 j := by
        intro j hj
        rw [w61]
        unfold go0
        rcases hj with rfl | rfl | rfl | rfl | rfl <;> rw [ud_no (by decide), ud_no (by decide), ud_no (by decide), ud_no (by decide)]
      have at2 : G61.1 58 2 = goX V (G.1 58) p0 := by
        rw [w61, ud_no (by decide), ud_at]
      obtain ⟨hCa2, q1, q2⟩ := k_wLawful_2_eq (w := (G.1 58 0).toInt.toNat) (s := (G.1 58 1).toInt.toNat) (t := (G.1 58 8).toInt.toNat) hlw (hW38.fr hF61 (by decide) (by decide)) hR.1.2.1 hV (hCa38.fr (hF61.row1 37 (by decide) (by decide)) (hF61.row1 38 (by decide) (by decide))) (by rw [at61 0 (by simp)]; exact hwn) hwl (by rw [at61 1 (by simp)]; exact hsn) hsl (by rw [at61 8 (by simp)]; have := hnow.2.2.2; omega) (by have := hnow.2.2.2; omega) (by rw [at61 6 (by simp)]; exact hnow.2.1.1)
      rw [at61 9 (by simp), at61 6 (by simp), at2] at q2
      have hr := pif_r q1 q2
      have r63 : G63.1 58 = upd (upd (go0 V (G.1 58) p0) 2 (goX V (G.1 58) p0)) 3 (G.1 58 3 + 1) := (hlw.2.1.row1 58 (by decide) (by decide)).trans w61
      have hF63 : Fr [37, 38, 39, 58] [(6, 3)] G G63 := (hF38'.call hF61 (by decide) (by decide)).call hlw.2.1 (by decide) (by decide)
      have hyes : 0 ≤ (goX V (G.1 58) p0).toInt ∧ (goX V (G.1 58) p0).toInt + (wk V (G.1 58 0).toInt.toNat).1 ≤ (stl V (G.1 58 1).toInt.toNat : Int) := ⟨g1, g2⟩
      rcases hh with ⟨f, G69, -, hF69, w69, G71, hk, y75, e75, rfl, rfl⟩ | ⟨f, G78, -, hF78, w78, G80, hk, y84, e84, rfl, rfl⟩
      · have hno : ¬ ((G.1 58 9).toInt = 1 ∨ LWF V (G.1 58 6) (G.1 58 0).toInt.toNat (G.1 58 1).toInt.toNat (G.1 58 8).toInt.toNat (goX V (G.1 58) p0).toInt) := fun q => (q2.mpr q) f
        rw [z4, r63] at w69
        refine ⟨G69, hF63.call hF69 (by decide) (by decide), hk, ?_, ?_, ?_⟩
        · exact (hCa2.fr (hF69.row1 37 (by decide) (by decide)) (hF69.row1 38 (by decide) (by decide))).fr (hk.2.1.row1 37 (by decide) (by decide)) (hk.2.1.row1 38 (by decide) (by decide))
        · rw [w69]
          unfold goR
          rw [if_pos hyes, pif_n hno]
        · rw [e75, z4, hk.2.1.row1 58 (by decide) (by decide)]
      · have hy2 := q2.mp f
        rw [z4, r63] at w78
        refine ⟨G78, hF63.call hF78 (by decide) (by decide), hk, ?_, ?_, ?_⟩
        · exact (hCa2.fr (hF78.row1 37 (by decide) (by decide)) (hF78.row1 38 (by decide) (by decide))).fr (hk.2.1.row1 37 (by decide) (by decide)) (hk.2.1.row1 38 (by decide) (by decide))
        · rw [w78]
          unfold goR
          rw [if_pos hyes, pif_p hy2]
        · rw [e84, z4, hk.2.1.row1 58 (by decide) (by decide)]
  have hvv : VGo V (G.1 58) p0 ↔ VGo V (G.1 110) p0 := by
    unfold VGo
    rw [hEn.2.1 0 (by decide), hEn.2.1 4 (by decide), hEn.2.1 5 (by decide)]
  rcases hC with ⟨n1, v1, rfl⟩ | ⟨y1, Gc, hFc, hk, hCaa, hrow, hr⟩
  · rcases hM with ⟨n2, v2, rfl⟩ | ⟨y2, -⟩
    · exact ⟨by rw [v1, v2], hW, hR, hV, hCa, hE, hSV⟩
    · exact absurd (hvv.mpr y2) n1
  · rcases hM with ⟨n2, -⟩ | ⟨y2, Gn, ha, hFn, hrow2, hr2⟩
    · exact absurd (hvv.mp y1) n2
    · have zr : ∀ j, j < 10 → Gb.1 110 j = Gc.1 58 j := fun j hj => by
        rw [hrow2, hrow]
        exact goR_cg hEn.2.1 j hj
      refine ⟨by rw [hr, hr2, zr 4 (by decide)], (hW.fr hFx (by decide) (by decide)).fr hFm (by decide) (by decide), hRa.fr hFm (by decide) (by decide), hV, hCaa.fr (hFm.row1 37 (by decide) (by decide)) (hFm.row1 38 (by decide) (by decide)), ER_ac (rsm := []) (fsm := []) hE hFc hk Fr.rf ha hFn ?_ zr (by decide) (by decide) (by decide), (hSV.fr hFx (by decide) (by decide)).fr hFm (by decide) (by decide)⟩
      rw [hrow]
      exact hnow.go
/-- the ACTS that touch no LINE -/
theorem IV_2.er {V : PV} {rs : List Nat} {fs : List (Nat × Nat)} {rs' : List Nat} {fs' : List (Nat × Nat)} {G Ga Gb : GS} (h : IV_2 V G) (hF : Fr rs fs G Ga) (hF' : Fr rs' fs' Ga Gb) (hE : ER V Gb) (h1 : (∀ i ∈ [20, 21, 22, 23, 24, 25, 26, 27, 28, 37, 38, 61, 62, 63, 64, 65, 72, 73, 74, 87, 88, 89, 90, 91, 92, 93, 94, 95, 96, 112, 113, 114, 115, 116], i ∉ rs ∧ ∀ x ∈ fs, x.1 ≠ i) ∧ ∀ i ∈ [20, 21, 22, 23, 24, 25, 26, 27, 28, 37, 38, 61, 62, 63, 64, 65, 72, 73, 74, 87, 88, 89, 90, 91, 92, 93, 94, 95, 96, 112, 113, 114, 115, 116], i ∉ rs' ∧ ∀ x ∈ fs', x.1 ≠ i) (h2 : (∀ y ∈ [(2, 9), (2, 10), (2, 11), (2, 12), (2, 13), (2, 14), (2, 15), (2, 16), (31, 5), (66, 22), (66, 52), (66, 53), (66, 54), (66, 55), (66, 56), (66, 85)], y.1 ∉ rs ∧ y ∉ fs) ∧ ∀ y ∈ [(2, 9), (2, 10), (2, 11), (2, 12), (2, 13), (2, 14), (2, 15), (2, 16), (31, 5), (66, 22), (66, 52), (66, 53), (66, 54), (66, 55), (66, 56), (66, 85)], y.1 ∉ rs' ∧ y ∉ fs') : IV_2 V Gb := by
  obtain ⟨a, b, c, d, -, f⟩ := h
  have l1 : ∀ i ∈ [20, 21, 22, 23, 24, 25, 26, 27, 28], i ∈ [20, 21, 22, 23, 24, 25, 26, 27, 28, 37, 38, 61, 62, 63, 64, 65, 72, 73, 74, 87, 88, 89, 90, 91, 92, 93, 94, 95, 96, 112, 113, 114, 115, 116] := by decide
  have l2 : ∀ i ∈ [72, 73, 74, 87, 88, 89, 90, 91, 92, 93, 94, 95, 96], i ∈ [20, 21, 22, 23, 24, 25, 26, 27, 28, 37, 38, 61, 62, 63, 64, 65, 72, 73, 74, 87, 88, 89, 90, 91, 92, 93, 94, 95, 96, 112, 113, 114, 115, 116] := by decide
  have l3 : ∀ y ∈ [(2, 9), (2, 10), (2, 11), (2, 12), (2, 13), (2, 14), (2, 15), (2, 16)], y ∈ [(2, 9), (2, 10), (2, 11), (2, 12), (2, 13), (2, 14), (2, 15), (2, 16), (31, 5), (66, 22), (66, 52), (66, 53), (66, 54), (66, 55), (66, 56), (66, 85)] := by decide
  have l4 : ∀ y ∈ [(66, 22), (66, 52), (66, 53), (66, 54), (66, 55), (66, 56)], y ∈ [(2, 9), (2, 10), (2, 11), (2, 12), (2, 13), (2, 14), (2, 15), (2, 16), (31, 5), (66, 22), (66, 52), (66, 53), (66, 54), (66, 55), (66, 56), (66, 85)] := by decide
  have l5 : ∀ i ∈ [61, 62, 63, 64, 65, 112, 113, 114, 115, 116], i ∈ [20, 21, 22, 23, 24, 25, 26, 27, 28, 37, 38, 61, 62, 63, 64, 65, 72, 73, 74, 87, 88, 89, 90, 91, 92, 93, 94, 95, 96, 112, 113, 114, 115, 116] := by decide
  have l6 : ∀ y ∈ [(31, 5), (66, 85)], y ∈ [(2, 9), (2, 10), (2, 11), (2, 12), (2, 13), (2, 14), (2, 15), (2, 16), (31, 5), (66, 22), (66, 52), (66, 53), (66, 54), (66, 55), (66, 56), (66, 85)] := by decide
  refine ⟨(a.fr hF (fun i hi => h1.1 i (l1 i hi)) (fun y hy => h2.1 y (l3 y hy))).fr hF' (fun i hi => h1.2 i (l1 i hi)) (fun y hy => h2.2 y (l3 y hy)), (b.fr hF (fun i hi => h1.1 i (l2 i hi)) (fun y hy => h2.1 y (l4 y hy))).fr hF' (fun i hi => h1.2 i (l2 i hi)) (fun y hy => h2.2 y (l4 y hy)), c, d.fr ?_ ?_, hE, (f.fr hF (fun i hi => h1.1 i (l5 i hi)) (fun y hy => h2.1 y (l6 y hy))).fr hF' (fun i hi => h1.2 i (l5 i hi)) (fun y hy => h2.2 y (l6 y hy))⟩
  · rw [hF'.rows h1.2 (i := 37) (by decide), hF.rows h1.1 (i := 37) (by decide)]
  · rw [hF'.rows h1.2 (i := 38) (by decide), hF.rows h1.1 (i := 38) (by decide)]
