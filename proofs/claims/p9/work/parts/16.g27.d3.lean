/-! the PAVING on both sides -/
theorem q_isIn {p0 p1 p2 r : Int32} {G G1 : GS} (h : Q_isIn p0 p1 p2 G r G1) : G = G1 ∧ (r.toInt ≠ 0 ↔ (p1.toInt ≤ p0.toInt ∧ p0.toInt ≤ p2.toInt)) := by
  obtain ⟨-, hF, hr, hh, -⟩ := h
  refine ⟨hF.nil, fun q => hh.1 (by omega), fun q => ?_⟩
  have := hh.2 q
  omega
theorem q_isStreet {p0 r : Int32} {G G1 : GS} (h : Q_isStreet p0 G r G1) : G = G1 ∧ (r.toInt ≠ 0 ↔ (0 ≤ p0.toInt ∧ p0.toInt < (G.1 66 52).toInt)) := by
  obtain ⟨-, hF, -, -, y2, t2, r4, G5, hi, rfl, rfl⟩ := h
  refine ⟨hF.nil, (q_isIn hi).2.trans ⟨fun q => ⟨q.1, by have := q.2; omega⟩, fun q => ⟨q.1, by have := q.2; omega⟩⟩⟩
theorem q_isWalker {p0 r : Int32} {G G1 : GS} (h : Q_isWalker p0 G r G1) : G = G1 ∧ (r.toInt ≠ 0 ↔ (0 ≤ p0.toInt ∧ p0.toInt < (G.1 66 53).toInt)) := by
  obtain ⟨-, hF, -, -, y2, t2, r4, G5, hi, rfl, rfl⟩ := h
  refine ⟨hF.nil, (q_isIn hi).2.trans ⟨fun q => ⟨q.1, by have := q.2; omega⟩, fun q => ⟨q.1, by have := q.2; omega⟩⟩⟩
theorem q_isInch {p0 p1 r : Int32} {G G1 : GS} (h : Q_isInch p0 p1 G r G1) : G = G1 ∧ (r.toInt ≠ 0 ↔ (0 ≤ p1.toInt ∧ p1.toInt < (G.1 91 p0.toNatClampNeg).toInt)) := by
  obtain ⟨-, hF, -, -, y1, e1, y2, t2, r4, G5, hi, rfl, rfl⟩ := h
  subst e1
  refine ⟨hF.nil, (q_isIn hi).2.trans ⟨fun q => ⟨q.1, by have := q.2; omega⟩, fun q => ⟨q.1, by have := q.2; omega⟩⟩⟩
theorem q_truth {p0 r : Int32} {G G1 : GS} (h : Q_truth p0 G r G1) : G = G1 ∧ r.toInt = p0.toInt := ⟨h.2.1.nil, h.2.2.2.1⟩
/-- what an INCH answers -/
def icA (x : IC) (what : Int) : Int := if what = 0 then (if x.1 < 0 then 1 else 0) else if what = 1 then x.2.1 else if what = 2 then x.2.2.1 else if what = 3 then x.2.2.2 else (if x.1 < 0 then 0 else x.1)
theorem k_part_eq {x : IC} {p0 p1 r : Int32} {G G1 : GS} (h : P_part p0 p1 G r G1) (hx : ICok x) (h0 : p0 = encI x) : G = G1 ∧ r.toInt = icA x p1.toInt := by
  obtain ⟨a1, a2, a3, a4, a5⟩ := part_i hx h0
  obtain ⟨-, hF, hh⟩ := h
  refine ⟨hF.nil, ?_⟩
  unfold icA
  rcases hh with ⟨c, y, e, rfl, -⟩ | ⟨c, ⟨d, y4, e4, y, e, rfl, -⟩ | ⟨d, ⟨f, y4, e4, y, e, rfl, -⟩ | ⟨f, ⟨g, y4, e4, y, e, rfl, -⟩ | ⟨g, y4, e4, y, e, rfl, -⟩⟩⟩⟩
  · rw [if_pos c, e]
    exact a1
  · rw [if_neg c, if_pos d, e, e4]
    exact a2
  · rw [if_neg c, if_neg d, if_pos f, e, e4]
    exact a3
  · rw [if_neg c, if_neg d, if_neg f, if_pos g, e, e4]
    exact a4
  · rw [if_neg c, if_neg d, if_neg f, if_neg g, e, e4]
    exact a5
def SG (G : GS) : Prop := ∀ j : Nat, (j : Int) < (G.1 31 5).toInt → (G.1 61 j).toInt = (G.1 112 j).toInt ∧ (G.1 62 j).toInt = (G.1 113 j).toInt ∧ (G.1 63 j).toInt = (G.1 114 j).toInt ∧ (G.1 64 j).toInt = (G.1 115 j).toInt ∧ (G.1 65 j).toInt = (G.1 116 j).toInt ∧ -1 ≤ (G.1 65 j).toInt
noncomputable def gSG (G : GS) : Int := ind (SG G)
theorem gSG_fr {rs : List Nat} {fs : List (Nat × Nat)} {G G1 : GS} (h : Fr rs fs G G1) (h1 : ∀ i ∈ [61, 62, 63, 64, 65, 112, 113, 114, 115, 116], i ∉ rs ∧ ∀ x ∈ fs, x.1 ≠ i) (h2 : ∀ y ∈ [(31, 5)], y.1 ∉ rs ∧ y ∉ fs) : gSG G1 = gSG G := by
  unfold gSG SG
  rw [h.i 31 5 (h2 (31, 5) (by decide)).1 (h2 (31, 5) (by decide)).2, h.rows h1 (i := 61) (by decide), h.rows h1 (i := 62) (by decide), h.rows h1 (i := 63) (by decide), h.rows h1 (i := 64) (by decide), h.rows h1 (i := 65) (by decide), h.rows h1 (i := 112) (by decide), h.rows h1 (i := 113) (by decide), h.rows h1 (i := 114) (by decide), h.rows h1 (i := 115) (by decide), h.rows h1 (i := 116) (by decide)]
theorem unt_eq {p q r r' : Int32} {G Ga Gb : GS} (hx : P_Wuntell p G r Ga) (hm : Q_untell q Ga r' Gb) (hpq : p.toInt = q.toInt) (hS : SG G) (hc : (G.1 31 5).toInt = (G.1 66 85).toInt) (ht : (G.1 31 6).toInt = (G.1 66 86).toInt) (ht0 : 0 ≤ (G.1 31 6).toInt) : r.toInt = r'.toInt ∧ SG Gb := by
  obtain rfl := Int32.toInt_inj.mp hpq
  have hFx := hx.2.1
  obtain ⟨-, -, -, r1, G2, hx, rfl, rfl⟩ := hx
  obtain ⟨-, -, -, y2, t2, r4, G5, hi, hm⟩ := hm
  obtain ⟨rfl, qi⟩ := q_isIn hi
  have z0 : (0 : Int32).toInt = 0 := rfl
  have c85 : G2.1 66 85 = G.1 66 85 := hFx.i 66 85 (by decide) (by decide)
  have c86 : G2.1 66 86 = G.1 66 86 := hFx.i 66 86 (by decide) (by decide)
  have c315 : G2.1 31 5 = G.1 31 5 := hFx.i 31 5 (by decide) (by decide)
  rw [c85] at t2
  obtain ⟨-, -, -, hx⟩ := hx
  have no : G = G2 → ¬ (0 ≤ p.toInt ∧ p.toInt < (G.1 31 5).toInt) → r1.toInt = 0 → r1.toInt = r'.toInt ∧ SG Gb := by
    intro e hn h0
    subst e
    have hr4 : r4.toInt = 0 := Classical.byContradiction (fun w => hn (by have := qi.mp w; clear qi hm hx; omega))
    rcases hm with ⟨-, rfl, rfl⟩ | ⟨c, -⟩
    · exact ⟨h0, hS⟩
    · exact absurd hr4 c
  rcases hx with ⟨c, e, e2⟩ | ⟨c, ⟨d, e, e2⟩ | ⟨d, y4, e4, ⟨f, e, hF2, w65⟩ | ⟨f, e, e2⟩⟩⟩
  · exact no e2 (fun w => by have := w.1; omega) (by rw [← e]; rfl)
  · exact no e2 (fun w => by have := w.2; omega) (by rw [← e]; rfl)
  · have hr4 : r4.toInt ≠ 0 := qi.mpr ⟨by clear qi hm; omega, by clear qi hm; omega⟩
    obtain ⟨j, hj⟩ : ∃ j : Nat, p.toInt = (j : Int) := ⟨p.toInt.toNat, by clear qi hm; omega⟩
    rw [cn_eq hj] at e4 w65
    have hS' := hS j (by clear qi hm; omega)
    have r116 : G2.1 116 = G.1 116 := hFx.row1 116 (by decide) (by decide)
    rcases hm with ⟨c2, -⟩ | ⟨-, y11, e11, ⟨g, e', hF3, w116⟩ | ⟨g, e', -⟩⟩
    · exact absurd c2 hr4
    · rw [cn_eq hj, c86] at w116
      refine ⟨by rw [← e, ← e'], fun i hi => ?_⟩
      have k315 : Gb.1 31 5 = G.1 31 5 := by rw [hF3.i 31 5 (by decide) (by decide), c315]
      rw [k315] at hi
      have hSi := hS i hi
      have rr : ∀ k, k = 61 ∨ k = 62 ∨ k = 63 ∨ k = 64 ∨ k = 112 ∨ k = 113 ∨ k = 114 ∨ k = 115 → Gb.1 k = G.1 k := by
        intro k hk
        rcases hk with rfl | rfl | rfl | rfl | rfl | rfl | rfl | rfl <;> rw [hF3.row1 _ (by decide) (by decide), hFx.row1 _ (by decide) (by decide)]
      rw [rr 61 (by simp), rr 62 (by simp), rr 63 (by simp), rr 64 (by simp), rr 112 (by simp), rr 113 (by simp), rr 114 (by simp), rr 115 (by simp), w116, hF3.row1 65 (by decide) (by decide), w65]
      refine ⟨hSi.1, hSi.2.1, hSi.2.2.1, hSi.2.2.2.1, ?_⟩
      by_cases hij : i = j
      · subst hij
        rw [show upd (G.1 65) i (G.1 31 6) i = G.1 31 6 from if_pos rfl, show upd (G2.1 116) i (G.1 66 86) i = G.1 66 86 from if_pos rfl]
        exact ⟨ht, by omega⟩
      · rw [show upd (G.1 65) j (G.1 31 6) i = G.1 65 i from if_neg hij, show upd (G2.1 116) j (G.1 66 86) i = G2.1 116 i from if_neg hij, r116]
        exact hSi.2.2.2.2
    · rw [e11, cn_eq hj, r116] at g
      rw [e4] at f
      have := hS'.2.2.2.2.1
      clear qi
      omega
  · obtain ⟨j, hj⟩ : ∃ j : Nat, p.toInt = (j : Int) := ⟨p.toInt.toNat, by clear qi hm; omega⟩
    subst e2
    rw [cn_eq hj] at e4
    have hS' := hS j (by clear qi hm; omega)
    have hr4 : r4.toInt ≠ 0 := qi.mpr ⟨by clear qi hm; omega, by clear qi hm; omega⟩
    rcases hm with ⟨c2, -⟩ | ⟨-, y11, e11, ⟨g, -⟩ | ⟨g, e', rfl⟩⟩
    · exact absurd c2 hr4
    · rw [e11, cn_eq hj] at g
      rw [e4] at f
      have h1 := hS'.2.2.2.2.1
      have h2 := hS'.2.2.2.2.2
      clear qi
      omega
    · exact ⟨by rw [← e, ← e'], hS⟩
def CW_1 (V : PV) (G : GS) : Prop := ((G.1 1 9).toInt = (V.1.length : Int) ∧ ∀ s, s < V.1.length → StC_1 s (V.1.getD s ([], [])).2 G ∧ ((V.1.getD s ([], [])).2.length : Int) ≤ 400) ∧ ((G.1 1 10).toInt = (V.2.1.length : Int) ∧ ∀ k, k < V.2.1.length → WkC_1 k (V.2.1.getD k ([], 0, 0, 0, 0)).2 G) ∧ ((G.1 1 11).toInt = (V.2.2.1.length : Int) ∧ (G.1 1 12).toInt = V.2.2.2.1 ∧ CodeC_1 0 (fcd V.2.2.1) G ∧ EndC_1 V.2.2.1 G) ∧ ((G.1 16 0).toInt = (V.2.2.2.2.1.getD (0, 1, 0)).1 ∧ (G.1 16 1).toInt = (V.2.2.2.2.1.getD (0, 1, 0)).2.1 ∧ (G.1 16 2).toInt = (V.2.2.2.2.1.getD (0, 1, 0)).2.2) ∧ (G.1 1 14).toInt = (V.2.2.2.2.2.1.getD (30, 10)).1 ∧ (G.1 1 15).toInt = (V.2.2.2.2.2.1.getD (30, 10)).2 ∧ (G.1 1 16).toInt = V.2.2.2.2.2.2.getD 0
theorem CV_1.cw {V : PV} {G : GS} (h : CV_1 V G) : CW_1 V G := by
  obtain ⟨⟨a1, -, a3⟩, ⟨b1, -, b3⟩, ⟨c1, -, c3, -, -, c6, c7⟩, ⟨-, d2⟩, ⟨-, e2, e3⟩, -, f2⟩ := h
  exact ⟨⟨a1, a3⟩, ⟨b1, b3⟩, ⟨c1, c3, c6, c7⟩, d2, e2, e3, f2⟩
def PQ_1 (G : GS) : Prop := ∃ V, CW_1 V G ∧ RV V G
theorem PQ_1.fr {G G1 : GS} (h : PQ_1 G) (hr : ∀ i, i ∈ [10, 11, 12, 13, 14, 15, 16, 17, 18, 72, 73, 74, 87, 88, 89, 90, 91, 92, 93, 94, 95, 96] → G1.1 i = G.1 i) (hf : ∀ y : Nat × Nat, y ∈ [(1, 9), (1, 10), (1, 11), (1, 12), (1, 13), (1, 14), (1, 15), (1, 16), (66, 22), (66, 52), (66, 53), (66, 54), (66, 55), (66, 56)] → G1.1 y.1 y.2 = G.1 y.1 y.2) : PQ_1 G1 := by
  obtain ⟨V, h1, h2⟩ := h
  refine ⟨V, ?_, ?_⟩
  · unfold CW_1 StC_1 WkC_1 CodeC_1 EndC_1 at h1 ⊢
    rw [hf (1, 9) (by decide), hf (1, 10) (by decide), hf (1, 11) (by decide), hf (1, 12) (by decide), hf (1, 13) (by decide), hf (1, 14) (by decide), hf (1, 15) (by decide), hf (1, 16) (by decide), hr 10 (by decide), hr 11 (by decide), hr 12 (by decide), hr 13 (by decide), hr 14 (by decide), hr 15 (by decide), hr 16 (by decide), hr 17 (by decide), hr 18 (by decide)]
    exact h1
  · unfold RV RSt RWk RCd at h2 ⊢
    rw [hf (66, 22) (by decide), hf (66, 52) (by decide), hf (66, 53) (by decide), hf (66, 54) (by decide), hf (66, 55) (by decide), hf (66, 56) (by decide), hr 72 (by decide), hr 73 (by decide), hr 74 (by decide), hr 87 (by decide), hr 88 (by decide), hr 89 (by decide), hr 90 (by decide), hr 91 (by decide), hr 92 (by decide), hr 93 (by decide), hr 94 (by decide), hr 95 (by decide), hr 96 (by decide)]
    exact h2
noncomputable def gPA (G : GS) : Int := ind (PQ_1 G)
theorem gPA_fr {rs : List Nat} {fs : List (Nat × Nat)} {G G1 : GS} (h : Fr rs fs G G1) (h1 : ∀ i ∈ [10, 11, 12, 13, 14, 15, 16, 17, 18, 72, 73, 74, 87, 88, 89, 90, 91, 92, 93, 94, 95, 96], i ∉ rs ∧ ∀ x ∈ fs, x.1 ≠ i) (h2 : ∀ y ∈ [(1, 9), (1, 10), (1, 11), (1, 12), (1, 13), (1, 14), (1, 15), (1, 16), (66, 22), (66, 52), (66, 53), (66, 54), (66, 55), (66, 56)], y.1 ∉ rs ∧ y ∉ fs) : gPA G1 = gPA G := by
  have e : PQ_1 G1 ↔ PQ_1 G := ⟨fun q => q.fr (fun i hi => (h.rows h1 hi).symm) (fun y hy => (h.i y.1 y.2 (h2 y hy).1 (h2 y hy).2).symm), fun q => q.fr (fun i hi => h.rows h1 hi) (fun y hy => h.i y.1 y.2 (h2 y hy).1 (h2 y hy).2)⟩
  unfold gPA
  rw [propext e]
theorem k_hasStreet_1_eq {p0 r : Int32} {G G1 : GS} (h : P_hasStreet_1 p0 G r G1) : G = G1 ∧ (r.toInt ≠ 0 ↔ (0 ≤ p0.toInt ∧ p0.toInt < (G.1 1 9).toInt)) := by
  obtain ⟨-, hF, -, -, hh⟩ := h
  have z : (0 : Int32).toInt = 0 := rfl
  have o : (1 : Int32).toInt = 1 := rfl
  refine ⟨hF.nil, ?_⟩
  rcases hh with ⟨c, rfl, -⟩ | ⟨c, ⟨d, rfl, -⟩ | ⟨d, rfl, -⟩⟩ <;> omega
theorem k_hasWalker_1_eq {p0 r : Int32} {G G1 : GS} (h : P_hasWalker_1 p0 G r G1) : G = G1 ∧ (r.toInt ≠ 0 ↔ (0 ≤ p0.toInt ∧ p0.toInt < (G.1 1 10).toInt)) := by
  obtain ⟨-, hF, -, -, hh⟩ := h
  have z : (0 : Int32).toInt = 0 := rfl
  have o : (1 : Int32).toInt = 1 := rfl
  refine ⟨hF.nil, ?_⟩
  rcases hh with ⟨c, rfl, -⟩ | ⟨c, ⟨d, rfl, -⟩ | ⟨d, rfl, -⟩⟩ <;> omega
theorem k_hasInch_1_eq {p0 p1 r : Int32} {G G1 : GS} (h : P_hasInch_1 p0 p1 G r G1) : G = G1 ∧ (r.toInt ≠ 0 ↔ ((0 ≤ p0.toInt ∧ p0.toInt < (G.1 1 9).toInt) ∧ 0 ≤ p1.toInt ∧ p1.toInt < (G.1 10 p0.toNatClampNeg).toInt)) := by
  obtain ⟨-, hF, -, -, r1, G2, hs, hh⟩ := h
  obtain ⟨rfl, qs⟩ := k_hasStreet_1_eq hs
  have z : (0 : Int32).toInt = 0 := rfl
  have o : (1 : Int32).toInt = 1 := rfl
  refine ⟨hF.nil, ?_⟩
  rcases hh with ⟨c, rfl, -⟩ | ⟨c, ⟨d, rfl, -⟩ | ⟨d, y9, rfl, ⟨e, rfl, -⟩ | ⟨e, rfl, -⟩⟩⟩
  · exact ⟨fun w => absurd z w, fun w => absurd c (qs.mpr w.1)⟩
  · exact ⟨fun w => absurd z w, fun w => by have := w.2.1; omega⟩
  · exact ⟨fun w => absurd z w, fun w => by have := w.2.2; omega⟩
  · exact ⟨fun _ => ⟨qs.mp c, d, e⟩, fun _ => by omega⟩
theorem len_1 {p q r r' : Int32} {G Ga Gb : GS} (hx : P_Wlength_1 p G r Ga) (hm : Q_length q Ga r' Gb) (hpq : p.toInt = q.toInt) (hP : PQ_1 G) : r.toInt = r'.toInt := by
  obtain rfl := Int32.toInt_inj.mp hpq
  have eG := hx.2.1.nil
  subst eG
  obtain ⟨V, hC, hR⟩ := hP
  obtain ⟨-, -, r1, G2, hs, hx⟩ := hx
  obtain ⟨-, -, r2, G3, hs2, hm⟩ := hm
  obtain ⟨rfl, q1⟩ := k_hasStreet_1_eq hs
  obtain ⟨rfl, q2⟩ := q_isStreet hs2
  rw [hC.1.1] at q1
  rw [hR.1.1] at q2
  rcases hx with ⟨c, rfl, -⟩ | ⟨c, y, e, rfl, -⟩
  · rcases hm with ⟨-, rfl, -⟩ | ⟨d, -⟩
    · rfl
    · exact absurd c (q1.mpr (q2.mp d))
  · rcases hm with ⟨d, -⟩ | ⟨d, y', e', rfl, -⟩
    · exact absurd d (q2.mpr (q1.mp c))
    · have hs := q1.mp c
      clear q1 q2
      obtain ⟨j, hj⟩ : ∃ j : Nat, p.toInt = (j : Int) := ⟨p.toInt.toNat, by omega⟩
      rw [cn_eq hj] at e e'
      rw [e, e', (hC.1.2 j (by omega)).1.1, (hR.1.2.2 j (by omega)).1.1]
theorem inch_1 {p0 p1 p2 q0 q1 q2 r r' : Int32} {G Ga Gb : GS} (hx : P_Winch_1 p0 p1 p2 G r Ga) (hm : Q_inch q0 q1 q2 Ga r' Gb) (i0 : p0.toInt = q0.toInt) (i1 : p1.toInt = q1.toInt) (i2 : p2.toInt = q2.toInt) (hP : PQ_1 G) : r.toInt = r'.toInt := by
  obtain rfl := Int32.toInt_inj.mp i0
  obtain rfl := Int32.toInt_inj.mp i1
  obtain rfl := Int32.toInt_inj.mp i2
  have eG := hx.2.1.nil
  subst eG
  obtain ⟨V, hC, hR⟩ := hP
  obtain ⟨-, -, r1, G2, hs, hx⟩ := hx
  obtain ⟨-, -, r2, G3, hs2, hm⟩ := hm
  obtain ⟨rfl, k1⟩ := k_hasInch_1_eq hs
  obtain ⟨rfl, k2⟩ := q_isStreet hs2
  have z : (-1 : Int32).toInt = -1 := rfl
  by_cases hst : 0 ≤ p0.toInt ∧ p0.toInt < (V.1.length : Int)
  · have hr2 : r2.toInt ≠ 0 := k2.mpr (by rw [hR.1.1]; exact hst)
    obtain ⟨s, hs'⟩ : ∃ s : Nat, p0.toInt = (s : Int) := ⟨p0.toInt.toNat, by clear k1 k2 hx hm; omega⟩
    have hsl : s < V.1.length := by clear k1 k2 hx hm; omega
    obtain ⟨hStC, -⟩ := hC.1.2 s hsl
    obtain ⟨hStR, -⟩ := hR.1.2.2 s hsl
    rw [hC.1.1, cn_eq hs', hStC.1] at k1
    rcases hm with ⟨c, -⟩ | ⟨-, r8, G9, hin, hm⟩
    · exact absurd c hr2
    obtain ⟨rfl, k3⟩ := q_isInch hin
    rw [cn_eq hs', hStR.1] at k3
    by_cases hxi : 0 ≤ p1.toInt ∧ p1.toInt < ((V.1.getD s ([], [])).2.length : Int)
    · have hr1 : r1.toInt ≠ 0 := k1.mpr ⟨hst, hxi⟩
      have hr8 : r8.toInt ≠ 0 := k3.mpr hxi
      clear k1 k2 k3
      obtain ⟨i, hi⟩ : ∃ i : Nat, p1.toInt = (i : Int) := ⟨p1.toInt.toNat, by clear hx hm; omega⟩
      have hil : i < (V.1.getD s ([], [])).2.length := by clear hx hm; omega
      obtain ⟨b1, b2, b3, b4⟩ := hStR.2 i hil
      obtain ⟨e1, hok⟩ := hStC.2 i hil
      rcases hm with ⟨c, -⟩ | ⟨-, y15, t15, y16, t16, hm⟩
      · exact absurd c hr8
      have hy : y16.toNatClampNeg = 400 * s + i := cn_eq (by clear hx hm; omega)
      rw [hy] at hm
      have hM : r'.toInt = (if p2.toInt < 0 ∨ 4 < p2.toInt then -1 else icA ((V.1.getD s ([], [])).2.getD i (0, 0, 0, 0)) p2.toInt) := by
        unfold icA
        rcases hm with ⟨c, y18, e18, ⟨d, r21, G22, ht, rfl, -⟩ | ⟨d, r21, G22, ht, rfl, -⟩⟩ | ⟨c, ⟨d, y, e, rfl, -⟩ | ⟨d, ⟨f, y, e, rfl, -⟩ | ⟨f, ⟨g, y, e, rfl, -⟩ | ⟨g, ⟨k, y41, e41, ⟨l, y43, e43, rfl, -⟩ | ⟨l, rfl, -⟩⟩ | ⟨k, rfl, -⟩⟩⟩⟩⟩
        · rw [e18, b1] at d
          rw [(q_truth ht).2, if_neg (by omega), if_pos c, if_neg (by omega)]
          rfl
        · rw [e18, b1] at d
          rw [(q_truth ht).2, if_neg (by omega), if_pos c, if_pos d]
          rfl
        · rw [if_neg (by omega), if_neg c, if_pos d, e, b2]
        · rw [if_neg (by omega), if_neg c, if_neg d, if_pos f, e, b3]
        · rw [if_neg (by omega), if_neg c, if_neg d, if_neg f, if_pos g, e, b4]
        · rw [e41, b1] at l
          rw [if_neg (by omega), if_neg c, if_neg d, if_neg f, if_neg g, if_neg (by omega), e43, b1]
        · rw [e41, b1] at l
          rw [if_neg (by omega), if_neg c, if_neg d, if_neg f, if_neg g, if_pos l]
          rfl
        · rw [if_pos (by omega)]
          rfl
      rw [hM]
      clear hM hm
      rcases hx with ⟨c, -⟩ | ⟨-, ⟨d, rfl, -⟩ | ⟨d, ⟨f, r10, G11, hat, r15, G16, hpt, rfl, -⟩ | ⟨f, rfl, -⟩⟩⟩
      · exact absurd c hr1
      · rw [if_pos (Or.inl d)]
        rfl
      · rw [if_neg (by omega)]
        obtain ⟨-, hFa, r3, G4, hs3, hat⟩ := hat
        obtain ⟨rfl, k4⟩ := k_hasInch_1_eq hs3
        rw [hC.1.1, cn_eq hs', hStC.1] at k4
        rcases hat with ⟨c, -⟩ | ⟨-, y8, t8, y9, t9, y10, e10, rfl, rfl⟩
        · exact absurd c (k4.mpr ⟨hst, hxi⟩)
        · rw [cn_eq (x := y9) (e := 400 * s + i) (by clear k4; omega), e1] at e10
          exact (k_part_eq hpt hok e10).2
      · rw [if_pos (Or.inr f)]
        rfl
    · have hr1 : r1.toInt = 0 := Classical.byContradiction (fun w => hxi (k1.mp w).2)
      have hr8 : r8.toInt = 0 := Classical.byContradiction (fun w => hxi (k3.mp w))
      rcases hm with ⟨-, rfl, -⟩ | ⟨c, -⟩
      · rcases hx with ⟨-, rfl, -⟩ | ⟨c, -⟩
        · rfl
        · exact absurd hr1 c
      · exact absurd hr8 c
  · have hr1 : r1.toInt = 0 := Classical.byContradiction (fun w => hst (by have := (k1.mp w).1; rw [hC.1.1] at this; exact this))
    have hr2 : r2.toInt = 0 := Classical.byContradiction (fun w => hst (by have := k2.mp w; rw [hR.1.1] at this; exact this))
    rcases hm with ⟨-, rfl, -⟩ | ⟨c, -⟩
    · rcases hx with ⟨-, rfl, -⟩ | ⟨c, -⟩
      · rfl
      · exact absurd hr1 c
    · exact absurd hr2 c
theorem k_stands_1_eq {V : PV} {p0 p1 p2 r : Int32} {G G1 : GS} (h : P_stands_1 p0 p1 p2 G r G1) (hC : CW_1 V G) : G = G1 ∧ (r.toInt ≠ 0 ↔ ((0 ≤ p0.toInt ∧ p0.toInt < (V.2.1.length : Int)) ∧ (0 ≤ p1.toInt ∧ p1.toInt < (V.1.length : Int)) ∧ 0 ≤ p2.toInt ∧ p2.toInt ≤ ((V.1.getD p1.toInt.toNat ([], [])).2.length : Int) - (V.2.1.getD p0.toInt.toNat ([], 0, 0, 0, 0)).2.1)) := by
  obtain ⟨-, hF, -, -, r1, G2, hw, hh⟩ := h
  obtain ⟨rfl, k1⟩ := k_hasWalker_1_eq hw
  rw [hC.2.1.1] at k1
  have z : (0 : Int32).toInt = 0 := rfl
  have o : (1 : Int32).toInt = 1 := rfl
  refine ⟨hF.nil, ?_⟩
  rcases hh with ⟨c, rfl, -⟩ | ⟨c, r10, G11, hs, hh⟩
  · exact ⟨fun w => absurd z w, fun w => absurd c (k1.mpr w.1)⟩
  have hw1 := k1.mp c
  obtain ⟨rfl, k2⟩ := k_hasStreet_1_eq hs
  rw [hC.1.1] at k2
  rcases hh with ⟨c2, rfl, -⟩ | ⟨c2, hh⟩
  · exact ⟨fun w => absurd z w, fun w => absurd c2 (k2.mpr w.2.1)⟩
  have hs1 := k2.mp c2
  clear k1 k2
  obtain ⟨w, hw'⟩ : ∃ w : Nat, p0.toInt = (w : Int) := ⟨p0.toInt.toNat, by omega⟩
  obtain ⟨s, hs'⟩ : ∃ s : Nat, p1.toInt = (s : Int) := ⟨p1.toInt.toNat, by omega⟩
  have ew : p0.toInt.toNat = w := by omega
  have es : p1.toInt.toNat = s := by omega
  rw [ew, es]
  rcases hh with ⟨d, rfl, -⟩ | ⟨d, y18, e18, y19, e19, y22, t22, hh⟩
  · exact ⟨fun w => absurd z w, fun w => by have := w.2.2.1; omega⟩
  rw [cn_eq hs'] at e18
  rw [cn_eq hw'] at e19
  have h18 : y18.toInt = ((V.1.getD s ([], [])).2.length : Int) := by rw [e18]; exact (hC.1.2 s (by omega)).1.1
  have h19 : y19.toInt = (V.2.1.getD w ([], 0, 0, 0, 0)).2.1 := by rw [e19]; exact (hC.2.1.2 w (by omega)).1
  rcases hh with ⟨e, rfl, -⟩ | ⟨e, rfl, -⟩
  · exact ⟨fun w => absurd z w, fun w => by have := w.2.2.2; omega⟩
  · exact ⟨fun _ => ⟨hw1, hs1, d, by omega⟩, fun _ => by omega⟩
theorem sight_1 {p0 p1 p2 q0 q1 q2 r r' : Int32} {G Ga Gb : GS} (hx : P_Wsight_1 p0 p1 p2 G r Ga) (hm : Q_sight q0 q1 q2 Ga r' Gb) (i0 : p0.toInt = q0.toInt) (i1 : p1.toInt = q1.toInt) (i2 : p2.toInt = q2.toInt) (hP : PQ_1 G) (hS : SG G) (hc : (G.1 31 5).toInt = (G.1 66 85).toInt) (hc0 : 0 ≤ (G.1 31 5).toInt) (hc20 : (G.1 31 5).toInt ≤ 20) (ht : (G.1 31 6).toInt = (G.1 66 86).toInt) : r.toInt = r'.toInt ∧ (Gb.1 31 5).toInt = (Gb.1 66 85).toInt ∧ SG Gb := by
  obtain rfl := Int32.toInt_inj.mp i0
  obtain rfl := Int32.toInt_inj.mp i1
  obtain rfl := Int32.toInt_inj.mp i2
  obtain ⟨V, hC, hR⟩ := hP
  have hFx := hx.2.1
  obtain ⟨-, -, r1, G2, hst, hx⟩ := hx
  obtain ⟨rfl, k1⟩ := k_stands_1_eq hst hC
  obtain ⟨-, -, -, r2, G3, hw, hm⟩ := hm
  obtain ⟨rfl, k2⟩ := q_isWalker hw
  have a52 : Ga.1 66 52 = G.1 66 52 := hFx.i 66 52 (by decide) (by decide)
  have a53 : Ga.1 66 53 = G.1 66 53 := hFx.i 66 53 (by decide) (by decide)
  have a85 : Ga.1 66 85 = G.1 66 85 := hFx.i 66 85 (by decide) (by decide)
  have a86 : Ga.1 66 86 = G.1 66 86 := hFx.i 66 86 (by decide) (by decide)
  have a91 : Ga.1 91 = G.1 91 := hFx.row1 91 (by decide) (by decide)
  have a92 : Ga.1 92 = G.1 92 := hFx.row1 92 (by decide) (by decide)
  rw [a53, hR.2.1.1] at k2
  -- what the reference asks
  have hM : (r1.toInt = 0 → -1 = r'.toInt ∧ Ga = Gb) ∧ (r1.toInt ≠ 0 → ((G.1 66 85).toInt = 20 ∧ -1 = r'.toInt ∧ Ga = Gb) ∨ ((G.1 66 85).toInt ≠ 20 ∧ r'.toInt = (G.1 66 85).toInt ∧ Fr [112, 113, 114, 115, 116] [(66, 85)] Ga Gb ∧ (Gb.1 66 85).toInt = (G.1 66 85).toInt + 1 ∧ Gb.1 112 = upd (Ga.1 112) (G.1 66 85).toNatClampNeg p0 ∧ Gb.1 113 = upd (Ga.1 113) (G.1 66 85).toNatClampNeg p1 ∧ Gb.1 114 = upd (Ga.1 114) (G.1 66 85).toNatClampNeg p2 ∧ Gb.1 115 = upd (Ga.1 115) (G.1 66 85).toNatClampNeg (G.1 66 86) ∧ Gb.1 116 = upd (Ga.1 116) (G.1 66 85).toNatClampNeg (-1))) := by
    have m1 : ((-1 : Int32)).toInt = -1 := rfl
    rcases hm with ⟨c, e, e2⟩ | ⟨c, r11, G12, hs, hm⟩
    · exact ⟨fun _ => ⟨by rw [← e]; rfl, e2⟩, fun w => absurd c (k2.mpr (k1.mp w).1)⟩
    obtain ⟨rfl, k3⟩ := q_isStreet hs
    rw [a52, hR.1.1] at k3
    rcases hm with ⟨c2, e, e2⟩ | ⟨c2, hm⟩
    · exact ⟨fun _ => ⟨by rw [← e]; rfl, e2⟩, fun w => absurd c2 (k3.mpr (k1.mp w).2.1)⟩
    have hw1 := k2.mp c
    have hs1 := k3.mp c2
    clear k2 k3
    obtain ⟨w, hw'⟩ : ∃ w : Nat, p0.toInt = (w : Int) := ⟨p0.toInt.toNat, by clear hm k1 hx; omega⟩
    obtain ⟨s, hs'⟩ : ∃ s : Nat, p1.toInt = (s : Int) := ⟨p1.toInt.toNat, by clear hm k1 hx; omega⟩
    have ew : p0.toInt.toNat = w := by clear hm k1 hx; omega
    have es : p1.toInt.toNat = s := by clear hm k1 hx; omega
    rw [ew, es] at k1
    rcases hm with ⟨d, e, e2⟩ | ⟨d, y21, e21, y23, e23, y25, t25, hm⟩
    · exact ⟨fun _ => ⟨by rw [← e]; rfl, e2⟩, fun w => by have := (k1.mp w).2.2.1; omega⟩
    rw [cn_eq hs', a91] at e21
    rw [cn_eq hw', a92] at e23
    have h21 : y21.toInt = ((V.1.getD s ([], [])).2.length : Int) := by rw [e21]; exact (hR.1.2.2 s (by clear hm k1 hx; omega)).1.1
    have h23 : y23.toInt = (V.2.1.getD w ([], 0, 0, 0, 0)).2.1 := by rw [e23]; exact (hR.2.1.2.2 w (by clear hm k1 hx; omega)).1
    rcases hm with ⟨e, e1, e2⟩ | ⟨e, hm⟩
    · exact ⟨fun _ => ⟨by rw [← e1]; rfl, e2⟩, fun w => by have := (k1.mp w).2.2.2; clear k1; omega⟩
    have hr1 : r1.toInt ≠ 0 := k1.mpr ⟨hw1, hs1, d, by clear hm k1 hx; omega⟩
    refine ⟨fun q => absurd q hr1, fun _ => ?_⟩
    rw [a85, a86] at hm
    rcases hm with ⟨f, e1, e2⟩ | ⟨f, y38, t38, y41, t41, e1, hFe, g85, g1, g2, g3, g4, g5⟩
    · exact Or.inl ⟨f, by rw [← e1]; rfl, e2⟩
    · exact Or.inr ⟨f, by rw [← e1]; omega, hFe, by rw [g85]; exact t38, g1, g2, g3, g4, g5⟩
  clear hm k2 k1
  rcases hx with ⟨c, e, rfl⟩ | ⟨c, r8, G9, htl, rfl, rfl⟩
  · obtain ⟨h1, rfl⟩ := hM.1 c
    exact ⟨by rw [← e, ← h1]; rfl, hc, hS⟩
  · obtain ⟨-, -, htl⟩ := htl
    rcases htl with ⟨d, y9, t9, e, hFt, g5, w1, w2, w3, w4, w5⟩ | ⟨d, e, e2⟩
    · rcases hM.2 c with ⟨f, -⟩ | ⟨f, h1, hFe, h85, z1, z2, z3, z4, z5⟩
      · omega
      · obtain ⟨n, hn⟩ : ∃ n : Nat, (G.1 31 5).toInt = (n : Int) := ⟨(G.1 31 5).toInt.toNat, by omega⟩
        rw [cn_eq hn] at w1 w2 w3 w4 w5
        rw [cn_eq (x := G.1 66 85) (e := n) (by omega)] at z1 z2 z3 z4 z5
        have k5 : (Gb.1 31 5).toInt = (n : Int) + 1 := by
          rw [hFe.i 31 5 (by decide) (by decide), g5]
          omega
        refine ⟨by rw [← e]; omega, by omega, fun j hj => ?_⟩
        rw [z1, z2, z3, z4, z5, hFe.row1 61 (by decide) (by decide), hFe.row1 62 (by decide) (by decide), hFe.row1 63 (by decide) (by decide), hFe.row1 64 (by decide) (by decide), hFe.row1 65 (by decide) (by decide), w1, w2, w3, w4, w5]
        by_cases hjn : j = n
        · subst hjn
          have u : ∀ (g : Nat → Int32) (v : Int32), upd g j v j = v := fun g v => if_pos rfl
          rw [u, u, u, u, u, u, u, u, u, u]
          exact ⟨rfl, rfl, rfl, ht, rfl, by decide⟩
        · have u : ∀ (g : Nat → Int32) (v : Int32), upd g n v j = g j := fun g v => if_neg hjn
          rw [u, u, u, u, u, u, u, u, u, u, hFx.row1 112 (by decide) (by decide), hFx.row1 113 (by decide) (by decide), hFx.row1 114 (by decide) (by decide), hFx.row1 115 (by decide) (by decide), hFx.row1 116 (by decide) (by decide)]
          exact hS j (by omega)
    · rcases hM.2 c with ⟨f, h1, rfl⟩ | ⟨f, -⟩
      · subst e2
        exact ⟨by rw [← e, ← h1]; rfl, hc, hS⟩
      · omega
def CW_2 (V : PV) (G : GS) : Prop := ((G.1 2 9).toInt = (V.1.length : Int) ∧ ∀ s, s < V.1.length → StC_2 s (V.1.getD s ([], [])).2 G ∧ ((V.1.getD s ([], [])).2.length : Int) ≤ 400) ∧ ((G.1 2 10).toInt = (V.2.1.length : Int) ∧ ∀ k, k < V.2.1.length → WkC_2 k (V.2.1.getD k ([], 0, 0, 0, 0)).2 G) ∧ ((G.1 2 11).toInt = (V.2.2.1.length : Int) ∧ (G.1 2 12).toInt = V.2.2.2.1 ∧ CodeC_2 0 (fcd V.2.2.1) G ∧ EndC_2 V.2.2.1 G) ∧ ((G.1 26 0).toInt = (V.2.2.2.2.1.getD (0, 1, 0)).1 ∧ (G.1 26 1).toInt = (V.2.2.2.2.1.getD (0, 1, 0)).2.1 ∧ (G.1 26 2).toInt = (V.2.2.2.2.1.getD (0, 1, 0)).2.2) ∧ (G.1 2 14).toInt = (V.2.2.2.2.2.1.getD (30, 10)).1 ∧ (G.1 2 15).toInt = (V.2.2.2.2.2.1.getD (30, 10)).2 ∧ (G.1 2 16).toInt = V.2.2.2.2.2.2.getD 0
theorem CV_2.cw {V : PV} {G : GS} (h : CV_2 V G) : CW_2 V G := by
  obtain ⟨⟨a1, -, a3⟩, ⟨b1, -, b3⟩, ⟨c1, -, c3, -, -, c6, c7⟩, ⟨-, d2⟩, ⟨-, e2, e3⟩, -, f2⟩ := h
  exact ⟨⟨a1, a3⟩, ⟨b1, b3⟩, ⟨c1, c3, c6, c7⟩, d2, e2, e3, f2⟩
def PQ_2 (G : GS) : Prop := ∃ V, CW_2 V G ∧ RV V G
theorem PQ_2.fr {G G1 : GS} (h : PQ_2 G) (hr : ∀ i, i ∈ [20, 21, 22, 23, 24, 25, 26, 27, 28, 72, 73, 74, 87, 88, 89, 90, 91, 92, 93, 94, 95, 96] → G1.1 i = G.1 i) (hf : ∀ y : Nat × Nat, y ∈ [(2, 9), (2, 10), (2, 11), (2, 12), (2, 13), (2, 14), (2, 15), (2, 16), (66, 22), (66, 52), (66, 53), (66, 54), (66, 55), (66, 56)] → G1.1 y.1 y.2 = G.1 y.1 y.2) : PQ_2 G1 := by
  obtain ⟨V, h1, h2⟩ := h
  refine ⟨V, ?_, ?_⟩
  · unfold CW_2 StC_2 WkC_2 CodeC_2 EndC_2 at h1 ⊢
    rw [hf (2, 9) (by decide), hf (2, 10) (by decide), hf (2, 11) (by decide), hf (2, 12) (by decide), hf (2, 13) (by decide), hf (2, 14) (by decide), hf (2, 15) (by decide), hf (2, 16) (by decide), hr 20 (by decide), hr 21 (by decide), hr 22 (by decide), hr 23 (by decide), hr 24 (by decide), hr 25 (by decide), hr 26 (by decide), hr 27 (by decide), hr 28 (by decide)]
    exact h1
  · unfold RV RSt RWk RCd at h2 ⊢
    rw [hf (66, 22) (by decide), hf (66, 52) (by decide), hf (66, 53) (by decide), hf (66, 54) (by decide), hf (66, 55) (by decide), hf (66, 56) (by decide), hr 72 (by decide), hr 73 (by decide), hr 74 (by decide), hr 87 (by decide), hr 88 (by decide), hr 89 (by decide), hr 90 (by decide), hr 91 (by decide), hr 92 (by decide), hr 93 (by decide), hr 94 (by decide), hr 95 (by decide), hr 96 (by decide)]
    exact h2
noncomputable def gPB (G : GS) : Int := ind (PQ_2 G)
theorem gPB_fr {rs : List Nat} {fs : List (Nat × Nat)} {G G1 : GS} (h : Fr rs fs G G1) (h1 : ∀ i ∈ [20, 21, 22, 23, 24, 25, 26, 27, 28, 72, 73, 74, 87, 88, 89, 90, 91, 92, 93, 94, 95, 96], i ∉ rs ∧ ∀ x ∈ fs, x.1 ≠ i) (h2 : ∀ y ∈ [(2, 9), (2, 10), (2, 11), (2, 12), (2, 13), (2, 14), (2, 15), (2, 16), (66, 22), (66, 52), (66, 53), (66, 54), (66, 55), (66, 56)], y.1 ∉ rs ∧ y ∉ fs) : gPB G1 = gPB G := by
  have e : PQ_2 G1 ↔ PQ_2 G := ⟨fun q => q.fr (fun i hi => (h.rows h1 hi).symm) (fun y hy => (h.i y.1 y.2 (h2 y hy).1 (h2 y hy).2).symm), fun q => q.fr (fun i hi => h.rows h1 hi) (fun y hy => h.i y.1 y.2 (h2 y hy).1 (h2 y hy).2)⟩
  unfold gPB
  rw [propext e]
theorem k_hasStreet_2_eq {p0 r : Int32} {G G1 : GS} (h : P_hasStreet_2 p0 G r G1) : G = G1 ∧ (r.toInt ≠ 0 ↔ (0 ≤ p0.toInt ∧ p0.toInt < (G.1 2 9).toInt)) := by
  obtain ⟨-, hF, -, -, hh⟩ := h
  have z : (0 : Int32).toInt = 0 := rfl
  have o : (1 : Int32).toInt = 1 := rfl
  refine ⟨hF.nil, ?_⟩
  rcases hh with ⟨c, rfl, -⟩ | ⟨c, ⟨d, rfl, -⟩ | ⟨d, rfl, -⟩⟩ <;> omega
theorem k_hasWalker_2_eq {p0 r : Int32} {G G1 : GS} (h : P_hasWalker_2 p0 G r G1) : G = G1 ∧ (r.toInt ≠ 0 ↔ (0 ≤ p0.toInt ∧ p0.toInt < (G.1 2 10).toInt)) := by
  obtain ⟨-, hF, -, -, hh⟩ := h
  have z : (0 : Int32).toInt = 0 := rfl
  have o : (1 : Int32).toInt = 1 := rfl
  refine ⟨hF.nil, ?_⟩
  rcases hh with ⟨c, rfl, -⟩ | ⟨c, ⟨d, rfl, -⟩ | ⟨d, rfl, -⟩⟩ <;> omega
theorem k_hasInch_2_eq {p0 p1 r : Int32} {G G1 : GS} (h : P_hasInch_2 p0 p1 G r G1) : G = G1 ∧ (r.toInt ≠ 0 ↔ ((0 ≤ p0.toInt ∧ p0.toInt < (G.1 2 9).toInt) ∧ 0 ≤ p1.toInt ∧ p1.toInt < (G.1 20 p0.toNatClampNeg).toInt)) := by
  obtain ⟨-, hF, -, -, r1, G2, hs, hh⟩ := h
  obtain ⟨rfl, qs⟩ := k_hasStreet_2_eq hs
  have z : (0 : Int32).toInt = 0 := rfl
  have o : (1 : Int32).toInt = 1 := rfl
  refine ⟨hF.nil, ?_⟩
  rcases hh with ⟨c, rfl, -⟩ | ⟨c, ⟨d, rfl, -⟩ | ⟨d, y9, rfl, ⟨e, rfl, -⟩ | ⟨e, rfl, -⟩⟩⟩
  · exact ⟨fun w => absurd z w, fun w => absurd c (qs.mpr w.1)⟩
  · exact ⟨fun w => absurd z w, fun w => by have := w.2.1; omega⟩
  · exact ⟨fun w => absurd z w, fun w => by have := w.2.2; omega⟩
  · exact ⟨fun _ => ⟨qs.mp c, d, e⟩, fun _ => by omega⟩
theorem len_2 {p q r r' : Int32} {G Ga Gb : GS} (hx : P_Wlength_2 p G r Ga) (hm : Q_length q Ga r' Gb) (hpq : p.toInt = q.toInt) (hP : PQ_2 G) : r.toInt = r'.toInt := by
  obtain rfl := Int32.toInt_inj.mp hpq
  have eG := hx.2.1.nil
  subst eG
  obtain ⟨V, hC, hR⟩ := hP
  obtain ⟨-, -, r1, G2, hs, hx⟩ := hx
  obtain ⟨-, -, r2, G3, hs2, hm⟩ := hm
  obtain ⟨rfl, q1⟩ := k_hasStreet_2_eq hs
  obtain ⟨rfl, q2⟩ := q_isStreet hs2
  rw [hC.1.1] at q1
  rw [hR.1.1] at q2
  rcases hx with ⟨c, rfl, -⟩ | ⟨c, y, e, rfl, -⟩
  · rcases hm with ⟨-, rfl, -⟩ | ⟨d, -⟩
    · rfl
    · exact absurd c (q1.mpr (q2.mp d))
  · rcases hm with ⟨d, -⟩ | ⟨d, y', e', rfl, -⟩
    · exact absurd d (q2.mpr (q1.mp c))
    · have hs := q1.mp c
      clear q1 q2
      obtain ⟨j, hj⟩ : ∃ j : Nat, p.toInt = (j : Int) := ⟨p.toInt.toNat, by omega⟩
      rw [cn_eq hj] at e e'
      rw [e, e', (hC.1.2 j (by omega)).1.1, (hR.1.2.2 j (by omega)).1.1]
theorem inch_2 {p0 p1 p2 q0 q1 q2 r r' : Int32} {G Ga Gb : GS} (hx : P_Winch_2 p0 p1 p2 G r Ga) (hm : Q_inch q0 q1 q2 Ga r' Gb) (i0 : p0.toInt = q0.toInt) (i1 : p1.toInt = q1.toInt) (i2 : p2.toInt = q2.toInt) (hP : PQ_2 G) : r.toInt = r'.toInt := by
  obtain rfl := Int32.toInt_inj.mp i0
  obtain rfl := Int32.toInt_inj.mp i1
  obtain rfl := Int32.toInt_inj.mp i2
  have eG := hx.2.1.nil
  subst eG
  obtain ⟨V, hC, hR⟩ := hP
  obtain ⟨-, -, r1, G2, hs, hx⟩ := hx
  obtain ⟨-, -, r2, G3, hs2, hm⟩ := hm
  obtain ⟨rfl, k1⟩ := k_hasInch_2_eq hs
  obtain ⟨rfl, k2⟩ := q_isStreet hs2
  have z : (-1 : Int32).toInt = -1 := rfl
  by_cases hst : 0 ≤ p0.toInt ∧ p0.toInt < (V.1.length : Int)
  · have hr2 : r2.toInt ≠ 0 := k2.mpr (by rw [hR.1.1]; exact hst)
    obtain ⟨s, hs'⟩ : ∃ s : Nat, p0.toInt = (s : Int) := ⟨p0.toInt.toNat, by clear k1 k2 hx hm; omega⟩
    have hsl : s < V.1.length := by clear k1 k2 hx hm; omega
    obtain ⟨hStC, -⟩ := hC.1.2 s hsl
    obtain ⟨hStR, -⟩ := hR.1.2.2 s hsl
    rw [hC.1.1, cn_eq hs', hStC.1] at k1
    rcases hm with ⟨c, -⟩ | ⟨-, r8, G9, hin, hm⟩
    · exact absurd c hr2
    obtain ⟨rfl, k3⟩ := q_isInch hin
    rw [cn_eq hs', hStR.1] at k3
    by_cases hxi : 0 ≤ p1.toInt ∧ p1.toInt < ((V.1.getD s ([], [])).2.length : Int)
    · have hr1 : r1.toInt ≠ 0 := k1.mpr ⟨hst, hxi⟩
      have hr8 : r8.toInt ≠ 0 := k3.mpr hxi
      clear k1 k2 k3
      obtain ⟨i, hi⟩ : ∃ i : Nat, p1.toInt = (i : Int) := ⟨p1.toInt.toNat, by clear hx hm; omega⟩
      have hil : i < (V.1.getD s ([], [])).2.length := by clear hx hm; omega
      obtain ⟨b1, b2, b3, b4⟩ := hStR.2 i hil
      obtain ⟨e1, hok⟩ := hStC.2 i hil
      rcases hm with ⟨c, -⟩ | ⟨-, y15, t15, y16, t16, hm⟩
      · exact absurd c hr8
      have hy : y16.toNatClampNeg = 400 * s + i := cn_eq (by clear hx hm; omega)
      rw [hy] at hm
      have hM : r'.toInt = (if p2.toInt < 0 ∨ 4 < p2.toInt then -1 else icA ((V.1.getD s ([], [])).2.getD i (0, 0, 0, 0)) p2.toInt) := by
        unfold icA
        rcases hm with ⟨c, y18, e18, ⟨d, r21, G22, ht, rfl, -⟩ | ⟨d, r21, G22, ht, rfl, -⟩⟩ | ⟨c, ⟨d, y, e, rfl, -⟩ | ⟨d, ⟨f, y, e, rfl, -⟩ | ⟨f, ⟨g, y, e, rfl, -⟩ | ⟨g, ⟨k, y41, e41, ⟨l, y43, e43, rfl, -⟩ | ⟨l, rfl, -⟩⟩ | ⟨k, rfl, -⟩⟩⟩⟩⟩
        · rw [e18, b1] at d
          rw [(q_truth ht).2, if_neg (by omega), if_pos c, if_neg (by omega)]
          rfl
        · rw [e18, b1] at d
          rw [(q_truth ht).2, if_neg (by omega), if_pos c, if_pos d]
          rfl
        · rw [if_neg (by omega), if_neg c, if_pos d, e, b2]
        · rw [if_neg (by omega), if_neg c, if_neg d, if_pos f, e, b3]
        · rw [if_neg (by omega), if_neg c, if_neg d, if_neg f, if_pos g, e, b4]
        · rw [e41, b1] at l
          rw [if_neg (by omega), if_neg c, if_neg d, if_neg f, if_neg g, if_neg (by omega), e43, b1]
        · rw [e41, b1] at l
          rw [if_neg (by omega), if_neg c, if_neg d, if_neg f, if_neg g, if_pos l]
          rfl
        · rw [if_pos (by omega)]
          rfl
      rw [hM]
      clear hM hm
      rcases hx with ⟨c, -⟩ | ⟨-, ⟨d, rfl, -⟩ | ⟨d, ⟨f, r10, G11, hat, r15, G16, hpt, rfl, -⟩ | ⟨f, rfl, -⟩⟩⟩
      · exact absurd c hr1
      · rw [if_pos (Or.inl d)]
        rfl
      · rw [if_neg (by omega)]
        obtain ⟨-, hFa, r3, G4, hs3, hat⟩ := hat
        obtain ⟨rfl, k4⟩ := k_hasInch_2_eq hs3
        rw [hC.1.1, cn_eq hs', hStC.1] at k4
        rcases hat with ⟨c, -⟩ | ⟨-, y8, t8, y9, t9, y10, e10, rfl, rfl⟩
        · exact absurd c (k4.mpr ⟨hst, hxi⟩)
        · rw [cn_eq (x := y9) (e := 400 * s + i) (by clear k4; omega), e1] at e10
          exact (k_part_eq hpt hok e10).2
      · rw [if_pos (Or.inr f)]
        rfl
    · have hr1 : r1.toInt = 0 := Classical.byContradiction (fun w => hxi (k1.mp w).2)
      have hr8 : r8.toInt = 0 := Classical.byContradiction (fun w => hxi (k3.mp w))
      rcases hm with ⟨-, rfl, -⟩ | ⟨c, -⟩
      · rcases hx with ⟨-, rfl, -⟩ | ⟨c, -⟩
        · rfl
        · exact absurd hr1 c
      · exact absurd hr8 c
  · have hr1 : r1.toInt = 0 := Classical.byContradiction (fun w => hst (by have := (k1.mp w).1; rw [hC.1.1] at this; exact this))
    have hr2 : r2.toInt = 0 := Classical.byContradiction (fun w => hst (by have := k2.mp w; rw [hR.1.1] at this; exact this))
    rcases hm with ⟨-, rfl, -⟩ | ⟨c, -⟩
    · rcases hx with ⟨-, rfl, -⟩ | ⟨c, -⟩
      · rfl
      · exact absurd hr1 c
    · exact absurd hr2 c
theorem k_stands_2_eq {V : PV} {p0 p1 p2 r : Int32} {G G1 : GS} (h : P_stands_2 p0 p1 p2 G r G1) (hC : CW_2 V G) : G = G1 ∧ (r.toInt ≠ 0 ↔ ((0 ≤ p0.toInt ∧ p0.toInt < (V.2.1.length : Int)) ∧ (0 ≤ p1.toInt ∧ p1.toInt < (V.1.length : Int)) ∧ 0 ≤ p2.toInt ∧ p2.toInt ≤ ((V.1.getD p1.toInt.toNat ([], [])).2.length : Int) - (V.2.1.getD p0.toInt.toNat ([], 0, 0, 0, 0)).2.1)) := by
  obtain ⟨-, hF, -, -, r1, G2, hw, hh⟩ := h
  obtain ⟨rfl, k1⟩ := k_hasWalker_2_eq hw
  rw [hC.2.1.1] at k1
  have z : (0 : Int32).toInt = 0 := rfl
  have o : (1 : Int32).toInt = 1 := rfl
  refine ⟨hF.nil, ?_⟩
  rcases hh with ⟨c, rfl, -⟩ | ⟨c, r10, G11, hs, hh⟩
  · exact ⟨fun w => absurd z w, fun w => absurd c (k1.mpr w.1)⟩
  have hw1 := k1.mp c
  obtain ⟨rfl, k2⟩ := k_hasStreet_2_eq hs
  rw [hC.1.1] at k2
  rcases hh with ⟨c2, rfl, -⟩ | ⟨c2, hh⟩
  · exact ⟨fun w => absurd z w, fun w => absurd c2 (k2.mpr w.2.1)⟩
  have hs1 := k2.mp c2
  clear k1 k2
  obtain ⟨w, hw'⟩ : ∃ w : Nat, p0.toInt = (w : Int) := ⟨p0.toInt.toNat, by omega⟩
  obtain ⟨s, hs'⟩ : ∃ s : Nat, p1.toInt = (s : Int) := ⟨p1.toInt.toNat, by omega⟩
  have ew : p0.toInt.toNat = w := by omega
  have es : p1.toInt.toNat = s := by omega
  rw [ew, es]
  rcases hh with ⟨d, rfl, -⟩ | ⟨d, y18, e18, y19, e19, y22, t22, hh⟩
  · exact ⟨fun w => absurd z w, fun w => by have := w.2.2.1; omega⟩
  rw [cn_eq hs'] at e18
  rw [cn_eq hw'] at e19
  have h18 : y18.toInt = ((V.1.getD s ([], [])).2.length : Int) := by rw [e18]; exact (hC.1.2 s (by omega)).1.1
  have h19 : y19.toInt = (V.2.1.getD w ([], 0, 0, 0, 0)).2.1 := by rw [e19]; exact (hC.2.1.2 w (by omega)).1
  rcases hh with ⟨e, rfl, -⟩ | ⟨e, rfl, -⟩
  · exact ⟨fun w => absurd z w, fun w => by have := w.2.2.2; omega⟩
  · exact ⟨fun _ => ⟨hw1, hs1, d, by omega⟩, fun _ => by omega⟩
theorem sight_2 {p0 p1 p2 q0 q1 q2 r r' : Int32} {G Ga Gb : GS} (hx : P_Wsight_2 p0 p1 p2 G r Ga) (hm : Q_sight q0 q1 q2 Ga r' Gb) (i0 : p0.toInt = q0.toInt) (i1 : p1.toInt = q1.toInt) (i2 : p2.toInt = q2.toInt) (hP : PQ_2 G) (hS : SG G) (hc : (G.1 31 5).toInt = (G.1 66 85).toInt) (hc0 : 0 ≤ (G.1 31 5).toInt) (hc20 : (G.1 31 5).toInt ≤ 20) (ht : (G.1 31 6).toInt = (G.1 66 86).toInt) : r.toInt = r'.toInt ∧ (Gb.1 31 5).toInt = (Gb.1 66 85).toInt ∧ SG Gb := by
  obtain rfl := Int32.toInt_inj.mp i0
  obtain rfl := Int32.toInt_inj.mp i1
  obtain rfl := Int32.toInt_inj.mp i2
  obtain ⟨V, hC, hR⟩ := hP
  have hFx := hx.2.1
  obtain ⟨-, -, r1, G2, hst, hx⟩ := hx
  obtain ⟨rfl, k1⟩ := k_stands_2_eq hst hC
  obtain ⟨-, -, -, r2, G3, hw, hm⟩ := hm
  obtain ⟨rfl, k2⟩ := q_isWalker hw
  have a52 : Ga.1 66 52 = G.1 66 52 := hFx.i 66 52 (by decide) (by decide)
  have a53 : Ga.1 66 53 = G.1 66 53 := hFx.i 66 53 (by decide) (by decide)
  have a85 : Ga.1 66 85 = G.1 66 85 := hFx.i 66 85 (by decide) (by decide)
  have a86 : Ga.1 66 86 = G.1 66 86 := hFx.i 66 86 (by decide) (by decide)
  have a91 : Ga.1 91 = G.1 91 := hFx.row1 91 (by decide) (by decide)
  have a92 : Ga.1 92 = G.1 92 := hFx.row1 92 (by decide) (by decide)
  rw [a53, hR.2.1.1] at k2
  -- what the reference asks
  have hM : (r1.toInt = 0 → -1 = r'.toInt ∧ Ga = Gb) ∧ (r1.toInt ≠ 0 → ((G.1 66 85).toInt = 20 ∧ -1 = r'.toInt ∧ Ga = Gb) ∨ ((G.1 66 85).toInt ≠ 20 ∧ r'.toInt = (G.1 66 85).toInt ∧ Fr [112, 113, 114, 115, 116] [(66, 85)] Ga Gb ∧ (Gb.1 66 85).toInt = (G.1 66 85).toInt + 1 ∧ Gb.1 112 = upd (Ga.1 112) (G.1 66 85).toNatClampNeg p0 ∧ Gb.1 113 = upd (Ga.1 113) (G.1 66 85).toNatClampNeg p1 ∧ Gb.1 114 = upd (Ga.1 114) (G.1 66 85).toNatClampNeg p2 ∧ Gb.1 115 = upd (Ga.1 115) (G.1 66 85).toNatClampNeg (G.1 66 86) ∧ Gb.1 116 = upd (Ga.1 116) (G.1 66 85).toNatClampNeg (-1))) := by
    have m1 : ((-1 : Int32)).toInt = -1 := rfl
    rcases hm with ⟨c, e, e2⟩ | ⟨c, r11, G12, hs, hm⟩
    · exact ⟨fun _ => ⟨by rw [← e]; rfl, e2⟩, fun w => absurd c (k2.mpr (k1.mp w).1)⟩
    obtain ⟨rfl, k3⟩ := q_isStreet hs
    rw [a52, hR.1.1] at k3
    rcases hm with ⟨c2, e, e2⟩ | ⟨c2, hm⟩
    · exact ⟨fun _ => ⟨by rw [← e]; rfl, e2⟩, fun w => absurd c2 (k3.mpr (k1.mp w).2.1)⟩
    have hw1 := k2.mp c
    have hs1 := k3.mp c2
    clear k2 k3
    obtain ⟨w, hw'⟩ : ∃ w : Nat, p0.toInt = (w : Int) := ⟨p0.toInt.toNat, by clear hm k1 hx; omega⟩
    obtain ⟨s, hs'⟩ : ∃ s : Nat, p1.toInt = (s : Int) := ⟨p1.toInt.toNat, by clear hm k1 hx; omega⟩
    have ew : p0.toInt.toNat = w := by clear hm k1 hx; omega
    have es : p1.toInt.toNat = s := by clear hm k1 hx; omega
    rw [ew, es] at k1
    rcases hm with ⟨d, e, e2⟩ | ⟨d, y21, e21, y23, e23, y25, t25, hm⟩
    · exact ⟨fun _ => ⟨by rw [← e]; rfl, e2⟩, fun w => by have := (k1.mp w).2.2.1; omega⟩
    rw [cn_eq hs', a91] at e21
    rw [cn_eq hw', a92] at e23
    have h21 : y21.toInt = ((V.1.getD s ([], [])).2.length : Int) := by rw [e21]; exact (hR.1.2.2 s (by clear hm k1 hx; omega)).1.1
    have h23 : y23.toInt = (V.2.1.getD w ([], 0, 0, 0, 0)).2.1 := by rw [e23]; exact (hR.2.1.2.2 w (by clear hm k1 hx; omega)).1
    rcases hm with ⟨e, e1, e2⟩ | ⟨e, hm⟩
    · exact ⟨fun _ => ⟨by rw [← e1]; rfl, e2⟩, fun w => by have := (k1.mp w).2.2.2; clear k1; omega⟩
    have hr1 : r1.toInt ≠ 0 := k1.mpr ⟨hw1, hs1, d, by clear hm k1 hx; omega⟩
    refine ⟨fun q => absurd q hr1, fun _ => ?_⟩
    rw [a85, a86] at hm
    rcases hm with ⟨f, e1, e2⟩ | ⟨f, y38, t38, y41, t41, e1, hFe, g85, g1, g2, g3, g4, g5⟩
    · exact Or.inl ⟨f, by rw [← e1]; rfl, e2⟩
    · exact Or.inr ⟨f, by rw [← e1]; omega, hFe, by rw [g85]; exact t38, g1, g2, g3, g4, g5⟩
  clear hm k2 k1
  rcases hx with ⟨c, e, rfl⟩ | ⟨c, r8, G9, htl, rfl, rfl⟩
  · obtain ⟨h1, rfl⟩ := hM.1 c
    exact ⟨by rw [← e, ← h1]; rfl, hc, hS⟩
  · obtain ⟨-, -, htl⟩ := htl
    rcases htl with ⟨d, y9, t9, e, hFt, g5, w1, w2, w3, w4, w5⟩ | ⟨d, e, e2⟩
    · rcases hM.2 c with ⟨f, -⟩ | ⟨f, h1, hFe, h85, z1, z2, z3, z4, z5⟩
      · omega
      · obtain ⟨n, hn⟩ : ∃ n : Nat, (G.1 31 5).toInt = (n : Int) := ⟨(G.1 31 5).toInt.toNat, by omega⟩
        rw [cn_eq hn] at w1 w2 w3 w4 w5
        rw [cn_eq (x := G.1 66 85) (e := n) (by omega)] at z1 z2 z3 z4 z5
        have k5 : (Gb.1 31 5).toInt = (n : Int) + 1 := by
          rw [hFe.i 31 5 (by decide) (by decide), g5]
          omega
        refine ⟨by rw [← e]; omega, by omega, fun j hj => ?_⟩
        rw [z1, z2, z3, z4, z5, hFe.row1 61 (by decide) (by decide), hFe.row1 62 (by decide) (by decide), hFe.row1 63 (by decide) (by decide), hFe.row1 64 (by decide) (by decide), hFe.row1 65 (by decide) (by decide), w1, w2, w3, w4, w5]
        by_cases hjn : j = n
        · subst hjn
          have u : ∀ (g : Nat → Int32) (v : Int32), upd g j v j = v := fun g v => if_pos rfl
          rw [u, u, u, u, u, u, u, u, u, u]
          exact ⟨rfl, rfl, rfl, ht, rfl, by decide⟩
        · have u : ∀ (g : Nat → Int32) (v : Int32), upd g n v j = g j := fun g v => if_neg hjn
          rw [u, u, u, u, u, u, u, u, u, u, hFx.row1 112 (by decide) (by decide), hFx.row1 113 (by decide) (by decide), hFx.row1 114 (by decide) (by decide), hFx.row1 115 (by decide) (by decide), hFx.row1 116 (by decide) (by decide)]
          exact hS j (by omega)
    · rcases hM.2 c with ⟨f, h1, rfl⟩ | ⟨f, -⟩
      · subst e2
        exact ⟨by rw [← e, ← h1]; rfl, hc, hS⟩
      · omega
