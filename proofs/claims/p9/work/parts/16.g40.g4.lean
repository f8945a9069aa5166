/-! what may be asked -/
noncomputable def pif {α : Type} (p : Prop) (a b : α) : α := @ite α p (Classical.propDecidable p) a b
theorem pif_p {α : Type} {p : Prop} {a b : α} (h : p) : pif p a b = a := if_pos h
theorem pif_n {α : Type} {p : Prop} {a b : α} (h : ¬ p) : pif p a b = b := if_neg h
def inS (V : PV) (p : Int32) : Prop := 0 ≤ p.toInt ∧ p.toInt < (V.1.length : Int)
def inW (V : PV) (p : Int32) : Prop := 0 ≤ p.toInt ∧ p.toInt < (V.2.1.length : Int)
def inR (V : PV) (p : Int32) : Prop := 0 ≤ p.toInt ∧ p.toInt < ((2 ^ V.2.2.1.length : Nat) : Int)
def inX (V : PV) (s p : Int32) : Prop := 0 ≤ p.toInt ∧ p.toInt < (stl V s.toInt.toNat : Int)
theorem inR.lt {V : PV} {p : Int32} (h : inR V p) (h6 : V.2.2.1.length ≤ 6) : p.toInt.toNat < 64 ∧ p.toInt = (p.toInt.toNat : Int) := by
  have : 2 ^ V.2.2.1.length ≤ 2 ^ 6 := Nat.pow_le_pow_right (by decide) h6
  have h2 := h.2
  have h1 := h.1
  omega
theorem inS.n {V : PV} {p : Int32} (h : inS V p) : p.toInt.toNat < V.1.length ∧ p.toInt = (p.toInt.toNat : Int) := by
  have h2 := h.2
  have h1 := h.1
  omega
theorem inW.n {V : PV} {p : Int32} (h : inW V p) : p.toInt.toNat < V.2.1.length ∧ p.toInt = (p.toInt.toNat : Int) := by
  have h2 := h.2
  have h1 := h.1
  omega
theorem sh_n {c : Int32} {n : Nat} (h : c.toInt = (n : Int)) (h6 : n ≤ 6) : ((1 : Int32) <<< (c &&& 31)).toInt = ((2 ^ n : Nat) : Int) := by
  have e : c = Int32.ofNat n := by
    rw [nat_i (x := c) (by omega), h]
    rfl
  have : 2 ^ n ≤ 2 ^ 6 := Nat.pow_le_pow_right (by decide) h6
  rw [e, sh_pow n (by omega), on_i (by omega)]
theorem q_areRules_eq {V : PV} {p0 r : Int32} {G G1 : GS} (h : Q_areRules p0 G r G1) (hR : RV V G) : G = G1 ∧ (r.toInt ≠ 0 ↔ inR V p0) := by
  obtain ⟨-, hF, -, -, y2, e2, y3, t3, r5, G6, hi, rfl, rfl⟩ := h
  have t2 : y2.toInt = ((2 ^ V.2.2.1.length : Nat) : Int) := by
    rw [e2]
    exact sh_n hR.2.2.1.1 hR.2.2.1.2.1
  have z : (0 : Int32).toInt = 0 := rfl
  refine ⟨hF.nil, (q_isIn hi).2.trans ⟨fun q => ⟨by have := q.1; omega, by have := q.2; omega⟩, fun q => ⟨by have := q.1; omega, by have := q.2; omega⟩⟩⟩
theorem RV.len {V : PV} {G : GS} {p : Int32} (h : RV V G) (hp : inS V p) : (G.1 91 p.toNatClampNeg).toInt = (stl V p.toInt.toNat : Int) := (h.1.2.2 p.toInt.toNat hp.n.1).1.1
theorem q_isStreetV {V : PV} {p0 r : Int32} {G G1 : GS} (h : Q_isStreet p0 G r G1) (hR : RV V G) : G = G1 ∧ (r.toInt ≠ 0 ↔ inS V p0) := by
  obtain ⟨e, k⟩ := q_isStreet h
  rw [hR.1.1] at k
  exact ⟨e, k⟩
theorem q_isWalkerV {V : PV} {p0 r : Int32} {G G1 : GS} (h : Q_isWalker p0 G r G1) (hR : RV V G) : G = G1 ∧ (r.toInt ≠ 0 ↔ inW V p0) := by
  obtain ⟨e, k⟩ := q_isWalker h
  rw [hR.2.1.1] at k
  exact ⟨e, k⟩
theorem q_isInchV {V : PV} {p0 p1 r : Int32} {G G1 : GS} (h : Q_isInch p0 p1 G r G1) (hR : RV V G) (hp : inS V p0) : G = G1 ∧ (r.toInt ≠ 0 ↔ inX V p0 p1) := by
  obtain ⟨e, k⟩ := q_isInch h
  rw [hR.len hp] at k
  exact ⟨e, k⟩
theorem q_isAsked_eq {V : PV} {p0 p1 p2 r : Int32} {G G1 : GS} (h : Q_isAsked p0 p1 p2 G r G1) (hR : RV V G) : G = G1 ∧ (r.toInt ≠ 0 ↔ (inW V p0 ∧ inS V p1 ∧ inR V p2)) := by
  obtain ⟨-, hF, -, -, r1, G2, hw, hh⟩ := h
  have z : (0 : Int32).toInt = 0 := rfl
  have o : (1 : Int32).toInt = 1 := rfl
  refine ⟨hF.nil, ?_⟩
  obtain ⟨rfl, k1⟩ := q_isWalkerV hw hR
  rcases hh with ⟨c, rfl, -⟩ | ⟨c, r10, G11, hs, hh⟩
  · exact ⟨fun q => absurd z q, fun q => absurd c (k1.mpr q.1)⟩
  obtain ⟨rfl, k2⟩ := q_isStreetV hs hR
  rcases hh with ⟨c2, rfl, -⟩ | ⟨c2, r17, G18, hr, hh⟩
  · exact ⟨fun q => absurd z q, fun q => absurd c2 (k2.mpr q.2.1)⟩
  obtain ⟨rfl, k3⟩ := q_areRules_eq hr hR
  rcases hh with ⟨c3, rfl, -⟩ | ⟨c3, rfl, -⟩
  · exact ⟨fun q => absurd z q, fun q => absurd c3 (k3.mpr q.2.2)⟩
  · exact ⟨fun _ => ⟨k1.mp c, k2.mp c2, k3.mp c3⟩, fun _ => by rw [o]; decide⟩
theorem RV.fr {V : PV} {rs : List Nat} {fs : List (Nat × Nat)} {G G1 : GS} (h : RV V G) (hF : Fr rs fs G G1) (h1 : ∀ i ∈ [72, 73, 74, 87, 88, 89, 90, 91, 92, 93, 94, 95, 96], i ∉ rs ∧ ∀ x ∈ fs, x.1 ≠ i) (h2 : ∀ y ∈ [(66, 22), (66, 52), (66, 53), (66, 54), (66, 55), (66, 56)], y.1 ∉ rs ∧ y ∉ fs) : RV V G1 := by
  have hf : ∀ {j : Nat}, (66, j) ∈ [(66, 22), (66, 52), (66, 53), (66, 54), (66, 55), (66, 56)] → G1.1 66 j = G.1 66 j := fun hj => hF.i 66 _ (h2 _ hj).1 (h2 _ hj).2
  unfold RV RSt RWk RCd at h ⊢
  rw [hf (j := 22) (by decide), hf (j := 52) (by decide), hf (j := 53) (by decide), hf (j := 54) (by decide), hf (j := 55) (by decide), hf (j := 56) (by decide), hF.rows h1 (i := 72) (by decide), hF.rows h1 (i := 73) (by decide), hF.rows h1 (i := 74) (by decide), hF.rows h1 (i := 87) (by decide), hF.rows h1 (i := 88) (by decide), hF.rows h1 (i := 89) (by decide), hF.rows h1 (i := 90) (by decide), hF.rows h1 (i := 91) (by decide), hF.rows h1 (i := 92) (by decide), hF.rows h1 (i := 93) (by decide), hF.rows h1 (i := 94) (by decide), hF.rows h1 (i := 95) (by decide), hF.rows h1 (i := 96) (by decide)]
  exact h
theorem ER.day {V : PV} {G : GS} (h : ER V G) : (0 ≤ (G.1 58 6).toInt ∧ (G.1 58 6).toInt ≤ 1000) ∧ G.1 110 6 = G.1 58 6 := by
  obtain ⟨⟨n, m, hE⟩, -⟩ := h
  exact ⟨hE.now.2.1, hE.2.1 6 (by decide)⟩
/-- the SIGHTS are those of who stands -/
def SOK (V : PV) (G : GS) : Prop := ∀ j : Nat, (j : Int) < (G.1 31 5).toInt → inW V (G.1 61 j) ∧ inS V (G.1 62 j) ∧ 0 ≤ (G.1 63 j).toInt ∧ (G.1 63 j).toInt + (wk V (G.1 61 j).toInt.toNat).1 ≤ (stl V (G.1 62 j).toInt.toNat : Int)
def SV (V : PV) (G : GS) : Prop := (G.1 31 5).toInt = (G.1 66 85).toInt ∧ SG G ∧ SOK V G
theorem SV.fr {V : PV} {rs : List Nat} {fs : List (Nat × Nat)} {G G1 : GS} (h : SV V G) (hF : Fr rs fs G G1) (h1 : ∀ i ∈ [61, 62, 63, 64, 65, 112, 113, 114, 115, 116], i ∉ rs ∧ ∀ x ∈ fs, x.1 ≠ i) (h2 : ∀ y ∈ [(31, 5), (66, 85)], y.1 ∉ rs ∧ y ∉ fs) : SV V G1 := by
  unfold SV SG SOK at h ⊢
  rw [hF.i 31 5 (h2 (31, 5) (by decide)).1 (h2 (31, 5) (by decide)).2, hF.i 66 85 (h2 (66, 85) (by decide)).1 (h2 (66, 85) (by decide)).2, hF.rows h1 (i := 61) (by decide), hF.rows h1 (i := 62) (by decide), hF.rows h1 (i := 63) (by decide), hF.rows h1 (i := 64) (by decide), hF.rows h1 (i := 65) (by decide), hF.rows h1 (i := 112) (by decide), hF.rows h1 (i := 113) (by decide), hF.rows h1 (i := 114) (by decide), hF.rows h1 (i := 115) (by decide), hF.rows h1 (i := 116) (by decide)]
  exact h
/-- along a STREET: the row that goes on, how many are LINES, where the longest begins, how long it is -/
noncomputable def gst (L : Nat → Prop) : Nat → Int × Int × Int × Int
  | 0 => (0, 0, -1, 0)
  | k + 1 => pif (L k) (0, (gst L k).2.1 + 1, (gst L k).2.2.1, (gst L k).2.2.2) (if (gst L k).2.2.2 < (gst L k).1 + 1 then ((gst L k).1 + 1, (gst L k).2.1, (k : Int) - ((gst L k).1 + 1) + 1, (gst L k).1 + 1) else ((gst L k).1 + 1, (gst L k).2.1, (gst L k).2.2.1, (gst L k).2.2.2))
theorem gst_r (L : Nat → Prop) : ∀ k : Nat, 0 ≤ (gst L k).1 ∧ (gst L k).1 ≤ (k : Int) ∧ 0 ≤ (gst L k).2.1 ∧ (gst L k).2.1 ≤ (k : Int) ∧ 0 ≤ (gst L k).2.2.2
  | 0 => ⟨Int.le_refl _, Int.le_refl _, Int.le_refl _, Int.le_refl _, Int.le_refl _⟩
  | k + 1 => by
    obtain ⟨h1, h2, h3, h4, h5⟩ := gst_r L k
    rw [gst]
    by_cases hL : L k
    · rw [pif_p hL]
      exact ⟨Int.le_refl _, by show (0 : Int) ≤ _; omega, by show (0 : Int) ≤ (gst L k).2.1 + 1; omega, by show (gst L k).2.1 + 1 ≤ _; omega, h5⟩
    · rw [pif_n hL]
      by_cases hc : (gst L k).2.2.2 < (gst L k).1 + 1
      · rw [if_pos hc]
        exact ⟨by show (0 : Int) ≤ (gst L k).1 + 1; omega, by show (gst L k).1 + 1 ≤ _; omega, h3, by show (gst L k).2.1 ≤ _; omega, by show (0 : Int) ≤ (gst L k).1 + 1; omega⟩
      · rw [if_neg hc]
        exact ⟨by show (0 : Int) ≤ (gst L k).1 + 1; omega, by show (gst L k).1 + 1 ≤ _; omega, h3, by show (gst L k).2.1 ≤ _; omega, h5⟩
theorem gst_L {L : Nat → Prop} {k : Nat} (h : L k) : gst L (k + 1) = (0, (gst L k).2.1 + 1, (gst L k).2.2.1, (gst L k).2.2.2) := pif_p h
theorem gst_N {L : Nat → Prop} {k : Nat} (h : ¬ L k) : gst L (k + 1) = (if (gst L k).2.2.2 < (gst L k).1 + 1 then ((gst L k).1 + 1, (gst L k).2.1, (k : Int) - ((gst L k).1 + 1) + 1, (gst L k).1 + 1) else ((gst L k).1 + 1, (gst L k).2.1, (gst L k).2.2.1, (gst L k).2.2.2)) := pif_n h
theorem q_gap_eq {V : PV} {p0 p1 p2 r : Int32} {G G1 : GS} (h : Q_gap p0 p1 p2 G r G1) (hR : RV V G) (hV : PVok V) (hok : ∀ s i, s < V.1.length → i < stl V s → ICok (icl V s i)) : (¬ (inS V p0 ∧ inR V p1 ∧ 0 ≤ p2.toInt ∧ p2.toInt ≤ 2) ∧ r.toInt = -1) ∨ ((inS V p0 ∧ inR V p1 ∧ 0 ≤ p2.toInt ∧ p2.toInt ≤ 2) ∧ r.toInt = (if p2.toInt = 0 then (gst (LNx V (G.1 110 6) p0.toInt.toNat p1.toInt.toNat) (stl V p0.toInt.toNat)).2.2.2 else if p2.toInt = 1 then (gst (LNx V (G.1 110 6) p0.toInt.toNat p1.toInt.toNat) (stl V p0.toInt.toNat)).2.2.1 else (gst (LNx V (G.1 110 6) p0.toInt.toNat p1.toInt.toNat) (stl V p0.toInt.toNat)).2.1)) := by
  have m1 : (-1 : Int32).toInt = -1 := rfl
  have z0 : (0 : Int32).toInt = 0 := rfl
  have o1 : (1 : Int32).toInt = 1 := rfl
  have t2 : (2 : Int32).toInt = 2 := rfl
  obtain ⟨-, -, r1, G2, hs, hh⟩ := h
  obtain ⟨rfl, k1⟩ := q_isStreetV hs hR
  rcases hh with ⟨c, rfl, -⟩ | ⟨c, r8, G9, hr, hh⟩
  · exact Or.inl ⟨fun q => absurd c (k1.mpr q.1), m1⟩
  have hS := k1.mp c
  obtain ⟨rfl, k2⟩ := q_areRules_eq hr hR
  rcases hh with ⟨c2, rfl, -⟩ | ⟨c2, r17, G18, hi, hh⟩
  · exact Or.inl ⟨fun q => absurd c2 (k2.mpr q.2.1), m1⟩
  have hRr := k2.mp c2
  obtain ⟨rfl, k3⟩ := q_isIn hi
  rw [z0, t2] at k3
  rcases hh with ⟨c3, rfl, -⟩ | ⟨c3, x28, x29, x30, x31, x32, G24, hl, -, -, -, -, hF24, y40, e40, c40, hh⟩
  · exact Or.inl ⟨fun q => absurd c3 (k3.mpr q.2.2), m1⟩
  refine Or.inr ⟨⟨hS, hRr, k3.mp c3⟩, ?_⟩
  clear k1 k2 k3 c c2
  obtain ⟨hsl, hsn⟩ := hS.n
  obtain ⟨ht64, htn⟩ := hRr.lt hV.1
  obtain ⟨s, es⟩ : ∃ s, s = p0.toInt.toNat := ⟨_, rfl⟩
  obtain ⟨t, et⟩ : ∃ t, t = p1.toInt.toNat := ⟨_, rfl⟩
  rw [← es] at hsl hsn ⊢
  rw [← et] at ht64 htn ⊢
  obtain ⟨L, hL⟩ : ∃ L, L = LNx V (G.1 110 6) s t := ⟨_, rfl⟩
  rw [← hL]
  have hlen : ∀ {Gq : GS}, SmL G Gq → (Gq.1 91 p0.toNatClampNeg).toInt = (stl V s : Int) := by
    intro Gq hq
    rw [hq.1 91 (by decide), hR.len hS, ← es]
  have hI := hl (fun q => SmL G q.2.2.2.2.2 ∧ ∃ k : Nat, k ≤ stl V s ∧ q.1.toInt = (k : Int) ∧ q.2.1.toInt = (gst L k).2.1 ∧ q.2.2.1.toInt = (gst L k).1 ∧ q.2.2.2.1.toInt = (gst L k).2.2.1 ∧ q.2.2.2.2.1.toInt = (gst L k).2.2.2) ⟨SmL.rf, 0, Nat.zero_le _, rfl, rfl, rfl, rfl, rfl⟩ (by
    rintro ⟨a1, a2, a3, a4, a5, b0⟩ ⟨n1, n2, n3, n4, n5, bn⟩ ⟨hSm, k, i0, i1, i2, i3, i4, i5⟩ ⟨x1, x2, x3, x4, x5, g, u1, u2, u3, u4, u5, gn, q1, q2, -, -, -, -, y40, e40, c40, r45, G46, hil, r51, G52, htr, y57, e57, x58, w66, G67, hj, -, hF67, hd⟩
    simp only [Prod.mk.injEq] at q1 q2
    obtain ⟨rfl, rfl, rfl, rfl, rfl, rfl⟩ := q1
    obtain ⟨rfl, rfl, rfl, rfl, rfl, rfl⟩ := q2
    simp only at hSm i1 i2 i3 i4 i5
    have t40 : y40.toInt = (stl V s : Int) := by rw [e40]; exact hlen hSm
    have hk : k < stl V s := by omega
    have hl4 := (hR.1.2.2 s hsl).2
    have hl4' : (stl V s : Int) ≤ 400 := hl4
    obtain ⟨j1, j2, j3, j4⟩ := q_isLineS hil hSm hsn hsl i1 hk htn ht64 hR hV (hok s k hsl hk)
    obtain ⟨rfl, t51⟩ := q_truth htr
    have e67 := hF67.nil
    subst e67
    obtain ⟨g1, g2, g3, g4, g5⟩ := gst_r L k
    have t57 : y57.toInt = (gst L k).2.1 + r45.toInt := by
      have := tI_add e57 (by omega) (by omega)
      omega
    have hLk : r45.toInt ≠ 0 ↔ L k := by rw [hL]; exact j4
    have hJ : x58 = y57 ∧ ((¬ L k ∧ w66.toInt = (gst L k).1 + 1 ∧ r45.toInt = 0) ∨ (L k ∧ w66.toInt = 0 ∧ r45.toInt = 1)) := by
      rcases hj with ⟨f, y79, e79, ex, ew, -⟩ | ⟨f, ex, ew, -⟩
      · have t79 : y79.toInt = a3.toInt + 1 := tI_add e79 (by rw [o1]; omega) (by rw [o1]; omega)
        refine ⟨ex.symm, Or.inl ⟨fun q => (hLk.mpr q) f, ?_, f⟩⟩
        rw [← ew, t79, i3]
      · refine ⟨ex.symm, Or.inr ⟨hLk.mp f, by rw [← ew]; rfl, by omega⟩⟩
    obtain ⟨rfl, hJ⟩ := hJ
    clear hLk j4
    rcases hd with ⟨f, y72, t72, y74, t74, y76, t76, ex, e2, e3, e4, e5, eG⟩ | ⟨f, y77, t77, ex, e2, e3, e4, e5, eG⟩
    · subst eG
      refine ⟨j1, k + 1, by omega, by show n1.toInt = _; rw [← ex]; omega, ?_⟩
      show n2.toInt = _ ∧ n3.toInt = _ ∧ n4.toInt = _ ∧ n5.toInt = _
      rw [← e2, ← e3, ← e4, ← e5]
      rcases hJ with ⟨hn, hw, h0⟩ | ⟨hy, hw, h0⟩
      · rw [gst_N hn, if_pos (by omega)]
        try dsimp only
        exact ⟨by omega, hw, by omega, hw⟩
      · omega
    · subst eG
      refine ⟨j1, k + 1, by omega, by show n1.toInt = _; rw [← ex]; omega, ?_⟩
      show n2.toInt = _ ∧ n3.toInt = _ ∧ n4.toInt = _ ∧ n5.toInt = _
      rw [← e2, ← e3, ← e4, ← e5]
      rcases hJ with ⟨hn, hw, h0⟩ | ⟨hy, hw, h0⟩
      · rw [gst_N hn, if_neg (by omega)]
        try dsimp only
        exact ⟨by omega, hw, i4, i5⟩
      · rw [gst_L hy]
        try dsimp only
        exact ⟨by omega, hw, i4, i5⟩)
  obtain ⟨hSm, k, i0, i1, i2, i3, i4, i5⟩ := hI
  simp only at hSm i1 i2 i3 i4 i5
  have t40 : y40.toInt = (stl V s : Int) := by rw [e40]; exact hlen hSm
  have hk : k = stl V s := by clear hh; omega
  subst hk
  rcases hh with ⟨f, rfl, -⟩ | ⟨f, ⟨g, rfl, -⟩ | ⟨g, rfl, -⟩⟩
  · rw [if_pos f]
    exact i5
  · rw [if_neg f, if_pos g]
    exact i4
  · rw [if_neg f, if_neg g]
    exact i2
/-- all that both hold alike -/
def IV_1 (V : PV) (G : GS) : Prop := CW_1 V G ∧ RV V G ∧ PVok V ∧ CaC_1 V G ∧ ER V G ∧ SV V G
theorem IV_1.ca {V : PV} {rs : List Nat} {fs : List (Nat × Nat)} {G G1 : GS} (h : IV_1 V G) (hF : Fr rs fs G G1) (hCa : CaC_1 V G1) (h1 : (∀ i ∈ [10, 11, 12, 13, 14, 15, 16, 17, 18], i ∉ rs ∧ ∀ x ∈ fs, x.1 ≠ i) ∧ (∀ i ∈ [72, 73, 74, 87, 88, 89, 90, 91, 92, 93, 94, 95, 96], i ∉ rs ∧ ∀ x ∈ fs, x.1 ≠ i) ∧ (∀ i ∈ [58, 59, 60, 110, 111, 117, 118], i ∉ rs ∧ ∀ x ∈ fs, x.1 ≠ i) ∧ ∀ i ∈ [61, 62, 63, 64, 65, 112, 113, 114, 115, 116], i ∉ rs ∧ ∀ x ∈ fs, x.1 ≠ i) (h2 : (∀ y ∈ [(1, 9), (1, 10), (1, 11), (1, 12), (1, 13), (1, 14), (1, 15), (1, 16)], y.1 ∉ rs ∧ y ∉ fs) ∧ (∀ y ∈ [(66, 22), (66, 52), (66, 53), (66, 54), (66, 55), (66, 56)], y.1 ∉ rs ∧ y ∉ fs) ∧ (∀ y ∈ [(30, 3), (30, 4), (30, 5), (66, 78), (66, 79)], y.1 ∉ rs ∧ y ∉ fs) ∧ ∀ y ∈ [(31, 5), (66, 85)], y.1 ∉ rs ∧ y ∉ fs) : IV_1 V G1 := by
  obtain ⟨a, b, c, d, e, f⟩ := h
  exact ⟨a.fr hF h1.1 h2.1, b.fr hF h1.2.1 h2.2.1, c, hCa, e.fr hF h1.2.2.1 h2.2.2.1, f.fr hF h1.2.2.2 h2.2.2.2⟩
theorem IV_1.fr {V : PV} {rs : List Nat} {fs : List (Nat × Nat)} {G G1 : GS} (h : IV_1 V G) (hF : Fr rs fs G G1) (h0 : ∀ i ∈ [37, 38], i ∉ rs ∧ ∀ x ∈ fs, x.1 ≠ i) (h1 : (∀ i ∈ [10, 11, 12, 13, 14, 15, 16, 17, 18], i ∉ rs ∧ ∀ x ∈ fs, x.1 ≠ i) ∧ (∀ i ∈ [72, 73, 74, 87, 88, 89, 90, 91, 92, 93, 94, 95, 96], i ∉ rs ∧ ∀ x ∈ fs, x.1 ≠ i) ∧ (∀ i ∈ [58, 59, 60, 110, 111, 117, 118], i ∉ rs ∧ ∀ x ∈ fs, x.1 ≠ i) ∧ ∀ i ∈ [61, 62, 63, 64, 65, 112, 113, 114, 115, 116], i ∉ rs ∧ ∀ x ∈ fs, x.1 ≠ i) (h2 : (∀ y ∈ [(1, 9), (1, 10), (1, 11), (1, 12), (1, 13), (1, 14), (1, 15), (1, 16)], y.1 ∉ rs ∧ y ∉ fs) ∧ (∀ y ∈ [(66, 22), (66, 52), (66, 53), (66, 54), (66, 55), (66, 56)], y.1 ∉ rs ∧ y ∉ fs) ∧ (∀ y ∈ [(30, 3), (30, 4), (30, 5), (66, 78), (66, 79)], y.1 ∉ rs ∧ y ∉ fs) ∧ ∀ y ∈ [(31, 5), (66, 85)], y.1 ∉ rs ∧ y ∉ fs) : IV_1 V G1 := h.ca hF (h.2.2.2.1.fr (hF.rows h0 (i := 37) (by decide)) (hF.rows h0 (i := 38) (by decide))) h1 h2
theorem CW_1.len {V : PV} {G : GS} {p : Int32} (h : CW_1 V G) (hp : inS V p) : (G.1 10 p.toNatClampNeg).toInt = (stl V p.toInt.toNat : Int) := (h.1.2 p.toInt.toNat hp.n.1).1.1
theorem k_hasStreetV_1 {V : PV} {p0 r : Int32} {G G1 : GS} (h : P_hasStreet_1 p0 G r G1) (hW : CW_1 V G) : G = G1 ∧ (r.toInt ≠ 0 ↔ inS V p0) := by
  obtain ⟨e, k⟩ := k_hasStreet_1_eq h
  rw [hW.1.1] at k
  exact ⟨e, k⟩
theorem k_hasWalkerV_1 {V : PV} {p0 r : Int32} {G G1 : GS} (h : P_hasWalker_1 p0 G r G1) (hW : CW_1 V G) : G = G1 ∧ (r.toInt ≠ 0 ↔ inW V p0) := by
  obtain ⟨e, k⟩ := k_hasWalker_1_eq h
  rw [hW.2.1.1] at k
  exact ⟨e, k⟩
theorem k_hasInchV_1 {V : PV} {p0 p1 r : Int32} {G G1 : GS} (h : P_hasInch_1 p0 p1 G r G1) (hW : CW_1 V G) : G = G1 ∧ (r.toInt ≠ 0 ↔ (inS V p0 ∧ inX V p0 p1)) := by
  obtain ⟨e, k⟩ := k_hasInch_1_eq h
  rw [hW.1.1] at k
  refine ⟨e, k.trans ⟨fun q => ⟨q.1, q.2.1, ?_⟩, fun q => ⟨q.1, q.2.1, ?_⟩⟩⟩
  · have := hW.len (p := p0) q.1
    rw [← this]
    exact q.2.2
  · have := hW.len (p := p0) q.1
    rw [this]
    exact q.2.2
theorem k_hasSetV_1 {V : PV} {p0 r : Int32} {G G1 : GS} (h : P_hasSet_1 p0 G r G1) (hW : CW_1 V G) (h6 : V.2.2.1.length ≤ 6) : G = G1 ∧ (r.toInt ≠ 0 ↔ inR V p0) := by
  obtain ⟨-, hF, -, -, hh⟩ := h
  have z : (0 : Int32).toInt = 0 := rfl
  have o : (1 : Int32).toInt = 1 := rfl
  refine ⟨hF.nil, ?_⟩
  unfold inR
  rcases hh with ⟨c, rfl, -⟩ | ⟨c, y3, e3, hh⟩
  · exact ⟨fun q => absurd z q, fun q => absurd q.1 (by omega)⟩
  have t3 : y3.toInt = ((2 ^ V.2.2.1.length : Nat) : Int) := by
    rw [e3]
    exact sh_n hW.2.2.1.1 h6
  rw [← t3]
  rcases hh with ⟨d, rfl, -⟩ | ⟨d, rfl, -⟩
  · exact ⟨fun q => absurd z q, fun q => absurd q.2 (by omega)⟩
  · exact ⟨fun _ => ⟨c, d⟩, fun _ => by rw [o]; decide⟩
theorem k_wAsk_1_eq {V : PV} {p0 p1 p2 r : Int32} {G G1 : GS} (h : P_wAsk_1 p0 p1 p2 G r G1) (hW : CW_1 V G) (h6 : V.2.2.1.length ≤ 6) : G = G1 ∧ (r.toInt ≠ 0 ↔ (inW V p0 ∧ inS V p1 ∧ inR V p2)) := by
  obtain ⟨-, hF, -, -, r1, G2, hw, hh⟩ := h
  have z : (0 : Int32).toInt = 0 := rfl
  have o : (1 : Int32).toInt = 1 := rfl
  refine ⟨hF.nil, ?_⟩
  obtain ⟨rfl, k1⟩ := k_hasWalkerV_1 hw hW
  rcases hh with ⟨c, rfl, -⟩ | ⟨c, r10, G11, hs, hh⟩
  · exact ⟨fun q => absurd z q, fun q => absurd c (k1.mpr q.1)⟩
  obtain ⟨rfl, k2⟩ := k_hasStreetV_1 hs hW
  rcases hh with ⟨c2, rfl, -⟩ | ⟨c2, r17, G18, hr, hh⟩
  · exact ⟨fun q => absurd z q, fun q => absurd c2 (k2.mpr q.2.1)⟩
  obtain ⟨rfl, k3⟩ := k_hasSetV_1 hr hW h6
  rcases hh with ⟨c3, rfl, -⟩ | ⟨c3, rfl, -⟩
  · exact ⟨fun q => absurd z q, fun q => absurd c3 (k3.mpr q.2.2)⟩
  · exact ⟨fun _ => ⟨k1.mp c, k2.mp c2, k3.mp c3⟩, fun _ => by rw [o]; decide⟩
theorem line_1 {V : PV} {p0 p1 p2 q0 q1 q2 r r' : Int32} {G Ga Gb : GS} (hx : P_Wline_1 p0 p1 p2 G r Ga) (hm : Q_line q0 q1 q2 Ga r' Gb) (i0 : p0.toInt = q0.toInt) (i1 : p1.toInt = q1.toInt) (i2 : p2.toInt = q2.toInt) (hI : IV_1 V G) : r.toInt = r'.toInt ∧ IV_1 V Gb := by
  obtain rfl := Int32.toInt_inj.mp i0
  obtain rfl := Int32.toInt_inj.mp i1
  obtain rfl := Int32.toInt_inj.mp i2
  have hFx := hx.2.1
  have hFm := hm.2.1
  have m1 : (-1 : Int32).toInt = -1 := rfl
  have z0 : (0 : Int32).toInt = 0 := rfl
  have o1 : (1 : Int32).toInt = 1 := rfl
  have hII := hI
  obtain ⟨hW, hR, hV, hCa, hE, hSV⟩ := hI
  have hd := hE.day
  -- the program
  have hC : (¬ (inS V p0 ∧ inR V p1 ∧ inX V p0 p2) ∧ r.toInt = -1 ∧ CaC_1 V Ga) ∨ ((inS V p0 ∧ inR V p1 ∧ inX V p0 p2) ∧ (r.toInt = 0 ∨ r.toInt = 1) ∧ (r.toInt ≠ 0 ↔ LNx V (G.1 58 6) p0.toInt.toNat p1.toInt.toNat p2.toInt.toNat) ∧ CaC_1 V Ga) := by
    obtain ⟨-, -, r1, G2, hin, hh⟩ := hx
    obtain ⟨rfl, k1⟩ := k_hasInchV_1 hin hW
    rcases hh with ⟨c, rfl, rfl⟩ | ⟨c, r8, G9, hset, hh⟩
    · exact Or.inl ⟨fun q => absurd c (k1.mpr ⟨q.1, q.2.2⟩), m1, hCa⟩
    obtain ⟨rfl, k2⟩ := k_hasSetV_1 hset hW hV.1
    rcases hh with ⟨c2, rfl, rfl⟩ | ⟨c2, r15, G16, htd, G21, hfi, r25, G26, hil, hh⟩
    · exact Or.inl ⟨fun q => absurd c2 (k2.mpr q.2.1), m1, hCa⟩
    obtain ⟨rfl, e15⟩ := k_today_eq htd
    have hS := (k1.mp c).1
    have hX := (k1.mp c).2
    have hRr := k2.mp c2
    obtain ⟨hsl, hsn⟩ := hS.n
    obtain ⟨ht64, htn⟩ := hRr.lt hV.1
    obtain ⟨hFo, hCa2⟩ := k_find_1 hfi hsn hsl hR.1.2.1 hW hV (by rw [e15]; exact hd.1.1) hCa
    rw [e15] at hFo
    have hxn : p2.toInt = (p2.toInt.toNat : Int) := by have := hX.1; omega
    have hxl : p2.toInt.toNat < stl V p0.toInt.toNat := by have := hX.1; have := hX.2; omega
    obtain ⟨rfl, kl⟩ := k_isLine_1 hil hsn hsl hxn htn ht64 (hW.fr hfi.2.1 (by decide) (by decide)) hV hFo
    have kl' : r25.toInt ≠ 0 ↔ LNx V (G.1 58 6) p0.toInt.toNat p1.toInt.toNat p2.toInt.toNat := kl.trans ⟨fun q => q.2, fun q => ⟨hxl, q⟩⟩
    rcases hh with ⟨f, rfl, rfl⟩ | ⟨f, rfl, rfl⟩
    · exact Or.inr ⟨⟨hS, hRr, hX⟩, Or.inl z0, ⟨fun q => absurd z0 q, fun q => absurd f (kl'.mpr q)⟩, hCa2⟩
    · exact Or.inr ⟨⟨hS, hRr, hX⟩, Or.inr o1, ⟨fun _ => kl'.mp f, fun _ => by rw [o1]; decide⟩, hCa2⟩
  -- the reference
  have hRa : RV V Ga := hR.fr hFx (by decide) (by decide)
  have a110 : Ga.1 110 6 = G.1 58 6 := by rw [hFx.row1 110 (by decide) (by decide), hd.2]
  have hM : (¬ (inS V p0 ∧ inR V p1 ∧ inX V p0 p2) ∧ r'.toInt = -1) ∨ ((inS V p0 ∧ inR V p1 ∧ inX V p0 p2) ∧ (r'.toInt = 0 ∨ r'.toInt = 1) ∧ (r'.toInt ≠ 0 ↔ LNx V (G.1 58 6) p0.toInt.toNat p1.toInt.toNat p2.toInt.toNat)) := by
    obtain ⟨-, -, r1, G2, hs, hh⟩ := hm
    obtain ⟨rfl, k1⟩ := q_isStreetV hs hRa
    rcases hh with ⟨c, rfl, -⟩ | ⟨c, r8, G9, hr, hh⟩
    · exact Or.inl ⟨fun q => absurd c (k1.mpr q.1), m1⟩
    have hS := k1.mp c
    obtain ⟨rfl, k2⟩ := q_areRules_eq hr hRa
    rcases hh with ⟨c2, rfl, -⟩ | ⟨c2, r15, G16, hi, hh⟩
    · exact Or.inl ⟨fun q => absurd c2 (k2.mpr q.2.1), m1⟩
    obtain ⟨rfl, k3⟩ := q_isInchV hi hRa hS
    rcases hh with ⟨c3, rfl, -⟩ | ⟨c3, r23, G24, hil, r29, G30, htr, rfl, -⟩
    · exact Or.inl ⟨fun q => absurd c3 (k3.mpr q.2.2), m1⟩
    have hRr := k2.mp c2
    have hX := k3.mp c3
    obtain ⟨hsl, hsn⟩ := hS.n
    obtain ⟨ht64, htn⟩ := hRr.lt hV.1
    have hxn : p2.toInt = (p2.toInt.toNat : Int) := by have := hX.1; omega
    have hxl : p2.toInt.toNat < stl V p0.toInt.toNat := by have := hX.1; have := hX.2; omega
    obtain ⟨j1, j2, j3, j4⟩ := q_isLineS hil SmL.rf hsn hsl hxn hxl htn ht64 hRa hV (hW.ok hsl _ hxl)
    rw [a110] at j4
    rw [← (q_truth htr).2] at j3 j4
    exact Or.inr ⟨⟨hS, hRr, hX⟩, by clear j4; omega, j4⟩
  have hCaa : CaC_1 V Ga := by
    rcases hC with q | q
    · exact q.2.2
    · exact q.2.2.2
  refine ⟨?_, (hII.ca hFx hCaa (by decide) (by decide)).fr hFm (by decide) (by decide) (by decide)⟩
  rcases hC with ⟨n1, v1, -⟩ | ⟨y1, v1, w1, -⟩
  · rcases hM with ⟨n2, v2⟩ | ⟨y2, -⟩
    · rw [v1, v2]
    · exact absurd y2 n1
  · rcases hM with ⟨n2, -⟩ | ⟨y2, v2, w2⟩
    · exact absurd y1 n2
    · have w3 := w1.trans w2.symm
      clear w1 w2
      rcases v1 with e1 | e1 <;> rcases v2 with e2 | e2
      · omega
      · exact absurd e1 (w3.mpr (by omega))
      · exact absurd e2 (w3.mp (by omega))
      · omega
theorem gap_1 {V : PV} {p0 p1 p2 q0 q1 q2 r r' : Int32} {G Ga Gb : GS} (hx : P_Wgap_1 p0 p1 p2 G r Ga) (hm : Q_gap q0 q1 q2 Ga r' Gb) (i0 : p0.toInt = q0.toInt) (i1 : p1.toInt = q1.toInt) (i2 : p2.toInt = q2.toInt) (hI : IV_1 V G) : r.toInt = r'.toInt ∧ IV_1 V Gb := by
  obtain rfl := Int32.toInt_inj.mp i0
  obtain rfl := Int32.toInt_inj.mp i1
  obtain rfl := Int32.toInt_inj.mp i2
  have hFx := hx.2.1
  have hFm := hm.2.1
  have m1 : (-1 : Int32).toInt = -1 := rfl
  have z0 : (0 : Int32).toInt = 0 := rfl
  have o1 : (1 : Int32).toInt = 1 := rfl
  have hII := hI
  obtain ⟨hW, hR, hV, hCa, hE, hSV⟩ := hI
  have hd := hE.day
  have hRa : RV V Ga := hR.fr hFx (by decide) (by decide)
  have a110 : Ga.1 110 6 = G.1 58 6 := by rw [hFx.row1 110 (by decide) (by decide), hd.2]
  have hM := q_gap_eq hm hRa hV (fun s i hs hi => hW.ok hs i hi)
  rw [a110] at hM
  have hC : (¬ (inS V p0 ∧ inR V p1) ∧ r.toInt = -1 ∧ CaC_1 V Ga) ∨ ((inS V p0 ∧ inR V p1) ∧ r.toInt = (if p2.toInt = 0 then (gst (LNx V (G.1 58 6) p0.toInt.toNat p1.toInt.toNat) (stl V p0.toInt.toNat)).2.2.2 else if p2.toInt = 1 then (gst (LNx V (G.1 58 6) p0.toInt.toNat p1.toInt.toNat) (stl V p0.toInt.toNat)).2.2.1 else if p2.toInt = 2 then (gst (LNx V (G.1 58 6) p0.toInt.toNat p1.toInt.toNat) (stl V p0.toInt.toNat)).2.1 else -1) ∧ CaC_1 V Ga) := by
    clear hM hm
    obtain ⟨-, -, r1, G2, hst, hh⟩ := hx
    obtain ⟨rfl, k1⟩ := k_hasStreetV_1 hst hW
    rcases hh with ⟨c, rfl, rfl⟩ | ⟨c, r8, G9, hset, hh⟩
    · exact Or.inl ⟨fun q => absurd c (k1.mpr q.1), m1, hCa⟩
    obtain ⟨rfl, k2⟩ := k_hasSetV_1 hset hW hV.1
    rcases hh with ⟨c2, rfl, rfl⟩ | ⟨c2, r15, G16, htd, G21, hfi, x29, x30, x31, x32, x33, G25, hl, -, -, -, -, hF25, y41, e41, c41, hh⟩
    · exact Or.inl ⟨fun q => absurd c2 (k2.mpr q.2), m1, hCa⟩
    obtain ⟨rfl, e15⟩ := k_today_eq htd
    have hS := k1.mp c
    have hRr := k2.mp c2
    clear k1 k2 c c2
    obtain ⟨hsl, hsn⟩ := hS.n
    obtain ⟨ht64, htn⟩ := hRr.lt hV.1
    obtain ⟨hFo, hCa2⟩ := k_find_1 hfi hsn hsl hR.1.2.1 hW hV (by rw [e15]; exact hd.1.1) hCa
    rw [e15] at hFo
    have hW2 : CW_1 V G21 := hW.fr hfi.2.1 (by decide) (by decide)
    have hlen := hW2.len hS
    have hl4 : (stl V p0.toInt.toNat : Int) ≤ 400 := (hW.1.2 p0.toInt.toNat hsl).2
    have e25 := hF25.nil
    subst e25
    obtain ⟨s, es⟩ : ∃ s, s = p0.toInt.toNat := ⟨_, rfl⟩
    obtain ⟨t, et⟩ : ∃ t, t = p1.toInt.toNat := ⟨_, rfl⟩
    rw [← es] at hsl hsn hFo hlen hl4 ⊢
    rw [← et] at ht64 htn ⊢
    obtain ⟨L, hL⟩ : ∃ L, L = LNx V (G.1 58 6) s t := ⟨_, rfl⟩
    rw [← hL]
    have hI := hl (fun q => q.2.2.2.2.2 = G21 ∧ ∃ k : Nat, k ≤ stl V s ∧ q.1.toInt = (k : Int) ∧ q.2.1.toInt = (gst L k).1 ∧ q.2.2.1.toInt = (gst L k).2.1 ∧ q.2.2.2.1.toInt = (gst L k).2.2.1 ∧ q.2.2.2.2.1.toInt = (gst L k).2.2.2) ⟨rfl, 0, Nat.zero_le _, rfl, rfl, rfl, rfl, rfl⟩ (by
      rintro ⟨a1, a2, a3, a4, a5, b0⟩ ⟨n1, n2, n3, n4, n5, bn⟩ ⟨hb, k, i0, i1, i2, i3, i4, i5⟩ ⟨x1, x2, x3, x4, x5, g, u1, u2, u3, u4, u5, gn, q1, q2, -, -, -, -, y41', e41', c41', r46, G47, hil, w61, G63, hj, -, -, hF63, y68, e68, hd'⟩
      simp only [Prod.mk.injEq] at q1 q2
      obtain ⟨rfl, rfl, rfl, rfl, rfl, rfl⟩ := q1
      obtain ⟨rfl, rfl, rfl, rfl, rfl, rfl⟩ := q2
      simp only at hb i1 i2 i3 i4 i5
      subst hb
      have t41 : y41'.toInt = (stl V s : Int) := by rw [e41']; exact hlen
      have hk : k < stl V s := by omega
      obtain ⟨rfl, kl⟩ := k_isLine_1 hil hsn hsl i1 htn ht64 hW2 hV hFo
      have e63 := hF63.nil
      subst e63
      obtain ⟨g1, g2, g3, g4, g5⟩ := gst_r L k
      have hLk : r46.toInt ≠ 0 ↔ L k := by rw [hL]; exact kl.trans ⟨fun q => q.2, fun q => ⟨hk, q⟩⟩
      clear kl
      have hw : w61.toInt = (if r46.toInt = 0 then 0 else 1) := by
        rcases hj with ⟨f, ew, -⟩ | ⟨f, ew, -⟩
        · rw [if_pos f, ← ew]
          rfl
        · rw [if_neg f, ← ew]
          rfl
      rcases hd' with ⟨f, y70, e70, hd'⟩ | ⟨f, y79, t79, ex, e2, e3, e4, e5, eG⟩
      · have hn : ¬ L k := fun q => (hLk.mpr q) f
        clear hLk
        rw [if_pos f] at hw
        have t68 : y68.toInt = (gst L k).2.1 := by
          have := tI_add e68 (by omega) (by omega)
          omega
        have t70 : y70.toInt = (gst L k).1 + 1 := by
          have := tI_add e70 (by rw [o1]; omega) (by rw [o1]; omega)
          rw [o1] at this
          omega
        rcases hd' with ⟨f2, y72, t72, ex, e2, e3, e4, e5, eG⟩ | ⟨f2, y73, t73, y75, t75, y77, t77, ex, e2, e3, e4, e5, eG⟩
        · refine ⟨eG.symm, k + 1, by omega, by show n1.toInt = _; rw [← ex]; omega, ?_⟩
          show n2.toInt = _ ∧ n3.toInt = _ ∧ n4.toInt = _ ∧ n5.toInt = _
          rw [← e2, ← e3, ← e4, ← e5, gst_N hn, if_neg (by omega)]
          try dsimp only
          exact ⟨t70, t68, i4, i5⟩
        · refine ⟨eG.symm, k + 1, by omega, by show n1.toInt = _; rw [← ex]; omega, ?_⟩
          show n2.toInt = _ ∧ n3.toInt = _ ∧ n4.toInt = _ ∧ n5.toInt = _
          rw [← e2, ← e3, ← e4, ← e5, gst_N hn, if_pos (by omega)]
          try dsimp only
          exact ⟨t70, t68, by show y75.toInt = (k : Int) - ((gst L k).1 + 1) + 1; omega, t70⟩
      · have hy : L k := hLk.mp f
        clear hLk
        rw [if_neg f] at hw
        have t68 : y68.toInt = (gst L k).2.1 + 1 := by
          have := tI_add e68 (by omega) (by omega)
          omega
        refine ⟨eG.symm, k + 1, by omega, by show n1.toInt = _; rw [← ex]; omega, ?_⟩
        show n2.toInt = _ ∧ n3.toInt = _ ∧ n4.toInt = _ ∧ n5.toInt = _
        rw [← e2, ← e3, ← e4, ← e5, gst_L hy]
        try dsimp only
        exact ⟨rfl, t68, i4, i5⟩)
    obtain ⟨-, k, i0, i1, i2, i3, i4, i5⟩ := hI
    simp only at i1 i2 i3 i4 i5
    have t41 : y41.toInt = (stl V s : Int) := by rw [e41]; exact hlen
    have hk : k = stl V s := by clear hh; omega
    subst hk
    rcases hh with ⟨f, rfl, rfl⟩ | ⟨f, ⟨g, rfl, rfl⟩ | ⟨g, ⟨j, rfl, rfl⟩ | ⟨j, rfl, rfl⟩⟩⟩
    · rw [if_pos f]
      exact Or.inr ⟨⟨hS, hRr⟩, i5, hCa2⟩
    · rw [if_neg f, if_pos g]
      exact Or.inr ⟨⟨hS, hRr⟩, i4, hCa2⟩
    · rw [if_neg f, if_neg g, if_pos j]
      exact Or.inr ⟨⟨hS, hRr⟩, i3, hCa2⟩
    · rw [if_neg f, if_neg g, if_neg j]
      exact Or.inr ⟨⟨hS, hRr⟩, m1, hCa2⟩
  have hCaa : CaC_1 V Ga := by
    rcases hC with q | q
    · exact q.2.2
    · exact q.2.2
  refine ⟨?_, (hII.ca hFx hCaa (by decide) (by decide)).fr hFm (by decide) (by decide) (by decide)⟩
  rcases hC with ⟨n1, v1, -⟩ | ⟨y1, v1, -⟩
  · rcases hM with ⟨n2, v2⟩ | ⟨y2, -⟩
    · rw [v1, v2]
    · exact absurd ⟨y2.1, y2.2.1⟩ n1
  · rcases hM with ⟨n2, v2⟩ | ⟨y2, v2⟩
    · rw [v1, v2]
      by_cases h0 : p2.toInt = 0
      · exact absurd ⟨y1.1, y1.2, by omega, by omega⟩ n2
      · rw [if_neg h0]
        by_cases h1 : p2.toInt = 1
        · exact absurd ⟨y1.1, y1.2, by omega, by omega⟩ n2
        · rw [if_neg h1]
          by_cases h2 : p2.toInt = 2
          · exact absurd ⟨y1.1, y1.2, by omega, by omega⟩ n2
          · rw [if_neg h2]
    · rw [v1, v2]
      by_cases h0 : p2.toInt = 0
      · rw [if_pos h0, if_pos h0]
      · rw [if_neg h0, if_neg h0]
        by_cases h1 : p2.toInt = 1
        · rw [if_pos h1, if_pos h1]
        · have h2 : p2.toInt = 2 := by have := y2.2.2; omega
          rw [if_neg h1, if_neg h1, if_pos h2]
theorem foot_1 {V : PV} {p0 p1 p2 p3 q0 q1 q2 q3 r r' : Int32} {G Ga Gb : GS} (hx : P_Wfoot_1 p0 p1 p2 p3 G r Ga) (hm : Q_foot q0 q1 q2 q3 Ga r' Gb) (i0 : p0.toInt = q0.toInt) (i1 : p1.toInt = q1.toInt) (i2 : p2.toInt = q2.toInt) (i3 : p3.toInt = q3.toInt) (hI : IV_1 V G) : r.toInt = r'.toInt ∧ IV_1 V Gb := by
  obtain rfl := Int32.toInt_inj.mp i0
  obtain rfl := Int32.toInt_inj.mp i1
  obtain rfl := Int32.toInt_inj.mp i2
  obtain rfl := Int32.toInt_inj.mp i3
  have hFx := hx.2.1
  have hFm := hm.2.1
  have m1 : (-1 : Int32).toInt = -1 := rfl
  have z0 : (0 : Int32).toInt = 0 := rfl
  have o1 : (1 : Int32).toInt = 1 := rfl
  have hII := hI
  obtain ⟨hW, hR, hV, hCa, hE, hSV⟩ := hI
  have hd := hE.day
  have hC : (¬ ((inW V p0 ∧ inS V p1 ∧ inR V p2) ∧ inX V p1 p3) ∧ r.toInt = -1 ∧ CaC_1 V Ga) ∨ (((inW V p0 ∧ inS V p1 ∧ inR V p2) ∧ inX V p1 p3) ∧ (r.toInt = 0 ∨ r.toInt = 1) ∧ (r.toInt ≠ 0 ↔ LWF V (G.1 58 6) p0.toInt.toNat p1.toInt.toNat p2.toInt.toNat p3.toInt) ∧ CaC_1 V Ga) := by
    obtain ⟨-, -, r1, G2, hask, hh⟩ := hx
    obtain ⟨rfl, k1⟩ := k_wAsk_1_eq hask hW hV.1
    rcases hh with ⟨c, rfl, rfl⟩ | ⟨c, r8, G9, hin, hh⟩
    · exact Or.inl ⟨fun q => absurd c (k1.mpr q.1), m1, hCa⟩
    have hA := k1.mp c
    obtain ⟨rfl, k2⟩ := k_hasInchV_1 hin hW
    rcases hh with ⟨c2, rfl, rfl⟩ | ⟨c2, r15, G16, htd, G21, hfi, r25, G26, hil, hh⟩
    · exact Or.inl ⟨fun q => absurd c2 (k2.mpr ⟨q.1.2.1, q.2⟩), m1, hCa⟩
    obtain ⟨rfl, e15⟩ := k_today_eq htd
    have hX := (k2.mp c2).2
    obtain ⟨hwl, hwn⟩ := hA.1.n
    obtain ⟨hsl, hsn⟩ := hA.2.1.n
    obtain ⟨ht64, htn⟩ := hA.2.2.lt hV.1
    obtain ⟨hFo, hCa2⟩ := k_find_1 hfi hsn hsl hR.1.2.1 hW hV (by rw [e15]; exact hd.1.1) hCa
    rw [e15] at hFo
    obtain ⟨rfl, kl⟩ := k_isLawful_1 hil hwn hwl hsn hsl htn ht64 (hW.fr hfi.2.1 (by decide) (by decide)) hV hFo
    rcases hh with ⟨f, rfl, rfl⟩ | ⟨f, rfl, rfl⟩
    · exact Or.inr ⟨⟨hA, hX⟩, Or.inl z0, ⟨fun q => absurd z0 q, fun q => absurd f (kl.mpr q)⟩, hCa2⟩
    · exact Or.inr ⟨⟨hA, hX⟩, Or.inr o1, ⟨fun _ => kl.mp f, fun _ => by rw [o1]; decide⟩, hCa2⟩
  have hRa : RV V Ga := hR.fr hFx (by decide) (by decide)
  have a110 : Ga.1 110 6 = G.1 58 6 := by rw [hFx.row1 110 (by decide) (by decide), hd.2]
  have hM : (¬ ((inW V p0 ∧ inS V p1 ∧ inR V p2) ∧ inX V p1 p3) ∧ r'.toInt = -1) ∨ (((inW V p0 ∧ inS V p1 ∧ inR V p2) ∧ inX V p1 p3) ∧ (r'.toInt = 0 ∨ r'.toInt = 1) ∧ (r'.toInt ≠ 0 ↔ LWF V (G.1 58 6) p0.toInt.toNat p1.toInt.toNat p2.toInt.toNat p3.toInt)) := by
    obtain ⟨-, -, r1, G2, hask, hh⟩ := hm
    obtain ⟨rfl, k1⟩ := q_isAsked_eq hask hRa
    rcases hh with ⟨c, rfl, -⟩ | ⟨c, r8, G9, hin, hh⟩
    · exact Or.inl ⟨fun q => absurd c (k1.mpr q.1), m1⟩
    have hA := k1.mp c
    obtain ⟨rfl, k2⟩ := q_isInchV hin hRa hA.2.1
    rcases hh with ⟨c2, rfl, -⟩ | ⟨c2, G17, hlay, y21, e21, r22, G23, htr, rfl, -⟩
    · exact Or.inl ⟨fun q => absurd c2 (k2.mpr q.2), m1⟩
    have hX := k2.mp c2
    obtain ⟨hwl, hwn⟩ := hA.1.n
    obtain ⟨hsl, hsn⟩ := hA.2.1.n
    obtain ⟨ht64, htn⟩ := hA.2.2.lt hV.1
    obtain ⟨-, hlw⟩ := m_lay hlay hwn hwl hsn hsl htn ht64 hRa hV (hW.ok hsl)
    have hl4 : (stl V p1.toInt.toNat : Int) ≤ 400 := (hW.1.2 p1.toInt.toNat hsl).2
    have hxn : p3.toInt = (p3.toInt.toNat : Int) := by have := hX.1; omega
    obtain ⟨v1, v2⟩ := hlw p3.toInt.toNat (by have := hX.1; have := hX.2; omega)
    rw [a110, ← hxn] at v2
    have e : y21 = G17.1 98 p3.toInt.toNat := e21
    rw [← e, ← (q_truth htr).2] at v1 v2
    exact Or.inr ⟨⟨hA, hX⟩, v1, v2⟩
  have hCaa : CaC_1 V Ga := by
    rcases hC with q | q
    · exact q.2.2
    · exact q.2.2.2
  refine ⟨?_, (hII.ca hFx hCaa (by decide) (by decide)).fr hFm (by decide) (by decide) (by decide)⟩
  rcases hC with ⟨n1, v1, -⟩ | ⟨y1, v1, w1, -⟩
  · rcases hM with ⟨n2, v2⟩ | ⟨y2, -⟩
    · rw [v1, v2]
    · exact absurd y2 n1
  · rcases hM with ⟨n2, -⟩ | ⟨y2, v2, w2⟩
    · exact absurd y1 n2
    · have w3 := w1.trans w2.symm
      clear w1 w2
      rcases v1 with e1 | e1 <;> rcases v2 with e2 | e2
      · omega
      · exact absurd e1 (w3.mpr (by omega))
      · exact absurd e2 (w3.mp (by omega))
      · omega
/-- all that both hold alike -/
def IV_2 (V : PV) (G : GS) : Prop := CW_2 V G ∧ RV V G ∧ PVok V ∧ CaC_2 V G ∧ ER V G ∧ SV V G
theorem IV_2.ca {V : PV} {rs : List Nat} {fs : List (Nat × Nat)} {G G1 : GS} (h : IV_2 V G) (hF : Fr rs fs G G1) (hCa : CaC_2 V G1) (h1 : (∀ i ∈ [20, 21, 22, 23, 24, 25, 26, 27, 28], i ∉ rs ∧ ∀ x ∈ fs, x.1 ≠ i) ∧ (∀ i ∈ [72, 73, 74, 87, 88, 89, 90, 91, 92, 93, 94, 95, 96], i ∉ rs ∧ ∀ x ∈ fs, x.1 ≠ i) ∧ (∀ i ∈ [58, 59, 60, 110, 111, 117, 118], i ∉ rs ∧ ∀ x ∈ fs, x.1 ≠ i) ∧ ∀ i ∈ [61, 62, 63, 64, 65, 112, 113, 114, 115, 116], i ∉ rs ∧ ∀ x ∈ fs, x.1 ≠ i) (h2 : (∀ y ∈ [(2, 9), (2, 10), (2, 11), (2, 12), (2, 13), (2, 14), (2, 15), (2, 16)], y.1 ∉ rs ∧ y ∉ fs) ∧ (∀ y ∈ [(66, 22), (66, 52), (66, 53), (66, 54), (66, 55), (66, 56)], y.1 ∉ rs ∧ y ∉ fs) ∧ (∀ y ∈ [(30, 3), (30, 4), (30, 5), (66, 78), (66, 79)], y.1 ∉ rs ∧ y ∉ fs) ∧ ∀ y ∈ [(31, 5), (66, 85)], y.1 ∉ rs ∧ y ∉ fs) : IV_2 V G1 := by
  obtain ⟨a, b, c, d, e, f⟩ := h
  exact ⟨a.fr hF h1.1 h2.1, b.fr hF h1.2.1 h2.2.1, c, hCa, e.fr hF h1.2.2.1 h2.2.2.1, f.fr hF h1.2.2.2 h2.2.2.2⟩
theorem IV_2.fr {V : PV} {rs : List Nat} {fs : List (Nat × Nat)} {G G1 : GS} (h : IV_2 V G) (hF : Fr rs fs G G1) (h0 : ∀ i ∈ [37, 38], i ∉ rs ∧ ∀ x ∈ fs, x.1 ≠ i) (h1 : (∀ i ∈ [20, 21, 22, 23, 24, 25, 26, 27, 28], i ∉ rs ∧ ∀ x ∈ fs, x.1 ≠ i) ∧ (∀ i ∈ [72, 73, 74, 87, 88, 89, 90, 91, 92, 93, 94, 95, 96], i ∉ rs ∧ ∀ x ∈ fs, x.1 ≠ i) ∧ (∀ i ∈ [58, 59, 60, 110, 111, 117, 118], i ∉ rs ∧ ∀ x ∈ fs, x.1 ≠ i) ∧ ∀ i ∈ [61, 62, 63, 64, 65, 112, 113, 114, 115, 116], i ∉ rs ∧ ∀ x ∈ fs, x.1 ≠ i) (h2 : (∀ y ∈ [(2, 9), (2, 10), (2, 11), (2, 12), (2, 13), (2, 14), (2, 15), (2, 16)], y.1 ∉ rs ∧ y ∉ fs) ∧ (∀ y ∈ [(66, 22), (66, 52), (66, 53), (66, 54), (66, 55), (66, 56)], y.1 ∉ rs ∧ y ∉ fs) ∧ (∀ y ∈ [(30, 3), (30, 4), (30, 5), (66, 78), (66, 79)], y.1 ∉ rs ∧ y ∉ fs) ∧ ∀ y ∈ [(31, 5), (66, 85)], y.1 ∉ rs ∧ y ∉ fs) : IV_2 V G1 := h.ca hF (h.2.2.2.1.fr (hF.rows h0 (i := 37) (by decide)) (hF.rows h0 (i := 38) (by decide))) h1 h2
theorem CW_2.len {V : PV} {G : GS} {p : Int32} (h : CW_2 V G) (hp : inS V p) : (G.1 20 p.toNatClampNeg).toInt = (stl V p.toInt.toNat : Int) := (h.1.2 p.toInt.toNat hp.n.1).1.1
theorem k_hasStreetV_2 {V : PV} {p0 r : Int32} {G G1 : GS} (h : P_hasStreet_2 p0 G r G1) (hW : CW_2 V G) : G = G1 ∧ (r.toInt ≠ 0 ↔ inS V p0) := by
  obtain ⟨e, k⟩ := k_hasStreet_2_eq h
  rw [hW.1.1] at k
  exact ⟨e, k⟩
theorem k_hasWalkerV_2 {V : PV} {p0 r : Int32} {G G1 : GS} (h : P_hasWalker_2 p0 G r G1) (hW : CW_2 V G) : G = G1 ∧ (r.toInt ≠ 0 ↔ inW V p0) := by
  obtain ⟨e, k⟩ := k_hasWalker_2_eq h
  rw [hW.2.1.1] at k
  exact ⟨e, k⟩
theorem k_hasInchV_2 {V : PV} {p0 p1 r : Int32} {G G1 : GS} (h : P_hasInch_2 p0 p1 G r G1) (hW : CW_2 V G) : G = G1 ∧ (r.toInt ≠ 0 ↔ (inS V p0 ∧ inX V p0 p1)) := by
  obtain ⟨e, k⟩ := k_hasInch_2_eq h
  rw [hW.1.1] at k
  refine ⟨e, k.trans ⟨fun q => ⟨q.1, q.2.1, ?_⟩, fun q => ⟨q.1, q.2.1, ?_⟩⟩⟩
  · have := hW.len (p := p0) q.1
    rw [← this]
    exact q.2.2
  · have := hW.len (p := p0) q.1
    rw [this]
    exact q.2.2
theorem k_hasSetV_2 {V : PV} {p0 r : Int32} {G G1 : GS} (h : P_hasSet_2 p0 G r G1) (hW : CW_2 V G) (h6 : V.2.2.1.length ≤ 6) : G = G1 ∧ (r.toInt ≠ 0 ↔ inR V p0) := by
  obtain ⟨-, hF, -, -, hh⟩ := h
  have z : (0 : Int32).toInt = 0 := rfl
  have o : (1 : Int32).toInt = 1 := rfl
  refine ⟨hF.nil, ?_⟩
  unfold inR
  rcases hh with ⟨c, rfl, -⟩ | ⟨c, y3, e3, hh⟩
  · exact ⟨fun q => absurd z q, fun q => absurd q.1 (by omega)⟩
  have t3 : y3.toInt = ((2 ^ V.2.2.1.length : Nat) : Int) := by
    rw [e3]
    exact sh_n hW.2.2.1.1 h6
  rw [← t3]
  rcases hh with ⟨d, rfl, -⟩ | ⟨d, rfl, -⟩
  · exact ⟨fun q => absurd z q, fun q => absurd q.2 (by omega)⟩
  · exact ⟨fun _ => ⟨c, d⟩, fun _ => by rw [o]; decide⟩
theorem k_wAsk_2_eq {V : PV} {p0 p1 p2 r : Int32} {G G1 : GS} (h : P_wAsk_2 p0 p1 p2 G r G1) (hW : CW_2 V G) (h6 : V.2.2.1.length ≤ 6) : G = G1 ∧ (r.toInt ≠ 0 ↔ (inW V p0 ∧ inS V p1 ∧ inR V p2)) := by
  obtain ⟨-, hF, -, -, r1, G2, hw, hh⟩ := h
  have z : (0 : Int32).toInt = 0 := rfl
  have o : (1 : Int32).toInt = 1 := rfl
  refine ⟨hF.nil, ?_⟩
  obtain ⟨rfl, k1⟩ := k_hasWalkerV_2 hw hW
  rcases hh with ⟨c, rfl, -⟩ | ⟨c, r10, G11, hs, hh⟩
  · exact ⟨fun q => absurd z q, fun q => absurd c (k1.mpr q.1)⟩
  obtain ⟨rfl, k2⟩ := k_hasStreetV_2 hs hW
  rcases hh with ⟨c2, rfl, -⟩ | ⟨c2, r17, G18, hr, hh⟩
  · exact ⟨fun q => absurd z q, fun q => absurd c2 (k2.mpr q.2.1)⟩
  obtain ⟨rfl, k3⟩ := k_hasSetV_2 hr hW h6
  rcases hh with ⟨c3, rfl, -⟩ | ⟨c3, rfl, -⟩
  · exact ⟨fun q => absurd z q, fun q => absurd c3 (k3.mpr q.2.2)⟩
  · exact ⟨fun _ => ⟨k1.mp c, k2.mp c2, k3.mp c3⟩, fun _ => by rw [o]; decide⟩
theorem line_2 {V : PV} {p0 p1 p2 q0 q1 q2 r r' : Int32} {G Ga Gb : GS} (hx : P_Wline_2 p0 p1 p2 G r Ga) (hm : Q_line q0 q1 q2 Ga r' Gb) (i0 : p0.toInt = q0.toInt) (i1 : p1.toInt = q1.toInt) (i2 : p2.toInt = q2.toInt) (hI : IV_2 V G) : r.toInt = r'.toInt ∧ IV_2 V Gb := by
  obtain rfl := Int32.toInt_inj.mp i0
  obtain rfl := Int32.toInt_inj.mp i1
  obtain rfl := Int32.toInt_inj.mp i2
  have hFx := hx.2.1
  have hFm := hm.2.1
  have m1 : (-1 : Int32).toInt = -1 := rfl
  have z0 : (0 : Int32).toInt = 0 := rfl
  have o1 : (1 : Int32).toInt = 1 := rfl
  have hII := hI
  obtain ⟨hW, hR, hV, hCa, hE, hSV⟩ := hI
  have hd := hE.day
  -- the program
  have hC : (¬ (inS V p0 ∧ inR V p1 ∧ inX V p0 p2) ∧ r.toInt = -1 ∧ CaC_2 V Ga) ∨ ((inS V p0 ∧ inR V p1 ∧ inX V p0 p2) ∧ (r.toInt = 0 ∨ r.toInt = 1) ∧ (r.toInt ≠ 0 ↔ LNx V (G.1 58 6) p0.toInt.toNat p1.toInt.toNat p2.toInt.toNat) ∧ CaC_2 V Ga) := by
    obtain ⟨-, -, r1, G2, hin, hh⟩ := hx
    obtain ⟨rfl, k1⟩ := k_hasInchV_2 hin hW
    rcases hh with ⟨c, rfl, rfl⟩ | ⟨c, r8, G9, hset, hh⟩
    · exact Or.inl ⟨fun q => absurd c (k1.mpr ⟨q.1, q.2.2⟩), m1, hCa⟩
    obtain ⟨rfl, k2⟩ := k_hasSetV_2 hset hW hV.1
    rcases hh with ⟨c2, rfl, rfl⟩ | ⟨c2, r15, G16, htd, G21, hfi, r25, G26, hil, hh⟩
    · exact Or.inl ⟨fun q => absurd c2 (k2.mpr q.2.1), m1, hCa⟩
    obtain ⟨rfl, e15⟩ := k_today_eq htd
    have hS := (k1.mp c).1
    have hX := (k1.mp c).2
    have hRr := k2.mp c2
    obtain ⟨hsl, hsn⟩ := hS.n
    obtain ⟨ht64, htn⟩ := hRr.lt hV.1
    obtain ⟨hFo, hCa2⟩ := k_find_2 hfi hsn hsl hR.1.2.1 hW hV (by rw [e15]; exact hd.1.1) hCa
    rw [e15] at hFo
    have hxn : p2.toInt = (p2.toInt.toNat : Int) := by have := hX.1; omega
    have hxl : p2.toInt.toNat < stl V p0.toInt.toNat := by have := hX.1; have := hX.2; omega
    obtain ⟨rfl, kl⟩ := k_isLine_2 hil hsn hsl hxn htn ht64 (hW.fr hfi.2.1 (by decide) (by decide)) hV hFo
    have kl' : r25.toInt ≠ 0 ↔ LNx V (G.1 58 6) p0.toInt.toNat p1.toInt.toNat p2.toInt.toNat := kl.trans ⟨fun q => q.2, fun q => ⟨hxl, q⟩⟩
    rcases hh with ⟨f, rfl, rfl⟩ | ⟨f, rfl, rfl⟩
    · exact Or.inr ⟨⟨hS, hRr, hX⟩, Or.inl z0, ⟨fun q => absurd z0 q, fun q => absurd f (kl'.mpr q)⟩, hCa2⟩
    · exact Or.inr ⟨⟨hS, hRr, hX⟩, Or.inr o1, ⟨fun _ => kl'.mp f, fun _ => by rw [o1]; decide⟩, hCa2⟩
  -- the reference
  have hRa : RV V Ga := hR.fr hFx (by decide) (by decide)
  have a110 : Ga.1 110 6 = G.1 58 6 := by rw [hFx.row1 110 (by decide) (by decide), hd.2]
  have hM : (¬ (inS V p0 ∧ inR V p1 ∧ inX V p0 p2) ∧ r'.toInt = -1) ∨ ((inS V p0 ∧ inR V p1 ∧ inX V p0 p2) ∧ (r'.toInt = 0 ∨ r'.toInt = 1) ∧ (r'.toInt ≠ 0 ↔ LNx V (G.1 58 6) p0.toInt.toNat p1.toInt.toNat p2.toInt.toNat)) := by
    obtain ⟨-, -, r1, G2, hs, hh⟩ := hm
    obtain ⟨rfl, k1⟩ := q_isStreetV hs hRa
    rcases hh with ⟨c, rfl, -⟩ | ⟨c, r8, G9, hr, hh⟩
    · exact Or.inl ⟨fun q => absurd c (k1.mpr q.1), m1⟩
    have hS := k1.mp c
    obtain ⟨rfl, k2⟩ := q_areRules_eq hr hRa
    rcases hh with ⟨c2, rfl, -⟩ | ⟨c2, r15, G16, hi, hh⟩
    · exact Or.inl ⟨fun q => absurd c2 (k2.mpr q.2.1), m1⟩
    obtain ⟨rfl, k3⟩ := q_isInchV hi hRa hS
    rcases hh with ⟨c3, rfl, -⟩ | ⟨c3, r23, G24, hil, r29, G30, htr, rfl, -⟩
    · exact Or.inl ⟨fun q => absurd c3 (k3.mpr q.2.2), m1⟩
    have hRr := k2.mp c2
    have hX := k3.mp c3
    obtain ⟨hsl, hsn⟩ := hS.n
    obtain ⟨ht64, htn⟩ := hRr.lt hV.1
    have hxn : p2.toInt = (p2.toInt.toNat : Int) := by have := hX.1; omega
    have hxl : p2.toInt.toNat < stl V p0.toInt.toNat := by have := hX.1; have := hX.2; omega
    obtain ⟨j1, j2, j3, j4⟩ := q_isLineS hil SmL.rf hsn hsl hxn hxl htn ht64 hRa hV (hW.ok hsl _ hxl)
    rw [a110] at j4
    rw [← (q_truth htr).2] at j3 j4
    exact Or.inr ⟨⟨hS, hRr, hX⟩, by clear j4; omega, j4⟩
  have hCaa : CaC_2 V Ga := by
    rcases hC with q | q
    · exact q.2.2
    · exact q.2.2.2
  refine ⟨?_, (hII.ca hFx hCaa (by decide) (by decide)).fr hFm (by decide) (by decide) (by decide)⟩
  rcases hC with ⟨n1, v1, -⟩ | ⟨y1, v1, w1, -⟩
  · rcases hM with ⟨n2, v2⟩ | ⟨y2, -⟩
    · rw [v1, v2]
    · exact absurd y2 n1
  · rcases hM with ⟨n2, -⟩ | ⟨y2, v2, w2⟩
    · exact absurd y1 n2
    · have w3 := w1.trans w2.symm
      clear w1 w2
      rcases v1 with e1 | e1 <;> rcases v2 with e2 | e2
      · omega
      · exact absurd e1 (w3.mpr (by omega))
      · exact absurd e2 (w3.mp (by omega))
      · omega
theorem gap_2 {V : PV} {p0 p1 p2 q0 q1 q2 r r' : Int32} {G Ga Gb : GS} (hx : P_Wgap_2 p0 p1 p2 G r Ga) (hm : Q_gap q0 q1 q2 Ga r' Gb) (i0 : p0.toInt = q0.toInt) (i1 : p1.toInt = q1.toInt) (i2 : p2.toInt = q2.toInt) (hI : IV_2 V G) : r.toInt = r'.toInt ∧ IV_2 V Gb := by
  obtain rfl := Int32.toInt_inj.mp i0
  obtain rfl := Int32.toInt_inj.mp i1
  obtain rfl := Int32.toInt_inj.mp i2
  have hFx := hx.2.1
  have hFm := hm.2.1
  have m1 : (-1 : Int32).toInt = -1 := rfl
  have z0 : (0 : Int32).toInt = 0 := rfl
  have o1 : (1 : Int32).toInt = 1 := rfl
  have hII := hI
  obtain ⟨hW, hR, hV, hCa, hE, hSV⟩ := hI
  have hd := hE.day
  have hRa : RV V Ga := hR.fr hFx (by decide) (by decide)
  have a110 : Ga.1 110 6 = G.1 58 6 := by rw [hFx.row1 110 (by decide) (by decide), hd.2]
  have hM := q_gap_eq hm hRa hV (fun s i hs hi => hW.ok hs i hi)
  rw [a110] at hM
  have hC : (¬ (inS V p0 ∧ inR V p1) ∧ r.toInt = -1 ∧ CaC_2 V Ga) ∨ ((inS V p0 ∧ inR V p1) ∧ r.toInt = (if p2.toInt = 0 then (gst (LNx V (G.1 58 6) p0.toInt.toNat p1.toInt.toNat) (stl V p0.toInt.toNat)).2.2.2 else if p2.toInt = 1 then (gst (LNx V (G.1 58 6) p0.toInt.toNat p1.toInt.toNat) (stl V p0.toInt.toNat)).2.2.1 else if p2.toInt = 2 then (gst (LNx V (G.1 58 6) p0.toInt.toNat p1.toInt.toNat) (stl V p0.toInt.toNat)).2.1 else -1) ∧ CaC_2 V Ga) := by
    clear hM hm
    obtain ⟨-, -, r1, G2, hst, hh⟩ := hx
    obtain ⟨rfl, k1⟩ := k_hasStreetV_2 hst hW
    rcases hh with ⟨c, rfl, rfl⟩ | ⟨c, r8, G9, hset, hh⟩
    · exact Or.inl ⟨fun q => absurd c (k1.mpr q.1), m1, hCa⟩
    obtain ⟨rfl, k2⟩ := k_hasSetV_2 hset hW hV.1
    rcases hh with ⟨c2, rfl, rfl⟩ | ⟨c2, r15, G16, htd, G21, hfi, x29, x30, x31, x32, x33, G25, hl, -, -, -, -, hF25, y41, e41, c41, hh⟩
    · exact Or.inl ⟨fun q => absurd c2 (k2.mpr q.2), m1, hCa⟩
    obtain ⟨rfl, e15⟩ := k_today_eq htd
    have hS := k1.mp c
    have hRr := k2.mp c2
    clear k1 k2 c c2
    obtain ⟨hsl, hsn⟩ := hS.n
    obtain ⟨ht64, htn⟩ := hRr.lt hV.1
    obtain ⟨hFo, hCa2⟩ := k_find_2 hfi hsn hsl hR.1.2.1 hW hV (by rw [e15]; exact hd.1.1) hCa
    rw [e15] at hFo
    have hW2 : CW_2 V G21 := hW.fr hfi.2.1 (by decide) (by decide)
    have hlen := hW2.len hS
    have hl4 : (stl V p0.toInt.toNat : Int) ≤ 400 := (hW.1.2 p0.toInt.toNat hsl).2
    have e25 := hF25.nil
    subst e25
    obtain ⟨s, es⟩ : ∃ s, s = p0.toInt.toNat := ⟨_, rfl⟩
    obtain ⟨t, et⟩ : ∃ t, t = p1.toInt.toNat := ⟨_, rfl⟩
    rw [← es] at hsl hsn hFo hlen hl4 ⊢
    rw [← et] at ht64 htn ⊢
    obtain ⟨L, hL⟩ : ∃ L, L = LNx V (G.1 58 6) s t := ⟨_, rfl⟩
    rw [← hL]
    have hI := hl (fun q => q.2.2.2.2.2 = G21 ∧ ∃ k : Nat, k ≤ stl V s ∧ q.1.toInt = (k : Int) ∧ q.2.1.toInt = (gst L k).1 ∧ q.2.2.1.toInt = (gst L k).2.1 ∧ q.2.2.2.1.toInt = (gst L k).2.2.1 ∧ q.2.2.2.2.1.toInt = (gst L k).2.2.2) ⟨rfl, 0, Nat.zero_le _, rfl, rfl, rfl, rfl, rfl⟩ (by
      rintro ⟨a1, a2, a3, a4, a5, b0⟩ ⟨n1, n2, n3, n4, n5, bn⟩ ⟨hb, k, i0, i1, i2, i3, i4, i5⟩ ⟨x1, x2, x3, x4, x5, g, u1, u2, u3, u4, u5, gn, q1, q2, -, -, -, -, y41', e41', c41', r46, G47, hil, w61, G63, hj, -, -, hF63, y68, e68, hd'⟩
      simp only [Prod.mk.injEq] at q1 q2
      obtain ⟨rfl, rfl, rfl, rfl, rfl, rfl⟩ := q1
      obtain ⟨rfl, rfl, rfl, rfl, rfl, rfl⟩ := q2
      simp only at hb i1 i2 i3 i4 i5
      subst hb
      have t41 : y41'.toInt = (stl V s : Int) := by rw [e41']; exact hlen
      have hk : k < stl V s := by omega
      obtain ⟨rfl, kl⟩ := k_isLine_2 hil hsn hsl i1 htn ht64 hW2 hV hFo
      have e63 := hF63.nil
      subst e63
      obtain ⟨g1, g2, g3, g4, g5⟩ := gst_r L k
      have hLk : r46.toInt ≠ 0 ↔ L k := by rw [hL]; exact kl.trans ⟨fun q => q.2, fun q => ⟨hk, q⟩⟩
      clear kl
      have hw : w61.toInt = (if r46.toInt = 0 then 0 else 1) := by
        rcases hj with ⟨f, ew, -⟩ | ⟨f, ew, -⟩
        · rw [if_pos f, ← ew]
          rfl
        · rw [if_neg f, ← ew]
          rfl
      rcases hd' with ⟨f, y70, e70, hd'⟩ | ⟨f, y79, t79, ex, e2, e3, e4, e5, eG⟩
      · have hn : ¬ L k := fun q => (hLk.mpr q) f
        clear hLk
        rw [if_pos f] at hw
        have t68 : y68.toInt = (gst L k).2.1 := by
          have := tI_add e68 (by omega) (by omega)
          omega
        have t70 : y70.toInt = (gst L k).1 + 1 := by
          have := tI_add e70 (by rw [o1]; omega) (by rw [o1]; omega)
          rw [o1] at this
          omega
        rcases hd' with ⟨f2, y72, t72, ex, e2, e3, e4, e5, eG⟩ | ⟨f2, y73, t73, y75, t75, y77, t77, ex, e2, e3, e4, e5, eG⟩
        · refine ⟨eG.symm, k + 1, by omega, by show n1.toInt = _; rw [← ex]; omega, ?_⟩
          show n2.toInt = _ ∧ n3.toInt = _ ∧ n4.toInt = _ ∧ n5.toInt = _
          rw [← e2, ← e3, ← e4, ← e5, gst_N hn, if_neg (by omega)]
          try dsimp only
          exact ⟨t70, t68, i4, i5⟩
        · refine ⟨eG.symm, k + 1, by omega, by show n1.toInt = _; rw [← ex]; omega, ?_⟩
          show n2.toInt = _ ∧ n3.toInt = _ ∧ n4.toInt = _ ∧ n5.toInt = _
          rw [← e2, ← e3, ← e4, ← e5, gst_N hn, if_pos (by omega)]
          try dsimp only
          exact ⟨t70, t68, by show y75.toInt = (k : Int) - ((gst L k).1 + 1) + 1; omega, t70⟩
      · have hy : L k := hLk.mp f
        clear hLk
        rw [if_neg f] at hw
        have t68 : y68.toInt = (gst L k).2.1 + 1 := by
          have := tI_add e68 (by omega) (by omega)
          omega
        refine ⟨eG.symm, k + 1, by omega, by show n1.toInt = _; rw [← ex]; omega, ?_⟩
        show n2.toInt = _ ∧ n3.toInt = _ ∧ n4.toInt = _ ∧ n5.toInt = _
        rw [← e2, ← e3, ← e4, ← e5, gst_L hy]
        try dsimp only
        exact ⟨rfl, t68, i4, i5⟩)
    obtain ⟨-, k, i0, i1, i2, i3, i4, i5⟩ := hI
    simp only at i1 i2 i3 i4 i5
    have t41 : y41.toInt = (stl V s : Int) := by rw [e41]; exact hlen
    have hk : k = stl V s := by clear hh; omega
    subst hk
    rcases hh with ⟨f, rfl, rfl⟩ | ⟨f, ⟨g, rfl, rfl⟩ | ⟨g, ⟨j, rfl, rfl⟩ | ⟨j, rfl, rfl⟩⟩⟩
    · rw [if_pos f]
      exact Or.inr ⟨⟨hS, hRr⟩, i5, hCa2⟩
    · rw [if_neg f, if_pos g]
      exact Or.inr ⟨⟨hS, hRr⟩, i4, hCa2⟩
    · rw [if_neg f, if_neg g, if_pos j]
      exact Or.inr ⟨⟨hS, hRr⟩, i3, hCa2⟩
    · rw [if_neg f, if_neg g, if_neg j]
      exact Or.inr ⟨⟨hS, hRr⟩, m1, hCa2⟩
  have hCaa : CaC_2 V Ga := by
    rcases hC with q | q
    · exact q.2.2
    · exact q.2.2
  refine ⟨?_, (hII.ca hFx hCaa (by decide) (by decide)).fr hFm (by decide) (by decide) (by decide)⟩
  rcases hC with ⟨n1, v1, -⟩ | ⟨y1, v1, -⟩
  · rcases hM with ⟨n2, v2⟩ | ⟨y2, -⟩
    · rw [v1, v2]
    · exact absurd ⟨y2.1, y2.2.1⟩ n1
  · rcases hM with ⟨n2, v2⟩ | ⟨y2, v2⟩
    · rw [v1, v2]
      by_cases h0 : p2.toInt = 0
      · exact absurd ⟨y1.1, y1.2, by omega, by omega⟩ n2
      · rw [if_neg h0]
        by_cases h1 : p2.toInt = 1
        · exact absurd ⟨y1.1, y1.2, by omega, by omega⟩ n2
        · rw [if_neg h1]
          by_cases h2 : p2.toInt = 2
          · exact absurd ⟨y1.1, y1.2, by omega, by omega⟩ n2
          · rw [if_neg h2]
    · rw [v1, v2]
      by_cases h0 : p2.toInt = 0
      · rw [if_pos h0, if_pos h0]
      · rw [if_neg h0, if_neg h0]
        by_cases h1 : p2.toInt = 1
        · rw [if_pos h1, if_pos h1]
        · have h2 : p2.toInt = 2 := by have := y2.2.2; omega
          rw [if_neg h1, if_neg h1, if_pos h2]
theorem foot_2 {V : PV} {p0 p1 p2 p3 q0 q1 q2 q3 r r' : Int32} {G Ga Gb : GS} (hx : P_Wfoot_2 p0 p1 p2 p3 G r Ga) (hm : Q_foot q0 q1 q2 q3 Ga r' Gb) (i0 : p0.toInt = q0.toInt) (i1 : p1.toInt = q1.toInt) (i2 : p2.toInt = q2.toInt) (i3 : p3.toInt = q3.toInt) (hI : IV_2 V G) : r.toInt = r'.toInt ∧ IV_2 V Gb := by
  obtain rfl := Int32.toInt_inj.mp i0
  obtain rfl := Int32.toInt_inj.mp i1
  obtain rfl := Int32.toInt_inj.mp i2
  obtain rfl := Int32.toInt_inj.mp i3
  have hFx := hx.2.1
  have hFm := hm.2.1
  have m1 : (-1 : Int32).toInt = -1 := rfl
  have z0 : (0 : Int32).toInt = 0 := rfl
  have o1 : (1 : Int32).toInt = 1 := rfl
  have hII := hI
  obtain ⟨hW, hR, hV, hCa, hE, hSV⟩ := hI
  have hd := hE.day
  have hC : (¬ ((inW V p0 ∧ inS V p1 ∧ inR V p2) ∧ inX V p1 p3) ∧ r.toInt = -1 ∧ CaC_2 V Ga) ∨ (((inW V p0 ∧ inS V p1 ∧ inR V p2) ∧ inX V p1 p3) ∧ (r.toInt = 0 ∨ r.toInt = 1) ∧ (r.toInt ≠ 0 ↔ LWF V (G.1 58 6) p0.toInt.toNat p1.toInt.toNat p2.toInt.toNat p3.toInt) ∧ CaC_2 V Ga) := by
    obtain ⟨-, -, r1, G2, hask, hh⟩ := hx
    obtain ⟨rfl, k1⟩ := k_wAsk_2_eq hask hW hV.1
    rcases hh with ⟨c, rfl, rfl⟩ | ⟨c, r8, G9, hin, hh⟩
    · exact Or.inl ⟨fun q => absurd c (k1.mpr q.1), m1, hCa⟩
    have hA := k1.mp c
    obtain ⟨rfl, k2⟩ := k_hasInchV_2 hin hW
    rcases hh with ⟨c2, rfl, rfl⟩ | ⟨c2, r15, G16, htd, G21, hfi, r25, G26, hil, hh⟩
    · exact Or.inl ⟨fun q => absurd c2 (k2.mpr ⟨q.1.2.1, q.2⟩), m1, hCa⟩
    obtain ⟨rfl, e15⟩ := k_today_eq htd
    have hX := (k2.mp c2).2
    obtain ⟨hwl, hwn⟩ := hA.1.n
    obtain ⟨hsl, hsn⟩ := hA.2.1.n
    obtain ⟨ht64, htn⟩ := hA.2.2.lt hV.1
    obtain ⟨hFo, hCa2⟩ := k_find_2 hfi hsn hsl hR.1.2.1 hW hV (by rw [e15]; exact hd.1.1) hCa
    rw [e15] at hFo
    obtain ⟨rfl, kl⟩ := k_isLawful_2 hil hwn hwl hsn hsl htn ht64 (hW.fr hfi.2.1 (by decide) (by decide)) hV hFo
    rcases hh with ⟨f, rfl, rfl⟩ | ⟨f, rfl, rfl⟩
    · exact Or.inr ⟨⟨hA, hX⟩, Or.inl z0, ⟨fun q => absurd z0 q, fun q => absurd f (kl.mpr q)⟩, hCa2⟩
    · exact Or.inr ⟨⟨hA, hX⟩, Or.inr o1, ⟨fun _ => kl.mp f, fun _ => by rw [o1]; decide⟩, hCa2⟩
  have hRa : RV V Ga := hR.fr hFx (by decide) (by decide)
  have a110 : Ga.1 110 6 = G.1 58 6 := by rw [hFx.row1 110 (by decide) (by decide), hd.2]
  have hM : (¬ ((inW V p0 ∧ inS V p1 ∧ inR V p2) ∧ inX V p1 p3) ∧ r'.toInt = -1) ∨ (((inW V p0 ∧ inS V p1 ∧ inR V p2) ∧ inX V p1 p3) ∧ (r'.toInt = 0 ∨ r'.toInt = 1) ∧ (r'.toInt ≠ 0 ↔ LWF V (G.1 58 6) p0.toInt.toNat p1.toInt.toNat p2.toInt.toNat p3.toInt)) := by
    obtain ⟨-, -, r1, G2, hask, hh⟩ := hm
    obtain ⟨rfl, k1⟩ := q_isAsked_eq hask hRa
    rcases hh with ⟨c, rfl, -⟩ | ⟨c, r8, G9, hin, hh⟩
    · exact Or.inl ⟨fun q => absurd c (k1.mpr q.1), m1⟩
    have hA := k1.mp c
    obtain ⟨rfl, k2⟩ := q_isInchV hin hRa hA.2.1
    rcases hh with ⟨c2, rfl, -⟩ | ⟨c2, G17, hlay, y21, e21, r22, G23, htr, rfl, -⟩
    · exact Or.inl ⟨fun q => absurd c2 (k2.mpr q.2), m1⟩
    have hX := k2.mp c2
    obtain ⟨hwl, hwn⟩ := hA.1.n
    obtain ⟨hsl, hsn⟩ := hA.2.1.n
    obtain ⟨ht64, htn⟩ := hA.2.2.lt hV.1
    obtain ⟨-, hlw⟩ := m_lay hlay hwn hwl hsn hsl htn ht64 hRa hV (hW.ok hsl)
    have hl4 : (stl V p1.toInt.toNat : Int) ≤ 400 := (hW.1.2 p1.toInt.toNat hsl).2
    have hxn : p3.toInt = (p3.toInt.toNat : Int) := by have := hX.1; omega
    obtain ⟨v1, v2⟩ := hlw p3.toInt.toNat (by have := hX.1; have := hX.2; omega)
    rw [a110, ← hxn] at v2
    have e : y21 = G17.1 98 p3.toInt.toNat := e21
    rw [← e, ← (q_truth htr).2] at v1 v2
    exact Or.inr ⟨⟨hA, hX⟩, v1, v2⟩
  have hCaa : CaC_2 V Ga := by
    rcases hC with q | q
    · exact q.2.2
    · exact q.2.2.2
  refine ⟨?_, (hII.ca hFx hCaa (by decide) (by decide)).fr hFm (by decide) (by decide) (by decide)⟩
  rcases hC with ⟨n1, v1, -⟩ | ⟨y1, v1, w1, -⟩
  · rcases hM with ⟨n2, v2⟩ | ⟨y2, -⟩
    · rw [v1, v2]
    · exact absurd y2 n1
  · rcases hM with ⟨n2, -⟩ | ⟨y2, v2, w2⟩
    · exact absurd y1 n2
    · have w3 := w1.trans w2.symm
      clear w1 w2
      rcases v1 with e1 | e1 <;> rcases v2 with e2 | e2
      · omega
      · exact absurd e1 (w3.mpr (by omega))
      · exact absurd e2 (w3.mp (by omega))
      · omega
