/-! what pavement copies, by the reference -/
def RSt (s : Nat) (I : List IC) (G : GS) : Prop := (G.1 91 s).toInt = (I.length : Int) ∧ ∀ i, i < I.length → (G.1 87 (400 * s + i)).toInt = (I.getD i (0, 0, 0, 0)).1 ∧ (G.1 88 (400 * s + i)).toInt = (I.getD i (0, 0, 0, 0)).2.1 ∧ (G.1 89 (400 * s + i)).toInt = (I.getD i (0, 0, 0, 0)).2.2.1 ∧ (G.1 90 (400 * s + i)).toInt = (I.getD i (0, 0, 0, 0)).2.2.2
def RWk (k : Nat) (x : WK) (G : GS) : Prop := (G.1 92 k).toInt = x.1 ∧ (G.1 93 k).toInt = x.2.1 ∧ (G.1 94 k).toInt = x.2.2.1 ∧ (G.1 95 k).toInt = x.2.2.2
def RCd (k : Nat) (C : List (Int × Int)) (G : GS) : Prop := (G.1 74 k).toInt = (C.length : Int) ∧ ∀ i, i < C.length → (G.1 72 (320 * k + i)).toInt = (C.getD i (0, 0)).1 ∧ (G.1 73 (320 * k + i)).toInt = (C.getD i (0, 0)).2
def RV (V : PV) (G : GS) : Prop := ((G.1 66 52).toInt = (V.1.length : Int) ∧ V.1.length ≤ 3 ∧ ∀ s, s < V.1.length → RSt s (V.1.getD s ([], [])).2 G ∧ ((V.1.getD s ([], [])).2.length : Int) ≤ 400) ∧ ((G.1 66 53).toInt = (V.2.1.length : Int) ∧ V.2.1.length ≤ 4 ∧ ∀ k, k < V.2.1.length → RWk k (V.2.1.getD k ([], 0, 0, 0, 0)).2 G) ∧ ((G.1 66 54).toInt = (V.2.2.1.length : Int) ∧ V.2.2.1.length ≤ 6 ∧ (G.1 66 22).toInt = V.2.2.2.1 ∧ ∀ k, k < V.2.2.1.length → RCd k (V.2.2.1.getD k ([], [])).2 G ∧ (V.2.2.1.getD k ([], [])).2.length ≤ 320) ∧ ((G.1 96 0).toInt = (V.2.2.2.2.1.getD (0, 1, 0)).1 ∧ (G.1 96 1).toInt = (V.2.2.2.2.1.getD (0, 1, 0)).2.1 ∧ (G.1 96 2).toInt = (V.2.2.2.2.1.getD (0, 1, 0)).2.2) ∧ (G.1 66 55).toInt = (V.2.2.2.2.2.1.getD (30, 10)).1 ∧ (G.1 66 56).toInt = (V.2.2.2.2.2.1.getD (30, 10)).2
theorem l_slips {x : Int32} {G G1 : GS} (hl : Rc (St_n_pavement_1) (0, G) (x, G1)) (hx : 3 ≤ x.toInt) : ∀ j, j < 3 → G1.1 96 j = G.1 86 j := by
  have hI := hl (fun q => q.2.1 86 = G.1 86 ∧ ∃ k : Nat, q.1.toInt = (k : Int) ∧ ∀ j, j < k → q.2.1 96 j = G.1 86 j) ⟨rfl, 0, rfl, fun j hj => absurd hj (Nat.not_lt_zero j)⟩ (by
    rintro ⟨x1, G_1⟩ ⟨xn, G_1n⟩ ⟨i1, k, i2, i3⟩ ⟨x1q, G_1q, xnq, G_1nq, q1, q2, -, -, -, c, y1, e1, y2, t2, ex, hF, e96⟩
    obtain ⟨rfl, rfl⟩ := Prod.mk.inj q1
    obtain ⟨rfl, rfl⟩ := Prod.mk.inj q2
    simp only at i1 i2 i3
    rw [cn_eq i2] at e1 e96
    refine ⟨(hF.row1 86 (by decide) (by decide)).trans i1, k + 1, by show xn.toInt = _; rw [← ex]; omega, fun j hj => ?_⟩
    show G_1n.1 96 j = _
    rw [e96]
    by_cases hjk : j = k
    · subst hjk
      rw [show upd (G_1.1 96) j y1 j = y1 from if_pos rfl, e1, i1]
    · rw [show upd (G_1.1 96) k y1 j = G_1.1 96 j from if_neg hjk]
      exact i3 j (by omega))
  obtain ⟨-, k, i2, i3⟩ := hI
  have i2' : x.toInt = (k : Int) := i2
  exact fun j hj => i3 j (by omega)
theorem l_walkers {x : Int32} {G2 G G1 : GS} (hl : Rc (St_n_pavement_4 G2) (0, G) (x, G1)) {n : Nat} (hx : (n : Int) ≤ x.toInt) : ∀ j, j < n → G1.1 92 j = G.1 82 j ∧ G1.1 93 j = G.1 83 j ∧ G1.1 94 j = G.1 84 j ∧ G1.1 95 j = G.1 85 j := by
  have hI := hl (fun q => (q.2.1 82 = G.1 82 ∧ q.2.1 83 = G.1 83 ∧ q.2.1 84 = G.1 84 ∧ q.2.1 85 = G.1 85) ∧ ∃ k : Nat, q.1.toInt = (k : Int) ∧ ∀ j, j < k → q.2.1 92 j = G.1 82 j ∧ q.2.1 93 j = G.1 83 j ∧ q.2.1 94 j = G.1 84 j ∧ q.2.1 95 j = G.1 85 j) ⟨⟨rfl, rfl, rfl, rfl⟩, 0, rfl, fun j hj => absurd hj (Nat.not_lt_zero j)⟩ (by
    rintro ⟨x1, G_1⟩ ⟨xn, G_1n⟩ ⟨⟨i1, i2, i3, i4⟩, k, i5, i6⟩ ⟨x1q, G_1q, xnq, G_1nq, q1, q2, -, -, -, c, y1, e1, y2, e2, y3, e3, y4, e4, y5, t5, ex, hF, w1, w2, w3, w4⟩
    obtain ⟨rfl, rfl⟩ := Prod.mk.inj q1
    obtain ⟨rfl, rfl⟩ := Prod.mk.inj q2
    simp only at i1 i2 i3 i4 i5 i6
    rw [cn_eq i5] at e1 e2 e3 e4 w1 w2 w3 w4
    refine ⟨⟨(hF.row1 82 (by decide) (by decide)).trans i1, (hF.row1 83 (by decide) (by decide)).trans i2, (hF.row1 84 (by decide) (by decide)).trans i3, (hF.row1 85 (by decide) (by decide)).trans i4⟩, k + 1, by show xn.toInt = _; rw [← ex]; omega, fun j hj => ?_⟩
    show G_1n.1 92 j = _ ∧ G_1n.1 93 j = _ ∧ G_1n.1 94 j = _ ∧ G_1n.1 95 j = _
    rw [w1, w2, w3, w4]
    by_cases hjk : j = k
    · subst hjk
      have e : ∀ (g : Nat → Int32) (v : Int32), upd g j v j = v := fun g v => if_pos rfl
      rw [e, e, e, e, e1, e2, e3, e4, i1, i2, i3, i4]
      exact ⟨rfl, rfl, rfl, rfl⟩
    · have e : ∀ (g : Nat → Int32) (v : Int32), upd g k v j = g j := fun g v => if_neg hjk
      rw [e, e, e, e]
      exact i6 j (by omega))
  obtain ⟨-, k, i5, i6⟩ := hI
  have i5' : x.toInt = (k : Int) := i5
  exact fun j hj => i6 j (by omega)
/-- one STREET's INCHES -/
theorem l_street {x51 y x : Int32} {G G1 : GS} {s len : Nat} (hl : Rc (St_n_pavement_7 x51) (y, G) (x, G1)) (hs : x51.toInt = (s : Int)) (hy : y.toInt = 400 * (s : Int)) (hlen : (G.1 91 s).toInt = (len : Int)) (hx : 400 * (s : Int) + (len : Int) ≤ x.toInt) : (∀ j, j < 400 * s → G1.1 87 j = G.1 87 j ∧ G1.1 88 j = G.1 88 j ∧ G1.1 89 j = G.1 89 j ∧ G1.1 90 j = G.1 90 j) ∧ ∀ i, i < len → G1.1 87 (400 * s + i) = G.1 77 (400 * s + i) ∧ G1.1 88 (400 * s + i) = G.1 78 (400 * s + i) ∧ G1.1 89 (400 * s + i) = G.1 79 (400 * s + i) ∧ G1.1 90 (400 * s + i) = G.1 80 (400 * s + i) := by
  have hI := hl (fun q => (q.2.1 77 = G.1 77 ∧ q.2.1 78 = G.1 78 ∧ q.2.1 79 = G.1 79 ∧ q.2.1 80 = G.1 80 ∧ q.2.1 91 = G.1 91) ∧ (∀ j, j < 400 * s → q.2.1 87 j = G.1 87 j ∧ q.2.1 88 j = G.1 88 j ∧ q.2.1 89 j = G.1 89 j ∧ q.2.1 90 j = G.1 90 j) ∧ ∃ m : Nat, q.1.toInt = 400 * (s : Int) + (m : Int) ∧ ∀ i, i < m → q.2.1 87 (400 * s + i) = G.1 77 (400 * s + i) ∧ q.2.1 88 (400 * s + i) = G.1 78 (400 * s + i) ∧ q.2.1 89 (400 * s + i) = G.1 79 (400 * s + i) ∧ q.2.1 90 (400 * s + i) = G.1 80 (400 * s + i)) ⟨⟨rfl, rfl, rfl, rfl, rfl⟩, fun _ _ => ⟨rfl, rfl, rfl, rfl⟩, 0, by simpa using hy, fun j hj => absurd hj (Nat.not_lt_zero j)⟩ (by
    rintro ⟨x1, G_1⟩ ⟨xn, G_1n⟩ ⟨⟨i1, i2, i3, i4, i9⟩, i5, m, i6, i7⟩ ⟨x1q, G_1q, xnq, G_1nq, q1, q2, -, -, z1, s1, z2, s2, z3, s3, c, y1, e1, y2, e2, y3, e3, y4, e4, y5, t5, ex, hF, w1, w2, w3, w4⟩
    obtain ⟨rfl, rfl⟩ := Prod.mk.inj q1
    obtain ⟨rfl, rfl⟩ := Prod.mk.inj q2
    simp only at i1 i2 i3 i4 i5 i6 i7 i9
    rw [cn_eq (x := x1) (e := 400 * s + m) (by omega)] at e1 e2 e3 e4 w1 w2 w3 w4
    refine ⟨⟨(hF.row1 77 (by decide) (by decide)).trans i1, (hF.row1 78 (by decide) (by decide)).trans i2, (hF.row1 79 (by decide) (by decide)).trans i3, (hF.row1 80 (by decide) (by decide)).trans i4, (hF.row1 91 (by decide) (by decide)).trans i9⟩, fun j hj => ?_, m + 1, by show xn.toInt = _; rw [← ex]; omega, fun i hi => ?_⟩
    · show G_1n.1 87 j = _ ∧ G_1n.1 88 j = _ ∧ G_1n.1 89 j = _ ∧ G_1n.1 90 j = _
      have e : ∀ (g : Nat → Int32) (v : Int32), upd g (400 * s + m) v j = g j := fun g v => if_neg (by omega)
      rw [w1, w2, w3, w4, e, e, e, e]
      exact i5 j hj
    · show G_1n.1 87 (400 * s + i) = _ ∧ G_1n.1 88 (400 * s + i) = _ ∧ G_1n.1 89 (400 * s + i) = _ ∧ G_1n.1 90 (400 * s + i) = _
      rw [w1, w2, w3, w4]
      by_cases hik : i = m
      · subst hik
        have e : ∀ (g : Nat → Int32) (v : Int32), upd g (400 * s + i) v (400 * s + i) = v := fun g v => if_pos rfl
        rw [e, e, e, e, e1, e2, e3, e4, i1, i2, i3, i4]
        exact ⟨rfl, rfl, rfl, rfl⟩
      · have e : ∀ (g : Nat → Int32) (v : Int32), upd g (400 * s + m) v (400 * s + i) = g (400 * s + i) := fun g v => if_neg (by omega)
        rw [e, e, e, e]
        exact i7 i (by omega))
  obtain ⟨-, i5, m, i6, i7⟩ := hI
  have i6' : x.toInt = 400 * (s : Int) + (m : Int) := i6
  exact ⟨i5, fun i hi => i7 i (by omega)⟩
theorem l_streets {x : Int32} {G2 G G1 : GS} (hl : Rc (St_n_pavement_3 G2) (0, G) (x, G1)) {n : Nat} (hx : (n : Int) ≤ x.toInt) (hn : n ≤ 3) (hR : (G2.1 66 45).toInt ≤ 3) (hG : ∀ s, s < 3 → 0 ≤ (G.1 81 s).toInt ∧ (G.1 81 s).toInt ≤ 400) : ∀ s, s < n → G1.1 91 s = G.1 81 s ∧ ∀ i : Nat, (i : Int) < (G.1 81 s).toInt → G1.1 87 (400 * s + i) = G.1 77 (400 * s + i) ∧ G1.1 88 (400 * s + i) = G.1 78 (400 * s + i) ∧ G1.1 89 (400 * s + i) = G.1 79 (400 * s + i) ∧ G1.1 90 (400 * s + i) = G.1 80 (400 * s + i) := by
  have hI := hl (fun q => (q.2.1 77 = G.1 77 ∧ q.2.1 78 = G.1 78 ∧ q.2.1 79 = G.1 79 ∧ q.2.1 80 = G.1 80 ∧ q.2.1 81 = G.1 81) ∧ ∃ k : Nat, q.1.toInt = (k : Int) ∧ ∀ s, s < k → s < 3 → q.2.1 91 s = G.1 81 s ∧ ∀ i : Nat, (i : Int) < (G.1 81 s).toInt → q.2.1 87 (400 * s + i) = G.1 77 (400 * s + i) ∧ q.2.1 88 (400 * s + i) = G.1 78 (400 * s + i) ∧ q.2.1 89 (400 * s + i) = G.1 79 (400 * s + i) ∧ q.2.1 90 (400 * s + i) = G.1 80 (400 * s + i)) ⟨⟨rfl, rfl, rfl, rfl, rfl⟩, 0, rfl, fun j hj => absurd hj (Nat.not_lt_zero j)⟩ (by
    rintro ⟨x1, G_1⟩ ⟨xn, G_1n⟩ ⟨⟨i1, i2, i3, i4, i9⟩, k, i6, i7⟩ ⟨x1q, G_1q, xnq, G_1nq, q1, q2, hb, -, c, y133, e133, y136, t136, G135, hB, hFa, w91, x141, G137, hl7, -, -, hFb, y145, t145, y146, e146, y148, t148, c2, y150, t150, ex, rfl⟩
    obtain ⟨rfl, rfl⟩ := Prod.mk.inj q1
    obtain ⟨rfl, rfl⟩ := Prod.mk.inj q2
    simp only at i1 i2 i3 i4 i6 i7 i9
    rw [cn_eq i6] at e133 w91 e146
    have k3 : k < 3 := by omega
    have hl := hG k k3
    obtain ⟨len, hlen⟩ : ∃ len : Nat, (G.1 81 k).toInt = (len : Int) := ⟨(G.1 81 k).toInt.toNat, by omega⟩
    have a91 : G135.1 91 k = G.1 81 k := by rw [w91, show upd (G_1.1 91) k y133 k = y133 from if_pos rfl, e133, i9]
    have b91 : G_1n.1 91 = G135.1 91 := hFb.row1 91 (by decide) (by decide)
    have h146 : y146.toInt = (len : Int) := by rw [e146, b91, a91]; exact hlen
    obtain ⟨j1, j2⟩ := l_street hl7 i6 (by omega) (by rw [a91]; exact hlen) (by omega)
    refine ⟨⟨?_, ?_, ?_, ?_, ?_⟩, k + 1, by show xn.toInt = _; rw [← ex]; omega, fun s hs hs3 => ?_⟩
    · exact ((hFb.row1 77 (by decide) (by decide)).trans (hFa.row1 77 (by decide) (by decide))).trans i1
    · exact ((hFb.row1 78 (by decide) (by decide)).trans (hFa.row1 78 (by decide) (by decide))).trans i2
    · exact ((hFb.row1 79 (by decide) (by decide)).trans (hFa.row1 79 (by decide) (by decide))).trans i3
    · exact ((hFb.row1 80 (by decide) (by decide)).trans (hFa.row1 80 (by decide) (by decide))).trans i4
    · exact ((hFb.row1 81 (by decide) (by decide)).trans (hFa.row1 81 (by decide) (by decide))).trans i9
    · show G_1n.1 91 s = _ ∧ _
      have r87 := hFa.row1 87 (by decide) (by decide)
      have r88 := hFa.row1 88 (by decide) (by decide)
      have r89 := hFa.row1 89 (by decide) (by decide)
      have r90 := hFa.row1 90 (by decide) (by decide)
      have r77 := (hFa.row1 77 (by decide) (by decide)).trans i1
      have r78 := (hFa.row1 78 (by decide) (by decide)).trans i2
      have r79 := (hFa.row1 79 (by decide) (by decide)).trans i3
      have r80 := (hFa.row1 80 (by decide) (by decide)).trans i4
      by_cases hsk : s = k
      · subst hsk
        refine ⟨by rw [b91]; exact a91, fun i hi => ?_⟩
        have := j2 i (by omega)
        rw [r77, r78, r79, r80] at this
        exact this
      · obtain ⟨m1, m2⟩ := i7 s (by omega) hs3
        refine ⟨by rw [b91, w91, show upd (G_1.1 91) k y133 s = G_1.1 91 s from if_neg hsk]; exact m1, fun i hi => ?_⟩
        have hls := hG s hs3
        have := j1 (400 * s + i) (by omega)
        rw [r87, r88, r89, r90] at this
        obtain ⟨n1, n2, n3, n4⟩ := m2 i hi
        exact ⟨this.1.trans n1, this.2.1.trans n2, this.2.2.1.trans n3, this.2.2.2.trans n4⟩)
  obtain ⟨-, k, i6, i7⟩ := hI
  have i6' : x.toInt = (k : Int) := i6
  exact fun s hs => i7 s (by omega) (by omega)
/-- one RULE's code -/
theorem l_code {x38 y x : Int32} {G G1 : GS} {f len : Nat} (hl : Rc (St_n_pavement_8 x38) (y, G) (x, G1)) (hs : x38.toInt = (f : Int)) (hy : y.toInt = 320 * (f : Int)) (hx : 320 * (f : Int) + (len : Int) ≤ x.toInt) : (∀ j, j < 320 * f → G1.1 72 j = G.1 72 j ∧ G1.1 73 j = G.1 73 j) ∧ ∀ i, i < len → G1.1 72 (320 * f + i) = G.1 69 (320 * f + i) ∧ G1.1 73 (320 * f + i) = G.1 70 (320 * f + i) := by
  have hI := hl (fun q => (q.2.1 69 = G.1 69 ∧ q.2.1 70 = G.1 70) ∧ (∀ j, j < 320 * f → q.2.1 72 j = G.1 72 j ∧ q.2.1 73 j = G.1 73 j) ∧ ∃ m : Nat, q.1.toInt = 320 * (f : Int) + (m : Int) ∧ ∀ i, i < m → q.2.1 72 (320 * f + i) = G.1 69 (320 * f + i) ∧ q.2.1 73 (320 * f + i) = G.1 70 (320 * f + i)) ⟨⟨rfl, rfl⟩, fun _ _ => ⟨rfl, rfl⟩, 0, by simpa using hy, fun j hj => absurd hj (Nat.not_lt_zero j)⟩ (by
    rintro ⟨x1, G_1⟩ ⟨xn, G_1n⟩ ⟨⟨i1, i2⟩, i5, m, i6, i7⟩ ⟨x1q, G_1q, xnq, G_1nq, q1, q2, -, -, -, -, -, -, -, z1, s1, z2, s2, z3, s3, c, y1, e1, y2, e2, y5, t5, ex, hF, w1, w2⟩
    obtain ⟨rfl, rfl⟩ := Prod.mk.inj q1
    obtain ⟨rfl, rfl⟩ := Prod.mk.inj q2
    simp only at i1 i2 i5 i6 i7
    rw [cn_eq (x := x1) (e := 320 * f + m) (by omega)] at e1 e2 w1 w2
    refine ⟨⟨(hF.row1 69 (by decide) (by decide)).trans i1, (hF.row1 70 (by decide) (by decide)).trans i2⟩, fun j hj => ?_, m + 1, by show xn.toInt = _; rw [← ex]; omega, fun i hi => ?_⟩
    · show G_1n.1 72 j = _ ∧ G_1n.1 73 j = _
      have e : ∀ (g : Nat → Int32) (v : Int32), upd g (320 * f + m) v j = g j := fun g v => if_neg (by omega)
      rw [w1, w2, e, e]
      exact i5 j hj
    · show G_1n.1 72 (320 * f + i) = _ ∧ G_1n.1 73 (320 * f + i) = _
      rw [w1, w2]
      by_cases hik : i = m
      · subst hik
        have e : ∀ (g : Nat → Int32) (v : Int32), upd g (320 * f + i) v (320 * f + i) = v := fun g v => if_pos rfl
        rw [e, e, e1, e2, i1, i2]
        exact ⟨rfl, rfl⟩
      · have e : ∀ (g : Nat → Int32) (v : Int32), upd g (320 * f + m) v (320 * f + i) = g (320 * f + i) := fun g v => if_neg (by omega)
        rw [e, e]
        exact i7 i (by omega))
  obtain ⟨-, i5, m, i6, i7⟩ := hI
  have i6' : x.toInt = 320 * (f : Int) + (m : Int) := i6
  exact ⟨i5, fun i hi => i7 i (by omega)⟩
theorem l_codes {x : Int32} {G2 G G1 : GS} (hl : Rc (St_n_pavement_2 G2) (0, G) (x, G1)) {n : Nat} (hx : (n : Int) ≤ x.toInt) (hn : n ≤ 6) (hR : (G2.1 66 47).toInt ≤ 6) (hG : ∀ f, f < 6 → 0 ≤ (G.1 71 f).toInt ∧ (G.1 71 f).toInt ≤ 320) : ∀ f, f < n → G1.1 74 f = G.1 71 f ∧ ∀ i : Nat, (i : Int) < (G.1 71 f).toInt → G1.1 72 (320 * f + i) = G.1 69 (320 * f + i) ∧ G1.1 73 (320 * f + i) = G.1 70 (320 * f + i) := by
  have hI := hl (fun q => (q.2.1 69 = G.1 69 ∧ q.2.1 70 = G.1 70 ∧ q.2.1 71 = G.1 71) ∧ ∃ k : Nat, q.1.toInt = (k : Int) ∧ ∀ f, f < k → f < 6 → q.2.1 74 f = G.1 71 f ∧ ∀ i : Nat, (i : Int) < (G.1 71 f).toInt → q.2.1 72 (320 * f + i) = G.1 69 (320 * f + i) ∧ q.2.1 73 (320 * f + i) = G.1 70 (320 * f + i)) ⟨⟨rfl, rfl, rfl⟩, 0, rfl, fun j hj => absurd hj (Nat.not_lt_zero j)⟩ (by
    rintro ⟨x1, G_1⟩ ⟨xn, G_1n⟩ ⟨⟨i1, i2, i9⟩, k, i6, i7⟩ ⟨x1q, G_1q, xnq, G_1nq, q1, q2, hb, -, -, c, y164, e164, y169, t169, G166, hB, hFa, w74, x175, G171, hl8, -, -, -, -, -, -, -, hFb, y185, t185, y186, e186, y188, t188, c2, y190, t190, ex, rfl⟩
    obtain ⟨rfl, rfl⟩ := Prod.mk.inj q1
    obtain ⟨rfl, rfl⟩ := Prod.mk.inj q2
    simp only at i1 i2 i6 i7 i9
    rw [cn_eq i6] at e164 w74 e186
    have b74 : G_1n.1 74 = G166.1 74 := hFb.row1 74 (by decide) (by decide)
    have a74 : G166.1 74 k = G.1 71 k := by rw [w74, show upd (G_1.1 74) k y164 k = y164 from if_pos rfl, e164, i9]
    have c74 : y186 = G.1 71 k := by rw [e186, b74, a74]
    have k6 : k < 6 := by omega
    have hl := hG k k6
    obtain ⟨len, hlen⟩ : ∃ len : Nat, (G.1 71 k).toInt = (len : Int) := ⟨(G.1 71 k).toInt.toNat, by omega⟩
    have h186 : y186.toInt = (len : Int) := by rw [c74]; exact hlen
    obtain ⟨j1, j2⟩ := l_code (len := len) hl8 i6 (by omega) (by omega)
    refine ⟨⟨?_, ?_, ?_⟩, k + 1, by show xn.toInt = _; rw [← ex]; omega, fun f hf hf6 => ?_⟩
    · exact ((hFb.row1 69 (by decide) (by decide)).trans (hFa.row1 69 (by decide) (by decide))).trans i1
    · exact ((hFb.row1 70 (by decide) (by decide)).trans (hFa.row1 70 (by decide) (by decide))).trans i2
    · exact ((hFb.row1 71 (by decide) (by decide)).trans (hFa.row1 71 (by decide) (by decide))).trans i9
    · show G_1n.1 74 f = _ ∧ _
      have r72 := hFa.row1 72 (by decide) (by decide)
      have r73 := hFa.row1 73 (by decide) (by decide)
      have r69 := (hFa.row1 69 (by decide) (by decide)).trans i1
      have r70 := (hFa.row1 70 (by decide) (by decide)).trans i2
      by_cases hsk : f = k
      · subst hsk
        refine ⟨by rw [b74]; exact a74, fun i hi => ?_⟩
        have := j2 i (by omega)
        rw [r69, r70] at this
        exact this
      · obtain ⟨m1, m2⟩ := i7 f (by omega) hf6
        refine ⟨by rw [b74, w74, show upd (G_1.1 74) k y164 f = G_1.1 74 f from if_neg hsk]; exact m1, fun i hi => ?_⟩
        have hls := hG f hf6
        have := j1 (320 * f + i) (by omega)
        rw [r72, r73] at this
        obtain ⟨n1, n2⟩ := m2 i hi
        exact ⟨this.1.trans n1, this.2.trans n2⟩)
  obtain ⟨-, k, i6, i7⟩ := hI
  have i6' : x.toInt = (k : Int) := i6
  exact fun f hf => i7 f (by omega) (by omega)
/-- the reference's fields behind a good pavement -/
theorem rv_pav {V : PV} {G G1 : GS} {r : Int32} (h : Q_pavement G r G1) (hf : ∀ {Gx : GS}, Q_readAll G Gx → (Gx.1 66 2).toInt = 0) (hu : ∀ {Gx : GS}, Q_readAll G Gx → MV V Gx) : RV V G1 ∧ (∀ j, j < 10 → j ≠ 0 → j ≠ 7 → G1.1 110 j = 0) ∧ G1.1 110 0 = -1 ∧ (G1.1 110 7).toInt = V.2.2.2.2.2.2.getD 0 ∧ G1.1 66 66 = 0 ∧ G1.1 66 78 = 0 ∧ G1.1 66 79 = 0 ∧ G1.1 66 85 = 0 ∧ ∀ j, j < 3 → (G1.1 117 j).toInt = 0 := by
  obtain ⟨-, -, -, Ga, hra, hh⟩ := h
  have hM := hu hra
  have hf0 := hf hra
  rcases hh with ⟨-, G16, -, hF16, e22, e52, e53, e54, e55, e56, x22, G18, hl1, -, -, -, hF18, c1, x38, G34, hl2, -, -, -, hF34, c2, x51, G47, hl3, -, hB47, hF47, c3, x62, G58, hl4, -, -, -, hF58, c4, x75, G71, hl5, -, -, hF71, c5, G90, -, hF90, e66, e78, e79, e85, e110, x95, G91, hl6, -, -, hF91, c6, rfl, rfl⟩ | ⟨c, -⟩
  rotate_left
  · omega
  obtain ⟨⟨s1, s2, -, s4⟩, ⟨w1, w2, -, w4⟩, ⟨r1, r2, -, r4, -, -, r7⟩, ⟨p1, p2, p3⟩, ⟨n1, n2⟩, d1, -⟩ := hM
  have fx : ∀ j, j = 22 ∨ j = 52 ∨ j = 53 ∨ j = 54 ∨ j = 55 ∨ j = 56 → G91.1 66 j = G16.1 66 j := by
    intro j hj
    rcases hj with rfl | rfl | rfl | rfl | rfl | rfl <;> rw [hF91.i 66 _ (by decide) (by decide), hF90.i 66 _ (by decide) (by decide), hF71.i 66 _ (by decide) (by decide), hF58.i 66 _ (by decide) (by decide), hF47.i 66 _ (by decide) (by decide), hF34.i 66 _ (by decide) (by decide), hF18.i 66 _ (by decide) (by decide)]
  have q96 : ∀ j, j < 3 → G91.1 96 j = Ga.1 86 j := by
    intro j hj
    rw [hF91.row1 96 (by decide) (by decide), hF90.row1 96 (by decide) (by decide), hF71.row1 96 (by decide) (by decide), hF58.row1 96 (by decide) (by decide), hF47.row1 96 (by decide) (by decide), hF34.row1 96 (by decide) (by decide), l_slips hl1 c1 j hj, hF16.row1 86 (by decide) (by decide)]
  have g18 : ∀ i, i = 69 ∨ i = 70 ∨ i = 71 → G18.1 i = Ga.1 i := by
    intro i hi
    rcases hi with rfl | rfl | rfl <;> rw [hF18.row1 _ (by decide) (by decide), hF16.row1 _ (by decide) (by decide)]
  have g34 : ∀ i, i = 77 ∨ i = 78 ∨ i = 79 ∨ i = 80 ∨ i = 81 → G34.1 i = Ga.1 i := by
    intro i hi
    rcases hi with rfl | rfl | rfl | rfl | rfl <;> rw [hF34.row1 _ (by decide) (by decide), hF18.row1 _ (by decide) (by decide), hF16.row1 _ (by decide) (by decide)]
  have g47 : ∀ i, i = 82 ∨ i = 83 ∨ i = 84 ∨ i = 85 → G47.1 i = Ga.1 i := by
    intro i hi
    rcases hi with rfl | rfl | rfl | rfl <;> rw [hF47.row1 _ (by decide) (by decide), hF34.row1 _ (by decide) (by decide), hF18.row1 _ (by decide) (by decide), hF16.row1 _ (by decide) (by decide)]
  have hBa := hra.1
  refine ⟨⟨⟨?_, s2, fun s hs => ⟨?_, (s4 s hs).2⟩⟩, ⟨?_, w2, fun k hk => ?_⟩, ⟨?_, r2, ?_, fun k hk => ⟨?_, (r7 k hk).2⟩⟩, ⟨?_, ?_, ?_⟩, ?_, ?_⟩, ?_, ?_, ?_, ?_, ?_, ?_, ?_, ?_⟩
  · rw [fx 52 (by simp), e52]
    exact s1
  · obtain ⟨⟨a1, a2⟩, a3⟩ := s4 s hs
    have key := l_streets (n := V.1.length) hl3 (by omega) s2 (by omega) (fun s hs3 => by rw [g34 81 (by simp)]; exact hBa.i 81 s rfl rfl) s hs
    obtain ⟨k1, k2⟩ := key
    rw [g34 81 (by simp), g34 77 (by simp), g34 78 (by simp), g34 79 (by simp), g34 80 (by simp)] at k2
    rw [g34 81 (by simp)] at k1
    have z : ∀ i, i = 87 ∨ i = 88 ∨ i = 89 ∨ i = 90 ∨ i = 91 → G91.1 i = G47.1 i := by
      intro i hi
      rcases hi with rfl | rfl | rfl | rfl | rfl <;> rw [hF91.row1 _ (by decide) (by decide), hF90.row1 _ (by decide) (by decide), hF71.row1 _ (by decide) (by decide), hF58.row1 _ (by decide) (by decide)]
    refine ⟨by rw [z 91 (by simp), k1]; exact a1, fun i hi => ?_⟩
    obtain ⟨b1, b2, b3, b4⟩ := k2 i (by omega)
    rw [z 87 (by simp), z 88 (by simp), z 89 (by simp), z 90 (by simp), b1, b2, b3, b4]
    exact a2 i hi
  · rw [fx 53 (by simp), e53]
    exact w1
  · have key := l_walkers (n := V.2.1.length) hl4 (by omega) k hk
    rw [g47 82 (by simp), g47 83 (by simp), g47 84 (by simp), g47 85 (by simp)] at key
    have z : ∀ i, i = 92 ∨ i = 93 ∨ i = 94 ∨ i = 95 → G91.1 i = G58.1 i := by
      intro i hi
      rcases hi with rfl | rfl | rfl | rfl <;> rw [hF91.row1 _ (by decide) (by decide), hF90.row1 _ (by decide) (by decide), hF71.row1 _ (by decide) (by decide)]
    have := w4 k hk
    unfold RWk
    unfold WkM at this
    rw [z 92 (by simp), z 93 (by simp), z 94 (by simp), z 95 (by simp), key.1, key.2.1, key.2.2.1, key.2.2.2]
    exact this
  · rw [fx 54 (by simp), e54]
    exact r1
  · rw [fx 22 (by simp), e22]
    exact r4
  · obtain ⟨⟨a1, a2⟩, a3⟩ := r7 k hk
    have key := l_codes (n := V.2.2.1.length) hl2 (by omega) r2 (by omega) (fun f hf6 => by rw [g18 71 (by simp)]; exact hBa.i 71 f rfl rfl) k hk
    obtain ⟨k1, k2⟩ := key
    rw [g18 71 (by simp), g18 69 (by simp), g18 70 (by simp)] at k2
    rw [g18 71 (by simp)] at k1
    have z : ∀ i, i = 72 ∨ i = 73 ∨ i = 74 → G91.1 i = G34.1 i := by
      intro i hi
      rcases hi with rfl | rfl | rfl <;> rw [hF91.row1 _ (by decide) (by decide), hF90.row1 _ (by decide) (by decide), hF71.row1 _ (by decide) (by decide), hF58.row1 _ (by decide) (by decide), hF47.row1 _ (by decide) (by decide)]
    refine ⟨by rw [z 74 (by simp), k1]; exact a1, fun i hi => ?_⟩
    obtain ⟨b1, b2⟩ := k2 i (by omega)
    rw [z 72 (by simp), z 73 (by simp), b1, b2]
    exact a2 i hi
  · rw [q96 0 (by decide)]
    exact p1
  · rw [q96 1 (by decide)]
    exact p2
  · rw [q96 2 (by decide)]
    exact p3
  · rw [fx 55 (by simp), e55]
    exact n1
  · rw [fx 56 (by simp), e56]
    exact n2
  · intro j hj h0 h7
    have hz := hl5 (fun q => ∃ k : Nat, q.1.toInt = (k : Int) ∧ ∀ j, j < k → q.2.1 110 j = 0) ⟨0, rfl, fun j hj => absurd hj (Nat.not_lt_zero j)⟩ (by
      rintro ⟨x1, G_1⟩ ⟨xn, G_1n⟩ ⟨k, i6, i7⟩ ⟨x1q, G_1q, xnq, G_1nq, q1, q2, -, -, c, y1, t1, ex, hF, w⟩
      obtain ⟨rfl, rfl⟩ := Prod.mk.inj q1
      obtain ⟨rfl, rfl⟩ := Prod.mk.inj q2
      simp only at i6 i7
      rw [cn_eq i6] at w
      refine ⟨k + 1, by show xn.toInt = _; rw [← ex]; omega, fun j hj => ?_⟩
      show G_1n.1 110 j = 0
      rw [w]
      by_cases hjk : j = k
      · exact if_pos hjk
      · rw [show upd (G_1.1 110) k 0 j = G_1.1 110 j from if_neg hjk]
        exact i7 j (by omega))
    obtain ⟨k, i6, i7⟩ := hz
    have i6' : x75.toInt = (k : Int) := i6
    have z0 : (0 : Int32).toNatClampNeg = 0 := rfl
    have z7 : (7 : Int32).toNatClampNeg = 7 := rfl
    rw [hF91.row1 110 (by decide) (by decide), e110, z0, z7, show upd (upd (G71.1 110) 0 (-1)) 7 (Ga.1 66 50) j = upd (G71.1 110) 0 (-1) j from if_neg h7, show upd (G71.1 110) 0 (-1) j = G71.1 110 j from if_neg h0]
    exact i7 j (by omega)
  · rw [hF91.row1 110 (by decide) (by decide), e110]
    rfl
  · rw [hF91.row1 110 (by decide) (by decide), e110]
    exact d1
  · rw [hF91.i 66 66 (by decide) (by decide), e66]
  · rw [hF91.i 66 78 (by decide) (by decide), e78]
  · rw [hF91.i 66 79 (by decide) (by decide), e79]
  · rw [hF91.i 66 85 (by decide) (by decide), e85]
  · intro j hj
    have hz := hl6 (fun q => ∃ k : Nat, q.1.toInt = (k : Int) ∧ ∀ j, j < k → (q.2.1 117 j).toInt = 0) ⟨0, rfl, fun j hj => absurd hj (Nat.not_lt_zero j)⟩ (by
      rintro ⟨x1, G_1⟩ ⟨xn, G_1n⟩ ⟨k, i6, i7⟩ ⟨x1q, G_1q, xnq, G_1nq, q1, q2, -, -, c, y1, t1, ex, hF, w⟩
      obtain ⟨rfl, rfl⟩ := Prod.mk.inj q1
      obtain ⟨rfl, rfl⟩ := Prod.mk.inj q2
      simp only at i6 i7
      rw [cn_eq i6] at w
      refine ⟨k + 1, by show xn.toInt = _; rw [← ex]; omega, fun j hj => ?_⟩
      show (G_1n.1 117 j).toInt = 0
      rw [w]
      by_cases hjk : j = k
      · rw [show upd (G_1.1 117) k (vp_nar .boolean 0) j = vp_nar .boolean 0 from if_pos hjk]
        rfl
      · rw [show upd (G_1.1 117) k (vp_nar .boolean 0) j = G_1.1 117 j from if_neg hjk]
        exact i7 j (by omega))
    obtain ⟨k, i6, i7⟩ := hz
    have i6' : x95.toInt = (k : Int) := i6
    exact i7 j (by omega)

/-! the PAVING on both sides -/
theorem q_isIn {p0 p1 p2 r : Int32} {G G1 : GS} (h : Q_isIn p0 p1 p2 G r G1) : G = G1 ∧ (r.toInt ≠ 0 ↔ (p1.toInt ≤ p0.toInt ∧ p0.toInt ≤ p2.toInt)) := by
  obtain ⟨-, hF, hr, hh, -⟩ := h
  refine ⟨hF.nil, fun q => hh.1 (by omega), fun q => ?_⟩
  have := hh.2 q
  omega
theorem q_isStreet {p0 r : Int32} {G G1 : GS} (h : Q_isStreet p0 G r G1) : G = G1 ∧ (r.toInt ≠ 0 ↔ (0 ≤ p0.toInt ∧ p0.toInt < (G.1 66 52).toInt)) := by
  obtain ⟨-, hF, -, -, y2, t2, r4, G5, hi, rfl, rfl⟩ := h
  refine ⟨hF.nil, (q_isIn hi).2.trans ⟨fun q => ⟨q.1, by have := q.2; omega⟩, fun q => ⟨q.1, by have := q.2; omega⟩⟩⟩
theorem q_isWalker {p0 r : Int32} {G G1 : GS} (h : Q_isWalker p0 G r G1) : G = G1 ∧ (r.toInt ≠ 0 ↔ (0 ≤ p0.toInt ∧ p0.toInt < (G.1 66 53).toInt)) := by
  obtain ⟨-, hF, -, -, y2, t2, r4, G5, hi, rfl, rfl⟩ := h
  refine ⟨hF.nil, (q_isIn hi).2.trans ⟨fun q => ⟨q.1, by have := q.2; omega⟩, fun q => ⟨q.1, by have := q.2; omega⟩⟩⟩
theorem q_isInch {p0 p1 r : Int32} {G G1 : GS} (h : Q_isInch p0 p1 G r G1) : G = G1 ∧ (r.toInt ≠ 0 ↔ (0 ≤ p1.toInt ∧ p1.toInt < (G.1 91 p0.toNatClampNeg).toInt)) := by
  obtain ⟨-, hF, -, -, y1, e1, y2, t2, r4, G5, hi, rfl, rfl⟩ := h
  subst e1
  refine ⟨hF.nil, (q_isIn hi).2.trans ⟨fun q => ⟨q.1, by have := q.2; omega⟩, fun q => ⟨q.1, by have := q.2; omega⟩⟩⟩
theorem q_truth {p0 r : Int32} {G G1 : GS} (h : Q_truth p0 G r G1) : G = G1 ∧ r.toInt = p0.toInt := ⟨h.2.1.nil, h.2.2.2.1⟩
/-- what an INCH answers -/
def icA (x : IC) (what : Int) : Int := if what = 0 then (if x.1 < 0 then 1 else 0) else if what = 1 then x.2.1 else if what = 2 then x.2.2.1 else if what = 3 then x.2.2.2 else (if x.1 < 0 then 0 else x.1)
theorem k_part_eq {x : IC} {p0 p1 r : Int32} {G G1 : GS} (h : P_part p0 p1 G r G1) (hx : ICok x) (h0 : p0 = encI x) : G = G1 ∧ r.toInt = icA x p1.toInt := by
  obtain ⟨a1, a2, a3, a4, a5⟩ := part_i hx h0
  obtain ⟨-, hF, hh⟩ := h
  refine ⟨hF.nil, ?_⟩
  unfold icA
  rcases hh with ⟨c, y, e, rfl, -⟩ | ⟨c, ⟨d, y4, e4, y, e, rfl, -⟩ | ⟨d, ⟨f, y4, e4, y, e, rfl, -⟩ | ⟨f, ⟨g, y4, e4, y, e, rfl, -⟩ | ⟨g, y4, e4, y, e, rfl, -⟩⟩⟩⟩
  · rw [if_pos c, e]
    exact a1
  · rw [if_neg c, if_pos d, e, e4]
    exact a2
  · rw [if_neg c, if_neg d, if_pos f, e, e4]
    exact a3
  · rw [if_neg c, if_neg d, if_neg f, if_pos g, e, e4]
    exact a4
  · rw [if_neg c, if_neg d, if_neg f, if_neg g, e, e4]
    exact a5
def SG (G : GS) : Prop := ∀ j : Nat, (j : Int) < (G.1 31 5).toInt → (G.1 61 j).toInt = (G.1 112 j).toInt ∧ (G.1 62 j).toInt = (G.1 113 j).toInt ∧ (G.1 63 j).toInt = (G.1 114 j).toInt ∧ (G.1 64 j).toInt = (G.1 115 j).toInt ∧ (G.1 65 j).toInt = (G.1 116 j).toInt ∧ -1 ≤ (G.1 65 j).toInt
noncomputable def gSG (G : GS) : Int := ind (SG G)
theorem gSG_fr {rs : List Nat} {fs : List (Nat × Nat)} {G G1 : GS} (h : Fr rs fs G G1) (h1 : ∀ i ∈ [61, 62, 63, 64, 65, 112, 113, 114, 115, 116], i ∉ rs ∧ ∀ x ∈ fs, x.1 ≠ i) (h2 : ∀ y ∈ [(31, 5)], y.1 ∉ rs ∧ y ∉ fs) : gSG G1 = gSG G := by
  unfold gSG SG
  rw [h.i 31 5 (h2 (31, 5) (by decide)).1 (h2 (31, 5) (by decide)).2, h.rows h1 (i := 61) (by decide), h.rows h1 (i := 62) (by decide), h.rows h1 (i := 63) (by decide), h.rows h1 (i := 64) (by decide), h.rows h1 (i := 65) (by decide), h.rows h1 (i := 112) (by decide), h.rows h1 (i := 113) (by decide), h.rows h1 (i := 114) (by decide), h.rows h1 (i := 115) (by decide), h.rows h1 (i := 116) (by decide)]
theorem unt_eq {p q r r' : Int32} {G Ga Gb : GS} (hx : P_Wuntell p G r Ga) (hm : Q_untell q Ga r' Gb) (hpq : p.toInt = q.toInt) (hS : SG G) (hc : (G.1 31 5).toInt = (G.1 66 85).toInt) (ht : (G.1 31 6).toInt = (G.1 66 86).toInt) (ht0 : 0 ≤ (G.1 31 6).toInt) : r.toInt = r'.toInt ∧ SG Gb := by
  obtain rfl := Int32.toInt_inj.mp hpq
  have hFx := hx.2.1
  obtain ⟨-, -, -, r1, G2, hx, rfl, rfl⟩ := hx
  obtain ⟨-, -, -, y2, t2, r4, G5, hi, hm⟩ := hm
  obtain ⟨rfl, qi⟩ := q_isIn hi
  have z0 : (0 : Int32).toInt = 0 := rfl
  have c85 : G2.1 66 85 = G.1 66 85 := hFx.i 66 85 (by decide) (by decide)
  have c86 : G2.1 66 86 = G.1 66 86 := hFx.i 66 86 (by decide) (by decide)
  have c315 : G2.1 31 5 = G.1 31 5 := hFx.i 31 5 (by decide) (by decide)
  rw [c85] at t2
  obtain ⟨-, -, -, hx⟩ := hx
  have no : G = G2 → ¬ (0 ≤ p.toInt ∧ p.toInt < (G.1 31 5).toInt) → r1.toInt = 0 → r1.toInt = r'.toInt ∧ SG Gb := by
    intro e hn h0
    subst e
    have hr4 : r4.toInt = 0 := Classical.byContradiction (fun w => hn (by have := qi.mp w; clear qi hm hx; omega))
    rcases hm with ⟨-, rfl, rfl⟩ | ⟨c, -⟩
    · exact ⟨h0, hS⟩
    · exact absurd hr4 c
  rcases hx with ⟨c, e, e2⟩ | ⟨c, ⟨d, e, e2⟩ | ⟨d, y4, e4, ⟨f, e, hF2, w65⟩ | ⟨f, e, e2⟩⟩⟩
  · exact no e2 (fun w => by have := w.1; omega) (by rw [← e]; rfl)
  · exact no e2 (fun w => by have := w.2; omega) (by rw [← e]; rfl)
  · have hr4 : r4.toInt ≠ 0 := qi.mpr ⟨by clear qi hm; omega, by clear qi hm; omega⟩
    obtain ⟨j, hj⟩ : ∃ j : Nat, p.toInt = (j : Int) := ⟨p.toInt.toNat, by clear qi hm; omega⟩
    rw [cn_eq hj] at e4 w65
    have hS' := hS j (by clear qi hm; omega)
    have r116 : G2.1 116 = G.1 116 := hFx.row1 116 (by decide) (by decide)
    rcases hm with ⟨c2, -⟩ | ⟨-, y11, e11, ⟨g, e', hF3, w116⟩ | ⟨g, e', -⟩⟩
    · exact absurd c2 hr4
    · rw [cn_eq hj, c86] at w116
      refine ⟨by rw [← e, ← e'], fun i hi => ?_⟩
      have k315 : Gb.1 31 5 = G.1 31 5 := by rw [hF3.i 31 5 (by decide) (by decide), c315]
      rw [k315] at hi
      have hSi := hS i hi
      have rr : ∀ k, k = 61 ∨ k = 62 ∨ k = 63 ∨ k = 64 ∨ k = 112 ∨ k = 113 ∨ k = 114 ∨ k = 115 → Gb.1 k = G.1 k := by
        intro k hk
        rcases hk with rfl | rfl | rfl | rfl | rfl | rfl | rfl | rfl <;> rw [hF3.row1 _ (by decide) (by decide), hFx.row1 _ (by decide) (by decide)]
      rw [rr 61 (by simp), rr 62 (by simp), rr 63 (by simp), rr 64 (by simp), rr 112 (by simp), rr 113 (by simp), rr 114 (by simp), rr 115 (by simp), w116, hF3.row1 65 (by decide) (by decide), w65]
      refine ⟨hSi.1, hSi.2.1, hSi.2.2.1, hSi.2.2.2.1, ?_⟩
      by_cases hij : i = j
      · subst hij
        rw [show upd (G.1 65) i (G.1 31 6) i = G.1 31 6 from if_pos rfl, show upd (G2.1 116) i (G.1 66 86) i = G.1 66 86 from if_pos rfl]
        exact ⟨ht, by omega⟩
      · rw [show upd (G.1 65) j (G.1 31 6) i = G.1 65 i from if_neg hij, show upd (G2.1 116) j (G.1 66 86) i = G2.1 116 i from if_neg hij, r116]
        exact hSi.2.2.2.2
    · rw [e11, cn_eq hj, r116] at g
      rw [e4] at f
      have := hS'.2.2.2.2.1
      clear qi
      omega
  · obtain ⟨j, hj⟩ : ∃ j : Nat, p.toInt = (j : Int) := ⟨p.toInt.toNat, by clear qi hm; omega⟩
    subst e2
    rw [cn_eq hj] at e4
    have hS' := hS j (by clear qi hm; omega)
    have hr4 : r4.toInt ≠ 0 := qi.mpr ⟨by clear qi hm; omega, by clear qi hm; omega⟩
    rcases hm with ⟨c2, -⟩ | ⟨-, y11, e11, ⟨g, -⟩ | ⟨g, e', rfl⟩⟩
    · exact absurd c2 hr4
    · rw [e11, cn_eq hj] at g
      rw [e4] at f
      have h1 := hS'.2.2.2.2.1
      have h2 := hS'.2.2.2.2.2
      clear qi
      omega
    · exact ⟨by rw [← e, ← e'], hS⟩
def CW_1 (V : PV) (G : GS) : Prop := ((G.1 1 9).toInt = (V.1.length : Int) ∧ ∀ s, s < V.1.length → StC_1 s (V.1.getD s ([], [])).2 G ∧ ((V.1.getD s ([], [])).2.length : Int) ≤ 400) ∧ ((G.1 1 10).toInt = (V.2.1.length : Int) ∧ ∀ k, k < V.2.1.length → WkC_1 k (V.2.1.getD k ([], 0, 0, 0, 0)).2 G) ∧ ((G.1 1 11).toInt = (V.2.2.1.length : Int) ∧ (G.1 1 12).toInt = V.2.2.2.1 ∧ CodeC_1 0 (fcd V.2.2.1) G ∧ EndC_1 V.2.2.1 G) ∧ ((G.1 16 0).toInt = (V.2.2.2.2.1.getD (0, 1, 0)).1 ∧ (G.1 16 1).toInt = (V.2.2.2.2.1.getD (0, 1, 0)).2.1 ∧ (G.1 16 2).toInt = (V.2.2.2.2.1.getD (0, 1, 0)).2.2) ∧ (G.1 1 14).toInt = (V.2.2.2.2.2.1.getD (30, 10)).1 ∧ (G.1 1 15).toInt = (V.2.2.2.2.2.1.getD (30, 10)).2 ∧ (G.1 1 16).toInt = V.2.2.2.2.2.2.getD 0
theorem CV_1.cw {V : PV} {G : GS} (h : CV_1 V G) : CW_1 V G := by
  obtain ⟨⟨a1, -, a3⟩, ⟨b1, -, b3⟩, ⟨c1, -, c3, -, -, c6, c7⟩, ⟨-, d2⟩, ⟨-, e2, e3⟩, -, f2⟩ := h
  exact ⟨⟨a1, a3⟩, ⟨b1, b3⟩, ⟨c1, c3, c6, c7⟩, d2, e2, e3, f2⟩
def PQ_1 (G : GS) : Prop := ∃ V, CW_1 V G ∧ RV V G
theorem PQ_1.fr {G G1 : GS} (h : PQ_1 G) (hr : ∀ i, i ∈ [10, 11, 12, 13, 14, 15, 16, 17, 18, 72, 73, 74, 87, 88, 89, 90, 91, 92, 93, 94, 95, 96] → G1.1 i = G.1 i) (hf : ∀ y : Nat × Nat, y ∈ [(1, 9), (1, 10), (1, 11), (1, 12), (1, 13), (1, 14), (1, 15), (1, 16), (66, 22), (66, 52), (66, 53), (66, 54), (66, 55), (66, 56)] → G1.1 y.1 y.2 = G.1 y.1 y.2) : PQ_1 G1 := by
  obtain ⟨V, h1, h2⟩ := h
  refine ⟨V, ?_, ?_⟩
  · unfold CW_1 StC_1 WkC_1 CodeC_1 EndC_1 at h1 ⊢
    rw [hf (1, 9) (by decide), hf (1, 10) (by decide), hf (1, 11) (by decide), hf (1, 12) (by decide), hf (1, 13) (by decide), hf (1, 14) (by decide), hf (1, 15) (by decide), hf (1, 16) (by decide), hr 10 (by decide), hr 11 (by decide), hr 12 (by decide), hr 13 (by decide), hr 14 (by decide), hr 15 (by decide), hr 16 (by decide), hr 17 (by decide), hr 18 (by decide)]
    exact h1
  · unfold RV RSt RWk RCd at h2 ⊢
    rw [hf (66, 22) (by decide), hf (66, 52) (by decide), hf (66, 53) (by decide), hf (66, 54) (by decide), hf (66, 55) (by decide), hf (66, 56) (by decide), hr 72 (by decide), hr 73 (by decide), hr 74 (by decide), hr 87 (by decide), hr 88 (by decide), hr 89 (by decide), hr 90 (by decide), hr 91 (by decide), hr 92 (by decide), hr 93 (by decide), hr 94 (by decide), hr 95 (by decide), hr 96 (by decide)]
    exact h2
noncomputable def gPA (G : GS) : Int := ind (PQ_1 G)
theorem gPA_fr {rs : List Nat} {fs : List (Nat × Nat)} {G G1 : GS} (h : Fr rs fs G G1) (h1 : ∀ i ∈ [10, 11, 12, 13, 14, 15, 16, 17, 18, 72, 73, 74, 87, 88, 89, 90, 91, 92, 93, 94, 95, 96], i ∉ rs ∧ ∀ x ∈ fs, x.1 ≠ i) (h2 : ∀ y ∈ [(1, 9), (1, 10), (1, 11), (1, 12), (1, 13), (1, 14), (1, 15), (1, 16), (66, 22), (66, 52), (66, 53), (66, 54), (66, 55), (66, 56)], y.1 ∉ rs ∧ y ∉ fs) : gPA G1 = gPA G := by
  have e : PQ_1 G1 ↔ PQ_1 G := ⟨fun q => q.fr (fun i hi => (h.rows h1 hi).symm) (fun y hy => (h.i y.1 y.2 (h2 y hy).1 (h2 y hy).2).symm), fun q => q.fr (fun i hi => h.rows h1 hi) (fun y hy => h.i y.1 y.2 (h2 y hy).1 (h2 y hy).2)⟩
  unfold gPA
  rw [propext e]
theorem k_hasStreet_1_eq {p0 r : Int32} {G G1 : GS} (h : P_hasStreet_1 p0 G r G1) : G = G1 ∧ (r.toInt ≠ 0 ↔ (0 ≤ p0.toInt ∧ p0.toInt < (G.1 1 9).toInt)) := by
  obtain ⟨-, hF, -, -, hh⟩ := h
  have z : (0 : Int32).toInt = 0 := rfl
  have o : (1 : Int32).toInt = 1 := rfl
  refine ⟨hF.nil, ?_⟩
  rcases hh with ⟨c, rfl, -⟩ | ⟨c, ⟨d, rfl, -⟩ | ⟨d, rfl, -⟩⟩ <;> omega
theorem k_hasWalker_1_eq {p0 r : Int32} {G G1 : GS} (h : P_hasWalker_1 p0 G r G1) : G = G1 ∧ (r.toInt ≠ 0 ↔ (0 ≤ p0.toInt ∧ p0.toInt < (G.1 1 10).toInt)) := by
  obtain ⟨-, hF, -, -, hh⟩ := h
  have z : (0 : Int32).toInt = 0 := rfl
  have o : (1 : Int32).toInt = 1 := rfl
  refine ⟨hF.nil, ?_⟩
  rcases hh with ⟨c, rfl, -⟩ | ⟨c, ⟨d, rfl, -⟩ | ⟨d, rfl, -⟩⟩ <;> omega
theorem k_hasInch_1_eq {p0 p1 r : Int32} {G G1 : GS} (h : P_hasInch_1 p0 p1 G r G1) : G = G1 ∧ (r.toInt ≠ 0 ↔ ((0 ≤ p0.toInt ∧ p0.toInt < (G.1 1 9).toInt) ∧ 0 ≤ p1.toInt ∧ p1.toInt < (G.1 10 p0.toNatClampNeg).toInt)) := by
  obtain ⟨-, hF, -, -, r1, G2, hs, hh⟩ := h
  obtain ⟨rfl, qs⟩ := k_hasStreet_1_eq hs
  have z : (0 : Int32).toInt = 0 := rfl
  have o : (1 : Int32).toInt = 1 := rfl
  refine ⟨hF.nil, ?_⟩
  rcases hh with ⟨c, rfl, -⟩ | ⟨c, ⟨d, rfl, -⟩ | ⟨d, y9, rfl, ⟨e, rfl, -⟩ | ⟨e, rfl, -⟩⟩⟩
  · exact ⟨fun w => absurd z w, fun w => absurd c (qs.mpr w.1)⟩
  · exact ⟨fun w => absurd z w, fun w => by have := w.2.1; omega⟩
  · exact ⟨fun w => absurd z w, fun w => by have := w.2.2; omega⟩
  · exact ⟨fun _ => ⟨qs.mp c, d, e⟩, fun _ => by omega⟩
theorem len_1 {p q r r' : Int32} {G Ga Gb : GS} (hx : P_Wlength_1 p G r Ga) (hm : Q_length q Ga r' Gb) (hpq : p.toInt = q.toInt) (hP : PQ_1 G) : r.toInt = r'.toInt := by
  obtain rfl := Int32.toInt_inj.mp hpq
  have eG := hx.2.1.nil
  subst eG
  obtain ⟨V, hC, hR⟩ := hP
  obtain ⟨-, -, r1, G2, hs, hx⟩ := hx
  obtain ⟨-, -, r2, G3, hs2, hm⟩ := hm
  obtain ⟨rfl, q1⟩ := k_hasStreet_1_eq hs
  obtain ⟨rfl, q2⟩ := q_isStreet hs2
  rw [hC.1.1] at q1
  rw [hR.1.1] at q2
  rcases hx with ⟨c, rfl, -⟩ | ⟨c, y, e, rfl, -⟩
  · rcases hm with ⟨-, rfl, -⟩ | ⟨d, -⟩
    · rfl
    · exact absurd c (q1.mpr (q2.mp d))
  · rcases hm with ⟨d, -⟩ | ⟨d, y', e', rfl, -⟩
    · exact absurd d (q2.mpr (q1.mp c))
    · have hs := q1.mp c
      clear q1 q2
      obtain ⟨j, hj⟩ : ∃ j : Nat, p.toInt = (j : Int) := ⟨p.toInt.toNat, by omega⟩
      rw [cn_eq hj] at e e'
      rw [e, e', (hC.1.2 j (by omega)).1.1, (hR.1.2.2 j (by omega)).1.1]
theorem inch_1 {p0 p1 p2 q0 q1 q2 r r' : Int32} {G Ga Gb : GS} (hx : P_Winch_1 p0 p1 p2 G r Ga) (hm : Q_inch q0 q1 q2 Ga r' Gb) (i0 : p0.toInt = q0.toInt) (i1 : p1.toInt = q1.toInt) (i2 : p2.toInt = q2.toInt) (hP : PQ_1 G) : r.toInt = r'.toInt := by
  obtain rfl := Int32.toInt_inj.mp i0
  obtain rfl := Int32.toInt_inj.mp i1
  obtain rfl := Int32.toInt_inj.mp i2
  have eG := hx.2.1.nil
  subst eG
  obtain ⟨V, hC, hR⟩ := hP
  obtain ⟨-, -, r1, G2, hs, hx⟩ := hx
  obtain ⟨-, -, r2, G3, hs2, hm⟩ := hm
  obtain ⟨rfl, k1⟩ := k_hasInch_1_eq hs
  obtain ⟨rfl, k2⟩ := q_isStreet hs2
  have z : (-1 : Int32).toInt = -1 := rfl
  by_cases hst : 0 ≤ p0.toInt ∧ p0.toInt < (V.1.length : Int)
  · have hr2 : r2.toInt ≠ 0 := k2.mpr (by rw [hR.1.1]; exact hst)
    obtain ⟨s, hs'⟩ : ∃ s : Nat, p0.toInt = (s : Int) := ⟨p0.toInt.toNat, by clear k1 k2 hx hm; omega⟩
    have hsl : s < V.1.length := by clear k1 k2 hx hm; omega
    obtain ⟨hStC, -⟩ := hC.1.2 s hsl
    obtain ⟨hStR, -⟩ := hR.1.2.2 s hsl
    rw [hC.1.1, cn_eq hs', hStC.1] at k1
    rcases hm with ⟨c, -⟩ | ⟨-, r8, G9, hin, hm⟩
    · exact absurd c hr2
    obtain ⟨rfl, k3⟩ := q_isInch hin
    rw [cn_eq hs', hStR.1] at k3
    by_cases hxi : 0 ≤ p1.toInt ∧ p1.toInt < ((V.1.getD s ([], [])).2.length : Int)
    · have hr1 : r1.toInt ≠ 0 := k1.mpr ⟨hst, hxi⟩
      have hr8 : r8.toInt ≠ 0 := k3.mpr hxi
      clear k1 k2 k3
      obtain ⟨i, hi⟩ : ∃ i : Nat, p1.toInt = (i : Int) := ⟨p1.toInt.toNat, by clear hx hm; omega⟩
      have hil : i < (V.1.getD s ([], [])).2.length := by clear hx hm; omega
      obtain ⟨b1, b2, b3, b4⟩ := hStR.2 i hil
      obtain ⟨e1, hok⟩ := hStC.2 i hil
      rcases hm with ⟨c, -⟩ | ⟨-, y15, t15, y16, t16, hm⟩
      · exact absurd c hr8
      have hy : y16.toNatClampNeg = 400 * s + i := cn_eq (by clear hx hm; omega)
      rw [hy] at hm
      have hM : r'.toInt = (if p2.toInt < 0 ∨ 4 < p2.toInt then -1 else icA ((V.1.getD s ([], [])).2.getD i (0, 0, 0, 0)) p2.toInt) := by
        unfold icA
        rcases hm with ⟨c, y18, e18, ⟨d, r21, G22, ht, rfl, -⟩ | ⟨d, r21, G22, ht, rfl, -⟩⟩ | ⟨c, ⟨d, y, e, rfl, -⟩ | ⟨d, ⟨f, y, e, rfl, -⟩ | ⟨f, ⟨g, y, e, rfl, -⟩ | ⟨g, ⟨k, y41, e41, ⟨l, y43, e43, rfl, -⟩ | ⟨l, rfl, -⟩⟩ | ⟨k, rfl, -⟩⟩⟩⟩⟩
        · rw [e18, b1] at d
          rw [(q_truth ht).2, if_neg (by omega), if_pos c, if_neg (by omega)]
          rfl
        · rw [e18, b1] at d
          rw [(q_truth ht).2, if_neg (by omega), if_pos c, if_pos d]
          rfl
        · rw [if_neg (by omega), if_neg c, if_pos d, e, b2]
        · rw [if_neg (by omega), if_neg c, if_neg d, if_pos f, e, b3]
        · rw [if_neg (by omega), if_neg c, if_neg d, if_neg f, if_pos g, e, b4]
        · rw [e41, b1] at l
          rw [if_neg (by omega), if_neg c, if_neg d, if_neg f, if_neg g, if_neg (by omega), e43, b1]
        · rw [e41, b1] at l
          rw [if_neg (by omega), if_neg c, if_neg d, if_neg f, if_neg g, if_pos l]
          rfl
        · rw [if_pos (by omega)]
          rfl
      rw [hM]
      clear hM hm
      rcases hx with ⟨c, -⟩ | ⟨-, ⟨d, rfl, -⟩ | ⟨d, ⟨f, r10, G11, hat, r15, G16, hpt, rfl, -⟩ | ⟨f, rfl, -⟩⟩⟩
      · exact absurd c hr1
      · rw [if_pos (Or.inl d)]
        rfl
      · rw [if_neg (by omega)]
        obtain ⟨-, hFa, r3, G4, hs3, hat⟩ := hat
        obtain ⟨rfl, k4⟩ := k_hasInch_1_eq hs3
        rw [hC.1.1, cn_eq hs', hStC.1] at k4
        rcases hat with ⟨c, -⟩ | ⟨-, y8, t8, y9, t9, y10, e10, rfl, rfl⟩
        · exact absurd c (k4.mpr ⟨hst, hxi⟩)
        · rw [cn_eq (x := y9) (e := 400 * s + i) (by clear k4; omega), e1] at e10
          exact (k_part_eq hpt hok e10).2
      · rw [if_pos (Or.inr f)]
        rfl
    · have hr1 : r1.toInt = 0 := Classical.byContradiction (fun w => hxi (k1.mp w).2)
      have hr8 : r8.toInt = 0 := Classical.byContradiction (fun w => hxi (k3.mp w))
      rcases hm with ⟨-, rfl, -⟩ | ⟨c, -⟩
      · rcases hx with ⟨-, rfl, -⟩ | ⟨c, -⟩
        · rfl
        · exact absurd hr1 c
      · exact absurd hr8 c
  · have hr1 : r1.toInt = 0 := Classical.byContradiction (fun w => hst (by have := (k1.mp w).1; rw [hC.1.1] at this; exact this))
    have hr2 : r2.toInt = 0 := Classical.byContradiction (fun w => hst (by have := k2.mp w; rw [hR.1.1] at this; exact this))
    rcases hm with ⟨-, rfl, -⟩ | ⟨c, -⟩
    · rcases hx with ⟨-, rfl, -⟩ | ⟨c, -⟩
      · rfl
      · exact absurd hr1 c
    · exact absurd hr2 c
theorem k_stands_1_eq {V : PV} {p0 p1 p2 r : Int32} {G G1 : GS} (h : P_stands_1 p0 p1 p2 G r G1) (hC : CW_1 V G) : G = G1 ∧ (r.toInt ≠ 0 ↔ ((0 ≤ p0.toInt ∧ p0.toInt < (V.2.1.length : Int)) ∧ (0 ≤ p1.toInt ∧ p1.toInt < (V.1.length : Int)) ∧ 0 ≤ p2.toInt ∧ p2.toInt ≤ ((V.1.getD p1.toInt.toNat ([], [])).2.length : Int) - (V.2.1.getD p0.toInt.toNat ([], 0, 0, 0, 0)).2.1)) := by
  obtain ⟨-, hF, -, -, r1, G2, hw, hh⟩ := h
  obtain ⟨rfl, k1⟩ := k_hasWalker_1_eq hw
  rw [hC.2.1.1] at k1
  have z : (0 : Int32).toInt = 0 := rfl
  have o : (1 : Int32).toInt = 1 := rfl
  refine ⟨hF.nil, ?_⟩
  rcases hh with ⟨c, rfl, -⟩ | ⟨c, r10, G11, hs, hh⟩
  · exact ⟨fun w => absurd z w, fun w => absurd c (k1.mpr w.1)⟩
  have hw1 := k1.mp c
  obtain ⟨rfl, k2⟩ := k_hasStreet_1_eq hs
  rw [hC.1.1] at k2
  rcases hh with ⟨c2, rfl, -⟩ | ⟨c2, hh⟩
  · exact ⟨fun w => absurd z w, fun w => absurd c2 (k2.mpr w.2.1)⟩
  have hs1 := k2.mp c2
  clear k1 k2
  obtain ⟨w, hw'⟩ : ∃ w : Nat, p0.toInt = (w : Int) := ⟨p0.toInt.toNat, by omega⟩
  obtain ⟨s, hs'⟩ : ∃ s : Nat, p1.toInt = (s : Int) := ⟨p1.toInt.toNat, by omega⟩
  have ew : p0.toInt.toNat = w := by omega
  have es : p1.toInt.toNat = s := by omega
  rw [ew, es]
  rcases hh with ⟨d, rfl, -⟩ | ⟨d, y18, e18, y19, e19, y22, t22, hh⟩
  · exact ⟨fun w => absurd z w, fun w => by have := w.2.2.1; omega⟩
  rw [cn_eq hs'] at e18
  rw [cn_eq hw'] at e19
  have h18 : y18.toInt = ((V.1.getD s ([], [])).2.length : Int) := by rw [e18]; exact (hC.1.2 s (by omega)).1.1
  have h19 : y19.toInt = (V.2.1.getD w ([], 0, 0, 0, 0)).2.1 := by rw [e19]; exact (hC.2.1.2 w (by omega)).1
  rcases hh with ⟨e, rfl, -⟩ | ⟨e, rfl, -⟩
  · exact ⟨fun w => absurd z w, fun w => by have := w.2.2.2; omega⟩
  · exact ⟨fun _ => ⟨hw1, hs1, d, by omega⟩, fun _ => by omega⟩
theorem sight_1 {p0 p1 p2 q0 q1 q2 r r' : Int32} {G Ga Gb : GS} (hx : P_Wsight_1 p0 p1 p2 G r Ga) (hm : Q_sight q0 q1 q2 Ga r' Gb) (i0 : p0.toInt = q0.toInt) (i1 : p1.toInt = q1.toInt) (i2 : p2.toInt = q2.toInt) (hP : PQ_1 G) (hS : SG G) (hc : (G.1 31 5).toInt = (G.1 66 85).toInt) (hc0 : 0 ≤ (G.1 31 5).toInt) (hc20 : (G.1 31 5).toInt ≤ 20) (ht : (G.1 31 6).toInt = (G.1 66 86).toInt) : r.toInt = r'.toInt ∧ (Gb.1 31 5).toInt = (Gb.1 66 85).toInt ∧ SG Gb := by
  obtain rfl := Int32.toInt_inj.mp i0
  obtain rfl := Int32.toInt_inj.mp i1
  obtain rfl := Int32.toInt_inj.mp i2
  obtain ⟨V, hC, hR⟩ := hP
  have hFx := hx.2.1
  obtain ⟨-, -, r1, G2, hst, hx⟩ := hx
  obtain ⟨rfl, k1⟩ := k_stands_1_eq hst hC
  obtain ⟨-, -, -, r2, G3, hw, hm⟩ := hm
  obtain ⟨rfl, k2⟩ := q_isWalker hw
  have a52 : Ga.1 66 52 = G.1 66 52 := hFx.i 66 52 (by decide) (by decide)
  have a53 : Ga.1 66 53 = G.1 66 53 := hFx.i 66 53 (by decide) (by decide)
  have a85 : Ga.1 66 85 = G.1 66 85 := hFx.i 66 85 (by decide) (by decide)
  have a86 : Ga.1 66 86 = G.1 66 86 := hFx.i 66 86 (by decide) (by decide)
  have a91 : Ga.1 91 = G.1 91 := hFx.row1 91 (by decide) (by decide)
  have a92 : Ga.1 92 = G.1 92 := hFx.row1 92 (by decide) (by decide)
  rw [a53, hR.2.1.1] at k2
  -- what the reference asks
  have hM : (r1.toInt = 0 → -1 = r'.toInt ∧ Ga = Gb) ∧ (r1.toInt ≠ 0 → ((G.1 66 85).toInt = 20 ∧ -1 = r'.toInt ∧ Ga = Gb) ∨ ((G.1 66 85).toInt ≠ 20 ∧ r'.toInt = (G.1 66 85).toInt ∧ Fr [112, 113, 114, 115, 116] [(66, 85)] Ga Gb ∧ (Gb.1 66 85).toInt = (G.1 66 85).toInt + 1 ∧ Gb.1 112 = upd (Ga.1 112) (G.1 66 85).toNatClampNeg p0 ∧ Gb.1 113 = upd (Ga.1 113) (G.1 66 85).toNatClampNeg p1 ∧ Gb.1 114 = upd (Ga.1 114) (G.1 66 85).toNatClampNeg p2 ∧ Gb.1 115 = upd (Ga.1 115) (G.1 66 85).toNatClampNeg (G.1 66 86) ∧ Gb.1 116 = upd (Ga.1 116) (G.1 66 85).toNatClampNeg (-1))) := by
    have m1 : ((-1 : Int32)).toInt = -1 := rfl
    rcases hm with ⟨c, e, e2⟩ | ⟨c, r11, G12, hs, hm⟩
    · exact ⟨fun _ => ⟨by rw [← e]; rfl, e2⟩, fun w => absurd c (k2.mpr (k1.mp w).1)⟩
    obtain ⟨rfl, k3⟩ := q_isStreet hs
    rw [a52, hR.1.1] at k3
    rcases hm with ⟨c2, e, e2⟩ | ⟨c2, hm⟩
    · exact ⟨fun _ => ⟨by rw [← e]; rfl, e2⟩, fun w => absurd c2 (k3.mpr (k1.mp w).2.1)⟩
    have hw1 := k2.mp c
    have hs1 := k3.mp c2
    clear k2 k3
    obtain ⟨w, hw'⟩ : ∃ w : Nat, p0.toInt = (w : Int) := ⟨p0.toInt.toNat, by clear hm k1 hx; omega⟩
    obtain ⟨s, hs'⟩ : ∃ s : Nat, p1.toInt = (s : Int) := ⟨p1.toInt.toNat, by clear hm k1 hx; omega⟩
    have ew : p0.toInt.toNat = w := by clear hm k1 hx; omega
    have es : p1.toInt.toNat = s := by clear hm k1 hx; omega
    rw [ew, es] at k1
    rcases hm with ⟨d, e, e2⟩ | ⟨d, y21, e21, y23, e23, y25, t25, hm⟩
    · exact ⟨fun _ => ⟨by rw [← e]; rfl, e2⟩, fun w => by have := (k1.mp w).2.2.1; omega⟩
    rw [cn_eq hs', a91] at e21
    rw [cn_eq hw', a92] at e23
    have h21 : y21.toInt = ((V.1.getD s ([], [])).2.length : Int) := by rw [e21]; exact (hR.1.2.2 s (by clear hm k1 hx; omega)).1.1
    have h23 : y23.toInt = (V.2.1.getD w ([], 0, 0, 0, 0)).2.1 := by rw [e23]; exact (hR.2.1.2.2 w (by clear hm k1 hx; omega)).1
    rcases hm with ⟨e, e1, e2⟩ | ⟨e, hm⟩
    · exact ⟨fun _ => ⟨by rw [← e1]; rfl, e2⟩, fun w => by have := (k1.mp w).2.2.2; clear k1; omega⟩
    have hr1 : r1.toInt ≠ 0 := k1.mpr ⟨hw1, hs1, d, by clear hm k1 hx; omega⟩
    refine ⟨fun q => absurd q hr1, fun _ => ?_⟩
    rw [a85, a86] at hm
    rcases hm with ⟨f, e1, e2⟩ | ⟨f, y38, t38, y41, t41, e1, hFe, g85, g1, g2, g3, g4, g5⟩
    · exact Or.inl ⟨f, by rw [← e1]; rfl, e2⟩
    · exact Or.inr ⟨f, by rw [← e1]; omega, hFe, by rw [g85]; exact t38, g1, g2, g3, g4, g5⟩
  clear hm k2 k1
  rcases hx with ⟨c, e, rfl⟩ | ⟨c, r8, G9, htl, rfl, rfl⟩
  · obtain ⟨h1, rfl⟩ := hM.1 c
    exact ⟨by rw [← e, ← h1]; rfl, hc, hS⟩
  · obtain ⟨-, -, htl⟩ := htl
    rcases htl with ⟨d, y9, t9, e, hFt, g5, w1, w2, w3, w4, w5⟩ | ⟨d, e, e2⟩
    · rcases hM.2 c with ⟨f, -⟩ | ⟨f, h1, hFe, h85, z1, z2, z3, z4, z5⟩
      · omega
      · obtain ⟨n, hn⟩ : ∃ n : Nat, (G.1 31 5).toInt = (n : Int) := ⟨(G.1 31 5).toInt.toNat, by omega⟩
        rw [cn_eq hn] at w1 w2 w3 w4 w5
        rw [cn_eq (x := G.1 66 85) (e := n) (by omega)] at z1 z2 z3 z4 z5
        have k5 : (Gb.1 31 5).toInt = (n : Int) + 1 := by
          rw [hFe.i 31 5 (by decide) (by decide), g5]
          omega
        refine ⟨by rw [← e]; omega, by omega, fun j hj => ?_⟩
        rw [z1, z2, z3, z4, z5, hFe.row1 61 (by decide) (by decide), hFe.row1 62 (by decide) (by decide), hFe.row1 63 (by decide) (by decide), hFe.row1 64 (by decide) (by decide), hFe.row1 65 (by decide) (by decide), w1, w2, w3, w4, w5]
        by_cases hjn : j = n
        · subst hjn
          have u : ∀ (g : Nat → Int32) (v : Int32), upd g j v j = v := fun g v => if_pos rfl
          rw [u, u, u, u, u, u, u, u, u, u]
          exact ⟨rfl, rfl, rfl, ht, rfl, by decide⟩
        · have u : ∀ (g : Nat → Int32) (v : Int32), upd g n v j = g j := fun g v => if_neg hjn
          rw [u, u, u, u, u, u, u, u, u, u, hFx.row1 112 (by decide) (by decide), hFx.row1 113 (by decide) (by decide), hFx.row1 114 (by decide) (by decide), hFx.row1 115 (by decide) (by decide), hFx.row1 116 (by decide) (by decide)]
          exact hS j (by omega)
    · rcases hM.2 c with ⟨f, h1, rfl⟩ | ⟨f, -⟩
      · subst e2
        exact ⟨by rw [← e, ← h1]; rfl, hc, hS⟩
      · omega
def CW_2 (V : PV) (G : GS) : Prop := ((G.1 2 9).toInt = (V.1.length : Int) ∧ ∀ s, s < V.1.length → StC_2 s (V.1.getD s ([], [])).2 G ∧ ((V.1.getD s ([], [])).2.length : Int) ≤ 400) ∧ ((G.1 2 10).toInt = (V.2.1.length : Int) ∧ ∀ k, k < V.2.1.length → WkC_2 k (V.2.1.getD k ([], 0, 0, 0, 0)).2 G) ∧ ((G.1 2 11).toInt = (V.2.2.1.length : Int) ∧ (G.1 2 12).toInt = V.2.2.2.1 ∧ CodeC_2 0 (fcd V.2.2.1) G ∧ EndC_2 V.2.2.1 G) ∧ ((G.1 26 0).toInt = (V.2.2.2.2.1.getD (0, 1, 0)).1 ∧ (G.1 26 1).toInt = (V.2.2.2.2.1.getD (0, 1, 0)).2.1 ∧ (G.1 26 2).toInt = (V.2.2.2.2.1.getD (0, 1, 0)).2.2) ∧ (G.1 2 14).toInt = (V.2.2.2.2.2.1.getD (30, 10)).1 ∧ (G.1 2 15).toInt = (V.2.2.2.2.2.1.getD (30, 10)).2 ∧ (G.1 2 16).toInt = V.2.2.2.2.2.2.getD 0
theorem CV_2.cw {V : PV} {G : GS} (h : CV_2 V G) : CW_2 V G := by
  obtain ⟨⟨a1, -, a3⟩, ⟨b1, -, b3⟩, ⟨c1, -, c3, -, -, c6, c7⟩, ⟨-, d2⟩, ⟨-, e2, e3⟩, -, f2⟩ := h
  exact ⟨⟨a1, a3⟩, ⟨b1, b3⟩, ⟨c1, c3, c6, c7⟩, d2, e2, e3, f2⟩
def PQ_2 (G : GS) : Prop := ∃ V, CW_2 V G ∧ RV V G
theorem PQ_2.fr {G G1 : GS} (h : PQ_2 G) (hr : ∀ i, i ∈ [20, 21, 22, 23, 24, 25, 26, 27, 28, 72, 73, 74, 87, 88, 89, 90, 91, 92, 93, 94, 95, 96] → G1.1 i = G.1 i) (hf : ∀ y : Nat × Nat, y ∈ [(2, 9), (2, 10), (2, 11), (2, 12), (2, 13), (2, 14), (2, 15), (2, 16), (66, 22), (66, 52), (66, 53), (66, 54), (66, 55), (66, 56)] → G1.1 y.1 y.2 = G.1 y.1 y.2) : PQ_2 G1 := by
  obtain ⟨V, h1, h2⟩ := h
  refine ⟨V, ?_, ?_⟩
  · unfold CW_2 StC_2 WkC_2 CodeC_2 EndC_2 at h1 ⊢
    rw [hf (2, 9) (by decide), hf (2, 10) (by decide), hf (2, 11) (by decide), hf (2, 12) (by decide), hf (2, 13) (by decide), hf (2, 14) (by decide), hf (2, 15) (by decide), hf (2, 16) (by decide), hr 20 (by decide), hr 21 (by decide), hr 22 (by decide), hr 23 (by decide), hr 24 (by decide), hr 25 (by decide), hr 26 (by decide), hr 27 (by decide), hr 28 (by decide)]
    exact h1
  · unfold RV RSt RWk RCd at h2 ⊢
    rw [hf (66, 22) (by decide), hf (66, 52) (by decide), hf (66, 53) (by decide), hf (66, 54) (by decide), hf (66, 55) (by decide), hf (66, 56) (by decide), hr 72 (by decide), hr 73 (by decide), hr 74 (by decide), hr 87 (by decide), hr 88 (by decide), hr 89 (by decide), hr 90 (by decide), hr 91 (by decide), hr 92 (by decide), hr 93 (by decide), hr 94 (by decide), hr 95 (by decide), hr 96 (by decide)]
    exact h2
noncomputable def gPB (G : GS) : Int := ind (PQ_2 G)
theorem gPB_fr {rs : List Nat} {fs : List (Nat × Nat)} {G G1 : GS} (h : Fr rs fs G G1) (h1 : ∀ i ∈ [20, 21, 22, 23, 24, 25, 26, 27, 28, 72, 73, 74, 87, 88, 89, 90, 91, 92, 93, 94, 95, 96], i ∉ rs ∧ ∀ x ∈ fs, x.1 ≠ i) (h2 : ∀ y ∈ [(2, 9), (2, 10), (2, 11), (2, 12), (2, 13), (2, 14), (2, 15), (2, 16), (66, 22), (66, 52), (66, 53), (66, 54), (66, 55), (66, 56)], y.1 ∉ rs ∧ y ∉ fs) : gPB G1 = gPB G := by
  have e : PQ_2 G1 ↔ PQ_2 G := ⟨fun q => q.fr (fun i hi => (h.rows h1 hi).symm) (fun y hy => (h.i y.1 y.2 (h2 y hy).1 (h2 y hy).2).symm), fun q => q.fr (fun i hi => h.rows h1 hi) (fun y hy => h.i y.1 y.2 (h2 y hy).1 (h2 y hy).2)⟩
  unfold gPB
  rw [propext e]
theorem k_hasStreet_2_eq {p0 r : Int32} {G G1 : GS} (h : P_hasStreet_2 p0 G r G1) : G = G1 ∧ (r.toInt ≠ 0 ↔ (0 ≤ p0.toInt ∧ p0.toInt < (G.1 2 9).toInt)) := by
  obtain ⟨-, hF, -, -, hh⟩ := h
  have z : (0 : Int32).toInt = 0 := rfl
  have o : (1 : Int32).toInt = 1 := rfl
  refine ⟨hF.nil, ?_⟩
  rcases hh with ⟨c, rfl, -⟩ | ⟨c, ⟨d, rfl, -⟩ | ⟨d, rfl, -⟩⟩ <;> omega
theorem k_hasWalker_2_eq {p0 r : Int32} {G G1 : GS} (h : P_hasWalker_2 p0 G r G1) : G = G1 ∧ (r.toInt ≠ 0 ↔ (0 ≤ p0.toInt ∧ p0.toInt < (G.1 2 10).toInt)) := by
  obtain ⟨-, hF, -, -, hh⟩ := h
  have z : (0 : Int32).toInt = 0 := rfl
  have o : (1 : Int32).toInt = 1 := rfl
  refine ⟨hF.nil, ?_⟩
  rcases hh with ⟨c, rfl, -⟩ | ⟨c, ⟨d, rfl, -⟩ | ⟨d, rfl, -⟩⟩ <;> omega
theorem k_hasInch_2_eq {p0 p1 r : Int32} {G G1 : GS} (h : P_hasInch_2 p0 p1 G r G1) : G = G1 ∧ (r.toInt ≠ 0 ↔ ((0 ≤ p0.toInt ∧ p0.toInt < (G.1 2 9).toInt) ∧ 0 ≤ p1.toInt ∧ p1.toInt < (G.1 20 p0.toNatClampNeg).toInt)) := by
  obtain ⟨-, hF, -, -, r1, G2, hs, hh⟩ := h
  obtain ⟨rfl, qs⟩ := k_hasStreet_2_eq hs
  have z : (0 : Int32).toInt = 0 := rfl
  have o : (1 : Int32).toInt = 1 := rfl
  refine ⟨hF.nil, ?_⟩
  rcases hh with ⟨c, rfl, -⟩ | ⟨c, ⟨d, rfl, -⟩ | ⟨d, y9, rfl, ⟨e, rfl, -⟩ | ⟨e, rfl, -⟩⟩⟩
  · exact ⟨fun w => absurd z w, fun w => absurd c (qs.mpr w.1)⟩
  · exact ⟨fun w => absurd z w, fun w => by have := w.2.1; omega⟩
  · exact ⟨fun w => absurd z w, fun w => by have := w.2.2; omega⟩
  · exact ⟨fun _ => ⟨qs.mp c, d, e⟩, fun _ => by omega⟩
theorem len_2 {p q r r' : Int32} {G Ga Gb : GS} (hx : P_Wlength_2 p G r Ga) (hm : Q_length q Ga r' Gb) (hpq : p.toInt = q.toInt) (hP : PQ_2 G) : r.toInt = r'.toInt := by
  obtain rfl := Int32.toInt_inj.mp hpq
  have eG := hx.2.1.nil
  subst eG
  obtain ⟨V, hC, hR⟩ := hP
  obtain ⟨-, -, r1, G2, hs, hx⟩ := hx
  obtain ⟨-, -, r2, G3, hs2, hm⟩ := hm
  obtain ⟨rfl, q1⟩ := k_hasStreet_2_eq hs
  obtain ⟨rfl, q2⟩ := q_isStreet hs2
  rw [hC.1.1] at q1
  rw [hR.1.1] at q2
  rcases hx with ⟨c, rfl, -⟩ | ⟨c, y, e, rfl, -⟩
  · rcases hm with ⟨-, rfl, -⟩ | ⟨d, -⟩
    · rfl
    · exact absurd c (q1.mpr (q2.mp d))
  · rcases hm with ⟨d, -⟩ | ⟨d, y', e', rfl, -⟩
    · exact absurd d (q2.mpr (q1.mp c))
    · have hs := q1.mp c
      clear q1 q2
      obtain ⟨j, hj⟩ : ∃ j : Nat, p.toInt = (j : Int) := ⟨p.toInt.toNat, by omega⟩
      rw [cn_eq hj] at e e'
      rw [e, e', (hC.1.2 j (by omega)).1.1, (hR.1.2.2 j (by omega)).1.1]
theorem inch_2 {p0 p1 p2 q0 q1 q2 r r' : Int32} {G Ga Gb : GS} (hx : P_Winch_2 p0 p1 p2 G r Ga) (hm : Q_inch q0 q1 q2 Ga r' Gb) (i0 : p0.toInt = q0.toInt) (i1 : p1.toInt = q1.toInt) (i2 : p2.toInt = q2.toInt) (hP : PQ_2 G) : r.toInt = r'.toInt := by
  obtain rfl := Int32.toInt_inj.mp i0
  obtain rfl := Int32.toInt_inj.mp i1
  obtain rfl := Int32.toInt_inj.mp i2
  have eG := hx.2.1.nil
  subst eG
  obtain ⟨V, hC, hR⟩ := hP
  obtain ⟨-, -, r1, G2, hs, hx⟩ := hx
  obtain ⟨-, -, r2, G3, hs2, hm⟩ := hm
  obtain ⟨rfl, k1⟩ := k_hasInch_2_eq hs
  obtain ⟨rfl, k2⟩ := q_isStreet hs2
  have z : (-1 : Int32).toInt = -1 := rfl
  by_cases hst : 0 ≤ p0.toInt ∧ p0.toInt < (V.1.length : Int)
  · have hr2 : r2.toInt ≠ 0 := k2.mpr (by rw [hR.1.1]; exact hst)
    obtain ⟨s, hs'⟩ : ∃ s : Nat, p0.toInt = (s : Int) := ⟨p0.toInt.toNat, by clear k1 k2 hx hm; omega⟩
    have hsl : s < V.1.length := by clear k1 k2 hx hm; omega
    obtain ⟨hStC, -⟩ := hC.1.2 s hsl
    obtain ⟨hStR, -⟩ := hR.1.2.2 s hsl
    rw [hC.1.1, cn_eq hs', hStC.1] at k1
    rcases hm with ⟨c, -⟩ | ⟨-, r8, G9, hin, hm⟩
    · exact absurd c hr2
    obtain ⟨rfl, k3⟩ := q_isInch hin
    rw [cn_eq hs', hStR.1] at k3
    by_cases hxi : 0 ≤ p1.toInt ∧ p1.toInt < ((V.1.getD s ([], [])).2.length : Int)
    · have hr1 : r1.toInt ≠ 0 := k1.mpr ⟨hst, hxi⟩
      have hr8 : r8.toInt ≠ 0 := k3.mpr hxi
      clear k1 k2 k3
      obtain ⟨i, hi⟩ : ∃ i : Nat, p1.toInt = (i : Int) := ⟨p1.toInt.toNat, by clear hx hm; omega⟩
      have hil : i < (V.1.getD s ([], [])).2.length := by clear hx hm; omega
      obtain ⟨b1, b2, b3, b4⟩ := hStR.2 i hil
      obtain ⟨e1, hok⟩ := hStC.2 i hil
      rcases hm with ⟨c, -⟩ | ⟨-, y15, t15, y16, t16, hm⟩
      · exact absurd c hr8
      have hy : y16.toNatClampNeg = 400 * s + i := cn_eq (by clear hx hm; omega)
      rw [hy] at hm
      have hM : r'.toInt = (if p2.toInt < 0 ∨ 4 < p2.toInt then -1 else icA ((V.1.getD s ([], [])).2.getD i (0, 0, 0, 0)) p2.toInt) := by
        unfold icA
        rcases hm with ⟨c, y18, e18, ⟨d, r21, G22, ht, rfl, -⟩ | ⟨d, r21, G22, ht, rfl, -⟩⟩ | ⟨c, ⟨d, y, e, rfl, -⟩ | ⟨d, ⟨f, y, e, rfl, -⟩ | ⟨f, ⟨g, y, e, rfl, -⟩ | ⟨g, ⟨k, y41, e41, ⟨l, y43, e43, rfl, -⟩ | ⟨l, rfl, -⟩⟩ | ⟨k, rfl, -⟩⟩⟩⟩⟩
        · rw [e18, b1] at d
          rw [(q_truth ht).2, if_neg (by omega), if_pos c, if_neg (by omega)]
          rfl
        · rw [e18, b1] at d
          rw [(q_truth ht).2, if_neg (by omega), if_pos c, if_pos d]
          rfl
        · rw [if_neg (by omega), if_neg c, if_pos d, e, b2]
        · rw [if_neg (by omega), if_neg c, if_neg d, if_pos f, e, b3]
        · rw [if_neg (by omega), if_neg c, if_neg d, if_neg f, if_pos g, e, b4]
        · rw [e41, b1] at l
          rw [if_neg (by omega), if_neg c, if_neg d, if_neg f, if_neg g, if_neg (by omega), e43, b1]
        · rw [e41, b1] at l
          rw [if_neg (by omega), if_neg c, if_neg d, if_neg f, if_neg g, if_pos l]
          rfl
        · rw [if_pos (by omega)]
          rfl
      rw [hM]
      clear hM hm
      rcases hx with ⟨c, -⟩ | ⟨-, ⟨d, rfl, -⟩ | ⟨d, ⟨f, r10, G11, hat, r15, G16, hpt, rfl, -⟩ | ⟨f, rfl, -⟩⟩⟩
      · exact absurd c hr1
      · rw [if_pos (Or.inl d)]
        rfl
      · rw [if_neg (by omega)]
        obtain ⟨-, hFa, r3, G4, hs3, hat⟩ := hat
        obtain ⟨rfl, k4⟩ := k_hasInch_2_eq hs3
        rw [hC.1.1, cn_eq hs', hStC.1] at k4
        rcases hat with ⟨c, -⟩ | ⟨-, y8, t8, y9, t9, y10, e10, rfl, rfl⟩
        · exact absurd c (k4.mpr ⟨hst, hxi⟩)
        · rw [cn_eq (x := y9) (e := 400 * s + i) (by clear k4; omega), e1] at e10
          exact (k_part_eq hpt hok e10).2
      · rw [if_pos (Or.inr f)]
        rfl
    · have hr1 : r1.toInt = 0 := Classical.byContradiction (fun w => hxi (k1.mp w).2)
      have hr8 : r8.toInt = 0 := Classical.byContradiction (fun w => hxi (k3.mp w))
      rcases hm with ⟨-, rfl, -⟩ | ⟨c, -⟩
      · rcases hx with ⟨-, rfl, -⟩ | ⟨c, -⟩
        · rfl
        · exact absurd hr1 c
      · exact absurd hr8 c
  · have hr1 : r1.toInt = 0 := Classical.byContradiction (fun w => hst (by have := (k1.mp w).1; rw [hC.1.1] at this; exact this))
    have hr2 : r2.toInt = 0 := Classical.byContradiction (fun w => hst (by have := k2.mp w; rw [hR.1.1] at this; exact this))
    rcases hm with ⟨-, rfl, -⟩ | ⟨c, -⟩
    · rcases hx with ⟨-, rfl, -⟩ | ⟨c, -⟩
      · rfl
      · exact absurd hr1 c
    · exact absurd hr2 c
theorem k_stands_2_eq {V : PV} {p0 p1 p2 r : Int32} {G G1 : GS} (h : P_stands_2 p0 p1 p2 G r G1) (hC : CW_2 V G) : G = G1 ∧ (r.toInt ≠ 0 ↔ ((0 ≤ p0.toInt ∧ p0.toInt < (V.2.1.length : Int)) ∧ (0 ≤ p1.toInt ∧ p1.toInt < (V.1.length : Int)) ∧ 0 ≤ p2.toInt ∧ p2.toInt ≤ ((V.1.getD p1.toInt.toNat ([], [])).2.length : Int) - (V.2.1.getD p0.toInt.toNat ([], 0, 0, 0, 0)).2.1)) := by
  obtain ⟨-, hF, -, -, r1, G2, hw, hh⟩ := h
  obtain ⟨rfl, k1⟩ := k_hasWalker_2_eq hw
  rw [hC.2.1.1] at k1
  have z : (0 : Int32).toInt = 0 := rfl
  have o : (1 : Int32).toInt = 1 := rfl
  refine ⟨hF.nil, ?_⟩
  rcases hh with ⟨c, rfl, -⟩ | ⟨c, r10, G11, hs, hh⟩
  · exact ⟨fun w => absurd z w, fun w => absurd c (k1.mpr w.1)⟩
  have hw1 := k1.mp c
  obtain ⟨rfl, k2⟩ := k_hasStreet_2_eq hs
  rw [hC.1.1] at k2
  rcases hh with ⟨c2, rfl, -⟩ | ⟨c2, hh⟩
  · exact ⟨fun w => absurd z w, fun w => absurd c2 (k2.mpr w.2.1)⟩
  have hs1 := k2.mp c2
  clear k1 k2
  obtain ⟨w, hw'⟩ : ∃ w : Nat, p0.toInt = (w : Int) := ⟨p0.toInt.toNat, by omega⟩
  obtain ⟨s, hs'⟩ : ∃ s : Nat, p1.toInt = (s : Int) := ⟨p1.toInt.toNat, by omega⟩
  have ew : p0.toInt.toNat = w := by omega
  have es : p1.toInt.toNat = s := by omega
  rw [ew, es]
  rcases hh with ⟨d, rfl, -⟩ | ⟨d, y18, e18, y19, e19, y22, t22, hh⟩
  · exact ⟨fun w => absurd z w, fun w => by have := w.2.2.1; omega⟩
  rw [cn_eq hs'] at e18
  rw [cn_eq hw'] at e19
  have h18 : y18.toInt = ((V.1.getD s ([], [])).2.length : Int) := by rw [e18]; exact (hC.1.2 s (by omega)).1.1
  have h19 : y19.toInt = (V.2.1.getD w ([], 0, 0, 0, 0)).2.1 := by rw [e19]; exact (hC.2.1.2 w (by omega)).1
  rcases hh with ⟨e, rfl, -⟩ | ⟨e, rfl, -⟩
  · exact ⟨fun w => absurd z w, fun w => by have := w.2.2.2; omega⟩
  · exact ⟨fun _ => ⟨hw1, hs1, d, by omega⟩, fun _ => by omega⟩
theorem sight_2 {p0 p1 p2 q0 q1 q2 r r' : Int32} {G Ga Gb : GS} (hx : P_Wsight_2 p0 p1 p2 G r Ga) (hm : Q_sight q0 q1 q2 Ga r' Gb) (i0 : p0.toInt = q0.toInt) (i1 : p1.toInt = q1.toInt) (i2 : p2.toInt = q2.toInt) (hP : PQ_2 G) (hS : SG G) (hc : (G.1 31 5).toInt = (G.1 66 85).toInt) (hc0 : 0 ≤ (G.1 31 5).toInt) (hc20 : (G.1 31 5).toInt ≤ 20) (ht : (G.1 31 6).toInt = (G.1 66 86).toInt) : r.toInt = r'.toInt ∧ (Gb.1 31 5).toInt = (Gb.1 66 85).toInt ∧ SG Gb := by
  obtain rfl := Int32.toInt_inj.mp i0
  obtain rfl := Int32.toInt_inj.mp i1
  obtain rfl := Int32.toInt_inj.mp i2
  obtain ⟨V, hC, hR⟩ := hP
  have hFx := hx.2.1
  obtain ⟨-, -, r1, G2, hst, hx⟩ := hx
  obtain ⟨rfl, k1⟩ := k_stands_2_eq hst hC
  obtain ⟨-, -, -, r2, G3, hw, hm⟩ := hm
  obtain ⟨rfl, k2⟩ := q_isWalker hw
  have a52 : Ga.1 66 52 = G.1 66 52 := hFx.i 66 52 (by decide) (by decide)
  have a53 : Ga.1 66 53 = G.1 66 53 := hFx.i 66 53 (by decide) (by decide)
  have a85 : Ga.1 66 85 = G.1 66 85 := hFx.i 66 85 (by decide) (by decide)
  have a86 : Ga.1 66 86 = G.1 66 86 := hFx.i 66 86 (by decide) (by decide)
  have a91 : Ga.1 91 = G.1 91 := hFx.row1 91 (by decide) (by decide)
  have a92 : Ga.1 92 = G.1 92 := hFx.row1 92 (by decide) (by decide)
  rw [a53, hR.2.1.1] at k2
  -- what the reference asks
  have hM : (r1.toInt = 0 → -1 = r'.toInt ∧ Ga = Gb) ∧ (r1.toInt ≠ 0 → ((G.1 66 85).toInt = 20 ∧ -1 = r'.toInt ∧ Ga = Gb) ∨ ((G.1 66 85).toInt ≠ 20 ∧ r'.toInt = (G.1 66 85).toInt ∧ Fr [112, 113, 114, 115, 116] [(66, 85)] Ga Gb ∧ (Gb.1 66 85).toInt = (G.1 66 85).toInt + 1 ∧ Gb.1 112 = upd (Ga.1 112) (G.1 66 85).toNatClampNeg p0 ∧ Gb.1 113 = upd (Ga.1 113) (G.1 66 85).toNatClampNeg p1 ∧ Gb.1 114 = upd (Ga.1 114) (G.1 66 85).toNatClampNeg p2 ∧ Gb.1 115 = upd (Ga.1 115) (G.1 66 85).toNatClampNeg (G.1 66 86) ∧ Gb.1 116 = upd (Ga.1 116) (G.1 66 85).toNatClampNeg (-1))) := by
    have m1 : ((-1 : Int32)).toInt = -1 := rfl
    rcases hm with ⟨c, e, e2⟩ | ⟨c, r11, G12, hs, hm⟩
    · exact ⟨fun _ => ⟨by rw [← e]; rfl, e2⟩, fun w => absurd c (k2.mpr (k1.mp w).1)⟩
    obtain ⟨rfl, k3⟩ := q_isStreet hs
    rw [a52, hR.1.1] at k3
    rcases hm with ⟨c2, e, e2⟩ | ⟨c2, hm⟩
    · exact ⟨fun _ => ⟨by rw [← e]; rfl, e2⟩, fun w => absurd c2 (k3.mpr (k1.mp w).2.1)⟩
    have hw1 := k2.mp c
    have hs1 := k3.mp c2
    clear k2 k3
    obtain ⟨w, hw'⟩ : ∃ w : Nat, p0.toInt = (w : Int) := ⟨p0.toInt.toNat, by clear hm k1 hx; omega⟩
    obtain ⟨s, hs'⟩ : ∃ s : Nat, p1.toInt = (s : Int) := ⟨p1.toInt.toNat, by clear hm k1 hx; omega⟩
    have ew : p0.toInt.toNat = w := by clear hm k1 hx; omega
    have es : p1.toInt.toNat = s := by clear hm k1 hx; omega
    rw [ew, es] at k1
    rcases hm with ⟨d, e, e2⟩ | ⟨d, y21, e21, y23, e23, y25, t25, hm⟩
    · exact ⟨fun _ => ⟨by rw [← e]; rfl, e2⟩, fun w => by have := (k1.mp w).2.2.1; omega⟩
    rw [cn_eq hs', a91] at e21
    rw [cn_eq hw', a92] at e23
    have h21 : y21.toInt = ((V.1.getD s ([], [])).2.length : Int) := by rw [e21]; exact (hR.1.2.2 s (by clear hm k1 hx; omega)).1.1
    have h23 : y23.toInt = (V.2.1.getD w ([], 0, 0, 0, 0)).2.1 := by rw [e23]; exact (hR.2.1.2.2 w (by clear hm k1 hx; omega)).1
    rcases hm with ⟨e, e1, e2⟩ | ⟨e, hm⟩
    · exact ⟨fun _ => ⟨by rw [← e1]; rfl, e2⟩, fun w => by have := (k1.mp w).2.2.2; clear k1; omega⟩
    have hr1 : r1.toInt ≠ 0 := k1.mpr ⟨hw1, hs1, d, by clear hm k1 hx; omega⟩
    refine ⟨fun q => absurd q hr1, fun _ => ?_⟩
    rw [a85, a86] at hm
    rcases hm with ⟨f, e1, e2⟩ | ⟨f, y38, t38, y41, t41, e1, hFe, g85, g1, g2, g3, g4, g5⟩
    · exact Or.inl ⟨f, by rw [← e1]; rfl, e2⟩
    · exact Or.inr ⟨f, by rw [← e1]; omega, hFe, by rw [g85]; exact t38, g1, g2, g3, g4, g5⟩
  clear hm k2 k1
  rcases hx with ⟨c, e, rfl⟩ | ⟨c, r8, G9, htl, rfl, rfl⟩
  · obtain ⟨h1, rfl⟩ := hM.1 c
    exact ⟨by rw [← e, ← h1]; rfl, hc, hS⟩
  · obtain ⟨-, -, htl⟩ := htl
    rcases htl with ⟨d, y9, t9, e, hFt, g5, w1, w2, w3, w4, w5⟩ | ⟨d, e, e2⟩
    · rcases hM.2 c with ⟨f, -⟩ | ⟨f, h1, hFe, h85, z1, z2, z3, z4, z5⟩
      · omega
      · obtain ⟨n, hn⟩ : ∃ n : Nat, (G.1 31 5).toInt = (n : Int) := ⟨(G.1 31 5).toInt.toNat, by omega⟩
        rw [cn_eq hn] at w1 w2 w3 w4 w5
        rw [cn_eq (x := G.1 66 85) (e := n) (by omega)] at z1 z2 z3 z4 z5
        have k5 : (Gb.1 31 5).toInt = (n : Int) + 1 := by
          rw [hFe.i 31 5 (by decide) (by decide), g5]
          omega
        refine ⟨by rw [← e]; omega, by omega, fun j hj => ?_⟩
        rw [z1, z2, z3, z4, z5, hFe.row1 61 (by decide) (by decide), hFe.row1 62 (by decide) (by decide), hFe.row1 63 (by decide) (by decide), hFe.row1 64 (by decide) (by decide), hFe.row1 65 (by decide) (by decide), w1, w2, w3, w4, w5]
        by_cases hjn : j = n
        · subst hjn
          have u : ∀ (g : Nat → Int32) (v : Int32), upd g j v j = v := fun g v => if_pos rfl
          rw [u, u, u, u, u, u, u, u, u, u]
          exact ⟨rfl, rfl, rfl, ht, rfl, by decide⟩
        · have u : ∀ (g : Nat → Int32) (v : Int32), upd g n v j = g j := fun g v => if_neg hjn
          rw [u, u, u, u, u, u, u, u, u, u, hFx.row1 112 (by decide) (by decide), hFx.row1 113 (by decide) (by decide), hFx.row1 114 (by decide) (by decide), hFx.row1 115 (by decide) (by decide), hFx.row1 116 (by decide) (by decide)]
          exact hS j (by omega)
    · rcases hM.2 c with ⟨f, h1, rfl⟩ | ⟨f, -⟩
      · subst e2
        exact ⟨by rw [← e, ← h1]; rfl, hc, hS⟩
      · omega

/-! what a formula's code is like: its pieces, how deep it goes, how long it is -/
def sgO (o : Int) : Prop := o = 124 ∨ o = 38 ∨ o = 60 ∨ o = 62 ∨ o = 61 ∨ o = 43 ∨ o = 45 ∨ o = 42 ∨ o = 47 ∨ o = 37
def cOK (c : Int × Int) : Prop := (c.1 = 0 ∧ 0 ≤ c.2 ∧ c.2 ≤ 9999) ∨ (c.1 = 1 ∧ 0 ≤ c.2 ∧ c.2 ≤ 8) ∨ (c.1 = 2 ∧ c.2 = 0) ∨ (c.1 = 3 ∧ sgO c.2)
def dst (d : Option Nat) (c : Int × Int) : Option Nat := match d with
  | none => none
  | some k => if c.1 ≤ 1 then some (k + 1) else if c.1 = 2 then (if 1 ≤ k then some k else none) else (if 2 ≤ k then some (k - 1) else none)
def dep (C : List (Int × Int)) : Option Nat := C.foldl dst (some 0)
theorem dep_snoc {C : List (Int × Int)} {c : Int × Int} : dep (C ++ [c]) = dst (dep C) c := by simp [dep, List.foldl_append]
def bin : List Int → Nat
  | [] => 0
  | o :: S => if o = 20 ∨ o = 21 then bin S else bin S + 1
def n21 : List Int → Nat
  | [] => 0
  | o :: S => if o = 21 then n21 S + 1 else n21 S
def nNo (C : List (Int × Int)) : Nat := (C.filter (fun c => decide (c.1 = 2))).length
def nPu (C : List (Int × Int)) : Nat := (C.filter (fun c => decide (c.1 ≤ 1))).length
theorem nNo_snoc {C : List (Int × Int)} {c : Int × Int} : nNo (C ++ [c]) = nNo C + (if c.1 = 2 then 1 else 0) := by
  unfold nNo
  rw [List.filter_append, List.length_append]
  by_cases h : c.1 = 2
  · rw [if_pos h, List.filter_cons_of_pos (by simpa using h)]
    rfl
  · rw [if_neg h, List.filter_cons_of_neg (by simpa using h)]
    rfl
theorem nPu_snoc {C : List (Int × Int)} {c : Int × Int} : nPu (C ++ [c]) = nPu C + (if c.1 ≤ 1 then 1 else 0) := by
  unfold nPu
  rw [List.filter_append, List.length_append]
  by_cases h : c.1 ≤ 1
  · rw [if_pos h, List.filter_cons_of_pos (by simpa using h)]
    rfl
  · rw [if_neg h, List.filter_cons_of_neg (by simpa using h)]
    rfl
/-- code and signs that wait, with so many values on the stack -/
def CI (d : Nat) (S : List Int) (C : List (Int × Int)) : Prop := (∀ c ∈ C, cOK c) ∧ (∀ o ∈ S, o = 20 ∨ o = 21 ∨ sgO o) ∧ dep C = some d ∧ d = bin S + 1 ∧ C.length + d = 2 * nPu C + nNo C
theorem sgO_n {o : Int} (h : sgO o) : o ≠ 20 ∧ o ≠ 21 := by
  unfold sgO at h
  omega
theorem CI_clo (L : Int) : ∀ (S : List Int) (C : List (Int × Int)) (d : Nat), CI d S C → ∃ d', CI d' (clo L S C).1 (clo L S C).2 ∧ nPu (clo L S C).2 = nPu C ∧ nNo (clo L S C).2 + n21 (clo L S C).1 = nNo C + n21 S
  | [], C, d, h => ⟨d, h, rfl, rfl⟩
  | o :: S, C, d, h => by
    rw [clo]
    by_cases ho : o ≠ 20 ∧ L ≤ tgt o
    · rw [if_pos ho]
      obtain ⟨h1, h2, h3, h4, h5⟩ := h
      have hoo := h2 o (by simp)
      by_cases h21 : o = 21
      · subst h21
        have hc : cdo 21 = (2, 0) := rfl
        have hb : bin (21 :: S) = bin S := by rw [bin, if_pos (Or.inr rfl)]
        have hn : n21 (21 :: S) = n21 S + 1 := by rw [n21, if_pos rfl]
        have hCI : CI d S (C ++ [cdo 21]) := by
          refine ⟨fun c hc' => ?_, fun x hx => h2 x (by simp [hx]), ?_, by omega, ?_⟩
          · rcases List.mem_append.mp hc' with q | q
            · exact h1 c q
            · rw [List.mem_singleton] at q
              subst q
              exact Or.inr (Or.inr (Or.inl ⟨rfl, rfl⟩))
          · rw [dep_snoc, h3, hc]
            show dst (some d) (2, 0) = some d
            simp only [dst]
            rw [if_neg (by decide), if_pos (by trivial), if_pos (by omega)]
          · rw [List.length_append, nPu_snoc, nNo_snoc, hc]
            show C.length + 1 + d = 2 * (nPu C + (if (2 : Int) ≤ 1 then 1 else 0)) + (nNo C + (if (2 : Int) = 2 then 1 else 0))
            rw [if_neg (by decide), if_pos rfl]
            omega
        obtain ⟨d', k1, k2, k3⟩ := CI_clo L S (C ++ [cdo 21]) d hCI
        refine ⟨d', k1, ?_, ?_⟩
        · rw [k2, nPu_snoc, hc]
          rfl
        · rw [k3, nNo_snoc, hc, hn]
          show nNo C + (if (2 : Int) = 2 then 1 else 0) + n21 S = _
          rw [if_pos rfl]
          omega
      · have hsg : sgO o := by
          rcases hoo with q | q | q
          · exact absurd q ho.1
          · exact absurd q h21
          · exact q
        have hc : cdo o = (3, o) := by
          unfold cdo
          rw [if_neg h21]
        have hb : bin (o :: S) = bin S + 1 := by rw [bin, if_neg (fun q => q.elim ho.1 h21)]
        have hn : n21 (o :: S) = n21 S := by rw [n21, if_neg h21]
        have hCI : CI (d - 1) S (C ++ [cdo o]) := by
          refine ⟨fun c hc' => ?_, fun x hx => h2 x (by simp [hx]), ?_, by omega, ?_⟩
          · rcases List.mem_append.mp hc' with q | q
            · exact h1 c q
            · rw [List.mem_singleton] at q
              subst q
              rw [hc]
              exact Or.inr (Or.inr (Or.inr ⟨rfl, hsg⟩))
          · rw [dep_snoc, h3, hc]
            show (if (3 : Int) ≤ 1 then some (d + 1) else if (3 : Int) = 2 then (if 1 ≤ d then some d else none) else (if 2 ≤ d then some (d - 1) else none)) = some (d - 1)
            rw [if_neg (by decide), if_neg (by decide), if_pos (by omega)]
          · rw [List.length_append, nPu_snoc, nNo_snoc, hc]
            show C.length + 1 + (d - 1) = 2 * (nPu C + (if (3 : Int) ≤ 1 then 1 else 0)) + (nNo C + (if (3 : Int) = 2 then 1 else 0))
            rw [if_neg (by decide), if_neg (by decide)]
            omega
        obtain ⟨d', k1, k2, k3⟩ := CI_clo L S (C ++ [cdo o]) (d - 1) hCI
        refine ⟨d', k1, ?_, ?_⟩
        · rw [k2, nPu_snoc, hc]
          rfl
        · rw [k3, nNo_snoc, hc, hn]
          show nNo C + (if (3 : Int) = 2 then 1 else 0) + n21 S = _
          rw [if_neg (by decide)]
          rfl
    · rw [if_neg ho]
      exact ⟨d, h, rfl, rfl⟩
/-- ahead of a unit there is one value less -/
def CIb (S : List Int) (C : List (Int × Int)) : Prop := (∀ c ∈ C, cOK c) ∧ (∀ o ∈ S, o = 20 ∨ o = 21 ∨ sgO o) ∧ dep C = some (bin S) ∧ C.length + bin S = 2 * nPu C + nNo C
/-- the place, against the nots: each is three letters with none directly behind -/
def NP (b : Nat → Int) (n p0 p N : Nat) : Prop := p0 ≤ p ∧ 4 * N ≤ p - p0 + 1 ∧ (4 * N ≤ p - p0 ∨ ¬ (p < n ∧ ltr (b p) = true))
def FSI (b : Nat → Int) (n p0 : Nat) (w0 : Int) (s : FS) : Prop := s.2.1 ≤ n ∧ NP b n p0 s.2.1 (nNo s.2.2.2.1 + n21 s.2.2.1) ∧ (nPu s.2.2.2.1 : Int) ≤ s.2.2.2.2.1 ∧ s.2.2.2.2.2 = w0 + s.2.2.2.2.1 ∧ 0 ≤ s.2.2.2.2.1 ∧ s.2.2.2.2.1 ≤ 30 ∧ (if s.1 = true then CIb s.2.2.1 s.2.2.2.1 else ∃ d, CI d s.2.2.1 s.2.2.2.1)
theorem tN_w {b : Nat → Int} {n p : Nat} (hn : n ≤ 1600) (hp : p ≤ n) (hk : 128 ≤ tK b n p ∧ tK b n p ≤ 200) : tNx b n p = tS b n p + (tL b n p).length ∧ ltr (b (tS b n p)) = true ∧ ¬ (tNx b n p < n ∧ ltr (b (tNx b n p)) = true) ∧ (tS b n p = p ∨ ¬ (p < n ∧ ltr (b p) = true)) := by
  have hs := tS_p (b := b) hn hp
  have h1 : ¬ n ≤ tS b n p := by
    intro q
    have : tK b n p = 203 := by
      unfold tK
      rw [if_pos q]
    omega
  have h2 : ltr (b (tS b n p)) = true := by
    refine Classical.byContradiction (fun q => ?_)
    have hk2 : tK b n p = (if dgt (b (tS b n p)) = true then (if 4 < tD b n p - tS b n p ∨ (tD b n p < n ∧ ltr (b (tD b n p)) = true) then 202 else 201) else if sgn (b (tS b n p)) = true then b (tS b n p) else 202) := by
      unfold tK
      rw [if_neg h1, if_neg q]
    by_cases hd : dgt (b (tS b n p)) = true
    · rw [if_pos hd] at hk2
      split at hk2 <;> omega
    · rw [if_neg hd] at hk2
      by_cases hg : sgn (b (tS b n p)) = true
      · rw [if_pos hg] at hk2
        have := sgn_i.mp hg
        omega
      · rw [if_neg hg] at hk2
        omega
  have h3 : tNx b n p = tW b n p := by
    unfold tNx
    rw [if_neg h1, if_pos h2]
  obtain ⟨r1, r2, r3, r4⟩ := rn_p (c := ltr) (b := b) (n := n) 1601 (tS b n p) (by omega)
  refine ⟨?_, h2, ?_, ?_⟩
  · rw [h3]
    unfold tL
    rw [cut_len]
    show tW b n p = _
    have : tS b n p ≤ tW b n p := r1
    omega
  · rw [h3]
    exact r4
  · by_cases he : tS b n p = p
    · exact Or.inl he
    · obtain ⟨s1, s2, s3, s4⟩ := rn_p (c := blk) (b := b) (n := n) 1601 p (by omega)
      have := s3 p (Nat.le_refl p) (by have : p ≤ tS b n p := hs.1; show p < tS b n p; omega)
      refine Or.inr (fun q => ?_)
      have e1 := blk_i.mp this.2
      have e2 := ltr_i.mp q.2
      omega

/-! along the stack of signs -/
theorem NP_up {b : Nat → Int} {n p0 p q N : Nat} (h : NP b n p0 p N) (hq : p < q) : NP b n p0 q N := by
  obtain ⟨h1, h2, -⟩ := h
  exact ⟨by omega, by omega, Or.inl (by omega)⟩
theorem NP_not {b : Nat → Int} {n p0 p N : Nat} (hn : n ≤ 1600) (hp : p ≤ n) (hk : tK b n p = 146) (h : NP b n p0 p N) : NP b n p0 (tNx b n p) (N + 1) := by
  obtain ⟨h1, h2, h3⟩ := h
  obtain ⟨g1, g2, g3, g4⟩ := tN_w (b := b) hn hp (by omega)
  have hL : (tL b n p).length = 3 := by
    have hw := tK_w (b := b) hn hp (by omega) (by omega)
    have : tL b n p = KW.getD 18 [] := (kwd_iff (i := 18) (by decide)).mp (by rw [← hw.1, hk]; rfl)
    rw [this]
    rfl
  have hs := tS_p (b := b) hn hp
  have hst := (tN_p (b := b) hn hp).2.2 (by omega)
  refine ⟨by omega, ?_, Or.inr g3⟩
  rcases h3 with q | q
  · omega
  · rcases g4 with e | e
    · refine absurd ⟨by omega, ?_⟩ q
      rw [← e]
      exact g2
    · have : tS b n p ≠ p := fun e' => q ⟨by omega, by rw [← e']; exact g2⟩
      omega
theorem val_r : ∀ (L : List Int), (∀ x ∈ L, 48 ≤ x ∧ x ≤ 57) → 0 ≤ val L ∧ val L < 10 ^ L.length := by
  intro L
  have key : ∀ M : List Int, (∀ x ∈ M, 48 ≤ x ∧ x ≤ 57) → 0 ≤ val M.reverse ∧ val M.reverse < 10 ^ M.length := by
    intro M
    induction M with
    | nil => intro _; exact ⟨by decide, by decide⟩
    | cons x M ih =>
      intro hM
      have i := ih (fun z hz => hM z (by simp [hz]))
      have hx := hM x (by simp)
      rw [List.reverse_cons, val_snoc, List.length_cons, Int.pow_succ]
      omega
  intro h
  have := key L.reverse (fun x hx => h x (List.mem_reverse.mp hx))
  rw [List.reverse_reverse, List.length_reverse] at this
  exact this
theorem tV_r {b : Nat → Int} {n p : Nat} (hn : n ≤ 1600) (hp : p ≤ n) (hk : tK b n p = 201) : 0 ≤ tV b n p ∧ tV b n p ≤ 9999 := by
  have hs := tS_p (b := b) hn hp
  have h1 : ¬ n ≤ tS b n p := by
    intro q
    have : tK b n p = 203 := by
      unfold tK
      rw [if_pos q]
    omega
  obtain ⟨r1, r2, r3, r4⟩ := rn_p (c := dgt) (b := b) (n := n) 1601 (tS b n p) (by omega)
  have h4 : tD b n p - tS b n p ≤ 4 := by
    refine Classical.byContradiction (fun q => ?_)
    unfold tK at hk
    rw [if_neg h1] at hk
    by_cases h2 : ltr (b (tS b n p)) = true
    · rw [if_pos h2] at hk
      have := kwd_r (tL b n p)
      split at hk <;> omega
    · rw [if_neg h2] at hk
      by_cases h3 : dgt (b (tS b n p)) = true
      · rw [if_pos h3, if_pos (Or.inl (by omega))] at hk
        omega
      · rw [if_neg h3] at hk
        by_cases h5 : sgn (b (tS b n p)) = true
        · rw [if_pos h5] at hk
          have := sgn_i.mp h5
          omega
        · rw [if_neg h5] at hk
          omega
  have hv := val_r (cut b (tS b n p) (tD b n p)) (fun x hx => by
    obtain ⟨k, k1, k2, rfl⟩ := cut_mem hx
    exact dgt_i.mp (r3 k k1 k2).2)
  rw [cut_len] at hv
  have hpow : (10 : Int) ^ (tD b n p - tS b n p) ≤ 10000 := by
    have h5 : tD b n p - tS b n p = 0 ∨ tD b n p - tS b n p = 1 ∨ tD b n p - tS b n p = 2 ∨ tD b n p - tS b n p = 3 ∨ tD b n p - tS b n p = 4 := by omega
    rcases h5 with e | e | e | e | e <;> rw [e] <;> decide
  refine ⟨hv.1, ?_⟩
  have : tV b n p < 10000 := Int.lt_of_lt_of_le hv.2 hpow
  omega
theorem ask_r (k : Int) : ask k ≤ 8 ∧ -1 ≤ ask k := by
  unfold ask
  repeat' split
  all_goals omega
theorem clo0_nil : ∀ {S : List Int} {C : List (Int × Int)}, ¬ (20 : Int) ∈ S → (clo 0 S C).1 = []
  | [], _, _ => rfl
  | o :: S, C, h => by
    rw [clo, if_pos ⟨fun e => h (by simp [e]), by have := tgt_r o; omega⟩]
    exact clo0_nil (fun q => h (by simp [q]))
theorem sig_sg {k : Int} (h : sig k ≠ 0) : sgO (sig k) := by
  unfold sig at h ⊢
  unfold sgO
  by_cases h1 : k = 145
  · rw [if_pos h1]
    omega
  · rw [if_neg h1] at h ⊢
    by_cases h2 : k = 144
    · rw [if_pos h2]
      omega
    · rw [if_neg h2] at h ⊢
      by_cases h3 : k = 60 ∨ k = 62 ∨ k = 61 ∨ k = 43 ∨ k = 45 ∨ k = 42 ∨ k = 47 ∨ k = 37
      · rw [if_pos h3]
        omega
      · rw [if_neg h3] at h
        exact absurd rfl h
theorem FSI_step {b : Nat → Int} {n p0 : Nat} {w0 : Int} {s s' : FS} (hn : n ≤ 1600) (h : FSI b n p0 w0 s) (hs : sy b n s = .inl s') : FSI b n p0 w0 s' := by
  obtain ⟨m, p, S, C, u, w⟩ := s
  obtain ⟨h1, h2, h3, h4, h5, h6, h7⟩ := h
  simp only at h1 h2 h3 h4 h5 h6 h7
  have ht := tN_p (b := b) hn h1
  cases m with
  | true =>
    rw [if_pos rfl] at h7
    have hs' : syB b n p S C u w = .inl s' := hs
    unfold syB at hs'
    by_cases c1 : tK b n p = 146 ∧ mno S = true
    · rw [if_pos c1] at hs'
      by_cases c2 : 6 < dps S
      · rw [if_pos c2] at hs'
        exact absurd hs' (by simp)
      · rw [if_neg c2] at hs'
        have e := Sum.inl.inj hs'
        subst e
        have hb : bin (21 :: S) = bin S := by rw [bin, if_pos (Or.inr rfl)]
        have h21 : n21 (21 :: S) = n21 S + 1 := by rw [n21, if_pos rfl]
        refine ⟨ht.2.1, ?_, h3, h4, h5, h6, ?_⟩
        · show NP b n p0 (tNx b n p) (nNo C + n21 (21 :: S))
          rw [h21, ← Nat.add_assoc]
          exact NP_not hn h1 c1.1 h2
        · show if true = true then CIb (21 :: S) C else _
          rw [if_pos rfl]
          refine ⟨h7.1, fun o ho => ?_, by rw [hb]; exact h7.2.2.1, by rw [hb]; exact h7.2.2.2⟩
          rcases List.mem_cons.mp ho with e | e
          · exact Or.inr (Or.inl e)
          · exact h7.2.1 o e
    · rw [if_neg c1] at hs'
      by_cases c2 : tK b n p = 40
      · rw [if_pos c2] at hs'
        have hlt := (ht.2.2 (by omega)).1
        by_cases c3 : (w = 90 ∨ u = 30) ∨ 6 < dps S
        · rw [if_pos c3] at hs'
          exact absurd hs' (by simp)
        · rw [if_neg c3] at hs'
          have e := Sum.inl.inj hs'
          subst e
          have hb : bin (20 :: S) = bin S := by rw [bin, if_pos (Or.inl rfl)]
          have h21 : n21 (20 :: S) = n21 S := by rw [n21, if_neg (by decide)]
          refine ⟨ht.2.1, ?_, ?_, ?_, ?_, ?_, ?_⟩
          · show NP b n p0 (tNx b n p) (nNo C + n21 (20 :: S))
            rw [h21]
            exact NP_up h2 hlt
          · show (nPu C : Int) ≤ u + 1
            omega
          · show w + 1 = w0 + (u + 1)
            omega
          · show 0 ≤ u + 1
            omega
          · show u + 1 ≤ 30
            omega
          · show if true = true then CIb (20 :: S) C else _
            rw [if_pos rfl]
            refine ⟨h7.1, fun o ho => ?_, by rw [hb]; exact h7.2.2.1, by rw [hb]; exact h7.2.2.2⟩
            rcases List.mem_cons.mp ho with e | e
            · exact Or.inl e
            · exact h7.2.1 o e
      · rw [if_neg c2] at hs'
        by_cases c3 : (tK b n p ≠ 201 ∧ ask (tK b n p) < 0) ∨ (w = 90 ∨ u = 30)
        · rw [if_pos c3] at hs'
          exact absurd hs' (by simp)
        · rw [if_neg c3] at hs'
          have e := Sum.inl.inj hs'
          subst e
          have hne : tK b n p ≠ 203 := fun q => c3 (Or.inl ⟨by omega, by rw [q]; decide⟩)
          have hlt := (ht.2.2 hne).1
          obtain ⟨c, hc⟩ : ∃ c : Int × Int, c = (if ask (tK b n p) < 0 then (0, tV b n p) else (1, ask (tK b n p))) := ⟨_, rfl⟩
          rw [← hc]
          have hc1 : c.1 ≤ 1 ∧ c.1 ≠ 2 ∧ cOK c := by
            rw [hc]
            by_cases ha : ask (tK b n p) < 0
            · rw [if_pos ha]
              have k201 : tK b n p = 201 := Classical.byContradiction (fun q => c3 (Or.inl ⟨q, ha⟩))
              have hv := tV_r hn h1 k201
              exact ⟨by show (0 : Int) ≤ 1; decide, by show (0 : Int) ≠ 2; decide, Or.inl ⟨rfl, hv.1, hv.2⟩⟩
            · rw [if_neg ha]
              have har := ask_r (tK b n p)
              exact ⟨by show (1 : Int) ≤ 1; decide, by show (1 : Int) ≠ 2; decide, Or.inr (Or.inl ⟨rfl, by show 0 ≤ ask (tK b n p); omega, har.1⟩)⟩
          obtain ⟨k1, k2, k3⟩ := hc1
          refine ⟨ht.2.1, ?_, ?_, ?_, ?_, ?_, ?_⟩
          · show NP b n p0 (tNx b n p) (nNo (C ++ [c]) + n21 S)
            rw [nNo_snoc, if_neg k2, Nat.add_zero]
            exact NP_up h2 hlt
          · show (nPu (C ++ [c]) : Int) ≤ u + 1
            rw [nPu_snoc, if_pos k1]
            omega
          · show w + 1 = w0 + (u + 1)
            omega
          · show 0 ≤ u + 1
            omega
          · show u + 1 ≤ 30
            omega
          · show if false = true then _ else ∃ d, CI d S (C ++ [c])
            rw [if_neg (by decide)]
            refine ⟨bin S + 1, fun x hx => ?_, h7.2.1, ?_, rfl, ?_⟩
            · rcases List.mem_append.mp hx with q | q
              · exact h7.1 x q
              · rw [List.mem_singleton] at q
                subst q
                exact k3
            · rw [dep_snoc, h7.2.2.1]
              show (if c.1 ≤ 1 then some (bin S + 1) else _) = _
              rw [if_pos k1]
            · rw [List.length_append, nPu_snoc, nNo_snoc, if_pos k1, if_neg k2, List.length_singleton]
              have := h7.2.2.2
              omega
  | false =>
    rw [if_neg (by decide)] at h7
    obtain ⟨d, h7⟩ := h7
    have hs' : syA b n p S C u w = .inl s' := hs
    unfold syA at hs'
    by_cases c1 : tK b n p = 41 ∧ 20 ∈ S
    · rw [if_pos c1] at hs'
      have hlt := (ht.2.2 (by omega)).1
      have e := Sum.inl.inj hs'
      subst e
      obtain ⟨d', k1, k2, k3⟩ := CI_clo 0 S C d h7
      obtain ⟨T, hT⟩ := clo0_br (S := S) (C := C) c1.2
      rw [hT] at k1 k3
      have hb : bin (20 :: T) = bin T := by rw [bin, if_pos (Or.inl rfl)]
      have h21 : n21 (20 :: T) = n21 T := by rw [n21, if_neg (by decide)]
      rw [h21] at k3
      rw [hT]
      refine ⟨ht.2.1, ?_, ?_, h4, h5, h6, ?_⟩
      · show NP b n p0 (tNx b n p) (nNo (clo 0 S C).2 + n21 T)
        rw [k3]
        exact NP_up h2 hlt
      · show (nPu (clo 0 S C).2 : Int) ≤ u
        rw [k2]
        exact h3
      · show if false = true then _ else ∃ d, CI d T (clo 0 S C).2
        rw [if_neg (by decide)]
        exact ⟨d', k1.1, fun o ho => k1.2.1 o (by simp [ho]), k1.2.2.1, by rw [← hb]; exact k1.2.2.2.1, k1.2.2.2.2⟩
    · rw [if_neg c1] at hs'
      by_cases c2 : sig (tK b n p) ≠ 0 ∧ ¬ (tgt (sig (tK b n p)) = 4 ∧ hrl S = true)
      · rw [if_pos c2] at hs'
        have hsn := sig_n c2.1
        have hlt := (ht.2.2 hsn.2.2).1
        have e := Sum.inl.inj hs'
        subst e
        obtain ⟨d', k1, k2, k3⟩ := CI_clo (tgt (sig (tK b n p))) S C d h7
        have hsg := sig_sg c2.1
        have hne := sgO_n hsg
        have hb : ∀ T, bin (sig (tK b n p) :: T) = bin T + 1 := fun T => by rw [bin, if_neg (fun q => q.elim hne.1 hne.2)]
        have h21 : ∀ T, n21 (sig (tK b n p) :: T) = n21 T := fun T => by rw [n21, if_neg hne.2]
        refine ⟨ht.2.1, ?_, ?_, h4, h5, h6, ?_⟩
        · show NP b n p0 (tNx b n p) (nNo (clo (tgt (sig (tK b n p))) S C).2 + n21 (sig (tK b n p) :: (clo (tgt (sig (tK b n p))) S C).1))
          rw [h21, k3]
          exact NP_up h2 hlt
        · show (nPu (clo (tgt (sig (tK b n p))) S C).2 : Int) ≤ u
          rw [k2]
          exact h3
        · show if true = true then CIb (sig (tK b n p) :: (clo (tgt (sig (tK b n p))) S C).1) (clo (tgt (sig (tK b n p))) S C).2 else _
          rw [if_pos rfl]
          refine ⟨k1.1, fun o ho => ?_, ?_, ?_⟩
          · rcases List.mem_cons.mp ho with e | e
            · subst e
              exact Or.inr (Or.inr hsg)
            · exact k1.2.1 o e
          · rw [hb, ← k1.2.2.2.1]
            exact k1.2.2.1
          · rw [hb, ← k1.2.2.2.1]
            exact k1.2.2.2.2
      · rw [if_neg c2] at hs'
        by_cases c3 : (20 : Int) ∈ S
        · rw [if_pos c3] at hs'
          exact absurd hs' (by simp)
        · rw [if_neg c3] at hs'
          exact absurd hs' (by simp)
/-- a formula's code: its pieces, one value at its end, its length -/
def FEnd (p0 p' : Nat) (w0 : Int) (C : List (Int × Int)) (u w : Int) : Prop := (∀ c ∈ C, cOK c) ∧ dep C = some 1 ∧ C.length + 1 = 2 * nPu C + nNo C ∧ (nPu C : Int) ≤ u ∧ 0 ≤ u ∧ u ≤ 30 ∧ w = w0 + u ∧ p0 ≤ p' ∧ 4 * nNo C ≤ p' - p0 + 1
theorem FSI_end {b : Nat → Int} {n p0 p' : Nat} {w0 u w : Int} {C : List (Int × Int)} {s : FS} (h : FSI b n p0 w0 s) (hs : sy b n s = .inr (.inr (p', C, u, w))) : FEnd p0 p' w0 C u w := by
  obtain ⟨m, p, S, C0, u0, w0'⟩ := s
  obtain ⟨h1, h2, h3, h4, h5, h6, h7⟩ := h
  simp only at h1 h2 h3 h4 h5 h6 h7
  cases m with
  | true =>
    have hs' : syB b n p S C0 u0 w0' = .inr (.inr (p', C, u, w)) := hs
    unfold syB at hs'
    split at hs'
    · split at hs' <;> exact absurd hs' (by simp)
    · split at hs'
      · split at hs' <;> exact absurd hs' (by simp)
      · split at hs' <;> exact absurd hs' (by simp)
  | false =>
    rw [if_neg (by decide)] at h7
    obtain ⟨d, h7⟩ := h7
    have hs' : syA b n p S C0 u0 w0' = .inr (.inr (p', C, u, w)) := hs
    unfold syA at hs'
    by_cases c1 : tK b n p = 41 ∧ 20 ∈ S
    · rw [if_pos c1] at hs'
      exact absurd hs' (by simp)
    · rw [if_neg c1] at hs'
      by_cases c2 : sig (tK b n p) ≠ 0 ∧ ¬ (tgt (sig (tK b n p)) = 4 ∧ hrl S = true)
      · rw [if_pos c2] at hs'
        exact absurd hs' (by simp)
      · rw [if_neg c2] at hs'
        by_cases c3 : (20 : Int) ∈ S
        · rw [if_pos c3] at hs'
          exact absurd hs' (by simp)
        · rw [if_neg c3] at hs'
          have e := Sum.inr.inj (Sum.inr.inj hs')
          obtain ⟨rfl, e2⟩ := Prod.mk.inj e
          obtain ⟨rfl, e3⟩ := Prod.mk.inj e2
          obtain ⟨rfl, rfl⟩ := Prod.mk.inj e3
          obtain ⟨d', k1, k2, k3⟩ := CI_clo 0 S C0 d h7
          rw [clo0_nil c3] at k1 k3
          have hd : d' = 1 := k1.2.2.2.1
          subst hd
          have hz : n21 [] = 0 := rfl
          rw [hz, Nat.add_zero] at k3
          refine ⟨k1.1, k1.2.2.1, k1.2.2.2.2, ?_, h5, h6, h4, h2.1, ?_⟩
          · rw [k2]
            exact h3
          · have := h2.2.1
            omega
theorem Ev_ok {b : Nat → Int} {n p p' : Nat} {w u w' : Int} {C : List (Int × Int)} (hn : n ≤ 1600) (hp : p ≤ n) (h : Ev b n (true, p, [], [], 0, w) (.inr (p', C, u, w'))) : FEnd p p' w C u w' := by
  obtain ⟨k, hk⟩ := h
  have key : ∀ (k : Nat) (s : FS), FSI b n p w s → itn b n k s = some (.inr (p', C, u, w')) → FEnd p p' w C u w' := by
    intro k
    induction k with
    | zero => intro s _ h1; exact absurd h1 (by simp [itn])
    | succ k ih =>
      intro s hs h1
      rw [itn] at h1
      cases e : sy b n s with
      | inr o =>
        rw [e] at h1
        have := Option.some.inj h1
        subst this
        exact FSI_end hs e
      | inl s' =>
        rw [e] at h1
        exact ih s' (FSI_step hn hs e) h1
  refine key k (true, p, [], [], 0, w) ⟨hp, ⟨Nat.le_refl p, Nat.zero_le _, Or.inl (Nat.zero_le _)⟩, by show ((0 : Nat) : Int) ≤ 0; decide, by show w = w + 0; omega, by show (0 : Int) ≤ 0; decide, by show (0 : Int) ≤ 30; decide, ?_⟩ hk
  show if true = true then CIb [] [] else _
  rw [if_pos rfl]
  exact ⟨fun c hc => absurd hc (by simp), fun o ho => absurd ho (by simp), rfl, rfl⟩
