/-! what pavement copies, by the reference -/
def RSt (s : Nat) (I : List IC) (G : GS) : Prop := (G.1 91 s).toInt = (I.length : Int) ∧ ∀ i, i < I.length → (G.1 87 (400 * s + i)).toInt = (I.getD i (0, 0, 0, 0)).1 ∧ (G.1 88 (400 * s + i)).toInt = (I.getD i (0, 0, 0, 0)).2.1 ∧ (G.1 89 (400 * s + i)).toInt = (I.getD i (0, 0, 0, 0)).2.2.1 ∧ (G.1 90 (400 * s + i)).toInt = (I.getD i (0, 0, 0, 0)).2.2.2
def RWk (k : Nat) (x : WK) (G : GS) : Prop := (G.1 92 k).toInt = x.1 ∧ (G.1 93 k).toInt = x.2.1 ∧ (G.1 94 k).toInt = x.2.2.1 ∧ (G.1 95 k).toInt = x.2.2.2
def RCd (k : Nat) (C : List (Int × Int)) (G : GS) : Prop := (G.1 74 k).toInt = (C.length : Int) ∧ ∀ i, i < C.length → (G.1 72 (320 * k + i)).toInt = (C.getD i (0, 0)).1 ∧ (G.1 73 (320 * k + i)).toInt = (C.getD i (0, 0)).2
def RV (V : PV) (G : GS) : Prop := ((G.1 66 52).toInt = (V.1.length : Int) ∧ V.1.length ≤ 3 ∧ ∀ s, s < V.1.length → RSt s (V.1.getD s ([], [])).2 G ∧ ((V.1.getD s ([], [])).2.length : Int) ≤ 400) ∧ ((G.1 66 53).toInt = (V.2.1.length : Int) ∧ V.2.1.length ≤ 4 ∧ ∀ k, k < V.2.1.length → RWk k (V.2.1.getD k ([], 0, 0, 0, 0)).2 G) ∧ ((G.1 66 54).toInt = (V.2.2.1.length : Int) ∧ V.2.2.1.length ≤ 6 ∧ (G.1 66 22).toInt = V.2.2.2.1 ∧ ∀ k, k < V.2.2.1.length → RCd k (V.2.2.1.getD k ([], [])).2 G ∧ (V.2.2.1.getD k ([], [])).2.length ≤ 320) ∧ ((G.1 96 0).toInt = (V.2.2.2.2.1.getD (0, 1, 0)).1 ∧ (G.1 96 1).toInt = (V.2.2.2.2.1.getD (0, 1, 0)).2.1 ∧ (G.1 96 2).toInt = (V.2.2.2.2.1.getD (0, 1, 0)).2.2) ∧ (G.1 66 55).toInt = (V.2.2.2.2.2.1.getD (30, 10)).1 ∧ (G.1 66 56).toInt = (V.2.2.2.2.2.1.getD (30, 10)).2
theorem l_slips {x : Int32} {G G1 : GS} (hl : Rc (St_n_pavement_1) (0, G) (x, G1)) (hx : 3 ≤ x.toInt) : ∀ j, j < 3 → G1.1 96 j = G.1 86 j := by
  have hI := hl (fun q => q.2.1 86 = G.1 86 ∧ ∃ k : Nat, q.1.toInt = (k : Int) ∧ ∀ j, j < k → q.2.1 96 j = G.1 86 j) ⟨rfl, 0, rfl, fun j hj => absurd hj (Nat.not_lt_zero j)⟩ (by
    rintro ⟨x1, G_1⟩ ⟨xn, G_1n⟩ ⟨i1, k, i2, i3⟩ ⟨x1q, G_1q, xnq, G_1nq, q1, q2, -, -, -, c, y1, e1, y2, t2, ex, hF, e96⟩
    obtain ⟨rfl, rfl⟩ := Prod.mk.inj q1
    obtain ⟨rfl, rfl⟩ := Prod.mk.inj q2
    simp only at i1 i2 i3
    rw [cn_eq i2] at e1 e96
    refine ⟨(hF.row1 86 (by decide) (by decide)).trans i1, k + 1, by show xn.toInt = _; rw [← ex]; omega, fun j hj => ?_⟩
    show G_1n.1 96 j = _
    rw [e96]
    by_cases hjk : j = k
    · subst hjk
      rw [show upd (G_1.1 96) j y1 j = y1 from if_pos rfl, e1, i1]
    · rw [show upd (G_1.1 96) k y1 j = G_1.1 96 j from if_neg hjk]
      exact i3 j (by omega))
  obtain ⟨-, k, i2, i3⟩ := hI
  have i2' : x.toInt = (k : Int) := i2
  exact fun j hj => i3 j (by omega)
theorem l_walkers {x : Int32} {G2 G G1 : GS} (hl : Rc (St_n_pavement_4 G2) (0, G) (x, G1)) {n : Nat} (hx : (n : Int) ≤ x.toInt) : ∀ j, j < n → G1.1 92 j = G.1 82 j ∧ G1.1 93 j = G.1 83 j ∧ G1.1 94 j = G.1 84 j ∧ G1.1 95 j = G.1 85 j := by
  have hI := hl (fun q => (q.2.1 82 = G.1 82 ∧ q.2.1 83 = G.1 83 ∧ q.2.1 84 = G.1 84 ∧ q.2.1 85 = G.1 85) ∧ ∃ k : Nat, q.1.toInt = (k : Int) ∧ ∀ j, j < k → q.2.1 92 j = G.1 82 j ∧ q.2.1 93 j = G.1 83 j ∧ q.2.1 94 j = G.1 84 j ∧ q.2.1 95 j = G.1 85 j) ⟨⟨rfl, rfl, rfl, rfl⟩, 0, rfl, fun j hj => absurd hj (Nat.not_lt_zero j)⟩ (by
    rintro ⟨x1, G_1⟩ ⟨xn, G_1n⟩ ⟨⟨i1, i2, i3, i4⟩, k, i5, i6⟩ ⟨x1q, G_1q, xnq, G_1nq, q1, q2, -, -, -, c, y1, e1, y2, e2, y3, e3, y4, e4, y5, t5, ex, hF, w1, w2, w3, w4⟩
    obtain ⟨rfl, rfl⟩ := Prod.mk.inj q1
    obtain ⟨rfl, rfl⟩ := Prod.mk.inj q2
    simp only at i1 i2 i3 i4 i5 i6
    rw [cn_eq i5] at e1 e2 e3 e4 w1 w2 w3 w4
    refine ⟨⟨(hF.row1 82 (by decide) (by decide)).trans i1, (hF.row1 83 (by decide) (by decide)).trans i2, (hF.row1 84 (by decide) (by decide)).trans i3, (hF.row1 85 (by decide) (by decide)).trans i4⟩, k + 1, by show xn.toInt = _; rw [← ex]; omega, fun j hj => ?_⟩
    show G_1n.1 92 j = _ ∧ G_1n.1 93 j = _ ∧ G_1n.1 94 j = _ ∧ G_1n.1 95 j = _
    rw [w1, w2, w3, w4]
    by_cases hjk : j = k
    · subst hjk
      have e : ∀ (g : Nat → Int32) (v : Int32), upd g j v j = v := fun g v => if_pos rfl
      rw [e, e, e, e, e1, e2, e3, e4, i1, i2, i3, i4]
      exact ⟨rfl, rfl, rfl, rfl⟩
    · have e : ∀ (g : Nat → Int32) (v : Int32), upd g k v j = g j := fun g v => if_neg hjk
      rw [e, e, e, e]
      exact i6 j (by omega))
  obtain ⟨-, k, i5, i6⟩ := hI
  have i5' : x.toInt = (k : Int) := i5
  exact fun j hj => i6 j (by omega)
/-- one STREET's INCHES -/
theorem l_street {x51 y x : Int32} {G G1 : GS} {s len : Nat} (hl : Rc (St_n_pavement_7 x51) (y, G) (x, G1)) (hs : x51.toInt = (s : Int)) (hy : y.toInt = 400 * (s : Int)) (hlen : (G.1 91 s).toInt = (len : Int)) (hx : 400 * (s : Int) + (len : Int) ≤ x.toInt) : (∀ j, j < 400 * s → G1.1 87 j = G.1 87 j ∧ G1.1 88 j = G.1 88 j ∧ G1.1 89 j = G.1 89 j ∧ G1.1 90 j = G.1 90 j) ∧ ∀ i, i < len → G1.1 87 (400 * s + i) = G.1 77 (400 * s + i) ∧ G1.1 88 (400 * s + i) = G.1 78 (400 * s + i) ∧ G1.1 89 (400 * s + i) = G.1 79 (400 * s + i) ∧ G1.1 90 (400 * s + i) = G.1 80 (400 * s + i) := by
  have hI := hl (fun q => (q.2.1 77 = G.1 77 ∧ q.2.1 78 = G.1 78 ∧ q.2.1 79 = G.1 79 ∧ q.2.1 80 = G.1 80 ∧ q.2.1 91 = G.1 91) ∧ (∀ j, j < 400 * s → q.2.1 87 j = G.1 87 j ∧ q.2.1 88 j = G.1 88 j ∧ q.2.1 89 j = G.1 89 j ∧ q.2.1 90 j = G.1 90 j) ∧ ∃ m : Nat, q.1.toInt = 400 * (s : Int) + (m : Int) ∧ ∀ i, i < m → q.2.1 87 (400 * s + i) = G.1 77 (400 * s + i) ∧ q.2.1 88 (400 * s + i) = G.1 78 (400 * s + i) ∧ q.2.1 89 (400 * s + i) = G.1 79 (400 * s + i) ∧ q.2.1 90 (400 * s + i) = G.1 80 (400 * s + i)) ⟨⟨rfl, rfl, rfl, rfl, rfl⟩, fun _ _ => ⟨rfl, rfl, rfl, rfl⟩, 0, by simpa using hy, fun j hj => absurd hj (Nat.not_lt_zero j)⟩ (by
    rintro ⟨x1, G_1⟩ ⟨xn, G_1n⟩ ⟨⟨i1, i2, i3, i4, i9⟩, i5, m, i6, i7⟩ ⟨x1q, G_1q, xnq, G_1nq, q1, q2, -, -, z1, s1, z2, s2, z3, s3, c, y1, e1, y2, e2, y3, e3, y4, e4, y5, t5, ex, hF, w1, w2, w3, w4⟩
    obtain ⟨rfl, rfl⟩ := Prod.mk.inj q1
    obtain ⟨rfl, rfl⟩ := Prod.mk.inj q2
    simp only at i1 i2 i3 i4 i5 i6 i7 i9
    rw [cn_eq (x := x1) (e := 400 * s + m) (by omega)] at e1 e2 e3 e4 w1 w2 w3 w4
    refine ⟨⟨(hF.row1 77 (by decide) (by decide)).trans i1, (hF.row1 78 (by decide) (by decide)).trans i2, (hF.row1 79 (by decide) (by decide)).trans i3, (hF.row1 80 (by decide) (by decide)).trans i4, (hF.row1 91 (by decide) (by decide)).trans i9⟩, fun j hj => ?_, m + 1, by show xn.toInt = _; rw [← ex]; omega, fun i hi => ?_⟩
    · show G_1n.1 87 j = _ ∧ G_1n.1 88 j = _ ∧ G_1n.1 89 j = _ ∧ G_1n.1 90 j = _
      have e : ∀ (g : Nat → Int32) (v : Int32), upd g (400 * s + m) v j = g j := fun g v => if_neg (by omega)
      rw [w1, w2, w3, w4, e, e, e, e]
      exact i5 j hj
    · show G_1n.1 87 (400 * s + i) = _ ∧ G_1n.1 88 (400 * s + i) = _ ∧ G_1n.1 89 (400 * s + i) = _ ∧ G_1n.1 90 (400 * s + i) = _
      rw [w1, w2, w3, w4]
      by_cases hik : i = m
      · subst hik
        have e : ∀ (g : Nat → Int32) (v : Int32), upd g (400 * s + i) v (400 * s + i) = v := fun g v => if_pos rfl
        rw [e, e, e, e, e1, e2, e3, e4, i1, i2, i3, i4]
        exact ⟨rfl, rfl, rfl, rfl⟩
      · have e : ∀ (g : Nat → Int32) (v : Int32), upd g (400 * s + m) v (400 * s + i) = g (400 * s + i) := fun g v => if_neg (by omega)
        rw [e, e, e, e]
        exact i7 i (by omega))
  obtain ⟨-, i5, m, i6, i7⟩ := hI
  have i6' : x.toInt = 400 * (s : Int) + (m : Int) := i6
  exact ⟨i5, fun i hi => i7 i (by omega)⟩
theorem l_streets {x : Int32} {G2 G G1 : GS} (hl : Rc (St_n_pavement_3 G2) (0, G) (x, G1)) {n : Nat} (hx : (n : Int) ≤ x.toInt) (hn : n ≤ 3) (hR : (G2.1 66 45).toInt ≤ 3) (hG : ∀ s, s < 3 → 0 ≤ (G.1 81 s).toInt ∧ (G.1 81 s).toInt ≤ 400) : ∀ s, s < n → G1.1 91 s = G.1 81 s ∧ ∀ i : Nat, (i : Int) < (G.1 81 s).toInt → G1.1 87 (400 * s + i) = G.1 77 (400 * s + i) ∧ G1.1 88 (400 * s + i) = G.1 78 (400 * s + i) ∧ G1.1 89 (400 * s + i) = G.1 79 (400 * s + i) ∧ G1.1 90 (400 * s + i) = G.1 80 (400 * s + i) := by
  have hI := hl (fun q => (q.2.1 77 = G.1 77 ∧ q.2.1 78 = G.1 78 ∧ q.2.1 79 = G.1 79 ∧ q.2.1 80 = G.1 80 ∧ q.2.1 81 = G.1 81) ∧ ∃ k : Nat, q.1.toInt = (k : Int) ∧ ∀ s, s < k → s < 3 → q.2.1 91 s = G.1 81 s ∧ ∀ i : Nat, (i : Int) < (G.1 81 s).toInt → q.2.1 87 (400 * s + i) = G.1 77 (400 * s + i) ∧ q.2.1 88 (400 * s + i) = G.1 78 (400 * s + i) ∧ q.2.1 89 (400 * s + i) = G.1 79 (400 * s + i) ∧ q.2.1 90 (400 * s + i) = G.1 80 (400 * s + i)) ⟨⟨rfl, rfl, rfl, rfl, rfl⟩, 0, rfl, fun j hj => absurd hj (Nat.not_lt_zero j)⟩ (by
    rintro ⟨x1, G_1⟩ ⟨xn, G_1n⟩ ⟨⟨i1, i2, i3, i4, i9⟩, k, i6, i7⟩ ⟨x1q, G_1q, xnq, G_1nq, q1, q2, hb, -, c, y133, e133, y136, t136, G135, hB, hFa, w91, x141, G137, hl7, -, -, hFb, y145, t145, y146, e146, y148, t148, c2, y150, t150, ex, rfl⟩
    obtain ⟨rfl, rfl⟩ := Prod.mk.inj q1
    obtain ⟨rfl, rfl⟩ := Prod.mk.inj q2
    simp only at i1 i2 i3 i4 i6 i7 i9
    rw [cn_eq i6] at e133 w91 e146
    have k3 : k < 3 := by omega
    have hl := hG k k3
    obtain ⟨len, hlen⟩ : ∃ len : Nat, (G.1 81 k).toInt = (len : Int) := ⟨(G.1 81 k).toInt.toNat, by omega⟩
    have a91 : G135.1 91 k = G.1 81 k := by rw [w91, show upd (G_1.1 91) k y133 k = y133 from if_pos rfl, e133, i9]
    have b91 : G_1n.1 91 = G135.1 91 := hFb.row1 91 (by decide) (by decide)
    have h146 : y146.toInt = (len : Int) := by rw [e146, b91, a91]; exact hlen
    obtain ⟨j1, j2⟩ := l_street hl7 i6 (by omega) (by rw [a91]; exact hlen) (by omega)
    refine ⟨⟨?_, ?_, ?_, ?_, ?_⟩, k + 1, by show xn.toInt = _; rw [← ex]; omega, fun s hs hs3 => ?_⟩
    · exact ((hFb.row1 77 (by decide) (by decide)).trans (hFa.row1 77 (by decide) (by decide))).trans i1
    · exact ((hFb.row1 78 (by decide) (by decide)).trans (hFa.row1 78 (by decide) (by decide))).trans i2
    · exact ((hFb.row1 79 (by decide) (by decide)).trans (hFa.row1 79 (by decide) (by decide))).trans i3
    · exact ((hFb.row1 80 (by decide) (by decide)).trans (hFa.row1 80 (by decide) (by decide))).trans i4
    · exact ((hFb.row1 81 (by decide) (by decide)).trans (hFa.row1 81 (by decide) (by decide))).trans i9
    · show G_1n.1 91 s = _ ∧ _
      have r87 := hFa.row1 87 (by decide) (by decide)
      have r88 := hFa.row1 88 (by decide) (by decide)
      have r89 := hFa.row1 89 (by decide) (by decide)
      have r90 := hFa.row1 90 (by decide) (by decide)
      have r77 := (hFa.row1 77 (by decide) (by decide)).trans i1
      have r78 := (hFa.row1 78 (by decide) (by decide)).trans i2
      have r79 := (hFa.row1 79 (by decide) (by decide)).trans i3
      have r80 := (hFa.row1 80 (by decide) (by decide)).trans i4
      by_cases hsk : s = k
      · subst hsk
        refine ⟨by rw [b91]; exact a91, fun i hi => ?_⟩
        have := j2 i (by omega)
        rw [r77, r78, r79, r80] at this
        exact this
      · obtain ⟨m1, m2⟩ := i7 s (by omega) hs3
        refine ⟨by rw [b91, w91, show upd (G_1.1 91) k y133 s = G_1.1 91 s from if_neg hsk]; exact m1, fun i hi => ?_⟩
        have hls := hG s hs3
        have := j1 (400 * s + i) (by omega)
        rw [r87, r88, r89, r90] at this
        obtain ⟨n1, n2, n3, n4⟩ := m2 i hi
        exact ⟨this.1.trans n1, this.2.1.trans n2, this.2.2.1.trans n3, this.2.2.2.trans n4⟩)
  obtain ⟨-, k, i6, i7⟩ := hI
  have i6' : x.toInt = (k : Int) := i6
  exact fun s hs => i7 s (by omega) (by omega)
/-- one RULE's code -/
theorem l_code {x38 y x : Int32} {G G1 : GS} {f len : Nat} (hl : Rc (St_n_pavement_8 x38) (y, G) (x, G1)) (hs : x38.toInt = (f : Int)) (hy : y.toInt = 320 * (f : Int)) (hx : 320 * (f : Int) + (len : Int) ≤ x.toInt) : (∀ j, j < 320 * f → G1.1 72 j = G.1 72 j ∧ G1.1 73 j = G.1 73 j) ∧ ∀ i, i < len → G1.1 72 (320 * f + i) = G.1 69 (320 * f + i) ∧ G1.1 73 (320 * f + i) = G.1 70 (320 * f + i) := by
  have hI := hl (fun q => (q.2.1 69 = G.1 69 ∧ q.2.1 70 = G.1 70) ∧ (∀ j, j < 320 * f → q.2.1 72 j = G.1 72 j ∧ q.2.1 73 j = G.1 73 j) ∧ ∃ m : Nat, q.1.toInt = 320 * (f : Int) + (m : Int) ∧ ∀ i, i < m → q.2.1 72 (320 * f + i) = G.1 69 (320 * f + i) ∧ q.2.1 73 (320 * f + i) = G.1 70 (320 * f + i)) ⟨⟨rfl, rfl⟩, fun _ _ => ⟨rfl, rfl⟩, 0, by simpa using hy, fun j hj => absurd hj (Nat.not_lt_zero j)⟩ (by
    rintro ⟨x1, G_1⟩ ⟨xn, G_1n⟩ ⟨⟨i1, i2⟩, i5, m, i6, i7⟩ ⟨x1q, G_1q, xnq, G_1nq, q1, q2, -, -, -, -, -, -, -, z1, s1, z2, s2, z3, s3, c, y1, e1, y2, e2, y5, t5, ex, hF, w1, w2⟩
    obtain ⟨rfl, rfl⟩ := Prod.mk.inj q1
    obtain ⟨rfl, rfl⟩ := Prod.mk.inj q2
    simp only at i1 i2 i5 i6 i7
    rw [cn_eq (x := x1) (e := 320 * f + m) (by omega)] at e1 e2 w1 w2
    refine ⟨⟨(hF.row1 69 (by decide) (by decide)).trans i1, (hF.row1 70 (by decide) (by decide)).trans i2⟩, fun j hj => ?_, m + 1, by show xn.toInt = _; rw [← ex]; omega, fun i hi => ?_⟩
    · show G_1n.1 72 j = _ ∧ G_1n.1 73 j = _
      have e : ∀ (g : Nat → Int32) (v : Int32), upd g (320 * f + m) v j = g j := fun g v => if_neg (by omega)
      rw [w1, w2, e, e]
      exact i5 j hj
    · show G_1n.1 72 (320 * f + i) = _ ∧ G_1n.1 73 (320 * f + i) = _
      rw [w1, w2]
      by_cases hik : i = m
      · subst hik
        have e : ∀ (g : Nat → Int32) (v : Int32), upd g (320 * f + i) v (320 * f + i) = v := fun g v => if_pos rfl
        rw [e, e, e1, e2, i1, i2]
        exact ⟨rfl, rfl⟩
      · have e : ∀ (g : Nat → Int32) (v : Int32), upd g (320 * f + m) v (320 * f + i) = g (320 * f + i) := fun g v => if_neg (by omega)
        rw [e, e]
        exact i7 i (by omega))
  obtain ⟨-, i5, m, i6, i7⟩ := hI
  have i6' : x.toInt = 320 * (f : Int) + (m : Int) := i6
  exact ⟨i5, fun i hi => i7 i (by omega)⟩
theorem l_codes {x : Int32} {G2 G G1 : GS} (hl : Rc (St_n_pavement_2 G2) (0, G) (x, G1)) {n : Nat} (hx : (n : Int) ≤ x.toInt) (hn : n ≤ 6) (hR : (G2.1 66 47).toInt ≤ 6) (hG : ∀ f, f < 6 → 0 ≤ (G.1 71 f).toInt ∧ (G.1 71 f).toInt ≤ 320) : ∀ f, f < n → G1.1 74 f = G.1 71 f ∧ ∀ i : Nat, (i : Int) < (G.1 71 f).toInt → G1.1 72 (320 * f + i) = G.1 69 (320 * f + i) ∧ G1.1 73 (320 * f + i) = G.1 70 (320 * f + i) := by
  have hI := hl (fun q => (q.2.1 69 = G.1 69 ∧ q.2.1 70 = G.1 70 ∧ q.2.1 71 = G.1 71) ∧ ∃ k : Nat, q.1.toInt = (k : Int) ∧ ∀ f, f < k → f < 6 → q.2.1 74 f = G.1 71 f ∧ ∀ i : Nat, (i : Int) < (G.1 71 f).toInt → q.2.1 72 (320 * f + i) = G.1 69 (320 * f + i) ∧ q.2.1 73 (320 * f + i) = G.1 70 (320 * f + i)) ⟨⟨rfl, rfl, rfl⟩, 0, rfl, fun j hj => absurd hj (Nat.not_lt_zero j)⟩ (by
    rintro ⟨x1, G_1⟩ ⟨xn, G_1n⟩ ⟨⟨i1, i2, i9⟩, k, i6, i7⟩ ⟨x1q, G_1q, xnq, G_1nq, q1, q2, hb, -, -, c, y164, e164, y169, t169, G166, hB, hFa, w74, x175, G171, hl8, -, -, -, -, -, -, -, hFb, y185, t185, y186, e186, y188, t188, c2, y190, t190, ex, rfl⟩
    obtain ⟨rfl, rfl⟩ := Prod.mk.inj q1
    obtain ⟨rfl, rfl⟩ := Prod.mk.inj q2
    simp only at i1 i2 i6 i7 i9
    rw [cn_eq i6] at e164 w74 e186
    have b74 : G_1n.1 74 = G166.1 74 := hFb.row1 74 (by decide) (by decide)
    have a74 : G166.1 74 k = G.1 71 k := by rw [w74, show upd (G_1.1 74) k y164 k = y164 from if_pos rfl, e164, i9]
    have c74 : y186 = G.1 71 k := by rw [e186, b74, a74]
    have k6 : k < 6 := by omega
    have hl := hG k k6
    obtain ⟨len, hlen⟩ : ∃ len : Nat, (G.1 71 k).toInt = (len : Int) := ⟨(G.1 71 k).toInt.toNat, by omega⟩
    have h186 : y186.toInt = (len : Int) := by rw [c74]; exact hlen
    obtain ⟨j1, j2⟩ := l_code (len := len) hl8 i6 (by omega) (by omega)
    refine ⟨⟨?_, ?_, ?_⟩, k + 1, by show xn.toInt = _; rw [← ex]; omega, fun f hf hf6 => ?_⟩
    · exact ((hFb.row1 69 (by decide) (by decide)).trans (hFa.row1 69 (by decide) (by decide))).trans i1
    · exact ((hFb.row1 70 (by decide) (by decide)).trans (hFa.row1 70 (by decide) (by decide))).trans i2
    · exact ((hFb.row1 71 (by decide) (by decide)).trans (hFa.row1 71 (by decide) (by decide))).trans i9
    · show G_1n.1 74 f = _ ∧ _
      have r72 := hFa.row1 72 (by decide) (by decide)
      have r73 := hFa.row1 73 (by decide) (by decide)
      have r69 := (hFa.row1 69 (by decide) (by decide)).trans i1
      have r70 := (hFa.row1 70 (by decide) (by decide)).trans i2
      by_cases hsk : f = k
      · subst hsk
        refine ⟨by rw [b74]; exact a74, fun i hi => ?_⟩
        have := j2 i (by omega)
        rw [r69, r70] at this
        exact this
      · obtain ⟨m1, m2⟩ := i7 f (by omega) hf6
        refine ⟨by rw [b74, w74, show upd (G_1.1 74) k y164 f = G_1.1 74 f from if_neg hsk]; exact m1, fun i hi => ?_⟩
        have hls := hG f hf6
        have := j1 (320 * f + i) (by omega)
        rw [r72, r73] at this
        obtain ⟨n1, n2⟩ := m2 i hi
        exact ⟨this.1.trans n1, this.2.trans n2⟩)
  obtain ⟨-, k, i6, i7⟩ := hI
  have i6' : x.toInt = (k : Int) := i6
  exact fun f hf => i7 f (by omega) (by omega)
/-- the reference's fields behind a good pavement -/
theorem rv_pav {V : PV} {G G1 : GS} {r : Int32} (h : Q_pavement G r G1) (hf : ∀ {Gx : GS}, Q_readAll G Gx → (Gx.1 66 2).toInt = 0) (hu : ∀ {Gx : GS}, Q_readAll G Gx → MV V Gx) : RV V G1 ∧ (∀ j, j < 10 → j ≠ 0 → j ≠ 7 → G1.1 110 j = 0) ∧ G1.1 110 0 = -1 ∧ (G1.1 110 7).toInt = V.2.2.2.2.2.2.getD 0 ∧ G1.1 66 66 = 0 ∧ G1.1 66 78 = 0 ∧ G1.1 66 79 = 0 ∧ G1.1 66 85 = 0 ∧ ∀ j, j < 3 → (G1.1 117 j).toInt = 0 := by
  obtain ⟨-, -, -, Ga, hra, hh⟩ := h
  have hM := hu hra
  have hf0 := hf hra
  rcases hh with ⟨-, G16, -, hF16, e22, e52, e53, e54, e55, e56, x22, G18, hl1, -, -, -, hF18, c1, x38, G34, hl2, -, -, -, hF34, c2, x51, G47, hl3, -, hB47, hF47, c3, x62, G58, hl4, -, -, -, hF58, c4, x75, G71, hl5, -, -, hF71, c5, G90, -, hF90, e66, e78, e79, e85, e110, x95, G91, hl6, -, -, hF91, c6, rfl, rfl⟩ | ⟨c, -⟩
  rotate_left
  · omega
  obtain ⟨⟨s1, s2, -, s4⟩, ⟨w1, w2, -, w4⟩, ⟨r1, r2, -, r4, -, -, r7⟩, ⟨p1, p2, p3⟩, ⟨n1, n2⟩, d1, -⟩ := hM
  have fx : ∀ j, j = 22 ∨ j = 52 ∨ j = 53 ∨ j = 54 ∨ j = 55 ∨ j = 56 → G91.1 66 j = G16.1 66 j := by
    intro j hj
    rcases hj with rfl | rfl | rfl | rfl | rfl | rfl <;> rw [hF91.i 66 _ (by decide) (by decide), hF90.i 66 _ (by decide) (by decide), hF71.i 66 _ (by decide) (by decide), hF58.i 66 _ (by decide) (by decide), hF47.i 66 _ (by decide) (by decide), hF34.i 66 _ (by decide) (by decide), hF18.i 66 _ (by decide) (by decide)]
  have q96 : ∀ j, j < 3 → G91.1 96 j = Ga.1 86 j := by
    intro j hj
    rw [hF91.row1 96 (by decide) (by decide), hF90.row1 96 (by decide) (by decide), hF71.row1 96 (by decide) (by decide), hF58.row1 96 (by decide) (by decide), hF47.row1 96 (by decide) (by decide), hF34.row1 96 (by decide) (by decide), l_slips hl1 c1 j hj, hF16.row1 86 (by decide) (by decide)]
  have g18 : ∀ i, i = 69 ∨ i = 70 ∨ i = 71 → G18.1 i = Ga.1 i := by
    intro i hi
    rcases hi with rfl | rfl | rfl <;> rw [hF18.row1 _ (by decide) (by decide), hF16.row1 _ (by decide) (by decide)]
  have g34 : ∀ i, i = 77 ∨ i = 78 ∨ i = 79 ∨ i = 80 ∨ i = 81 → G34.1 i = Ga.1 i := by
    intro i hi
    rcases hi with rfl | rfl | rfl | rfl | rfl <;> rw [hF34.row1 _ (by decide) (by decide), hF18.row1 _ (by decide) (by decide), hF16.row1 _ (by decide) (by decide)]
  have g47 : ∀ i, i = 82 ∨ i = 83 ∨ i = 84 ∨ i = 85 → G47.1 i = Ga.1 i := by
    intro i hi
    rcases hi with rfl | rfl | rfl | rfl <;> rw [hF47.row1 _ (by decide) (by decide), hF34.row1 _ (by decide) (by decide), hF18.row1 _ (by decide) (by decide), hF16.row1 _ (by decide) (by decide)]
  have hBa := hra.1
  refine ⟨⟨⟨?_, s2, fun s hs => ⟨?_, (s4 s hs).2⟩⟩, ⟨?_, w2, fun k hk => ?_⟩, ⟨?_, r2, ?_, fun k hk => ⟨?_, (r7 k hk).2⟩⟩, ⟨?_, ?_, ?_⟩, ?_, ?_⟩, ?_, ?_, ?_, ?_, ?_, ?_, ?_, ?_⟩
  · rw [fx 52 (by simp), e52]
    exact s1
  · obtain ⟨⟨a1, a2⟩, a3⟩ := s4 s hs
    have key := l_streets (n := V.1.length) hl3 (by omega) s2 (by omega) (fun s hs3 => by rw [g34 81 (by simp)]; exact hBa.i 81 s rfl rfl) s hs
    obtain ⟨k1, k2⟩ := key
    rw [g34 81 (by simp), g34 77 (by simp), g34 78 (by simp), g34 79 (by simp), g34 80 (by simp)] at k2
    rw [g34 81 (by simp)] at k1
    have z : ∀ i, i = 87 ∨ i = 88 ∨ i = 89 ∨ i = 90 ∨ i = 91 → G91.1 i = G47.1 i := by
      intro i hi
      rcases hi with rfl | rfl | rfl | rfl | rfl <;> rw [hF91.row1 _ (by decide) (by decide), hF90.row1 _ (by decide) (by decide), hF71.row1 _ (by decide) (by decide), hF58.row1 _ (by decide) (by decide)]
    refine ⟨by rw [z 91 (by simp), k1]; exact a1, fun i hi => ?_⟩
    obtain ⟨b1, b2, b3, b4⟩ := k2 i (by omega)
    rw [z 87 (by simp), z 88 (by simp), z 89 (by simp), z 90 (by simp), b1, b2, b3, b4]
    exact a2 i hi
  · rw [fx 53 (by simp), e53]
    exact w1
  · have key := l_walkers (n := V.2.1.length) hl4 (by omega) k hk
    rw [g47 82 (by simp), g47 83 (by simp), g47 84 (by simp), g47 85 (by simp)] at key
    have z : ∀ i, i = 92 ∨ i = 93 ∨ i = 94 ∨ i = 95 → G91.1 i = G58.1 i := by
      intro i hi
      rcases hi with rfl | rfl | rfl | rfl <;> rw [hF91.row1 _ (by decide) (by decide), hF90.row1 _ (by decide) (by decide), hF71.row1 _ (by decide) (by decide)]
    have := w4 k hk
    unfold RWk
    unfold WkM at this
    rw [z 92 (by simp), z 93 (by simp), z 94 (by simp), z 95 (by simp), key.1, key.2.1, key.2.2.1, key.2.2.2]
    exact this
  · rw [fx 54 (by simp), e54]
    exact r1
  · rw [fx 22 (by simp), e22]
    exact r4
  · obtain ⟨⟨a1, a2⟩, a3⟩ := r7 k hk
    have key := l_codes (n := V.2.2.1.length) hl2 (by omega) r2 (by omega) (fun f hf6 => by rw [g18 71 (by simp)]; exact hBa.i 71 f rfl rfl) k hk
    obtain ⟨k1, k2⟩ := key
    rw [g18 71 (by simp), g18 69 (by simp), g18 70 (by simp)] at k2
    rw [g18 71 (by simp)] at k1
    have z : ∀ i, i = 72 ∨ i = 73 ∨ i = 74 → G91.1 i = G34.1 i := by
      intro i hi
      rcases hi with rfl | rfl | rfl <;> rw [hF91.row1 _ (by decide) (by decide), hF90.row1 _ (by decide) (by decide), hF71.row1 _ (by decide) (by decide), hF58.row1 _ (by decide) (by decide), hF47.row1 _ (by decide) (by decide)]
    refine ⟨by rw [z 74 (by simp), k1]; exact a1, fun i hi => ?_⟩
    obtain ⟨b1, b2⟩ := k2 i (by omega)
    rw [z 72 (by simp), z 73 (by simp), b1, b2]
    exact a2 i hi
  · rw [q96 0 (by decide)]
    exact p1
  · rw [q96 1 (by decide)]
    exact p2
  · rw [q96 2 (by decide)]
    exact p3
  · rw [fx 55 (by simp), e55]
    exact n1
  · rw [fx 56 (by simp), e56]
    exact n2
  · intro j hj h0 h7
    have hz := hl5 (fun q => ∃ k : Nat, q.1.toInt = (k : Int) ∧ ∀ j, j < k → q.2.1 110 j = 0) ⟨0, rfl, fun j hj => absurd hj (Nat.not_lt_zero j)⟩ (by
      rintro ⟨x1, G_1⟩ ⟨xn, G_1n⟩ ⟨k, i6, i7⟩ ⟨x1q, G_1q, xnq, G_1nq, q1, q2, -, -, c, y1, t1, ex, hF, w⟩
      obtain ⟨rfl, rfl⟩ := Prod.mk.inj q1
      obtain ⟨rfl, rfl⟩ := Prod.mk.inj q2
      simp only at i6 i7
      rw [cn_eq i6] at w
      refine ⟨k + 1, by show xn.toInt = _; rw [← ex]; omega, fun j hj => ?_⟩
      show G_1n.1 110 j = 0
      rw [w]
      by_cases hjk : j = k
      · exact if_pos hjk
      · rw [show upd (G_1.1 110) k 0 j = G_1.1 110 j from if_neg hjk]
        exact i7 j (by omega))
    obtain ⟨k, i6, i7⟩ := hz
    have i6' : x75.toInt = (k : Int) := i6
    have z0 : (0 : Int32).toNatClampNeg = 0 := rfl
    have z7 : (7 : Int32).toNatClampNeg = 7 := rfl
    rw [hF91.row1 110 (by decide) (by decide), e110, z0, z7, show upd (upd (G71.1 110) 0 (-1)) 7 (Ga.1 66 50) j = upd (G71.1 110) 0 (-1) j from if_neg h7, show upd (G71.1 110) 0 (-1) j = G71.1 110 j from if_neg h0]
    exact i7 j (by omega)
  · rw [hF91.row1 110 (by decide) (by decide), e110]
    rfl
  · rw [hF91.row1 110 (by decide) (by decide), e110]
    exact d1
  · rw [hF91.i 66 66 (by decide) (by decide), e66]
  · rw [hF91.i 66 78 (by decide) (by decide), e78]
  · rw [hF91.i 66 79 (by decide) (by decide), e79]
  · rw [hF91.i 66 85 (by decide) (by decide), e85]
  · intro j hj
    have hz := hl6 (fun q => ∃ k : Nat, q.1.toInt = (k : Int) ∧ ∀ j, j < k → (q.2.1 117 j).toInt = 0) ⟨0, rfl, fun j hj => absurd hj (Nat.not_lt_zero j)⟩ (by
      rintro ⟨x1, G_1⟩ ⟨xn, G_1n⟩ ⟨k, i6, i7⟩ ⟨x1q, G_1q, xnq, G_1nq, q1, q2, -, -, c, y1, t1, ex, hF, w⟩
      obtain ⟨rfl, rfl⟩ := Prod.mk.inj q1
      obtain ⟨rfl, rfl⟩ := Prod.mk.inj q2
      simp only at i6 i7
      rw [cn_eq i6] at w
      refine ⟨k + 1, by show xn.toInt = _; rw [← ex]; omega, fun j hj => ?_⟩
      show (G_1n.1 117 j).toInt = 0
      rw [w]
      by_cases hjk : j = k
      · rw [show upd (G_1.1 117) k (vp_nar .boolean 0) j = vp_nar .boolean 0 from if_pos hjk]
        rfl
      · rw [show upd (G_1.1 117) k (vp_nar .boolean 0) j = G_1.1 117 j from if_neg hjk]
        exact i7 j (by omega))
    obtain ⟨k, i6, i7⟩ := hz
    have i6' : x95.toInt = (k : Int) := i6
    exact i7 j (by omega)
