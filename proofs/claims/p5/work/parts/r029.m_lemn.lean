

def trI (b most : Int) : Int := if most < b then 1 else 0
theorem trI_v (b most : Int) : (most < b → trI b most = 1) ∧ (b ≤ most → trI b most = 0) := ⟨fun h => if_pos h, fun h => if_neg (by omega)⟩
theorem trI_b (b most : Int) : 0 ≤ trI b most ∧ trI b most ≤ 1 := by unfold trI; split <;> omega
def flI (i : Int) : Int := if i = 0 then 0 else 3 - i
def lwI (L : Nat → Int32) (x : Int) : Prop := (L x.toNat).toInt = 1
theorem lw_iff {L : Nat → Int32} {x y : Int32} {X : Int} (hx : x.toInt = X) (hu : y.toInt = (L x.toNatClampNeg).toInt) : lwI L X ↔ y.toInt = 1 := by
  subst hx
  exact ⟨fun h => hu.trans h, fun h => hu.symm.trans h⟩
def NJ (f L : Nat → Int32) (least most x l u : Int) : Prop :=
  (∀ b, least ≤ b → b < u → lwI L (x + b) → ndv f x l 1 ≤ 1 + ndv f (x + b) (trI b most) 2 ∧ ndv f x l 2 ≤ 1 + ndv f (x + b) (trI b most) 1) ∧
  (ndv f x l 1 = 100000 ∨ ∃ b, least ≤ b ∧ b < u ∧ lwI L (x + b) ∧ ndv f (x + b) (trI b most) 2 = ndv f x l 1 - 1) ∧
  (ndv f x l 2 = 100000 ∨ ∃ b, least ≤ b ∧ b < u ∧ lwI L (x + b) ∧ ndv f (x + b) (trI b most) 1 = ndv f x l 2 - 1)
def EX (f L : Nat → Int32) (least most leap x l i : Int) : Prop := 1 ≤ ndv f x l i ∧ (ndv f x l i < 100000 → 2 ≤ ndv f x l i → ∃ b, least ≤ b ∧ b ≤ leap ∧ lwI L (x + b) ∧ ndv f (x + b) (trI b most) (flI i) = ndv f x l i - 1)
def E0 (f : Nat → Int32) (x l : Int) : Prop := ndv f x l 0 ≤ ndv f x l 1 ∧ ndv f x l 0 ≤ ndv f x l 2 ∧ (ndv f x l 0 = ndv f x l 1 ∨ ndv f x l 0 = ndv f x l 2)
def PR (f L : Nat → Int32) (least most leap x l : Int) : Prop := ∀ y m, (x < y ∨ (y = x ∧ m < l)) → y < 400 → 0 ≤ m → m < 2 → E0 f y m ∧ EX f L least most leap y m 0 ∧ EX f L least most leap y m 1 ∧ EX f L least most leap y m 2
def PRG (G : GS) (x l : Int) : Prop := PR (G.1 99) (G.1 98) (G.1 66 61).toInt (G.1 66 62).toInt (G.1 66 63).toInt x l
theorem PRG_0 (G : GS) : PRG G 399 0 := fun y m h h1 h2 h3 => by omega
theorem PRG_dn {G : GS} {x l y : Int} (h : PRG G x l) (hl : 2 ≤ l) (hy : y = x - 1) : PRG G y 0 := fun z m h1 h2 h3 h4 => h z m (by omega) h2 h3 h4
theorem PRG_of {rs : List Nat} {fs : List (Nat × Nat)} {G G1 : GS} {x l : Int} (h : Fr rs fs G G1) (h1 : ∀ i ∈ [98], i ∉ rs ∧ ∀ x ∈ fs, x.1 ≠ i) (h2 : ∀ y ∈ [(66, 61), (66, 62), (66, 63)], y.1 ∉ rs ∧ y ∉ fs) (hp : PR (G1.1 99) (G.1 98) (G.1 66 61).toInt (G.1 66 62).toInt (G.1 66 63).toInt x l) : PRG G1 x l := by
  unfold PRG
  rw [h.rows h1 (i := 98) (by decide), h.i 66 61 (h2 (66, 61) (by decide)).1 (h2 (66, 61) (by decide)).2, h.i 66 62 (h2 (66, 62) (by decide)).1 (h2 (66, 62) (by decide)).2, h.i 66 63 (h2 (66, 63) (by decide)).1 (h2 (66, 63) (by decide)).2]
  exact hp
theorem PRG_fr {rs : List Nat} {fs : List (Nat × Nat)} {G G1 : GS} {x l : Int} (h : Fr rs fs G G1) (h0 : ∀ i ∈ [99], i ∉ rs ∧ ∀ x ∈ fs, x.1 ≠ i) (h1 : ∀ i ∈ [98], i ∉ rs ∧ ∀ x ∈ fs, x.1 ≠ i) (h2 : ∀ y ∈ [(66, 61), (66, 62), (66, 63)], y.1 ∉ rs ∧ y ∉ fs) (hp : PRG G x l) : PRG G1 x l := by
  refine PRG_of h h1 h2 ?_
  rw [h.rows h0 (i := 99) (by decide)]
  exact hp
theorem ndv_put {G G1 : GS} {v w : Int32} {x l i : Int} (e : G1 = (u2 G.1 99 v.toNatClampNeg w, G.2)) (hv : v.toInt = 6 * x + 3 * l + i) (hx : 0 ≤ x) (hl : 0 ≤ l ∧ l ≤ 1) (hi : 0 ≤ i ∧ i ≤ 2) : ndv (G1.1 99) x l i = w.toInt ∧ ∀ y m j, 0 ≤ y → 0 ≤ m ∧ m ≤ 1 → 0 ≤ j ∧ j ≤ 2 → (y ≠ x ∨ m ≠ l ∨ j ≠ i) → ndv (G1.1 99) y m j = ndv (G.1 99) y m j := by
  have c1 := c_nat v
  refine ⟨?_, fun y m j hy hm hj hne => ?_⟩
  · unfold ndv
    rw [← hv]
    exact congrArg Int32.toInt (gp_eq e)
  · unfold ndv
    rw [gp_ne e (fun q => by have := q.2; omega)]
theorem fl_rng (i : Int) (hi : 0 ≤ i ∧ i ≤ 2) : 0 ≤ flI i ∧ flI i ≤ 2 := by unfold flI; split <;> omega
theorem PR_keep {f g L : Nat → Int32} {least most leap x l : Int} (h1 : 1 ≤ least) (hx : 0 ≤ x) (hs : ∀ y m j, 0 ≤ y → 0 ≤ m ∧ m ≤ 1 → 0 ≤ j ∧ j ≤ 2 → (y ≠ x ∨ m ≠ l) → ndv g y m j = ndv f y m j) (h : PR f L least most leap x l) : PR g L least most leap x l := by
  intro y m hy h4 h5 h6
  obtain ⟨a0, a1, a2, a3⟩ := h y m hy h4 h5 h6
  have e : ∀ j, 0 ≤ j ∧ j ≤ 2 → ndv g y m j = ndv f y m j := fun j hj => hs y m j (by omega) ⟨h5, by omega⟩ hj (by omega)
  have ex : ∀ i, 0 ≤ i ∧ i ≤ 2 → EX f L least most leap y m i → EX g L least most leap y m i := fun i hi q => by
    refine ⟨by rw [e i hi]; exact q.1, fun q1 q2 => ?_⟩
    rw [e i hi] at q1 q2 ⊢
    obtain ⟨b, b1, b2, b3, b4⟩ := q.2 q1 q2
    refine ⟨b, b1, b2, b3, ?_⟩
    rw [hs (y + b) (trI b most) (flI i) (by omega) (trI_b b most) (fl_rng i hi) (Or.inl (by omega))]
    exact b4
  refine ⟨?_, ex 0 (by omega) a1, ex 1 (by omega) a2, ex 2 (by omega) a3⟩
  unfold E0
  rw [e 0 (by omega), e 1 (by omega), e 2 (by omega)]
  exact a0
theorem PR_put {G G1 : GS} {v w : Int32} {L : Nat → Int32} {least most leap x l i : Int} (e : G1 = (u2 G.1 99 v.toNatClampNeg w, G.2)) (hv : v.toInt = 6 * x + 3 * l + i) (hx : 0 ≤ x) (hl : 0 ≤ l ∧ l ≤ 1) (hi : 0 ≤ i ∧ i ≤ 2) (h1 : 1 ≤ least) (h : PR (G.1 99) L least most leap x l) : PR (G1.1 99) L least most leap x l :=
  PR_keep h1 hx (fun y m j q1 q2 q3 q4 => (ndv_put e hv hx hl hi).2 y m j q1 q2 q3 (by omega)) h
theorem NJ_0 {f L : Nat → Int32} {least most x l : Int} (h1 : ndv f x l 1 = 100000) (h2 : ndv f x l 2 = 100000) : NJ f L least most x l least := ⟨fun b q1 q2 => by omega, Or.inl h1, Or.inl h2⟩
theorem NJ_skip {f L : Nat → Int32} {least most x l u : Int} (h : NJ f L least most x l u) (hn : ¬ lwI L (x + u)) : NJ f L least most x l (u + 1) := by
  obtain ⟨a1, a2, a3⟩ := h
  refine ⟨fun b q1 q2 q3 => ?_, ?_, ?_⟩
  · by_cases hb : b = u
    · subst hb
      exact absurd q3 hn
    · exact a1 b q1 (by omega) q3
  · rcases a2 with q | ⟨b, b1, b2, b3, b4⟩
    · exact Or.inl q
    · exact Or.inr ⟨b, b1, by omega, b3, b4⟩
  · rcases a3 with q | ⟨b, b1, b2, b3, b4⟩
    · exact Or.inl q
    · exact Or.inr ⟨b, b1, by omega, b3, b4⟩
theorem NJ_step {G G1 G2 : GS} {v1 w1 v2 w2 : Int32} {L : Nat → Int32} {least most x l u n1 n2 m1 m2 : Int} (h : NJ (G.1 99) L least most x l u) (e1 : G1 = (u2 G.1 99 v1.toNatClampNeg w1, G.2)) (hv1 : v1.toInt = 6 * x + 3 * l + 1) (e2 : G2 = (u2 G1.1 99 v2.toNatClampNeg w2, G1.2)) (hv2 : v2.toInt = 6 * x + 3 * l + 2) (hx : 0 ≤ x) (hl : 0 ≤ l ∧ l ≤ 1) (h1 : 1 ≤ least) (hu : least ≤ u) (hlw : lwI L (x + u))
    (hn1 : n1 = ndv (G.1 99) x l 1) (hn2 : n2 = ndv (G1.1 99) x l 2) (hm2 : m2 = ndv (G.1 99) (x + u) (trI u most) 2) (hm1 : m1 = ndv (G1.1 99) (x + u) (trI u most) 1)
    (a1 : w1.toInt ≤ n1) (a2 : w1.toInt ≤ 1 + m2) (a3 : w1.toInt = n1 ∨ w1.toInt = 1 + m2) (b1 : w2.toInt ≤ n2) (b2 : w2.toInt ≤ 1 + m1) (b3 : w2.toInt = n2 ∨ w2.toInt = 1 + m1) : NJ (G2.1 99) L least most x l (u + 1) := by
  have p1 := ndv_put e1 hv1 hx hl (by omega)
  have p2 := ndv_put e2 hv2 hx hl (by omega)
  have k1 : ndv (G2.1 99) x l 1 = w1.toInt := by rw [p2.2 x l 1 hx hl (by omega) (by omega)]; exact p1.1
  have k2 : ndv (G2.1 99) x l 2 = w2.toInt := p2.1
  have ky : ∀ b, least ≤ b → ∀ j, 0 ≤ j ∧ j ≤ 2 → ndv (G2.1 99) (x + b) (trI b most) j = ndv (G.1 99) (x + b) (trI b most) j := fun b hb j hj => by
    rw [p2.2 (x + b) _ j (by omega) (trI_b _ _) hj (Or.inl (by omega)), p1.2 (x + b) _ j (by omega) (trI_b _ _) hj (Or.inl (by omega))]
  have hn2' : n2 = ndv (G.1 99) x l 2 := by rw [hn2, p1.2 x l 2 hx hl (by omega) (by omega)]
  have hm1' : m1 = ndv (G.1 99) (x + u) (trI u most) 1 := by rw [hm1, p1.2 (x + u) _ 1 (by omega) (trI_b _ _) (by omega) (Or.inl (by omega))]
  obtain ⟨q1, q2, q3⟩ := h
  refine ⟨fun b r1 r2 r3 => ?_, ?_, ?_⟩
  · rw [k1, k2, ky b r1 2 (by omega), ky b r1 1 (by omega)]
    by_cases hb : b = u
    · subst hb
      exact ⟨by omega, by omega⟩
    · have := q1 b r1 (by omega) r3
      exact ⟨by omega, by omega⟩
  · clear q3
    rw [k1]
    by_cases hc : w1.toInt = n1
    · rcases q2 with q | ⟨b, c1, c2, c3, c4⟩
      · exact Or.inl (by omega)
      · exact Or.inr ⟨b, c1, by omega, c3, by rw [ky b c1 2 (by omega)]; omega⟩
    · clear q2
      exact Or.inr ⟨u, hu, by omega, hlw, by rw [ky u hu 2 (by omega)]; omega⟩
  · clear q2
    rw [k2]
    by_cases hc : w2.toInt = n2
    · rcases q3 with q | ⟨b, c1, c2, c3, c4⟩
      · exact Or.inl (by omega)
      · exact Or.inr ⟨b, c1, by omega, c3, by rw [ky b c1 1 (by omega)]; omega⟩
    · clear q3
      exact Or.inr ⟨u, hu, by omega, hlw, by rw [ky u hu 1 (by omega)]; omega⟩
theorem NJ_step_ {G G1 Gb G2 : GS} {v1 w1 v2 w2 : Int32} {L : Nat → Int32} {least most x l u n1 n2 m1 m2 : Int} (h : NJ (G.1 99) L least most x l u) (e1 : G1 = (u2 G.1 99 v1.toNatClampNeg w1, G.2)) (hv1 : v1.toInt = 6 * x + 3 * l + 1) (eb : Gb.1 99 = G1.1 99) (e2 : G2 = (u2 Gb.1 99 v2.toNatClampNeg w2, Gb.2)) (hv2 : v2.toInt = 6 * x + 3 * l + 2) (hx : 0 ≤ x) (hl : 0 ≤ l ∧ l ≤ 1) (h1 : 1 ≤ least) (hu : least ≤ u) (hlw : lwI L (x + u))
    (hn1 : n1 = ndv (G.1 99) x l 1) (hn2 : n2 = ndv (G1.1 99) x l 2) (hm2 : m2 = ndv (G.1 99) (x + u) (trI u most) 2) (hm1 : m1 = ndv (G1.1 99) (x + u) (trI u most) 1)
    (a1 : w1.toInt ≤ n1) (a2 : w1.toInt ≤ 1 + m2) (a3 : w1.toInt = n1 ∨ w1.toInt = 1 + m2) (b1 : w2.toInt ≤ n2) (b2 : w2.toInt ≤ 1 + m1) (b3 : w2.toInt = n2 ∨ w2.toInt = 1 + m1) : NJ (G2.1 99) L least most x l (u + 1) := by
  obtain ⟨G3, e3⟩ : ∃ G3 : GS, G3 = (u2 G1.1 99 v2.toNatClampNeg w2, G1.2) := ⟨_, rfl⟩
  have hq : G2.1 99 = G3.1 99 := by
    subst e2
    subst e3
    show u2 Gb.1 99 v2.toNatClampNeg w2 99 = u2 G1.1 99 v2.toNatClampNeg w2 99
    rw [u2_row, u2_row, eb]
  rw [hq]
  exact NJ_step h e1 hv1 e3 hv2 hx hl h1 hu hlw hn1 hn2 hm2 hm1 a1 a2 a3 b1 b2 b3
theorem PR_next {G G1 : GS} {v w : Int32} {L : Nat → Int32} {least most leap x l : Int} (e : G1 = (u2 G.1 99 v.toNatClampNeg w, G.2)) (hv : v.toInt = 6 * x + 3 * l) (hx : 0 ≤ x) (hl : 0 ≤ l ∧ l ≤ 1) (h1 : 1 ≤ least) (h : PR (G.1 99) L least most leap x l) (h400 : ∀ z, 0 ≤ z → lwI L z → z < 400)
    (w1 : w.toInt ≤ ndv (G.1 99) x l 1) (w2 : w.toInt ≤ ndv (G.1 99) x l 2) (w3 : w.toInt = ndv (G.1 99) x l 1 ∨ w.toInt = ndv (G.1 99) x l 2)
    (hF : ((ndv (G.1 99) x l 1 = 1 ∨ ndv (G.1 99) x l 1 = 100000) ∧ ndv (G.1 99) x l 2 = 100000) ∨ ∃ u, NJ (G.1 99) L least most x l u ∧ u ≤ leap + 1) : PR (G1.1 99) L least most leap x (l + 1) := by
  have p := ndv_put (i := 0) e (by omega) hx hl (by omega)
  have h' : PR (G1.1 99) L least most leap x l := PR_put (i := 0) e (by omega) hx hl (by omega) h1 h
  intro y m hy h4 h5 h6
  by_cases hc : y = x ∧ m = l
  · obtain ⟨rfl, rfl⟩ := hc
    have k0 : ndv (G1.1 99) y m 0 = w.toInt := p.1
    have k1 : ndv (G1.1 99) y m 1 = ndv (G.1 99) y m 1 := p.2 y m 1 hx hl (by omega) (by omega)
    have k2 : ndv (G1.1 99) y m 2 = ndv (G.1 99) y m 2 := p.2 y m 2 hx hl (by omega) (by omega)
    have ky : ∀ b, least ≤ b → ∀ j, 0 ≤ j ∧ j ≤ 2 → ndv (G1.1 99) (y + b) (trI b most) j = ndv (G.1 99) (y + b) (trI b most) j := fun b hb j hj => p.2 (y + b) _ j (by omega) (trI_b _ _) hj (Or.inl (by omega))
    have hz : ∀ b, least ≤ b → lwI L (y + b) → E0 (G1.1 99) (y + b) (trI b most) ∧ 1 ≤ ndv (G1.1 99) (y + b) (trI b most) 1 ∧ 1 ≤ ndv (G1.1 99) (y + b) (trI b most) 2 := fun b hb hw => by
      have t := trI_b b most
      obtain ⟨c0, c1, c2, c3⟩ := h' (y + b) (trI b most) (Or.inl (by omega)) (h400 _ (by omega) hw) t.1 (by omega)
      exact ⟨c0, c2.1, c3.1⟩
    refine ⟨⟨by rw [k0, k1]; exact w1, by rw [k0, k2]; exact w2, by rw [k0, k1, k2]; exact w3⟩, ?_⟩
    rcases hF with ⟨f1, f2⟩ | ⟨u, ⟨q1, q2, q3⟩, hu⟩
    · refine ⟨⟨by rw [k0]; omega, fun r1 r2 => ?_⟩, ⟨by rw [k1]; omega, fun r1 r2 => ?_⟩, ⟨by rw [k2]; omega, fun r1 r2 => ?_⟩⟩
      · rw [k0] at r1 r2
        omega
      · rw [k1] at r1 r2
        omega
      · rw [k2] at r1 r2
        omega
    · have l1 : 1 ≤ ndv (G.1 99) y m 1 := by
        clear q3
        rcases q2 with q | ⟨b, c1, c2, c3, c4⟩
        · omega
        · have := (hz b c1 c3).2.2
          rw [ky b c1 2 (by omega)] at this
          omega
      have l2 : 1 ≤ ndv (G.1 99) y m 2 := by
        clear q2
        rcases q3 with q | ⟨b, c1, c2, c3, c4⟩
        · omega
        · have := (hz b c1 c3).2.1
          rw [ky b c1 1 (by omega)] at this
          omega
      have fl1 : flI 1 = 2 := rfl
      have fl2 : flI 2 = 1 := rfl
      have fl0 : flI 0 = 0 := rfl
      refine ⟨⟨by clear q2 q3; rw [k0]; omega, fun r1 r2 => ?_⟩, ⟨by rw [k1]; exact l1, fun r1 r2 => ?_⟩, ⟨by rw [k2]; exact l2, fun r1 r2 => ?_⟩⟩
      · rw [k0] at r1 r2 ⊢
        rcases w3 with hw | hw
        · clear q3
          rcases q2 with q | ⟨b, c1, c2, c3, c4⟩
          · omega
          · have hz' := hz b c1 c3
            have mn := (q1 b c1 c2 c3).2
            have d1 := ky b c1 1 (by omega)
            have d2 := ky b c1 2 (by omega)
            obtain ⟨⟨g1, g2, g3⟩, _, _⟩ := hz'
            exact ⟨b, c1, by omega, c3, by rw [fl0]; omega⟩
        · clear q2
          rcases q3 with q | ⟨b, c1, c2, c3, c4⟩
          · omega
          · have hz' := hz b c1 c3
            have mn := (q1 b c1 c2 c3).1
            have d1 := ky b c1 1 (by omega)
            have d2 := ky b c1 2 (by omega)
            obtain ⟨⟨g1, g2, g3⟩, _, _⟩ := hz'
            exact ⟨b, c1, by omega, c3, by rw [fl0]; omega⟩
      · clear q3
        rw [k1] at r1 r2 ⊢
        rcases q2 with q | ⟨b, c1, c2, c3, c4⟩
        · omega
        · exact ⟨b, c1, by omega, c3, by rw [fl1, ky b c1 2 (by omega)]; exact c4⟩
      · clear q2
        rw [k2] at r1 r2 ⊢
        rcases q3 with q | ⟨b, c1, c2, c3, c4⟩
        · omega
        · exact ⟨b, c1, by omega, c3, by rw [fl2, ky b c1 1 (by omega)]; exact c4⟩
  · exact h' y m (by omega) h4 h5 h6
theorem lw400 {G : GS} (hB : Bd G) (h4 : (G.1 98 400).toInt = 0) : ∀ z, 0 ≤ z → lwI (G.1 98) z → z < 400 := fun z hz hw => by
  have h1 := hB.1 98 z.toNat
  have e2 : hiB 98 z.toNat = (if 401 ≤ z.toNat then ((0 : Int), (0 : Int)) else (0, 1)).2 := rfl
  rw [e2] at h1
  unfold lwI at hw
  by_cases hc : 401 ≤ z.toNat
  · rw [if_pos hc] at h1
    have := h1.2
    omega
  · by_cases hq : z.toNat = 400
    · rw [hq, h4] at hw
      cases hw
    · omega
theorem ndv_eq {f g : Nat → Int32} {X Y T S i : Int} (h1 : f = g) (h2 : X = Y) (h3 : T = S) : ndv f X T i = ndv g Y S i := by rw [h1, h2, h3]
theorem ndv_eq3 {f g : Nat → Int32} {X Y T S i j : Int} (h1 : f = g) (h2 : X = Y) (h3 : T = S) (h4 : i = j) : ndv f X T i = ndv g Y S j := by rw [h1, h2, h3, h4]
def FWp (f : Nat → Int32) (x i v : Int) : Prop := ∃ l, (l = 0 ∨ l = 1) ∧ ndv f x l i = v
theorem flI_v (i : Int) : (i = 0 → flI i = 0) ∧ (i ≠ 0 → flI i = 3 - i) := ⟨fun h => if_pos h, fun h => if_neg h⟩
theorem PRG_ex {G : GS} (h : PRG G (-1) 0) {x l i : Int} (hx : 0 ≤ x) (hx4 : x < 400) (hl : l = 0 ∨ l = 1) (hi : 0 ≤ i) (hi2 : i ≤ 2) : EX (G.1 99) (G.1 98) (G.1 66 61).toInt (G.1 66 62).toInt (G.1 66 63).toInt x l i := by
  obtain ⟨a0, a1, a2, a3⟩ := h x l (Or.inl (by omega)) hx4 (by omega) (by omega)
  rcases (show i = 0 ∨ i = 1 ∨ i = 2 by omega) with q | q | q
  · subst q; exact a1
  · subst q; exact a2
  · subst q; exact a3
theorem PRG_1 {G : GS} (h : PRG G (-1) 0) {x l i : Int} (hx : 0 ≤ x) (hx4 : x < 400) (hl : l = 0 ∨ l = 1) (hi : 0 ≤ i) (hi2 : i ≤ 2) : 1 ≤ ndv (G.1 99) x l i := (PRG_ex h hx hx4 hl hi hi2).1
