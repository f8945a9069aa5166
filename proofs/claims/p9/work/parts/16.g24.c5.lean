/-! the TAPE on both sides -/
def TE (G : GS) : Prop := ∀ j : Nat, j < 1600 → 0 ≤ (G.1 67 j).toInt ∧ (G.1 67 j).toInt ≤ 255 ∧ ((G.1 67 j).toInt < 128 → (G.1 32 j).toInt = (G.1 67 j).toInt) ∧ (128 ≤ (G.1 67 j).toInt → (G.1 32 j).toInt = (G.1 67 j).toInt - 256)
def shf (p : Int32) (k : Nat) : Int32 := p >>> (Int32.ofInt (24 - 8 * (k : Int)) &&& 31)
def bC (p : Int32) (k : Nat) : Int32 := vp_nar .byte (shf p k).toInt8.toInt32
def bM (p : Int32) (k : Nat) : Int32 := shf p k &&& 255
theorem byt_and (x : Int32) : (x &&& 255).toInt8 = x.toInt8 := by
  apply Int8.toBitVec.inj
  show (x.toBitVec &&& 255#32).signExtend 8 = x.toBitVec.signExtend 8
  rw [BitVec.signExtend_eq_setWidth_of_le _ (by decide), BitVec.signExtend_eq_setWidth_of_le _ (by decide), BitVec.setWidth_and]
  have e : (255#32).setWidth 8 = BitVec.allOnes 8 := by decide
  rw [e, BitVec.and_allOnes]
theorem byt_rng (x : Int32) : 0 ≤ (x &&& 255).toInt ∧ (x &&& 255).toInt ≤ 255 := by
  have h1 : (x &&& 255).toBitVec.toNat ≤ 255 := by
    show (x.toBitVec &&& 255#32).toNat ≤ 255
    rw [BitVec.toNat_and]
    exact Nat.and_le_right
  have h2 : (x &&& 255).toInt = ((x &&& 255).toBitVec.toNat : Int) := by
    show (x &&& 255).toBitVec.toInt = _
    rw [BitVec.toInt_eq_toNat_cond, if_pos (by omega)]
  rw [h2]
  omega
theorem byt_eq (p : Int32) (k : Nat) : 0 ≤ (bM p k).toInt ∧ (bM p k).toInt ≤ 255 ∧ ((bM p k).toInt < 128 → (bC p k).toInt = (bM p k).toInt) ∧ (128 ≤ (bM p k).toInt → (bC p k).toInt = (bM p k).toInt - 256) := by
  have hr := byt_rng (shf p k)
  have h8 := i8_i (x := bM p k) hr.1 hr.2
  have e1 : bC p k = (shf p k).toInt8.toInt32 := by
    unfold bC
    show (shf p k).toInt8.toInt32.toInt8.toInt32 = _
    rw [Int8.toInt8_toInt32]
  have e2 : (bM p k).toInt8.toInt32 = (shf p k).toInt8.toInt32 := by
    unfold bM
    rw [byt_and]
  rw [e2, ← e1] at h8
  exact ⟨hr.1, hr.2, h8.1, h8.2⟩
theorem x_of {x : Int32} {k : Nat} (h : x.toInt = 24 - 8 * (k : Int)) : x = Int32.ofInt (24 - 8 * (k : Int)) := by rw [← h, Int32.ofInt_toInt]
def FC (u : Nat) (ps : Nat → Int32) (t : Nat) (G G1 : GS) : Prop := (G1.1 0 11).toInt = ((t + 4 * u : Nat) : Int) ∧ (∀ j, j < t ∨ t + 4 * u ≤ j → G1.1 32 j = G.1 32 j) ∧ ∀ i, i < 4 * u → G1.1 32 (t + i) = bC (ps (i / 4)) (i % 4)
def FM (u : Nat) (ps : Nat → Int32) (t : Nat) (G G1 : GS) : Prop := (G1.1 66 1).toInt = ((t + 4 * u : Nat) : Int) ∧ (∀ j, j < t ∨ t + 4 * u ≤ j → G1.1 67 j = G.1 67 j) ∧ ∀ i, i < 4 * u → G1.1 67 (t + i) = bM (ps (i / 4)) (i % 4)
theorem c_four {p0 : Int32} {G G1 : GS} {t : Nat} (h : P_Wfeed1 p0 G G1) (ht : (G.1 0 11).toInt = (t : Int)) (ht2 : t ≤ 1596) : (G1.1 0 11).toInt = ((t + 4 : Nat) : Int) ∧ (∀ j, j < t ∨ t + 4 ≤ j → G1.1 32 j = G.1 32 j) ∧ ∀ k, k < 4 → G1.1 32 (t + k) = bC p0 k := by
  obtain ⟨-, -, h4, x, G2, hl, -, -, -, -, -, c, rfl⟩ := h
  have hI := hl (fun q => ∃ k : Nat, k ≤ 4 ∧ q.1.toInt = 24 - 8 * (k : Int) ∧ (q.2.1 0 11).toInt = ((t + k : Nat) : Int) ∧ (∀ j, j < t ∨ t + k ≤ j → q.2.1 32 j = G.1 32 j) ∧ ∀ i, i < k → q.2.1 32 (t + i) = bC p0 i) ⟨0, by decide, rfl, by simpa using ht, fun _ _ => rfl, fun i hi => absurd hi (Nat.not_lt_zero i)⟩ (by
    rintro ⟨x1, G_1⟩ ⟨xn, G_1n⟩ ⟨k, g0, g1, g2, g3, g4⟩ ⟨x1q, G_1q, xnq, G_1nq, e1, e2, -, -, -, -, c1, hd⟩
    obtain ⟨rfl, rfl⟩ := Prod.mk.inj e1
    obtain ⟨rfl, rfl⟩ := Prod.mk.inj e2
    simp only at g1 g2 g3 g4
    rcases hd with ⟨d, -⟩ | ⟨d, y17, t17, y19, e19, y20, e20, y22, t22, ex, -, w11, w32⟩
    · omega
    · rw [cn_eq g2] at w32
      have hv : vp_nar .byte y20 = bC p0 k := by
        rw [e20, e19, x_of g1]
        rfl
      rw [hv] at w32
      refine ⟨k + 1, by omega, by show xn.toInt = _; rw [← ex]; omega, by show (G_1n.1 0 11).toInt = _; rw [w11]; omega, fun j hj => ?_, fun i hi => ?_⟩
      · show G_1n.1 32 j = _
        rw [w32, show upd (G_1.1 32) (t + k) (bC p0 k) j = G_1.1 32 j from if_neg (by omega)]
        exact g3 j (by omega)
      · show G_1n.1 32 (t + i) = _
        by_cases hik : i = k
        · subst hik
          rw [w32, show upd (G_1.1 32) (t + i) (bC p0 i) (t + i) = bC p0 i from if_pos rfl]
        · rw [w32, show upd (G_1.1 32) (t + k) (bC p0 k) (t + i) = G_1.1 32 (t + i) from if_neg (by omega)]
          exact g4 i (by omega))
  obtain ⟨k, g0, g1, g2, g3, g4⟩ := hI
  simp only at g1 g2 g3 g4
  have hk : k = 4 := by omega
  subst hk
  exact ⟨g2, g3, g4⟩
theorem m_four {p0 : Int32} {G G1 : GS} {t : Nat} (h : Q_four p0 G G1) (ht : (G.1 66 1).toInt = (t : Int)) : (G1.1 66 1).toInt = ((t + 4 : Nat) : Int) ∧ (∀ j, j < t ∨ t + 4 ≤ j → G1.1 67 j = G.1 67 j) ∧ ∀ k, k < 4 → G1.1 67 (t + k) = bM p0 k := by
  obtain ⟨-, -, h4, x, G2, hl, -, -, -, -, -, c, rfl⟩ := h
  have hI := hl (fun q => ∃ k : Nat, k ≤ 4 ∧ q.1.toInt = 24 - 8 * (k : Int) ∧ (q.2.1 66 1).toInt = ((t + k : Nat) : Int) ∧ (∀ j, j < t ∨ t + k ≤ j → q.2.1 67 j = G.1 67 j) ∧ ∀ i, i < k → q.2.1 67 (t + i) = bM p0 i) ⟨0, by decide, rfl, by simpa using ht, fun _ _ => rfl, fun i hi => absurd hi (Nat.not_lt_zero i)⟩ (by
    rintro ⟨x1, G_1⟩ ⟨xn, G_1n⟩ ⟨k, g0, g1, g2, g3, g4⟩ ⟨x1q, G_1q, xnq, G_1nq, e1, e2, -, -, -, -, c1, y15, e15, y16, e16, y18, t18, y20, t20, ex, -, w1, w67⟩
    obtain ⟨rfl, rfl⟩ := Prod.mk.inj e1
    obtain ⟨rfl, rfl⟩ := Prod.mk.inj e2
    simp only at g1 g2 g3 g4
    rw [cn_eq g2] at w67
    have hv : y16 = bM p0 k := by
      rw [e16, e15, x_of g1]
      rfl
    rw [hv] at w67
    refine ⟨k + 1, by omega, by show xn.toInt = _; rw [← ex]; omega, by show (G_1n.1 66 1).toInt = _; rw [w1]; omega, fun j hj => ?_, fun i hi => ?_⟩
    · show G_1n.1 67 j = _
      rw [w67, show upd (G_1.1 67) (t + k) (bM p0 k) j = G_1.1 67 j from if_neg (by omega)]
      exact g3 j (by omega)
    · show G_1n.1 67 (t + i) = _
      by_cases hik : i = k
      · subst hik
        rw [w67, show upd (G_1.1 67) (t + i) (bM p0 i) (t + i) = bM p0 i from if_pos rfl]
      · rw [w67, show upd (G_1.1 67) (t + k) (bM p0 k) (t + i) = G_1.1 67 (t + i) from if_neg (by omega)]
        exact g4 i (by omega))
  obtain ⟨k, g0, g1, g2, g3, g4⟩ := hI
  simp only at g1 g2 g3 g4
  have hk : k = 4 := by omega
  subst hk
  exact ⟨g2, g3, g4⟩
theorem FC_step {u t : Nat} {ps : Nat → Int32} {p : Int32} {G G1 G2 : GS} (h : FC u ps t G G1) (h2 : P_Wfeed1 p G1 G2) (hp : p = ps u) (ht : t + 4 * u ≤ 1596) : FC (u + 1) ps t G G2 := by
  obtain ⟨a1, a2, a3⟩ := c_four h2 h.1 ht
  refine ⟨by rw [a1]; omega, fun j hj => ?_, fun i hi => ?_⟩
  · rw [a2 j (by omega)]
    exact h.2.1 j (by omega)
  · by_cases hq : i < 4 * u
    · rw [a2 (t + i) (by omega)]
      exact h.2.2 i hq
    · have := a3 (i - 4 * u) (by omega)
      rw [show t + 4 * u + (i - 4 * u) = t + i by omega] at this
      rw [this, hp, show i / 4 = u by omega, show i % 4 = i - 4 * u by omega]
theorem FM_step {u t : Nat} {ps : Nat → Int32} {p : Int32} {G G1 G2 : GS} (h : FM u ps t G G1) (h2 : Q_four p G1 G2) (hp : p = ps u) : FM (u + 1) ps t G G2 := by
  obtain ⟨a1, a2, a3⟩ := m_four h2 h.1
  refine ⟨by rw [a1]; omega, fun j hj => ?_, fun i hi => ?_⟩
  · rw [a2 j (by omega)]
    exact h.2.1 j (by omega)
  · by_cases hq : i < 4 * u
    · rw [a2 (t + i) (by omega)]
      exact h.2.2 i hq
    · have := a3 (i - 4 * u) (by omega)
      rw [show t + 4 * u + (i - 4 * u) = t + i by omega] at this
      rw [this, hp, show i / 4 = u by omega, show i % 4 = i - 4 * u by omega]
theorem te_feed {p0 p1 p2 p3 p4 q0 q1 q2 q3 q4 r r' : Int32} {G Ga Gb : GS} (hx : P_Wfeed p0 p1 p2 p3 p4 G r Ga) (hm : Q_feed q0 q1 q2 q3 q4 Ga r' Gb) (i0 : p0.toInt = q0.toInt) (i1 : p1.toInt = q1.toInt) (i2 : p2.toInt = q2.toInt) (i3 : p3.toInt = q3.toInt) (i4 : p4.toInt = q4.toInt) (hT : TE G) (htp : (G.1 0 11).toInt = (G.1 66 1).toInt) (h0 : 0 ≤ (G.1 0 11).toInt) : TE Gb := by
  obtain rfl := Int32.toInt_inj.mp i0
  obtain rfl := Int32.toInt_inj.mp i1
  obtain rfl := Int32.toInt_inj.mp i2
  obtain rfl := Int32.toInt_inj.mp i3
  obtain rfl := Int32.toInt_inj.mp i4
  have r67a : Ga.1 67 = G.1 67 := hx.2.1.row1 67 (by decide) (by decide)
  have r32b : Gb.1 32 = Ga.1 32 := hm.2.1.row1 32 (by decide) (by decide)
  have e66 : (Ga.1 66 1).toInt = (G.1 66 1).toInt := by rw [hx.2.1.i 66 1 (by decide) (by decide)]
  obtain ⟨t, ht⟩ : ∃ t : Nat, (G.1 0 11).toInt = (t : Int) := ⟨(G.1 0 11).toInt.toNat, by omega⟩
  obtain ⟨ps, hps⟩ : ∃ ps : Nat → Int32, ps = fun i => [p0, p1, p2, p3, p4].getD i 0 := ⟨_, rfl⟩
  obtain ⟨-, -, -, y2, t2, hx⟩ := hx
  obtain ⟨-, -, -, z2, s2, hm⟩ := hm
  rcases hx with ⟨c, G5, f1, G11, f2, G17, f3, G23, f4, G29, f5, -, rfl⟩ | ⟨c, -, rfl⟩
  · rcases hm with ⟨c', M5, g1, M11, g2, M17, g3, M23, g4, M29, g5, -, rfl⟩ | ⟨c', -, -⟩
    · have hC : FC 5 ps t G G29 := FC_step (FC_step (FC_step (FC_step (FC_step (⟨by simpa using ht, fun _ _ => rfl, fun i hi => absurd hi (Nat.not_lt_zero i)⟩ : FC 0 ps t G G) f1 (by rw [hps]; rfl) (by omega)) f2 (by rw [hps]; rfl) (by omega)) f3 (by rw [hps]; rfl) (by omega)) f4 (by rw [hps]; rfl) (by omega)) f5 (by rw [hps]; rfl) (by omega)
      have hM : FM 5 ps t G29 M29 := FM_step (FM_step (FM_step (FM_step (FM_step (⟨by show (G29.1 66 1).toInt = ((t + 4 * 0 : Nat) : Int); omega, fun _ _ => rfl, fun i hi => absurd hi (Nat.not_lt_zero i)⟩ : FM 0 ps t G29 G29) g1 (by rw [hps]; rfl)) g2 (by rw [hps]; rfl)) g3 (by rw [hps]; rfl)) g4 (by rw [hps]; rfl)) g5 (by rw [hps]; rfl)
      intro j hj
      rw [r32b]
      by_cases hq : j < t ∨ t + 4 * 5 ≤ j
      · rw [hC.2.1 j hq, hM.2.1 j hq, r67a]
        exact hT j hj
      · have e1 := hC.2.2 (j - t) (by omega)
        have e2 := hM.2.2 (j - t) (by omega)
        rw [show t + (j - t) = j by omega] at e1 e2
        rw [e1, e2]
        exact byt_eq _ _
    · omega
  · rcases hm with ⟨c', -⟩ | ⟨c', -, rfl⟩
    · omega
    · exact hT
theorem TE.fr {rs : List Nat} {fs : List (Nat × Nat)} {G G1 : GS} (h : TE G) (hF : Fr rs fs G G1) (h1 : 32 ∉ rs ∧ 67 ∉ rs) (h2 : ∀ x ∈ fs, x.1 ≠ 32 ∧ x.1 ≠ 67) : TE G1 := by
  unfold TE at h ⊢
  rw [hF.row1 32 h1.1 (fun x hx => (h2 x hx).1), hF.row1 67 h1.2 (fun x hx => (h2 x hx).2)]
  exact h
noncomputable def gTE (G : GS) : Int := ind (TE G)
theorem gTE_fr {rs : List Nat} {fs : List (Nat × Nat)} {G G1 : GS} (h : Fr rs fs G G1) (h1 : ∀ i ∈ [32, 67], i ∉ rs ∧ ∀ x ∈ fs, x.1 ≠ i) (h2 : ∀ y ∈ ([] : List (Nat × Nat)), y.1 ∉ rs ∧ y ∉ fs) : gTE G1 = gTE G := by
  unfold gTE TE
  rw [h.rows h1 (i := 32) (by decide), h.rows h1 (i := 67) (by decide)]
theorem flt_eq {p q r r' : Int32} {G Ga Gb : GS} (hx : P_Wfault p G r Ga) (hm : Q_fault q Ga r' Gb) (hpq : p.toInt = q.toInt) (h7 : (G.1 3 7).toInt = (G.1 66 2).toInt) (h8 : (G.1 3 8).toInt = (G.1 66 3).toInt) : r.toInt = r'.toInt := by
  obtain rfl := Int32.toInt_inj.mp hpq
  have e := hx.2.1.nil
  subst e
  obtain ⟨-, -, hx⟩ := hx
  obtain ⟨-, -, hm⟩ := hm
  rcases hx with ⟨c, rfl, -⟩ | ⟨c, ⟨d, rfl, -⟩ | ⟨d, rfl, -⟩⟩
  · rcases hm with ⟨-, rfl, -⟩ | ⟨c', -⟩
    · exact h7
    · exact absurd c c'
  · rcases hm with ⟨c', -⟩ | ⟨-, ⟨-, rfl, -⟩ | ⟨d', -⟩⟩
    · exact absurd c' c
    · exact h8
    · exact absurd d d'
  · rcases hm with ⟨c', -⟩ | ⟨-, ⟨d', -⟩ | ⟨-, rfl, -⟩⟩
    · exact absurd c' c
    · exact absurd d' d
    · rfl
