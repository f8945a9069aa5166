/-! the TAPE on both sides -/
def TE (G : GS) : Prop := ∀ j : Nat, j < 1600 → 0 ≤ (G.1 67 j).toInt ∧ (G.1 67 j).toInt ≤ 255 ∧ ((G.1 67 j).toInt < 128 → (G.1 32 j).toInt = (G.1 67 j).toInt) ∧ (128 ≤ (G.1 67 j).toInt → (G.1 32 j).toInt = (G.1 67 j).toInt - 256)
def shf (p : Int32) (k : Nat) : Int32 := p >>> (Int32.ofInt (24 - 8 * (k : Int)) &&& 31)
def bC (p : Int32) (k : Nat) : Int32 := vp_nar .byte (shf p k).toInt8.toInt32
def bM (p : Int32) (k : Nat) : Int32 := shf p k &&& 255
theorem byt_and (x : Int32) : (x &&& 255).toInt8 = x.toInt8 := by
  apply Int8.toBitVec.inj
  show (x.toBitVec &&& 255#32).signExtend 8 = x.toBitVec.signExtend 8
  rw [BitVec.signExtend_eq_setWidth_of_le _ (by decide), BitVec.signExtend_eq_setWidth_of_le _ (by decide), BitVec.setWidth_and]
  have e : (255#32).setWidth 8 = BitVec.allOnes 8 := by decide
  rw [e, BitVec.and_allOnes]
theorem byt_rng (x : Int32) : 0 ≤ (x &&& 255).toInt ∧ (x &&& 255).toInt ≤ 255 := by
  have h1 : (x &&& 255).toBitVec.toNat ≤ 255 := by
    show (x.toBitVec &&& 255#32).toNat ≤ 255
    rw [BitVec.toNat_and]
    exact Nat.and_le_right
  have h2 : (x &&& 255).toInt = ((x &&& 255).toBitVec.toNat : Int) := by
    show (x &&& 255).toBitVec.toInt = _
    rw [BitVec.toInt_eq_toNat_cond, if_pos (by omega)]
  rw [h2]
  omega
theorem byt_eq (p : Int32) (k : Nat) : 0 ≤ (bM p k).toInt ∧ (bM p k).toInt ≤ 255 ∧ ((bM p k).toInt < 128 → (bC p k).toInt = (bM p k).toInt) ∧ (128 ≤ (bM p k).toInt → (bC p k).toInt = (bM p k).toInt - 256) := by
  have hr := byt_rng (shf p k)
  have h8 := i8_i (x := bM p k) hr.1 hr.2
  have e1 : bC p k = (shf p k).toInt8.toInt32 := by
    unfold bC
    show (shf p k).toInt8.toInt32.toInt8.toInt32 = _
    rw [Int8.toInt8_toInt32]
  have e2 : (bM p k).toInt8.toInt32 = (shf p k).toInt8.toInt32 := by
    unfold bM
    rw [byt_and]
  rw [e2, ← e1] at h8
  exact ⟨hr.1, hr.2, h8.1, h8.2⟩
theorem x_of {x : Int32} {k : Nat} (h : x.toInt = 24 - 8 * (k : Int)) : x = Int32.ofInt (24 - 8 * (k : Int)) := by rw [← h, Int32.ofInt_toInt]
def FC (u : Nat) (ps : Nat → Int32) (t : Nat) (G G1 : GS) : Prop := (G1.1 0 11).toInt = ((t + 4 * u : Nat) : Int) ∧ (∀ j, j < t ∨ t + 4 * u ≤ j → G1.1 32 j = G.1 32 j) ∧ ∀ i, i < 4 * u → G1.1 32 (t + i) = bC (ps (i / 4)) (i % 4)
def FM (u : Nat) (ps : Nat → Int32) (t : Nat) (G G1 : GS) : Prop := (G1.1 66 1).toInt = ((t + 4 * u : Nat) : Int) ∧ (∀ j, j < t ∨ t + 4 * u ≤ j → G1.1 67 j = G.1 67 j) ∧ ∀ i, i < 4 * u → G1.1 67 (t + i) = bM (ps (i / 4)) (i % 4)
theorem c_four {p0 : Int32} {G G1 : GS} {t : Nat} (h : P_Wfeed1 p0 G G1) (ht : (G.1 0 11).toInt = (t : Int)) (ht2 : t ≤ 1596) : (G1.1 0 11).toInt = ((t + 4 : Nat) : Int) ∧ (∀ j, j < t ∨ t + 4 ≤ j → G1.1 32 j = G.1 32 j) ∧ ∀ k, k < 4 → G1.1 32 (t + k) = bC p0 k := by
  obtain ⟨-, -, h4, x, G2, hl, -, -, -, -, -, c, rfl⟩ := h
  have hI := hl (fun q => ∃ k : Nat, k ≤ 4 ∧ q.1.toInt = 24 - 8 * (k : Int) ∧ (q.2.1 0 11).toInt = ((t + k : Nat) : Int) ∧ (∀ j, j < t ∨ t + k ≤ j → q.2.1 32 j = G.1 32 j) ∧ ∀ i, i < k → q.2.1 32 (t + i) = bC p0 i) ⟨0, by decide, rfl, by simpa using ht, fun _ _ => rfl, fun i hi => absurd hi (Nat.not_lt_zero i)⟩ (by
    rintro ⟨x1, G_1⟩ ⟨xn, G_1n⟩ ⟨k, g0, g1, g2, g3, g4⟩ ⟨x1q, G_1q, xnq, G_1nq, e1, e2, -, -, -, -, c1, hd⟩
    obtain ⟨rfl, rfl⟩ := Prod.mk.inj e1
    obtain ⟨rfl, rfl⟩ := Prod.mk.inj e2
    simp only at g1 g2 g3 g4
    rcases hd with ⟨d, -⟩ | ⟨d, y17, t17, y19, e19, y20, e20, y22, t22, ex, -, w11, w32⟩
    · omega
    · rw [cn_eq g2] at w32
      have hv : vp_nar .byte y20 = bC p0 k := by
        rw [e20, e19, x_of g1]
        rfl
      rw [hv] at w32
      refine ⟨k + 1, by omega, by show xn.toInt = _; rw [← ex]; omega, by show (G_1n.1 0 11).toInt = _; rw [w11]; omega, fun j hj => ?_, fun i hi => ?_⟩
      · show G_1n.1 32 j = _
        rw [w32, show upd (G_1.1 32) (t + k) (bC p0 k) j = G_1.1 32 j from if_neg (by omega)]
        exact g3 j (by omega)
      · show G_1n.1 32 (t + i) = _
        by_cases hik : i = k
        · subst hik
          rw [w32, show upd (G_1.1 32) (t + i) (bC p0 i) (t + i) = bC p0 i from if_pos rfl]
        · rw [w32, show upd (G_1.1 32) (t + k) (bC p0 k) (t + i) = G_1.1 32 (t + i) from if_neg (by omega)]
          exact g4 i (by omega))
  obtain ⟨k, g0, g1, g2, g3, g4⟩ := hI
  simp only at g1 g2 g3 g4
  have hk : k = 4 := by omega
  subst hk
  exact ⟨g2, g3, g4⟩
theorem m_four {p0 : Int32} {G G1 : GS} {t : Nat} (h : Q_four p0 G G1) (ht : (G.1 66 1).toInt = (t : Int)) : (G1.1 66 1).toInt = ((t + 4 : Nat) : Int) ∧ (∀ j, j < t ∨ t + 4 ≤ j → G1.1 67 j = G.1 67 j) ∧ ∀ k, k < 4 → G1.1 67 (t + k) = bM p0 k := by
  obtain ⟨-, -, h4, x, G2, hl, -, -, -, -, -, c, rfl⟩ := h
  have hI := hl (fun q => ∃ k : Nat, k ≤ 4 ∧ q.1.toInt = 24 - 8 * (k : Int) ∧ (q.2.1 66 1).toInt = ((t + k : Nat) : Int) ∧ (∀ j, j < t ∨ t + k ≤ j → q.2.1 67 j = G.1 67 j) ∧ ∀ i, i < k → q.2.1 67 (t + i) = bM p0 i) ⟨0, by decide, rfl, by simpa using ht, fun _ _ => rfl, fun i hi => absurd hi (Nat.not_lt_zero i)⟩ (by
    rintro ⟨x1, G_1⟩ ⟨xn, G_1n⟩ ⟨k, g0, g1, g2, g3, g4⟩ ⟨x1q, G_1q, xnq, G_1nq, e1, e2, -, -, -, -, c1, y15, e15, y16, e16, y18, t18, y20, t20, ex, -, w1, w67⟩
    obtain ⟨rfl, rfl⟩ := Prod.mk.inj e1
    obtain ⟨rfl, rfl⟩ := Prod.mk.inj e2
    simp only at g1 g2 g3 g4
    rw [cn_eq g2] at w67
    have hv : y16 = bM p0 k := by
      rw [e16, e15, x_of g1]
      rfl
    rw [hv] at w67
    refine ⟨k + 1, by omega, by show xn.toInt = _; rw [← ex]; omega, by show (G_1n.1 66 1).toInt = _; rw [w1]; omega, fun j hj => ?_, fun i hi => ?_⟩
    · show G_1n.1 67 j = _
      rw [w67, show upd (G_1.1 67) (t + k) (bM p0 k) j = G_1.1 67 j from if_neg (by omega)]
      exact g3 j (by omega)
    · show G_1n.1 67 (t + i) = _
      by_cases hik : i = k
      · subst hik
        rw [w67, show upd (G_1.1 67) (t + i) (bM p0 i) (t + i) = bM p0 i from if_pos rfl]
      · rw [w67, show upd (G_1.1 67) (t + k) (bM p0 k) (t + i) = G_1.1 67 (t + i) from if_neg (by omega)]
        exact g4 i (by omega))
  obtain ⟨k, g0, g1, g2, g3, g4⟩ := hI
  simp only at g1 g2 g3 g4
  have hk : k = 4 := by omega
  subst hk
  exact ⟨g2, g3, g4⟩
theorem FC_step {u t : Nat} {ps : Nat → Int32} {p : Int32} {G G1 G2 : GS} (h : FC u ps t G G1) (h2 : P_Wfeed1 p G1 G2) (hp : p = ps u) (ht : t + 4 * u ≤ 1596) : FC (u + 1) ps t G G2 := by
  obtain ⟨a1, a2, a3⟩ := c_four h2 h.1 ht
  refine ⟨by rw [a1]; omega, fun j hj => ?_, fun i hi => ?_⟩
  · rw [a2 j (by omega)]
    exact h.2.1 j (by omega)
  · by_cases hq : i < 4 * u
    · rw [a2 (t + i) (by omega)]
      exact h.2.2 i hq
    · have := a3 (i - 4 * u) (by omega)
      rw [show t + 4 * u + (i - 4 * u) = t + i by omega] at this
      rw [this, hp, show i / 4 = u by omega, show i % 4 = i - 4 * u by omega]
theorem FM_step {u t : Nat} {ps : Nat → Int32} {p : Int32} {G G1 G2 : GS} (h : FM u ps t G G1) (h2 : Q_four p G1 G2) (hp : p = ps u) : FM (u + 1) ps t G G2 := by
  obtain ⟨a1, a2, a3⟩ := m_four h2 h.1
  refine ⟨by rw [a1]; omega, fun j hj => ?_, fun i hi => ?_⟩
  · rw [a2 j (by omega)]
    exact h.2.1 j (by omega)
  · by_cases hq : i < 4 * u
    · rw [a2 (t + i) (by omega)]
      exact h.2.2 i hq
    · have := a3 (i - 4 * u) (by omega)
      rw [show t + 4 * u + (i - 4 * u) = t + i by omega] at this
      rw [this, hp, show i / 4 = u by omega, show i % 4 = i - 4 * u by omega]
theorem te_feed {p0 p1 p2 p3 p4 q0 q1 q2 q3 q4 r r' : Int32} {G Ga Gb : GS} (hx : P_Wfeed p0 p1 p2 p3 p4 G r Ga) (hm : Q_feed q0 q1 q2 q3 q4 Ga r' Gb) (i0 : p0.toInt = q0.toInt) (i1 : p1.toInt = q1.toInt) (i2 : p2.toInt = q2.toInt) (i3 : p3.toInt = q3.toInt) (i4 : p4.toInt = q4.toInt) (hT : TE G) (htp : (G.1 0 11).toInt = (G.1 66 1).toInt) (h0 : 0 ≤ (G.1 0 11).toInt) : TE Gb := by
  obtain rfl := Int32.toInt_inj.mp i0
  obtain rfl := Int32.toInt_inj.mp i1
  obtain rfl := Int32.toInt_inj.mp i2
  obtain rfl := Int32.toInt_inj.mp i3
  obtain rfl := Int32.toInt_inj.mp i4
  have r67a : Ga.1 67 = G.1 67 := hx.2.1.row1 67 (by decide) (by decide)
  have r32b : Gb.1 32 = Ga.1 32 := hm.2.1.row1 32 (by decide) (by decide)
  have e66 : (Ga.1 66 1).toInt = (G.1 66 1).toInt := by rw [hx.2.1.i 66 1 (by decide) (by decide)]
  obtain ⟨t, ht⟩ : ∃ t : Nat, (G.1 0 11).toInt = (t : Int) := ⟨(G.1 0 11).toInt.toNat, by omega⟩
  obtain ⟨ps, hps⟩ : ∃ ps : Nat → Int32, ps = fun i => [p0, p1, p2, p3, p4].getD i 0 := ⟨_, rfl⟩
  obtain ⟨-, -, -, y2, t2, hx⟩ := hx
  obtain ⟨-, -, -, z2, s2, hm⟩ := hm
  rcases hx with ⟨c, G5, f1, G11, f2, G17, f3, G23, f4, G29, f5, -, rfl⟩ | ⟨c, -, rfl⟩
  · rcases hm with ⟨c', M5, g1, M11, g2, M17, g3, M23, g4, M29, g5, -, rfl⟩ | ⟨c', -, -⟩
    · have hC : FC 5 ps t G G29 := FC_step (FC_step (FC_step (FC_step (FC_step (⟨by simpa using ht, fun _ _ => rfl, fun i hi => absurd hi (Nat.not_lt_zero i)⟩ : FC 0 ps t G G) f1 (by rw [hps]; rfl) (by omega)) f2 (by rw [hps]; rfl) (by omega)) f3 (by rw [hps]; rfl) (by omega)) f4 (by rw [hps]; rfl) (by omega)) f5 (by rw [hps]; rfl) (by omega)
      have hM : FM 5 ps t G29 M29 := FM_step (FM_step (FM_step (FM_step (FM_step (⟨by show (G29.1 66 1).toInt = ((t + 4 * 0 : Nat) : Int); omega, fun _ _ => rfl, fun i hi => absurd hi (Nat.not_lt_zero i)⟩ : FM 0 ps t G29 G29) g1 (by rw [hps]; rfl)) g2 (by rw [hps]; rfl)) g3 (by rw [hps]; rfl)) g4 (by rw [hps]; rfl)) g5 (by rw [hps]; rfl)
      intro j hj
      rw [r32b]
      by_cases hq : j < t ∨ t + 4 * 5 ≤ j
      · rw [hC.2.1 j hq, hM.2.1 j hq, r67a]
        exact hT j hj
      · have e1 := hC.2.2 (j - t) (by omega)
        have e2 := hM.2.2 (j - t) (by omega)
        rw [show t + (j - t) = j by omega] at e1 e2
        rw [e1, e2]
        exact byt_eq _ _
    · omega
  · rcases hm with ⟨c', -⟩ | ⟨c', -, rfl⟩
    · omega
    · exact hT
theorem TE.fr {rs : List Nat} {fs : List (Nat × Nat)} {G G1 : GS} (h : TE G) (hF : Fr rs fs G G1) (h1 : 32 ∉ rs ∧ 67 ∉ rs) (h2 : ∀ x ∈ fs, x.1 ≠ 32 ∧ x.1 ≠ 67) : TE G1 := by
  unfold TE at h ⊢
  rw [hF.row1 32 h1.1 (fun x hx => (h2 x hx).1), hF.row1 67 h1.2 (fun x hx => (h2 x hx).2)]
  exact h
noncomputable def gTE (G : GS) : Int := ind (TE G)
theorem gTE_fr {rs : List Nat} {fs : List (Nat × Nat)} {G G1 : GS} (h : Fr rs fs G G1) (h1 : ∀ i ∈ [32, 67], i ∉ rs ∧ ∀ x ∈ fs, x.1 ≠ i) (h2 : ∀ y ∈ ([] : List (Nat × Nat)), y.1 ∉ rs ∧ y ∉ fs) : gTE G1 = gTE G := by
  unfold gTE TE
  rw [h.rows h1 (i := 32) (by decide), h.rows h1 (i := 67) (by decide)]
theorem flt_eq {p q r r' : Int32} {G Ga Gb : GS} (hx : P_Wfault p G r Ga) (hm : Q_fault q Ga r' Gb) (hpq : p.toInt = q.toInt) (h7 : (G.1 3 7).toInt = (G.1 66 2).toInt) (h8 : (G.1 3 8).toInt = (G.1 66 3).toInt) : r.toInt = r'.toInt := by
  obtain rfl := Int32.toInt_inj.mp hpq
  have e := hx.2.1.nil
  subst e
  obtain ⟨-, -, hx⟩ := hx
  obtain ⟨-, -, hm⟩ := hm
  rcases hx with ⟨c, rfl, -⟩ | ⟨c, ⟨d, rfl, -⟩ | ⟨d, rfl, -⟩⟩
  · rcases hm with ⟨-, rfl, -⟩ | ⟨c', -⟩
    · exact h7
    · exact absurd c c'
  · rcases hm with ⟨c', -⟩ | ⟨-, ⟨-, rfl, -⟩ | ⟨d', -⟩⟩
    · exact absurd c' c
    · exact h8
    · exact absurd d d'
  · rcases hm with ⟨c', -⟩ | ⟨-, ⟨d', -⟩ | ⟨-, rfl, -⟩⟩
    · exact absurd c' c
    · exact absurd d' d
    · rfl

/-! numbers and bits -/
theorem tn_i {x : Int32} (h : 0 ≤ x.toInt) : (x.toBitVec.toNat : Int) = x.toInt := by
  have h1 : x.toInt = x.toBitVec.toInt := rfl
  have h2 := BitVec.toInt_eq_toNat_cond x.toBitVec
  have h3 := x.toBitVec.isLt
  rw [h1] at h ⊢
  rw [h2] at h ⊢
  split at h
  · rw [if_pos (by assumption)]
  · omega
theorem ti_n {x : Int32} {v : Nat} (h : x.toBitVec.toNat = v) (hv : v < 2147483648) : x.toInt = (v : Int) := by
  have h1 : x.toInt = x.toBitVec.toInt := rfl
  rw [h1, BitVec.toInt_eq_toNat_cond, h, if_pos (by omega)]
theorem or_i {x y : Int32} {k c : Nat} {X m : Int} (hc : 2 ^ k = c) (hx : x.toInt = X) (h0 : 0 ≤ X) (h1 : X < (c : Int)) (hy : y.toInt = m * (c : Int)) (hm : 0 ≤ m) (h2 : m * (c : Int) + X < 2147483648) : (x ||| y).toInt = X + m * (c : Int) := by
  have a1 := tn_i (x := x) (by omega)
  have hmc : 0 ≤ m * (c : Int) := Int.mul_nonneg hm (by omega)
  have a2 := tn_i (x := y) (by omega)
  have e1 : x.toBitVec.toNat = X.toNat := by omega
  have e2 : y.toBitVec.toNat = m.toNat * c := by
    have : ((m.toNat * c : Nat) : Int) = m * (c : Int) := by
      rw [Int.natCast_mul, Int.toNat_of_nonneg hm]
    omega
  have e3 : (x ||| y).toBitVec.toNat = m.toNat * c + X.toNat := by
    show (x.toBitVec ||| y.toBitVec).toNat = _
    rw [BitVec.toNat_or, e1, e2, Nat.or_comm, ← hc, ← Nat.shiftLeft_eq, Nat.shiftLeft_add_eq_or_of_lt (by omega)]
  have e4 : ((m.toNat * c : Nat) : Int) = m * (c : Int) := by
    rw [Int.natCast_mul, Int.toNat_of_nonneg hm]
  rw [ti_n e3 (by omega)]
  omega
theorem shl_i {x kk : Int32} {k c : Nat} {X : Int} (hk : (x <<< (kk &&& 31)).toBitVec = x.toBitVec <<< k) (hc : 2 ^ k = c) (hx : x.toInt = X) (h0 : 0 ≤ X) (h1 : X * (c : Int) < 2147483648) : (x <<< (kk &&& 31)).toInt = X * (c : Int) := by
  have a1 := tn_i (x := x) (by omega)
  have e1 : x.toBitVec.toNat = X.toNat := by omega
  have e4 : ((X.toNat * c : Nat) : Int) = X * (c : Int) := by
    rw [Int.natCast_mul, Int.toNat_of_nonneg h0]
  have e3 : (x <<< (kk &&& 31)).toBitVec.toNat = X.toNat * c := by
    rw [hk, BitVec.toNat_shiftLeft, e1, Nat.shiftLeft_eq, hc]
    exact Nat.mod_eq_of_lt (by omega)
  rw [ti_n e3 (by omega)]
  exact e4
theorem shr_i {x kk : Int32} {k c : Nat} {X : Int} (hk : (x >>> (kk &&& 31)).toBitVec = x.toBitVec.sshiftRight k) (hc : 2 ^ k = c) (hx : x.toInt = X) (h0 : 0 ≤ X) : (x >>> (kk &&& 31)).toInt = X / (c : Int) := by
  have a1 := tn_i (x := x) (by omega)
  have hlt := tI_rng x
  have e1 : x.toBitVec.toNat = X.toNat := by omega
  have hmsb : x.toBitVec.msb = false := by
    rw [BitVec.msb_eq_decide, decide_eq_false_iff_not]
    omega
  have e3 : (x >>> (kk &&& 31)).toBitVec.toNat = X.toNat / c := by
    rw [hk, BitVec.sshiftRight_eq_of_msb_false hmsb, BitVec.toNat_ushiftRight, e1, Nat.shiftRight_eq_div_pow, hc]
  have hle : X.toNat / c ≤ X.toNat := Nat.div_le_self _ _
  rw [ti_n e3 (by omega), Int.natCast_ediv, Int.toNat_of_nonneg h0]
theorem and_i {x m : Int32} {k c : Nat} {X : Int} (hm : m.toBitVec.toNat = 2 ^ k - 1) (hc : 2 ^ k = c) (hx : x.toInt = X) (h0 : 0 ≤ X) : (x &&& m).toInt = X % (c : Int) := by
  have a1 := tn_i (x := x) (by omega)
  have hlt := tI_rng x
  have e1 : x.toBitVec.toNat = X.toNat := by omega
  have e3 : (x &&& m).toBitVec.toNat = X.toNat % c := by
    show (x.toBitVec &&& m.toBitVec).toNat = _
    rw [BitVec.toNat_and, hm, e1, Nat.and_two_pow_sub_one_eq_mod, hc]
  have hle : X.toNat % c ≤ X.toNat := Nat.mod_le _ _
  rw [ti_n e3 (by omega), Int.natCast_emod, Int.toNat_of_nonneg h0]
theorem oi_i {v : Int} (h0 : 0 ≤ v) (h1 : v < 2147483648) : (Int32.ofInt v).toInt = v := Int32.toInt_ofInt_of_le (by omega) (by omega)
def encV (x : IC) : Int := (if x.1 < 0 then 1 else 2 * x.1) + 32 * x.2.1 + 16384 * x.2.2.1 + 1048576 * x.2.2.2
theorem encI_i {x : IC} (h : ICok x) : (encI x).toInt = encV x ∧ 0 ≤ encV x := by
  obtain ⟨m, nth, i, l⟩ := x
  obtain ⟨h1, h2, h3, h4, h5, h6, h7, h8⟩ := h
  simp only at h1 h2 h3 h4 h5 h6 h7 h8
  have a1 : (Int32.ofInt (if m < 0 then 0 else m)).toInt = (if m < 0 then 0 else m) := by
    split
    · rfl
    · exact oi_i (by omega) (by omega)
  have hw : 0 ≤ (if m < 0 then 0 else m) ∧ (if m < 0 then 0 else m) ≤ 15 := by
    split <;> omega
  have b1 := shl_i (kk := 1) (k := 1) (c := 2) rfl rfl a1 hw.1 (by omega)
  have a0 : (if m < 0 then (1 : Int32) else 0).toInt = (if m < 0 then 1 else 0) := by
    split <;> rfl
  have h01 : 0 ≤ (if m < 0 then (1 : Int) else 0) ∧ (if m < 0 then (1 : Int) else 0) < 2 := by
    split <;> omega
  have c1 := or_i (k := 1) (c := 2) rfl a0 h01.1 h01.2 b1 hw.1 (by omega)
  have b2 := shl_i (kk := 5) (k := 5) (c := 32) rfl rfl (oi_i h3 (by omega)) h3 (by omega)
  have c2 := or_i (k := 5) (c := 32) rfl c1 (by omega) (by omega) b2 h3 (by omega)
  have b3 := shl_i (kk := 14) (k := 14) (c := 16384) rfl rfl (oi_i h5 (by omega)) h5 (by omega)
  have c3 := or_i (k := 14) (c := 16384) rfl c2 (by omega) (by omega) b3 h5 (by omega)
  have b4 := shl_i (kk := 20) (k := 20) (c := 1048576) rfl rfl (oi_i h7 (by omega)) h7 (by omega)
  have c4 := or_i (k := 20) (c := 1048576) rfl c3 (by omega) (by omega) b4 h7 (by omega)
  have e : encV (m, nth, i, l) = (if m < 0 then 1 else 0) + (if m < 0 then 0 else m) * ((2 : Nat) : Int) + nth * ((32 : Nat) : Int) + i * ((16384 : Nat) : Int) + l * ((1048576 : Nat) : Int) := by
    show (if m < 0 then 1 else 2 * m) + 32 * nth + 16384 * i + 1048576 * l = _
    by_cases hm : m < 0
    · rw [if_pos hm, if_pos hm, if_pos hm]
      omega
    · rw [if_neg hm, if_neg hm, if_neg hm]
      omega
  refine ⟨?_, ?_⟩
  · rw [e]
    exact c4
  · rw [e]
    omega
/-- what an INCH says, told from its number -/
theorem part_i {x : IC} (h : ICok x) {y : Int32} (hy : y = encI x) : (y &&& 1).toInt = (if x.1 < 0 then 1 else 0) ∧ (y >>> (5 &&& 31) &&& 511).toInt = x.2.1 ∧ (y >>> (14 &&& 31) &&& 63).toInt = x.2.2.1 ∧ (y >>> (20 &&& 31) &&& 63).toInt = x.2.2.2 ∧ (y >>> (1 &&& 31) &&& 15).toInt = (if x.1 < 0 then 0 else x.1) := by
  obtain ⟨e1, e2⟩ := encI_i h
  rw [← hy] at e1
  obtain ⟨m, nth, i, l⟩ := x
  obtain ⟨h1, h2, h3, h4, h5, h6, h7, h8⟩ := h
  simp only at h1 h2 h3 h4 h5 h6 h7 h8
  have eV : encV (m, nth, i, l) = (if m < 0 then 1 else 2 * m) + 32 * nth + 16384 * i + 1048576 * l := rfl
  have q1 := and_i (m := 1) (k := 1) (c := 2) rfl rfl e1 e2
  have s5 := shr_i (kk := 5) (k := 5) (c := 32) rfl rfl e1 e2
  have s14 := shr_i (kk := 14) (k := 14) (c := 16384) rfl rfl e1 e2
  have s20 := shr_i (kk := 20) (k := 20) (c := 1048576) rfl rfl e1 e2
  have s1 := shr_i (kk := 1) (k := 1) (c := 2) rfl rfl e1 e2
  have q5 := and_i (m := 511) (k := 9) (c := 512) rfl rfl s5 (by omega)
  have q14 := and_i (m := 63) (k := 6) (c := 64) rfl rfl s14 (by omega)
  have q20 := and_i (m := 63) (k := 6) (c := 64) rfl rfl s20 (by omega)
  have qs1 := and_i (m := 15) (k := 4) (c := 16) rfl rfl s1 (by omega)
  rw [q1, q5, q14, q20, qs1]
  show encV (m, nth, i, l) % ((2 : Nat) : Int) = (if m < 0 then 1 else 0) ∧ encV (m, nth, i, l) / ((32 : Nat) : Int) % ((512 : Nat) : Int) = nth ∧ encV (m, nth, i, l) / ((16384 : Nat) : Int) % ((64 : Nat) : Int) = i ∧ encV (m, nth, i, l) / ((1048576 : Nat) : Int) % ((64 : Nat) : Int) = l ∧ encV (m, nth, i, l) / ((2 : Nat) : Int) % ((16 : Nat) : Int) = (if m < 0 then 0 else m)
  rw [eV]
  by_cases hm : m < 0
  · rw [if_pos hm, if_pos hm, if_pos hm]
    omega
  · rw [if_neg hm, if_neg hm, if_neg hm]
    omega

/-! what pavement copies, by the reference -/
def RSt (s : Nat) (I : List IC) (G : GS) : Prop := (G.1 91 s).toInt = (I.length : Int) ∧ ∀ i, i < I.length → (G.1 87 (400 * s + i)).toInt = (I.getD i (0, 0, 0, 0)).1 ∧ (G.1 88 (400 * s + i)).toInt = (I.getD i (0, 0, 0, 0)).2.1 ∧ (G.1 89 (400 * s + i)).toInt = (I.getD i (0, 0, 0, 0)).2.2.1 ∧ (G.1 90 (400 * s + i)).toInt = (I.getD i (0, 0, 0, 0)).2.2.2
def RWk (k : Nat) (x : WK) (G : GS) : Prop := (G.1 92 k).toInt = x.1 ∧ (G.1 93 k).toInt = x.2.1 ∧ (G.1 94 k).toInt = x.2.2.1 ∧ (G.1 95 k).toInt = x.2.2.2
def RCd (k : Nat) (C : List (Int × Int)) (G : GS) : Prop := (G.1 74 k).toInt = (C.length : Int) ∧ ∀ i, i < C.length → (G.1 72 (320 * k + i)).toInt = (C.getD i (0, 0)).1 ∧ (G.1 73 (320 * k + i)).toInt = (C.getD i (0, 0)).2
def RV (V : PV) (G : GS) : Prop := ((G.1 66 52).toInt = (V.1.length : Int) ∧ V.1.length ≤ 3 ∧ ∀ s, s < V.1.length → RSt s (V.1.getD s ([], [])).2 G ∧ ((V.1.getD s ([], [])).2.length : Int) ≤ 400) ∧ ((G.1 66 53).toInt = (V.2.1.length : Int) ∧ V.2.1.length ≤ 4 ∧ ∀ k, k < V.2.1.length → RWk k (V.2.1.getD k ([], 0, 0, 0, 0)).2 G) ∧ ((G.1 66 54).toInt = (V.2.2.1.length : Int) ∧ V.2.2.1.length ≤ 6 ∧ (G.1 66 22).toInt = V.2.2.2.1 ∧ ∀ k, k < V.2.2.1.length → RCd k (V.2.2.1.getD k ([], [])).2 G ∧ (V.2.2.1.getD k ([], [])).2.length ≤ 320) ∧ ((G.1 96 0).toInt = (V.2.2.2.2.1.getD (0, 1, 0)).1 ∧ (G.1 96 1).toInt = (V.2.2.2.2.1.getD (0, 1, 0)).2.1 ∧ (G.1 96 2).toInt = (V.2.2.2.2.1.getD (0, 1, 0)).2.2) ∧ (G.1 66 55).toInt = (V.2.2.2.2.2.1.getD (30, 10)).1 ∧ (G.1 66 56).toInt = (V.2.2.2.2.2.1.getD (30, 10)).2
theorem l_slips {x : Int32} {G G1 : GS} (hl : Rc (St_n_pavement_1) (0, G) (x, G1)) (hx : 3 ≤ x.toInt) : ∀ j, j < 3 → G1.1 96 j = G.1 86 j := by
  have hI := hl (fun q => q.2.1 86 = G.1 86 ∧ ∃ k : Nat, q.1.toInt = (k : Int) ∧ ∀ j, j < k → q.2.1 96 j = G.1 86 j) ⟨rfl, 0, rfl, fun j hj => absurd hj (Nat.not_lt_zero j)⟩ (by
    rintro ⟨x1, G_1⟩ ⟨xn, G_1n⟩ ⟨i1, k, i2, i3⟩ ⟨x1q, G_1q, xnq, G_1nq, q1, q2, -, -, -, c, y1, e1, y2, t2, ex, hF, e96⟩
    obtain ⟨rfl, rfl⟩ := Prod.mk.inj q1
    obtain ⟨rfl, rfl⟩ := Prod.mk.inj q2
    simp only at i1 i2 i3
    rw [cn_eq i2] at e1 e96
    refine ⟨(hF.row1 86 (by decide) (by decide)).trans i1, k + 1, by show xn.toInt = _; rw [← ex]; omega, fun j hj => ?_⟩
    show G_1n.1 96 j = _
    rw [e96]
    by_cases hjk : j = k
    · subst hjk
      rw [show upd (G_1.1 96) j y1 j = y1 from if_pos rfl, e1, i1]
    · rw [show upd (G_1.1 96) k y1 j = G_1.1 96 j from if_neg hjk]
      exact i3 j (by omega))
  obtain ⟨-, k, i2, i3⟩ := hI
  have i2' : x.toInt = (k : Int) := i2
  exact fun j hj => i3 j (by omega)
theorem l_walkers {x : Int32} {G2 G G1 : GS} (hl : Rc (St_n_pavement_4 G2) (0, G) (x, G1)) {n : Nat} (hx : (n : Int) ≤ x.toInt) : ∀ j, j < n → G1.1 92 j = G.1 82 j ∧ G1.1 93 j = G.1 83 j ∧ G1.1 94 j = G.1 84 j ∧ G1.1 95 j = G.1 85 j := by
  have hI := hl (fun q => (q.2.1 82 = G.1 82 ∧ q.2.1 83 = G.1 83 ∧ q.2.1 84 = G.1 84 ∧ q.2.1 85 = G.1 85) ∧ ∃ k : Nat, q.1.toInt = (k : Int) ∧ ∀ j, j < k → q.2.1 92 j = G.1 82 j ∧ q.2.1 93 j = G.1 83 j ∧ q.2.1 94 j = G.1 84 j ∧ q.2.1 95 j = G.1 85 j) ⟨⟨rfl, rfl, rfl, rfl⟩, 0, rfl, fun j hj => absurd hj (Nat.not_lt_zero j)⟩ (by
    rintro ⟨x1, G_1⟩ ⟨xn, G_1n⟩ ⟨⟨i1, i2, i3, i4⟩, k, i5, i6⟩ ⟨x1q, G_1q, xnq, G_1nq, q1, q2, -, -, -, c, y1, e1, y2, e2, y3, e3, y4, e4, y5, t5, ex, hF, w1, w2, w3, w4⟩
    obtain ⟨rfl, rfl⟩ := Prod.mk.inj q1
    obtain ⟨rfl, rfl⟩ := Prod.mk.inj q2
    simp only at i1 i2 i3 i4 i5 i6
    rw [cn_eq i5] at e1 e2 e3 e4 w1 w2 w3 w4
    refine ⟨⟨(hF.row1 82 (by decide) (by decide)).trans i1, (hF.row1 83 (by decide) (by decide)).trans i2, (hF.row1 84 (by decide) (by decide)).trans i3, (hF.row1 85 (by decide) (by decide)).trans i4⟩, k + 1, by show xn.toInt = _; rw [← ex]; omega, fun j hj => ?_⟩
    show G_1n.1 92 j = _ ∧ G_1n.1 93 j = _ ∧ G_1n.1 94 j = _ ∧ G_1n.1 95 j = _
    rw [w1, w2, w3, w4]
    by_cases hjk : j = k
    · subst hjk
      have e : ∀ (g : Nat → Int32) (v : Int32), upd g j v j = v := fun g v => if_pos rfl
      rw [e, e, e, e, e1, e2, e3, e4, i1, i2, i3, i4]
      exact ⟨rfl, rfl, rfl, rfl⟩
    · have e : ∀ (g : Nat → Int32) (v : Int32), upd g k v j = g j := fun g v => if_neg hjk
      rw [e, e, e, e]
      exact i6 j (by omega))
  obtain ⟨-, k, i5, i6⟩ := hI
  have i5' : x.toInt = (k : Int) := i5
  exact fun j hj => i6 j (by omega)
/-- one STREET's INCHES -/
theorem l_street {x51 y x : Int32} {G G1 : GS} {s len : Nat} (hl : Rc (St_n_pavement_7 x51) (y, G) (x, G1)) (hs : x51.toInt = (s : Int)) (hy : y.toInt = 400 * (s : Int)) (hlen : (G.1 91 s).toInt = (len : Int)) (hx : 400 * (s : Int) + (len : Int) ≤ x.toInt) : (∀ j, j < 400 * s → G1.1 87 j = G.1 87 j ∧ G1.1 88 j = G.1 88 j ∧ G1.1 89 j = G.1 89 j ∧ G1.1 90 j = G.1 90 j) ∧ ∀ i, i < len → G1.1 87 (400 * s + i) = G.1 77 (400 * s + i) ∧ G1.1 88 (400 * s + i) = G.1 78 (400 * s + i) ∧ G1.1 89 (400 * s + i) = G.1 79 (400 * s + i) ∧ G1.1 90 (400 * s + i) = G.1 80 (400 * s + i) := by
  have hI := hl (fun q => (q.2.1 77 = G.1 77 ∧ q.2.1 78 = G.1 78 ∧ q.2.1 79 = G.1 79 ∧ q.2.1 80 = G.1 80 ∧ q.2.1 91 = G.1 91) ∧ (∀ j, j < 400 * s → q.2.1 87 j = G.1 87 j ∧ q.2.1 88 j = G.1 88 j ∧ q.2.1 89 j = G.1 89 j ∧ q.2.1 90 j = G.1 90 j) ∧ ∃ m : Nat, q.1.toInt = 400 * (s : Int) + (m : Int) ∧ ∀ i, i < m → q.2.1 87 (400 * s + i) = G.1 77 (400 * s + i) ∧ q.2.1 88 (400 * s + i) = G.1 78 (400 * s + i) ∧ q.2.1 89 (400 * s + i) = G.1 79 (400 * s + i) ∧ q.2.1 90 (400 * s + i) = G.1 80 (400 * s + i)) ⟨⟨rfl, rfl, rfl, rfl, rfl⟩, fun _ _ => ⟨rfl, rfl, rfl, rfl⟩, 0, by simpa using hy, fun j hj => absurd hj (Nat.not_lt_zero j)⟩ (by
    rintro ⟨x1, G_1⟩ ⟨xn, G_1n⟩ ⟨⟨i1, i2, i3, i4, i9⟩, i5, m, i6, i7⟩ ⟨x1q, G_1q, xnq, G_1nq, q1, q2, -, -, z1, s1, z2, s2, z3, s3, c, y1, e1, y2, e2, y3, e3, y4, e4, y5, t5, ex, hF, w1, w2, w3, w4⟩
    obtain ⟨rfl, rfl⟩ := Prod.mk.inj q1
    obtain ⟨rfl, rfl⟩ := Prod.mk.inj q2
    simp only at i1 i2 i3 i4 i5 i6 i7 i9
    rw [cn_eq (x := x1) (e := 400 * s + m) (by omega)] at e1 e2 e3 e4 w1 w2 w3 w4
    refine ⟨⟨(hF.row1 77 (by decide) (by decide)).trans i1, (hF.row1 78 (by decide) (by decide)).trans i2, (hF.row1 79 (by decide) (by decide)).trans i3, (hF.row1 80 (by decide) (by decide)).trans i4, (hF.row1 91 (by decide) (by decide)).trans i9⟩, fun j hj => ?_, m + 1, by show xn.toInt = _; rw [← ex]; omega, fun i hi => ?_⟩
    · show G_1n.1 87 j = _ ∧ G_1n.1 88 j = _ ∧ G_1n.1 89 j = _ ∧ G_1n.1 90 j = _
      have e : ∀ (g : Nat → Int32) (v : Int32), upd g (400 * s + m) v j = g j := fun g v => if_neg (by omega)
      rw [w1, w2, w3, w4, e, e, e, e]
      exact i5 j hj
    · show G_1n.1 87 (400 * s + i) = _ ∧ G_1n.1 88 (400 * s + i) = _ ∧ G_1n.1 89 (400 * s + i) = _ ∧ G_1n.1 90 (400 * s + i) = _
      rw [w1, w2, w3, w4]
      by_cases hik : i = m
      · subst hik
        have e : ∀ (g : Nat → Int32) (v : Int32), upd g (400 * s + i) v (400 * s + i) = v := fun g v => if_pos rfl
        rw [e, e, e, e, e1, e2, e3, e4, i1, i2, i3, i4]
        exact ⟨rfl, rfl, rfl, rfl⟩
      · have e : ∀ (g : Nat → Int32) (v : Int32), upd g (400 * s + m) v (400 * s + i) = g (400 * s + i) := fun g v => if_neg (by omega)
        rw [e, e, e, e]
        exact i7 i (by omega))
  obtain ⟨-, i5, m, i6, i7⟩ := hI
  have i6' : x.toInt = 400 * (s : Int) + (m : Int) := i6
  exact ⟨i5, fun i hi => i7 i (by omega)⟩
theorem l_streets {x : Int32} {G2 G G1 : GS} (hl : Rc (St_n_pavement_3 G2) (0, G) (x, G1)) {n : Nat} (hx : (n : Int) ≤ x.toInt) (hn : n ≤ 3) (hR : (G2.1 66 45).toInt ≤ 3) (hG : ∀ s, s < 3 → 0 ≤ (G.1 81 s).toInt ∧ (G.1 81 s).toInt ≤ 400) : ∀ s, s < n → G1.1 91 s = G.1 81 s ∧ ∀ i : Nat, (i : Int) < (G.1 81 s).toInt → G1.1 87 (400 * s + i) = G.1 77 (400 * s + i) ∧ G1.1 88 (400 * s + i) = G.1 78 (400 * s + i) ∧ G1.1 89 (400 * s + i) = G.1 79 (400 * s + i) ∧ G1.1 90 (400 * s + i) = G.1 80 (400 * s + i) := by
  have hI := hl (fun q => (q.2.1 77 = G.1 77 ∧ q.2.1 78 = G.1 78 ∧ q.2.1 79 = G.1 79 ∧ q.2.1 80 = G.1 80 ∧ q.2.1 81 = G.1 81) ∧ ∃ k : Nat, q.1.toInt = (k : Int) ∧ ∀ s, s < k → s < 3 → q.2.1 91 s = G.1 81 s ∧ ∀ i : Nat, (i : Int) < (G.1 81 s).toInt → q.2.1 87 (400 * s + i) = G.1 77 (400 * s + i) ∧ q.2.1 88 (400 * s + i) = G.1 78 (400 * s + i) ∧ q.2.1 89 (400 * s + i) = G.1 79 (400 * s + i) ∧ q.2.1 90 (400 * s + i) = G.1 80 (400 * s + i)) ⟨⟨rfl, rfl, rfl, rfl, rfl⟩, 0, rfl, fun j hj => absurd hj (Nat.not_lt_zero j)⟩ (by
    rintro ⟨x1, G_1⟩ ⟨xn, G_1n⟩ ⟨⟨i1, i2, i3, i4, i9⟩, k, i6, i7⟩ ⟨x1q, G_1q, xnq, G_1nq, q1, q2, hb, -, c, y133, e133, y136, t136, G135, hB, hFa, w91, x141, G137, hl7, -, -, hFb, y145, t145, y146, e146, y148, t148, c2, y150, t150, ex, rfl⟩
    obtain ⟨rfl, rfl⟩ := Prod.mk.inj q1
    obtain ⟨rfl, rfl⟩ := Prod.mk.inj q2
    simp only at i1 i2 i3 i4 i6 i7 i9
    rw [cn_eq i6] at e133 w91 e146
    have k3 : k < 3 := by omega
    have hl := hG k k3
    obtain ⟨len, hlen⟩ : ∃ len : Nat, (G.1 81 k).toInt = (len : Int) := ⟨(G.1 81 k).toInt.toNat, by omega⟩
    have a91 : G135.1 91 k = G.1 81 k := by rw [w91, show upd (G_1.1 91) k y133 k = y133 from if_pos rfl, e133, i9]
    have b91 : G_1n.1 91 = G135.1 91 := hFb.row1 91 (by decide) (by decide)
    have h146 : y146.toInt = (len : Int) := by rw [e146, b91, a91]; exact hlen
    obtain ⟨j1, j2⟩ := l_street hl7 i6 (by omega) (by rw [a91]; exact hlen) (by omega)
    refine ⟨⟨?_, ?_, ?_, ?_, ?_⟩, k + 1, by show xn.toInt = _; rw [← ex]; omega, fun s hs hs3 => ?_⟩
    · exact ((hFb.row1 77 (by decide) (by decide)).trans (hFa.row1 77 (by decide) (by decide))).trans i1
    · exact ((hFb.row1 78 (by decide) (by decide)).trans (hFa.row1 78 (by decide) (by decide))).trans i2
    · exact ((hFb.row1 79 (by decide) (by decide)).trans (hFa.row1 79 (by decide) (by decide))).trans i3
    · exact ((hFb.row1 80 (by decide) (by decide)).trans (hFa.row1 80 (by decide) (by decide))).trans i4
    · exact ((hFb.row1 81 (by decide) (by decide)).trans (hFa.row1 81 (by decide) (by decide))).trans i9
    · show G_1n.1 91 s = _ ∧ _
      have r87 := hFa.row1 87 (by decide) (by decide)
      have r88 := hFa.row1 88 (by decide) (by decide)
      have r89 := hFa.row1 89 (by decide) (by decide)
      have r90 := hFa.row1 90 (by decide) (by decide)
      have r77 := (hFa.row1 77 (by decide) (by decide)).trans i1
      have r78 := (hFa.row1 78 (by decide) (by decide)).trans i2
      have r79 := (hFa.row1 79 (by decide) (by decide)).trans i3
      have r80 := (hFa.row1 80 (by decide) (by decide)).trans i4
      by_cases hsk : s = k
      · subst hsk
        refine ⟨by rw [b91]; exact a91, fun i hi => ?_⟩
        have := j2 i (by omega)
        rw [r77, r78, r79, r80] at this
        exact this
      · obtain ⟨m1, m2⟩ := i7 s (by omega) hs3
        refine ⟨by rw [b91, w91, show upd (G_1.1 91) k y133 s = G_1.1 91 s from if_neg hsk]; exact m1, fun i hi => ?_⟩
        have hls := hG s hs3
        have := j1 (400 * s + i) (by omega)
        rw [r87, r88, r89, r90] at this
        obtain ⟨n1, n2, n3, n4⟩ := m2 i hi
        exact ⟨this.1.trans n1, this.2.1.trans n2, this.2.2.1.trans n3, this.2.2.2.trans n4⟩)
  obtain ⟨-, k, i6, i7⟩ := hI
  have i6' : x.toInt = (k : Int) := i6
  exact fun s hs => i7 s (by omega) (by omega)
/-- one RULE's code -/
theorem l_code {x38 y x : Int32} {G G1 : GS} {f len : Nat} (hl : Rc (St_n_pavement_8 x38) (y, G) (x, G1)) (hs : x38.toInt = (f : Int)) (hy : y.toInt = 320 * (f : Int)) (hx : 320 * (f : Int) + (len : Int) ≤ x.toInt) : (∀ j, j < 320 * f → G1.1 72 j = G.1 72 j ∧ G1.1 73 j = G.1 73 j) ∧ ∀ i, i < len → G1.1 72 (320 * f + i) = G.1 69 (320 * f + i) ∧ G1.1 73 (320 * f + i) = G.1 70 (320 * f + i) := by
  have hI := hl (fun q => (q.2.1 69 = G.1 69 ∧ q.2.1 70 = G.1 70) ∧ (∀ j, j < 320 * f → q.2.1 72 j = G.1 72 j ∧ q.2.1 73 j = G.1 73 j) ∧ ∃ m : Nat, q.1.toInt = 320 * (f : Int) + (m : Int) ∧ ∀ i, i < m → q.2.1 72 (320 * f + i) = G.1 69 (320 * f + i) ∧ q.2.1 73 (320 * f + i) = G.1 70 (320 * f + i)) ⟨⟨rfl, rfl⟩, fun _ _ => ⟨rfl, rfl⟩, 0, by simpa using hy, fun j hj => absurd hj (Nat.not_lt_zero j)⟩ (by
    rintro ⟨x1, G_1⟩ ⟨xn, G_1n⟩ ⟨⟨i1, i2⟩, i5, m, i6, i7⟩ ⟨x1q, G_1q, xnq, G_1nq, q1, q2, -, -, -, -, -, -, -, z1, s1, z2, s2, z3, s3, c, y1, e1, y2, e2, y5, t5, ex, hF, w1, w2⟩
    obtain ⟨rfl, rfl⟩ := Prod.mk.inj q1
    obtain ⟨rfl, rfl⟩ := Prod.mk.inj q2
    simp only at i1 i2 i5 i6 i7
    rw [cn_eq (x := x1) (e := 320 * f + m) (by omega)] at e1 e2 w1 w2
    refine ⟨⟨(hF.row1 69 (by decide) (by decide)).trans i1, (hF.row1 70 (by decide) (by decide)).trans i2⟩, fun j hj => ?_, m + 1, by show xn.toInt = _; rw [← ex]; omega, fun i hi => ?_⟩
    · show G_1n.1 72 j = _ ∧ G_1n.1 73 j = _
      have e : ∀ (g : Nat → Int32) (v : Int32), upd g (320 * f + m) v j = g j := fun g v => if_neg (by omega)
      rw [w1, w2, e, e]
      exact i5 j hj
    · show G_1n.1 72 (320 * f + i) = _ ∧ G_1n.1 73 (320 * f + i) = _
      rw [w1, w2]
      by_cases hik : i = m
      · subst hik
        have e : ∀ (g : Nat → Int32) (v : Int32), upd g (320 * f + i) v (320 * f + i) = v := fun g v => if_pos rfl
        rw [e, e, e1, e2, i1, i2]
        exact ⟨rfl, rfl⟩
      · have e : ∀ (g : Nat → Int32) (v : Int32), upd g (320 * f + m) v (320 * f + i) = g (320 * f + i) := fun g v => if_neg (by omega)
        rw [e, e]
        exact i7 i (by omega))
  obtain ⟨-, i5, m, i6, i7⟩ := hI
  have i6' : x.toInt = 320 * (f : Int) + (m : Int) := i6
  exact ⟨i5, fun i hi => i7 i (by omega)⟩
theorem l_codes {x : Int32} {G2 G G1 : GS} (hl : Rc (St_n_pavement_2 G2) (0, G) (x, G1)) {n : Nat} (hx : (n : Int) ≤ x.toInt) (hn : n ≤ 6) (hR : (G2.1 66 47).toInt ≤ 6) (hG : ∀ f, f < 6 → 0 ≤ (G.1 71 f).toInt ∧ (G.1 71 f).toInt ≤ 320) : ∀ f, f < n → G1.1 74 f = G.1 71 f ∧ ∀ i : Nat, (i : Int) < (G.1 71 f).toInt → G1.1 72 (320 * f + i) = G.1 69 (320 * f + i) ∧ G1.1 73 (320 * f + i) = G.1 70 (320 * f + i) := by
  have hI := hl (fun q => (q.2.1 69 = G.1 69 ∧ q.2.1 70 = G.1 70 ∧ q.2.1 71 = G.1 71) ∧ ∃ k : Nat, q.1.toInt = (k : Int) ∧ ∀ f, f < k → f < 6 → q.2.1 74 f = G.1 71 f ∧ ∀ i : Nat, (i : Int) < (G.1 71 f).toInt → q.2.1 72 (320 * f + i) = G.1 69 (320 * f + i) ∧ q.2.1 73 (320 * f + i) = G.1 70 (320 * f + i)) ⟨⟨rfl, rfl, rfl⟩, 0, rfl, fun j hj => absurd hj (Nat.not_lt_zero j)⟩ (by
    rintro ⟨x1, G_1⟩ ⟨xn, G_1n⟩ ⟨⟨i1, i2, i9⟩, k, i6, i7⟩ ⟨x1q, G_1q, xnq, G_1nq, q1, q2, hb, -, -, c, y164, e164, y169, t169, G166, hB, hFa, w74, x175, G171, hl8, -, -, -, -, -, -, -, hFb, y185, t185, y186, e186, y188, t188, c2, y190, t190, ex, rfl⟩
    obtain ⟨rfl, rfl⟩ := Prod.mk.inj q1
    obtain ⟨rfl, rfl⟩ := Prod.mk.inj q2
    simp only at i1 i2 i6 i7 i9
    rw [cn_eq i6] at e164 w74 e186
    have b74 : G_1n.1 74 = G166.1 74 := hFb.row1 74 (by decide) (by decide)
    have a74 : G166.1 74 k = G.1 71 k := by rw [w74, show upd (G_1.1 74) k y164 k = y164 from if_pos rfl, e164, i9]
    have c74 : y186 = G.1 71 k := by rw [e186, b74, a74]
    have k6 : k < 6 := by omega
    have hl := hG k k6
    obtain ⟨len, hlen⟩ : ∃ len : Nat, (G.1 71 k).toInt = (len : Int) := ⟨(G.1 71 k).toInt.toNat, by omega⟩
    have h186 : y186.toInt = (len : Int) := by rw [c74]; exact hlen
    obtain ⟨j1, j2⟩ := l_code (len := len) hl8 i6 (by omega) (by omega)
    refine ⟨⟨?_, ?_, ?_⟩, k + 1, by show xn.toInt = _; rw [← ex]; omega, fun f hf hf6 => ?_⟩
    · exact ((hFb.row1 69 (by decide) (by decide)).trans (hFa.row1 69 (by decide) (by decide))).trans i1
    · exact ((hFb.row1 70 (by decide) (by decide)).trans (hFa.row1 70 (by decide) (by decide))).trans i2
    · exact ((hFb.row1 71 (by decide) (by decide)).trans (hFa.row1 71 (by decide) (by decide))).trans i9
    · show G_1n.1 74 f = _ ∧ _
      have r72 := hFa.row1 72 (by decide) (by decide)
      have r73 := hFa.row1 73 (by decide) (by decide)
      have r69 := (hFa.row1 69 (by decide) (by decide)).trans i1
      have r70 := (hFa.row1 70 (by decide) (by decide)).trans i2
      by_cases hsk : f = k
      · subst hsk
        refine ⟨by rw [b74]; exact a74, fun i hi => ?_⟩
        have := j2 i (by omega)
        rw [r69, r70] at this
        exact this
      · obtain ⟨m1, m2⟩ := i7 f (by omega) hf6
        refine ⟨by rw [b74, w74, show upd (G_1.1 74) k y164 f = G_1.1 74 f from if_neg hsk]; exact m1, fun i hi => ?_⟩
        have hls := hG f hf6
        have := j1 (320 * f + i) (by omega)
        rw [r72, r73] at this
        obtain ⟨n1, n2⟩ := m2 i hi
        exact ⟨this.1.trans n1, this.2.trans n2⟩)
  obtain ⟨-, k, i6, i7⟩ := hI
  have i6' : x.toInt = (k : Int) := i6
  exact fun f hf => i7 f (by omega) (by omega)
/-- the reference's fields behind a good pavement -/
theorem rv_pav {V : PV} {G G1 : GS} {r : Int32} (h : Q_pavement G r G1) (hf : ∀ {Gx : GS}, Q_readAll G Gx → (Gx.1 66 2).toInt = 0) (hu : ∀ {Gx : GS}, Q_readAll G Gx → MV V Gx) : RV V G1 ∧ (∀ j, j < 10 → j ≠ 0 → j ≠ 7 → G1.1 110 j = 0) ∧ G1.1 110 0 = -1 ∧ (G1.1 110 7).toInt = V.2.2.2.2.2.2.getD 0 ∧ G1.1 66 66 = 0 ∧ G1.1 66 78 = 0 ∧ G1.1 66 79 = 0 ∧ G1.1 66 85 = 0 ∧ ∀ j, j < 3 → (G1.1 117 j).toInt = 0 := by
  obtain ⟨-, -, -, Ga, hra, hh⟩ := h
  have hM := hu hra
  have hf0 := hf hra
  rcases hh with ⟨-, G16, -, hF16, e22, e52, e53, e54, e55, e56, x22, G18, hl1, -, -, -, hF18, c1, x38, G34, hl2, -, -, -, hF34, c2, x51, G47, hl3, -, hB47, hF47, c3, x62, G58, hl4, -, -, -, hF58, c4, x75, G71, hl5, -, -, hF71, c5, G90, -, hF90, e66, e78, e79, e85, e110, x95, G91, hl6, -, -, hF91, c6, rfl, rfl⟩ | ⟨c, -⟩
  rotate_left
  · omega
  obtain ⟨⟨s1, s2, -, s4⟩, ⟨w1, w2, -, w4⟩, ⟨r1, r2, -, r4, -, -, r7⟩, ⟨p1, p2, p3⟩, ⟨n1, n2⟩, d1, -⟩ := hM
  have fx : ∀ j, j = 22 ∨ j = 52 ∨ j = 53 ∨ j = 54 ∨ j = 55 ∨ j = 56 → G91.1 66 j = G16.1 66 j := by
    intro j hj
    rcases hj with rfl | rfl | rfl | rfl | rfl | rfl <;> rw [hF91.i 66 _ (by decide) (by decide), hF90.i 66 _ (by decide) (by decide), hF71.i 66 _ (by decide) (by decide), hF58.i 66 _ (by decide) (by decide), hF47.i 66 _ (by decide) (by decide), hF34.i 66 _ (by decide) (by decide), hF18.i 66 _ (by decide) (by decide)]
  have q96 : ∀ j, j < 3 → G91.1 96 j = Ga.1 86 j := by
    intro j hj
    rw [hF91.row1 96 (by decide) (by decide), hF90.row1 96 (by decide) (by decide), hF71.row1 96 (by decide) (by decide), hF58.row1 96 (by decide) (by decide), hF47.row1 96 (by decide) (by decide), hF34.row1 96 (by decide) (by decide), l_slips hl1 c1 j hj, hF16.row1 86 (by decide) (by decide)]
  have g18 : ∀ i, i = 69 ∨ i = 70 ∨ i = 71 → G18.1 i = Ga.1 i := by
    intro i hi
    rcases hi with rfl | rfl | rfl <;> rw [hF18.row1 _ (by decide) (by decide), hF16.row1 _ (by decide) (by decide)]
  have g34 : ∀ i, i = 77 ∨ i = 78 ∨ i = 79 ∨ i = 80 ∨ i = 81 → G34.1 i = Ga.1 i := by
    intro i hi
    rcases hi with rfl | rfl | rfl | rfl | rfl <;> rw [hF34.row1 _ (by decide) (by decide), hF18.row1 _ (by decide) (by decide), hF16.row1 _ (by decide) (by decide)]
  have g47 : ∀ i, i = 82 ∨ i = 83 ∨ i = 84 ∨ i = 85 → G47.1 i = Ga.1 i := by
    intro i hi
    rcases hi with rfl | rfl | rfl | rfl <;> rw [hF47.row1 _ (by decide) (by decide), hF34.row1 _ (by decide) (by decide), hF18.row1 _ (by decide) (by decide), hF16.row1 _ (by decide) (by decide)]
  have hBa := hra.1
  refine ⟨⟨⟨?_, s2, fun s hs => ⟨?_, (s4 s hs).2⟩⟩, ⟨?_, w2, fun k hk => ?_⟩, ⟨?_, r2, ?_, fun k hk => ⟨?_, (r7 k hk).2⟩⟩, ⟨?_, ?_, ?_⟩, ?_, ?_⟩, ?_, ?_, ?_, ?_, ?_, ?_, ?_, ?_⟩
  · rw [fx 52 (by simp), e52]
    exact s1
  · obtain ⟨⟨a1, a2⟩, a3⟩ := s4 s hs
    have key := l_streets (n := V.1.length) hl3 (by omega) s2 (by omega) (fun s hs3 => by rw [g34 81 (by simp)]; exact hBa.i 81 s rfl rfl) s hs
    obtain ⟨k1, k2⟩ := key
    rw [g34 81 (by simp), g34 77 (by simp), g34 78 (by simp), g34 79 (by simp), g34 80 (by simp)] at k2
    rw [g34 81 (by simp)] at k1
    have z : ∀ i, i = 87 ∨ i = 88 ∨ i = 89 ∨ i = 90 ∨ i = 91 → G91.1 i = G47.1 i := by
      intro i hi
      rcases hi with rfl | rfl | rfl | rfl | rfl <;> rw [hF91.row1 _ (by decide) (by decide), hF90.row1 _ (by decide) (by decide), hF71.row1 _ (by decide) (by decide), hF58.row1 _ (by decide) (by decide)]
    refine ⟨by rw [z 91 (by simp), k1]; exact a1, fun i hi => ?_⟩
    obtain ⟨b1, b2, b3, b4⟩ := k2 i (by omega)
    rw [z 87 (by simp), z 88 (by simp), z 89 (by simp), z 90 (by simp), b1, b2, b3, b4]
    exact a2 i hi
  · rw [fx 53 (by simp), e53]
    exact w1
  · have key := l_walkers (n := V.2.1.length) hl4 (by omega) k hk
    rw [g47 82 (by simp), g47 83 (by simp), g47 84 (by simp), g47 85 (by simp)] at key
    have z : ∀ i, i = 92 ∨ i = 93 ∨ i = 94 ∨ i = 95 → G91.1 i = G58.1 i := by
      intro i hi
      rcases hi with rfl | rfl | rfl | rfl <;> rw [hF91.row1 _ (by decide) (by decide), hF90.row1 _ (by decide) (by decide), hF71.row1 _ (by decide) (by decide)]
    have := w4 k hk
    unfold RWk
    unfold WkM at this
    rw [z 92 (by simp), z 93 (by simp), z 94 (by simp), z 95 (by simp), key.1, key.2.1, key.2.2.1, key.2.2.2]
    exact this
  · rw [fx 54 (by simp), e54]
    exact r1
  · rw [fx 22 (by simp), e22]
    exact r4
  · obtain ⟨⟨a1, a2⟩, a3⟩ := r7 k hk
    have key := l_codes (n := V.2.2.1.length) hl2 (by omega) r2 (by omega) (fun f hf6 => by rw [g18 71 (by simp)]; exact hBa.i 71 f rfl rfl) k hk
    obtain ⟨k1, k2⟩ := key
    rw [g18 71 (by simp), g18 69 (by simp), g18 70 (by simp)] at k2
    rw [g18 71 (by simp)] at k1
    have z : ∀ i, i = 72 ∨ i = 73 ∨ i = 74 → G91.1 i = G34.1 i := by
      intro i hi
      rcases hi with rfl | rfl | rfl <;> rw [hF91.row1 _ (by decide) (by decide), hF90.row1 _ (by decide) (by decide), hF71.row1 _ (by decide) (by decide), hF58.row1 _ (by decide) (by decide), hF47.row1 _ (by decide) (by decide)]
    refine ⟨by rw [z 74 (by simp), k1]; exact a1, fun i hi => ?_⟩
    obtain ⟨b1, b2⟩ := k2 i (by omega)
    rw [z 72 (by simp), z 73 (by simp), b1, b2]
    exact a2 i hi
  · rw [q96 0 (by decide)]
    exact p1
  · rw [q96 1 (by decide)]
    exact p2
  · rw [q96 2 (by decide)]
    exact p3
  · rw [fx 55 (by simp), e55]
    exact n1
  · rw [fx 56 (by simp), e56]
    exact n2
  · intro j hj h0 h7
    have hz := hl5 (fun q => ∃ k : Nat, q.1.toInt = (k : Int) ∧ ∀ j, j < k → q.2.1 110 j = 0) ⟨0, rfl, fun j hj => absurd hj (Nat.not_lt_zero j)⟩ (by
      rintro ⟨x1, G_1⟩ ⟨xn, G_1n⟩ ⟨k, i6, i7⟩ ⟨x1q, G_1q, xnq, G_1nq, q1, q2, -, -, c, y1, t1, ex, hF, w⟩
      obtain ⟨rfl, rfl⟩ := Prod.mk.inj q1
      obtain ⟨rfl, rfl⟩ := Prod.mk.inj q2
      simp only at i6 i7
      rw [cn_eq i6] at w
      refine ⟨k + 1, by show xn.toInt = _; rw [← ex]; omega, fun j hj => ?_⟩
      show G_1n.1 110 j = 0
      rw [w]
      by_cases hjk : j = k
      · exact if_pos hjk
      · rw [show upd (G_1.1 110) k 0 j = G_1.1 110 j from if_neg hjk]
        exact i7 j (by omega))
    obtain ⟨k, i6, i7⟩ := hz
    have i6' : x75.toInt = (k : Int) := i6
    have z0 : (0 : Int32).toNatClampNeg = 0 := rfl
    have z7 : (7 : Int32).toNatClampNeg = 7 := rfl
    rw [hF91.row1 110 (by decide) (by decide), e110, z0, z7, show upd (upd (G71.1 110) 0 (-1)) 7 (Ga.1 66 50) j = upd (G71.1 110) 0 (-1) j from if_neg h7, show upd (G71.1 110) 0 (-1) j = G71.1 110 j from if_neg h0]
    exact i7 j (by omega)
  · rw [hF91.row1 110 (by decide) (by decide), e110]
    rfl
  · rw [hF91.row1 110 (by decide) (by decide), e110]
    exact d1
  · rw [hF91.i 66 66 (by decide) (by decide), e66]
  · rw [hF91.i 66 78 (by decide) (by decide), e78]
  · rw [hF91.i 66 79 (by decide) (by decide), e79]
  · rw [hF91.i 66 85 (by decide) (by decide), e85]
  · intro j hj
    have hz := hl6 (fun q => ∃ k : Nat, q.1.toInt = (k : Int) ∧ ∀ j, j < k → (q.2.1 117 j).toInt = 0) ⟨0, rfl, fun j hj => absurd hj (Nat.not_lt_zero j)⟩ (by
      rintro ⟨x1, G_1⟩ ⟨xn, G_1n⟩ ⟨k, i6, i7⟩ ⟨x1q, G_1q, xnq, G_1nq, q1, q2, -, -, c, y1, t1, ex, hF, w⟩
      obtain ⟨rfl, rfl⟩ := Prod.mk.inj q1
      obtain ⟨rfl, rfl⟩ := Prod.mk.inj q2
      simp only at i6 i7
      rw [cn_eq i6] at w
      refine ⟨k + 1, by show xn.toInt = _; rw [← ex]; omega, fun j hj => ?_⟩
      show (G_1n.1 117 j).toInt = 0
      rw [w]
      by_cases hjk : j = k
      · rw [show upd (G_1.1 117) k (vp_nar .boolean 0) j = vp_nar .boolean 0 from if_pos hjk]
        rfl
      · rw [show upd (G_1.1 117) k (vp_nar .boolean 0) j = G_1.1 117 j from if_neg hjk]
        exact i7 j (by omega))
    obtain ⟨k, i6, i7⟩ := hz
    have i6' : x95.toInt = (k : Int) := i6
    exact i7 j (by omega)

/-! the PAVING on both sides -/
theorem q_isIn {p0 p1 p2 r : Int32} {G G1 : GS} (h : Q_isIn p0 p1 p2 G r G1) : G = G1 ∧ (r.toInt ≠ 0 ↔ (p1.toInt ≤ p0.toInt ∧ p0.toInt ≤ p2.toInt)) := by
  obtain ⟨-, hF, hr, hh, -⟩ := h
  refine ⟨hF.nil, fun q => hh.1 (by omega), fun q => ?_⟩
  have := hh.2 q
  omega
theorem q_isStreet {p0 r : Int32} {G G1 : GS} (h : Q_isStreet p0 G r G1) : G = G1 ∧ (r.toInt ≠ 0 ↔ (0 ≤ p0.toInt ∧ p0.toInt < (G.1 66 52).toInt)) := by
  obtain ⟨-, hF, -, -, y2, t2, r4, G5, hi, rfl, rfl⟩ := h
  refine ⟨hF.nil, (q_isIn hi).2.trans ⟨fun q => ⟨q.1, by have := q.2; omega⟩, fun q => ⟨q.1, by have := q.2; omega⟩⟩⟩
theorem q_isWalker {p0 r : Int32} {G G1 : GS} (h : Q_isWalker p0 G r G1) : G = G1 ∧ (r.toInt ≠ 0 ↔ (0 ≤ p0.toInt ∧ p0.toInt < (G.1 66 53).toInt)) := by
  obtain ⟨-, hF, -, -, y2, t2, r4, G5, hi, rfl, rfl⟩ := h
  refine ⟨hF.nil, (q_isIn hi).2.trans ⟨fun q => ⟨q.1, by have := q.2; omega⟩, fun q => ⟨q.1, by have := q.2; omega⟩⟩⟩
theorem q_isInch {p0 p1 r : Int32} {G G1 : GS} (h : Q_isInch p0 p1 G r G1) : G = G1 ∧ (r.toInt ≠ 0 ↔ (0 ≤ p1.toInt ∧ p1.toInt < (G.1 91 p0.toNatClampNeg).toInt)) := by
  obtain ⟨-, hF, -, -, y1, e1, y2, t2, r4, G5, hi, rfl, rfl⟩ := h
  subst e1
  refine ⟨hF.nil, (q_isIn hi).2.trans ⟨fun q => ⟨q.1, by have := q.2; omega⟩, fun q => ⟨q.1, by have := q.2; omega⟩⟩⟩
theorem q_truth {p0 r : Int32} {G G1 : GS} (h : Q_truth p0 G r G1) : G = G1 ∧ r.toInt = p0.toInt := ⟨h.2.1.nil, h.2.2.2.1⟩
/-- what an INCH answers -/
def icA (x : IC) (what : Int) : Int := if what = 0 then (if x.1 < 0 then 1 else 0) else if what = 1 then x.2.1 else if what = 2 then x.2.2.1 else if what = 3 then x.2.2.2 else (if x.1 < 0 then 0 else x.1)
theorem k_part_eq {x : IC} {p0 p1 r : Int32} {G G1 : GS} (h : P_part p0 p1 G r G1) (hx : ICok x) (h0 : p0 = encI x) : G = G1 ∧ r.toInt = icA x p1.toInt := by
  obtain ⟨a1, a2, a3, a4, a5⟩ := part_i hx h0
  obtain ⟨-, hF, hh⟩ := h
  refine ⟨hF.nil, ?_⟩
  unfold icA
  rcases hh with ⟨c, y, e, rfl, -⟩ | ⟨c, ⟨d, y4, e4, y, e, rfl, -⟩ | ⟨d, ⟨f, y4, e4, y, e, rfl, -⟩ | ⟨f, ⟨g, y4, e4, y, e, rfl, -⟩ | ⟨g, y4, e4, y, e, rfl, -⟩⟩⟩⟩
  · rw [if_pos c, e]
    exact a1
  · rw [if_neg c, if_pos d, e, e4]
    exact a2
  · rw [if_neg c, if_neg d, if_pos f, e, e4]
    exact a3
  · rw [if_neg c, if_neg d, if_neg f, if_pos g, e, e4]
    exact a4
  · rw [if_neg c, if_neg d, if_neg f, if_neg g, e, e4]
    exact a5
def SG (G : GS) : Prop := ∀ j : Nat, (j : Int) < (G.1 31 5).toInt → (G.1 61 j).toInt = (G.1 112 j).toInt ∧ (G.1 62 j).toInt = (G.1 113 j).toInt ∧ (G.1 63 j).toInt = (G.1 114 j).toInt ∧ (G.1 64 j).toInt = (G.1 115 j).toInt ∧ (G.1 65 j).toInt = (G.1 116 j).toInt ∧ -1 ≤ (G.1 65 j).toInt
noncomputable def gSG (G : GS) : Int := ind (SG G)
theorem gSG_fr {rs : List Nat} {fs : List (Nat × Nat)} {G G1 : GS} (h : Fr rs fs G G1) (h1 : ∀ i ∈ [61, 62, 63, 64, 65, 112, 113, 114, 115, 116], i ∉ rs ∧ ∀ x ∈ fs, x.1 ≠ i) (h2 : ∀ y ∈ [(31, 5)], y.1 ∉ rs ∧ y ∉ fs) : gSG G1 = gSG G := by
  unfold gSG SG
  rw [h.i 31 5 (h2 (31, 5) (by decide)).1 (h2 (31, 5) (by decide)).2, h.rows h1 (i := 61) (by decide), h.rows h1 (i := 62) (by decide), h.rows h1 (i := 63) (by decide), h.rows h1 (i := 64) (by decide), h.rows h1 (i := 65) (by decide), h.rows h1 (i := 112) (by decide), h.rows h1 (i := 113) (by decide), h.rows h1 (i := 114) (by decide), h.rows h1 (i := 115) (by decide), h.rows h1 (i := 116) (by decide)]
theorem unt_eq {p q r r' : Int32} {G Ga Gb : GS} (hx : P_Wuntell p G r Ga) (hm : Q_untell q Ga r' Gb) (hpq : p.toInt = q.toInt) (hS : SG G) (hc : (G.1 31 5).toInt = (G.1 66 85).toInt) (ht : (G.1 31 6).toInt = (G.1 66 86).toInt) (ht0 : 0 ≤ (G.1 31 6).toInt) : r.toInt = r'.toInt ∧ SG Gb := by
  obtain rfl := Int32.toInt_inj.mp hpq
  have hFx := hx.2.1
  obtain ⟨-, -, -, r1, G2, hx, rfl, rfl⟩ := hx
  obtain ⟨-, -, -, y2, t2, r4, G5, hi, hm⟩ := hm
  obtain ⟨rfl, qi⟩ := q_isIn hi
  have z0 : (0 : Int32).toInt = 0 := rfl
  have c85 : G2.1 66 85 = G.1 66 85 := hFx.i 66 85 (by decide) (by decide)
  have c86 : G2.1 66 86 = G.1 66 86 := hFx.i 66 86 (by decide) (by decide)
  have c315 : G2.1 31 5 = G.1 31 5 := hFx.i 31 5 (by decide) (by decide)
  rw [c85] at t2
  obtain ⟨-, -, -, hx⟩ := hx
  have no : G = G2 → ¬ (0 ≤ p.toInt ∧ p.toInt < (G.1 31 5).toInt) → r1.toInt = 0 → r1.toInt = r'.toInt ∧ SG Gb := by
    intro e hn h0
    subst e
    have hr4 : r4.toInt = 0 := Classical.byContradiction (fun w => hn (by have := qi.mp w; clear qi hm hx; omega))
    rcases hm with ⟨-, rfl, rfl⟩ | ⟨c, -⟩
    · exact ⟨h0, hS⟩
    · exact absurd hr4 c
  rcases hx with ⟨c, e, e2⟩ | ⟨c, ⟨d, e, e2⟩ | ⟨d, y4, e4, ⟨f, e, hF2, w65⟩ | ⟨f, e, e2⟩⟩⟩
  · exact no e2 (fun w => by have := w.1; omega) (by rw [← e]; rfl)
  · exact no e2 (fun w => by have := w.2; omega) (by rw [← e]; rfl)
  · have hr4 : r4.toInt ≠ 0 := qi.mpr ⟨by clear qi hm; omega, by clear qi hm; omega⟩
    obtain ⟨j, hj⟩ : ∃ j : Nat, p.toInt = (j : Int) := ⟨p.toInt.toNat, by clear qi hm; omega⟩
    rw [cn_eq hj] at e4 w65
    have hS' := hS j (by clear qi hm; omega)
    have r116 : G2.1 116 = G.1 116 := hFx.row1 116 (by decide) (by decide)
    rcases hm with ⟨c2, -⟩ | ⟨-, y11, e11, ⟨g, e', hF3, w116⟩ | ⟨g, e', -⟩⟩
    · exact absurd c2 hr4
    · rw [cn_eq hj, c86] at w116
      refine ⟨by rw [← e, ← e'], fun i hi => ?_⟩
      have k315 : Gb.1 31 5 = G.1 31 5 := by rw [hF3.i 31 5 (by decide) (by decide), c315]
      rw [k315] at hi
      have hSi := hS i hi
      have rr : ∀ k, k = 61 ∨ k = 62 ∨ k = 63 ∨ k = 64 ∨ k = 112 ∨ k = 113 ∨ k = 114 ∨ k = 115 → Gb.1 k = G.1 k := by
        intro k hk
        rcases hk with rfl | rfl | rfl | rfl | rfl | rfl | rfl | rfl <;> rw [hF3.row1 _ (by decide) (by decide), hFx.row1 _ (by decide) (by decide)]
      rw [rr 61 (by simp), rr 62 (by simp), rr 63 (by simp), rr 64 (by simp), rr 112 (by simp), rr 113 (by simp), rr 114 (by simp), rr 115 (by simp), w116, hF3.row1 65 (by decide) (by decide), w65]
      refine ⟨hSi.1, hSi.2.1, hSi.2.2.1, hSi.2.2.2.1, ?_⟩
      by_cases hij : i = j
      · subst hij
        rw [show upd (G.1 65) i (G.1 31 6) i = G.1 31 6 from if_pos rfl, show upd (G2.1 116) i (G.1 66 86) i = G.1 66 86 from if_pos rfl]
        exact ⟨ht, by omega⟩
      · rw [show upd (G.1 65) j (G.1 31 6) i = G.1 65 i from if_neg hij, show upd (G2.1 116) j (G.1 66 86) i = G2.1 116 i from if_neg hij, r116]
        exact hSi.2.2.2.2
    · rw [e11, cn_eq hj, r116] at g
      rw [e4] at f
      have := hS'.2.2.2.2.1
      clear qi
      omega
  · obtain ⟨j, hj⟩ : ∃ j : Nat, p.toInt = (j : Int) := ⟨p.toInt.toNat, by clear qi hm; omega⟩
    subst e2
    rw [cn_eq hj] at e4
    have hS' := hS j (by clear qi hm; omega)
    have hr4 : r4.toInt ≠ 0 := qi.mpr ⟨by clear qi hm; omega, by clear qi hm; omega⟩
    rcases hm with ⟨c2, -⟩ | ⟨-, y11, e11, ⟨g, -⟩ | ⟨g, e', rfl⟩⟩
    · exact absurd c2 hr4
    · rw [e11, cn_eq hj] at g
      rw [e4] at f
      have h1 := hS'.2.2.2.2.1
      have h2 := hS'.2.2.2.2.2
      clear qi
      omega
    · exact ⟨by rw [← e, ← e'], hS⟩
def CW_1 (V : PV) (G : GS) : Prop := ((G.1 1 9).toInt = (V.1.length : Int) ∧ ∀ s, s < V.1.length → StC_1 s (V.1.getD s ([], [])).2 G ∧ ((V.1.getD s ([], [])).2.length : Int) ≤ 400) ∧ ((G.1 1 10).toInt = (V.2.1.length : Int) ∧ ∀ k, k < V.2.1.length → WkC_1 k (V.2.1.getD k ([], 0, 0, 0, 0)).2 G) ∧ ((G.1 1 11).toInt = (V.2.2.1.length : Int) ∧ (G.1 1 12).toInt = V.2.2.2.1 ∧ CodeC_1 0 (fcd V.2.2.1) G ∧ EndC_1 V.2.2.1 G) ∧ ((G.1 16 0).toInt = (V.2.2.2.2.1.getD (0, 1, 0)).1 ∧ (G.1 16 1).toInt = (V.2.2.2.2.1.getD (0, 1, 0)).2.1 ∧ (G.1 16 2).toInt = (V.2.2.2.2.1.getD (0, 1, 0)).2.2) ∧ (G.1 1 14).toInt = (V.2.2.2.2.2.1.getD (30, 10)).1 ∧ (G.1 1 15).toInt = (V.2.2.2.2.2.1.getD (30, 10)).2 ∧ (G.1 1 16).toInt = V.2.2.2.2.2.2.getD 0
theorem CV_1.cw {V : PV} {G : GS} (h : CV_1 V G) : CW_1 V G := by
  obtain ⟨⟨a1, -, a3⟩, ⟨b1, -, b3⟩, ⟨c1, -, c3, -, -, c6, c7⟩, ⟨-, d2⟩, ⟨-, e2, e3⟩, -, f2⟩ := h
  exact ⟨⟨a1, a3⟩, ⟨b1, b3⟩, ⟨c1, c3, c6, c7⟩, d2, e2, e3, f2⟩
def PQ_1 (G : GS) : Prop := ∃ V, CW_1 V G ∧ RV V G
theorem PQ_1.fr {G G1 : GS} (h : PQ_1 G) (hr : ∀ i, i ∈ [10, 11, 12, 13, 14, 15, 16, 17, 18, 72, 73, 74, 87, 88, 89, 90, 91, 92, 93, 94, 95, 96] → G1.1 i = G.1 i) (hf : ∀ y : Nat × Nat, y ∈ [(1, 9), (1, 10), (1, 11), (1, 12), (1, 13), (1, 14), (1, 15), (1, 16), (66, 22), (66, 52), (66, 53), (66, 54), (66, 55), (66, 56)] → G1.1 y.1 y.2 = G.1 y.1 y.2) : PQ_1 G1 := by
  obtain ⟨V, h1, h2⟩ := h
  refine ⟨V, ?_, ?_⟩
  · unfold CW_1 StC_1 WkC_1 CodeC_1 EndC_1 at h1 ⊢
    rw [hf (1, 9) (by decide), hf (1, 10) (by decide), hf (1, 11) (by decide), hf (1, 12) (by decide), hf (1, 13) (by decide), hf (1, 14) (by decide), hf (1, 15) (by decide), hf (1, 16) (by decide), hr 10 (by decide), hr 11 (by decide), hr 12 (by decide), hr 13 (by decide), hr 14 (by decide), hr 15 (by decide), hr 16 (by decide), hr 17 (by decide), hr 18 (by decide)]
    exact h1
  · unfold RV RSt RWk RCd at h2 ⊢
    rw [hf (66, 22) (by decide), hf (66, 52) (by decide), hf (66, 53) (by decide), hf (66, 54) (by decide), hf (66, 55) (by decide), hf (66, 56) (by decide), hr 72 (by decide), hr 73 (by decide), hr 74 (by decide), hr 87 (by decide), hr 88 (by decide), hr 89 (by decide), hr 90 (by decide), hr 91 (by decide), hr 92 (by decide), hr 93 (by decide), hr 94 (by decide), hr 95 (by decide), hr 96 (by decide)]
    exact h2
noncomputable def gPA (G : GS) : Int := ind (PQ_1 G)
theorem gPA_fr {rs : List Nat} {fs : List (Nat × Nat)} {G G1 : GS} (h : Fr rs fs G G1) (h1 : ∀ i ∈ [10, 11, 12, 13, 14, 15, 16, 17, 18, 72, 73, 74, 87, 88, 89, 90, 91, 92, 93, 94, 95, 96], i ∉ rs ∧ ∀ x ∈ fs, x.1 ≠ i) (h2 : ∀ y ∈ [(1, 9), (1, 10), (1, 11), (1, 12), (1, 13), (1, 14), (1, 15), (1, 16), (66, 22), (66, 52), (66, 53), (66, 54), (66, 55), (66, 56)], y.1 ∉ rs ∧ y ∉ fs) : gPA G1 = gPA G := by
  have e : PQ_1 G1 ↔ PQ_1 G := ⟨fun q => q.fr (fun i hi => (h.rows h1 hi).symm) (fun y hy => (h.i y.1 y.2 (h2 y hy).1 (h2 y hy).2).symm), fun q => q.fr (fun i hi => h.rows h1 hi) (fun y hy => h.i y.1 y.2 (h2 y hy).1 (h2 y hy).2)⟩
  unfold gPA
  rw [propext e]
theorem k_hasStreet_1_eq {p0 r : Int32} {G G1 : GS} (h : P_hasStreet_1 p0 G r G1) : G = G1 ∧ (r.toInt ≠ 0 ↔ (0 ≤ p0.toInt ∧ p0.toInt < (G.1 1 9).toInt)) := by
  obtain ⟨-, hF, -, -, hh⟩ := h
  have z : (0 : Int32).toInt = 0 := rfl
  have o : (1 : Int32).toInt = 1 := rfl
  refine ⟨hF.nil, ?_⟩
  rcases hh with ⟨c, rfl, -⟩ | ⟨c, ⟨d, rfl, -⟩ | ⟨d, rfl, -⟩⟩ <;> omega
theorem k_hasWalker_1_eq {p0 r : Int32} {G G1 : GS} (h : P_hasWalker_1 p0 G r G1) : G = G1 ∧ (r.toInt ≠ 0 ↔ (0 ≤ p0.toInt ∧ p0.toInt < (G.1 1 10).toInt)) := by
  obtain ⟨-, hF, -, -, hh⟩ := h
  have z : (0 : Int32).toInt = 0 := rfl
  have o : (1 : Int32).toInt = 1 := rfl
  refine ⟨hF.nil, ?_⟩
  rcases hh with ⟨c, rfl, -⟩ | ⟨c, ⟨d, rfl, -⟩ | ⟨d, rfl, -⟩⟩ <;> omega
theorem k_hasInch_1_eq {p0 p1 r : Int32} {G G1 : GS} (h : P_hasInch_1 p0 p1 G r G1) : G = G1 ∧ (r.toInt ≠ 0 ↔ ((0 ≤ p0.toInt ∧ p0.toInt < (G.1 1 9).toInt) ∧ 0 ≤ p1.toInt ∧ p1.toInt < (G.1 10 p0.toNatClampNeg).toInt)) := by
  obtain ⟨-, hF, -, -, r1, G2, hs, hh⟩ := h
  obtain ⟨rfl, qs⟩ := k_hasStreet_1_eq hs
  have z : (0 : Int32).toInt = 0 := rfl
  have o : (1 : Int32).toInt = 1 := rfl
  refine ⟨hF.nil, ?_⟩
  rcases hh with ⟨c, rfl, -⟩ | ⟨c, ⟨d, rfl, -⟩ | ⟨d, y9, rfl, ⟨e, rfl, -⟩ | ⟨e, rfl, -⟩⟩⟩
  · exact ⟨fun w => absurd z w, fun w => absurd c (qs.mpr w.1)⟩
  · exact ⟨fun w => absurd z w, fun w => by have := w.2.1; omega⟩
  · exact ⟨fun w => absurd z w, fun w => by have := w.2.2; omega⟩
  · exact ⟨fun _ => ⟨qs.mp c, d, e⟩, fun _ => by omega⟩
theorem len_1 {p q r r' : Int32} {G Ga Gb : GS} (hx : P_Wlength_1 p G r Ga) (hm : Q_length q Ga r' Gb) (hpq : p.toInt = q.toInt) (hP : PQ_1 G) : r.toInt = r'.toInt := by
  obtain rfl := Int32.toInt_inj.mp hpq
  have eG := hx.2.1.nil
  subst eG
  obtain ⟨V, hC, hR⟩ := hP
  obtain ⟨-, -, r1, G2, hs, hx⟩ := hx
  obtain ⟨-, -, r2, G3, hs2, hm⟩ := hm
  obtain ⟨rfl, q1⟩ := k_hasStreet_1_eq hs
  obtain ⟨rfl, q2⟩ := q_isStreet hs2
  rw [hC.1.1] at q1
  rw [hR.1.1] at q2
  rcases hx with ⟨c, rfl, -⟩ | ⟨c, y, e, rfl, -⟩
  · rcases hm with ⟨-, rfl, -⟩ | ⟨d, -⟩
    · rfl
    · exact absurd c (q1.mpr (q2.mp d))
  · rcases hm with ⟨d, -⟩ | ⟨d, y', e', rfl, -⟩
    · exact absurd d (q2.mpr (q1.mp c))
    · have hs := q1.mp c
      clear q1 q2
      obtain ⟨j, hj⟩ : ∃ j : Nat, p.toInt = (j : Int) := ⟨p.toInt.toNat, by omega⟩
      rw [cn_eq hj] at e e'
      rw [e, e', (hC.1.2 j (by omega)).1.1, (hR.1.2.2 j (by omega)).1.1]
theorem inch_1 {p0 p1 p2 q0 q1 q2 r r' : Int32} {G Ga Gb : GS} (hx : P_Winch_1 p0 p1 p2 G r Ga) (hm : Q_inch q0 q1 q2 Ga r' Gb) (i0 : p0.toInt = q0.toInt) (i1 : p1.toInt = q1.toInt) (i2 : p2.toInt = q2.toInt) (hP : PQ_1 G) : r.toInt = r'.toInt := by
  obtain rfl := Int32.toInt_inj.mp i0
  obtain rfl := Int32.toInt_inj.mp i1
  obtain rfl := Int32.toInt_inj.mp i2
  have eG := hx.2.1.nil
  subst eG
  obtain ⟨V, hC, hR⟩ := hP
  obtain ⟨-, -, r1, G2, hs, hx⟩ := hx
  obtain ⟨-, -, r2, G3, hs2, hm⟩ := hm
  obtain ⟨rfl, k1⟩ := k_hasInch_1_eq hs
  obtain ⟨rfl, k2⟩ := q_isStreet hs2
  have z : (-1 : Int32).toInt = -1 := rfl
  by_cases hst : 0 ≤ p0.toInt ∧ p0.toInt < (V.1.length : Int)
  · have hr2 : r2.toInt ≠ 0 := k2.mpr (by rw [hR.1.1]; exact hst)
    obtain ⟨s, hs'⟩ : ∃ s : Nat, p0.toInt = (s : Int) := ⟨p0.toInt.toNat, by clear k1 k2 hx hm; omega⟩
    have hsl : s < V.1.length := by clear k1 k2 hx hm; omega
    obtain ⟨hStC, -⟩ := hC.1.2 s hsl
    obtain ⟨hStR, -⟩ := hR.1.2.2 s hsl
    rw [hC.1.1, cn_eq hs', hStC.1] at k1
    rcases hm with ⟨c, -⟩ | ⟨-, r8, G9, hin, hm⟩
    · exact absurd c hr2
    obtain ⟨rfl, k3⟩ := q_isInch hin
    rw [cn_eq hs', hStR.1] at k3
    by_cases hxi : 0 ≤ p1.toInt ∧ p1.toInt < ((V.1.getD s ([], [])).2.length : Int)
    · have hr1 : r1.toInt ≠ 0 := k1.mpr ⟨hst, hxi⟩
      have hr8 : r8.toInt ≠ 0 := k3.mpr hxi
      clear k1 k2 k3
      obtain ⟨i, hi⟩ : ∃ i : Nat, p1.toInt = (i : Int) := ⟨p1.toInt.toNat, by clear hx hm; omega⟩
      have hil : i < (V.1.getD s ([], [])).2.length := by clear hx hm; omega
      obtain ⟨b1, b2, b3, b4⟩ := hStR.2 i hil
      obtain ⟨e1, hok⟩ := hStC.2 i hil
      rcases hm with ⟨c, -⟩ | ⟨-, y15, t15, y16, t16, hm⟩
      · exact absurd c hr8
      have hy : y16.toNatClampNeg = 400 * s + i := cn_eq (by clear hx hm; omega)
      rw [hy] at hm
      have hM : r'.toInt = (if p2.toInt < 0 ∨ 4 < p2.toInt then -1 else icA ((V.1.getD s ([], [])).2.getD i (0, 0, 0, 0)) p2.toInt) := by
        unfold icA
        rcases hm with ⟨c, y18, e18, ⟨d, r21, G22, ht, rfl, -⟩ | ⟨d, r21, G22, ht, rfl, -⟩⟩ | ⟨c, ⟨d, y, e, rfl, -⟩ | ⟨d, ⟨f, y, e, rfl, -⟩ | ⟨f, ⟨g, y, e, rfl, -⟩ | ⟨g, ⟨k, y41, e41, ⟨l, y43, e43, rfl, -⟩ | ⟨l, rfl, -⟩⟩ | ⟨k, rfl, -⟩⟩⟩⟩⟩
        · rw [e18, b1] at d
          rw [(q_truth ht).2, if_neg (by omega), if_pos c, if_neg (by omega)]
          rfl
        · rw [e18, b1] at d
          rw [(q_truth ht).2, if_neg (by omega), if_pos c, if_pos d]
          rfl
        · rw [if_neg (by omega), if_neg c, if_pos d, e, b2]
        · rw [if_neg (by omega), if_neg c, if_neg d, if_pos f, e, b3]
        · rw [if_neg (by omega), if_neg c, if_neg d, if_neg f, if_pos g, e, b4]
        · rw [e41, b1] at l
          rw [if_neg (by omega), if_neg c, if_neg d, if_neg f, if_neg g, if_neg (by omega), e43, b1]
        · rw [e41, b1] at l
          rw [if_neg (by omega), if_neg c, if_neg d, if_neg f, if_neg g, if_pos l]
          rfl
        · rw [if_pos (by omega)]
          rfl
      rw [hM]
      clear hM hm
      rcases hx with ⟨c, -⟩ | ⟨-, ⟨d, rfl, -⟩ | ⟨d, ⟨f, r10, G11, hat, r15, G16, hpt, rfl, -⟩ | ⟨f, rfl, -⟩⟩⟩
      · exact absurd c hr1
      · rw [if_pos (Or.inl d)]
        rfl
      · rw [if_neg (by omega)]
        obtain ⟨-, hFa, r3, G4, hs3, hat⟩ := hat
        obtain ⟨rfl, k4⟩ := k_hasInch_1_eq hs3
        rw [hC.1.1, cn_eq hs', hStC.1] at k4
        rcases hat with ⟨c, -⟩ | ⟨-, y8, t8, y9, t9, y10, e10, rfl, rfl⟩
        · exact absurd c (k4.mpr ⟨hst, hxi⟩)
        · rw [cn_eq (x := y9) (e := 400 * s + i) (by clear k4; omega), e1] at e10
          exact (k_part_eq hpt hok e10).2
      · rw [if_pos (Or.inr f)]
        rfl
    · have hr1 : r1.toInt = 0 := Classical.byContradiction (fun w => hxi (k1.mp w).2)
      have hr8 : r8.toInt = 0 := Classical.byContradiction (fun w => hxi (k3.mp w))
      rcases hm with ⟨-, rfl, -⟩ | ⟨c, -⟩
      · rcases hx with ⟨-, rfl, -⟩ | ⟨c, -⟩
        · rfl
        · exact absurd hr1 c
      · exact absurd hr8 c
  · have hr1 : r1.toInt = 0 := Classical.byContradiction (fun w => hst (by have := (k1.mp w).1; rw [hC.1.1] at this; exact this))
    have hr2 : r2.toInt = 0 := Classical.byContradiction (fun w => hst (by have := k2.mp w; rw [hR.1.1] at this; exact this))
    rcases hm with ⟨-, rfl, -⟩ | ⟨c, -⟩
    · rcases hx with ⟨-, rfl, -⟩ | ⟨c, -⟩
      · rfl
      · exact absurd hr1 c
    · exact absurd hr2 c
theorem k_stands_1_eq {V : PV} {p0 p1 p2 r : Int32} {G G1 : GS} (h : P_stands_1 p0 p1 p2 G r G1) (hC : CW_1 V G) : G = G1 ∧ (r.toInt ≠ 0 ↔ ((0 ≤ p0.toInt ∧ p0.toInt < (V.2.1.length : Int)) ∧ (0 ≤ p1.toInt ∧ p1.toInt < (V.1.length : Int)) ∧ 0 ≤ p2.toInt ∧ p2.toInt ≤ ((V.1.getD p1.toInt.toNat ([], [])).2.length : Int) - (V.2.1.getD p0.toInt.toNat ([], 0, 0, 0, 0)).2.1)) := by
  obtain ⟨-, hF, -, -, r1, G2, hw, hh⟩ := h
  obtain ⟨rfl, k1⟩ := k_hasWalker_1_eq hw
  rw [hC.2.1.1] at k1
  have z : (0 : Int32).toInt = 0 := rfl
  have o : (1 : Int32).toInt = 1 := rfl
  refine ⟨hF.nil, ?_⟩
  rcases hh with ⟨c, rfl, -⟩ | ⟨c, r10, G11, hs, hh⟩
  · exact ⟨fun w => absurd z w, fun w => absurd c (k1.mpr w.1)⟩
  have hw1 := k1.mp c
  obtain ⟨rfl, k2⟩ := k_hasStreet_1_eq hs
  rw [hC.1.1] at k2
  rcases hh with ⟨c2, rfl, -⟩ | ⟨c2, hh⟩
  · exact ⟨fun w => absurd z w, fun w => absurd c2 (k2.mpr w.2.1)⟩
  have hs1 := k2.mp c2
  clear k1 k2
  obtain ⟨w, hw'⟩ : ∃ w : Nat, p0.toInt = (w : Int) := ⟨p0.toInt.toNat, by omega⟩
  obtain ⟨s, hs'⟩ : ∃ s : Nat, p1.toInt = (s : Int) := ⟨p1.toInt.toNat, by omega⟩
  have ew : p0.toInt.toNat = w := by omega
  have es : p1.toInt.toNat = s := by omega
  rw [ew, es]
  rcases hh with ⟨d, rfl, -⟩ | ⟨d, y18, e18, y19, e19, y22, t22, hh⟩
  · exact ⟨fun w => absurd z w, fun w => by have := w.2.2.1; omega⟩
  rw [cn_eq hs'] at e18
  rw [cn_eq hw'] at e19
  have h18 : y18.toInt = ((V.1.getD s ([], [])).2.length : Int) := by rw [e18]; exact (hC.1.2 s (by omega)).1.1
  have h19 : y19.toInt = (V.2.1.getD w ([], 0, 0, 0, 0)).2.1 := by rw [e19]; exact (hC.2.1.2 w (by omega)).1
  rcases hh with ⟨e, rfl, -⟩ | ⟨e, rfl, -⟩
  · exact ⟨fun w => absurd z w, fun w => by have := w.2.2.2; omega⟩
  · exact ⟨fun _ => ⟨hw1, hs1, d, by omega⟩, fun _ => by omega⟩
theorem sight_1 {p0 p1 p2 q0 q1 q2 r r' : Int32} {G Ga Gb : GS} (hx : P_Wsight_1 p0 p1 p2 G r Ga) (hm : Q_sight q0 q1 q2 Ga r' Gb) (i0 : p0.toInt = q0.toInt) (i1 : p1.toInt = q1.toInt) (i2 : p2.toInt = q2.toInt) (hP : PQ_1 G) (hS : SG G) (hc : (G.1 31 5).toInt = (G.1 66 85).toInt) (hc0 : 0 ≤ (G.1 31 5).toInt) (hc20 : (G.1 31 5).toInt ≤ 20) (ht : (G.1 31 6).toInt = (G.1 66 86).toInt) : r.toInt = r'.toInt ∧ (Gb.1 31 5).toInt = (Gb.1 66 85).toInt ∧ SG Gb := by
  obtain rfl := Int32.toInt_inj.mp i0
  obtain rfl := Int32.toInt_inj.mp i1
  obtain rfl := Int32.toInt_inj.mp i2
  obtain ⟨V, hC, hR⟩ := hP
  have hFx := hx.2.1
  obtain ⟨-, -, r1, G2, hst, hx⟩ := hx
  obtain ⟨rfl, k1⟩ := k_stands_1_eq hst hC
  obtain ⟨-, -, -, r2, G3, hw, hm⟩ := hm
  obtain ⟨rfl, k2⟩ := q_isWalker hw
  have a52 : Ga.1 66 52 = G.1 66 52 := hFx.i 66 52 (by decide) (by decide)
  have a53 : Ga.1 66 53 = G.1 66 53 := hFx.i 66 53 (by decide) (by decide)
  have a85 : Ga.1 66 85 = G.1 66 85 := hFx.i 66 85 (by decide) (by decide)
  have a86 : Ga.1 66 86 = G.1 66 86 := hFx.i 66 86 (by decide) (by decide)
  have a91 : Ga.1 91 = G.1 91 := hFx.row1 91 (by decide) (by decide)
  have a92 : Ga.1 92 = G.1 92 := hFx.row1 92 (by decide) (by decide)
  rw [a53, hR.2.1.1] at k2
  -- what the reference asks
  have hM : (r1.toInt = 0 → -1 = r'.toInt ∧ Ga = Gb) ∧ (r1.toInt ≠ 0 → ((G.1 66 85).toInt = 20 ∧ -1 = r'.toInt ∧ Ga = Gb) ∨ ((G.1 66 85).toInt ≠ 20 ∧ r'.toInt = (G.1 66 85).toInt ∧ Fr [112, 113, 114, 115, 116] [(66, 85)] Ga Gb ∧ (Gb.1 66 85).toInt = (G.1 66 85).toInt + 1 ∧ Gb.1 112 = upd (Ga.1 112) (G.1 66 85).toNatClampNeg p0 ∧ Gb.1 113 = upd (Ga.1 113) (G.1 66 85).toNatClampNeg p1 ∧ Gb.1 114 = upd (Ga.1 114) (G.1 66 85).toNatClampNeg p2 ∧ Gb.1 115 = upd (Ga.1 115) (G.1 66 85).toNatClampNeg (G.1 66 86) ∧ Gb.1 116 = upd (Ga.1 116) (G.1 66 85).toNatClampNeg (-1))) := by
    have m1 : ((-1 : Int32)).toInt = -1 := rfl
    rcases hm with ⟨c, e, e2⟩ | ⟨c, r11, G12, hs, hm⟩
    · exact ⟨fun _ => ⟨by rw [← e]; rfl, e2⟩, fun w => absurd c (k2.mpr (k1.mp w).1)⟩
    obtain ⟨rfl, k3⟩ := q_isStreet hs
    rw [a52, hR.1.1] at k3
    rcases hm with ⟨c2, e, e2⟩ | ⟨c2, hm⟩
    · exact ⟨fun _ => ⟨by rw [← e]; rfl, e2⟩, fun w => absurd c2 (k3.mpr (k1.mp w).2.1)⟩
    have hw1 := k2.mp c
    have hs1 := k3.mp c2
    clear k2 k3
    obtain ⟨w, hw'⟩ : ∃ w : Nat, p0.toInt = (w : Int) := ⟨p0.toInt.toNat, by clear hm k1 hx; omega⟩
    obtain ⟨s, hs'⟩ : ∃ s : Nat, p1.toInt = (s : Int) := ⟨p1.toInt.toNat, by clear hm k1 hx; omega⟩
    have ew : p0.toInt.toNat = w := by clear hm k1 hx; omega
    have es : p1.toInt.toNat = s := by clear hm k1 hx; omega
    rw [ew, es] at k1
    rcases hm with ⟨d, e, e2⟩ | ⟨d, y21, e21, y23, e23, y25, t25, hm⟩
    · exact ⟨fun _ => ⟨by rw [← e]; rfl, e2⟩, fun w => by have := (k1.mp w).2.2.1; omega⟩
    rw [cn_eq hs', a91] at e21
    rw [cn_eq hw', a92] at e23
    have h21 : y21.toInt = ((V.1.getD s ([], [])).2.length : Int) := by rw [e21]; exact (hR.1.2.2 s (by clear hm k1 hx; omega)).1.1
    have h23 : y23.toInt = (V.2.1.getD w ([], 0, 0, 0, 0)).2.1 := by rw [e23]; exact (hR.2.1.2.2 w (by clear hm k1 hx; omega)).1
    rcases hm with ⟨e, e1, e2⟩ | ⟨e, hm⟩
    · exact ⟨fun _ => ⟨by rw [← e1]; rfl, e2⟩, fun w => by have := (k1.mp w).2.2.2; clear k1; omega⟩
    have hr1 : r1.toInt ≠ 0 := k1.mpr ⟨hw1, hs1, d, by clear hm k1 hx; omega⟩
    refine ⟨fun q => absurd q hr1, fun _ => ?_⟩
    rw [a85, a86] at hm
    rcases hm with ⟨f, e1, e2⟩ | ⟨f, y38, t38, y41, t41, e1, hFe, g85, g1, g2, g3, g4, g5⟩
    · exact Or.inl ⟨f, by rw [← e1]; rfl, e2⟩
    · exact Or.inr ⟨f, by rw [← e1]; omega, hFe, by rw [g85]; exact t38, g1, g2, g3, g4, g5⟩
  clear hm k2 k1
  rcases hx with ⟨c, e, rfl⟩ | ⟨c, r8, G9, htl, rfl, rfl⟩
  · obtain ⟨h1, rfl⟩ := hM.1 c
    exact ⟨by rw [← e, ← h1]; rfl, hc, hS⟩
  · obtain ⟨-, -, htl⟩ := htl
    rcases htl with ⟨d, y9, t9, e, hFt, g5, w1, w2, w3, w4, w5⟩ | ⟨d, e, e2⟩
    · rcases hM.2 c with ⟨f, -⟩ | ⟨f, h1, hFe, h85, z1, z2, z3, z4, z5⟩
      · omega
      · obtain ⟨n, hn⟩ : ∃ n : Nat, (G.1 31 5).toInt = (n : Int) := ⟨(G.1 31 5).toInt.toNat, by omega⟩
        rw [cn_eq hn] at w1 w2 w3 w4 w5
        rw [cn_eq (x := G.1 66 85) (e := n) (by omega)] at z1 z2 z3 z4 z5
        have k5 : (Gb.1 31 5).toInt = (n : Int) + 1 := by
          rw [hFe.i 31 5 (by decide) (by decide), g5]
          omega
        refine ⟨by rw [← e]; omega, by omega, fun j hj => ?_⟩
        rw [z1, z2, z3, z4, z5, hFe.row1 61 (by decide) (by decide), hFe.row1 62 (by decide) (by decide), hFe.row1 63 (by decide) (by decide), hFe.row1 64 (by decide) (by decide), hFe.row1 65 (by decide) (by decide), w1, w2, w3, w4, w5]
        by_cases hjn : j = n
        · subst hjn
          have u : ∀ (g : Nat → Int32) (v : Int32), upd g j v j = v := fun g v => if_pos rfl
          rw [u, u, u, u, u, u, u, u, u, u]
          exact ⟨rfl, rfl, rfl, ht, rfl, by decide⟩
        · have u : ∀ (g : Nat → Int32) (v : Int32), upd g n v j = g j := fun g v => if_neg hjn
          rw [u, u, u, u, u, u, u, u, u, u, hFx.row1 112 (by decide) (by decide), hFx.row1 113 (by decide) (by decide), hFx.row1 114 (by decide) (by decide), hFx.row1 115 (by decide) (by decide), hFx.row1 116 (by decide) (by decide)]
          exact hS j (by omega)
    · rcases hM.2 c with ⟨f, h1, rfl⟩ | ⟨f, -⟩
      · subst e2
        exact ⟨by rw [← e, ← h1]; rfl, hc, hS⟩
      · omega
def CW_2 (V : PV) (G : GS) : Prop := ((G.1 2 9).toInt = (V.1.length : Int) ∧ ∀ s, s < V.1.length → StC_2 s (V.1.getD s ([], [])).2 G ∧ ((V.1.getD s ([], [])).2.length : Int) ≤ 400) ∧ ((G.1 2 10).toInt = (V.2.1.length : Int) ∧ ∀ k, k < V.2.1.length → WkC_2 k (V.2.1.getD k ([], 0, 0, 0, 0)).2 G) ∧ ((G.1 2 11).toInt = (V.2.2.1.length : Int) ∧ (G.1 2 12).toInt = V.2.2.2.1 ∧ CodeC_2 0 (fcd V.2.2.1) G ∧ EndC_2 V.2.2.1 G) ∧ ((G.1 26 0).toInt = (V.2.2.2.2.1.getD (0, 1, 0)).1 ∧ (G.1 26 1).toInt = (V.2.2.2.2.1.getD (0, 1, 0)).2.1 ∧ (G.1 26 2).toInt = (V.2.2.2.2.1.getD (0, 1, 0)).2.2) ∧ (G.1 2 14).toInt = (V.2.2.2.2.2.1.getD (30, 10)).1 ∧ (G.1 2 15).toInt = (V.2.2.2.2.2.1.getD (30, 10)).2 ∧ (G.1 2 16).toInt = V.2.2.2.2.2.2.getD 0
theorem CV_2.cw {V : PV} {G : GS} (h : CV_2 V G) : CW_2 V G := by
  obtain ⟨⟨a1, -, a3⟩, ⟨b1, -, b3⟩, ⟨c1, -, c3, -, -, c6, c7⟩, ⟨-, d2⟩, ⟨-, e2, e3⟩, -, f2⟩ := h
  exact ⟨⟨a1, a3⟩, ⟨b1, b3⟩, ⟨c1, c3, c6, c7⟩, d2, e2, e3, f2⟩
def PQ_2 (G : GS) : Prop := ∃ V, CW_2 V G ∧ RV V G
theorem PQ_2.fr {G G1 : GS} (h : PQ_2 G) (hr : ∀ i, i ∈ [20, 21, 22, 23, 24, 25, 26, 27, 28, 72, 73, 74, 87, 88, 89, 90, 91, 92, 93, 94, 95, 96] → G1.1 i = G.1 i) (hf : ∀ y : Nat × Nat, y ∈ [(2, 9), (2, 10), (2, 11), (2, 12), (2, 13), (2, 14), (2, 15), (2, 16), (66, 22), (66, 52), (66, 53), (66, 54), (66, 55), (66, 56)] → G1.1 y.1 y.2 = G.1 y.1 y.2) : PQ_2 G1 := by
  obtain ⟨V, h1, h2⟩ := h
  refine ⟨V, ?_, ?_⟩
  · unfold CW_2 StC_2 WkC_2 CodeC_2 EndC_2 at h1 ⊢
    rw [hf (2, 9) (by decide), hf (2, 10) (by decide), hf (2, 11) (by decide), hf (2, 12) (by decide), hf (2, 13) (by decide), hf (2, 14) (by decide), hf (2, 15) (by decide), hf (2, 16) (by decide), hr 20 (by decide), hr 21 (by decide), hr 22 (by decide), hr 23 (by decide), hr 24 (by decide), hr 25 (by decide), hr 26 (by decide), hr 27 (by decide), hr 28 (by decide)]
    exact h1
  · unfold RV RSt RWk RCd at h2 ⊢
    rw [hf (66, 22) (by decide), hf (66, 52) (by decide), hf (66, 53) (by decide), hf (66, 54) (by decide), hf (66, 55) (by decide), hf (66, 56) (by decide), hr 72 (by decide), hr 73 (by decide), hr 74 (by decide), hr 87 (by decide), hr 88 (by decide), hr 89 (by decide), hr 90 (by decide), hr 91 (by decide), hr 92 (by decide), hr 93 (by decide), hr 94 (by decide), hr 95 (by decide), hr 96 (by decide)]
    exact h2
noncomputable def gPB (G : GS) : Int := ind (PQ_2 G)
theorem gPB_fr {rs : List Nat} {fs : List (Nat × Nat)} {G G1 : GS} (h : Fr rs fs G G1) (h1 : ∀ i ∈ [20, 21, 22, 23, 24, 25, 26, 27, 28, 72, 73, 74, 87, 88, 89, 90, 91, 92, 93, 94, 95, 96], i ∉ rs ∧ ∀ x ∈ fs, x.1 ≠ i) (h2 : ∀ y ∈ [(2, 9), (2, 10), (2, 11), (2, 12), (2, 13), (2, 14), (2, 15), (2, 16), (66, 22), (66, 52), (66, 53), (66, 54), (66, 55), (66, 56)], y.1 ∉ rs ∧ y ∉ fs) : gPB G1 = gPB G := by
  have e : PQ_2 G1 ↔ PQ_2 G := ⟨fun q => q.fr (fun i hi => (h.rows h1 hi).symm) (fun y hy => (h.i y.1 y.2 (h2 y hy).1 (h2 y hy).2).symm), fun q => q.fr (fun i hi => h.rows h1 hi) (fun y hy => h.i y.1 y.2 (h2 y hy).1 (h2 y hy).2)⟩
  unfold gPB
  rw [propext e]
theorem k_hasStreet_2_eq {p0 r : Int32} {G G1 : GS} (h : P_hasStreet_2 p0 G r G1) : G = G1 ∧ (r.toInt ≠ 0 ↔ (0 ≤ p0.toInt ∧ p0.toInt < (G.1 2 9).toInt)) := by
  obtain ⟨-, hF, -, -, hh⟩ := h
  have z : (0 : Int32).toInt = 0 := rfl
  have o : (1 : Int32).toInt = 1 := rfl
  refine ⟨hF.nil, ?_⟩
  rcases hh with ⟨c, rfl, -⟩ | ⟨c, ⟨d, rfl, -⟩ | ⟨d, rfl, -⟩⟩ <;> omega
theorem k_hasWalker_2_eq {p0 r : Int32} {G G1 : GS} (h : P_hasWalker_2 p0 G r G1) : G = G1 ∧ (r.toInt ≠ 0 ↔ (0 ≤ p0.toInt ∧ p0.toInt < (G.1 2 10).toInt)) := by
  obtain ⟨-, hF, -, -, hh⟩ := h
  have z : (0 : Int32).toInt = 0 := rfl
  have o : (1 : Int32).toInt = 1 := rfl
  refine ⟨hF.nil, ?_⟩
  rcases hh with ⟨c, rfl, -⟩ | ⟨c, ⟨d, rfl, -⟩ | ⟨d, rfl, -⟩⟩ <;> omega
theorem k_hasInch_2_eq {p0 p1 r : Int32} {G G1 : GS} (h : P_hasInch_2 p0 p1 G r G1) : G = G1 ∧ (r.toInt ≠ 0 ↔ ((0 ≤ p0.toInt ∧ p0.toInt < (G.1 2 9).toInt) ∧ 0 ≤ p1.toInt ∧ p1.toInt < (G.1 20 p0.toNatClampNeg).toInt)) := by
  obtain ⟨-, hF, -, -, r1, G2, hs, hh⟩ := h
  obtain ⟨rfl, qs⟩ := k_hasStreet_2_eq hs
  have z : (0 : Int32).toInt = 0 := rfl
  have o : (1 : Int32).toInt = 1 := rfl
  refine ⟨hF.nil, ?_⟩
  rcases hh with ⟨c, rfl, -⟩ | ⟨c, ⟨d, rfl, -⟩ | ⟨d, y9, rfl, ⟨e, rfl, -⟩ | ⟨e, rfl, -⟩⟩⟩
  · exact ⟨fun w => absurd z w, fun w => absurd c (qs.mpr w.1)⟩
  · exact ⟨fun w => absurd z w, fun w => by have := w.2.1; omega⟩
  · exact ⟨fun w => absurd z w, fun w => by have := w.2.2; omega⟩
  · exact ⟨fun _ => ⟨qs.mp c, d, e⟩, fun _ => by omega⟩
theorem len_2 {p q r r' : Int32} {G Ga Gb : GS} (hx : P_Wlength_2 p G r Ga) (hm : Q_length q Ga r' Gb) (hpq : p.toInt = q.toInt) (hP : PQ_2 G) : r.toInt = r'.toInt := by
  obtain rfl := Int32.toInt_inj.mp hpq
  have eG := hx.2.1.nil
  subst eG
  obtain ⟨V, hC, hR⟩ := hP
  obtain ⟨-, -, r1, G2, hs, hx⟩ := hx
  obtain ⟨-, -, r2, G3, hs2, hm⟩ := hm
  obtain ⟨rfl, q1⟩ := k_hasStreet_2_eq hs
  obtain ⟨rfl, q2⟩ := q_isStreet hs2
  rw [hC.1.1] at q1
  rw [hR.1.1] at q2
  rcases hx with ⟨c, rfl, -⟩ | ⟨c, y, e, rfl, -⟩
  · rcases hm with ⟨-, rfl, -⟩ | ⟨d, -⟩
    · rfl
    · exact absurd c (q1.mpr (q2.mp d))
  · rcases hm with ⟨d, -⟩ | ⟨d, y', e', rfl, -⟩
    · exact absurd d (q2.mpr (q1.mp c))
    · have hs := q1.mp c
      clear q1 q2
      obtain ⟨j, hj⟩ : ∃ j : Nat, p.toInt = (j : Int) := ⟨p.toInt.toNat, by omega⟩
      rw [cn_eq hj] at e e'
      rw [e, e', (hC.1.2 j (by omega)).1.1, (hR.1.2.2 j (by omega)).1.1]
theorem inch_2 {p0 p1 p2 q0 q1 q2 r r' : Int32} {G Ga Gb : GS} (hx : P_Winch_2 p0 p1 p2 G r Ga) (hm : Q_inch q0 q1 q2 Ga r' Gb) (i0 : p0.toInt = q0.toInt) (i1 : p1.toInt = q1.toInt) (i2 : p2.toInt = q2.toInt) (hP : PQ_2 G) : r.toInt = r'.toInt := by
  obtain rfl := Int32.toInt_inj.mp i0
  obtain rfl := Int32.toInt_inj.mp i1
  obtain rfl := Int32.toInt_inj.mp i2
  have eG := hx.2.1.nil
  subst eG
  obtain ⟨V, hC, hR⟩ := hP
  obtain ⟨-, -, r1, G2, hs, hx⟩ := hx
  obtain ⟨-, -, r2, G3, hs2, hm⟩ := hm
  obtain ⟨rfl, k1⟩ := k_hasInch_2_eq hs
  obtain ⟨rfl, k2⟩ := q_isStreet hs2
  have z : (-1 : Int32).toInt = -1 := rfl
  by_cases hst : 0 ≤ p0.toInt ∧ p0.toInt < (V.1.length : Int)
  · have hr2 : r2.toInt ≠ 0 := k2.mpr (by rw [hR.1.1]; exact hst)
    obtain ⟨s, hs'⟩ : ∃ s : Nat, p0.toInt = (s : Int) := ⟨p0.toInt.toNat, by clear k1 k2 hx hm; omega⟩
    have hsl : s < V.1.length := by clear k1 k2 hx hm; omega
    obtain ⟨hStC, -⟩ := hC.1.2 s hsl
    obtain ⟨hStR, -⟩ := hR.1.2.2 s hsl
    rw [hC.1.1, cn_eq hs', hStC.1] at k1
    rcases hm with ⟨c, -⟩ | ⟨-, r8, G9, hin, hm⟩
    · exact absurd c hr2
    obtain ⟨rfl, k3⟩ := q_isInch hin
    rw [cn_eq hs', hStR.1] at k3
    by_cases hxi : 0 ≤ p1.toInt ∧ p1.toInt < ((V.1.getD s ([], [])).2.length : Int)
    · have hr1 : r1.toInt ≠ 0 := k1.mpr ⟨hst, hxi⟩
      have hr8 : r8.toInt ≠ 0 := k3.mpr hxi
      clear k1 k2 k3
      obtain ⟨i, hi⟩ : ∃ i : Nat, p1.toInt = (i : Int) := ⟨p1.toInt.toNat, by clear hx hm; omega⟩
      have hil : i < (V.1.getD s ([], [])).2.length := by clear hx hm; omega
      obtain ⟨b1, b2, b3, b4⟩ := hStR.2 i hil
      obtain ⟨e1, hok⟩ := hStC.2 i hil
      rcases hm with ⟨c, -⟩ | ⟨-, y15, t15, y16, t16, hm⟩
      · exact absurd c hr8
      have hy : y16.toNatClampNeg = 400 * s + i := cn_eq (by clear hx hm; omega)
      rw [hy] at hm
      have hM : r'.toInt = (if p2.toInt < 0 ∨ 4 < p2.toInt then -1 else icA ((V.1.getD s ([], [])).2.getD i (0, 0, 0, 0)) p2.toInt) := by
        unfold icA
        rcases hm with ⟨c, y18, e18, ⟨d, r21, G22, ht, rfl, -⟩ | ⟨d, r21, G22, ht, rfl, -⟩⟩ | ⟨c, ⟨d, y, e, rfl, -⟩ | ⟨d, ⟨f, y, e, rfl, -⟩ | ⟨f, ⟨g, y, e, rfl, -⟩ | ⟨g, ⟨k, y41, e41, ⟨l, y43, e43, rfl, -⟩ | ⟨l, rfl, -⟩⟩ | ⟨k, rfl, -⟩⟩⟩⟩⟩
        · rw [e18, b1] at d
          rw [(q_truth ht).2, if_neg (by omega), if_pos c, if_neg (by omega)]
          rfl
        · rw [e18, b1] at d
          rw [(q_truth ht).2, if_neg (by omega), if_pos c, if_pos d]
          rfl
        · rw [if_neg (by omega), if_neg c, if_pos d, e, b2]
        · rw [if_neg (by omega), if_neg c, if_neg d, if_pos f, e, b3]
        · rw [if_neg (by omega), if_neg c, if_neg d, if_neg f, if_pos g, e, b4]
        · rw [e41, b1] at l
          rw [if_neg (by omega), if_neg c, if_neg d, if_neg f, if_neg g, if_neg (by omega), e43, b1]
        · rw [e41, b1] at l
          rw [if_neg (by omega), if_neg c, if_neg d, if_neg f, if_neg g, if_pos l]
          rfl
        · rw [if_pos (by omega)]
          rfl
      rw [hM]
      clear hM hm
      rcases hx with ⟨c, -⟩ | ⟨-, ⟨d, rfl, -⟩ | ⟨d, ⟨f, r10, G11, hat, r15, G16, hpt, rfl, -⟩ | ⟨f, rfl, -⟩⟩⟩
      · exact absurd c hr1
      · rw [if_pos (Or.inl d)]
        rfl
      · rw [if_neg (by omega)]
        obtain ⟨-, hFa, r3, G4, hs3, hat⟩ := hat
        obtain ⟨rfl, k4⟩ := k_hasInch_2_eq hs3
        rw [hC.1.1, cn_eq hs', hStC.1] at k4
        rcases hat with ⟨c, -⟩ | ⟨-, y8, t8, y9, t9, y10, e10, rfl, rfl⟩
        · exact absurd c (k4.mpr ⟨hst, hxi⟩)
        · rw [cn_eq (x := y9) (e := 400 * s + i) (by clear k4; omega), e1] at e10
          exact (k_part_eq hpt hok e10).2
      · rw [if_pos (Or.inr f)]
        rfl
    · have hr1 : r1.toInt = 0 := Classical.byContradiction (fun w => hxi (k1.mp w).2)
      have hr8 : r8.toInt = 0 := Classical.byContradiction (fun w => hxi (k3.mp w))
      rcases hm with ⟨-, rfl, -⟩ | ⟨c, -⟩
      · rcases hx with ⟨-, rfl, -⟩ | ⟨c, -⟩
        · rfl
        · exact absurd hr1 c
      · exact absurd hr8 c
  · have hr1 : r1.toInt = 0 := Classical.byContradiction (fun w => hst (by have := (k1.mp w).1; rw [hC.1.1] at this; exact this))
    have hr2 : r2.toInt = 0 := Classical.byContradiction (fun w => hst (by have := k2.mp w; rw [hR.1.1] at this; exact this))
    rcases hm with ⟨-, rfl, -⟩ | ⟨c, -⟩
    · rcases hx with ⟨-, rfl, -⟩ | ⟨c, -⟩
      · rfl
      · exact absurd hr1 c
    · exact absurd hr2 c
theorem k_stands_2_eq {V : PV} {p0 p1 p2 r : Int32} {G G1 : GS} (h : P_stands_2 p0 p1 p2 G r G1) (hC : CW_2 V G) : G = G1 ∧ (r.toInt ≠ 0 ↔ ((0 ≤ p0.toInt ∧ p0.toInt < (V.2.1.length : Int)) ∧ (0 ≤ p1.toInt ∧ p1.toInt < (V.1.length : Int)) ∧ 0 ≤ p2.toInt ∧ p2.toInt ≤ ((V.1.getD p1.toInt.toNat ([], [])).2.length : Int) - (V.2.1.getD p0.toInt.toNat ([], 0, 0, 0, 0)).2.1)) := by
  obtain ⟨-, hF, -, -, r1, G2, hw, hh⟩ := h
  obtain ⟨rfl, k1⟩ := k_hasWalker_2_eq hw
  rw [hC.2.1.1] at k1
  have z : (0 : Int32).toInt = 0 := rfl
  have o : (1 : Int32).toInt = 1 := rfl
  refine ⟨hF.nil, ?_⟩
  rcases hh with ⟨c, rfl, -⟩ | ⟨c, r10, G11, hs, hh⟩
  · exact ⟨fun w => absurd z w, fun w => absurd c (k1.mpr w.1)⟩
  have hw1 := k1.mp c
  obtain ⟨rfl, k2⟩ := k_hasStreet_2_eq hs
  rw [hC.1.1] at k2
  rcases hh with ⟨c2, rfl, -⟩ | ⟨c2, hh⟩
  · exact ⟨fun w => absurd z w, fun w => absurd c2 (k2.mpr w.2.1)⟩
  have hs1 := k2.mp c2
  clear k1 k2
  obtain ⟨w, hw'⟩ : ∃ w : Nat, p0.toInt = (w : Int) := ⟨p0.toInt.toNat, by omega⟩
  obtain ⟨s, hs'⟩ : ∃ s : Nat, p1.toInt = (s : Int) := ⟨p1.toInt.toNat, by omega⟩
  have ew : p0.toInt.toNat = w := by omega
  have es : p1.toInt.toNat = s := by omega
  rw [ew, es]
  rcases hh with ⟨d, rfl, -⟩ | ⟨d, y18, e18, y19, e19, y22, t22, hh⟩
  · exact ⟨fun w => absurd z w, fun w => by have := w.2.2.1; omega⟩
  rw [cn_eq hs'] at e18
  rw [cn_eq hw'] at e19
  have h18 : y18.toInt = ((V.1.getD s ([], [])).2.length : Int) := by rw [e18]; exact (hC.1.2 s (by omega)).1.1
  have h19 : y19.toInt = (V.2.1.getD w ([], 0, 0, 0, 0)).2.1 := by rw [e19]; exact (hC.2.1.2 w (by omega)).1
  rcases hh with ⟨e, rfl, -⟩ | ⟨e, rfl, -⟩
  · exact ⟨fun w => absurd z w, fun w => by have := w.2.2.2; omega⟩
  · exact ⟨fun _ => ⟨hw1, hs1, d, by omega⟩, fun _ => by omega⟩
theorem sight_2 {p0 p1 p2 q0 q1 q2 r r' : Int32} {G Ga Gb : GS} (hx : P_Wsight_2 p0 p1 p2 G r Ga) (hm : Q_sight q0 q1 q2 Ga r' Gb) (i0 : p0.toInt = q0.toInt) (i1 : p1.toInt = q1.toInt) (i2 : p2.toInt = q2.toInt) (hP : PQ_2 G) (hS : SG G) (hc : (G.1 31 5).toInt = (G.1 66 85).toInt) (hc0 : 0 ≤ (G.1 31 5).toInt) (hc20 : (G.1 31 5).toInt ≤ 20) (ht : (G.1 31 6).toInt = (G.1 66 86).toInt) : r.toInt = r'.toInt ∧ (Gb.1 31 5).toInt = (Gb.1 66 85).toInt ∧ SG Gb := by
  obtain rfl := Int32.toInt_inj.mp i0
  obtain rfl := Int32.toInt_inj.mp i1
  obtain rfl := Int32.toInt_inj.mp i2
  obtain ⟨V, hC, hR⟩ := hP
  have hFx := hx.2.1
  obtain ⟨-, -, r1, G2, hst, hx⟩ := hx
  obtain ⟨rfl, k1⟩ := k_stands_2_eq hst hC
  obtain ⟨-, -, -, r2, G3, hw, hm⟩ := hm
  obtain ⟨rfl, k2⟩ := q_isWalker hw
  have a52 : Ga.1 66 52 = G.1 66 52 := hFx.i 66 52 (by decide) (by decide)
  have a53 : Ga.1 66 53 = G.1 66 53 := hFx.i 66 53 (by decide) (by decide)
  have a85 : Ga.1 66 85 = G.1 66 85 := hFx.i 66 85 (by decide) (by decide)
  have a86 : Ga.1 66 86 = G.1 66 86 := hFx.i 66 86 (by decide) (by decide)
  have a91 : Ga.1 91 = G.1 91 := hFx.row1 91 (by decide) (by decide)
  have a92 : Ga.1 92 = G.1 92 := hFx.row1 92 (by decide) (by decide)
  rw [a53, hR.2.1.1] at k2
  -- what the reference asks
  have hM : (r1.toInt = 0 → -1 = r'.toInt ∧ Ga = Gb) ∧ (r1.toInt ≠ 0 → ((G.1 66 85).toInt = 20 ∧ -1 = r'.toInt ∧ Ga = Gb) ∨ ((G.1 66 85).toInt ≠ 20 ∧ r'.toInt = (G.1 66 85).toInt ∧ Fr [112, 113, 114, 115, 116] [(66, 85)] Ga Gb ∧ (Gb.1 66 85).toInt = (G.1 66 85).toInt + 1 ∧ Gb.1 112 = upd (Ga.1 112) (G.1 66 85).toNatClampNeg p0 ∧ Gb.1 113 = upd (Ga.1 113) (G.1 66 85).toNatClampNeg p1 ∧ Gb.1 114 = upd (Ga.1 114) (G.1 66 85).toNatClampNeg p2 ∧ Gb.1 115 = upd (Ga.1 115) (G.1 66 85).toNatClampNeg (G.1 66 86) ∧ Gb.1 116 = upd (Ga.1 116) (G.1 66 85).toNatClampNeg (-1))) := by
    have m1 : ((-1 : Int32)).toInt = -1 := rfl
    rcases hm with ⟨c, e, e2⟩ | ⟨c, r11, G12, hs, hm⟩
    · exact ⟨fun _ => ⟨by rw [← e]; rfl, e2⟩, fun w => absurd c (k2.mpr (k1.mp w).1)⟩
    obtain ⟨rfl, k3⟩ := q_isStreet hs
    rw [a52, hR.1.1] at k3
    rcases hm with ⟨c2, e, e2⟩ | ⟨c2, hm⟩
    · exact ⟨fun _ => ⟨by rw [← e]; rfl, e2⟩, fun w => absurd c2 (k3.mpr (k1.mp w).2.1)⟩
    have hw1 := k2.mp c
    have hs1 := k3.mp c2
    clear k2 k3
    obtain ⟨w, hw'⟩ : ∃ w : Nat, p0.toInt = (w : Int) := ⟨p0.toInt.toNat, by clear hm k1 hx; omega⟩
    obtain ⟨s, hs'⟩ : ∃ s : Nat, p1.toInt = (s : Int) := ⟨p1.toInt.toNat, by clear hm k1 hx; omega⟩
    have ew : p0.toInt.toNat = w := by clear hm k1 hx; omega
    have es : p1.toInt.toNat = s := by clear hm k1 hx; omega
    rw [ew, es] at k1
    rcases hm with ⟨d, e, e2⟩ | ⟨d, y21, e21, y23, e23, y25, t25, hm⟩
    · exact ⟨fun _ => ⟨by rw [← e]; rfl, e2⟩, fun w => by have := (k1.mp w).2.2.1; omega⟩
    rw [cn_eq hs', a91] at e21
    rw [cn_eq hw', a92] at e23
    have h21 : y21.toInt = ((V.1.getD s ([], [])).2.length : Int) := by rw [e21]; exact (hR.1.2.2 s (by clear hm k1 hx; omega)).1.1
    have h23 : y23.toInt = (V.2.1.getD w ([], 0, 0, 0, 0)).2.1 := by rw [e23]; exact (hR.2.1.2.2 w (by clear hm k1 hx; omega)).1
    rcases hm with ⟨e, e1, e2⟩ | ⟨e, hm⟩
    · exact ⟨fun _ => ⟨by rw [← e1]; rfl, e2⟩, fun w => by have := (k1.mp w).2.2.2; clear k1; omega⟩
    have hr1 : r1.toInt ≠ 0 := k1.mpr ⟨hw1, hs1, d, by clear hm k1 hx; omega⟩
    refine ⟨fun q => absurd q hr1, fun _ => ?_⟩
    rw [a85, a86] at hm
    rcases hm with ⟨f, e1, e2⟩ | ⟨f, y38, t38, y41, t41, e1, hFe, g85, g1, g2, g3, g4, g5⟩
    · exact Or.inl ⟨f, by rw [← e1]; rfl, e2⟩
    · exact Or.inr ⟨f, by rw [← e1]; omega, hFe, by rw [g85]; exact t38, g1, g2, g3, g4, g5⟩
  clear hm k2 k1
  rcases hx with ⟨c, e, rfl⟩ | ⟨c, r8, G9, htl, rfl, rfl⟩
  · obtain ⟨h1, rfl⟩ := hM.1 c
    exact ⟨by rw [← e, ← h1]; rfl, hc, hS⟩
  · obtain ⟨-, -, htl⟩ := htl
    rcases htl with ⟨d, y9, t9, e, hFt, g5, w1, w2, w3, w4, w5⟩ | ⟨d, e, e2⟩
    · rcases hM.2 c with ⟨f, -⟩ | ⟨f, h1, hFe, h85, z1, z2, z3, z4, z5⟩
      · omega
      · obtain ⟨n, hn⟩ : ∃ n : Nat, (G.1 31 5).toInt = (n : Int) := ⟨(G.1 31 5).toInt.toNat, by omega⟩
        rw [cn_eq hn] at w1 w2 w3 w4 w5
        rw [cn_eq (x := G.1 66 85) (e := n) (by omega)] at z1 z2 z3 z4 z5
        have k5 : (Gb.1 31 5).toInt = (n : Int) + 1 := by
          rw [hFe.i 31 5 (by decide) (by decide), g5]
          omega
        refine ⟨by rw [← e]; omega, by omega, fun j hj => ?_⟩
        rw [z1, z2, z3, z4, z5, hFe.row1 61 (by decide) (by decide), hFe.row1 62 (by decide) (by decide), hFe.row1 63 (by decide) (by decide), hFe.row1 64 (by decide) (by decide), hFe.row1 65 (by decide) (by decide), w1, w2, w3, w4, w5]
        by_cases hjn : j = n
        · subst hjn
          have u : ∀ (g : Nat → Int32) (v : Int32), upd g j v j = v := fun g v => if_pos rfl
          rw [u, u, u, u, u, u, u, u, u, u]
          exact ⟨rfl, rfl, rfl, ht, rfl, by decide⟩
        · have u : ∀ (g : Nat → Int32) (v : Int32), upd g n v j = g j := fun g v => if_neg hjn
          rw [u, u, u, u, u, u, u, u, u, u, hFx.row1 112 (by decide) (by decide), hFx.row1 113 (by decide) (by decide), hFx.row1 114 (by decide) (by decide), hFx.row1 115 (by decide) (by decide), hFx.row1 116 (by decide) (by decide)]
          exact hS j (by omega)
    · rcases hM.2 c with ⟨f, h1, rfl⟩ | ⟨f, -⟩
      · subst e2
        exact ⟨by rw [← e, ← h1]; rfl, hc, hS⟩
      · omega

/-! what a formula's code is like: its pieces, how deep it goes, how long it is -/
def sgO (o : Int) : Prop := o = 124 ∨ o = 38 ∨ o = 60 ∨ o = 62 ∨ o = 61 ∨ o = 43 ∨ o = 45 ∨ o = 42 ∨ o = 47 ∨ o = 37
def cOK (c : Int × Int) : Prop := (c.1 = 0 ∧ 0 ≤ c.2 ∧ c.2 ≤ 9999) ∨ (c.1 = 1 ∧ 0 ≤ c.2 ∧ c.2 ≤ 8) ∨ (c.1 = 2 ∧ c.2 = 0) ∨ (c.1 = 3 ∧ sgO c.2)
def dst (d : Option Nat) (c : Int × Int) : Option Nat := match d with
  | none => none
  | some k => if c.1 ≤ 1 then some (k + 1) else if c.1 = 2 then (if 1 ≤ k then some k else none) else (if 2 ≤ k then some (k - 1) else none)
def dep (C : List (Int × Int)) : Option Nat := C.foldl dst (some 0)
theorem dep_snoc {C : List (Int × Int)} {c : Int × Int} : dep (C ++ [c]) = dst (dep C) c := by simp [dep, List.foldl_append]
def bin : List Int → Nat
  | [] => 0
  | o :: S => if o = 20 ∨ o = 21 then bin S else bin S + 1
def n21 : List Int → Nat
  | [] => 0
  | o :: S => if o = 21 then n21 S + 1 else n21 S
def nNo (C : List (Int × Int)) : Nat := (C.filter (fun c => decide (c.1 = 2))).length
def nPu (C : List (Int × Int)) : Nat := (C.filter (fun c => decide (c.1 ≤ 1))).length
theorem nNo_snoc {C : List (Int × Int)} {c : Int × Int} : nNo (C ++ [c]) = nNo C + (if c.1 = 2 then 1 else 0) := by
  unfold nNo
  rw [List.filter_append, List.length_append]
  by_cases h : c.1 = 2
  · rw [if_pos h, List.filter_cons_of_pos (by simpa using h)]
    rfl
  · rw [if_neg h, List.filter_cons_of_neg (by simpa using h)]
    rfl
theorem nPu_snoc {C : List (Int × Int)} {c : Int × Int} : nPu (C ++ [c]) = nPu C + (if c.1 ≤ 1 then 1 else 0) := by
  unfold nPu
  rw [List.filter_append, List.length_append]
  by_cases h : c.1 ≤ 1
  · rw [if_pos h, List.filter_cons_of_pos (by simpa using h)]
    rfl
  · rw [if_neg h, List.filter_cons_of_neg (by simpa using h)]
    rfl
/-- code and signs that wait, with so many values on the stack -/
def CI (d : Nat) (S : List Int) (C : List (Int × Int)) : Prop := (∀ c ∈ C, cOK c) ∧ (∀ o ∈ S, o = 20 ∨ o = 21 ∨ sgO o) ∧ dep C = some d ∧ d = bin S + 1 ∧ C.length + d = 2 * nPu C + nNo C
theorem sgO_n {o : Int} (h : sgO o) : o ≠ 20 ∧ o ≠ 21 := by
  unfold sgO at h
  omega
theorem CI_clo (L : Int) : ∀ (S : List Int) (C : List (Int × Int)) (d : Nat), CI d S C → ∃ d', CI d' (clo L S C).1 (clo L S C).2 ∧ nPu (clo L S C).2 = nPu C ∧ nNo (clo L S C).2 + n21 (clo L S C).1 = nNo C + n21 S
  | [], C, d, h => ⟨d, h, rfl, rfl⟩
  | o :: S, C, d, h => by
    rw [clo]
    by_cases ho : o ≠ 20 ∧ L ≤ tgt o
    · rw [if_pos ho]
      obtain ⟨h1, h2, h3, h4, h5⟩ := h
      have hoo := h2 o (by simp)
      by_cases h21 : o = 21
      · subst h21
        have hc : cdo 21 = (2, 0) := rfl
        have hb : bin (21 :: S) = bin S := by rw [bin, if_pos (Or.inr rfl)]
        have hn : n21 (21 :: S) = n21 S + 1 := by rw [n21, if_pos rfl]
        have hCI : CI d S (C ++ [cdo 21]) := by
          refine ⟨fun c hc' => ?_, fun x hx => h2 x (by simp [hx]), ?_, by omega, ?_⟩
          · rcases List.mem_append.mp hc' with q | q
            · exact h1 c q
            · rw [List.mem_singleton] at q
              subst q
              exact Or.inr (Or.inr (Or.inl ⟨rfl, rfl⟩))
          · rw [dep_snoc, h3, hc]
            show dst (some d) (2, 0) = some d
            simp only [dst]
            rw [if_neg (by decide), if_pos (by trivial), if_pos (by omega)]
          · rw [List.length_append, nPu_snoc, nNo_snoc, hc]
            show C.length + 1 + d = 2 * (nPu C + (if (2 : Int) ≤ 1 then 1 else 0)) + (nNo C + (if (2 : Int) = 2 then 1 else 0))
            rw [if_neg (by decide), if_pos rfl]
            omega
        obtain ⟨d', k1, k2, k3⟩ := CI_clo L S (C ++ [cdo 21]) d hCI
        refine ⟨d', k1, ?_, ?_⟩
        · rw [k2, nPu_snoc, hc]
          rfl
        · rw [k3, nNo_snoc, hc, hn]
          show nNo C + (if (2 : Int) = 2 then 1 else 0) + n21 S = _
          rw [if_pos rfl]
          omega
      · have hsg : sgO o := by
          rcases hoo with q | q | q
          · exact absurd q ho.1
          · exact absurd q h21
          · exact q
        have hc : cdo o = (3, o) := by
          unfold cdo
          rw [if_neg h21]
        have hb : bin (o :: S) = bin S + 1 := by rw [bin, if_neg (fun q => q.elim ho.1 h21)]
        have hn : n21 (o :: S) = n21 S := by rw [n21, if_neg h21]
        have hCI : CI (d - 1) S (C ++ [cdo o]) := by
          refine ⟨fun c hc' => ?_, fun x hx => h2 x (by simp [hx]), ?_, by omega, ?_⟩
          · rcases List.mem_append.mp hc' with q | q
            · exact h1 c q
            · rw [List.mem_singleton] at q
              subst q
              rw [hc]
              exact Or.inr (Or.inr (Or.inr ⟨rfl, hsg⟩))
          · rw [dep_snoc, h3, hc]
            show (if (3 : Int) ≤ 1 then some (d + 1) else if (3 : Int) = 2 then (if 1 ≤ d then some d else none) else (if 2 ≤ d then some (d - 1) else none)) = some (d - 1)
            rw [if_neg (by decide), if_neg (by decide), if_pos (by omega)]
          · rw [List.length_append, nPu_snoc, nNo_snoc, hc]
            show C.length + 1 + (d - 1) = 2 * (nPu C + (if (3 : Int) ≤ 1 then 1 else 0)) + (nNo C + (if (3 : Int) = 2 then 1 else 0))
            rw [if_neg (by decide), if_neg (by decide)]
            omega
        obtain ⟨d', k1, k2, k3⟩ := CI_clo L S (C ++ [cdo o]) (d - 1) hCI
        refine ⟨d', k1, ?_, ?_⟩
        · rw [k2, nPu_snoc, hc]
          rfl
        · rw [k3, nNo_snoc, hc, hn]
          show nNo C + (if (3 : Int) = 2 then 1 else 0) + n21 S = _
          rw [if_neg (by decide)]
          rfl
    · rw [if_neg ho]
      exact ⟨d, h, rfl, rfl⟩
/-- ahead of a unit there is one value less -/
def CIb (S : List Int) (C : List (Int × Int)) : Prop := (∀ c ∈ C, cOK c) ∧ (∀ o ∈ S, o = 20 ∨ o = 21 ∨ sgO o) ∧ dep C = some (bin S) ∧ C.length + bin S = 2 * nPu C + nNo C
/-- the place, against the nots: each is three letters with none directly behind -/
def NP (b : Nat → Int) (n p0 p N : Nat) : Prop := p0 ≤ p ∧ 4 * N ≤ p - p0 + 1 ∧ (4 * N ≤ p - p0 ∨ ¬ (p < n ∧ ltr (b p) = true))
def FSI (b : Nat → Int) (n p0 : Nat) (w0 : Int) (s : FS) : Prop := s.2.1 ≤ n ∧ NP b n p0 s.2.1 (nNo s.2.2.2.1 + n21 s.2.2.1) ∧ (nPu s.2.2.2.1 : Int) ≤ s.2.2.2.2.1 ∧ s.2.2.2.2.2 = w0 + s.2.2.2.2.1 ∧ 0 ≤ s.2.2.2.2.1 ∧ s.2.2.2.2.1 ≤ 30 ∧ (if s.1 = true then CIb s.2.2.1 s.2.2.2.1 else ∃ d, CI d s.2.2.1 s.2.2.2.1)
theorem tN_w {b : Nat → Int} {n p : Nat} (hn : n ≤ 1600) (hp : p ≤ n) (hk : 128 ≤ tK b n p ∧ tK b n p ≤ 200) : tNx b n p = tS b n p + (tL b n p).length ∧ ltr (b (tS b n p)) = true ∧ ¬ (tNx b n p < n ∧ ltr (b (tNx b n p)) = true) ∧ (tS b n p = p ∨ ¬ (p < n ∧ ltr (b p) = true)) := by
  have hs := tS_p (b := b) hn hp
  have h1 : ¬ n ≤ tS b n p := by
    intro q
    have : tK b n p = 203 := by
      unfold tK
      rw [if_pos q]
    omega
  have h2 : ltr (b (tS b n p)) = true := by
    refine Classical.byContradiction (fun q => ?_)
    have hk2 : tK b n p = (if dgt (b (tS b n p)) = true then (if 4 < tD b n p - tS b n p ∨ (tD b n p < n ∧ ltr (b (tD b n p)) = true) then 202 else 201) else if sgn (b (tS b n p)) = true then b (tS b n p) else 202) := by
      unfold tK
      rw [if_neg h1, if_neg q]
    by_cases hd : dgt (b (tS b n p)) = true
    · rw [if_pos hd] at hk2
      split at hk2 <;> omega
    · rw [if_neg hd] at hk2
      by_cases hg : sgn (b (tS b n p)) = true
      · rw [if_pos hg] at hk2
        have := sgn_i.mp hg
        omega
      · rw [if_neg hg] at hk2
        omega
  have h3 : tNx b n p = tW b n p := by
    unfold tNx
    rw [if_neg h1, if_pos h2]
  obtain ⟨r1, r2, r3, r4⟩ := rn_p (c := ltr) (b := b) (n := n) 1601 (tS b n p) (by omega)
  refine ⟨?_, h2, ?_, ?_⟩
  · rw [h3]
    unfold tL
    rw [cut_len]
    show tW b n p = _
    have : tS b n p ≤ tW b n p := r1
    omega
  · rw [h3]
    exact r4
  · by_cases he : tS b n p = p
    · exact Or.inl he
    · obtain ⟨s1, s2, s3, s4⟩ := rn_p (c := blk) (b := b) (n := n) 1601 p (by omega)
      have := s3 p (Nat.le_refl p) (by have : p ≤ tS b n p := hs.1; show p < tS b n p; omega)
      refine Or.inr (fun q => ?_)
      have e1 := blk_i.mp this.2
      have e2 := ltr_i.mp q.2
      omega

/-! along the stack of signs -/
theorem NP_up {b : Nat → Int} {n p0 p q N : Nat} (h : NP b n p0 p N) (hq : p < q) : NP b n p0 q N := by
  obtain ⟨h1, h2, -⟩ := h
  exact ⟨by omega, by omega, Or.inl (by omega)⟩
theorem NP_not {b : Nat → Int} {n p0 p N : Nat} (hn : n ≤ 1600) (hp : p ≤ n) (hk : tK b n p = 146) (h : NP b n p0 p N) : NP b n p0 (tNx b n p) (N + 1) := by
  obtain ⟨h1, h2, h3⟩ := h
  obtain ⟨g1, g2, g3, g4⟩ := tN_w (b := b) hn hp (by omega)
  have hL : (tL b n p).length = 3 := by
    have hw := tK_w (b := b) hn hp (by omega) (by omega)
    have : tL b n p = KW.getD 18 [] := (kwd_iff (i := 18) (by decide)).mp (by rw [← hw.1, hk]; rfl)
    rw [this]
    rfl
  have hs := tS_p (b := b) hn hp
  have hst := (tN_p (b := b) hn hp).2.2 (by omega)
  refine ⟨by omega, ?_, Or.inr g3⟩
  rcases h3 with q | q
  · omega
  · rcases g4 with e | e
    · refine absurd ⟨by omega, ?_⟩ q
      rw [← e]
      exact g2
    · have : tS b n p ≠ p := fun e' => q ⟨by omega, by rw [← e']; exact g2⟩
      omega
theorem val_r : ∀ (L : List Int), (∀ x ∈ L, 48 ≤ x ∧ x ≤ 57) → 0 ≤ val L ∧ val L < 10 ^ L.length := by
  intro L
  have key : ∀ M : List Int, (∀ x ∈ M, 48 ≤ x ∧ x ≤ 57) → 0 ≤ val M.reverse ∧ val M.reverse < 10 ^ M.length := by
    intro M
    induction M with
    | nil => intro _; exact ⟨by decide, by decide⟩
    | cons x M ih =>
      intro hM
      have i := ih (fun z hz => hM z (by simp [hz]))
      have hx := hM x (by simp)
      rw [List.reverse_cons, val_snoc, List.length_cons, Int.pow_succ]
      omega
  intro h
  have := key L.reverse (fun x hx => h x (List.mem_reverse.mp hx))
  rw [List.reverse_reverse, List.length_reverse] at this
  exact this
theorem tV_r {b : Nat → Int} {n p : Nat} (hn : n ≤ 1600) (hp : p ≤ n) (hk : tK b n p = 201) : 0 ≤ tV b n p ∧ tV b n p ≤ 9999 := by
  have hs := tS_p (b := b) hn hp
  have h1 : ¬ n ≤ tS b n p := by
    intro q
    have : tK b n p = 203 := by
      unfold tK
      rw [if_pos q]
    omega
  obtain ⟨r1, r2, r3, r4⟩ := rn_p (c := dgt) (b := b) (n := n) 1601 (tS b n p) (by omega)
  have h4 : tD b n p - tS b n p ≤ 4 := by
    refine Classical.byContradiction (fun q => ?_)
    unfold tK at hk
    rw [if_neg h1] at hk
    by_cases h2 : ltr (b (tS b n p)) = true
    · rw [if_pos h2] at hk
      have := kwd_r (tL b n p)
      split at hk <;> omega
    · rw [if_neg h2] at hk
      by_cases h3 : dgt (b (tS b n p)) = true
      · rw [if_pos h3, if_pos (Or.inl (by omega))] at hk
        omega
      · rw [if_neg h3] at hk
        by_cases h5 : sgn (b (tS b n p)) = true
        · rw [if_pos h5] at hk
          have := sgn_i.mp h5
          omega
        · rw [if_neg h5] at hk
          omega
  have hv := val_r (cut b (tS b n p) (tD b n p)) (fun x hx => by
    obtain ⟨k, k1, k2, rfl⟩ := cut_mem hx
    exact dgt_i.mp (r3 k k1 k2).2)
  rw [cut_len] at hv
  have hpow : (10 : Int) ^ (tD b n p - tS b n p) ≤ 10000 := by
    have h5 : tD b n p - tS b n p = 0 ∨ tD b n p - tS b n p = 1 ∨ tD b n p - tS b n p = 2 ∨ tD b n p - tS b n p = 3 ∨ tD b n p - tS b n p = 4 := by omega
    rcases h5 with e | e | e | e | e <;> rw [e] <;> decide
  refine ⟨hv.1, ?_⟩
  have : tV b n p < 10000 := Int.lt_of_lt_of_le hv.2 hpow
  omega
theorem ask_r (k : Int) : ask k ≤ 8 ∧ -1 ≤ ask k := by
  unfold ask
  repeat' split
  all_goals omega
theorem clo0_nil : ∀ {S : List Int} {C : List (Int × Int)}, ¬ (20 : Int) ∈ S → (clo 0 S C).1 = []
  | [], _, _ => rfl
  | o :: S, C, h => by
    rw [clo, if_pos ⟨fun e => h (by simp [e]), by have := tgt_r o; omega⟩]
    exact clo0_nil (fun q => h (by simp [q]))
theorem sig_sg {k : Int} (h : sig k ≠ 0) : sgO (sig k) := by
  unfold sig at h ⊢
  unfold sgO
  by_cases h1 : k = 145
  · rw [if_pos h1]
    omega
  · rw [if_neg h1] at h ⊢
    by_cases h2 : k = 144
    · rw [if_pos h2]
      omega
    · rw [if_neg h2] at h ⊢
      by_cases h3 : k = 60 ∨ k = 62 ∨ k = 61 ∨ k = 43 ∨ k = 45 ∨ k = 42 ∨ k = 47 ∨ k = 37
      · rw [if_pos h3]
        omega
      · rw [if_neg h3] at h
        exact absurd rfl h
theorem FSI_step {b : Nat → Int} {n p0 : Nat} {w0 : Int} {s s' : FS} (hn : n ≤ 1600) (h : FSI b n p0 w0 s) (hs : sy b n s = .inl s') : FSI b n p0 w0 s' := by
  obtain ⟨m, p, S, C, u, w⟩ := s
  obtain ⟨h1, h2, h3, h4, h5, h6, h7⟩ := h
  simp only at h1 h2 h3 h4 h5 h6 h7
  have ht := tN_p (b := b) hn h1
  cases m with
  | true =>
    rw [if_pos rfl] at h7
    have hs' : syB b n p S C u w = .inl s' := hs
    unfold syB at hs'
    by_cases c1 : tK b n p = 146 ∧ mno S = true
    · rw [if_pos c1] at hs'
      by_cases c2 : 6 < dps S
      · rw [if_pos c2] at hs'
        exact absurd hs' (by simp)
      · rw [if_neg c2] at hs'
        have e := Sum.inl.inj hs'
        subst e
        have hb : bin (21 :: S) = bin S := by rw [bin, if_pos (Or.inr rfl)]
        have h21 : n21 (21 :: S) = n21 S + 1 := by rw [n21, if_pos rfl]
        refine ⟨ht.2.1, ?_, h3, h4, h5, h6, ?_⟩
        · show NP b n p0 (tNx b n p) (nNo C + n21 (21 :: S))
          rw [h21, ← Nat.add_assoc]
          exact NP_not hn h1 c1.1 h2
        · show if true = true then CIb (21 :: S) C else _
          rw [if_pos rfl]
          refine ⟨h7.1, fun o ho => ?_, by rw [hb]; exact h7.2.2.1, by rw [hb]; exact h7.2.2.2⟩
          rcases List.mem_cons.mp ho with e | e
          · exact Or.inr (Or.inl e)
          · exact h7.2.1 o e
    · rw [if_neg c1] at hs'
      by_cases c2 : tK b n p = 40
      · rw [if_pos c2] at hs'
        have hlt := (ht.2.2 (by omega)).1
        by_cases c3 : (w = 90 ∨ u = 30) ∨ 6 < dps S
        · rw [if_pos c3] at hs'
          exact absurd hs' (by simp)
        · rw [if_neg c3] at hs'
          have e := Sum.inl.inj hs'
          subst e
          have hb : bin (20 :: S) = bin S := by rw [bin, if_pos (Or.inl rfl)]
          have h21 : n21 (20 :: S) = n21 S := by rw [n21, if_neg (by decide)]
          refine ⟨ht.2.1, ?_, ?_, ?_, ?_, ?_, ?_⟩
          · show NP b n p0 (tNx b n p) (nNo C + n21 (20 :: S))
            rw [h21]
            exact NP_up h2 hlt
          · show (nPu C : Int) ≤ u + 1
            omega
          · show w + 1 = w0 + (u + 1)
            omega
          · show 0 ≤ u + 1
            omega
          · show u + 1 ≤ 30
            omega
          · show if true = true then CIb (20 :: S) C else _
            rw [if_pos rfl]
            refine ⟨h7.1, fun o ho => ?_, by rw [hb]; exact h7.2.2.1, by rw [hb]; exact h7.2.2.2⟩
            rcases List.mem_cons.mp ho with e | e
            · exact Or.inl e
            · exact h7.2.1 o e
      · rw [if_neg c2] at hs'
        by_cases c3 : (tK b n p ≠ 201 ∧ ask (tK b n p) < 0) ∨ (w = 90 ∨ u = 30)
        · rw [if_pos c3] at hs'
          exact absurd hs' (by simp)
        · rw [if_neg c3] at hs'
          have e := Sum.inl.inj hs'
          subst e
          have hne : tK b n p ≠ 203 := fun q => c3 (Or.inl ⟨by omega, by rw [q]; decide⟩)
          have hlt := (ht.2.2 hne).1
          obtain ⟨c, hc⟩ : ∃ c : Int × Int, c = (if ask (tK b n p) < 0 then (0, tV b n p) else (1, ask (tK b n p))) := ⟨_, rfl⟩
          rw [← hc]
          have hc1 : c.1 ≤ 1 ∧ c.1 ≠ 2 ∧ cOK c := by
            rw [hc]
            by_cases ha : ask (tK b n p) < 0
            · rw [if_pos ha]
              have k201 : tK b n p = 201 := Classical.byContradiction (fun q => c3 (Or.inl ⟨q, ha⟩))
              have hv := tV_r hn h1 k201
              exact ⟨by show (0 : Int) ≤ 1; decide, by show (0 : Int) ≠ 2; decide, Or.inl ⟨rfl, hv.1, hv.2⟩⟩
            · rw [if_neg ha]
              have har := ask_r (tK b n p)
              exact ⟨by show (1 : Int) ≤ 1; decide, by show (1 : Int) ≠ 2; decide, Or.inr (Or.inl ⟨rfl, by show 0 ≤ ask (tK b n p); omega, har.1⟩)⟩
          obtain ⟨k1, k2, k3⟩ := hc1
          refine ⟨ht.2.1, ?_, ?_, ?_, ?_, ?_, ?_⟩
          · show NP b n p0 (tNx b n p) (nNo (C ++ [c]) + n21 S)
            rw [nNo_snoc, if_neg k2, Nat.add_zero]
            exact NP_up h2 hlt
          · show (nPu (C ++ [c]) : Int) ≤ u + 1
            rw [nPu_snoc, if_pos k1]
            omega
          · show w + 1 = w0 + (u + 1)
            omega
          · show 0 ≤ u + 1
            omega
          · show u + 1 ≤ 30
            omega
          · show if false = true then _ else ∃ d, CI d S (C ++ [c])
            rw [if_neg (by decide)]
            refine ⟨bin S + 1, fun x hx => ?_, h7.2.1, ?_, rfl, ?_⟩
            · rcases List.mem_append.mp hx with q | q
              · exact h7.1 x q
              · rw [List.mem_singleton] at q
                subst q
                exact k3
            · rw [dep_snoc, h7.2.2.1]
              show (if c.1 ≤ 1 then some (bin S + 1) else _) = _
              rw [if_pos k1]
            · rw [List.length_append, nPu_snoc, nNo_snoc, if_pos k1, if_neg k2, List.length_singleton]
              have := h7.2.2.2
              omega
  | false =>
    rw [if_neg (by decide)] at h7
    obtain ⟨d, h7⟩ := h7
    have hs' : syA b n p S C u w = .inl s' := hs
    unfold syA at hs'
    by_cases c1 : tK b n p = 41 ∧ 20 ∈ S
    · rw [if_pos c1] at hs'
      have hlt := (ht.2.2 (by omega)).1
      have e := Sum.inl.inj hs'
      subst e
      obtain ⟨d', k1, k2, k3⟩ := CI_clo 0 S C d h7
      obtain ⟨T, hT⟩ := clo0_br (S := S) (C := C) c1.2
      rw [hT] at k1 k3
      have hb : bin (20 :: T) = bin T := by rw [bin, if_pos (Or.inl rfl)]
      have h21 : n21 (20 :: T) = n21 T := by rw [n21, if_neg (by decide)]
      rw [h21] at k3
      rw [hT]
      refine ⟨ht.2.1, ?_, ?_, h4, h5, h6, ?_⟩
      · show NP b n p0 (tNx b n p) (nNo (clo 0 S C).2 + n21 T)
        rw [k3]
        exact NP_up h2 hlt
      · show (nPu (clo 0 S C).2 : Int) ≤ u
        rw [k2]
        exact h3
      · show if false = true then _ else ∃ d, CI d T (clo 0 S C).2
        rw [if_neg (by decide)]
        exact ⟨d', k1.1, fun o ho => k1.2.1 o (by simp [ho]), k1.2.2.1, by rw [← hb]; exact k1.2.2.2.1, k1.2.2.2.2⟩
    · rw [if_neg c1] at hs'
      by_cases c2 : sig (tK b n p) ≠ 0 ∧ ¬ (tgt (sig (tK b n p)) = 4 ∧ hrl S = true)
      · rw [if_pos c2] at hs'
        have hsn := sig_n c2.1
        have hlt := (ht.2.2 hsn.2.2).1
        have e := Sum.inl.inj hs'
        subst e
        obtain ⟨d', k1, k2, k3⟩ := CI_clo (tgt (sig (tK b n p))) S C d h7
        have hsg := sig_sg c2.1
        have hne := sgO_n hsg
        have hb : ∀ T, bin (sig (tK b n p) :: T) = bin T + 1 := fun T => by rw [bin, if_neg (fun q => q.elim hne.1 hne.2)]
        have h21 : ∀ T, n21 (sig (tK b n p) :: T) = n21 T := fun T => by rw [n21, if_neg hne.2]
        refine ⟨ht.2.1, ?_, ?_, h4, h5, h6, ?_⟩
        · show NP b n p0 (tNx b n p) (nNo (clo (tgt (sig (tK b n p))) S C).2 + n21 (sig (tK b n p) :: (clo (tgt (sig (tK b n p))) S C).1))
          rw [h21, k3]
          exact NP_up h2 hlt
        · show (nPu (clo (tgt (sig (tK b n p))) S C).2 : Int) ≤ u
          rw [k2]
          exact h3
        · show if true = true then CIb (sig (tK b n p) :: (clo (tgt (sig (tK b n p))) S C).1) (clo (tgt (sig (tK b n p))) S C).2 else _
          rw [if_pos rfl]
          refine ⟨k1.1, fun o ho => ?_, ?_, ?_⟩
          · rcases List.mem_cons.mp ho with e | e
            · subst e
              exact Or.inr (Or.inr hsg)
            · exact k1.2.1 o e
          · rw [hb, ← k1.2.2.2.1]
            exact k1.2.2.1
          · rw [hb, ← k1.2.2.2.1]
            exact k1.2.2.2.2
      · rw [if_neg c2] at hs'
        by_cases c3 : (20 : Int) ∈ S
        · rw [if_pos c3] at hs'
          exact absurd hs' (by simp)
        · rw [if_neg c3] at hs'
          exact absurd hs' (by simp)
/-- a formula's code: its pieces, one value at its end, its length -/
def FEnd (p0 p' : Nat) (w0 : Int) (C : List (Int × Int)) (u w : Int) : Prop := (∀ c ∈ C, cOK c) ∧ dep C = some 1 ∧ C.length + 1 = 2 * nPu C + nNo C ∧ (nPu C : Int) ≤ u ∧ 0 ≤ u ∧ u ≤ 30 ∧ w = w0 + u ∧ p0 ≤ p' ∧ 4 * nNo C ≤ p' - p0 + 1
theorem FSI_end {b : Nat → Int} {n p0 p' : Nat} {w0 u w : Int} {C : List (Int × Int)} {s : FS} (h : FSI b n p0 w0 s) (hs : sy b n s = .inr (.inr (p', C, u, w))) : FEnd p0 p' w0 C u w := by
  obtain ⟨m, p, S, C0, u0, w0'⟩ := s
  obtain ⟨h1, h2, h3, h4, h5, h6, h7⟩ := h
  simp only at h1 h2 h3 h4 h5 h6 h7
  cases m with
  | true =>
    have hs' : syB b n p S C0 u0 w0' = .inr (.inr (p', C, u, w)) := hs
    unfold syB at hs'
    split at hs'
    · split at hs' <;> exact absurd hs' (by simp)
    · split at hs'
      · split at hs' <;> exact absurd hs' (by simp)
      · split at hs' <;> exact absurd hs' (by simp)
  | false =>
    rw [if_neg (by decide)] at h7
    obtain ⟨d, h7⟩ := h7
    have hs' : syA b n p S C0 u0 w0' = .inr (.inr (p', C, u, w)) := hs
    unfold syA at hs'
    by_cases c1 : tK b n p = 41 ∧ 20 ∈ S
    · rw [if_pos c1] at hs'
      exact absurd hs' (by simp)
    · rw [if_neg c1] at hs'
      by_cases c2 : sig (tK b n p) ≠ 0 ∧ ¬ (tgt (sig (tK b n p)) = 4 ∧ hrl S = true)
      · rw [if_pos c2] at hs'
        exact absurd hs' (by simp)
      · rw [if_neg c2] at hs'
        by_cases c3 : (20 : Int) ∈ S
        · rw [if_pos c3] at hs'
          exact absurd hs' (by simp)
        · rw [if_neg c3] at hs'
          have e := Sum.inr.inj (Sum.inr.inj hs')
          obtain ⟨rfl, e2⟩ := Prod.mk.inj e
          obtain ⟨rfl, e3⟩ := Prod.mk.inj e2
          obtain ⟨rfl, rfl⟩ := Prod.mk.inj e3
          obtain ⟨d', k1, k2, k3⟩ := CI_clo 0 S C0 d h7
          rw [clo0_nil c3] at k1 k3
          have hd : d' = 1 := k1.2.2.2.1
          subst hd
          have hz : n21 [] = 0 := rfl
          rw [hz, Nat.add_zero] at k3
          refine ⟨k1.1, k1.2.2.1, k1.2.2.2.2, ?_, h5, h6, h4, h2.1, ?_⟩
          · rw [k2]
            exact h3
          · have := h2.2.1
            omega
theorem Ev_ok {b : Nat → Int} {n p p' : Nat} {w u w' : Int} {C : List (Int × Int)} (hn : n ≤ 1600) (hp : p ≤ n) (h : Ev b n (true, p, [], [], 0, w) (.inr (p', C, u, w'))) : FEnd p p' w C u w' := by
  obtain ⟨k, hk⟩ := h
  have key : ∀ (k : Nat) (s : FS), FSI b n p w s → itn b n k s = some (.inr (p', C, u, w')) → FEnd p p' w C u w' := by
    intro k
    induction k with
    | zero => intro s _ h1; exact absurd h1 (by simp [itn])
    | succ k ih =>
      intro s hs h1
      rw [itn] at h1
      cases e : sy b n s with
      | inr o =>
        rw [e] at h1
        have := Option.some.inj h1
        subst this
        exact FSI_end hs e
      | inl s' =>
        rw [e] at h1
        exact ih s' (FSI_step hn hs e) h1
  refine key k (true, p, [], [], 0, w) ⟨hp, ⟨Nat.le_refl p, Nat.zero_le _, Or.inl (Nat.zero_le _)⟩, by show ((0 : Nat) : Int) ≤ 0; decide, by show w = w + 0; omega, by show (0 : Int) ≤ 0; decide, by show (0 : Int) ≤ 30; decide, ?_⟩ hk
  show if true = true then CIb [] [] else _
  rw [if_pos rfl]
  exact ⟨fun c hc => absurd hc (by simp), fun o ho => absurd ho (by simp), rfl, rfl⟩

/-! values -/
def don (o : Int) (x y : Int32) : Int32 := if o = 43 then x + y else if o = 45 then x - y else if o = 42 then x * y else if o = 47 then (if y.toInt = 0 then 0 else x / y) else if o = 37 then (if y.toInt = 0 then 0 else x - x / y * y) else if o = 60 then (if x.toInt < y.toInt then 1 else 0) else if o = 62 then (if y.toInt < x.toInt then 1 else 0) else if o = 61 then (if x.toInt = y.toInt then 1 else 0) else if o = 38 then (if x.toInt = 0 then 0 else if y.toInt = 0 then 0 else 1) else (if x.toInt = 0 then (if y.toInt = 0 then 0 else 1) else 1)
theorem don_124 (x y : Int32) : don 124 x y = (if x.toInt = 0 then (if y.toInt = 0 then 0 else 1) else 1) := by rw [don, if_neg (by decide), if_neg (by decide), if_neg (by decide), if_neg (by decide), if_neg (by decide), if_neg (by decide), if_neg (by decide), if_neg (by decide), if_neg (by decide)]
theorem don_38 (x y : Int32) : don 38 x y = (if x.toInt = 0 then 0 else if y.toInt = 0 then 0 else 1) := by rw [don, if_neg (by decide), if_neg (by decide), if_neg (by decide), if_neg (by decide), if_neg (by decide), if_neg (by decide), if_neg (by decide), if_neg (by decide), if_pos rfl]
theorem don_60 (x y : Int32) : don 60 x y = (if x.toInt < y.toInt then 1 else 0) := by rw [don, if_neg (by decide), if_neg (by decide), if_neg (by decide), if_neg (by decide), if_neg (by decide), if_pos rfl]
theorem don_62 (x y : Int32) : don 62 x y = (if y.toInt < x.toInt then 1 else 0) := by rw [don, if_neg (by decide), if_neg (by decide), if_neg (by decide), if_neg (by decide), if_neg (by decide), if_neg (by decide), if_pos rfl]
theorem don_61 (x y : Int32) : don 61 x y = (if x.toInt = y.toInt then 1 else 0) := by rw [don, if_neg (by decide), if_neg (by decide), if_neg (by decide), if_neg (by decide), if_neg (by decide), if_neg (by decide), if_neg (by decide), if_pos rfl]
theorem don_43 (x y : Int32) : don 43 x y = (x + y) := by rw [don, if_pos rfl]
theorem don_45 (x y : Int32) : don 45 x y = (x - y) := by rw [don, if_neg (by decide), if_pos rfl]
theorem don_42 (x y : Int32) : don 42 x y = (x * y) := by rw [don, if_neg (by decide), if_neg (by decide), if_pos rfl]
theorem don_47 (x y : Int32) : don 47 x y = (if y.toInt = 0 then 0 else x / y) := by rw [don, if_neg (by decide), if_neg (by decide), if_neg (by decide), if_pos rfl]
theorem don_37 (x y : Int32) : don 37 x y = (if y.toInt = 0 then 0 else x - x / y * y) := by rw [don, if_neg (by decide), if_neg (by decide), if_neg (by decide), if_neg (by decide), if_pos rfl]
theorem k_join_eq {p0 p1 p2 r : Int32} {G G1 : GS} {o : Int} (h : P_lJoin p0 p1 p2 G r G1) (ho : sgO o) (hk : p0.toInt = ekk (3, o)) : G = G1 ∧ r = don o p1 p2 := by
  obtain ⟨-, hF, hh⟩ := h
  refine ⟨hF.nil, ?_⟩
  rcases ho with rfl | rfl | rfl | rfl | rfl | rfl | rfl | rfl | rfl | rfl
  · replace hk : p0.toInt = 144 := hk
    rcases hh with ⟨c, -⟩ | ⟨-, hh⟩
    · exact absurd (hk.symm.trans c) (by decide)
    rcases hh with ⟨c, -⟩ | ⟨-, hh⟩
    · exact absurd (hk.symm.trans c) (by decide)
    rcases hh with ⟨c, -⟩ | ⟨-, hh⟩
    · exact absurd (hk.symm.trans c) (by decide)
    rcases hh with ⟨c, -⟩ | ⟨-, hh⟩
    · exact absurd (hk.symm.trans c) (by decide)
    rcases hh with ⟨c, -⟩ | ⟨-, hh⟩
    · exact absurd (hk.symm.trans c) (by decide)
    rcases hh with ⟨c, -⟩ | ⟨-, hh⟩
    · exact absurd (hk.symm.trans c) (by decide)
    rcases hh with ⟨c, -⟩ | ⟨-, hh⟩
    · exact absurd (hk.symm.trans c) (by decide)
    rcases hh with ⟨-, hh⟩ | ⟨c, -⟩
    rotate_left
    · exact absurd hk c
    rcases hh with ⟨d, ⟨f, rfl, -⟩ | ⟨f, rfl, -⟩⟩ | ⟨d, rfl, -⟩
    · rw [don_124, if_pos d, if_pos f]
    · rw [don_124, if_pos d, if_neg f]
    · rw [don_124, if_neg d]
  · replace hk : p0.toInt = 145 := hk
    rcases hh with ⟨c, -⟩ | ⟨-, hh⟩
    · exact absurd (hk.symm.trans c) (by decide)
    rcases hh with ⟨c, -⟩ | ⟨-, hh⟩
    · exact absurd (hk.symm.trans c) (by decide)
    rcases hh with ⟨c, -⟩ | ⟨-, hh⟩
    · exact absurd (hk.symm.trans c) (by decide)
    rcases hh with ⟨c, -⟩ | ⟨-, hh⟩
    · exact absurd (hk.symm.trans c) (by decide)
    rcases hh with ⟨c, -⟩ | ⟨-, hh⟩
    · exact absurd (hk.symm.trans c) (by decide)
    rcases hh with ⟨c, -⟩ | ⟨-, hh⟩
    · exact absurd (hk.symm.trans c) (by decide)
    rcases hh with ⟨c, -⟩ | ⟨-, hh⟩
    · exact absurd (hk.symm.trans c) (by decide)
    rcases hh with ⟨c, -⟩ | ⟨-, hh⟩
    · exact absurd (hk.symm.trans c) (by decide)
    rcases hh with ⟨-, hh⟩ | ⟨c, -⟩
    rotate_left
    · exact absurd hk c
    rcases hh with ⟨d, rfl, -⟩ | ⟨d, ⟨f, rfl, -⟩ | ⟨f, rfl, -⟩⟩
    · rw [don_38, if_pos d]
    · rw [don_38, if_neg d, if_pos f]
    · rw [don_38, if_neg d, if_neg f]
  · replace hk : p0.toInt = 60 := hk
    rcases hh with ⟨c, -⟩ | ⟨-, hh⟩
    · exact absurd (hk.symm.trans c) (by decide)
    rcases hh with ⟨c, -⟩ | ⟨-, hh⟩
    · exact absurd (hk.symm.trans c) (by decide)
    rcases hh with ⟨c, -⟩ | ⟨-, hh⟩
    · exact absurd (hk.symm.trans c) (by decide)
    rcases hh with ⟨c, -⟩ | ⟨-, hh⟩
    · exact absurd (hk.symm.trans c) (by decide)
    rcases hh with ⟨-, hh⟩ | ⟨c, -⟩
    rotate_left
    · exact absurd hk c
    rcases hh with ⟨d, rfl, -⟩ | ⟨d, rfl, -⟩
    · rw [don_60, if_neg (by omega)]
    · rw [don_60, if_pos d]
  · replace hk : p0.toInt = 62 := hk
    rcases hh with ⟨c, -⟩ | ⟨-, hh⟩
    · exact absurd (hk.symm.trans c) (by decide)
    rcases hh with ⟨c, -⟩ | ⟨-, hh⟩
    · exact absurd (hk.symm.trans c) (by decide)
    rcases hh with ⟨c, -⟩ | ⟨-, hh⟩
    · exact absurd (hk.symm.trans c) (by decide)
    rcases hh with ⟨c, -⟩ | ⟨-, hh⟩
    · exact absurd (hk.symm.trans c) (by decide)
    rcases hh with ⟨c, -⟩ | ⟨-, hh⟩
    · exact absurd (hk.symm.trans c) (by decide)
    rcases hh with ⟨c, -⟩ | ⟨-, hh⟩
    · exact absurd (hk.symm.trans c) (by decide)
    rcases hh with ⟨-, hh⟩ | ⟨c, -⟩
    rotate_left
    · exact absurd hk c
    rcases hh with ⟨d, rfl, -⟩ | ⟨d, rfl, -⟩
    · rw [don_62, if_neg (by omega)]
    · rw [don_62, if_pos d]
  · replace hk : p0.toInt = 61 := hk
    rcases hh with ⟨c, -⟩ | ⟨-, hh⟩
    · exact absurd (hk.symm.trans c) (by decide)
    rcases hh with ⟨c, -⟩ | ⟨-, hh⟩
    · exact absurd (hk.symm.trans c) (by decide)
    rcases hh with ⟨c, -⟩ | ⟨-, hh⟩
    · exact absurd (hk.symm.trans c) (by decide)
    rcases hh with ⟨c, -⟩ | ⟨-, hh⟩
    · exact absurd (hk.symm.trans c) (by decide)
    rcases hh with ⟨c, -⟩ | ⟨-, hh⟩
    · exact absurd (hk.symm.trans c) (by decide)
    rcases hh with ⟨-, hh⟩ | ⟨c, -⟩
    rotate_left
    · exact absurd hk c
    rcases hh with ⟨d, rfl, -⟩ | ⟨d, rfl, -⟩
    · rw [don_61, if_pos d]
    · rw [don_61, if_neg d]
  · replace hk : p0.toInt = 43 := hk
    rcases hh with ⟨c, -⟩ | ⟨-, hh⟩
    · exact absurd (hk.symm.trans c) (by decide)
    rcases hh with ⟨-, hh⟩ | ⟨c, -⟩
    rotate_left
    · exact absurd hk c
    obtain ⟨y, e, rfl, -⟩ := hh
    rw [don_43]
    exact e
  · replace hk : p0.toInt = 45 := hk
    rcases hh with ⟨c, -⟩ | ⟨-, hh⟩
    · exact absurd (hk.symm.trans c) (by decide)
    rcases hh with ⟨c, -⟩ | ⟨-, hh⟩
    · exact absurd (hk.symm.trans c) (by decide)
    rcases hh with ⟨-, hh⟩ | ⟨c, -⟩
    rotate_left
    · exact absurd hk c
    obtain ⟨y, e, rfl, -⟩ := hh
    rw [don_45]
    exact e
  · replace hk : p0.toInt = 42 := hk
    rcases hh with ⟨-, hh⟩ | ⟨c, -⟩
    rotate_left
    · exact absurd hk c
    obtain ⟨y, e, rfl, -⟩ := hh
    rw [don_42]
    exact e
  · replace hk : p0.toInt = 47 := hk
    rcases hh with ⟨c, -⟩ | ⟨-, hh⟩
    · exact absurd (hk.symm.trans c) (by decide)
    rcases hh with ⟨c, -⟩ | ⟨-, hh⟩
    · exact absurd (hk.symm.trans c) (by decide)
    rcases hh with ⟨c, -⟩ | ⟨-, hh⟩
    · exact absurd (hk.symm.trans c) (by decide)
    rcases hh with ⟨-, hh⟩ | ⟨c, -⟩
    rotate_left
    · exact absurd hk c
    rcases hh with ⟨d, rfl, -⟩ | ⟨d, y, e, rfl, -⟩
    · rw [don_47, if_pos d]
    · rw [don_47, if_neg d]
      exact e
  · replace hk : p0.toInt = 37 := hk
    rcases hh with ⟨c, -⟩ | ⟨-, hh⟩
    · exact absurd (hk.symm.trans c) (by decide)
    rcases hh with ⟨c, -⟩ | ⟨-, hh⟩
    · exact absurd (hk.symm.trans c) (by decide)
    rcases hh with ⟨c, -⟩ | ⟨-, hh⟩
    · exact absurd (hk.symm.trans c) (by decide)
    rcases hh with ⟨c, -⟩ | ⟨-, hh⟩
    · exact absurd (hk.symm.trans c) (by decide)
    rcases hh with ⟨c, -⟩ | ⟨-, hh⟩
    · exact absurd (hk.symm.trans c) (by decide)
    rcases hh with ⟨c, -⟩ | ⟨-, hh⟩
    · exact absurd (hk.symm.trans c) (by decide)
    rcases hh with ⟨c, -⟩ | ⟨-, hh⟩
    · exact absurd (hk.symm.trans c) (by decide)
    rcases hh with ⟨c, -⟩ | ⟨-, hh⟩
    · exact absurd (hk.symm.trans c) (by decide)
    rcases hh with ⟨c, -⟩ | ⟨-, hh⟩
    · exact absurd (hk.symm.trans c) (by decide)
    rcases hh with ⟨d, rfl, -⟩ | ⟨d, y, e, rfl, -⟩
    · rw [don_37, if_pos d]
    · rw [don_37, if_neg d]
      exact e
theorem q_done_eq {p0 p1 p2 r : Int32} {G G1 : GS} {o : Int} (h : Q_done p0 p1 p2 G r G1) (ho : sgO o) (hk : p0.toInt = o) : G = G1 ∧ r = don o p1 p2 := by
  obtain ⟨-, hF, hh⟩ := h
  refine ⟨hF.nil, ?_⟩
  rcases ho with rfl | rfl | rfl | rfl | rfl | rfl | rfl | rfl | rfl | rfl
  · replace hk : p0.toInt = 124 := hk
    rcases hh with ⟨c, -⟩ | ⟨-, hh⟩
    · exact absurd (hk.symm.trans c) (by decide)
    rcases hh with ⟨c, -⟩ | ⟨-, hh⟩
    · exact absurd (hk.symm.trans c) (by decide)
    rcases hh with ⟨c, -⟩ | ⟨-, hh⟩
    · exact absurd (hk.symm.trans c) (by decide)
    rcases hh with ⟨c, -⟩ | ⟨-, hh⟩
    · exact absurd (hk.symm.trans c) (by decide)
    rcases hh with ⟨c, -⟩ | ⟨-, hh⟩
    · exact absurd (hk.symm.trans c) (by decide)
    rcases hh with ⟨c, -⟩ | ⟨-, hh⟩
    · exact absurd (hk.symm.trans c) (by decide)
    rcases hh with ⟨c, -⟩ | ⟨-, hh⟩
    · exact absurd (hk.symm.trans c) (by decide)
    rcases hh with ⟨c, -⟩ | ⟨-, hh⟩
    · exact absurd (hk.symm.trans c) (by decide)
    rcases hh with ⟨c, -⟩ | ⟨-, hh⟩
    · exact absurd (hk.symm.trans c) (by decide)
    rcases hh with ⟨c, -⟩ | ⟨-, hh⟩
    · exact absurd (hk.symm.trans c) (by decide)
    rcases hh with ⟨c, -⟩ | ⟨-, hh⟩
    · exact absurd (hk.symm.trans c) (by decide)
    rcases hh with ⟨c, -⟩ | ⟨-, hh⟩
    · exact absurd (hk.symm.trans c) (by decide)
    rcases hh with ⟨c, -⟩ | ⟨-, hh⟩
    · exact absurd (hk.symm.trans c) (by decide)
    rcases hh with ⟨c, -⟩ | ⟨-, hh⟩
    · exact absurd (hk.symm.trans c) (by decide)
    rcases hh with ⟨c, -⟩ | ⟨-, hh⟩
    · exact absurd (hk.symm.trans c) (by decide)
    rcases hh with ⟨c, -⟩ | ⟨-, hh⟩
    · exact absurd (hk.symm.trans c) (by decide)
    rcases hh with ⟨c, -⟩ | ⟨-, hh⟩
    · exact absurd (hk.symm.trans c) (by decide)
    rcases hh with ⟨c, -⟩ | ⟨-, hh⟩
    · exact absurd (hk.symm.trans c) (by decide)
    rcases hh with ⟨c, -⟩ | ⟨-, hh⟩
    · exact absurd (hk.symm.trans c) (by decide)
    rcases hh with ⟨c, -⟩ | ⟨-, hh⟩
    · exact absurd (hk.symm.trans c) (by decide)
    rcases hh with ⟨c, -⟩ | ⟨-, hh⟩
    · exact absurd (hk.symm.trans c) (by decide)
    rcases hh with ⟨c, -⟩ | ⟨-, hh⟩
    · exact absurd (hk.symm.trans c) (by decide)
    rcases hh with ⟨c, -⟩ | ⟨-, hh⟩
    · exact absurd (hk.symm.trans c) (by decide)
    rcases hh with ⟨c, -⟩ | ⟨-, hh⟩
    · exact absurd (hk.symm.trans c) (by decide)
    rcases hh with ⟨c, -⟩ | ⟨-, hh⟩
    · exact absurd (hk.symm.trans c) (by decide)
    rcases hh with ⟨c, -⟩ | ⟨-, hh⟩
    · exact absurd (hk.symm.trans c) (by decide)
    rcases hh with ⟨d, ⟨f, r7, G8, hq, rfl, -⟩ | ⟨f, r7, G8, hq, rfl, -⟩⟩ | ⟨d, r7, G8, hq, rfl, -⟩
    · rw [don_124, if_pos d, if_pos f]
      exact Int32.toInt_inj.mp (q_truth hq).2
    · rw [don_124, if_pos d, if_neg f]
      exact Int32.toInt_inj.mp (q_truth hq).2
    · rw [don_124, if_neg d]
      exact Int32.toInt_inj.mp (q_truth hq).2
  · replace hk : p0.toInt = 38 := hk
    rcases hh with ⟨c, -⟩ | ⟨-, hh⟩
    · exact absurd (hk.symm.trans c) (by decide)
    rcases hh with ⟨-, hh⟩ | ⟨c, -⟩
    rotate_left
    · exact absurd hk c
    rcases hh with ⟨d, r7, G8, hq, rfl, -⟩ | ⟨d, ⟨f, r7, G8, hq, rfl, -⟩ | ⟨f, r7, G8, hq, rfl, -⟩⟩
    · rw [don_38, if_pos d]
      exact Int32.toInt_inj.mp (q_truth hq).2
    · rw [don_38, if_neg d, if_pos f]
      exact Int32.toInt_inj.mp (q_truth hq).2
    · rw [don_38, if_neg d, if_neg f]
      exact Int32.toInt_inj.mp (q_truth hq).2
  · replace hk : p0.toInt = 60 := hk
    rcases hh with ⟨c, -⟩ | ⟨-, hh⟩
    · exact absurd (hk.symm.trans c) (by decide)
    rcases hh with ⟨c, -⟩ | ⟨-, hh⟩
    · exact absurd (hk.symm.trans c) (by decide)
    rcases hh with ⟨c, -⟩ | ⟨-, hh⟩
    · exact absurd (hk.symm.trans c) (by decide)
    rcases hh with ⟨c, -⟩ | ⟨-, hh⟩
    · exact absurd (hk.symm.trans c) (by decide)
    rcases hh with ⟨c, -⟩ | ⟨-, hh⟩
    · exact absurd (hk.symm.trans c) (by decide)
    rcases hh with ⟨c, -⟩ | ⟨-, hh⟩
    · exact absurd (hk.symm.trans c) (by decide)
    rcases hh with ⟨c, -⟩ | ⟨-, hh⟩
    · exact absurd (hk.symm.trans c) (by decide)
    rcases hh with ⟨c, -⟩ | ⟨-, hh⟩
    · exact absurd (hk.symm.trans c) (by decide)
    rcases hh with ⟨c, -⟩ | ⟨-, hh⟩
    · exact absurd (hk.symm.trans c) (by decide)
    rcases hh with ⟨c, -⟩ | ⟨-, hh⟩
    · exact absurd (hk.symm.trans c) (by decide)
    rcases hh with ⟨c, -⟩ | ⟨-, hh⟩
    · exact absurd (hk.symm.trans c) (by decide)
    rcases hh with ⟨c, -⟩ | ⟨-, hh⟩
    · exact absurd (hk.symm.trans c) (by decide)
    rcases hh with ⟨c, -⟩ | ⟨-, hh⟩
    · exact absurd (hk.symm.trans c) (by decide)
    rcases hh with ⟨c, -⟩ | ⟨-, hh⟩
    · exact absurd (hk.symm.trans c) (by decide)
    rcases hh with ⟨c, -⟩ | ⟨-, hh⟩
    · exact absurd (hk.symm.trans c) (by decide)
    rcases hh with ⟨c, -⟩ | ⟨-, hh⟩
    · exact absurd (hk.symm.trans c) (by decide)
    rcases hh with ⟨c, -⟩ | ⟨-, hh⟩
    · exact absurd (hk.symm.trans c) (by decide)
    rcases hh with ⟨c, -⟩ | ⟨-, hh⟩
    · exact absurd (hk.symm.trans c) (by decide)
    rcases hh with ⟨c, -⟩ | ⟨-, hh⟩
    · exact absurd (hk.symm.trans c) (by decide)
    rcases hh with ⟨c, -⟩ | ⟨-, hh⟩
    · exact absurd (hk.symm.trans c) (by decide)
    rcases hh with ⟨c, -⟩ | ⟨-, hh⟩
    · exact absurd (hk.symm.trans c) (by decide)
    rcases hh with ⟨c, -⟩ | ⟨-, hh⟩
    · exact absurd (hk.symm.trans c) (by decide)
    rcases hh with ⟨c, -⟩ | ⟨-, hh⟩
    · exact absurd (hk.symm.trans c) (by decide)
    rcases hh with ⟨-, hh⟩ | ⟨c, -⟩
    rotate_left
    · exact absurd hk c
    rcases hh with ⟨d, r7, G8, hq, rfl, -⟩ | ⟨d, r7, G8, hq, rfl, -⟩
    · rw [don_60, if_neg (by omega)]
      exact Int32.toInt_inj.mp (q_truth hq).2
    · rw [don_60, if_pos d]
      exact Int32.toInt_inj.mp (q_truth hq).2
  · replace hk : p0.toInt = 62 := hk
    rcases hh with ⟨c, -⟩ | ⟨-, hh⟩
    · exact absurd (hk.symm.trans c) (by decide)
    rcases hh with ⟨c, -⟩ | ⟨-, hh⟩
    · exact absurd (hk.symm.trans c) (by decide)
    rcases hh with ⟨c, -⟩ | ⟨-, hh⟩
    · exact absurd (hk.symm.trans c) (by decide)
    rcases hh with ⟨c, -⟩ | ⟨-, hh⟩
    · exact absurd (hk.symm.trans c) (by decide)
    rcases hh with ⟨c, -⟩ | ⟨-, hh⟩
    · exact absurd (hk.symm.trans c) (by decide)
    rcases hh with ⟨c, -⟩ | ⟨-, hh⟩
    · exact absurd (hk.symm.trans c) (by decide)
    rcases hh with ⟨c, -⟩ | ⟨-, hh⟩
    · exact absurd (hk.symm.trans c) (by decide)
    rcases hh with ⟨c, -⟩ | ⟨-, hh⟩
    · exact absurd (hk.symm.trans c) (by decide)
    rcases hh with ⟨c, -⟩ | ⟨-, hh⟩
    · exact absurd (hk.symm.trans c) (by decide)
    rcases hh with ⟨c, -⟩ | ⟨-, hh⟩
    · exact absurd (hk.symm.trans c) (by decide)
    rcases hh with ⟨c, -⟩ | ⟨-, hh⟩
    · exact absurd (hk.symm.trans c) (by decide)
    rcases hh with ⟨c, -⟩ | ⟨-, hh⟩
    · exact absurd (hk.symm.trans c) (by decide)
    rcases hh with ⟨c, -⟩ | ⟨-, hh⟩
    · exact absurd (hk.symm.trans c) (by decide)
    rcases hh with ⟨c, -⟩ | ⟨-, hh⟩
    · exact absurd (hk.symm.trans c) (by decide)
    rcases hh with ⟨c, -⟩ | ⟨-, hh⟩
    · exact absurd (hk.symm.trans c) (by decide)
    rcases hh with ⟨c, -⟩ | ⟨-, hh⟩
    · exact absurd (hk.symm.trans c) (by decide)
    rcases hh with ⟨c, -⟩ | ⟨-, hh⟩
    · exact absurd (hk.symm.trans c) (by decide)
    rcases hh with ⟨c, -⟩ | ⟨-, hh⟩
    · exact absurd (hk.symm.trans c) (by decide)
    rcases hh with ⟨c, -⟩ | ⟨-, hh⟩
    · exact absurd (hk.symm.trans c) (by decide)
    rcases hh with ⟨c, -⟩ | ⟨-, hh⟩
    · exact absurd (hk.symm.trans c) (by decide)
    rcases hh with ⟨c, -⟩ | ⟨-, hh⟩
    · exact absurd (hk.symm.trans c) (by decide)
    rcases hh with ⟨c, -⟩ | ⟨-, hh⟩
    · exact absurd (hk.symm.trans c) (by decide)
    rcases hh with ⟨c, -⟩ | ⟨-, hh⟩
    · exact absurd (hk.symm.trans c) (by decide)
    rcases hh with ⟨c, -⟩ | ⟨-, hh⟩
    · exact absurd (hk.symm.trans c) (by decide)
    rcases hh with ⟨c, -⟩ | ⟨-, hh⟩
    · exact absurd (hk.symm.trans c) (by decide)
    rcases hh with ⟨-, hh⟩ | ⟨c, -⟩
    rotate_left
    · exact absurd hk c
    rcases hh with ⟨d, r7, G8, hq, rfl, -⟩ | ⟨d, r7, G8, hq, rfl, -⟩
    · rw [don_62, if_neg (by omega)]
      exact Int32.toInt_inj.mp (q_truth hq).2
    · rw [don_62, if_pos d]
      exact Int32.toInt_inj.mp (q_truth hq).2
  · replace hk : p0.toInt = 61 := hk
    rcases hh with ⟨c, -⟩ | ⟨-, hh⟩
    · exact absurd (hk.symm.trans c) (by decide)
    rcases hh with ⟨c, -⟩ | ⟨-, hh⟩
    · exact absurd (hk.symm.trans c) (by decide)
    rcases hh with ⟨c, -⟩ | ⟨-, hh⟩
    · exact absurd (hk.symm.trans c) (by decide)
    rcases hh with ⟨c, -⟩ | ⟨-, hh⟩
    · exact absurd (hk.symm.trans c) (by decide)
    rcases hh with ⟨c, -⟩ | ⟨-, hh⟩
    · exact absurd (hk.symm.trans c) (by decide)
    rcases hh with ⟨c, -⟩ | ⟨-, hh⟩
    · exact absurd (hk.symm.trans c) (by decide)
    rcases hh with ⟨c, -⟩ | ⟨-, hh⟩
    · exact absurd (hk.symm.trans c) (by decide)
    rcases hh with ⟨c, -⟩ | ⟨-, hh⟩
    · exact absurd (hk.symm.trans c) (by decide)
    rcases hh with ⟨c, -⟩ | ⟨-, hh⟩
    · exact absurd (hk.symm.trans c) (by decide)
    rcases hh with ⟨c, -⟩ | ⟨-, hh⟩
    · exact absurd (hk.symm.trans c) (by decide)
    rcases hh with ⟨c, -⟩ | ⟨-, hh⟩
    · exact absurd (hk.symm.trans c) (by decide)
    rcases hh with ⟨c, -⟩ | ⟨-, hh⟩
    · exact absurd (hk.symm.trans c) (by decide)
    rcases hh with ⟨c, -⟩ | ⟨-, hh⟩
    · exact absurd (hk.symm.trans c) (by decide)
    rcases hh with ⟨c, -⟩ | ⟨-, hh⟩
    · exact absurd (hk.symm.trans c) (by decide)
    rcases hh with ⟨c, -⟩ | ⟨-, hh⟩
    · exact absurd (hk.symm.trans c) (by decide)
    rcases hh with ⟨c, -⟩ | ⟨-, hh⟩
    · exact absurd (hk.symm.trans c) (by decide)
    rcases hh with ⟨c, -⟩ | ⟨-, hh⟩
    · exact absurd (hk.symm.trans c) (by decide)
    rcases hh with ⟨c, -⟩ | ⟨-, hh⟩
    · exact absurd (hk.symm.trans c) (by decide)
    rcases hh with ⟨c, -⟩ | ⟨-, hh⟩
    · exact absurd (hk.symm.trans c) (by decide)
    rcases hh with ⟨c, -⟩ | ⟨-, hh⟩
    · exact absurd (hk.symm.trans c) (by decide)
    rcases hh with ⟨c, -⟩ | ⟨-, hh⟩
    · exact absurd (hk.symm.trans c) (by decide)
    rcases hh with ⟨c, -⟩ | ⟨-, hh⟩
    · exact absurd (hk.symm.trans c) (by decide)
    rcases hh with ⟨c, -⟩ | ⟨-, hh⟩
    · exact absurd (hk.symm.trans c) (by decide)
    rcases hh with ⟨c, -⟩ | ⟨-, hh⟩
    · exact absurd (hk.symm.trans c) (by decide)
    rcases hh with ⟨-, hh⟩ | ⟨c, -⟩
    rotate_left
    · exact absurd hk c
    rcases hh with ⟨d, r7, G8, hq, rfl, -⟩ | ⟨d, r7, G8, hq, rfl, -⟩
    · rw [don_61, if_pos d]
      exact Int32.toInt_inj.mp (q_truth hq).2
    · rw [don_61, if_neg d]
      exact Int32.toInt_inj.mp (q_truth hq).2
  · replace hk : p0.toInt = 43 := hk
    rcases hh with ⟨c, -⟩ | ⟨-, hh⟩
    · exact absurd (hk.symm.trans c) (by decide)
    rcases hh with ⟨c, -⟩ | ⟨-, hh⟩
    · exact absurd (hk.symm.trans c) (by decide)
    rcases hh with ⟨c, -⟩ | ⟨-, hh⟩
    · exact absurd (hk.symm.trans c) (by decide)
    rcases hh with ⟨c, -⟩ | ⟨-, hh⟩
    · exact absurd (hk.symm.trans c) (by decide)
    rcases hh with ⟨c, -⟩ | ⟨-, hh⟩
    · exact absurd (hk.symm.trans c) (by decide)
    rcases hh with ⟨c, -⟩ | ⟨-, hh⟩
    · exact absurd (hk.symm.trans c) (by decide)
    rcases hh with ⟨-, hh⟩ | ⟨c, -⟩
    rotate_left
    · exact absurd hk c
    obtain ⟨y, e, rfl, -⟩ := hh
    rw [don_43]
    exact e
  · replace hk : p0.toInt = 45 := hk
    rcases hh with ⟨c, -⟩ | ⟨-, hh⟩
    · exact absurd (hk.symm.trans c) (by decide)
    rcases hh with ⟨c, -⟩ | ⟨-, hh⟩
    · exact absurd (hk.symm.trans c) (by decide)
    rcases hh with ⟨c, -⟩ | ⟨-, hh⟩
    · exact absurd (hk.symm.trans c) (by decide)
    rcases hh with ⟨c, -⟩ | ⟨-, hh⟩
    · exact absurd (hk.symm.trans c) (by decide)
    rcases hh with ⟨c, -⟩ | ⟨-, hh⟩
    · exact absurd (hk.symm.trans c) (by decide)
    rcases hh with ⟨c, -⟩ | ⟨-, hh⟩
    · exact absurd (hk.symm.trans c) (by decide)
    rcases hh with ⟨c, -⟩ | ⟨-, hh⟩
    · exact absurd (hk.symm.trans c) (by decide)
    rcases hh with ⟨c, -⟩ | ⟨-, hh⟩
    · exact absurd (hk.symm.trans c) (by decide)
    rcases hh with ⟨-, hh⟩ | ⟨c, -⟩
    rotate_left
    · exact absurd hk c
    obtain ⟨y, e, rfl, -⟩ := hh
    rw [don_45]
    exact e
  · replace hk : p0.toInt = 42 := hk
    rcases hh with ⟨c, -⟩ | ⟨-, hh⟩
    · exact absurd (hk.symm.trans c) (by decide)
    rcases hh with ⟨c, -⟩ | ⟨-, hh⟩
    · exact absurd (hk.symm.trans c) (by decide)
    rcases hh with ⟨c, -⟩ | ⟨-, hh⟩
    · exact absurd (hk.symm.trans c) (by decide)
    rcases hh with ⟨c, -⟩ | ⟨-, hh⟩
    · exact absurd (hk.symm.trans c) (by decide)
    rcases hh with ⟨c, -⟩ | ⟨-, hh⟩
    · exact absurd (hk.symm.trans c) (by decide)
    rcases hh with ⟨-, hh⟩ | ⟨c, -⟩
    rotate_left
    · exact absurd hk c
    obtain ⟨y, e, rfl, -⟩ := hh
    rw [don_42]
    exact e
  · replace hk : p0.toInt = 47 := hk
    rcases hh with ⟨c, -⟩ | ⟨-, hh⟩
    · exact absurd (hk.symm.trans c) (by decide)
    rcases hh with ⟨c, -⟩ | ⟨-, hh⟩
    · exact absurd (hk.symm.trans c) (by decide)
    rcases hh with ⟨c, -⟩ | ⟨-, hh⟩
    · exact absurd (hk.symm.trans c) (by decide)
    rcases hh with ⟨c, -⟩ | ⟨-, hh⟩
    · exact absurd (hk.symm.trans c) (by decide)
    rcases hh with ⟨c, -⟩ | ⟨-, hh⟩
    · exact absurd (hk.symm.trans c) (by decide)
    rcases hh with ⟨c, -⟩ | ⟨-, hh⟩
    · exact absurd (hk.symm.trans c) (by decide)
    rcases hh with ⟨c, -⟩ | ⟨-, hh⟩
    · exact absurd (hk.symm.trans c) (by decide)
    rcases hh with ⟨c, -⟩ | ⟨-, hh⟩
    · exact absurd (hk.symm.trans c) (by decide)
    rcases hh with ⟨c, -⟩ | ⟨-, hh⟩
    · exact absurd (hk.symm.trans c) (by decide)
    rcases hh with ⟨c, -⟩ | ⟨-, hh⟩
    · exact absurd (hk.symm.trans c) (by decide)
    rcases hh with ⟨-, hh⟩ | ⟨c, -⟩
    rotate_left
    · exact absurd hk c
    rcases hh with ⟨d, rfl, -⟩ | ⟨d, y, e, rfl, -⟩
    · rw [don_47, if_pos d]
    · rw [don_47, if_neg d]
      exact e
  · replace hk : p0.toInt = 37 := hk
    rcases hh with ⟨-, hh⟩ | ⟨c, -⟩
    rotate_left
    · exact absurd hk c
    rcases hh with ⟨d, rfl, -⟩ | ⟨d, y, e, rfl, -⟩
    · rw [don_37, if_pos d]
    · rw [don_37, if_neg d]
      exact e

/-! formulas worked out -/
def icQ (x : IC) (day a : Int) : Int := if a = 0 then (if x.1 < 0 then 1 else 0) else if a ≤ 4 then (if x.1 < 0 then 0 else x.1 / 2 ^ (a - 1).toNat % 2) else if a = 5 then x.2.2.2 else if a = 6 then x.2.1 else if a = 7 then x.2.2.1 else day
def ev1 (x : IC) (day : Int32) (st : List Int32) (c : Int × Int) : List Int32 := if c.1 = 0 then Int32.ofInt c.2 :: st else if c.1 = 1 then Int32.ofInt (icQ x day.toInt c.2) :: st else if c.1 = 2 then (if (st.headD 0).toInt = 0 then 1 else 0) :: st.tail else don c.2 (st.tail.headD 0) (st.headD 0) :: st.tail.tail
def evl (x : IC) (day : Int32) (C : List (Int × Int)) : List Int32 := C.foldl (ev1 x day) []
theorem evl_take {x : IC} {day : Int32} {C : List (Int × Int)} {i : Nat} (h : i < C.length) : evl x day (C.take (i + 1)) = ev1 x day (evl x day (C.take i)) (C.getD i (0, 0)) := by
  have e : C.take (i + 1) = C.take i ++ [C.getD i (0, 0)] := by
    rw [List.take_succ, List.getD_eq_getElem?_getD, List.getElem?_eq_getElem h]
    rfl
  rw [e]
  simp [evl, List.foldl_append]
theorem dep_take1 {C : List (Int × Int)} {i : Nat} (h : i < C.length) : dep (C.take (i + 1)) = dst (dep (C.take i)) (C.getD i (0, 0)) := by
  have e : C.take (i + 1) = C.take i ++ [C.getD i (0, 0)] := by
    rw [List.take_succ, List.getD_eq_getElem?_getD, List.getElem?_eq_getElem h]
    rfl
  rw [e, dep_snoc]
theorem dst_none (C : List (Int × Int)) : C.foldl dst none = none := by
  induction C with
  | nil => rfl
  | cons c C ih => exact ih
theorem dep_some {C : List (Int × Int)} {d : Nat} (h : dep C = some d) (i : Nat) : ∃ k, dep (C.take i) = some k := by
  have e : C.take i ++ C.drop i = C := List.take_append_drop i C
  cases hk : dep (C.take i) with
  | some k => exact ⟨k, rfl⟩
  | none =>
    have h2 : dep C = none := by
      rw [← e]
      unfold dep at hk ⊢
      rw [List.foldl_append, hk, dst_none]
    rw [h2] at h
    exact absurd h (by simp)
theorem nPu_le {C : List (Int × Int)} (i : Nat) : nPu (C.take i) ≤ nPu C := by
  have e : C.take i ++ C.drop i = C := List.take_append_drop i C
  have h : nPu C = nPu (C.take i) + nPu (C.drop i) := by
    conv => lhs; rw [← e]
    unfold nPu
    rw [List.filter_append, List.length_append]
  omega
/-- so many values stand as the code says, and no more than it has pushes -/
theorem evl_len {x : IC} {day : Int32} {C : List (Int × Int)} {d : Nat} (h : dep C = some d) (hok : ∀ c ∈ C, cOK c) : ∀ i, i ≤ C.length → dep (C.take i) = some (evl x day (C.take i)).length ∧ (evl x day (C.take i)).length ≤ nPu (C.take i) := by
  intro i
  induction i with
  | zero => intro _; exact ⟨rfl, Nat.zero_le _⟩
  | succ i ih =>
    intro hi
    obtain ⟨h1, h2⟩ := ih (by omega)
    obtain ⟨k, hk⟩ := dep_some h (i + 1)
    have e1 := dep_take1 (C := C) (i := i) (by omega)
    have e2 := evl_take (x := x) (day := day) (C := C) (i := i) (by omega)
    have ep : nPu (C.take (i + 1)) = nPu (C.take i) + (if (C.getD i (0, 0)).1 ≤ 1 then 1 else 0) := by
      have e : C.take (i + 1) = C.take i ++ [C.getD i (0, 0)] := by
        rw [List.take_succ, List.getD_eq_getElem?_getD, List.getElem?_eq_getElem (by omega)]
        rfl
      rw [e, nPu_snoc]
    rw [h1, hk] at e1
    obtain ⟨st, hst⟩ : ∃ st, st = evl x day (C.take i) := ⟨_, rfl⟩
    obtain ⟨c, hc⟩ : ∃ c, c = C.getD i (0, 0) := ⟨_, rfl⟩
    rw [← hst] at h1 h2 e1 e2
    rw [← hc] at e1 e2 ep
    rw [hk, e2, ep]
    have e1' : some k = (if c.1 ≤ 1 then some (st.length + 1) else if c.1 = 2 then (if 1 ≤ st.length then some st.length else none) else (if 2 ≤ st.length then some (st.length - 1) else none)) := e1
    unfold ev1
    by_cases g1 : c.1 ≤ 1
    · rw [if_pos g1] at e1' ⊢
      by_cases g0 : c.1 = 0
      · rw [if_pos g0, e1', List.length_cons]
        exact ⟨rfl, by omega⟩
      · by_cases g11 : c.1 = 1
        · rw [if_neg g0, if_pos g11, e1', List.length_cons]
          exact ⟨rfl, by omega⟩
        · have hcm : c ∈ C := by
            rw [hc, List.getD_eq_getElem?_getD, List.getElem?_eq_getElem (by omega)]
            exact List.getElem_mem _
          have := hok c hcm
          unfold cOK at this
          omega
    · rw [if_neg g1] at e1' ⊢
      rw [if_neg (by omega), if_neg (by omega)]
      by_cases g2 : c.1 = 2
      · rw [if_pos g2] at e1' ⊢
        by_cases g3 : 1 ≤ st.length
        · rw [if_pos g3] at e1'
          rw [e1', List.length_cons, List.length_tail, show st.length - 1 + 1 = st.length by omega]
          exact ⟨rfl, by omega⟩
        · rw [if_neg g3] at e1'
          exact absurd e1' (by simp)
      · rw [if_neg g2] at e1' ⊢
        by_cases g3 : 2 ≤ st.length
        · rw [if_pos g3] at e1'
          rw [e1', List.length_cons, List.length_tail, List.length_tail, show st.length - 1 - 1 + 1 = st.length - 1 by omega]
          exact ⟨rfl, by omega⟩
        · rw [if_neg g3] at e1'
          exact absurd e1' (by simp)
theorem getD_memC {C : List (Int × Int)} {i : Nat} (h : i < C.length) : C.getD i (0, 0) ∈ C := by
  rw [List.getD_eq_getElem?_getD, List.getElem?_eq_getElem h]
  exact List.getElem_mem _
theorem ekk_r {c : Int × Int} (h : cOK c) : 0 ≤ ekk c ∧ ekk c < 1024 ∧ 0 ≤ ekv c ∧ ekv c ≤ 9999 ∧ (c.1 = 0 → ekk c = 201 ∧ ekv c = c.2) ∧ (c.1 = 1 → (c.2 ≤ 4 → ekk c = 139 + c.2) ∧ (5 ≤ c.2 → ekk c = 142 + c.2)) ∧ (c.1 = 2 → ekk c = 146) ∧ (c.1 = 3 → (ekk c = 144 ∨ ekk c = 145 ∨ ekk c < 128)) := by
  unfold cOK sgO at h
  rcases h with ⟨h1, h2, h3⟩ | ⟨h1, h2, h3⟩ | ⟨h1, h2⟩ | ⟨h1, h2⟩
  · have a : ekk c = 201 := by
      unfold ekk
      rw [if_pos h1]
    have b : ekv c = c.2 := by
      unfold ekv
      rw [if_pos h1]
    rw [a, b]
    omega
  · have b : ekv c = 0 := by
      unfold ekv
      rw [if_neg (show ¬ c.1 = 0 by omega)]
    by_cases h4 : c.2 ≤ 4
    · have a : ekk c = 139 + c.2 := by
        unfold ekk
        rw [if_neg (show ¬ c.1 = 0 by omega), if_pos h1, if_pos h4]
      rw [a, b]
      omega
    · have a : ekk c = 142 + c.2 := by
        unfold ekk
        rw [if_neg (show ¬ c.1 = 0 by omega), if_pos h1, if_neg h4]
      rw [a, b]
      omega
  · have b : ekv c = 0 := by
      unfold ekv
      rw [if_neg (show ¬ c.1 = 0 by omega)]
    have a : ekk c = 146 := by
      unfold ekk
      rw [if_neg (show ¬ c.1 = 0 by omega), if_neg (show ¬ c.1 = 1 by omega), if_pos h1]
    rw [a, b]
    omega
  · have b : ekv c = 0 := by
      unfold ekv
      rw [if_neg (show ¬ c.1 = 0 by omega)]
    have a0 : ekk c = (if c.2 = 124 then 144 else if c.2 = 38 then 145 else c.2) := by
      unfold ekk
      rw [if_neg (show ¬ c.1 = 0 by omega), if_neg (show ¬ c.1 = 1 by omega), if_neg (show ¬ c.1 = 2 by omega)]
    by_cases h4 : c.2 = 124
    · have a : ekk c = 144 := by rw [a0, if_pos h4]
      rw [a, b]
      omega
    · by_cases h5 : c.2 = 38
      · have a : ekk c = 145 := by rw [a0, if_neg h4, if_pos h5]
        rw [a, b]
        omega
      · have a : ekk c = c.2 := by rw [a0, if_neg h4, if_neg h5]
        rw [a, b]
        omega
theorem encd_i {c : Int × Int} (h : cOK c) {y : Int32} (hy : y = encd (ekk c) (ekv c)) : (y &&& 1023).toInt = ekk c ∧ (y >>> (10 &&& 31)).toInt = ekv c := by
  obtain ⟨h1, h2, h3, h4, -⟩ := ekk_r h
  have b1 := shl_i (kk := 10) (k := 10) (c := 1024) rfl rfl (oi_i h3 (by omega)) h3 (by omega)
  have c1 := or_i (k := 10) (c := 1024) rfl (oi_i h1 (by omega)) h1 (by omega) b1 h3 (by omega)
  have e : y.toInt = ekk c + ekv c * ((1024 : Nat) : Int) := by
    rw [hy]
    exact c1
  have q1 := and_i (m := 1023) (k := 10) (c := 1024) rfl rfl e (by omega)
  have q2 := shr_i (kk := 10) (k := 10) (c := 1024) rfl rfl e (by omega)
  rw [q1, q2]
  omega
/-- the program's values -/
def StkC (st : List Int32) (G : GS) : Prop := (G.1 6 3).toInt = (st.length : Int) ∧ ∀ i, i < st.length → G.1 39 (st.length - 1 - i) = st.getD i 0
theorem k_push_eq {st : List Int32} {v : Int32} {G G1 : GS} (h : P_lPush v G G1) (hS : StkC st G) (hl : st.length < 100) : StkC (v :: st) G1 := by
  obtain ⟨-, -, hh⟩ := h
  have h0 := hS.1
  rcases hh with ⟨c, -⟩ | ⟨c, y3, t3, hF, e3, e39⟩
  · omega
  · rw [cn_eq h0] at e39
    refine ⟨by rw [e3, List.length_cons]; omega, fun i hi => ?_⟩
    rw [List.length_cons] at hi ⊢
    rw [e39]
    cases i with
    | zero =>
      rw [show upd (G.1 39) st.length v (st.length + 1 - 1 - 0) = v from if_pos (by omega)]
      rfl
    | succ i =>
      rw [show upd (G.1 39) st.length v (st.length + 1 - 1 - (i + 1)) = G.1 39 (st.length + 1 - 1 - (i + 1)) from if_neg (by omega), show st.length + 1 - 1 - (i + 1) = st.length - 1 - i by omega, hS.2 i (by omega)]
      simp
theorem k_pop_eq {st : List Int32} {r : Int32} {G G1 : GS} (h : P_lPop G r G1) (hS : StkC st G) : r = st.headD 0 ∧ StkC st.tail G1 := by
  obtain ⟨-, -, hh⟩ := h
  have h0 := hS.1
  cases st with
  | nil =>
    have h0' : (G.1 6 3).toInt = 0 := h0
    rcases hh with ⟨-, rfl, rfl⟩ | ⟨c, -⟩
    · exact ⟨rfl, hS⟩
    · omega
  | cons v st =>
    rw [List.length_cons] at h0
    rcases hh with ⟨c, -⟩ | ⟨c, y3, t3, y5, e5, rfl, hF, e3⟩
    · omega
    · have h1 := hS.2 0 (by simp)
      rw [List.length_cons] at h1
      rw [cn_eq (x := y3) (e := st.length) (by omega)] at e5
      refine ⟨?_, by rw [e3]; show y3.toInt = _; rw [List.tail_cons]; omega, fun i hi => ?_⟩
      · rw [e5]
        simpa using h1
      · rw [List.tail_cons] at hi ⊢
        rw [hF.row1 39 (by decide) (by decide)]
        have h2 := hS.2 (i + 1) (by simp; omega)
        rw [List.length_cons, show st.length + 1 - 1 - (i + 1) = st.length - 1 - i by omega] at h2
        simpa using h2
theorem k_own_eq {x : IC} {day p0 p1 r : Int32} {G G1 : GS} {a : Int} (h : P_lOwn p0 p1 day G r G1) (hx : ICok x) (h1 : p1 = encI x) (ha0 : 0 ≤ a) (ha8 : a ≤ 8) (hk : (a ≤ 4 → p0.toInt = 139 + a) ∧ (5 ≤ a → p0.toInt = 142 + a)) : G = G1 ∧ r.toInt = icQ x day.toInt a := by
  obtain ⟨-, hF, hh⟩ := h
  refine ⟨hF.nil, ?_⟩
  obtain ⟨e1, e2⟩ := encI_i hx
  rw [← h1] at e1
  unfold icQ
  have t3 : (3 : Int32).toInt = 3 := rfl
  have t1 : (1 : Int32).toInt = 1 := rfl
  have t2 : (2 : Int32).toInt = 2 := rfl
  rcases hh with ⟨c, r2, G3, hp, rfl, -⟩ | ⟨c, ⟨d, r2, G3, hp, rfl, -⟩ | ⟨d, ⟨f, r2, G3, hp, rfl, -⟩ | ⟨f, ⟨g, rfl, -⟩ | ⟨g, y20, e20, y21, e21, y22, e22, rfl, -⟩⟩⟩⟩
  · rw [if_neg (by omega), if_neg (by omega), if_pos (by omega)]
    have := (k_part_eq hp hx h1).2
    rw [this, t3]
    rfl
  · rw [if_neg (by omega), if_neg (by omega), if_neg (by omega), if_pos (by omega)]
    have := (k_part_eq hp hx h1).2
    rw [this, t1]
    rfl
  · rw [if_neg (by omega), if_neg (by omega), if_neg (by omega), if_neg (by omega), if_pos (by omega)]
    have := (k_part_eq hp hx h1).2
    rw [this, t2]
    rfl
  · rw [if_neg (by omega), if_neg (by omega), if_neg (by omega), if_neg (by omega), if_neg (by omega)]
  · have ha : a ≤ 4 := by
      refine Classical.byContradiction (fun q => ?_)
      have := hk.2 (by omega)
      omega
    have h20 : y20.toInt = a := by
      have e139 : (139 : Int32).toInt = 139 := rfl
      have := tI_sub e20 (by rw [e139]; omega) (by rw [e139]; omega)
      rw [e139] at this
      have := hk.1 ha
      omega
    have bit : ∀ (k c : Nat) (hc : 2 ^ k = c), (p1 >>> (y20 &&& 31)).toBitVec = p1.toBitVec.sshiftRight k → y22.toInt = encV x / (c : Int) % 2 := by
      intro k c hc hsh
      have s1 := shr_i hsh hc e1 e2
      rw [e22, e21]
      exact and_i (m := 1) (k := 1) (c := 2) rfl rfl s1 (Int.ediv_nonneg e2 (by omega))
    obtain ⟨m, nth, i, l⟩ := x
    obtain ⟨g1, g2, g3, g4, g5, g6, g7, g8⟩ := hx
    simp only at g1 g2 g3 g4 g5 g6 g7 g8
    have eV : encV (m, nth, i, l) = (if m < 0 then 1 else 2 * m) + 32 * nth + 16384 * i + 1048576 * l := rfl
    have h5 : a = 0 ∨ a = 1 ∨ a = 2 ∨ a = 3 ∨ a = 4 := by omega
    rcases h5 with rfl | rfl | rfl | rfl | rfl
    · have ey : y20 = 0 := Int32.toInt_inj.mp (by rw [h20]; rfl)
      have := bit 0 1 rfl (by rw [ey]; rfl)
      rw [this, eV, if_pos rfl]
      show _ = (if m < 0 then 1 else 0)
      by_cases hm : m < 0
      · rw [if_pos hm, if_pos hm]
        omega
      · rw [if_neg hm, if_neg hm]
        omega
    · have ey : y20 = 1 := Int32.toInt_inj.mp (by rw [h20]; rfl)
      have := bit 1 2 rfl (by rw [ey]; rfl)
      rw [if_neg (show ¬ (1 : Int) = 0 by decide), if_pos (show (1 : Int) ≤ 4 by decide), this, eV]
      show _ = (if m < 0 then 0 else m / 1 % 2)
      by_cases hm : m < 0
      · rw [if_pos hm, if_pos hm]
        omega
      · rw [if_neg hm, if_neg hm]
        omega
    · have ey : y20 = 2 := Int32.toInt_inj.mp (by rw [h20]; rfl)
      have := bit 2 4 rfl (by rw [ey]; rfl)
      rw [if_neg (show ¬ (2 : Int) = 0 by decide), if_pos (show (2 : Int) ≤ 4 by decide), this, eV]
      show _ = (if m < 0 then 0 else m / 2 % 2)
      by_cases hm : m < 0
      · rw [if_pos hm, if_pos hm]
        omega
      · rw [if_neg hm, if_neg hm]
        omega
    · have ey : y20 = 3 := Int32.toInt_inj.mp (by rw [h20]; rfl)
      have := bit 3 8 rfl (by rw [ey]; rfl)
      rw [if_neg (show ¬ (3 : Int) = 0 by decide), if_pos (show (3 : Int) ≤ 4 by decide), this, eV]
      show _ = (if m < 0 then 0 else m / 4 % 2)
      by_cases hm : m < 0
      · rw [if_pos hm, if_pos hm]
        omega
      · rw [if_neg hm, if_neg hm]
        omega
    · have ey : y20 = 4 := Int32.toInt_inj.mp (by rw [h20]; rfl)
      have := bit 4 16 rfl (by rw [ey]; rfl)
      rw [if_neg (show ¬ (4 : Int) = 0 by decide), if_pos (show (4 : Int) ≤ 4 by decide), this, eV]
      show _ = (if m < 0 then 0 else m / 8 % 2)
      by_cases hm : m < 0
      · rw [if_pos hm, if_pos hm]
        omega
      · rw [if_neg hm, if_neg hm]
        omega

/-! the loops that work formulas out -/
def FOK (C : List (Int × Int)) : Prop := (∀ c ∈ C, cOK c) ∧ dep C = some 1 ∧ nPu C ≤ 30
theorem fcd_at {R : VR} : ∀ {k i : Nat}, k < R.length → i < (R.getD k ([], [])).2.length → (fcd R).getD ((fcd (R.take k)).length + i) (0, 0) = (R.getD k ([], [])).2.getD i (0, 0) := by
  induction R with
  | nil => intro k i h; exact absurd h (Nat.not_lt_zero k)
  | cons x R ih =>
    intro k i hk hi
    have e : fcd (x :: R) = x.2 ++ fcd R := by simp [fcd]
    cases k with
    | zero =>
      have hi' : i < x.2.length := by simpa using hi
      have e0 : (fcd (List.take 0 (x :: R))).length = 0 := rfl
      rw [e0, Nat.zero_add, e, getD_app, if_pos hi']
      simp
    | succ k =>
      have e1 : fcd (List.take (k + 1) (x :: R)) = x.2 ++ fcd (R.take k) := by simp [fcd]
      have hi' : i < (R.getD k ([], [])).2.length := by simpa using hi
      have hk' : k < R.length := by simpa using hk
      rw [e, e1, List.length_append, getD_app, if_neg (by omega), show x.2.length + (fcd (R.take k)).length + i - x.2.length = (fcd (R.take k)).length + i by omega, ih hk' hi']
      simp
theorem fcd_len {R : VR} {k : Nat} (h : k < R.length) : (fcd (R.take (k + 1))).length = (fcd (R.take k)).length + (R.getD k ([], [])).2.length := by
  have e : R.take (k + 1) = R.take k ++ [R.getD k ([], [])] := by
    rw [List.take_succ, List.getD_eq_getElem?_getD, List.getElem?_eq_getElem h]
    rfl
  rw [e, fcd_snoc, List.length_append]
theorem fcd_le {R : VR} (k : Nat) : (fcd (R.take k)).length ≤ (fcd R).length := by
  have e : R.take k ++ R.drop k = R := List.take_append_drop k R
  have h : fcd R = fcd (R.take k) ++ fcd (R.drop k) := by
    unfold fcd
    rw [← List.flatten_append, ← List.map_append, e]
  rw [h, List.length_append]
  omega
theorem cap_of {k : Nat} (h : k ≤ 580) : cap k = (k : Int) := by
  unfold cap
  rw [if_pos h]
theorem of_i {y : Int32} {v : Int} (h : y.toInt = v) : y = Int32.ofInt v := by rw [← h, Int32.ofInt_toInt]
theorem k_value_1 {R : VR} {x : IC} {day p0 p1 r : Int32} {G G1 : GS} {k : Nat} (h : P_lValue_1 p0 p1 day G r G1) (hk : p0.toInt = (k : Int)) (hkl : k < R.length) (hC : CodeC_1 0 (fcd R) G) (hE : EndC_1 R G) (h580 : (fcd R).length ≤ 580) (hx : ICok x) (h1 : p1 = encI x) (hw : FOK (R.getD k ([], [])).2) : r = (evl x day (R.getD k ([], [])).2).headD 0 := by
  obtain ⟨-, -, y2, e2, Ga, -, hFa, e63, x7, G3, hl, -, -, -, y11, t11, y12, e12, c12, r14, G15, hpop, rfl, rfl⟩ := h
  obtain ⟨C, hCC⟩ : ∃ C, C = (R.getD k ([], [])).2 := ⟨_, rfl⟩
  rw [← hCC] at hw ⊢
  obtain ⟨off, hoff⟩ : ∃ off, off = (fcd (R.take k)).length := ⟨_, rfl⟩
  obtain ⟨n1, n2⟩ := hE k hkl
  rw [fcd_len hkl, ← hCC, ← hoff] at n2
  rw [← hoff] at n1
  have hle := fcd_le (R := R) (k + 1)
  rw [fcd_len hkl, ← hCC, ← hoff] at hle
  rw [cap_of (by omega)] at n1 n2
  obtain ⟨w1, w2, w3⟩ := hw
  have hlen : ∀ i, i ≤ C.length → (evl x day (C.take i)).length ≤ 30 := fun i hi => by
    have a1 := (evl_len (x := x) (day := day) w2 w1 i hi).2
    have a2 := nPu_le (C := C) i
    omega
  have hI := hl (fun q => (q.2.1 17 = G.1 17 ∧ q.2.1 18 = G.1 18) ∧ ∃ i : Nat, q.1.toInt = ((off + i : Nat) : Int) ∧ i ≤ C.length ∧ StkC (evl x day (C.take i)) q.2) (by
    refine ⟨⟨hFa.row1 17 (by decide) (by decide), hFa.row1 18 (by decide) (by decide)⟩, 0, ?_, Nat.zero_le _, ?_⟩
    · show y2.toInt = _
      rw [e2, cn_eq hk]
      exact n1
    · exact ⟨by rw [e63]; rfl, fun i hi => absurd hi (Nat.not_lt_zero i)⟩) (by
    rintro ⟨x1, G_1⟩ ⟨xn, G_1n⟩ ⟨⟨i1, i2⟩, i, i3, i4, i5⟩ ⟨x1q, G_1q, xnq, G_1nq, q1, q2, -, -, z11, s11, z12, e12', c, y19, e19, y20, e20, hd⟩
    obtain ⟨rfl, rfl⟩ := Prod.mk.inj q1
    obtain ⟨rfl, rfl⟩ := Prod.mk.inj q2
    simp only at i1 i2 i3 i5
    rw [cn_eq (x := z11) (e := k + 1) (by clear hd; omega), i2] at e12'
    have hz : z12.toInt = ((off + C.length : Nat) : Int) := by rw [e12']; exact n2
    have hil : i < C.length := by clear hd; omega
    obtain ⟨cc, hcc⟩ : ∃ cc, cc = C.getD i (0, 0) := ⟨_, rfl⟩
    have hok : cOK cc := by rw [hcc]; exact w1 _ (getD_memC hil)
    have hget : (fcd R).getD (off + i) (0, 0) = cc := by rw [hoff, fcd_at hkl (by rw [← hCC]; exact hil), ← hCC, hcc]
    have hcode : G.1 17 (off + i) = encd (ekk cc) (ekv cc) := by
      have := hC.2 (off + i) (by omega) (by omega)
      rw [Nat.zero_add, hget] at this
      exact this
    rw [cn_eq (x := x1) (e := off + i) i3, i1, hcode] at e19
    obtain ⟨d1, d2⟩ := encd_i hok e19
    rw [← e20] at d1
    obtain ⟨-, -, -, -, g0, g1, g2, g3⟩ := ekk_r hok
    have hlt := hlen i (by omega)
    have hnx := evl_take (x := x) (day := day) hil
    rw [← hcc] at hnx
    have fin : ∀ {Gz : GS} {y : Int32}, y.toInt = x1.toInt + 1 → Gz.1 17 = G_1.1 17 → Gz.1 18 = G_1.1 18 → StkC (ev1 x day (evl x day (C.take i)) cc) Gz → (Gz.1 17 = G.1 17 ∧ Gz.1 18 = G.1 18) ∧ ∃ i : Nat, y.toInt = ((off + i : Nat) : Int) ∧ i ≤ C.length ∧ StkC (evl x day (C.take i)) Gz := by
      intro Gz y ty r7 r8 hst
      exact ⟨⟨r7.trans i1, r8.trans i2⟩, i + 1, by clear hd; omega, by omega, by rw [hnx]; exact hst⟩
    have c4 : cc.1 = 0 ∨ cc.1 = 1 ∨ cc.1 = 2 ∨ cc.1 = 3 := by
      have := hok
      unfold cOK at this
      clear hd
      omega
    rcases hd with ⟨f1, y86, e86, y87, e87, G89, hpu, y93, t93, ex, rfl⟩ | ⟨f1, hd⟩
    · have k0 : cc.1 = 0 := by
        rcases c4 with q | q | q | q
        · exact q
        · have := g1 q
          have hb := hok
          unfold cOK at hb
          omega
        · have := g2 q
          omega
        · have := g3 q
          omega
      rw [cn_eq (x := x1) (e := off + i) i3, i1, hcode] at e86
      have ey : y87 = Int32.ofInt cc.2 := by
        refine of_i ?_
        have := (encd_i hok e86).2
        rw [← e87] at this
        rw [this]
        exact (g0 k0).2
      rw [ey] at hpu
      refine fin (by rw [← ex]; exact t93) (hpu.2.1.row1 17 (by decide) (by decide)) (hpu.2.1.row1 18 (by decide) (by decide)) ?_
      unfold ev1
      rw [if_pos k0]
      exact k_push_eq hpu i5 (by omega)
    · have n0 : cc.1 ≠ 0 := fun q => f1 (by rw [d1]; exact (g0 q).1)
      rcases hd with ⟨f2, r68, G69, hpo, hd⟩ | ⟨f2, hd⟩
      · have k2 : cc.1 = 2 := by
          rcases c4 with q | q | q | q
          · exact absurd q n0
          · have := g1 q
            have hb := hok
            unfold cOK at hb
            clear hd
            omega
          · exact q
          · have := g3 q
            clear hd
            omega
        obtain ⟨hr, hst⟩ := k_pop_eq hpo i5
        have hlt2 : (evl x day (C.take i)).tail.length < 100 := by rw [List.length_tail]; omega
        rcases hd with ⟨f3, G81, hpu, y85, t85, ex, rfl⟩ | ⟨f3, G81, hpu, y85, t85, ex, rfl⟩
        · refine fin (by rw [← ex]; exact t85) ((hpu.2.1.row1 17 (by decide) (by decide)).trans (hpo.2.1.row1 17 (by decide) (by decide))) ((hpu.2.1.row1 18 (by decide) (by decide)).trans (hpo.2.1.row1 18 (by decide) (by decide))) ?_
          unfold ev1
          rw [if_neg n0, if_neg (by omega), if_pos k2, ← hr, if_pos f3]
          exact k_push_eq hpu hst hlt2
        · refine fin (by rw [← ex]; exact t85) ((hpu.2.1.row1 17 (by decide) (by decide)).trans (hpo.2.1.row1 17 (by decide) (by decide))) ((hpu.2.1.row1 18 (by decide) (by decide)).trans (hpo.2.1.row1 18 (by decide) (by decide))) ?_
          unfold ev1
          rw [if_neg n0, if_neg (by omega), if_pos k2, ← hr, if_neg f3]
          exact k_push_eq hpu hst hlt2
      · have n2' : cc.1 ≠ 2 := fun q => f2 (by rw [d1]; exact g2 q)
        rcases hd with ⟨f3, f4, f5, r57, G58, how, G63, hpu, y67, t67, ex, rfl⟩ | ⟨G29, hj, -, -, r33, G34, hp1, r38, G39, hp2, r43, G44, hjn, G49, hpu, y53, t53, ex, rfl⟩
        · have k1 : cc.1 = 1 := by
            rcases c4 with q | q | q | q
            · exact absurd q n0
            · exact q
            · exact absurd q n2'
            · have := g3 q
              omega
          have hb := hok
          unfold cOK at hb
          obtain ⟨e58, hv⟩ := k_own_eq (a := cc.2) how hx h1 (by omega) (by omega) (by rw [d1]; exact g1 k1)
          subst e58
          rw [of_i hv] at hpu
          refine fin (by rw [← ex]; exact t67) (hpu.2.1.row1 17 (by decide) (by decide)) (hpu.2.1.row1 18 (by decide) (by decide)) ?_
          unfold ev1
          rw [if_neg n0, if_pos k1]
          exact k_push_eq hpu i5 (by omega)
        · have hj2 : G_1 = G29 ∧ (y20.toInt = 144 ∨ y20.toInt = 145 ∨ y20.toInt < 128) := by
            rcases hj with ⟨q, e⟩ | ⟨-, ⟨q, e⟩ | ⟨-, q, e⟩⟩
            · exact ⟨e, Or.inl q⟩
            · exact ⟨e, Or.inr (Or.inl q)⟩
            · exact ⟨e, Or.inr (Or.inr q)⟩
          obtain ⟨rfl, hkd⟩ := hj2
          have k3 : cc.1 = 3 := by
            rcases c4 with q | q | q | q
            · exact absurd q n0
            · have := g1 q
              have hb := hok
              unfold cOK at hb
              omega
            · exact absurd q n2'
            · exact q
          have hsg : sgO cc.2 := by
            have hb := hok
            unfold cOK at hb
            rcases hb with q | q | q | q
            · exact absurd q.1 n0
            · exact absurd q.1 (by omega)
            · exact absurd q.1 n2'
            · exact q.2
          obtain ⟨hr1, hs1⟩ := k_pop_eq hp1 i5
          obtain ⟨hr2, hs2⟩ := k_pop_eq hp2 hs1
          have hcp : cc = (3, cc.2) := Prod.ext k3 rfl
          obtain ⟨e44, hv⟩ := k_join_eq (o := cc.2) hjn hsg (by rw [d1, ← hcp])
          subst e44
          rw [hv] at hpu
          refine fin (by rw [← ex]; exact t53) (((hpu.2.1.row1 17 (by decide) (by decide)).trans (hp2.2.1.row1 17 (by decide) (by decide))).trans (hp1.2.1.row1 17 (by decide) (by decide))) (((hpu.2.1.row1 18 (by decide) (by decide)).trans (hp2.2.1.row1 18 (by decide) (by decide))).trans (hp1.2.1.row1 18 (by decide) (by decide))) ?_
          unfold ev1
          rw [if_neg n0, if_neg (by omega), if_neg n2', ← hr2, ← hr1]
          exact k_push_eq hpu hs2 (by rw [List.length_tail, List.length_tail]; omega))
  obtain ⟨⟨i1, i2⟩, i, i3, i4, i5⟩ := hI
  simp only at i1 i2 i3 i5
  rw [cn_eq (x := y11) (e := k + 1) (by omega), i2] at e12
  have hz : y12.toInt = ((off + C.length : Nat) : Int) := by rw [e12]; exact n2
  have hi : i = C.length := by omega
  subst hi
  rw [List.take_length] at i5
  exact (k_pop_eq hpop i5).1
theorem k_value_2 {R : VR} {x : IC} {day p0 p1 r : Int32} {G G1 : GS} {k : Nat} (h : P_lValue_2 p0 p1 day G r G1) (hk : p0.toInt = (k : Int)) (hkl : k < R.length) (hC : CodeC_2 0 (fcd R) G) (hE : EndC_2 R G) (h580 : (fcd R).length ≤ 580) (hx : ICok x) (h1 : p1 = encI x) (hw : FOK (R.getD k ([], [])).2) : r = (evl x day (R.getD k ([], [])).2).headD 0 := by
  obtain ⟨-, -, y2, e2, Ga, -, hFa, e63, x7, G3, hl, -, -, -, y11, t11, y12, e12, c12, r14, G15, hpop, rfl, rfl⟩ := h
  obtain ⟨C, hCC⟩ : ∃ C, C = (R.getD k ([], [])).2 := ⟨_, rfl⟩
  rw [← hCC] at hw ⊢
  obtain ⟨off, hoff⟩ : ∃ off, off = (fcd (R.take k)).length := ⟨_, rfl⟩
  obtain ⟨n1, n2⟩ := hE k hkl
  rw [fcd_len hkl, ← hCC, ← hoff] at n2
  rw [← hoff] at n1
  have hle := fcd_le (R := R) (k + 1)
  rw [fcd_len hkl, ← hCC, ← hoff] at hle
  rw [cap_of (by omega)] at n1 n2
  obtain ⟨w1, w2, w3⟩ := hw
  have hlen : ∀ i, i ≤ C.length → (evl x day (C.take i)).length ≤ 30 := fun i hi => by
    have a1 := (evl_len (x := x) (day := day) w2 w1 i hi).2
    have a2 := nPu_le (C := C) i
    omega
  have hI := hl (fun q => (q.2.1 27 = G.1 27 ∧ q.2.1 28 = G.1 28) ∧ ∃ i : Nat, q.1.toInt = ((off + i : Nat) : Int) ∧ i ≤ C.length ∧ StkC (evl x day (C.take i)) q.2) (by
    refine ⟨⟨hFa.row1 27 (by decide) (by decide), hFa.row1 28 (by decide) (by decide)⟩, 0, ?_, Nat.zero_le _, ?_⟩
    · show y2.toInt = _
      rw [e2, cn_eq hk]
      exact n1
    · exact ⟨by rw [e63]; rfl, fun i hi => absurd hi (Nat.not_lt_zero i)⟩) (by
    rintro ⟨x1, G_1⟩ ⟨xn, G_1n⟩ ⟨⟨i1, i2⟩, i, i3, i4, i5⟩ ⟨x1q, G_1q, xnq, G_1nq, q1, q2, -, -, z11, s11, z12, e12', c, y19, e19, y20, e20, hd⟩
    obtain ⟨rfl, rfl⟩ := Prod.mk.inj q1
    obtain ⟨rfl, rfl⟩ := Prod.mk.inj q2
    simp only at i1 i2 i3 i5
    rw [cn_eq (x := z11) (e := k + 1) (by clear hd; omega), i2] at e12'
    have hz : z12.toInt = ((off + C.length : Nat) : Int) := by rw [e12']; exact n2
    have hil : i < C.length := by clear hd; omega
    obtain ⟨cc, hcc⟩ : ∃ cc, cc = C.getD i (0, 0) := ⟨_, rfl⟩
    have hok : cOK cc := by rw [hcc]; exact w1 _ (getD_memC hil)
    have hget : (fcd R).getD (off + i) (0, 0) = cc := by rw [hoff, fcd_at hkl (by rw [← hCC]; exact hil), ← hCC, hcc]
    have hcode : G.1 27 (off + i) = encd (ekk cc) (ekv cc) := by
      have := hC.2 (off + i) (by omega) (by omega)
      rw [Nat.zero_add, hget] at this
      exact this
    rw [cn_eq (x := x1) (e := off + i) i3, i1, hcode] at e19
    obtain ⟨d1, d2⟩ := encd_i hok e19
    rw [← e20] at d1
    obtain ⟨-, -, -, -, g0, g1, g2, g3⟩ := ekk_r hok
    have hlt := hlen i (by omega)
    have hnx := evl_take (x := x) (day := day) hil
    rw [← hcc] at hnx
    have fin : ∀ {Gz : GS} {y : Int32}, y.toInt = x1.toInt + 1 → Gz.1 27 = G_1.1 27 → Gz.1 28 = G_1.1 28 → StkC (ev1 x day (evl x day (C.take i)) cc) Gz → (Gz.1 27 = G.1 27 ∧ Gz.1 28 = G.1 28) ∧ ∃ i : Nat, y.toInt = ((off + i : Nat) : Int) ∧ i ≤ C.length ∧ StkC (evl x day (C.take i)) Gz := by
      intro Gz y ty r7 r8 hst
      exact ⟨⟨r7.trans i1, r8.trans i2⟩, i + 1, by clear hd; omega, by omega, by rw [hnx]; exact hst⟩
    have c4 : cc.1 = 0 ∨ cc.1 = 1 ∨ cc.1 = 2 ∨ cc.1 = 3 := by
      have := hok
      unfold cOK at this
      clear hd
      omega
    rcases hd with ⟨f1, y86, e86, y87, e87, G89, hpu, y93, t93, ex, rfl⟩ | ⟨f1, hd⟩
    · have k0 : cc.1 = 0 := by
        rcases c4 with q | q | q | q
        · exact q
        · have := g1 q
          have hb := hok
          unfold cOK at hb
          omega
        · have := g2 q
          omega
        · have := g3 q
          omega
      rw [cn_eq (x := x1) (e := off + i) i3, i1, hcode] at e86
      have ey : y87 = Int32.ofInt cc.2 := by
        refine of_i ?_
        have := (encd_i hok e86).2
        rw [← e87] at this
        rw [this]
        exact (g0 k0).2
      rw [ey] at hpu
      refine fin (by rw [← ex]; exact t93) (hpu.2.1.row1 27 (by decide) (by decide)) (hpu.2.1.row1 28 (by decide) (by decide)) ?_
      unfold ev1
      rw [if_pos k0]
      exact k_push_eq hpu i5 (by omega)
    · have n0 : cc.1 ≠ 0 := fun q => f1 (by rw [d1]; exact (g0 q).1)
      rcases hd with ⟨f2, r68, G69, hpo, hd⟩ | ⟨f2, hd⟩
      · have k2 : cc.1 = 2 := by
          rcases c4 with q | q | q | q
          · exact absurd q n0
          · have := g1 q
            have hb := hok
            unfold cOK at hb
            clear hd
            omega
          · exact q
          · have := g3 q
            clear hd
            omega
        obtain ⟨hr, hst⟩ := k_pop_eq hpo i5
        have hlt2 : (evl x day (C.take i)).tail.length < 100 := by rw [List.length_tail]; omega
        rcases hd with ⟨f3, G81, hpu, y85, t85, ex, rfl⟩ | ⟨f3, G81, hpu, y85, t85, ex, rfl⟩
        · refine fin (by rw [← ex]; exact t85) ((hpu.2.1.row1 27 (by decide) (by decide)).trans (hpo.2.1.row1 27 (by decide) (by decide))) ((hpu.2.1.row1 28 (by decide) (by decide)).trans (hpo.2.1.row1 28 (by decide) (by decide))) ?_
          unfold ev1
          rw [if_neg n0, if_neg (by omega), if_pos k2, ← hr, if_pos f3]
          exact k_push_eq hpu hst hlt2
        · refine fin (by rw [← ex]; exact t85) ((hpu.2.1.row1 27 (by decide) (by decide)).trans (hpo.2.1.row1 27 (by decide) (by decide))) ((hpu.2.1.row1 28 (by decide) (by decide)).trans (hpo.2.1.row1 28 (by decide) (by decide))) ?_
          unfold ev1
          rw [if_neg n0, if_neg (by omega), if_pos k2, ← hr, if_neg f3]
          exact k_push_eq hpu hst hlt2
      · have n2' : cc.1 ≠ 2 := fun q => f2 (by rw [d1]; exact g2 q)
        rcases hd with ⟨f3, f4, f5, r57, G58, how, G63, hpu, y67, t67, ex, rfl⟩ | ⟨G29, hj, -, -, r33, G34, hp1, r38, G39, hp2, r43, G44, hjn, G49, hpu, y53, t53, ex, rfl⟩
        · have k1 : cc.1 = 1 := by
            rcases c4 with q | q | q | q
            · exact absurd q n0
            · exact q
            · exact absurd q n2'
            · have := g3 q
              omega
          have hb := hok
          unfold cOK at hb
          obtain ⟨e58, hv⟩ := k_own_eq (a := cc.2) how hx h1 (by omega) (by omega) (by rw [d1]; exact g1 k1)
          subst e58
          rw [of_i hv] at hpu
          refine fin (by rw [← ex]; exact t67) (hpu.2.1.row1 27 (by decide) (by decide)) (hpu.2.1.row1 28 (by decide) (by decide)) ?_
          unfold ev1
          rw [if_neg n0, if_pos k1]
          exact k_push_eq hpu i5 (by omega)
        · have hj2 : G_1 = G29 ∧ (y20.toInt = 144 ∨ y20.toInt = 145 ∨ y20.toInt < 128) := by
            rcases hj with ⟨q, e⟩ | ⟨-, ⟨q, e⟩ | ⟨-, q, e⟩⟩
            · exact ⟨e, Or.inl q⟩
            · exact ⟨e, Or.inr (Or.inl q)⟩
            · exact ⟨e, Or.inr (Or.inr q)⟩
          obtain ⟨rfl, hkd⟩ := hj2
          have k3 : cc.1 = 3 := by
            rcases c4 with q | q | q | q
            · exact absurd q n0
            · have := g1 q
              have hb := hok
              unfold cOK at hb
              omega
            · exact absurd q n2'
            · exact q
          have hsg : sgO cc.2 := by
            have hb := hok
            unfold cOK at hb
            rcases hb with q | q | q | q
            · exact absurd q.1 n0
            · exact absurd q.1 (by omega)
            · exact absurd q.1 n2'
            · exact q.2
          obtain ⟨hr1, hs1⟩ := k_pop_eq hp1 i5
          obtain ⟨hr2, hs2⟩ := k_pop_eq hp2 hs1
          have hcp : cc = (3, cc.2) := Prod.ext k3 rfl
          obtain ⟨e44, hv⟩ := k_join_eq (o := cc.2) hjn hsg (by rw [d1, ← hcp])
          subst e44
          rw [hv] at hpu
          refine fin (by rw [← ex]; exact t53) (((hpu.2.1.row1 27 (by decide) (by decide)).trans (hp2.2.1.row1 27 (by decide) (by decide))).trans (hp1.2.1.row1 27 (by decide) (by decide))) (((hpu.2.1.row1 28 (by decide) (by decide)).trans (hp2.2.1.row1 28 (by decide) (by decide))).trans (hp1.2.1.row1 28 (by decide) (by decide))) ?_
          unfold ev1
          rw [if_neg n0, if_neg (by omega), if_neg n2', ← hr2, ← hr1]
          exact k_push_eq hpu hs2 (by rw [List.length_tail, List.length_tail]; omega))
  obtain ⟨⟨i1, i2⟩, i, i3, i4, i5⟩ := hI
  simp only at i1 i2 i3 i5
  rw [cn_eq (x := y11) (e := k + 1) (by omega), i2] at e12
  have hz : y12.toInt = ((off + C.length : Nat) : Int) := by rw [e12]; exact n2
  have hi : i = C.length := by omega
  subst hi
  rw [List.take_length] at i5
  exact (k_pop_eq hpop i5).1

/-! the reference's loop over a formula's code -/
def StkR (st : List Int32) (G : GS) : Prop := ∀ i, i < st.length → G.1 76 (st.length - 1 - i) = st.getD i 0
theorem sr_push {st : List Int32} {v : Int32} {G G1 : GS} (hS : StkR st G) (e : G1.1 76 = upd (G.1 76) st.length v) : StkR (v :: st) G1 := by
  intro i hi
  rw [List.length_cons] at hi ⊢
  rw [e]
  cases i with
  | zero =>
    rw [show upd (G.1 76) st.length v (st.length + 1 - 1 - 0) = v from if_pos (by omega)]
    rfl
  | succ i =>
    rw [show upd (G.1 76) st.length v (st.length + 1 - 1 - (i + 1)) = G.1 76 (st.length + 1 - 1 - (i + 1)) from if_neg (by omega), show st.length + 1 - 1 - (i + 1) = st.length - 1 - i by omega, hS i (by omega)]
    simp
theorem sr_head {st : List Int32} {G : GS} (hS : StkR st G) (h : 1 ≤ st.length) : G.1 76 (st.length - 1) = st.headD 0 := by
  have := hS 0 (by omega)
  rw [Nat.sub_zero] at this
  rw [this]
  cases st with
  | nil => rfl
  | cons v st => rfl
theorem sr_head2 {st : List Int32} {G : GS} (hS : StkR st G) (h : 2 ≤ st.length) : G.1 76 (st.length - 1 - 1) = st.tail.headD 0 := by
  have := hS 1 (by omega)
  rw [this]
  cases st with
  | nil => rfl
  | cons v st =>
    cases st with
    | nil => rfl
    | cons w st => rfl
theorem sr_top {st : List Int32} {v : Int32} {G G1 : GS} (hS : StkR st G) (h : 1 ≤ st.length) (e : G1.1 76 = upd (G.1 76) (st.length - 1) v) : StkR (v :: st.tail) G1 := by
  cases st with
  | nil => exact absurd h (by decide)
  | cons w st =>
    intro i hi
    rw [List.tail_cons, List.length_cons] at hi ⊢
    rw [e, List.length_cons]
    cases i with
    | zero =>
      rw [show upd (G.1 76) (st.length + 1 - 1) v (st.length + 1 - 1 - 0) = v from if_pos (by omega)]
      rfl
    | succ i =>
      rw [show upd (G.1 76) (st.length + 1 - 1) v (st.length + 1 - 1 - (i + 1)) = G.1 76 (st.length + 1 - 1 - (i + 1)) from if_neg (by omega)]
      have := hS (i + 1) (by rw [List.length_cons]; omega)
      rw [List.length_cons] at this
      rw [this]
      simp
theorem sr_two {st : List Int32} {v : Int32} {G G1 : GS} (hS : StkR st G) (h : 2 ≤ st.length) (e : G1.1 76 = upd (G.1 76) (st.length - 1 - 1) v) : StkR (v :: st.tail.tail) G1 := by
  cases st with
  | nil => exact absurd h (by decide)
  | cons w st =>
    cases st with
    | nil => exact absurd h (by simp)
    | cons w2 st =>
      intro i hi
      rw [List.tail_cons, List.tail_cons, List.length_cons] at hi ⊢
      rw [e, List.length_cons, List.length_cons]
      cases i with
      | zero =>
        rw [show upd (G.1 76) (st.length + 1 + 1 - 1 - 1) v (st.length + 1 - 1 - 0) = v from if_pos (by omega)]
        rfl
      | succ i =>
        rw [show upd (G.1 76) (st.length + 1 + 1 - 1 - 1) v (st.length + 1 - 1 - (i + 1)) = G.1 76 (st.length + 1 - 1 - (i + 1)) from if_neg (by omega)]
        have := hS (i + 2) (by rw [List.length_cons, List.length_cons]; omega)
        rw [List.length_cons, List.length_cons, show st.length + 1 + 1 - 1 - (i + 2) = st.length + 1 - 1 - (i + 1) by omega] at this
        rw [this]
        simp
/-- the INCH at a place of the reference's rows -/
def IcR (x : IC) (j : Nat) (G : GS) : Prop := (G.1 87 j).toInt = x.1 ∧ (G.1 88 j).toInt = x.2.1 ∧ (G.1 89 j).toInt = x.2.2.1 ∧ (G.1 90 j).toInt = x.2.2.2
theorem q_ask_eq {x : IC} {p0 p1 r : Int32} {G G1 : GS} {j : Nat} (h : Q_askOf p0 p1 G r G1) (hj : p0.toInt = (j : Int)) (hx : IcR x j G) (h0 : 0 ≤ p1.toInt) (h8 : p1.toInt ≤ 8) : G = G1 ∧ r.toInt = icQ x (G.1 110 6).toInt p1.toInt := by
  obtain ⟨-, hF, hh⟩ := h
  refine ⟨hF.nil, ?_⟩
  obtain ⟨x1, x2, x3, x4⟩ := hx
  rw [cn_eq hj] at hh
  have z6 : (6 : Int32).toNatClampNeg = 6 := rfl
  rw [z6] at hh
  unfold icQ
  have bit : ∀ (k c : Nat) (hc : 2 ^ k = c) {y21 y22 y23 y24 : Int32}, y21 = G.1 87 j → y22.toInt = p1.toInt - 1 → y23 = y21 >>> (y22 &&& 31) → y24 = y23 &&& 1 → p1.toInt - 1 = (k : Int) → 0 ≤ y21.toInt → k < 4 → y24.toInt = x.1 / (c : Int) % 2 := by
    intro k c hc y21 y22 y23 y24 e21 t22 e23 e24 hk hp h4
    have e1 : y21.toInt = x.1 := by rw [e21]; exact x1
    have ey : y22 = Int32.ofInt (k : Int) := of_i (by omega)
    have hsh : (y21 >>> (y22 &&& 31)).toBitVec = y21.toBitVec.sshiftRight k := by
      have h5 : k = 0 ∨ k = 1 ∨ k = 2 ∨ k = 3 := by omega
      rcases h5 with rfl | rfl | rfl | rfl <;> rw [ey] <;> rfl
    have s1 := shr_i hsh hc e1 (by omega)
    rw [e24, e23]
    exact and_i (m := 1) (k := 1) (c := 2) rfl rfl s1 (Int.ediv_nonneg (by omega) (by omega))
  rcases hh with ⟨c, y2, e2, ⟨d, r5, G6, ht, rfl, -⟩ | ⟨d, r5, G6, ht, rfl, -⟩⟩ | ⟨c, hh⟩
  · rw [e2, x1] at d
    rw [(q_truth ht).2, if_pos c, if_neg (by omega)]
    rfl
  · rw [e2, x1] at d
    rw [(q_truth ht).2, if_pos c, if_pos d]
    rfl
  rw [if_neg c]
  rcases hh with ⟨c1, y19, e19, ⟨d, y21, e21, y22, t22, y23, e23, y24, e24, rfl, -⟩ | ⟨d, rfl, -⟩⟩ | ⟨c1, hh⟩
  · rw [if_pos (by omega), if_neg (by rw [e19, x1] at d; omega), bit 0 1 rfl e21 t22 e23 e24 (by omega) (by rw [e21]; rw [e19] at d; exact d) (by decide), c1]
    rfl
  · rw [e19, x1] at d
    rw [if_pos (by omega), if_pos d]
    rfl
  rcases hh with ⟨c2, y19, e19, ⟨d, y21, e21, y22, t22, y23, e23, y24, e24, rfl, -⟩ | ⟨d, rfl, -⟩⟩ | ⟨c2, hh⟩
  · rw [if_pos (by omega), if_neg (by rw [e19, x1] at d; omega), bit 1 2 rfl e21 t22 e23 e24 (by omega) (by rw [e21]; rw [e19] at d; exact d) (by decide), c2]
    rfl
  · rw [e19, x1] at d
    rw [if_pos (by omega), if_pos d]
    rfl
  rcases hh with ⟨c3, y19, e19, ⟨d, y21, e21, y22, t22, y23, e23, y24, e24, rfl, -⟩ | ⟨d, rfl, -⟩⟩ | ⟨c3, hh⟩
  · rw [if_pos (by omega), if_neg (by rw [e19, x1] at d; omega), bit 2 4 rfl e21 t22 e23 e24 (by omega) (by rw [e21]; rw [e19] at d; exact d) (by decide), c3]
    rfl
  · rw [e19, x1] at d
    rw [if_pos (by omega), if_pos d]
    rfl
  rcases hh with ⟨c4, y19, e19, ⟨d, y21, e21, y22, t22, y23, e23, y24, e24, rfl, -⟩ | ⟨d, rfl, -⟩⟩ | ⟨c4, hh⟩
  · rw [if_pos (by omega), if_neg (by rw [e19, x1] at d; omega), bit 3 8 rfl e21 t22 e23 e24 (by omega) (by rw [e21]; rw [e19] at d; exact d) (by decide), c4]
    rfl
  · rw [e19, x1] at d
    rw [if_pos (by omega), if_pos d]
    rfl
  rw [if_neg (by omega)]
  rcases hh with ⟨c5, y, e, rfl, -⟩ | ⟨c5, ⟨c6, y, e, rfl, -⟩ | ⟨c6, ⟨c7, y, e, rfl, -⟩ | ⟨c7, y, e, rfl, -⟩⟩⟩
  · rw [if_pos c5, e]
    exact x4
  · rw [if_neg c5, if_pos c6, e]
    exact x2
  · rw [if_neg c5, if_neg c6, if_pos c7, e]
    exact x3
  · rw [if_neg c5, if_neg c6, if_neg c7, e]
theorem q_worked_eq {x : IC} {p0 p1 r : Int32} {G G1 : GS} {k j : Nat} {C : List (Int × Int)} (h : Q_worked p0 p1 G r G1) (hk : p0.toInt = (k : Int)) (hj : p1.toInt = (j : Int)) (hC : RCd k C G) (hx : IcR x j G) (hw : FOK C) : r = (evl x (G.1 110 6) C).headD 0 := by
  obtain ⟨-, -, y1, t1, x8, x9, G4, hl, -, -, -, -, -, -, -, y18, t18, y19, e19, y21, t21, c21, y23, e23, rfl, rfl⟩ := h
  obtain ⟨w1, w2, w3⟩ := hw
  have hI := hl (fun q => (q.2.2.1 72 = G.1 72 ∧ q.2.2.1 73 = G.1 73 ∧ q.2.2.1 74 = G.1 74 ∧ q.2.2.1 87 = G.1 87 ∧ q.2.2.1 88 = G.1 88 ∧ q.2.2.1 89 = G.1 89 ∧ q.2.2.1 90 = G.1 90 ∧ q.2.2.1 110 = G.1 110) ∧ ∃ i : Nat, q.1.toInt = ((320 * k + i : Nat) : Int) ∧ i ≤ C.length ∧ q.2.1.toInt = ((evl x (G.1 110 6) (C.take i)).length : Int) ∧ StkR (evl x (G.1 110 6) (C.take i)) q.2.2) ⟨⟨rfl, rfl, rfl, rfl, rfl, rfl, rfl, rfl⟩, 0, by show y1.toInt = _; omega, Nat.zero_le _, rfl, fun i hi => absurd hi (Nat.not_lt_zero i)⟩ (by
    rintro ⟨x1, n1, G_1⟩ ⟨xn, nn, G_1n⟩ ⟨⟨a1, a2, a3, a4, a5, a6, a7, a8⟩, i, i3, i4, i5, i6⟩ ⟨x1q, n1q, G_1q, xnq, nnq, G_1nq, q1, q2, -, -, -, -, -, -, z18, s18, z19, f19, z21, s21, c, y24, e24, hd⟩
    obtain ⟨rfl, q1x⟩ := Prod.mk.inj q1
    obtain ⟨rfl, rfl⟩ := Prod.mk.inj q1x
    obtain ⟨rfl, q2x⟩ := Prod.mk.inj q2
    obtain ⟨rfl, rfl⟩ := Prod.mk.inj q2x
    simp only at a1 a2 a3 a4 a5 a6 a7 a8 i3 i5 i6
    rw [cn_eq hk, a3] at f19
    have hz : z19.toInt = (C.length : Int) := by rw [f19]; exact hC.1
    have hil : i < C.length := by clear hd; omega
    obtain ⟨cc, hcc⟩ : ∃ cc, cc = C.getD i (0, 0) := ⟨_, rfl⟩
    have hok : cOK cc := by rw [hcc]; exact w1 _ (getD_memC hil)
    obtain ⟨b1, b2⟩ := hC.2 i hil
    rw [← hcc] at b1 b2
    have hnx := evl_take (x := x) (day := G.1 110 6) hil
    rw [← hcc] at hnx
    obtain ⟨l1, l2⟩ := evl_len (x := x) (day := G.1 110 6) w2 w1 i (by omega)
    obtain ⟨l3, -⟩ := evl_len (x := x) (day := G.1 110 6) w2 w1 (i + 1) (by omega)
    have ld := dep_take1 (C := C) hil
    rw [l1, l3, ← hcc, hnx] at ld
    obtain ⟨st, hst⟩ : ∃ st, st = evl x (G.1 110 6) (C.take i) := ⟨_, rfl⟩
    rw [← hst] at i5 i6 hnx ld
    have hld : some (ev1 x (G.1 110 6) st cc).length = (if cc.1 ≤ 1 then some (st.length + 1) else if cc.1 = 2 then (if 1 ≤ st.length then some st.length else none) else (if 2 ≤ st.length then some (st.length - 1) else none)) := ld
    rw [cn_eq (x := x1) (e := 320 * k + i) i3] at hd e24
    rw [a1, a2] at hd
    rw [a1] at e24
    have fin : ∀ {Gz : GS} {y m : Int32}, y.toInt = x1.toInt + 1 → Fr [76] [] G_1 Gz → m.toInt = ((ev1 x (G.1 110 6) st cc).length : Int) → StkR (ev1 x (G.1 110 6) st cc) Gz → (Gz.1 72 = G.1 72 ∧ Gz.1 73 = G.1 73 ∧ Gz.1 74 = G.1 74 ∧ Gz.1 87 = G.1 87 ∧ Gz.1 88 = G.1 88 ∧ Gz.1 89 = G.1 89 ∧ Gz.1 90 = G.1 90 ∧ Gz.1 110 = G.1 110) ∧ ∃ i : Nat, y.toInt = ((320 * k + i : Nat) : Int) ∧ i ≤ C.length ∧ m.toInt = ((evl x (G.1 110 6) (C.take i)).length : Int) ∧ StkR (evl x (G.1 110 6) (C.take i)) Gz := by
      intro Gz y m ty hF tm hs
      refine ⟨⟨(hF.row1 72 (by decide) (by decide)).trans a1, (hF.row1 73 (by decide) (by decide)).trans a2, (hF.row1 74 (by decide) (by decide)).trans a3, (hF.row1 87 (by decide) (by decide)).trans a4, (hF.row1 88 (by decide) (by decide)).trans a5, (hF.row1 89 (by decide) (by decide)).trans a6, (hF.row1 90 (by decide) (by decide)).trans a7, (hF.row1 110 (by decide) (by decide)).trans a8⟩, i + 1, by clear hd; omega, by omega, ?_, ?_⟩
      · rw [hnx]
        exact tm
      · rw [hnx]
        exact hs
    have hxr : IcR x j G_1 := by
      unfold IcR
      rw [a4, a5, a6, a7]
      exact hx
    have push : ∀ {Gz : GS} {y m v : Int32}, cc.1 ≤ 1 → ev1 x (G.1 110 6) st cc = v :: st → y.toInt = x1.toInt + 1 → m.toInt = n1.toInt + 1 → Fr [76] [] G_1 Gz → Gz.1 76 = upd (G_1.1 76) n1.toNatClampNeg v → (Gz.1 72 = G.1 72 ∧ Gz.1 73 = G.1 73 ∧ Gz.1 74 = G.1 74 ∧ Gz.1 87 = G.1 87 ∧ Gz.1 88 = G.1 88 ∧ Gz.1 89 = G.1 89 ∧ Gz.1 90 = G.1 90 ∧ Gz.1 110 = G.1 110) ∧ ∃ i : Nat, y.toInt = ((320 * k + i : Nat) : Int) ∧ i ≤ C.length ∧ m.toInt = ((evl x (G.1 110 6) (C.take i)).length : Int) ∧ StkR (evl x (G.1 110 6) (C.take i)) Gz := by
      intro Gz y m v hc1 he ty tm hF e76
      rw [cn_eq i5] at e76
      refine fin ty hF ?_ ?_
      · rw [he, List.length_cons]
        clear hd
        omega
      · rw [he]
        exact sr_push i6 e76
    have asks : ∀ {y31 r33 : Int32} {G34 : GS}, y31 = G.1 73 (320 * k + i) → cc.1 = 1 → Q_askOf p1 y31 G_1 r33 G34 → G_1 = G34 ∧ ev1 x (G.1 110 6) st cc = r33 :: st := by
      intro y31 r33 G34 e31 hc1 hq
      have hb := hok
      unfold cOK at hb
      have e31' : y31.toInt = cc.2 := by rw [e31]; exact b2
      obtain ⟨eg, hv⟩ := q_ask_eq hq hj hxr (by clear hd; omega) (by clear hd; omega)
      refine ⟨eg, ?_⟩
      unfold ev1
      rw [if_neg (by omega), if_pos hc1, of_i hv, e31', a8]
    have c4 : cc.1 = 0 ∨ cc.1 = 1 ∨ cc.1 = 2 ∨ cc.1 = 3 := by
      have := hok
      unfold cOK at this
      clear hd
      omega
    have e24' : y24.toInt = cc.1 := by rw [e24]; exact b1
    rcases hd with ⟨f1, y28, e28, ⟨f2, y42, e42, y45, t45, y46, t46, ex, en, hF, e76⟩ | ⟨f2, -⟩⟩ | ⟨f1, y48, e48, ⟨f2, y96, e96, ⟨f3, -⟩ | ⟨f3, y99, e99, r101, G102, hq, y107, t107, y108, t108, ex, en, hF, e76⟩⟩ | ⟨f2, y51, e51, hd⟩⟩
    · refine push (by omega) ?_ (by rw [← ex]; exact t46) (by rw [← en]; exact t45) hF e76
      unfold ev1
      rw [if_pos (by omega), of_i (show y42.toInt = cc.2 by rw [e42]; exact b2)]
    · refine absurd ?_ f2
      rw [e28, b1]
      omega
    · rw [e96, b1] at f3
      rw [e48, b1] at f2
      omega
    · rw [e48, b1] at f2
      obtain ⟨rfl, he⟩ := asks e99 f2 hq
      exact push (by omega) he (by rw [← ex]; exact t108) (by rw [← en]; exact t107) hF e76
    · rw [e48, b1] at f2
      rcases hd with ⟨f3, y71, t71, y72, t72, y73, e73, hd⟩ | ⟨f3, y54, t54, y55, t55, y56, e56, y58, t58, y59, e59, y61, e61, r63, G64, hq, y69, t69, ex, en, hF, e76⟩
      · rw [e51, b1] at f3
        rw [if_neg (by omega), if_pos f3] at hld
        have h1 : 1 ≤ st.length := by
          refine Classical.byContradiction (fun q => ?_)
          rw [if_neg q] at hld
          exact absurd hld (by simp)
        rw [if_pos h1] at hld
        have hln := Option.some.inj hld
        rw [cn_eq (x := y72) (e := st.length - 1) (by clear hd; omega), sr_head i6 h1] at e73
        rcases hd with ⟨f4, r87, G88, hq, y94, t94, ex, en, hF, e76⟩ | ⟨f4, r87, G88, hq, y94, t94, ex, en, hF, e76⟩
        · obtain ⟨rfl, hr⟩ := q_truth hq
          rw [cn_eq (x := y71) (e := st.length - 1) (by omega), of_i hr] at e76
          refine fin (by rw [← ex]; exact t94) hF (by rw [← en]; dsimp only; omega) ?_
          have he : ev1 x (G.1 110 6) st cc = 1 :: st.tail := by
            unfold ev1
            rw [if_neg (by omega), if_neg (by omega), if_pos f3, ← e73, if_pos f4]
          rw [he]
          exact sr_top i6 h1 e76
        · obtain ⟨rfl, hr⟩ := q_truth hq
          rw [cn_eq (x := y71) (e := st.length - 1) (by omega), of_i hr] at e76
          refine fin (by rw [← ex]; exact t94) hF (by rw [← en]; dsimp only; omega) ?_
          have he : ev1 x (G.1 110 6) st cc = 0 :: st.tail := by
            unfold ev1
            rw [if_neg (by omega), if_neg (by omega), if_pos f3, ← e73, if_neg f4]
          rw [he]
          exact sr_top i6 h1 e76
      · rw [e51, b1] at f3
        rw [if_neg (by omega), if_neg f3] at hld
        have h2 : 2 ≤ st.length := by
          refine Classical.byContradiction (fun q => ?_)
          rw [if_neg q] at hld
          exact absurd hld (by simp)
        rw [if_pos h2] at hld
        have hln := Option.some.inj hld
        have hsg : sgO cc.2 := by
          have hb := hok
          unfold cOK at hb
          rcases hb with q | q | q | q
          · exact absurd q.1 (by omega)
          · exact absurd q.1 (by omega)
          · exact absurd q.1 (by omega)
          · exact q.2
        rw [cn_eq (x := y58) (e := st.length - 1 - 1) (by omega), sr_head2 i6 h2] at e59
        rw [cn_eq (x := y54) (e := st.length - 1) (by omega), sr_head i6 (by omega)] at e61
        obtain ⟨rfl, hr⟩ := q_done_eq (o := cc.2) hq hsg (by rw [e56]; exact b2)
        rw [cn_eq (x := y55) (e := st.length - 1 - 1) (by omega)] at e76
        have he : ev1 x (G.1 110 6) st cc = r63 :: st.tail.tail := by
          unfold ev1
          rw [if_neg (by omega), if_neg (by omega), if_neg f3, hr, e59, e61]
        refine fin (by rw [← ex]; exact t69) hF (by rw [← en]; dsimp only; omega) ?_
        rw [he]
        exact sr_two i6 h2 e76)
  obtain ⟨⟨a1, a2, a3, -⟩, i, i3, i4, i5, i6⟩ := hI
  simp only at a1 a2 a3 i3 i5 i6
  rw [cn_eq hk, a3] at e19
  have hz : y19.toInt = (C.length : Int) := by rw [e19]; exact hC.1
  have hi : i = C.length := by omega
  subst hi
  rw [List.take_length] at i5 i6
  obtain ⟨l1, -⟩ := evl_len (x := x) (day := G.1 110 6) w2 w1 C.length (Nat.le_refl _)
  rw [List.take_length, w2] at l1
  have hl1 := Option.some.inj l1
  have z0 : (0 : Int32).toNatClampNeg = 0 := rfl
  rw [z0] at e23
  have := sr_head i6 (by omega)
  rw [← hl1] at this
  rw [e23]
  exact this

/-! LINES: what is asked, and the program's bits -/
def vlu (V : PV) (day : Int32) (x : IC) (k : Nat) : Int32 := (evl x day (V.2.2.1.getD k ([], [])).2).headD 0
def fbd (x : IC) : Prop := x.1 < 0 ∨ x.1 / 2 % 2 = 1 ∨ x.1 / 4 % 2 = 1
def LNs (V : PV) (day : Int32) (x : IC) (t : Nat) : Prop := (t = 0 ∧ fbd x) ∨ (t ≠ 0 ∧ ∃ k, k < V.2.2.1.length ∧ t.testBit k = true ∧ (vlu V day x k).toInt ≠ 0)
/-- all that holds of a PAVING's rules -/
def PVok (V : PV) : Prop := V.2.2.1.length ≤ 6 ∧ (fcd V.2.2.1).length ≤ 580 ∧ ∀ k, k < V.2.2.1.length → FOK (V.2.2.1.getD k ([], [])).2
theorem on_i {m : Nat} (h : m < 2147483648) : (Int32.ofNat m).toInt = (m : Int) := Int32.toInt_ofNat_of_lt h
theorem nat_i {x : Int32} (h : 0 ≤ x.toInt) : x = Int32.ofNat x.toInt.toNat := by
  refine Int32.toInt_inj.mp ?_
  have := tI_rng x
  rw [on_i (by omega)]
  omega
theorem ofN_tn {m : Nat} (h : m < 4294967296) : (Int32.ofNat m).toBitVec.toNat = m := by
  show (BitVec.ofNat 32 m).toNat = m
  rw [BitVec.toNat_ofNat]
  exact Nat.mod_eq_of_lt h
theorem n_and {a b : Nat} (ha : a < 2147483648) (hb : b < 2147483648) : (Int32.ofNat a &&& Int32.ofNat b).toInt = ((a &&& b : Nat) : Int) := by
  have h1 : a &&& b ≤ a := Nat.and_le_left
  refine ti_n ?_ (by omega)
  show ((Int32.ofNat a).toBitVec &&& (Int32.ofNat b).toBitVec).toNat = _
  rw [BitVec.toNat_and, ofN_tn (by omega), ofN_tn (by omega)]
theorem n_or {a b : Nat} (ha : a < 128) (hb : b < 128) : Int32.ofNat a ||| Int32.ofNat b = Int32.ofNat (a ||| b) := by
  have h1 : a ||| b < 2 ^ 7 := Nat.or_lt_two_pow (by omega) (by omega)
  refine Int32.toInt_inj.mp ?_
  rw [on_i (by omega)]
  refine ti_n ?_ (by omega)
  show ((Int32.ofNat a).toBitVec ||| (Int32.ofNat b).toBitVec).toNat = _
  rw [BitVec.toNat_or, ofN_tn (by omega), ofN_tn (by omega)]
/-- two sets of bits meet -/
theorem meet_i {a b : Nat} : a &&& b ≠ 0 ↔ ∃ k, a.testBit k = true ∧ b.testBit k = true := by
  constructor
  · intro h
    refine Classical.byContradiction (fun q => h ?_)
    refine Nat.eq_of_testBit_eq (fun k => ?_)
    rw [Nat.testBit_and, Nat.zero_testBit]
    by_cases h1 : a.testBit k = true
    · by_cases h2 : b.testBit k = true
      · exact absurd ⟨k, h1, h2⟩ q
      · rw [h1]
        simpa using h2
    · rw [Bool.eq_false_iff.mpr h1]
      rfl
  · rintro ⟨k, h1, h2⟩ h
    have := congrArg (fun z => Nat.testBit z k) h
    simp only [Nat.testBit_and, h1, h2, Nat.zero_testBit] at this
    exact absurd this (by decide)
theorem sh_pow : ∀ k : Nat, k < 31 → ((1 : Int32) <<< (Int32.ofNat k &&& 31)) = Int32.ofNat (2 ^ k) := by decide +kernel
/-- the bits that are found of an INCH: by the RULES below n -/
def FB (V : PV) (day : Int32) (x : IC) (n m : Nat) : Prop := m < 128 ∧ (m.testBit 6 = true ↔ fbd x) ∧ ∀ k, k < 6 → (m.testBit k = true ↔ (k < n ∧ (vlu V day x k).toInt ≠ 0))
theorem fb_0 {x : IC} (hx : ICok x) {y : Int32} (hy : y = encI x) : ((y &&& 13).toInt ≠ 0 ↔ fbd x) := by
  obtain ⟨e1, e2⟩ := encI_i hx
  rw [← hy] at e1
  have hr := tI_rng y
  have e3 : y = Int32.ofNat (encV x).toNat := by
    rw [nat_i (x := y) (by omega), e1]
  have e13 : (13 : Int32) = Int32.ofNat 13 := rfl
  rw [e3, e13, n_and (by omega) (by decide)]
  obtain ⟨m, nth, i, l⟩ := x
  obtain ⟨g1, g2, g3, g4, g5, g6, g7, g8⟩ := hx
  simp only at g1 g2 g3 g4 g5 g6 g7 g8
  have eV : encV (m, nth, i, l) = (if m < 0 then 1 else 2 * m) + 32 * nth + 16384 * i + 1048576 * l := rfl
  have hm : ((encV (m, nth, i, l)).toNat &&& 13) = ((encV (m, nth, i, l)).toNat % 16 &&& 13) := by
    refine Nat.eq_of_testBit_eq (fun k => ?_)
    rw [Nat.testBit_and, Nat.testBit_and, show (16 : Nat) = 2 ^ 4 from rfl, Nat.testBit_mod_two_pow]
    by_cases hk : k < 4
    · simp [hk]
    · have : Nat.testBit 13 k = false := Nat.testBit_lt_two_pow (Nat.lt_of_lt_of_le (by decide : 13 < 2 ^ 4) (Nat.pow_le_pow_right (by decide) (by omega)))
      rw [this]
      simp
  rw [hm]
  have hmod : (encV (m, nth, i, l)).toNat % 16 = ((if m < 0 then (1 : Int) else 2 * m) % 16).toNat := by
    rw [eV]
    by_cases h0 : m < 0
    · rw [if_pos h0]
      omega
    · rw [if_neg h0]
      omega
  rw [hmod]
  unfold fbd
  have key : ∀ v : Nat, v < 16 → (((2 * v % 16 &&& 13 : Nat) : Int) ≠ 0 ↔ (v / 2 % 2 = 1 ∨ v / 4 % 2 = 1)) := by decide +kernel
  by_cases h0 : m < 0
  · rw [if_pos h0]
    exact ⟨fun _ => Or.inl h0, fun _ => by decide⟩
  · rw [if_neg h0]
    have := key m.toNat (by omega)
    rw [show ((2 * m) % 16).toNat = 2 * m.toNat % 16 by omega, this]
    show _ ↔ (m < 0 ∨ m / 2 % 2 = 1 ∨ m / 4 % 2 = 1)
    constructor
    · intro q
      right
      rcases q with q | q
      · left
        omega
      · right
        omega
    · intro q
      rcases q with q | q | q
      · exact absurd q h0
      · left
        omega
      · right
        omega
theorem FB_start {V : PV} {day : Int32} {x : IC} {w : Int32} (h : (w = 64 ∧ fbd x) ∨ (w = 0 ∧ ¬ fbd x)) : ∃ m, w = Int32.ofNat m ∧ FB V day x 0 m := by
  rcases h with ⟨rfl, h⟩ | ⟨rfl, h⟩
  · refine ⟨64, rfl, by decide, ⟨fun _ => h, fun _ => by decide⟩, fun k hk => ⟨fun q => ?_, fun q => absurd q.1 (Nat.not_lt_zero k)⟩⟩
    have : ∀ k : Nat, k < 6 → Nat.testBit 64 k = false := by decide
    rw [this k hk] at q
    exact absurd q (by decide)
  · refine ⟨0, rfl, by decide, ⟨fun q => ?_, fun q => absurd q h⟩, fun k hk => ⟨fun q => ?_, fun q => absurd q.1 (Nat.not_lt_zero k)⟩⟩
    · exact absurd q (by decide)
    · rw [Nat.zero_testBit] at q
      exact absurd q (by decide)
theorem FB_no {V : PV} {day : Int32} {x : IC} {n m : Nat} (h : FB V day x n m) (hv : (vlu V day x n).toInt = 0) : FB V day x (n + 1) m := by
  refine ⟨h.1, h.2.1, fun k hk => (h.2.2 k hk).trans ⟨fun q => ⟨by omega, q.2⟩, fun q => ⟨?_, q.2⟩⟩⟩
  have : k ≠ n := fun e => q.2 (by rw [e]; exact hv)
  omega
theorem FB_yes {V : PV} {day : Int32} {x : IC} {n m : Nat} (h : FB V day x n m) (hn : n < 6) (hv : (vlu V day x n).toInt ≠ 0) : FB V day x (n + 1) (m ||| 2 ^ n) := by
  have hp : 2 ^ n < 2 ^ 7 := Nat.pow_lt_pow_right (by decide) (by omega)
  refine ⟨Nat.or_lt_two_pow (n := 7) h.1 hp, ?_, fun k hk => ?_⟩
  · rw [Nat.testBit_or, Nat.testBit_two_pow]
    have : decide (n = 6) = false := decide_eq_false (by omega)
    rw [this, Bool.or_false]
    exact h.2.1
  · rw [Nat.testBit_or, Nat.testBit_two_pow]
    by_cases hkn : n = k
    · subst hkn
      simp [hv]
    · have : decide (n = k) = false := decide_eq_false hkn
      rw [this, Bool.or_false]
      exact (h.2.2 k hk).trans ⟨fun q => ⟨by omega, q.2⟩, fun q => ⟨by omega, q.2⟩⟩
/-- whether it is a LINE, told from the bits -/
theorem FB_line {V : PV} {day : Int32} {x : IC} {m t : Nat} {y p : Int32} (h : FB V day x V.2.2.1.length m) (hV : V.2.2.1.length ≤ 6) (hy : y = Int32.ofNat m) (hp : p.toInt = (t : Int)) (ht : t < 64) : (p.toInt = 0 → ((y &&& 64).toInt ≠ 0 ↔ LNs V day x t)) ∧ (p.toInt ≠ 0 → ((y &&& p).toInt ≠ 0 ↔ LNs V day x t)) := by
  have hm := h.1
  have ep : p = Int32.ofNat t := by
    rw [nat_i (x := p) (by omega), hp]
    rfl
  have e64 : (64 : Int32) = Int32.ofNat 64 := rfl
  refine ⟨fun h0 => ?_, fun h0 => ?_⟩
  · have t0 : t = 0 := by omega
    rw [hy, e64, n_and (by omega) (by decide)]
    unfold LNs
    constructor
    · intro q
      refine Or.inl ⟨t0, h.2.1.mp ?_⟩
      obtain ⟨k, k1, k2⟩ := meet_i.mp (show m &&& 64 ≠ 0 by omega)
      have e6 : k = 6 := by
        rw [show (64 : Nat) = 2 ^ 6 from rfl, Nat.testBit_two_pow] at k2
        have := of_decide_eq_true k2
        omega
      rw [← e6]
      exact k1
    · intro q
      rcases q with q | q
      · have : m &&& 64 ≠ 0 := meet_i.mpr ⟨6, h.2.1.mpr q.2, by decide⟩
        omega
      · exact absurd t0 q.1
  · have t0 : t ≠ 0 := by omega
    rw [hy, ep, n_and (by omega) (by omega)]
    unfold LNs
    constructor
    · intro q
      obtain ⟨k, k1, k2⟩ := meet_i.mp (show m &&& t ≠ 0 by omega)
      have hk : k < 6 := by
        refine Classical.byContradiction (fun w => ?_)
        have : t.testBit k = false := Nat.testBit_lt_two_pow (Nat.lt_of_lt_of_le ht (by
          have := Nat.pow_le_pow_right (show 0 < 2 by decide) (show 6 ≤ k by omega)
          exact this))
        rw [this] at k2
        exact absurd k2 (by decide)
      have := (h.2.2 k hk).mp k1
      exact Or.inr ⟨t0, k, this.1, k2, this.2⟩
    · intro q
      rcases q with q | ⟨-, k, k1, k2, k3⟩
      · exact absurd q.1 t0
      · have : m &&& t ≠ 0 := meet_i.mpr ⟨k, (h.2.2 k (by omega)).mpr ⟨k1, k3⟩, k2⟩
        omega

/-! LINES on both sides -/
/-- the reference: is an INCH a LINE -/
theorem q_isLine_eq {V : PV} {x : IC} {p0 p1 p2 r : Int32} {G G1 : GS} {s i t : Nat} (h : Q_isLine p0 p1 p2 G r G1) (hs : p0.toInt = (s : Int)) (hi : p2.toInt = (i : Int)) (ht : p1.toInt = (t : Int)) (ht64 : t < 64) (hx : IcR x (400 * s + i) G) (hxo : ICok x) (hl : (G.1 66 54).toInt = (V.2.2.1.length : Int)) (hV : PVok V) (hC : ∀ k, k < V.2.2.1.length → RCd k (V.2.2.1.getD k ([], [])).2 G) : Fr [76] [] G G1 ∧ (r.toInt ≠ 0 ↔ LNs V (G.1 110 6) x t) := by
  obtain ⟨-, hF, -, y1, t1, y2, t2, hh⟩ := h
  refine ⟨hF, ?_⟩
  have z0 : (0 : Int32).toInt = 0 := rfl
  have o1 : (1 : Int32).toInt = 1 := rfl
  have hy : y2.toInt = ((400 * s + i : Nat) : Int) := by clear hh; omega
  unfold LNs
  rcases hh with ⟨c, y35, e35, hh⟩ | ⟨c, x8, x9, G4, hl1, -, b9, -, -, hh⟩
  · have t0 : t = 0 := by clear hh; omega
    rw [cn_eq hy] at e35 hh
    have e35' : y35.toInt = x.1 := by rw [e35]; exact hx.1
    have hne : ∀ {b : Prop}, (b ↔ fbd x) → (b ↔ ((t = 0 ∧ fbd x) ∨ (t ≠ 0 ∧ ∃ k, k < V.2.2.1.length ∧ t.testBit k = true ∧ (vlu V (G.1 110 6) x k).toInt ≠ 0))) := fun hb => hb.trans ⟨fun q => Or.inl ⟨t0, q⟩, fun q => q.elim (fun w => w.2) (fun w => absurd t0 w.1)⟩
    rcases hh with ⟨d, rfl, -⟩ | ⟨d, y37, e37, y38, e38, hh⟩
    · exact hne ⟨fun _ => Or.inl (by omega), fun _ => by omega⟩
    · have e37' : y37.toInt = x.1 := by rw [e37]; exact hx.1
      obtain ⟨h1, h2, -⟩ := hxo
      have e3 : y37 = Int32.ofNat x.1.toNat := by rw [nat_i (x := y37) (by omega), e37']
      have e6 : (6 : Int32) = Int32.ofNat 6 := rfl
      have e4 : y38.toInt = ((x.1.toNat &&& 6 : Nat) : Int) := by
        rw [e38, e3, e6]
        exact n_and (by omega) (by decide)
      have key : ∀ v : Nat, v < 16 → ((v &&& 6) ≠ 0 ↔ (v / 2 % 2 = 1 ∨ v / 4 % 2 = 1)) := by decide +kernel
      have hk := key x.1.toNat (by omega)
      have hb : y38.toInt ≠ 0 ↔ fbd x := by
        unfold fbd
        constructor
        · intro q
          have := hk.mp (by omega)
          clear hk
          omega
        · intro q
          have := hk.mpr (by clear hk; omega)
          omega
      rcases hh with ⟨f, rfl, -⟩ | ⟨f, rfl, -⟩
      · exact hne ⟨fun q => absurd z0 q, fun q => absurd f (hb.mpr q)⟩
      · exact hne ⟨fun _ => hb.mp f, fun _ => by omega⟩
  · have t0 : t ≠ 0 := by clear hh; omega
    have hI := hl1 (fun q => (q.2.2.1 72 = G.1 72 ∧ q.2.2.1 73 = G.1 73 ∧ q.2.2.1 74 = G.1 74 ∧ q.2.2.1 87 = G.1 87 ∧ q.2.2.1 88 = G.1 88 ∧ q.2.2.1 89 = G.1 89 ∧ q.2.2.1 90 = G.1 90 ∧ q.2.2.1 110 = G.1 110) ∧ ∃ n : Nat, q.1.toInt = (n : Int) ∧ (q.2.1.toInt = 0 ∨ q.2.1.toInt = 1) ∧ (q.2.1.toInt ≠ 0 ↔ ∃ k, k < n ∧ k < V.2.2.1.length ∧ t.testBit k = true ∧ (vlu V (G.1 110 6) x k).toInt ≠ 0)) ⟨⟨rfl, rfl, rfl, rfl, rfl, rfl, rfl, rfl⟩, 0, rfl, Or.inl rfl, ⟨fun q => absurd z0 q, fun ⟨k, hk, _⟩ => absurd hk (Nat.not_lt_zero k)⟩⟩ (by
      rintro ⟨x1, b1, G_1⟩ ⟨xn, bn, G_1n⟩ ⟨⟨a1, a2, a3, a4, a5, a6, a7, a8⟩, n, i3, i4, i5⟩ ⟨x1q, b1q, G_1q, xnq, bnq, G_1nq, q1, q2, -, -, -, c1, c2, y18, e18, y19, e19, hd⟩
      obtain ⟨rfl, q1x⟩ := Prod.mk.inj q1
      obtain ⟨rfl, rfl⟩ := Prod.mk.inj q1x
      obtain ⟨rfl, q2x⟩ := Prod.mk.inj q2
      obtain ⟨rfl, rfl⟩ := Prod.mk.inj q2x
      simp only at a1 a2 a3 a4 a5 a6 a7 a8 i3 i4 i5
      have hno : ¬ ∃ k, k < n ∧ k < V.2.2.1.length ∧ t.testBit k = true ∧ (vlu V (G.1 110 6) x k).toInt ≠ 0 := fun q => (i5.mpr q) c2
      clear i5
      have hn : n < V.2.2.1.length := by clear hd; omega
      have hn6 : n < 6 := by have := hV.1; omega
      have hbit : y19.toInt = 1 ↔ t.testBit n = true := by
        have ex1 : x1 = Int32.ofNat n := by
          rw [nat_i (x := x1) (by omega), i3]
          rfl
        have hsh : (p1 >>> (x1 &&& 31)).toBitVec = p1.toBitVec.sshiftRight n := by
          have h5 : n = 0 ∨ n = 1 ∨ n = 2 ∨ n = 3 ∨ n = 4 ∨ n = 5 := by omega
          rcases h5 with rfl | rfl | rfl | rfl | rfl | rfl <;> rw [ex1] <;> rfl
        have s1 := shr_i hsh (c := 2 ^ n) rfl ht (by omega)
        have s2 := and_i (m := 1) (k := 1) (c := 2) rfl rfl s1 (Int.ediv_nonneg (by omega) (Int.ofNat_zero_le _))
        rw [e19, e18, s2, Nat.testBit_eq_decide_div_mod_eq, decide_eq_true_iff]
        have e5 : (t : Int) / ((2 ^ n : Nat) : Int) % ((2 : Nat) : Int) = ((t / 2 ^ n % 2 : Nat) : Int) := by
          rw [Int.natCast_emod, Int.natCast_ediv]
        rw [e5]
        omega
      have fin : ∀ {Gz : GS} {y w : Int32}, y.toInt = x1.toInt + 1 → Fr [76] [] G_1 Gz → (w.toInt = 0 ∨ w.toInt = 1) → (w.toInt ≠ 0 ↔ (t.testBit n = true ∧ (vlu V (G.1 110 6) x n).toInt ≠ 0)) → (Gz.1 72 = G.1 72 ∧ Gz.1 73 = G.1 73 ∧ Gz.1 74 = G.1 74 ∧ Gz.1 87 = G.1 87 ∧ Gz.1 88 = G.1 88 ∧ Gz.1 89 = G.1 89 ∧ Gz.1 90 = G.1 90 ∧ Gz.1 110 = G.1 110) ∧ ∃ n : Nat, y.toInt = (n : Int) ∧ (w.toInt = 0 ∨ w.toInt = 1) ∧ (w.toInt ≠ 0 ↔ ∃ k, k < n ∧ k < V.2.2.1.length ∧ t.testBit k = true ∧ (vlu V (G.1 110 6) x k).toInt ≠ 0) := by
        intro Gz y w ty hF2 hw01 hw
        refine ⟨⟨(hF2.row1 72 (by decide) (by decide)).trans a1, (hF2.row1 73 (by decide) (by decide)).trans a2, (hF2.row1 74 (by decide) (by decide)).trans a3, (hF2.row1 87 (by decide) (by decide)).trans a4, (hF2.row1 88 (by decide) (by decide)).trans a5, (hF2.row1 89 (by decide) (by decide)).trans a6, (hF2.row1 90 (by decide) (by decide)).trans a7, (hF2.row1 110 (by decide) (by decide)).trans a8⟩, n + 1, by clear hd hw hno hbit; omega, hw01, hw.trans ⟨fun q => ⟨n, by omega, hn, q.1, q.2⟩, fun ⟨k, k1, k2, k3, k4⟩ => ?_⟩⟩
        have : k = n := Classical.byContradiction (fun w => hno ⟨k, by omega, k2, k3, k4⟩)
        subst this
        exact ⟨k3, k4⟩
      rcases hd with ⟨d, r25, G26, hwk, hd⟩ | ⟨d, y21, t21, ex, eb, eG⟩
      · have hxr : IcR x (400 * s + i) G_1 := by
          unfold IcR
          rw [a4, a5, a6, a7]
          exact hx
        have hCr : RCd n (V.2.2.1.getD n ([], [])).2 G_1 := by
          have := hC n hn
          unfold RCd at this ⊢
          rw [a1, a2, a3]
          exact this
        have hv := q_worked_eq hwk i3 hy hCr hxr (hV.2.2 n hn)
        rw [a8] at hv
        have hv' : r25 = vlu V (G.1 110 6) x n := hv
        rcases hd with ⟨f, y31, t31, ex, eb, eG⟩ | ⟨f, y31, t31, ex, eb, eG⟩
        · subst eG
          refine fin (by rw [← ex]; exact t31) hwk.2.1 (by rw [← eb]; exact Or.inl rfl) ⟨fun q => absurd (by rw [← eb]; rfl) q, fun q => absurd f (by rw [hv']; exact q.2)⟩
        · subst eG
          refine fin (by rw [← ex]; exact t31) hwk.2.1 (by rw [← eb]; exact Or.inr rfl) ⟨fun _ => ⟨hbit.mp d, by rw [← hv']; exact f⟩, fun _ => by rw [← eb]; show (1 : Int32).toInt ≠ 0; decide⟩
      · subst eG
        refine fin (by rw [← ex]; exact t21) (fun _ _ _ _ => ⟨rfl, rfl, rfl⟩) (by rw [← eb]; exact Or.inl rfl) ⟨fun q => absurd (by rw [← eb]; rfl) q, fun q => absurd (hbit.mpr q.1) d⟩)
    obtain ⟨-, n, i3, i4, i5⟩ := hI
    simp only at i3 i4 i5
    have fin2 : (∃ k, k < n ∧ k < V.2.2.1.length ∧ t.testBit k = true ∧ (vlu V (G.1 110 6) x k).toInt ≠ 0) ∨ V.2.2.1.length ≤ n → ((x9.toInt ≠ 0) ↔ ((t = 0 ∧ fbd x) ∨ (t ≠ 0 ∧ ∃ k, k < V.2.2.1.length ∧ t.testBit k = true ∧ (vlu V (G.1 110 6) x k).toInt ≠ 0))) := by
      intro hcase
      refine i5.trans ⟨fun ⟨k, _, k2, k3, k4⟩ => Or.inr ⟨t0, k, k2, k3, k4⟩, fun q => ?_⟩
      rcases q with q | ⟨-, k, k2, k3, k4⟩
      · exact absurd q.1 t0
      · rcases hcase with w | w
        · exact w
        · exact ⟨k, by omega, k2, k3, k4⟩
    rcases hh with ⟨d, rfl, -⟩ | ⟨d, f, rfl, -⟩
    · exact fin2 (Or.inr (by clear i5 fin2; omega))
    · exact fin2 (Or.inl (i5.mp f))
/-- what the program has found holds: by STREET, of the day it was found on -/
def FoC_1 (V : PV) (s : Nat) (day : Int32) (G : GS) : Prop := ∀ i, i < (V.1.getD s ([], [])).2.length → ∃ m, G.1 37 (400 * s + i) = Int32.ofNat m ∧ FB V day ((V.1.getD s ([], [])).2.getD i (0, 0, 0, 0)) V.2.2.1.length m
def CaC_1 (V : PV) (G : GS) : Prop := ∀ s, s < V.1.length → (G.1 38 s).toInt = -1 ∨ FoC_1 V s (G.1 38 s) G
theorem k_find_1 {V : PV} {p0 day : Int32} {G G1 : GS} {s : Nat} (h : P_lFind_1 p0 day G G1) (hs : p0.toInt = (s : Int)) (hsl : s < V.1.length) (hs3 : V.1.length ≤ 3) (hW : CW_1 V G) (hV : PVok V) (hd0 : 0 ≤ day.toInt) (hCa : CaC_1 V G) : FoC_1 V s day G1 ∧ CaC_1 V G1 := by
  have hFall := h.2.1
  obtain ⟨-, -, r1, G2, hst, hh⟩ := h
  obtain ⟨rfl, k1⟩ := k_hasStreet_1_eq hst
  rw [hW.1.1] at k1
  have hr1 : r1.toInt ≠ 0 := k1.mpr ⟨by omega, by omega⟩
  clear k1
  obtain ⟨⟨hlen, hin⟩, hl4⟩ := hW.1.2 s hsl
  rcases hh with ⟨c, -⟩ | ⟨-, y8, e8, hh⟩
  · exact absurd c hr1
  rw [cn_eq hs] at e8
  rcases hh with ⟨c, rfl⟩ | ⟨c, x14, G10, hl, -, -, hF10, y19, e19, c19, hFe, e38⟩
  · refine ⟨?_, hCa⟩
    have ed : G.1 38 s = day := by rw [← e8]; exact Int32.toInt_inj.mp c
    rcases hCa s hsl with q | q
    · rw [ed] at q
      omega
    · rw [ed] at q
      exact q
  obtain ⟨I, hI⟩ : ∃ I, I = (V.1.getD s ([], [])).2 := ⟨_, rfl⟩
  rw [← hI] at hlen hin hl4
  have inner : ∀ {i : Nat} {x1 r22 : Int32} {Gq G23 : GS} {w33 x43 x44 : Int32} {G34 G39 : GS}, x1.toInt = (i : Int) → i < I.length → Gq.1 17 = G.1 17 → Gq.1 18 = G.1 18 → Gq.1 1 9 = G.1 1 9 → Gq.1 1 13 = G.1 1 13 → Gq.1 10 = G.1 10 → Gq.1 11 = G.1 11 → P_inchAt_1 p0 x1 Gq r22 G23 → Jn_k_lFind_1_2 (r22 &&& 13) G23 w33 G34 → Rc (St_k_lFind_1_3 day r22 G) (0, w33, G34) (x43, x44, G39) → (G.1 1 11).toInt ≤ x43.toInt → Gq = G34 ∧ ∃ m, x44 = Int32.ofNat m ∧ FB V day (I.getD i (0, 0, 0, 0)) V.2.2.1.length m := by
    intro i x1 r22 Gq G23 w33 x43 x44 G34 G39 hx1 hil z7 z8 z9 z13 z0 z1 hia hj hl3 hx43
    obtain ⟨-, -, r3, G4, hin3, hia⟩ := hia
    obtain ⟨rfl, k4⟩ := k_hasInch_1_eq hin3
    rw [z9, hW.1.1, cn_eq hs, z0, hlen] at k4
    have hr3 : r3.toInt ≠ 0 := k4.mpr ⟨⟨by omega, by omega⟩, by omega, by omega⟩
    clear k4
    rcases hia with ⟨q, -⟩ | ⟨-, y8', t8', y9', t9', y10', e10', rfl, rfl⟩
    · exact absurd q hr3
    obtain ⟨hen, hok⟩ := hin i hil
    rw [cn_eq (x := y9') (e := 400 * s + i) (by omega), z1, hen] at e10'
    have hb := fb_0 hok e10'
    have hjw : Gq = G34 ∧ ((w33 = 64 ∧ fbd (I.getD i (0, 0, 0, 0))) ∨ (w33 = 0 ∧ ¬ fbd (I.getD i (0, 0, 0, 0)))) := by
      rcases hj with ⟨q, e1, e2⟩ | ⟨q, e1, e2⟩
      · exact ⟨e2, Or.inr ⟨e1.symm, fun w => (hb.mpr w) q⟩⟩
      · exact ⟨e2, Or.inl ⟨e1.symm, hb.mp q⟩⟩
    obtain ⟨rfl, hw⟩ := hjw
    clear hb
    obtain ⟨m0, hm0, hfb0⟩ := FB_start (V := V) (day := day) hw
    refine ⟨rfl, ?_⟩
    have hI3 := hl3 (fun q => (q.2.2.1 17 = G.1 17 ∧ q.2.2.1 18 = G.1 18 ∧ q.2.2.1 1 13 = G.1 1 13) ∧ ∃ n m : Nat, q.1.toInt = (n : Int) ∧ n ≤ V.2.2.1.length ∧ q.2.1 = Int32.ofNat m ∧ FB V day (I.getD i (0, 0, 0, 0)) n m) ⟨⟨z7, z8, z13⟩, 0, m0, rfl, Nat.zero_le _, hm0, hfb0⟩ (by
      rintro ⟨u1, v1, G_1⟩ ⟨un, vn, G_1n⟩ ⟨⟨a7, a8, a13⟩, n, m, i3, i4, i5, i6⟩ ⟨u1q, v1q, G_1q, unq, vnq, G_1nq, q1, q2, -, -, c1, r56, G57, hva, hd⟩
      obtain ⟨rfl, q1x⟩ := Prod.mk.inj q1
      obtain ⟨rfl, rfl⟩ := Prod.mk.inj q1x
      obtain ⟨rfl, q2x⟩ := Prod.mk.inj q2
      obtain ⟨rfl, rfl⟩ := Prod.mk.inj q2x
      simp only at a7 a8 a13 i3 i5
      have hR := hW.2.2.1
      have hn : n < V.2.2.1.length := by have := hR.1; clear hd; omega
      have hC' : CodeC_1 0 (fcd V.2.2.1) G_1 := by
        have := hR.2.2.1
        unfold CodeC_1 at this ⊢
        rw [a7, a13]
        exact this
      have hE' : EndC_1 V.2.2.1 G_1 := by
        have := hR.2.2.2
        unfold EndC_1 at this ⊢
        rw [a8]
        exact this
      have hv := k_value_1 hva i3 hn hC' hE' hV.2.1 hok e10' (hV.2.2 n hn)
      have hv' : r56 = vlu V day (I.getD i (0, 0, 0, 0)) n := hv
      have b7 := (hva.2.1.row1 17 (by decide) (by decide)).trans a7
      have b8 := (hva.2.1.row1 18 (by decide) (by decide)).trans a8
      have b13 := (hva.2.1.i 1 13 (by decide) (by decide)).trans a13
      have hm := i6.1
      rcases hd with ⟨f, y62, e62, y63, t63, ex, ev, eG⟩ | ⟨f, y64, e64, y65, e65, y66, t66, ex, ev, eG⟩
      · subst eG
        refine ⟨⟨b7, b8, b13⟩, n + 1, m, by show un.toInt = _; rw [← ex]; omega, by omega, ?_, FB_no i6 (by rw [← hv']; exact f)⟩
        show vn = _
        have e0 : (0 : Int32) = Int32.ofNat 0 := rfl
        rw [← ev, e62, i5, e0, n_or hm (by decide), Nat.or_zero]
      · subst eG
        have hn6 : n < 6 := by have := hV.1; omega
        refine ⟨⟨b7, b8, b13⟩, n + 1, m ||| 2 ^ n, by show un.toInt = _; rw [← ex]; omega, by omega, ?_, FB_yes i6 hn6 (by rw [← hv']; exact f)⟩
        show vn = _
        have eu : u1 = Int32.ofNat n := by
          rw [nat_i (x := u1) (by omega), i3]
          rfl
        have hp : 2 ^ n < 2 ^ 7 := Nat.pow_lt_pow_right (by decide) (by omega)
        rw [← ev, e65, e64, i5, eu, sh_pow n (by omega), n_or hm (by omega)])
    obtain ⟨-, n, m, i3, i4, i5, i6⟩ := hI3
    simp only at i3 i5
    have hn : n = V.2.2.1.length := by have := hW.2.2.1.1; omega
    subst hn
    exact ⟨m, i5, i6⟩
  have hI1 := hl (fun q => (q.2.1 17 = G.1 17 ∧ q.2.1 18 = G.1 18 ∧ q.2.1 1 9 = G.1 1 9 ∧ q.2.1 1 13 = G.1 1 13 ∧ q.2.1 10 = G.1 10 ∧ q.2.1 11 = G.1 11) ∧ (∀ j, j < 400 * s ∨ 400 * s + 400 ≤ j → q.2.1 37 j = G.1 37 j) ∧ ∃ n : Nat, q.1.toInt = (n : Int) ∧ n ≤ I.length ∧ ∀ i, i < n → ∃ m, q.2.1 37 (400 * s + i) = Int32.ofNat m ∧ FB V day (I.getD i (0, 0, 0, 0)) V.2.2.1.length m) ⟨⟨rfl, rfl, rfl, rfl, rfl, rfl⟩, fun _ _ => rfl, 0, rfl, Nat.zero_le _, fun i hi => absurd hi (Nat.not_lt_zero i)⟩ (by
    rintro ⟨x1, G_1⟩ ⟨xn, G_1n⟩ ⟨⟨a7, a8, a9, a13, a0, a1⟩, i2, n, i3, i4, i5⟩ ⟨x1q, G_1q, xnq, G_1nq, q1, q2, -, -, z19, f19, c1, r22, G23, hia, y27, e27, w33, G34, hj, -, -, -, x43, x44, G39, hl3, -, -, hF39, c43, y51, t51, y52, t52, y54, t54, ex, hFn, e37⟩
    obtain ⟨rfl, rfl⟩ := Prod.mk.inj q1
    obtain ⟨rfl, rfl⟩ := Prod.mk.inj q2
    simp only at a7 a8 a9 a13 a0 a1 i2 i3 i5
    rw [cn_eq hs, a0] at f19
    have hz : z19.toInt = (I.length : Int) := by rw [f19]; exact hlen
    subst e27
    obtain ⟨rfl, m, hm, hfb⟩ := inner i3 (by omega) a7 a8 a9 a13 a0 a1 hia hj hl3 c43
    have hy : y52.toNatClampNeg = 400 * s + n := cn_eq (by omega)
    rw [hy, hF39.row1 37 (by decide) (by decide)] at e37
    refine ⟨⟨?_, ?_, ?_, ?_, ?_, ?_⟩, fun j hj => ?_, n + 1, by show xn.toInt = _; rw [← ex]; omega, by omega, fun i hi => ?_⟩
    · exact ((hFn.row1 17 (by decide) (by decide)).trans (hF39.row1 17 (by decide) (by decide))).trans a7
    · exact ((hFn.row1 18 (by decide) (by decide)).trans (hF39.row1 18 (by decide) (by decide))).trans a8
    · exact ((hFn.i 1 9 (by decide) (by decide)).trans (hF39.i 1 9 (by decide) (by decide))).trans a9
    · exact ((hFn.i 1 13 (by decide) (by decide)).trans (hF39.i 1 13 (by decide) (by decide))).trans a13
    · exact ((hFn.row1 10 (by decide) (by decide)).trans (hF39.row1 10 (by decide) (by decide))).trans a0
    · exact ((hFn.row1 11 (by decide) (by decide)).trans (hF39.row1 11 (by decide) (by decide))).trans a1
    · show G_1n.1 37 j = _
      rw [e37, show upd (G_1.1 37) (400 * s + n) x44 j = G_1.1 37 j from if_neg (by omega)]
      exact i2 j hj
    · show ∃ m, G_1n.1 37 (400 * s + i) = _ ∧ _
      by_cases hin' : i = n
      · subst hin'
        refine ⟨m, ?_, hfb⟩
        rw [e37, show upd (G_1.1 37) (400 * s + i) x44 (400 * s + i) = x44 from if_pos rfl]
        exact hm
      · obtain ⟨m2, h1, h2⟩ := i5 i (by omega)
        refine ⟨m2, ?_, h2⟩
        rw [e37, show upd (G_1.1 37) (400 * s + n) x44 (400 * s + i) = G_1.1 37 (400 * s + i) from if_neg (by omega)]
        exact h1)
  obtain ⟨⟨a7, a8, a9, a13, a0, a1⟩, i2, n, i3, i4, i5⟩ := hI1
  simp only at a0 i2 i3 i5
  rw [cn_eq hs, a0] at e19
  have hz : y19.toInt = (I.length : Int) := by rw [e19]; exact hlen
  have hn : n = I.length := by omega
  subst hn
  have r37 : G1.1 37 = G10.1 37 := hFe.row1 37 (by decide) (by decide)
  have hFo : FoC_1 V s day G1 := by
    intro i hi
    rw [← hI] at hi ⊢
    rw [r37]
    exact i5 i hi
  refine ⟨hFo, fun s' hs' => ?_⟩
  rw [cn_eq hs, hF10.row1 38 (by decide) (by decide)] at e38
  by_cases hss : s' = s
  · subst hss
    right
    rw [e38, show upd (G.1 38) s' day s' = day from if_pos rfl]
    exact hFo
  · rw [e38, show upd (G.1 38) s day s' = G.1 38 s' from if_neg hss]
    rcases hCa s' hs' with q | q
    · exact Or.inl q
    · right
      intro i hi
      have hl' := (hW.1.2 s' hs').2
      obtain ⟨m, m1, m2⟩ := q i hi
      refine ⟨m, ?_, m2⟩
      rw [r37, i2 (400 * s' + i) (by omega)]
      exact m1
theorem k_isLine_1 {V : PV} {p0 p1 p2 r day : Int32} {G G1 : GS} {s i t : Nat} (h : P_lIsLine_1 p0 p1 p2 G r G1) (hs : p0.toInt = (s : Int)) (hsl : s < V.1.length) (hi : p2.toInt = (i : Int)) (ht : p1.toInt = (t : Int)) (ht64 : t < 64) (hW : CW_1 V G) (hV : PVok V) (hF : FoC_1 V s day G) : G = G1 ∧ (r.toInt ≠ 0 ↔ (i < (V.1.getD s ([], [])).2.length ∧ LNs V day ((V.1.getD s ([], [])).2.getD i (0, 0, 0, 0)) t)) := by
  obtain ⟨-, hFr, -, r1, G2, hin, hh⟩ := h
  refine ⟨hFr.nil, ?_⟩
  obtain ⟨rfl, k1⟩ := k_hasInch_1_eq hin
  rw [hW.1.1, cn_eq hs, (hW.1.2 s hsl).1.1] at k1
  have z : (0 : Int32).toInt = 0 := rfl
  have o : (1 : Int32).toInt = 1 := rfl
  rcases hh with ⟨c, rfl, -⟩ | ⟨c, y8, t8, y9, t9, y10, e10, hh⟩
  · exact ⟨fun q => absurd z q, fun q => absurd c (k1.mpr ⟨⟨by omega, by omega⟩, by omega, by have := q.1; omega⟩)⟩
  have hil : i < (V.1.getD s ([], [])).2.length := by
    have := (k1.mp c).2.2
    omega
  clear k1
  obtain ⟨m, m1, m2⟩ := hF i hil
  rw [cn_eq (x := y9) (e := 400 * s + i) (by clear hh; omega)] at e10
  obtain ⟨l1, l2⟩ := FB_line m2 hV.1 (e10.trans m1) ht ht64
  rcases hh with ⟨d, y14, e14, hh⟩ | ⟨d, y14, e14, hh⟩
  · have := l1 d
    rw [← e14] at this
    rcases hh with ⟨f, rfl, -⟩ | ⟨f, rfl, -⟩
    · exact ⟨fun q => absurd z q, fun q => absurd f (this.mpr q.2)⟩
    · exact ⟨fun _ => ⟨hil, this.mp f⟩, fun _ => by omega⟩
  · have := l2 d
    rw [← e14] at this
    rcases hh with ⟨f, rfl, -⟩ | ⟨f, rfl, -⟩
    · exact ⟨fun q => absurd z q, fun q => absurd f (this.mpr q.2)⟩
    · exact ⟨fun _ => ⟨hil, this.mp f⟩, fun _ => by omega⟩
/-- what the program has found holds: by STREET, of the day it was found on -/
def FoC_2 (V : PV) (s : Nat) (day : Int32) (G : GS) : Prop := ∀ i, i < (V.1.getD s ([], [])).2.length → ∃ m, G.1 37 (400 * s + i) = Int32.ofNat m ∧ FB V day ((V.1.getD s ([], [])).2.getD i (0, 0, 0, 0)) V.2.2.1.length m
def CaC_2 (V : PV) (G : GS) : Prop := ∀ s, s < V.1.length → (G.1 38 s).toInt = -1 ∨ FoC_2 V s (G.1 38 s) G
theorem k_find_2 {V : PV} {p0 day : Int32} {G G1 : GS} {s : Nat} (h : P_lFind_2 p0 day G G1) (hs : p0.toInt = (s : Int)) (hsl : s < V.1.length) (hs3 : V.1.length ≤ 3) (hW : CW_2 V G) (hV : PVok V) (hd0 : 0 ≤ day.toInt) (hCa : CaC_2 V G) : FoC_2 V s day G1 ∧ CaC_2 V G1 := by
  have hFall := h.2.1
  obtain ⟨-, -, r1, G2, hst, hh⟩ := h
  obtain ⟨rfl, k1⟩ := k_hasStreet_2_eq hst
  rw [hW.1.1] at k1
  have hr1 : r1.toInt ≠ 0 := k1.mpr ⟨by omega, by omega⟩
  clear k1
  obtain ⟨⟨hlen, hin⟩, hl4⟩ := hW.1.2 s hsl
  rcases hh with ⟨c, -⟩ | ⟨-, y8, e8, hh⟩
  · exact absurd c hr1
  rw [cn_eq hs] at e8
  rcases hh with ⟨c, rfl⟩ | ⟨c, x14, G10, hl, -, -, hF10, y19, e19, c19, hFe, e38⟩
  · refine ⟨?_, hCa⟩
    have ed : G.1 38 s = day := by rw [← e8]; exact Int32.toInt_inj.mp c
    rcases hCa s hsl with q | q
    · rw [ed] at q
      omega
    · rw [ed] at q
      exact q
  obtain ⟨I, hI⟩ : ∃ I, I = (V.1.getD s ([], [])).2 := ⟨_, rfl⟩
  rw [← hI] at hlen hin hl4
  have inner : ∀ {i : Nat} {x1 r22 : Int32} {Gq G23 : GS} {w33 x43 x44 : Int32} {G34 G39 : GS}, x1.toInt = (i : Int) → i < I.length → Gq.1 27 = G.1 27 → Gq.1 28 = G.1 28 → Gq.1 2 9 = G.1 2 9 → Gq.1 2 13 = G.1 2 13 → Gq.1 20 = G.1 20 → Gq.1 21 = G.1 21 → P_inchAt_2 p0 x1 Gq r22 G23 → Jn_k_lFind_2_2 (r22 &&& 13) G23 w33 G34 → Rc (St_k_lFind_2_3 day r22 G) (0, w33, G34) (x43, x44, G39) → (G.1 2 11).toInt ≤ x43.toInt → Gq = G34 ∧ ∃ m, x44 = Int32.ofNat m ∧ FB V day (I.getD i (0, 0, 0, 0)) V.2.2.1.length m := by
    intro i x1 r22 Gq G23 w33 x43 x44 G34 G39 hx1 hil z7 z8 z9 z13 z0 z1 hia hj hl3 hx43
    obtain ⟨-, -, r3, G4, hin3, hia⟩ := hia
    obtain ⟨rfl, k4⟩ := k_hasInch_2_eq hin3
    rw [z9, hW.1.1, cn_eq hs, z0, hlen] at k4
    have hr3 : r3.toInt ≠ 0 := k4.mpr ⟨⟨by omega, by omega⟩, by omega, by omega⟩
    clear k4
    rcases hia with ⟨q, -⟩ | ⟨-, y8', t8', y9', t9', y10', e10', rfl, rfl⟩
    · exact absurd q hr3
    obtain ⟨hen, hok⟩ := hin i hil
    rw [cn_eq (x := y9') (e := 400 * s + i) (by omega), z1, hen] at e10'
    have hb := fb_0 hok e10'
    have hjw : Gq = G34 ∧ ((w33 = 64 ∧ fbd (I.getD i (0, 0, 0, 0))) ∨ (w33 = 0 ∧ ¬ fbd (I.getD i (0, 0, 0, 0)))) := by
      rcases hj with ⟨q, e1, e2⟩ | ⟨q, e1, e2⟩
      · exact ⟨e2, Or.inr ⟨e1.symm, fun w => (hb.mpr w) q⟩⟩
      · exact ⟨e2, Or.inl ⟨e1.symm, hb.mp q⟩⟩
    obtain ⟨rfl, hw⟩ := hjw
    clear hb
    obtain ⟨m0, hm0, hfb0⟩ := FB_start (V := V) (day := day) hw
    refine ⟨rfl, ?_⟩
    have hI3 := hl3 (fun q => (q.2.2.1 27 = G.1 27 ∧ q.2.2.1 28 = G.1 28 ∧ q.2.2.1 2 13 = G.1 2 13) ∧ ∃ n m : Nat, q.1.toInt = (n : Int) ∧ n ≤ V.2.2.1.length ∧ q.2.1 = Int32.ofNat m ∧ FB V day (I.getD i (0, 0, 0, 0)) n m) ⟨⟨z7, z8, z13⟩, 0, m0, rfl, Nat.zero_le _, hm0, hfb0⟩ (by
      rintro ⟨u1, v1, G_1⟩ ⟨un, vn, G_1n⟩ ⟨⟨a7, a8, a13⟩, n, m, i3, i4, i5, i6⟩ ⟨u1q, v1q, G_1q, unq, vnq, G_1nq, q1, q2, -, -, c1, r56, G57, hva, hd⟩
      obtain ⟨rfl, q1x⟩ := Prod.mk.inj q1
      obtain ⟨rfl, rfl⟩ := Prod.mk.inj q1x
      obtain ⟨rfl, q2x⟩ := Prod.mk.inj q2
      obtain ⟨rfl, rfl⟩ := Prod.mk.inj q2x
      simp only at a7 a8 a13 i3 i5
      have hR := hW.2.2.1
      have hn : n < V.2.2.1.length := by have := hR.1; clear hd; omega
      have hC' : CodeC_2 0 (fcd V.2.2.1) G_1 := by
        have := hR.2.2.1
        unfold CodeC_2 at this ⊢
        rw [a7, a13]
        exact this
      have hE' : EndC_2 V.2.2.1 G_1 := by
        have := hR.2.2.2
        unfold EndC_2 at this ⊢
        rw [a8]
        exact this
      have hv := k_value_2 hva i3 hn hC' hE' hV.2.1 hok e10' (hV.2.2 n hn)
      have hv' : r56 = vlu V day (I.getD i (0, 0, 0, 0)) n := hv
      have b7 := (hva.2.1.row1 27 (by decide) (by decide)).trans a7
      have b8 := (hva.2.1.row1 28 (by decide) (by decide)).trans a8
      have b13 := (hva.2.1.i 2 13 (by decide) (by decide)).trans a13
      have hm := i6.1
      rcases hd with ⟨f, y62, e62, y63, t63, ex, ev, eG⟩ | ⟨f, y64, e64, y65, e65, y66, t66, ex, ev, eG⟩
      · subst eG
        refine ⟨⟨b7, b8, b13⟩, n + 1, m, by show un.toInt = _; rw [← ex]; omega, by omega, ?_, FB_no i6 (by rw [← hv']; exact f)⟩
        show vn = _
        have e0 : (0 : Int32) = Int32.ofNat 0 := rfl
        rw [← ev, e62, i5, e0, n_or hm (by decide), Nat.or_zero]
      · subst eG
        have hn6 : n < 6 := by have := hV.1; omega
        refine ⟨⟨b7, b8, b13⟩, n + 1, m ||| 2 ^ n, by show un.toInt = _; rw [← ex]; omega, by omega, ?_, FB_yes i6 hn6 (by rw [← hv']; exact f)⟩
        show vn = _
        have eu : u1 = Int32.ofNat n := by
          rw [nat_i (x := u1) (by omega), i3]
          rfl
        have hp : 2 ^ n < 2 ^ 7 := Nat.pow_lt_pow_right (by decide) (by omega)
        rw [← ev, e65, e64, i5, eu, sh_pow n (by omega), n_or hm (by omega)])
    obtain ⟨-, n, m, i3, i4, i5, i6⟩ := hI3
    simp only at i3 i5
    have hn : n = V.2.2.1.length := by have := hW.2.2.1.1; omega
    subst hn
    exact ⟨m, i5, i6⟩
  have hI1 := hl (fun q => (q.2.1 27 = G.1 27 ∧ q.2.1 28 = G.1 28 ∧ q.2.1 2 9 = G.1 2 9 ∧ q.2.1 2 13 = G.1 2 13 ∧ q.2.1 20 = G.1 20 ∧ q.2.1 21 = G.1 21) ∧ (∀ j, j < 400 * s ∨ 400 * s + 400 ≤ j → q.2.1 37 j = G.1 37 j) ∧ ∃ n : Nat, q.1.toInt = (n : Int) ∧ n ≤ I.length ∧ ∀ i, i < n → ∃ m, q.2.1 37 (400 * s + i) = Int32.ofNat m ∧ FB V day (I.getD i (0, 0, 0, 0)) V.2.2.1.length m) ⟨⟨rfl, rfl, rfl, rfl, rfl, rfl⟩, fun _ _ => rfl, 0, rfl, Nat.zero_le _, fun i hi => absurd hi (Nat.not_lt_zero i)⟩ (by
    rintro ⟨x1, G_1⟩ ⟨xn, G_1n⟩ ⟨⟨a7, a8, a9, a13, a0, a1⟩, i2, n, i3, i4, i5⟩ ⟨x1q, G_1q, xnq, G_1nq, q1, q2, -, -, z19, f19, c1, r22, G23, hia, y27, e27, w33, G34, hj, -, -, -, x43, x44, G39, hl3, -, -, hF39, c43, y51, t51, y52, t52, y54, t54, ex, hFn, e37⟩
    obtain ⟨rfl, rfl⟩ := Prod.mk.inj q1
    obtain ⟨rfl, rfl⟩ := Prod.mk.inj q2
    simp only at a7 a8 a9 a13 a0 a1 i2 i3 i5
    rw [cn_eq hs, a0] at f19
    have hz : z19.toInt = (I.length : Int) := by rw [f19]; exact hlen
    subst e27
    obtain ⟨rfl, m, hm, hfb⟩ := inner i3 (by omega) a7 a8 a9 a13 a0 a1 hia hj hl3 c43
    have hy : y52.toNatClampNeg = 400 * s + n := cn_eq (by omega)
    rw [hy, hF39.row1 37 (by decide) (by decide)] at e37
    refine ⟨⟨?_, ?_, ?_, ?_, ?_, ?_⟩, fun j hj => ?_, n + 1, by show xn.toInt = _; rw [← ex]; omega, by omega, fun i hi => ?_⟩
    · exact ((hFn.row1 27 (by decide) (by decide)).trans (hF39.row1 27 (by decide) (by decide))).trans a7
    · exact ((hFn.row1 28 (by decide) (by decide)).trans (hF39.row1 28 (by decide) (by decide))).trans a8
    · exact ((hFn.i 2 9 (by decide) (by decide)).trans (hF39.i 2 9 (by decide) (by decide))).trans a9
    · exact ((hFn.i 2 13 (by decide) (by decide)).trans (hF39.i 2 13 (by decide) (by decide))).trans a13
    · exact ((hFn.row1 20 (by decide) (by decide)).trans (hF39.row1 20 (by decide) (by decide))).trans a0
    · exact ((hFn.row1 21 (by decide) (by decide)).trans (hF39.row1 21 (by decide) (by decide))).trans a1
    · show G_1n.1 37 j = _
      rw [e37, show upd (G_1.1 37) (400 * s + n) x44 j = G_1.1 37 j from if_neg (by omega)]
      exact i2 j hj
    · show ∃ m, G_1n.1 37 (400 * s + i) = _ ∧ _
      by_cases hin' : i = n
      · subst hin'
        refine ⟨m, ?_, hfb⟩
        rw [e37, show upd (G_1.1 37) (400 * s + i) x44 (400 * s + i) = x44 from if_pos rfl]
        exact hm
      · obtain ⟨m2, h1, h2⟩ := i5 i (by omega)
        refine ⟨m2, ?_, h2⟩
        rw [e37, show upd (G_1.1 37) (400 * s + n) x44 (400 * s + i) = G_1.1 37 (400 * s + i) from if_neg (by omega)]
        exact h1)
  obtain ⟨⟨a7, a8, a9, a13, a0, a1⟩, i2, n, i3, i4, i5⟩ := hI1
  simp only at a0 i2 i3 i5
  rw [cn_eq hs, a0] at e19
  have hz : y19.toInt = (I.length : Int) := by rw [e19]; exact hlen
  have hn : n = I.length := by omega
  subst hn
  have r37 : G1.1 37 = G10.1 37 := hFe.row1 37 (by decide) (by decide)
  have hFo : FoC_2 V s day G1 := by
    intro i hi
    rw [← hI] at hi ⊢
    rw [r37]
    exact i5 i hi
  refine ⟨hFo, fun s' hs' => ?_⟩
  rw [cn_eq hs, hF10.row1 38 (by decide) (by decide)] at e38
  by_cases hss : s' = s
  · subst hss
    right
    rw [e38, show upd (G.1 38) s' day s' = day from if_pos rfl]
    exact hFo
  · rw [e38, show upd (G.1 38) s day s' = G.1 38 s' from if_neg hss]
    rcases hCa s' hs' with q | q
    · exact Or.inl q
    · right
      intro i hi
      have hl' := (hW.1.2 s' hs').2
      obtain ⟨m, m1, m2⟩ := q i hi
      refine ⟨m, ?_, m2⟩
      rw [r37, i2 (400 * s' + i) (by omega)]
      exact m1
theorem k_isLine_2 {V : PV} {p0 p1 p2 r day : Int32} {G G1 : GS} {s i t : Nat} (h : P_lIsLine_2 p0 p1 p2 G r G1) (hs : p0.toInt = (s : Int)) (hsl : s < V.1.length) (hi : p2.toInt = (i : Int)) (ht : p1.toInt = (t : Int)) (ht64 : t < 64) (hW : CW_2 V G) (hV : PVok V) (hF : FoC_2 V s day G) : G = G1 ∧ (r.toInt ≠ 0 ↔ (i < (V.1.getD s ([], [])).2.length ∧ LNs V day ((V.1.getD s ([], [])).2.getD i (0, 0, 0, 0)) t)) := by
  obtain ⟨-, hFr, -, r1, G2, hin, hh⟩ := h
  refine ⟨hFr.nil, ?_⟩
  obtain ⟨rfl, k1⟩ := k_hasInch_2_eq hin
  rw [hW.1.1, cn_eq hs, (hW.1.2 s hsl).1.1] at k1
  have z : (0 : Int32).toInt = 0 := rfl
  have o : (1 : Int32).toInt = 1 := rfl
  rcases hh with ⟨c, rfl, -⟩ | ⟨c, y8, t8, y9, t9, y10, e10, hh⟩
  · exact ⟨fun q => absurd z q, fun q => absurd c (k1.mpr ⟨⟨by omega, by omega⟩, by omega, by have := q.1; omega⟩)⟩
  have hil : i < (V.1.getD s ([], [])).2.length := by
    have := (k1.mp c).2.2
    omega
  clear k1
  obtain ⟨m, m1, m2⟩ := hF i hil
  rw [cn_eq (x := y9) (e := 400 * s + i) (by clear hh; omega)] at e10
  obtain ⟨l1, l2⟩ := FB_line m2 hV.1 (e10.trans m1) ht ht64
  rcases hh with ⟨d, y14, e14, hh⟩ | ⟨d, y14, e14, hh⟩
  · have := l1 d
    rw [← e14] at this
    rcases hh with ⟨f, rfl, -⟩ | ⟨f, rfl, -⟩
    · exact ⟨fun q => absurd z q, fun q => absurd f (this.mpr q.2)⟩
    · exact ⟨fun _ => ⟨hil, this.mp f⟩, fun _ => by omega⟩
  · have := l2 d
    rw [← e14] at this
    rcases hh with ⟨f, rfl, -⟩ | ⟨f, rfl, -⟩
    · exact ⟨fun q => absurd z q, fun q => absurd f (this.mpr q.2)⟩
    · exact ⟨fun _ => ⟨hil, this.mp f⟩, fun _ => by omega⟩

/-! what a text that is told leaves: RULES well made, not too long */ -/
theorem sy_lt {b : Nat → Int} {n : Nat} {s s' : FS} (hn : n ≤ 1600) (hp : s.2.1 ≤ n) (h : sy b n s = .inl s') : s.2.1 < s'.2.1 ∧ s'.2.1 ≤ n := by
  obtain ⟨m, p, S, C, u, w⟩ := s
  simp only at hp
  have ht := tN_p (b := b) hn hp
  show p < s'.2.1 ∧ s'.2.1 ≤ n
  cases m with
  | true =>
    have h' : syB b n p S C u w = .inl s' := h
    unfold syB at h'
    by_cases c1 : tK b n p = 146 ∧ mno S = true
    · rw [if_pos c1] at h'
      by_cases c2 : 6 < dps S
      · rw [if_pos c2] at h'
        exact absurd h' (by simp)
      · rw [if_neg c2] at h'
        have e := Sum.inl.inj h'
        subst e
        exact ⟨(ht.2.2 (by omega)).1, ht.2.1⟩
    · rw [if_neg c1] at h'
      by_cases c2 : tK b n p = 40
      · rw [if_pos c2] at h'
        by_cases c3 : (w = 90 ∨ u = 30) ∨ 6 < dps S
        · rw [if_pos c3] at h'
          exact absurd h' (by simp)
        · rw [if_neg c3] at h'
          have e := Sum.inl.inj h'
          subst e
          exact ⟨(ht.2.2 (by omega)).1, ht.2.1⟩
      · rw [if_neg c2] at h'
        by_cases c3 : (tK b n p ≠ 201 ∧ ask (tK b n p) < 0) ∨ (w = 90 ∨ u = 30)
        · rw [if_pos c3] at h'
          exact absurd h' (by simp)
        · rw [if_neg c3] at h'
          have e := Sum.inl.inj h'
          subst e
          have hne : tK b n p ≠ 203 := fun q => c3 (Or.inl ⟨by omega, by rw [q]; decide⟩)
          exact ⟨(ht.2.2 hne).1, ht.2.1⟩
  | false =>
    have h' : syA b n p S C u w = .inl s' := h
    unfold syA at h'
    by_cases c1 : tK b n p = 41 ∧ 20 ∈ S
    · rw [if_pos c1] at h'
      have e := Sum.inl.inj h'
      subst e
      exact ⟨(ht.2.2 (by omega)).1, ht.2.1⟩
    · rw [if_neg c1] at h'
      by_cases c2 : sig (tK b n p) ≠ 0 ∧ ¬ (tgt (sig (tK b n p)) = 4 ∧ hrl S = true)
      · rw [if_pos c2] at h'
        have e := Sum.inl.inj h'
        subst e
        exact ⟨(ht.2.2 (sig_n c2.1).2.2).1, ht.2.1⟩
      · rw [if_neg c2] at h'
        by_cases c3 : (20 : Int) ∈ S
        · rw [if_pos c3] at h'
          exact absurd h' (by simp)
        · rw [if_neg c3] at h'
          exact absurd h' (by simp)
theorem Ev_ex {b : Nat → Int} {n : Nat} (hn : n ≤ 1600) : ∀ (k : Nat) (s : FS), s.2.1 ≤ n → n - s.2.1 < k → ∃ o, Ev b n s o
  | 0, _, _, h => absurd h (Nat.not_lt_zero _)
  | k + 1, s, hp, h => by
    cases e : sy b n s with
    | inr o => exact ⟨o, (Ev_r e).mpr rfl⟩
    | inl s' =>
      obtain ⟨h1, h2⟩ := sy_lt hn hp e
      obtain ⟨o, ho⟩ := Ev_ex hn k s' h2 (by omega)
      exact ⟨o, (Ev_i e).mpr ho⟩
theorem pForm_ok {b : Nat → Int} {n p q : Nat} {w : Int} {x : List (Int × Int) × Int} (hn : n ≤ 1600) (hp : p ≤ n) (h : pForm b n w p = .inr (x, q)) : ∃ u, FEnd p q w x.1 u x.2 := by
  obtain ⟨o, ho⟩ := Ev_ex (b := b) hn (n - p + 1) (true, p, [], [], 0, w) hp (by show n - p < n - p + 1; omega)
  cases o with
  | inl f =>
    rw [pForm_l ho] at h
    exact absurd h (by simp)
  | inr t =>
    obtain ⟨p', C, u, w'⟩ := t
    rw [pForm_r ho] at h
    have e := Sum.inr.inj h
    obtain ⟨rfl, rfl⟩ := Prod.mk.inj e
    exact ⟨u, Ev_ok hn hp ho⟩
theorem bnd_inv {α β : Type} {o : Rs α} {k : α → Nat → Rs β} {r : β × Nat} (h : bnd o k = .inr r) : ∃ x q, o = .inr (x, q) ∧ k x q = .inr r := by
  cases o with
  | inl f => exact absurd h (by simp [bnd])
  | inr t =>
    obtain ⟨x, q⟩ := t
    exact ⟨x, q, rfl, h⟩
theorem smi_inv {α : Type} {b : Nat → Int} {n : Nat} {o : Rs α} {x : α} {q : Nat} (h : smi b n o = .inr (x, q)) : ∃ q1, o = .inr (x, q1) ∧ tK b n q1 = 59 ∧ q = tNx b n q1 := by
  unfold smi at h
  obtain ⟨y, q1, h1, h2⟩ := bnd_inv h
  obtain ⟨y2, q2, h3, h4⟩ := bnd_inv h2
  have e := Sum.inr.inj h4
  obtain ⟨rfl, rfl⟩ := Prod.mk.inj e
  refine ⟨q1, h1, ?_, pKw_n h3⟩
  unfold pKw at h3
  by_cases c : tK b n q1 = 59
  · exact c
  · rw [if_neg c] at h3
    exact absurd h3 (by simp)
theorem pName_n {b : Nat → Int} {n p q : Nat} {NS : List (List Int)} {L : List Int} (h : pName b n NS p = .inr (L, q)) : q = tNx b n p := by
  unfold pName at h
  by_cases c : tK b n p ≠ 200
  · rw [if_pos c] at h
    exact absurd h (by simp)
  · rw [if_neg c] at h
    by_cases c2 : tL b n p ∈ NS
    · rw [if_pos c2] at h
      exact absurd h (by simp)
    · rw [if_neg c2] at h
      have e := Sum.inr.inj h
      exact (Prod.mk.inj e).2.symm
def PI (n : Nat) (V : PV) (p : Nat) : Prop := V.2.2.1.length ≤ 6 ∧ 4 * ((fcd V.2.2.1).length : Int) ≤ 8 * V.2.2.2.1 + (p : Int) ∧ V.2.2.2.1 ≤ 90 ∧ p ≤ n ∧ ∀ k, k < V.2.2.1.length → FOK (V.2.2.1.getD k ([], [])).2
theorem PI.ok {n : Nat} {V : PV} {p : Nat} (h : PI n V p) (hn : n ≤ 1600) : PVok V := by
  obtain ⟨h1, h2, h3, h4, h5⟩ := h
  exact ⟨h1, by omega, h5⟩
theorem PI.same {n : Nat} {V V' : PV} {p p' : Nat} (h : PI n V p) (e1 : V'.2.2.1 = V.2.2.1) (e2 : V'.2.2.2.1 = V.2.2.2.1) (hp : p ≤ p') (hp' : p' ≤ n) : PI n V' p' := by
  obtain ⟨h1, h2, h3, h4, h5⟩ := h
  unfold PI
  rw [e1, e2]
  exact ⟨h1, by omega, h3, hp', h5⟩
theorem PI_step {b : Nat → Int} {n p p' : Nat} {V V' : PV} (hn : n ≤ 1600) (h : PI n V p) (hl : pLn b n V p = .inr (V', p')) (hpp : p < p') (hp' : p' ≤ n) (hw : V'.2.2.2.1 ≤ 90) : PI n V' p' := by
  by_cases c1 : tK b n p = 128 ∧ V.1.length < 3
  · rw [pLn_1 c1.1 c1.2] at hl
    obtain ⟨x, q, -, h2⟩ := bnd_inv hl
    obtain ⟨rfl, rfl⟩ := Prod.mk.inj (Sum.inr.inj h2)
    exact h.same rfl rfl (by omega) hp'
  by_cases c2 : tK b n p = 129 ∧ V.2.1.length < 4
  · rw [pLn_2 c2.1 c2.2] at hl
    obtain ⟨x, q, -, h2⟩ := bnd_inv hl
    obtain ⟨rfl, rfl⟩ := Prod.mk.inj (Sum.inr.inj h2)
    exact h.same rfl rfl (by omega) hp'
  by_cases c3 : tK b n p = 134 ∧ V.2.2.1.length < 6
  · rw [pLn_3 c3.1 c3.2] at hl
    obtain ⟨x, q, h1, h2⟩ := bnd_inv hl
    obtain ⟨rfl, rfl⟩ := Prod.mk.inj (Sum.inr.inj h2)
    obtain ⟨q1, h3, h59, eq⟩ := smi_inv h1
    unfold pRule at h3
    obtain ⟨L, q0, h4, h5⟩ := bnd_inv h3
    obtain ⟨y, q2, h6, h7⟩ := bnd_inv h5
    obtain ⟨rfl, rfl⟩ := Prod.mk.inj (Sum.inr.inj h7)
    obtain ⟨g1, g2, g3, g4, g5⟩ := h
    have t1 := tN_p (b := b) hn g4
    have t2 := tN_p (b := b) hn t1.2.1
    have e0 := pName_n h4
    obtain ⟨u, f1, f2, f3, f4, f5, f6, f7, f8, f9⟩ := pForm_ok hn (by omega) h6
    have hq2 : q2 ≤ n := by
      refine Classical.byContradiction (fun w => ?_)
      have r := (rn_p (c := blk) (b := b) (n := n) 1601 q2 (by omega)).1
      have : tK b n q2 = 203 := by
        unfold tK
        rw [if_pos (by show n ≤ tS b n q2; unfold tS; omega)]
      omega
    have t3 := tN_p (b := b) hn hq2
    refine ⟨?_, ?_, hw, hp', fun k hk => ?_⟩
    · show (V.2.2.1 ++ [(L, y.1)]).length ≤ 6
      rw [List.length_append, List.length_singleton]
      omega
    · show 4 * ((fcd (V.2.2.1 ++ [(L, y.1)])).length : Int) ≤ 8 * y.2 + _
      rw [fcd_snoc, List.length_append]
      show 4 * (((fcd V.2.2.1).length + y.1.length : Nat) : Int) ≤ 8 * y.2 + _
      omega
    · have hk' : k < (V.2.2.1 ++ [(L, y.1)]).length := hk
      show FOK ((V.2.2.1 ++ [(L, y.1)]).getD k ([], [])).2
      rw [List.length_append, List.length_singleton] at hk'
      rw [getD_app]
      by_cases hkl : k < V.2.2.1.length
      · rw [if_pos hkl]
        exact g5 k hkl
      · rw [if_neg hkl, show k - V.2.2.1.length = 0 by omega]
        exact ⟨f1, f2, by show nPu y.1 ≤ 30; omega⟩
  by_cases c4 : tK b n p = 135 ∧ V.2.2.2.2.1.isNone = true
  · rw [pLn_4 c4.1 c4.2] at hl
    obtain ⟨x, q, -, h2⟩ := bnd_inv hl
    obtain ⟨rfl, rfl⟩ := Prod.mk.inj (Sum.inr.inj h2)
    exact h.same rfl rfl (by omega) hp'
  by_cases c5 : tK b n p = 136 ∧ V.2.2.2.2.2.1.isNone = true
  · rw [pLn_5 c5.1 c5.2] at hl
    obtain ⟨x, q, -, h2⟩ := bnd_inv hl
    obtain ⟨rfl, rfl⟩ := Prod.mk.inj (Sum.inr.inj h2)
    exact h.same rfl rfl (by omega) hp'
  by_cases c6 : tK b n p = 138 ∧ V.2.2.2.2.2.2.isNone = true
  · rw [pLn_6 c6.1 c6.2] at hl
    obtain ⟨x, q, -, h2⟩ := bnd_inv hl
    obtain ⟨rfl, rfl⟩ := Prod.mk.inj (Sum.inr.inj h2)
    exact h.same rfl rfl (by omega) hp'
  rw [pLn_0 c1 c2 c3 c4 c5 c6] at hl
  exact absurd hl (by simp)
def AP (b : Nat → Int) (n : Nat) (G : GS) : Prop := (∃ f, MF f G ∧ parse b n = .inl f) ∨ (∃ V p, MP b n G p ∧ MV V G ∧ PI n V p ∧ ∀ o, Et (topS b n) (V0, 0) o ↔ Et (topS b n) (V, p) o)
theorem m_readAllP {b : Nat → Int} {n : Nat} {G G1 : GS} (h : Q_readAll G G1) (hn0 : (G.1 66 1).toInt = (n : Int)) (hn : n ≤ 1600) (hT : ∀ j, j < n → (G.1 67 j).toInt = b j ∧ 0 ≤ b j ∧ b j ≤ 255) : (∃ f, parse b n = .inl f ∧ MF f G1) ∨ (∃ V p, parse b n = .inr (V, p) ∧ MV V G1 ∧ (G1.1 66 2).toInt = 0 ∧ (G1.1 66 3).toInt = -1 ∧ PVok V) := by
  obtain ⟨-, -, -, G19, -, hF19, e1, e2, e3, e4, e5, e21, e45, e46, e47, e48, e49, e50, e51, e86, G23, htk, G27, hl, -, -, -, hh⟩ := h
  have hX : XM b n G19 := by
    refine ⟨by rw [e5]; exact hn0, hn, ?_⟩
    rw [hF19.row1 67 (by decide) (by decide)]
    exact hT
  obtain ⟨hX2, hT2⟩ := r_tok (q := 0) hX (by rw [e4]; rfl) (Nat.zero_le n) htk
  have hp0 : MP b n G23 0 := ⟨hX2, hT2, ⟨by rw [htk.2.1.i 66 2 (by decide) (by decide), e2]; rfl, by rw [htk.2.1.i 66 3 (by decide) (by decide), e3]; rfl⟩, Nat.zero_le n⟩
  have hV0 : MV V0 G19 := by
    refine ⟨⟨by rw [e45]; rfl, by decide, fun k hk => absurd hk (Nat.not_lt_zero k), fun s hs => absurd hs (Nat.not_lt_zero s)⟩, ⟨by rw [e46]; rfl, by decide, fun k hk => absurd hk (Nat.not_lt_zero k), fun s hs => absurd hs (Nat.not_lt_zero s)⟩, ⟨by rw [e47]; rfl, by decide, fun k hk => absurd hk (Nat.not_lt_zero k), by rw [e21]; rfl, by decide, by decide, fun s hs => absurd hs (Nat.not_lt_zero s)⟩, ⟨by rw [e86]; rfl, by rw [e86]; rfl, by rw [e86]; rfl⟩, ⟨by rw [e48]; rfl, by rw [e49]; rfl⟩, ?_, by rw [e51]; rfl⟩
    show (G19.1 66 50).toInt = 0
    rw [e50]
    rfl
  have hI : AP b n G27 := hl (fun q => AP b n q) (Or.inr ⟨V0, 0, hp0, hV0.tok htk.2.1, ⟨by decide, by decide, by decide, Nat.zero_le n, fun k hk => absurd hk (Nat.not_lt_zero k)⟩, fun o => Iff.rfl⟩) (by
    rintro Ga Gb hi ⟨Gc, Gd, rfl, rfl, -, -, hf0, hs0, G49, hln, rfl⟩
    rcases hi with ⟨f, hm, -⟩ | ⟨V, p, hp, hV, hP, hE⟩
    · exact absurd hf0 (by have := hm.pos; omega)
    · have k203 : tK b n p ≠ 203 := fun q => hs0 (hp.so.2.2.2.1.mpr q)
      rcases m_line hln hp hV with ⟨f, e, hm⟩ | ⟨V', p', e, hp', hpp, hV'⟩
      · exact Or.inl ⟨f, hm, run_eq ((hE _).mpr ((Et_r (topS_l k203 e)).mpr rfl))⟩
      · exact Or.inr ⟨V', p', hp', hV', PI_step hn hP e hpp hp'.2.2.2 hV'.2.2.1.2.2.2.2.2.1, fun o => (hE o).trans (Et_i (topS_r k203 e))⟩)
  rcases hI with ⟨f, hm, he⟩ | ⟨V, p, hp, hV, hP, hE⟩
  · have hpo := hm.pos
    rcases hh with ⟨c, -⟩ | ⟨-, rfl⟩
    · omega
    · exact Or.inl ⟨f, he, hm⟩
  · have hf0 := hp.k2
    rcases hh with ⟨-, c, rfl⟩ | ⟨c, -⟩
    · exact Or.inr ⟨V, p, run_eq ((hE _).mpr ((Et_r (topS_e (hp.so.2.2.2.1.mp c))).mpr rfl)), hV, hp.2.2.1.1, hp.2.2.1.2, hP.ok hn⟩
    · exact absurd hf0 c

/-! who walks, ACTS, BOXES: each side by itself -/
theorem ud_at {f : Nat → Int32} {i : Nat} {v : Int32} : upd f i v i = v := if_pos rfl
theorem ud_no {f : Nat → Int32} {i j : Nat} {v : Int32} (h : j ≠ i) : upd f i v j = f j := if_neg h
theorem cpy_in {f g : Nat → Int32} {sp dp n k : Nat} (h1 : dp ≤ k) (h2 : k < dp + n) : va_cpy f g sp dp n k = f (sp + (k - dp)) := if_pos ⟨h1, h2⟩
theorem cpy_out {f g : Nat → Int32} {sp dp n k : Nat} (h : k < dp ∨ dp + n ≤ k) : va_cpy f g sp dp n k = g k := if_neg (by omega)
theorem z32 : (0 : Int32).toNatClampNeg = 0 ∧ (1 : Int32).toNatClampNeg = 1 ∧ (2 : Int32).toNatClampNeg = 2 ∧ (3 : Int32).toNatClampNeg = 3 ∧ (4 : Int32).toNatClampNeg = 4 ∧ (5 : Int32).toNatClampNeg = 5 ∧ (6 : Int32).toNatClampNeg = 6 ∧ (7 : Int32).toNatClampNeg = 7 ∧ (8 : Int32).toNatClampNeg = 8 ∧ (9 : Int32).toNatClampNeg = 9 ∧ (10 : Int32).toNatClampNeg = 10 ∧ (400 : Int32).toNatClampNeg = 400 := ⟨rfl, rfl, rfl, rfl, rfl, rfl, rfl, rfl, rfl, rfl, rfl, rfl⟩
/-- rows that are copied place by place -/
theorem cp_loop {S : Int32 × GS → Int32 × GS → Prop} {src dst N so dp : Nat} {G G1 : GS} {x : Int32} (hl : Rc S (0, G) (x, G1)) (hS : ∀ (y : Int32) (Gy : GS) (yn : Int32) (Gn : GS), S (y, Gy) (yn, Gn) → ∀ k : Nat, y.toInt = (k : Int) → k < N ∧ yn.toInt = (k : Int) + 1 ∧ Gn.1 dst = upd (Gy.1 dst) (dp + k) (Gy.1 src (so + k)) ∧ Gn.1 src = Gy.1 src) (hx : (N : Int) ≤ x.toInt) : (∀ j, j < N → G1.1 dst (dp + j) = G.1 src (so + j)) ∧ (∀ i, i < dp ∨ dp + N ≤ i → G1.1 dst i = G.1 dst i) ∧ G1.1 src = G.1 src := by
  have hI := hl (fun q => q.2.1 src = G.1 src ∧ ∃ k : Nat, q.1.toInt = (k : Int) ∧ k ≤ N ∧ (∀ j, j < k → q.2.1 dst (dp + j) = G.1 src (so + j)) ∧ ∀ i, i < dp ∨ dp + k ≤ i → q.2.1 dst i = G.1 dst i) ⟨rfl, 0, rfl, Nat.zero_le _, fun j hj => absurd hj (Nat.not_lt_zero j), fun _ _ => rfl⟩ (by
    rintro ⟨y, Gy⟩ ⟨yn, Gn⟩ ⟨i1, k, i2, i3, i4, i5⟩ hs
    simp only at i1 i2 i4 i5
    obtain ⟨s1, s2, s3, s4⟩ := hS y Gy yn Gn hs k i2
    refine ⟨s4.trans i1, k + 1, by show yn.toInt = _; omega, by omega, fun j hj => ?_, fun i hi => ?_⟩
    · show Gn.1 dst (dp + j) = _
      rw [s3, i1]
      by_cases hjk : j = k
      · subst hjk
        exact ud_at
      · rw [ud_no (by omega)]
        exact i4 j (by omega)
    · show Gn.1 dst i = _
      rw [s3, ud_no (by omega)]
      exact i5 i (by omega))
  obtain ⟨i1, k, i2, i3, i4, i5⟩ := hI
  simp only at i1 i2 i4 i5
  have hk : k = N := by omega
  subst hk
  exact ⟨i4, i5, i1⟩
def shd (n : Nat) : Nat := if n < 40 then 0 else 1
theorem shd_r {n : Nat} (h : n ≤ 40) : (n < 40 ∧ shd n = 0) ∨ (n = 40 ∧ shd n = 1) := by
  unfold shd
  by_cases q : n < 40
  · exact Or.inl ⟨q, if_pos q⟩
  · exact Or.inr ⟨by omega, if_neg q⟩
/-- the program keeps an ACT -/
theorem c_keep {G G1 : GS} {n : Nat} (h : P_eKeep G G1) (hn : (G.1 30 4).toInt = (n : Int)) (hn4 : n ≤ 40) : (G1.1 30 4).toInt = ((n + 1 - shd n : Nat) : Int) ∧ (G1.1 30 5).toInt = 0 ∧ (∀ k j, k < n + 1 - shd n → j < 10 → G1.1 59 (10 * k + j) = G.1 59 (10 * (k + shd n) + j)) ∧ ∀ j, j < 10 → G1.1 59 (10 * (n + 1 - shd n) + j) = G.1 58 j := by
  obtain ⟨-, -, -, hh⟩ := h
  obtain ⟨z0, -, -, -, -, -, -, -, -, -, z10, z400⟩ := z32
  rcases hh with ⟨c, y3, t3, y6, t6, hF, e4, e5, e59⟩ | ⟨c, hF, e4, e5, e59⟩
  · rcases shd_r hn4 with ⟨hlt, hs⟩ | ⟨hlt, hs⟩
    · rw [hs, Nat.sub_zero]
      rw [cn_eq (x := y6) (e := 10 * (n + 1)) (by omega), z0, z10] at e59
      refine ⟨by rw [e4]; omega, by rw [e5]; rfl, fun k j hk hj => ?_, fun j hj => ?_⟩
      · rw [e59, cpy_out (by omega), Nat.add_zero]
      · rw [e59, cpy_in (by omega) (by omega), show 0 + (10 * (n + 1) + j - 10 * (n + 1)) = j by omega]
    · omega
  · rcases shd_r hn4 with ⟨hlt, hs⟩ | ⟨hlt, hs⟩
    · omega
    · subst hlt
      rw [hs]
      rw [z0, z10, z400] at e59
      refine ⟨by rw [e4]; rfl, by rw [e5]; rfl, fun k j hk hj => ?_, fun j hj => ?_⟩
      · rw [e59, cpy_out (by omega), cpy_in (by omega) (by omega), show 10 + (10 * k + j - 0) = 10 * (k + 1) + j by omega]
      · rw [e59, cpy_in (by omega) (by omega), show 0 + (10 * (40 + 1 - 1) + j - 400) = j by omega]
theorem m_act1 {G G3 : GS} {x : Int32} {n : Nat} (hl : Rc (St_n_act_1 G) (0, G) (x, G3)) (hx : 10 ≤ x.toInt) (hn : (G.1 66 78).toInt = (n : Int)) : (∀ j, j < 10 → G3.1 111 (16 * n + j) = G.1 110 (0 + j)) ∧ (∀ i, i < 16 * n ∨ 16 * n + 10 ≤ i → G3.1 111 i = G.1 111 i) ∧ G3.1 110 = G.1 110 := by
  refine cp_loop (N := 10) (so := 0) (dp := 16 * n) hl (fun y Gy yn Gn hs k hk => ?_) hx
  obtain ⟨a, b, an, bn, q1, q2, -, -, c, y18, t18, y19, t19, y20, e20, y22, t22, ex, hF, w⟩ := hs
  obtain ⟨rfl, rfl⟩ := Prod.mk.inj q1
  obtain ⟨rfl, rfl⟩ := Prod.mk.inj q2
  rw [cn_eq (x := y19) (e := 16 * n + k) (by omega), e20, cn_eq hk] at w
  refine ⟨by omega, by rw [← ex]; omega, by rw [Nat.zero_add]; exact w, hF.row1 110 (by decide) (by decide)⟩
theorem m_act3 {G G3 : GS} {x y33 : Int32} {n : Nat} (hl : Rc (St_n_act_3 y33) (0, G) (x, G3)) (hx : 10 ≤ x.toInt) (hn : y33.toInt = (n : Int)) : (∀ j, j < 10 → G3.1 111 (16 * n + j) = G.1 110 (0 + j)) ∧ (∀ i, i < 16 * n ∨ 16 * n + 10 ≤ i → G3.1 111 i = G.1 111 i) ∧ G3.1 110 = G.1 110 := by
  refine cp_loop (N := 10) (so := 0) (dp := 16 * n) hl (fun y Gy yn Gn hs k hk => ?_) hx
  obtain ⟨a, b, an, bn, q1, q2, -, -, c, y18, t18, y19, t19, y20, e20, y22, t22, ex, hF, w⟩ := hs
  obtain ⟨rfl, rfl⟩ := Prod.mk.inj q1
  obtain ⟨rfl, rfl⟩ := Prod.mk.inj q2
  rw [cn_eq (x := y19) (e := 16 * n + k) (by omega), e20, cn_eq hk] at w
  refine ⟨by omega, by rw [← ex]; omega, by rw [Nat.zero_add]; exact w, hF.row1 110 (by decide) (by decide)⟩
theorem m_act2 {G G3 : GS} {x : Int32} (hl : Rc St_n_act_2 (0, G) (x, G3)) (hx : 624 ≤ x.toInt) : (∀ i, i < 624 → G3.1 111 i = G.1 111 (16 + i)) ∧ G3.1 110 = G.1 110 := by
  have hI := hl (fun q => q.2.1 110 = G.1 110 ∧ ∃ k : Nat, q.1.toInt = (k : Int) ∧ (∀ i, i < k → q.2.1 111 i = G.1 111 (16 + i)) ∧ ∀ i, k ≤ i → q.2.1 111 i = G.1 111 i) ⟨rfl, 0, rfl, fun j hj => absurd hj (Nat.not_lt_zero j), fun _ _ => rfl⟩ (by
    rintro ⟨y, Gy⟩ ⟨yn, Gn⟩ ⟨i1, k, i2, i4, i5⟩ ⟨a, b, an, bn, q1, q2, -, -, c, y55, t55, y56, e56, y58, t58, ex, hF, w⟩
    obtain ⟨rfl, rfl⟩ := Prod.mk.inj q1
    obtain ⟨rfl, rfl⟩ := Prod.mk.inj q2
    simp only at i1 i2 i4 i5
    rw [cn_eq (x := y55) (e := 16 + k) (by omega)] at e56
    rw [cn_eq i2, e56] at w
    refine ⟨(hF.row1 110 (by decide) (by decide)).trans i1, k + 1, by show yn.toInt = _; rw [← ex]; omega, fun i hi => ?_, fun i hi => ?_⟩
    · show Gn.1 111 i = _
      rw [w]
      by_cases hik : i = k
      · subst hik
        rw [ud_at]
        exact i5 (16 + i) (by omega)
      · rw [ud_no hik]
        exact i4 i (by omega)
    · show Gn.1 111 i = _
      rw [w, ud_no (by omega)]
      exact i5 i (by omega))
  obtain ⟨i1, k, i2, i4, i5⟩ := hI
  simp only at i1 i2 i4
  exact ⟨fun i hi => i4 i (by omega), i1⟩
/-- the reference keeps an ACT: what was ahead of it -/
theorem m_act {G G1 : GS} {n : Nat} (h : Q_act G G1) (hn : (G.1 66 78).toInt = (n : Int)) (hn4 : n ≤ 40) : (G1.1 66 78).toInt = ((n + 1 - shd n : Nat) : Int) ∧ (G1.1 66 79).toInt = 0 ∧ (∀ k j, k + 1 < n + 1 - shd n → j < 10 → G1.1 111 (16 * k + j) = G.1 111 (16 * (k + shd n) + j)) ∧ ∀ j, j < 10 → G1.1 111 (16 * (n - shd n) + j) = G.1 110 j := by
  obtain ⟨-, -, -, hh⟩ := h
  rcases hh with ⟨c, x27, G23, hl2, -, -, -, c2, y33, t33, G34, -, hF34, e34, x39, G35, hl3, -, -, -, c3, y45, t45, hFe, e78, e79⟩ | ⟨c, x7, G3, hl1, -, -, -, c2, y13, t13, hFe, e78, e79⟩
  · rcases shd_r hn4 with ⟨hlt, hs⟩ | ⟨hlt, hs⟩
    · omega
    · subst hlt
      rw [hs]
      obtain ⟨a1, a2⟩ := m_act2 hl2 c2
      obtain ⟨b1, b2, b3⟩ := m_act3 (n := 39) hl3 c3 (by omega)
      have r111 : G1.1 111 = G35.1 111 := hFe.row1 111 (by decide) (by decide)
      refine ⟨by rw [e78]; omega, by rw [e79]; rfl, fun k j hk hj => ?_, fun j hj => ?_⟩
      · rw [r111, b2 _ (by omega), hF34.row1 111 (by decide) (by decide), a1 _ (by omega), show 16 + (16 * k + j) = 16 * (k + 1) + j by omega]
      · rw [r111, show 40 - 1 = 39 from rfl, b1 j hj, Nat.zero_add, hF34.row1 110 (by decide) (by decide), a2]
  · rcases shd_r hn4 with ⟨hlt, hs⟩ | ⟨hlt, hs⟩
    · rw [hs, Nat.sub_zero, Nat.sub_zero]
      obtain ⟨b1, b2, b3⟩ := m_act1 hl1 c2 hn
      have r111 : G1.1 111 = G3.1 111 := hFe.row1 111 (by decide) (by decide)
      refine ⟨by rw [e78]; omega, by rw [e79]; rfl, fun k j hk hj => ?_, fun j hj => ?_⟩
      · rw [r111, b2 _ (by omega), Nat.add_zero]
      · rw [r111, b1 j hj, Nat.zero_add]
    · omega
theorem m_exch {G G1 : GS} {p0 : Int32} {p : Nat} (h : Q_exchange p0 G G1) (hp : p0.toInt = (p : Int)) : (∀ j, j < 10 → G1.1 110 j = G.1 111 (p + j) ∧ G1.1 111 (p + j) = G.1 110 j) ∧ (∀ i, i < p ∨ p + 10 ≤ i → G1.1 111 i = G.1 111 i) := by
  obtain ⟨-, -, x, G2, hl, -, -, -, c, rfl⟩ := h
  have hI := hl (fun q => ∃ k : Nat, q.1.toInt = (k : Int) ∧ k ≤ 10 ∧ (∀ j, j < k → q.2.1 110 j = G.1 111 (p + j) ∧ q.2.1 111 (p + j) = G.1 110 j) ∧ (∀ j, k ≤ j → q.2.1 110 j = G.1 110 j) ∧ ∀ i, i < p ∨ p + k ≤ i → q.2.1 111 i = G.1 111 i) ⟨0, rfl, by decide, fun j hj => absurd hj (Nat.not_lt_zero j), fun _ _ => rfl, fun _ _ => rfl⟩ (by
    rintro ⟨y, Gy⟩ ⟨yn, Gn⟩ ⟨k, i2, i3, i4, i5, i6⟩ ⟨a, b, an, bn, q1, q2, -, -, c1, y11, t11, y12, e12, y13, t13, y14, e14, y17, t17, ex, hF, w0, w1⟩
    obtain ⟨rfl, rfl⟩ := Prod.mk.inj q1
    obtain ⟨rfl, rfl⟩ := Prod.mk.inj q2
    simp only at i2 i4 i5 i6
    rw [cn_eq (x := y11) (e := p + k) (by omega), i6 (p + k) (by omega)] at e12
    rw [cn_eq i2, i5 k (Nat.le_refl k)] at e14
    rw [cn_eq i2, e12] at w0
    rw [cn_eq (x := y13) (e := p + k) (by omega), e14] at w1
    refine ⟨k + 1, by show yn.toInt = _; rw [← ex]; omega, by omega, fun j hj => ?_, fun j hj => ?_, fun i hi => ?_⟩
    · show Gn.1 110 j = _ ∧ Gn.1 111 (p + j) = _
      rw [w0, w1]
      by_cases hjk : j = k
      · subst hjk
        exact ⟨ud_at, ud_at⟩
      · rw [ud_no hjk, ud_no (by omega)]
        exact i4 j (by omega)
    · show Gn.1 110 j = _
      rw [w0, ud_no (by omega)]
      exact i5 j (by omega)
    · show Gn.1 111 i = _
      rw [w1, ud_no (by omega)]
      exact i6 i (by omega))
  obtain ⟨k, i2, i3, i4, i5, i6⟩ := hI
  simp only at i2 i4 i6
  have hk : k = 10 := by omega
  subst hk
  exact ⟨i4, i6⟩
/-! both sides -/
def ROK (V : PV) (v : Nat → Int32) : Prop := ((v 0).toInt = -1 ∨ (0 ≤ (v 0).toInt ∧ (v 0).toInt < (V.2.1.length : Int) ∧ 0 ≤ (v 1).toInt ∧ (v 1).toInt < (V.1.length : Int))) ∧ (0 ≤ (v 6).toInt ∧ (v 6).toInt ≤ 1000) ∧ ((v 9).toInt = 0 ∨ (v 9).toInt = 1) ∧ 0 ≤ (v 8).toInt ∧ (v 8).toInt < 64
theorem ROK.cg {V : PV} {v w : Nat → Int32} (h : ROK V v) (e : ∀ j, j < 10 → w j = v j) : ROK V w := by
  unfold ROK at h ⊢
  rw [e 0 (by decide), e 1 (by decide), e 6 (by decide), e 8 (by decide), e 9 (by decide)]
  exact h
def ERn (V : PV) (G : GS) (n m : Nat) : Prop := ((G.1 30 4).toInt = (n : Int) ∧ (G.1 30 5).toInt = (m : Int) ∧ (G.1 66 78).toInt = (n : Int) ∧ (G.1 66 79).toInt = (m : Int) ∧ n + m ≤ 40) ∧ (∀ j, j < 10 → G.1 110 j = G.1 58 j) ∧ (∀ k, k ≤ n + m → ROK V (fun j => G.1 59 (10 * k + j))) ∧ (∀ j, j < 10 → G.1 59 (10 * n + j) = G.1 58 j) ∧ (∀ k j, k < n → j < 10 → G.1 111 (16 * k + j) = G.1 59 (10 * k + j)) ∧ ∀ k j, n ≤ k → k < n + m → j < 10 → G.1 111 (16 * k + j) = G.1 59 (10 * (k + 1) + j)
def BXs (V : PV) (G : GS) : Prop := ∃ f : Nat, f < 8 ∧ G.1 30 3 = Int32.ofNat f ∧ ∀ b, b < 3 → ((G.1 117 b).toInt ≠ 0 ↔ f.testBit b = true) ∧ (f.testBit b = true → (∀ j, j < 10 → G.1 118 (16 * b + j) = G.1 60 (10 * b + j)) ∧ ROK V (fun j => G.1 60 (10 * b + j)))
def ER (V : PV) (G : GS) : Prop := (∃ n m, ERn V G n m) ∧ BXs V G
theorem ERn.now {V : PV} {G : GS} {n m : Nat} (h : ERn V G n m) : ROK V (G.1 58) := (h.2.2.1 n (by omega)).cg (fun j hj => (h.2.2.2.1 j hj).symm)
theorem ERn.now2 {V : PV} {G : GS} {n m : Nat} (h : ERn V G n m) : ROK V (G.1 110) := h.now.cg (fun j hj => h.2.1 j hj)
/-- nothing of it is touched -/
theorem ERn.fr {V : PV} {G G1 : GS} {n m : Nat} (h : ERn V G n m) (hr : ∀ i, i ∈ [58, 59, 110, 111] → G1.1 i = G.1 i) (hf : ∀ y : Nat × Nat, y ∈ [(30, 4), (30, 5), (66, 78), (66, 79)] → G1.1 y.1 y.2 = G.1 y.1 y.2) : ERn V G1 n m := by
  unfold ERn at h ⊢
  rw [hf (30, 4) (by decide), hf (30, 5) (by decide), hf (66, 78) (by decide), hf (66, 79) (by decide), hr 58 (by decide), hr 59 (by decide), hr 110 (by decide), hr 111 (by decide)]
  exact h
theorem BXs.fr {V : PV} {G G1 : GS} (h : BXs V G) (hr : ∀ i, i ∈ [60, 117, 118] → G1.1 i = G.1 i) (hf : G1.1 30 3 = G.1 30 3) : BXs V G1 := by
  unfold BXs at h ⊢
  rw [hf, hr 60 (by decide), hr 117 (by decide), hr 118 (by decide)]
  exact h
/-- an ACT on both sides: the program's new row w (kept behind it), the reference's of the same places -/
theorem ER_act {V : PV} {G Gc Gd Gm Gn : GS} {n m : Nat} (h : ERn V G n m) (hk : P_eKeep Gc Gd) (hFc : ∀ i, i ∈ [59] → Gc.1 i = G.1 i) (hc4 : Gc.1 30 4 = G.1 30 4) (ha : Q_act Gm Gn) (hm110 : Gm.1 110 = G.1 110) (hm111 : Gm.1 111 = G.1 111) (hm78 : Gm.1 66 78 = G.1 66 78) (hw : ROK V (Gc.1 58)) {Gz : GS} (z58 : Gz.1 58 = Gd.1 58) (z59 : Gz.1 59 = Gd.1 59) (z4 : Gz.1 30 4 = Gd.1 30 4) (z5 : Gz.1 30 5 = Gd.1 30 5) (z111 : Gz.1 111 = Gn.1 111) (z78 : Gz.1 66 78 = Gn.1 66 78) (z79 : Gz.1 66 79 = Gn.1 66 79) (zr : ∀ j, j < 10 → Gz.1 110 j = Gc.1 58 j) : ERn V Gz (n + 1 - shd n) 0 := by
  obtain ⟨⟨h1, h2, h3, h4, h5⟩, h6, h7, h8, h9, h10⟩ := h
  have r58 : Gd.1 58 = Gc.1 58 := hk.2.1.row1 58 (by decide) (by decide)
  have hn4 : n ≤ 40 := by omega
  obtain ⟨k1, k2, k3, k4⟩ := c_keep (n := n) hk (by rw [hc4]; exact h1) hn4
  obtain ⟨m1, m2, m3, m4⟩ := m_act (n := n) ha (by rw [hm78]; exact h3) hn4
  rw [hFc 59 (by decide)] at k3
  rw [hm111] at m3
  rw [hm110] at m4
  have hsh := shd_r hn4
  refine ⟨⟨by rw [z4]; exact k1, by rw [z5]; exact k2, by rw [z78]; exact m1, by rw [z79]; exact m2, by omega⟩, fun j hj => by rw [zr j hj, z58, r58], fun k hkn => ?_, fun j hj => ?_, fun k j hkn hj => ?_, fun k j hk1 hk2 hj => by omega⟩
  · by_cases he : k = n + 1 - shd n
    · subst he
      exact hw.cg (fun j hj => by show Gz.1 59 _ = _; rw [z59]; exact k4 j hj)
    · exact (h7 (k + shd n) (by omega)).cg (fun j hj => by show Gz.1 59 _ = G.1 59 _; rw [z59]; exact k3 k j (by omega) hj)
  · rw [z59, z58, r58]
    exact k4 j hj
  · rw [z111, z59, k3 k j hkn hj]
    by_cases he : k + 1 = n + 1 - shd n
    · have e1 : k = n - shd n := by omega
      have e2 : k + shd n = n := by omega
      rw [e2, h8 j hj, ← h6 j hj, e1]
      exact m4 j hj
    · rw [m3 k j (by omega) hj]
      exact h9 (k + shd n) j (by omega) hj
