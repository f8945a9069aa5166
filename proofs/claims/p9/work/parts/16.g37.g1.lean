/-! who walks, ACTS, BOXES: each side by itself -/
theorem ud_at {f : Nat → Int32} {i : Nat} {v : Int32} : upd f i v i = v := if_pos rfl
theorem ud_no {f : Nat → Int32} {i j : Nat} {v : Int32} (h : j ≠ i) : upd f i v j = f j := if_neg h
theorem cpy_in {f g : Nat → Int32} {sp dp n k : Nat} (h1 : dp ≤ k) (h2 : k < dp + n) : va_cpy f g sp dp n k = f (sp + (k - dp)) := if_pos ⟨h1, h2⟩
theorem cpy_out {f g : Nat → Int32} {sp dp n k : Nat} (h : k < dp ∨ dp + n ≤ k) : va_cpy f g sp dp n k = g k := if_neg (by omega)
theorem z32 : (0 : Int32).toNatClampNeg = 0 ∧ (1 : Int32).toNatClampNeg = 1 ∧ (2 : Int32).toNatClampNeg = 2 ∧ (3 : Int32).toNatClampNeg = 3 ∧ (4 : Int32).toNatClampNeg = 4 ∧ (5 : Int32).toNatClampNeg = 5 ∧ (6 : Int32).toNatClampNeg = 6 ∧ (7 : Int32).toNatClampNeg = 7 ∧ (8 : Int32).toNatClampNeg = 8 ∧ (9 : Int32).toNatClampNeg = 9 ∧ (10 : Int32).toNatClampNeg = 10 ∧ (400 : Int32).toNatClampNeg = 400 := ⟨rfl, rfl, rfl, rfl, rfl, rfl, rfl, rfl, rfl, rfl, rfl, rfl⟩
/-- rows that are copied place by place -/
theorem cp_loop {S : Int32 × GS → Int32 × GS → Prop} {src dst N so dp : Nat} {G G1 : GS} {x : Int32} (hl : Rc S (0, G) (x, G1)) (hS : ∀ (y : Int32) (Gy : GS) (yn : Int32) (Gn : GS), S (y, Gy) (yn, Gn) → ∀ k : Nat, y.toInt = (k : Int) → k < N ∧ yn.toInt = (k : Int) + 1 ∧ Gn.1 dst = upd (Gy.1 dst) (dp + k) (Gy.1 src (so + k)) ∧ Gn.1 src = Gy.1 src) (hx : (N : Int) ≤ x.toInt) : (∀ j, j < N → G1.1 dst (dp + j) = G.1 src (so + j)) ∧ (∀ i, i < dp ∨ dp + N ≤ i → G1.1 dst i = G.1 dst i) ∧ G1.1 src = G.1 src := by
  have hI := hl (fun q => q.2.1 src = G.1 src ∧ ∃ k : Nat, q.1.toInt = (k : Int) ∧ k ≤ N ∧ (∀ j, j < k → q.2.1 dst (dp + j) = G.1 src (so + j)) ∧ ∀ i, i < dp ∨ dp + k ≤ i → q.2.1 dst i = G.1 dst i) ⟨rfl, 0, rfl, Nat.zero_le _, fun j hj => absurd hj (Nat.not_lt_zero j), fun _ _ => rfl⟩ (by
    rintro ⟨y, Gy⟩ ⟨yn, Gn⟩ ⟨i1, k, i2, i3, i4, i5⟩ hs
    simp only at i1 i2 i4 i5
    obtain ⟨s1, s2, s3, s4⟩ := hS y Gy yn Gn hs k i2
    refine ⟨s4.trans i1, k + 1, by show yn.toInt = _; omega, by omega, fun j hj => ?_, fun i hi => ?_⟩
    · show Gn.1 dst (dp + j) = _
      rw [s3, i1]
      by_cases hjk : j = k
      · subst hjk
        exact ud_at
      · rw [ud_no (by omega)]
        exact i4 j (by omega)
    · show Gn.1 dst i = _
      rw [s3, ud_no (by omega)]
      exact i5 i (by omega))
  obtain ⟨i1, k, i2, i3, i4, i5⟩ := hI
  simp only at i1 i2 i4 i5
  have hk : k = N := by omega
  subst hk
  exact ⟨i4, i5, i1⟩
def shd (n : Nat) : Nat := if n < 40 then 0 else 1
theorem shd_r {n : Nat} (h : n ≤ 40) : (n < 40 ∧ shd n = 0) ∨ (n = 40 ∧ shd n = 1) := by
  unfold shd
  by_cases q : n < 40
  · exact Or.inl ⟨q, if_pos q⟩
  · exact Or.inr ⟨by omega, if_neg q⟩
/-- the program keeps an ACT -/
theorem c_keep {G G1 : GS} {n : Nat} (h : P_eKeep G G1) (hn : (G.1 30 4).toInt = (n : Int)) (hn4 : n ≤ 40) : (G1.1 30 4).toInt = ((n + 1 - shd n : Nat) : Int) ∧ (G1.1 30 5).toInt = 0 ∧ (∀ k j, k < n + 1 - shd n → j < 10 → G1.1 59 (10 * k + j) = G.1 59 (10 * (k + shd n) + j)) ∧ ∀ j, j < 10 → G1.1 59 (10 * (n + 1 - shd n) + j) = G.1 58 j := by
  obtain ⟨-, -, -, hh⟩ := h
  obtain ⟨z0, -, -, -, -, -, -, -, -, -, z10, z400⟩ := z32
  rcases hh with ⟨c, y3, t3, y6, t6, hF, e4, e5, e59⟩ | ⟨c, hF, e4, e5, e59⟩
  · rcases shd_r hn4 with ⟨hlt, hs⟩ | ⟨hlt, hs⟩
    · rw [hs, Nat.sub_zero]
      rw [cn_eq (x := y6) (e := 10 * (n + 1)) (by omega), z0, z10] at e59
      refine ⟨by rw [e4]; omega, by rw [e5]; rfl, fun k j hk hj => ?_, fun j hj => ?_⟩
      · rw [e59, cpy_out (by omega), Nat.add_zero]
      · rw [e59, cpy_in (by omega) (by omega), show 0 + (10 * (n + 1) + j - 10 * (n + 1)) = j by omega]
    · omega
  · rcases shd_r hn4 with ⟨hlt, hs⟩ | ⟨hlt, hs⟩
    · omega
    · subst hlt
      rw [hs]
      rw [z0, z10, z400] at e59
      refine ⟨by rw [e4]; rfl, by rw [e5]; rfl, fun k j hk hj => ?_, fun j hj => ?_⟩
      · rw [e59, cpy_out (by omega), cpy_in (by omega) (by omega), show 10 + (10 * k + j - 0) = 10 * (k + 1) + j by omega]
      · rw [e59, cpy_in (by omega) (by omega), show 0 + (10 * (40 + 1 - 1) + j - 400) = j by omega]
theorem m_act1 {G G3 : GS} {x : Int32} {n : Nat} (hl : Rc (St_n_act_1 G) (0, G) (x, G3)) (hx : 10 ≤ x.toInt) (hn : (G.1 66 78).toInt = (n : Int)) : (∀ j, j < 10 → G3.1 111 (16 * n + j) = G.1 110 (0 + j)) ∧ (∀ i, i < 16 * n ∨ 16 * n + 10 ≤ i → G3.1 111 i = G.1 111 i) ∧ G3.1 110 = G.1 110 := by
  refine cp_loop (N := 10) (so := 0) (dp := 16 * n) hl (fun y Gy yn Gn hs k hk => ?_) hx
  obtain ⟨a, b, an, bn, q1, q2, -, -, c, y18, t18, y19, t19, y20, e20, y22, t22, ex, hF, w⟩ := hs
  obtain ⟨rfl, rfl⟩ := Prod.mk.inj q1
  obtain ⟨rfl, rfl⟩ := Prod.mk.inj q2
  rw [cn_eq (x := y19) (e := 16 * n + k) (by omega), e20, cn_eq hk] at w
  refine ⟨by omega, by rw [← ex]; omega, by rw [Nat.zero_add]; exact w, hF.row1 110 (by decide) (by decide)⟩
theorem m_act3 {G G3 : GS} {x y33 : Int32} {n : Nat} (hl : Rc (St_n_act_3 y33) (0, G) (x, G3)) (hx : 10 ≤ x.toInt) (hn : y33.toInt = (n : Int)) : (∀ j, j < 10 → G3.1 111 (16 * n + j) = G.1 110 (0 + j)) ∧ (∀ i, i < 16 * n ∨ 16 * n + 10 ≤ i → G3.1 111 i = G.1 111 i) ∧ G3.1 110 = G.1 110 := by
  refine cp_loop (N := 10) (so := 0) (dp := 16 * n) hl (fun y Gy yn Gn hs k hk => ?_) hx
  obtain ⟨a, b, an, bn, q1, q2, -, -, c, y18, t18, y19, t19, y20, e20, y22, t22, ex, hF, w⟩ := hs
  obtain ⟨rfl, rfl⟩ := Prod.mk.inj q1
  obtain ⟨rfl, rfl⟩ := Prod.mk.inj q2
  rw [cn_eq (x := y19) (e := 16 * n + k) (by omega), e20, cn_eq hk] at w
  refine ⟨by omega, by rw [← ex]; omega, by rw [Nat.zero_add]; exact w, hF.row1 110 (by decide) (by decide)⟩
theorem m_act2 {G G3 : GS} {x : Int32} (hl : Rc St_n_act_2 (0, G) (x, G3)) (hx : 624 ≤ x.toInt) : (∀ i, i < 624 → G3.1 111 i = G.1 111 (16 + i)) ∧ G3.1 110 = G.1 110 := by
  have hI := hl (fun q => q.2.1 110 = G.1 110 ∧ ∃ k : Nat, q.1.toInt = (k : Int) ∧ (∀ i, i < k → q.2.1 111 i = G.1 111 (16 + i)) ∧ ∀ i, k ≤ i → q.2.1 111 i = G.1 111 i) ⟨rfl, 0, rfl, fun j hj => absurd hj (Nat.not_lt_zero j), fun _ _ => rfl⟩ (by
    rintro ⟨y, Gy⟩ ⟨yn, Gn⟩ ⟨i1, k, i2, i4, i5⟩ ⟨a, b, an, bn, q1, q2, -, -, c, y55, t55, y56, e56, y58, t58, ex, hF, w⟩
    obtain ⟨rfl, rfl⟩ := Prod.mk.inj q1
    obtain ⟨rfl, rfl⟩ := Prod.mk.inj q2
    simp only at i1 i2 i4 i5
    rw [cn_eq (x := y55) (e := 16 + k) (by omega)] at e56
    rw [cn_eq i2, e56] at w
    refine ⟨(hF.row1 110 (by decide) (by decide)).trans i1, k + 1, by show yn.toInt = _; rw [← ex]; omega, fun i hi => ?_, fun i hi => ?_⟩
    · show Gn.1 111 i = _
      rw [w]
      by_cases hik : i = k
      · subst hik
        rw [ud_at]
        exact i5 (16 + i) (by omega)
      · rw [ud_no hik]
        exact i4 i (by omega)
    · show Gn.1 111 i = _
      rw [w, ud_no (by omega)]
      exact i5 i (by omega))
  obtain ⟨i1, k, i2, i4, i5⟩ := hI
  simp only at i1 i2 i4
  exact ⟨fun i hi => i4 i (by omega), i1⟩
/-- the reference keeps an ACT: what was ahead of it -/
theorem m_act {G G1 : GS} {n : Nat} (h : Q_act G G1) (hn : (G.1 66 78).toInt = (n : Int)) (hn4 : n ≤ 40) : (G1.1 66 78).toInt = ((n + 1 - shd n : Nat) : Int) ∧ (G1.1 66 79).toInt = 0 ∧ (∀ k j, k + 1 < n + 1 - shd n → j < 10 → G1.1 111 (16 * k + j) = G.1 111 (16 * (k + shd n) + j)) ∧ ∀ j, j < 10 → G1.1 111 (16 * (n - shd n) + j) = G.1 110 j := by
  obtain ⟨-, -, -, hh⟩ := h
  rcases hh with ⟨c, x27, G23, hl2, -, -, -, c2, y33, t33, G34, -, hF34, e34, x39, G35, hl3, -, -, -, c3, y45, t45, hFe, e78, e79⟩ | ⟨c, x7, G3, hl1, -, -, -, c2, y13, t13, hFe, e78, e79⟩
  · rcases shd_r hn4 with ⟨hlt, hs⟩ | ⟨hlt, hs⟩
    · omega
    · subst hlt
      rw [hs]
      obtain ⟨a1, a2⟩ := m_act2 hl2 c2
      obtain ⟨b1, b2, b3⟩ := m_act3 (n := 39) hl3 c3 (by omega)
      have r111 : G1.1 111 = G35.1 111 := hFe.row1 111 (by decide) (by decide)
      refine ⟨by rw [e78]; omega, by rw [e79]; rfl, fun k j hk hj => ?_, fun j hj => ?_⟩
      · rw [r111, b2 _ (by omega), hF34.row1 111 (by decide) (by decide), a1 _ (by omega), show 16 + (16 * k + j) = 16 * (k + 1) + j by omega]
      · rw [r111, show 40 - 1 = 39 from rfl, b1 j hj, Nat.zero_add, hF34.row1 110 (by decide) (by decide), a2]
  · rcases shd_r hn4 with ⟨hlt, hs⟩ | ⟨hlt, hs⟩
    · rw [hs, Nat.sub_zero, Nat.sub_zero]
      obtain ⟨b1, b2, b3⟩ := m_act1 hl1 c2 hn
      have r111 : G1.1 111 = G3.1 111 := hFe.row1 111 (by decide) (by decide)
      refine ⟨by rw [e78]; omega, by rw [e79]; rfl, fun k j hk hj => ?_, fun j hj => ?_⟩
      · rw [r111, b2 _ (by omega), Nat.add_zero]
      · rw [r111, b1 j hj, Nat.zero_add]
    · omega
theorem m_exch {G G1 : GS} {p0 : Int32} {p : Nat} (h : Q_exchange p0 G G1) (hp : p0.toInt = (p : Int)) : (∀ j, j < 10 → G1.1 110 j = G.1 111 (p + j) ∧ G1.1 111 (p + j) = G.1 110 j) ∧ (∀ i, i < p ∨ p + 10 ≤ i → G1.1 111 i = G.1 111 i) := by
  obtain ⟨-, -, x, G2, hl, -, -, -, c, rfl⟩ := h
  have hI := hl (fun q => ∃ k : Nat, q.1.toInt = (k : Int) ∧ k ≤ 10 ∧ (∀ j, j < k → q.2.1 110 j = G.1 111 (p + j) ∧ q.2.1 111 (p + j) = G.1 110 j) ∧ (∀ j, k ≤ j → q.2.1 110 j = G.1 110 j) ∧ ∀ i, i < p ∨ p + k ≤ i → q.2.1 111 i = G.1 111 i) ⟨0, rfl, by decide, fun j hj => absurd hj (Nat.not_lt_zero j), fun _ _ => rfl, fun _ _ => rfl⟩ (by
    rintro ⟨y, Gy⟩ ⟨yn, Gn⟩ ⟨k, i2, i3, i4, i5, i6⟩ ⟨a, b, an, bn, q1, q2, -, -, c1, y11, t11, y12, e12, y13, t13, y14, e14, y17, t17, ex, hF, w0, w1⟩
    obtain ⟨rfl, rfl⟩ := Prod.mk.inj q1
    obtain ⟨rfl, rfl⟩ := Prod.mk.inj q2
    simp only at i2 i4 i5 i6
    rw [cn_eq (x := y11) (e := p + k) (by omega), i6 (p + k) (by omega)] at e12
    rw [cn_eq i2, i5 k (Nat.le_refl k)] at e14
    rw [cn_eq i2, e12] at w0
    rw [cn_eq (x := y13) (e := p + k) (by omega), e14] at w1
    refine ⟨k + 1, by show yn.toInt = _; rw [← ex]; omega, by omega, fun j hj => ?_, fun j hj => ?_, fun i hi => ?_⟩
    · show Gn.1 110 j = _ ∧ Gn.1 111 (p + j) = _
      rw [w0, w1]
      by_cases hjk : j = k
      · subst hjk
        exact ⟨ud_at, ud_at⟩
      · rw [ud_no hjk, ud_no (by omega)]
        exact i4 j (by omega)
    · show Gn.1 110 j = _
      rw [w0, ud_no (by omega)]
      exact i5 j (by omega)
    · show Gn.1 111 i = _
      rw [w1, ud_no (by omega)]
      exact i6 i (by omega))
  obtain ⟨k, i2, i3, i4, i5, i6⟩ := hI
  simp only at i2 i4 i6
  have hk : k = 10 := by omega
  subst hk
  exact ⟨i4, i6⟩
/-! both sides -/
def ROK (V : PV) (v : Nat → Int32) : Prop := ((v 0).toInt = -1 ∨ (0 ≤ (v 0).toInt ∧ (v 0).toInt < (V.2.1.length : Int) ∧ 0 ≤ (v 1).toInt ∧ (v 1).toInt < (V.1.length : Int))) ∧ (0 ≤ (v 6).toInt ∧ (v 6).toInt ≤ 1000) ∧ ((v 9).toInt = 0 ∨ (v 9).toInt = 1) ∧ 0 ≤ (v 8).toInt ∧ (v 8).toInt < 64
theorem ROK.cg {V : PV} {v w : Nat → Int32} (h : ROK V v) (e : ∀ j, j < 10 → w j = v j) : ROK V w := by
  unfold ROK at h ⊢
  rw [e 0 (by decide), e 1 (by decide), e 6 (by decide), e 8 (by decide), e 9 (by decide)]
  exact h
def ERn (V : PV) (G : GS) (n m : Nat) : Prop := ((G.1 30 4).toInt = (n : Int) ∧ (G.1 30 5).toInt = (m : Int) ∧ (G.1 66 78).toInt = (n : Int) ∧ (G.1 66 79).toInt = (m : Int) ∧ n + m ≤ 40) ∧ (∀ j, j < 10 → G.1 110 j = G.1 58 j) ∧ (∀ k, k ≤ n + m → ROK V (fun j => G.1 59 (10 * k + j))) ∧ (∀ j, j < 10 → G.1 59 (10 * n + j) = G.1 58 j) ∧ (∀ k j, k < n → j < 10 → G.1 111 (16 * k + j) = G.1 59 (10 * k + j)) ∧ ∀ k j, n ≤ k → k < n + m → j < 10 → G.1 111 (16 * k + j) = G.1 59 (10 * (k + 1) + j)
def BXs (V : PV) (G : GS) : Prop := ∃ f : Nat, f < 8 ∧ G.1 30 3 = Int32.ofNat f ∧ ∀ b, b < 3 → ((G.1 117 b).toInt ≠ 0 ↔ f.testBit b = true) ∧ (f.testBit b = true → (∀ j, j < 10 → G.1 118 (16 * b + j) = G.1 60 (10 * b + j)) ∧ ROK V (fun j => G.1 60 (10 * b + j)))
def ER (V : PV) (G : GS) : Prop := (∃ n m, ERn V G n m) ∧ BXs V G
theorem ERn.now {V : PV} {G : GS} {n m : Nat} (h : ERn V G n m) : ROK V (G.1 58) := (h.2.2.1 n (by omega)).cg (fun j hj => (h.2.2.2.1 j hj).symm)
theorem ERn.now2 {V : PV} {G : GS} {n m : Nat} (h : ERn V G n m) : ROK V (G.1 110) := h.now.cg (fun j hj => h.2.1 j hj)
/-- nothing of it is touched -/
theorem ERn.fr {V : PV} {G G1 : GS} {n m : Nat} (h : ERn V G n m) (hr : ∀ i, i ∈ [58, 59, 110, 111] → G1.1 i = G.1 i) (hf : ∀ y : Nat × Nat, y ∈ [(30, 4), (30, 5), (66, 78), (66, 79)] → G1.1 y.1 y.2 = G.1 y.1 y.2) : ERn V G1 n m := by
  unfold ERn at h ⊢
  rw [hf (30, 4) (by decide), hf (30, 5) (by decide), hf (66, 78) (by decide), hf (66, 79) (by decide), hr 58 (by decide), hr 59 (by decide), hr 110 (by decide), hr 111 (by decide)]
  exact h
theorem BXs.fr {V : PV} {G G1 : GS} (h : BXs V G) (hr : ∀ i, i ∈ [60, 117, 118] → G1.1 i = G.1 i) (hf : G1.1 30 3 = G.1 30 3) : BXs V G1 := by
  unfold BXs at h ⊢
  rw [hf, hr 60 (by decide), hr 117 (by decide), hr 118 (by decide)]
  exact h
/-- an ACT on both sides: the program's new row w (kept behind it), the reference's of the same places -/
theorem ER_act {V : PV} {G Gc Gd Gm Gn : GS} {n m : Nat} (h : ERn V G n m) (hk : P_eKeep Gc Gd) (hFc : ∀ i, i ∈ [59] → Gc.1 i = G.1 i) (hc4 : Gc.1 30 4 = G.1 30 4) (ha : Q_act Gm Gn) (hm110 : Gm.1 110 = G.1 110) (hm111 : Gm.1 111 = G.1 111) (hm78 : Gm.1 66 78 = G.1 66 78) (hw : ROK V (Gc.1 58)) {Gz : GS} (z58 : Gz.1 58 = Gd.1 58) (z59 : Gz.1 59 = Gd.1 59) (z4 : Gz.1 30 4 = Gd.1 30 4) (z5 : Gz.1 30 5 = Gd.1 30 5) (z111 : Gz.1 111 = Gn.1 111) (z78 : Gz.1 66 78 = Gn.1 66 78) (z79 : Gz.1 66 79 = Gn.1 66 79) (zr : ∀ j, j < 10 → Gz.1 110 j = Gc.1 58 j) : ERn V Gz (n + 1 - shd n) 0 := by
  obtain ⟨⟨h1, h2, h3, h4, h5⟩, h6, h7, h8, h9, h10⟩ := h
  have r58 : Gd.1 58 = Gc.1 58 := hk.2.1.row1 58 (by decide) (by decide)
  have hn4 : n ≤ 40 := by omega
  obtain ⟨k1, k2, k3, k4⟩ := c_keep (n := n) hk (by rw [hc4]; exact h1) hn4
  obtain ⟨m1, m2, m3, m4⟩ := m_act (n := n) ha (by rw [hm78]; exact h3) hn4
  rw [hFc 59 (by decide)] at k3
  rw [hm111] at m3
  rw [hm110] at m4
  have hsh := shd_r hn4
  refine ⟨⟨by rw [z4]; exact k1, by rw [z5]; exact k2, by rw [z78]; exact m1, by rw [z79]; exact m2, by omega⟩, fun j hj => by rw [zr j hj, z58, r58], fun k hkn => ?_, fun j hj => ?_, fun k j hkn hj => ?_, fun k j hk1 hk2 hj => by omega⟩
  · by_cases he : k = n + 1 - shd n
    · subst he
      exact hw.cg (fun j hj => by show Gz.1 59 _ = _; rw [z59]; exact k4 j hj)
    · exact (h7 (k + shd n) (by omega)).cg (fun j hj => by show Gz.1 59 _ = G.1 59 _; rw [z59]; exact k3 k j (by omega) hj)
  · rw [z59, z58, r58]
    exact k4 j hj
  · rw [z111, z59, k3 k j hkn hj]
    by_cases he : k + 1 = n + 1 - shd n
    · have e1 : k = n - shd n := by omega
      have e2 : k + shd n = n := by omega
      rw [e2, h8 j hj, ← h6 j hj, e1]
      exact m4 j hj
    · rw [m3 k j (by omega) hj]
      exact h9 (k + shd n) j (by omega) hj
