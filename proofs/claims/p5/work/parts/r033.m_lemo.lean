

theorem Fr.rowsl {rs : List Nat} {fs : List (Nat × Nat)} {G G1 : GS} {i : Nat} (h : Fr rs fs G G1) (h1 : i ∉ rs ∧ ∀ x ∈ fs, x.1 ≠ i) : G1.2.1 i = G.2.1 i := funext fun j => (h i j h1.1 (fun q => h1.2 _ q rfl)).2.1
theorem Fr.rowsi {rs : List Nat} {fs : List (Nat × Nat)} {G G1 : GS} {i : Nat} (h : Fr rs fs G G1) (h1 : i ∉ rs ∧ ∀ x ∈ fs, x.1 ≠ i) : G1.1 i = G.1 i := funext (h.ri i h1.1 h1.2)
def tv (L : Nat → Int32) (O : Nat → Int64) (inc foot to left : Int) (rest : Int64) : Int64 := if 0 ≤ to ∧ to + foot ≤ inc then (if (L to.toNat).toInt = 1 then O (512 * (left - 1) + to).toNat else 0) else rest
def oS (S L : Nat → Int32) (O : Nat → Int64) (inc foot xb left : Int) (rest : Int64) : Nat → Int64
  | 0 => 0
  | k + 1 => oS S L O inc foot xb left rest k + (S k).toInt64 * tv L O inc foot (xb + k - 1) left rest
def rS (a : Int64) : Nat → Int64
  | 0 => 1
  | n + 1 => rS a n * a
def aS (G : GS) : Int32 := Int32.ofInt ((G.1 96 0).toInt + (G.1 96 1).toInt + (G.1 96 2).toInt)
theorem aS_eq {G : GS} {r : Int32} (h : r.toInt = (G.1 96 0).toInt + (G.1 96 1).toInt + (G.1 96 2).toInt) : r = aS G := by
  unfold aS
  rw [← h]
  exact (Int32.ofInt_toInt r).symm
def oF (G : GS) (x left b : Int) : Int64 := oS (G.1 96) (G.1 98) (G.2.1 106) (G.1 66 59).toInt (G.1 66 60).toInt (x + b) left (rS (aS G).toInt64 (left - 1).toNat) 3
theorem oF_fr {rs : List Nat} {fs : List (Nat × Nat)} {G G1 : GS} (h : Fr rs fs G G1) (h1 : ∀ i ∈ [96, 98, 106], i ∉ rs ∧ ∀ x ∈ fs, x.1 ≠ i) (h2 : ∀ y ∈ [(66, 59), (66, 60)], y.1 ∉ rs ∧ y ∉ fs) (x left b : Int) : oF G1 x left b = oF G x left b := by
  unfold oF aS
  rw [h.rowsi (h1 96 (by decide)), h.rowsi (h1 98 (by decide)), h.rowsl (h1 106 (by decide)), h.i 66 59 (h2 (66, 59) (by decide)).1 (h2 (66, 59) (by decide)).2, h.i 66 60 (h2 (66, 60) (by decide)).1 (h2 (66, 60) (by decide)).2]
theorem oS_step {S L : Nat → Int32} {O : Nat → Int64} {inc foot xb left : Int} {rest a w z t a' : Int64} {y k : Int32} (ha : a = oS S L O inc foot xb left rest k.toInt.toNat) (h0 : 0 ≤ k.toInt) (hS : y.toInt = (S k.toNatClampNeg).toInt) (hz : z = y.toInt64) (hw : w = z * t) (ha' : a' = a + w) (ht : t = tv L O inc foot (xb + k.toInt - 1) left rest) {k' : Int32} (hk : k'.toInt = k.toInt + 1) : a' = oS S L O inc foot xb left rest k'.toInt.toNat := by
  have e1 : k'.toInt.toNat = k.toInt.toNat + 1 := by omega
  have e2 : ((k.toInt.toNat : Nat) : Int) = k.toInt := by omega
  have e3 : y = S k.toInt.toNat := Int32.toInt_inj.mp hS
  rw [e1, oS, e2, ← e3, ← ht, ← ha, ha', hw, hz]
theorem tv_out {L : Nat → Int32} {O : Nat → Int64} {inc foot to left : Int} {rest : Int64} (h : ¬ (0 ≤ to ∧ to + foot ≤ inc)) : rest = tv L O inc foot to left rest := by unfold tv; rw [if_neg h]
theorem tv_law {L : Nat → Int32} {O : Nat → Int64} {inc foot to left : Int} {rest t : Int64} (h : 0 ≤ to ∧ to + foot ≤ inc) {x y : Int32} (hx : x.toInt = to) (hy : y.toInt = (L x.toNatClampNeg).toInt) (hl : y.toInt = 1) {v : Int32} (hv : v.toInt = 512 * (left - 1) + to) (ht : t = O v.toNatClampNeg) : t = tv L O inc foot to left rest := by
  subst hx
  unfold tv
  rw [if_pos h, if_pos (show (L x.toInt.toNat).toInt = 1 from hy.symm.trans hl), ← hv]
  exact ht
theorem tv_no {L : Nat → Int32} {O : Nat → Int64} {inc foot to left : Int} {rest : Int64} (h : 0 ≤ to ∧ to + foot ≤ inc) {x y : Int32} (hx : x.toInt = to) (hy : y.toInt = (L x.toNatClampNeg).toInt) (hl : y.toInt = 0) : (0 : Int64) = tv L O inc foot to left rest := by
  subst hx
  unfold tv
  rw [if_pos h, if_neg (show ¬ (L x.toInt.toNat).toInt = 1 from fun q => by have := hy.trans q; omega)]
theorem rS_step {a v w z : Int64} {r k k' : Int32} {n : Nat} (hv : v = rS a k.toInt.toNat) (h0 : 0 ≤ k.toInt) (hz : z = r.toInt64) (hw : w = v * z) (hr : r.toInt64 = a) (hk : k'.toInt = k.toInt + 1) : w = rS a k'.toInt.toNat := by
  have e1 : k'.toInt.toNat = k.toInt.toNat + 1 := by omega
  rw [e1, rS, ← hv, hw, hz, hr]
def bO (f : Int → Int64) (lo u : Int) (best : Int64) : Prop := 0 ≤ best.toInt ∧ (∀ b, lo ≤ b → b < u → (f b).toInt ≤ best.toInt) ∧ (best.toInt = 0 ∨ ∃ b, lo ≤ b ∧ b < u ∧ f b = best)
theorem bO_0 {f : Int → Int64} {lo : Int} : bO f lo lo 0 := ⟨by decide, fun b h1 h2 => by omega, Or.inl (by decide)⟩
theorem bO_more {f : Int → Int64} {lo u : Int} {best own : Int64} (h : bO f lo u best) (hu : lo ≤ u) (ho : own = f u) (hg : best.toInt < own.toInt) {u' : Int} (hu' : u' = u + 1) : bO f lo u' own := by
  subst ho
  subst hu'
  obtain ⟨h1, h2, h3⟩ := h
  clear h3
  refine ⟨by omega, fun b q1 q2 => ?_, Or.inr ⟨u, hu, by omega, rfl⟩⟩
  by_cases hc : b = u
  · subst hc; exact Int.le_refl _
  · have := h2 b q1 (by omega)
    omega
theorem bO_keep {f : Int → Int64} {lo u : Int} {best own : Int64} (h : bO f lo u best) (ho : own = f u) (hg : own.toInt ≤ best.toInt) {u' : Int} (hu' : u' = u + 1) : bO f lo u' best := by
  subst ho
  subst hu'
  obtain ⟨h1, h2, h3⟩ := h
  refine ⟨h1, fun b q1 q2 => ?_, ?_⟩
  · clear h3
    by_cases hc : b = u
    · subst hc; exact hg
    · exact h2 b q1 (by omega)
  · rcases h3 with q | ⟨b, b1, b2, b3⟩
    · exact Or.inl q
    · exact Or.inr ⟨b, b1, by omega, b3⟩
theorem bO_wit {f : Int → Int64} {lo u : Int} {best : Int64} (h : bO f lo u best) (hlu : lo < u) (hn : ∀ b, lo ≤ b → b < u → 0 ≤ (f b).toInt) : ∃ b, lo ≤ b ∧ b < u ∧ f b = best := by
  obtain ⟨h1, h2, h3⟩ := h
  rcases h3 with q | q
  · have a1 := h2 lo (Int.le_refl _) hlu
    have a2 := hn lo (Int.le_refl _) hlu
    exact ⟨lo, Int.le_refl _, hlu, Int64.toInt_inj.mp (by omega)⟩
  · exact q
theorem oF_of {G g0 g : GS} {r rv : Int64} {x left b xb : Int} {n : Nat} (f0 : Fr [] [] G g0) (f : Fr [] [] G g) (h : r = oS (g.1 96) (g.1 98) (g.2.1 106) (g.1 66 59).toInt (g.1 66 60).toInt xb left rv 3) (hr : rv = rS (aS g0).toInt64 n) (hn : n = (left - 1).toNat) (hx : xb = x + b) : r = oF G x left b := by
  have e1 : aS g0 = aS G := by
    unfold aS
    rw [f0.rowsi (i := 96) (by decide)]
  have e2 : oF g x left b = oF G x left b := oF_fr f (by decide) (by decide) x left b
  have e3 : aS g = aS G := by
    unfold aS
    rw [f.rowsi (i := 96) (by decide)]
  rw [← e2, h, hr, hn, hx, e1, ← e3]
  rfl
theorem lc_gt {z : Int32} {x y : Int64} (e : z = lg_cmp x y) : (0 < z.toInt → y.toInt < x.toInt) ∧ (z.toInt ≤ 0 → x.toInt ≤ y.toInt) := by
  subst e
  unfold lg_cmp
  split
  · rename_i h
    exact ⟨fun _ => Int64.lt_iff_toInt_lt.mp h, fun q => absurd q (by decide)⟩
  · rename_i h
    have h2 : x.toInt ≤ y.toInt := Int64.le_iff_toInt_le.mp (Int64.not_lt.mp h)
    split
    · exact ⟨fun q => absurd q (by decide), fun _ => h2⟩
    · exact ⟨fun q => absurd q (by decide), fun _ => h2⟩
theorem l_mul {x y : Int64} {a b : Int} (hx0 : 0 ≤ x.toInt) (hx : x.toInt ≤ a) (hy0 : 0 ≤ y.toInt) (hy : y.toInt ≤ b) (h : a * b ≤ 9223372036854775807) : (x * y).toInt = x.toInt * y.toInt ∧ 0 ≤ (x * y).toInt ∧ (x * y).toInt ≤ a * b := by
  have h1 : 0 ≤ x.toInt * y.toInt := Int.mul_nonneg hx0 hy0
  have h2 : x.toInt * y.toInt ≤ a * b := Int.mul_le_mul hx hy hy0 (by omega)
  have h3 : (x * y).toInt = x.toInt * y.toInt := by rw [Int64.toInt_mul, Int.bmod_eq_of_le (by omega) (by omega)]
  exact ⟨h3, by omega, by omega⟩
theorem l_add {x y : Int64} {a b : Int} (hx0 : 0 ≤ x.toInt) (hx : x.toInt ≤ a) (hy0 : 0 ≤ y.toInt) (hy : y.toInt ≤ b) (h : a + b ≤ 9223372036854775807) : (x + y).toInt = x.toInt + y.toInt ∧ 0 ≤ (x + y).toInt ∧ (x + y).toInt ≤ a + b := by
  have h3 : (x + y).toInt = x.toInt + y.toInt := by rw [Int64.toInt_add, Int.bmod_eq_of_le (by omega) (by omega)]
  exact ⟨h3, by omega, by omega⟩
/-- 27 to the n-th -/
def p27 : Nat → Int
  | 0 => 1
  | n + 1 => 27 * p27 n
theorem p27_pos : ∀ n, 1 ≤ p27 n
  | 0 => by decide
  | n + 1 => by have := p27_pos n; rw [p27]; omega
theorem p27_le : ∀ n, n ≤ 8 → p27 n ≤ 282429536481 := fun n h => by
  rcases (show n = 0 ∨ n = 1 ∨ n = 2 ∨ n = 3 ∨ n = 4 ∨ n = 5 ∨ n = 6 ∨ n = 7 ∨ n = 8 by omega) with q | q | q | q | q | q | q | q | q <;> subst q <;> decide
def okO (O : Nat → Int64) : Prop := ∀ j, j < 4096 → 0 ≤ (O j).toInt ∧ (O j).toInt ≤ p27 (j / 512)
noncomputable def gO (G : GS) : Int := ind (okO (G.2.1 106))
theorem gO_fr {rs : List Nat} {fs : List (Nat × Nat)} {G G1 : GS} (h : Fr rs fs G G1) (h1 : ∀ i ∈ [106], i ∉ rs ∧ ∀ x ∈ fs, x.1 ≠ i) (h2 : ∀ y ∈ ([] : List (Nat × Nat)), y.1 ∉ rs ∧ y ∉ fs) : gO G1 = gO G := by
  unfold gO
  rw [h.rowsl (h1 106 (by decide))]
theorem gO_put {G G1 : GS} {x : Int32} {v : Int64} (hO : gO G = 1) (e : G1 = (G.1, u2 G.2.1 106 x.toNatClampNeg v, G.2.2)) {n : Nat} (h0 : 0 ≤ x.toInt) (hn : x.toInt / 512 = n) (h1 : 0 ≤ v.toInt) (h2 : v.toInt ≤ p27 n) : gO G1 = 1 := by
  have hq := ind_p hO
  have e1 : ∀ j, j ≠ x.toNatClampNeg → G1.2.1 106 j = G.2.1 106 j := by
    intro j hj
    subst e
    show u2 G.2.1 106 x.toNatClampNeg v 106 j = G.2.1 106 j
    exact u2_nj hj
  have e2 : G1.2.1 106 x.toNatClampNeg = v := by
    subst e
    show u2 G.2.1 106 x.toNatClampNeg v 106 x.toNatClampNeg = v
    exact u2_at
  have c1 := c_nat x
  refine ind_1 (fun j hj => ?_)
  by_cases hc : j = x.toNatClampNeg
  · subst hc
    rw [e2, show x.toNatClampNeg / 512 = n by omega]
    exact ⟨h1, h2⟩
  · rw [e1 j hc]
    exact hq j hj
theorem rS_rng {a : Int64} (h0 : 0 ≤ a.toInt) (h1 : a.toInt ≤ 27) : ∀ n, n ≤ 7 → 0 ≤ (rS a n).toInt ∧ (rS a n).toInt ≤ p27 n
  | 0, _ => ⟨by show 0 ≤ (1 : Int64).toInt; decide, by show (1 : Int64).toInt ≤ 1; decide⟩
  | n + 1, hn => by
    have ih := rS_rng h0 h1 n (by omega)
    have hp := p27_le (n + 1) (by omega)
    rw [rS]
    rw [p27] at hp ⊢
    have := l_mul ih.1 ih.2 h0 h1 (by omega)
    omega
theorem tv_rng {L : Nat → Int32} {O : Nat → Int64} {inc foot to left : Int} {rest : Int64} (hO : okO O) (h1 : 1 ≤ left) (h8 : left ≤ 8) (hf : 0 ≤ foot) (hi : inc ≤ 400) (hr0 : 0 ≤ rest.toInt) (hr : rest.toInt ≤ p27 (left - 1).toNat) : 0 ≤ (tv L O inc foot to left rest).toInt ∧ (tv L O inc foot to left rest).toInt ≤ p27 (left - 1).toNat := by
  unfold tv
  split
  · split
    · have := hO (512 * (left - 1) + to).toNat (by omega)
      rw [show (512 * (left - 1) + to).toNat / 512 = (left - 1).toNat by omega] at this
      exact this
    · have := p27_pos (left - 1).toNat
      exact ⟨by decide, by have e : (0 : Int64).toInt = 0 := rfl; omega⟩
  · exact ⟨hr0, hr⟩
theorem oF_rng {G : GS} (hB : Bd G) (hO : gO G = 1) {x left b : Int} (h1 : 1 ≤ left) (h8 : left ≤ 8) : 0 ≤ (oF G x left b).toInt ∧ (oF G x left b).toInt ≤ p27 left.toNat := by
  have hs : ∀ k, 0 ≤ (G.1 96 k).toInt ∧ (G.1 96 k).toInt ≤ 9 := fun k => hB.i 96 k rfl rfl
  have hi : 0 ≤ (G.1 66 59).toInt ∧ (G.1 66 59).toInt ≤ 400 := hB.i 66 59 rfl rfl
  have hf : 0 ≤ (G.1 66 60).toInt ∧ (G.1 66 60).toInt ≤ 12 := hB.i 66 60 rfl rfl
  have ha : (aS G).toInt = (G.1 96 0).toInt + (G.1 96 1).toInt + (G.1 96 2).toInt := by
    unfold aS
    have a0 := hs 0
    have a1 := hs 1
    have a2 := hs 2
    have hz : ((Int32.size : Nat) : Int) = 4294967296 := rfl
    rw [Int32.toInt_ofInt, Int.bmod_eq_of_le (by omega) (by omega)]
  have ha2 : (aS G).toInt64.toInt = (aS G).toInt := Int32.toInt_toInt64 _
  have hr := rS_rng (a := (aS G).toInt64) (by have a0 := hs 0; have a1 := hs 1; have a2 := hs 2; omega) (by have a0 := hs 0; have a1 := hs 1; have a2 := hs 2; omega) (left - 1).toNat (by omega)
  have hp := p27_le left.toNat (by omega)
  have hp1 : p27 left.toNat = 27 * p27 (left - 1).toNat := by rw [show left.toNat = (left - 1).toNat + 1 by omega, p27]
  have ht : ∀ k : Int, 0 ≤ (tv (G.1 98) (G.2.1 106) (G.1 66 59).toInt (G.1 66 60).toInt k left (rS (aS G).toInt64 (left - 1).toNat)).toInt ∧ _ := fun k => tv_rng (ind_p hO) h1 h8 hf.1 hi.2 hr.1 hr.2
  have hm : ∀ (k : Nat) (t : Int64), 0 ≤ t.toInt ∧ t.toInt ≤ p27 (left - 1).toNat → 0 ≤ ((G.1 96 k).toInt64 * t).toInt ∧ ((G.1 96 k).toInt64 * t).toInt ≤ 9 * p27 (left - 1).toNat := fun k t h => by
    have e := Int32.toInt_toInt64 (G.1 96 k)
    have := l_mul (x := (G.1 96 k).toInt64) (y := t) (a := 9) (b := p27 (left - 1).toNat) (by rw [e]; exact (hs k).1) (by rw [e]; exact (hs k).2) h.1 h.2 (by omega)
    exact this.2
  unfold oF
  rw [hp1]
  rw [oS, oS, oS, oS]
  have m0 := hm 0 _ (ht (x + b + (0 : Nat) - 1))
  have m1 := hm 1 _ (ht (x + b + (1 : Nat) - 1))
  have m2 := hm 2 _ (ht (x + b + (2 : Nat) - 1))
  have s0 := l_add (x := 0) (a := 0) (by decide) (by decide) m0.1 m0.2 (by omega)
  have s1 := l_add s0.2.1 s0.2.2 m1.1 m1.2 (by omega)
  have s2 := l_add s1.2.1 s1.2.2 m2.1 m2.2 (by omega)
  exact ⟨s2.2.1, by have := s2.2.2; omega⟩
theorem bO_rng {G : GS} (hB : Bd G) (hO : gO G = 1) {x left lo u : Int} {best : Int64} (h1 : 1 ≤ left) (h8 : left ≤ 8) (h : bO (oF G x left) lo u best) : 0 ≤ best.toInt ∧ best.toInt ≤ p27 left.toNat := by
  obtain ⟨a1, a2, a3⟩ := h
  refine ⟨a1, ?_⟩
  rcases a3 with q | ⟨b, b1, b2, b3⟩
  · have := p27_pos left.toNat
    omega
  · rw [← b3]
    exact (oF_rng hB hO h1 h8).2
theorem l_mod {x y z : Int64} (e : z = x - x / y * y) (hx : 0 ≤ x.toInt) (hy : 0 < y.toInt) : 0 ≤ z.toInt ∧ z.toInt < y.toInt := by
  have b1 := Int64.toInt_lt x
  have b2 := Int64.toInt_lt y
  have h1 : (x / y).toInt = x.toInt / y.toInt := by
    have h2 := Int.ediv_le_self y.toInt hx
    have h3 := Int.ediv_nonneg hx (Int.le_of_lt hy)
    rw [Int64.toInt_div, Int.tdiv_eq_ediv_of_nonneg hx, Int.bmod_eq_of_le (by omega) (by omega)]
  have h3 := Int.emod_nonneg x.toInt (show y.toInt ≠ 0 by omega)
  have h4 := Int.emod_lt_of_pos x.toInt hy
  have h5 : x.toInt % y.toInt = x.toInt - y.toInt * (x.toInt / y.toInt) := Int.emod_def _ _
  have h6 := Int.ediv_nonneg hx (Int.le_of_lt hy)
  have h7 : 0 ≤ y.toInt * (x.toInt / y.toInt) := Int.mul_nonneg (Int.le_of_lt hy) h6
  have h8 : (x / y * y).toInt = y.toInt * (x.toInt / y.toInt) := by
    rw [Int64.toInt_mul, h1, Int.mul_comm, Int.bmod_eq_of_le (by omega) (by omega)]
  have h9 : z.toInt = x.toInt - y.toInt * (x.toInt / y.toInt) := by
    rw [e, Int64.toInt_sub, h8, Int.bmod_eq_of_le (by omega) (by omega)]
  omega
theorem l_ne0 {y : Int64} (h : 1 ≤ y.toInt) : ¬ y = 0 := fun q => by
  subst q
  exact absurd h (by decide)
def p7 : Nat → Int
  | 0 => 1
  | n + 1 => 7 * p7 n
def p7I (n : Int) : Int := p7 n.toNat
theorem p7_pos : ∀ n, 1 ≤ p7 n
  | 0 => by decide
  | n + 1 => by have := p7_pos n; rw [p7]; omega
theorem p7_mono : ∀ n m, n ≤ m → p7 n ≤ p7 m
  | n, 0, h => by rw [show n = 0 by omega]; exact Int.le_refl _
  | n, m + 1, h => by
    by_cases hc : n = m + 1
    · rw [hc]; exact Int.le_refl _
    · have h1 := p7_mono n m (by omega)
      have h2 := p7_pos m
      rw [p7]
      omega
theorem p7_at (x : Int) (h0 : 0 ≤ x) (h : x ≤ 20) : p7I (x + 1) = 7 * p7I x ∧ 1 ≤ p7I x ∧ p7I x ≤ 79792266297612001 := by
  unfold p7I
  refine ⟨?_, p7_pos _, ?_⟩
  · rw [show (x + 1).toNat = x.toNat + 1 by omega, p7]
  · have h1 := p7_mono x.toNat 20 (by omega)
    have h2 : p7 20 = 79792266297612001 := by decide
    omega
theorem l_mulB {x z w : Int64} {y : Int32} {P : Int} (e : z = y.toInt64) (ew : w = x * z) (hx0 : 0 ≤ x.toInt) (hx : x.toInt ≤ P) (hy0 : 0 ≤ y.toInt) (hy : y.toInt ≤ 7) (hP : P ≤ 79792266297612001) : 0 ≤ w.toInt ∧ w.toInt ≤ 7 * P ∧ (1 ≤ y.toInt → x.toInt ≤ w.toInt) := by
  have e2 : z.toInt = y.toInt := by rw [e]; exact Int32.toInt_toInt64 y
  have h := l_mul hx0 hx (y := z) (b := 7) (by omega) (by omega) (by omega)
  rw [← ew] at h
  refine ⟨h.2.1, by have := h.2.2; omega, fun q => ?_⟩
  rw [h.1, e2]
  have h3 : x.toInt * 1 ≤ x.toInt * y.toInt := Int.mul_le_mul_of_nonneg_left q hx0
  omega
theorem gS_at {G : GS} (h : gS G = 1) {s w r q : Int32} (h0 : 0 ≤ s.toInt) (hs : s.toInt < (G.1 66 85).toInt) (ew : w.toInt = (G.1 112 s.toNatClampNeg).toInt) (er : r.toInt = (G.1 113 s.toNatClampNeg).toInt) (eq : q.toInt = (G.1 114 s.toNatClampNeg).toInt) : q.toInt + (G.1 92 w.toNatClampNeg).toInt ≤ (G.1 91 r.toNatClampNeg).toInt := by
  have c1 := c_nat s
  have c2 := c_nat (G.1 66 85)
  have e1 : w = G.1 112 s.toNatClampNeg := Int32.toInt_inj.mp ew
  have e2 : r = G.1 113 s.toNatClampNeg := Int32.toInt_inj.mp er
  rw [e1, e2, eq]
  exact ind_p h s.toNatClampNeg (by omega)
theorem gS_step {G G1 : GS} {x w r q v : Int32} (hS : gS G = 1) (hx : x.toInt = (G.1 66 85).toInt) (h0 : 0 ≤ x.toInt) (h1 : G1.1 66 85 = v) (hv : v.toInt = x.toInt + 1) (a1 : ∀ j, j ≠ x.toNatClampNeg → G1.1 112 j = G.1 112 j) (a2 : ∀ j, j ≠ x.toNatClampNeg → G1.1 113 j = G.1 113 j) (a3 : ∀ j, j ≠ x.toNatClampNeg → G1.1 114 j = G.1 114 j) (a4 : ∀ j, True → G1.1 92 j = G.1 92 j) (a5 : ∀ j, True → G1.1 91 j = G.1 91 j) (b1 : G1.1 112 x.toNatClampNeg = w) (b2 : G1.1 113 x.toNatClampNeg = r) (b3 : G1.1 114 x.toNatClampNeg = q) (ho : q.toInt + (G.1 92 w.toNatClampNeg).toInt ≤ (G.1 91 r.toNatClampNeg).toInt) : gS G1 = 1 := by
  have c1 := c_nat v
  have c2 := c_nat x
  have c3 := c_nat (G.1 66 85)
  refine ind_1 (fun i hi => ?_)
  rw [h1] at hi
  by_cases hc : i = x.toNatClampNeg
  · subst hc
    rw [b1, b2, b3, a4 _ trivial, a5 _ trivial]
    exact ho
  · rw [a1 i hc, a2 i hc, a3 i hc, a4 _ trivial, a5 _ trivial]
    exact ind_p hS i (by omega)
