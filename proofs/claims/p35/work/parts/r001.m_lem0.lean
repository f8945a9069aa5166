

theorem c_nat (x : Int32) : x.toNatClampNeg = x.toInt.toNat := rfl
theorem Bd.law {G : GS} (h : Bd G) {x v : Int32} (e : v = G.1 98 x.toNatClampNeg) : 0 ≤ v.toInt ∧ v.toInt ≤ 1 ∧ (v.toInt = 1 → x.toInt < 401) := by
  subst e
  have h1 := h.1 98 x.toNatClampNeg
  have e1 : loB 98 x.toNatClampNeg = (if 401 ≤ x.toNatClampNeg then ((0 : Int), (0 : Int)) else (0, 1)).1 := rfl
  have e2 : hiB 98 x.toNatClampNeg = (if 401 ≤ x.toNatClampNeg then ((0 : Int), (0 : Int)) else (0, 1)).2 := rfl
  rw [e1, e2] at h1
  have h2 := c_nat x
  split at h1
  · refine ⟨h1.1, by have := h1.2; omega, fun q => by have := h1.2; omega⟩
  · refine ⟨h1.1, h1.2, fun q => by omega⟩
def nbB (r : Nat) : Bool := r == 110 || r == 111 || r == 118
theorem nb_lo {r j : Nat} (hr : nbB r = true) : (loB r j, hiB r j) = (if j % 16 = 0 then ((-1 : Int), (3 : Int)) else if j % 16 = 1 then (0, 2) else (-2147483648, 2147483647)) := by
  simp [nbB] at hr
  rcases hr with (rfl | rfl) | rfl <;> rfl
theorem Bd.now {G : GS} (h : Bd G) (r : Nat) (hr : nbB r = true) {x v : Int32} (e : v = G.1 r x.toNatClampNeg) (hx : 0 ≤ x.toInt) : (x.toInt % 16 = 0 → -1 ≤ v.toInt ∧ v.toInt ≤ 3) ∧ (x.toInt % 16 = 1 → 0 ≤ v.toInt ∧ v.toInt ≤ 2) := by
  subst e
  have h1 := h.1 r x.toNatClampNeg
  have e1 : loB r x.toNatClampNeg = _ := congrArg Prod.fst (nb_lo (j := x.toNatClampNeg) hr)
  have e2 : hiB r x.toNatClampNeg = _ := congrArg Prod.snd (nb_lo (j := x.toNatClampNeg) hr)
  rw [e1, e2] at h1
  have h2 := c_nat x
  refine ⟨fun q => ?_, fun q => ?_⟩
  · rw [if_pos (by omega)] at h1
    exact h1
  · rw [if_neg (by omega), if_pos (by omega)] at h1
    exact h1
theorem Bd.now0 {G : GS} (h : Bd G) (r : Nat) (hr : nbB r = true) {v : Int32} (e : v = G.1 r (0 : Int32).toNatClampNeg) : -1 ≤ v.toInt ∧ v.toInt ≤ 3 := (h.now r hr e (by decide)).1 (by decide)
theorem Bd.now1 {G : GS} (h : Bd G) (r : Nat) (hr : nbB r = true) {v : Int32} (e : v = G.1 r (1 : Int32).toNatClampNeg) : 0 ≤ v.toInt ∧ v.toInt ≤ 2 := (h.now r hr e (by decide)).2 (by decide)
theorem Bd.putLaw {G G1 : GS} {x v : Int32} (h : Bd G) (e : G1 = (u2 G.1 98 x.toNatClampNeg (vp_nar .boolean v), G.2)) (hx : 0 ≤ x.toInt) (hq : x.toInt < 401 ∨ v.toInt = 0) : Bd G1 := by
  have hr := h.2.put e rfl
  subst e
  have h2 := c_nat x
  have e1 : loB 98 x.toNatClampNeg = (if 401 ≤ x.toNatClampNeg then ((0 : Int), (0 : Int)) else (0, 1)).1 := rfl
  have e2 : hiB 98 x.toNatClampNeg = (if 401 ≤ x.toNatClampNeg then ((0 : Int), (0 : Int)) else (0, 1)).2 := rfl
  refine h.up ?_ ?_ hr
  · rw [e1]
    split
    · exact nz_bool.1
    · exact nz_bool.1
  · rw [e2]
    split
    · have : v = 0 := Int32.toInt_inj.mp (by rcases hq with q | q; omega; exact q)
      subst this
      exact Int.le_of_eq rfl
    · exact nz_bool.2
theorem Bd.putNow {G G1 : GS} {x v : Int32} (h : Bd G) (r : Nat) (hr : nbB r = true) (e : G1 = (u2 G.1 r x.toNatClampNeg v, G.2)) (hx : 0 ≤ x.toInt) (h0 : x.toInt % 16 = 0 → -1 ≤ v.toInt ∧ v.toInt ≤ 3) (h1 : x.toInt % 16 = 1 → 0 ≤ v.toInt ∧ v.toInt ≤ 2) (hb : rbq r x.toNatClampNeg = false) : Bd G1 := by
  have hR := h.2.put e hb
  subst e
  have h2 := c_nat x
  have e1 : loB r x.toNatClampNeg = _ := congrArg Prod.fst (nb_lo (j := x.toNatClampNeg) hr)
  have e2 : hiB r x.toNatClampNeg = _ := congrArg Prod.snd (nb_lo (j := x.toNatClampNeg) hr)
  have h3 := tI_rng v
  refine h.up ?_ ?_ hR
  · rw [e1]
    split
    · exact (h0 (by omega)).1
    · split
      · exact (h1 (by omega)).1
      · exact h3.1
  · rw [e2]
    split
    · exact (h0 (by omega)).2
    · split
      · exact (h1 (by omega)).2
      · exact h3.2
