/-! LINES: what is asked, and the program's bits -/
def vlu (V : PV) (day : Int32) (x : IC) (k : Nat) : Int32 := (evl x day (V.2.2.1.getD k ([], [])).2).headD 0
def fbd (x : IC) : Prop := x.1 < 0 ∨ x.1 / 2 % 2 = 1 ∨ x.1 / 4 % 2 = 1
def LNs (V : PV) (day : Int32) (x : IC) (t : Nat) : Prop := (t = 0 ∧ fbd x) ∨ (t ≠ 0 ∧ ∃ k, k < V.2.2.1.length ∧ t.testBit k = true ∧ (vlu V day x k).toInt ≠ 0)
/-- all that holds of a PAVING's rules -/
def PVok (V : PV) : Prop := V.2.2.1.length ≤ 6 ∧ (fcd V.2.2.1).length ≤ 580 ∧ ∀ k, k < V.2.2.1.length → FOK (V.2.2.1.getD k ([], [])).2
theorem on_i {m : Nat} (h : m < 2147483648) : (Int32.ofNat m).toInt = (m : Int) := Int32.toInt_ofNat_of_lt h
theorem nat_i {x : Int32} (h : 0 ≤ x.toInt) : x = Int32.ofNat x.toInt.toNat := by
  refine Int32.toInt_inj.mp ?_
  have := tI_rng x
  rw [on_i (by omega)]
  omega
theorem ofN_tn {m : Nat} (h : m < 4294967296) : (Int32.ofNat m).toBitVec.toNat = m := by
  show (BitVec.ofNat 32 m).toNat = m
  rw [BitVec.toNat_ofNat]
  exact Nat.mod_eq_of_lt h
theorem n_and {a b : Nat} (ha : a < 2147483648) (hb : b < 2147483648) : (Int32.ofNat a &&& Int32.ofNat b).toInt = ((a &&& b : Nat) : Int) := by
  have h1 : a &&& b ≤ a := Nat.and_le_left
  refine ti_n ?_ (by omega)
  show ((Int32.ofNat a).toBitVec &&& (Int32.ofNat b).toBitVec).toNat = _
  rw [BitVec.toNat_and, ofN_tn (by omega), ofN_tn (by omega)]
theorem n_or {a b : Nat} (ha : a < 128) (hb : b < 128) : Int32.ofNat a ||| Int32.ofNat b = Int32.ofNat (a ||| b) := by
  have h1 : a ||| b < 2 ^ 7 := Nat.or_lt_two_pow (by omega) (by omega)
  refine Int32.toInt_inj.mp ?_
  rw [on_i (by omega)]
  refine ti_n ?_ (by omega)
  show ((Int32.ofNat a).toBitVec ||| (Int32.ofNat b).toBitVec).toNat = _
  rw [BitVec.toNat_or, ofN_tn (by omega), ofN_tn (by omega)]
/-- two sets of bits meet -/
theorem meet_i {a b : Nat} : a &&& b ≠ 0 ↔ ∃ k, a.testBit k = true ∧ b.testBit k = true := by
  constructor
  · intro h
    refine Classical.byContradiction (fun q => h ?_)
    refine Nat.eq_of_testBit_eq (fun k => ?_)
    rw [Nat.testBit_and, Nat.zero_testBit]
    by_cases h1 : a.testBit k = true
    · by_cases h2 : b.testBit k = true
      · exact absurd ⟨k, h1, h2⟩ q
      · rw [h1]
        simpa using h2
    · rw [Bool.eq_false_iff.mpr h1]
      rfl
  · rintro ⟨k, h1, h2⟩ h
    have := congrArg (fun z => Nat.testBit z k) h
    simp only [Nat.testBit_and, h1, h2, Nat.zero_testBit] at this
    exact absurd this (by decide)
theorem sh_pow : ∀ k : Nat, k < 31 → ((1 : Int32) <<< (Int32.ofNat k &&& 31)) = Int32.ofNat (2 ^ k) := by decide +kernel
/-- the bits that are found of an INCH: by the RULES below n -/
def FB (V : PV) (day : Int32) (x : IC) (n m : Nat) : Prop := m < 128 ∧ (m.testBit 6 = true ↔ fbd x) ∧ ∀ k, k < 6 → (m.testBit k = true ↔ (k < n ∧ (vlu V day x k).toInt ≠ 0))
theorem fb_0 {x : IC} (hx : ICok x) {y : Int32} (hy : y = encI x) : ((y &&& 13).toInt ≠ 0 ↔ fbd x) := by
  obtain ⟨e1, e2⟩ := encI_i hx
  rw [← hy] at e1
  have hr := tI_rng y
  have e3 : y = Int32.ofNat (encV x).toNat := by
    rw [nat_i (x := y) (by omega), e1]
  have e13 : (13 : Int32) = Int32.ofNat 13 := rfl
  rw [e3, e13, n_and (by omega) (by decide)]
  obtain ⟨m, nth, i, l⟩ := x
  obtain ⟨g1, g2, g3, g4, g5, g6, g7, g8⟩ := hx
  simp only at g1 g2 g3 g4 g5 g6 g7 g8
  have eV : encV (m, nth, i, l) = (if m < 0 then 1 else 2 * m) + 32 * nth + 16384 * i + 1048576 * l := rfl
  have hm : ((encV (m, nth, i, l)).toNat &&& 13) = ((encV (m, nth, i, l)).toNat % 16 &&& 13) := by
    refine Nat.eq_of_testBit_eq (fun k => ?_)
    rw [Nat.testBit_and, Nat.testBit_and, show (16 : Nat) = 2 ^ 4 from rfl, Nat.testBit_mod_two_pow]
    by_cases hk : k < 4
    · simp [hk]
    · have : Nat.testBit 13 k = false := Nat.testBit_lt_two_pow (Nat.lt_of_lt_of_le (by decide : 13 < 2 ^ 4) (Nat.pow_le_pow_right (by decide) (by omega)))
      rw [this]
      simp
  rw [hm]
  have hmod : (encV (m, nth, i, l)).toNat % 16 = ((if m < 0 then (1 : Int) else 2 * m) % 16).toNat := by
    rw [eV]
    by_cases h0 : m < 0
    · rw [if_pos h0]
      omega
    · rw [if_neg h0]
      omega
  rw [hmod]
  unfold fbd
  have key : ∀ v : Nat, v < 16 → (((2 * v % 16 &&& 13 : Nat) : Int) ≠ 0 ↔ (v / 2 % 2 = 1 ∨ v / 4 % 2 = 1)) := by decide +kernel
  by_cases h0 : m < 0
  · rw [if_pos h0]
    exact ⟨fun _ => Or.inl h0, fun _ => by decide⟩
  · rw [if_neg h0]
    have := key m.toNat (by omega)
    rw [show ((2 * m) % 16).toNat = 2 * m.toNat % 16 by omega, this]
    show _ ↔ (m < 0 ∨ m / 2 % 2 = 1 ∨ m / 4 % 2 = 1)
    constructor
    · intro q
      right
      rcases q with q | q
      · left
        omega
      · right
        omega
    · intro q
      rcases q with q | q | q
      · exact absurd q h0
      · left
        omega
      · right
        omega
theorem FB_start {V : PV} {day : Int32} {x : IC} {w : Int32} (h : (w = 64 ∧ fbd x) ∨ (w = 0 ∧ ¬ fbd x)) : ∃ m, w = Int32.ofNat m ∧ FB V day x 0 m := by
  rcases h with ⟨rfl, h⟩ | ⟨rfl, h⟩
  · refine ⟨64, rfl, by decide, ⟨fun _ => h, fun _ => by decide⟩, fun k hk => ⟨fun q => ?_, fun q => absurd q.1 (Nat.not_lt_zero k)⟩⟩
    have : ∀ k : Nat, k < 6 → Nat.testBit 64 k = false := by decide
    rw [this k hk] at q
    exact absurd q (by decide)
  · refine ⟨0, rfl, by decide, ⟨fun q => ?_, fun q => absurd q h⟩, fun k hk => ⟨fun q => ?_, fun q => absurd q.1 (Nat.not_lt_zero k)⟩⟩
    · exact absurd q (by decide)
    · rw [Nat.zero_testBit] at q
      exact absurd q (by decide)
theorem FB_no {V : PV} {day : Int32} {x : IC} {n m : Nat} (h : FB V day x n m) (hv : (vlu V day x n).toInt = 0) : FB V day x (n + 1) m := by
  refine ⟨h.1, h.2.1, fun k hk => (h.2.2 k hk).trans ⟨fun q => ⟨by omega, q.2⟩, fun q => ⟨?_, q.2⟩⟩⟩
  have : k ≠ n := fun e => q.2 (by rw [e]; exact hv)
  omega
theorem FB_yes {V : PV} {day : Int32} {x : IC} {n m : Nat} (h : FB V day x n m) (hn : n < 6) (hv : (vlu V day x n).toInt ≠ 0) : FB V day x (n + 1) (m ||| 2 ^ n) := by
  have hp : 2 ^ n < 2 ^ 7 := Nat.pow_lt_pow_right (by decide) (by omega)
  refine ⟨Nat.or_lt_two_pow (n := 7) h.1 hp, ?_, fun k hk => ?_⟩
  · rw [Nat.testBit_or, Nat.testBit_two_pow]
    have : decide (n = 6) = false := decide_eq_false (by omega)
    rw [this, Bool.or_false]
    exact h.2.1
  · rw [Nat.testBit_or, Nat.testBit_two_pow]
    by_cases hkn : n = k
    · subst hkn
      simp [hv]
    · have : decide (n = k) = false := decide_eq_false hkn
      rw [this, Bool.or_false]
      exact (h.2.2 k hk).trans ⟨fun q => ⟨by omega, q.2⟩, fun q => ⟨by omega, q.2⟩⟩
/-- whether it is a LINE, told from the bits -/
theorem FB_line {V : PV} {day : Int32} {x : IC} {m t : Nat} {y p : Int32} (h : FB V day x V.2.2.1.length m) (hV : V.2.2.1.length ≤ 6) (hy : y = Int32.ofNat m) (hp : p.toInt = (t : Int)) (ht : t < 64) : (p.toInt = 0 → ((y &&& 64).toInt ≠ 0 ↔ LNs V day x t)) ∧ (p.toInt ≠ 0 → ((y &&& p).toInt ≠ 0 ↔ LNs V day x t)) := by
  have hm := h.1
  have ep : p = Int32.ofNat t := by
    rw [nat_i (x := p) (by omega), hp]
    rfl
  have e64 : (64 : Int32) = Int32.ofNat 64 := rfl
  refine ⟨fun h0 => ?_, fun h0 => ?_⟩
  · have t0 : t = 0 := by omega
    rw [hy, e64, n_and (by omega) (by decide)]
    unfold LNs
    constructor
    · intro q
      refine Or.inl ⟨t0, h.2.1.mp ?_⟩
      obtain ⟨k, k1, k2⟩ := meet_i.mp (show m &&& 64 ≠ 0 by omega)
      have e6 : k = 6 := by
        rw [show (64 : Nat) = 2 ^ 6 from rfl, Nat.testBit_two_pow] at k2
        have := of_decide_eq_true k2
        omega
      rw [← e6]
      exact k1
    · intro q
      rcases q with q | q
      · have : m &&& 64 ≠ 0 := meet_i.mpr ⟨6, h.2.1.mpr q.2, by decide⟩
        omega
      · exact absurd t0 q.1
  · have t0 : t ≠ 0 := by omega
    rw [hy, ep, n_and (by omega) (by omega)]
    unfold LNs
    constructor
    · intro q
      obtain ⟨k, k1, k2⟩ := meet_i.mp (show m &&& t ≠ 0 by omega)
      have hk : k < 6 := by
        refine Classical.byContradiction (fun w => ?_)
        have : t.testBit k = false := Nat.testBit_lt_two_pow (Nat.lt_of_lt_of_le ht (by
          have := Nat.pow_le_pow_right (show 0 < 2 by decide) (show 6 ≤ k by omega)
          exact this))
        rw [this] at k2
        exact absurd k2 (by decide)
      have := (h.2.2 k hk).mp k1
      exact Or.inr ⟨t0, k, this.1, k2, this.2⟩
    · intro q
      rcases q with q | ⟨-, k, k1, k2, k3⟩
      · exact absurd q.1 t0
      · have : m &&& t ≠ 0 := meet_i.mpr ⟨k, (h.2.2 k (by omega)).mpr ⟨k1, k3⟩, k2⟩
        omega
