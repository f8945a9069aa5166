

/-- the reference's WALKERS -/
def MW (f : Nat → Nat → Int32) : Prop := ∀ w : Nat, (w : Int) < (f 66 53).toInt → 1 ≤ (f 92 w).toInt ∧ 1 ≤ (f 93 w).toInt ∧ (f 93 w).toInt ≤ (f 94 w).toInt ∧ (f 94 w).toInt ≤ (f 95 w).toInt
