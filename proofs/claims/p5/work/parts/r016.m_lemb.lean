

theorem bk_step {f : Nat → Int32} {x y : Int32} (h : y.toInt = (f x.toNatClampNeg).toInt) (h0 : 0 ≤ x.toInt) : (y.toInt = 20 → bkI f (x.toInt + 1) = bkI f x.toInt + 1) ∧ (y.toInt ≠ 20 → bkI f (x.toInt + 1) = bkI f x.toInt) := by
  have e1 : (x.toInt + 1).toNat = x.toNatClampNeg + 1 := by have := c_nat x; omega
  have e2 : x.toInt.toNat = x.toNatClampNeg := rfl
  unfold bkI
  rw [e1, e2, bk, ← h]
  exact ⟨fun q => by rw [if_pos q], fun q => by rw [if_neg q]; omega⟩
