

def ndv (f : Nat → Int32) (x l i : Int) : Int := (f (6 * x + 3 * l + i).toNat).toInt
theorem ndv_at {f : Nat → Int32} {x y : Int32} {X l i : Int} (hx : x.toInt = 6 * X + 3 * l + i) (hy : y.toInt = (f x.toNatClampNeg).toInt) : y.toInt = ndv f X l i := by
  unfold ndv
  rw [hy, ← hx]
  rfl
