

theorem xI_modB {x y z : Int32} (e : z = x - x / y * y) (h : 0 < y.toInt) (hx : 0 ≤ x.toInt) : 0 ≤ z.toInt ∧ z.toInt < y.toInt := by
  have h1 := xI_mod rfl e h hx
  have h2 := Int.emod_nonneg x.toInt (show y.toInt ≠ 0 by omega)
  have h3 := Int.emod_lt_of_pos x.toInt h
  omega
