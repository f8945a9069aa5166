theorem neg1_lt {x : Int32} (h : ¬ x < 0) : -1 < x := by
  have h1 := Int32.not_lt.mp h
  rw [Int32.lt_iff_toInt_lt]
  rw [Int32.le_iff_toInt_le] at h1
  have e1 : ((-1 : Int32)).toInt = -1 := by decide
  have e0 : ((0 : Int32)).toInt = 0 := by decide
  omega
