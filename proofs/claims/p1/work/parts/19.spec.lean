theorem tb_out14 (x : Int32) (h0 : ¬ x = 0) (h1 : ¬ x = 1) (h2 : ¬ x = 2) (h3 : ¬ x = 3) (h4 : ¬ x = 4) (h5 : ¬ x = 5) (h6 : ¬ x = 6) (h7 : ¬ x = 7) (h8 : ¬ x = 8) (h9 : ¬ x = 9) (h10 : ¬ x = 10) (h11 : ¬ x = 11) (h12 : ¬ x = 12) (h13 : ¬ x = 13) (h14 : ¬ x = 14) : x.toInt < 0 ∨ 14 < x.toInt := by
  have q0 := lv_neT h0 (a := 0) rfl
  have q1 := lv_neT h1 (a := 1) rfl
  have q2 := lv_neT h2 (a := 2) rfl
  have q3 := lv_neT h3 (a := 3) rfl
  have q4 := lv_neT h4 (a := 4) rfl
  have q5 := lv_neT h5 (a := 5) rfl
  have q6 := lv_neT h6 (a := 6) rfl
  have q7 := lv_neT h7 (a := 7) rfl
  have q8 := lv_neT h8 (a := 8) rfl
  have q9 := lv_neT h9 (a := 9) rfl
  have q10 := lv_neT h10 (a := 10) rfl
  have q11 := lv_neT h11 (a := 11) rfl
  have q12 := lv_neT h12 (a := 12) rfl
  have q13 := lv_neT h13 (a := 13) rfl
  have q14 := lv_neT h14 (a := 14) rfl
  omega
def s_fault (n : Int32) : Int32 := if n = 0 then 0 else -1
def s_about (n : Int32) : Int32 := if n = 0 then 0 else if n = 1 then 0 else if n = 2 then 0 else if n = 3 then 0 else if n = 4 then 0 else if n = 5 then 0 else if n = 6 then 0 else if n = 7 then 0 else if n = 8 then 0 else if n = 9 then 0 else if n = 10 then 0 else if n = 11 then 0 else if n = 12 then 0 else if n = 13 then 0 else if n = 14 then 1 else -1
theorem sh_zero (x : Int32) : (((0 : Int32) >>> (x &&& 31)) &&& 1) = 0 := by
  have h : ((0 : Int32) >>> (x &&& 31)) = 0 := by
    apply Int32.toBitVec_inj.mp
    simp [Int32.toBitVec_shiftRight]
  rw [h]
  decide
theorem bx_j {b : Int32} (h : ¬ b < 0) (h2 : ¬ 3 ≤ b) : b = 0 ∨ b = 1 ∨ b = 2 := by
  obtain ⟨j, hj, rfl⟩ := nI_of h
  have h3 : j < 3 := by
    rcases Nat.lt_or_ge j 3 with q | q
    · exact q
    · exact absurd (nI_le (a := 3) q hj) h2
  rcases (show j = 0 ∨ j = 1 ∨ j = 2 by omega) with rfl | rfl | rfl
  · exact Or.inl rfl
  · exact Or.inr (Or.inl rfl)
  · exact Or.inr (Or.inr rfl)
theorem bx_n {b : Int32} (h : ¬ b < 0) (h2 : ¬ 3 ≤ b) : ¬ b * 10 < 0 := by
  rcases bx_j h h2 with rfl | rfl | rfl <;> decide
theorem bx_r {b : Int32} (h : ¬ b < 0) (h2 : ¬ 3 ≤ b) : (b * 10).toNatClampNeg + (10 : Int32).toNatClampNeg ≤ 30 := by
  rcases bx_j h h2 with rfl | rfl | rfl <;> decide
