/-! numbers and bits -/
theorem tn_i {x : Int32} (h : 0 ≤ x.toInt) : (x.toBitVec.toNat : Int) = x.toInt := by
  have h1 : x.toInt = x.toBitVec.toInt := rfl
  have h2 := BitVec.toInt_eq_toNat_cond x.toBitVec
  have h3 := x.toBitVec.isLt
  rw [h1] at h ⊢
  rw [h2] at h ⊢
  split at h
  · rw [if_pos (by assumption)]
  · omega
theorem ti_n {x : Int32} {v : Nat} (h : x.toBitVec.toNat = v) (hv : v < 2147483648) : x.toInt = (v : Int) := by
  have h1 : x.toInt = x.toBitVec.toInt := rfl
  rw [h1, BitVec.toInt_eq_toNat_cond, h, if_pos (by omega)]
theorem or_i {x y : Int32} {k c : Nat} {X m : Int} (hc : 2 ^ k = c) (hx : x.toInt = X) (h0 : 0 ≤ X) (h1 : X < (c : Int)) (hy : y.toInt = m * (c : Int)) (hm : 0 ≤ m) (h2 : m * (c : Int) + X < 2147483648) : (x ||| y).toInt = X + m * (c : Int) := by
  have a1 := tn_i (x := x) (by omega)
  have hmc : 0 ≤ m * (c : Int) := Int.mul_nonneg hm (by omega)
  have a2 := tn_i (x := y) (by omega)
  have e1 : x.toBitVec.toNat = X.toNat := by omega
  have e2 : y.toBitVec.toNat = m.toNat * c := by
    have : ((m.toNat * c : Nat) : Int) = m * (c : Int) := by
      rw [Int.natCast_mul, Int.toNat_of_nonneg hm]
    omega
  have e3 : (x ||| y).toBitVec.toNat = m.toNat * c + X.toNat := by
    show (x.toBitVec ||| y.toBitVec).toNat = _
    rw [BitVec.toNat_or, e1, e2, Nat.or_comm, ← hc, ← Nat.shiftLeft_eq, Nat.shiftLeft_add_eq_or_of_lt (by omega)]
  have e4 : ((m.toNat * c : Nat) : Int) = m * (c : Int) := by
    rw [Int.natCast_mul, Int.toNat_of_nonneg hm]
  rw [ti_n e3 (by omega)]
  omega
theorem shl_i {x kk : Int32} {k c : Nat} {X : Int} (hk : (x <<< (kk &&& 31)).toBitVec = x.toBitVec <<< k) (hc : 2 ^ k = c) (hx : x.toInt = X) (h0 : 0 ≤ X) (h1 : X * (c : Int) < 2147483648) : (x <<< (kk &&& 31)).toInt = X * (c : Int) := by
  have a1 := tn_i (x := x) (by omega)
  have e1 : x.toBitVec.toNat = X.toNat := by omega
  have e4 : ((X.toNat * c : Nat) : Int) = X * (c : Int) := by
    rw [Int.natCast_mul, Int.toNat_of_nonneg h0]
  have e3 : (x <<< (kk &&& 31)).toBitVec.toNat = X.toNat * c := by
    rw [hk, BitVec.toNat_shiftLeft, e1, Nat.shiftLeft_eq, hc]
    exact Nat.mod_eq_of_lt (by omega)
  rw [ti_n e3 (by omega)]
  exact e4
theorem shr_i {x kk : Int32} {k c : Nat} {X : Int} (hk : (x >>> (kk &&& 31)).toBitVec = x.toBitVec.sshiftRight k) (hc : 2 ^ k = c) (hx : x.toInt = X) (h0 : 0 ≤ X) : (x >>> (kk &&& 31)).toInt = X / (c : Int) := by
  have a1 := tn_i (x := x) (by omega)
  have hlt := tI_rng x
  have e1 : x.toBitVec.toNat = X.toNat := by omega
  have hmsb : x.toBitVec.msb = false := by
    rw [BitVec.msb_eq_decide, decide_eq_false_iff_not]
    omega
  have e3 : (x >>> (kk &&& 31)).toBitVec.toNat = X.toNat / c := by
    rw [hk, BitVec.sshiftRight_eq_of_msb_false hmsb, BitVec.toNat_ushiftRight, e1, Nat.shiftRight_eq_div_pow, hc]
  have hle : X.toNat / c ≤ X.toNat := Nat.div_le_self _ _
  rw [ti_n e3 (by omega), Int.natCast_ediv, Int.toNat_of_nonneg h0]
theorem and_i {x m : Int32} {k c : Nat} {X : Int} (hm : m.toBitVec.toNat = 2 ^ k - 1) (hc : 2 ^ k = c) (hx : x.toInt = X) (h0 : 0 ≤ X) : (x &&& m).toInt = X % (c : Int) := by
  have a1 := tn_i (x := x) (by omega)
  have hlt := tI_rng x
  have e1 : x.toBitVec.toNat = X.toNat := by omega
  have e3 : (x &&& m).toBitVec.toNat = X.toNat % c := by
    show (x.toBitVec &&& m.toBitVec).toNat = _
    rw [BitVec.toNat_and, hm, e1, Nat.and_two_pow_sub_one_eq_mod, hc]
  have hle : X.toNat % c ≤ X.toNat := Nat.mod_le _ _
  rw [ti_n e3 (by omega), Int.natCast_emod, Int.toNat_of_nonneg h0]
theorem oi_i {v : Int} (h0 : 0 ≤ v) (h1 : v < 2147483648) : (Int32.ofInt v).toInt = v := Int32.toInt_ofInt_of_le (by omega) (by omega)
def encV (x : IC) : Int := (if x.1 < 0 then 1 else 2 * x.1) + 32 * x.2.1 + 16384 * x.2.2.1 + 1048576 * x.2.2.2
theorem encI_i {x : IC} (h : ICok x) : (encI x).toInt = encV x ∧ 0 ≤ encV x := by
  obtain ⟨m, nth, i, l⟩ := x
  obtain ⟨h1, h2, h3, h4, h5, h6, h7, h8⟩ := h
  simp only at h1 h2 h3 h4 h5 h6 h7 h8
  have a1 : (Int32.ofInt (if m < 0 then 0 else m)).toInt = (if m < 0 then 0 else m) := by
    split
    · rfl
    · exact oi_i (by omega) (by omega)
  have hw : 0 ≤ (if m < 0 then 0 else m) ∧ (if m < 0 then 0 else m) ≤ 15 := by
    split <;> omega
  have b1 := shl_i (kk := 1) (k := 1) (c := 2) rfl rfl a1 hw.1 (by omega)
  have a0 : (if m < 0 then (1 : Int32) else 0).toInt = (if m < 0 then 1 else 0) := by
    split <;> rfl
  have h01 : 0 ≤ (if m < 0 then (1 : Int) else 0) ∧ (if m < 0 then (1 : Int) else 0) < 2 := by
    split <;> omega
  have c1 := or_i (k := 1) (c := 2) rfl a0 h01.1 h01.2 b1 hw.1 (by omega)
  have b2 := shl_i (kk := 5) (k := 5) (c := 32) rfl rfl (oi_i h3 (by omega)) h3 (by omega)
  have c2 := or_i (k := 5) (c := 32) rfl c1 (by omega) (by omega) b2 h3 (by omega)
  have b3 := shl_i (kk := 14) (k := 14) (c := 16384) rfl rfl (oi_i h5 (by omega)) h5 (by omega)
  have c3 := or_i (k := 14) (c := 16384) rfl c2 (by omega) (by omega) b3 h5 (by omega)
  have b4 := shl_i (kk := 20) (k := 20) (c := 1048576) rfl rfl (oi_i h7 (by omega)) h7 (by omega)
  have c4 := or_i (k := 20) (c := 1048576) rfl c3 (by omega) (by omega) b4 h7 (by omega)
  have e : encV (m, nth, i, l) = (if m < 0 then 1 else 0) + (if m < 0 then 0 else m) * ((2 : Nat) : Int) + nth * ((32 : Nat) : Int) + i * ((16384 : Nat) : Int) + l * ((1048576 : Nat) : Int) := by
    show (if m < 0 then 1 else 2 * m) + 32 * nth + 16384 * i + 1048576 * l = _
    by_cases hm : m < 0
    · rw [if_pos hm, if_pos hm, if_pos hm]
      omega
    · rw [if_neg hm, if_neg hm, if_neg hm]
      omega
  refine ⟨?_, ?_⟩
  · rw [e]
    exact c4
  · rw [e]
    omega
/-- what an INCH says, told from its number -/
theorem part_i {x : IC} (h : ICok x) {y : Int32} (hy : y = encI x) : (y &&& 1).toInt = (if x.1 < 0 then 1 else 0) ∧ (y >>> (5 &&& 31) &&& 511).toInt = x.2.1 ∧ (y >>> (14 &&& 31) &&& 63).toInt = x.2.2.1 ∧ (y >>> (20 &&& 31) &&& 63).toInt = x.2.2.2 ∧ (y >>> (1 &&& 31) &&& 15).toInt = (if x.1 < 0 then 0 else x.1) := by
  obtain ⟨e1, e2⟩ := encI_i h
  rw [← hy] at e1
  obtain ⟨m, nth, i, l⟩ := x
  obtain ⟨h1, h2, h3, h4, h5, h6, h7, h8⟩ := h
  simp only at h1 h2 h3 h4 h5 h6 h7 h8
  have eV : encV (m, nth, i, l) = (if m < 0 then 1 else 2 * m) + 32 * nth + 16384 * i + 1048576 * l := rfl
  have q1 := and_i (m := 1) (k := 1) (c := 2) rfl rfl e1 e2
  have s5 := shr_i (kk := 5) (k := 5) (c := 32) rfl rfl e1 e2
  have s14 := shr_i (kk := 14) (k := 14) (c := 16384) rfl rfl e1 e2
  have s20 := shr_i (kk := 20) (k := 20) (c := 1048576) rfl rfl e1 e2
  have s1 := shr_i (kk := 1) (k := 1) (c := 2) rfl rfl e1 e2
  have q5 := and_i (m := 511) (k := 9) (c := 512) rfl rfl s5 (by omega)
  have q14 := and_i (m := 63) (k := 6) (c := 64) rfl rfl s14 (by omega)
  have q20 := and_i (m := 63) (k := 6) (c := 64) rfl rfl s20 (by omega)
  have qs1 := and_i (m := 15) (k := 4) (c := 16) rfl rfl s1 (by omega)
  rw [q1, q5, q14, q20, qs1]
  show encV (m, nth, i, l) % ((2 : Nat) : Int) = (if m < 0 then 1 else 0) ∧ encV (m, nth, i, l) / ((32 : Nat) : Int) % ((512 : Nat) : Int) = nth ∧ encV (m, nth, i, l) / ((16384 : Nat) : Int) % ((64 : Nat) : Int) = i ∧ encV (m, nth, i, l) / ((1048576 : Nat) : Int) % ((64 : Nat) : Int) = l ∧ encV (m, nth, i, l) / ((2 : Nat) : Int) % ((16 : Nat) : Int) = (if m < 0 then 0 else m)
  rw [eV]
  by_cases hm : m < 0
  · rw [if_pos hm, if_pos hm, if_pos hm]
    omega
  · rw [if_neg hm, if_neg hm, if_neg hm]
    omega
