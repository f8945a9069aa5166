/-! TOKENS by the program -/
theorem Fr.nil {G G1 : GS} (h : Fr [] [] G G1) : G = G1 := by
  have h' := fun i j => h i j (by simp) (by simp)
  exact Prod.ext (funext fun i => funext fun j => (h' i j).1.symm) (Prod.ext (funext fun i => funext fun j => (h' i j).2.1.symm) (funext fun i => funext fun j => (h' i j).2.2.symm))
theorem cn_eq {x : Int32} {e : Nat} (h : x.toInt = (e : Int)) : x.toNatClampNeg = e := by
  have := c_nat x
  omega
def XC (b : Nat → Int) (n : Nat) (G : GS) : Prop := (G.1 3 1).toInt = (n : Int) ∧ n ≤ 1600 ∧ ∀ j, j < n → (b j < 128 → (G.1 32 j).toInt = b j) ∧ (128 ≤ b j → (G.1 32 j).toInt = b j - 256) ∧ 0 ≤ b j ∧ b j ≤ 255
theorem XC.fr {b : Nat → Int} {n : Nat} {rs : List Nat} {fs : List (Nat × Nat)} {G G1 : GS} (h : XC b n G) (hF : Fr rs fs G G1) (h1 : 3 ∉ rs) (h2 : (3, 1) ∉ fs) (h3 : 32 ∉ rs) (h4 : ∀ x ∈ fs, x.1 ≠ 32) : XC b n G1 := by
  obtain ⟨a1, a2, a3⟩ := h
  refine ⟨by rw [hF.i 3 1 h1 h2]; exact a1, a2, fun j hj => ?_⟩
  rw [hF.ri 32 h3 h4 j]
  exact a3 j hj
theorem c_letter {p0 r : Int32} {G G1 : GS} (h : P_tLetter p0 G r G1) : G = G1 ∧ (r.toInt ≠ 0 ↔ (p0.toInt < (G.1 3 1).toInt ∧ 97 ≤ (G.1 32 p0.toNatClampNeg).toInt ∧ (G.1 32 p0.toNatClampNeg).toInt ≤ 122)) := by
  obtain ⟨-, hF, -, h⟩ := h
  have z : (0 : Int32).toInt = 0 := rfl
  have o : (1 : Int32).toInt = 1 := rfl
  refine ⟨hF.nil, ?_⟩
  rcases h with ⟨c, rfl, -⟩ | ⟨c, y, rfl, ⟨c1, rfl, -⟩ | ⟨c1, y2, rfl, ⟨c2, rfl, -⟩ | ⟨c2, rfl, -⟩⟩⟩ <;> omega
theorem c_digit {p0 r : Int32} {G G1 : GS} (h : P_tDigit p0 G r G1) : G = G1 ∧ (r.toInt ≠ 0 ↔ (p0.toInt < (G.1 3 1).toInt ∧ 48 ≤ (G.1 32 p0.toNatClampNeg).toInt ∧ (G.1 32 p0.toNatClampNeg).toInt ≤ 57)) := by
  obtain ⟨-, hF, -, h⟩ := h
  have z : (0 : Int32).toInt = 0 := rfl
  have o : (1 : Int32).toInt = 1 := rfl
  refine ⟨hF.nil, ?_⟩
  rcases h with ⟨c, rfl, -⟩ | ⟨c, y, rfl, ⟨c1, rfl, -⟩ | ⟨c1, y2, rfl, ⟨c2, rfl, -⟩ | ⟨c2, rfl, -⟩⟩⟩ <;> omega
theorem c_isL {b : Nat → Int} {n : Nat} {G G1 : GS} {x r : Int32} {e : Nat} (hX : XC b n G) (he : x.toInt = (e : Int)) (h : P_tLetter x G r G1) : G = G1 ∧ (r.toInt ≠ 0 ↔ (e < n ∧ ltr (b e) = true)) := by
  obtain ⟨h1, h2⟩ := c_letter h
  refine ⟨h1, h2.trans ?_⟩
  rw [cn_eq he, hX.1, he, ltr_i]
  refine ⟨fun q => ?_, fun q => ?_⟩
  · have hn : e < n := by omega
    have := hX.2.2 e hn
    exact ⟨hn, by omega, by omega⟩
  · have := hX.2.2 e q.1
    exact ⟨by omega, by omega, by omega⟩
theorem c_isD {b : Nat → Int} {n : Nat} {G G1 : GS} {x r : Int32} {e : Nat} (hX : XC b n G) (he : x.toInt = (e : Int)) (h : P_tDigit x G r G1) : G = G1 ∧ (r.toInt ≠ 0 ↔ (e < n ∧ dgt (b e) = true)) := by
  obtain ⟨h1, h2⟩ := c_digit h
  refine ⟨h1, h2.trans ?_⟩
  rw [cn_eq he, hX.1, he, dgt_i]
  refine ⟨fun q => ?_, fun q => ?_⟩
  · have hn : e < n := by omega
    have := hX.2.2 e hn
    exact ⟨hn, by omega, by omega⟩
  · have := hX.2.2 e q.1
    exact ⟨by omega, by omega, by omega⟩
theorem c_skip {b : Nat → Int} {n q : Nat} {G G_1 : GS} (hX : XC b n G) (hq : (G.1 3 2).toInt = (q : Int)) (hqn : q ≤ n) (h : Rc (St_k_tAdvance_1 G) G G_1) : Fr [] [(3, 2)] G G_1 ∧ ∃ e : Nat, (G_1.1 3 2).toInt = (e : Int) ∧ q ≤ e ∧ e ≤ n ∧ ∀ k, q ≤ k → k < e → k < n ∧ blk (b k) = true := by
  refine h (fun x => Fr [] [(3, 2)] G x ∧ ∃ e : Nat, (x.1 3 2).toInt = (e : Int) ∧ q ≤ e ∧ e ≤ n ∧ ∀ k, q ≤ k → k < e → k < n ∧ blk (b k) = true) ⟨Fr.rf, q, hq, Nat.le_refl q, hqn, fun k a1 a2 => by omega⟩ ?_
  rintro x y ⟨hF, e, he, h1, h2, h3⟩ ⟨G_2, G_3, rfl, rfl, -, c1, y1, rfl, h⟩
  have hen : e < n := by have := hX.1; omega
  have ht := (hX.fr hF (by decide) (by decide) (by decide) (by decide)).2.2 e hen
  rw [cn_eq he] at h
  have fin : ∀ y2 : Int32, y2.toInt = (x.1 3 2).toInt + 1 → Fr [] [(3, 2)] x y → y.1 3 2 = y2 → (b e = 32 ∨ b e = 10) → Fr [] [(3, 2)] G y ∧ ∃ e : Nat, (y.1 3 2).toInt = (e : Int) ∧ q ≤ e ∧ e ≤ n ∧ ∀ k, q ≤ k → k < e → k < n ∧ blk (b k) = true := by
    intro y2 t2 hF2 e2 hb
    refine ⟨hF.call hF2 (by decide) (by decide), e + 1, by rw [e2]; omega, by omega, by omega, fun k a1 a2 => ?_⟩
    by_cases hk : k = e
    · subst hk
      exact ⟨hen, blk_i.mpr hb⟩
    · exact h3 k a1 (by omega)
  rcases h with ⟨c2, y2, t2, hF2, e2⟩ | ⟨c2, y3, rfl, c3, y2, t2, hF2, e2⟩
  · exact fin y2 t2 hF2 e2 (by omega)
  · exact fin y2 t2 hF2 e2 (by omega)
theorem lets_of {b : Nat → Int} {n s e : Nat} (h : ∀ k, s ≤ k → k < e → k < n ∧ ltr (b k) = true) : ∀ x ∈ cut b s e, 97 ≤ x ∧ x ≤ 122 := by
  intro x hx
  obtain ⟨k, h1, h2, rfl⟩ := cut_mem hx
  exact ltr_i.mp (h k h1 h2).2
theorem c_wloop {b : Nat → Int} {n s : Nat} {G G_1 G_2 : GS} (hX : XC b n G) (hF1 : Fr [] [(3, 6)] G G_1) (h6 : G_1.2.1 3 6 = 0) (hs : (G.1 3 2).toInt = (s : Int)) (hsn : s ≤ n) (h : Rc (St_k_tCutWord_1 G) G_1 G_2) : Fr [] [(3, 2), (3, 6)] G G_2 ∧ ∃ e : Nat, (G_2.1 3 2).toInt = (e : Int) ∧ s ≤ e ∧ e ≤ n ∧ (∀ k, s ≤ k → k < e → k < n ∧ ltr (b k) = true) ∧ (e - s ≤ 8 → G_2.2.1 3 6 = w5 (cut b s e)) := by
  refine h (fun x => Fr [] [(3, 2), (3, 6)] G x ∧ ∃ e : Nat, (x.1 3 2).toInt = (e : Int) ∧ s ≤ e ∧ e ≤ n ∧ (∀ k, s ≤ k → k < e → k < n ∧ ltr (b k) = true) ∧ (e - s ≤ 8 → x.2.1 3 6 = w5 (cut b s e))) ⟨Fr.call Fr.rf hF1 (by decide) (by decide), s, by rw [hF1.i 3 2 (by decide) (by decide)]; exact hs, Nat.le_refl s, hsn, fun k a1 a2 => by omega, fun _ => by rw [cut_nil]; exact h6⟩ ?_
  rintro x y ⟨hF, e, he, h1, h2, h3, h4⟩ ⟨G_3, G_4, rfl, rfl, -, c1, r, G_5, hp, hr, y42, rfl, y43, rfl, y44, rfl, y45, t45, y46, t46, y47, rfl, y48, rfl, y50, t50, hF4, e2, e6⟩
  have hX1 := hX.fr hF (by decide) (by decide) (by decide) (by decide)
  obtain ⟨rfl, hl⟩ := c_isL hX1 he hp
  have hle := hl.mp hr
  have hx := hX1.2.2 e hle.1
  have hb := ltr_i.mp hle.2
  rw [cn_eq he] at t45
  refine ⟨hF.call hF4 (by decide) (by decide), e + 1, by rw [e2]; omega, by omega, by omega, fun k a1 a2 => ?_, fun hlen => ?_⟩
  · by_cases hk : k = e
    · subst hk
      exact hle
    · exact h3 k a1 (by omega)
  · have hv := (v_lt (lets_of h3)).1
    rw [cut_len] at hv
    have hv2 : v5 (cut b s e) < 2 ^ 55 := Nat.lt_of_lt_of_le hv (Nat.le_trans (Nat.pow_le_pow_right (by decide) (show e - s ≤ 7 by omega)) (by decide))
    have hp := pk_step 5 (Or.inl rfl) (v := v5 (cut b s e)) (d := y46) hv2 (by omega) (by omega)
    rw [e6, h4 (by omega), cut_snoc h1, w5, w5, v5_snoc]
    exact hp.trans (congrArg Int64.ofNat (by omega))
def Wb (j : Nat) : Int := ((sByt.getD 0 []).getD j 0).toInt
theorem Wb_c : ∀ j : Nat, j < 184 → ((((sByt.getD 0 []).getD j 0 &&& 255).toUInt32 % 65536).toInt32).toInt = Wb j := by decide +kernel
theorem Wb_k : ∀ i : Nat, i < 23 → ∀ k : Nat, k < 8 → Wb (8 * i + k) = (KW.getD i []).getD k 32 := by decide +kernel
theorem KW_n : ∀ i : Nat, i < 23 → (KW.getD i []).length ≤ 8 ∧ ∀ x ∈ KW.getD i [], 97 ≤ x ∧ x ≤ 122 := by decide +kernel
theorem c_charAt {p0 r : Int32} {G G1 : GS} {j : Nat} (h : P_jCharAt_0 p0 G r G1) (hj : p0.toInt = (j : Int)) (hj2 : j < 184) : G = G1 ∧ r.toInt = Wb j := by
  obtain ⟨-, hF, -, r1, G2, -, r8, G9, ⟨-, -, -, G3, -, -, y7, e7, y8, e8, y9, e9, e10, -⟩, e11, -⟩ := h
  refine ⟨hF.nil, ?_⟩
  rw [← e11, ← e10, e9, e8, e7, cn_eq hj]
  exact Wb_c j hj2
theorem c_len0 {r : Int32} {G G1 : GS} (h : P_jLen_0 G r G1) : G = G1 ∧ r.toInt = 184 := by
  obtain ⟨-, hF, hr, -⟩ := h
  exact ⟨hF.nil, by omega⟩
theorem c_kin {b : Nat → Int} {n s e : Nat} {G : GS} {x5 x22 : Int32} {i : Nat} {G12 G18 : GS} (hX : XC b n G) (hs : (G.1 3 4).toInt = (s : Int)) (he : (G.1 3 2).toInt = (e : Int)) (hse : s ≤ e) (hen : e ≤ n) (hall : ∀ k, s ≤ k → k < e → k < n ∧ ltr (b k) = true) (hi : x5.toInt = 8 * (i : Int)) (hi2 : i < 23) (hG : G = G12) (h : Rc (St_k_tKind_2 x5 G) (0, G12) (x22, G18)) : G = G18 ∧ ∃ k : Nat, x22.toInt = (k : Int) ∧ ∀ q, q < k → Wb (8 * i + q) = (cut b s e).getD q 32 := by
  have hz : (0 : Int32).toInt = 0 := rfl
  refine h (fun z => G = z.2 ∧ ∃ k : Nat, z.1.toInt = (k : Int) ∧ ∀ q, q < k → Wb (8 * i + q) = (cut b s e).getD q 32) ⟨hG, 0, hz, fun q a => by omega⟩ ?_
  rintro ⟨x, G_1⟩ ⟨xn, G_1n⟩ ⟨h1, k, h2, h3⟩ ⟨xq, G_1q, xnq, G_1nq, e1, e2, hb, -, c1, y31, t31, r32, G33, hc, y39, t39, hh⟩
  obtain ⟨rfl, rfl⟩ := Prod.mk.inj e1
  obtain ⟨rfl, rfl⟩ := Prod.mk.inj e2
  simp only at h1 h2
  obtain ⟨rfl, hr⟩ := c_charAt (j := 8 * i + k) hc (by omega) (by omega)
  subst h1
  have fin : ∀ y : Int32, y.toInt = x.toInt + 1 → y = xn → Wb (8 * i + k) = (cut b s e).getD k 32 → ∃ k : Nat, xn.toInt = (k : Int) ∧ ∀ q, q < k → Wb (8 * i + q) = (cut b s e).getD q 32 := by
    intro y ty ey hk
    subst ey
    refine ⟨k + 1, by omega, fun q hq => ?_⟩
    by_cases hqk : q = k
    · subst hqk
      exact hk
    · exact h3 q (by omega)
  rcases hh with ⟨c2, c3, y45, t45, e45, e46⟩ | ⟨c2, y46, t46, y47, rfl, c3, y51, t51, e51, e52⟩
  · exact ⟨e46, fin y45 t45 e45 (by rw [cut_off (by omega)]; omega)⟩
  · refine ⟨e52, fin y51 t51 e51 ?_⟩
    have hkk : k < e - s := by omega
    rw [cut_get hkk]
    have hl := hall (s + k) (by omega) (by omega)
    have ht := hX.2.2 (s + k) hl.1
    have hb2 := ltr_i.mp hl.2
    rw [cn_eq (e := s + k) (by omega)] at c3
    omega
theorem c_kind {b : Nat → Int} {n s e : Nat} {G G1 : GS} {r : Int32} (hX : XC b n G) (hs : (G.1 3 4).toInt = (s : Int)) (he : (G.1 3 2).toInt = (e : Int)) (hse : s ≤ e) (h8 : e - s ≤ 8) (hen : e ≤ n) (hall : ∀ k, s ≤ k → k < e → k < n ∧ ltr (b k) = true) (h : P_tKind G r G1) : G = G1 ∧ r.toInt = kwd (cut b s e) := by
  obtain ⟨-, hF, hrr, x5, G_1, hRc, hx5, -, hF1, y10, t10, r11, G12, hl, hh⟩ := h
  refine ⟨hF.nil, ?_⟩
  have hz : (0 : Int32).toInt = 0 := rfl
  have hcl : ∀ x ∈ cut b s e, x ≠ 32 := fun x hx => by have := lets_of hall x hx; omega
  have same : ∀ i : Nat, i < 23 → (∀ q, q < 8 → Wb (8 * i + q) = (cut b s e).getD q 32) → KW.getD i [] = cut b s e := by
    intro i hi hq
    have hk := KW_n i hi
    refine pad_inj _ _ (fun x hx => by have := hk.2 x hx; omega) hcl (fun k hk2 => ?_)
    have : k < 8 := by rw [cut_len] at hk2; omega
    rw [← Wb_k i hi k this]
    exact hq k this
  have hI := hRc (fun z => G = z.2 ∧ ∃ i : Nat, z.1.toInt = 8 * (i : Int) ∧ i ≤ 23 ∧ ∀ q, q < i → KW.getD q [] ≠ cut b s e) ⟨rfl, 0, by show (0 : Int32).toInt = _; omega, by omega, fun q a => by omega⟩ (by
    clear hh
    rintro ⟨x, G_2⟩ ⟨xn, G_2n⟩ ⟨h1, i, h2, h2b, h3⟩ ⟨xq, G_2q, xnq, G_2nq, e1, e2, hb, -, y10, t10, r11, G12, hl, c1, x22, G18, hR2, hx22, -, -, c2, y31, t31, r32, G33, hc, y39, t39, hh⟩
    obtain ⟨rfl, rfl⟩ := Prod.mk.inj e1
    obtain ⟨rfl, rfl⟩ := Prod.mk.inj e2
    simp only at h1 h2
    obtain ⟨rfl, hl2⟩ := c_len0 hl
    have hi : i < 23 := by omega
    obtain ⟨hG18, k, hk, hkq⟩ := c_kin hX hs he hse hen hall h2 hi h1 hR2
    subst h1
    subst hG18
    obtain ⟨rfl, hr⟩ := c_charAt (j := 8 * i + k) hc (by omega) (by omega)
    have fin : Wb (8 * i + k) ≠ (cut b s e).getD k 32 → KW.getD i [] ≠ cut b s e := by
      intro hne q
      refine hne ?_
      rw [Wb_k i hi k (by omega), q]
    have done : ∀ y : Int32, y.toInt = x.toInt + 8 → y = xn → Wb (8 * i + k) ≠ (cut b s e).getD k 32 → ∃ i : Nat, xn.toInt = 8 * (i : Int) ∧ i ≤ 23 ∧ ∀ q, q < i → KW.getD q [] ≠ cut b s e := by
      intro y ty ey hne
      subst ey
      refine ⟨i + 1, by omega, by omega, fun q hq => ?_⟩
      by_cases hqi : q = i
      · subst hqi
        exact fin hne
      · exact h3 q (by omega)
    rcases hh with ⟨c3, c4, y44, t44, e44, e45⟩ | ⟨c3, y46, t46, y47, rfl, c4, y50, t50, e50, e51⟩
    · exact ⟨e45, done y44 t44 e44 (by rw [cut_off (by omega)]; omega)⟩
    · refine ⟨e51, done y50 t50 e50 ?_⟩
      have hkk : k < e - s := by omega
      rw [cut_get hkk]
      have hl := hall (s + k) (by omega) (by omega)
      have ht := hX.2.2 (s + k) hl.1
      have hb2 := ltr_i.mp hl.2
      rw [cn_eq (e := s + k) (by omega)] at c4
      omega)
  obtain ⟨hG, i, hi, hi2, hno⟩ := hI
  simp only at hG hi
  obtain ⟨rfl, hl2⟩ := c_len0 hl
  rcases hh with ⟨c1, e1, -⟩ | ⟨c1, x22, G18, hR2, hx22, -, -, c2, y29, t29, y30, t30, e1, -⟩
  · have : i = 23 := by omega
    subst this
    rw [kwd_out hno, ← e1]
    rfl
  · have hi3 : i < 23 := by omega
    obtain ⟨-, k, hk, hkq⟩ := c_kin hX hs he hse hen hall hi hi3 hG hR2
    rw [kwd_in hi3 (same i hi3 (fun q hq => hkq q (by omega))), ← e1]
    omega
