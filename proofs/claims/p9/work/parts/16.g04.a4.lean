/-! TOKENS by the reference -/
def XM (b : Nat → Int) (n : Nat) (G : GS) : Prop := (G.1 66 5).toInt = (n : Int) ∧ n ≤ 1600 ∧ ∀ j, j < n → (G.1 67 j).toInt = b j ∧ 0 ≤ b j ∧ b j ≤ 255
theorem XM.fr {b : Nat → Int} {n : Nat} {rs : List Nat} {fs : List (Nat × Nat)} {G G1 : GS} (h : XM b n G) (hF : Fr rs fs G G1) (h1 : 66 ∉ rs) (h2 : (66, 5) ∉ fs) (h3 : 67 ∉ rs) (h4 : ∀ x ∈ fs, x.1 ≠ 67) : XM b n G1 := by
  obtain ⟨a1, a2, a3⟩ := h
  refine ⟨by rw [hF.i 66 5 h1 h2]; exact a1, a2, fun j hj => ?_⟩
  rw [hF.ri 67 h3 h4 j]
  exact a3 j hj
def SRT (s k : Int) : Prop := (k = 203 → s = 0) ∧ (k = 202 → s = 3) ∧ (k = 201 → s = 2) ∧ (128 ≤ k → k ≤ 200 → s = 1) ∧ (k < 128 → s = k)
def TM (b : Nat → Int) (n : Nat) (G : GS) (p : Nat) : Prop := SRT (G.1 66 6).toInt (tK b n p) ∧ (G.1 66 7).toInt = (tS b n p : Int) ∧ (tK b n p ≠ 202 → (G.1 66 4).toInt = (tNx b n p : Int)) ∧ (tK b n p = 201 → (G.1 66 8).toInt = tV b n p) ∧ (128 ≤ tK b n p → tK b n p ≤ 200 → G.2.1 66 9 = w8 (tL b n p))
theorem r_here {b : Nat → Int} {n a k : Nat} {G G1 : GS} {p0 r : Int32} (hX : XM b n G) (ha : (G.1 66 4).toInt = (a : Int)) (hk : p0.toInt = (k : Int)) (h : Q_here p0 G r G1) : G = G1 ∧ (a + k < n → r.toInt = b (a + k) ∧ 0 ≤ b (a + k)) ∧ (n ≤ a + k → r.toInt = -1) := by
  obtain ⟨-, hF, hr, -, y2, t2, hh⟩ := h
  have hX0 := hX.1
  refine ⟨hF.nil, ?_⟩
  rcases hh with ⟨c, e, -⟩ | ⟨c, y5, t5, y6, e6, e, -⟩
  · subst e
    have m1 : (-1 : Int32).toInt = -1 := rfl
    exact ⟨fun q => by omega, fun _ => m1⟩
  · subst e
    subst e6
    rw [cn_eq (e := a + k) (by omega)]
    have := hX.2.2 (a + k) (by omega)
    exact ⟨fun _ => ⟨this.1, this.2.1⟩, fun q => by omega⟩
theorem r_letter {p0 r : Int32} {G G1 : GS} (h : Q_letter p0 G r G1) : G = G1 ∧ (r.toInt ≠ 0 ↔ (97 ≤ p0.toInt ∧ p0.toInt ≤ 122)) := by
  obtain ⟨-, hF, -, -, h⟩ := h
  have z : (0 : Int32).toInt = 0 := rfl
  have o : (1 : Int32).toInt = 1 := rfl
  refine ⟨hF.nil, ?_⟩
  rcases h with ⟨c, rfl, -⟩ | ⟨c, ⟨c1, rfl, -⟩ | ⟨c1, rfl, -⟩⟩ <;> omega
theorem r_digit {p0 r : Int32} {G G1 : GS} (h : Q_digit p0 G r G1) : G = G1 ∧ (r.toInt ≠ 0 ↔ (48 ≤ p0.toInt ∧ p0.toInt ≤ 57)) := by
  obtain ⟨-, hF, -, -, h⟩ := h
  have z : (0 : Int32).toInt = 0 := rfl
  have o : (1 : Int32).toInt = 1 := rfl
  refine ⟨hF.nil, ?_⟩
  rcases h with ⟨c, rfl, -⟩ | ⟨c, ⟨c1, rfl, -⟩ | ⟨c1, rfl, -⟩⟩ <;> omega
theorem r_sign {p0 r : Int32} {G G1 : GS} (h : Q_sign p0 G r G1) : G = G1 ∧ (r.toInt ≠ 0 ↔ sgn p0.toInt = true) := by
  obtain ⟨-, hF, -, h⟩ := h
  have z : (0 : Int32).toInt = 0 := rfl
  have o : (1 : Int32).toInt = 1 := rfl
  refine ⟨hF.nil, ?_⟩
  rw [sgn_i]
  rcases h with ⟨c, rfl, -⟩ | ⟨c, ⟨d, rfl, -⟩ | ⟨d, ⟨e, rfl, -⟩ | ⟨e, ⟨f, rfl, -⟩ | ⟨f, ⟨g, rfl, -⟩ | ⟨g, ⟨i, rfl, -⟩ | ⟨i, ⟨j, rfl, -⟩ | ⟨j, ⟨k, rfl, -⟩ | ⟨k, ⟨l, rfl, -⟩ | ⟨l, ⟨m, rfl, -⟩ | ⟨m, ⟨u, rfl, -⟩ | ⟨u, rfl, -⟩⟩⟩⟩⟩⟩⟩⟩⟩⟩⟩ <;> omega
theorem r_skip {b : Nat → Int} {n q : Nat} {G G_1 : GS} (hX : XM b n G) (hq : (G.1 66 4).toInt = (q : Int)) (hqn : q ≤ n) (h : Rc (St_n_token_1 G) G G_1) : Fr [] [(66, 4)] G G_1 ∧ ∃ e : Nat, (G_1.1 66 4).toInt = (e : Int) ∧ q ≤ e ∧ e ≤ n ∧ ∀ k, q ≤ k → k < e → k < n ∧ blk (b k) = true := by
  refine h (fun x => Fr [] [(66, 4)] G x ∧ ∃ e : Nat, (x.1 66 4).toInt = (e : Int) ∧ q ≤ e ∧ e ≤ n ∧ ∀ k, q ≤ k → k < e → k < n ∧ blk (b k) = true) ⟨Fr.rf, q, hq, Nat.le_refl q, hqn, fun k a1 a2 => by omega⟩ ?_
  rintro x y ⟨hF, e, he, h1, h2, h3⟩ ⟨G_2, G_3, rfl, rfl, -, -, r13, G14, hh, h⟩
  have hX1 := hX.fr hF (by decide) (by decide) (by decide) (by decide)
  have z : (0 : Int32).toInt = ((0 : Nat) : Int) := rfl
  obtain ⟨rfl, v1, v2⟩ := r_here hX1 he z hh
  have fin : ∀ y2 : Int32, y2.toInt = (x.1 66 4).toInt + 1 → Fr [] [(66, 4)] x y → y.1 66 4 = y2 → e < n → (b e = 32 ∨ b e = 10) → Fr [] [(66, 4)] G y ∧ ∃ e : Nat, (y.1 66 4).toInt = (e : Int) ∧ q ≤ e ∧ e ≤ n ∧ ∀ k, q ≤ k → k < e → k < n ∧ blk (b k) = true := by
    intro y2 t2 hF2 e2 hen hb
    refine ⟨hF.call hF2 (by decide) (by decide), e + 1, by rw [e2]; omega, by omega, by omega, fun k a1 a2 => ?_⟩
    by_cases hk : k = e
    · subst hk
      exact ⟨hen, blk_i.mpr hb⟩
    · exact h3 k a1 (by omega)
  simp only [Nat.add_zero] at v1 v2
  rcases h with ⟨c2, y2, t2, hF2, e2⟩ | ⟨c2, r27, G28, hh2, c3, y2, t2, hF2, e2⟩
  · have hen : e < n := by
      by_cases q : e < n
      · exact q
      · have := v2 (by omega)
        omega
    have := v1 hen
    exact fin y2 t2 hF2 e2 hen (by omega)
  · obtain ⟨rfl, w1, w2⟩ := r_here hX1 he z hh2
    simp only [Nat.add_zero] at w1 w2
    have hen : e < n := by
      by_cases q : e < n
      · exact q
      · have := w2 (by omega)
        omega
    have := w1 hen
    exact fin y2 t2 hF2 e2 hen (by omega)
theorem r_wloop {b : Nat → Int} {n a : Nat} {G0 G2 : GS} {x : Int32} (hX : XM b n G0) (ha : (G0.1 66 4).toInt = (a : Int)) (h9 : G0.2.1 66 9 = 0) (han : a ≤ n) (h : Rc (St_n_token_4) (0, G0) (x, G2)) : Fr [] [(66, 9)] G0 G2 ∧ ∃ k : Nat, x.toInt = (k : Int) ∧ a + k ≤ n ∧ (∀ j, a ≤ j → j < a + k → j < n ∧ ltr (b j) = true) ∧ (k ≤ 8 → G2.2.1 66 9 = w8 (cut b a (a + k))) := by
  refine h (fun z => Fr [] [(66, 9)] G0 z.2 ∧ ∃ k : Nat, z.1.toInt = (k : Int) ∧ a + k ≤ n ∧ (∀ j, a ≤ j → j < a + k → j < n ∧ ltr (b j) = true) ∧ (k ≤ 8 → z.2.2.1 66 9 = w8 (cut b a (a + k)))) ⟨Fr.rf, 0, rfl, by omega, fun j a1 a2 => by omega, fun _ => by rw [Nat.add_zero, cut_nil]; exact h9⟩ ?_
  rintro ⟨x1, G_1⟩ ⟨xn, G_1n⟩ ⟨hF, k, hk, h1, h3, h4⟩ ⟨x1q, G_1q, xnq, G_1nq, e1, e2, -, -, -, r177, G178, hh, r183, G184, hl, c1, hc⟩
  obtain ⟨rfl, rfl⟩ := Prod.mk.inj e1
  obtain ⟨rfl, rfl⟩ := Prod.mk.inj e2
  simp only at hF hk h4
  have hX1 := hX.fr hF (by decide) (by decide) (by decide) (by decide)
  have ha1 : (G_1.1 66 4).toInt = (a : Int) := by rw [hF.i 66 4 (by decide) (by decide)]; exact ha
  obtain ⟨rfl, v1, v2⟩ := r_here hX1 ha1 hk hh
  obtain ⟨rfl, hl2⟩ := r_letter hl
  have hb := hl2.mp c1
  have hen : a + k < n := by
    by_cases q : a + k < n
    · exact q
    · have := v2 (by omega)
      omega
  have v := v1 hen
  have hbl : ltr (b (a + k)) = true := ltr_i.mpr ⟨by omega, by omega⟩
  have hall : ∀ j, a ≤ j → j < a + (k + 1) → j < n ∧ ltr (b j) = true := by
    intro j q1 q2
    by_cases hj : j = a + k
    · subst hj
      exact ⟨hen, hbl⟩
    · exact h3 j q1 (by omega)
  rcases hc with ⟨c2, y, ty, ey, eG⟩ | ⟨c2, y205, e205, y206, e206, r209, G210, hh2, y215, e215, y216, e216, y, ty, ey, hF2, e9⟩
  · subst ey
    subst eG
    exact ⟨hF, k + 1, by show y.toInt = _; omega, by omega, hall, fun q => by omega⟩
  · subst ey
    obtain ⟨rfl, w1, w2⟩ := r_here hX1 ha1 hk hh2
    have w := w1 hen
    refine ⟨hF.call hF2 (by decide) (by decide), k + 1, by show y.toInt = _; omega, by omega, hall, fun q => ?_⟩
    have hv : v8 (cut b a (a + k)) < 2 ^ 55 := by
      have hlt := v_lt (lets_of h3)
      by_cases h0 : k = 0
      · subst h0
        rw [Nat.add_zero, cut_nil]
        decide
      · have h7 := hlt.2.2 (fun e => by have := congrArg List.length e; rw [cut_len] at this; simp at this; omega)
        rw [cut_len, show a + k - a = k by omega] at h7
        have h6 : 256 ^ (k - 1) ≤ 256 ^ 6 := Nat.pow_le_pow_right (by decide) (by omega)
        omega
    have hp := pk_step 8 (Or.inr rfl) (v := v8 (cut b a (a + k))) (d := r209) hv (by omega) (by omega)
    show G_1n.2.1 66 9 = _
    rw [e9, e216, e215, e206, e205, h4 (by omega), show a + (k + 1) = (a + k) + 1 by omega, cut_snoc (by omega), w8, w8, v8_snoc]
    exact hp.trans (congrArg Int64.ofNat (by omega))
theorem r_nloop {b : Nat → Int} {n a : Nat} {G0 G2 : GS} {x : Int32} (hX : XM b n G0) (ha : (G0.1 66 4).toInt = (a : Int)) (h8 : G0.1 66 8 = 0) (han : a ≤ n) (h : Rc (St_n_token_2) (0, G0) (x, G2)) : Fr [] [(66, 8)] G0 G2 ∧ ∃ k : Nat, x.toInt = (k : Int) ∧ a + k ≤ n ∧ (∀ j, a ≤ j → j < a + k → j < n ∧ dgt (b j) = true) ∧ (k ≤ 4 → (G2.1 66 8).toInt = val (cut b a (a + k)) ∧ 0 ≤ val (cut b a (a + k)) ∧ val (cut b a (a + k)) + 1 ≤ 10 ^ k) := by
  refine h (fun z => Fr [] [(66, 8)] G0 z.2 ∧ ∃ k : Nat, z.1.toInt = (k : Int) ∧ a + k ≤ n ∧ (∀ j, a ≤ j → j < a + k → j < n ∧ dgt (b j) = true) ∧ (k ≤ 4 → (z.2.1 66 8).toInt = val (cut b a (a + k)) ∧ 0 ≤ val (cut b a (a + k)) ∧ val (cut b a (a + k)) + 1 ≤ 10 ^ k)) ⟨Fr.rf, 0, rfl, by omega, fun j a1 a2 => by omega, fun _ => by rw [Nat.add_zero, cut_nil, h8]; exact ⟨rfl, by decide, by decide⟩⟩ ?_
  rintro ⟨x1, G_1⟩ ⟨xn, G_1n⟩ ⟨hF, k, hk, h1, h3, h4⟩ ⟨x1q, G_1q, xnq, G_1nq, e1, e2, -, -, -, r96, G97, hh, r102, G103, hl, c1, hc⟩
  obtain ⟨rfl, rfl⟩ := Prod.mk.inj e1
  obtain ⟨rfl, rfl⟩ := Prod.mk.inj e2
  simp only at hF hk h4
  have hX1 := hX.fr hF (by decide) (by decide) (by decide) (by decide)
  have ha1 : (G_1.1 66 4).toInt = (a : Int) := by rw [hF.i 66 4 (by decide) (by decide)]; exact ha
  obtain ⟨rfl, v1, v2⟩ := r_here hX1 ha1 hk hh
  obtain ⟨rfl, hl2⟩ := r_digit hl
  have hb := hl2.mp c1
  have hen : a + k < n := by
    by_cases q : a + k < n
    · exact q
    · have := v2 (by omega)
      omega
  have v := v1 hen
  have hbl : dgt (b (a + k)) = true := dgt_i.mpr ⟨by omega, by omega⟩
  have hall : ∀ j, a ≤ j → j < a + (k + 1) → j < n ∧ dgt (b j) = true := by
    intro j q1 q2
    by_cases hj : j = a + k
    · subst hj
      exact ⟨hen, hbl⟩
    · exact h3 j q1 (by omega)
  rcases hc with ⟨c2, y, ty, ey, eG⟩ | ⟨c2, y146, e146, r149, G150, hh2, y155, e155, y156, e156, y, ty, ey, hF2, e8⟩
  · subst ey
    subst eG
    exact ⟨hF, k + 1, by show y.toInt = _; omega, by omega, hall, fun q => by omega⟩
  · subst ey
    obtain ⟨rfl, w1, w2⟩ := r_here hX1 ha1 hk hh2
    have w := w1 hen
    refine ⟨hF.call hF2 (by decide) (by decide), k + 1, by show y.toInt = _; omega, by omega, hall, fun q => ?_⟩
    obtain ⟨g1, g2, g3⟩ := h4 (by omega)
    have hpw : (10 : Int) ^ k ≤ 10 ^ 3 := by
      have := Nat.pow_le_pow_right (show 0 < 10 by decide) (show k ≤ 3 by omega)
      exact_mod_cast this
    have t146 : y146.toInt = 10 * val (cut b a (a + k)) := xI_mul rfl g1 e146 (by omega) (by omega)
    have t155 : y155.toInt = 10 * val (cut b a (a + k)) + b (a + k) := xI_add t146 w.1 e155 (by omega) (by omega)
    have t156 : y156.toInt = 10 * val (cut b a (a + k)) + b (a + k) - 48 := xI_sub t155 rfl e156 (by omega) (by omega)
    show (G_1n.1 66 8).toInt = _ ∧ _
    rw [e8, show a + (k + 1) = (a + k) + 1 by omega, cut_snoc (by omega), val_snoc, Int.pow_succ]
    exact ⟨by omega, by omega, by omega⟩
theorem r_tok {b : Nat → Int} {n q : Nat} {G G1 : GS} (hX : XM b n G) (hq : (G.1 66 4).toInt = (q : Int)) (hqn : q ≤ n) (h : Q_token G G1) : XM b n G1 ∧ TM b n G1 q := by
  obtain ⟨-, hFF, -, G_1, hRc, -, -, -, r13, G14, hh1, c13, r27, G28, hh2, c27, G34, -, hF34, e34, r38, G39, hh3, hh⟩ := h
  obtain ⟨hF, s, hs, h1, h2, h3⟩ := r_skip hX hq hqn hRc
  have hX1 := hX.fr hF (by decide) (by decide) (by decide) (by decide)
  have hX0 := hX.2.1
  have z : (0 : Int32).toInt = ((0 : Nat) : Int) := rfl
  have o1 : (1 : Int32).toInt = 1 := rfl
  have o2 : (2 : Int32).toInt = 2 := rfl
  have o3 : (3 : Int32).toInt = 3 := rfl
  obtain ⟨rfl, v1, v2⟩ := r_here hX1 hs z hh1
  obtain ⟨rfl, w1, w2⟩ := r_here hX1 hs z hh2
  simp only [Nat.add_zero] at v1 v2 w1 w2
  have hno : ¬ (s < n ∧ blk (b s) = true) := by
    clear hh
    intro q
    have a1 := v1 q.1
    have a2 := w1 q.1
    have := blk_i.mp q.2
    omega
  have hS : tS b n q = s := rn_eq 1601 q s h1 (by omega) h3 hno
  refine ⟨hX.fr hFF (by decide) (by decide) (by decide) (by decide), ?_⟩
  have hX34 := hX1.fr hF34 (by decide) (by decide) (by decide) (by decide)
  have hs34 : (G34.1 66 4).toInt = (s : Int) := by rw [hF34.i 66 4 (by decide) (by decide)]; exact hs
  have hp34 : (G34.1 66 7).toInt = (s : Int) := by rw [e34]; exact hs
  obtain ⟨rfl, u1, u2⟩ := r_here hX34 hs34 z hh3
  simp only [Nat.add_zero] at u1 u2
  unfold TM tK tNx tV tL tW tD
  rw [hS]
  rcases hh with ⟨c38, G45, -, hF45, e8, e9, r47, G48, hl, hh⟩ | ⟨c38, y223, t223, hF1, f4, f6, f8, f9⟩
  · have hsn : s < n := by
      by_cases q : s < n
      · exact q
      · have := u2 (by omega)
        omega
    have u := u1 hsn
    have hX45 := hX34.fr hF45 (by decide) (by decide) (by decide) (by decide)
    have hs45 : (G45.1 66 4).toInt = (s : Int) := by rw [hF45.i 66 4 (by decide) (by decide)]; exact hs34
    have hp45 : (G45.1 66 7).toInt = (s : Int) := by rw [hF45.i 66 7 (by decide) (by decide)]; exact hp34
    rw [if_neg (show ¬ n ≤ s by omega), if_neg (show ¬ n ≤ s by omega)]
    obtain ⟨rfl, hl2⟩ := r_letter hl
    rcases hh with ⟨c47, r54, G55, hd, hh⟩ | ⟨c47, x, G161, hRc2, -, -, -, -, r177, G178, hh4, r183, G184, hl3, c183, hh⟩
    · have hnl : ¬ ltr (b s) = true := fun q => by have := ltr_i.mp q; exact hl2.mpr (by omega) c47
      rw [if_neg hnl, if_neg hnl]
      obtain ⟨rfl, hd2⟩ := r_digit hd
      rcases hh with ⟨c54, r61, G62, hsg, hh⟩ | ⟨c54, x, G80, hRc2, -, -, -, -, r96, G97, hh4, r102, G103, hd3, c102, hh⟩
      · have hnd : ¬ dgt (b s) = true := fun q => by have := dgt_i.mp q; exact hd2.mpr (by omega) c54
        rw [if_neg hnd, if_neg hnd]
        obtain ⟨rfl, hsg2⟩ := r_sign hsg
        rw [u.1] at hsg2
        rcases hh with ⟨c61, hF1, f6⟩ | ⟨c61, ⟨c3, hF1, f6⟩ | ⟨c3, y76, t76, hF1, f4, f6⟩⟩
        · rw [if_neg (fun q => hsg2.mpr q c61), f6]
          refine ⟨⟨fun q => by omega, fun _ => o3, fun q => by omega, fun q1 q2 => by omega, fun q => by omega⟩, ?_, fun q => absurd rfl q, fun q => absurd q (by decide), fun q1 q2 => absurd q2 (by decide)⟩
          rw [hF1.i 66 7 (by decide) (by decide)]
          exact hp45
        · have := sgn_i.mp (hsg2.mp c61)
          omega
        · have hq2 := hsg2.mp c61
          have hq3 := sgn_i.mp hq2
          rw [if_pos hq2, f6]
          refine ⟨⟨fun q => by omega, fun q => by omega, fun q => by omega, fun q1 q2 => by omega, fun q => u.1⟩, ?_, fun q => ?_, fun q => by omega, fun q1 q2 => by omega⟩
          · rw [hF1.i 66 7 (by decide) (by decide)]
            exact hp45
          · rw [f4]
            omega
      · have hnd : dgt (b s) = true := by have := hd2.mp c54; exact dgt_i.mpr (by omega)
        rw [if_pos hnd, if_pos hnd]
        obtain ⟨hF80, k, hk, g1, g2, g3⟩ := r_nloop hX45 hs45 e8 (by omega) hRc2
        have hX80 := hX45.fr hF80 (by decide) (by decide) (by decide) (by decide)
        have hs80 : (G80.1 66 4).toInt = (s : Int) := by rw [hF80.i 66 4 (by decide) (by decide)]; exact hs45
        have hp80 : (G80.1 66 7).toInt = (s : Int) := by rw [hF80.i 66 7 (by decide) (by decide)]; exact hp45
        obtain ⟨rfl, x1, x2⟩ := r_here hX80 hs80 hk hh4
        obtain ⟨rfl, hd4⟩ := r_digit hd3
        have hno2 : ¬ (s + k < n ∧ dgt (b (s + k)) = true) := by
          intro q
          have a1 := x1 q.1
          have a2 := dgt_i.mp q.2
          exact hd4.mpr (by omega) c102
        rw [rn_eq 1601 s (s + k) (by omega) (by omega) g2 hno2]
        rcases hh with ⟨c4, r123, G124, hh5, r129, G130, hl5, c129, y138, t138, hF1, f4, f6⟩ | ⟨G112, hJ, -, hF112, hF1, f6⟩
        · obtain ⟨rfl, y1, y2⟩ := r_here hX80 hs80 hk hh5
          obtain ⟨rfl, hl6⟩ := r_letter hl5
          rw [if_neg (fun q => q.elim (fun q => by omega) (fun q => by have a1 := y1 q.1; have a2 := ltr_i.mp q.2; exact hl6.mpr (by omega) c129)), f6]
          refine ⟨⟨fun q => by omega, fun q => by omega, fun _ => o2, fun q1 q2 => by omega, fun q => by omega⟩, ?_, fun q => ?_, fun _ => ?_, fun q1 q2 => absurd q2 (by decide)⟩
          · rw [hF1.i 66 7 (by decide) (by decide)]
            exact hp80
          · rw [f4]
            omega
          · rw [hF1.i 66 8 (by decide) (by decide)]
            exact (g3 (by omega)).1
        · obtain rfl := hF112.nil
          have hbad : 4 < s + k - s ∨ (s + k < n ∧ ltr (b (s + k)) = true) := by
            rcases hJ with ⟨c4, -⟩ | ⟨c4, r123, G124, hh5, r129, G130, hl5, c129, -⟩
            · exact Or.inl (by omega)
            · obtain ⟨rfl, y1, y2⟩ := r_here hX80 hs80 hk hh5
              obtain ⟨-, hl6⟩ := r_letter hl5
              have a2 := hl6.mp c129
              have hkn : s + k < n := by
                by_cases q : s + k < n
                · exact q
                · have := y2 (by omega)
                  omega
              have a1 := y1 hkn
              exact Or.inr ⟨hkn, ltr_i.mpr (by omega)⟩
          rw [if_pos hbad, f6]
          refine ⟨⟨fun q => by omega, fun _ => o3, fun q => by omega, fun q1 q2 => by omega, fun q => by omega⟩, ?_, fun q => absurd rfl q, fun q => absurd q (by decide), fun q1 q2 => absurd q2 (by decide)⟩
          rw [hF1.i 66 7 (by decide) (by decide)]
          exact hp80
    · have hnl : ltr (b s) = true := by have := hl2.mp c47; exact ltr_i.mpr (by omega)
      rw [if_pos hnl, if_pos hnl]
      obtain ⟨hF161, k, hk, g1, g2, g3⟩ := r_wloop hX45 hs45 e9 (by omega) hRc2
      have hX161 := hX45.fr hF161 (by decide) (by decide) (by decide) (by decide)
      have hs161 : (G161.1 66 4).toInt = (s : Int) := by rw [hF161.i 66 4 (by decide) (by decide)]; exact hs45
      have hp161 : (G161.1 66 7).toInt = (s : Int) := by rw [hF161.i 66 7 (by decide) (by decide)]; exact hp45
      obtain ⟨rfl, x1, x2⟩ := r_here hX161 hs161 hk hh4
      obtain ⟨rfl, hl4⟩ := r_letter hl3
      have hno2 : ¬ (s + k < n ∧ ltr (b (s + k)) = true) := by
        intro q
        have a1 := x1 q.1
        have a2 := ltr_i.mp q.2
        exact hl4.mpr (by omega) c183
      rw [rn_eq 1601 s (s + k) (by omega) (by omega) g2 hno2]
      have hkr := kwd_r (cut b s (s + k))
      rcases hh with ⟨c8, y193, t193, hF1, f4, f6⟩ | ⟨c8, hF1, f6⟩
      · rw [if_neg (show ¬ 8 < s + k - s by omega), f6]
        refine ⟨⟨fun q => by omega, fun q => by omega, fun q => by omega, fun q1 q2 => o1, fun q => by omega⟩, ?_, fun q => ?_, fun q => by omega, fun q1 q2 => ?_⟩
        · rw [hF1.i 66 7 (by decide) (by decide)]
          exact hp161
        · rw [f4]
          omega
        · rw [hF1.l 66 9 (by decide) (by decide)]
          exact g3 (by omega)
      · rw [if_pos (show 8 < s + k - s by omega), f6]
        refine ⟨⟨fun q => by omega, fun _ => o3, fun q => by omega, fun q1 q2 => by omega, fun q => by omega⟩, ?_, fun q => absurd rfl q, fun q => absurd q (by decide), fun q1 q2 => absurd q2 (by decide)⟩
        rw [hF1.i 66 7 (by decide) (by decide)]
        exact hp161
  · have hsn : n ≤ s := by
      by_cases q : s < n
      · have := u1 q
        omega
      · omega
    rw [if_pos hsn, if_pos hsn, f6]
    refine ⟨⟨fun _ => rfl, fun q => by omega, fun q => by omega, fun q1 q2 => by omega, fun q => by omega⟩, ?_, fun _ => ?_, fun q => absurd q (by decide), fun q1 q2 => absurd q2 (by decide)⟩
    · rw [hF1.i 66 7 (by decide) (by decide)]
      exact hp34
    · rw [f4]
      omega
