theorem c_word {b : Nat → Int} {n s : Nat} {G G1 : GS} (hX : XC b n G) (h : P_tCutWord G G1) (hs : (G.1 3 2).toInt = (s : Int)) (hp : (G.1 3 4).toInt = (s : Int)) (hsn : s ≤ n) : (G1.1 3 2).toInt = (rn ltr b n 1601 s : Int) ∧ (G1.1 3 3).toInt = (if 8 < rn ltr b n 1601 s - s then 202 else kwd (cut b s (rn ltr b n 1601 s))) ∧ (rn ltr b n 1601 s - s ≤ 8 → G1.2.1 3 6 = w5 (cut b s (rn ltr b n 1601 s))) := by
  obtain ⟨-, -, G_1, -, hF1, h6, G_2, hRc, -, -, hh⟩ := h
  obtain ⟨hF, e, he, h1, h2, h3, h4⟩ := c_wloop hX hF1 h6 hs hsn hRc
  have hX2 := hX.fr hF (by decide) (by decide) (by decide) (by decide)
  have hp2 : (G_2.1 3 4).toInt = (s : Int) := by rw [hF.i 3 4 (by decide) (by decide)]; exact hp
  have fin : ¬ (e < n ∧ ltr (b e) = true) → ∀ y14 : Int32, y14.toInt = (G_2.1 3 2).toInt - (G.1 3 4).toInt → ((y14.toInt ≤ 8 ∧ (∃ (r_16 : Int32) (G_17 : GS), P_tKind G_2 r_16 G_17 ∧ Fr [] [(3, 3)] G_17 G1 ∧ G1.1 3 3 = r_16)) ∨ (8 < y14.toInt ∧ (Fr [] [(3, 3)] G_2 G1 ∧ G1.1 3 3 = 202))) → (G1.1 3 2).toInt = (rn ltr b n 1601 s : Int) ∧ (G1.1 3 3).toInt = (if 8 < rn ltr b n 1601 s - s then 202 else kwd (cut b s (rn ltr b n 1601 s))) ∧ (rn ltr b n 1601 s - s ≤ 8 → G1.2.1 3 6 = w5 (cut b s (rn ltr b n 1601 s))) := by
    intro hno y14 t14 hh
    have hX0 := hX.2.1
    rw [rn_eq 1601 s e h1 (by omega) h3 hno]
    rcases hh with ⟨c, r, G17, hk, hF3, e3⟩ | ⟨c, hF3, e3⟩
    · obtain ⟨rfl, hr⟩ := c_kind hX2 hp2 he h1 (by omega) h2 h3 hk
      refine ⟨by rw [hF3.i 3 2 (by decide) (by decide)]; exact he, ?_, fun q => ?_⟩
      · rw [if_neg (by omega), e3]
        exact hr
      · rw [hF3.l 3 6 (by decide) (by decide)]
        exact h4 q
    · refine ⟨by rw [hF3.i 3 2 (by decide) (by decide)]; exact he, ?_, fun q => by omega⟩
      rw [if_pos (by omega), e3]
      rfl
  rcases hh with ⟨c, y14, t14, hh⟩ | ⟨c, r, G25, hl, hr, y32, t32, hh⟩
  · exact fin (fun q => by have := hX.1; omega) y14 t14 hh
  · obtain ⟨rfl, hl2⟩ := c_isL hX2 he hl
    exact fin (fun q => hl2.mpr q hr) y32 t32 hh
theorem c_nloop {b : Nat → Int} {n s : Nat} {G G_1 G_2 : GS} (hX : XC b n G) (hF1 : Fr [] [(3, 5)] G G_1) (h5 : G_1.1 3 5 = 0) (hs : (G.1 3 2).toInt = (s : Int)) (hsn : s ≤ n) (h : Rc (St_k_tCutNumber_1 G) G_1 G_2) : Fr [] [(3, 2), (3, 5)] G G_2 ∧ ∃ e : Nat, (G_2.1 3 2).toInt = (e : Int) ∧ s ≤ e ∧ e ≤ n ∧ (∀ k, s ≤ k → k < e → k < n ∧ dgt (b k) = true) ∧ (e - s ≤ 4 → (G_2.1 3 5).toInt = val (cut b s e) ∧ 0 ≤ val (cut b s e) ∧ val (cut b s e) + 1 ≤ 10 ^ (e - s)) := by
  refine h (fun x => Fr [] [(3, 2), (3, 5)] G x ∧ ∃ e : Nat, (x.1 3 2).toInt = (e : Int) ∧ s ≤ e ∧ e ≤ n ∧ (∀ k, s ≤ k → k < e → k < n ∧ dgt (b k) = true) ∧ (e - s ≤ 4 → (x.1 3 5).toInt = val (cut b s e) ∧ 0 ≤ val (cut b s e) ∧ val (cut b s e) + 1 ≤ 10 ^ (e - s))) ⟨Fr.call Fr.rf hF1 (by decide) (by decide), s, by rw [hF1.i 3 2 (by decide) (by decide)]; exact hs, Nat.le_refl s, hsn, fun k a1 a2 => by omega, fun _ => by rw [cut_nil, h5, Nat.sub_self]; exact ⟨rfl, by decide, by decide⟩⟩ ?_
  rintro x y ⟨hF, e, he, h1, h2, h3, h4⟩ ⟨G_3, G_4, rfl, rfl, -, c1, r, G_5, hp, hr, y39, e39, y40, rfl, y41, e41, y42, e42, y44, t44, hF4, e2, e5⟩
  have hX1 := hX.fr hF (by decide) (by decide) (by decide) (by decide)
  obtain ⟨rfl, hl⟩ := c_isD hX1 he hp
  have hle := hl.mp hr
  have hx := hX1.2.2 e hle.1
  have hb := dgt_i.mp hle.2
  rw [cn_eq he] at e41
  refine ⟨hF.call hF4 (by decide) (by decide), e + 1, by rw [e2]; omega, by omega, by omega, fun k a1 a2 => ?_, fun hlen => ?_⟩
  · by_cases hk : k = e
    · subst hk
      exact hle
    · exact h3 k a1 (by omega)
  · obtain ⟨g1, g2, g3⟩ := h4 (by omega)
    have hpw : (10 : Int) ^ (e - s) ≤ 10 ^ 3 := by
      have := Nat.pow_le_pow_right (show 0 < 10 by decide) (show e - s ≤ 3 by omega)
      exact_mod_cast this
    have t39 : y39.toInt = val (cut b s e) * 10 := xI_mul g1 rfl e39 (by omega) (by omega)
    have t41 : y41.toInt = val (cut b s e) * 10 + b e := xI_add t39 (show (x.1 32 e).toInt = b e by omega) e41 (by omega) (by omega)
    have t42 : y42.toInt = val (cut b s e) * 10 + b e - 48 := xI_sub t41 rfl e42 (by omega) (by omega)
    rw [e5, cut_snoc h1, val_snoc, show e + 1 - s = (e - s) + 1 by omega, Int.pow_succ]
    exact ⟨by omega, by omega, by omega⟩
theorem c_number {b : Nat → Int} {n s : Nat} {G G1 : GS} (hX : XC b n G) (h : P_tCutNumber G G1) (hs : (G.1 3 2).toInt = (s : Int)) (hp : (G.1 3 4).toInt = (s : Int)) (hsn : s ≤ n) : (G1.1 3 2).toInt = (rn dgt b n 1601 s : Int) ∧ (G1.1 3 3).toInt = (if 4 < rn dgt b n 1601 s - s ∨ (rn dgt b n 1601 s < n ∧ ltr (b (rn dgt b n 1601 s)) = true) then 202 else 201) ∧ (rn dgt b n 1601 s - s ≤ 4 → (G1.1 3 5).toInt = val (cut b s (rn dgt b n 1601 s))) := by
  obtain ⟨-, -, G_1, -, hF1, h5, G_2, hRc, -, -, G_13, hJ, -, -, y19, t19, hh⟩ := h
  obtain ⟨hF, e, he, h1, h2, h3, h4⟩ := c_nloop hX hF1 h5 hs hsn hRc
  have hX2 := hX.fr hF (by decide) (by decide) (by decide) (by decide)
  have hJ2 : G_2 = G_13 ∧ ¬ (e < n ∧ dgt (b e) = true) := by
    rcases hJ with ⟨c, rfl⟩ | ⟨c, r, G33, hd, hr, rfl⟩
    · exact ⟨rfl, fun q => by have := hX.1; omega⟩
    · obtain ⟨hG, hd2⟩ := c_isD hX2 he hd
      exact ⟨hG, fun q => hd2.mpr q hr⟩
  obtain ⟨rfl, hno⟩ := hJ2
  have hX0 := hX.2.1
  rw [rn_eq 1601 s e h1 (by omega) h3 hno]
  have fin : ∀ v : Int32, Fr [] [(3, 3)] G_2 G1 → (G1.1 3 2).toInt = (e : Int) ∧ (e - s ≤ 4 → (G1.1 3 5).toInt = val (cut b s e)) := by
    intro v hF3
    refine ⟨by rw [hF3.i 3 2 (by decide) (by decide)]; exact he, fun q => ?_⟩
    rw [hF3.i 3 5 (by decide) (by decide)]
    exact (h4 q).1
  rcases hh with ⟨c, hF3, e3⟩ | ⟨c, r, G23, hl, hh⟩
  · refine ⟨(fin 0 hF3).1, ?_, (fin 0 hF3).2⟩
    rw [if_pos (Or.inl (by omega)), e3]
    rfl
  · obtain ⟨rfl, hl2⟩ := c_isL hX2 he hl
    rcases hh with ⟨c2, hF3, e3⟩ | ⟨c2, hF3, e3⟩
    · refine ⟨(fin 0 hF3).1, ?_, (fin 0 hF3).2⟩
      rw [if_neg (fun q => q.elim (fun q => by omega) (fun q => hl2.mpr q c2)), e3]
      rfl
    · refine ⟨(fin 0 hF3).1, ?_, (fin 0 hF3).2⟩
      rw [if_pos (Or.inr (hl2.mp c2)), e3]
      rfl
theorem i8_i {x : Int32} (h0 : 0 ≤ x.toInt) (h1 : x.toInt ≤ 255) : (x.toInt < 128 → x.toInt8.toInt32.toInt = x.toInt) ∧ (128 ≤ x.toInt → x.toInt8.toInt32.toInt = x.toInt - 256) := by
  have e : x.toInt8.toInt32.toInt = x.toInt.bmod 256 := by rw [Int8.toInt_toInt32, Int32.toInt_toInt8]
  rw [e, Int.bmod_def]
  refine ⟨fun h => ?_, fun h => ?_⟩
  · rw [if_pos (by omega)]
    omega
  · rw [if_neg (by omega)]
    omega
def Sb (j : Nat) : Int := ((sByt.getD 1 []).getD j 0).toInt
theorem Sb_s : ∀ j : Nat, j < 11 → sgn (Sb j) = true ∧ 0 ≤ Sb j ∧ Sb j ≤ 127 := by decide +kernel
theorem Sb_o {x : Int} (h : ∀ j : Nat, j < 11 → Sb j ≠ x) : ¬ sgn x = true := by
  intro q
  have e : Sb 0 = 59 ∧ Sb 1 = 40 ∧ Sb 2 = 41 ∧ Sb 3 = 60 ∧ Sb 4 = 62 ∧ Sb 5 = 61 ∧ Sb 6 = 43 ∧ Sb 7 = 45 ∧ Sb 8 = 42 ∧ Sb 9 = 47 ∧ Sb 10 = 37 := by decide +kernel
  have q := sgn_i.mp q
  have := h 0 (by decide); have := h 1 (by decide); have := h 2 (by decide); have := h 3 (by decide); have := h 4 (by decide); have := h 5 (by decide); have := h 6 (by decide); have := h 7 (by decide); have := h 8 (by decide); have := h 9 (by decide); have := h 10 (by decide)
  omega
theorem c_idx {p0 r : Int32} {G G1 : GS} (h : P_jIdx_1 p0 G r G1) (h0 : 0 ≤ p0.toInt) (h1 : p0.toInt ≤ 255) : G = G1 ∧ (0 ≤ r.toInt ↔ sgn p0.toInt = true) := by
  obtain ⟨-, hF, r1, G2, ⟨-, -, r2, G3, -, r8, G9, ⟨-, -, hr8, -⟩, r14, G15, ⟨-, -, r3, G4, hcan, hh⟩, e14, -⟩, e1, -⟩ := h
  refine ⟨hF.nil, ?_⟩
  subst e1
  subst e14
  have m1 : (-1 : Int32).toInt = -1 := rfl
  have z0 : (0 : Int32).toInt = 0 := rfl
  have o1 : (1 : Int32).toInt = 1 := rfl
  have hr3 : r3.toInt = 1 := by
    obtain ⟨-, -, -, hc⟩ := hcan
    rcases hc with ⟨c, rfl, -⟩ | ⟨c, ⟨c2, rfl, -⟩ | ⟨c2, rfl, -⟩⟩ <;> omega
  rcases hh with ⟨c, -⟩ | ⟨c, y8, t8, y9, t9, r11, G12, ⟨-, -, y1, ey1, x6, G7, hRc, hx6, -, -, hh⟩, e11, -⟩
  · omega
  subst e11
  have hy1 : (p0.toInt < 128 → y1.toInt = p0.toInt) ∧ (128 ≤ p0.toInt → y1.toInt = p0.toInt - 256) := by
    rw [ey1]
    exact i8_i h0 h1
  have hI := hRc (fun z => ∃ k : Nat, z.1.toInt = (k : Int) ∧ ∀ q, q < k → Sb q ≠ y1.toInt) ⟨0, by clear hh; show y8.toInt = _; omega, fun q a => by omega⟩ (by
    clear hh
    rintro ⟨x, G_2⟩ ⟨xn, G_2n⟩ ⟨k, hk, hq⟩ ⟨xq, G_2q, xnq, G_2nq, e1, e2, hb, -, c1, y12, e12, c2, y14, t14, e14, -⟩
    obtain ⟨rfl, rfl⟩ := Prod.mk.inj e1
    obtain ⟨rfl, rfl⟩ := Prod.mk.inj e2
    simp only at hk
    subst e14
    refine ⟨k + 1, by show y14.toInt = _; omega, fun q hq2 => ?_⟩
    by_cases hqk : q = k
    · subst hqk
      rw [cn_eq hk] at e12
      rw [e12] at c2
      exact c2
    · exact hq q (by omega))
  obtain ⟨k, hk, hq⟩ := hI
  simp only at hk
  rcases hh with ⟨c2, e2, -⟩ | ⟨c2, y12, e12, c3, e2, -⟩
  · subst e2
    refine ⟨fun q => by omega, fun q => absurd q (Sb_o (fun j hj e => ?_))⟩
    have hb := Sb_s j hj
    exact hq j (by omega) (by omega)
  · subst e2
    rw [cn_eq hk] at e12
    have hb := Sb_s k (by omega)
    have e3 : Sb k = y12.toInt := by rw [e12]; rfl
    refine ⟨fun _ => ?_, fun _ => by omega⟩
    have : p0.toInt = Sb k := by omega
    rw [this]
    exact hb.1
theorem and255 {x y : Int32} (e : y = x &&& 255) (h0 : -128 ≤ x.toInt) (h1 : x.toInt ≤ 127) : (0 ≤ x.toInt → y.toInt = x.toInt) ∧ (x.toInt < 0 → y.toInt = x.toInt + 256) := by
  have e1 : y.toBitVec.toNat = x.toBitVec.toNat % 256 := by
    rw [e]
    show (x.toBitVec &&& 255#32).toNat = _
    rw [BitVec.toNat_and]
    exact Nat.and_two_pow_sub_one_eq_mod x.toBitVec.toNat 8
  have hx : x.toInt = x.toBitVec.toInt := rfl
  have hy : y.toInt = y.toBitVec.toInt := rfl
  rw [BitVec.toInt_eq_toNat_cond] at hx hy
  have lx := x.toBitVec.isLt
  split at hx <;> split at hy <;> constructor <;> intro h <;> omega
theorem u16_eq {x : Int32} (h0 : 0 ≤ x.toInt) (h1 : x.toInt ≤ 255) : (x.toUInt32 % 65536).toInt32 = x := by
  apply Int32.toInt_inj.mp
  have hb : x.toInt = x.toBitVec.toInt := rfl
  rw [hb] at h0 h1
  have h2 : ((x.toUInt32 % 65536).toInt32).toInt = (x.toBitVec % 65536#32).toInt := rfl
  rw [h2, hb]
  have h3 : x.toBitVec.toNat < 256 := by
    rw [BitVec.toInt_eq_toNat_cond] at h0 h1
    split at h0
    · rename_i q
      rw [if_pos q] at h1
      omega
    · rename_i q
      rw [if_neg q] at h1
      omega
  have h4 : x.toBitVec % 65536#32 = x.toBitVec := by
    apply BitVec.eq_of_toNat_eq
    rw [BitVec.toNat_umod]
    have : (65536#32).toNat = 65536 := rfl
    rw [this]
    omega
  rw [h4]
def TC (b : Nat → Int) (n : Nat) (G : GS) (p : Nat) : Prop := (G.1 3 3).toInt = tK b n p ∧ (G.1 3 4).toInt = (tS b n p : Int) ∧ (tK b n p ≠ 202 → (G.1 3 2).toInt = (tNx b n p : Int)) ∧ (tK b n p = 201 → (G.1 3 5).toInt = tV b n p) ∧ (tK b n p = 200 → G.2.1 3 6 = w5 (tL b n p))
theorem kwd_r (L : List Int) : 128 ≤ kwd L ∧ (kwd L ≤ 150 ∨ kwd L = 200) := by
  unfold kwd
  split <;> omega
theorem c_adv {b : Nat → Int} {n q : Nat} {G G1 : GS} {r : Int32} (hX : XC b n G) (hq : (G.1 3 2).toInt = (q : Int)) (hqn : q ≤ n) (h : P_tAdvance G r G1) : r.toInt = 1 ∧ XC b n G1 ∧ TC b n G1 q := by
  obtain ⟨-, hFF, hr, G_1, hRc, -, -, G_11, hJ, -, -, hh⟩ := h
  obtain ⟨hF, s, hs, h1, h2, h3⟩ := c_skip hX hq hqn hRc
  have hX1 := hX.fr hF (by decide) (by decide) (by decide) (by decide)
  have hX0 := hX.1
  have hJ2 : G_1 = G_11 ∧ ¬ (s < n ∧ blk (b s) = true) := by
    rcases hJ with ⟨c, rfl⟩ | ⟨c, y57, e57, c57, y62, e62, c62, rfl⟩
    · exact ⟨rfl, fun q => by omega⟩
    · refine ⟨rfl, fun q => ?_⟩
      have ht := hX1.2.2 s q.1
      have hb := blk_i.mp q.2
      rw [cn_eq hs] at e57 e62
      subst e57
      subst e62
      omega
  obtain ⟨rfl, hno⟩ := hJ2
  have hS : tS b n q = s := rn_eq 1601 q s h1 (by have := hX.2.1; omega) h3 hno
  refine ⟨by omega, hX.fr hFF (by decide) (by decide) (by decide) (by decide), ?_⟩
  unfold TC tK tNx tV tL tW tD
  rw [hS]
  rcases hh with ⟨c, G_16, -, hF16, e4, r18, G19, hl, hh⟩ | ⟨c, -, hF1, e3, e4⟩
  · have hsn : s < n := by omega
    have hX16 := hX1.fr hF16 (by decide) (by decide) (by decide) (by decide)
    have hs16 : (G_16.1 3 2).toInt = (s : Int) := by rw [hF16.i 3 2 (by decide) (by decide)]; exact hs
    have hp16 : (G_16.1 3 4).toInt = (s : Int) := by rw [e4]; exact hs
    obtain ⟨rfl, hl2⟩ := c_isL hX16 hs hl
    rw [if_neg (show ¬ n ≤ s by omega), if_neg (show ¬ n ≤ s by omega)]
    rcases hh with ⟨c18, r25, G26, hd, hh⟩ | ⟨c18, G51, hw, -, rfl⟩
    · have hnl : ¬ ltr (b s) = true := fun q => hl2.mpr ⟨hsn, q⟩ c18
      rw [if_neg hnl, if_neg hnl]
      obtain ⟨rfl, hd2⟩ := c_isD hX16 hs hd
      rcases hh with ⟨c25, y32, t32, y34, e34, y35, e35, y36, e36, G33, -, hF33, e33, r37, G38, hi, hh⟩ | ⟨c25, G46, hn, -, rfl⟩
      · have hnd : ¬ dgt (b s) = true := fun q => hd2.mpr ⟨hsn, q⟩ c25
        rw [if_neg hnd, if_neg hnd]
        have ht := hX16.2.2 s hsn
        rw [cn_eq hs] at e34
        subst e34
        have ha := and255 e35 (by omega) (by omega)
        have hv : y35.toInt = b s := by omega
        rw [u16_eq (by omega) (by omega)] at e36
        subst e36
        obtain ⟨rfl, hsg⟩ := c_idx hi (by omega) (by omega)
        rw [hv] at hsg
        have fin : ∀ v : Int32, Fr [] [(3, 3)] G33 G1 → (G1.1 3 4).toInt = (s : Int) ∧ (G1.1 3 2).toInt = ((s + 1 : Nat) : Int) := by
          intro v hF1
          refine ⟨?_, ?_⟩
          · rw [hF1.i 3 4 (by decide) (by decide), hF33.i 3 4 (by decide) (by decide)]
            exact hp16
          · rw [hF1.i 3 2 (by decide) (by decide), e33]
            omega
        rcases hh with ⟨c37, -, hF1, e3⟩ | ⟨c37, -, hF1, e3⟩
        · rw [if_neg (fun q => by have := hsg.mpr q; omega), e3]
          exact ⟨rfl, (fin 0 hF1).1, fun _ => (fin 0 hF1).2, fun q => absurd q (by decide), fun q => absurd q (by decide)⟩
        · have hq2 := hsg.mp c37
          rw [if_pos hq2, e3]
          have hq3 := sgn_i.mp hq2
          exact ⟨hv, (fin 0 hF1).1, fun _ => (fin 0 hF1).2, fun q => by omega, fun q => by omega⟩
      · have hnd : dgt (b s) = true := (hd2.mp c25).2
        rw [if_pos hnd, if_pos hnd]
        obtain ⟨g1, g2, g3⟩ := c_number hX16 hn hs16 hp16 (by omega)
        refine ⟨g2, ?_, fun _ => g1, fun q => ?_, fun q => ?_⟩
        · have := hn.2.1.i 3 4 (by decide) (by decide)
          rw [this]
          exact hp16
        · refine g3 ?_
          split at q
          · exact absurd q (by decide)
          · omega
        · split at q <;> exact absurd q (by decide)
    · have hnl : ltr (b s) = true := (hl2.mp c18).2
      rw [if_pos hnl, if_pos hnl]
      obtain ⟨g1, g2, g3⟩ := c_word hX16 hw hs16 hp16 (by omega)
      refine ⟨g2, ?_, fun _ => g1, fun q => ?_, fun q => ?_⟩
      · have := hw.2.1.i 3 4 (by decide) (by decide)
        rw [this]
        exact hp16
      · have := kwd_r (cut b s (rn ltr b n 1601 s))
        split at q <;> omega
      · refine g3 ?_
        split at q
        · exact absurd q (by decide)
        · omega
  · rw [if_pos (show n ≤ s by omega), if_pos (show n ≤ s by omega), e3, e4]
    refine ⟨rfl, hs, fun _ => ?_, fun q => absurd q (by decide), fun q => absurd q (by decide)⟩
    rw [hF1.i 3 2 (by decide) (by decide)]
    exact hs
