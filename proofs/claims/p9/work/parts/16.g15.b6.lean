/-! SLABS by the program -/
def encI (x : IC) : Int32 := ((((if x.1 < 0 then (1 : Int32) else 0) ||| (Int32.ofInt (if x.1 < 0 then 0 else x.1) <<< (1 &&& 31))) ||| (Int32.ofInt x.2.1 <<< (5 &&& 31))) ||| (Int32.ofInt x.2.2.1 <<< (14 &&& 31))) ||| (Int32.ofInt x.2.2.2 <<< (20 &&& 31))
def ICok (x : IC) : Prop := -1 ≤ x.1 ∧ x.1 ≤ 15 ∧ 0 ≤ x.2.1 ∧ x.2.1 < 512 ∧ 0 ≤ x.2.2.1 ∧ x.2.2.1 < 64 ∧ 0 ≤ x.2.2.2 ∧ x.2.2.2 < 64
def JM (p0 p1 : Int32) (m : Int) : Prop := (p0 = 1 ∧ p1 = 0 ∧ m = -1) ∨ (p0 = 0 ∧ p1.toInt = m ∧ 0 ≤ m)
theorem encI_eq {p0 p1 p2 x p3 : Int32} {m nth i w : Int} (h : JM p0 p1 m) (h2 : p2.toInt = nth) (h3 : x.toInt = i) (h4 : p3.toInt = w) : (((p0 ||| p1 <<< (1 &&& 31)) ||| p2 <<< (5 &&& 31)) ||| x <<< (14 &&& 31)) ||| p3 <<< (20 &&& 31) = encI (m, nth, i, w) := by
  have e0 : Int32.ofInt 0 = 0 := rfl
  subst h2
  subst h3
  subst h4
  unfold encI
  rcases h with ⟨rfl, rfl, rfl⟩ | ⟨rfl, rfl, h0⟩
  · simp only [Int32.ofInt_toInt]
    rw [if_pos (by decide), if_pos (by decide), e0]
  · simp only [Int32.ofInt_toInt]
    rw [if_neg (by omega), if_neg (by omega), Int32.ofInt_toInt]
theorem getD_app {α : Type} {A K : List α} {i : Nat} {d : α} : (A ++ K).getD i d = if i < A.length then A.getD i d else K.getD (i - A.length) d := by
  rw [List.getD_eq_getElem?_getD]
  by_cases h : i < A.length
  · rw [if_pos h, List.getElem?_append_left h, List.getD_eq_getElem?_getD]
  · rw [if_neg h, List.getElem?_append_right (by omega), List.getD_eq_getElem?_getD]
def pcN (v : Nat) : Nat := v % 2 + v / 2 % 2 + v / 4 % 2 + v / 8 % 2
theorem pc_key : ∀ v : Nat, v < 16 → ∀ j : Nat, j < 4 → (Int32.ofNat v &&& mkw (140 + (j : Int))).toInt = 0 → v + 2 ^ j < 16 ∧ pcN (v + 2 ^ j) = pcN v + 1 ∧ (Int32.ofNat v ||| mkw (140 + (j : Int))) = Int32.ofNat (v + 2 ^ j) := by decide +kernel
theorem pc_le : ∀ v : Nat, v < 16 → pcN v ≤ 4 := by decide +kernel
theorem ofN_16 : ∀ v : Nat, v < 16 → (Int32.ofNat v).toInt = (v : Int) := by decide +kernel
theorem mk_ok {v : Nat} {k : Int} (hv : v < 16) (h1 : 140 ≤ k) (h2 : k ≤ 143) (h0 : (Int32.ofNat v &&& mkw k).toInt = 0) : ∃ v', v' < 16 ∧ pcN v' = pcN v + 1 ∧ (Int32.ofNat v ||| mkw k) = Int32.ofNat v' := by
  have e : k = 140 + ((k - 140).toNat : Int) := by omega
  rw [e] at h0 ⊢
  exact ⟨_, pc_key v hv (k - 140).toNat (by omega) h0⟩
theorem sh1 {y : Int32} {k : Int} (h : y.toInt = k - 140) (h1 : 140 ≤ k) (h2 : k ≤ 143) : (1 : Int32) <<< (y &&& 31) = mkw k := by
  have hk : k = 140 ∨ k = 141 ∨ k = 142 ∨ k = 143 := by omega
  rcases hk with rfl | rfl | rfl | rfl
  · have e : y = 0 := Int32.toInt_inj.mp (by rw [h]; rfl)
    subst e
    rfl
  · have e : y = 1 := Int32.toInt_inj.mp (by rw [h]; rfl)
    subst e
    rfl
  · have e : y = 2 := Int32.toInt_inj.mp (by rw [h]; rfl)
    subst e
    rfl
  · have e : y = 3 := Int32.toInt_inj.mp (by rw [h]; rfl)
    subst e
    rfl
theorem slI_0 {J : Int} {vx : Int × Int32} : slI J 0 vx = layI vx.2.toInt 0 vx.1 := by
  unfold slI
  rw [layI_0 (show ahd J 0 ≤ 0 from Int.le_refl 0)]
  rfl
theorem ahd_r {J : Int} {nth : Nat} (h0 : 0 ≤ J) (h9 : J ≤ 9) : 0 ≤ ahd J nth ∧ ahd J nth ≤ 9 := by
  unfold ahd
  split <;> omega
theorem slI_len {J : Int} {nth : Nat} {vx : Int × Int32} : (slI J nth vx).length = (ahd J nth).toNat + vx.1.toNat := by
  unfold slI
  rw [List.length_append, layI_len, layI_len]
def StC_1 (s : Nat) (I : List IC) (G : GS) : Prop := (G.1 10 s).toInt = (I.length : Int) ∧ ∀ i, i < I.length → G.1 11 (400 * s + i) = encI (I.getD i (0, 0, 0, 0)) ∧ ICok (I.getD i (0, 0, 0, 0))
def KeC_1 (s : Nat) (G G1 : GS) : Prop := (∀ s', s' ≠ s → G1.1 10 s' = G.1 10 s') ∧ ∀ j, j < 400 * s → G1.1 11 j = G.1 11 j
theorem KeC_1.tr {s : Nat} {G G1 G2 : GS} (h : KeC_1 s G G1) (h' : KeC_1 s G1 G2) : KeC_1 s G G2 := ⟨fun s' q => (h'.1 s' q).trans (h.1 s' q), fun j q => (h'.2 j q).trans (h.2 j q)⟩
theorem KeC_1.of {s : Nat} {rs : List Nat} {fs : List (Nat × Nat)} {G G1 : GS} (hF : Fr rs fs G G1) (h1 : 10 ∉ rs) (h2 : ∀ x ∈ fs, x.1 ≠ 10) (h3 : 11 ∉ rs) (h4 : ∀ x ∈ fs, x.1 ≠ 11) : KeC_1 s G G1 := by
  unfold KeC_1
  rw [hF.row1 10 h1 h2, hF.row1 11 h3 h4]
  exact ⟨fun _ _ => rfl, fun _ _ => rfl⟩
theorem StC_1.fr {s : Nat} {I : List IC} {rs : List Nat} {fs : List (Nat × Nat)} {G G1 : GS} (h : StC_1 s I G) (hF : Fr rs fs G G1) (h1 : 10 ∉ rs) (h2 : ∀ x ∈ fs, x.1 ≠ 10) (h3 : 11 ∉ rs) (h4 : ∀ x ∈ fs, x.1 ≠ 11) : StC_1 s I G1 := by
  unfold StC_1 at h ⊢
  rw [hF.row1 10 h1 h2, hF.row1 11 h3 h4]
  exact h
theorem c_lay_1 {s : Nat} {I : List IC} {G G1 : GS} {p0 p1 p2 p3 : Int32} {m nth w : Int} (h : P_lay_1 p0 p1 p2 p3 G G1) (hs : (G.1 1 9).toInt = (s : Int)) (hs3 : s < 3) (hS : StC_1 s I G) (hm : JM p0 p1 m) (h2 : p2.toInt = nth) (h3 : p3.toInt = w) (hw0 : 0 ≤ w) (hroom : (I.length : Int) + w ≤ 400) (hok : -1 ≤ m ∧ m ≤ 15 ∧ 0 ≤ nth ∧ nth < 512 ∧ w < 64) : StC_1 s (I ++ layI m nth w) G1 ∧ KeC_1 s G G1 := by
  obtain ⟨-, -, hh⟩ := h
  rcases hh with ⟨c, y3, e3, x, G4, hl, -, -, hF4, hh⟩ | ⟨c, -⟩
  rotate_left
  · omega
  rw [cn_eq hs] at e3
  have e3' : y3.toInt = (I.length : Int) := by rw [e3]; exact hS.1
  have hI := hl (fun q => ∃ k : Nat, q.1.toInt = (k : Int) ∧ (k : Int) ≤ w ∧ (∀ j, j < 400 * s + I.length → q.2.1 11 j = G.1 11 j) ∧ ∀ i, i < k → q.2.1 11 (400 * s + I.length + i) = encI (m, nth, (i : Int), w)) ⟨0, rfl, hw0, fun _ _ => rfl, fun i hi => absurd hi (Nat.not_lt_zero i)⟩ (by
    rintro ⟨x1, G_1⟩ ⟨xn, G_1n⟩ ⟨k, h1, h2', h4, h5⟩ ⟨x1q, G_1q, xnq, G_1nq, e1, e2, -, -, c1, y17, t17, c17, y22, t22, y23, t23, y24, t24, y25, e25, y26, e26, y27, e27, y28, e28, y29, e29, y30, e30, y31, e31, y32, e32, y34, t34, ex, hFn, eR⟩
    obtain ⟨rfl, rfl⟩ := Prod.mk.inj e1
    obtain ⟨rfl, rfl⟩ := Prod.mk.inj e2
    simp only at h1 h2' h4 h5
    have hy : y24.toNatClampNeg = 400 * s + I.length + k := cn_eq (by omega)
    rw [hy] at eR
    refine ⟨k + 1, by show xn.toInt = _; rw [← ex]; omega, by omega, fun j hj => ?_, fun i hi => ?_⟩
    · show G_1n.1 11 j = _
      have e : upd (G_1.1 11) (400 * s + I.length + k) y32 j = G_1.1 11 j := if_neg (by omega)
      rw [eR, e]
      exact h4 j hj
    · show G_1n.1 11 (400 * s + I.length + i) = _
      rw [eR]
      by_cases hik : i = k
      · subst hik
        have e : upd (G_1.1 11) (400 * s + I.length + i) y32 (400 * s + I.length + i) = y32 := if_pos rfl
        rw [e, e32, e31, e30, e29, e28, e27, e26, e25]
        exact encI_eq hm h2 h1 h3
      · have e : upd (G_1.1 11) (400 * s + I.length + k) y32 (400 * s + I.length + i) = G_1.1 11 (400 * s + I.length + i) := if_neg (by omega)
        rw [e]
        exact h5 i (by omega))
  obtain ⟨k, hk, hkw, h4, h5⟩ := hI
  simp only at hk h4 h5
  rcases hh with ⟨c1, y14, t14, y15, t15, hF1, e10⟩ | ⟨c1, y17, t17, c17, -⟩
  rotate_left
  · omega
  have hk' : k = w.toNat := by omega
  have r11 : G1.1 11 = G4.1 11 := hF1.row1 11 (by decide) (by decide)
  have r10 : G4.1 10 = G.1 10 := hF4.row1 10 (by decide) (by decide)
  rw [cn_eq hs, r10] at e10
  refine ⟨⟨?_, fun i hi => ?_⟩, fun s' q => ?_, fun j q => ?_⟩
  · have e : upd (G.1 10) s y15 s = y15 := if_pos rfl
    rw [e10, e, List.length_append, layI_len]
    omega
  · rw [List.length_append, layI_len] at hi
    rw [r11, getD_app]
    by_cases hq : i < I.length
    · rw [if_pos hq, h4 (400 * s + i) (by omega)]
      exact hS.2 i hq
    · have e9 := h5 (i - I.length) (by omega)
      rw [show 400 * s + I.length + (i - I.length) = 400 * s + i by omega] at e9
      rw [if_neg hq, layI_get (by omega)]
      refine ⟨e9, hok.1, hok.2.1, hok.2.2.1, hok.2.2.2.1, ?_, ?_, ?_, hok.2.2.2.2⟩
      · show (0 : Int) ≤ ((i - I.length : Nat) : Int)
        omega
      · show ((i - I.length : Nat) : Int) < 64
        omega
      · show (0 : Int) ≤ w
        exact hw0
  · have e : upd (G.1 10) s y15 s' = G.1 10 s' := if_neg q
    rw [e10, e]
  · rw [r11]
    exact h4 j (by omega)
theorem c_mk_1 {b : Nat → Int} {n p : Nat} {G G2 : GS} {x32 x33 : Int32} (hl : Rc (St_k_rSlab_1_2) (0, 0, G) (x32, x33, G2)) (hp : CPx b n G p) : ∃ p' v, CPx b n G2 p' ∧ p ≤ p' ∧ v < 16 ∧ x33 = Int32.ofNat v ∧ x32.toInt ≤ 4 ∧ ∀ o, Et (mkS b n) (0, p) o ↔ Et (mkS b n) (x33, p') o := by
  have hI := hl (fun q => ∃ p' v, CPx b n q.2.2 p' ∧ p ≤ p' ∧ v < 16 ∧ q.2.1 = Int32.ofNat v ∧ q.1.toInt = (pcN v : Int) ∧ ∀ o, Et (mkS b n) (0, p) o ↔ Et (mkS b n) (q.2.1, p') o) ⟨p, 0, hp, Nat.le_refl p, by decide, rfl, rfl, fun o => Iff.rfl⟩ (by
    rintro ⟨x1, v1, G_1⟩ ⟨xn, vn, G_1n⟩ ⟨p', v, h1, h2, h3, h4, h5, h6⟩ ⟨x1q, v1q, G_1q, xnq, vnq, G_1nq, e1, e2, -, -, -, c1, c2, c3, y68, t68, y69, e69, y70, e70, c70, y72, e72, r73, G74, ha, y79, t79, ex, ev, eG⟩
    obtain ⟨rfl, e1x⟩ := Prod.mk.inj e1
    obtain ⟨rfl, rfl⟩ := Prod.mk.inj e1x
    obtain ⟨rfl, e2x⟩ := Prod.mk.inj e2
    obtain ⟨rfl, rfl⟩ := Prod.mk.inj e2x
    simp only at h1 h4 h5 h6
    have k1 := h1.2.1.1
    rw [k1] at c2 c3 t68
    have hsh := sh1 t68 c2 c3
    rw [hsh] at e69
    rw [e70, e69, h4] at c70
    obtain ⟨v', g1, g2, g3⟩ := mk_ok h3 c2 c3 c70
    have hn := c_next ha h1 (by omega)
    have ht := tN_p (b := b) h1.1.2.1 h1.2.2.2
    refine ⟨tNx b n p', v', by show CPx b n G_1n _; rw [← eG]; exact hn.2, by omega, g1, by show vn = _; rw [← ev, e72, e69, h4]; exact g3, by show xn.toInt = _; rw [← ex]; omega, fun o => (h6 o).trans ?_⟩
    show _ ↔ Et (mkS b n) (vn, tNx b n p') o
    have hm : mkS b n (v1, p') = .inl (v1 ||| mkw (tK b n p'), tNx b n p') := by
      unfold mkS
      rw [if_pos ⟨c2, c3⟩, if_neg (by rw [h4]; exact fun q => q c70)]
    rw [← ev, e72, e69]
    exact Et_i hm)
  obtain ⟨p', v, h1, h2, h3, h4, h5, h6⟩ := hI
  exact ⟨p', v, h1, h2, h3, h4, by have := pc_le v h3; show x32.toInt ≤ 4; have h5' : x32.toInt = (pcN v : Int) := h5; omega, h6⟩
def SlR_1 (b : Nat → Int) (n : Nat) (J : Int) (nth s : Nat) (I : List IC) (p : Nat) (r : Int32) (G G1 : GS) : Prop := (∃ f, pSlab b n J nth I.length p = .inl f ∧ CF f r G1) ∨ (∃ vx p', pSlab b n J nth I.length p = .inr (vx, p') ∧ r.toInt = 1 ∧ CPx b n G1 p' ∧ p < p' ∧ StC_1 s (I ++ slI J nth vx) G1 ∧ KeC_1 s G G1 ∧ 1 ≤ vx.1 ∧ ((I ++ slI J nth vx).length : Int) ≤ 400)
theorem c_slab_1 {b : Nat → Int} {n : Nat} {J : Int} {nth s : Nat} {I : List IC} {p : Nat} {p0 p1 r : Int32} {G G1 : GS} (h : P_rSlab_1 p0 p1 G r G1) (hp : CPx b n G p) (hs : (G.1 1 9).toInt = (s : Int)) (hs3 : s < 3) (hS : StC_1 s I G) (h0 : p0.toInt = (nth : Int)) (h1 : p1.toInt = J) (hn4 : nth ≤ 400) (hJ0 : 0 ≤ J) (hJ9 : J ≤ 9) : SlR_1 b n J nth s I p r G G1 := by
  obtain ⟨-, -, -, w3, G4, hj, -, -, -, y10, e10, y11, t11, y12, t12, y13, t13, r15, G16, hn, hh⟩ := h
  have hG4 : G = G4 ∧ w3.toInt = ahd J nth := by
    unfold ahd
    rcases hj with ⟨c, e1, e2⟩ | ⟨c, e1, e2⟩
    · rw [if_pos (by omega), ← e1]
      exact ⟨e2, rfl⟩
    · rw [if_neg (by omega), ← e1]
      exact ⟨e2, h1⟩
  obtain ⟨rfl, hw3⟩ := hG4
  clear hj
  have har := ahd_r (nth := nth) hJ0 hJ9
  rw [cn_eq hs] at e10
  have h10 : y10.toInt = (I.length : Int) := by rw [e10]; exact hS.1
  have h13 : y13.toInt = rmx (400 - (I.length : Int) - ahd J nth) := by
    clear hh
    unfold rmx
    by_cases hq : 60 ≤ 400 - (I.length : Int) - ahd J nth
    · rw [if_pos hq]
      omega
    · rw [if_neg hq]
      omega
  have h60 : y13.toInt ≤ 60 := by clear hh; omega
  have h13' : y13.toInt ≤ 400 - (I.length : Int) - ahd J nth := by clear hh; omega
  rcases c_isNum hn hp with ⟨f, hf, hC⟩ | ⟨hv, hr, hp2, e9, hk, hl1, hl2⟩
  · rw [h13] at hf
    rcases hh with ⟨c, rfl, rfl⟩ | ⟨c, -⟩
    · exact Or.inl ⟨f, bnd_l hf, rfl, hC.2⟩
    · exact absurd hC.1 c
  rw [h13] at hv
  rcases hh with ⟨c, -⟩ | ⟨c, r22, G23, ha, x32, x33, G28, hl, -, -, -, hF28, hh⟩
  · omega
  have hn2 := c_next ha hp2 (by omega)
  have htn := tN_p (b := b) hp.1.2.1 hp.2.2.2
  have htp : p < tNx b n p := (htn.2.2 (by omega)).1
  obtain ⟨p', v, hp3, hpp, hv16, hx33, hx4, hEt⟩ := c_mk_1 hl hn2.2
  have k3 := hp3.2.1.1
  have hs28 : (G28.1 1 9).toInt = (s : Int) := by
    rw [hF28.i 1 9 (by decide) (by decide), ha.2.1.i 1 9 (by decide) (by decide), hn.2.1.i 1 9 (by decide) (by decide)]
    exact hs
  have hS28 : StC_1 s I G28 := ((hS.fr hn.2.1 (by decide) (by decide) (by decide) (by decide)).fr ha.2.1 (by decide) (by decide) (by decide) (by decide)).fr hF28 (by decide) (by decide) (by decide) (by decide)
  have hK28 : KeC_1 s G G28 := ((KeC_1.of hn.2.1 (by decide) (by decide) (by decide) (by decide)).tr (KeC_1.of ha.2.1 (by decide) (by decide) (by decide) (by decide))).tr (KeC_1.of hF28 (by decide) (by decide) (by decide) (by decide))
  rcases hh with ⟨-, c2, c3, y68, t68, y69, e69, y70, e70, c70, r80, G81, hrf, rfl, rfl⟩ | ⟨G44, hj, -, -, hh⟩
  · rw [k3] at c2 c3 t68
    rw [sh1 t68 c2 c3] at e69
    have hm : mkS b n (x33, p') = .inr (.inl (fl b n 2 p')) := by
      unfold mkS
      rw [if_pos ⟨c2, c3⟩, if_pos (by rw [← e69, ← e70]; exact c70)]
    have hmk : pMk b n (tNx b n p) = .inl (fl b n 2 p') := run_eq ((hEt _).mpr ((Et_r hm).mpr rfl))
    exact Or.inl ⟨fl b n 2 p', (bnd_r hv).trans (bnd_l hmk), (c_ref hrf hp3).1⟩
  · have hj2 : G28 = G44 ∧ ¬ (140 ≤ tK b n p' ∧ tK b n p' ≤ 143) := by
      rw [← k3]
      rcases hj with ⟨c, -⟩ | ⟨c, ⟨d, e⟩ | ⟨d, d2, e⟩⟩
      · omega
      · exact ⟨e, by omega⟩
      · exact ⟨e, by omega⟩
    obtain ⟨rfl, hno⟩ := hj2
    clear hj
    have hm : mkS b n (x33, p') = .inr (.inr (x33, p')) := by
      unfold mkS
      rw [if_neg hno]
    have hmk : pMk b n (tNx b n p) = .inr (x33, p') := run_eq ((hEt _).mpr ((Et_r hm).mpr rfl))
    have hps : pSlab b n J nth I.length p = .inr ((tV b n p, x33), p') := (bnd_r hv).trans (bnd_r hmk)
    have hx0 : x33.toInt = (v : Int) := by rw [hx33]; exact ofN_16 v hv16
    have hl1' : 1 ≤ tV b n p := hl1
    have hlen : ((I ++ slI J nth (tV b n p, x33)).length : Int) ≤ 400 := by
      rw [List.length_append, slI_len]
      show ((I.length + ((ahd J nth).toNat + (tV b n p).toNat) : Nat) : Int) ≤ 400
      omega
    rcases hh with ⟨c0, G50, hla, rfl, rfl⟩ | ⟨c0, y54, t54, G56, hla1, G61, hla2, rfl, rfl⟩
    · have hn0 : nth = 0 := by omega
      subst hn0
      obtain ⟨k1, k2⟩ := c_lay_1 (m := x33.toInt) (nth := 0) (w := tV b n p) hla hs28 hs3 hS28 (Or.inr ⟨rfl, rfl, by omega⟩) h0 e9 (by omega) (by omega) ⟨by omega, by omega, by omega, by omega, by omega⟩
      refine Or.inr ⟨_, p', hps, rfl, hp3.fr hla.2.1 (by decide) (by decide) (by decide) (by decide), by omega, ?_, hK28.tr k2, hl1', hlen⟩
      rw [slI_0]
      exact k1
    · have e16 : (G16.1 5 9).toInt = tV b n p := e9
      obtain ⟨k1, k2⟩ := c_lay_1 (m := -1) (nth := (nth : Int) - 1) (w := ahd J nth) hla1 hs28 hs3 hS28 (Or.inl ⟨rfl, rfl, rfl⟩) (by omega) hw3 har.1 (by omega) ⟨by omega, by omega, by omega, by omega, by omega⟩
      have hs56 : (G56.1 1 9).toInt = (s : Int) := by
        rw [hla1.2.1.i 1 9 (by decide) (by decide)]
        exact hs28
      obtain ⟨k3', k4⟩ := c_lay_1 (m := x33.toInt) (nth := (nth : Int)) (w := tV b n p) hla2 hs56 hs3 k1 (Or.inr ⟨rfl, rfl, by omega⟩) h0 e16 (by omega) (by rw [List.length_append, layI_len]; omega) ⟨by omega, by omega, by omega, by omega, by omega⟩
      refine Or.inr ⟨_, p', hps, rfl, (hp3.fr hla1.2.1 (by decide) (by decide) (by decide) (by decide)).fr hla2.2.1 (by decide) (by decide) (by decide) (by decide), by omega, ?_, (hK28.tr k2).tr k4, hl1', hlen⟩
      rw [List.append_assoc] at k3'
      exact k3'
def StC_2 (s : Nat) (I : List IC) (G : GS) : Prop := (G.1 20 s).toInt = (I.length : Int) ∧ ∀ i, i < I.length → G.1 21 (400 * s + i) = encI (I.getD i (0, 0, 0, 0)) ∧ ICok (I.getD i (0, 0, 0, 0))
def KeC_2 (s : Nat) (G G1 : GS) : Prop := (∀ s', s' ≠ s → G1.1 20 s' = G.1 20 s') ∧ ∀ j, j < 400 * s → G1.1 21 j = G.1 21 j
theorem KeC_2.tr {s : Nat} {G G1 G2 : GS} (h : KeC_2 s G G1) (h' : KeC_2 s G1 G2) : KeC_2 s G G2 := ⟨fun s' q => (h'.1 s' q).trans (h.1 s' q), fun j q => (h'.2 j q).trans (h.2 j q)⟩
theorem KeC_2.of {s : Nat} {rs : List Nat} {fs : List (Nat × Nat)} {G G1 : GS} (hF : Fr rs fs G G1) (h1 : 20 ∉ rs) (h2 : ∀ x ∈ fs, x.1 ≠ 20) (h3 : 21 ∉ rs) (h4 : ∀ x ∈ fs, x.1 ≠ 21) : KeC_2 s G G1 := by
  unfold KeC_2
  rw [hF.row1 20 h1 h2, hF.row1 21 h3 h4]
  exact ⟨fun _ _ => rfl, fun _ _ => rfl⟩
theorem StC_2.fr {s : Nat} {I : List IC} {rs : List Nat} {fs : List (Nat × Nat)} {G G1 : GS} (h : StC_2 s I G) (hF : Fr rs fs G G1) (h1 : 20 ∉ rs) (h2 : ∀ x ∈ fs, x.1 ≠ 20) (h3 : 21 ∉ rs) (h4 : ∀ x ∈ fs, x.1 ≠ 21) : StC_2 s I G1 := by
  unfold StC_2 at h ⊢
  rw [hF.row1 20 h1 h2, hF.row1 21 h3 h4]
  exact h
theorem c_lay_2 {s : Nat} {I : List IC} {G G1 : GS} {p0 p1 p2 p3 : Int32} {m nth w : Int} (h : P_lay_2 p0 p1 p2 p3 G G1) (hs : (G.1 2 9).toInt = (s : Int)) (hs3 : s < 3) (hS : StC_2 s I G) (hm : JM p0 p1 m) (h2 : p2.toInt = nth) (h3 : p3.toInt = w) (hw0 : 0 ≤ w) (hroom : (I.length : Int) + w ≤ 400) (hok : -1 ≤ m ∧ m ≤ 15 ∧ 0 ≤ nth ∧ nth < 512 ∧ w < 64) : StC_2 s (I ++ layI m nth w) G1 ∧ KeC_2 s G G1 := by
  obtain ⟨-, -, hh⟩ := h
  rcases hh with ⟨c, y3, e3, x, G4, hl, -, -, hF4, hh⟩ | ⟨c, -⟩
  rotate_left
  · omega
  rw [cn_eq hs] at e3
  have e3' : y3.toInt = (I.length : Int) := by rw [e3]; exact hS.1
  have hI := hl (fun q => ∃ k : Nat, q.1.toInt = (k : Int) ∧ (k : Int) ≤ w ∧ (∀ j, j < 400 * s + I.length → q.2.1 21 j = G.1 21 j) ∧ ∀ i, i < k → q.2.1 21 (400 * s + I.length + i) = encI (m, nth, (i : Int), w)) ⟨0, rfl, hw0, fun _ _ => rfl, fun i hi => absurd hi (Nat.not_lt_zero i)⟩ (by
    rintro ⟨x1, G_1⟩ ⟨xn, G_1n⟩ ⟨k, h1, h2', h4, h5⟩ ⟨x1q, G_1q, xnq, G_1nq, e1, e2, -, -, c1, y17, t17, c17, y22, t22, y23, t23, y24, t24, y25, e25, y26, e26, y27, e27, y28, e28, y29, e29, y30, e30, y31, e31, y32, e32, y34, t34, ex, hFn, eR⟩
    obtain ⟨rfl, rfl⟩ := Prod.mk.inj e1
    obtain ⟨rfl, rfl⟩ := Prod.mk.inj e2
    simp only at h1 h2' h4 h5
    have hy : y24.toNatClampNeg = 400 * s + I.length + k := cn_eq (by omega)
    rw [hy] at eR
    refine ⟨k + 1, by show xn.toInt = _; rw [← ex]; omega, by omega, fun j hj => ?_, fun i hi => ?_⟩
    · show G_1n.1 21 j = _
      have e : upd (G_1.1 21) (400 * s + I.length + k) y32 j = G_1.1 21 j := if_neg (by omega)
      rw [eR, e]
      exact h4 j hj
    · show G_1n.1 21 (400 * s + I.length + i) = _
      rw [eR]
      by_cases hik : i = k
      · subst hik
        have e : upd (G_1.1 21) (400 * s + I.length + i) y32 (400 * s + I.length + i) = y32 := if_pos rfl
        rw [e, e32, e31, e30, e29, e28, e27, e26, e25]
        exact encI_eq hm h2 h1 h3
      · have e : upd (G_1.1 21) (400 * s + I.length + k) y32 (400 * s + I.length + i) = G_1.1 21 (400 * s + I.length + i) := if_neg (by omega)
        rw [e]
        exact h5 i (by omega))
  obtain ⟨k, hk, hkw, h4, h5⟩ := hI
  simp only at hk h4 h5
  rcases hh with ⟨c1, y14, t14, y15, t15, hF1, e10⟩ | ⟨c1, y17, t17, c17, -⟩
  rotate_left
  · omega
  have hk' : k = w.toNat := by omega
  have r11 : G1.1 21 = G4.1 21 := hF1.row1 21 (by decide) (by decide)
  have r10 : G4.1 20 = G.1 20 := hF4.row1 20 (by decide) (by decide)
  rw [cn_eq hs, r10] at e10
  refine ⟨⟨?_, fun i hi => ?_⟩, fun s' q => ?_, fun j q => ?_⟩
  · have e : upd (G.1 20) s y15 s = y15 := if_pos rfl
    rw [e10, e, List.length_append, layI_len]
    omega
  · rw [List.length_append, layI_len] at hi
    rw [r11, getD_app]
    by_cases hq : i < I.length
    · rw [if_pos hq, h4 (400 * s + i) (by omega)]
      exact hS.2 i hq
    · have e9 := h5 (i - I.length) (by omega)
      rw [show 400 * s + I.length + (i - I.length) = 400 * s + i by omega] at e9
      rw [if_neg hq, layI_get (by omega)]
      refine ⟨e9, hok.1, hok.2.1, hok.2.2.1, hok.2.2.2.1, ?_, ?_, ?_, hok.2.2.2.2⟩
      · show (0 : Int) ≤ ((i - I.length : Nat) : Int)
        omega
      · show ((i - I.length : Nat) : Int) < 64
        omega
      · show (0 : Int) ≤ w
        exact hw0
  · have e : upd (G.1 20) s y15 s' = G.1 20 s' := if_neg q
    rw [e10, e]
  · rw [r11]
    exact h4 j (by omega)
theorem c_mk_2 {b : Nat → Int} {n p : Nat} {G G2 : GS} {x32 x33 : Int32} (hl : Rc (St_k_rSlab_2_2) (0, 0, G) (x32, x33, G2)) (hp : CPx b n G p) : ∃ p' v, CPx b n G2 p' ∧ p ≤ p' ∧ v < 16 ∧ x33 = Int32.ofNat v ∧ x32.toInt ≤ 4 ∧ ∀ o, Et (mkS b n) (0, p) o ↔ Et (mkS b n) (x33, p') o := by
  have hI := hl (fun q => ∃ p' v, CPx b n q.2.2 p' ∧ p ≤ p' ∧ v < 16 ∧ q.2.1 = Int32.ofNat v ∧ q.1.toInt = (pcN v : Int) ∧ ∀ o, Et (mkS b n) (0, p) o ↔ Et (mkS b n) (q.2.1, p') o) ⟨p, 0, hp, Nat.le_refl p, by decide, rfl, rfl, fun o => Iff.rfl⟩ (by
    rintro ⟨x1, v1, G_1⟩ ⟨xn, vn, G_1n⟩ ⟨p', v, h1, h2, h3, h4, h5, h6⟩ ⟨x1q, v1q, G_1q, xnq, vnq, G_1nq, e1, e2, -, -, -, c1, c2, c3, y68, t68, y69, e69, y70, e70, c70, y72, e72, r73, G74, ha, y79, t79, ex, ev, eG⟩
    obtain ⟨rfl, e1x⟩ := Prod.mk.inj e1
    obtain ⟨rfl, rfl⟩ := Prod.mk.inj e1x
    obtain ⟨rfl, e2x⟩ := Prod.mk.inj e2
    obtain ⟨rfl, rfl⟩ := Prod.mk.inj e2x
    simp only at h1 h4 h5 h6
    have k1 := h1.2.1.1
    rw [k1] at c2 c3 t68
    have hsh := sh1 t68 c2 c3
    rw [hsh] at e69
    rw [e70, e69, h4] at c70
    obtain ⟨v', g1, g2, g3⟩ := mk_ok h3 c2 c3 c70
    have hn := c_next ha h1 (by omega)
    have ht := tN_p (b := b) h1.1.2.1 h1.2.2.2
    refine ⟨tNx b n p', v', by show CPx b n G_1n _; rw [← eG]; exact hn.2, by omega, g1, by show vn = _; rw [← ev, e72, e69, h4]; exact g3, by show xn.toInt = _; rw [← ex]; omega, fun o => (h6 o).trans ?_⟩
    show _ ↔ Et (mkS b n) (vn, tNx b n p') o
    have hm : mkS b n (v1, p') = .inl (v1 ||| mkw (tK b n p'), tNx b n p') := by
      unfold mkS
      rw [if_pos ⟨c2, c3⟩, if_neg (by rw [h4]; exact fun q => q c70)]
    rw [← ev, e72, e69]
    exact Et_i hm)
  obtain ⟨p', v, h1, h2, h3, h4, h5, h6⟩ := hI
  exact ⟨p', v, h1, h2, h3, h4, by have := pc_le v h3; show x32.toInt ≤ 4; have h5' : x32.toInt = (pcN v : Int) := h5; omega, h6⟩
def SlR_2 (b : Nat → Int) (n : Nat) (J : Int) (nth s : Nat) (I : List IC) (p : Nat) (r : Int32) (G G1 : GS) : Prop := (∃ f, pSlab b n J nth I.length p = .inl f ∧ CF f r G1) ∨ (∃ vx p', pSlab b n J nth I.length p = .inr (vx, p') ∧ r.toInt = 1 ∧ CPx b n G1 p' ∧ p < p' ∧ StC_2 s (I ++ slI J nth vx) G1 ∧ KeC_2 s G G1 ∧ 1 ≤ vx.1 ∧ ((I ++ slI J nth vx).length : Int) ≤ 400)
theorem c_slab_2 {b : Nat → Int} {n : Nat} {J : Int} {nth s : Nat} {I : List IC} {p : Nat} {p0 p1 r : Int32} {G G1 : GS} (h : P_rSlab_2 p0 p1 G r G1) (hp : CPx b n G p) (hs : (G.1 2 9).toInt = (s : Int)) (hs3 : s < 3) (hS : StC_2 s I G) (h0 : p0.toInt = (nth : Int)) (h1 : p1.toInt = J) (hn4 : nth ≤ 400) (hJ0 : 0 ≤ J) (hJ9 : J ≤ 9) : SlR_2 b n J nth s I p r G G1 := by
  obtain ⟨-, -, -, w3, G4, hj, -, -, -, y10, e10, y11, t11, y12, t12, y13, t13, r15, G16, hn, hh⟩ := h
  have hG4 : G = G4 ∧ w3.toInt = ahd J nth := by
    unfold ahd
    rcases hj with ⟨c, e1, e2⟩ | ⟨c, e1, e2⟩
    · rw [if_pos (by omega), ← e1]
      exact ⟨e2, rfl⟩
    · rw [if_neg (by omega), ← e1]
      exact ⟨e2, h1⟩
  obtain ⟨rfl, hw3⟩ := hG4
  clear hj
  have har := ahd_r (nth := nth) hJ0 hJ9
  rw [cn_eq hs] at e10
  have h10 : y10.toInt = (I.length : Int) := by rw [e10]; exact hS.1
  have h13 : y13.toInt = rmx (400 - (I.length : Int) - ahd J nth) := by
    clear hh
    unfold rmx
    by_cases hq : 60 ≤ 400 - (I.length : Int) - ahd J nth
    · rw [if_pos hq]
      omega
    · rw [if_neg hq]
      omega
  have h60 : y13.toInt ≤ 60 := by clear hh; omega
  have h13' : y13.toInt ≤ 400 - (I.length : Int) - ahd J nth := by clear hh; omega
  rcases c_isNum hn hp with ⟨f, hf, hC⟩ | ⟨hv, hr, hp2, e9, hk, hl1, hl2⟩
  · rw [h13] at hf
    rcases hh with ⟨c, rfl, rfl⟩ | ⟨c, -⟩
    · exact Or.inl ⟨f, bnd_l hf, rfl, hC.2⟩
    · exact absurd hC.1 c
  rw [h13] at hv
  rcases hh with ⟨c, -⟩ | ⟨c, r22, G23, ha, x32, x33, G28, hl, -, -, -, hF28, hh⟩
  · omega
  have hn2 := c_next ha hp2 (by omega)
  have htn := tN_p (b := b) hp.1.2.1 hp.2.2.2
  have htp : p < tNx b n p := (htn.2.2 (by omega)).1
  obtain ⟨p', v, hp3, hpp, hv16, hx33, hx4, hEt⟩ := c_mk_2 hl hn2.2
  have k3 := hp3.2.1.1
  have hs28 : (G28.1 2 9).toInt = (s : Int) := by
    rw [hF28.i 2 9 (by decide) (by decide), ha.2.1.i 2 9 (by decide) (by decide), hn.2.1.i 2 9 (by decide) (by decide)]
    exact hs
  have hS28 : StC_2 s I G28 := ((hS.fr hn.2.1 (by decide) (by decide) (by decide) (by decide)).fr ha.2.1 (by decide) (by decide) (by decide) (by decide)).fr hF28 (by decide) (by decide) (by decide) (by decide)
  have hK28 : KeC_2 s G G28 := ((KeC_2.of hn.2.1 (by decide) (by decide) (by decide) (by decide)).tr (KeC_2.of ha.2.1 (by decide) (by decide) (by decide) (by decide))).tr (KeC_2.of hF28 (by decide) (by decide) (by decide) (by decide))
  rcases hh with ⟨-, c2, c3, y68, t68, y69, e69, y70, e70, c70, r80, G81, hrf, rfl, rfl⟩ | ⟨G44, hj, -, -, hh⟩
  · rw [k3] at c2 c3 t68
    rw [sh1 t68 c2 c3] at e69
    have hm : mkS b n (x33, p') = .inr (.inl (fl b n 2 p')) := by
      unfold mkS
      rw [if_pos ⟨c2, c3⟩, if_pos (by rw [← e69, ← e70]; exact c70)]
    have hmk : pMk b n (tNx b n p) = .inl (fl b n 2 p') := run_eq ((hEt _).mpr ((Et_r hm).mpr rfl))
    exact Or.inl ⟨fl b n 2 p', (bnd_r hv).trans (bnd_l hmk), (c_ref hrf hp3).1⟩
  · have hj2 : G28 = G44 ∧ ¬ (140 ≤ tK b n p' ∧ tK b n p' ≤ 143) := by
      rw [← k3]
      rcases hj with ⟨c, -⟩ | ⟨c, ⟨d, e⟩ | ⟨d, d2, e⟩⟩
      · omega
      · exact ⟨e, by omega⟩
      · exact ⟨e, by omega⟩
    obtain ⟨rfl, hno⟩ := hj2
    clear hj
    have hm : mkS b n (x33, p') = .inr (.inr (x33, p')) := by
      unfold mkS
      rw [if_neg hno]
    have hmk : pMk b n (tNx b n p) = .inr (x33, p') := run_eq ((hEt _).mpr ((Et_r hm).mpr rfl))
    have hps : pSlab b n J nth I.length p = .inr ((tV b n p, x33), p') := (bnd_r hv).trans (bnd_r hmk)
    have hx0 : x33.toInt = (v : Int) := by rw [hx33]; exact ofN_16 v hv16
    have hl1' : 1 ≤ tV b n p := hl1
    have hlen : ((I ++ slI J nth (tV b n p, x33)).length : Int) ≤ 400 := by
      rw [List.length_append, slI_len]
      show ((I.length + ((ahd J nth).toNat + (tV b n p).toNat) : Nat) : Int) ≤ 400
      omega
    rcases hh with ⟨c0, G50, hla, rfl, rfl⟩ | ⟨c0, y54, t54, G56, hla1, G61, hla2, rfl, rfl⟩
    · have hn0 : nth = 0 := by omega
      subst hn0
      obtain ⟨k1, k2⟩ := c_lay_2 (m := x33.toInt) (nth := 0) (w := tV b n p) hla hs28 hs3 hS28 (Or.inr ⟨rfl, rfl, by omega⟩) h0 e9 (by omega) (by omega) ⟨by omega, by omega, by omega, by omega, by omega⟩
      refine Or.inr ⟨_, p', hps, rfl, hp3.fr hla.2.1 (by decide) (by decide) (by decide) (by decide), by omega, ?_, hK28.tr k2, hl1', hlen⟩
      rw [slI_0]
      exact k1
    · have e16 : (G16.1 5 9).toInt = tV b n p := e9
      obtain ⟨k1, k2⟩ := c_lay_2 (m := -1) (nth := (nth : Int) - 1) (w := ahd J nth) hla1 hs28 hs3 hS28 (Or.inl ⟨rfl, rfl, rfl⟩) (by omega) hw3 har.1 (by omega) ⟨by omega, by omega, by omega, by omega, by omega⟩
      have hs56 : (G56.1 2 9).toInt = (s : Int) := by
        rw [hla1.2.1.i 2 9 (by decide) (by decide)]
        exact hs28
      obtain ⟨k3', k4⟩ := c_lay_2 (m := x33.toInt) (nth := (nth : Int)) (w := tV b n p) hla2 hs56 hs3 k1 (Or.inr ⟨rfl, rfl, by omega⟩) h0 e16 (by omega) (by rw [List.length_append, layI_len]; omega) ⟨by omega, by omega, by omega, by omega, by omega⟩
      refine Or.inr ⟨_, p', hps, rfl, (hp3.fr hla1.2.1 (by decide) (by decide) (by decide) (by decide)).fr hla2.2.1 (by decide) (by decide) (by decide) (by decide), by omega, ?_, (hK28.tr k2).tr k4, hl1', hlen⟩
      rw [List.append_assoc] at k3'
      exact k3'
