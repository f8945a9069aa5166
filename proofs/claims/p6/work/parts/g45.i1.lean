/-! a course -/
def lst (V : PV) (w s : Nat) : Int := if (stl V s : Int) - (wk V w).1 < -1 then -1 else (stl V s : Int) - (wk V w).1
def ndx (V : PV) (w s : Nat) : Int := if (stl V s : Int) - (wk V w).1 - (wk V w).2.2.1 + 1 < 0 then 0 else (stl V s : Int) - (wk V w).1 - (wk V w).2.2.1 + 1
def CrsC (V : PV) (day : Int32) (w s t : Nat) (G : GS) : Prop := ((G.1 7 1).toInt = (stl V s : Int) ∧ (G.1 7 2).toInt = (wk V w).1 ∧ (G.1 7 3).toInt = (wk V w).2.1 ∧ (G.1 7 4).toInt = (wk V w).2.2.1 ∧ (G.1 7 5).toInt = (wk V w).2.2.2 ∧ (G.1 7 6).toInt = lst V w s ∧ (G.1 7 7).toInt = ndx V w s) ∧ ∀ x : Nat, x < stl V s → ((G.1 40 x).toInt = 0 ∨ (G.1 40 x).toInt = 1) ∧ ((G.1 40 x).toInt ≠ 0 ↔ LWF V day w s t (x : Int))
theorem CrsC.fr {V : PV} {day : Int32} {w s t : Nat} {rs : List Nat} {fs : List (Nat × Nat)} {G G1 : GS} (h : CrsC V day w s t G) (hF : Fr rs fs G G1) (h1 : ∀ i ∈ [40], i ∉ rs ∧ ∀ x ∈ fs, x.1 ≠ i) (h2 : ∀ y ∈ [(7, 1), (7, 2), (7, 3), (7, 4), (7, 5), (7, 6), (7, 7)], y.1 ∉ rs ∧ y ∉ fs) : CrsC V day w s t G1 := by
  have f : ∀ {j : Nat}, (7, j) ∈ [(7, 1), (7, 2), (7, 3), (7, 4), (7, 5), (7, 6), (7, 7)] → G1.1 7 j = G.1 7 j := fun q => hF.i 7 _ (h2 _ q).1 (h2 _ q).2
  unfold CrsC at h ⊢
  rw [f (j := 1) (by decide), f (j := 2) (by decide), f (j := 3) (by decide), f (j := 4) (by decide), f (j := 5) (by decide), f (j := 6) (by decide), f (j := 7) (by decide), hF.rows h1 (i := 40) (by decide)]
  exact h
/-- a HEEL that is LAWFUL is not behind the last -/
theorem lw_r {V : PV} {day : Int32} {w s t : Nat} {x : Int} (h : LWF V day w s t x) (h1 : 1 ≤ (wk V w).1) : 0 ≤ x ∧ x ≤ lst V w s ∧ x < (stl V s : Int) := by
  obtain ⟨a, b, -⟩ := h
  unfold lst
  split <;> omega
def CLR (L : Nat → Prop) (len m c : Nat) : Prop := m + c ≤ len ∧ (∀ k, m ≤ k → k < m + c → ¬ L k) ∧ (m + c = len ∨ L (m + c))
theorem CLR_law {V : PV} {day : Int32} {w s t x c : Nat} (h : CLR (LNx V day s t) (stl V s) x c) (h1 : 1 ≤ (wk V w).1) : (wk V w).1 ≤ (c : Int) ↔ LWF V day w s t (x : Int) := by
  obtain ⟨a, b, d⟩ := h
  unfold LWF
  constructor
  · intro q
    exact ⟨by omega, by omega, fun k k1 k2 => b k (by omega) (by omega)⟩
  · rintro ⟨-, q1, q2⟩
    refine Classical.byContradiction (fun q => ?_)
    rcases d with e | e
    · omega
    · exact q2 (x + c) (by omega) (by omega) e
/-- how many FEET even -/
def EVN (L : Int → Prop) (x d : Int) (n : Nat) : Prop := (∀ i : Nat, i < n → L (x + i * d)) ∧ ¬ L (x + n * d)
theorem EVN_one {L : Int → Prop} {x d : Int} {n m : Nat} (h : EVN L x d n) (h' : EVN L x d m) : n = m := by
  rcases Nat.lt_trichotomy n m with q | q | q
  · exact absurd (h'.1 n q) h.2
  · exact q
  · exact absurd (h.1 m q) h'.2
/-- what the reference has laid -/
def CrsM (V : PV) (day : Int32) (w s t : Nat) (G : GS) : Prop := ((G.1 66 59).toInt = (stl V s : Int) ∧ (G.1 66 60).toInt = (wk V w).1 ∧ (G.1 66 61).toInt = (wk V w).2.1 ∧ (G.1 66 62).toInt = (wk V w).2.2.1 ∧ (G.1 66 63).toInt = (wk V w).2.2.2) ∧ ∀ x : Nat, x < 512 → ((G.1 98 x).toInt = 0 ∨ (G.1 98 x).toInt = 1) ∧ ((G.1 98 x).toInt ≠ 0 ↔ LWF V day w s t (x : Int))
theorem m_even {V : PV} {p0 p1 p2 p3 p4 r : Int32} {G G1 : GS} (h : Q_even p0 p1 p2 p3 p4 G r G1) (hR : RV V G) (hV : PVok V) (hok : ∀ s i, s < V.1.length → i < stl V s → ICok (icl V s i)) (hw1 : ∀ w, w < V.2.1.length → WKok (wk V w)) : (¬ ((inW V p0 ∧ inS V p1 ∧ inR V p2) ∧ inX V p1 p3 ∧ 1 ≤ p4.toInt ∧ p4.toInt ≤ 99) ∧ r.toInt = -1) ∨ (((inW V p0 ∧ inS V p1 ∧ inR V p2) ∧ inX V p1 p3 ∧ 1 ≤ p4.toInt ∧ p4.toInt ≤ 99) ∧ ∃ n : Nat, r.toInt = (n : Int) ∧ EVN (LWF V (G.1 110 6) p0.toInt.toNat p1.toInt.toNat p2.toInt.toNat) p3.toInt p4.toInt n) := by
  have m1 : (-1 : Int32).toInt = -1 := rfl
  have o1 : (1 : Int32).toInt = 1 := rfl
  have t99 : (99 : Int32).toInt = 99 := rfl
  obtain ⟨-, -, r1, G2, hask, hh⟩ := h
  obtain ⟨rfl, k1⟩ := q_isAsked_eq hask hR
  rcases hh with ⟨c, rfl, -⟩ | ⟨c, r8, G9, hin, hh⟩
  · exact Or.inl ⟨fun q => absurd c (k1.mpr q.1), m1⟩
  have hA := k1.mp c
  obtain ⟨rfl, k2⟩ := q_isInchV hin hR hA.2.1
  rcases hh with ⟨c2, rfl, -⟩ | ⟨c2, r17, G18, hi, hh⟩
  · exact Or.inl ⟨fun q => absurd c2 (k2.mpr q.2.1), m1⟩
  have hX := k2.mp c2
  obtain ⟨rfl, k3⟩ := q_isIn hi
  rw [o1, t99] at k3
  rcases hh with ⟨c3, rfl, -⟩ | ⟨c3, G26, hlay, x34, x35, G30, hl, -, -, hF30, hh⟩
  · exact Or.inl ⟨fun q => absurd c3 (k3.mpr q.2.2), m1⟩
  have hBy := k3.mp c3
  clear k1 k2 k3 c c2 c3
  refine Or.inr ⟨⟨hA, hX, hBy⟩, ?_⟩
  obtain ⟨hwl, hwn⟩ := hA.1.n
  obtain ⟨hsl, hsn⟩ := hA.2.1.n
  obtain ⟨ht64, htn⟩ := hA.2.2.lt hV.1
  obtain ⟨-, hlw⟩ := m_lay hlay hwn hwl hsn hsl htn ht64 hR hV (hok _ · hsl ·)
  have hl4 : (stl V p1.toInt.toNat : Int) ≤ 400 := (hR.1.2.2 _ hsl).2
  have hk := hw1 _ hwl
  obtain ⟨L, hL⟩ : ∃ L, L = LWF V (G.1 110 6) p0.toInt.toNat p1.toInt.toNat p2.toInt.toNat := ⟨_, rfl⟩
  rw [← hL] at hlw ⊢
  have hLr : ∀ x : Int, L x → x < 400 := by
    intro x q
    rw [hL] at q
    have := (lw_r q hk.1).2.2
    omega
  have hI := hl (fun q => q.2.2 = G26 ∧ ∃ n : Nat, q.2.1.toInt = (n : Int) ∧ q.1.toInt = p3.toInt + n * p4.toInt ∧ ∀ i : Nat, i < n → L (p3.toInt + i * p4.toInt)) ⟨rfl, 0, rfl, by simp, fun i hi => absurd hi (Nat.not_lt_zero i)⟩ (by
    rintro ⟨a1, a2, b0⟩ ⟨n1, n2, bn⟩ ⟨i1, n, i2, i3, i4⟩ ⟨x1, x2, g, u1, u2, gn, q1, q2, -, -, c34, y40, e40, c40, y43, e43, y44, t44, ex1, ex2, eG⟩
    simp only [Prod.mk.injEq] at q1 q2
    obtain ⟨rfl, rfl, rfl⟩ := q1
    obtain ⟨rfl, rfl, rfl⟩ := q2
    simp only at i1 i2 i3
    subst i1
    have hx0 := hX.1
    have hm := Int.mul_nonneg (show (0 : Int) ≤ (n : Int) by omega) (show 0 ≤ p4.toInt by omega)
    have hn := Int.mul_le_mul_of_nonneg_left hBy.1 (show (0 : Int) ≤ (n : Int) by omega)
    have hv := (hlw a1.toInt.toNat (by omega)).2
    have e1 : ((a1.toInt.toNat : Nat) : Int) = p3.toInt + n * p4.toInt := by omega
    rw [e1] at hv
    have ey : y40 = b0.1 98 a1.toInt.toNat := e40
    rw [← ey] at hv
    refine ⟨eG.symm, n + 1, by show n2.toInt = _; rw [← ex2]; have := tI_add e43 (by rw [o1]; clear hv; omega) (by rw [o1]; clear hv; omega); rw [o1] at this; clear hv; omega, ?_, fun i hi => ?_⟩
    · show n1.toInt = p3.toInt + ((n + 1 : Nat) : Int) * p4.toInt
      have : ((n + 1 : Nat) : Int) * p4.toInt = n * p4.toInt + p4.toInt := by rw [Int.natCast_add, Int.add_mul]; simp
      rw [← ex1]
      clear hv
      omega
    · by_cases hin : i = n
      · subst hin
        exact hv.mp c40
      · exact i4 i (by omega))
  obtain ⟨i1, n, i2, i3, i4⟩ := hI
  simp only at i1 i2 i3
  subst i1
  have hx0 := hX.1
  have hm := Int.mul_nonneg (show (0 : Int) ≤ (n : Int) by omega) (show 0 ≤ p4.toInt by omega)
  rcases hh with ⟨f, rfl, -⟩ | ⟨f, y40, e40, c40, rfl, -⟩
  · refine ⟨n, i2, i4, fun q => ?_⟩
    have := hLr _ q
    omega
  · refine ⟨n, i2, i4, fun q => ?_⟩
    have hv := (hlw x34.toInt.toNat (by omega)).2
    have e1 : ((x34.toInt.toNat : Nat) : Int) = p3.toInt + n * p4.toInt := by omega
    rw [e1] at hv
    have ey : y40 = G30.1 98 x34.toInt.toNat := e40
    rw [← ey] at hv
    exact (hv.mpr q) c40
/-- the program's course -/
theorem k_prep_1 {V : PV} {p0 p1 p2 : Int32} {G G1 : GS} (h : P_wPrep_1 p0 p1 p2 G G1) (hW : CW_1 V G) (hR3 : V.1.length ≤ 3) (hV : PVok V) (hCa : CaC_1 V G) (hd0 : 0 ≤ (G.1 58 6).toInt) (hA : inW V p0 ∧ inS V p1 ∧ inR V p2) (hwk : 1 ≤ (wk V p0.toInt.toNat).1) : CrsC V (G.1 58 6) p0.toInt.toNat p1.toInt.toNat p2.toInt.toNat G1 := by
  obtain ⟨-, -, -, r1, G2, htd, G7, hfi, G14, hlk, G19, hcf, rfl⟩ := h
  obtain ⟨rfl, e1⟩ := k_today_eq htd
  obtain ⟨hwl, hwn⟩ := hA.1.n
  obtain ⟨hsl, hsn⟩ := hA.2.1.n
  obtain ⟨ht64, htn⟩ := hA.2.2.lt hV.1
  obtain ⟨w, ew⟩ : ∃ w, w = p0.toInt.toNat := ⟨_, rfl⟩
  obtain ⟨s, es⟩ : ∃ s, s = p1.toInt.toNat := ⟨_, rfl⟩
  obtain ⟨t, et⟩ : ∃ t, t = p2.toInt.toNat := ⟨_, rfl⟩
  rw [← ew] at hwl hwn hwk ⊢
  rw [← es] at hsl hsn ⊢
  rw [← et] at ht64 htn ⊢
  obtain ⟨hFo, -⟩ := k_find_1 hfi hsn hsl hR3 hW hV (by rw [e1]; exact hd0) hCa
  rw [e1] at hFo
  have hW7 : CW_1 V G7 := hW.fr hfi.2.1 (by decide) (by decide)
  have hW14 : CW_1 V G14 := hW7.fr hlk.2.1 (by decide) (by decide)
  have hFo14 : FoC_1 V s (G.1 58 6) G14 := by
    unfold FoC_1 at hFo ⊢
    rw [hlk.2.1.row1 37 (by decide) (by decide)]
    exact hFo
  obtain ⟨k1, k2, k3, k4⟩ := hW7.2.1.2 w hwl
  have hlen := (hW7.1.2 s hsl).1.1
  have hl4 : (stl V s : Int) ≤ 400 := (hW7.1.2 s hsl).2
  obtain ⟨-, -, -, y1, f1, y3, f3, y7, f7_, y9, f9, y12, f12, y14, t14, y15, t15, y17, t17, y18, t18, y19, t19, y20, t20, -, g1, g2, g3, g4, g5, g6, g7⟩ := hlk
  rw [cn_eq hsn] at f1
  rw [cn_eq hwn] at f3 f7_ f9 f12
  have u1 : y1.toInt = (stl V s : Int) := by rw [f1]; exact hlen
  have u3 : y3.toInt = (wk V w).1 := by rw [f3]; exact k1
  have u9 : y9.toInt = (wk V w).2.2.1 := by rw [f9]; exact k3
  obtain ⟨-, hFc, y2, t2, x7, x8, G3, hl, -, -, -, c7, rfl⟩ := hcf
  have z0 : (vp_nar .boolean 0).toInt = 0 := by decide
  have z1 : (vp_nar .boolean 1).toInt = 1 := by decide
  have o1 : (1 : Int32).toInt = 1 := rfl
  have h71 : (G14.1 7 1).toInt = (stl V s : Int) := by rw [g1]; exact u1
  have h72 : (G14.1 7 2).toInt = (wk V w).1 := by rw [g2]; exact u3
  have hI := hl (fun q => Fr [40] [] G14 q.2.2 ∧ ∃ m c : Nat, q.1.toInt = (m : Int) - 1 ∧ q.2.1.toInt = (c : Int) ∧ CLR (LNx V (G.1 58 6) s t) (stl V s) m c ∧ ∀ x : Nat, m ≤ x → x < stl V s → ((q.2.2.1 40 x).toInt = 0 ∨ (q.2.2.1 40 x).toInt = 1) ∧ ((q.2.2.1 40 x).toInt ≠ 0 ↔ LWF V (G.1 58 6) w s t (x : Int))) ⟨Fr.rf, stl V s, 0, by show y2.toInt = _; omega, rfl, ⟨Nat.le_refl _, fun k h1 h2 => absurd h2 (by omega), Or.inl rfl⟩, fun x h1 h2 => absurd h2 (by omega)⟩ (by
    rintro ⟨a1, a2, b0⟩ ⟨n1, n2, bn⟩ ⟨i0, m, c, i1, i2, i3, i4⟩ ⟨x1, x2, g, v1, v2, gn, q1, q2, -, -, c0, r14, G15, hil, hd⟩
    simp only [Prod.mk.injEq] at q1 q2
    obtain ⟨rfl, rfl, rfl⟩ := q1
    obtain ⟨rfl, rfl, rfl⟩ := q2
    simp only at i0 i1 i2 i4
    obtain ⟨m', rfl⟩ : ∃ m', m = m' + 1 := ⟨m - 1, by omega⟩
    have hm' : a1.toInt = (m' : Int) := by omega
    obtain ⟨j1, j2, j3⟩ := i3
    have hFo' : FoC_1 V s (G.1 58 6) b0 := by
      unfold FoC_1 at hFo14 ⊢
      rw [i0.row1 37 (by decide) (by decide)]
      exact hFo14
    obtain ⟨rfl, kl⟩ := k_isLine_1 hil hsn hsl hm' htn ht64 (hW14.fr i0 (by decide) (by decide)) hV hFo'
    have hml : m' < stl V s := by omega
    have kl' : r14.toInt ≠ 0 ↔ LNx V (G.1 58 6) s t m' := kl.trans ⟨fun q => q.2, fun q => ⟨hml, q⟩⟩
    clear kl
    have fin : ∀ {Gz : GS} {y z : Int32} {c' : Nat} {v : Int32}, y.toInt = a1.toInt + -1 → z.toInt = (c' : Int) → CLR (LNx V (G.1 58 6) s t) (stl V s) m' c' → Fr [40] [] b0 Gz → Gz.1 40 = upd (b0.1 40) a1.toNatClampNeg v → (((wk V w).1 ≤ (c' : Int) ∧ v = vp_nar .boolean 1) ∨ (¬ (wk V w).1 ≤ (c' : Int) ∧ v = vp_nar .boolean 0)) → Fr [40] [] G14 Gz ∧ ∃ m c : Nat, y.toInt = (m : Int) - 1 ∧ z.toInt = (c : Int) ∧ CLR (LNx V (G.1 58 6) s t) (stl V s) m c ∧ ∀ x : Nat, m ≤ x → x < stl V s → ((Gz.1 40 x).toInt = 0 ∨ (Gz.1 40 x).toInt = 1) ∧ ((Gz.1 40 x).toInt ≠ 0 ↔ LWF V (G.1 58 6) w s t (x : Int)) := by
      intro Gz y z c' v ty tz hc hF w40 hv
      refine ⟨i0.call hF (by decide) (by decide), m', c', by clear kl'; omega, tz, hc, fun x h1 h2 => ?_⟩
      rw [cn_eq hm'] at w40
      rw [w40]
      by_cases hxm : x = m'
      · subst hxm
        rw [ud_at]
        have hq := CLR_law (w := w) hc hwk
        rcases hv with ⟨e1, e2⟩ | ⟨e1, e2⟩
        · rw [e2, z1]
          exact ⟨Or.inr rfl, fun _ => hq.mp e1, fun _ => by decide⟩
        · rw [e2, z0]
          exact ⟨Or.inl rfl, fun q => absurd rfl q, fun q => absurd (hq.mpr q) e1⟩
      · rw [ud_no hxm]
        exact i4 x (by omega) h2
    rcases hd with ⟨f, y21, e21, hd⟩ | ⟨f, hd⟩
    · have hno : ¬ LNx V (G.1 58 6) s t m' := fun q => (kl'.mpr q) f
      have t21 : y21.toInt = ((c + 1 : Nat) : Int) := by
        have := tI_add e21 (by rw [o1]; clear kl'; omega) (by rw [o1]; clear kl'; omega)
        rw [o1] at this
        clear kl'
        omega
      have hc : CLR (LNx V (G.1 58 6) s t) (stl V s) m' (c + 1) := by
        refine ⟨by omega, fun k k1 k2 => ?_, ?_⟩
        · by_cases hk : k = m'
          · subst hk
            exact hno
          · exact j2 k (by omega) (by omega)
        · rw [show m' + (c + 1) = m' + 1 + c by omega]
          exact j3
      rcases hd with ⟨g, y25, t25, ex, e8, hF, w40⟩ | ⟨g, y27, t27, ex, e8, hF, w40⟩
      · exact fin (by show n1.toInt = _; rw [← ex]; exact t25) (by show n2.toInt = _; rw [← e8]; exact t21) hc hF w40 (Or.inr ⟨by clear kl'; omega, rfl⟩)
      · exact fin (by show n1.toInt = _; rw [← ex]; exact t27) (by show n2.toInt = _; rw [← e8]; exact t21) hc hF w40 (Or.inl ⟨by clear kl'; omega, rfl⟩)
    · have hy : LNx V (G.1 58 6) s t m' := kl'.mp f
      have hc : CLR (LNx V (G.1 58 6) s t) (stl V s) m' 0 := ⟨by omega, fun k k1 k2 => absurd k2 (by omega), Or.inr hy⟩
      rcases hd with ⟨g, y31, t31, ex, e8, hF, w40⟩ | ⟨g, y34, t34, ex, e8, hF, w40⟩
      · exact fin (by show n1.toInt = _; rw [← ex]; exact t31) (by show n2.toInt = _; rw [← e8]; rfl) hc hF w40 (Or.inr ⟨by clear kl'; omega, rfl⟩)
      · clear kl'
        omega)
  obtain ⟨i0, m, c, i1, i2, i3, i4⟩ := hI
  simp only at i0 i1 i4
  have f7 : ∀ j, G3.1 7 j = G14.1 7 j := fun j => hFc.i 7 j (by decide) (by simp)
  refine ⟨⟨?_, ?_, ?_, ?_, ?_, ?_, ?_⟩, fun x hx => i4 x (by omega) hx⟩
  · rw [f7]
    exact h71
  · rw [f7]
    exact h72
  · rw [f7, g3, f7_]
    exact k2
  · rw [f7, g4, f9]
    exact k3
  · rw [f7, g5, f12]
    exact k4
  · rw [f7, g6]
    unfold lst
    split <;> omega
  · rw [f7, g7]
    unfold ndx
    split <;> omega
theorem even_1 {V : PV} {p0 p1 p2 p3 p4 q0 q1 q2 q3 q4 r r' : Int32} {G Ga Gb : GS} (hx : P_Weven_1 p0 p1 p2 p3 p4 G r Ga) (hm : Q_even q0 q1 q2 q3 q4 Ga r' Gb) (i0 : p0.toInt = q0.toInt) (i1 : p1.toInt = q1.toInt) (i2 : p2.toInt = q2.toInt) (i3 : p3.toInt = q3.toInt) (i4 : p4.toInt = q4.toInt) (hI : IV_1 V G) (hg : gW G = 1) : r.toInt = r'.toInt := by
  obtain rfl := Int32.toInt_inj.mp i0
  obtain rfl := Int32.toInt_inj.mp i1
  obtain rfl := Int32.toInt_inj.mp i2
  obtain rfl := Int32.toInt_inj.mp i3
  obtain rfl := Int32.toInt_inj.mp i4
  have hFx := hx.2.1
  have m1 : (-1 : Int32).toInt = -1 := rfl
  obtain ⟨hW, hR, hV, hCa, hE, hSV⟩ := hI
  have hd := hE.day
  have hw1 : ∀ w, w < V.2.1.length → WKok (wk V w) := fun w hw => hR.wk hg hw
  have hM := m_even hm (hR.fr hFx (by decide) (by decide)) hV (fun s i hs hi => hW.ok hs i hi) hw1
  rw [show Ga.1 110 6 = G.1 58 6 by rw [hFx.row1 110 (by decide) (by decide), hd.2]] at hM
  obtain ⟨-, -, r1, G2, hask, hh⟩ := hx
  obtain ⟨rfl, k1⟩ := k_wAsk_1_eq hask hW hV.1
  have no : ¬ ((inW V p0 ∧ inS V p1 ∧ inR V p2) ∧ inX V p1 p3 ∧ 1 ≤ p4.toInt ∧ p4.toInt ≤ 99) → r = -1 → r.toInt = r'.toInt := by
    intro hn hr
    rcases hM with ⟨-, v⟩ | ⟨y, -⟩
    · rw [hr, v]
      rfl
    · exact absurd y hn
  rcases hh with ⟨c, e, -⟩ | ⟨c, r8, G9, hin, hh⟩
  · exact no (fun q => absurd c (k1.mpr q.1)) e.symm
  have hA := k1.mp c
  obtain ⟨rfl, k2⟩ := k_hasInchV_1 hin hW
  rcases hh with ⟨c2, e, -⟩ | ⟨c2, ⟨d, e, -⟩ | ⟨d, ⟨f, G20, hp, x28, x29, G24, hl, -, -, -, -, hF24, hh⟩ | ⟨f, e, -⟩⟩⟩
  · exact no (fun q => absurd c2 (k2.mpr ⟨q.1.2.1, q.2.1⟩)) e.symm
  · exact no (fun q => by have := q.2.2.1; omega) e.symm
  rotate_left
  · exact no (fun q => by have := q.2.2.2; omega) e.symm
  have hX := (k2.mp c2).2
  clear k1 k2 c c2 no
  have hk := hw1 _ hA.1.n.1
  have hcr := k_prep_1 hp hW hR.1.2.1 hV hCa hd.1.1 hA hk.1
  rcases hM with ⟨n, -⟩ | ⟨-, n', v', hE'⟩
  · exact absurd ⟨hA, hX, d, f⟩ n
  obtain ⟨L, hL⟩ : ∃ L, L = LWF V (G.1 58 6) p0.toInt.toNat p1.toInt.toNat p2.toInt.toNat := ⟨_, rfl⟩
  have hlw := hcr.2
  have h76 := hcr.1.2.2.2.2.2.1
  rw [← hL] at hlw hE'
  have hLr : ∀ x : Int, L x → x ≤ (G20.1 7 6).toInt ∧ x < (stl V p1.toInt.toNat : Int) := by
    intro x q
    rw [hL] at q
    have := lw_r q hk.1
    rw [h76]
    exact ⟨this.2.1, this.2.2⟩
  have hlst : (G20.1 7 6).toInt < (stl V p1.toInt.toNat : Int) ∨ (G20.1 7 6).toInt = -1 := by
    rw [h76]
    unfold lst
    have := hk.1
    split <;> omega
  have hI := hl (fun q => q.2.2 = G20 ∧ ∃ n : Nat, q.2.1.toInt = (n : Int) ∧ q.1.toInt = p3.toInt + n * p4.toInt ∧ ∀ i : Nat, i < n → L (p3.toInt + i * p4.toInt)) ⟨rfl, 0, rfl, by simp, fun i hi => absurd hi (Nat.not_lt_zero i)⟩ (by
    rintro ⟨a1, a2, b0⟩ ⟨n1, n2, bn⟩ ⟨i1, n, i2, i3, i4⟩ ⟨x1, x2, g, u1, u2, gn, q1, q2, -, -, -, -, c34, y38, e38, c38, y40, t40, y41, t41, ex1, ex2, eG⟩
    simp only [Prod.mk.injEq] at q1 q2
    obtain ⟨rfl, rfl, rfl⟩ := q1
    obtain ⟨rfl, rfl, rfl⟩ := q2
    simp only at i1 i2 i3
    subst i1
    have hx0 := hX.1
    have hm := Int.mul_nonneg (show (0 : Int) ≤ (n : Int) by omega) (show 0 ≤ p4.toInt by omega)
    have e1 : ((a1.toInt.toNat : Nat) : Int) = p3.toInt + n * p4.toInt := by omega
    have hv := (hlw a1.toInt.toNat (by omega)).2
    rw [e1] at hv
    have ey : y38 = b0.1 40 a1.toInt.toNat := e38
    rw [← ey] at hv
    refine ⟨eG.symm, n + 1, by show n2.toInt = _; rw [← ex2]; clear hv; omega, ?_, fun i hi => ?_⟩
    · show n1.toInt = p3.toInt + ((n + 1 : Nat) : Int) * p4.toInt
      have : ((n + 1 : Nat) : Int) * p4.toInt = n * p4.toInt + p4.toInt := by rw [Int.natCast_add, Int.add_mul]; simp
      rw [← ex1]
      clear hv
      omega
    · by_cases hin : i = n
      · subst hin
        exact hv.mp c38
      · exact i4 i (by omega))
  obtain ⟨i1, n, i2, i3, i4⟩ := hI
  simp only at i1 i2 i3
  subst i1
  have hx0 := hX.1
  have hm := Int.mul_nonneg (show (0 : Int) ≤ (n : Int) by omega) (show 0 ≤ p4.toInt by omega)
  have hE2 : EVN L p3.toInt p4.toInt n ∧ x29 = r := by
    rcases hh with ⟨f, e, -⟩ | ⟨f, y38, e38, c38, e, -⟩
    · refine ⟨⟨i4, fun q => ?_⟩, e⟩
      have := (hLr _ q).1
      omega
    · refine ⟨⟨i4, fun q => ?_⟩, e⟩
      have e1 : ((x28.toInt.toNat : Nat) : Int) = p3.toInt + n * p4.toInt := by omega
      have hv := (hlw x28.toInt.toNat (by omega)).2
      rw [e1] at hv
      have ey : y38 = G24.1 40 x28.toInt.toNat := e38
      rw [← ey] at hv
      exact (hv.mpr q) c38
  have := EVN_one hE2.1 hE'
  rw [← hE2.2, i2, v', this]
/-- the program's course -/
theorem k_prep_2 {V : PV} {p0 p1 p2 : Int32} {G G1 : GS} (h : P_wPrep_2 p0 p1 p2 G G1) (hW : CW_2 V G) (hR3 : V.1.length ≤ 3) (hV : PVok V) (hCa : CaC_2 V G) (hd0 : 0 ≤ (G.1 58 6).toInt) (hA : inW V p0 ∧ inS V p1 ∧ inR V p2) (hwk : 1 ≤ (wk V p0.toInt.toNat).1) : CrsC V (G.1 58 6) p0.toInt.toNat p1.toInt.toNat p2.toInt.toNat G1 := by
  obtain ⟨-, -, -, r1, G2, htd, G7, hfi, G14, hlk, G19, hcf, rfl⟩ := h
  obtain ⟨rfl, e1⟩ := k_today_eq htd
  obtain ⟨hwl, hwn⟩ := hA.1.n
  obtain ⟨hsl, hsn⟩ := hA.2.1.n
  obtain ⟨ht64, htn⟩ := hA.2.2.lt hV.1
  obtain ⟨w, ew⟩ : ∃ w, w = p0.toInt.toNat := ⟨_, rfl⟩
  obtain ⟨s, es⟩ : ∃ s, s = p1.toInt.toNat := ⟨_, rfl⟩
  obtain ⟨t, et⟩ : ∃ t, t = p2.toInt.toNat := ⟨_, rfl⟩
  rw [← ew] at hwl hwn hwk ⊢
  rw [← es] at hsl hsn ⊢
  rw [← et] at ht64 htn ⊢
  obtain ⟨hFo, -⟩ := k_find_2 hfi hsn hsl hR3 hW hV (by rw [e1]; exact hd0) hCa
  rw [e1] at hFo
  have hW7 : CW_2 V G7 := hW.fr hfi.2.1 (by decide) (by decide)
  have hW14 : CW_2 V G14 := hW7.fr hlk.2.1 (by decide) (by decide)
  have hFo14 : FoC_2 V s (G.1 58 6) G14 := by
    unfold FoC_2 at hFo ⊢
    rw [hlk.2.1.row1 37 (by decide) (by decide)]
    exact hFo
  obtain ⟨k1, k2, k3, k4⟩ := hW7.2.1.2 w hwl
  have hlen := (hW7.1.2 s hsl).1.1
  have hl4 : (stl V s : Int) ≤ 400 := (hW7.1.2 s hsl).2
  obtain ⟨-, -, -, y1, f1, y3, f3, y7, f7_, y9, f9, y12, f12, y14, t14, y15, t15, y17, t17, y18, t18, y19, t19, y20, t20, -, g1, g2, g3, g4, g5, g6, g7⟩ := hlk
  rw [cn_eq hsn] at f1
  rw [cn_eq hwn] at f3 f7_ f9 f12
  have u1 : y1.toInt = (stl V s : Int) := by rw [f1]; exact hlen
  have u3 : y3.toInt = (wk V w).1 := by rw [f3]; exact k1
  have u9 : y9.toInt = (wk V w).2.2.1 := by rw [f9]; exact k3
  obtain ⟨-, hFc, y2, t2, x7, x8, G3, hl, -, -, -, c7, rfl⟩ := hcf
  have z0 : (vp_nar .boolean 0).toInt = 0 := by decide
  have z1 : (vp_nar .boolean 1).toInt = 1 := by decide
  have o1 : (1 : Int32).toInt = 1 := rfl
  have h71 : (G14.1 7 1).toInt = (stl V s : Int) := by rw [g1]; exact u1
  have h72 : (G14.1 7 2).toInt = (wk V w).1 := by rw [g2]; exact u3
  have hI := hl (fun q => Fr [40] [] G14 q.2.2 ∧ ∃ m c : Nat, q.1.toInt = (m : Int) - 1 ∧ q.2.1.toInt = (c : Int) ∧ CLR (LNx V (G.1 58 6) s t) (stl V s) m c ∧ ∀ x : Nat, m ≤ x → x < stl V s → ((q.2.2.1 40 x).toInt = 0 ∨ (q.2.2.1 40 x).toInt = 1) ∧ ((q.2.2.1 40 x).toInt ≠ 0 ↔ LWF V (G.1 58 6) w s t (x : Int))) ⟨Fr.rf, stl V s, 0, by show y2.toInt = _; omega, rfl, ⟨Nat.le_refl _, fun k h1 h2 => absurd h2 (by omega), Or.inl rfl⟩, fun x h1 h2 => absurd h2 (by omega)⟩ (by
    rintro ⟨a1, a2, b0⟩ ⟨n1, n2, bn⟩ ⟨i0, m, c, i1, i2, i3, i4⟩ ⟨x1, x2, g, v1, v2, gn, q1, q2, -, -, c0, r14, G15, hil, hd⟩
    simp only [Prod.mk.injEq] at q1 q2
    obtain ⟨rfl, rfl, rfl⟩ := q1
    obtain ⟨rfl, rfl, rfl⟩ := q2
    simp only at i0 i1 i2 i4
    obtain ⟨m', rfl⟩ : ∃ m', m = m' + 1 := ⟨m - 1, by omega⟩
    have hm' : a1.toInt = (m' : Int) := by omega
    obtain ⟨j1, j2, j3⟩ := i3
    have hFo' : FoC_2 V s (G.1 58 6) b0 := by
      unfold FoC_2 at hFo14 ⊢
      rw [i0.row1 37 (by decide) (by decide)]
      exact hFo14
    obtain ⟨rfl, kl⟩ := k_isLine_2 hil hsn hsl hm' htn ht64 (hW14.fr i0 (by decide) (by decide)) hV hFo'
    have hml : m' < stl V s := by omega
    have kl' : r14.toInt ≠ 0 ↔ LNx V (G.1 58 6) s t m' := kl.trans ⟨fun q => q.2, fun q => ⟨hml, q⟩⟩
    clear kl
    have fin : ∀ {Gz : GS} {y z : Int32} {c' : Nat} {v : Int32}, y.toInt = a1.toInt + -1 → z.toInt = (c' : Int) → CLR (LNx V (G.1 58 6) s t) (stl V s) m' c' → Fr [40] [] b0 Gz → Gz.1 40 = upd (b0.1 40) a1.toNatClampNeg v → (((wk V w).1 ≤ (c' : Int) ∧ v = vp_nar .boolean 1) ∨ (¬ (wk V w).1 ≤ (c' : Int) ∧ v = vp_nar .boolean 0)) → Fr [40] [] G14 Gz ∧ ∃ m c : Nat, y.toInt = (m : Int) - 1 ∧ z.toInt = (c : Int) ∧ CLR (LNx V (G.1 58 6) s t) (stl V s) m c ∧ ∀ x : Nat, m ≤ x → x < stl V s → ((Gz.1 40 x).toInt = 0 ∨ (Gz.1 40 x).toInt = 1) ∧ ((Gz.1 40 x).toInt ≠ 0 ↔ LWF V (G.1 58 6) w s t (x : Int)) := by
      intro Gz y z c' v ty tz hc hF w40 hv
      refine ⟨i0.call hF (by decide) (by decide), m', c', by clear kl'; omega, tz, hc, fun x h1 h2 => ?_⟩
      rw [cn_eq hm'] at w40
      rw [w40]
      by_cases hxm : x = m'
      · subst hxm
        rw [ud_at]
        have hq := CLR_law (w := w) hc hwk
        rcases hv with ⟨e1, e2⟩ | ⟨e1, e2⟩
        · rw [e2, z1]
          exact ⟨Or.inr rfl, fun _ => hq.mp e1, fun _ => by decide⟩
        · rw [e2, z0]
          exact ⟨Or.inl rfl, fun q => absurd rfl q, fun q => absurd (hq.mpr q) e1⟩
      · rw [ud_no hxm]
        exact i4 x (by omega) h2
    rcases hd with ⟨f, y21, e21, hd⟩ | ⟨f, hd⟩
    · have hno : ¬ LNx V (G.1 58 6) s t m' := fun q => (kl'.mpr q) f
      have t21 : y21.toInt = ((c + 1 : Nat) : Int) := by
        have := tI_add e21 (by rw [o1]; clear kl'; omega) (by rw [o1]; clear kl'; omega)
        rw [o1] at this
        clear kl'
        omega
      have hc : CLR (LNx V (G.1 58 6) s t) (stl V s) m' (c + 1) := by
        refine ⟨by omega, fun k k1 k2 => ?_, ?_⟩
        · by_cases hk : k = m'
          · subst hk
            exact hno
          · exact j2 k (by omega) (by omega)
        · rw [show m' + (c + 1) = m' + 1 + c by omega]
          exact j3
      rcases hd with ⟨g, y25, t25, ex, e8, hF, w40⟩ | ⟨g, y27, t27, ex, e8, hF, w40⟩
      · exact fin (by show n1.toInt = _; rw [← ex]; exact t25) (by show n2.toInt = _; rw [← e8]; exact t21) hc hF w40 (Or.inr ⟨by clear kl'; omega, rfl⟩)
      · exact fin (by show n1.toInt = _; rw [← ex]; exact t27) (by show n2.toInt = _; rw [← e8]; exact t21) hc hF w40 (Or.inl ⟨by clear kl'; omega, rfl⟩)
    · have hy : LNx V (G.1 58 6) s t m' := kl'.mp f
      have hc : CLR (LNx V (G.1 58 6) s t) (stl V s) m' 0 := ⟨by omega, fun k k1 k2 => absurd k2 (by omega), Or.inr hy⟩
      rcases hd with ⟨g, y31, t31, ex, e8, hF, w40⟩ | ⟨g, y34, t34, ex, e8, hF, w40⟩
      · exact fin (by show n1.toInt = _; rw [← ex]; exact t31) (by show n2.toInt = _; rw [← e8]; rfl) hc hF w40 (Or.inr ⟨by clear kl'; omega, rfl⟩)
      · clear kl'
        omega)
  obtain ⟨i0, m, c, i1, i2, i3, i4⟩ := hI
  simp only at i0 i1 i4
  have f7 : ∀ j, G3.1 7 j = G14.1 7 j := fun j => hFc.i 7 j (by decide) (by simp)
  refine ⟨⟨?_, ?_, ?_, ?_, ?_, ?_, ?_⟩, fun x hx => i4 x (by omega) hx⟩
  · rw [f7]
    exact h71
  · rw [f7]
    exact h72
  · rw [f7, g3, f7_]
    exact k2
  · rw [f7, g4, f9]
    exact k3
  · rw [f7, g5, f12]
    exact k4
  · rw [f7, g6]
    unfold lst
    split <;> omega
  · rw [f7, g7]
    unfold ndx
    split <;> omega
theorem even_2 {V : PV} {p0 p1 p2 p3 p4 q0 q1 q2 q3 q4 r r' : Int32} {G Ga Gb : GS} (hx : P_Weven_2 p0 p1 p2 p3 p4 G r Ga) (hm : Q_even q0 q1 q2 q3 q4 Ga r' Gb) (i0 : p0.toInt = q0.toInt) (i1 : p1.toInt = q1.toInt) (i2 : p2.toInt = q2.toInt) (i3 : p3.toInt = q3.toInt) (i4 : p4.toInt = q4.toInt) (hI : IV_2 V G) (hg : gW G = 1) : r.toInt = r'.toInt := by
  obtain rfl := Int32.toInt_inj.mp i0
  obtain rfl := Int32.toInt_inj.mp i1
  obtain rfl := Int32.toInt_inj.mp i2
  obtain rfl := Int32.toInt_inj.mp i3
  obtain rfl := Int32.toInt_inj.mp i4
  have hFx := hx.2.1
  have m1 : (-1 : Int32).toInt = -1 := rfl
  obtain ⟨hW, hR, hV, hCa, hE, hSV⟩ := hI
  have hd := hE.day
  have hw1 : ∀ w, w < V.2.1.length → WKok (wk V w) := fun w hw => hR.wk hg hw
  have hM := m_even hm (hR.fr hFx (by decide) (by decide)) hV (fun s i hs hi => hW.ok hs i hi) hw1
  rw [show Ga.1 110 6 = G.1 58 6 by rw [hFx.row1 110 (by decide) (by decide), hd.2]] at hM
  obtain ⟨-, -, r1, G2, hask, hh⟩ := hx
  obtain ⟨rfl, k1⟩ := k_wAsk_2_eq hask hW hV.1
  have no : ¬ ((inW V p0 ∧ inS V p1 ∧ inR V p2) ∧ inX V p1 p3 ∧ 1 ≤ p4.toInt ∧ p4.toInt ≤ 99) → r = -1 → r.toInt = r'.toInt := by
    intro hn hr
    rcases hM with ⟨-, v⟩ | ⟨y, -⟩
    · rw [hr, v]
      rfl
    · exact absurd y hn
  rcases hh with ⟨c, e, -⟩ | ⟨c, r8, G9, hin, hh⟩
  · exact no (fun q => absurd c (k1.mpr q.1)) e.symm
  have hA := k1.mp c
  obtain ⟨rfl, k2⟩ := k_hasInchV_2 hin hW
  rcases hh with ⟨c2, e, -⟩ | ⟨c2, ⟨d, e, -⟩ | ⟨d, ⟨f, G20, hp, x28, x29, G24, hl, -, -, -, -, hF24, hh⟩ | ⟨f, e, -⟩⟩⟩
  · exact no (fun q => absurd c2 (k2.mpr ⟨q.1.2.1, q.2.1⟩)) e.symm
  · exact no (fun q => by have := q.2.2.1; omega) e.symm
  rotate_left
  · exact no (fun q => by have := q.2.2.2; omega) e.symm
  have hX := (k2.mp c2).2
  clear k1 k2 c c2 no
  have hk := hw1 _ hA.1.n.1
  have hcr := k_prep_2 hp hW hR.1.2.1 hV hCa hd.1.1 hA hk.1
  rcases hM with ⟨n, -⟩ | ⟨-, n', v', hE'⟩
  · exact absurd ⟨hA, hX, d, f⟩ n
  obtain ⟨L, hL⟩ : ∃ L, L = LWF V (G.1 58 6) p0.toInt.toNat p1.toInt.toNat p2.toInt.toNat := ⟨_, rfl⟩
  have hlw := hcr.2
  have h76 := hcr.1.2.2.2.2.2.1
  rw [← hL] at hlw hE'
  have hLr : ∀ x : Int, L x → x ≤ (G20.1 7 6).toInt ∧ x < (stl V p1.toInt.toNat : Int) := by
    intro x q
    rw [hL] at q
    have := lw_r q hk.1
    rw [h76]
    exact ⟨this.2.1, this.2.2⟩
  have hlst : (G20.1 7 6).toInt < (stl V p1.toInt.toNat : Int) ∨ (G20.1 7 6).toInt = -1 := by
    rw [h76]
    unfold lst
    have := hk.1
    split <;> omega
  have hI := hl (fun q => q.2.2 = G20 ∧ ∃ n : Nat, q.2.1.toInt = (n : Int) ∧ q.1.toInt = p3.toInt + n * p4.toInt ∧ ∀ i : Nat, i < n → L (p3.toInt + i * p4.toInt)) ⟨rfl, 0, rfl, by simp, fun i hi => absurd hi (Nat.not_lt_zero i)⟩ (by
    rintro ⟨a1, a2, b0⟩ ⟨n1, n2, bn⟩ ⟨i1, n, i2, i3, i4⟩ ⟨x1, x2, g, u1, u2, gn, q1, q2, -, -, -, -, c34, y38, e38, c38, y40, t40, y41, t41, ex1, ex2, eG⟩
    simp only [Prod.mk.injEq] at q1 q2
    obtain ⟨rfl, rfl, rfl⟩ := q1
    obtain ⟨rfl, rfl, rfl⟩ := q2
    simp only at i1 i2 i3
    subst i1
    have hx0 := hX.1
    have hm := Int.mul_nonneg (show (0 : Int) ≤ (n : Int) by omega) (show 0 ≤ p4.toInt by omega)
    have e1 : ((a1.toInt.toNat : Nat) : Int) = p3.toInt + n * p4.toInt := by omega
    have hv := (hlw a1.toInt.toNat (by omega)).2
    rw [e1] at hv
    have ey : y38 = b0.1 40 a1.toInt.toNat := e38
    rw [← ey] at hv
    refine ⟨eG.symm, n + 1, by show n2.toInt = _; rw [← ex2]; clear hv; omega, ?_, fun i hi => ?_⟩
    · show n1.toInt = p3.toInt + ((n + 1 : Nat) : Int) * p4.toInt
      have : ((n + 1 : Nat) : Int) * p4.toInt = n * p4.toInt + p4.toInt := by rw [Int.natCast_add, Int.add_mul]; simp
      rw [← ex1]
      clear hv
      omega
    · by_cases hin : i = n
      · subst hin
        exact hv.mp c38
      · exact i4 i (by omega))
  obtain ⟨i1, n, i2, i3, i4⟩ := hI
  simp only at i1 i2 i3
  subst i1
  have hx0 := hX.1
  have hm := Int.mul_nonneg (show (0 : Int) ≤ (n : Int) by omega) (show 0 ≤ p4.toInt by omega)
  have hE2 : EVN L p3.toInt p4.toInt n ∧ x29 = r := by
    rcases hh with ⟨f, e, -⟩ | ⟨f, y38, e38, c38, e, -⟩
    · refine ⟨⟨i4, fun q => ?_⟩, e⟩
      have := (hLr _ q).1
      omega
    · refine ⟨⟨i4, fun q => ?_⟩, e⟩
      have e1 : ((x28.toInt.toNat : Nat) : Int) = p3.toInt + n * p4.toInt := by omega
      have hv := (hlw x28.toInt.toNat (by omega)).2
      rw [e1] at hv
      have ey : y38 = G24.1 40 x28.toInt.toNat := e38
      rw [← ey] at hv
      exact (hv.mpr q) c38
  have := EVN_one hE2.1 hE'
  rw [← hE2.2, i2, v', this]
