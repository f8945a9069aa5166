/-! LAWFUL on both sides -/
def stl (V : PV) (s : Nat) : Nat := (V.1.getD s ([], [])).2.length
def wk (V : PV) (w : Nat) : WK := (V.2.1.getD w ([], 0, 0, 0, 0)).2
def icl (V : PV) (s i : Nat) : IC := (V.1.getD s ([], [])).2.getD i (0, 0, 0, 0)
def LNx (V : PV) (day : Int32) (s t i : Nat) : Prop := LNs V day (icl V s i) t
def LWF (V : PV) (day : Int32) (w s t : Nat) (x : Int) : Prop := 0 ≤ x ∧ x + (wk V w).1 ≤ (stl V s : Int) ∧ ∀ k : Nat, x ≤ (k : Int) → (k : Int) < x + (wk V w).1 → ¬ LNx V day s t k
def WKok (x : WK) : Prop := 1 ≤ x.1 ∧ x.1 ≤ 12 ∧ 1 ≤ x.2.1 ∧ x.2.1 ≤ x.2.2.1 ∧ x.2.2.1 ≤ 60 ∧ x.2.2.1 ≤ x.2.2.2 ∧ x.2.2.2 ≤ 99
theorem RV.wk {V : PV} {G : GS} {w : Nat} (h : RV V G) (hg : gW G = 1) (hw : w < V.2.1.length) : WKok (wk V w) := by
  obtain ⟨-, ⟨h1, h2, h3⟩, -⟩ := h
  obtain ⟨k1, k2, k3, k4⟩ := h3 w hw
  have e : (Int32.ofNat w).toInt = (w : Int) := on_i (by omega)
  have := gW_at hg (Int32.ofNat w) (by omega) (by omega)
  rw [cn_eq e, k1, k2, k3, k4] at this
  exact this
theorem nar_b {r : Int32} (h0 : 0 ≤ r.toInt) (h1 : r.toInt ≤ 1) : (vp_nar .boolean r).toInt = r.toInt := by
  have h : r.toInt = 0 ∨ r.toInt = 1 := by omega
  rcases h with q | q
  · have e : r = 0 := Int32.toInt_inj.mp (by rw [q]; rfl)
    subst e
    decide
  · have e : r = 1 := Int32.toInt_inj.mp (by rw [q]; rfl)
    subst e
    decide
/-- what a LINE is asked of stays the same -/
def SmL (G Gq : GS) : Prop := (∀ i ∈ [72, 73, 74, 87, 88, 89, 90, 91, 92, 93, 94, 95, 96, 110], Gq.1 i = G.1 i) ∧ Gq.1 66 54 = G.1 66 54
theorem SmL.rf {G : GS} : SmL G G := ⟨fun _ _ => rfl, rfl⟩
theorem SmL.fr {rs : List Nat} {fs : List (Nat × Nat)} {G Ga Gb : GS} (h : SmL G Ga) (hF : Fr rs fs Ga Gb) (h1 : ∀ i ∈ [72, 73, 74, 87, 88, 89, 90, 91, 92, 93, 94, 95, 96, 110], i ∉ rs ∧ ∀ x ∈ fs, x.1 ≠ i) (h2 : 66 ∉ rs ∧ (66, 54) ∉ fs) : SmL G Gb := ⟨fun i hi => (hF.rows h1 hi).trans (h.1 i hi), (hF.i 66 54 h2.1 h2.2).trans h.2⟩
theorem q_isLineS {V : PV} {p0 p1 p2 r : Int32} {G Gq Gn : GS} {s i t : Nat} (h : Q_isLine p0 p1 p2 Gq r Gn) (hS : SmL G Gq) (hs : p0.toInt = (s : Int)) (hsl : s < V.1.length) (hi : p2.toInt = (i : Int)) (hil : i < stl V s) (ht : p1.toInt = (t : Int)) (ht64 : t < 64) (hR : RV V G) (hV : PVok V) (hok : ICok (icl V s i)) : SmL G Gn ∧ Fr [76] [] Gq Gn ∧ (0 ≤ r.toInt ∧ r.toInt ≤ 1) ∧ (r.toInt ≠ 0 ↔ LNx V (G.1 110 6) s t i) := by
  have hF := h.2.1
  have hrng := h.2.2.1
  have hSt := (hR.1.2.2 s hsl).1.2 i hil
  have hx : IcR (icl V s i) (400 * s + i) Gq := by
    unfold IcR
    rw [hS.1 87 (by decide), hS.1 88 (by decide), hS.1 89 (by decide), hS.1 90 (by decide)]
    exact hSt
  have hl : (Gq.1 66 54).toInt = (V.2.2.1.length : Int) := by
    rw [hS.2]
    exact hR.2.2.1.1
  have hC : ∀ k, k < V.2.2.1.length → RCd k (V.2.2.1.getD k ([], [])).2 Gq := by
    intro k hk
    have := (hR.2.2.1.2.2.2 k hk).1
    unfold RCd at this ⊢
    rw [hS.1 72 (by decide), hS.1 73 (by decide), hS.1 74 (by decide)]
    exact this
  obtain ⟨-, k⟩ := q_isLine_eq h hs hi ht ht64 hx hok hl hV hC
  rw [hS.1 110 (by decide)] at k
  exact ⟨hS.fr hF (by decide) (by decide), hF, hrng, k⟩
theorem m_lay {V : PV} {p0 p1 p2 : Int32} {G G1 : GS} {w s t : Nat} (h : Q_layStreet p0 p1 p2 G G1) (hw : p0.toInt = (w : Int)) (hwl : w < V.2.1.length) (hs : p1.toInt = (s : Int)) (hsl : s < V.1.length) (ht : p2.toInt = (t : Int)) (ht64 : t < 64) (hR : RV V G) (hV : PVok V) (hok : ∀ i, i < stl V s → ICok (icl V s i)) : ((G1.1 66 59).toInt = (stl V s : Int) ∧ (G1.1 66 60).toInt = (wk V w).1 ∧ (G1.1 66 61).toInt = (wk V w).2.1 ∧ (G1.1 66 62).toInt = (wk V w).2.2.1 ∧ (G1.1 66 63).toInt = (wk V w).2.2.2) ∧ ∀ x : Nat, x < 512 → ((G1.1 98 x).toInt = 0 ∨ (G1.1 98 x).toInt = 1) ∧ ((G1.1 98 x).toInt ≠ 0 ↔ LWF V (G.1 110 6) w s t (x : Int)) := by
  obtain ⟨hBd, hFall, -, y1, e1, y4, e4, y7, e7, y10, e10, y13, e13, G15, -, hF15, v59, v60, v61, v62, v63, x20, G16, hl1, -, -, hF16, c20, x30, G26, hl2, -, -, -, hF26, c30, rfl⟩ := h
  rw [cn_eq hs] at e1
  rw [cn_eq hw] at e4 e7 e10 e13
  have hSt := (hR.1.2.2 s hsl).1
  obtain ⟨k1, k2, k3, k4⟩ := hR.2.1.2.2 w hwl
  have t1 : y1.toInt = (stl V s : Int) := by rw [e1]; exact hSt.1
  have t4 : y4.toInt = (wk V w).1 := by rw [e4]; exact k1
  have hf0 : 0 ≤ (wk V w).1 := by
    have := (hBd.i 92 w (lo := 0) (hi := 12) rfl rfl).1
    rw [hFall.row1 92 (by decide) (by decide)] at this
    rw [← t4, e4]
    exact this
  have fld : ∀ j, j = 59 ∨ j = 60 ∨ j = 61 ∨ j = 62 ∨ j = 63 → G26.1 66 j = G15.1 66 j := by
    intro j hj
    rcases hj with rfl | rfl | rfl | rfl | rfl <;> rw [hF26.i 66 _ (by decide) (by decide), hF16.i 66 _ (by decide) (by decide)]
  refine ⟨⟨?_, ?_, ?_, ?_, ?_⟩, ?_⟩
  · rw [fld 59 (by simp), v59]
    exact t1
  · rw [fld 60 (by simp), v60]
    exact t4
  · rw [fld 61 (by simp), v61, e7]
    exact k2
  · rw [fld 62 (by simp), v62, e10]
    exact k3
  · rw [fld 63 (by simp), v63, e13]
    exact k4
  have hS15 : SmL G G15 := SmL.rf.fr hF15 (by decide) (by decide)
  have hI1 := hl1 (fun q => SmL G q.2 ∧ ∃ n : Nat, q.1.toInt = (n : Int) ∧ ∀ i, i < n → ((q.2.1 97 i).toInt ≠ 0 ↔ LNx V (G.1 110 6) s t i)) ⟨hS15, 0, rfl, fun i hi => absurd hi (Nat.not_lt_zero i)⟩ (by
    rintro ⟨a0, b0⟩ ⟨an0, bn0⟩ ⟨i1, n, i2, i3⟩ ⟨a, b, an, bn, q1, q2, -, -, c, r107, G108, hil, y114, t114, ex, hF, w97⟩
    obtain ⟨rfl, rfl⟩ := Prod.mk.inj q1
    obtain ⟨rfl, rfl⟩ := Prod.mk.inj q2
    simp only at i1 i2 i3
    have hn : n < stl V s := by omega
    obtain ⟨j1, j2, j3, j4⟩ := q_isLineS hil i1 hs hsl i2 hn ht ht64 hR hV (hok n hn)
    refine ⟨j1.fr hF (by decide) (by decide), n + 1, by show an0.toInt = _; rw [← ex]; omega, fun i hi => ?_⟩
    show (bn0.1 97 i).toInt ≠ 0 ↔ _
    rw [w97, cn_eq i2]
    by_cases hin : i = n
    · subst hin
      rw [ud_at, nar_b j3.1 j3.2]
      exact j4
    · rw [ud_no hin, j2.row1 97 (by decide) (by decide)]
      exact i3 i (by omega))
  obtain ⟨-, n1, i2, i3⟩ := hI1
  simp only at i2 i3
  have hLn : ∀ i, i < stl V s → ((G16.1 97 i).toInt ≠ 0 ↔ LNx V (G.1 110 6) s t i) := fun i hi => i3 i (by omega)
  clear i3 i2 hl1
  have h59 : (G16.1 66 59).toInt = (stl V s : Int) := by
    rw [hF16.i 66 59 (by decide) (by decide), v59]
    exact t1
  have h60 : (G16.1 66 60).toInt = (wk V w).1 := by
    rw [hF16.i 66 60 (by decide) (by decide), v60]
    exact t4
  have nar1 : (vp_nar .boolean 1).toInt = 1 := by decide
  have nar0 : (vp_nar .boolean 0).toInt = 0 := by decide
  have hI2 := hl2 (fun q => (q.2.1 97 = G16.1 97 ∧ q.2.1 66 59 = G16.1 66 59 ∧ q.2.1 66 60 = G16.1 66 60) ∧ ∃ n : Nat, q.1.toInt = (n : Int) ∧ ∀ x, x < n → ((q.2.1 98 x).toInt = 0 ∨ (q.2.1 98 x).toInt = 1) ∧ ((q.2.1 98 x).toInt ≠ 0 ↔ LWF V (G.1 110 6) w s t (x : Int))) ⟨⟨rfl, rfl, rfl⟩, 0, rfl, fun i hi => absurd hi (Nat.not_lt_zero i)⟩ (by
    rintro ⟨a0, b0⟩ ⟨an0, bn0⟩ ⟨⟨i1, i9, i0⟩, n, i2, i3⟩ ⟨a, b, an, bn, q1, q2, -, -, -, c, r49, G50, hst, G56, -, hF56, w56, x63, G59, hl3, -, -, -, -, -, hF59, y78, t78, hd⟩
    obtain ⟨rfl, rfl⟩ := Prod.mk.inj q1
    obtain ⟨rfl, rfl⟩ := Prod.mk.inj q2
    simp only at i1 i2 i3 i9 i0
    have e50 := hst.2.1.nil
    subst e50
    have hr49 := hst.2.2.1
    have hsd : r49.toInt ≠ 0 ↔ (n : Int) + (wk V w).1 ≤ (stl V s : Int) := by
      have p1 := hst.2.2.2.1.1
      have p2 := hst.2.2.2.1.2
      rw [i9, i0, h59, h60, i2] at p1 p2
      constructor
      · intro q
        exact (p1 (by omega)).2
      · intro q
        have := p2 ⟨by omega, q⟩
        omega
    rw [cn_eq i2] at w56
    -- the walk along the FOOT
    have z97 : G56.1 97 = G16.1 97 := (hF56.row1 97 (by decide) (by decide)).trans i1
    have zj : ∀ j, j ≠ n → G56.1 98 j = b0.1 98 j := fun j hj => by rw [w56, ud_no hj]
    have z01 : (G56.1 98 n).toInt = 0 ∨ (G56.1 98 n).toInt = 1 := by
      rw [w56, ud_at, nar_b hr49.1 hr49.2]
      clear hsd
      omega
    have zne : (G56.1 98 n).toInt ≠ 0 ↔ ((n : Int) + (wk V w).1 ≤ (stl V s : Int) ∧ ∀ i, n ≤ i → i < n → ¬ LNx V (G.1 110 6) s t i) := by
      rw [w56, ud_at, nar_b hr49.1 hr49.2]
      exact hsd.trans ⟨fun q => ⟨q, fun i h1 h2 => absurd h2 (by omega)⟩, fun q => q.1⟩
    have hI3 := hl3 (fun q => (q.2.1 97 = G16.1 97 ∧ ∀ j, j ≠ n → q.2.1 98 j = b0.1 98 j) ∧ ∃ k : Nat, q.1.toInt = (k : Int) ∧ n ≤ k ∧ (k : Int) ≤ (n : Int) + (wk V w).1 ∧ ((q.2.1 98 n).toInt = 0 ∨ (q.2.1 98 n).toInt = 1) ∧ ((q.2.1 98 n).toInt ≠ 0 ↔ ((n : Int) + (wk V w).1 ≤ (stl V s : Int) ∧ ∀ i, n ≤ i → i < k → ¬ LNx V (G.1 110 6) s t i))) ⟨⟨z97, zj⟩, n, i2, Nat.le_refl n, by clear zne hsd; omega, z01, zne⟩ (by
      rintro ⟨a1, b1⟩ ⟨an1, bn1⟩ ⟨⟨u1, u2⟩, k, u3, u4, u5, u6, u7⟩ ⟨a', b', an', bn', q1, q2, -, -, -, -, -, y78', t78', c', y82, e82, c82, y87, e87, hd'⟩
      obtain ⟨rfl, rfl⟩ := Prod.mk.inj q1
      obtain ⟨rfl, rfl⟩ := Prod.mk.inj q2
      simp only at u1 u2 u3 u6 u7
      rw [cn_eq i2] at e82
      rw [cn_eq u3, u1] at e87
      have hyes := u7.mp (by rw [← e82]; exact c82)
      clear u7
      have hk : k < stl V s := by omega
      have hLk := hLn k hk
      rw [← e87] at hLk
      rcases hd' with ⟨f, y, ty, ex, hF, w98⟩ | ⟨f, y, ty, ex, hF, w98⟩
      · rw [cn_eq i2] at w98
        refine ⟨⟨(hF.row1 97 (by decide) (by decide)).trans u1, fun j hj => ?_⟩, k + 1, by show an1.toInt = _; rw [← ex]; clear hLk; omega, by omega, by clear hLk; omega, ?_, ?_⟩
        · show bn1.1 98 j = _
          rw [w98, ud_no hj]
          exact u2 j hj
        · show (bn1.1 98 n).toInt = 0 ∨ (bn1.1 98 n).toInt = 1
          rw [w98, ud_at]
          exact Or.inr nar1
        · show (bn1.1 98 n).toInt ≠ 0 ↔ _
          rw [w98, ud_at, nar1]
          refine ⟨fun _ => ⟨hyes.1, fun i hi1 hi2 => ?_⟩, fun _ => by decide⟩
          by_cases hik : i = k
          · subst hik
            exact fun q => absurd f (hLk.mpr q)
          · exact hyes.2 i hi1 (by omega)
      · rw [cn_eq i2] at w98
        refine ⟨⟨(hF.row1 97 (by decide) (by decide)).trans u1, fun j hj => ?_⟩, k + 1, by show an1.toInt = _; rw [← ex]; clear hLk; omega, by omega, by clear hLk; omega, ?_, ?_⟩
        · show bn1.1 98 j = _
          rw [w98, ud_no hj]
          exact u2 j hj
        · show (bn1.1 98 n).toInt = 0 ∨ (bn1.1 98 n).toInt = 1
          rw [w98, ud_at]
          exact Or.inl nar0
        · show (bn1.1 98 n).toInt ≠ 0 ↔ _
          rw [w98, ud_at, nar0]
          exact ⟨fun q => absurd rfl q, fun q => absurd (hLk.mp f) (q.2 k u4 (by omega))⟩)
    obtain ⟨⟨u1, u2⟩, k, u3, u4, u5, u6, u7⟩ := hI3
    simp only at u1 u2 u3 u6 u7
    have fin : ((n : Int) + (wk V w).1 ≤ (k : Int) ∨ (G59.1 98 n).toInt = 0) → ((G59.1 98 n).toInt ≠ 0 ↔ LWF V (G.1 110 6) w s t (n : Int)) := by
      intro hcase
      unfold LWF
      refine u7.trans ⟨fun q => ⟨by omega, q.1, fun i h1 h2 => q.2 i (by omega) ?_⟩, fun q => ⟨q.2.1, fun i h1 h2 => q.2.2 i (by omega) (by omega)⟩⟩
      rcases hcase with e | e
      · omega
      · exact absurd e (u7.mpr q)
    have hFz : ∀ {Gz : GS} {y : Int32}, G59 = Gz → y.toInt = a0.toInt + 1 → ((n : Int) + (wk V w).1 ≤ (k : Int) ∨ (G59.1 98 n).toInt = 0) → (Gz.1 97 = G16.1 97 ∧ Gz.1 66 59 = G16.1 66 59 ∧ Gz.1 66 60 = G16.1 66 60) ∧ ∃ n : Nat, y.toInt = (n : Int) ∧ ∀ x, x < n → ((Gz.1 98 x).toInt = 0 ∨ (Gz.1 98 x).toInt = 1) ∧ ((Gz.1 98 x).toInt ≠ 0 ↔ LWF V (G.1 110 6) w s t (x : Int)) := by
      intro Gz y e ty hcase
      subst e
      refine ⟨⟨u1, ?_, ?_⟩, n + 1, by clear fin u7 hsd; omega, fun x hx => ?_⟩
      · rw [hF59.i 66 59 (by decide) (by decide), hF56.i 66 59 (by decide) (by decide)]
        exact i9
      · rw [hF59.i 66 60 (by decide) (by decide), hF56.i 66 60 (by decide) (by decide)]
        exact i0
      · by_cases hxn : x = n
        · subst hxn
          exact ⟨u6, fin hcase⟩
        · rw [u2 x hxn]
          exact i3 x (by omega)
    rcases hd with ⟨f, y80, t80, ex, eG⟩ | ⟨f, y82, e82, c82, y85, t85, ex, eG⟩
    · exact hFz eG (by show an0.toInt = _; rw [← ex]; exact t80) (Or.inl (by clear fin u7 hsd; omega))
    · refine hFz eG (by show an0.toInt = _; rw [← ex]; exact t85) (Or.inr ?_)
      rw [cn_eq i2] at e82
      rw [← e82]
      exact c82)
  obtain ⟨-, n2, j2, j3⟩ := hI2
  simp only at j2 j3
  exact fun x hx => j3 x (by omega)
theorem CW_1.ok {V : PV} {G : GS} {s : Nat} (h : CW_1 V G) (hs : s < V.1.length) : ∀ i, i < stl V s → ICok (icl V s i) := fun i hi => ((h.1.2 s hs).1.2 i hi).2
theorem CaC_1.fr {V : PV} {G G1 : GS} (h : CaC_1 V G) (h37 : G1.1 37 = G.1 37) (h38 : G1.1 38 = G.1 38) : CaC_1 V G1 := by
  unfold CaC_1 FoC_1 at h ⊢
  rw [h37, h38]
  exact h
theorem ca_find_1 {V : PV} {p0 day : Int32} {G G1 : GS} (h : P_lFind_1 p0 day G G1) (hW : CW_1 V G) (hR3 : V.1.length ≤ 3) (hV : PVok V) (hd0 : 0 ≤ day.toInt) (hCa : CaC_1 V G) : CaC_1 V G1 := by
  by_cases hs : 0 ≤ p0.toInt ∧ p0.toInt < (V.1.length : Int)
  · exact (k_find_1 (s := p0.toInt.toNat) h (by omega) (by omega) hR3 hW hV hd0 hCa).2
  · obtain ⟨-, -, r1, G2, hst, hh⟩ := h
    obtain ⟨rfl, k1⟩ := k_hasStreet_1_eq hst
    rw [hW.1.1] at k1
    rcases hh with ⟨-, rfl⟩ | ⟨c, -⟩
    · exact hCa
    · exact absurd (k1.mp c) hs
theorem CW_1.fr {V : PV} {rs : List Nat} {fs : List (Nat × Nat)} {G G1 : GS} (h : CW_1 V G) (hF : Fr rs fs G G1) (h1 : ∀ i ∈ [10, 11, 12, 13, 14, 15, 16, 17, 18], i ∉ rs ∧ ∀ x ∈ fs, x.1 ≠ i) (h2 : ∀ y ∈ [(1, 9), (1, 10), (1, 11), (1, 12), (1, 13), (1, 14), (1, 15), (1, 16)], y.1 ∉ rs ∧ y ∉ fs) : CW_1 V G1 := by
  have hf : ∀ {j : Nat}, (1, j) ∈ [(1, 9), (1, 10), (1, 11), (1, 12), (1, 13), (1, 14), (1, 15), (1, 16)] → G1.1 1 j = G.1 1 j := fun hj => hF.i 1 _ (h2 _ hj).1 (h2 _ hj).2
  unfold CW_1 StC_1 WkC_1 CodeC_1 EndC_1 at h ⊢
  rw [hf (j := 9) (by decide), hf (j := 10) (by decide), hf (j := 11) (by decide), hf (j := 12) (by decide), hf (j := 13) (by decide), hf (j := 14) (by decide), hf (j := 15) (by decide), hf (j := 16) (by decide), hF.rows h1 (i := 10) (by decide), hF.rows h1 (i := 11) (by decide), hF.rows h1 (i := 12) (by decide), hF.rows h1 (i := 13) (by decide), hF.rows h1 (i := 14) (by decide), hF.rows h1 (i := 15) (by decide), hF.rows h1 (i := 16) (by decide), hF.rows h1 (i := 17) (by decide), hF.rows h1 (i := 18) (by decide)]
  exact h
theorem k_isLawful_1 {V : PV} {p0 p1 p2 p3 r day : Int32} {G G1 : GS} {w s t : Nat} (h : P_lIsLawful_1 p0 p1 p2 p3 G r G1) (hw : p0.toInt = (w : Int)) (hwl : w < V.2.1.length) (hs : p1.toInt = (s : Int)) (hsl : s < V.1.length) (ht : p2.toInt = (t : Int)) (ht64 : t < 64) (hW : CW_1 V G) (hV : PVok V) (hFo : FoC_1 V s day G) : G = G1 ∧ (r.toInt ≠ 0 ↔ LWF V day w s t p3.toInt) := by
  obtain ⟨-, hFr, -, r1, G2, hst, hh⟩ := h
  refine ⟨hFr.nil, ?_⟩
  obtain ⟨rfl, k1⟩ := k_stands_1_eq hst hW
  have ew : p0.toInt.toNat = w := by omega
  have es : p1.toInt.toNat = s := by omega
  rw [ew, es] at k1
  have z : (0 : Int32).toInt = 0 := rfl
  have o : (1 : Int32).toInt = 1 := rfl
  rcases hh with ⟨c, rfl, -⟩ | ⟨c, x12, G8, hl, -, -, hF8, y16, e16, y17, t17, hh⟩
  · exact ⟨fun q => absurd z q, fun q => absurd c (k1.mpr ⟨⟨by omega, by omega⟩, ⟨by omega, by omega⟩, q.1, by have := q.2.1; unfold stl wk at this; omega⟩)⟩
  have e8 := hF8.nil
  subst e8
  obtain ⟨-, -, g1, g2⟩ := k1.mp c
  clear k1
  have hwk := (hW.2.1.2 w hwl).1
  rw [cn_eq hw] at e16
  have t16 : y16.toInt = (wk V w).1 := by rw [e16]; exact hwk
  have hst2 : p3.toInt + (wk V w).1 ≤ (stl V s : Int) := by
    unfold stl wk
    omega
  have hI := hl (fun q => q.2 = G ∧ ∃ k : Nat, q.1.toInt = (k : Int) ∧ p3.toInt ≤ (k : Int) ∧ ∀ i : Nat, p3.toInt ≤ (i : Int) → i < k → ¬ LNx V day s t i) ⟨rfl, p3.toInt.toNat, by show p3.toInt = _; omega, by omega, fun i h1 h2 => absurd h2 (by omega)⟩ (by
    rintro ⟨a0, b0⟩ ⟨an0, bn0⟩ ⟨i1, k, i2, i3, i4⟩ ⟨a, b, an, bn, q1, q2, -, -, y16', e16', y17', t17', c', r19, G20, hil, c19, y26, t26, ex, eG⟩
    obtain ⟨rfl, rfl⟩ := Prod.mk.inj q1
    obtain ⟨rfl, rfl⟩ := Prod.mk.inj q2
    simp only at i1 i2
    subst i1
    rw [cn_eq hw] at e16'
    have t16' : y16'.toInt = (wk V w).1 := by rw [e16']; exact hwk
    obtain ⟨rfl, kl⟩ := k_isLine_1 hil hs hsl i2 ht ht64 hW hV hFo
    have hk : k < stl V s := by clear kl; omega
    refine ⟨eG.symm, k + 1, by show an0.toInt = _; rw [← ex]; clear kl; omega, by clear kl; omega, fun i h1 h2 => ?_⟩
    by_cases hik : i = k
    · subst hik
      exact fun q => (kl.mpr ⟨hk, q⟩) c19
    · exact i4 i h1 (by omega))
  obtain ⟨-, k, i2, i3, i4⟩ := hI
  simp only at i2
  unfold LWF
  rcases hh with ⟨f, rfl, -⟩ | ⟨f, r19, G20, hil, c19, rfl, -⟩
  · exact ⟨fun _ => ⟨g1, hst2, fun i h1 h2 => i4 i h1 (by omega)⟩, fun _ => by omega⟩
  · refine ⟨fun q => absurd z q, fun q => ?_⟩
    have kl := (k_isLine_1 hil hs hsl i2 ht ht64 hW hV hFo).2.mp c19
    exact absurd kl.2 (q.2.2 k i3 (by omega))
theorem CW_2.ok {V : PV} {G : GS} {s : Nat} (h : CW_2 V G) (hs : s < V.1.length) : ∀ i, i < stl V s → ICok (icl V s i) := fun i hi => ((h.1.2 s hs).1.2 i hi).2
theorem CaC_2.fr {V : PV} {G G1 : GS} (h : CaC_2 V G) (h37 : G1.1 37 = G.1 37) (h38 : G1.1 38 = G.1 38) : CaC_2 V G1 := by
  unfold CaC_2 FoC_2 at h ⊢
  rw [h37, h38]
  exact h
theorem ca_find_2 {V : PV} {p0 day : Int32} {G G1 : GS} (h : P_lFind_2 p0 day G G1) (hW : CW_2 V G) (hR3 : V.1.length ≤ 3) (hV : PVok V) (hd0 : 0 ≤ day.toInt) (hCa : CaC_2 V G) : CaC_2 V G1 := by
  by_cases hs : 0 ≤ p0.toInt ∧ p0.toInt < (V.1.length : Int)
  · exact (k_find_2 (s := p0.toInt.toNat) h (by omega) (by omega) hR3 hW hV hd0 hCa).2
  · obtain ⟨-, -, r1, G2, hst, hh⟩ := h
    obtain ⟨rfl, k1⟩ := k_hasStreet_2_eq hst
    rw [hW.1.1] at k1
    rcases hh with ⟨-, rfl⟩ | ⟨c, -⟩
    · exact hCa
    · exact absurd (k1.mp c) hs
theorem CW_2.fr {V : PV} {rs : List Nat} {fs : List (Nat × Nat)} {G G1 : GS} (h : CW_2 V G) (hF : Fr rs fs G G1) (h1 : ∀ i ∈ [20, 21, 22, 23, 24, 25, 26, 27, 28], i ∉ rs ∧ ∀ x ∈ fs, x.1 ≠ i) (h2 : ∀ y ∈ [(2, 9), (2, 10), (2, 11), (2, 12), (2, 13), (2, 14), (2, 15), (2, 16)], y.1 ∉ rs ∧ y ∉ fs) : CW_2 V G1 := by
  have hf : ∀ {j : Nat}, (2, j) ∈ [(2, 9), (2, 10), (2, 11), (2, 12), (2, 13), (2, 14), (2, 15), (2, 16)] → G1.1 2 j = G.1 2 j := fun hj => hF.i 2 _ (h2 _ hj).1 (h2 _ hj).2
  unfold CW_2 StC_2 WkC_2 CodeC_2 EndC_2 at h ⊢
  rw [hf (j := 9) (by decide), hf (j := 10) (by decide), hf (j := 11) (by decide), hf (j := 12) (by decide), hf (j := 13) (by decide), hf (j := 14) (by decide), hf (j := 15) (by decide), hf (j := 16) (by decide), hF.rows h1 (i := 20) (by decide), hF.rows h1 (i := 21) (by decide), hF.rows h1 (i := 22) (by decide), hF.rows h1 (i := 23) (by decide), hF.rows h1 (i := 24) (by decide), hF.rows h1 (i := 25) (by decide), hF.rows h1 (i := 26) (by decide), hF.rows h1 (i := 27) (by decide), hF.rows h1 (i := 28) (by decide)]
  exact h
theorem k_isLawful_2 {V : PV} {p0 p1 p2 p3 r day : Int32} {G G1 : GS} {w s t : Nat} (h : P_lIsLawful_2 p0 p1 p2 p3 G r G1) (hw : p0.toInt = (w : Int)) (hwl : w < V.2.1.length) (hs : p1.toInt = (s : Int)) (hsl : s < V.1.length) (ht : p2.toInt = (t : Int)) (ht64 : t < 64) (hW : CW_2 V G) (hV : PVok V) (hFo : FoC_2 V s day G) : G = G1 ∧ (r.toInt ≠ 0 ↔ LWF V day w s t p3.toInt) := by
  obtain ⟨-, hFr, -, r1, G2, hst, hh⟩ := h
  refine ⟨hFr.nil, ?_⟩
  obtain ⟨rfl, k1⟩ := k_stands_2_eq hst hW
  have ew : p0.toInt.toNat = w := by omega
  have es : p1.toInt.toNat = s := by omega
  rw [ew, es] at k1
  have z : (0 : Int32).toInt = 0 := rfl
  have o : (1 : Int32).toInt = 1 := rfl
  rcases hh with ⟨c, rfl, -⟩ | ⟨c, x12, G8, hl, -, -, hF8, y16, e16, y17, t17, hh⟩
  · exact ⟨fun q => absurd z q, fun q => absurd c (k1.mpr ⟨⟨by omega, by omega⟩, ⟨by omega, by omega⟩, q.1, by have := q.2.1; unfold stl wk at this; omega⟩)⟩
  have e8 := hF8.nil
  subst e8
  obtain ⟨-, -, g1, g2⟩ := k1.mp c
  clear k1
  have hwk := (hW.2.1.2 w hwl).1
  rw [cn_eq hw] at e16
  have t16 : y16.toInt = (wk V w).1 := by rw [e16]; exact hwk
  have hst2 : p3.toInt + (wk V w).1 ≤ (stl V s : Int) := by
    unfold stl wk
    omega
  have hI := hl (fun q => q.2 = G ∧ ∃ k : Nat, q.1.toInt = (k : Int) ∧ p3.toInt ≤ (k : Int) ∧ ∀ i : Nat, p3.toInt ≤ (i : Int) → i < k → ¬ LNx V day s t i) ⟨rfl, p3.toInt.toNat, by show p3.toInt = _; omega, by omega, fun i h1 h2 => absurd h2 (by omega)⟩ (by
    rintro ⟨a0, b0⟩ ⟨an0, bn0⟩ ⟨i1, k, i2, i3, i4⟩ ⟨a, b, an, bn, q1, q2, -, -, y16', e16', y17', t17', c', r19, G20, hil, c19, y26, t26, ex, eG⟩
    obtain ⟨rfl, rfl⟩ := Prod.mk.inj q1
    obtain ⟨rfl, rfl⟩ := Prod.mk.inj q2
    simp only at i1 i2
    subst i1
    rw [cn_eq hw] at e16'
    have t16' : y16'.toInt = (wk V w).1 := by rw [e16']; exact hwk
    obtain ⟨rfl, kl⟩ := k_isLine_2 hil hs hsl i2 ht ht64 hW hV hFo
    have hk : k < stl V s := by clear kl; omega
    refine ⟨eG.symm, k + 1, by show an0.toInt = _; rw [← ex]; clear kl; omega, by clear kl; omega, fun i h1 h2 => ?_⟩
    by_cases hik : i = k
    · subst hik
      exact fun q => (kl.mpr ⟨hk, q⟩) c19
    · exact i4 i h1 (by omega))
  obtain ⟨-, k, i2, i3, i4⟩ := hI
  simp only at i2
  unfold LWF
  rcases hh with ⟨f, rfl, -⟩ | ⟨f, r19, G20, hil, c19, rfl, -⟩
  · exact ⟨fun _ => ⟨g1, hst2, fun i h1 h2 => i4 i h1 (by omega)⟩, fun _ => by omega⟩
  · refine ⟨fun q => absurd z q, fun q => ?_⟩
    have kl := (k_isLine_2 hil hs hsl i2 ht ht64 hW hV hFo).2.mp c19
    exact absurd kl.2 (q.2.2 k i3 (by omega))
