/-! EVENEST -/
theorem CrsM.fr {V : PV} {day : Int32} {w s t : Nat} {rs : List Nat} {fs : List (Nat × Nat)} {G G1 : GS} (h : CrsM V day w s t G) (hF : Fr rs fs G G1) (h1 : ∀ i ∈ [98], i ∉ rs ∧ ∀ x ∈ fs, x.1 ≠ i) (h2 : ∀ y ∈ [(66, 59), (66, 60), (66, 61), (66, 62), (66, 63)], y.1 ∉ rs ∧ y ∉ fs) : CrsM V day w s t G1 := by
  have f : ∀ {j : Nat}, (66, j) ∈ [(66, 59), (66, 60), (66, 61), (66, 62), (66, 63)] → G1.1 66 j = G.1 66 j := fun q => hF.i 66 _ (h2 _ q).1 (h2 _ q).2
  unfold CrsM at h ⊢
  rw [f (j := 59) (by decide), f (j := 60) (by decide), f (j := 61) (by decide), f (j := 62) (by decide), f (j := 63) (by decide), hF.rows h1 (i := 98) (by decide)]
  exact h
def EVE (V : PV) (day : Int32) (w s t : Nat) (a b : Int) : Prop := ∃ x, 0 ≤ x ∧ x < (wk V w).2.2.1 ∧ ¬ ENx V w s x ∧ GD (LWF V day w s t) (ENx V w s) a b x
theorem EVE.mono {V : PV} {day : Int32} {w s t : Nat} {a b a' b' : Int} (h : EVE V day w s t a b) (ha : a' ≤ a) (hb : b ≤ b') : EVE V day w s t a' b' := by
  obtain ⟨x, h0, h1, h2, h3⟩ := h
  exact ⟨x, h0, h1, h2, h3.mono ha hb⟩
def EvT (G Gt gn : GS) (a1 a2 n1 n2 : Int32) : Prop := (a2.toInt = 0 ∧ (((G.1 66 62).toInt ≤ a1.toInt ∧ (∃ y : Int32, y.toInt = a1.toInt + (-1) ∧ y = n1 ∧ 0 = n2 ∧ Gt = gn)) ∨ (a1.toInt < (G.1 66 62).toInt ∧ (∃ y : Int32, y = (Gt.1 103) (a1.toNatClampNeg) ∧ ((y.toInt = 0 ∧ (∃ y2 : Int32, y2.toInt = a1.toInt + (-1) ∧ y2 = n1 ∧ 0 = n2 ∧ Gt = gn)) ∨ (y.toInt ≠ 0 ∧ (∃ (r : Int32) (G2 : GS), Q_isEnd a1 Gt r G2 ∧ ((r.toInt = 0 ∧ (∃ y3 : Int32, y3.toInt = a1.toInt + (-1) ∧ y3 = n1 ∧ 1 = n2 ∧ G2 = gn)) ∨ (r.toInt ≠ 0 ∧ (∃ y4 : Int32, y4.toInt = a1.toInt + (-1) ∧ y4 = n1 ∧ 0 = n2 ∧ G2 = gn)))))))))) ∨ (a2.toInt ≠ 0 ∧ (∃ y : Int32, y.toInt = a1.toInt + (-1) ∧ y = n1 ∧ 1 = n2 ∧ Gt = gn))
theorem EvT_do {V : PV} {day : Int32} {w s t k : Nat} {G Gt gn : GS} {a1 a2 n1 n2 : Int32} {Pk : Prop} (hT : EvT G Gt gn a1 a2 n1 n2) (hC : CrsM V day w s t Gt) (hm : (G.1 66 62).toInt = (wk V w).2.2.1) (hm1 : 1 ≤ (wk V w).2.2.1) (h0 : a1.toInt = (k : Int)) (hP : (Gt.1 103 k).toInt ≠ 0 ↔ Pk) : Gt = gn ∧ n1.toInt = (k : Int) - 1 ∧ (n2.toInt ≠ 0 ↔ (a2.toInt ≠ 0 ∨ ((k : Int) < (wk V w).2.2.1 ∧ ¬ ENx V w s (k : Int) ∧ Pk))) := by
  have z : (0 : Int32).toInt = 0 := rfl
  have o : (1 : Int32).toInt ≠ 0 := by decide
  unfold EvT at hT
  rw [hm] at hT
  rcases hT with ⟨z2, hT⟩ | ⟨z2, y, t, e, e2, eG⟩
  · rcases hT with ⟨f, y, t, e, e2, eG⟩ | ⟨f, y, ey, hT⟩
    · subst e e2
      refine ⟨eG, by omega, fun q => absurd z q, fun q => ?_⟩
      rcases q with q | q
      · exact absurd z2 q
      · omega
    rw [cn_eq h0] at ey
    rw [← ey] at hP
    rcases hT with ⟨g, y2, t, e, e2, eG⟩ | ⟨g, r, G2, hE, hT⟩
    · subst e e2
      refine ⟨eG, by omega, fun q => absurd z q, fun q => ?_⟩
      rcases q with q | q
      · exact absurd z2 q
      · exact absurd g (hP.mpr q.2.2)
    obtain ⟨rfl, ke⟩ := q_isEnd_eq hE hC (by omega) hm1
    rw [h0] at ke
    rcases hT with ⟨g2, y2, t, e, e2, eG⟩ | ⟨g2, y2, t, e, e2, eG⟩
    · subst e e2
      exact ⟨eG, by omega, fun _ => Or.inr ⟨by omega, fun q => (ke.mpr q) g2, hP.mp g⟩, fun _ => o⟩
    · subst e e2
      refine ⟨eG, by omega, fun q => absurd z q, fun q => ?_⟩
      rcases q with q | q
      · exact absurd z2 q
      · exact absurd (ke.mp g2) q.2.1
  · subst e e2
    exact ⟨eG, by omega, fun _ => Or.inl z2, fun _ => o⟩
theorem m_isEven {V : PV} {day : Int32} {w s t : Nat} {p0 p1 r : Int32} {G G1 : GS} (h : Q_isEven p0 p1 G r G1) (hC : CrsM V day w s t G) (hk : WKok (wk V w)) (hl4 : (stl V s : Int) ≤ 400) (h1 : 1 ≤ p0.toInt) (h3 : p1.toInt ≤ (wk V w).2.2.1) : r.toInt ≠ 0 ↔ EVE V day w s t p0.toInt p1.toInt := by
  obtain ⟨P, hP⟩ : ∃ P, P = GD (LWF V day w s t) (ENx V w s) p0.toInt p1.toInt := ⟨_, rfl⟩
  unfold EVE
  rw [← hP]
  have hrec : ∀ x, P x ↔ LWF V day w s t x ∧ (ENx V w s x ∨ ∃ d, p0.toInt ≤ d ∧ d ≤ p1.toInt ∧ P (x + d)) := by
    intro x
    rw [hP]
    exact GD_eq
  have hf := hk.1
  have hm1 : 1 ≤ (wk V w).2.2.1 := by have := hk.2.2.1; have := hk.2.2.2.1; omega
  have hm60 := hk.2.2.2.2.1
  have z : (0 : Int32).toInt = 0 := rfl
  have z2 : (vp_nar .boolean 0).toInt = 0 := rfl
  have o2 : (vp_nar .boolean 1).toInt = 1 := rfl
  have hmG : (G.1 66 62).toInt = (wk V w).2.2.1 := hC.1.2.2.2.1
  obtain ⟨-, hF, -, x5, x6, G2, hl, -, -, -, -, c, rfl, -⟩ := h
  have hI := hl (fun q => Fr [103] [] G q.2.2 ∧ ∃ m : Nat, m ≤ 400 ∧ q.1.toInt = (m : Int) - 1 ∧ (∀ x : Nat, m ≤ x → x < 400 → ((q.2.2.1 103 x).toInt ≠ 0 ↔ P (x : Int))) ∧ (q.2.1.toInt ≠ 0 ↔ ∃ x : Nat, m ≤ x ∧ (x : Int) < (wk V w).2.2.1 ∧ ¬ ENx V w s (x : Int) ∧ P (x : Int))) ⟨Fr.rf, 400, Nat.le_refl _, rfl, fun x q1 q2 => absurd q2 (by omega), fun q => absurd z q, fun ⟨x, q1, q2, _⟩ => absurd q2 (by omega)⟩ (by
    rintro ⟨a1, a2, b0⟩ ⟨n1, n2, bn⟩ ⟨i0, m, i1, i2, i3, i4⟩ ⟨x1, x2, g, u1, u2, gn, q1, q2, -, -, -, c1, y14, e14, hd⟩
    simp only [Prod.mk.injEq] at q1 q2
    obtain ⟨rfl, rfl, rfl⟩ := q1
    obtain ⟨rfl, rfl, rfl⟩ := q2
    simp only at i0 i2 i3 i4
    obtain ⟨k, rfl⟩ : ∃ k, m = k + 1 := ⟨m - 1, by omega⟩
    have hk1 : a1.toInt = (k : Int) := by omega
    have hC0 : CrsM V day w s t b0 := hC.fr i0 (by decide) (by decide)
    rw [cn_eq hk1] at e14
    have hL : y14.toInt ≠ 0 ↔ LWF V day w s t (k : Int) := by rw [e14]; exact (hC0.2 k (by omega)).2
    have tail : ∀ {Gt : GS}, Fr [103] [] G Gt → (∀ y : Nat, y ≠ k → Gt.1 103 y = b0.1 103 y) → ((Gt.1 103 k).toInt ≠ 0 ↔ P (k : Int)) → EvT G Gt bn a1 a2 n1 n2 → Fr [103] [] G bn ∧ ∃ m : Nat, m ≤ 400 ∧ n1.toInt = (m : Int) - 1 ∧ (∀ x : Nat, m ≤ x → x < 400 → ((bn.1 103 x).toInt ≠ 0 ↔ P (x : Int))) ∧ (n2.toInt ≠ 0 ↔ ∃ x : Nat, m ≤ x ∧ (x : Int) < (wk V w).2.2.1 ∧ ¬ ENx V w s (x : Int) ∧ P (x : Int)) := by
      intro Gt hF' hne hcell hT
      obtain ⟨rfl, t1, t2⟩ := EvT_do hT (hC.fr hF' (by decide) (by decide)) hmG hm1 hk1 hcell
      refine ⟨hF', k, by omega, t1, fun x hx1 hx2 => ?_, t2.trans ⟨fun q => ?_, fun ⟨x, g1, g2, g3, g4⟩ => ?_⟩⟩
      · by_cases e : x = k
        · subst e
          exact hcell
        · rw [hne x e]
          exact i3 x (by omega) hx2
      · rcases q with q | q
        · obtain ⟨x, g1, g2, g3, g4⟩ := i4.mp q
          exact ⟨x, by omega, g2, g3, g4⟩
        · exact ⟨k, Nat.le_refl _, q.1, q.2.1, q.2.2⟩
      · by_cases e : x = k
        · subst e
          exact Or.inr ⟨g2, g3, g4⟩
        · exact Or.inl (i4.mpr ⟨x, by omega, g2, g3, g4⟩)
    rcases hd with ⟨f, r108, G109, hE, f2, G115, -, hF115, w115, x120, G116, hlp, -, -, hF116, G129, hJ, -, hF129, hT⟩ | ⟨G22, hJ2, -, hF22, G26, -, hF26, w26, x31, G27, hlp, -, -, hF27, G40, hJ4, -, hF40, hT⟩
    · obtain ⟨rfl, ke⟩ := q_isEnd_eq hE hC0 (by omega) hm1
      rw [hk1] at ke
      have hEn := ke.mp f2
      have hLk := hL.mp f
      have eq129 := hF129.nil
      subst eq129
      have hF0 := i0.call hF115 (by decide) (by decide)
      obtain ⟨j1, j2⟩ := hlp (fun q => Fr [103] [] G q.2 ∧ q.2.1 103 = upd (b0.1 103) k (vp_nar .boolean 1)) ⟨hF0, by rw [← cn_eq hk1]; exact w115⟩ (by
        rintro ⟨d1, e⟩ ⟨m1, en⟩ ⟨jF, j1⟩ ⟨v1, v, s1, sn, t1, t2, -, -, -, -, -, -, r163, G164, hE2, f4, -⟩
        obtain ⟨rfl, rfl⟩ := Prod.mk.inj t1
        obtain ⟨rfl, rfl⟩ := Prod.mk.inj t2
        simp only at jF
        obtain ⟨-, ke2⟩ := q_isEnd_eq hE2 (hC.fr jF (by decide) (by decide)) (by omega) hm1
        rw [hk1] at ke2
        exact absurd f4 (ke2.mpr hEn))
      simp only at j1 j2
      refine tail j1 (fun y hy => by rw [j2, ud_no hy]) ?_ hT
      rw [j2, ud_at, o2]
      exact ⟨fun _ => (hrec _).mpr ⟨hLk, Or.inl hEn⟩, fun _ => by decide⟩
    · have hne : ¬ (LWF V day w s t (k : Int) ∧ ENx V w s (k : Int)) := by
        rintro ⟨q1, q2⟩
        rcases hJ2 with ⟨f, -⟩ | ⟨f, r108, G109, hE, f2, -⟩
        · exact (hL.mpr q1) f
        · obtain ⟨-, ke⟩ := q_isEnd_eq hE hC0 (by omega) hm1
          rw [hk1] at ke
          exact (ke.mpr q2) f2
      have e22 := hF22.nil
      subst e22
      have e40 := hF40.nil
      subst e40
      have hF0 := i0.call hF26 (by decide) (by decide)
      rw [cn_eq hk1] at w26
      obtain ⟨j1, j2, j3, j4⟩ := hlp (fun q => Fr [103] [] G q.2 ∧ (∀ y : Nat, y ≠ k → q.2.1 103 y = b0.1 103 y) ∧ (p0.toInt ≤ q.1.toInt ∧ (q.1.toInt ≤ p1.toInt + 1 ∨ q.1.toInt = p0.toInt)) ∧ ((q.2.1 103 k).toInt ≠ 0 ↔ LWF V day w s t (k : Int) ∧ ¬ ENx V w s (k : Int) ∧ ∃ d, p0.toInt ≤ d ∧ d < q.1.toInt ∧ P ((k : Int) + d))) ⟨hF0, fun y hy => by show G26.1 103 y = _; rw [w26, ud_no hy], ⟨Int.le_refl _, Or.inr rfl⟩, by
        show (G26.1 103 k).toInt ≠ 0 ↔ _
        rw [w26, ud_at, z2]
        exact ⟨fun q => absurd rfl q, fun ⟨_, _, d, g1, g2, _⟩ => by simp only at g2; omega⟩⟩ (by
        rintro ⟨d1, e⟩ ⟨m1, en⟩ ⟨jF, j1, j2, j3⟩ ⟨v1, v, s1, sn, t1, t2, -, -, f1, y72, e72, f72, r80, G81, hE, f80, y87, e87, f87, y89, t89, y90, e90, hd⟩
        obtain ⟨rfl, rfl⟩ := Prod.mk.inj t1
        obtain ⟨rfl, rfl⟩ := Prod.mk.inj t2
        simp only at jF j1 j2 j3
        have hCe : CrsM V day w s t e := hC.fr jF (by decide) (by decide)
        obtain ⟨rfl, ke⟩ := q_isEnd_eq hE hCe (by omega) hm1
        rw [hk1] at ke
        rw [cn_eq hk1] at e72 e87
        have hLk : LWF V day w s t (k : Int) := (hCe.2 k (by omega)).2.mp (by rw [← e72]; exact f72)
        have hEk : ¬ ENx V w s (k : Int) := fun q => (ke.mpr q) f80
        have hEk2 := hEk
        unfold ENx at hEk2
        obtain ⟨i, hi⟩ : ∃ i : Nat, (i : Int) = (k : Int) + d1.toInt := ⟨((k : Int) + d1.toInt).toNat, by omega⟩
        rw [cn_eq (x := y89) (e := i) (by omega)] at e90
        have hLi : y90.toInt ≠ 0 ↔ LWF V day w s t (i : Int) := by rw [e90]; exact (hCe.2 i (by omega)).2
        have h103 : (e.1 103 i).toInt ≠ 0 ↔ P (i : Int) := by
          rw [j1 i (by omega)]
          exact i3 i (by omega) (by omega)
        have hold : ∀ d, p0.toInt ≤ d → d < d1.toInt → ¬ P ((k : Int) + d) := fun d g1 g2 g3 => (j3.mpr ⟨hLk, hEk, d, g1, g2, g3⟩) (by rw [← e87]; exact f87)
        clear j3 ke
        have fin : ∀ {v : Int32} {y : Int32}, y.toInt = d1.toInt + 1 → y = m1 → Fr [103] [] e en → en.1 103 = upd (e.1 103) a1.toNatClampNeg v → (v.toInt ≠ 0 ↔ P (i : Int)) → Fr [103] [] G en ∧ (∀ y : Nat, y ≠ k → en.1 103 y = b0.1 103 y) ∧ (p0.toInt ≤ m1.toInt ∧ (m1.toInt ≤ p1.toInt + 1 ∨ m1.toInt = p0.toInt)) ∧ ((en.1 103 k).toInt ≠ 0 ↔ LWF V day w s t (k : Int) ∧ ¬ ENx V w s (k : Int) ∧ ∃ d, p0.toInt ≤ d ∧ d < m1.toInt ∧ P ((k : Int) + d)) := by
          intro v y ty ey hFe we hv
          subst ey
          rw [cn_eq hk1] at we
          refine ⟨jF.call hFe (by decide) (by decide), fun y hy => by rw [we, ud_no hy]; exact j1 y hy, ⟨by clear hv hLi h103; omega, Or.inl (by clear hv hLi h103; omega)⟩, ?_⟩
          rw [we, ud_at]
          refine hv.trans ⟨fun q => ⟨hLk, hEk, d1.toInt, j2.1, by omega, by rw [← hi]; exact q⟩, fun ⟨_, _, d, g1, g2, g3⟩ => ?_⟩
          by_cases ed : d = d1.toInt
          · subst ed
            rw [hi]
            exact g3
          · exact absurd g3 (hold d g1 (by omega))
        rcases hd with ⟨g, y93, t93, ex, hFe, we⟩ | ⟨g, y94, t94, y95, e95, ⟨g2, y98, t98, ex, hFe, we⟩ | ⟨g2, y100, t100, ex, hFe, we⟩⟩
        · exact fin t93 ex hFe we ⟨fun q => absurd z2 q, fun q => absurd g (hLi.mpr ((hrec _).mp q).1)⟩
        · rw [cn_eq (x := y94) (e := i) (by clear hLi h103; omega)] at e95
          exact fin t98 ex hFe we ⟨fun q => absurd z2 q, fun q => absurd (by rw [← e95]; exact g2) (h103.mpr q)⟩
        · rw [cn_eq (x := y94) (e := i) (by clear hLi h103; omega)] at e95
          exact fin t100 ex hFe we ⟨fun _ => h103.mp (by rw [← e95]; exact g2), fun _ => by rw [o2]; decide⟩)
      simp only at j1 j2 j3 j4
      refine tail j1 j2 ?_ hT
      have hCe : CrsM V day w s t G27 := hC.fr j1 (by decide) (by decide)
      have hL27 : (G27.1 98 k).toInt ≠ 0 ↔ LWF V day w s t (k : Int) := (hCe.2 k (by omega)).2
      rw [j4]
      constructor
      · rintro ⟨g1, g2, d, g3, g4, g5⟩
        refine (hrec _).mpr ⟨g1, ?_⟩
        by_cases gd : d ≤ p1.toInt
        · exact Or.inr ⟨d, g3, gd, g5⟩
        · exfalso
          clear j4 hL27 hrec hne hJ4 hT hJ2 tail hL i3 i4
          omega
      · intro q
        obtain ⟨g1, g2⟩ := (hrec _).mp q
        have gE : ¬ ENx V w s (k : Int) := fun q2 => hne ⟨g1, q2⟩
        rcases g2 with g2 | ⟨d, g3, g4, g5⟩
        · exact absurd g2 gE
        refine ⟨g1, gE, ?_⟩
        rcases hJ4 with ⟨f, -⟩ | ⟨f, y72, e72, ⟨f2, -⟩ | ⟨f2, r80, G81, hE, ⟨f3, y87, e87, f87, -⟩ | ⟨f3, -⟩⟩⟩
        · exact ⟨d, g3, by omega, g5⟩
        · rw [cn_eq hk1] at e72
          exact absurd (by rw [← e72]; exact f2) (hL27.mpr g1)
        · obtain ⟨rfl, -⟩ := q_isEnd_eq hE hCe (by omega) hm1
          rw [cn_eq hk1] at e87
          exact (j4.mp (by rw [← e87]; exact f87)).2.2
        · obtain ⟨-, ke⟩ := q_isEnd_eq hE hCe (by omega) hm1
          rw [hk1] at ke
          exact absurd (ke.mp f3) gE)
  obtain ⟨-, m, i1, i2, i3, i4⟩ := hI
  simp only at i2 i4
  have em : m = 0 := by omega
  subst em
  exact i4.trans ⟨fun ⟨x, g1, g2, g3, g4⟩ => ⟨(x : Int), by omega, g2, g3, g4⟩, fun ⟨x, g1, g2, g3, g4⟩ => ⟨x.toNat, Nat.zero_le _, by omega, by rw [show ((x.toNat : Nat) : Int) = x by omega]; exact g3, by rw [show ((x.toNat : Nat) : Int) = x by omega]; exact g4⟩⟩
