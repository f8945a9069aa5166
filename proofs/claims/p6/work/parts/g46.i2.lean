/-! steps alone: what leads to the END -/
def ENx (V : PV) (w s : Nat) (x : Int) : Prop := (stl V s : Int) < x + (wk V w).2.2.1 + (wk V w).1
def gdn (L E : Int → Prop) (a b : Int) : Nat → Int → Prop
  | 0, _ => False
  | n + 1, x => L x ∧ (E x ∨ ∃ d, a ≤ d ∧ d ≤ b ∧ gdn L E a b n (x + d))
def GD (L E : Int → Prop) (a b x : Int) : Prop := ∃ n, gdn L E a b n x
theorem GD_eq {L E : Int → Prop} {a b x : Int} : GD L E a b x ↔ L x ∧ (E x ∨ ∃ d, a ≤ d ∧ d ≤ b ∧ GD L E a b (x + d)) := by
  constructor
  · rintro ⟨n, hn⟩
    cases n with
    | zero => exact hn.elim
    | succ n =>
      obtain ⟨h1, h2⟩ := hn
      refine ⟨h1, ?_⟩
      rcases h2 with h | ⟨d, d1, d2, d3⟩
      · exact Or.inl h
      · exact Or.inr ⟨d, d1, d2, n, d3⟩
  · rintro ⟨h1, h2⟩
    rcases h2 with h | ⟨d, d1, d2, n, d3⟩
    · exact ⟨1, h1, Or.inl h⟩
    · exact ⟨n + 1, h1, Or.inr ⟨d, d1, d2, d3⟩⟩
theorem GD.L {L E : Int → Prop} {a b x : Int} (h : GD L E a b x) : L x := (GD_eq.mp h).1
theorem gdn_mono {L E : Int → Prop} {a b a' b' : Int} (ha : a' ≤ a) (hb : b ≤ b') : ∀ (n : Nat) (x : Int), gdn L E a b n x → gdn L E a' b' n x
  | 0, _, h => h
  | n + 1, x, h => by
    obtain ⟨h1, h2⟩ := h
    refine ⟨h1, ?_⟩
    rcases h2 with q | ⟨d, d1, d2, d3⟩
    · exact Or.inl q
    · exact Or.inr ⟨d, by omega, by omega, gdn_mono ha hb n _ d3⟩
theorem GD.mono {L E : Int → Prop} {a b a' b' x : Int} (h : GD L E a b x) (ha : a' ≤ a) (hb : b ≤ b') : GD L E a' b' x := by
  obtain ⟨n, hn⟩ := h
  exact ⟨n, gdn_mono ha hb n x hn⟩
/-- the nearest from x on -/
def NRx (P : Int → Prop) (x v : Int) : Prop := (v = 1000000 ∧ ∀ y, x ≤ y → ¬ P y) ∨ (x ≤ v ∧ P v ∧ ∀ y, x ≤ y → y < v → ¬ P y)
theorem NRx_le {P : Int → Prop} {x v c : Int} (h : NRx P x v) (hc : c < 1000000) : v ≤ c ↔ ∃ y, x ≤ y ∧ y ≤ c ∧ P y := by
  rcases h with ⟨h1, h2⟩ | ⟨h1, h2, h3⟩
  · exact ⟨fun q => absurd q (by omega), fun ⟨y, y1, y2, y3⟩ => absurd y3 (h2 y y1)⟩
  · refine ⟨fun q => ⟨v, h1, q, h2⟩, fun ⟨y, y1, y2, y3⟩ => ?_⟩
    refine Classical.byContradiction (fun q => h3 y y1 (by omega) y3)
theorem NRx_skip {P : Int → Prop} {x v : Int} (h : NRx P (x + 1) v) (hn : ¬ P x) : NRx P x v := by
  have key : ∀ y, x ≤ y → y = x ∨ x + 1 ≤ y := fun y hy => by omega
  rcases h with ⟨h1, h2⟩ | ⟨h1, h2, h3⟩
  · refine Or.inl ⟨h1, fun y hy => ?_⟩
    rcases key y hy with e | e
    · rw [e]
      exact hn
    · exact h2 y e
  · refine Or.inr ⟨by omega, h2, fun y hy hv => ?_⟩
    rcases key y hy with e | e
    · rw [e]
      exact hn
    · exact h3 y e hv
theorem NRx_here {P : Int → Prop} {x : Int} (h : P x) : NRx P x x := Or.inr ⟨Int.le_refl _, h, fun y h1 h2 => absurd h2 (by omega)⟩
/-- what is known of the course: nothing LAWFUL behind the last, the END from ndx on -/
theorem en_i {V : PV} {w s : Nat} {x : Int} (h0 : 0 ≤ x) : ENx V w s x ↔ ndx V w s ≤ x := by
  unfold ENx ndx
  split <;> omega
theorem nd_in {V : PV} {w s : Nat} {x d : Int} (hx : 0 ≤ x) (h : x < ndx V w s) (hd : d ≤ (wk V w).2.2.1) : x + d ≤ lst V w s := by
  unfold ndx at h
  unfold lst
  split at h <;> split <;> omega
theorem k_first {V : PV} {day : Int32} {w s t : Nat} {p0 p1 r : Int32} {G G1 : GS} (h : P_tFirst p0 p1 G r G1) (hC : CrsC V day w s t G) (hk : WKok (wk V w)) (hl4 : (stl V s : Int) ≤ 400) (h1 : 1 ≤ p0.toInt) (h2 : p0.toInt ≤ p1.toInt) (h3 : p1.toInt ≤ (wk V w).2.2.1) : NRx (GD (LWF V day w s t) (ENx V w s) p0.toInt p1.toInt) 0 r.toInt := by
  obtain ⟨⟨c1, c2, c3, c4, c5, c6, c7⟩, hlw⟩ := hC
  have hf := hk.1
  have hm60 := hk.2.2.2.2.1
  obtain ⟨P, hP⟩ : ∃ P, P = GD (LWF V day w s t) (ENx V w s) p0.toInt p1.toInt := ⟨_, rfl⟩
  rw [← hP]
  have hrec : ∀ x, P x ↔ LWF V day w s t x ∧ (ENx V w s x ∨ ∃ d, p0.toInt ≤ d ∧ d ≤ p1.toInt ∧ P (x + d)) := by
    intro x
    rw [hP]
    exact GD_eq
  have hPl : ∀ x, P x → 0 ≤ x ∧ x ≤ lst V w s := fun x q => ⟨(lw_r ((hrec x).mp q).1 hf).1, (lw_r ((hrec x).mp q).1 hf).2.1⟩
  have hl1 : -1 ≤ lst V w s ∧ lst V w s < (stl V s : Int) := by
    unfold lst
    split <;> omega
  obtain ⟨-, -, y2, t2, G3, -, hF3, w3, x8, G4, hl, -, -, hF4, c8, y13, e13, rfl, rfl⟩ := h
  have hfar : (1000000 : Int32).toInt = 1000000 := rfl
  rw [cn_eq (x := y2) (e := (lst V w s + 1).toNat) (by omega)] at w3
  have hbase : ∀ x : Nat, (lst V w s + 1).toNat ≤ x → (x : Int) ≤ lst V w s + 1 → NRx P (x : Int) (G3.1 42 x).toInt := by
    intro x hx1 hx2
    have e : x = (lst V w s + 1).toNat := by omega
    subst e
    rw [w3, ud_at]
    exact Or.inl ⟨hfar, fun y hy q => by have := (hPl y q).2; omega⟩
  have hI := hl (fun q => Fr [42] [] G q.2 ∧ ∃ m : Nat, q.1.toInt = (m : Int) - 1 ∧ (m : Int) ≤ lst V w s + 1 ∧ ∀ x : Nat, m ≤ x → (x : Int) ≤ lst V w s + 1 → NRx P (x : Int) (q.2.1 42 x).toInt) ⟨hF3, (lst V w s + 1).toNat, by show (G.1 7 6).toInt = _; omega, by omega, hbase⟩ (by
    rintro ⟨a1, b0⟩ ⟨n1, bn⟩ ⟨i0, m, i1, i2, i3⟩ ⟨x1, g, u1, gn, q1, q2, -, -, c0, hd⟩
    obtain ⟨rfl, rfl⟩ := Prod.mk.inj q1
    obtain ⟨rfl, rfl⟩ := Prod.mk.inj q2
    simp only at i0 i1 i3
    obtain ⟨k, rfl⟩ : ∃ k, m = k + 1 := ⟨m - 1, by omega⟩
    have hk1 : a1.toInt = (k : Int) := by omega
    have r40 : b0.1 40 = G.1 40 := i0.row1 40 (by decide) (by decide)
    have hlk := (hlw k (by omega)).2
    have hnx := i3 (k + 1) (Nat.le_refl _) (by omega)
    have hen := en_i (V := V) (w := w) (s := s) (x := (k : Int)) (by omega)
    -- what leads on
    have lead : ∀ {y35 y36 : Int32} {n : Nat}, (k : Int) < ndx V w s → (n : Int) = (k : Int) + p0.toInt → y35 = b0.1 42 n → y36.toInt = (k : Int) + p1.toInt → (y35.toInt ≤ y36.toInt ↔ ∃ d, p0.toInt ≤ d ∧ d ≤ p1.toInt ∧ P ((k : Int) + d)) := by
      intro y35 y36 n hkn hn e35 t36
      have hin := nd_in (V := V) (w := w) (s := s) (x := (k : Int)) (d := p1.toInt) (by omega) hkn h3
      have hq := i3 n (by omega) (by omega)
      rw [← e35, hn] at hq
      refine (NRx_le hq (c := y36.toInt) (by omega)).trans ⟨fun ⟨y, g1, g2, g3⟩ => ⟨y - (k : Int), by omega, by omega, by rw [show (k : Int) + (y - (k : Int)) = y by omega]; exact g3⟩, fun ⟨d, g1, g2, g3⟩ => ⟨(k : Int) + d, by omega, by omega, g3⟩⟩
    have fin : ∀ {Gz : GS} {y v : Int32}, y.toInt = a1.toInt + -1 → Fr [42] [] b0 Gz → Gz.1 42 = upd (b0.1 42) a1.toNatClampNeg v → NRx P (k : Int) v.toInt → Fr [42] [] G Gz ∧ ∃ m : Nat, y.toInt = (m : Int) - 1 ∧ (m : Int) ≤ lst V w s + 1 ∧ ∀ x : Nat, m ≤ x → (x : Int) ≤ lst V w s + 1 → NRx P (x : Int) (Gz.1 42 x).toInt := by
      intro Gz y v ty hF w42 hv
      refine ⟨i0.call hF (by decide) (by decide), k, by clear lead hlk hen; omega, by clear lead hlk hen; omega, fun x hx1 hx2 => ?_⟩
      rw [cn_eq hk1] at w42
      rw [w42]
      by_cases hxk : x = k
      · subst hxk
        rw [ud_at]
        exact hv
      · rw [ud_no hxk]
        exact i3 x (by omega) hx2
    have hnx' : NRx P ((k : Int) + 1) (b0.1 42 (k + 1)).toInt := by
      have e : ((k + 1 : Nat) : Int) = (k : Int) + 1 := by omega
      rw [e] at hnx
      exact hnx
    have not : ¬ P (k : Int) → NRx P (k : Int) (b0.1 42 (k + 1)).toInt := fun q => NRx_skip hnx' q
    rcases hd with ⟨f, y34, t34, y35, e35, y36, t36, g36, y38, e38, hd⟩ | ⟨G20, hj, -, hF20, y24, e24, hd⟩
    · have hkn : (k : Int) < ndx V w s := by clear lead hlk hen; omega
      rw [cn_eq (x := y34) (e := k + p0.toInt.toNat) (by clear lead hlk hen; omega)] at e35
      have hld := lead hkn (by omega) e35 (by rw [t36, hk1])
      have hnP : ¬ P (k : Int) := by
        intro q
        rcases ((hrec _).mp q).2 with e | e
        · have := hen.mp e
          clear lead hlk hen hld
          omega
        · have := hld.mpr e
          clear lead hlk hen hld
          omega
      rcases hd with ⟨-, y40, t40, y41, e41, y43, t43, ex, hF, w42⟩ | ⟨-, y45, t45, y46, e46, y48, t48, ex, hF, w42⟩
      · rw [cn_eq (x := y40) (e := k + 1) (by clear lead hlk hen hld; omega)] at e41
        exact fin (by show n1.toInt = _; rw [← ex]; exact t43) hF w42 (by rw [e41]; exact not hnP)
      · rw [cn_eq (x := y45) (e := k + 1) (by clear lead hlk hen hld; omega)] at e46
        exact fin (by show n1.toInt = _; rw [← ex]; exact t48) hF w42 (by rw [e46]; exact not hnP)
    · obtain rfl := hF20.nil
      have hld : ENx V w s (k : Int) ∨ ∃ d, p0.toInt ≤ d ∧ d ≤ p1.toInt ∧ P ((k : Int) + d) := by
        rcases hj with ⟨f, -⟩ | ⟨f, y34, t34, y35, e35, y36, t36, g36, -⟩
        · exact Or.inl (hen.mpr (by clear lead hlk hen; omega))
        · have hkn : (k : Int) < ndx V w s := by clear lead hlk hen; omega
          rw [cn_eq (x := y34) (e := k + p0.toInt.toNat) (by clear lead hlk hen; omega)] at e35
          exact Or.inr ((lead hkn (by omega) e35 (by rw [t36, hk1])).mp g36)
      rw [cn_eq hk1, r40] at e24
      rw [← e24] at hlk
      rcases hd with ⟨g, y26, t26, y27, e27, y29, t29, ex, hF, w42⟩ | ⟨g, y32, t32, ex, hF, w42⟩
      · rw [cn_eq (x := y26) (e := k + 1) (by clear lead hlk hen; omega)] at e27
        exact fin (by show n1.toInt = _; rw [← ex]; exact t29) hF w42 (by rw [e27]; exact not (fun q => (hlk.mpr ((hrec _).mp q).1) g))
      · refine fin (by show n1.toInt = _; rw [← ex]; exact t32) hF w42 ?_
        rw [hk1]
        exact NRx_here ((hrec _).mpr ⟨hlk.mp g, hld⟩))
  obtain ⟨i0, m, i1, i2, i3⟩ := hI
  simp only at i1 i3
  have e13' : y13 = G4.1 42 0 := e13
  rw [e13']
  exact i3 0 (by omega) (by omega)
theorem k_evenly {V : PV} {day : Int32} {w s t : Nat} {p0 r : Int32} {G G1 : GS} (h : P_tEvenly p0 G r G1) (hC : CrsC V day w s t G) (hk : WKok (wk V w)) (hl4 : (stl V s : Int) ≤ 400) (h1 : 1 ≤ p0.toInt) (h3 : p0.toInt ≤ (wk V w).2.2.1) : r.toInt ≠ 0 ↔ ∃ x, 0 ≤ x ∧ x < (wk V w).2.2.1 ∧ GD (LWF V day w s t) (ENx V w s) p0.toInt p0.toInt x := by
  obtain ⟨-, -, -, r5, G6, hf, hh⟩ := h
  have hn := k_first hf hC hk hl4 h1 (Int.le_refl _) h3
  have c4 := hC.1.2.2.2.1
  have hm60 := hk.2.2.2.2.1
  have hq := NRx_le hn (c := (wk V w).2.2.1 - 1) (by omega)
  have z0 : (0 : Int32).toInt = 0 := rfl
  have o1 : (1 : Int32).toInt = 1 := rfl
  rcases hh with ⟨c, rfl, -⟩ | ⟨c, rfl, -⟩
  · refine ⟨fun q => absurd z0 q, fun ⟨x, a, b, d⟩ => ?_⟩
    have := hq.mpr ⟨x, a, by omega, d⟩
    clear hq
    omega
  · refine ⟨fun _ => ?_, fun _ => by rw [o1]; decide⟩
    obtain ⟨x, a, b, d⟩ := hq.mp (by clear hq; omega)
    exact ⟨x, a, by clear hq; omega, d⟩
/-- the reference: even steps to the END -/
theorem q_isEnd_eq {V : PV} {day : Int32} {w s t : Nat} {p0 r : Int32} {G G1 : GS} (h : Q_isEnd p0 G r G1) (hC : CrsM V day w s t G) (h0 : 0 ≤ p0.toInt) (hm : 1 ≤ (wk V w).2.2.1) : G = G1 ∧ (r.toInt ≠ 0 ↔ ENx V w s p0.toInt) := by
  obtain ⟨⟨c1, c2, c3, c4, c5⟩, -⟩ := hC
  obtain ⟨-, hF, hr, hp, -⟩ := h
  rw [c1, c2, c4] at hp
  refine ⟨hF.nil, ?_⟩
  unfold ENx
  constructor
  · intro q
    have := hp.2 h0 (by omega)
    omega
  · intro q q2
    have := hp.1 q2
    omega
theorem m_comes {V : PV} {day : Int32} {w s t : Nat} {p0 p1 r : Int32} {G G1 : GS} (h : Q_comesToEnd p0 p1 G r G1) (hC : CrsM V day w s t G) (hk : WKok (wk V w)) (hl4 : (stl V s : Int) ≤ 400) (h0 : 0 ≤ p0.toInt) (h1 : 1 ≤ p1.toInt) : G = G1 ∧ (r.toInt = 0 ∨ r.toInt = 1) ∧ (r.toInt ≠ 0 ↔ GD (LWF V day w s t) (ENx V w s) p1.toInt p1.toInt p0.toInt) := by
  obtain ⟨-, hFr, hr, x5, G2, hl, hx5, -, -, y9, e9, hh⟩ := h
  refine ⟨hFr.nil, by omega, ?_⟩
  have hm1 : 1 ≤ (wk V w).2.2.1 := by have := hk.2.2.1; have := hk.2.2.2.1; omega
  obtain ⟨P, hP⟩ : ∃ P, P = GD (LWF V day w s t) (ENx V w s) p1.toInt p1.toInt := ⟨_, rfl⟩
  rw [← hP]
  have hrec : ∀ x, P x ↔ LWF V day w s t x ∧ (ENx V w s x ∨ ∃ d, p1.toInt ≤ d ∧ d ≤ p1.toInt ∧ P (x + d)) := by
    intro x
    rw [hP]
    exact GD_eq
  have hI := hl (fun q => q.2 = G ∧ 0 ≤ q.1.toInt ∧ (P p0.toInt ↔ P q.1.toInt)) ⟨rfl, h0, Iff.rfl⟩ (by
    rintro ⟨a1, b0⟩ ⟨n1, bn⟩ ⟨i0, i1, i2⟩ ⟨x1, g, u1, gn, q1, q2, hx, -, y9', e9', c9, r18, G19, hen, c18, y26, t26, ex, eG⟩
    obtain ⟨rfl, rfl⟩ := Prod.mk.inj q1
    obtain ⟨rfl, rfl⟩ := Prod.mk.inj q2
    simp only at i0 i1 i2
    subst i0
    obtain ⟨rfl, ke⟩ := q_isEnd_eq hen hC i1 hm1
    have ht : n1.toInt = a1.toInt + p1.toInt := by rw [← ex]; exact t26
    refine ⟨eG.symm, by show 0 ≤ n1.toInt; clear i2 ke; omega, i2.trans ?_⟩
    show P a1.toInt ↔ P n1.toInt
    have e1 : ((a1.toInt.toNat : Nat) : Int) = a1.toInt := by clear i2 ke; omega
    have hv := (hC.2 a1.toInt.toNat (by clear i2 ke; omega)).2
    rw [e1] at hv
    have ey : y9' = b0.1 98 a1.toInt.toNat := e9'
    rw [← ey] at hv
    rw [hrec a1.toInt, ht]
    constructor
    · rintro ⟨-, q | ⟨d, d1, d2, d3⟩⟩
      · exact absurd c18 (ke.mpr q)
      · have : d = p1.toInt := by clear i2 ke hv; omega
        rw [← this]
        exact d3
    · intro q
      exact ⟨hv.mp c9, Or.inr ⟨p1.toInt, Int.le_refl _, Int.le_refl _, q⟩⟩)
  obtain ⟨i0, i1, i2⟩ := hI
  simp only at i0 i1 i2
  subst i0
  have e1 : ((x5.toInt.toNat : Nat) : Int) = x5.toInt := by clear i2 hh; omega
  have hv := (hC.2 x5.toInt.toNat (by clear i2 hh; omega)).2
  rw [e1] at hv
  have ey : y9 = G2.1 98 x5.toInt.toNat := e9
  rw [← ey] at hv
  rcases hh with ⟨f, y11, e11, rfl, -⟩ | ⟨f, r18, G19, hen, c18, y25, e25, rfl, -⟩
  · have e : y11.toInt = 0 := by
      have : y11 = G2.1 98 x5.toInt.toNat := e11
      rw [this, ← ey]
      exact f
    exact ⟨fun q => absurd e q, fun q => absurd f (hv.mpr ((hrec _).mp (i2.mp q)).1)⟩
  · obtain ⟨rfl, ke⟩ := q_isEnd_eq hen hC i1 hm1
    have e : y25 = y9 := by
      have : y25 = G2.1 98 x5.toInt.toNat := e25
      rw [this, ← ey]
    rw [e]
    exact ⟨fun q => i2.mpr ((hrec _).mpr ⟨hv.mp q, Or.inl (ke.mp c18)⟩), fun _ => f⟩
