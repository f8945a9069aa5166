/-! formulas by the reference: the small pieces -/
def StkM (S : List Int) (G : GS) : Prop := (G.1 66 20).toInt = (S.length : Int) ∧ ∀ i, i < S.length → (G.1 75 (S.length - 1 - i)).toInt = S.getD i 0
def CodeM (f : Nat) (C : List (Int × Int)) (G : GS) : Prop := (G.1 71 f).toInt = (C.length : Int) ∧ ∀ i, i < C.length → (G.1 69 (320 * f + i)).toInt = (C.getD i (0, 0)).1 ∧ (G.1 70 (320 * f + i)).toInt = (C.getD i (0, 0)).2
theorem StkM.fr {S : List Int} {rs : List Nat} {fs : List (Nat × Nat)} {G G1 : GS} (h : StkM S G) (hF : Fr rs fs G G1) (h1 : 66 ∉ rs) (h2 : (66, 20) ∉ fs) (h3 : 75 ∉ rs) (h4 : ∀ x ∈ fs, x.1 ≠ 75) : StkM S G1 := by
  unfold StkM at h ⊢
  rw [hF.i 66 20 h1 h2, hF.row1 75 h3 h4]
  exact h
theorem CodeM.fr {f : Nat} {C : List (Int × Int)} {rs : List Nat} {fs : List (Nat × Nat)} {G G1 : GS} (h : CodeM f C G) (hF : Fr rs fs G G1) (h1 : 69 ∉ rs ∧ 70 ∉ rs ∧ 71 ∉ rs) (h2 : ∀ x ∈ fs, x.1 ≠ 69 ∧ x.1 ≠ 70 ∧ x.1 ≠ 71) : CodeM f C G1 := by
  unfold CodeM at h ⊢
  rw [hF.row1 69 h1.1 (fun x hx => (h2 x hx).1), hF.row1 70 h1.2.1 (fun x hx => (h2 x hx).2.1), hF.row1 71 h1.2.2 (fun x hx => (h2 x hx).2.2)]
  exact h
theorem m_tight {o r : Int32} {G G1 : GS} (h : Q_tight o G r G1) : G = G1 ∧ r.toInt = tgt o.toInt := by
  obtain ⟨-, hF, -, h⟩ := h
  refine ⟨hF.nil, ?_⟩
  unfold tgt
  rcases h with ⟨c, rfl, -⟩ | ⟨c, ⟨d, rfl, -⟩ | ⟨d, ⟨e, rfl, -⟩ | ⟨e, ⟨f, rfl, -⟩ | ⟨f, ⟨g, rfl, -⟩ | ⟨g, ⟨i, rfl, -⟩ | ⟨i, ⟨j, rfl, -⟩ | ⟨j, ⟨k, rfl, -⟩ | ⟨k, rfl, -⟩⟩⟩⟩⟩⟩⟩⟩
  · rw [c]; rfl
  · rw [d]; rfl
  · rw [e]; rfl
  · rw [f]; rfl
  · rw [g]; rfl
  · rw [i]; rfl
  · rw [j]; rfl
  · rw [k]; rfl
  · rw [if_neg k, if_neg d, if_neg c, if_neg (by omega), if_neg (by omega)]
    rfl
theorem m_add {f : Nat} {C : List (Int × Int)} {s v : Int32} {G G1 : GS} (h : Q_add s v G G1) (hf : (G.1 66 19).toInt = (f : Int)) (hC : CodeM f C G) : CodeM f (C ++ [(s.toInt, v.toInt)]) G1 := by
  obtain ⟨-, -, -, y2, t2, y3, e3, y5, t5, y7, t7, y8, e8, y10, t10, y12, e12, y14, t14, -, e69, e70, e71⟩ := h
  obtain ⟨h1, h2⟩ := hC
  rw [cn_eq hf] at e3 e8 e12 e71
  subst e3
  subst e8
  subst e12
  unfold CodeM
  rw [List.length_append, List.length_singleton, e69, e70, e71, cn_eq (e := 320 * f + C.length) (by omega), cn_eq (x := y10) (e := 320 * f + C.length) (by omega)]
  refine ⟨?_, fun i hi => ?_⟩
  · have e : upd (G.1 71) f y14 f = y14 := if_pos rfl
    rw [e]
    omega
  · rw [getD_sn]
    by_cases hq : i < C.length
    · have e1 : ∀ (g : Nat → Int32) (x : Int32), upd g (320 * f + C.length) x (320 * f + i) = g (320 * f + i) := fun g x => if_neg (by omega)
      rw [if_pos hq, e1, e1]
      exact h2 i hq
    · have e1 : ∀ (g : Nat → Int32) (x : Int32), upd g (320 * f + C.length) x (320 * f + i) = x := fun g x => if_pos (by omega)
      rw [if_neg hq, if_pos (by omega), e1, e1]
      exact ⟨rfl, rfl⟩
theorem stk_top {o : Int} {S : List Int} {G : GS} {x y : Int32} (h : StkM (o :: S) G) (hx : x.toInt = (G.1 66 20).toInt - 1) (hy : y = G.1 75 x.toNatClampNeg) : y.toInt = o := by
  have h1 := h.2 0 (by simp)
  have h0 := h.1
  rw [List.length_cons] at h0 h1
  rw [hy, cn_eq (e := S.length) (by omega)]
  simpa using h1
theorem stk_pop {o : Int} {S : List Int} {G G1 : GS} {rs : List Nat} {fs : List (Nat × Nat)} (h : StkM (o :: S) G) (hF : Fr rs fs G G1) (h3 : 75 ∉ rs) (h4 : ∀ x ∈ fs, x.1 ≠ 75) (h5 : (G1.1 66 20).toInt = (G.1 66 20).toInt - 1) : StkM S G1 := by
  have h0 := h.1
  rw [List.length_cons] at h0
  refine ⟨by omega, fun i hi => ?_⟩
  rw [hF.row1 75 h3 h4]
  have h1 := h.2 (i + 1) (by simp; omega)
  rw [List.length_cons, show S.length + 1 - 1 - (i + 1) = S.length - 1 - i by omega] at h1
  simpa using h1
theorem stk_push {o : Int32} {S : List Int} {G G1 : GS} (h : StkM S G) (h5 : (G1.1 66 20).toInt = (G.1 66 20).toInt + 1) (h6 : G1.1 75 = upd (G.1 75) (G.1 66 20).toNatClampNeg o) : StkM (o.toInt :: S) G1 := by
  have h0 := h.1
  refine ⟨by rw [List.length_cons]; omega, fun i hi => ?_⟩
  rw [h6, cn_eq h0, List.length_cons]
  rw [List.length_cons] at hi
  cases i with
  | zero =>
    have e : upd (G.1 75) S.length o (S.length + 1 - 1 - 0) = o := if_pos (by omega)
    rw [e]
    rfl
  | succ i =>
    have e : upd (G.1 75) S.length o (S.length + 1 - 1 - (i + 1)) = G.1 75 (S.length + 1 - 1 - (i + 1)) := if_neg (by omega)
    rw [e, show S.length + 1 - 1 - (i + 1) = S.length - 1 - i by omega, h.2 i (by omega)]
    simp
theorem m_close {f : Nat} {L : Int32} {S : List Int} {C : List (Int × Int)} {G G1 : GS} (h : Q_close L G G1) (hf : (G.1 66 19).toInt = (f : Int)) (hS : StkM S G) (hd : (G.1 66 24).toInt = (dps S : Int)) (hC : CodeM f C G) : StkM (clo L.toInt S C).1 G1 ∧ (G1.1 66 24).toInt = (dps (clo L.toInt S C).1 : Int) ∧ CodeM f (clo L.toInt S C).2 G1 := by
  obtain ⟨-, -, -, G_1, hRc, -, -, -, -, -, -, -, -, -, -, hh⟩ := h
  have hI := hRc (fun x => Fr [69, 70, 71] [(66, 20), (66, 24)] G x ∧ ∃ S' C', clo L.toInt S C = clo L.toInt S' C' ∧ StkM S' x ∧ (x.1 66 24).toInt = (dps S' : Int) ∧ CodeM f C' x) ⟨Fr.rf, S, C, rfl, hS, hd, hC⟩ (by
    clear hh
    rintro x y ⟨hF, S', C', hcl, hS', hd', hC'⟩ ⟨G_2, G_3, rfl, rfl, -, -, -, -, -, -, -, -, -, c1, y21, t21, y22, e22, c22, y25, t25, y26, e26, r28, G29, ht, c28, y50, t50, y52, e52, hh⟩
    have hfx : (x.1 66 19).toInt = (f : Int) := by rw [hF.i 66 19 (by decide) (by decide)]; exact hf
    obtain ⟨rfl, hr⟩ := m_tight ht
    cases S' with
    | nil =>
      have := hS'.1
      simp at this
      omega
    | cons o S' =>
      have v22 := stk_top hS' t21 e22
      have v26 := stk_top hS' t25 e26
      have v52 := stk_top hS' t50 e52
      rw [v26] at hr
      rw [clo, if_pos ⟨by omega, by omega⟩] at hcl
      rcases hh with ⟨c52, G51, -, hF51, e20, G82, ha, y86, t86, hF2, e24⟩ | ⟨c52, y58, e58, G51, -, hF51, e20, G64, ha, eG⟩
      · have ho : o = 21 := by omega
        subst ho
        have hS51 : StkM S' G51 := stk_pop hS' hF51 (by decide) (by decide) (by rw [e20]; omega)
        have hC51 : CodeM f C' G51 := hC'.fr hF51 (by decide) (by decide)
        have hC82 : CodeM f (C' ++ [cdo 21]) G82 := m_add ha (by rw [hF51.i 66 19 (by decide) (by decide)]; exact hfx) hC51
        refine ⟨((hF.call hF51 (by decide) (by decide)).call ha.2.1 (by decide) (by decide)).call hF2 (by decide) (by decide), S', _, hcl, (hS51.fr ha.2.1 (by decide) (by decide) (by decide) (by decide)).fr hF2 (by decide) (by decide) (by decide) (by decide), ?_, hC82.fr hF2 (by decide) (by decide)⟩
        rw [dps, if_pos (Or.inr rfl)] at hd'
        rw [e24]
        omega
      · have hS51 : StkM S' G51 := stk_pop hS' hF51 (by decide) (by decide) (by rw [e20]; omega)
        have hC51 : CodeM f C' G51 := hC'.fr hF51 (by decide) (by decide)
        have v58 := stk_top hS' t50 e58
        have hC64 : CodeM f (C' ++ [((3 : Int32).toInt, y58.toInt)]) G64 := m_add ha (by rw [hF51.i 66 19 (by decide) (by decide)]; exact hfx) hC51
        have hcd : cdo o = ((3 : Int32).toInt, y58.toInt) := by
          rw [cdo, if_neg (by omega), v58]
          rfl
        rw [hcd] at hcl
        subst eG
        refine ⟨(hF.call hF51 (by decide) (by decide)).call ha.2.1 (by decide) (by decide), S', _, hcl, hS51.fr ha.2.1 (by decide) (by decide) (by decide) (by decide), ?_, hC64⟩
        rw [dps, if_neg (by omega)] at hd'
        rw [ha.2.1.i 66 24 (by decide) (by decide), hF51.i 66 24 (by decide) (by decide)]
        exact hd')
  obtain ⟨hF, S', C', hcl, hS', hd', hC'⟩ := hI
  have fin : clo L.toInt S' C' = (S', C') → G_1 = G1 → StkM (clo L.toInt S C).1 G1 ∧ (G1.1 66 24).toInt = (dps (clo L.toInt S C).1 : Int) ∧ CodeM f (clo L.toInt S C).2 G1 := by
    intro e eG
    subst eG
    rw [hcl, e]
    exact ⟨hS', hd', hC'⟩
  cases S' with
  | nil =>
    rcases hh with ⟨c, eG⟩ | ⟨c, -⟩
    · exact fin rfl eG
    · have := hS'.1
      simp at this
      omega
  | cons o S' =>
    rcases hh with ⟨c, -⟩ | ⟨c, y21, t21, y22, e22, ⟨c22, eG⟩ | ⟨c22, y25, t25, y26, e26, r28, G29, ht, c28, eG⟩⟩
    · have := hS'.1
      simp at this
      omega
    · have v22 := stk_top hS' t21 e22
      exact fin (by rw [clo, if_neg (fun q => q.1 (by omega))]) eG
    · obtain ⟨rfl, hr⟩ := m_tight ht
      have v26 := stk_top hS' t25 e26
      rw [v26] at hr
      exact fin (by rw [clo, if_neg (fun q => by omega)]) eG
theorem m_mayNot {S : List Int} {r : Int32} {G G1 : GS} (h : Q_mayNot G r G1) (hS : StkM S G) : G = G1 ∧ (r.toInt ≠ 0 ↔ mno S = true) := by
  obtain ⟨-, hF, -, hh⟩ := h
  have z : (0 : Int32).toInt = 0 := rfl
  have o1 : (1 : Int32).toInt = 1 := rfl
  refine ⟨hF.nil, ?_⟩
  cases S with
  | nil =>
    have := hS.1
    simp at this
    rcases hh with ⟨c, rfl, -⟩ | ⟨c, -⟩
    · exact ⟨fun _ => rfl, fun _ => by omega⟩
    · omega
  | cons o S =>
    have h0 := hS.1
    rw [List.length_cons] at h0
    rw [mno, decide_eq_true_iff]
    rcases hh with ⟨c, -⟩ | ⟨c, y3, t3, y4, e4, ⟨c4, rfl, -⟩ | ⟨c4, y6, t6, y7, e7, r8, G9, ht, ⟨c8, rfl, -⟩ | ⟨c8, rfl, -⟩⟩⟩
    · omega
    · have := stk_top hS t3 e4
      exact ⟨fun _ => Or.inl (by omega), fun _ => by omega⟩
    · have v4 := stk_top hS t3 e4
      have v7 := stk_top hS t6 e7
      have hr := (m_tight ht).2
      rw [v7] at hr
      exact ⟨fun q => by omega, fun q => by omega⟩
    · have v4 := stk_top hS t3 e4
      have v7 := stk_top hS t6 e7
      have hr := (m_tight ht).2
      rw [v7] at hr
      exact ⟨fun q => Or.inr (by omega), fun q => by omega⟩
theorem m_isFull {r : Int32} {G G1 : GS} (h : Q_isFull G r G1) : G = G1 ∧ (r.toInt ≠ 0 ↔ ((G.1 66 21).toInt = 90 ∨ (G.1 66 23).toInt = 30)) := by
  obtain ⟨-, hF, -, -, hh⟩ := h
  have z : (0 : Int32).toInt = 0 := rfl
  have o1 : (1 : Int32).toInt = 1 := rfl
  refine ⟨hF.nil, ?_⟩
  rcases hh with ⟨c, rfl, -⟩ | ⟨c, ⟨c2, rfl, -⟩ | ⟨c2, rfl, -⟩⟩ <;> omega
theorem h_at {S : List Int} {G : GS} {j : Nat} (h : StkM S G) (hj : j < S.length) : (G.1 75 (S.length - 1 - j)).toInt = S.getD j 0 := h.2 j hj
theorem stk_at {S : List Int} {G : GS} {k : Nat} (h : StkM S G) (hk : k < S.length) : (G.1 75 k).toInt = S.getD (S.length - 1 - k) 0 := by
  have := h.2 (S.length - 1 - k) (by omega)
  rw [show S.length - 1 - (S.length - 1 - k) = k by omega] at this
  exact this
theorem mem_getD_i {S : List Int} {x : Int} : x ∈ S ↔ ∃ k, k < S.length ∧ S.getD k 0 = x := by
  rw [List.mem_iff_getElem]
  refine ⟨fun ⟨k, hk, e⟩ => ⟨k, hk, ?_⟩, fun ⟨k, hk, e⟩ => ⟨k, hk, ?_⟩⟩
  · rw [List.getD_eq_getElem?_getD, List.getElem?_eq_getElem hk]
    exact e
  · rw [List.getD_eq_getElem?_getD, List.getElem?_eq_getElem hk] at e
    exact e
theorem m_hasBracket {S : List Int} {r : Int32} {G G1 : GS} (h : Q_hasBracket G r G1) (hS : StkM S G) : G = G1 ∧ (r.toInt ≠ 0 ↔ (20 : Int) ∈ S) := by
  obtain ⟨-, hF, -, -, x6, x7, G2, hRc, -, -, -, -, -, -, c6, e7, -⟩ := h
  have z : (0 : Int32).toInt = 0 := rfl
  have o1 : (1 : Int32).toInt = 1 := rfl
  refine ⟨hF.nil, ?_⟩
  have hI := hRc (fun q => G = q.2.2 ∧ ∃ k : Nat, q.1.toInt = (k : Int) ∧ k ≤ S.length ∧ (q.2.1.toInt ≠ 0 ↔ ∃ j, j < k ∧ (G.1 75 j).toInt = 20)) ⟨rfl, 0, z, Nat.zero_le _, fun q => absurd z q, fun ⟨j, hj, _⟩ => by omega⟩ (by
    rintro ⟨x, f, G_1⟩ ⟨xn, fn, G_1n⟩ ⟨h1, k, h2, h3, h4⟩ ⟨xq, fq, Gq, xnq, fnq, Gnq, e1, e2, -, -, -, -, -, c1, hh⟩
    obtain ⟨rfl, e3⟩ := Prod.mk.inj e1
    obtain ⟨rfl, rfl⟩ := Prod.mk.inj e3
    obtain ⟨rfl, e4⟩ := Prod.mk.inj e2
    obtain ⟨rfl, rfl⟩ := Prod.mk.inj e4
    simp only at h1 h2 h4
    subst h1
    have h0 := hS.1
    have ext : ∀ y : Int32, y.toInt = x.toInt + 1 → (fn.toInt ≠ 0 ↔ (f.toInt ≠ 0 ∨ (G.1 75 k).toInt = 20)) → ∃ k : Nat, y.toInt = (k : Int) ∧ k ≤ S.length ∧ (fn.toInt ≠ 0 ↔ ∃ j, j < k ∧ (G.1 75 j).toInt = 20) := by
      intro y ty hy
      refine ⟨k + 1, by omega, by omega, hy.trans ⟨fun q => ?_, fun ⟨j, hj, e⟩ => ?_⟩⟩
      · rcases q with q | q
        · obtain ⟨j, hj, e⟩ := h4.mp q
          exact ⟨j, by omega, e⟩
        · exact ⟨k, by omega, q⟩
      · by_cases hjk : j = k
        · subst hjk
          exact Or.inr e
        · exact Or.inl (h4.mpr ⟨j, by omega, e⟩)
    rcases hh with ⟨c7, y23, e23, ⟨c23, y32, t32, ex, ef, eG⟩ | ⟨c23, y28, t28, ex, ef, eG⟩⟩ | ⟨c7, y20, t20, ex, ef, eG⟩
    · rw [cn_eq h2] at e23
      subst e23
      subst ex
      subst ef
      subst eG
      exact ⟨rfl, ext y32 t32 ⟨fun _ => Or.inr c23, fun _ => by omega⟩⟩
    · rw [cn_eq h2] at e23
      subst e23
      subst ex
      subst ef
      subst eG
      exact ⟨rfl, ext y28 t28 ⟨fun q => absurd z q, fun q => q.elim (fun q => absurd c7 q) (fun q => absurd q c23)⟩⟩
    · subst ex
      subst ef
      subst eG
      exact ⟨rfl, ext y20 t20 ⟨fun _ => Or.inl c7, fun _ => by omega⟩⟩)
  obtain ⟨-, k, h2, h3, h4⟩ := hI
  simp only at h2 h4
  subst e7
  have h0 := hS.1
  have hk : k = S.length := by omega
  subst hk
  rw [h4, mem_getD_i]
  refine ⟨fun ⟨j, hj, e⟩ => ⟨S.length - 1 - j, by omega, by rw [← stk_at hS hj]; exact e⟩, fun ⟨j, hj, e⟩ => ⟨S.length - 1 - j, by omega, by rw [h_at hS hj]; exact e⟩⟩
theorem m_hasRel {S : List Int} {r : Int32} {G G1 : GS} (h : Q_hasRelation G r G1) (hS : StkM S G) : G = G1 ∧ (r.toInt ≠ 0 ↔ hrl S = true) := by
  obtain ⟨-, hF, -, y2, t2, x7, G3, hRc, -, -, -, G13, hJ, -, -, hh⟩ := h
  have z : (0 : Int32).toInt = 0 := rfl
  have o1 : (1 : Int32).toInt = 1 := rfl
  have h0 := hS.1
  refine ⟨hF.nil, ?_⟩
  have topv : ∀ (T : List Int) (k : Nat), S.length = T.length + k → (∀ i, i < T.length → T.getD i 0 = S.getD (i + k) 0) → ∀ (o : Int) (T' : List Int), T = o :: T' → (G.1 75 T'.length).toInt = o := by
    intro T k hk hT o T' e
    subst e
    rw [List.length_cons] at hk
    rw [stk_at hS (by omega)]
    have := hT 0 (by simp)
    rw [show S.length - 1 - T'.length = 0 + k by omega, ← this]
    rfl
  have hI := hRc (fun q => G = q.2 ∧ ∃ (T : List Int) (k : Nat), hrl S = hrl T ∧ q.1.toInt = (T.length : Int) - 1 ∧ S.length = T.length + k ∧ ∀ i, i < T.length → T.getD i 0 = S.getD (i + k) 0) ⟨rfl, S, 0, rfl, by show y2.toInt = _; omega, by omega, fun i _ => rfl⟩ (by
    clear hh hJ
    rintro ⟨x, G_1⟩ ⟨xn, G_1n⟩ ⟨h1, T, k, h2, h3, h4, h5⟩ ⟨xq, Gq, xnq, Gnq, e1, e2, -, -, c1, y29, e29, c29, y31, e31, r32, G33, ht, c32, y39, t39, ex, eG⟩
    obtain ⟨rfl, rfl⟩ := Prod.mk.inj e1
    obtain ⟨rfl, rfl⟩ := Prod.mk.inj e2
    simp only at h1 h3
    subst h1
    obtain ⟨rfl, hr⟩ := m_tight ht
    subst ex
    subst eG
    cases T with
    | nil =>
      simp at h3
      omega
    | cons o T =>
      rw [List.length_cons] at h3
      have ho := topv (o :: T) k h4 h5 o T rfl
      rw [cn_eq (e := T.length) (by omega)] at e29 e31
      subst e29
      subst e31
      rw [ho] at hr
      refine ⟨rfl, T, k + 1, ?_, by show y39.toInt = _; omega, by rw [List.length_cons] at h4; omega, fun i hi => ?_⟩
      · rw [h2, hrl, if_neg (by omega), if_pos (by omega)]
      · have := h5 (i + 1) (by rw [List.length_cons]; omega)
        rw [show i + 1 + k = i + (k + 1) by omega] at this
        rw [← this]
        simp)
  obtain ⟨hG, T, k, h2, h3, h4, h5⟩ := hI
  simp only at hG h3
  subst hG
  rw [h2]
  have hG13 : G = G13 := by
    rcases hJ with ⟨c, e⟩ | ⟨c, y29, e29, ⟨c29, e⟩ | ⟨c29, y31, e31, r32, G33, ht, c32, e⟩⟩
    · exact e
    · exact e
    · exact (m_tight ht).1.trans e
  subst hG13
  cases T with
  | nil =>
    simp at h3
    rcases hh with ⟨c, e, -⟩ | ⟨c, -⟩
    · subst e
      exact ⟨fun q => absurd z q, fun q => absurd q (by simp [hrl])⟩
    · omega
  | cons o T =>
    rw [List.length_cons] at h3
    have ho := topv (o :: T) k h4 h5 o T rfl
    rcases hh with ⟨c, -⟩ | ⟨c, y18, e18, ⟨c18, e, -⟩ | ⟨c18, y20, e20, r21, G22, ht, hh⟩⟩
    · omega
    · rw [cn_eq (e := T.length) (by omega)] at e18
      subst e18
      subst e
      rw [hrl, if_pos (by omega)]
      exact ⟨fun q => absurd z q, fun q => absurd q (by decide)⟩
    · rw [cn_eq (e := T.length) (by omega)] at e18 e20
      subst e18
      subst e20
      have hr := (m_tight ht).2
      rw [ho] at hr
      have hle : tgt o ≤ 4 := by
        rcases hJ with ⟨c, e⟩ | ⟨c, y29, e29, ⟨c29, e⟩ | ⟨c29, y31, e31, r32, G33, ht2, c32, e⟩⟩
        · omega
        · rw [cn_eq (e := T.length) (by omega)] at e29
          subst e29
          omega
        · rw [cn_eq (e := T.length) (by omega)] at e31
          subst e31
          have hr2 := (m_tight ht2).2
          rw [ho] at hr2
          omega
      rw [hrl, if_neg (by omega), if_neg (by omega), decide_eq_true_iff]
      rcases hh with ⟨c21, e, -⟩ | ⟨c21, e, -⟩
      · subst e
        exact ⟨fun _ => by omega, fun _ => by omega⟩
      · subst e
        exact ⟨fun q => absurd z q, fun q => by omega⟩
