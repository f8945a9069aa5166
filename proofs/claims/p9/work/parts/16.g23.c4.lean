/-! the whole text by the reference -/
def StsM (S : VS) (G : GS) : Prop := (G.1 66 45).toInt = (S.length : Int) ∧ S.length ≤ 3 ∧ NmM 0 (nms S) G ∧ ∀ s, s < S.length → StM s (S.getD s ([], [])).2 G ∧ ((S.getD s ([], [])).2.length : Int) ≤ 400
def WksM (W : VW) (G : GS) : Prop := (G.1 66 46).toInt = (W.length : Int) ∧ W.length ≤ 4 ∧ NmM 3 (nms W) G ∧ ∀ k, k < W.length → WkM k (W.getD k ([], 0, 0, 0, 0)).2 G
def RlsM (R : VR) (w : Int) (G : GS) : Prop := (G.1 66 47).toInt = (R.length : Int) ∧ R.length ≤ 6 ∧ NmM 7 (nms R) G ∧ (G.1 66 21).toInt = w ∧ 0 ≤ w ∧ w ≤ 90 ∧ ∀ k, k < R.length → CodeM k (R.getD k ([], [])).2 G ∧ (R.getD k ([], [])).2.length ≤ 320
def HndM (o : Option (Int × Int)) (G : GS) : Prop := (G.1 66 48).toInt = (o.getD (30, 10)).1 ∧ (G.1 66 49).toInt = (o.getD (30, 10)).2
def DrwM (o : Option Int) (G : GS) : Prop := (G.1 66 50).toInt = o.getD 0
def MV (V : PV) (G : GS) : Prop := StsM V.1 G ∧ WksM V.2.1 G ∧ RlsM V.2.2.1 V.2.2.2.1 G ∧ SlpM V.2.2.2.2.1 G ∧ HndM V.2.2.2.2.2.1 G ∧ DrwM V.2.2.2.2.2.2 G ∧ G.1 66 51 = onb V.2.2.2.2.1.isNone V.2.2.2.2.2.1.isNone V.2.2.2.2.2.2.isNone
abbrev NoS (rs : List Nat) (fs : List (Nat × Nat)) : Prop := (66 ∉ rs ∧ 77 ∉ rs ∧ 78 ∉ rs ∧ 79 ∉ rs ∧ 80 ∉ rs ∧ 81 ∉ rs) ∧ (66, 45) ∉ fs ∧ ∀ x ∈ fs, x.1 ≠ 77 ∧ x.1 ≠ 78 ∧ x.1 ≠ 79 ∧ x.1 ≠ 80 ∧ x.1 ≠ 81
theorem StsM.fr {S : VS} {rs : List Nat} {fs : List (Nat × Nat)} {G G1 : GS} (h : StsM S G) (hF : Fr rs fs G G1) (hN : NmM 0 (nms S) G1) (h1 : 66 ∉ rs) (h2 : 77 ∉ rs ∧ 78 ∉ rs ∧ 79 ∉ rs ∧ 80 ∉ rs ∧ 81 ∉ rs) (h3 : (66, 45) ∉ fs) (h4 : ∀ x ∈ fs, x.1 ≠ 77 ∧ x.1 ≠ 78 ∧ x.1 ≠ 79 ∧ x.1 ≠ 80 ∧ x.1 ≠ 81) : StsM S G1 := by
  obtain ⟨a1, a2, -, a4⟩ := h
  exact ⟨by rw [hF.i 66 45 h1 h3]; exact a1, a2, hN, fun s hs => ⟨(a4 s hs).1.fr hF h2 h4, (a4 s hs).2⟩⟩
theorem WksM.fr {W : VW} {rs : List Nat} {fs : List (Nat × Nat)} {G G1 : GS} (h : WksM W G) (hF : Fr rs fs G G1) (hN : NmM 3 (nms W) G1) (h1 : 66 ∉ rs) (h2 : 82 ∉ rs ∧ 83 ∉ rs ∧ 84 ∉ rs ∧ 85 ∉ rs) (h3 : (66, 46) ∉ fs) (h4 : ∀ x ∈ fs, x.1 ≠ 82 ∧ x.1 ≠ 83 ∧ x.1 ≠ 84 ∧ x.1 ≠ 85) : WksM W G1 := by
  obtain ⟨a1, a2, -, a4⟩ := h
  refine ⟨by rw [hF.i 66 46 h1 h3]; exact a1, a2, hN, fun k hk => ?_⟩
  have h5 := a4 k hk
  unfold WkM at h5 ⊢
  rw [hF.row1 82 h2.1 (fun x hx => (h4 x hx).1), hF.row1 83 h2.2.1 (fun x hx => (h4 x hx).2.1), hF.row1 84 h2.2.2.1 (fun x hx => (h4 x hx).2.2.1), hF.row1 85 h2.2.2.2 (fun x hx => (h4 x hx).2.2.2)]
  exact h5
theorem RlsM.fr {R : VR} {w : Int} {rs : List Nat} {fs : List (Nat × Nat)} {G G1 : GS} (h : RlsM R w G) (hF : Fr rs fs G G1) (hN : NmM 7 (nms R) G1) (h1 : 66 ∉ rs) (h3 : (66, 47) ∉ fs ∧ (66, 21) ∉ fs) (h5 : 69 ∉ rs ∧ 70 ∉ rs ∧ 71 ∉ rs) (h6 : ∀ x ∈ fs, x.1 ≠ 69 ∧ x.1 ≠ 70 ∧ x.1 ≠ 71) : RlsM R w G1 := by
  obtain ⟨a1, a2, -, a4, a5, a6, a7⟩ := h
  exact ⟨by rw [hF.i 66 47 h1 h3.1]; exact a1, a2, hN, by rw [hF.i 66 21 h1 h3.2]; exact a4, a5, a6, fun k hk => ⟨(a7 k hk).1.fr hF h5 h6, (a7 k hk).2⟩⟩
theorem SlpM.fr {o : Option (Int × Int × Int)} {rs : List Nat} {fs : List (Nat × Nat)} {G G1 : GS} (h : SlpM o G) (hF : Fr rs fs G G1) (h1 : 86 ∉ rs) (h2 : ∀ x ∈ fs, x.1 ≠ 86) : SlpM o G1 := by
  unfold SlpM at h ⊢
  rw [hF.row1 86 h1 h2]
  exact h
theorem HndM.fr {o : Option (Int × Int)} {rs : List Nat} {fs : List (Nat × Nat)} {G G1 : GS} (h : HndM o G) (hF : Fr rs fs G G1) (h1 : 66 ∉ rs) (h2 : (66, 48) ∉ fs ∧ (66, 49) ∉ fs) : HndM o G1 := by
  unfold HndM at h ⊢
  rw [hF.i 66 48 h1 h2.1, hF.i 66 49 h1 h2.2]
  exact h
theorem DrwM.fr {o : Option Int} {rs : List Nat} {fs : List (Nat × Nat)} {G G1 : GS} (h : DrwM o G) (hF : Fr rs fs G G1) (h1 : 66 ∉ rs) (h2 : (66, 50) ∉ fs) : DrwM o G1 := by
  unfold DrwM at h ⊢
  rw [hF.i 66 50 h1 h2]
  exact h
/-- a step that touches TOKENS alone -/
theorem MV.tok {V : PV} {G G1 : GS} (h : MV V G) (hF : Fr [] [(66, 4), (66, 6), (66, 7), (66, 8), (66, 9)] G G1) : MV V G1 := by
  obtain ⟨a1, a2, a3, a4, a5, a6, a7⟩ := h
  exact ⟨a1.fr hF (a1.2.2.1.fr hF (by decide) (by decide)) (by decide) (by decide) (by decide) (by decide), a2.fr hF (a2.2.2.1.fr hF (by decide) (by decide)) (by decide) (by decide) (by decide) (by decide), a3.fr hF (a3.2.2.1.fr hF (by decide) (by decide)) (by decide) (by decide) (by decide) (by decide), a4.fr hF (by decide) (by decide), a5.fr hF (by decide) (by decide), a6.fr hF (by decide) (by decide), by rw [hF.i 66 51 (by decide) (by decide)]; exact a7⟩
def RdM (b : Nat → Int) (n : Nat) (V : PV) (p : Nat) (G1 : GS) : Prop := (∃ f, pLn b n V p = .inl f ∧ MF f G1) ∨ (∃ V' p', pLn b n V p = .inr (V', p') ∧ MP b n G1 p' ∧ p < p' ∧ MV V' G1)
theorem RdM.of {α : Type} {b : Nat → Int} {n : Nat} {V : PV} {p : Nat} {G1 : GS} {o : Rs α} {F : α → PV} (e0 : pLn b n V p = bnd o fun x q => .inr (F x, q)) (h : LnM b n p o G1 (fun x => MV (F x) G1)) : RdM b n V p G1 := by
  rcases h with ⟨f, e, hm⟩ | ⟨x, p', e, hp, hlt, hV⟩
  · exact Or.inl ⟨f, e0.trans (bnd_l e), hm⟩
  · exact Or.inr ⟨F x, p', e0.trans (bnd_r e), hp, hlt, hV⟩
theorem LnM.imp {α : Type} {b : Nat → Int} {n p : Nat} {o : Rs α} {G1 : GS} {K K' : α → Prop} (h : LnM b n p o G1 K) (hK : ∀ x, K x → K' x) : LnM b n p o G1 K' := by
  rcases h with ⟨f, e, hm⟩ | ⟨x, p', e, hp, hlt, hV⟩
  · exact Or.inl ⟨f, e, hm⟩
  · exact Or.inr ⟨x, p', e, hp, hlt, hK x hV⟩
theorem m_ln1 {b : Nat → Int} {n p : Nat} {G Gx G1 : GS} {V : PV} (h : Q_readStreet G Gx) (htl : TlM Gx G1) (hp : MP b n G p) (hk : tK b n p = 128) (hl : V.1.length < 3) (hV : MV V G) : RdM b n V p G1 := by
  refine RdM.of (pLn_1 hk hl) (m_semi (m_street h hp (by omega) (by omega) hV.1.2.2.1 (by rw [nms_len]; exact hV.1.1)) htl (fun x hFz hx => ?_))
  obtain ⟨k1, k2, k3, k4, k5⟩ := hx
  rw [nms_len] at k2 k3 k4
  obtain ⟨a1, a2, a3, a4, a5, a6, a7⟩ := hV
  have hF := h.2.1
  refine MV.tok (V := (V.1 ++ [x], V.2)) ⟨⟨?_, ?_, ?_, fun s hs => ?_⟩, a2.fr hF (k1.oth a2.2.2.1 (Or.inl (by rw [nms_len]; omega))) (by decide) (by decide) (by decide) (by decide), a3.fr hF (k1.oth a3.2.2.1 (Or.inl (by rw [nms_len]; omega))) (by decide) (by decide) (by decide) (by decide), a4.fr hF (by decide) (by decide), a5.fr hF (by decide) (by decide), a6.fr hF (by decide) (by decide), by rw [hF.i 66 51 (by decide) (by decide)]; exact a7⟩ hFz
  · rw [k2]
    show (V.1.length : Int) + 1 = ((V.1 ++ [x]).length : Int)
    rw [List.length_append, List.length_singleton]
    omega
  · show (V.1 ++ [x]).length ≤ 3
    rw [List.length_append, List.length_singleton]
    omega
  · show NmM 0 (nms (V.1 ++ [x])) Gx
    rw [nms_snoc]
    exact k1.own a1.2.2.1
  · have hs' : s < V.1.length + 1 := by
      have : s < (V.1 ++ [x]).length := hs
      rw [List.length_append, List.length_singleton] at this
      exact this
    show StM s ((V.1 ++ [x]).getD s ([], [])).2 Gx ∧ (((V.1 ++ [x]).getD s ([], [])).2.length : Int) ≤ 400
    by_cases hq : s < V.1.length
    · rw [getD_snl hq]
      obtain ⟨b1, b2⟩ := a1.2.2.2 s hq
      refine ⟨⟨?_, fun i hi => ?_⟩, b2⟩
      · rw [k4.1 s (by omega)]
        exact b1.1
      · obtain ⟨c1, c2, c3, c4⟩ := k4.2 (400 * s + i) (by omega)
        rw [c1, c2, c3, c4]
        exact b1.2 i hi
    · have hs2 : s = V.1.length := by omega
      subst hs2
      rw [getD_snr]
      exact ⟨k3, k5⟩
theorem m_ln2 {b : Nat → Int} {n p : Nat} {G Gx G1 : GS} {V : PV} (h : Q_readWalker G Gx) (htl : TlM Gx G1) (hp : MP b n G p) (hk : tK b n p = 129) (hl : V.2.1.length < 4) (hV : MV V G) : RdM b n V p G1 := by
  refine RdM.of (pLn_2 hk hl) (m_semi (m_walker h hp (by omega) (by omega) hV.2.1.2.2.1 (by rw [nms_len]; exact hV.2.1.1)) htl (fun x hFz hx => ?_))
  obtain ⟨k1, k2, k3, k4⟩ := hx
  rw [nms_len] at k2 k3 k4
  obtain ⟨a1, a2, a3, a4, a5, a6, a7⟩ := hV
  have hF := h.2.1
  refine MV.tok (V := (V.1, V.2.1 ++ [x], V.2.2)) ⟨a1.fr hF (k1.oth a1.2.2.1 (Or.inr (by rw [nms_len]; have := a1.2.1; omega))) (by decide) (by decide) (by decide) (by decide), ⟨?_, ?_, ?_, fun s hs => ?_⟩, a3.fr hF (k1.oth a3.2.2.1 (Or.inl (by rw [nms_len]; omega))) (by decide) (by decide) (by decide) (by decide), a4.fr hF (by decide) (by decide), a5.fr hF (by decide) (by decide), a6.fr hF (by decide) (by decide), by rw [hF.i 66 51 (by decide) (by decide)]; exact a7⟩ hFz
  · rw [k2]
    show (V.2.1.length : Int) + 1 = ((V.2.1 ++ [x]).length : Int)
    rw [List.length_append, List.length_singleton]
    omega
  · show (V.2.1 ++ [x]).length ≤ 4
    rw [List.length_append, List.length_singleton]
    omega
  · show NmM 3 (nms (V.2.1 ++ [x])) Gx
    rw [nms_snoc]
    exact k1.own a2.2.2.1
  · have hs' : s < V.2.1.length + 1 := by
      have : s < (V.2.1 ++ [x]).length := hs
      rw [List.length_append, List.length_singleton] at this
      exact this
    show WkM s ((V.2.1 ++ [x]).getD s ([], 0, 0, 0, 0)).2 Gx
    by_cases hq : s < V.2.1.length
    · rw [getD_snl hq]
      have b1 := a2.2.2.2 s hq
      obtain ⟨c1, c2, c3, c4⟩ := k4 s (by omega)
      unfold WkM at b1 ⊢
      rw [c1, c2, c3, c4]
      exact b1
    · have hs2 : s = V.2.1.length := by omega
      subst hs2
      rw [getD_snr]
      exact k3
theorem m_ln3 {b : Nat → Int} {n p : Nat} {G Gx G1 : GS} {V : PV} (h : Q_readRule G Gx) (htl : TlM Gx G1) (hp : MP b n G p) (hk : tK b n p = 134) (hl : V.2.2.1.length < 6) (hV : MV V G) : RdM b n V p G1 := by
  refine RdM.of (pLn_3 hk hl) (m_semi (m_rule h hp (by omega) (by omega) hV.2.2.1.2.2.1 (by rw [nms_len]; exact hV.2.2.1.1) hV.2.2.1.2.2.2.1 hV.2.2.1.2.2.2.2.1 hV.2.2.1.2.2.2.2.2.1) htl (fun x hFz hx => ?_))
  obtain ⟨k1, k2, k3, k4, k5, k6, k7⟩ := hx
  rw [nms_len] at k2 k6 k7
  obtain ⟨a1, a2, a3, a4, a5, a6, a7⟩ := hV
  have hF := h.2.1
  refine MV.tok (V := (V.1, V.2.1, V.2.2.1 ++ [(x.1, x.2.1)], x.2.2, V.2.2.2.2)) ⟨a1.fr hF (k1.oth a1.2.2.1 (Or.inr (by rw [nms_len]; have := a1.2.1; omega))) (by decide) (by decide) (by decide) (by decide), a2.fr hF (k1.oth a2.2.2.1 (Or.inr (by rw [nms_len]; have := a2.2.1; omega))) (by decide) (by decide) (by decide) (by decide), ⟨?_, ?_, ?_, k3, k4, k5, fun s hs => ?_⟩, a4.fr hF (by decide) (by decide), a5.fr hF (by decide) (by decide), a6.fr hF (by decide) (by decide), by rw [hF.i 66 51 (by decide) (by decide)]; exact a7⟩ hFz
  · rw [k2]
    show (V.2.2.1.length : Int) + 1 = ((V.2.2.1 ++ [(x.1, x.2.1)]).length : Int)
    rw [List.length_append, List.length_singleton]
    omega
  · show (V.2.2.1 ++ [(x.1, x.2.1)]).length ≤ 6
    rw [List.length_append, List.length_singleton]
    omega
  · show NmM 7 (nms (V.2.2.1 ++ [(x.1, x.2.1)])) Gx
    rw [nms_snoc]
    exact k1.own a3.2.2.1
  · have hs' : s < V.2.2.1.length + 1 := by
      have : s < (V.2.2.1 ++ [(x.1, x.2.1)]).length := hs
      rw [List.length_append, List.length_singleton] at this
      exact this
    show CodeM s ((V.2.2.1 ++ [(x.1, x.2.1)]).getD s ([], [])).2 Gx ∧ ((V.2.2.1 ++ [(x.1, x.2.1)]).getD s ([], [])).2.length ≤ 320
    by_cases hq : s < V.2.2.1.length
    · rw [getD_snl hq]
      obtain ⟨b1, b2⟩ := a3.2.2.2.2.2.2 s hq
      exact ⟨b1.kp k7 hq b2, b2⟩
    · have hs2 : s = V.2.2.1.length := by omega
      subst hs2
      rw [getD_snr]
      refine ⟨k6, ?_⟩
      have h1 := k6.1
      have h2 := (h.1.i 71 V.2.2.1.length (lo := 0) (hi := 320) rfl rfl).2
      show x.2.1.length ≤ 320
      omega
theorem m_line {b : Nat → Int} {n p : Nat} {G G1 : GS} {V : PV} (h : Q_readLine G G1) (hp : MP b n G p) (hV : MV V G) : RdM b n V p G1 := by
  obtain ⟨-, -, -, r1, G2, hw1, hh⟩ := h
  have l1 := hV.1.1
  have l2 := hV.2.1.1
  have l3 := hV.2.2.1.1
  obtain ⟨rfl, q1⟩ := m_isWord (i := 0) (by decide) (by decide +kernel) hw1 hp
  have q128 : r1.toInt ≠ 0 ↔ tK b n p = 128 := q1
  clear q1
  rcases hh with ⟨c, c3, Gx, hst, htl⟩ | ⟨G8, hj1, -, -, r13, G14, hw2, hh⟩
  · exact m_ln1 hst htl hp (q128.mp c) (by clear q128 htl; omega) hV
  have n1 : G = G8 ∧ ¬ (tK b n p = 128 ∧ V.1.length < 3) := by
    rcases hj1 with ⟨c, e⟩ | ⟨c, c3, e⟩
    · exact ⟨e, fun q => q128.mpr q.1 c⟩
    · exact ⟨e, fun q => by have := q.2; clear q128 hh; omega⟩
  obtain ⟨rfl, n1⟩ := n1
  clear hj1 q128
  obtain ⟨rfl, q1⟩ := m_isWord (i := 1) (by decide) (by decide +kernel) hw2 hp
  have q129 : r13.toInt ≠ 0 ↔ tK b n p = 129 := q1
  clear q1
  rcases hh with ⟨c, c3, Gx, hst, htl⟩ | ⟨G20, hj2, -, -, r25, G26, hw3, hh⟩
  · exact m_ln2 hst htl hp (q129.mp c) (by clear q129 htl; omega) hV
  have n2 : G = G20 ∧ ¬ (tK b n p = 129 ∧ V.2.1.length < 4) := by
    rcases hj2 with ⟨c, e⟩ | ⟨c, c3, e⟩
    · exact ⟨e, fun q => q129.mpr q.1 c⟩
    · exact ⟨e, fun q => by have := q.2; clear q129 hh; omega⟩
  obtain ⟨rfl, n2⟩ := n2
  clear hj2 q129
  obtain ⟨rfl, q1⟩ := m_isWord (i := 6) (by decide) (by decide +kernel) hw3 hp
  have q134 : r25.toInt ≠ 0 ↔ tK b n p = 134 := q1
  clear q1
  rcases hh with ⟨c, c3, Gx, hst, htl⟩ | ⟨G32, hj3, -, -, r38, G39, ho1, G45, hj4, -, -, -, hF45, htl⟩
  · exact m_ln3 hst htl hp (q134.mp c) (by clear q134 htl; omega) hV
  have n3 : G = G32 ∧ ¬ (tK b n p = 134 ∧ V.2.2.1.length < 6) := by
    rcases hj3 with ⟨c, e⟩ | ⟨c, c3, e⟩
    · exact ⟨e, fun q => q134.mpr q.1 c⟩
    · exact ⟨e, fun q => by have := q.2; clear q134 htl hj4; omega⟩
  obtain ⟨rfl, n3⟩ := n3
  clear hj3 q134
  replace htl : TlM G45 G1 := htl
  obtain ⟨rfl, q1⟩ := m_once (i := 7) (by decide) (by decide +kernel) ho1 hp
  have hb := onb_1 V.2.2.2.2.1.isNone V.2.2.2.2.2.1.isNone V.2.2.2.2.2.2.isNone
  obtain ⟨a1, a2, a3, a4, a5, a6, a7⟩ := hV
  rw [a7] at q1
  have q135 : r38.toInt ≠ 0 ↔ (tK b n p = 135 ∧ V.2.2.2.2.1.isNone = true) := q1.trans (and_congr Iff.rfl hb.1)
  clear q1
  have ht := tN_p (b := b) hp.1.2.1 hp.2.2.2
  have mv : ∀ {V' : PV} {Gz : GS}, Fr [86] [(66, 2), (66, 3), (66, 4), (66, 6), (66, 7), (66, 8), (66, 9), (66, 48), (66, 49), (66, 50), (66, 51)] G Gz → V'.1 = V.1 → V'.2.1 = V.2.1 → V'.2.2.1 = V.2.2.1 → V'.2.2.2.1 = V.2.2.2.1 → SlpM V'.2.2.2.2.1 Gz → HndM V'.2.2.2.2.2.1 Gz → DrwM V'.2.2.2.2.2.2 Gz → Gz.1 66 51 = onb V'.2.2.2.2.1.isNone V'.2.2.2.2.2.1.isNone V'.2.2.2.2.2.2.isNone → MV V' Gz := by
    intro V' Gz hF z1 z2 z3 z4 z5 z6 z7 z8
    refine ⟨?_, ?_, ?_, z5, z6, z7, z8⟩
    · rw [z1]
      exact a1.fr hF (a1.2.2.1.fr hF (by decide) (by decide)) (by decide) (by decide) (by decide) (by decide)
    · rw [z2]
      exact a2.fr hF (a2.2.2.1.fr hF (by decide) (by decide)) (by decide) (by decide) (by decide) (by decide)
    · rw [z3, z4]
      exact a3.fr hF (a3.2.2.1.fr hF (by decide) (by decide)) (by decide) (by decide) (by decide) (by decide)
  rcases hj4 with ⟨c, r102, G103, ho2, hj4⟩ | ⟨c, y196, e196, G197, -, hF197, w197, G204, hsl, rfl⟩
  · have n4 : ¬ (tK b n p = 135 ∧ V.2.2.2.2.1.isNone = true) := fun q => q135.mpr q c
    clear q135
    obtain ⟨rfl, q1⟩ := m_once (i := 8) (by decide) (by decide +kernel) ho2 hp
    rw [a7] at q1
    have q136 : r102.toInt ≠ 0 ↔ (tK b n p = 136 ∧ V.2.2.2.2.2.1.isNone = true) := q1.trans (and_congr Iff.rfl hb.2.1)
    clear q1
    rcases hj4 with ⟨c2, r111, G112, ho3, hj4⟩ | ⟨c2, y158, e158, G159, -, hF159, w159, r167, G168, t167, G172, -, hF172, w172, r180, G181, t180, hFe, we⟩
    · have n5 : ¬ (tK b n p = 136 ∧ V.2.2.2.2.2.1.isNone = true) := fun q => q136.mpr q c2
      clear q136
      obtain ⟨rfl, q1⟩ := m_once (i := 10) (by decide) (by decide +kernel) ho3 hp
      rw [a7] at q1
      have q138 : r111.toInt ≠ 0 ↔ (tK b n p = 138 ∧ V.2.2.2.2.2.2.isNone = true) := q1.trans (and_congr Iff.rfl hb.2.2.1)
      clear q1
      rcases hj4 with ⟨c3, G120, hwr, rfl⟩ | ⟨c3, y133, e133, G134, -, hF134, w134, r142, G143, t142, hFe, we⟩
      · have n6 : ¬ (tK b n p = 138 ∧ V.2.2.2.2.2.2.isNone = true) := fun q => q138.mpr q c3
        obtain ⟨hm, -⟩ := m_wrong hwr hp (by decide)
        rcases htl with ⟨c4, -⟩ | ⟨-, rfl⟩
        · exact absurd c4 (by have := hm.pos; clear q138; omega)
        · exact Or.inl ⟨_, pLn_0 n1 n2 n3 n4 n5 n6, hm⟩
      · have k138 := q138.mp c3
        clear q138
        have hp1 := hp.fr hF134 (by decide) (by decide) (by decide) (by decide)
        refine RdM.of (pLn_6 k138.1 k138.2) (m_semi (K := fun x => MV (V.1, V.2.1, V.2.2.1, V.2.2.2.1, V.2.2.2.2.1, V.2.2.2.2.2.1, some x) G45) ?_ htl (fun x hFz hx => hx.tok hFz))
        rcases m_told2 (i := 10) (by decide) (by decide +kernel) t142 hp1 with ⟨f, hf, hmf⟩ | ⟨v, p', ev, hp2, hr, -, -⟩
        · exact Or.inl ⟨f, (kn_go k138.1).symm.trans hf, hmf.fr hFe (by decide) (by decide)⟩
        · have ev' : pDraw b n p = .inr (v, p') := (kn_go k138.1).symm.trans ev
          have hpq := pNum_n ev'
          have t2 := tN_p (b := b) hp.1.2.1 ht.2.1
          refine Or.inr ⟨v, p', ev', hp2.fr hFe (by decide) (by decide) (by decide) (by decide), by have := (ht.2.2 (by omega)).1; omega, mv hF45 rfl rfl rfl rfl ?_ ?_ ?_ ?_⟩
          · exact ((a4.fr hF134 (by decide) (by decide)).fr t142.2.1 (by decide) (by decide)).fr hFe (by decide) (by decide)
          · exact ((a5.fr hF134 (by decide) (by decide)).fr t142.2.1 (by decide) (by decide)).fr hFe (by decide) (by decide)
          · show (G45.1 66 50).toInt = v
            rw [we]
            exact hr
          · show G45.1 66 51 = onb V.2.2.2.2.1.isNone V.2.2.2.2.2.1.isNone false
            rw [hFe.i 66 51 (by decide) (by decide), t142.2.1.i 66 51 (by decide) (by decide), w134, e133, a7]
            exact hb.2.2.2.2.2
    · have k136 := q136.mp c2
      clear q136
      have hp1 := hp.fr hF159 (by decide) (by decide) (by decide) (by decide)
      refine RdM.of (pLn_5 k136.1 k136.2) (m_semi (K := fun x => MV (V.1, V.2.1, V.2.2.1, V.2.2.2.1, V.2.2.2.2.1, some x, V.2.2.2.2.2.2) G45) ?_ htl (fun x hFz hx => hx.tok hFz))
      rcases m_told2 (i := 8) (by decide) (by decide +kernel) t167 hp1 with ⟨f, hf, hmf⟩ | ⟨v, p', ev, hp2, hr, -, -⟩
      · have hm2 := hmf.fr hF172 (by decide) (by decide)
        have e := told2_f t180 hm2.pos
        subst e
        exact Or.inl ⟨f, by unfold pHand; exact bnd_l ((kn_go k136.1).symm.trans hf), hm2.fr hFe (by decide) (by decide)⟩
      have ev' : pNum b n 1 99 (tNx b n p) = .inr (v, p') := (kn_go k136.1).symm.trans ev
      have hpq := pNum_n ev'
      have t2 := tN_p (b := b) hp.1.2.1 ht.2.1
      have t2' := (ht.2.2 (by omega)).1
      replace hp2 := hp2.fr hF172 (by decide) (by decide) (by decide) (by decide)
      rcases m_told2 (i := 9) (by decide) (by decide +kernel) t180 hp2 with ⟨f, hf, hmf⟩ | ⟨v2, p2, ev2, hp3, hr2, -, -⟩
      · exact Or.inl ⟨f, by unfold pHand; exact (bnd_r ev').trans (kn_eq.trans (bnd_l hf)), hmf.fr hFe (by decide) (by decide)⟩
      · have l := kn_p hp.1.2.1 hp2.2.2.2 ev2
        refine Or.inr ⟨(v, v2), p2, by unfold pHand; exact (bnd_r ev').trans (kn_eq.trans (bnd_r ev2)), hp3.fr hFe (by decide) (by decide) (by decide) (by decide), by omega, mv hF45 rfl rfl rfl rfl ?_ ?_ ?_ ?_⟩
        · exact ((((a4.fr hF159 (by decide) (by decide)).fr t167.2.1 (by decide) (by decide)).fr hF172 (by decide) (by decide)).fr t180.2.1 (by decide) (by decide)).fr hFe (by decide) (by decide)
        · refine ⟨?_, ?_⟩
          · show (G45.1 66 48).toInt = v
            rw [hFe.i 66 48 (by decide) (by decide), t180.2.1.i 66 48 (by decide) (by decide), w172]
            exact hr
          · show (G45.1 66 49).toInt = v2
            rw [we]
            exact hr2
        · exact ((((a6.fr hF159 (by decide) (by decide)).fr t167.2.1 (by decide) (by decide)).fr hF172 (by decide) (by decide)).fr t180.2.1 (by decide) (by decide)).fr hFe (by decide) (by decide)
        · show G45.1 66 51 = onb V.2.2.2.2.1.isNone false V.2.2.2.2.2.2.isNone
          rw [hFe.i 66 51 (by decide) (by decide), t180.2.1.i 66 51 (by decide) (by decide), hF172.i 66 51 (by decide) (by decide), t167.2.1.i 66 51 (by decide) (by decide), w159, e158, a7]
          exact hb.2.2.2.2.1
  · have k135 := q135.mp c
    clear q135
    refine RdM.of (pLn_4 k135.1 k135.2) (m_semi (K := fun x => MV (V.1, V.2.1, V.2.2.1, V.2.2.2.1, some x, V.2.2.2.2.2) G204) ((m_slip hsl (hp.fr hF197 (by decide) (by decide) (by decide) (by decide)) (by omega) (by omega)).imp (fun x hx => ?_)) htl (fun x hFz hx => hx.tok hFz))
    refine mv hF45 rfl rfl rfl rfl hx ?_ ?_ ?_
    · exact (a5.fr hF197 (by decide) (by decide)).fr hsl.2.1 (by decide) (by decide)
    · exact (a6.fr hF197 (by decide) (by decide)).fr hsl.2.1 (by decide) (by decide)
    · show G204.1 66 51 = onb false V.2.2.2.2.2.1.isNone V.2.2.2.2.2.2.isNone
      rw [hsl.2.1.i 66 51 (by decide) (by decide), w197, e196, a7]
      exact hb.2.2.2.1
def AI (b : Nat → Int) (n : Nat) (G : GS) : Prop := (∃ f, MF f G ∧ parse b n = .inl f) ∨ (∃ V p, MP b n G p ∧ MV V G ∧ ∀ o, Et (topS b n) (V0, 0) o ↔ Et (topS b n) (V, p) o)
theorem m_readAll {b : Nat → Int} {n : Nat} {G G1 : GS} (h : Q_readAll G G1) (hn0 : (G.1 66 1).toInt = (n : Int)) (hn : n ≤ 1600) (hT : ∀ j, j < n → (G.1 67 j).toInt = b j ∧ 0 ≤ b j ∧ b j ≤ 255) : (∃ f, parse b n = .inl f ∧ MF f G1) ∨ (∃ V p, parse b n = .inr (V, p) ∧ MV V G1 ∧ (G1.1 66 2).toInt = 0 ∧ (G1.1 66 3).toInt = -1) := by
  obtain ⟨-, -, -, G19, -, hF19, e1, e2, e3, e4, e5, e21, e45, e46, e47, e48, e49, e50, e51, e86, G23, htk, G27, hl, -, -, -, hh⟩ := h
  have hX : XM b n G19 := by
    refine ⟨by rw [e5]; exact hn0, hn, ?_⟩
    rw [hF19.row1 67 (by decide) (by decide)]
    exact hT
  obtain ⟨hX2, hT2⟩ := r_tok (q := 0) hX (by rw [e4]; rfl) (Nat.zero_le n) htk
  have hp0 : MP b n G23 0 := ⟨hX2, hT2, ⟨by rw [htk.2.1.i 66 2 (by decide) (by decide), e2]; rfl, by rw [htk.2.1.i 66 3 (by decide) (by decide), e3]; rfl⟩, Nat.zero_le n⟩
  have hV0 : MV V0 G19 := by
    refine ⟨⟨by rw [e45]; rfl, by decide, fun k hk => absurd hk (Nat.not_lt_zero k), fun s hs => absurd hs (Nat.not_lt_zero s)⟩, ⟨by rw [e46]; rfl, by decide, fun k hk => absurd hk (Nat.not_lt_zero k), fun s hs => absurd hs (Nat.not_lt_zero s)⟩, ⟨by rw [e47]; rfl, by decide, fun k hk => absurd hk (Nat.not_lt_zero k), by rw [e21]; rfl, by decide, by decide, fun s hs => absurd hs (Nat.not_lt_zero s)⟩, ⟨by rw [e86]; rfl, by rw [e86]; rfl, by rw [e86]; rfl⟩, ⟨by rw [e48]; rfl, by rw [e49]; rfl⟩, ?_, by rw [e51]; rfl⟩
    show (G19.1 66 50).toInt = 0
    rw [e50]
    rfl
  have hI : AI b n G27 := hl (fun q => AI b n q) (Or.inr ⟨V0, 0, hp0, hV0.tok htk.2.1, fun o => Iff.rfl⟩) (by
    rintro Ga Gb hi ⟨Gc, Gd, rfl, rfl, -, -, hf0, hs0, G49, hln, rfl⟩
    rcases hi with ⟨f, hm, -⟩ | ⟨V, p, hp, hV, hE⟩
    · exact absurd hf0 (by have := hm.pos; omega)
    · have k203 : tK b n p ≠ 203 := fun q => hs0 (hp.so.2.2.2.1.mpr q)
      rcases m_line hln hp hV with ⟨f, e, hm⟩ | ⟨V', p', e, hp', -, hV'⟩
      · exact Or.inl ⟨f, hm, run_eq ((hE _).mpr ((Et_r (topS_l k203 e)).mpr rfl))⟩
      · exact Or.inr ⟨V', p', hp', hV', fun o => (hE o).trans (Et_i (topS_r k203 e))⟩)
  rcases hI with ⟨f, hm, he⟩ | ⟨V, p, hp, hV, hE⟩
  · have hpo := hm.pos
    rcases hh with ⟨c, -⟩ | ⟨-, rfl⟩
    · omega
    · exact Or.inl ⟨f, he, hm⟩
  · have hf0 := hp.k2
    rcases hh with ⟨-, c, rfl⟩ | ⟨c, -⟩
    · exact Or.inr ⟨V, p, run_eq ((hE _).mpr ((Et_r (topS_e (hp.so.2.2.2.1.mp c))).mpr rfl)), hV, hp.2.2.1.1, hp.2.2.1.2⟩
    · exact absurd hf0 c
