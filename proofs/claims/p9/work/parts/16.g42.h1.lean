/-! pavement on both sides, whole -/
theorem k_fill_38_eq {p0 : Int32} {G G1 : GS} (h : P_fill_38 p0 G G1) : ∀ j, j < 3 → G1.1 38 j = p0 := by
  obtain ⟨-, -, x, G2, hl, -, -, -, c, rfl⟩ := h
  have hI := hl (fun q => ∃ k : Nat, q.1.toInt = (k : Int) ∧ ∀ j, j < k → q.2.1 38 j = p0) ⟨0, rfl, fun j hj => absurd hj (Nat.not_lt_zero j)⟩ (by
    rintro ⟨x1, G_1⟩ ⟨xn, G_1n⟩ ⟨k, i6, i7⟩ ⟨x1q, G_1q, xnq, G_1nq, q1, q2, -, -, c, y1, t1, ex, hF, w⟩
    obtain ⟨rfl, rfl⟩ := Prod.mk.inj q1
    obtain ⟨rfl, rfl⟩ := Prod.mk.inj q2
    simp only at i6 i7
    rw [cn_eq i6] at w
    refine ⟨k + 1, by show xn.toInt = _; rw [← ex]; omega, fun j hj => ?_⟩
    show G_1n.1 38 j = p0
    rw [w]
    by_cases hjk : j = k
    · exact if_pos hjk
    · rw [show upd (G_1.1 38) k p0 j = G_1.1 38 j from if_neg hjk]
      exact i7 j (by omega))
  obtain ⟨k, i6, i7⟩ := hI
  have i6' : x.toInt = (k : Int) := i6
  exact fun j hj => i7 j (by omega)
theorem k_fill_58_eq {p0 : Int32} {G G1 : GS} (h : P_fill_58 p0 G G1) : ∀ j, j < 10 → G1.1 58 j = p0 := by
  obtain ⟨-, -, x, G2, hl, -, -, -, c, rfl⟩ := h
  have hI := hl (fun q => ∃ k : Nat, q.1.toInt = (k : Int) ∧ ∀ j, j < k → q.2.1 58 j = p0) ⟨0, rfl, fun j hj => absurd hj (Nat.not_lt_zero j)⟩ (by
    rintro ⟨x1, G_1⟩ ⟨xn, G_1n⟩ ⟨k, i6, i7⟩ ⟨x1q, G_1q, xnq, G_1nq, q1, q2, -, -, c, y1, t1, ex, hF, w⟩
    obtain ⟨rfl, rfl⟩ := Prod.mk.inj q1
    obtain ⟨rfl, rfl⟩ := Prod.mk.inj q2
    simp only at i6 i7
    rw [cn_eq i6] at w
    refine ⟨k + 1, by show xn.toInt = _; rw [← ex]; omega, fun j hj => ?_⟩
    show G_1n.1 58 j = p0
    rw [w]
    by_cases hjk : j = k
    · exact if_pos hjk
    · rw [show upd (G_1.1 58) k p0 j = G_1.1 58 j from if_neg hjk]
      exact i7 j (by omega))
  obtain ⟨k, i6, i7⟩ := hI
  have i6' : x.toInt = (k : Int) := i6
  exact fun j hj => i7 j (by omega)
theorem k_wStart_2_eq {G G1 : GS} (h : P_wStart_2 G G1) : (G1.1 31 5).toInt = 0 ∧ (G1.1 0 12).toInt = 0 ∧ (G1.1 30 3).toInt = 0 ∧ (G1.1 30 4).toInt = 0 ∧ (G1.1 30 5).toInt = 0 ∧ G1.1 58 0 = -1 ∧ G1.1 58 7 = G.1 2 16 ∧ (∀ j, j < 10 → j ≠ 0 → j ≠ 7 → G1.1 58 j = 0) ∧ (∀ j, j < 10 → G1.1 59 j = G1.1 58 j) ∧ ∀ j, j < 3 → G1.1 38 j = -1 := by
  obtain ⟨-, -, -, G2, hlk, G8, hst, hFe, e12, e5⟩ := h
  have hFst := hst.2.1
  obtain ⟨-, -, -, G3, hfi, G4, -, hF4, e3, e58, G5, hfo, rfl⟩ := hst
  obtain ⟨-, hFf, -, -, f4, f5, f59⟩ := hfo
  obtain ⟨-, -, -, G6, -, -, -, G7, hfl, rfl⟩ := hlk
  have r58 : G1.1 58 = G4.1 58 := by rw [hFe.row1 58 (by decide) (by decide), hFf.row1 58 (by decide) (by decide)]
  have z0 : (0 : Int32).toNatClampNeg = 0 := rfl
  have z7 : (7 : Int32).toNatClampNeg = 7 := rfl
  have z10 : (10 : Int32).toNatClampNeg = 10 := rfl
  rw [z0, z7] at e58
  rw [z0, z10] at f59
  refine ⟨by rw [e5]; rfl, by rw [e12]; rfl, ?_, ?_, ?_, ?_, ?_, fun j hj h0 h7 => ?_, fun j hj => ?_, fun j hj => ?_⟩
  · rw [hFe.i 30 3 (by decide) (by decide), hFf.i 30 3 (by decide) (by decide), e3]
    rfl
  · rw [hFe.i 30 4 (by decide) (by decide), f4]
    rfl
  · rw [hFe.i 30 5 (by decide) (by decide), f5]
    rfl
  · rw [r58, e58]
    rfl
  · rw [r58, e58]
    rfl
  · rw [r58, e58, show upd (upd (G3.1 58) 0 (-1)) 7 (G.1 2 16) j = upd (G3.1 58) 0 (-1) j from if_neg h7, show upd (G3.1 58) 0 (-1) j = G3.1 58 j from if_neg h0]
    exact k_fill_58_eq hfi j hj
  · rw [r58, hFe.row1 59 (by decide) (by decide), f59, cpy_in (by omega) (by omega), show 0 + (j - 0) = j by omega]
  · rw [hFe.row1 38 (by decide) (by decide), hFst.row1 38 (by decide) (by decide)]
    exact k_fill_38_eq hfl j hj
/-- how it comes out: the same answer and FAULT; a good one: a PAVING that both hold -/
def PavO_1 (r r' : Int32) (G Ga Gb : GS) : Prop := r.toInt = r'.toInt ∧ (Gb.1 3 7).toInt = (Gb.1 66 2).toInt ∧ (Gb.1 3 8).toInt = (Gb.1 66 3).toInt ∧ TE Gb ∧ ((Gb.2.2 0 0 = 1 ∧ r.toInt = -1 ∧ (∀ V, IV_1 V G → IV_1 V Gb) ∧ (∀ i j, i = 0 ∧ j = 12 ∨ 29 ≤ i ∧ i ≤ 31 ∨ 33 ≤ i ∧ i ≤ 33 ∨ 37 ≤ i ∧ i ≤ 65 ∨ i = 66 ∧ 57 ≤ j ∨ 97 ≤ i → Gb.1 i j = G.1 i j)) ∨ (Gb.2.2 0 0 = 2 ∧ (∃ V, IV_2 V Gb) ∧ (Gb.1 31 5).toInt = 0 ∧ (Gb.1 66 85).toInt = 0 ∧ (Gb.1 0 12).toInt = 0 ∧ (Gb.1 66 66).toInt = 0))
theorem pavV_1 {G Ga Gb : GS} {r r' : Int32} (hx : P_Wpavement_1 G r Ga) (hm : Q_pavement Ga r' Gb) (hT : TE G) (htp : (G.1 0 11).toInt = (G.1 66 1).toInt) (h0 : 0 ≤ (G.1 0 11).toInt) (h1 : (G.1 0 11).toInt ≤ 1600) (hv : G.2.2 0 0 = 1) : PavO_1 r r' G Ga Gb := by
  have hm0 := hm
  have hFx := hx.2.1
  have hFm := hm.2.1
  obtain ⟨-, -, -, r2, G3, hrd, hh⟩ := hx
  obtain ⟨-, -, -, G2, hra, hh2⟩ := hm
  obtain ⟨n, hn0⟩ : ∃ n : Nat, (G.1 0 11).toInt = (n : Int) := ⟨(G.1 0 11).toInt.toNat, by clear hh hh2; omega⟩
  have hn : n ≤ 1600 := by clear hh hh2; omega
  obtain ⟨b, hb⟩ : ∃ b : Nat → Int, b = fun j => (G.1 67 j).toInt := ⟨_, rfl⟩
  have r67 : Ga.1 67 = G.1 67 := hFx.row1 67 (by decide) (by decide)
  have hc := c_read_2 (b := b) hrd hn0 hn (fun j hj => by
    have := hT j (by omega)
    rw [hb]
    exact ⟨this.2.2.1, this.2.2.2, this.1, this.2.1⟩)
  have hdx : ∀ {Gx : GS}, Q_readAll Ga Gx → (∃ f, parse b n = .inl f ∧ MF f Gx) ∨ (∃ V p, parse b n = .inr (V, p) ∧ MV V Gx ∧ (Gx.1 66 2).toInt = 0 ∧ (Gx.1 66 3).toInt = -1 ∧ PVok V) := fun hra => m_readAllP (b := b) (n := n) hra (by rw [hFx.i 66 1 (by decide) (by decide)]; omega) hn (fun j hj => by
    have := hT j (by omega)
    rw [hb, r67]
    exact ⟨rfl, this.1, this.2.1⟩)
  have hd := hdx hra
  have hTE : TE Gb := (hT.fr hFx (by decide) (by decide)).fr hFm (by decide) (by decide)
  have b7 : Gb.1 3 7 = Ga.1 3 7 := hFm.i 3 7 (by decide) (by decide)
  have b8 : Gb.1 3 8 = Ga.1 3 8 := hFm.i 3 8 (by decide) (by decide)
  have b00 : Gb.2.2 0 0 = Ga.2.2 0 0 := (hFm 0 0 (by decide) (by decide)).2.2
  rcases hc with ⟨f, e1, hC⟩ | ⟨V, p, e1, hr, hV, k7, k8⟩
  · rcases hd with ⟨f', e2, hM⟩ | ⟨V', p', e2, -⟩
    · have hff : f = f' := Sum.inl.inj (e1.symm.trans e2)
      subst hff
      have hpo := hM.pos
      rcases hh with ⟨-, rfl, hF, -⟩ | ⟨c, -⟩
      · rcases hh2 with ⟨c, -⟩ | ⟨-, rfl, eG9⟩
        · omega
        · obtain rfl := eG9.symm
          have hFr := hrd.2.1
          have hFa := hra.2.1
          have hsame : ∀ i j, i = 0 ∧ j = 12 ∨ 29 ≤ i ∧ i ≤ 31 ∨ 33 ≤ i ∧ i ≤ 33 ∨ 37 ≤ i ∧ i ≤ 65 ∨ i = 66 ∧ 57 ≤ j ∨ 97 ≤ i → Gb.1 i j = G.1 i j := by
            intro i j hij
            have u1 : i ∉ ([20, 21, 22, 23, 24, 25, 26, 27, 28, 34, 35, 36] : List Nat) := fun w => by simp at w; omega
            have u2 : (i, j) ∉ ([(2, 9), (2, 10), (2, 11), (2, 12), (2, 13), (2, 14), (2, 15), (2, 16), (3, 1), (3, 2), (3, 3), (3, 4), (3, 5), (3, 6), (3, 7), (3, 8), (4, 1), (4, 2), (5, 5), (5, 6), (5, 7), (5, 8), (5, 9)] : List (Nat × Nat)) := fun w => by simp at w; omega
            have u3 : i ∉ ([68, 69, 70, 71, 75, 77, 78, 79, 80, 81, 82, 83, 84, 85, 86] : List Nat) := fun w => by simp at w; omega
            have u4 : (i, j) ∉ ([(66, 1), (66, 2), (66, 3), (66, 4), (66, 5), (66, 6), (66, 7), (66, 8), (66, 9), (66, 19), (66, 20), (66, 21), (66, 23), (66, 24), (66, 45), (66, 46), (66, 47), (66, 48), (66, 49), (66, 50), (66, 51)] : List (Nat × Nat)) := fun w => by simp at w; omega
            rw [hFa.i i j u3 u4, hF.i i j (by simp) (by simp; omega), hFr.i i j u1 u2]
          have hrow : ∀ i, 29 ≤ i ∧ i ≤ 31 ∨ 33 ≤ i ∧ i ≤ 33 ∨ 37 ≤ i ∧ i ≤ 65 ∨ 97 ≤ i → Gb.1 i = G.1 i := fun i hi => funext fun j => hsame i j (by omega)
          refine ⟨rfl, ?_, ?_, hTE, Or.inl ⟨?_, rfl, fun W hI => ?_, hsame⟩⟩
          · rw [b7, hF.i 3 7 (by decide) (by decide), hC.2.1, hM.1]
          · rw [b8, hF.i 3 8 (by decide) (by decide), hC.2.2, hM.2.1]
          · rw [b00, (hF 0 0 (by decide) (by decide)).2.2, (hFr 0 0 (by decide) (by decide)).2.2]
            exact hv
          · obtain ⟨ha, hb, hc, hd, he, hs⟩ := hI
            refine ⟨((ha.fr hFr (by decide) (by decide)).fr hF (by decide) (by decide)).fr hFa (by decide) (by decide), ((hb.fr hFr (by decide) (by decide)).fr hF (by decide) (by decide)).fr hFa (by decide) (by decide), hc, hd.fr (hrow 37 (by decide)) (hrow 38 (by decide)), ((he.fr hFr (by decide) (by decide)).fr hF (by decide) (by decide)).fr hFa (by decide) (by decide), ((hs.fr hFr (by decide) (by decide)).fr hF (by decide) (by decide)).fr hFa (by decide) (by decide)⟩
      · exact absurd hC.1 c
    · rw [e1] at e2
      exact absurd e2 (by simp)
  · rcases hd with ⟨f', e2, -⟩ | ⟨V', p', e2, hV', k2, k3, hPV⟩
    · rw [e1] at e2
      exact absurd e2 (by simp)
    · have hVV : (V, p) = (V', p') := Sum.inr.inj (e1.symm.trans e2)
      obtain ⟨rfl, rfl⟩ := Prod.mk.inj hVV
      have hun : ∀ {Gx : GS}, Q_readAll Ga Gx → MV V Gx ∧ (Gx.1 66 2).toInt = 0 := by
        intro Gx hq
        rcases hdx hq with ⟨f', e3, -⟩ | ⟨V3, p3, e3, hV3, k4, -⟩
        · rw [e1] at e3
          exact absurd e3 (by simp)
        · have hVV3 : (V, p) = (V3, p3) := Sum.inr.inj (e1.symm.trans e3)
          obtain ⟨rfl, rfl⟩ := Prod.mk.inj hVV3
          exact ⟨hV3, k4⟩
      obtain ⟨v1, v2, v3, v4, v5, v6, v7, v8, v9⟩ := rv_pav hm0 (fun q => (hun q).2) (fun q => (hun q).1)
      rcases hh with ⟨c, -⟩ | ⟨-, G11, -, hF11, f00, -, -, G13, hst, rfl, rfl⟩
      · omega
      have hF13 := hst.2.1
      obtain ⟨w1, w2, w3, w4, w5, w6, w7, w8, w9, w10⟩ := k_wStart_2_eq hst
      have hB : ∀ {i j : Nat}, (i ∉ ([110, 117, 68, 69, 70, 71, 72, 73, 74, 75, 77, 78, 79, 80, 81, 82, 83, 84, 85, 86, 87, 88, 89, 90, 91, 92, 93, 94, 95, 96] : List Nat) → (i, j) ∉ ([(66, 1), (66, 2), (66, 3), (66, 4), (66, 5), (66, 6), (66, 7), (66, 8), (66, 9), (66, 19), (66, 20), (66, 21), (66, 22), (66, 23), (66, 24), (66, 45), (66, 46), (66, 47), (66, 48), (66, 49), (66, 50), (66, 51), (66, 52), (66, 53), (66, 54), (66, 55), (66, 56), (66, 66), (66, 78), (66, 79), (66, 85)] : List (Nat × Nat)) → Gb.1 i j = G13.1 i j) := fun u1 u2 => hFm.i _ _ u1 u2
      rcases hh2 with ⟨-, G16, -, hF16, -, -, -, -, -, -, x22, G18, -, -, -, -, hF18, -, x38, G34, -, -, -, -, hF34, -, x51, G47, -, -, -, hF47, -, x62, G58, -, -, -, -, hF58, -, x75, G71, -, -, -, hF71, -, G90, -, hF90, -, -, -, -, -, x95, G91, -, -, -, hF91, -, e45, rfl⟩ | ⟨c, -⟩
      · have hnow : ∀ j, j < 10 → G91.1 110 j = G91.1 58 j := fun j hj => by
          refine Int32.toInt_inj.mp ?_
          rw [hFm.row1 58 (by decide) (by decide)]
          by_cases hj0 : j = 0
          · subst hj0
            rw [w6, v3]
          · by_cases hj7 : j = 7
            · subst hj7
              rw [w7, v4, hF11.i 2 16 (by decide) (by decide)]
              exact (hV.cw.2.2.2.2.2.2).symm
            · rw [w8 j hj hj0 hj7, v2 j hj hj0 hj7]
        have r58 : G91.1 58 = G13.1 58 := hFm.row1 58 (by decide) (by decide)
        have hrok : ROK V (G91.1 58) := by
          unfold ROK
          rw [r58, w6, w8 6 (by decide) (by decide) (by decide), w8 8 (by decide) (by decide) (by decide), w8 9 (by decide) (by decide) (by decide)]
          exact ⟨Or.inl rfl, ⟨by decide, by decide⟩, Or.inl rfl, by decide, by decide⟩
        have h59 : ∀ j, j < 10 → G91.1 59 j = G91.1 58 j := fun j hj => by
          rw [hFm.row1 59 (by decide) (by decide), r58]
          exact w9 j hj
        have hER : ER V G91 := by
          refine ⟨⟨0, 0, ⟨?_, ?_, ?_, ?_, by decide⟩, hnow, fun k hk => ?_, fun j hj => ?_, fun k j hk => absurd hk (Nat.not_lt_zero k), fun k j hk hk2 => absurd hk2 (Nat.not_lt_zero k)⟩, 0, by decide, ?_, fun b' hb' => ⟨?_, fun q => ?_⟩⟩
          · rw [hFm.i 30 4 (by decide) (by decide)]
            exact w4
          · rw [hFm.i 30 5 (by decide) (by decide)]
            exact w5
          · rw [v6]
            rfl
          · rw [v7]
            rfl
          · have hk0 : k = 0 := by omega
            subst hk0
            refine hrok.cg (fun j hj => ?_)
            show G91.1 59 (10 * 0 + j) = _
            rw [show 10 * 0 + j = j by omega]
            exact h59 j hj
          · rw [show 10 * 0 + j = j by omega]
            exact h59 j hj
          · refine Int32.toInt_inj.mp ?_
            rw [hFm.i 30 3 (by decide) (by decide), w3]
            rfl
          · rw [v9 b' hb', Nat.zero_testBit]
            exact ⟨fun q => absurd rfl q, fun q => absurd q (by decide)⟩
          · rw [Nat.zero_testBit] at q
            exact absurd q (by decide)
        have hCA : CaC_2 V G91 := by
          intro s hs
          left
          rw [hFm.row1 38 (by decide) (by decide), w10 s (by have := v1.1.2.1; omega)]
          rfl
        have hS0 : SV V G91 := by
          have k1 : (G91.1 31 5).toInt = 0 := by
            rw [hFm.i 31 5 (by decide) (by decide)]
            exact w1
          refine ⟨?_, fun j hj => absurd hj (by omega), fun j hj => absurd hj (by omega)⟩
          rw [k1, v8]
          rfl
        refine ⟨?_, ?_, ?_, hTE, Or.inr ⟨?_, ⟨V, ?_, v1, hPV, hCA, hER, hS0⟩, ?_, ?_, ?_, ?_⟩⟩
        · rw [← e45, hV.1.1, hV'.1.1]
        · rw [b7, hF13.i 3 7 (by decide) (by decide), hF11.i 3 7 (by decide) (by decide), k7, hF91.i 66 2 (by decide) (by decide), hF90.i 66 2 (by decide) (by decide), hF71.i 66 2 (by decide) (by decide), hF58.i 66 2 (by decide) (by decide), hF47.i 66 2 (by decide) (by decide), hF34.i 66 2 (by decide) (by decide), hF18.i 66 2 (by decide) (by decide), hF16.i 66 2 (by decide) (by decide), k2]
        · rw [b8, hF13.i 3 8 (by decide) (by decide), hF11.i 3 8 (by decide) (by decide), k8, hF91.i 66 3 (by decide) (by decide), hF90.i 66 3 (by decide) (by decide), hF71.i 66 3 (by decide) (by decide), hF58.i 66 3 (by decide) (by decide), hF47.i 66 3 (by decide) (by decide), hF34.i 66 3 (by decide) (by decide), hF18.i 66 3 (by decide) (by decide), hF16.i 66 3 (by decide) (by decide), k3]
        · rw [b00, (hF13 0 0 (by decide) (by decide)).2.2]
          exact f00
        · have hW := hV.cw
          have rr : ∀ i, i ∈ [20, 21, 22, 23, 24, 25, 26, 27, 28] → G91.1 i = G3.1 i := by
            have key : ∀ i ∈ [20, 21, 22, 23, 24, 25, 26, 27, 28], (i ∉ ([110, 117, 68, 69, 70, 71, 72, 73, 74, 75, 77, 78, 79, 80, 81, 82, 83, 84, 85, 86, 87, 88, 89, 90, 91, 92, 93, 94, 95, 96] : List Nat) ∧ ∀ x ∈ ([(66, 1), (66, 2), (66, 3), (66, 4), (66, 5), (66, 6), (66, 7), (66, 8), (66, 9), (66, 19), (66, 20), (66, 21), (66, 22), (66, 23), (66, 24), (66, 45), (66, 46), (66, 47), (66, 48), (66, 49), (66, 50), (66, 51), (66, 52), (66, 53), (66, 54), (66, 55), (66, 56), (66, 66), (66, 78), (66, 79), (66, 85)] : List (Nat × Nat)), x.1 ≠ i) ∧ i ≠ 0 ∧ i ≠ 38 ∧ i ≠ 58 ∧ i ≠ 59 ∧ i ≠ 6 ∧ i ≠ 30 ∧ i ≠ 31 := by decide
            intro i hi
            obtain ⟨⟨u1, u2⟩, u3, u4, u5, u6, u7, u8, u9⟩ := key i hi
            rw [hFm.row1 i u1 u2, hF13.row1 i (by simp; omega) (by simp; omega), hF11.row1 i (by simp) (by simp; omega)]
          have ff : ∀ j, j ∈ [9, 10, 11, 12, 13, 14, 15, 16] → G91.1 2 j = G3.1 2 j := by
            intro j hj
            rw [hFm.i 2 j (by decide) (by simp), hF13.i 2 j (by decide) (by simp), hF11.i 2 j (by decide) (by simp)]
          unfold CW_2 StC_2 WkC_2 CodeC_2 EndC_2 at hW ⊢
          rw [ff 9 (by decide), ff 10 (by decide), ff 11 (by decide), ff 12 (by decide), ff 13 (by decide), ff 14 (by decide), ff 15 (by decide), ff 16 (by decide), rr 20 (by decide), rr 21 (by decide), rr 22 (by decide), rr 23 (by decide), rr 24 (by decide), rr 25 (by decide), rr 26 (by decide), rr 27 (by decide), rr 28 (by decide)]
          exact hW
        · rw [hFm.i 31 5 (by decide) (by decide)]
          exact w1
        · rw [v8]
          rfl
        · rw [hFm.i 0 12 (by decide) (by decide)]
          exact w2
        · rw [v5]
          rfl
      · omega
theorem k_wStart_1_eq {G G1 : GS} (h : P_wStart_1 G G1) : (G1.1 31 5).toInt = 0 ∧ (G1.1 0 12).toInt = 0 ∧ (G1.1 30 3).toInt = 0 ∧ (G1.1 30 4).toInt = 0 ∧ (G1.1 30 5).toInt = 0 ∧ G1.1 58 0 = -1 ∧ G1.1 58 7 = G.1 1 16 ∧ (∀ j, j < 10 → j ≠ 0 → j ≠ 7 → G1.1 58 j = 0) ∧ (∀ j, j < 10 → G1.1 59 j = G1.1 58 j) ∧ ∀ j, j < 3 → G1.1 38 j = -1 := by
  obtain ⟨-, -, -, G2, hlk, G8, hst, hFe, e12, e5⟩ := h
  have hFst := hst.2.1
  obtain ⟨-, -, -, G3, hfi, G4, -, hF4, e3, e58, G5, hfo, rfl⟩ := hst
  obtain ⟨-, hFf, -, -, f4, f5, f59⟩ := hfo
  obtain ⟨-, -, -, G6, -, -, -, G7, hfl, rfl⟩ := hlk
  have r58 : G1.1 58 = G4.1 58 := by rw [hFe.row1 58 (by decide) (by decide), hFf.row1 58 (by decide) (by decide)]
  have z0 : (0 : Int32).toNatClampNeg = 0 := rfl
  have z7 : (7 : Int32).toNatClampNeg = 7 := rfl
  have z10 : (10 : Int32).toNatClampNeg = 10 := rfl
  rw [z0, z7] at e58
  rw [z0, z10] at f59
  refine ⟨by rw [e5]; rfl, by rw [e12]; rfl, ?_, ?_, ?_, ?_, ?_, fun j hj h0 h7 => ?_, fun j hj => ?_, fun j hj => ?_⟩
  · rw [hFe.i 30 3 (by decide) (by decide), hFf.i 30 3 (by decide) (by decide), e3]
    rfl
  · rw [hFe.i 30 4 (by decide) (by decide), f4]
    rfl
  · rw [hFe.i 30 5 (by decide) (by decide), f5]
    rfl
  · rw [r58, e58]
    rfl
  · rw [r58, e58]
    rfl
  · rw [r58, e58, show upd (upd (G3.1 58) 0 (-1)) 7 (G.1 1 16) j = upd (G3.1 58) 0 (-1) j from if_neg h7, show upd (G3.1 58) 0 (-1) j = G3.1 58 j from if_neg h0]
    exact k_fill_58_eq hfi j hj
  · rw [r58, hFe.row1 59 (by decide) (by decide), f59, cpy_in (by omega) (by omega), show 0 + (j - 0) = j by omega]
  · rw [hFe.row1 38 (by decide) (by decide), hFst.row1 38 (by decide) (by decide)]
    exact k_fill_38_eq hfl j hj
/-- how it comes out: the same answer and FAULT; a good one: a PAVING that both hold -/
def PavO_2 (r r' : Int32) (G Ga Gb : GS) : Prop := r.toInt = r'.toInt ∧ (Gb.1 3 7).toInt = (Gb.1 66 2).toInt ∧ (Gb.1 3 8).toInt = (Gb.1 66 3).toInt ∧ TE Gb ∧ ((Gb.2.2 0 0 = 2 ∧ r.toInt = -1 ∧ (∀ V, IV_2 V G → IV_2 V Gb) ∧ (∀ i j, i = 0 ∧ j = 12 ∨ 29 ≤ i ∧ i ≤ 31 ∨ 33 ≤ i ∧ i ≤ 33 ∨ 37 ≤ i ∧ i ≤ 65 ∨ i = 66 ∧ 57 ≤ j ∨ 97 ≤ i → Gb.1 i j = G.1 i j)) ∨ (Gb.2.2 0 0 = 1 ∧ (∃ V, IV_1 V Gb) ∧ (Gb.1 31 5).toInt = 0 ∧ (Gb.1 66 85).toInt = 0 ∧ (Gb.1 0 12).toInt = 0 ∧ (Gb.1 66 66).toInt = 0))
theorem pavV_2 {G Ga Gb : GS} {r r' : Int32} (hx : P_Wpavement_2 G r Ga) (hm : Q_pavement Ga r' Gb) (hT : TE G) (htp : (G.1 0 11).toInt = (G.1 66 1).toInt) (h0 : 0 ≤ (G.1 0 11).toInt) (h1 : (G.1 0 11).toInt ≤ 1600) (hv : G.2.2 0 0 = 2) : PavO_2 r r' G Ga Gb := by
  have hm0 := hm
  have hFx := hx.2.1
  have hFm := hm.2.1
  obtain ⟨-, -, -, r2, G3, hrd, hh⟩ := hx
  obtain ⟨-, -, -, G2, hra, hh2⟩ := hm
  obtain ⟨n, hn0⟩ : ∃ n : Nat, (G.1 0 11).toInt = (n : Int) := ⟨(G.1 0 11).toInt.toNat, by clear hh hh2; omega⟩
  have hn : n ≤ 1600 := by clear hh hh2; omega
  obtain ⟨b, hb⟩ : ∃ b : Nat → Int, b = fun j => (G.1 67 j).toInt := ⟨_, rfl⟩
  have r67 : Ga.1 67 = G.1 67 := hFx.row1 67 (by decide) (by decide)
  have hc := c_read_1 (b := b) hrd hn0 hn (fun j hj => by
    have := hT j (by omega)
    rw [hb]
    exact ⟨this.2.2.1, this.2.2.2, this.1, this.2.1⟩)
  have hdx : ∀ {Gx : GS}, Q_readAll Ga Gx → (∃ f, parse b n = .inl f ∧ MF f Gx) ∨ (∃ V p, parse b n = .inr (V, p) ∧ MV V Gx ∧ (Gx.1 66 2).toInt = 0 ∧ (Gx.1 66 3).toInt = -1 ∧ PVok V) := fun hra => m_readAllP (b := b) (n := n) hra (by rw [hFx.i 66 1 (by decide) (by decide)]; omega) hn (fun j hj => by
    have := hT j (by omega)
    rw [hb, r67]
    exact ⟨rfl, this.1, this.2.1⟩)
  have hd := hdx hra
  have hTE : TE Gb := (hT.fr hFx (by decide) (by decide)).fr hFm (by decide) (by decide)
  have b7 : Gb.1 3 7 = Ga.1 3 7 := hFm.i 3 7 (by decide) (by decide)
  have b8 : Gb.1 3 8 = Ga.1 3 8 := hFm.i 3 8 (by decide) (by decide)
  have b00 : Gb.2.2 0 0 = Ga.2.2 0 0 := (hFm 0 0 (by decide) (by decide)).2.2
  rcases hc with ⟨f, e1, hC⟩ | ⟨V, p, e1, hr, hV, k7, k8⟩
  · rcases hd with ⟨f', e2, hM⟩ | ⟨V', p', e2, -⟩
    · have hff : f = f' := Sum.inl.inj (e1.symm.trans e2)
      subst hff
      have hpo := hM.pos
      rcases hh with ⟨-, rfl, hF, -⟩ | ⟨c, -⟩
      · rcases hh2 with ⟨c, -⟩ | ⟨-, rfl, eG9⟩
        · omega
        · obtain rfl := eG9.symm
          have hFr := hrd.2.1
          have hFa := hra.2.1
          have hsame : ∀ i j, i = 0 ∧ j = 12 ∨ 29 ≤ i ∧ i ≤ 31 ∨ 33 ≤ i ∧ i ≤ 33 ∨ 37 ≤ i ∧ i ≤ 65 ∨ i = 66 ∧ 57 ≤ j ∨ 97 ≤ i → Gb.1 i j = G.1 i j := by
            intro i j hij
            have u1 : i ∉ ([10, 11, 12, 13, 14, 15, 16, 17, 18, 34, 35, 36] : List Nat) := fun w => by simp at w; omega
            have u2 : (i, j) ∉ ([(1, 9), (1, 10), (1, 11), (1, 12), (1, 13), (1, 14), (1, 15), (1, 16), (3, 1), (3, 2), (3, 3), (3, 4), (3, 5), (3, 6), (3, 7), (3, 8), (4, 1), (4, 2), (5, 5), (5, 6), (5, 7), (5, 8), (5, 9)] : List (Nat × Nat)) := fun w => by simp at w; omega
            have u3 : i ∉ ([68, 69, 70, 71, 75, 77, 78, 79, 80, 81, 82, 83, 84, 85, 86] : List Nat) := fun w => by simp at w; omega
            have u4 : (i, j) ∉ ([(66, 1), (66, 2), (66, 3), (66, 4), (66, 5), (66, 6), (66, 7), (66, 8), (66, 9), (66, 19), (66, 20), (66, 21), (66, 23), (66, 24), (66, 45), (66, 46), (66, 47), (66, 48), (66, 49), (66, 50), (66, 51)] : List (Nat × Nat)) := fun w => by simp at w; omega
            rw [hFa.i i j u3 u4, hF.i i j (by simp) (by simp; omega), hFr.i i j u1 u2]
          have hrow : ∀ i, 29 ≤ i ∧ i ≤ 31 ∨ 33 ≤ i ∧ i ≤ 33 ∨ 37 ≤ i ∧ i ≤ 65 ∨ 97 ≤ i → Gb.1 i = G.1 i := fun i hi => funext fun j => hsame i j (by omega)
          refine ⟨rfl, ?_, ?_, hTE, Or.inl ⟨?_, rfl, fun W hI => ?_, hsame⟩⟩
          · rw [b7, hF.i 3 7 (by decide) (by decide), hC.2.1, hM.1]
          · rw [b8, hF.i 3 8 (by decide) (by decide), hC.2.2, hM.2.1]
          · rw [b00, (hF 0 0 (by decide) (by decide)).2.2, (hFr 0 0 (by decide) (by decide)).2.2]
            exact hv
          · obtain ⟨ha, hb, hc, hd, he, hs⟩ := hI
            refine ⟨((ha.fr hFr (by decide) (by decide)).fr hF (by decide) (by decide)).fr hFa (by decide) (by decide), ((hb.fr hFr (by decide) (by decide)).fr hF (by decide) (by decide)).fr hFa (by decide) (by decide), hc, hd.fr (hrow 37 (by decide)) (hrow 38 (by decide)), ((he.fr hFr (by decide) (by decide)).fr hF (by decide) (by decide)).fr hFa (by decide) (by decide), ((hs.fr hFr (by decide) (by decide)).fr hF (by decide) (by decide)).fr hFa (by decide) (by decide)⟩
      · exact absurd hC.1 c
    · rw [e1] at e2
      exact absurd e2 (by simp)
  · rcases hd with ⟨f', e2, -⟩ | ⟨V', p', e2, hV', k2, k3, hPV⟩
    · rw [e1] at e2
      exact absurd e2 (by simp)
    · have hVV : (V, p) = (V', p') := Sum.inr.inj (e1.symm.trans e2)
      obtain ⟨rfl, rfl⟩ := Prod.mk.inj hVV
      have hun : ∀ {Gx : GS}, Q_readAll Ga Gx → MV V Gx ∧ (Gx.1 66 2).toInt = 0 := by
        intro Gx hq
        rcases hdx hq with ⟨f', e3, -⟩ | ⟨V3, p3, e3, hV3, k4, -⟩
        · rw [e1] at e3
          exact absurd e3 (by simp)
        · have hVV3 : (V, p) = (V3, p3) := Sum.inr.inj (e1.symm.trans e3)
          obtain ⟨rfl, rfl⟩ := Prod.mk.inj hVV3
          exact ⟨hV3, k4⟩
      obtain ⟨v1, v2, v3, v4, v5, v6, v7, v8, v9⟩ := rv_pav hm0 (fun q => (hun q).2) (fun q => (hun q).1)
      rcases hh with ⟨c, -⟩ | ⟨-, G11, -, hF11, f00, -, -, G13, hst, rfl, rfl⟩
      · omega
      have hF13 := hst.2.1
      obtain ⟨w1, w2, w3, w4, w5, w6, w7, w8, w9, w10⟩ := k_wStart_1_eq hst
      have hB : ∀ {i j : Nat}, (i ∉ ([110, 117, 68, 69, 70, 71, 72, 73, 74, 75, 77, 78, 79, 80, 81, 82, 83, 84, 85, 86, 87, 88, 89, 90, 91, 92, 93, 94, 95, 96] : List Nat) → (i, j) ∉ ([(66, 1), (66, 2), (66, 3), (66, 4), (66, 5), (66, 6), (66, 7), (66, 8), (66, 9), (66, 19), (66, 20), (66, 21), (66, 22), (66, 23), (66, 24), (66, 45), (66, 46), (66, 47), (66, 48), (66, 49), (66, 50), (66, 51), (66, 52), (66, 53), (66, 54), (66, 55), (66, 56), (66, 66), (66, 78), (66, 79), (66, 85)] : List (Nat × Nat)) → Gb.1 i j = G13.1 i j) := fun u1 u2 => hFm.i _ _ u1 u2
      rcases hh2 with ⟨-, G16, -, hF16, -, -, -, -, -, -, x22, G18, -, -, -, -, hF18, -, x38, G34, -, -, -, -, hF34, -, x51, G47, -, -, -, hF47, -, x62, G58, -, -, -, -, hF58, -, x75, G71, -, -, -, hF71, -, G90, -, hF90, -, -, -, -, -, x95, G91, -, -, -, hF91, -, e45, rfl⟩ | ⟨c, -⟩
      · have hnow : ∀ j, j < 10 → G91.1 110 j = G91.1 58 j := fun j hj => by
          refine Int32.toInt_inj.mp ?_
          rw [hFm.row1 58 (by decide) (by decide)]
          by_cases hj0 : j = 0
          · subst hj0
            rw [w6, v3]
          · by_cases hj7 : j = 7
            · subst hj7
              rw [w7, v4, hF11.i 1 16 (by decide) (by decide)]
              exact (hV.cw.2.2.2.2.2.2).symm
            · rw [w8 j hj hj0 hj7, v2 j hj hj0 hj7]
        have r58 : G91.1 58 = G13.1 58 := hFm.row1 58 (by decide) (by decide)
        have hrok : ROK V (G91.1 58) := by
          unfold ROK
          rw [r58, w6, w8 6 (by decide) (by decide) (by decide), w8 8 (by decide) (by decide) (by decide), w8 9 (by decide) (by decide) (by decide)]
          exact ⟨Or.inl rfl, ⟨by decide, by decide⟩, Or.inl rfl, by decide, by decide⟩
        have h59 : ∀ j, j < 10 → G91.1 59 j = G91.1 58 j := fun j hj => by
          rw [hFm.row1 59 (by decide) (by decide), r58]
          exact w9 j hj
        have hER : ER V G91 := by
          refine ⟨⟨0, 0, ⟨?_, ?_, ?_, ?_, by decide⟩, hnow, fun k hk => ?_, fun j hj => ?_, fun k j hk => absurd hk (Nat.not_lt_zero k), fun k j hk hk2 => absurd hk2 (Nat.not_lt_zero k)⟩, 0, by decide, ?_, fun b' hb' => ⟨?_, fun q => ?_⟩⟩
          · rw [hFm.i 30 4 (by decide) (by decide)]
            exact w4
          · rw [hFm.i 30 5 (by decide) (by decide)]
            exact w5
          · rw [v6]
            rfl
          · rw [v7]
            rfl
          · have hk0 : k = 0 := by omega
            subst hk0
            refine hrok.cg (fun j hj => ?_)
            show G91.1 59 (10 * 0 + j) = _
            rw [show 10 * 0 + j = j by omega]
            exact h59 j hj
          · rw [show 10 * 0 + j = j by omega]
            exact h59 j hj
          · refine Int32.toInt_inj.mp ?_
            rw [hFm.i 30 3 (by decide) (by decide), w3]
            rfl
          · rw [v9 b' hb', Nat.zero_testBit]
            exact ⟨fun q => absurd rfl q, fun q => absurd q (by decide)⟩
          · rw [Nat.zero_testBit] at q
            exact absurd q (by decide)
        have hCA : CaC_1 V G91 := by
          intro s hs
          left
          rw [hFm.row1 38 (by decide) (by decide), w10 s (by have := v1.1.2.1; omega)]
          rfl
        have hS0 : SV V G91 := by
          have k1 : (G91.1 31 5).toInt = 0 := by
            rw [hFm.i 31 5 (by decide) (by decide)]
            exact w1
          refine ⟨?_, fun j hj => absurd hj (by omega), fun j hj => absurd hj (by omega)⟩
          rw [k1, v8]
          rfl
        refine ⟨?_, ?_, ?_, hTE, Or.inr ⟨?_, ⟨V, ?_, v1, hPV, hCA, hER, hS0⟩, ?_, ?_, ?_, ?_⟩⟩
        · rw [← e45, hV.1.1, hV'.1.1]
        · rw [b7, hF13.i 3 7 (by decide) (by decide), hF11.i 3 7 (by decide) (by decide), k7, hF91.i 66 2 (by decide) (by decide), hF90.i 66 2 (by decide) (by decide), hF71.i 66 2 (by decide) (by decide), hF58.i 66 2 (by decide) (by decide), hF47.i 66 2 (by decide) (by decide), hF34.i 66 2 (by decide) (by decide), hF18.i 66 2 (by decide) (by decide), hF16.i 66 2 (by decide) (by decide), k2]
        · rw [b8, hF13.i 3 8 (by decide) (by decide), hF11.i 3 8 (by decide) (by decide), k8, hF91.i 66 3 (by decide) (by decide), hF90.i 66 3 (by decide) (by decide), hF71.i 66 3 (by decide) (by decide), hF58.i 66 3 (by decide) (by decide), hF47.i 66 3 (by decide) (by decide), hF34.i 66 3 (by decide) (by decide), hF18.i 66 3 (by decide) (by decide), hF16.i 66 3 (by decide) (by decide), k3]
        · rw [b00, (hF13 0 0 (by decide) (by decide)).2.2]
          exact f00
        · have hW := hV.cw
          have rr : ∀ i, i ∈ [10, 11, 12, 13, 14, 15, 16, 17, 18] → G91.1 i = G3.1 i := by
            have key : ∀ i ∈ [10, 11, 12, 13, 14, 15, 16, 17, 18], (i ∉ ([110, 117, 68, 69, 70, 71, 72, 73, 74, 75, 77, 78, 79, 80, 81, 82, 83, 84, 85, 86, 87, 88, 89, 90, 91, 92, 93, 94, 95, 96] : List Nat) ∧ ∀ x ∈ ([(66, 1), (66, 2), (66, 3), (66, 4), (66, 5), (66, 6), (66, 7), (66, 8), (66, 9), (66, 19), (66, 20), (66, 21), (66, 22), (66, 23), (66, 24), (66, 45), (66, 46), (66, 47), (66, 48), (66, 49), (66, 50), (66, 51), (66, 52), (66, 53), (66, 54), (66, 55), (66, 56), (66, 66), (66, 78), (66, 79), (66, 85)] : List (Nat × Nat)), x.1 ≠ i) ∧ i ≠ 0 ∧ i ≠ 38 ∧ i ≠ 58 ∧ i ≠ 59 ∧ i ≠ 6 ∧ i ≠ 30 ∧ i ≠ 31 := by decide
            intro i hi
            obtain ⟨⟨u1, u2⟩, u3, u4, u5, u6, u7, u8, u9⟩ := key i hi
            rw [hFm.row1 i u1 u2, hF13.row1 i (by simp; omega) (by simp; omega), hF11.row1 i (by simp) (by simp; omega)]
          have ff : ∀ j, j ∈ [9, 10, 11, 12, 13, 14, 15, 16] → G91.1 1 j = G3.1 1 j := by
            intro j hj
            rw [hFm.i 1 j (by decide) (by simp), hF13.i 1 j (by decide) (by simp), hF11.i 1 j (by decide) (by simp)]
          unfold CW_1 StC_1 WkC_1 CodeC_1 EndC_1 at hW ⊢
          rw [ff 9 (by decide), ff 10 (by decide), ff 11 (by decide), ff 12 (by decide), ff 13 (by decide), ff 14 (by decide), ff 15 (by decide), ff 16 (by decide), rr 10 (by decide), rr 11 (by decide), rr 12 (by decide), rr 13 (by decide), rr 14 (by decide), rr 15 (by decide), rr 16 (by decide), rr 17 (by decide), rr 18 (by decide)]
          exact hW
        · rw [hFm.i 31 5 (by decide) (by decide)]
          exact w1
        · rw [v8]
          rfl
        · rw [hFm.i 0 12 (by decide) (by decide)]
          exact w2
        · rw [v5]
          rfl
      · omega
