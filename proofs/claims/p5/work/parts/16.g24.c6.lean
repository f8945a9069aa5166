/-! pavement on both sides -/
theorem pav_1 {G Ga Gb : GS} {r r' : Int32} (hx : P_Wpavement_1 G r Ga) (hm : Q_pavement Ga r' Gb) (hT : TE G) (htp : (G.1 0 11).toInt = (G.1 66 1).toInt) (h0 : 0 ≤ (G.1 0 11).toInt) (h1 : (G.1 0 11).toInt ≤ 1600) : r.toInt = r'.toInt ∧ (Gb.1 3 7).toInt = (Gb.1 66 2).toInt ∧ (Gb.1 3 8).toInt = (Gb.1 66 3).toInt ∧ TE Gb := by
  have hFx := hx.2.1
  have hFm := hm.2.1
  obtain ⟨-, -, -, r2, G3, hrd, hh⟩ := hx
  obtain ⟨-, -, -, G2, hra, hh2⟩ := hm
  obtain ⟨n, hn0⟩ : ∃ n : Nat, (G.1 0 11).toInt = (n : Int) := ⟨(G.1 0 11).toInt.toNat, by omega⟩
  have hn : n ≤ 1600 := by omega
  obtain ⟨b, hb⟩ : ∃ b : Nat → Int, b = fun j => (G.1 67 j).toInt := ⟨_, rfl⟩
  have r67 : Ga.1 67 = G.1 67 := hFx.row1 67 (by decide) (by decide)
  have hc := c_read_2 (b := b) hrd hn0 hn (fun j hj => by
    have := hT j (by omega)
    rw [hb]
    exact ⟨this.2.2.1, this.2.2.2, this.1, this.2.1⟩)
  have hd := m_readAll (b := b) (n := n) hra (by rw [hFx.i 66 1 (by decide) (by decide)]; omega) hn (fun j hj => by
    have := hT j (by omega)
    rw [hb, r67]
    exact ⟨rfl, this.1, this.2.1⟩)
  have hTE : TE Gb := (hT.fr hFx (by decide) (by decide)).fr hFm (by decide) (by decide)
  have b7 : Gb.1 3 7 = Ga.1 3 7 := hFm.i 3 7 (by decide) (by decide)
  have b8 : Gb.1 3 8 = Ga.1 3 8 := hFm.i 3 8 (by decide) (by decide)
  rcases hc with ⟨f, e1, hC⟩ | ⟨V, p, e1, hr, hV, k7, k8⟩
  · rcases hd with ⟨f', e2, hM⟩ | ⟨V', p', e2, -⟩
    · have hff : f = f' := Sum.inl.inj (e1.symm.trans e2)
      subst hff
      have hpo := hM.pos
      rcases hh with ⟨-, rfl, hF, -⟩ | ⟨c, -⟩
      · rcases hh2 with ⟨c, -⟩ | ⟨-, rfl, rfl⟩
        · omega
        · refine ⟨rfl, ?_, ?_, hTE⟩
          · rw [b7, hF.i 3 7 (by decide) (by decide), hC.2.1, hM.1]
          · rw [b8, hF.i 3 8 (by decide) (by decide), hC.2.2, hM.2.1]
      · exact absurd hC.1 c
    · rw [e1] at e2
      exact absurd e2 (by simp)
  · rcases hd with ⟨f', e2, -⟩ | ⟨V', p', e2, hV', k2, k3⟩
    · rw [e1] at e2
      exact absurd e2 (by simp)
    · have hVV : (V, p) = (V', p') := Sum.inr.inj (e1.symm.trans e2)
      obtain ⟨rfl, rfl⟩ := Prod.mk.inj hVV
      rcases hh with ⟨c, -⟩ | ⟨-, G11, -, hF11, -, -, -, G13, -, hF13, rfl, rfl⟩
      · omega
      rcases hh2 with ⟨-, G16, -, hF16, -, -, -, -, -, -, x22, G18, -, -, -, -, hF18, -, x38, G34, -, -, -, -, hF34, -, x51, G47, -, -, -, hF47, -, x62, G58, -, -, -, -, hF58, -, x75, G71, -, -, -, hF71, -, G90, -, hF90, -, -, -, -, -, x95, G91, -, -, -, hF91, -, rfl, rfl⟩ | ⟨c, -⟩
      · refine ⟨?_, ?_, ?_, hTE⟩
        · rw [hV.1.1, hV'.1.1]
        · rw [b7, hF13.i 3 7 (by decide) (by decide), hF11.i 3 7 (by decide) (by decide), k7, hF91.i 66 2 (by decide) (by decide), hF90.i 66 2 (by decide) (by decide), hF71.i 66 2 (by decide) (by decide), hF58.i 66 2 (by decide) (by decide), hF47.i 66 2 (by decide) (by decide), hF34.i 66 2 (by decide) (by decide), hF18.i 66 2 (by decide) (by decide), hF16.i 66 2 (by decide) (by decide), k2]
        · rw [b8, hF13.i 3 8 (by decide) (by decide), hF11.i 3 8 (by decide) (by decide), k8, hF91.i 66 3 (by decide) (by decide), hF90.i 66 3 (by decide) (by decide), hF71.i 66 3 (by decide) (by decide), hF58.i 66 3 (by decide) (by decide), hF47.i 66 3 (by decide) (by decide), hF34.i 66 3 (by decide) (by decide), hF18.i 66 3 (by decide) (by decide), hF16.i 66 3 (by decide) (by decide), k3]
      · omega
theorem pav_2 {G Ga Gb : GS} {r r' : Int32} (hx : P_Wpavement_2 G r Ga) (hm : Q_pavement Ga r' Gb) (hT : TE G) (htp : (G.1 0 11).toInt = (G.1 66 1).toInt) (h0 : 0 ≤ (G.1 0 11).toInt) (h1 : (G.1 0 11).toInt ≤ 1600) : r.toInt = r'.toInt ∧ (Gb.1 3 7).toInt = (Gb.1 66 2).toInt ∧ (Gb.1 3 8).toInt = (Gb.1 66 3).toInt ∧ TE Gb := by
  have hFx := hx.2.1
  have hFm := hm.2.1
  obtain ⟨-, -, -, r2, G3, hrd, hh⟩ := hx
  obtain ⟨-, -, -, G2, hra, hh2⟩ := hm
  obtain ⟨n, hn0⟩ : ∃ n : Nat, (G.1 0 11).toInt = (n : Int) := ⟨(G.1 0 11).toInt.toNat, by omega⟩
  have hn : n ≤ 1600 := by omega
  obtain ⟨b, hb⟩ : ∃ b : Nat → Int, b = fun j => (G.1 67 j).toInt := ⟨_, rfl⟩
  have r67 : Ga.1 67 = G.1 67 := hFx.row1 67 (by decide) (by decide)
  have hc := c_read_1 (b := b) hrd hn0 hn (fun j hj => by
    have := hT j (by omega)
    rw [hb]
    exact ⟨this.2.2.1, this.2.2.2, this.1, this.2.1⟩)
  have hd := m_readAll (b := b) (n := n) hra (by rw [hFx.i 66 1 (by decide) (by decide)]; omega) hn (fun j hj => by
    have := hT j (by omega)
    rw [hb, r67]
    exact ⟨rfl, this.1, this.2.1⟩)
  have hTE : TE Gb := (hT.fr hFx (by decide) (by decide)).fr hFm (by decide) (by decide)
  have b7 : Gb.1 3 7 = Ga.1 3 7 := hFm.i 3 7 (by decide) (by decide)
  have b8 : Gb.1 3 8 = Ga.1 3 8 := hFm.i 3 8 (by decide) (by decide)
  rcases hc with ⟨f, e1, hC⟩ | ⟨V, p, e1, hr, hV, k7, k8⟩
  · rcases hd with ⟨f', e2, hM⟩ | ⟨V', p', e2, -⟩
    · have hff : f = f' := Sum.inl.inj (e1.symm.trans e2)
      subst hff
      have hpo := hM.pos
      rcases hh with ⟨-, rfl, hF, -⟩ | ⟨c, -⟩
      · rcases hh2 with ⟨c, -⟩ | ⟨-, rfl, rfl⟩
        · omega
        · refine ⟨rfl, ?_, ?_, hTE⟩
          · rw [b7, hF.i 3 7 (by decide) (by decide), hC.2.1, hM.1]
          · rw [b8, hF.i 3 8 (by decide) (by decide), hC.2.2, hM.2.1]
      · exact absurd hC.1 c
    · rw [e1] at e2
      exact absurd e2 (by simp)
  · rcases hd with ⟨f', e2, -⟩ | ⟨V', p', e2, hV', k2, k3⟩
    · rw [e1] at e2
      exact absurd e2 (by simp)
    · have hVV : (V, p) = (V', p') := Sum.inr.inj (e1.symm.trans e2)
      obtain ⟨rfl, rfl⟩ := Prod.mk.inj hVV
      rcases hh with ⟨c, -⟩ | ⟨-, G11, -, hF11, -, -, -, G13, -, hF13, rfl, rfl⟩
      · omega
      rcases hh2 with ⟨-, G16, -, hF16, -, -, -, -, -, -, x22, G18, -, -, -, -, hF18, -, x38, G34, -, -, -, -, hF34, -, x51, G47, -, -, -, hF47, -, x62, G58, -, -, -, -, hF58, -, x75, G71, -, -, -, hF71, -, G90, -, hF90, -, -, -, -, -, x95, G91, -, -, -, hF91, -, rfl, rfl⟩ | ⟨c, -⟩
      · refine ⟨?_, ?_, ?_, hTE⟩
        · rw [hV.1.1, hV'.1.1]
        · rw [b7, hF13.i 3 7 (by decide) (by decide), hF11.i 3 7 (by decide) (by decide), k7, hF91.i 66 2 (by decide) (by decide), hF90.i 66 2 (by decide) (by decide), hF71.i 66 2 (by decide) (by decide), hF58.i 66 2 (by decide) (by decide), hF47.i 66 2 (by decide) (by decide), hF34.i 66 2 (by decide) (by decide), hF18.i 66 2 (by decide) (by decide), hF16.i 66 2 (by decide) (by decide), k2]
        · rw [b8, hF13.i 3 8 (by decide) (by decide), hF11.i 3 8 (by decide) (by decide), k8, hF91.i 66 3 (by decide) (by decide), hF90.i 66 3 (by decide) (by decide), hF71.i 66 3 (by decide) (by decide), hF58.i 66 3 (by decide) (by decide), hF47.i 66 3 (by decide) (by decide), hF34.i 66 3 (by decide) (by decide), hF18.i 66 3 (by decide) (by decide), hF16.i 66 3 (by decide) (by decide), k3]
      · omega
