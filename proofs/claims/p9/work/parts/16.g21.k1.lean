/-! the reference's formulas leave earlier code as it was -/
def KpM (f : Nat) (G G1 : GS) : Prop := (∀ j, j < 320 * f → G1.1 69 j = G.1 69 j ∧ G1.1 70 j = G.1 70 j) ∧ ∀ k, k < f → G1.1 71 k = G.1 71 k
theorem KpM.tr {f : Nat} {G G1 G2 : GS} (h : KpM f G G1) (h' : KpM f G1 G2) : KpM f G G2 := ⟨fun j q => ⟨(h'.1 j q).1.trans (h.1 j q).1, (h'.1 j q).2.trans (h.1 j q).2⟩, fun k q => (h'.2 k q).trans (h.2 k q)⟩
theorem KpM.of {f : Nat} {rs : List Nat} {fs : List (Nat × Nat)} {G G1 : GS} (hF : Fr rs fs G G1) (h1 : 69 ∉ rs ∧ 70 ∉ rs ∧ 71 ∉ rs) (h2 : ∀ x ∈ fs, x.1 ≠ 69 ∧ x.1 ≠ 70 ∧ x.1 ≠ 71) : KpM f G G1 := by
  unfold KpM
  rw [hF.row1 69 h1.1 (fun x hx => (h2 x hx).1), hF.row1 70 h1.2.1 (fun x hx => (h2 x hx).2.1), hF.row1 71 h1.2.2 (fun x hx => (h2 x hx).2.2)]
  exact ⟨fun _ _ => ⟨rfl, rfl⟩, fun _ _ => rfl⟩
theorem CodeM.kp {f k : Nat} {C : List (Int × Int)} {G G1 : GS} (h : CodeM k C G) (hK : KpM f G G1) (hk : k < f) (hl : C.length ≤ 320) : CodeM k C G1 := by
  refine ⟨by rw [hK.2 k hk]; exact h.1, fun i hi => ?_⟩
  obtain ⟨e1, e2⟩ := hK.1 (320 * k + i) (by omega)
  rw [e1, e2]
  exact h.2 i hi
theorem kp_add {f : Nat} {s v : Int32} {G G1 : GS} (h : Q_add s v G G1) (hB : Bd G) (hf : (G.1 66 19).toInt = (f : Int)) : KpM f G G1 := by
  obtain ⟨-, -, -, y2, t2, y3, e3, y5, t5, y7, t7, y8, e8, y10, t10, y12, e12, y14, t14, -, e69, e70, e71⟩ := h
  have hb : 0 ≤ (G.1 71 f).toInt := (hB.i 71 f (lo := 0) (hi := 320) rfl rfl).1
  rw [cn_eq hf] at e3 e8 e71
  subst e3
  subst e8
  have c5 := c_nat y5
  have c10 := c_nat y10
  refine ⟨fun j hj => ⟨?_, ?_⟩, fun k hk => ?_⟩
  · rw [e69]
    exact if_neg (by omega)
  · rw [e70]
    exact if_neg (by omega)
  · rw [e71]
    exact if_neg (by omega)
theorem kp_close {f : Nat} {L : Int32} {G G1 : GS} (h : Q_close L G G1) (hf : (G.1 66 19).toInt = (f : Int)) : KpM f G G1 := by
  obtain ⟨-, -, -, G2, hl, -, -, -, -, -, -, -, -, -, -, hh⟩ := h
  have hI := hl (fun q => (q.1 66 19).toInt = (f : Int) ∧ KpM f G q) ⟨hf, fun _ _ => ⟨rfl, rfl⟩, fun _ _ => rfl⟩ (by
    rintro Ga Gb ⟨i1, i2⟩ ⟨Gc, Gd, rfl, rfl, -, -, -, -, -, -, -, -, -, -, y21, -, y22, -, -, y25, -, y26, -, r28, G29, htg, -, y50, -, y52, -, hd⟩
    have e := htg.2.1.nil
    subst e
    rcases hd with ⟨-, G51, hB, hF, -, G82, had, y86, -, hF2, -⟩ | ⟨-, y58, -, G51, hB, hF, -, G64, had, rfl⟩
    · have j1 : (G51.1 66 19).toInt = (f : Int) := by rw [hF.i 66 19 (by decide) (by decide)]; exact i1
      exact ⟨by rw [hF2.i 66 19 (by decide) (by decide), had.2.1.i 66 19 (by decide) (by decide)]; exact j1, ((i2.tr (KpM.of hF (by decide) (by decide))).tr (kp_add had hB j1)).tr (KpM.of hF2 (by decide) (by decide))⟩
    · have j1 : (G51.1 66 19).toInt = (f : Int) := by rw [hF.i 66 19 (by decide) (by decide)]; exact i1
      exact ⟨by rw [had.2.1.i 66 19 (by decide) (by decide)]; exact j1, (i2.tr (KpM.of hF (by decide) (by decide))).tr (kp_add had hB j1)⟩)
  rcases hh with ⟨-, rfl⟩ | ⟨-, y21, -, y22, -, hh⟩
  · exact hI.2
  · rcases hh with ⟨-, rfl⟩ | ⟨-, y25, -, y26, -, r28, G29, htg, -, rfl⟩
    · exact hI.2
    · have e := htg.2.1.nil
      subst e
      exact hI.2
theorem kp_cat {f : Nat} {s v : Int32} {G Gc Gd Ge : GS} (hcu : Q_countUnit G Gc) (had : Q_add s v Gc Gd) (htk : Q_token Gd Ge) (hf : (G.1 66 19).toInt = (f : Int)) : KpM f G Ge := by
  have j1 : (Gc.1 66 19).toInt = (f : Int) := by rw [hcu.2.1.i 66 19 (by decide) (by decide)]; exact hf
  exact ((KpM.of hcu.2.1 (by decide) (by decide)).tr (kp_add had hcu.1 j1)).tr (KpM.of htk.2.1 (by decide) (by decide))
theorem kp_unit {f : Nat} {G G1 : GS} (h : Q_unit G G1) (hf : (G.1 66 19).toInt = (f : Int)) : KpM f G G1 := by
  obtain ⟨-, -, -, x, G3, -, -, -, -, -, -, hF3, G29, -, -, hF29, hh⟩ := h
  have e29 := hF29.nil
  subst e29
  have k3 : KpM f G G3 := KpM.of hF3 (by decide) (by decide)
  have f3 : (G3.1 66 19).toInt = (f : Int) := by rw [hF3.i 66 19 (by decide) (by decide)]; exact hf
  have w : ∀ {Gw : GS}, Q_wrong 2 G3 Gw → KpM f G Gw ∧ (Gw.1 66 19).toInt = (f : Int) := fun hw => ⟨k3.tr (KpM.of hw.2.1 (by decide) (by decide)), by rw [hw.2.1.i 66 19 (by decide) (by decide)]; exact f3⟩
  rcases hh with ⟨-, r34, Ga, hask, hh⟩ | ⟨-, rfl⟩
  rotate_left
  · exact k3
  have ea := hask.2.1.nil
  subst ea
  rcases hh with ⟨-, r42, Gb, hfu, hh⟩ | ⟨-, hh⟩
  · have eb := hfu.2.1.nil
    subst eb
    rcases hh with ⟨-, Gc, hcu, ⟨-, Gd, had, Ge, htk, rfl⟩ | ⟨-, Gd, had, Ge, htk, rfl⟩⟩ | ⟨-, Gc, hwr, ⟨-, Gd, hcu, ⟨-, Ge, had, Gf, htk, rfl⟩ | ⟨-, Ge, had, Gf, htk, rfl⟩⟩ | ⟨-, rfl⟩⟩
    · exact k3.tr (kp_cat hcu had htk f3)
    · exact k3.tr (kp_cat hcu had htk f3)
    · exact (w hwr).1.tr (kp_cat hcu had htk (w hwr).2)
    · exact (w hwr).1.tr (kp_cat hcu had htk (w hwr).2)
    · exact (w hwr).1
  · rcases hh with ⟨-, Gc, hwr, ⟨-, Gd, hcu, Ge, had, Gf, htk, rfl⟩ | ⟨-, rfl⟩⟩ | ⟨-, r45, Gb, hfu, hh⟩
    · exact (w hwr).1.tr (kp_cat hcu had htk (w hwr).2)
    · exact (w hwr).1
    · have eb := hfu.2.1.nil
      subst eb
      rcases hh with ⟨-, Gc, hcu, Gd, had, Ge, htk, rfl⟩ | ⟨-, Gc, hwr, ⟨-, Gd, hcu, Ge, had, Gf, htk, rfl⟩ | ⟨-, rfl⟩⟩
      · exact k3.tr (kp_cat hcu had htk f3)
      · exact (w hwr).1.tr (kp_cat hcu had htk (w hwr).2)
      · exact (w hwr).1
theorem kp_form {f : Nat} {p0 : Int32} {G G1 : GS} (h : Q_formula p0 G G1) (hf : p0.toInt = (f : Int)) : KpM f G G1 := by
  obtain ⟨-, -, -, G5, -, hF5, e19, -, -, -, e71, G21, hun, x, G3, hl, -, -, -, -, -, G48, -, -, hF48, hh⟩ := h
  have f5 : (G5.1 66 19).toInt = (f : Int) := by rw [e19]; exact hf
  have k5 : KpM f G G5 := by
    refine ⟨fun j hj => ?_, fun k hk => ?_⟩
    · rw [hF5.row1 69 (by decide) (by decide), hF5.row1 70 (by decide) (by decide)]
      exact ⟨rfl, rfl⟩
    · rw [e71, cn_eq hf]
      exact if_neg (by omega)
  have hI := hl (fun q => (q.2.1 66 19).toInt = (f : Int) ∧ KpM f G q.2) ⟨by show (G21.1 66 19).toInt = _; rw [hun.2.1.i 66 19 (by decide) (by decide)]; exact f5, k5.tr (kp_unit hun f5)⟩ (by
    rintro ⟨x1, G_1⟩ ⟨xn, G_1n⟩ ⟨i1, i2⟩ ⟨x1q, G_1q, xnq, G_1nq, q1, q2, -, -, -, -, -, -, r1, Ga, hsg, hd⟩
    obtain ⟨rfl, rfl⟩ := Prod.mk.inj q1
    obtain ⟨rfl, rfl⟩ := Prod.mk.inj q2
    have ea := hsg.2.1.nil
    subst ea
    simp only at i1 i2
    rcases hd with ⟨-, r2, Gb, hbr, -, Gc, hcl, y1, -, y2, -, Gd, -, hF, -, -, Ge, htk, -, rfl⟩ | ⟨Gb, -, -, hFb, hd⟩
    · have eb := hbr.2.1.nil
      subst eb
      refine ⟨?_, ((i2.tr (kp_close hcl i1)).tr (KpM.of hF (by decide) (by decide))).tr (KpM.of htk.2.1 (by decide) (by decide))⟩
      show (Ge.1 66 19).toInt = _
      rw [htk.2.1.i 66 19 (by decide) (by decide), hF.i 66 19 (by decide) (by decide), hcl.2.1.i 66 19 (by decide) (by decide)]
      exact i1
    · have eb := hFb.nil
      subst eb
      rcases hd with ⟨-, -, rfl⟩ | ⟨-, r3, Gc, htg, hd⟩
      · exact ⟨i1, i2⟩
      · have ec := htg.2.1.nil
        subst ec
        rcases hd with ⟨-, r4, Gd, hrl', -, -, rfl⟩ | ⟨Gd, -, -, hFd, r4, Ge, htg2, Gf, hcl, y1, -, Gg, -, hF, -, -, Gh, htk, Gi, hun2, -, rfl⟩
        · have ed := hrl'.2.1.nil
          subst ed
          exact ⟨i1, i2⟩
        · have ed := hFd.nil
          subst ed
          have ee := htg2.2.1.nil
          subst ee
          have j1 : (Gh.1 66 19).toInt = (f : Int) := by
            rw [htk.2.1.i 66 19 (by decide) (by decide), hF.i 66 19 (by decide) (by decide), hcl.2.1.i 66 19 (by decide) (by decide)]
            exact i1
          refine ⟨?_, (((i2.tr (kp_close hcl i1)).tr (KpM.of hF (by decide) (by decide))).tr (KpM.of htk.2.1 (by decide) (by decide))).tr (kp_unit hun2 j1)⟩
          show (Gi.1 66 19).toInt = _
          rw [hun2.2.1.i 66 19 (by decide) (by decide)]
          exact j1)
  obtain ⟨i1, i2⟩ := hI
  simp only at i1 i2
  have e48 := hF48.nil
  subst e48
  rcases hh with ⟨-, r, Ga, hbr, hh⟩ | ⟨-, rfl⟩
  · have ea := hbr.2.1.nil
    subst ea
    rcases hh with ⟨-, Gb, hcl, rfl⟩ | ⟨-, Gb, hwr, ⟨-, Gc, hcl, rfl⟩ | ⟨-, rfl⟩⟩
    · exact i2.tr (kp_close hcl i1)
    · exact (i2.tr (KpM.of hwr.2.1 (by decide) (by decide))).tr (kp_close hcl (by rw [hwr.2.1.i 66 19 (by decide) (by decide)]; exact i1))
    · exact i2.tr (KpM.of hwr.2.1 (by decide) (by decide))
  · exact i2
