/-! ACTS, UNDO, REDO, BOXES on both sides */ -/
theorem fr2 {rs rs' : List Nat} {fs fs' : List (Nat × Nat)} {G Ga Gb : GS} (h : Fr rs fs G Ga) (h' : Fr rs' fs' Ga Gb) {L : List Nat} (h1 : ∀ i ∈ L, i ∉ rs ∧ ∀ x ∈ fs, x.1 ≠ i) (h2 : ∀ i ∈ L, i ∉ rs' ∧ ∀ x ∈ fs', x.1 ≠ i) {i : Nat} (hi : i ∈ L) : Gb.1 i = G.1 i := (h'.rows h2 hi).trans (h.rows h1 hi)
theorem ER_ac {V : PV} {rsc rsm rsn : List Nat} {fsc fsm fsn : List (Nat × Nat)} {G Gc Ga Gm Gn Gb : GS} (hE : ER V G) (hFc : Fr rsc fsc G Gc) (hk : P_eKeep Gc Ga) (hFm : Fr rsm fsm Ga Gm) (ha : Q_act Gm Gn) (hFn : Fr rsn fsn Gn Gb) (hw : ROK V (Gc.1 58)) (zr : ∀ j, j < 10 → Gb.1 110 j = Gc.1 58 j) (c1 : (∀ i ∈ [59, 60, 110, 111, 117, 118], i ∉ rsc ∧ ∀ x ∈ fsc, x.1 ≠ i) ∧ ∀ y ∈ [(30, 3), (30, 4), (66, 78)], y.1 ∉ rsc ∧ y ∉ fsc) (c2 : (∀ i ∈ [58, 59, 60, 110, 111, 117, 118], i ∉ rsm ∧ ∀ x ∈ fsm, x.1 ≠ i) ∧ ∀ y ∈ [(30, 3), (30, 4), (30, 5), (66, 78)], y.1 ∉ rsm ∧ y ∉ fsm) (c3 : (∀ i ∈ [58, 59, 60, 111, 117, 118], i ∉ rsn ∧ ∀ x ∈ fsn, x.1 ≠ i) ∧ ∀ y ∈ [(30, 3), (30, 4), (30, 5), (66, 78), (66, 79)], y.1 ∉ rsn ∧ y ∉ fsn) : ER V Gb := by
  obtain ⟨⟨n, m, hE⟩, hB⟩ := hE
  have hFk := hk.2.1
  have hFa := ha.2.1
  have f1 : ∀ {i j : Nat}, (i, j) ∈ [(30, 3), (30, 4), (66, 78)] → Gc.1 i j = G.1 i j := fun q => hFc.i _ _ (c1.2 _ q).1 (c1.2 _ q).2
  have f2 : ∀ {i j : Nat}, (i, j) ∈ [(30, 3), (30, 4), (30, 5), (66, 78)] → Gm.1 i j = Ga.1 i j := fun q => hFm.i _ _ (c2.2 _ q).1 (c2.2 _ q).2
  have f3 : ∀ {i j : Nat}, (i, j) ∈ [(30, 3), (30, 4), (30, 5), (66, 78), (66, 79)] → Gb.1 i j = Gn.1 i j := fun q => hFn.i _ _ (c3.2 _ q).1 (c3.2 _ q).2
  have g1 : ∀ {i : Nat}, i ∈ [59, 60, 110, 111, 117, 118] → Gc.1 i = G.1 i := fun q => hFc.rows c1.1 q
  have g2 : ∀ {i : Nat}, i ∈ [58, 59, 60, 110, 111, 117, 118] → Gm.1 i = Ga.1 i := fun q => hFm.rows c2.1 q
  have g3 : ∀ {i : Nat}, i ∈ [58, 59, 60, 111, 117, 118] → Gb.1 i = Gn.1 i := fun q => hFn.rows c3.1 q
  refine ⟨⟨n + 1 - shd n, 0, ER_act hE hk (fun i hi => ?_) (f1 (by decide)) ha ?_ ?_ ?_ hw ?_ ?_ ?_ ?_ (g3 (by decide)) (f3 (by decide)) (f3 (by decide)) zr⟩, hB.fr (fun i hi => ?_) ?_⟩
  · rcases (by simpa using hi : i = 59) with rfl
    exact g1 (by decide)
  · rw [g2 (by decide), hFk.row1 110 (by decide) (by decide), g1 (by decide)]
  · rw [g2 (by decide), hFk.row1 111 (by decide) (by decide), g1 (by decide)]
  · rw [f2 (by decide), hFk.i 66 78 (by decide) (by decide), f1 (by decide)]
  · rw [g3 (by decide), hFa.row1 58 (by decide) (by decide), g2 (by decide)]
  · rw [g3 (by decide), hFa.row1 59 (by decide) (by decide), g2 (by decide)]
  · rw [f3 (by decide), hFa.i 30 4 (by decide) (by decide), f2 (by decide)]
  · rw [f3 (by decide), hFa.i 30 5 (by decide) (by decide), f2 (by decide)]
  · rcases (by simpa using hi : i = 60 ∨ i = 117 ∨ i = 118) with rfl | rfl | rfl
    · rw [g3 (by decide), hFa.row1 60 (by decide) (by decide), g2 (by decide), hFk.row1 60 (by decide) (by decide), g1 (by decide)]
    · rw [g3 (by decide), hFa.row1 117 (by decide) (by decide), g2 (by decide), hFk.row1 117 (by decide) (by decide), g1 (by decide)]
    · rw [g3 (by decide), hFa.row1 118 (by decide) (by decide), g2 (by decide), hFk.row1 118 (by decide) (by decide), g1 (by decide)]
  · rw [f3 (by decide), hFa.i 30 3 (by decide) (by decide), f2 (by decide), hFk.i 30 3 (by decide) (by decide), f1 (by decide)]
theorem ER.fr {V : PV} {rs : List Nat} {fs : List (Nat × Nat)} {G G1 : GS} (h : ER V G) (hF : Fr rs fs G G1) (h1 : ∀ i ∈ [58, 59, 60, 110, 111, 117, 118], i ∉ rs ∧ ∀ x ∈ fs, x.1 ≠ i) (h2 : ∀ y ∈ [(30, 3), (30, 4), (30, 5), (66, 78), (66, 79)], y.1 ∉ rs ∧ y ∉ fs) : ER V G1 := by
  obtain ⟨⟨n, m, hE⟩, hB⟩ := h
  refine ⟨⟨n, m, hE.fr (fun i hi => hF.rows h1 ?_) (fun y hy => hF.i y.1 y.2 (h2 y ?_).1 (h2 y ?_).2)⟩, hB.fr (fun i hi => hF.rows h1 ?_) (hF.i 30 3 (h2 (30, 3) (by decide)).1 (h2 (30, 3) (by decide)).2)⟩
  · rcases (by simpa using hi : i = 58 ∨ i = 59 ∨ i = 110 ∨ i = 111) with rfl | rfl | rfl | rfl <;> decide
  · rcases (by simpa using hy : y = (30, 4) ∨ y = (30, 5) ∨ y = (66, 78) ∨ y = (66, 79)) with rfl | rfl | rfl | rfl <;> decide
  · rcases (by simpa using hy : y = (30, 4) ∨ y = (30, 5) ∨ y = (66, 78) ∨ y = (66, 79)) with rfl | rfl | rfl | rfl <;> decide
  · rcases (by simpa using hi : i = 60 ∨ i = 117 ∨ i = 118) with rfl | rfl | rfl <;> decide
theorem ROK.sk {V : PV} {v : Nat → Int32} {j : Nat} {x : Int32} (h : ROK V v) (hj : j ≠ 0 ∧ j ≠ 1 ∧ j ≠ 6 ∧ j ≠ 8 ∧ j ≠ 9) : ROK V (upd v j x) := by
  unfold ROK at h ⊢
  rw [ud_no (Ne.symm hj.1), ud_no (Ne.symm hj.2.1), ud_no (Ne.symm hj.2.2.1), ud_no (Ne.symm hj.2.2.2.1), ud_no (Ne.symm hj.2.2.2.2)]
  exact h
theorem ROK.s9 {V : PV} {v : Nat → Int32} {x : Int32} (h : ROK V v) (hx : x.toInt = 0 ∨ x.toInt = 1) : ROK V (upd v 9 x) := by
  unfold ROK at h ⊢
  rw [ud_no (show (0 : Nat) ≠ 9 by decide), ud_no (show (1 : Nat) ≠ 9 by decide), ud_no (show (6 : Nat) ≠ 9 by decide), ud_no (show (8 : Nat) ≠ 9 by decide), ud_at]
  exact ⟨h.1, h.2.1, hx, h.2.2.2⟩
theorem ROK.s6 {V : PV} {v : Nat → Int32} {x : Int32} (h : ROK V v) (hx : 0 ≤ x.toInt ∧ x.toInt ≤ 1000) : ROK V (upd v 6 x) := by
  unfold ROK at h ⊢
  rw [ud_no (show (0 : Nat) ≠ 6 by decide), ud_no (show (1 : Nat) ≠ 6 by decide), ud_no (show (9 : Nat) ≠ 6 by decide), ud_no (show (8 : Nat) ≠ 6 by decide), ud_at]
  exact ⟨h.1, hx, h.2.2⟩
theorem ROK.s8 {V : PV} {v : Nat → Int32} {x : Int32} (h : ROK V v) (hx : 0 ≤ x.toInt ∧ x.toInt < 64) : ROK V (upd v 8 x) := by
  unfold ROK at h ⊢
  rw [ud_no (show (0 : Nat) ≠ 8 by decide), ud_no (show (1 : Nat) ≠ 8 by decide), ud_no (show (9 : Nat) ≠ 8 by decide), ud_no (show (6 : Nat) ≠ 8 by decide), ud_at]
  exact ⟨h.1, h.2.1, h.2.2.1, hx⟩
theorem k_today_eq {r : Int32} {G G1 : GS} (h : P_wToday G r G1) : G = G1 ∧ r = G.1 58 6 := by
  obtain ⟨-, hF, y, e, rfl, -⟩ := h
  exact ⟨hF.nil, e⟩
theorem act_rain {V : PV} {G Ga Gb : GS} {r r' : Int32} (hx : P_Wrain G r Ga) (hm : Q_rain Ga r' Gb) (hE : ER V G) : r.toInt = r'.toInt ∧ ER V Gb := by
  have hFx := hx.2.1
  obtain ⟨-, -, -, -, y1, e1, y2, e2, G3, -, hF3, w3, G5, hk, y9, e9, hh⟩ := hx
  obtain ⟨-, -, -, -, M2, ha, y6, e6, y7, e7, y10, e10, hh2⟩ := hm
  obtain ⟨-, -, -, -, -, -, -, -, -, z9, -, -⟩ := z32
  obtain ⟨n, m, hEn⟩ := hE.1
  rw [z9] at e1 w3 e9 e6 e10 hh2
  rw [ud_at] at e10
  have a110 : M2.1 110 = G.1 110 := (ha.2.1.row1 110 (by decide) (by decide)).trans (hFx.row1 110 (by decide) (by decide))
  have e19 : G.1 110 9 = G.1 58 9 := hEn.2.1 9 (by decide)
  have hv := hEn.now.2.2.1
  have h27 : y7 = y2 ∧ (y2.toInt = 0 ∨ y2.toInt = 1) := by
    rw [e7, e6, a110, e19, e2, e1]
    rcases hv with q | q
    · have e : G.1 58 9 = 0 := Int32.toInt_inj.mp (by rw [q]; rfl)
      rw [e]
      decide
    · have e : G.1 58 9 = 1 := Int32.toInt_inj.mp (by rw [q]; rfl)
      rw [e]
      decide
  have r58 : G5.1 58 = G3.1 58 := hk.2.1.row1 58 (by decide) (by decide)
  have e9' : y9 = y2 := by rw [e9, r58, w3, ud_at]
  have t1 : y9.toInt = y10.toInt := by rw [e9', e10, h27.1]
  have hw : ROK V (G3.1 58) := by
    rw [w3]
    exact hEn.now.s9 h27.2
  have hE2 : ∀ {Gz : GS}, G5 = Ga → Fr [110] [] M2 Gz → Gz.1 110 = upd (M2.1 110) 9 y7 → ER V Gz := by
    intro Gz e hFn w
    subst e
    refine ER_ac (rsm := []) (fsm := []) hE hF3 hk Fr.rf ha hFn hw (fun j hj => ?_) (by decide) (by decide) (by decide)
    rw [w, w3, a110, h27.1]
    by_cases hj9 : j = 9
    · subst hj9
      rw [ud_at, ud_at]
    · rw [ud_no hj9, ud_no hj9]
      exact hEn.2.1 j hj
  rcases hh with ⟨c, e, eG⟩ | ⟨c, e, eG⟩
  · rcases hh2 with ⟨d, e', hFn, w⟩ | ⟨d, e', hFn, w⟩
    · exact ⟨by rw [← e, ← e'], hE2 eG hFn w⟩
    · omega
  · rcases hh2 with ⟨d, e', hFn, w⟩ | ⟨d, e', hFn, w⟩
    · omega
    · exact ⟨by rw [← e, ← e'], hE2 eG hFn w⟩
theorem act_day {V : PV} {G Ga Gb : GS} {r r' : Int32} (hx : P_Wday G r Ga) (hm : Q_day Ga r' Gb) (hE : ER V G) : r.toInt = r'.toInt ∧ ER V Gb := by
  have hFx := hx.2.1
  obtain ⟨-, -, -, r1, G2, htd, hh⟩ := hx
  obtain ⟨rfl, er1⟩ := k_today_eq htd
  obtain ⟨-, -, -, y1, e1, hh2⟩ := hm
  obtain ⟨-, -, -, -, -, -, z6, -, -, -, -, -⟩ := z32
  obtain ⟨n, m, hEn⟩ := hE.1
  have hv := hEn.now.2.1
  have b110 : Ga.1 110 = G.1 110 := hFx.row1 110 (by decide) (by decide)
  have e16 : G.1 110 6 = G.1 58 6 := hEn.2.1 6 (by decide)
  rw [z6, b110, e16] at e1
  rcases hh with ⟨c, y7, e7, y8, e8, G9, -, hF9, w9, G11, hk, r15, G16, htd2, e, eG⟩ | ⟨c, e, eG⟩
  · obtain ⟨e15, er15⟩ := k_today_eq htd2
    rw [z6] at e7 w9
    rw [er1] at c
    rcases hh2 with ⟨d, -⟩ | ⟨d, M4, ha, y8', e8', y9', e9', y12, e12, e', hFn, w⟩
    · rw [e1] at d
      omega
    · rw [z6] at e8' e12 w
      rw [ud_at] at e12
      have eGa : G11 = Ga := e15.trans eG
      subst eGa
      have a110 : M4.1 110 = G.1 110 := (ha.2.1.row1 110 (by decide) (by decide)).trans b110
      have e88 : y9' = y8 := by rw [e9', e8', a110, e16, e8, e7]
      have r58 : G11.1 58 = G9.1 58 := hk.2.1.row1 58 (by decide) (by decide)
      have t8 : y8.toInt = (G.1 58 6).toInt + 1 := by
        have o1 : (1 : Int32).toInt = 1 := rfl
        have := tI_add e8 (by rw [e7, o1]; omega) (by rw [e7, o1]; omega)
        rw [this, e7, o1]
      refine ⟨?_, ER_ac (rsm := []) (fsm := []) hE hF9 hk Fr.rf ha hFn ?_ (fun j hj => ?_) (by decide) (by decide) (by decide)⟩
      · rw [← e, ← e', er15, r58, w9, ud_at, e12, e88]
      · rw [w9]
        exact hEn.now.s6 (by omega)
      · rw [w, w9, a110, e88]
        by_cases hj6 : j = 6
        · subst hj6
          rw [ud_at, ud_at]
        · rw [ud_no hj6, ud_no hj6]
          exact hEn.2.1 j hj
  · subst eG
    rw [er1] at c
    rcases hh2 with ⟨d, e', rfl⟩ | ⟨d, -⟩
    · exact ⟨by rw [← e, ← e'], hE⟩
    · rw [e1] at d
      omega
theorem xor_key : ∀ f : Nat, f < 64 → ∀ k : Nat, k < 6 → 0 ≤ (Int32.ofNat f ^^^ (1 : Int32) <<< (Int32.ofNat k &&& 31)).toInt ∧ (Int32.ofNat f ^^^ (1 : Int32) <<< (Int32.ofNat k &&& 31)).toInt < 64 := by decide +kernel
theorem xor_r {x p : Int32} (h0 : 0 ≤ x.toInt) (h1 : x.toInt < 64) (p0 : 0 ≤ p.toInt) (p1 : p.toInt < 6) : 0 ≤ (x ^^^ (1 : Int32) <<< (p &&& 31)).toInt ∧ (x ^^^ (1 : Int32) <<< (p &&& 31)).toInt < 64 := by
  have := xor_key x.toInt.toNat (by omega) p.toInt.toNat (by omega)
  rw [← nat_i h0, ← nat_i p0] at this
  exact this
-- the rest is written by g2.py
theorem q_isRule {p0 r : Int32} {G G1 : GS} (h : Q_isRule p0 G r G1) : G = G1 ∧ (r.toInt ≠ 0 ↔ (0 ≤ p0.toInt ∧ p0.toInt < (G.1 66 54).toInt)) := by
  obtain ⟨-, hF, -, -, y2, t2, r4, G5, hi, rfl, rfl⟩ := h
  refine ⟨hF.nil, (q_isIn hi).2.trans ⟨fun q => ⟨q.1, by have := q.2; omega⟩, fun q => ⟨q.1, by have := q.2; omega⟩⟩⟩
theorem k_hasRule_1_eq {p0 r : Int32} {G G1 : GS} (h : P_hasRule_1 p0 G r G1) : G = G1 ∧ (r.toInt ≠ 0 ↔ (0 ≤ p0.toInt ∧ p0.toInt < (G.1 1 11).toInt ∧ p0.toInt < 6)) := by
  obtain ⟨-, hF, -, h6, hh⟩ := h
  have z : (0 : Int32).toInt = 0 := rfl
  have o : (1 : Int32).toInt = 1 := rfl
  refine ⟨hF.nil, ?_⟩
  rcases hh with ⟨c, rfl, -⟩ | ⟨c, ⟨d, rfl, -⟩ | ⟨d, rfl, -⟩⟩ <;> omega
theorem act_force_1 {V : PV} {p0 q0 : Int32} {G Ga Gb : GS} {r r' : Int32} (hx : P_Wforce_1 p0 G r Ga) (hm : Q_force q0 Ga r' Gb) (i0 : p0.toInt = q0.toInt) (hW : CW_1 V G) (hR : RV V G) (hE : ER V G) : r.toInt = r'.toInt ∧ ER V Gb := by
  obtain rfl := Int32.toInt_inj.mp i0
  have hFx := hx.2.1
  obtain ⟨-, -, -, r1, G2, hhr, hh⟩ := hx
  obtain ⟨rfl, k1⟩ := k_hasRule_1_eq hhr
  obtain ⟨-, -, -, r1', M2, hir, hh2⟩ := hm
  obtain ⟨rfl, k2⟩ := q_isRule hir
  have b54 : Ga.1 66 54 = G.1 66 54 := hFx.i 66 54 (by decide) (by decide)
  rw [hW.2.2.1.1] at k1
  rw [b54, hR.2.2.1.1] at k2
  have h6 := hR.2.2.1.2.1
  have k12 : r1.toInt ≠ 0 ↔ r1'.toInt ≠ 0 := k1.trans ⟨fun q => k2.mpr ⟨q.1, q.2.1⟩, fun q => by have := k2.mp q; exact ⟨this.1, this.2, by omega⟩⟩
  obtain ⟨-, -, -, -, -, -, -, -, z8, -, -, -⟩ := z32
  obtain ⟨n, m, hEn⟩ := hE.1
  have hv := hEn.now.2.2.2
  have b110 : Ga.1 110 = G.1 110 := hFx.row1 110 (by decide) (by decide)
  have e18 : G.1 110 8 = G.1 58 8 := hEn.2.1 8 (by decide)
  rcases hh with ⟨c, e, eG⟩ | ⟨c, y8, e8, y9, e9, y10, e10, G11, -, hF11, w11, G13, hk, y17, e17, y18, e18', y19, e19, e, eG⟩
  · rcases hh2 with ⟨d, e', eG'⟩ | ⟨d, -⟩
    · subst eG
      subst eG'
      exact ⟨by rw [← e, ← e'], hE⟩
    · exact absurd c (k12.mpr d)
  · rcases hh2 with ⟨d, -⟩ | ⟨d, M9, ha, y13', e13', y14', e14', y15', e15', y18', f18, y19', f19, y20', f20, e', hFn, w⟩
    · exact absurd d (k12.mp c)
    · subst eG
      have kk := k1.mp c
      clear k1 k2 k12
      rw [z8] at e8 w11 e17 e13' f18 w
      rw [ud_at] at f18
      have a110 : M9.1 110 = G.1 110 := (ha.2.1.row1 110 (by decide) (by decide)).trans b110
      have e1510 : y15' = y10 := by rw [e15', e13', e14', a110, e18, e10, e8, e9]
      have r58 : G13.1 58 = G11.1 58 := hk.2.1.row1 58 (by decide) (by decide)
      have e1710 : y17 = y10 := by rw [e17, r58, w11, ud_at]
      refine ⟨?_, ER_ac (rsm := []) (fsm := []) hE hF11 hk Fr.rf ha hFn ?_ (fun j hj => ?_) (by decide) (by decide) (by decide)⟩
      · rw [← e, ← e', e19, e18', e1710, f20, f19, f18, e1510]
      · rw [w11]
        refine hEn.now.s8 ?_
        rw [e10, e9, e8]
        exact xor_r hv.1 hv.2 kk.1 kk.2.2
      · rw [w, w11, a110, e1510]
        by_cases hj8 : j = 8
        · subst hj8
          rw [ud_at, ud_at]
        · rw [ud_no hj8, ud_no hj8]
          exact hEn.2.1 j hj
theorem k_hasRule_2_eq {p0 r : Int32} {G G1 : GS} (h : P_hasRule_2 p0 G r G1) : G = G1 ∧ (r.toInt ≠ 0 ↔ (0 ≤ p0.toInt ∧ p0.toInt < (G.1 2 11).toInt ∧ p0.toInt < 6)) := by
  obtain ⟨-, hF, -, h6, hh⟩ := h
  have z : (0 : Int32).toInt = 0 := rfl
  have o : (1 : Int32).toInt = 1 := rfl
  refine ⟨hF.nil, ?_⟩
  rcases hh with ⟨c, rfl, -⟩ | ⟨c, ⟨d, rfl, -⟩ | ⟨d, rfl, -⟩⟩ <;> omega
theorem act_force_2 {V : PV} {p0 q0 : Int32} {G Ga Gb : GS} {r r' : Int32} (hx : P_Wforce_2 p0 G r Ga) (hm : Q_force q0 Ga r' Gb) (i0 : p0.toInt = q0.toInt) (hW : CW_2 V G) (hR : RV V G) (hE : ER V G) : r.toInt = r'.toInt ∧ ER V Gb := by
  obtain rfl := Int32.toInt_inj.mp i0
  have hFx := hx.2.1
  obtain ⟨-, -, -, r1, G2, hhr, hh⟩ := hx
  obtain ⟨rfl, k1⟩ := k_hasRule_2_eq hhr
  obtain ⟨-, -, -, r1', M2, hir, hh2⟩ := hm
  obtain ⟨rfl, k2⟩ := q_isRule hir
  have b54 : Ga.1 66 54 = G.1 66 54 := hFx.i 66 54 (by decide) (by decide)
  rw [hW.2.2.1.1] at k1
  rw [b54, hR.2.2.1.1] at k2
  have h6 := hR.2.2.1.2.1
  have k12 : r1.toInt ≠ 0 ↔ r1'.toInt ≠ 0 := k1.trans ⟨fun q => k2.mpr ⟨q.1, q.2.1⟩, fun q => by have := k2.mp q; exact ⟨this.1, this.2, by omega⟩⟩
  obtain ⟨-, -, -, -, -, -, -, -, z8, -, -, -⟩ := z32
  obtain ⟨n, m, hEn⟩ := hE.1
  have hv := hEn.now.2.2.2
  have b110 : Ga.1 110 = G.1 110 := hFx.row1 110 (by decide) (by decide)
  have e18 : G.1 110 8 = G.1 58 8 := hEn.2.1 8 (by decide)
  rcases hh with ⟨c, e, eG⟩ | ⟨c, y8, e8, y9, e9, y10, e10, G11, -, hF11, w11, G13, hk, y17, e17, y18, e18', y19, e19, e, eG⟩
  · rcases hh2 with ⟨d, e', eG'⟩ | ⟨d, -⟩
    · subst eG
      subst eG'
      exact ⟨by rw [← e, ← e'], hE⟩
    · exact absurd c (k12.mpr d)
  · rcases hh2 with ⟨d, -⟩ | ⟨d, M9, ha, y13', e13', y14', e14', y15', e15', y18', f18, y19', f19, y20', f20, e', hFn, w⟩
    · exact absurd d (k12.mp c)
    · subst eG
      have kk := k1.mp c
      clear k1 k2 k12
      rw [z8] at e8 w11 e17 e13' f18 w
      rw [ud_at] at f18
      have a110 : M9.1 110 = G.1 110 := (ha.2.1.row1 110 (by decide) (by decide)).trans b110
      have e1510 : y15' = y10 := by rw [e15', e13', e14', a110, e18, e10, e8, e9]
      have r58 : G13.1 58 = G11.1 58 := hk.2.1.row1 58 (by decide) (by decide)
      have e1710 : y17 = y10 := by rw [e17, r58, w11, ud_at]
      refine ⟨?_, ER_ac (rsm := []) (fsm := []) hE hF11 hk Fr.rf ha hFn ?_ (fun j hj => ?_) (by decide) (by decide) (by decide)⟩
      · rw [← e, ← e', e19, e18', e1710, f20, f19, f18, e1510]
      · rw [w11]
        refine hEn.now.s8 ?_
        rw [e10, e9, e8]
        exact xor_r hv.1 hv.2 kk.1 kk.2.2
      · rw [w, w11, a110, e1510]
        by_cases hj8 : j = 8
        · subst hj8
          rw [ud_at, ud_at]
        · rw [ud_no hj8, ud_no hj8]
          exact hEn.2.1 j hj
theorem act_undo {V : PV} {G Ga Gb : GS} {r r' : Int32} (hx : P_Wundo G r Ga) (hm : Q_undo Ga r' Gb) (hE : ER V G) : r.toInt = r'.toInt ∧ ER V Gb := by
  have hFx := hx.2.1
  have hFm := hm.2.1
  obtain ⟨-, -, -, -, r3, G4, hb, rfl, rfl⟩ := hx
  obtain ⟨-, -, -, -, hh⟩ := hb
  obtain ⟨-, -, -, -, hh2⟩ := hm
  obtain ⟨⟨n, m, ⟨h1, h2, h3, h4, h5⟩, h6, h7, h8, h9, h10⟩, hB⟩ := hE
  obtain ⟨z0, -, -, -, -, -, -, -, -, -, z10, -⟩ := z32
  have b78 : G4.1 66 78 = G.1 66 78 := hFx.i 66 78 (by decide) (by decide)
  have b79 : G4.1 66 79 = G.1 66 79 := hFx.i 66 79 (by decide) (by decide)
  have b110 : G4.1 110 = G.1 110 := hFx.row1 110 (by decide) (by decide)
  have b111 : G4.1 111 = G.1 111 := hFx.row1 111 (by decide) (by decide)
  have b59 : G4.1 59 = G.1 59 := hFx.row1 59 (by decide) (by decide)
  rcases hh with ⟨c, y3, t3, y6, t6, y8, t8, e, hF, w4, w5, w58⟩ | ⟨c, e, eG⟩
  · rcases hh2 with ⟨d, -⟩ | ⟨d, y3', t3', y6', t6', y8', t8', M7, -, hF7, v78, v79, M10, hex, e', eM⟩
    · rw [b78] at d
      omega
    · subst eM
      obtain ⟨k, hk⟩ : ∃ k, n = k + 1 := ⟨n - 1, by omega⟩
      subst hk
      rw [b78] at t3'
      rw [b79] at t6'
      obtain ⟨x1, x2⟩ := m_exch (p := 16 * k) hex (by omega)
      rw [hF7.row1 111 (by decide) (by decide), hF7.row1 110 (by decide) (by decide), b111, b110] at x1
      rw [hF7.row1 111 (by decide) (by decide), b111] at x2
      rw [cn_eq (x := y8) (e := 10 * k) (by omega), z0, z10] at w58
      have m30 : ∀ j, M10.1 30 j = G4.1 30 j := fun j => hFm.i 30 j (by decide) (by simp)
      have m58 : M10.1 58 = G4.1 58 := hFm.row1 58 (by decide) (by decide)
      have m59 : M10.1 59 = G.1 59 := (hFm.row1 59 (by decide) (by decide)).trans b59
      have m78 : M10.1 66 78 = M7.1 66 78 := hex.2.1.i 66 78 (by decide) (by decide)
      have m79 : M10.1 66 79 = M7.1 66 79 := hex.2.1.i 66 79 (by decide) (by decide)
      have w58' : ∀ j, j < 10 → M10.1 58 j = G.1 59 (10 * k + j) := fun j hj => by
        rw [m58, w58, cpy_in (by omega) (by omega), show 10 * k + (j - 0) = 10 * k + j by omega]
      refine ⟨by rw [← e, ← e'], ⟨k, m + 1, ⟨?_, ?_, ?_, ?_, by omega⟩, fun j hj => ?_, fun i hi => ?_, fun j hj => ?_, fun i j hi hj => ?_, fun i j hi hi2 hj => ?_⟩, hB.fr (fun i hi => ?_) ?_⟩
      · rw [m30, w4]
        omega
      · rw [m30, w5]
        omega
      · rw [m78, v78]
        omega
      · rw [m79, v79]
        omega
      · rw [w58' j hj, (x1 j hj).1]
        exact h9 k j (by omega) hj
      · rw [m59]
        exact h7 i (by omega)
      · rw [m59, w58' j hj]
      · rw [m59, x2 _ (by omega)]
        exact h9 i j (by omega) hj
      · rw [m59]
        by_cases hik : i = k
        · subst hik
          rw [(x1 j hj).2, h6 j hj]
          exact (h8 j hj).symm
        · rw [x2 _ (by omega)]
          exact h10 i j (by omega) (by omega) hj
      · rcases (by simpa using hi : i = 60 ∨ i = 117 ∨ i = 118) with rfl | rfl | rfl
        · exact (hFm.row1 60 (by decide) (by decide)).trans (hFx.row1 60 (by decide) (by decide))
        · exact (hFm.row1 117 (by decide) (by decide)).trans (hFx.row1 117 (by decide) (by decide))
        · exact (hFm.row1 118 (by decide) (by decide)).trans (hFx.row1 118 (by decide) (by decide))
      · exact (hFm.i 30 3 (by decide) (by decide)).trans (hFx.i 30 3 (by decide) (by decide))
  · subst eG
    rcases hh2 with ⟨d, e', rfl⟩ | ⟨d, -⟩
    · exact ⟨by rw [← e, ← e'], ⟨n, m, ⟨h1, h2, h3, h4, h5⟩, h6, h7, h8, h9, h10⟩, hB⟩
    · omega
theorem act_redo {V : PV} {G Ga Gb : GS} {r r' : Int32} (hx : P_Wredo G r Ga) (hm : Q_redo Ga r' Gb) (hE : ER V G) : r.toInt = r'.toInt ∧ ER V Gb := by
  have hFx := hx.2.1
  have hFm := hm.2.1
  obtain ⟨-, -, -, -, r3, G4, hb, rfl, rfl⟩ := hx
  obtain ⟨-, -, -, -, hh⟩ := hb
  obtain ⟨-, -, -, -, hh2⟩ := hm
  obtain ⟨⟨n, m, ⟨h1, h2, h3, h4, h5⟩, h6, h7, h8, h9, h10⟩, hB⟩ := hE
  obtain ⟨z0, -, -, -, -, -, -, -, -, -, z10, -⟩ := z32
  have b78 : G4.1 66 78 = G.1 66 78 := hFx.i 66 78 (by decide) (by decide)
  have b79 : G4.1 66 79 = G.1 66 79 := hFx.i 66 79 (by decide) (by decide)
  have b110 : G4.1 110 = G.1 110 := hFx.row1 110 (by decide) (by decide)
  have b111 : G4.1 111 = G.1 111 := hFx.row1 111 (by decide) (by decide)
  have b59 : G4.1 59 = G.1 59 := hFx.row1 59 (by decide) (by decide)
  rcases hh with ⟨c, y4, t4, y6, t6, y8, t8, e, hF, w4, w5, w58⟩ | ⟨c, e, eG⟩
  · rcases hh2 with ⟨d, -⟩ | ⟨d, y4', t4', M6, hex, y10', t10', y12', t12', e', hFe, v78, v79⟩
    · rw [b79] at d
      omega
    · obtain ⟨k, hk⟩ : ∃ k, m = k + 1 := ⟨m - 1, by omega⟩
      subst hk
      rw [b78] at t4' t10'
      rw [b79] at t12'
      obtain ⟨x1, x2⟩ := m_exch (p := 16 * n) hex (by omega)
      rw [b111, b110] at x1
      rw [b111] at x2
      rw [cn_eq (x := y8) (e := 10 * (n + 1)) (by omega), z0, z10] at w58
      have m30 : ∀ j, Gb.1 30 j = G4.1 30 j := fun j => hFm.i 30 j (by decide) (by simp)
      have m58 : Gb.1 58 = G4.1 58 := hFm.row1 58 (by decide) (by decide)
      have m59 : Gb.1 59 = G.1 59 := (hFm.row1 59 (by decide) (by decide)).trans b59
      have m110 : Gb.1 110 = M6.1 110 := hFe.row1 110 (by decide) (by decide)
      have m111 : Gb.1 111 = M6.1 111 := hFe.row1 111 (by decide) (by decide)
      have w58' : ∀ j, j < 10 → Gb.1 58 j = G.1 59 (10 * (n + 1) + j) := fun j hj => by
        rw [m58, w58, cpy_in (by omega) (by omega), show 10 * (n + 1) + (j - 0) = 10 * (n + 1) + j by omega]
      refine ⟨by rw [← e, ← e'], ⟨n + 1, k, ⟨?_, ?_, ?_, ?_, by omega⟩, fun j hj => ?_, fun i hi => ?_, fun j hj => ?_, fun i j hi hj => ?_, fun i j hi hi2 hj => ?_⟩, hB.fr (fun i hi => ?_) ?_⟩
      · rw [m30, w4]
        omega
      · rw [m30, w5]
        omega
      · rw [v78]
        omega
      · rw [v79]
        omega
      · rw [w58' j hj, m110, (x1 j hj).1]
        exact h10 n j (Nat.le_refl n) (by omega) hj
      · rw [m59]
        exact h7 i (by omega)
      · rw [m59, w58' j hj]
      · rw [m59, m111]
        by_cases hik : i = n
        · subst hik
          rw [(x1 j hj).2, h6 j hj]
          exact (h8 j hj).symm
        · rw [x2 _ (by omega)]
          exact h9 i j (by omega) hj
      · rw [m59, m111, x2 _ (by omega)]
        exact h10 i j (by omega) (by omega) hj
      · rcases (by simpa using hi : i = 60 ∨ i = 117 ∨ i = 118) with rfl | rfl | rfl
        · exact (hFm.row1 60 (by decide) (by decide)).trans (hFx.row1 60 (by decide) (by decide))
        · exact (hFm.row1 117 (by decide) (by decide)).trans (hFx.row1 117 (by decide) (by decide))
        · exact (hFm.row1 118 (by decide) (by decide)).trans (hFx.row1 118 (by decide) (by decide))
      · exact (hFm.i 30 3 (by decide) (by decide)).trans (hFx.i 30 3 (by decide) (by decide))
  · subst eG
    rcases hh2 with ⟨d, e', rfl⟩ | ⟨d, -⟩
    · exact ⟨by rw [← e, ← e'], ⟨n, m, ⟨h1, h2, h3, h4, h5⟩, h6, h7, h8, h9, h10⟩, hB⟩
    · omega
theorem q_isBox {p0 r : Int32} {G G1 : GS} (h : Q_isBox p0 G r G1) : G = G1 ∧ (r.toInt ≠ 0 ↔ (0 ≤ p0.toInt ∧ p0.toInt < 3)) := by
  obtain ⟨-, hF, -, -, hh⟩ := h
  have z : (0 : Int32).toInt = 0 := rfl
  have o : (1 : Int32).toInt = 1 := rfl
  refine ⟨hF.nil, ?_⟩
  rcases hh with ⟨c, rfl, -⟩ | ⟨c, ⟨d, rfl, -⟩ | ⟨d, rfl, -⟩⟩ <;> omega
theorem box_set : ∀ f : Nat, f < 8 → ∀ b : Nat, b < 3 → (Int32.ofNat f ||| (1 : Int32) <<< (Int32.ofNat b &&& 31)) = Int32.ofNat (f ||| 2 ^ b) ∧ f ||| 2 ^ b < 8 ∧ ∀ c : Nat, c < 3 → ((f ||| 2 ^ b).testBit c = true ↔ (c = b ∨ f.testBit c = true)) := by decide +kernel
theorem box_get : ∀ f : Nat, f < 8 → ∀ b : Nat, b < 3 → (((Int32.ofNat f >>> (Int32.ofNat b &&& 31)) &&& 1).toInt ≠ 0 ↔ f.testBit b = true) := by decide +kernel
theorem m_imgl {p0 x : Int32} {G G1 : GS} {b : Nat} (hl : Rc (St_n_image_1 p0) (0, G) (x, G1)) (hx : 10 ≤ x.toInt) (hp : p0.toInt = (b : Int)) : (∀ j, j < 10 → G1.1 118 (16 * b + j) = G.1 110 (0 + j)) ∧ (∀ i, i < 16 * b ∨ 16 * b + 10 ≤ i → G1.1 118 i = G.1 118 i) ∧ G1.1 110 = G.1 110 := by
  refine cp_loop (N := 10) (so := 0) (dp := 16 * b) hl (fun y Gy yn Gn hs k hk => ?_) hx
  obtain ⟨a, b', an, bn, q1, q2, -, -, c, y24, t24, y25, t25, y26, e26, y28, t28, ex, hF, w⟩ := hs
  obtain ⟨rfl, rfl⟩ := Prod.mk.inj q1
  obtain ⟨rfl, rfl⟩ := Prod.mk.inj q2
  rw [cn_eq (x := y25) (e := 16 * b + k) (by omega), e26, cn_eq hk] at w
  refine ⟨by omega, by rw [← ex]; omega, by rw [Nat.zero_add]; exact w, hF.row1 110 (by decide) (by decide)⟩
theorem m_backl {p0 x : Int32} {G G1 : GS} {b : Nat} (hl : Rc (St_n_back_1 p0) (0, G) (x, G1)) (hx : 10 ≤ x.toInt) (hp : p0.toInt = (b : Int)) : (∀ j, j < 10 → G1.1 110 (0 + j) = G.1 118 (16 * b + j)) ∧ (∀ i, i < 0 ∨ 0 + 10 ≤ i → G1.1 110 i = G.1 110 i) ∧ G1.1 118 = G.1 118 := by
  refine cp_loop (N := 10) (so := 16 * b) (dp := 0) hl (fun y Gy yn Gn hs k hk => ?_) hx
  obtain ⟨a, b', an, bn, q1, q2, -, -, c, y29, t29, y30, t30, y31, e31, y33, t33, ex, hF, w⟩ := hs
  obtain ⟨rfl, rfl⟩ := Prod.mk.inj q1
  obtain ⟨rfl, rfl⟩ := Prod.mk.inj q2
  rw [cn_eq (x := y30) (e := 16 * b + k) (by omega)] at e31
  rw [e31, cn_eq hk] at w
  refine ⟨by omega, by rw [← ex]; omega, by rw [Nat.zero_add]; exact w, hF.row1 118 (by decide) (by decide)⟩
theorem act_image {V : PV} {p0 q0 : Int32} {G Ga Gb : GS} {r r' : Int32} (hx : P_Wimage p0 G r Ga) (hm : Q_image q0 Ga r' Gb) (i0 : p0.toInt = q0.toInt) (hE : ER V G) : r.toInt = r'.toInt ∧ ER V Gb := by
  obtain rfl := Int32.toInt_inj.mp i0
  have hFx := hx.2.1
  have hFm := hm.2.1
  obtain ⟨-, -, -, r3, G4, hin, hh⟩ := hx
  obtain ⟨-, -, -, -, hin⟩ := hin
  obtain ⟨-, -, -, r1, M2, hib, hh2⟩ := hm
  obtain ⟨rfl, k2⟩ := q_isBox hib
  obtain ⟨⟨n, m, hEn⟩, hB⟩ := hE
  obtain ⟨z0, -, -, -, -, -, z6, -, -, -, z10, -⟩ := z32
  have b110 : Ga.1 110 = G.1 110 := hFx.row1 110 (by decide) (by decide)
  have e16 : G.1 110 6 = G.1 58 6 := hEn.2.1 6 (by decide)
  have out : G = G4 → r3.toInt = 0 → ¬ (0 ≤ p0.toInt ∧ p0.toInt < 3) → r.toInt = r'.toInt ∧ ER V Gb := by
    intro e4 h0 hno
    have hr1 : r1.toInt = 0 := Classical.byContradiction (fun w => hno (k2.mp w))
    rcases hh with ⟨-, e, eG⟩ | ⟨c, -⟩
    · rcases hh2 with ⟨-, e', eG'⟩ | ⟨c', -⟩
      · subst e4
        subst eG
        subst eG'
        exact ⟨by rw [← e, ← e'], ⟨n, m, hEn⟩, hB⟩
      · exact absurd hr1 c'
    · exact absurd h0 c
  rcases hin with ⟨c, e, e4⟩ | ⟨c, ⟨d, y5, t5, y9, e9, y10, e10, e3, hF4, w3, w60⟩ | ⟨d, e, e4⟩⟩
  · exact out e4 (by rw [← e]; rfl) (by omega)
  · have hr1 : r1.toInt ≠ 0 := k2.mpr ⟨c, d⟩
    clear k2 out
    have h31 : r3.toInt ≠ 0 := by rw [← e3]; decide
    rcases hh with ⟨c1, -⟩ | ⟨-, r12, G13, htd, e, eG⟩
    · exact absurd c1 h31
    rcases hh2 with ⟨c1, -⟩ | ⟨-, M8, -, hF8, w117, x13, M9, hl, -, -, hF9, c13, y19, e19, e', eG'⟩
    · exact absurd c1 hr1
    obtain ⟨e13, er12⟩ := k_today_eq htd
    have eGa : G4 = Ga := e13.trans eG
    subst eGa
    subst eG'
    obtain ⟨b, hb⟩ : ∃ b : Nat, p0.toInt = (b : Int) := ⟨p0.toInt.toNat, by omega⟩
    obtain ⟨l1, l2, l3⟩ := m_imgl hl c13 hb
    rw [hF8.row1 110 (by decide) (by decide), b110] at l1 l3
    rw [hF8.row1 118 (by decide) (by decide), hFx.row1 118 (by decide) (by decide)] at l2
    rw [z6, l3, e16] at e19
    rw [cn_eq (x := y5) (e := 10 * b) (by omega), z0, z10] at w60
    obtain ⟨f, hf8, hf, hBx⟩ := hB
    have ep : p0 = Int32.ofNat b := by
      rw [nat_i (x := p0) c, hb]
      rfl
    obtain ⟨s1, s2, s3⟩ := box_set f hf8 b (by omega)
    rw [cn_eq hb, hFx.row1 117 (by decide) (by decide)] at w117
    have m117 : M9.1 117 = upd (G.1 117) b (vp_nar .boolean 1) := (hF9.row1 117 (by decide) (by decide)).trans w117
    have m60 : M9.1 60 = va_cpy (G.1 58) (G.1 60) 0 (10 * b) 10 := (hFm.row1 60 (by decide) (by decide)).trans w60
    refine ⟨?_, ⟨n, m, hEn.fr (fun i hi => ?_) (fun y hy => ?_)⟩, f ||| 2 ^ b, s2, ?_, fun b' hb' => ⟨?_, fun q => ⟨fun j hj => ?_, ?_⟩⟩⟩
    · rw [← e, ← e', er12, e19, hF4.row1 58 (by decide) (by decide)]
    · rcases (by simpa using hi : i = 58 ∨ i = 59 ∨ i = 110 ∨ i = 111) with rfl | rfl | rfl | rfl
      · exact (hFm.row1 58 (by decide) (by decide)).trans (hFx.row1 58 (by decide) (by decide))
      · exact (hFm.row1 59 (by decide) (by decide)).trans (hFx.row1 59 (by decide) (by decide))
      · exact (hFm.row1 110 (by decide) (by decide)).trans (hFx.row1 110 (by decide) (by decide))
      · exact (hFm.row1 111 (by decide) (by decide)).trans (hFx.row1 111 (by decide) (by decide))
    · rcases (by simpa using hy : y = (30, 4) ∨ y = (30, 5) ∨ y = (66, 78) ∨ y = (66, 79)) with rfl | rfl | rfl | rfl
      · exact (hFm.i 30 4 (by decide) (by decide)).trans (hFx.i 30 4 (by decide) (by decide))
      · exact (hFm.i 30 5 (by decide) (by decide)).trans (hFx.i 30 5 (by decide) (by decide))
      · exact (hFm.i 66 78 (by decide) (by decide)).trans (hFx.i 66 78 (by decide) (by decide))
      · exact (hFm.i 66 79 (by decide) (by decide)).trans (hFx.i 66 79 (by decide) (by decide))
    · rw [hFm.i 30 3 (by decide) (by decide), w3, e10, e9, hf, ep]
      exact s1
    · rw [m117]
      by_cases hbb : b' = b
      · subst hbb
        rw [ud_at]
        exact ⟨fun _ => (s3 b' hb').mpr (Or.inl rfl), fun _ => by decide⟩
      · rw [ud_no hbb]
        exact ((hBx b' hb').1).trans ⟨fun q => (s3 b' hb').mpr (Or.inr q), fun q => ((s3 b' hb').mp q).resolve_left hbb⟩
    · rw [m60]
      by_cases hbb : b' = b
      · subst hbb
        rw [l1 j hj, cpy_in (by omega) (by omega), Nat.zero_add, show 0 + (10 * b' + j - 10 * b') = j by omega]
        exact hEn.2.1 j hj
      · rw [l2 _ (by omega), cpy_out (by omega)]
        exact ((hBx b' hb').2 (((s3 b' hb').mp q).resolve_left hbb)).1 j hj
    · by_cases hbb : b' = b
      · subst hbb
        refine hEn.now.cg (fun j hj => ?_)
        show M9.1 60 (10 * b' + j) = _
        rw [m60, cpy_in (by omega) (by omega), show 0 + (10 * b' + j - 10 * b') = j by omega]
      · refine ((hBx b' hb').2 (((s3 b' hb').mp q).resolve_left hbb)).2.cg (fun j hj => ?_)
        show M9.1 60 (10 * b' + j) = _
        rw [m60, cpy_out (by omega)]
  · exact out e4 (by rw [← e]; rfl) (by omega)
theorem act_back {V : PV} {p0 q0 : Int32} {G Ga Gb : GS} {r r' : Int32} (hx : P_Wback p0 G r Ga) (hm : Q_back q0 Ga r' Gb) (i0 : p0.toInt = q0.toInt) (hE : ER V G) : r.toInt = r'.toInt ∧ ER V Gb := by
  obtain rfl := Int32.toInt_inj.mp i0
  have hFx := hx.2.1
  have hFm := hm.2.1
  obtain ⟨-, -, -, r3, G4, hin, hh⟩ := hx
  obtain ⟨-, -, -, -, hin⟩ := hin
  obtain ⟨-, -, -, r1, M2, hib, hh2⟩ := hm
  obtain ⟨rfl, k2⟩ := q_isBox hib
  obtain ⟨⟨n, m, hEn⟩, hB⟩ := hE
  obtain ⟨z0, -, -, -, -, -, z6, -, -, -, z10, -⟩ := z32
  obtain ⟨f, hf8, hf, hBx⟩ := hB
  have b117 : Ga.1 117 = G.1 117 := hFx.row1 117 (by decide) (by decide)
  have b118 : Ga.1 118 = G.1 118 := hFx.row1 118 (by decide) (by decide)
  have out : G = G4 → r3.toInt = 0 → (r1.toInt ≠ 0 → (G.1 117 p0.toNatClampNeg).toInt = 0) → r.toInt = r'.toInt ∧ ER V Gb := by
    intro e4 h0 hno
    rcases hh with ⟨-, e, eG⟩ | ⟨c, -⟩
    · subst e4
      subst eG
      rcases hh2 with ⟨-, e', eG'⟩ | ⟨c', y12, e12, ⟨-, e', eG'⟩ | ⟨d, -⟩⟩
      · subst eG'
        exact ⟨by rw [← e, ← e'], ⟨n, m, hEn⟩, f, hf8, hf, hBx⟩
      · subst eG'
        exact ⟨by rw [← e, ← e'], ⟨n, m, hEn⟩, f, hf8, hf, hBx⟩
      · rw [e12] at d
        exact absurd (hno c') d
    · exact absurd h0 c
  rcases hin with ⟨c, e, e4⟩ | ⟨c, ⟨d, e, e4⟩ | ⟨d, y7, e7, y8, e8, hin⟩⟩
  · exact out e4 (by rw [← e]; rfl) (fun w => absurd (k2.mp w) (by omega))
  · exact out e4 (by rw [← e]; rfl) (fun w => absurd (k2.mp w) (by omega))
  · have hr1 : r1.toInt ≠ 0 := k2.mpr ⟨c, d⟩
    clear k2
    obtain ⟨b, hb⟩ : ∃ b : Nat, p0.toInt = (b : Int) := ⟨p0.toInt.toNat, by omega⟩
    have ep : p0 = Int32.ofNat b := by
      rw [nat_i (x := p0) c, hb]
      rfl
    have hg := box_get f hf8 b (by omega)
    rw [hf, ep] at e7
    rw [e7] at e8
    rw [← e8] at hg
    have hbx := hBx b (by omega)
    rcases hin with ⟨g, e, e4⟩ | ⟨g, y10, t10, G11, -, hF11, w58, G15, hfo, e3, eG⟩
    · refine out e4 (by rw [← e]; rfl) (fun _ => ?_)
      rw [cn_eq hb]
      exact Classical.byContradiction (fun w => (hg.mpr (hbx.1.mp w)) g)
    · clear out
      have hbit := hg.mp g
      obtain ⟨hrow, hrok⟩ := hbx.2 hbit
      have h117 : (G.1 117 b).toInt ≠ 0 := hbx.1.mpr hbit
      have h31 : r3.toInt ≠ 0 := by rw [← e3]; decide
      subst eG
      rcases hh with ⟨c1, -⟩ | ⟨-, r12, G13, htd, e, eG⟩
      · exact absurd c1 h31
      rcases hh2 with ⟨c1, -⟩ | ⟨-, y12, e12, ⟨c1, -⟩ | ⟨-, x18, M14, hl, -, -, hF14, c18, y26, e26, e', hFe, v78, v79⟩⟩
      · exact absurd c1 hr1
      · rw [e12, cn_eq hb, b117] at c1
        exact absurd c1 h117
      obtain ⟨e13, er12⟩ := k_today_eq htd
      have eGa : G15 = Ga := e13.trans eG
      subst eGa
      obtain ⟨l1, l2, l3⟩ := m_backl hl c18 hb
      rw [b118] at l1
      obtain ⟨-, hFf, -, -, f4, f5, f59⟩ := hfo
      rw [cn_eq (x := y10) (e := 10 * b) (by omega), z0, z10] at w58
      rw [z0, z10] at f59
      have m58 : Gb.1 58 = G11.1 58 := (hFm.row1 58 (by decide) (by decide)).trans (hFf.row1 58 (by decide) (by decide))
      have m59 : Gb.1 59 = G15.1 59 := hFm.row1 59 (by decide) (by decide)
      have m110 : Gb.1 110 = M14.1 110 := hFe.row1 110 (by decide) (by decide)
      have w58' : ∀ j, j < 10 → Gb.1 58 j = G.1 60 (10 * b + j) := fun j hj => by
        rw [m58, w58, cpy_in (by omega) (by omega), show 10 * b + (j - 0) = 10 * b + j by omega]
      have w110 : ∀ j, j < 10 → Gb.1 110 j = Gb.1 58 j := fun j hj => by
        have := l1 j hj
        rw [Nat.zero_add] at this
        rw [m110, this, w58' j hj]
        exact hrow j hj
      have w59 : ∀ j, j < 10 → Gb.1 59 j = Gb.1 58 j := fun j hj => by
        rw [m59, f59, cpy_in (by omega) (by omega), m58, show 0 + (j - 0) = j by omega]
      refine ⟨?_, ⟨0, 0, ⟨?_, ?_, ?_, ?_, by decide⟩, w110, fun k hk => ?_, fun j hj => ?_, fun k j hk => absurd hk (Nat.not_lt_zero k), fun k j hk hk2 => absurd hk2 (Nat.not_lt_zero k)⟩, BXs.fr (G := G) ⟨f, hf8, hf, hBx⟩ (fun i hi => ?_) ?_⟩
      · rw [← e, ← e', er12, e26, z6, ← m110, w110 6 (by decide), hFm.row1 58 (by decide) (by decide)]
      · rw [hFm.i 30 4 (by decide) (by decide), f4]
        rfl
      · rw [hFm.i 30 5 (by decide) (by decide), f5]
        rfl
      · rw [v78]
        rfl
      · rw [v79]
        rfl
      · have hk0 : k = 0 := by omega
        subst hk0
        refine hrok.cg (fun j hj => ?_)
        show Gb.1 59 (10 * 0 + j) = G.1 60 (10 * b + j)
        rw [show 10 * 0 + j = j by omega, w59 j hj, w58' j hj]
      · rw [show 10 * 0 + j = j by omega]
        exact w59 j hj
      · rcases (by simpa using hi : i = 60 ∨ i = 117 ∨ i = 118) with rfl | rfl | rfl
        · exact (hFm.row1 60 (by decide) (by decide)).trans (hFx.row1 60 (by decide) (by decide))
        · exact (hFm.row1 117 (by decide) (by decide)).trans (hFx.row1 117 (by decide) (by decide))
        · exact (hFm.row1 118 (by decide) (by decide)).trans (hFx.row1 118 (by decide) (by decide))
      · exact (hFm.i 30 3 (by decide) (by decide)).trans (hFx.i 30 3 (by decide) (by decide))
theorem walker_eq {V : PV} {p0 q0 : Int32} {G Ga Gb : GS} {r r' : Int32} (hx : P_Wwalker p0 G r Ga) (hm : Q_walker q0 Ga r' Gb) (i0 : p0.toInt = q0.toInt) (hE : ER V G) : r.toInt = r'.toInt := by
  obtain rfl := Int32.toInt_inj.mp i0
  have eG := hx.2.1.nil
  subst eG
  obtain ⟨-, -, y1, e1, hx⟩ := hx
  obtain ⟨-, -, y1', e1', hm⟩ := hm
  obtain ⟨⟨n, m, hEn⟩, hB⟩ := hE
  obtain ⟨z0, -, -, -, -, -, -, -, -, -, -, -⟩ := z32
  have h0 := hEn.2.1 0 (by decide)
  have hv := hEn.now.1
  rw [z0] at e1 e1'
  rw [h0] at e1'
  rw [← e1] at hv e1'
  rcases hx with ⟨c, rfl, -⟩ | ⟨c, hx⟩
  · rcases hm with ⟨-, rfl, -⟩ | ⟨d, -⟩
    · rfl
    · rw [e1'] at d
      omega
  · rcases hm with ⟨d, -⟩ | ⟨d, r5, G6, hi, hm⟩
    · rw [e1'] at d
      omega
    · obtain ⟨rfl, k⟩ := q_isIn hi
      have z : (0 : Int32).toInt = 0 := rfl
      have f : (5 : Int32).toInt = 5 := rfl
      rw [z, f] at k
      rcases hx with ⟨c2, rfl, -⟩ | ⟨c2, ⟨c3, y5, e5, rfl, -⟩ | ⟨c3, rfl, -⟩⟩
      · rcases hm with ⟨-, rfl, -⟩ | ⟨d2, -⟩
        · rfl
        · exact absurd (k.mp d2) (by omega)
      · rcases hm with ⟨d2, -⟩ | ⟨-, y12, e12, rfl, -⟩
        · exact absurd d2 (k.mpr ⟨c2, c3⟩)
        · clear k
          obtain ⟨w, hw⟩ : ∃ w : Nat, p0.toInt = (w : Int) := ⟨p0.toInt.toNat, by omega⟩
          rw [e5, e12, cn_eq hw, hEn.2.1 w (by omega)]
      · rcases hm with ⟨-, rfl, -⟩ | ⟨d2, -⟩
        · rfl
        · exact absurd (k.mp d2) (by omega)

/-! LAWFUL on both sides -/
def stl (V : PV) (s : Nat) : Nat := (V.1.getD s ([], [])).2.length
def wk (V : PV) (w : Nat) : WK := (V.2.1.getD w ([], 0, 0, 0, 0)).2
def icl (V : PV) (s i : Nat) : IC := (V.1.getD s ([], [])).2.getD i (0, 0, 0, 0)
def LNx (V : PV) (day : Int32) (s t i : Nat) : Prop := LNs V day (icl V s i) t
def LWF (V : PV) (day : Int32) (w s t : Nat) (x : Int) : Prop := 0 ≤ x ∧ x + (wk V w).1 ≤ (stl V s : Int) ∧ ∀ k : Nat, x ≤ (k : Int) → (k : Int) < x + (wk V w).1 → ¬ LNx V day s t k
def WKok (x : WK) : Prop := 1 ≤ x.1 ∧ x.1 ≤ 12 ∧ 1 ≤ x.2.1 ∧ x.2.1 ≤ x.2.2.1 ∧ x.2.2.1 ≤ 60 ∧ x.2.2.1 ≤ x.2.2.2 ∧ x.2.2.2 ≤ 99
theorem RV.wk {V : PV} {G : GS} {w : Nat} (h : RV V G) (hg : gW G = 1) (hw : w < V.2.1.length) : WKok (wk V w) := by
  obtain ⟨-, ⟨h1, h2, h3⟩, -⟩ := h
  obtain ⟨k1, k2, k3, k4⟩ := h3 w hw
  have e : (Int32.ofNat w).toInt = (w : Int) := on_i (by omega)
  have := gW_at hg (Int32.ofNat w) (by omega) (by omega)
  rw [cn_eq e, k1, k2, k3, k4] at this
  exact this
theorem nar_b {r : Int32} (h0 : 0 ≤ r.toInt) (h1 : r.toInt ≤ 1) : (vp_nar .boolean r).toInt = r.toInt := by
  have h : r.toInt = 0 ∨ r.toInt = 1 := by omega
  rcases h with q | q
  · have e : r = 0 := Int32.toInt_inj.mp (by rw [q]; rfl)
    subst e
    decide
  · have e : r = 1 := Int32.toInt_inj.mp (by rw [q]; rfl)
    subst e
    decide
/-- what a LINE is asked of stays the same -/
def SmL (G Gq : GS) : Prop := (∀ i ∈ [72, 73, 74, 87, 88, 89, 90, 91, 92, 93, 94, 95, 96, 110], Gq.1 i = G.1 i) ∧ Gq.1 66 54 = G.1 66 54
theorem SmL.rf {G : GS} : SmL G G := ⟨fun _ _ => rfl, rfl⟩
theorem SmL.fr {rs : List Nat} {fs : List (Nat × Nat)} {G Ga Gb : GS} (h : SmL G Ga) (hF : Fr rs fs Ga Gb) (h1 : ∀ i ∈ [72, 73, 74, 87, 88, 89, 90, 91, 92, 93, 94, 95, 96, 110], i ∉ rs ∧ ∀ x ∈ fs, x.1 ≠ i) (h2 : 66 ∉ rs ∧ (66, 54) ∉ fs) : SmL G Gb := ⟨fun i hi => (hF.rows h1 hi).trans (h.1 i hi), (hF.i 66 54 h2.1 h2.2).trans h.2⟩
theorem q_isLineS {V : PV} {p0 p1 p2 r : Int32} {G Gq Gn : GS} {s i t : Nat} (h : Q_isLine p0 p1 p2 Gq r Gn) (hS : SmL G Gq) (hs : p0.toInt = (s : Int)) (hsl : s < V.1.length) (hi : p2.toInt = (i : Int)) (hil : i < stl V s) (ht : p1.toInt = (t : Int)) (ht64 : t < 64) (hR : RV V G) (hV : PVok V) (hok : ICok (icl V s i)) : SmL G Gn ∧ Fr [76] [] Gq Gn ∧ (0 ≤ r.toInt ∧ r.toInt ≤ 1) ∧ (r.toInt ≠ 0 ↔ LNx V (G.1 110 6) s t i) := by
  have hF := h.2.1
  have hrng := h.2.2.1
  have hSt := (hR.1.2.2 s hsl).1.2 i hil
  have hx : IcR (icl V s i) (400 * s + i) Gq := by
    unfold IcR
    rw [hS.1 87 (by decide), hS.1 88 (by decide), hS.1 89 (by decide), hS.1 90 (by decide)]
    exact hSt
  have hl : (Gq.1 66 54).toInt = (V.2.2.1.length : Int) := by
    rw [hS.2]
    exact hR.2.2.1.1
  have hC : ∀ k, k < V.2.2.1.length → RCd k (V.2.2.1.getD k ([], [])).2 Gq := by
    intro k hk
    have := (hR.2.2.1.2.2.2 k hk).1
    unfold RCd at this ⊢
    rw [hS.1 72 (by decide), hS.1 73 (by decide), hS.1 74 (by decide)]
    exact this
  obtain ⟨-, k⟩ := q_isLine_eq h hs hi ht ht64 hx hok hl hV hC
  rw [hS.1 110 (by decide)] at k
  exact ⟨hS.fr hF (by decide) (by decide), hF, hrng, k⟩
theorem m_lay {V : PV} {p0 p1 p2 : Int32} {G G1 : GS} {w s t : Nat} (h : Q_layStreet p0 p1 p2 G G1) (hw : p0.toInt = (w : Int)) (hwl : w < V.2.1.length) (hs : p1.toInt = (s : Int)) (hsl : s < V.1.length) (ht : p2.toInt = (t : Int)) (ht64 : t < 64) (hR : RV V G) (hV : PVok V) (hok : ∀ i, i < stl V s → ICok (icl V s i)) : ((G1.1 66 59).toInt = (stl V s : Int) ∧ (G1.1 66 60).toInt = (wk V w).1 ∧ (G1.1 66 61).toInt = (wk V w).2.1 ∧ (G1.1 66 62).toInt = (wk V w).2.2.1 ∧ (G1.1 66 63).toInt = (wk V w).2.2.2) ∧ ∀ x : Nat, x < 512 → ((G1.1 98 x).toInt = 0 ∨ (G1.1 98 x).toInt = 1) ∧ ((G1.1 98 x).toInt ≠ 0 ↔ LWF V (G.1 110 6) w s t (x : Int)) := by
  obtain ⟨hBd, hFall, -, y1, e1, y4, e4, y7, e7, y10, e10, y13, e13, G15, -, hF15, v59, v60, v61, v62, v63, x20, G16, hl1, -, -, hF16, c20, x30, G26, hl2, -, -, -, hF26, c30, rfl⟩ := h
  rw [cn_eq hs] at e1
  rw [cn_eq hw] at e4 e7 e10 e13
  have hSt := (hR.1.2.2 s hsl).1
  obtain ⟨k1, k2, k3, k4⟩ := hR.2.1.2.2 w hwl
  have t1 : y1.toInt = (stl V s : Int) := by rw [e1]; exact hSt.1
  have t4 : y4.toInt = (wk V w).1 := by rw [e4]; exact k1
  have hf0 : 0 ≤ (wk V w).1 := by
    have := (hBd.i 92 w (lo := 0) (hi := 12) rfl rfl).1
    rw [hFall.row1 92 (by decide) (by decide)] at this
    rw [← t4, e4]
    exact this
  have fld : ∀ j, j = 59 ∨ j = 60 ∨ j = 61 ∨ j = 62 ∨ j = 63 → G26.1 66 j = G15.1 66 j := by
    intro j hj
    rcases hj with rfl | rfl | rfl | rfl | rfl <;> rw [hF26.i 66 _ (by decide) (by decide), hF16.i 66 _ (by decide) (by decide)]
  refine ⟨⟨?_, ?_, ?_, ?_, ?_⟩, ?_⟩
  · rw [fld 59 (by simp), v59]
    exact t1
  · rw [fld 60 (by simp), v60]
    exact t4
  · rw [fld 61 (by simp), v61, e7]
    exact k2
  · rw [fld 62 (by simp), v62, e10]
    exact k3
  · rw [fld 63 (by simp), v63, e13]
    exact k4
  have hS15 : SmL G G15 := SmL.rf.fr hF15 (by decide) (by decide)
  have hI1 := hl1 (fun q => SmL G q.2 ∧ ∃ n : Nat, q.1.toInt = (n : Int) ∧ ∀ i, i < n → ((q.2.1 97 i).toInt ≠ 0 ↔ LNx V (G.1 110 6) s t i)) ⟨hS15, 0, rfl, fun i hi => absurd hi (Nat.not_lt_zero i)⟩ (by
    rintro ⟨a0, b0⟩ ⟨an0, bn0⟩ ⟨i1, n, i2, i3⟩ ⟨a, b, an, bn, q1, q2, -, -, c, r107, G108, hil, y114, t114, ex, hF, w97⟩
    obtain ⟨rfl, rfl⟩ := Prod.mk.inj q1
    obtain ⟨rfl, rfl⟩ := Prod.mk.inj q2
    simp only at i1 i2 i3
    have hn : n < stl V s := by omega
    obtain ⟨j1, j2, j3, j4⟩ := q_isLineS hil i1 hs hsl i2 hn ht ht64 hR hV (hok n hn)
    refine ⟨j1.fr hF (by decide) (by decide), n + 1, by show an0.toInt = _; rw [← ex]; omega, fun i hi => ?_⟩
    show (bn0.1 97 i).toInt ≠ 0 ↔ _
    rw [w97, cn_eq i2]
    by_cases hin : i = n
    · subst hin
      rw [ud_at, nar_b j3.1 j3.2]
      exact j4
    · rw [ud_no hin, j2.row1 97 (by decide) (by decide)]
      exact i3 i (by omega))
  obtain ⟨-, n1, i2, i3⟩ := hI1
  simp only at i2 i3
  have hLn : ∀ i, i < stl V s → ((G16.1 97 i).toInt ≠ 0 ↔ LNx V (G.1 110 6) s t i) := fun i hi => i3 i (by omega)
  clear i3 i2 hl1
  have h59 : (G16.1 66 59).toInt = (stl V s : Int) := by
    rw [hF16.i 66 59 (by decide) (by decide), v59]
    exact t1
  have h60 : (G16.1 66 60).toInt = (wk V w).1 := by
    rw [hF16.i 66 60 (by decide) (by decide), v60]
    exact t4
  have nar1 : (vp_nar .boolean 1).toInt = 1 := by decide
  have nar0 : (vp_nar .boolean 0).toInt = 0 := by decide
  have hI2 := hl2 (fun q => (q.2.1 97 = G16.1 97 ∧ q.2.1 66 59 = G16.1 66 59 ∧ q.2.1 66 60 = G16.1 66 60) ∧ ∃ n : Nat, q.1.toInt = (n : Int) ∧ ∀ x, x < n → ((q.2.1 98 x).toInt = 0 ∨ (q.2.1 98 x).toInt = 1) ∧ ((q.2.1 98 x).toInt ≠ 0 ↔ LWF V (G.1 110 6) w s t (x : Int))) ⟨⟨rfl, rfl, rfl⟩, 0, rfl, fun i hi => absurd hi (Nat.not_lt_zero i)⟩ (by
    rintro ⟨a0, b0⟩ ⟨an0, bn0⟩ ⟨⟨i1, i9, i0⟩, n, i2, i3⟩ ⟨a, b, an, bn, q1, q2, -, -, -, c, r49, G50, hst, G56, -, hF56, w56, x63, G59, hl3, -, -, -, -, -, hF59, y78, t78, hd⟩
    obtain ⟨rfl, rfl⟩ := Prod.mk.inj q1
    obtain ⟨rfl, rfl⟩ := Prod.mk.inj q2
    simp only at i1 i2 i3 i9 i0
    have e50 := hst.2.1.nil
    subst e50
    have hr49 := hst.2.2.1
    have hsd : r49.toInt ≠ 0 ↔ (n : Int) + (wk V w).1 ≤ (stl V s : Int) := by
      have p1 := hst.2.2.2.1.1
      have p2 := hst.2.2.2.1.2
      rw [i9, i0, h59, h60, i2] at p1 p2
      constructor
      · intro q
        exact (p1 (by omega)).2
      · intro q
        have := p2 ⟨by omega, q⟩
        omega
    rw [cn_eq i2] at w56
    -- the walk along the FOOT
    have z97 : G56.1 97 = G16.1 97 := (hF56.row1 97 (by decide) (by decide)).trans i1
    have zj : ∀ j, j ≠ n → G56.1 98 j = b0.1 98 j := fun j hj => by rw [w56, ud_no hj]
    have z01 : (G56.1 98 n).toInt = 0 ∨ (G56.1 98 n).toInt = 1 := by
      rw [w56, ud_at, nar_b hr49.1 hr49.2]
      clear hsd
      omega
    have zne : (G56.1 98 n).toInt ≠ 0 ↔ ((n : Int) + (wk V w).1 ≤ (stl V s : Int) ∧ ∀ i, n ≤ i → i < n → ¬ LNx V (G.1 110 6) s t i) := by
      rw [w56, ud_at, nar_b hr49.1 hr49.2]
      exact hsd.trans ⟨fun q => ⟨q, fun i h1 h2 => absurd h2 (by omega)⟩, fun q => q.1⟩
    have hI3 := hl3 (fun q => (q.2.1 97 = G16.1 97 ∧ ∀ j, j ≠ n → q.2.1 98 j = b0.1 98 j) ∧ ∃ k : Nat, q.1.toInt = (k : Int) ∧ n ≤ k ∧ (k : Int) ≤ (n : Int) + (wk V w).1 ∧ ((q.2.1 98 n).toInt = 0 ∨ (q.2.1 98 n).toInt = 1) ∧ ((q.2.1 98 n).toInt ≠ 0 ↔ ((n : Int) + (wk V w).1 ≤ (stl V s : Int) ∧ ∀ i, n ≤ i → i < k → ¬ LNx V (G.1 110 6) s t i))) ⟨⟨z97, zj⟩, n, i2, Nat.le_refl n, by clear zne hsd; omega, z01, zne⟩ (by
      rintro ⟨a1, b1⟩ ⟨an1, bn1⟩ ⟨⟨u1, u2⟩, k, u3, u4, u5, u6, u7⟩ ⟨a', b', an', bn', q1, q2, -, -, -, -, -, y78', t78', c', y82, e82, c82, y87, e87, hd'⟩
      obtain ⟨rfl, rfl⟩ := Prod.mk.inj q1
      obtain ⟨rfl, rfl⟩ := Prod.mk.inj q2
      simp only at u1 u2 u3 u6 u7
      rw [cn_eq i2] at e82
      rw [cn_eq u3, u1] at e87
      have hyes := u7.mp (by rw [← e82]; exact c82)
      clear u7
      have hk : k < stl V s := by omega
      have hLk := hLn k hk
      rw [← e87] at hLk
      rcases hd' with ⟨f, y, ty, ex, hF, w98⟩ | ⟨f, y, ty, ex, hF, w98⟩
      · rw [cn_eq i2] at w98
        refine ⟨⟨(hF.row1 97 (by decide) (by decide)).trans u1, fun j hj => ?_⟩, k + 1, by show an1.toInt = _; rw [← ex]; clear hLk; omega, by omega, by clear hLk; omega, ?_, ?_⟩
        · show bn1.1 98 j = _
          rw [w98, ud_no hj]
          exact u2 j hj
        · show (bn1.1 98 n).toInt = 0 ∨ (bn1.1 98 n).toInt = 1
          rw [w98, ud_at]
          exact Or.inr nar1
        · show (bn1.1 98 n).toInt ≠ 0 ↔ _
          rw [w98, ud_at, nar1]
          refine ⟨fun _ => ⟨hyes.1, fun i hi1 hi2 => ?_⟩, fun _ => by decide⟩
          by_cases hik : i = k
          · subst hik
            exact fun q => absurd f (hLk.mpr q)
          · exact hyes.2 i hi1 (by omega)
      · rw [cn_eq i2] at w98
        refine ⟨⟨(hF.row1 97 (by decide) (by decide)).trans u1, fun j hj => ?_⟩, k + 1, by show an1.toInt = _; rw [← ex]; clear hLk; omega, by omega, by clear hLk; omega, ?_, ?_⟩
        · show bn1.1 98 j = _
          rw [w98, ud_no hj]
          exact u2 j hj
        · show (bn1.1 98 n).toInt = 0 ∨ (bn1.1 98 n).toInt = 1
          rw [w98, ud_at]
          exact Or.inl nar0
        · show (bn1.1 98 n).toInt ≠ 0 ↔ _
          rw [w98, ud_at, nar0]
          exact ⟨fun q => absurd rfl q, fun q => absurd (hLk.mp f) (q.2 k u4 (by omega))⟩)
    obtain ⟨⟨u1, u2⟩, k, u3, u4, u5, u6, u7⟩ := hI3
    simp only at u1 u2 u3 u6 u7
    have fin : ((n : Int) + (wk V w).1 ≤ (k : Int) ∨ (G59.1 98 n).toInt = 0) → ((G59.1 98 n).toInt ≠ 0 ↔ LWF V (G.1 110 6) w s t (n : Int)) := by
      intro hcase
      unfold LWF
      refine u7.trans ⟨fun q => ⟨by omega, q.1, fun i h1 h2 => q.2 i (by omega) ?_⟩, fun q => ⟨q.2.1, fun i h1 h2 => q.2.2 i (by omega) (by omega)⟩⟩
      rcases hcase with e | e
      · omega
      · exact absurd e (u7.mpr q)
    have hFz : ∀ {Gz : GS} {y : Int32}, G59 = Gz → y.toInt = a0.toInt + 1 → ((n : Int) + (wk V w).1 ≤ (k : Int) ∨ (G59.1 98 n).toInt = 0) → (Gz.1 97 = G16.1 97 ∧ Gz.1 66 59 = G16.1 66 59 ∧ Gz.1 66 60 = G16.1 66 60) ∧ ∃ n : Nat, y.toInt = (n : Int) ∧ ∀ x, x < n → ((Gz.1 98 x).toInt = 0 ∨ (Gz.1 98 x).toInt = 1) ∧ ((Gz.1 98 x).toInt ≠ 0 ↔ LWF V (G.1 110 6) w s t (x : Int)) := by
      intro Gz y e ty hcase
      subst e
      refine ⟨⟨u1, ?_, ?_⟩, n + 1, by clear fin u7 hsd; omega, fun x hx => ?_⟩
      · rw [hF59.i 66 59 (by decide) (by decide), hF56.i 66 59 (by decide) (by decide)]
        exact i9
      · rw [hF59.i 66 60 (by decide) (by decide), hF56.i 66 60 (by decide) (by decide)]
        exact i0
      · by_cases hxn : x = n
        · subst hxn
          exact ⟨u6, fin hcase⟩
        · rw [u2 x hxn]
          exact i3 x (by omega)
    rcases hd with ⟨f, y80, t80, ex, eG⟩ | ⟨f, y82, e82, c82, y85, t85, ex, eG⟩
    · exact hFz eG (by show an0.toInt = _; rw [← ex]; exact t80) (Or.inl (by clear fin u7 hsd; omega))
    · refine hFz eG (by show an0.toInt = _; rw [← ex]; exact t85) (Or.inr ?_)
      rw [cn_eq i2] at e82
      rw [← e82]
      exact c82)
  obtain ⟨-, n2, j2, j3⟩ := hI2
  simp only at j2 j3
  exact fun x hx => j3 x (by omega)
theorem CW_1.ok {V : PV} {G : GS} {s : Nat} (h : CW_1 V G) (hs : s < V.1.length) : ∀ i, i < stl V s → ICok (icl V s i) := fun i hi => ((h.1.2 s hs).1.2 i hi).2
theorem CaC_1.fr {V : PV} {G G1 : GS} (h : CaC_1 V G) (h37 : G1.1 37 = G.1 37) (h38 : G1.1 38 = G.1 38) : CaC_1 V G1 := by
  unfold CaC_1 FoC_1 at h ⊢
  rw [h37, h38]
  exact h
theorem ca_find_1 {V : PV} {p0 day : Int32} {G G1 : GS} (h : P_lFind_1 p0 day G G1) (hW : CW_1 V G) (hR3 : V.1.length ≤ 3) (hV : PVok V) (hd0 : 0 ≤ day.toInt) (hCa : CaC_1 V G) : CaC_1 V G1 := by
  by_cases hs : 0 ≤ p0.toInt ∧ p0.toInt < (V.1.length : Int)
  · exact (k_find_1 (s := p0.toInt.toNat) h (by omega) (by omega) hR3 hW hV hd0 hCa).2
  · obtain ⟨-, -, r1, G2, hst, hh⟩ := h
    obtain ⟨rfl, k1⟩ := k_hasStreet_1_eq hst
    rw [hW.1.1] at k1
    rcases hh with ⟨-, rfl⟩ | ⟨c, -⟩
    · exact hCa
    · exact absurd (k1.mp c) hs
theorem CW_1.fr {V : PV} {rs : List Nat} {fs : List (Nat × Nat)} {G G1 : GS} (h : CW_1 V G) (hF : Fr rs fs G G1) (h1 : ∀ i ∈ [10, 11, 12, 13, 14, 15, 16, 17, 18], i ∉ rs ∧ ∀ x ∈ fs, x.1 ≠ i) (h2 : ∀ y ∈ [(1, 9), (1, 10), (1, 11), (1, 12), (1, 13), (1, 14), (1, 15), (1, 16)], y.1 ∉ rs ∧ y ∉ fs) : CW_1 V G1 := by
  have hf : ∀ {j : Nat}, (1, j) ∈ [(1, 9), (1, 10), (1, 11), (1, 12), (1, 13), (1, 14), (1, 15), (1, 16)] → G1.1 1 j = G.1 1 j := fun hj => hF.i 1 _ (h2 _ hj).1 (h2 _ hj).2
  unfold CW_1 StC_1 WkC_1 CodeC_1 EndC_1 at h ⊢
  rw [hf (j := 9) (by decide), hf (j := 10) (by decide), hf (j := 11) (by decide), hf (j := 12) (by decide), hf (j := 13) (by decide), hf (j := 14) (by decide), hf (j := 15) (by decide), hf (j := 16) (by decide), hF.rows h1 (i := 10) (by decide), hF.rows h1 (i := 11) (by decide), hF.rows h1 (i := 12) (by decide), hF.rows h1 (i := 13) (by decide), hF.rows h1 (i := 14) (by decide), hF.rows h1 (i := 15) (by decide), hF.rows h1 (i := 16) (by decide), hF.rows h1 (i := 17) (by decide), hF.rows h1 (i := 18) (by decide)]
  exact h
theorem k_isLawful_1 {V : PV} {p0 p1 p2 p3 r day : Int32} {G G1 : GS} {w s t : Nat} (h : P_lIsLawful_1 p0 p1 p2 p3 G r G1) (hw : p0.toInt = (w : Int)) (hwl : w < V.2.1.length) (hs : p1.toInt = (s : Int)) (hsl : s < V.1.length) (ht : p2.toInt = (t : Int)) (ht64 : t < 64) (hW : CW_1 V G) (hV : PVok V) (hFo : FoC_1 V s day G) : G = G1 ∧ (r.toInt ≠ 0 ↔ LWF V day w s t p3.toInt) := by
  obtain ⟨-, hFr, -, r1, G2, hst, hh⟩ := h
  refine ⟨hFr.nil, ?_⟩
  obtain ⟨rfl, k1⟩ := k_stands_1_eq hst hW
  have ew : p0.toInt.toNat = w := by omega
  have es : p1.toInt.toNat = s := by omega
  rw [ew, es] at k1
  have z : (0 : Int32).toInt = 0 := rfl
  have o : (1 : Int32).toInt = 1 := rfl
  rcases hh with ⟨c, rfl, -⟩ | ⟨c, x12, G8, hl, -, -, hF8, y16, e16, y17, t17, hh⟩
  · exact ⟨fun q => absurd z q, fun q => absurd c (k1.mpr ⟨⟨by omega, by omega⟩, ⟨by omega, by omega⟩, q.1, by have := q.2.1; unfold stl wk at this; omega⟩)⟩
  have e8 := hF8.nil
  subst e8
  obtain ⟨-, -, g1, g2⟩ := k1.mp c
  clear k1
  have hwk := (hW.2.1.2 w hwl).1
  rw [cn_eq hw] at e16
  have t16 : y16.toInt = (wk V w).1 := by rw [e16]; exact hwk
  have hst2 : p3.toInt + (wk V w).1 ≤ (stl V s : Int) := by
    unfold stl wk
    omega
  have hI := hl (fun q => q.2 = G ∧ ∃ k : Nat, q.1.toInt = (k : Int) ∧ p3.toInt ≤ (k : Int) ∧ ∀ i : Nat, p3.toInt ≤ (i : Int) → i < k → ¬ LNx V day s t i) ⟨rfl, p3.toInt.toNat, by show p3.toInt = _; omega, by omega, fun i h1 h2 => absurd h2 (by omega)⟩ (by
    rintro ⟨a0, b0⟩ ⟨an0, bn0⟩ ⟨i1, k, i2, i3, i4⟩ ⟨a, b, an, bn, q1, q2, -, -, y16', e16', y17', t17', c', r19, G20, hil, c19, y26, t26, ex, eG⟩
    obtain ⟨rfl, rfl⟩ := Prod.mk.inj q1
    obtain ⟨rfl, rfl⟩ := Prod.mk.inj q2
    simp only at i1 i2
    subst i1
    rw [cn_eq hw] at e16'
    have t16' : y16'.toInt = (wk V w).1 := by rw [e16']; exact hwk
    obtain ⟨rfl, kl⟩ := k_isLine_1 hil hs hsl i2 ht ht64 hW hV hFo
    have hk : k < stl V s := by clear kl; omega
    refine ⟨eG.symm, k + 1, by show an0.toInt = _; rw [← ex]; clear kl; omega, by clear kl; omega, fun i h1 h2 => ?_⟩
    by_cases hik : i = k
    · subst hik
      exact fun q => (kl.mpr ⟨hk, q⟩) c19
    · exact i4 i h1 (by omega))
  obtain ⟨-, k, i2, i3, i4⟩ := hI
  simp only at i2
  unfold LWF
  rcases hh with ⟨f, rfl, -⟩ | ⟨f, r19, G20, hil, c19, rfl, -⟩
  · exact ⟨fun _ => ⟨g1, hst2, fun i h1 h2 => i4 i h1 (by omega)⟩, fun _ => by omega⟩
  · refine ⟨fun q => absurd z q, fun q => ?_⟩
    have kl := (k_isLine_1 hil hs hsl i2 ht ht64 hW hV hFo).2.mp c19
    exact absurd kl.2 (q.2.2 k i3 (by omega))
theorem CW_2.ok {V : PV} {G : GS} {s : Nat} (h : CW_2 V G) (hs : s < V.1.length) : ∀ i, i < stl V s → ICok (icl V s i) := fun i hi => ((h.1.2 s hs).1.2 i hi).2
theorem CaC_2.fr {V : PV} {G G1 : GS} (h : CaC_2 V G) (h37 : G1.1 37 = G.1 37) (h38 : G1.1 38 = G.1 38) : CaC_2 V G1 := by
  unfold CaC_2 FoC_2 at h ⊢
  rw [h37, h38]
  exact h
theorem ca_find_2 {V : PV} {p0 day : Int32} {G G1 : GS} (h : P_lFind_2 p0 day G G1) (hW : CW_2 V G) (hR3 : V.1.length ≤ 3) (hV : PVok V) (hd0 : 0 ≤ day.toInt) (hCa : CaC_2 V G) : CaC_2 V G1 := by
  by_cases hs : 0 ≤ p0.toInt ∧ p0.toInt < (V.1.length : Int)
  · exact (k_find_2 (s := p0.toInt.toNat) h (by omega) (by omega) hR3 hW hV hd0 hCa).2
  · obtain ⟨-, -, r1, G2, hst, hh⟩ := h
    obtain ⟨rfl, k1⟩ := k_hasStreet_2_eq hst
    rw [hW.1.1] at k1
    rcases hh with ⟨-, rfl⟩ | ⟨c, -⟩
    · exact hCa
    · exact absurd (k1.mp c) hs
theorem CW_2.fr {V : PV} {rs : List Nat} {fs : List (Nat × Nat)} {G G1 : GS} (h : CW_2 V G) (hF : Fr rs fs G G1) (h1 : ∀ i ∈ [20, 21, 22, 23, 24, 25, 26, 27, 28], i ∉ rs ∧ ∀ x ∈ fs, x.1 ≠ i) (h2 : ∀ y ∈ [(2, 9), (2, 10), (2, 11), (2, 12), (2, 13), (2, 14), (2, 15), (2, 16)], y.1 ∉ rs ∧ y ∉ fs) : CW_2 V G1 := by
  have hf : ∀ {j : Nat}, (2, j) ∈ [(2, 9), (2, 10), (2, 11), (2, 12), (2, 13), (2, 14), (2, 15), (2, 16)] → G1.1 2 j = G.1 2 j := fun hj => hF.i 2 _ (h2 _ hj).1 (h2 _ hj).2
  unfold CW_2 StC_2 WkC_2 CodeC_2 EndC_2 at h ⊢
  rw [hf (j := 9) (by decide), hf (j := 10) (by decide), hf (j := 11) (by decide), hf (j := 12) (by decide), hf (j := 13) (by decide), hf (j := 14) (by decide), hf (j := 15) (by decide), hf (j := 16) (by decide), hF.rows h1 (i := 20) (by decide), hF.rows h1 (i := 21) (by decide), hF.rows h1 (i := 22) (by decide), hF.rows h1 (i := 23) (by decide), hF.rows h1 (i := 24) (by decide), hF.rows h1 (i := 25) (by decide), hF.rows h1 (i := 26) (by decide), hF.rows h1 (i := 27) (by decide), hF.rows h1 (i := 28) (by decide)]
  exact h
theorem k_isLawful_2 {V : PV} {p0 p1 p2 p3 r day : Int32} {G G1 : GS} {w s t : Nat} (h : P_lIsLawful_2 p0 p1 p2 p3 G r G1) (hw : p0.toInt = (w : Int)) (hwl : w < V.2.1.length) (hs : p1.toInt = (s : Int)) (hsl : s < V.1.length) (ht : p2.toInt = (t : Int)) (ht64 : t < 64) (hW : CW_2 V G) (hV : PVok V) (hFo : FoC_2 V s day G) : G = G1 ∧ (r.toInt ≠ 0 ↔ LWF V day w s t p3.toInt) := by
  obtain ⟨-, hFr, -, r1, G2, hst, hh⟩ := h
  refine ⟨hFr.nil, ?_⟩
  obtain ⟨rfl, k1⟩ := k_stands_2_eq hst hW
  have ew : p0.toInt.toNat = w := by omega
  have es : p1.toInt.toNat = s := by omega
  rw [ew, es] at k1
  have z : (0 : Int32).toInt = 0 := rfl
  have o : (1 : Int32).toInt = 1 := rfl
  rcases hh with ⟨c, rfl, -⟩ | ⟨c, x12, G8, hl, -, -, hF8, y16, e16, y17, t17, hh⟩
  · exact ⟨fun q => absurd z q, fun q => absurd c (k1.mpr ⟨⟨by omega, by omega⟩, ⟨by omega, by omega⟩, q.1, by have := q.2.1; unfold stl wk at this; omega⟩)⟩
  have e8 := hF8.nil
  subst e8
  obtain ⟨-, -, g1, g2⟩ := k1.mp c
  clear k1
  have hwk := (hW.2.1.2 w hwl).1
  rw [cn_eq hw] at e16
  have t16 : y16.toInt = (wk V w).1 := by rw [e16]; exact hwk
  have hst2 : p3.toInt + (wk V w).1 ≤ (stl V s : Int) := by
    unfold stl wk
    omega
  have hI := hl (fun q => q.2 = G ∧ ∃ k : Nat, q.1.toInt = (k : Int) ∧ p3.toInt ≤ (k : Int) ∧ ∀ i : Nat, p3.toInt ≤ (i : Int) → i < k → ¬ LNx V day s t i) ⟨rfl, p3.toInt.toNat, by show p3.toInt = _; omega, by omega, fun i h1 h2 => absurd h2 (by omega)⟩ (by
    rintro ⟨a0, b0⟩ ⟨an0, bn0⟩ ⟨i1, k, i2, i3, i4⟩ ⟨a, b, an, bn, q1, q2, -, -, y16', e16', y17', t17', c', r19, G20, hil, c19, y26, t26, ex, eG⟩
    obtain ⟨rfl, rfl⟩ := Prod.mk.inj q1
    obtain ⟨rfl, rfl⟩ := Prod.mk.inj q2
    simp only at i1 i2
    subst i1
    rw [cn_eq hw] at e16'
    have t16' : y16'.toInt = (wk V w).1 := by rw [e16']; exact hwk
    obtain ⟨rfl, kl⟩ := k_isLine_2 hil hs hsl i2 ht ht64 hW hV hFo
    have hk : k < stl V s := by clear kl; omega
    refine ⟨eG.symm, k + 1, by show an0.toInt = _; rw [← ex]; clear kl; omega, by clear kl; omega, fun i h1 h2 => ?_⟩
    by_cases hik : i = k
    · subst hik
      exact fun q => (kl.mpr ⟨hk, q⟩) c19
    · exact i4 i h1 (by omega))
  obtain ⟨-, k, i2, i3, i4⟩ := hI
  simp only at i2
  unfold LWF
  rcases hh with ⟨f, rfl, -⟩ | ⟨f, r19, G20, hil, c19, rfl, -⟩
  · exact ⟨fun _ => ⟨g1, hst2, fun i h1 h2 => i4 i h1 (by omega)⟩, fun _ => by omega⟩
  · refine ⟨fun q => absurd z q, fun q => ?_⟩
    have kl := (k_isLine_2 hil hs hsl i2 ht ht64 hW hV hFo).2.mp c19
    exact absurd kl.2 (q.2.2 k i3 (by omega))

/-! what may be asked -/
noncomputable def pif {α : Type} (p : Prop) (a b : α) : α := @ite α p (Classical.propDecidable p) a b
theorem pif_p {α : Type} {p : Prop} {a b : α} (h : p) : pif p a b = a := if_pos h
theorem pif_n {α : Type} {p : Prop} {a b : α} (h : ¬ p) : pif p a b = b := if_neg h
def inS (V : PV) (p : Int32) : Prop := 0 ≤ p.toInt ∧ p.toInt < (V.1.length : Int)
def inW (V : PV) (p : Int32) : Prop := 0 ≤ p.toInt ∧ p.toInt < (V.2.1.length : Int)
def inR (V : PV) (p : Int32) : Prop := 0 ≤ p.toInt ∧ p.toInt < ((2 ^ V.2.2.1.length : Nat) : Int)
def inX (V : PV) (s p : Int32) : Prop := 0 ≤ p.toInt ∧ p.toInt < (stl V s.toInt.toNat : Int)
theorem inR.lt {V : PV} {p : Int32} (h : inR V p) (h6 : V.2.2.1.length ≤ 6) : p.toInt.toNat < 64 ∧ p.toInt = (p.toInt.toNat : Int) := by
  have : 2 ^ V.2.2.1.length ≤ 2 ^ 6 := Nat.pow_le_pow_right (by decide) h6
  have h2 := h.2
  have h1 := h.1
  omega
theorem inS.n {V : PV} {p : Int32} (h : inS V p) : p.toInt.toNat < V.1.length ∧ p.toInt = (p.toInt.toNat : Int) := by
  have h2 := h.2
  have h1 := h.1
  omega
theorem inW.n {V : PV} {p : Int32} (h : inW V p) : p.toInt.toNat < V.2.1.length ∧ p.toInt = (p.toInt.toNat : Int) := by
  have h2 := h.2
  have h1 := h.1
  omega
theorem sh_n {c : Int32} {n : Nat} (h : c.toInt = (n : Int)) (h6 : n ≤ 6) : ((1 : Int32) <<< (c &&& 31)).toInt = ((2 ^ n : Nat) : Int) := by
  have e : c = Int32.ofNat n := by
    rw [nat_i (x := c) (by omega), h]
    rfl
  have : 2 ^ n ≤ 2 ^ 6 := Nat.pow_le_pow_right (by decide) h6
  rw [e, sh_pow n (by omega), on_i (by omega)]
theorem q_areRules_eq {V : PV} {p0 r : Int32} {G G1 : GS} (h : Q_areRules p0 G r G1) (hR : RV V G) : G = G1 ∧ (r.toInt ≠ 0 ↔ inR V p0) := by
  obtain ⟨-, hF, -, -, y2, e2, y3, t3, r5, G6, hi, rfl, rfl⟩ := h
  have t2 : y2.toInt = ((2 ^ V.2.2.1.length : Nat) : Int) := by
    rw [e2]
    exact sh_n hR.2.2.1.1 hR.2.2.1.2.1
  have z : (0 : Int32).toInt = 0 := rfl
  refine ⟨hF.nil, (q_isIn hi).2.trans ⟨fun q => ⟨by have := q.1; omega, by have := q.2; omega⟩, fun q => ⟨by have := q.1; omega, by have := q.2; omega⟩⟩⟩
theorem RV.len {V : PV} {G : GS} {p : Int32} (h : RV V G) (hp : inS V p) : (G.1 91 p.toNatClampNeg).toInt = (stl V p.toInt.toNat : Int) := (h.1.2.2 p.toInt.toNat hp.n.1).1.1
theorem q_isStreetV {V : PV} {p0 r : Int32} {G G1 : GS} (h : Q_isStreet p0 G r G1) (hR : RV V G) : G = G1 ∧ (r.toInt ≠ 0 ↔ inS V p0) := by
  obtain ⟨e, k⟩ := q_isStreet h
  rw [hR.1.1] at k
  exact ⟨e, k⟩
theorem q_isWalkerV {V : PV} {p0 r : Int32} {G G1 : GS} (h : Q_isWalker p0 G r G1) (hR : RV V G) : G = G1 ∧ (r.toInt ≠ 0 ↔ inW V p0) := by
  obtain ⟨e, k⟩ := q_isWalker h
  rw [hR.2.1.1] at k
  exact ⟨e, k⟩
theorem q_isInchV {V : PV} {p0 p1 r : Int32} {G G1 : GS} (h : Q_isInch p0 p1 G r G1) (hR : RV V G) (hp : inS V p0) : G = G1 ∧ (r.toInt ≠ 0 ↔ inX V p0 p1) := by
  obtain ⟨e, k⟩ := q_isInch h
  rw [hR.len hp] at k
  exact ⟨e, k⟩
theorem q_isAsked_eq {V : PV} {p0 p1 p2 r : Int32} {G G1 : GS} (h : Q_isAsked p0 p1 p2 G r G1) (hR : RV V G) : G = G1 ∧ (r.toInt ≠ 0 ↔ (inW V p0 ∧ inS V p1 ∧ inR V p2)) := by
  obtain ⟨-, hF, -, -, r1, G2, hw, hh⟩ := h
  have z : (0 : Int32).toInt = 0 := rfl
  have o : (1 : Int32).toInt = 1 := rfl
  refine ⟨hF.nil, ?_⟩
  obtain ⟨rfl, k1⟩ := q_isWalkerV hw hR
  rcases hh with ⟨c, rfl, -⟩ | ⟨c, r10, G11, hs, hh⟩
  · exact ⟨fun q => absurd z q, fun q => absurd c (k1.mpr q.1)⟩
  obtain ⟨rfl, k2⟩ := q_isStreetV hs hR
  rcases hh with ⟨c2, rfl, -⟩ | ⟨c2, r17, G18, hr, hh⟩
  · exact ⟨fun q => absurd z q, fun q => absurd c2 (k2.mpr q.2.1)⟩
  obtain ⟨rfl, k3⟩ := q_areRules_eq hr hR
  rcases hh with ⟨c3, rfl, -⟩ | ⟨c3, rfl, -⟩
  · exact ⟨fun q => absurd z q, fun q => absurd c3 (k3.mpr q.2.2)⟩
  · exact ⟨fun _ => ⟨k1.mp c, k2.mp c2, k3.mp c3⟩, fun _ => by rw [o]; decide⟩
theorem RV.fr {V : PV} {rs : List Nat} {fs : List (Nat × Nat)} {G G1 : GS} (h : RV V G) (hF : Fr rs fs G G1) (h1 : ∀ i ∈ [72, 73, 74, 87, 88, 89, 90, 91, 92, 93, 94, 95, 96], i ∉ rs ∧ ∀ x ∈ fs, x.1 ≠ i) (h2 : ∀ y ∈ [(66, 22), (66, 52), (66, 53), (66, 54), (66, 55), (66, 56)], y.1 ∉ rs ∧ y ∉ fs) : RV V G1 := by
  have hf : ∀ {j : Nat}, (66, j) ∈ [(66, 22), (66, 52), (66, 53), (66, 54), (66, 55), (66, 56)] → G1.1 66 j = G.1 66 j := fun hj => hF.i 66 _ (h2 _ hj).1 (h2 _ hj).2
  unfold RV RSt RWk RCd at h ⊢
  rw [hf (j := 22) (by decide), hf (j := 52) (by decide), hf (j := 53) (by decide), hf (j := 54) (by decide), hf (j := 55) (by decide), hf (j := 56) (by decide), hF.rows h1 (i := 72) (by decide), hF.rows h1 (i := 73) (by decide), hF.rows h1 (i := 74) (by decide), hF.rows h1 (i := 87) (by decide), hF.rows h1 (i := 88) (by decide), hF.rows h1 (i := 89) (by decide), hF.rows h1 (i := 90) (by decide), hF.rows h1 (i := 91) (by decide), hF.rows h1 (i := 92) (by decide), hF.rows h1 (i := 93) (by decide), hF.rows h1 (i := 94) (by decide), hF.rows h1 (i := 95) (by decide), hF.rows h1 (i := 96) (by decide)]
  exact h
theorem ER.day {V : PV} {G : GS} (h : ER V G) : (0 ≤ (G.1 58 6).toInt ∧ (G.1 58 6).toInt ≤ 1000) ∧ G.1 110 6 = G.1 58 6 := by
  obtain ⟨⟨n, m, hE⟩, -⟩ := h
  exact ⟨hE.now.2.1, hE.2.1 6 (by decide)⟩
/-- the SIGHTS are those of who stands -/
def SOK (V : PV) (G : GS) : Prop := ∀ j : Nat, (j : Int) < (G.1 31 5).toInt → inW V (G.1 61 j) ∧ inS V (G.1 62 j) ∧ 0 ≤ (G.1 63 j).toInt ∧ (G.1 63 j).toInt + (wk V (G.1 61 j).toInt.toNat).1 ≤ (stl V (G.1 62 j).toInt.toNat : Int)
def SV (V : PV) (G : GS) : Prop := (G.1 31 5).toInt = (G.1 66 85).toInt ∧ SG G ∧ SOK V G
theorem SV.fr {V : PV} {rs : List Nat} {fs : List (Nat × Nat)} {G G1 : GS} (h : SV V G) (hF : Fr rs fs G G1) (h1 : ∀ i ∈ [61, 62, 63, 64, 65, 112, 113, 114, 115, 116], i ∉ rs ∧ ∀ x ∈ fs, x.1 ≠ i) (h2 : ∀ y ∈ [(31, 5), (66, 85)], y.1 ∉ rs ∧ y ∉ fs) : SV V G1 := by
  unfold SV SG SOK at h ⊢
  rw [hF.i 31 5 (h2 (31, 5) (by decide)).1 (h2 (31, 5) (by decide)).2, hF.i 66 85 (h2 (66, 85) (by decide)).1 (h2 (66, 85) (by decide)).2, hF.rows h1 (i := 61) (by decide), hF.rows h1 (i := 62) (by decide), hF.rows h1 (i := 63) (by decide), hF.rows h1 (i := 64) (by decide), hF.rows h1 (i := 65) (by decide), hF.rows h1 (i := 112) (by decide), hF.rows h1 (i := 113) (by decide), hF.rows h1 (i := 114) (by decide), hF.rows h1 (i := 115) (by decide), hF.rows h1 (i := 116) (by decide)]
  exact h
/-- along a STREET: the row that goes on, how many are LINES, where the longest begins, how long it is -/
noncomputable def gst (L : Nat → Prop) : Nat → Int × Int × Int × Int
  | 0 => (0, 0, -1, 0)
  | k + 1 => pif (L k) (0, (gst L k).2.1 + 1, (gst L k).2.2.1, (gst L k).2.2.2) (if (gst L k).2.2.2 < (gst L k).1 + 1 then ((gst L k).1 + 1, (gst L k).2.1, (k : Int) - ((gst L k).1 + 1) + 1, (gst L k).1 + 1) else ((gst L k).1 + 1, (gst L k).2.1, (gst L k).2.2.1, (gst L k).2.2.2))
theorem gst_r (L : Nat → Prop) : ∀ k : Nat, 0 ≤ (gst L k).1 ∧ (gst L k).1 ≤ (k : Int) ∧ 0 ≤ (gst L k).2.1 ∧ (gst L k).2.1 ≤ (k : Int) ∧ 0 ≤ (gst L k).2.2.2
  | 0 => ⟨Int.le_refl _, Int.le_refl _, Int.le_refl _, Int.le_refl _, Int.le_refl _⟩
  | k + 1 => by
    obtain ⟨h1, h2, h3, h4, h5⟩ := gst_r L k
    rw [gst]
    by_cases hL : L k
    · rw [pif_p hL]
      exact ⟨Int.le_refl _, by show (0 : Int) ≤ _; omega, by show (0 : Int) ≤ (gst L k).2.1 + 1; omega, by show (gst L k).2.1 + 1 ≤ _; omega, h5⟩
    · rw [pif_n hL]
      by_cases hc : (gst L k).2.2.2 < (gst L k).1 + 1
      · rw [if_pos hc]
        exact ⟨by show (0 : Int) ≤ (gst L k).1 + 1; omega, by show (gst L k).1 + 1 ≤ _; omega, h3, by show (gst L k).2.1 ≤ _; omega, by show (0 : Int) ≤ (gst L k).1 + 1; omega⟩
      · rw [if_neg hc]
        exact ⟨by show (0 : Int) ≤ (gst L k).1 + 1; omega, by show (gst L k).1 + 1 ≤ _; omega, h3, by show (gst L k).2.1 ≤ _; omega, h5⟩
theorem gst_L {L : Nat → Prop} {k : Nat} (h : L k) : gst L (k + 1) = (0, (gst L k).2.1 + 1, (gst L k).2.2.1, (gst L k).2.2.2) := pif_p h
theorem gst_N {L : Nat → Prop} {k : Nat} (h : ¬ L k) : gst L (k + 1) = (if (gst L k).2.2.2 < (gst L k).1 + 1 then ((gst L k).1 + 1, (gst L k).2.1, (k : Int) - ((gst L k).1 + 1) + 1, (gst L k).1 + 1) else ((gst L k).1 + 1, (gst L k).2.1, (gst L k).2.2.1, (gst L k).2.2.2)) := pif_n h
theorem q_gap_eq {V : PV} {p0 p1 p2 r : Int32} {G G1 : GS} (h : Q_gap p0 p1 p2 G r G1) (hR : RV V G) (hV : PVok V) (hok : ∀ s i, s < V.1.length → i < stl V s → ICok (icl V s i)) : (¬ (inS V p0 ∧ inR V p1 ∧ 0 ≤ p2.toInt ∧ p2.toInt ≤ 2) ∧ r.toInt = -1) ∨ ((inS V p0 ∧ inR V p1 ∧ 0 ≤ p2.toInt ∧ p2.toInt ≤ 2) ∧ r.toInt = (if p2.toInt = 0 then (gst (LNx V (G.1 110 6) p0.toInt.toNat p1.toInt.toNat) (stl V p0.toInt.toNat)).2.2.2 else if p2.toInt = 1 then (gst (LNx V (G.1 110 6) p0.toInt.toNat p1.toInt.toNat) (stl V p0.toInt.toNat)).2.2.1 else (gst (LNx V (G.1 110 6) p0.toInt.toNat p1.toInt.toNat) (stl V p0.toInt.toNat)).2.1)) := by
  have m1 : (-1 : Int32).toInt = -1 := rfl
  have z0 : (0 : Int32).toInt = 0 := rfl
  have o1 : (1 : Int32).toInt = 1 := rfl
  have t2 : (2 : Int32).toInt = 2 := rfl
  obtain ⟨-, -, r1, G2, hs, hh⟩ := h
  obtain ⟨rfl, k1⟩ := q_isStreetV hs hR
  rcases hh with ⟨c, rfl, -⟩ | ⟨c, r8, G9, hr, hh⟩
  · exact Or.inl ⟨fun q => absurd c (k1.mpr q.1), m1⟩
  have hS := k1.mp c
  obtain ⟨rfl, k2⟩ := q_areRules_eq hr hR
  rcases hh with ⟨c2, rfl, -⟩ | ⟨c2, r17, G18, hi, hh⟩
  · exact Or.inl ⟨fun q => absurd c2 (k2.mpr q.2.1), m1⟩
  have hRr := k2.mp c2
  obtain ⟨rfl, k3⟩ := q_isIn hi
  rw [z0, t2] at k3
  rcases hh with ⟨c3, rfl, -⟩ | ⟨c3, x28, x29, x30, x31, x32, G24, hl, -, -, -, -, hF24, y40, e40, c40, hh⟩
  · exact Or.inl ⟨fun q => absurd c3 (k3.mpr q.2.2), m1⟩
  refine Or.inr ⟨⟨hS, hRr, k3.mp c3⟩, ?_⟩
  clear k1 k2 k3 c c2
  obtain ⟨hsl, hsn⟩ := hS.n
  obtain ⟨ht64, htn⟩ := hRr.lt hV.1
  obtain ⟨s, es⟩ : ∃ s, s = p0.toInt.toNat := ⟨_, rfl⟩
  obtain ⟨t, et⟩ : ∃ t, t = p1.toInt.toNat := ⟨_, rfl⟩
  rw [← es] at hsl hsn ⊢
  rw [← et] at ht64 htn ⊢
  obtain ⟨L, hL⟩ : ∃ L, L = LNx V (G.1 110 6) s t := ⟨_, rfl⟩
  rw [← hL]
  have hlen : ∀ {Gq : GS}, SmL G Gq → (Gq.1 91 p0.toNatClampNeg).toInt = (stl V s : Int) := by
    intro Gq hq
    rw [hq.1 91 (by decide), hR.len hS, ← es]
  have hI := hl (fun q => SmL G q.2.2.2.2.2 ∧ ∃ k : Nat, k ≤ stl V s ∧ q.1.toInt = (k : Int) ∧ q.2.1.toInt = (gst L k).2.1 ∧ q.2.2.1.toInt = (gst L k).1 ∧ q.2.2.2.1.toInt = (gst L k).2.2.1 ∧ q.2.2.2.2.1.toInt = (gst L k).2.2.2) ⟨SmL.rf, 0, Nat.zero_le _, rfl, rfl, rfl, rfl, rfl⟩ (by
    rintro ⟨a1, a2, a3, a4, a5, b0⟩ ⟨n1, n2, n3, n4, n5, bn⟩ ⟨hSm, k, i0, i1, i2, i3, i4, i5⟩ ⟨x1, x2, x3, x4, x5, g, u1, u2, u3, u4, u5, gn, q1, q2, -, -, -, -, y40, e40, c40, r45, G46, hil, r51, G52, htr, y57, e57, x58, w66, G67, hj, -, hF67, hd⟩
    simp only [Prod.mk.injEq] at q1 q2
    obtain ⟨rfl, rfl, rfl, rfl, rfl, rfl⟩ := q1
    obtain ⟨rfl, rfl, rfl, rfl, rfl, rfl⟩ := q2
    simp only at hSm i1 i2 i3 i4 i5
    have t40 : y40.toInt = (stl V s : Int) := by rw [e40]; exact hlen hSm
    have hk : k < stl V s := by omega
    have hl4 := (hR.1.2.2 s hsl).2
    have hl4' : (stl V s : Int) ≤ 400 := hl4
    obtain ⟨j1, j2, j3, j4⟩ := q_isLineS hil hSm hsn hsl i1 hk htn ht64 hR hV (hok s k hsl hk)
    obtain ⟨rfl, t51⟩ := q_truth htr
    have e67 := hF67.nil
    subst e67
    obtain ⟨g1, g2, g3, g4, g5⟩ := gst_r L k
    have t57 : y57.toInt = (gst L k).2.1 + r45.toInt := by
      have := tI_add e57 (by omega) (by omega)
      omega
    have hLk : r45.toInt ≠ 0 ↔ L k := by rw [hL]; exact j4
    have hJ : x58 = y57 ∧ ((¬ L k ∧ w66.toInt = (gst L k).1 + 1 ∧ r45.toInt = 0) ∨ (L k ∧ w66.toInt = 0 ∧ r45.toInt = 1)) := by
      rcases hj with ⟨f, y79, e79, ex, ew, -⟩ | ⟨f, ex, ew, -⟩
      · have t79 : y79.toInt = a3.toInt + 1 := tI_add e79 (by rw [o1]; omega) (by rw [o1]; omega)
        refine ⟨ex.symm, Or.inl ⟨fun q => (hLk.mpr q) f, ?_, f⟩⟩
        rw [← ew, t79, i3]
      · refine ⟨ex.symm, Or.inr ⟨hLk.mp f, by rw [← ew]; rfl, by omega⟩⟩
    obtain ⟨rfl, hJ⟩ := hJ
    clear hLk j4
    rcases hd with ⟨f, y72, t72, y74, t74, y76, t76, ex, e2, e3, e4, e5, eG⟩ | ⟨f, y77, t77, ex, e2, e3, e4, e5, eG⟩
    · subst eG
      refine ⟨j1, k + 1, by omega, by show n1.toInt = _; rw [← ex]; omega, ?_⟩
      show n2.toInt = _ ∧ n3.toInt = _ ∧ n4.toInt = _ ∧ n5.toInt = _
      rw [← e2, ← e3, ← e4, ← e5]
      rcases hJ with ⟨hn, hw, h0⟩ | ⟨hy, hw, h0⟩
      · rw [gst_N hn, if_pos (by omega)]
        try dsimp only
        exact ⟨by omega, hw, by omega, hw⟩
      · omega
    · subst eG
      refine ⟨j1, k + 1, by omega, by show n1.toInt = _; rw [← ex]; omega, ?_⟩
      show n2.toInt = _ ∧ n3.toInt = _ ∧ n4.toInt = _ ∧ n5.toInt = _
      rw [← e2, ← e3, ← e4, ← e5]
      rcases hJ with ⟨hn, hw, h0⟩ | ⟨hy, hw, h0⟩
      · rw [gst_N hn, if_neg (by omega)]
        try dsimp only
        exact ⟨by omega, hw, i4, i5⟩
      · rw [gst_L hy]
        try dsimp only
        exact ⟨by omega, hw, i4, i5⟩)
  obtain ⟨hSm, k, i0, i1, i2, i3, i4, i5⟩ := hI
  simp only at hSm i1 i2 i3 i4 i5
  have t40 : y40.toInt = (stl V s : Int) := by rw [e40]; exact hlen hSm
  have hk : k = stl V s := by clear hh; omega
  subst hk
  rcases hh with ⟨f, rfl, -⟩ | ⟨f, ⟨g, rfl, -⟩ | ⟨g, rfl, -⟩⟩
  · rw [if_pos f]
    exact i5
  · rw [if_neg f, if_pos g]
    exact i4
  · rw [if_neg f, if_neg g]
    exact i2
/-- all that both hold alike -/
def IV_1 (V : PV) (G : GS) : Prop := CW_1 V G ∧ RV V G ∧ PVok V ∧ CaC_1 V G ∧ ER V G ∧ SV V G
theorem IV_1.ca {V : PV} {rs : List Nat} {fs : List (Nat × Nat)} {G G1 : GS} (h : IV_1 V G) (hF : Fr rs fs G G1) (hCa : CaC_1 V G1) (h1 : (∀ i ∈ [10, 11, 12, 13, 14, 15, 16, 17, 18], i ∉ rs ∧ ∀ x ∈ fs, x.1 ≠ i) ∧ (∀ i ∈ [72, 73, 74, 87, 88, 89, 90, 91, 92, 93, 94, 95, 96], i ∉ rs ∧ ∀ x ∈ fs, x.1 ≠ i) ∧ (∀ i ∈ [58, 59, 60, 110, 111, 117, 118], i ∉ rs ∧ ∀ x ∈ fs, x.1 ≠ i) ∧ ∀ i ∈ [61, 62, 63, 64, 65, 112, 113, 114, 115, 116], i ∉ rs ∧ ∀ x ∈ fs, x.1 ≠ i) (h2 : (∀ y ∈ [(1, 9), (1, 10), (1, 11), (1, 12), (1, 13), (1, 14), (1, 15), (1, 16)], y.1 ∉ rs ∧ y ∉ fs) ∧ (∀ y ∈ [(66, 22), (66, 52), (66, 53), (66, 54), (66, 55), (66, 56)], y.1 ∉ rs ∧ y ∉ fs) ∧ (∀ y ∈ [(30, 3), (30, 4), (30, 5), (66, 78), (66, 79)], y.1 ∉ rs ∧ y ∉ fs) ∧ ∀ y ∈ [(31, 5), (66, 85)], y.1 ∉ rs ∧ y ∉ fs) : IV_1 V G1 := by
  obtain ⟨a, b, c, d, e, f⟩ := h
  exact ⟨a.fr hF h1.1 h2.1, b.fr hF h1.2.1 h2.2.1, c, hCa, e.fr hF h1.2.2.1 h2.2.2.1, f.fr hF h1.2.2.2 h2.2.2.2⟩
theorem IV_1.fr {V : PV} {rs : List Nat} {fs : List (Nat × Nat)} {G G1 : GS} (h : IV_1 V G) (hF : Fr rs fs G G1) (h0 : ∀ i ∈ [37, 38], i ∉ rs ∧ ∀ x ∈ fs, x.1 ≠ i) (h1 : (∀ i ∈ [10, 11, 12, 13, 14, 15, 16, 17, 18], i ∉ rs ∧ ∀ x ∈ fs, x.1 ≠ i) ∧ (∀ i ∈ [72, 73, 74, 87, 88, 89, 90, 91, 92, 93, 94, 95, 96], i ∉ rs ∧ ∀ x ∈ fs, x.1 ≠ i) ∧ (∀ i ∈ [58, 59, 60, 110, 111, 117, 118], i ∉ rs ∧ ∀ x ∈ fs, x.1 ≠ i) ∧ ∀ i ∈ [61, 62, 63, 64, 65, 112, 113, 114, 115, 116], i ∉ rs ∧ ∀ x ∈ fs, x.1 ≠ i) (h2 : (∀ y ∈ [(1, 9), (1, 10), (1, 11), (1, 12), (1, 13), (1, 14), (1, 15), (1, 16)], y.1 ∉ rs ∧ y ∉ fs) ∧ (∀ y ∈ [(66, 22), (66, 52), (66, 53), (66, 54), (66, 55), (66, 56)], y.1 ∉ rs ∧ y ∉ fs) ∧ (∀ y ∈ [(30, 3), (30, 4), (30, 5), (66, 78), (66, 79)], y.1 ∉ rs ∧ y ∉ fs) ∧ ∀ y ∈ [(31, 5), (66, 85)], y.1 ∉ rs ∧ y ∉ fs) : IV_1 V G1 := h.ca hF (h.2.2.2.1.fr (hF.rows h0 (i := 37) (by decide)) (hF.rows h0 (i := 38) (by decide))) h1 h2
theorem CW_1.len {V : PV} {G : GS} {p : Int32} (h : CW_1 V G) (hp : inS V p) : (G.1 10 p.toNatClampNeg).toInt = (stl V p.toInt.toNat : Int) := (h.1.2 p.toInt.toNat hp.n.1).1.1
theorem k_hasStreetV_1 {V : PV} {p0 r : Int32} {G G1 : GS} (h : P_hasStreet_1 p0 G r G1) (hW : CW_1 V G) : G = G1 ∧ (r.toInt ≠ 0 ↔ inS V p0) := by
  obtain ⟨e, k⟩ := k_hasStreet_1_eq h
  rw [hW.1.1] at k
  exact ⟨e, k⟩
theorem k_hasWalkerV_1 {V : PV} {p0 r : Int32} {G G1 : GS} (h : P_hasWalker_1 p0 G r G1) (hW : CW_1 V G) : G = G1 ∧ (r.toInt ≠ 0 ↔ inW V p0) := by
  obtain ⟨e, k⟩ := k_hasWalker_1_eq h
  rw [hW.2.1.1] at k
  exact ⟨e, k⟩
theorem k_hasInchV_1 {V : PV} {p0 p1 r : Int32} {G G1 : GS} (h : P_hasInch_1 p0 p1 G r G1) (hW : CW_1 V G) : G = G1 ∧ (r.toInt ≠ 0 ↔ (inS V p0 ∧ inX V p0 p1)) := by
  obtain ⟨e, k⟩ := k_hasInch_1_eq h
  rw [hW.1.1] at k
  refine ⟨e, k.trans ⟨fun q => ⟨q.1, q.2.1, ?_⟩, fun q => ⟨q.1, q.2.1, ?_⟩⟩⟩
  · have := hW.len (p := p0) q.1
    rw [← this]
    exact q.2.2
  · have := hW.len (p := p0) q.1
    rw [this]
    exact q.2.2
theorem k_hasSetV_1 {V : PV} {p0 r : Int32} {G G1 : GS} (h : P_hasSet_1 p0 G r G1) (hW : CW_1 V G) (h6 : V.2.2.1.length ≤ 6) : G = G1 ∧ (r.toInt ≠ 0 ↔ inR V p0) := by
  obtain ⟨-, hF, -, -, hh⟩ := h
  have z : (0 : Int32).toInt = 0 := rfl
  have o : (1 : Int32).toInt = 1 := rfl
  refine ⟨hF.nil, ?_⟩
  unfold inR
  rcases hh with ⟨c, rfl, -⟩ | ⟨c, y3, e3, hh⟩
  · exact ⟨fun q => absurd z q, fun q => absurd q.1 (by omega)⟩
  have t3 : y3.toInt = ((2 ^ V.2.2.1.length : Nat) : Int) := by
    rw [e3]
    exact sh_n hW.2.2.1.1 h6
  rw [← t3]
  rcases hh with ⟨d, rfl, -⟩ | ⟨d, rfl, -⟩
  · exact ⟨fun q => absurd z q, fun q => absurd q.2 (by omega)⟩
  · exact ⟨fun _ => ⟨c, d⟩, fun _ => by rw [o]; decide⟩
theorem k_wAsk_1_eq {V : PV} {p0 p1 p2 r : Int32} {G G1 : GS} (h : P_wAsk_1 p0 p1 p2 G r G1) (hW : CW_1 V G) (h6 : V.2.2.1.length ≤ 6) : G = G1 ∧ (r.toInt ≠ 0 ↔ (inW V p0 ∧ inS V p1 ∧ inR V p2)) := by
  obtain ⟨-, hF, -, -, r1, G2, hw, hh⟩ := h
  have z : (0 : Int32).toInt = 0 := rfl
  have o : (1 : Int32).toInt = 1 := rfl
  refine ⟨hF.nil, ?_⟩
  obtain ⟨rfl, k1⟩ := k_hasWalkerV_1 hw hW
  rcases hh with ⟨c, rfl, -⟩ | ⟨c, r10, G11, hs, hh⟩
  · exact ⟨fun q => absurd z q, fun q => absurd c (k1.mpr q.1)⟩
  obtain ⟨rfl, k2⟩ := k_hasStreetV_1 hs hW
  rcases hh with ⟨c2, rfl, -⟩ | ⟨c2, r17, G18, hr, hh⟩
  · exact ⟨fun q => absurd z q, fun q => absurd c2 (k2.mpr q.2.1)⟩
  obtain ⟨rfl, k3⟩ := k_hasSetV_1 hr hW h6
  rcases hh with ⟨c3, rfl, -⟩ | ⟨c3, rfl, -⟩
  · exact ⟨fun q => absurd z q, fun q => absurd c3 (k3.mpr q.2.2)⟩
  · exact ⟨fun _ => ⟨k1.mp c, k2.mp c2, k3.mp c3⟩, fun _ => by rw [o]; decide⟩
theorem line_1 {V : PV} {p0 p1 p2 q0 q1 q2 r r' : Int32} {G Ga Gb : GS} (hx : P_Wline_1 p0 p1 p2 G r Ga) (hm : Q_line q0 q1 q2 Ga r' Gb) (i0 : p0.toInt = q0.toInt) (i1 : p1.toInt = q1.toInt) (i2 : p2.toInt = q2.toInt) (hI : IV_1 V G) : r.toInt = r'.toInt ∧ IV_1 V Gb := by
  obtain rfl := Int32.toInt_inj.mp i0
  obtain rfl := Int32.toInt_inj.mp i1
  obtain rfl := Int32.toInt_inj.mp i2
  have hFx := hx.2.1
  have hFm := hm.2.1
  have m1 : (-1 : Int32).toInt = -1 := rfl
  have z0 : (0 : Int32).toInt = 0 := rfl
  have o1 : (1 : Int32).toInt = 1 := rfl
  have hII := hI
  obtain ⟨hW, hR, hV, hCa, hE, hSV⟩ := hI
  have hd := hE.day
  -- the program
  have hC : (¬ (inS V p0 ∧ inR V p1 ∧ inX V p0 p2) ∧ r.toInt = -1 ∧ CaC_1 V Ga) ∨ ((inS V p0 ∧ inR V p1 ∧ inX V p0 p2) ∧ (r.toInt = 0 ∨ r.toInt = 1) ∧ (r.toInt ≠ 0 ↔ LNx V (G.1 58 6) p0.toInt.toNat p1.toInt.toNat p2.toInt.toNat) ∧ CaC_1 V Ga) := by
    obtain ⟨-, -, r1, G2, hin, hh⟩ := hx
    obtain ⟨rfl, k1⟩ := k_hasInchV_1 hin hW
    rcases hh with ⟨c, rfl, rfl⟩ | ⟨c, r8, G9, hset, hh⟩
    · exact Or.inl ⟨fun q => absurd c (k1.mpr ⟨q.1, q.2.2⟩), m1, hCa⟩
    obtain ⟨rfl, k2⟩ := k_hasSetV_1 hset hW hV.1
    rcases hh with ⟨c2, rfl, rfl⟩ | ⟨c2, r15, G16, htd, G21, hfi, r25, G26, hil, hh⟩
    · exact Or.inl ⟨fun q => absurd c2 (k2.mpr q.2.1), m1, hCa⟩
    obtain ⟨rfl, e15⟩ := k_today_eq htd
    have hS := (k1.mp c).1
    have hX := (k1.mp c).2
    have hRr := k2.mp c2
    obtain ⟨hsl, hsn⟩ := hS.n
    obtain ⟨ht64, htn⟩ := hRr.lt hV.1
    obtain ⟨hFo, hCa2⟩ := k_find_1 hfi hsn hsl hR.1.2.1 hW hV (by rw [e15]; exact hd.1.1) hCa
    rw [e15] at hFo
    have hxn : p2.toInt = (p2.toInt.toNat : Int) := by have := hX.1; omega
    have hxl : p2.toInt.toNat < stl V p0.toInt.toNat := by have := hX.1; have := hX.2; omega
    obtain ⟨rfl, kl⟩ := k_isLine_1 hil hsn hsl hxn htn ht64 (hW.fr hfi.2.1 (by decide) (by decide)) hV hFo
    have kl' : r25.toInt ≠ 0 ↔ LNx V (G.1 58 6) p0.toInt.toNat p1.toInt.toNat p2.toInt.toNat := kl.trans ⟨fun q => q.2, fun q => ⟨hxl, q⟩⟩
    rcases hh with ⟨f, rfl, rfl⟩ | ⟨f, rfl, rfl⟩
    · exact Or.inr ⟨⟨hS, hRr, hX⟩, Or.inl z0, ⟨fun q => absurd z0 q, fun q => absurd f (kl'.mpr q)⟩, hCa2⟩
    · exact Or.inr ⟨⟨hS, hRr, hX⟩, Or.inr o1, ⟨fun _ => kl'.mp f, fun _ => by rw [o1]; decide⟩, hCa2⟩
  -- the reference
  have hRa : RV V Ga := hR.fr hFx (by decide) (by decide)
  have a110 : Ga.1 110 6 = G.1 58 6 := by rw [hFx.row1 110 (by decide) (by decide), hd.2]
  have hM : (¬ (inS V p0 ∧ inR V p1 ∧ inX V p0 p2) ∧ r'.toInt = -1) ∨ ((inS V p0 ∧ inR V p1 ∧ inX V p0 p2) ∧ (r'.toInt = 0 ∨ r'.toInt = 1) ∧ (r'.toInt ≠ 0 ↔ LNx V (G.1 58 6) p0.toInt.toNat p1.toInt.toNat p2.toInt.toNat)) := by
    obtain ⟨-, -, r1, G2, hs, hh⟩ := hm
    obtain ⟨rfl, k1⟩ := q_isStreetV hs hRa
    rcases hh with ⟨c, rfl, -⟩ | ⟨c, r8, G9, hr, hh⟩
    · exact Or.inl ⟨fun q => absurd c (k1.mpr q.1), m1⟩
    have hS := k1.mp c
    obtain ⟨rfl, k2⟩ := q_areRules_eq hr hRa
    rcases hh with ⟨c2, rfl, -⟩ | ⟨c2, r15, G16, hi, hh⟩
    · exact Or.inl ⟨fun q => absurd c2 (k2.mpr q.2.1), m1⟩
    obtain ⟨rfl, k3⟩ := q_isInchV hi hRa hS
    rcases hh with ⟨c3, rfl, -⟩ | ⟨c3, r23, G24, hil, r29, G30, htr, rfl, -⟩
    · exact Or.inl ⟨fun q => absurd c3 (k3.mpr q.2.2), m1⟩
    have hRr := k2.mp c2
    have hX := k3.mp c3
    obtain ⟨hsl, hsn⟩ := hS.n
    obtain ⟨ht64, htn⟩ := hRr.lt hV.1
    have hxn : p2.toInt = (p2.toInt.toNat : Int) := by have := hX.1; omega
    have hxl : p2.toInt.toNat < stl V p0.toInt.toNat := by have := hX.1; have := hX.2; omega
    obtain ⟨j1, j2, j3, j4⟩ := q_isLineS hil SmL.rf hsn hsl hxn hxl htn ht64 hRa hV (hW.ok hsl _ hxl)
    rw [a110] at j4
    rw [← (q_truth htr).2] at j3 j4
    exact Or.inr ⟨⟨hS, hRr, hX⟩, by clear j4; omega, j4⟩
  have hCaa : CaC_1 V Ga := by
    rcases hC with q | q
    · exact q.2.2
    · exact q.2.2.2
  refine ⟨?_, (hII.ca hFx hCaa (by decide) (by decide)).fr hFm (by decide) (by decide) (by decide)⟩
  rcases hC with ⟨n1, v1, -⟩ | ⟨y1, v1, w1, -⟩
  · rcases hM with ⟨n2, v2⟩ | ⟨y2, -⟩
    · rw [v1, v2]
    · exact absurd y2 n1
  · rcases hM with ⟨n2, -⟩ | ⟨y2, v2, w2⟩
    · exact absurd y1 n2
    · have w3 := w1.trans w2.symm
      clear w1 w2
      rcases v1 with e1 | e1 <;> rcases v2 with e2 | e2
      · omega
      · exact absurd e1 (w3.mpr (by omega))
      · exact absurd e2 (w3.mp (by omega))
      · omega
theorem gap_1 {V : PV} {p0 p1 p2 q0 q1 q2 r r' : Int32} {G Ga Gb : GS} (hx : P_Wgap_1 p0 p1 p2 G r Ga) (hm : Q_gap q0 q1 q2 Ga r' Gb) (i0 : p0.toInt = q0.toInt) (i1 : p1.toInt = q1.toInt) (i2 : p2.toInt = q2.toInt) (hI : IV_1 V G) : r.toInt = r'.toInt ∧ IV_1 V Gb := by
  obtain rfl := Int32.toInt_inj.mp i0
  obtain rfl := Int32.toInt_inj.mp i1
  obtain rfl := Int32.toInt_inj.mp i2
  have hFx := hx.2.1
  have hFm := hm.2.1
  have m1 : (-1 : Int32).toInt = -1 := rfl
  have z0 : (0 : Int32).toInt = 0 := rfl
  have o1 : (1 : Int32).toInt = 1 := rfl
  have hII := hI
  obtain ⟨hW, hR, hV, hCa, hE, hSV⟩ := hI
  have hd := hE.day
  have hRa : RV V Ga := hR.fr hFx (by decide) (by decide)
  have a110 : Ga.1 110 6 = G.1 58 6 := by rw [hFx.row1 110 (by decide) (by decide), hd.2]
  have hM := q_gap_eq hm hRa hV (fun s i hs hi => hW.ok hs i hi)
  rw [a110] at hM
  have hC : (¬ (inS V p0 ∧ inR V p1) ∧ r.toInt = -1 ∧ CaC_1 V Ga) ∨ ((inS V p0 ∧ inR V p1) ∧ r.toInt = (if p2.toInt = 0 then (gst (LNx V (G.1 58 6) p0.toInt.toNat p1.toInt.toNat) (stl V p0.toInt.toNat)).2.2.2 else if p2.toInt = 1 then (gst (LNx V (G.1 58 6) p0.toInt.toNat p1.toInt.toNat) (stl V p0.toInt.toNat)).2.2.1 else if p2.toInt = 2 then (gst (LNx V (G.1 58 6) p0.toInt.toNat p1.toInt.toNat) (stl V p0.toInt.toNat)).2.1 else -1) ∧ CaC_1 V Ga) := by
    clear hM hm
    obtain ⟨-, -, r1, G2, hst, hh⟩ := hx
    obtain ⟨rfl, k1⟩ := k_hasStreetV_1 hst hW
    rcases hh with ⟨c, rfl, rfl⟩ | ⟨c, r8, G9, hset, hh⟩
    · exact Or.inl ⟨fun q => absurd c (k1.mpr q.1), m1, hCa⟩
    obtain ⟨rfl, k2⟩ := k_hasSetV_1 hset hW hV.1
    rcases hh with ⟨c2, rfl, rfl⟩ | ⟨c2, r15, G16, htd, G21, hfi, x29, x30, x31, x32, x33, G25, hl, -, -, -, -, hF25, y41, e41, c41, hh⟩
    · exact Or.inl ⟨fun q => absurd c2 (k2.mpr q.2), m1, hCa⟩
    obtain ⟨rfl, e15⟩ := k_today_eq htd
    have hS := k1.mp c
    have hRr := k2.mp c2
    clear k1 k2 c c2
    obtain ⟨hsl, hsn⟩ := hS.n
    obtain ⟨ht64, htn⟩ := hRr.lt hV.1
    obtain ⟨hFo, hCa2⟩ := k_find_1 hfi hsn hsl hR.1.2.1 hW hV (by rw [e15]; exact hd.1.1) hCa
    rw [e15] at hFo
    have hW2 : CW_1 V G21 := hW.fr hfi.2.1 (by decide) (by decide)
    have hlen := hW2.len hS
    have hl4 : (stl V p0.toInt.toNat : Int) ≤ 400 := (hW.1.2 p0.toInt.toNat hsl).2
    have e25 := hF25.nil
    subst e25
    obtain ⟨s, es⟩ : ∃ s, s = p0.toInt.toNat := ⟨_, rfl⟩
    obtain ⟨t, et⟩ : ∃ t, t = p1.toInt.toNat := ⟨_, rfl⟩
    rw [← es] at hsl hsn hFo hlen hl4 ⊢
    rw [← et] at ht64 htn ⊢
    obtain ⟨L, hL⟩ : ∃ L, L = LNx V (G.1 58 6) s t := ⟨_, rfl⟩
    rw [← hL]
    have hI := hl (fun q => q.2.2.2.2.2 = G21 ∧ ∃ k : Nat, k ≤ stl V s ∧ q.1.toInt = (k : Int) ∧ q.2.1.toInt = (gst L k).1 ∧ q.2.2.1.toInt = (gst L k).2.1 ∧ q.2.2.2.1.toInt = (gst L k).2.2.1 ∧ q.2.2.2.2.1.toInt = (gst L k).2.2.2) ⟨rfl, 0, Nat.zero_le _, rfl, rfl, rfl, rfl, rfl⟩ (by
      rintro ⟨a1, a2, a3, a4, a5, b0⟩ ⟨n1, n2, n3, n4, n5, bn⟩ ⟨hb, k, i0, i1, i2, i3, i4, i5⟩ ⟨x1, x2, x3, x4, x5, g, u1, u2, u3, u4, u5, gn, q1, q2, -, -, -, -, y41', e41', c41', r46, G47, hil, w61, G63, hj, -, -, hF63, y68, e68, hd'⟩
      simp only [Prod.mk.injEq] at q1 q2
      obtain ⟨rfl, rfl, rfl, rfl, rfl, rfl⟩ := q1
      obtain ⟨rfl, rfl, rfl, rfl, rfl, rfl⟩ := q2
      simp only at hb i1 i2 i3 i4 i5
      subst hb
      have t41 : y41'.toInt = (stl V s : Int) := by rw [e41']; exact hlen
      have hk : k < stl V s := by omega
      obtain ⟨rfl, kl⟩ := k_isLine_1 hil hsn hsl i1 htn ht64 hW2 hV hFo
      have e63 := hF63.nil
      subst e63
      obtain ⟨g1, g2, g3, g4, g5⟩ := gst_r L k
      have hLk : r46.toInt ≠ 0 ↔ L k := by rw [hL]; exact kl.trans ⟨fun q => q.2, fun q => ⟨hk, q⟩⟩
      clear kl
      have hw : w61.toInt = (if r46.toInt = 0 then 0 else 1) := by
        rcases hj with ⟨f, ew, -⟩ | ⟨f, ew, -⟩
        · rw [if_pos f, ← ew]
          rfl
        · rw [if_neg f, ← ew]
          rfl
      rcases hd' with ⟨f, y70, e70, hd'⟩ | ⟨f, y79, t79, ex, e2, e3, e4, e5, eG⟩
      · have hn : ¬ L k := fun q => (hLk.mpr q) f
        clear hLk
        rw [if_pos f] at hw
        have t68 : y68.toInt = (gst L k).2.1 := by
          have := tI_add e68 (by omega) (by omega)
          omega
        have t70 : y70.toInt = (gst L k).1 + 1 := by
          have := tI_add e70 (by rw [o1]; omega) (by rw [o1]; omega)
          rw [o1] at this
          omega
        rcases hd' with ⟨f2, y72, t72, ex, e2, e3, e4, e5, eG⟩ | ⟨f2, y73, t73, y75, t75, y77, t77, ex, e2, e3, e4, e5, eG⟩
        · refine ⟨eG.symm, k + 1, by omega, by show n1.toInt = _; rw [← ex]; omega, ?_⟩
          show n2.toInt = _ ∧ n3.toInt = _ ∧ n4.toInt = _ ∧ n5.toInt = _
          rw [← e2, ← e3, ← e4, ← e5, gst_N hn, if_neg (by omega)]
          try dsimp only
          exact ⟨t70, t68, i4, i5⟩
        · refine ⟨eG.symm, k + 1, by omega, by show n1.toInt = _; rw [← ex]; omega, ?_⟩
          show n2.toInt = _ ∧ n3.toInt = _ ∧ n4.toInt = _ ∧ n5.toInt = _
          rw [← e2, ← e3, ← e4, ← e5, gst_N hn, if_pos (by omega)]
          try dsimp only
          exact ⟨t70, t68, by show y75.toInt = (k : Int) - ((gst L k).1 + 1) + 1; omega, t70⟩
      · have hy : L k := hLk.mp f
        clear hLk
        rw [if_neg f] at hw
        have t68 : y68.toInt = (gst L k).2.1 + 1 := by
          have := tI_add e68 (by omega) (by omega)
          omega
        refine ⟨eG.symm, k + 1, by omega, by show n1.toInt = _; rw [← ex]; omega, ?_⟩
        show n2.toInt = _ ∧ n3.toInt = _ ∧ n4.toInt = _ ∧ n5.toInt = _
        rw [← e2, ← e3, ← e4, ← e5, gst_L hy]
        try dsimp only
        exact ⟨rfl, t68, i4, i5⟩)
    obtain ⟨-, k, i0, i1, i2, i3, i4, i5⟩ := hI
    simp only at i1 i2 i3 i4 i5
    have t41 : y41.toInt = (stl V s : Int) := by rw [e41]; exact hlen
    have hk : k = stl V s := by clear hh; omega
    subst hk
    rcases hh with ⟨f, rfl, rfl⟩ | ⟨f, ⟨g, rfl, rfl⟩ | ⟨g, ⟨j, rfl, rfl⟩ | ⟨j, rfl, rfl⟩⟩⟩
    · rw [if_pos f]
      exact Or.inr ⟨⟨hS, hRr⟩, i5, hCa2⟩
    · rw [if_neg f, if_pos g]
      exact Or.inr ⟨⟨hS, hRr⟩, i4, hCa2⟩
    · rw [if_neg f, if_neg g, if_pos j]
      exact Or.inr ⟨⟨hS, hRr⟩, i3, hCa2⟩
    · rw [if_neg f, if_neg g, if_neg j]
      exact Or.inr ⟨⟨hS, hRr⟩, m1, hCa2⟩
  have hCaa : CaC_1 V Ga := by
    rcases hC with q | q
    · exact q.2.2
    · exact q.2.2
  refine ⟨?_, (hII.ca hFx hCaa (by decide) (by decide)).fr hFm (by decide) (by decide) (by decide)⟩
  rcases hC with ⟨n1, v1, -⟩ | ⟨y1, v1, -⟩
  · rcases hM with ⟨n2, v2⟩ | ⟨y2, -⟩
    · rw [v1, v2]
    · exact absurd ⟨y2.1, y2.2.1⟩ n1
  · rcases hM with ⟨n2, v2⟩ | ⟨y2, v2⟩
    · rw [v1, v2]
      by_cases h0 : p2.toInt = 0
      · exact absurd ⟨y1.1, y1.2, by omega, by omega⟩ n2
      · rw [if_neg h0]
        by_cases h1 : p2.toInt = 1
        · exact absurd ⟨y1.1, y1.2, by omega, by omega⟩ n2
        · rw [if_neg h1]
          by_cases h2 : p2.toInt = 2
          · exact absurd ⟨y1.1, y1.2, by omega, by omega⟩ n2
          · rw [if_neg h2]
    · rw [v1, v2]
      by_cases h0 : p2.toInt = 0
      · rw [if_pos h0, if_pos h0]
      · rw [if_neg h0, if_neg h0]
        by_cases h1 : p2.toInt = 1
        · rw [if_pos h1, if_pos h1]
        · have h2 : p2.toInt = 2 := by have := y2.2.2; omega
          rw [if_neg h1, if_neg h1, if_pos h2]
theorem foot_1 {V : PV} {p0 p1 p2 p3 q0 q1 q2 q3 r r' : Int32} {G Ga Gb : GS} (hx : P_Wfoot_1 p0 p1 p2 p3 G r Ga) (hm : Q_foot q0 q1 q2 q3 Ga r' Gb) (i0 : p0.toInt = q0.toInt) (i1 : p1.toInt = q1.toInt) (i2 : p2.toInt = q2.toInt) (i3 : p3.toInt = q3.toInt) (hI : IV_1 V G) : r.toInt = r'.toInt ∧ IV_1 V Gb := by
  obtain rfl := Int32.toInt_inj.mp i0
  obtain rfl := Int32.toInt_inj.mp i1
  obtain rfl := Int32.toInt_inj.mp i2
  obtain rfl := Int32.toInt_inj.mp i3
  have hFx := hx.2.1
  have hFm := hm.2.1
  have m1 : (-1 : Int32).toInt = -1 := rfl
  have z0 : (0 : Int32).toInt = 0 := rfl
  have o1 : (1 : Int32).toInt = 1 := rfl
  have hII := hI
  obtain ⟨hW, hR, hV, hCa, hE, hSV⟩ := hI
  have hd := hE.day
  have hC : (¬ ((inW V p0 ∧ inS V p1 ∧ inR V p2) ∧ inX V p1 p3) ∧ r.toInt = -1 ∧ CaC_1 V Ga) ∨ (((inW V p0 ∧ inS V p1 ∧ inR V p2) ∧ inX V p1 p3) ∧ (r.toInt = 0 ∨ r.toInt = 1) ∧ (r.toInt ≠ 0 ↔ LWF V (G.1 58 6) p0.toInt.toNat p1.toInt.toNat p2.toInt.toNat p3.toInt) ∧ CaC_1 V Ga) := by
    obtain ⟨-, -, r1, G2, hask, hh⟩ := hx
    obtain ⟨rfl, k1⟩ := k_wAsk_1_eq hask hW hV.1
    rcases hh with ⟨c, rfl, rfl⟩ | ⟨c, r8, G9, hin, hh⟩
    · exact Or.inl ⟨fun q => absurd c (k1.mpr q.1), m1, hCa⟩
    have hA := k1.mp c
    obtain ⟨rfl, k2⟩ := k_hasInchV_1 hin hW
    rcases hh with ⟨c2, rfl, rfl⟩ | ⟨c2, r15, G16, htd, G21, hfi, r25, G26, hil, hh⟩
    · exact Or.inl ⟨fun q => absurd c2 (k2.mpr ⟨q.1.2.1, q.2⟩), m1, hCa⟩
    obtain ⟨rfl, e15⟩ := k_today_eq htd
    have hX := (k2.mp c2).2
    obtain ⟨hwl, hwn⟩ := hA.1.n
    obtain ⟨hsl, hsn⟩ := hA.2.1.n
    obtain ⟨ht64, htn⟩ := hA.2.2.lt hV.1
    obtain ⟨hFo, hCa2⟩ := k_find_1 hfi hsn hsl hR.1.2.1 hW hV (by rw [e15]; exact hd.1.1) hCa
    rw [e15] at hFo
    obtain ⟨rfl, kl⟩ := k_isLawful_1 hil hwn hwl hsn hsl htn ht64 (hW.fr hfi.2.1 (by decide) (by decide)) hV hFo
    rcases hh with ⟨f, rfl, rfl⟩ | ⟨f, rfl, rfl⟩
    · exact Or.inr ⟨⟨hA, hX⟩, Or.inl z0, ⟨fun q => absurd z0 q, fun q => absurd f (kl.mpr q)⟩, hCa2⟩
    · exact Or.inr ⟨⟨hA, hX⟩, Or.inr o1, ⟨fun _ => kl.mp f, fun _ => by rw [o1]; decide⟩, hCa2⟩
  have hRa : RV V Ga := hR.fr hFx (by decide) (by decide)
  have a110 : Ga.1 110 6 = G.1 58 6 := by rw [hFx.row1 110 (by decide) (by decide), hd.2]
  have hM : (¬ ((inW V p0 ∧ inS V p1 ∧ inR V p2) ∧ inX V p1 p3) ∧ r'.toInt = -1) ∨ (((inW V p0 ∧ inS V p1 ∧ inR V p2) ∧ inX V p1 p3) ∧ (r'.toInt = 0 ∨ r'.toInt = 1) ∧ (r'.toInt ≠ 0 ↔ LWF V (G.1 58 6) p0.toInt.toNat p1.toInt.toNat p2.toInt.toNat p3.toInt)) := by
    obtain ⟨-, -, r1, G2, hask, hh⟩ := hm
    obtain ⟨rfl, k1⟩ := q_isAsked_eq hask hRa
    rcases hh with ⟨c, rfl, -⟩ | ⟨c, r8, G9, hin, hh⟩
    · exact Or.inl ⟨fun q => absurd c (k1.mpr q.1), m1⟩
    have hA := k1.mp c
    obtain ⟨rfl, k2⟩ := q_isInchV hin hRa hA.2.1
    rcases hh with ⟨c2, rfl, -⟩ | ⟨c2, G17, hlay, y21, e21, r22, G23, htr, rfl, -⟩
    · exact Or.inl ⟨fun q => absurd c2 (k2.mpr q.2), m1⟩
    have hX := k2.mp c2
    obtain ⟨hwl, hwn⟩ := hA.1.n
    obtain ⟨hsl, hsn⟩ := hA.2.1.n
    obtain ⟨ht64, htn⟩ := hA.2.2.lt hV.1
    obtain ⟨-, hlw⟩ := m_lay hlay hwn hwl hsn hsl htn ht64 hRa hV (hW.ok hsl)
    have hl4 : (stl V p1.toInt.toNat : Int) ≤ 400 := (hW.1.2 p1.toInt.toNat hsl).2
    have hxn : p3.toInt = (p3.toInt.toNat : Int) := by have := hX.1; omega
    obtain ⟨v1, v2⟩ := hlw p3.toInt.toNat (by have := hX.1; have := hX.2; omega)
    rw [a110, ← hxn] at v2
    have e : y21 = G17.1 98 p3.toInt.toNat := e21
    rw [← e, ← (q_truth htr).2] at v1 v2
    exact Or.inr ⟨⟨hA, hX⟩, v1, v2⟩
  have hCaa : CaC_1 V Ga := by
    rcases hC with q | q
    · exact q.2.2
    · exact q.2.2.2
  refine ⟨?_, (hII.ca hFx hCaa (by decide) (by decide)).fr hFm (by decide) (by decide) (by decide)⟩
  rcases hC with ⟨n1, v1, -⟩ | ⟨y1, v1, w1, -⟩
  · rcases hM with ⟨n2, v2⟩ | ⟨y2, -⟩
    · rw [v1, v2]
    · exact absurd y2 n1
  · rcases hM with ⟨n2, -⟩ | ⟨y2, v2, w2⟩
    · exact absurd y1 n2
    · have w3 := w1.trans w2.symm
      clear w1 w2
      rcases v1 with e1 | e1 <;> rcases v2 with e2 | e2
      · omega
      · exact absurd e1 (w3.mpr (by omega))
      · exact absurd e2 (w3.mp (by omega))
      · omega
/-- all that both hold alike -/
def IV_2 (V : PV) (G : GS) : Prop := CW_2 V G ∧ RV V G ∧ PVok V ∧ CaC_2 V G ∧ ER V G ∧ SV V G
theorem IV_2.ca {V : PV} {rs : List Nat} {fs : List (Nat × Nat)} {G G1 : GS} (h : IV_2 V G) (hF : Fr rs fs G G1) (hCa : CaC_2 V G1) (h1 : (∀ i ∈ [20, 21, 22, 23, 24, 25, 26, 27, 28], i ∉ rs ∧ ∀ x ∈ fs, x.1 ≠ i) ∧ (∀ i ∈ [72, 73, 74, 87, 88, 89, 90, 91, 92, 93, 94, 95, 96], i ∉ rs ∧ ∀ x ∈ fs, x.1 ≠ i) ∧ (∀ i ∈ [58, 59, 60, 110, 111, 117, 118], i ∉ rs ∧ ∀ x ∈ fs, x.1 ≠ i) ∧ ∀ i ∈ [61, 62, 63, 64, 65, 112, 113, 114, 115, 116], i ∉ rs ∧ ∀ x ∈ fs, x.1 ≠ i) (h2 : (∀ y ∈ [(2, 9), (2, 10), (2, 11), (2, 12), (2, 13), (2, 14), (2, 15), (2, 16)], y.1 ∉ rs ∧ y ∉ fs) ∧ (∀ y ∈ [(66, 22), (66, 52), (66, 53), (66, 54), (66, 55), (66, 56)], y.1 ∉ rs ∧ y ∉ fs) ∧ (∀ y ∈ [(30, 3), (30, 4), (30, 5), (66, 78), (66, 79)], y.1 ∉ rs ∧ y ∉ fs) ∧ ∀ y ∈ [(31, 5), (66, 85)], y.1 ∉ rs ∧ y ∉ fs) : IV_2 V G1 := by
  obtain ⟨a, b, c, d, e, f⟩ := h
  exact ⟨a.fr hF h1.1 h2.1, b.fr hF h1.2.1 h2.2.1, c, hCa, e.fr hF h1.2.2.1 h2.2.2.1, f.fr hF h1.2.2.2 h2.2.2.2⟩
theorem IV_2.fr {V : PV} {rs : List Nat} {fs : List (Nat × Nat)} {G G1 : GS} (h : IV_2 V G) (hF : Fr rs fs G G1) (h0 : ∀ i ∈ [37, 38], i ∉ rs ∧ ∀ x ∈ fs, x.1 ≠ i) (h1 : (∀ i ∈ [20, 21, 22, 23, 24, 25, 26, 27, 28], i ∉ rs ∧ ∀ x ∈ fs, x.1 ≠ i) ∧ (∀ i ∈ [72, 73, 74, 87, 88, 89, 90, 91, 92, 93, 94, 95, 96], i ∉ rs ∧ ∀ x ∈ fs, x.1 ≠ i) ∧ (∀ i ∈ [58, 59, 60, 110, 111, 117, 118], i ∉ rs ∧ ∀ x ∈ fs, x.1 ≠ i) ∧ ∀ i ∈ [61, 62, 63, 64, 65, 112, 113, 114, 115, 116], i ∉ rs ∧ ∀ x ∈ fs, x.1 ≠ i) (h2 : (∀ y ∈ [(2, 9), (2, 10), (2, 11), (2, 12), (2, 13), (2, 14), (2, 15), (2, 16)], y.1 ∉ rs ∧ y ∉ fs) ∧ (∀ y ∈ [(66, 22), (66, 52), (66, 53), (66, 54), (66, 55), (66, 56)], y.1 ∉ rs ∧ y ∉ fs) ∧ (∀ y ∈ [(30, 3), (30, 4), (30, 5), (66, 78), (66, 79)], y.1 ∉ rs ∧ y ∉ fs) ∧ ∀ y ∈ [(31, 5), (66, 85)], y.1 ∉ rs ∧ y ∉ fs) : IV_2 V G1 := h.ca hF (h.2.2.2.1.fr (hF.rows h0 (i := 37) (by decide)) (hF.rows h0 (i := 38) (by decide))) h1 h2
theorem CW_2.len {V : PV} {G : GS} {p : Int32} (h : CW_2 V G) (hp : inS V p) : (G.1 20 p.toNatClampNeg).toInt = (stl V p.toInt.toNat : Int) := (h.1.2 p.toInt.toNat hp.n.1).1.1
theorem k_hasStreetV_2 {V : PV} {p0 r : Int32} {G G1 : GS} (h : P_hasStreet_2 p0 G r G1) (hW : CW_2 V G) : G = G1 ∧ (r.toInt ≠ 0 ↔ inS V p0) := by
  obtain ⟨e, k⟩ := k_hasStreet_2_eq h
  rw [hW.1.1] at k
  exact ⟨e, k⟩
theorem k_hasWalkerV_2 {V : PV} {p0 r : Int32} {G G1 : GS} (h : P_hasWalker_2 p0 G r G1) (hW : CW_2 V G) : G = G1 ∧ (r.toInt ≠ 0 ↔ inW V p0) := by
  obtain ⟨e, k⟩ := k_hasWalker_2_eq h
  rw [hW.2.1.1] at k
  exact ⟨e, k⟩
theorem k_hasInchV_2 {V : PV} {p0 p1 r : Int32} {G G1 : GS} (h : P_hasInch_2 p0 p1 G r G1) (hW : CW_2 V G) : G = G1 ∧ (r.toInt ≠ 0 ↔ (inS V p0 ∧ inX V p0 p1)) := by
  obtain ⟨e, k⟩ := k_hasInch_2_eq h
  rw [hW.1.1] at k
  refine ⟨e, k.trans ⟨fun q => ⟨q.1, q.2.1, ?_⟩, fun q => ⟨q.1, q.2.1, ?_⟩⟩⟩
  · have := hW.len (p := p0) q.1
    rw [← this]
    exact q.2.2
  · have := hW.len (p := p0) q.1
    rw [this]
    exact q.2.2
theorem k_hasSetV_2 {V : PV} {p0 r : Int32} {G G1 : GS} (h : P_hasSet_2 p0 G r G1) (hW : CW_2 V G) (h6 : V.2.2.1.length ≤ 6) : G = G1 ∧ (r.toInt ≠ 0 ↔ inR V p0) := by
  obtain ⟨-, hF, -, -, hh⟩ := h
  have z : (0 : Int32).toInt = 0 := rfl
  have o : (1 : Int32).toInt = 1 := rfl
  refine ⟨hF.nil, ?_⟩
  unfold inR
  rcases hh with ⟨c, rfl, -⟩ | ⟨c, y3, e3, hh⟩
  · exact ⟨fun q => absurd z q, fun q => absurd q.1 (by omega)⟩
  have t3 : y3.toInt = ((2 ^ V.2.2.1.length : Nat) : Int) := by
    rw [e3]
    exact sh_n hW.2.2.1.1 h6
  rw [← t3]
  rcases hh with ⟨d, rfl, -⟩ | ⟨d, rfl, -⟩
  · exact ⟨fun q => absurd z q, fun q => absurd q.2 (by omega)⟩
  · exact ⟨fun _ => ⟨c, d⟩, fun _ => by rw [o]; decide⟩
theorem k_wAsk_2_eq {V : PV} {p0 p1 p2 r : Int32} {G G1 : GS} (h : P_wAsk_2 p0 p1 p2 G r G1) (hW : CW_2 V G) (h6 : V.2.2.1.length ≤ 6) : G = G1 ∧ (r.toInt ≠ 0 ↔ (inW V p0 ∧ inS V p1 ∧ inR V p2)) := by
  obtain ⟨-, hF, -, -, r1, G2, hw, hh⟩ := h
  have z : (0 : Int32).toInt = 0 := rfl
  have o : (1 : Int32).toInt = 1 := rfl
  refine ⟨hF.nil, ?_⟩
  obtain ⟨rfl, k1⟩ := k_hasWalkerV_2 hw hW
  rcases hh with ⟨c, rfl, -⟩ | ⟨c, r10, G11, hs, hh⟩
  · exact ⟨fun q => absurd z q, fun q => absurd c (k1.mpr q.1)⟩
  obtain ⟨rfl, k2⟩ := k_hasStreetV_2 hs hW
  rcases hh with ⟨c2, rfl, -⟩ | ⟨c2, r17, G18, hr, hh⟩
  · exact ⟨fun q => absurd z q, fun q => absurd c2 (k2.mpr q.2.1)⟩
  obtain ⟨rfl, k3⟩ := k_hasSetV_2 hr hW h6
  rcases hh with ⟨c3, rfl, -⟩ | ⟨c3, rfl, -⟩
  · exact ⟨fun q => absurd z q, fun q => absurd c3 (k3.mpr q.2.2)⟩
  · exact ⟨fun _ => ⟨k1.mp c, k2.mp c2, k3.mp c3⟩, fun _ => by rw [o]; decide⟩
theorem line_2 {V : PV} {p0 p1 p2 q0 q1 q2 r r' : Int32} {G Ga Gb : GS} (hx : P_Wline_2 p0 p1 p2 G r Ga) (hm : Q_line q0 q1 q2 Ga r' Gb) (i0 : p0.toInt = q0.toInt) (i1 : p1.toInt = q1.toInt) (i2 : p2.toInt = q2.toInt) (hI : IV_2 V G) : r.toInt = r'.toInt ∧ IV_2 V Gb := by
  obtain rfl := Int32.toInt_inj.mp i0
  obtain rfl := Int32.toInt_inj.mp i1
  obtain rfl := Int32.toInt_inj.mp i2
  have hFx := hx.2.1
  have hFm := hm.2.1
  have m1 : (-1 : Int32).toInt = -1 := rfl
  have z0 : (0 : Int32).toInt = 0 := rfl
  have o1 : (1 : Int32).toInt = 1 := rfl
  have hII := hI
  obtain ⟨hW, hR, hV, hCa, hE, hSV⟩ := hI
  have hd := hE.day
  -- the program
  have hC : (¬ (inS V p0 ∧ inR V p1 ∧ inX V p0 p2) ∧ r.toInt = -1 ∧ CaC_2 V Ga) ∨ ((inS V p0 ∧ inR V p1 ∧ inX V p0 p2) ∧ (r.toInt = 0 ∨ r.toInt = 1) ∧ (r.toInt ≠ 0 ↔ LNx V (G.1 58 6) p0.toInt.toNat p1.toInt.toNat p2.toInt.toNat) ∧ CaC_2 V Ga) := by
    obtain ⟨-, -, r1, G2, hin, hh⟩ := hx
    obtain ⟨rfl, k1⟩ := k_hasInchV_2 hin hW
    rcases hh with ⟨c, rfl, rfl⟩ | ⟨c, r8, G9, hset, hh⟩
    · exact Or.inl ⟨fun q => absurd c (k1.mpr ⟨q.1, q.2.2⟩), m1, hCa⟩
    obtain ⟨rfl, k2⟩ := k_hasSetV_2 hset hW hV.1
    rcases hh with ⟨c2, rfl, rfl⟩ | ⟨c2, r15, G16, htd, G21, hfi, r25, G26, hil, hh⟩
    · exact Or.inl ⟨fun q => absurd c2 (k2.mpr q.2.1), m1, hCa⟩
    obtain ⟨rfl, e15⟩ := k_today_eq htd
    have hS := (k1.mp c).1
    have hX := (k1.mp c).2
    have hRr := k2.mp c2
    obtain ⟨hsl, hsn⟩ := hS.n
    obtain ⟨ht64, htn⟩ := hRr.lt hV.1
    obtain ⟨hFo, hCa2⟩ := k_find_2 hfi hsn hsl hR.1.2.1 hW hV (by rw [e15]; exact hd.1.1) hCa
    rw [e15] at hFo
    have hxn : p2.toInt = (p2.toInt.toNat : Int) := by have := hX.1; omega
    have hxl : p2.toInt.toNat < stl V p0.toInt.toNat := by have := hX.1; have := hX.2; omega
    obtain ⟨rfl, kl⟩ := k_isLine_2 hil hsn hsl hxn htn ht64 (hW.fr hfi.2.1 (by decide) (by decide)) hV hFo
    have kl' : r25.toInt ≠ 0 ↔ LNx V (G.1 58 6) p0.toInt.toNat p1.toInt.toNat p2.toInt.toNat := kl.trans ⟨fun q => q.2, fun q => ⟨hxl, q⟩⟩
    rcases hh with ⟨f, rfl, rfl⟩ | ⟨f, rfl, rfl⟩
    · exact Or.inr ⟨⟨hS, hRr, hX⟩, Or.inl z0, ⟨fun q => absurd z0 q, fun q => absurd f (kl'.mpr q)⟩, hCa2⟩
    · exact Or.inr ⟨⟨hS, hRr, hX⟩, Or.inr o1, ⟨fun _ => kl'.mp f, fun _ => by rw [o1]; decide⟩, hCa2⟩
  -- the reference
  have hRa : RV V Ga := hR.fr hFx (by decide) (by decide)
  have a110 : Ga.1 110 6 = G.1 58 6 := by rw [hFx.row1 110 (by decide) (by decide), hd.2]
  have hM : (¬ (inS V p0 ∧ inR V p1 ∧ inX V p0 p2) ∧ r'.toInt = -1) ∨ ((inS V p0 ∧ inR V p1 ∧ inX V p0 p2) ∧ (r'.toInt = 0 ∨ r'.toInt = 1) ∧ (r'.toInt ≠ 0 ↔ LNx V (G.1 58 6) p0.toInt.toNat p1.toInt.toNat p2.toInt.toNat)) := by
    obtain ⟨-, -, r1, G2, hs, hh⟩ := hm
    obtain ⟨rfl, k1⟩ := q_isStreetV hs hRa
    rcases hh with ⟨c, rfl, -⟩ | ⟨c, r8, G9, hr, hh⟩
    · exact Or.inl ⟨fun q => absurd c (k1.mpr q.1), m1⟩
    have hS := k1.mp c
    obtain ⟨rfl, k2⟩ := q_areRules_eq hr hRa
    rcases hh with ⟨c2, rfl, -⟩ | ⟨c2, r15, G16, hi, hh⟩
    · exact Or.inl ⟨fun q => absurd c2 (k2.mpr q.2.1), m1⟩
    obtain ⟨rfl, k3⟩ := q_isInchV hi hRa hS
    rcases hh with ⟨c3, rfl, -⟩ | ⟨c3, r23, G24, hil, r29, G30, htr, rfl, -⟩
    · exact Or.inl ⟨fun q => absurd c3 (k3.mpr q.2.2), m1⟩
    have hRr := k2.mp c2
    have hX := k3.mp c3
    obtain ⟨hsl, hsn⟩ := hS.n
    obtain ⟨ht64, htn⟩ := hRr.lt hV.1
    have hxn : p2.toInt = (p2.toInt.toNat : Int) := by have := hX.1; omega
    have hxl : p2.toInt.toNat < stl V p0.toInt.toNat := by have := hX.1; have := hX.2; omega
    obtain ⟨j1, j2, j3, j4⟩ := q_isLineS hil SmL.rf hsn hsl hxn hxl htn ht64 hRa hV (hW.ok hsl _ hxl)
    rw [a110] at j4
    rw [← (q_truth htr).2] at j3 j4
    exact Or.inr ⟨⟨hS, hRr, hX⟩, by clear j4; omega, j4⟩
  have hCaa : CaC_2 V Ga := by
    rcases hC with q | q
    · exact q.2.2
    · exact q.2.2.2
  refine ⟨?_, (hII.ca hFx hCaa (by decide) (by decide)).fr hFm (by decide) (by decide) (by decide)⟩
  rcases hC with ⟨n1, v1, -⟩ | ⟨y1, v1, w1, -⟩
  · rcases hM with ⟨n2, v2⟩ | ⟨y2, -⟩
    · rw [v1, v2]
    · exact absurd y2 n1
  · rcases hM with ⟨n2, -⟩ | ⟨y2, v2, w2⟩
    · exact absurd y1 n2
    · have w3 := w1.trans w2.symm
      clear w1 w2
      rcases v1 with e1 | e1 <;> rcases v2 with e2 | e2
      · omega
      · exact absurd e1 (w3.mpr (by omega))
      · exact absurd e2 (w3.mp (by omega))
      · omega
theorem gap_2 {V : PV} {p0 p1 p2 q0 q1 q2 r r' : Int32} {G Ga Gb : GS} (hx : P_Wgap_2 p0 p1 p2 G r Ga) (hm : Q_gap q0 q1 q2 Ga r' Gb) (i0 : p0.toInt = q0.toInt) (i1 : p1.toInt = q1.toInt) (i2 : p2.toInt = q2.toInt) (hI : IV_2 V G) : r.toInt = r'.toInt ∧ IV_2 V Gb := by
  obtain rfl := Int32.toInt_inj.mp i0
  obtain rfl := Int32.toInt_inj.mp i1
  obtain rfl := Int32.toInt_inj.mp i2
  have hFx := hx.2.1
  have hFm := hm.2.1
  have m1 : (-1 : Int32).toInt = -1 := rfl
  have z0 : (0 : Int32).toInt = 0 := rfl
  have o1 : (1 : Int32).toInt = 1 := rfl
  have hII := hI
  obtain ⟨hW, hR, hV, hCa, hE, hSV⟩ := hI
  have hd := hE.day
  have hRa : RV V Ga := hR.fr hFx (by decide) (by decide)
  have a110 : Ga.1 110 6 = G.1 58 6 := by rw [hFx.row1 110 (by decide) (by decide), hd.2]
  have hM := q_gap_eq hm hRa hV (fun s i hs hi => hW.ok hs i hi)
  rw [a110] at hM
  have hC : (¬ (inS V p0 ∧ inR V p1) ∧ r.toInt = -1 ∧ CaC_2 V Ga) ∨ ((inS V p0 ∧ inR V p1) ∧ r.toInt = (if p2.toInt = 0 then (gst (LNx V (G.1 58 6) p0.toInt.toNat p1.toInt.toNat) (stl V p0.toInt.toNat)).2.2.2 else if p2.toInt = 1 then (gst (LNx V (G.1 58 6) p0.toInt.toNat p1.toInt.toNat) (stl V p0.toInt.toNat)).2.2.1 else if p2.toInt = 2 then (gst (LNx V (G.1 58 6) p0.toInt.toNat p1.toInt.toNat) (stl V p0.toInt.toNat)).2.1 else -1) ∧ CaC_2 V Ga) := by
    clear hM hm
    obtain ⟨-, -, r1, G2, hst, hh⟩ := hx
    obtain ⟨rfl, k1⟩ := k_hasStreetV_2 hst hW
    rcases hh with ⟨c, rfl, rfl⟩ | ⟨c, r8, G9, hset, hh⟩
    · exact Or.inl ⟨fun q => absurd c (k1.mpr q.1), m1, hCa⟩
    obtain ⟨rfl, k2⟩ := k_hasSetV_2 hset hW hV.1
    rcases hh with ⟨c2, rfl, rfl⟩ | ⟨c2, r15, G16, htd, G21, hfi, x29, x30, x31, x32, x33, G25, hl, -, -, -, -, hF25, y41, e41, c41, hh⟩
    · exact Or.inl ⟨fun q => absurd c2 (k2.mpr q.2), m1, hCa⟩
    obtain ⟨rfl, e15⟩ := k_today_eq htd
    have hS := k1.mp c
    have hRr := k2.mp c2
    clear k1 k2 c c2
    obtain ⟨hsl, hsn⟩ := hS.n
    obtain ⟨ht64, htn⟩ := hRr.lt hV.1
    obtain ⟨hFo, hCa2⟩ := k_find_2 hfi hsn hsl hR.1.2.1 hW hV (by rw [e15]; exact hd.1.1) hCa
    rw [e15] at hFo
    have hW2 : CW_2 V G21 := hW.fr hfi.2.1 (by decide) (by decide)
    have hlen := hW2.len hS
    have hl4 : (stl V p0.toInt.toNat : Int) ≤ 400 := (hW.1.2 p0.toInt.toNat hsl).2
    have e25 := hF25.nil
    subst e25
    obtain ⟨s, es⟩ : ∃ s, s = p0.toInt.toNat := ⟨_, rfl⟩
    obtain ⟨t, et⟩ : ∃ t, t = p1.toInt.toNat := ⟨_, rfl⟩
    rw [← es] at hsl hsn hFo hlen hl4 ⊢
    rw [← et] at ht64 htn ⊢
    obtain ⟨L, hL⟩ : ∃ L, L = LNx V (G.1 58 6) s t := ⟨_, rfl⟩
    rw [← hL]
    have hI := hl (fun q => q.2.2.2.2.2 = G21 ∧ ∃ k : Nat, k ≤ stl V s ∧ q.1.toInt = (k : Int) ∧ q.2.1.toInt = (gst L k).1 ∧ q.2.2.1.toInt = (gst L k).2.1 ∧ q.2.2.2.1.toInt = (gst L k).2.2.1 ∧ q.2.2.2.2.1.toInt = (gst L k).2.2.2) ⟨rfl, 0, Nat.zero_le _, rfl, rfl, rfl, rfl, rfl⟩ (by
      rintro ⟨a1, a2, a3, a4, a5, b0⟩ ⟨n1, n2, n3, n4, n5, bn⟩ ⟨hb, k, i0, i1, i2, i3, i4, i5⟩ ⟨x1, x2, x3, x4, x5, g, u1, u2, u3, u4, u5, gn, q1, q2, -, -, -, -, y41', e41', c41', r46, G47, hil, w61, G63, hj, -, -, hF63, y68, e68, hd'⟩
      simp only [Prod.mk.injEq] at q1 q2
      obtain ⟨rfl, rfl, rfl, rfl, rfl, rfl⟩ := q1
      obtain ⟨rfl, rfl, rfl, rfl, rfl, rfl⟩ := q2
      simp only at hb i1 i2 i3 i4 i5
      subst hb
      have t41 : y41'.toInt = (stl V s : Int) := by rw [e41']; exact hlen
      have hk : k < stl V s := by omega
      obtain ⟨rfl, kl⟩ := k_isLine_2 hil hsn hsl i1 htn ht64 hW2 hV hFo
      have e63 := hF63.nil
      subst e63
      obtain ⟨g1, g2, g3, g4, g5⟩ := gst_r L k
      have hLk : r46.toInt ≠ 0 ↔ L k := by rw [hL]; exact kl.trans ⟨fun q => q.2, fun q => ⟨hk, q⟩⟩
      clear kl
      have hw : w61.toInt = (if r46.toInt = 0 then 0 else 1) := by
        rcases hj with ⟨f, ew, -⟩ | ⟨f, ew, -⟩
        · rw [if_pos f, ← ew]
          rfl
        · rw [if_neg f, ← ew]
          rfl
      rcases hd' with ⟨f, y70, e70, hd'⟩ | ⟨f, y79, t79, ex, e2, e3, e4, e5, eG⟩
      · have hn : ¬ L k := fun q => (hLk.mpr q) f
        clear hLk
        rw [if_pos f] at hw
        have t68 : y68.toInt = (gst L k).2.1 := by
          have := tI_add e68 (by omega) (by omega)
          omega
        have t70 : y70.toInt = (gst L k).1 + 1 := by
          have := tI_add e70 (by rw [o1]; omega) (by rw [o1]; omega)
          rw [o1] at this
          omega
        rcases hd' with ⟨f2, y72, t72, ex, e2, e3, e4, e5, eG⟩ | ⟨f2, y73, t73, y75, t75, y77, t77, ex, e2, e3, e4, e5, eG⟩
        · refine ⟨eG.symm, k + 1, by omega, by show n1.toInt = _; rw [← ex]; omega, ?_⟩
          show n2.toInt = _ ∧ n3.toInt = _ ∧ n4.toInt = _ ∧ n5.toInt = _
          rw [← e2, ← e3, ← e4, ← e5, gst_N hn, if_neg (by omega)]
          try dsimp only
          exact ⟨t70, t68, i4, i5⟩
        · refine ⟨eG.symm, k + 1, by omega, by show n1.toInt = _; rw [← ex]; omega, ?_⟩
          show n2.toInt = _ ∧ n3.toInt = _ ∧ n4.toInt = _ ∧ n5.toInt = _
          rw [← e2, ← e3, ← e4, ← e5, gst_N hn, if_pos (by omega)]
          try dsimp only
          exact ⟨t70, t68, by show y75.toInt = (k : Int) - ((gst L k).1 + 1) + 1; omega, t70⟩
      · have hy : L k := hLk.mp f
        clear hLk
        rw [if_neg f] at hw
        have t68 : y68.toInt = (gst L k).2.1 + 1 := by
          have := tI_add e68 (by omega) (by omega)
          omega
        refine ⟨eG.symm, k + 1, by omega, by show n1.toInt = _; rw [← ex]; omega, ?_⟩
        show n2.toInt = _ ∧ n3.toInt = _ ∧ n4.toInt = _ ∧ n5.toInt = _
        rw [← e2, ← e3, ← e4, ← e5, gst_L hy]
        try dsimp only
        exact ⟨rfl, t68, i4, i5⟩)
    obtain ⟨-, k, i0, i1, i2, i3, i4, i5⟩ := hI
    simp only at i1 i2 i3 i4 i5
    have t41 : y41.toInt = (stl V s : Int) := by rw [e41]; exact hlen
    have hk : k = stl V s := by clear hh; omega
    subst hk
    rcases hh with ⟨f, rfl, rfl⟩ | ⟨f, ⟨g, rfl, rfl⟩ | ⟨g, ⟨j, rfl, rfl⟩ | ⟨j, rfl, rfl⟩⟩⟩
    · rw [if_pos f]
      exact Or.inr ⟨⟨hS, hRr⟩, i5, hCa2⟩
    · rw [if_neg f, if_pos g]
      exact Or.inr ⟨⟨hS, hRr⟩, i4, hCa2⟩
    · rw [if_neg f, if_neg g, if_pos j]
      exact Or.inr ⟨⟨hS, hRr⟩, i3, hCa2⟩
    · rw [if_neg f, if_neg g, if_neg j]
      exact Or.inr ⟨⟨hS, hRr⟩, m1, hCa2⟩
  have hCaa : CaC_2 V Ga := by
    rcases hC with q | q
    · exact q.2.2
    · exact q.2.2
  refine ⟨?_, (hII.ca hFx hCaa (by decide) (by decide)).fr hFm (by decide) (by decide) (by decide)⟩
  rcases hC with ⟨n1, v1, -⟩ | ⟨y1, v1, -⟩
  · rcases hM with ⟨n2, v2⟩ | ⟨y2, -⟩
    · rw [v1, v2]
    · exact absurd ⟨y2.1, y2.2.1⟩ n1
  · rcases hM with ⟨n2, v2⟩ | ⟨y2, v2⟩
    · rw [v1, v2]
      by_cases h0 : p2.toInt = 0
      · exact absurd ⟨y1.1, y1.2, by omega, by omega⟩ n2
      · rw [if_neg h0]
        by_cases h1 : p2.toInt = 1
        · exact absurd ⟨y1.1, y1.2, by omega, by omega⟩ n2
        · rw [if_neg h1]
          by_cases h2 : p2.toInt = 2
          · exact absurd ⟨y1.1, y1.2, by omega, by omega⟩ n2
          · rw [if_neg h2]
    · rw [v1, v2]
      by_cases h0 : p2.toInt = 0
      · rw [if_pos h0, if_pos h0]
      · rw [if_neg h0, if_neg h0]
        by_cases h1 : p2.toInt = 1
        · rw [if_pos h1, if_pos h1]
        · have h2 : p2.toInt = 2 := by have := y2.2.2; omega
          rw [if_neg h1, if_neg h1, if_pos h2]
theorem foot_2 {V : PV} {p0 p1 p2 p3 q0 q1 q2 q3 r r' : Int32} {G Ga Gb : GS} (hx : P_Wfoot_2 p0 p1 p2 p3 G r Ga) (hm : Q_foot q0 q1 q2 q3 Ga r' Gb) (i0 : p0.toInt = q0.toInt) (i1 : p1.toInt = q1.toInt) (i2 : p2.toInt = q2.toInt) (i3 : p3.toInt = q3.toInt) (hI : IV_2 V G) : r.toInt = r'.toInt ∧ IV_2 V Gb := by
  obtain rfl := Int32.toInt_inj.mp i0
  obtain rfl := Int32.toInt_inj.mp i1
  obtain rfl := Int32.toInt_inj.mp i2
  obtain rfl := Int32.toInt_inj.mp i3
  have hFx := hx.2.1
  have hFm := hm.2.1
  have m1 : (-1 : Int32).toInt = -1 := rfl
  have z0 : (0 : Int32).toInt = 0 := rfl
  have o1 : (1 : Int32).toInt = 1 := rfl
  have hII := hI
  obtain ⟨hW, hR, hV, hCa, hE, hSV⟩ := hI
  have hd := hE.day
  have hC : (¬ ((inW V p0 ∧ inS V p1 ∧ inR V p2) ∧ inX V p1 p3) ∧ r.toInt = -1 ∧ CaC_2 V Ga) ∨ (((inW V p0 ∧ inS V p1 ∧ inR V p2) ∧ inX V p1 p3) ∧ (r.toInt = 0 ∨ r.toInt = 1) ∧ (r.toInt ≠ 0 ↔ LWF V (G.1 58 6) p0.toInt.toNat p1.toInt.toNat p2.toInt.toNat p3.toInt) ∧ CaC_2 V Ga) := by
    obtain ⟨-, -, r1, G2, hask, hh⟩ := hx
    obtain ⟨rfl, k1⟩ := k_wAsk_2_eq hask hW hV.1
    rcases hh with ⟨c, rfl, rfl⟩ | ⟨c, r8, G9, hin, hh⟩
    · exact Or.inl ⟨fun q => absurd c (k1.mpr q.1), m1, hCa⟩
    have hA := k1.mp c
    obtain ⟨rfl, k2⟩ := k_hasInchV_2 hin hW
    rcases hh with ⟨c2, rfl, rfl⟩ | ⟨c2, r15, G16, htd, G21, hfi, r25, G26, hil, hh⟩
    · exact Or.inl ⟨fun q => absurd c2 (k2.mpr ⟨q.1.2.1, q.2⟩), m1, hCa⟩
    obtain ⟨rfl, e15⟩ := k_today_eq htd
    have hX := (k2.mp c2).2
    obtain ⟨hwl, hwn⟩ := hA.1.n
    obtain ⟨hsl, hsn⟩ := hA.2.1.n
    obtain ⟨ht64, htn⟩ := hA.2.2.lt hV.1
    obtain ⟨hFo, hCa2⟩ := k_find_2 hfi hsn hsl hR.1.2.1 hW hV (by rw [e15]; exact hd.1.1) hCa
    rw [e15] at hFo
    obtain ⟨rfl, kl⟩ := k_isLawful_2 hil hwn hwl hsn hsl htn ht64 (hW.fr hfi.2.1 (by decide) (by decide)) hV hFo
    rcases hh with ⟨f, rfl, rfl⟩ | ⟨f, rfl, rfl⟩
    · exact Or.inr ⟨⟨hA, hX⟩, Or.inl z0, ⟨fun q => absurd z0 q, fun q => absurd f (kl.mpr q)⟩, hCa2⟩
    · exact Or.inr ⟨⟨hA, hX⟩, Or.inr o1, ⟨fun _ => kl.mp f, fun _ => by rw [o1]; decide⟩, hCa2⟩
  have hRa : RV V Ga := hR.fr hFx (by decide) (by decide)
  have a110 : Ga.1 110 6 = G.1 58 6 := by rw [hFx.row1 110 (by decide) (by decide), hd.2]
  have hM : (¬ ((inW V p0 ∧ inS V p1 ∧ inR V p2) ∧ inX V p1 p3) ∧ r'.toInt = -1) ∨ (((inW V p0 ∧ inS V p1 ∧ inR V p2) ∧ inX V p1 p3) ∧ (r'.toInt = 0 ∨ r'.toInt = 1) ∧ (r'.toInt ≠ 0 ↔ LWF V (G.1 58 6) p0.toInt.toNat p1.toInt.toNat p2.toInt.toNat p3.toInt)) := by
    obtain ⟨-, -, r1, G2, hask, hh⟩ := hm
    obtain ⟨rfl, k1⟩ := q_isAsked_eq hask hRa
    rcases hh with ⟨c, rfl, -⟩ | ⟨c, r8, G9, hin, hh⟩
    · exact Or.inl ⟨fun q => absurd c (k1.mpr q.1), m1⟩
    have hA := k1.mp c
    obtain ⟨rfl, k2⟩ := q_isInchV hin hRa hA.2.1
    rcases hh with ⟨c2, rfl, -⟩ | ⟨c2, G17, hlay, y21, e21, r22, G23, htr, rfl, -⟩
    · exact Or.inl ⟨fun q => absurd c2 (k2.mpr q.2), m1⟩
    have hX := k2.mp c2
    obtain ⟨hwl, hwn⟩ := hA.1.n
    obtain ⟨hsl, hsn⟩ := hA.2.1.n
    obtain ⟨ht64, htn⟩ := hA.2.2.lt hV.1
    obtain ⟨-, hlw⟩ := m_lay hlay hwn hwl hsn hsl htn ht64 hRa hV (hW.ok hsl)
    have hl4 : (stl V p1.toInt.toNat : Int) ≤ 400 := (hW.1.2 p1.toInt.toNat hsl).2
    have hxn : p3.toInt = (p3.toInt.toNat : Int) := by have := hX.1; omega
    obtain ⟨v1, v2⟩ := hlw p3.toInt.toNat (by have := hX.1; have := hX.2; omega)
    rw [a110, ← hxn] at v2
    have e : y21 = G17.1 98 p3.toInt.toNat := e21
    rw [← e, ← (q_truth htr).2] at v1 v2
    exact Or.inr ⟨⟨hA, hX⟩, v1, v2⟩
  have hCaa : CaC_2 V Ga := by
    rcases hC with q | q
    · exact q.2.2
    · exact q.2.2.2
  refine ⟨?_, (hII.ca hFx hCaa (by decide) (by decide)).fr hFm (by decide) (by decide) (by decide)⟩
  rcases hC with ⟨n1, v1, -⟩ | ⟨y1, v1, w1, -⟩
  · rcases hM with ⟨n2, v2⟩ | ⟨y2, -⟩
    · rw [v1, v2]
    · exact absurd y2 n1
  · rcases hM with ⟨n2, -⟩ | ⟨y2, v2, w2⟩
    · exact absurd y1 n2
    · have w3 := w1.trans w2.symm
      clear w1 w2
      rcases v1 with e1 | e1 <;> rcases v2 with e2 | e2
      · omega
      · exact absurd e1 (w3.mpr (by omega))
      · exact absurd e2 (w3.mp (by omega))
      · omega

/-! walk, go: what the row is behind them -/
def setr (v : Nat → Int32) (p0 p1 p2 h : Int32) : Nat → Int32 := upd (upd (upd (upd (upd (upd v 0 p0) 1 p1) 2 p2) 3 1) 4 h) 5 0
theorem ud_cg {f g : Nat → Int32} {i : Nat} {u v : Int32} (h : ∀ j, j < 10 → f j = g j) (e : u = v) : ∀ j, j < 10 → upd f i u j = upd g i v j := by
  intro j hj
  subst e
  by_cases q : j = i
  · subst q
    rw [ud_at, ud_at]
  · rw [ud_no q, ud_no q, h j hj]
theorem setr_cg {v v' : Nat → Int32} {p0 p1 p2 h h' : Int32} (e : ∀ j, j < 10 → v j = v' j) (eh : h = h') : ∀ j, j < 10 → setr v p0 p1 p2 h j = setr v' p0 p1 p2 h' j := ud_cg (ud_cg (ud_cg (ud_cg (ud_cg (ud_cg e rfl) rfl) rfl) rfl) eh) rfl
theorem setr_at {v : Nat → Int32} {p0 p1 p2 h : Int32} : setr v p0 p1 p2 h 0 = p0 ∧ setr v p0 p1 p2 h 1 = p1 ∧ setr v p0 p1 p2 h 2 = p2 ∧ setr v p0 p1 p2 h 4 = h ∧ setr v p0 p1 p2 h 6 = v 6 ∧ setr v p0 p1 p2 h 8 = v 8 ∧ setr v p0 p1 p2 h 9 = v 9 := by
  unfold setr
  refine ⟨?_, ?_, ?_, ?_, ?_, ?_, ?_⟩
  · rw [ud_no (by decide), ud_no (by decide), ud_no (by decide), ud_no (by decide), ud_no (by decide), ud_at]
  · rw [ud_no (by decide), ud_no (by decide), ud_no (by decide), ud_no (by decide), ud_at]
  · rw [ud_no (by decide), ud_no (by decide), ud_no (by decide), ud_at]
  · rw [ud_no (by decide), ud_at]
  · rw [ud_no (by decide), ud_no (by decide), ud_no (by decide), ud_no (by decide), ud_no (by decide), ud_no (by decide)]
  · rw [ud_no (by decide), ud_no (by decide), ud_no (by decide), ud_no (by decide), ud_no (by decide), ud_no (by decide)]
  · rw [ud_no (by decide), ud_no (by decide), ud_no (by decide), ud_no (by decide), ud_no (by decide), ud_no (by decide)]
theorem setr_4 {v : Nat → Int32} {p0 p1 p2 h h' : Int32} : upd (setr v p0 p1 p2 h) 4 h' = setr v p0 p1 p2 h' := by
  funext j
  unfold setr
  by_cases q : j = 4
  · subst q
    rw [ud_at, ud_no (by decide), ud_at]
  · rw [ud_no q]
    by_cases q5 : j = 5
    · subst q5
      rw [ud_at, ud_at]
    · rw [ud_no q5, ud_no q5, ud_no q, ud_no q]
theorem ROK.set {V : PV} {v : Nat → Int32} {p0 p1 p2 h : Int32} (hv : ROK V v) (hw : inW V p0) (hs : inS V p1) : ROK V (setr v p0 p1 p2 h) := by
  obtain ⟨e0, e1, -, -, e6, e8, e9⟩ := setr_at (v := v) (p0 := p0) (p1 := p1) (p2 := p2) (h := h)
  unfold ROK at hv ⊢
  rw [e0, e1, e6, e8, e9]
  exact ⟨Or.inr ⟨hw.1, hw.2, hs.1, hs.2⟩, hv.2⟩
noncomputable def wkR (V : PV) (v : Nat → Int32) (p0 p1 p2 : Int32) : Nat → Int32 := setr v p0 p1 p2 (pif ((v 9).toInt = 1 ∨ LWF V (v 6) p0.toInt.toNat p1.toInt.toNat (v 8).toInt.toNat p2.toInt) 1 0)
def VWk (V : PV) (p0 p1 p2 : Int32) : Prop := inW V p0 ∧ inS V p1 ∧ 0 ≤ p2.toInt ∧ p2.toInt + (wk V p0.toInt.toNat).1 ≤ (stl V p1.toInt.toNat : Int) ∧ p2.toInt < (wk V p0.toInt.toNat).2.2.1
theorem wkR_cg {V : PV} {v v' : Nat → Int32} {p0 p1 p2 : Int32} (e : ∀ j, j < 10 → v j = v' j) : ∀ j, j < 10 → wkR V v p0 p1 p2 j = wkR V v' p0 p1 p2 j := by
  unfold wkR
  rw [e 9 (by decide), e 6 (by decide), e 8 (by decide)]
  exact setr_cg e rfl
/-- is he up where he stands -/
theorem q_stands_eq {p0 r : Int32} {G G1 : GS} (h : Q_stands p0 G r G1) : G = G1 ∧ (r.toInt = 0 ∨ r.toInt = 1) ∧ (r.toInt ≠ 0 ↔ ((G.1 110 9).toInt = 1 ∨ (G.1 98 p0.toNatClampNeg).toInt ≠ 0)) := by
  obtain ⟨-, hF, hr, y1, e1, hh⟩ := h
  have e1' : y1 = G.1 110 9 := e1
  have z0 : (0 : Int32).toInt = 0 := rfl
  have o1 : (1 : Int32).toInt = 1 := rfl
  refine ⟨hF.nil, by omega, ?_⟩
  rw [← e1']
  rcases hh with ⟨c, r4, G5, ht, rfl, -⟩ | ⟨c, y10, e10, ⟨d, r13, G14, ht, rfl, -⟩ | ⟨d, r20, G21, ht, rfl, -⟩⟩
  · rw [(q_truth ht).2]
    exact ⟨fun _ => Or.inl c, fun _ => by rw [o1]; decide⟩
  · rw [(q_truth ht).2, ← e10]
    exact ⟨fun q => absurd z0 q, fun q => absurd (q.resolve_left c) (by omega)⟩
  · rw [(q_truth ht).2, ← e10]
    exact ⟨fun _ => Or.inr d, fun _ => by rw [o1]; decide⟩
theorem pif_r {p : Prop} {r : Int32} (h01 : r.toInt = 0 ∨ r.toInt = 1) (h : r.toInt ≠ 0 ↔ p) : r = pif p 1 0 := by
  have z0 : (0 : Int32).toInt = 0 := rfl
  have o1 : (1 : Int32).toInt = 1 := rfl
  by_cases q : p
  · rw [pif_p q]
    have := h.mpr q
    exact Int32.toInt_inj.mp (by rw [o1]; omega)
  · rw [pif_n q]
    have : ¬ r.toInt ≠ 0 := fun w => q (h.mp w)
    exact Int32.toInt_inj.mp (by rw [z0]; omega)
theorem q_stands1_eq {p0 r : Int32} {G G1 : GS} (h : Q_stands1 p0 G r G1) : G = G1 ∧ (r.toInt ≠ 0 ↔ (0 ≤ p0.toInt ∧ p0.toInt + (G.1 66 60).toInt ≤ (G.1 66 59).toInt)) := by
  obtain ⟨-, hF, hr, hp, -⟩ := h
  refine ⟨hF.nil, fun q => hp.1 (by omega), fun q => ?_⟩
  have := hp.2 q
  omega
theorem m_walk {V : PV} {p0 p1 p2 r : Int32} {G G1 : GS} (h : Q_walk p0 p1 p2 G r G1) (hR : RV V G) (hV : PVok V) (hok : ∀ s i, s < V.1.length → i < stl V s → ICok (icl V s i)) (h8 : 0 ≤ (G.1 110 8).toInt ∧ (G.1 110 8).toInt < 64) : (¬ VWk V p0 p1 p2 ∧ r.toInt = -1 ∧ Fr [76, 97, 98] [(66, 59), (66, 60), (66, 61), (66, 62), (66, 63)] G G1) ∨ (VWk V p0 p1 p2 ∧ ∃ Gm Gn, Fr [76, 97, 98] [(66, 59), (66, 60), (66, 61), (66, 62), (66, 63)] G Gm ∧ Q_act Gm Gn ∧ Fr [110] [] Gn G1 ∧ G1.1 110 = wkR V (G.1 110) p0 p1 p2 ∧ r = G1.1 110 4) := by
  have m1 : (-1 : Int32).toInt = -1 := rfl
  have z0 : (0 : Int32).toInt = 0 := rfl
  obtain ⟨-, -, -, r1, G2, hw, hh⟩ := h
  obtain ⟨rfl, k1⟩ := q_isWalkerV hw hR
  rcases hh with ⟨c, rfl, rfl⟩ | ⟨c, r14, G15, hs, hh⟩
  · exact Or.inl ⟨fun q => absurd c (k1.mpr q.1), m1, Fr.rf⟩
  have hWk := k1.mp c
  obtain ⟨rfl, k2⟩ := q_isStreetV hs hR
  rcases hh with ⟨c2, rfl, rfl⟩ | ⟨c2, y25, e25, y26, t26, r28, G29, hi, hh⟩
  · exact Or.inl ⟨fun q => absurd c2 (k2.mpr q.2.1), m1, Fr.rf⟩
  have hS := k2.mp c2
  clear k1 k2 c c2
  obtain ⟨hwl, hwn⟩ := hWk.n
  obtain ⟨hsl, hsn⟩ := hS.n
  have t25 : y25.toInt = (wk V p0.toInt.toNat).2.2.1 := by
    rw [e25]
    exact (hR.2.1.2.2 _ hwl).2.2.1
  obtain ⟨rfl, k3⟩ := q_isIn hi
  rw [z0, t26, t25] at k3
  rcases hh with ⟨c3, rfl, rfl⟩ | ⟨c3, y35, e35, G38, hlay, r44, G45, hst, hh⟩
  · exact Or.inl ⟨fun q => absurd c3 (k3.mpr ⟨q.2.2.1, by have := q.2.2.2.2; omega⟩), m1, Fr.rf⟩
  have hin := k3.mp c3
  clear k3 c3
  have e35' : y35 = G.1 110 8 := e35
  have hl4 : (stl V p1.toInt.toNat : Int) ≤ 400 := (hR.1.2.2 _ hsl).2
  obtain ⟨⟨f1, f2, -, -, -⟩, hlw⟩ := m_lay (t := y35.toInt.toNat) hlay hwn hwl hsn hsl (by rw [e35']; omega) (by rw [e35']; omega) hR hV (hok _ · hsl ·)
  obtain ⟨rfl, k4⟩ := q_stands1_eq hst
  rw [f1, f2] at k4
  have hFl := hlay.2.1
  rcases hh with ⟨c4, rfl, rfl⟩ | ⟨c4, G52, ha, G62, -, hF62, w62, r65, G66, hsd, y76, e76, rfl, hFe, we⟩
  · exact Or.inl ⟨fun q => absurd c4 (k4.mpr ⟨q.2.2.1, q.2.2.2.1⟩), m1, hFl⟩
  have hsd2 := k4.mp c4
  clear k4 c4
  refine Or.inr ⟨⟨hWk, hS, hin.1, hsd2.2, by omega⟩, G38, G52, hFl, ha, ?_, ?_, ?_⟩
  · have e66 := hsd.2.1.nil
    subst e66
    exact (Fr.call Fr.rf hF62 (by decide) (by decide)).call hFe (by decide) (by decide)
  · obtain ⟨rfl, s1, s2⟩ := q_stands_eq hsd
    have a110 : G52.1 110 = G.1 110 := (ha.2.1.row1 110 (by decide) (by decide)).trans (hFl.row1 110 (by decide) (by decide))
    have hxn : p2.toInt = (p2.toInt.toNat : Int) := by omega
    have l98 : (G62.1 98 p2.toNatClampNeg).toInt ≠ 0 ↔ LWF V (G.1 110 6) p0.toInt.toNat p1.toInt.toNat (G.1 110 8).toInt.toNat p2.toInt := by
      rw [hF62.row1 98 (by decide) (by decide), ha.2.1.row1 98 (by decide) (by decide)]
      have b60 := (hlay.1.i 66 60 (lo := 0) (hi := 12) rfl rfl).1
      have := (hlw p2.toInt.toNat (by clear s2; omega)).2
      rw [← hxn, e35'] at this
      exact this
    have w62' : G62.1 110 = upd (upd (upd (upd (G.1 110) 0 p0) 1 p1) 2 p2) 3 1 := by
      rw [w62, a110]
      rfl
    have e9 : G62.1 110 9 = G.1 110 9 := by
      rw [w62', ud_no (by decide), ud_no (by decide), ud_no (by decide), ud_no (by decide)]
    rw [e9, l98] at s2
    have hr := pif_r s1 s2
    rw [we, w62', hr]
    rfl
  · rw [e76, we]
    have z4 : (4 : Int32).toNatClampNeg = 4 := rfl
    have z5 : (5 : Int32).toNatClampNeg = 5 := rfl
    rw [z4, z5]
/-! go -/
def slpV (V : PV) : Int × Int × Int := V.2.2.2.2.1.getD (0, 1, 0)
def all32 (V : PV) : Int32 := Int32.ofInt ((slpV V).1 + (slpV V).2.1 + (slpV V).2.2)
def slp (V : PV) (s : Int32) : Int32 := if (s - s / all32 V * all32 V).toInt < (slpV V).1 then -1 else if (s - s / all32 V * all32 V).toInt < (slpV V).1 + (slpV V).2.1 then 0 else 1
def goS (v : Nat → Int32) : Int32 := v 7 * 137 + 71 - (v 7 * 137 + 71) / 1000 * 1000
def goB (V : PV) (v : Nat → Int32) (p0 : Int32) : Int32 := if (wk V (v 0).toInt.toNat).2.2.1 < p0.toInt then 1 else 0
def goX (V : PV) (v : Nat → Int32) (p0 : Int32) : Int32 := v 2 + p0 + slp V (goS v)
def go0 (V : PV) (v : Nat → Int32) (p0 : Int32) : Nat → Int32 := upd (upd v 7 (goS v)) 5 (goB V v p0)
noncomputable def goR (V : PV) (v : Nat → Int32) (p0 : Int32) : Nat → Int32 := if 0 ≤ (goX V v p0).toInt ∧ (goX V v p0).toInt + (wk V (v 0).toInt.toNat).1 ≤ (stl V (v 1).toInt.toNat : Int) then upd (upd (upd (go0 V v p0) 2 (goX V v p0)) 3 (v 3 + 1)) 4 (pif ((v 9).toInt = 1 ∨ LWF V (v 6) (v 0).toInt.toNat (v 1).toInt.toNat (v 8).toInt.toNat (goX V v p0).toInt) 1 0) else upd (go0 V v p0) 4 2
def VGo (V : PV) (v : Nat → Int32) (p0 : Int32) : Prop := 0 ≤ (v 0).toInt ∧ (v 4).toInt = 1 ∧ (wk V (v 0).toInt.toNat).2.1 ≤ p0.toInt ∧ p0.toInt ≤ (if (v 5).toInt = 1 then (wk V (v 0).toInt.toNat).2.2.1 else (wk V (v 0).toInt.toNat).2.2.2)
theorem goR_cg {V : PV} {v v' : Nat → Int32} {p0 : Int32} (e : ∀ j, j < 10 → v j = v' j) : ∀ j, j < 10 → goR V v p0 j = goR V v' p0 j := by
  have eS : goS v = goS v' := by unfold goS; rw [e 7 (by decide)]
  have eB : goB V v p0 = goB V v' p0 := by unfold goB; rw [e 0 (by decide)]
  have eX : goX V v p0 = goX V v' p0 := by unfold goX; rw [e 2 (by decide), eS]
  have e0 : ∀ j, j < 10 → go0 V v p0 j = go0 V v' p0 j := ud_cg (ud_cg e eS) eB
  unfold goR
  rw [eX, e 0 (by decide), e 1 (by decide), e 3 (by decide), e 6 (by decide), e 8 (by decide), e 9 (by decide)]
  by_cases q : 0 ≤ (goX V v' p0).toInt ∧ (goX V v' p0).toInt + (wk V (v' 0).toInt.toNat).1 ≤ (stl V (v' 1).toInt.toNat : Int)
  · rw [if_pos q, if_pos q]
    exact ud_cg (ud_cg (ud_cg e0 rfl) rfl) rfl
  · rw [if_neg q, if_neg q]
    exact ud_cg e0 rfl
theorem ROK.go {V : PV} {v : Nat → Int32} {p0 : Int32} (h : ROK V v) : ROK V (goR V v p0) := by
  have h0 : ROK V (go0 V v p0) := (h.sk (by decide)).sk (by decide)
  unfold goR
  split
  · exact ((h0.sk (by decide)).sk (by decide)).sk (by decide)
  · exact h0.sk (by decide)
theorem q_allSlips_eq {V : PV} {r : Int32} {G G1 : GS} (h : Q_allSlips G r G1) (hR : RV V G) : G = G1 ∧ r = all32 V ∧ r.toInt = (slpV V).1 + (slpV V).2.1 + (slpV V).2.2 := by
  obtain ⟨-, hF, -, hp, -⟩ := h
  obtain ⟨-, -, -, ⟨s0, s1, s2⟩, -⟩ := hR
  rw [s0, s1, s2] at hp
  exact ⟨hF.nil, of_i hp, hp⟩
theorem m_go {V : PV} {p0 r : Int32} {G G1 : GS} (h : Q_go p0 G r G1) (hR : RV V G) (hV : PVok V) (hok : ∀ s i, s < V.1.length → i < stl V s → ICok (icl V s i)) (hv : ROK V (G.1 110)) : (¬ VGo V (G.1 110) p0 ∧ r.toInt = -1 ∧ G = G1) ∨ (VGo V (G.1 110) p0 ∧ ∃ Gn, Q_act G Gn ∧ Fr [110, 76, 97, 98] [(66, 59), (66, 60), (66, 61), (66, 62), (66, 63)] Gn G1 ∧ G1.1 110 = goR V (G.1 110) p0 ∧ r = G1.1 110 4) := by
  have m1 : (-1 : Int32).toInt = -1 := rfl
  obtain ⟨z0, z1, z2, z3, z4, z5, z6, z7, z8, z9, -, -⟩ := z32
  obtain ⟨-, -, -, y1, e1, hh⟩ := h
  rw [z0] at e1
  rcases hh with ⟨c, rfl, rfl⟩ | ⟨c, y5, e5, hh⟩
  · exact Or.inl ⟨fun q => by have := q.1; rw [e1] at c; omega, m1, rfl⟩
  rw [z4] at e5
  rcases hh with ⟨c2, y7, e7, y9, e9, y11, e11, w15, G18, hj1, -, -, hF18, r23, G24, hi, hh⟩ | ⟨c2, rfl, rfl⟩
  rotate_left
  · exact Or.inl ⟨fun q => by have := q.2.1; rw [e5] at c2; omega, m1, rfl⟩
  rw [z0] at e7
  rw [z5] at e11
  have hWk : inW V (G.1 110 0) ∧ inS V (G.1 110 1) := by
    rw [e1] at c
    rcases hv.1 with q | q
    · omega
    · exact ⟨⟨q.1, q.2.1⟩, ⟨q.2.2.1, q.2.2.2⟩⟩
  obtain ⟨hwl, hwn⟩ := hWk.1.n
  obtain ⟨hsl, hsn⟩ := hWk.2.n
  obtain ⟨k1, k2, k3, k4⟩ := hR.2.1.2.2 _ hwl
  have e18 := hF18.nil
  subst e18
  have t9 : y9.toInt = (wk V (G.1 110 0).toInt.toNat).2.1 := by
    rw [e9, e7]
    exact k2
  have t15 : w15.toInt = (if (G.1 110 5).toInt = 1 then (wk V (G.1 110 0).toInt.toNat).2.2.1 else (wk V (G.1 110 0).toInt.toNat).2.2.2) := by
    rw [← e11]
    rcases hj1 with ⟨f, y, e, ew, -⟩ | ⟨f, y, e, ew, -⟩
    · rw [if_pos f, ← ew, e, e7]
      exact k3
    · rw [if_neg f, ← ew, e, e7]
      exact k4
  obtain ⟨rfl, ki⟩ := q_isIn hi
  rw [t9, t15] at ki
  rcases hh with ⟨c3, rfl, rfl⟩ | ⟨c3, G31, ha, y35, e35, y36, e36, G39, hlay, y43, e43, y44, e44, y45, e45, y46, e46, y49, e49, G47, -, hF47, w47, r57, G58, hsl57, y63, e63, y64, e64, y65, e65, y66, e66, x68, w70, G73, hj2, -, -, hF73, r78, G79, htr, G84, -, hF84, w84, r90, G91, hst, hh⟩
  · exact Or.inl ⟨fun q => absurd c3 (ki.mpr ⟨q.2.2.1, q.2.2.2⟩), m1, rfl⟩
  have hVG : VGo V (G.1 110) p0 := ⟨hWk.1.1, by rw [← e5]; exact c2, (ki.mp c3).1, (ki.mp c3).2⟩
  clear ki c3 hj1 t15 t9
  refine Or.inr ⟨hVG, G31, ha, ?_⟩
  have a110 : G31.1 110 = G.1 110 := ha.2.1.row1 110 (by decide) (by decide)
  rw [z1, a110] at e35
  rw [z8, a110] at e36
  rw [e7, e35, e36] at hlay
  have hR31 : RV V G31 := hR.fr ha.2.1 (by decide) (by decide)
  have hFl := hlay.2.1
  obtain ⟨⟨f1, f2, -, -, -⟩, hlw⟩ := m_lay (t := (G.1 110 8).toInt.toNat) hlay hwn hwl hsn hsl (by have := hv.2.2.2; omega) (by have := hv.2.2.2; omega) hR31 hV (hok _ · hsl ·)
  rw [a110] at hlw
  have l110 : G39.1 110 = G.1 110 := (hFl.row1 110 (by decide) (by decide)).trans a110
  rw [z7, l110] at e43
  have e46' : y46 = goS (G.1 110) := by
    unfold goS
    rw [e46, e45, e44, e43]
  rw [z7, l110, e46'] at w47
  rw [z7, l110, ud_at, e46'] at e49
  have hR47 : RV V G47 := (hR31.fr hFl (by decide) (by decide)).fr hF47 (by decide) (by decide)
  obtain ⟨rfl, e57, t57⟩ := q_allSlips_eq hsl57 hR47
  obtain ⟨-, -, -, ⟨s0, s1, s2⟩, -⟩ := hR47
  have e64' : y64 = G.1 110 2 := by
    rw [e64, z2, w47, ud_no (by decide)]
  have t66 : y66.toInt = (slpV V).1 := by
    rw [e66]
    exact s0
  have e63' : y63 = goS (G.1 110) - goS (G.1 110) / all32 V * all32 V := by rw [e63, e49, e57]
  have hm94 : ∀ {Gq : GS}, Gq.1 94 = G.1 94 → (Gq.1 94 y7.toNatClampNeg).toInt = (wk V (G.1 110 0).toInt.toNat).2.2.1 := by
    intro Gq e
    rw [e, e7]
    exact k3
  have g94 : G47.1 94 = G.1 94 := (hF47.row1 94 (by decide) (by decide)).trans ((hFl.row1 94 (by decide) (by decide)).trans (ha.2.1.row1 94 (by decide) (by decide)))
  have hX : x68 = goX V (G.1 110) p0 ∧ w70 = goB V (G.1 110) p0 := by
    have hB : ∀ {y w : Int32}, y = G47.1 94 y7.toNatClampNeg → ((p0.toInt ≤ y.toInt ∧ 0 = w) ∨ (y.toInt < p0.toInt ∧ 1 = w)) → w = goB V (G.1 110) p0 := by
      intro y w ey hc
      have ty : y.toInt = (wk V (G.1 110 0).toInt.toNat).2.2.1 := by rw [ey]; exact hm94 g94
      unfold goB
      rcases hc with ⟨c, e⟩ | ⟨c, e⟩
      · rw [if_neg (by omega)]
        exact e.symm
      · rw [if_pos (by omega)]
        exact e.symm
    unfold goX slp
    rw [← e63', ← e64', ← e65]
    rcases hj2 with ⟨c, y125, e125, y127, e127, y129, t129, ⟨d, y131, e131, y132, e132, hc⟩ | ⟨d, y137, t137, y139, e139, hc⟩⟩ | ⟨c, y144, e144, y145, e145, hc⟩
    · have t125 : y125.toInt = (slpV V).1 := by rw [e125]; exact s0
      have t127 : y127.toInt = (slpV V).2.1 := by rw [e127]; exact s1
      rw [if_neg (by omega), if_neg (by omega)]
      rcases hc with ⟨f, ex, ew, -⟩ | ⟨f, ex, ew, -⟩
      · exact ⟨by rw [← ex, e131], hB e132 (Or.inl ⟨f, ew⟩)⟩
      · exact ⟨by rw [← ex, e131], hB e132 (Or.inr ⟨f, ew⟩)⟩
    · have t125 : y125.toInt = (slpV V).1 := by rw [e125]; exact s0
      have t127 : y127.toInt = (slpV V).2.1 := by rw [e127]; exact s1
      have e137 : y137 = y65 := Int32.toInt_inj.mp (by omega)
      rw [if_neg (by omega), if_pos (by omega), Int32.add_zero]
      rcases hc with ⟨f, ex, ew, -⟩ | ⟨f, ex, ew, -⟩
      · exact ⟨by rw [← ex, e137], hB e139 (Or.inl ⟨f, ew⟩)⟩
      · exact ⟨by rw [← ex, e137], hB e139 (Or.inr ⟨f, ew⟩)⟩
    · rw [if_pos (by omega)]
      rcases hc with ⟨f, ex, ew, -⟩ | ⟨f, ex, ew, -⟩
      · exact ⟨by rw [← ex, e144], hB e145 (Or.inl ⟨f, ew⟩)⟩
      · exact ⟨by rw [← ex, e144], hB e145 (Or.inr ⟨f, ew⟩)⟩
  obtain ⟨rfl, hw70⟩ := hX
  clear hj2
  have e73 := hF73.nil
  subst e73
  obtain ⟨rfl, t78⟩ := q_truth htr
  have e78 : r78 = goB V (G.1 110) p0 := (Int32.toInt_inj.mp t78).trans hw70
  have w84' : G84.1 110 = go0 V (G.1 110) p0 := by
    rw [w84, z5, w47, e78]
    rfl
  obtain ⟨rfl, ks⟩ := q_stands1_eq hst
  have g60 : ∀ j, j = 59 ∨ j = 60 → G84.1 66 j = G39.1 66 j := by
    intro j hj
    rcases hj with rfl | rfl <;> rw [hF84.i 66 _ (by decide) (by decide), hF47.i 66 _ (by decide) (by decide)]
  rw [g60 59 (Or.inl rfl), g60 60 (Or.inr rfl), f1, f2] at ks
  have hF84' : Fr [110, 76, 97, 98] [(66, 59), (66, 60), (66, 61), (66, 62), (66, 63)] G31 G84 := ((Fr.call Fr.rf hFl (by decide) (by decide)).call hF47 (by decide) (by decide)).call hF84 (by decide) (by decide)
  rcases hh with ⟨c4, rfl, hFe, we⟩ | ⟨c4, y99, e99, y100, e100, G101, -, hF101, w101, r103, G104, hsd, y111, e111, rfl, hFe, we⟩
  · have hno : ¬ (0 ≤ (goX V (G.1 110) p0).toInt ∧ (goX V (G.1 110) p0).toInt + (wk V (G.1 110 0).toInt.toNat).1 ≤ (stl V (G.1 110 1).toInt.toNat : Int)) := fun q => absurd c4 (ks.mpr q)
    rw [z4, w84'] at we
    refine ⟨hF84'.call hFe (by decide) (by decide), ?_, ?_⟩
    · rw [we]
      unfold goR
      rw [if_neg hno]
    · rw [we, ud_at]
  · have hyes := ks.mp c4
    clear ks c4
    obtain ⟨rfl, q1, q2⟩ := q_stands_eq hsd
    rw [z2, z3, w84'] at e99 w101
    rw [ud_no (by decide)] at e99
    have e99' : y99 = G.1 110 3 := by
      rw [e99]
      unfold go0
      rw [ud_no (by decide), ud_no (by decide)]
    have hl4 : (stl V (G.1 110 1).toInt.toNat : Int) ≤ 400 := (hR.1.2.2 _ hsl).2
    have hxn : (goX V (G.1 110) p0).toInt = ((goX V (G.1 110) p0).toInt.toNat : Int) := by omega
    have hf0 : 0 ≤ (wk V (G.1 110 0).toInt.toNat).1 := by
      rw [← f2]
      exact (hlay.1.i 66 60 (lo := 0) (hi := 12) rfl rfl).1
    have l98 : (G101.1 98 (goX V (G.1 110) p0).toNatClampNeg).toInt ≠ 0 ↔ LWF V (G.1 110 6) (G.1 110 0).toInt.toNat (G.1 110 1).toInt.toNat (G.1 110 8).toInt.toNat (goX V (G.1 110) p0).toInt := by
      rw [hF101.row1 98 (by decide) (by decide), hF84.row1 98 (by decide) (by decide), hF47.row1 98 (by decide) (by decide)]
      have := (hlw (goX V (G.1 110) p0).toInt.toNat (by clear q2; omega)).2
      rw [← hxn] at this
      exact this
    have e9' : G101.1 110 9 = G.1 110 9 := by
      rw [w101]
      unfold go0
      rw [ud_no (by decide), ud_no (by decide), ud_no (by decide), ud_no (by decide)]
    rw [e9', l98] at q2
    have hr := pif_r q1 q2
    rw [z4, w101, e100, e99', hr] at we
    refine ⟨(hF84'.call hF101 (by decide) (by decide)).call hFe (by decide) (by decide), ?_, ?_⟩
    · rw [we]
      unfold goR
      rw [if_pos hyes]
    · rw [e111, z4, ud_at, we, ud_at, hr]
theorem k_wLawful_1_eq {V : PV} {r : Int32} {G G1 : GS} {w s t : Nat} (h : P_wLawful_1 G r G1) (hW : CW_1 V G) (hR3 : V.1.length ≤ 3) (hV : PVok V) (hCa : CaC_1 V G) (hw : (G.1 58 0).toInt = (w : Int)) (hwl : w < V.2.1.length) (hs : (G.1 58 1).toInt = (s : Int)) (hsl : s < V.1.length) (ht : (G.1 58 8).toInt = (t : Int)) (ht64 : t < 64) (hd0 : 0 ≤ (G.1 58 6).toInt) : CaC_1 V G1 ∧ (r.toInt = 0 ∨ r.toInt = 1) ∧ (r.toInt ≠ 0 ↔ ((G.1 58 9).toInt = 1 ∨ LWF V (G.1 58 6) w s t (G.1 58 2).toInt)) := by
  obtain ⟨z0, z1, z2, -, -, -, -, -, z8, z9, -, -⟩ := z32
  have o1 : (1 : Int32).toInt = 1 := rfl
  have z00 : (0 : Int32).toInt = 0 := rfl
  obtain ⟨-, -, -, y1, e1, r2, G3, htd, G8, hfi, y12, e12, hh⟩ := h
  obtain ⟨rfl, e2⟩ := k_today_eq htd
  rw [z1] at e1
  obtain ⟨hFo, hCa2⟩ := k_find_1 (s := s) hfi (by rw [e1]; exact hs) hsl hR3 hW hV (by rw [e2]; exact hd0) hCa
  rw [e2] at hFo
  have r58 : G8.1 58 = G.1 58 := hfi.2.1.row1 58 (by decide) (by decide)
  rw [z9, r58] at e12
  rcases hh with ⟨c, rfl, rfl⟩ | ⟨c, y14, e14, y15, e15, y16, e16, r17, G18, hil, hh⟩
  · exact ⟨hCa2, Or.inr o1, fun _ => Or.inl (by rw [← e12]; exact c), fun _ => by rw [o1]; decide⟩
  · rw [z0, r58] at e14
    rw [z8, r58] at e15
    rw [z2, r58] at e16
    obtain ⟨rfl, kl⟩ := k_isLawful_1 (w := w) (s := s) (t := t) hil (by rw [e14]; exact hw) hwl (by rw [e1]; exact hs) hsl (by rw [e15]; exact ht) ht64 (hW.fr hfi.2.1 (by decide) (by decide)) hV hFo
    rw [e16] at kl
    rcases hh with ⟨f, rfl, rfl⟩ | ⟨f, rfl, rfl⟩
    · exact ⟨hCa2, Or.inl z00, fun q => absurd z00 q, fun q => by
        rcases q with q | q
        · exact absurd (by rw [e12]; exact q) c
        · exact absurd f (kl.mpr q)⟩
    · exact ⟨hCa2, Or.inr o1, fun _ => Or.inr (kl.mp f), fun _ => by rw [o1]; decide⟩
theorem k_standsV_1 {V : PV} {p0 p1 p2 r : Int32} {G G1 : GS} (h : P_stands_1 p0 p1 p2 G r G1) (hW : CW_1 V G) : G = G1 ∧ (r.toInt ≠ 0 ↔ (inW V p0 ∧ inS V p1 ∧ 0 ≤ p2.toInt ∧ p2.toInt + (wk V p0.toInt.toNat).1 ≤ (stl V p1.toInt.toNat : Int))) := by
  obtain ⟨e, k⟩ := k_stands_1_eq h hW
  refine ⟨e, k.trans ⟨fun q => ⟨q.1, q.2.1, q.2.2.1, ?_⟩, fun q => ⟨q.1, q.2.1, q.2.2.1, ?_⟩⟩⟩
  · have := q.2.2.2
    unfold wk stl
    omega
  · have := q.2.2.2
    unfold wk stl at this
    omega
theorem walk_1 {V : PV} {p0 p1 p2 q0 q1 q2 r r' : Int32} {G Ga Gb : GS} (hx : P_Wwalk_1 p0 p1 p2 G r Ga) (hm : Q_walk q0 q1 q2 Ga r' Gb) (i0 : p0.toInt = q0.toInt) (i1 : p1.toInt = q1.toInt) (i2 : p2.toInt = q2.toInt) (hI : IV_1 V G) : r.toInt = r'.toInt ∧ IV_1 V Gb := by
  obtain rfl := Int32.toInt_inj.mp i0
  obtain rfl := Int32.toInt_inj.mp i1
  obtain rfl := Int32.toInt_inj.mp i2
  have hFx := hx.2.1
  have hFm := hm.2.1
  have m1 : (-1 : Int32).toInt = -1 := rfl
  obtain ⟨z0, z1, z2, z3, z4, z5, z6, z7, z8, z9, -, -⟩ := z32
  obtain ⟨hW, hR, hV, hCa, hE, hSV⟩ := hI
  obtain ⟨n, m, hEn⟩ := hE.1
  have hnow := hEn.now
  have hRa : RV V Ga := hR.fr hFx (by decide) (by decide)
  have a110 : Ga.1 110 = G.1 110 := hFx.row1 110 (by decide) (by decide)
  have e8 : G.1 110 8 = G.1 58 8 := hEn.2.1 8 (by decide)
  have hM := m_walk hm hRa hV (fun s i hs hi => hW.ok hs i hi) (by rw [a110, e8]; exact hnow.2.2.2)
  rw [a110] at hM
  have hC : (¬ VWk V p0 p1 p2 ∧ r.toInt = -1 ∧ G = Ga) ∨ (VWk V p0 p1 p2 ∧ ∃ Gc, Fr [37, 38, 39, 58] [(6, 3)] G Gc ∧ P_eKeep Gc Ga ∧ CaC_1 V Ga ∧ Gc.1 58 = wkR V (G.1 58) p0 p1 p2 ∧ r = Gc.1 58 4) := by
    clear hM hm
    obtain ⟨-, -, -, r1, G2, hst, hh⟩ := hx
    obtain ⟨rfl, k1⟩ := k_standsV_1 hst hW
    rcases hh with ⟨c, rfl, rfl⟩ | ⟨c, y12, e12, hh⟩
    · exact Or.inl ⟨fun q => absurd c (k1.mpr ⟨q.1, q.2.1, q.2.2.1, q.2.2.2.1⟩), m1, rfl⟩
    obtain ⟨hWk, hS, h0, h1⟩ := k1.mp c
    clear k1 c
    obtain ⟨hwl, hwn⟩ := hWk.n
    obtain ⟨hsl, hsn⟩ := hS.n
    have t12 : y12.toInt = (wk V p0.toInt.toNat).2.2.1 := by
      rw [e12]
      exact (hW.2.1.2 _ hwl).2.2.1
    rcases hh with ⟨d, G15, hso, r19, G20, hlw, hh⟩ | ⟨d, rfl, rfl⟩
    rotate_left
    · exact Or.inl ⟨fun q => by have := q.2.2.2.2; omega, m1, rfl⟩
    have hVW : VWk V p0 p1 p2 := ⟨hWk, hS, h0, h1, by omega⟩
    have hFs := hso.2.1
    have w15 : G15.1 58 = setr (G.1 58) p0 p1 p2 1 := by
      rw [hso.2.2.2]
      rfl
    obtain ⟨s0, s1, s2, s4, s6, s8, s9⟩ := setr_at (v := G.1 58) (p0 := p0) (p1 := p1) (p2 := p2) (h := 1)
    obtain ⟨hCa2, q1, q2⟩ := k_wLawful_1_eq (w := p0.toInt.toNat) (s := p1.toInt.toNat) (t := (G.1 58 8).toInt.toNat) hlw (hW.fr hFs (by decide) (by decide)) hR.1.2.1 hV (hCa.fr (hFs.row1 37 (by decide) (by decide)) (hFs.row1 38 (by decide) (by decide))) (by rw [w15, s0]; exact hwn) hwl (by rw [w15, s1]; exact hsn) hsl (by rw [w15, s8]; have := hnow.2.2.2; omega) (by have := hnow.2.2.2; omega) (by rw [w15, s6]; exact hnow.2.1.1)
    rw [w15, s9, s6, s2] at q2
    have hr := pif_r q1 q2
    have r20 : G20.1 58 = setr (G.1 58) p0 p1 p2 1 := (hlw.2.1.row1 58 (by decide) (by decide)).trans w15
    have hF20 : Fr [37, 38, 39, 58] [(6, 3)] G G20 := (Fr.call Fr.rf hFs (by decide) (by decide)).call hlw.2.1 (by decide) (by decide)
    refine Or.inr ⟨hVW, ?_⟩
    rcases hh with ⟨f, G34, -, hF34, w34, G36, hk, y40, e40, rfl, rfl⟩ | ⟨f, G27, hk, y31, e31, rfl, rfl⟩
    · have hno : ¬ ((G.1 58 9).toInt = 1 ∨ LWF V (G.1 58 6) p0.toInt.toNat p1.toInt.toNat (G.1 58 8).toInt.toNat p2.toInt) := fun q => (q2.mpr q) f
      rw [z4, r20, setr_4] at w34
      have h34 : G34.1 58 = wkR V (G.1 58) p0 p1 p2 := by
        rw [w34]
        unfold wkR
        rw [pif_n hno]
      refine ⟨G34, hF20.call hF34 (by decide) (by decide), hk, ?_, h34, ?_⟩
      · exact (hCa2.fr (hF34.row1 37 (by decide) (by decide)) (hF34.row1 38 (by decide) (by decide))).fr (hk.2.1.row1 37 (by decide) (by decide)) (hk.2.1.row1 38 (by decide) (by decide))
      · rw [e40, z4, hk.2.1.row1 58 (by decide) (by decide)]
    · have hyes := q2.mp f
      have h27 : G20.1 58 = wkR V (G.1 58) p0 p1 p2 := by
        rw [r20]
        unfold wkR
        rw [pif_p hyes]
      refine ⟨G20, hF20, hk, ?_, h27, ?_⟩
      · exact hCa2.fr (hk.2.1.row1 37 (by decide) (by decide)) (hk.2.1.row1 38 (by decide) (by decide))
      · rw [e31, z4, hk.2.1.row1 58 (by decide) (by decide)]
  rcases hC with ⟨n1, v1, rfl⟩ | ⟨y1, Gc, hFc, hk, hCaa, hrow, hr⟩
  · rcases hM with ⟨n2, v2, hFb⟩ | ⟨y2, -⟩
    · exact ⟨by rw [v1, v2], IV_1.fr ⟨hW, hR, hV, hCa, hE, hSV⟩ hFb (by decide) (by decide) (by decide)⟩
    · exact absurd y2 n1
  · rcases hM with ⟨n2, -⟩ | ⟨y2, Gm, Gn, hFm1, ha, hFn, hrow2, hr2⟩
    · exact absurd y1 n2
    · have zr : ∀ j, j < 10 → Gb.1 110 j = Gc.1 58 j := fun j hj => by
        rw [hrow2, hrow]
        exact wkR_cg hEn.2.1 j hj
      refine ⟨by rw [hr, hr2, zr 4 (by decide)], (hW.fr hFx (by decide) (by decide)).fr hFm (by decide) (by decide), hRa.fr hFm (by decide) (by decide), hV, hCaa.fr (hFm.row1 37 (by decide) (by decide)) (hFm.row1 38 (by decide) (by decide)), ER_ac hE hFc hk hFm1 ha hFn ?_ zr (by decide) (by decide) (by decide), (hSV.fr hFx (by decide) (by decide)).fr hFm (by decide) (by decide)⟩
      rw [hrow]
      exact hnow.set y1.1 y1.2.1
theorem k_slipBy_1_eq {V : PV} {p0 r : Int32} {G G1 : GS} (h : P_slipBy_1 p0 G r G1) (hW : CW_1 V G) (hs1 : 1 ≤ (slpV V).1 + (slpV V).2.1 + (slpV V).2.2) : G = G1 ∧ r = slp V p0 := by
  obtain ⟨-, hF, -, r1, G2, hal, w8, G9, hj, -, hF9, y13, e13, hh⟩ := h
  refine ⟨hF.nil, ?_⟩
  obtain ⟨-, hFa, -, y1, e1, y2, e2, y3, t3, y4, e4, y5, t5, rfl, rfl⟩ := hal
  obtain ⟨-, -, -, ⟨s0, s1, s2⟩, -⟩ := hW
  have t1 : y1.toInt = (slpV V).1 := by rw [e1]; exact s0
  have t2 : y2.toInt = (slpV V).2.1 := by rw [e2]; exact s1
  have t4 : y4.toInt = (slpV V).2.2 := by rw [e4]; exact s2
  have t5' : y5.toInt = (slpV V).1 + (slpV V).2.1 + (slpV V).2.2 := by omega
  have e5 : y5 = all32 V := of_i t5'
  have e9 := hF9.nil
  subst e9
  have hw8 : w8 = p0 - p0 / all32 V * all32 V := by
    rcases hj with ⟨c, -⟩ | ⟨c, y20, e20, ew, -⟩
    · omega
    · rw [← ew, e20, e5]
  have t13 : y13.toInt = (slpV V).1 := by rw [e13]; exact s0
  unfold slp
  rw [← hw8]
  rcases hh with ⟨c, y15, e15, y16, e16, y17, t17, ⟨d, rfl, -⟩ | ⟨d, rfl, -⟩⟩ | ⟨c, rfl, -⟩
  · have t15 : y15.toInt = (slpV V).1 := by rw [e15]; exact s0
    have t16 : y16.toInt = (slpV V).2.1 := by rw [e16]; exact s1
    rw [if_neg (by omega), if_neg (by omega)]
  · have t15 : y15.toInt = (slpV V).1 := by rw [e15]; exact s0
    have t16 : y16.toInt = (slpV V).2.1 := by rw [e16]; exact s1
    rw [if_neg (by omega), if_pos (by omega)]
  · rw [if_pos (by omega)]
theorem k_wGo_1_eq {V : PV} {p0 r : Int32} {G G1 : GS} (h : P_wGo_1 p0 G r G1) (hW : CW_1 V G) (hv : ROK V (G.1 58)) : G = G1 ∧ (r.toInt ≠ 0 ↔ VGo V (G.1 58) p0) := by
  obtain ⟨z0, -, -, -, z4, z5, -, -, -, -, -, -⟩ := z32
  have o1 : (1 : Int32).toInt = 1 := rfl
  have z00 : (0 : Int32).toInt = 0 := rfl
  obtain ⟨-, hF, -, -, y1, e1, r3, G4, hhw, hh⟩ := h
  refine ⟨hF.nil, ?_⟩
  rw [z0] at e1
  obtain ⟨rfl, k1⟩ := k_hasWalkerV_1 hhw hW
  rcases hh with ⟨c, rfl, -⟩ | ⟨c, y10, e10, hh⟩
  · refine ⟨fun q => absurd z00 q, fun q => absurd c (k1.mpr ?_)⟩
    rw [e1]
    rcases hv.1 with w | w
    · exact absurd q.1 (by omega)
    · exact ⟨w.1, w.2.1⟩
  have hWk := k1.mp c
  clear k1 c
  rw [e1] at hWk
  obtain ⟨hwl, hwn⟩ := hWk.n
  obtain ⟨k1, k2, k3, k4⟩ := hW.2.1.2 _ hwl
  rw [z4] at e10
  rcases hh with ⟨c, y12, e12, hh⟩ | ⟨c, rfl, -⟩
  rotate_left
  · exact ⟨fun q => absurd z00 q, fun q => absurd (by rw [e10]; exact q.2.1) c⟩
  have t12 : y12.toInt = (wk V (G.1 58 0).toInt.toNat).2.1 := by
    rw [e12, e1]
    exact k2
  rcases hh with ⟨d, y14, e14, w18, G19, hj, -, -, hF19, hh⟩ | ⟨d, rfl, -⟩
  rotate_left
  · exact ⟨fun q => absurd z00 q, fun q => by have := q.2.2.1; omega⟩
  rw [z5] at e14
  have e19 := hF19.nil
  subst e19
  have hw18 : w18.toInt = 0 ↔ ¬ (G.1 58 5).toInt = 1 := by
    rw [← e14]
    rcases hj with ⟨f, ew, -⟩ | ⟨f, ew, -⟩
    · rw [← ew]
      exact ⟨fun q => absurd q (by decide), fun q => absurd f q⟩
    · rw [← ew]
      exact ⟨fun _ => f, fun _ => rfl⟩
  have ht : ∀ {y : Int32}, y.toInt = (if (G.1 58 5).toInt = 1 then (wk V (G.1 58 0).toInt.toNat).2.2.1 else (wk V (G.1 58 0).toInt.toNat).2.2.2) → ((y.toInt < p0.toInt ∧ 0 = r) ∨ (p0.toInt ≤ y.toInt ∧ 1 = r)) → (r.toInt ≠ 0 ↔ VGo V (G.1 58) p0) := by
    intro y ty hc
    rcases hc with ⟨f, rfl⟩ | ⟨f, rfl⟩
    · refine ⟨fun q => absurd z00 q, fun q => ?_⟩
      have := q.2.2.2
      rw [← ty] at this
      omega
    · refine ⟨fun _ => ⟨hWk.1, by rw [← e10]; exact c, by rw [← t12]; exact d, by rw [← ty]; exact f⟩, fun _ => by rw [o1]; decide⟩
  rcases hh with ⟨c18, y, ey, hh⟩ | ⟨c18, y, ey, hh⟩
  · have h5 := hw18.mp c18
    refine ht (y := y) ?_ ?_
    · rw [if_neg h5, ey, e1]
      exact k4
    · rcases hh with ⟨f, e, -⟩ | ⟨f, e, -⟩
      · exact Or.inl ⟨f, e⟩
      · exact Or.inr ⟨f, e⟩
  · have h5 : (G.1 58 5).toInt = 1 := Classical.byContradiction (fun q => c18 (hw18.mpr q))
    refine ht (y := y) ?_ ?_
    · rw [if_pos h5, ey, e1]
      exact k3
    · rcases hh with ⟨f, e, -⟩ | ⟨f, e, -⟩
      · exact Or.inl ⟨f, e⟩
      · exact Or.inr ⟨f, e⟩
theorem go_1 {V : PV} {p0 q0 r r' : Int32} {G Ga Gb : GS} (hx : P_Wgo_1 p0 G r Ga) (hm : Q_go q0 Ga r' Gb) (i0 : p0.toInt = q0.toInt) (hI : IV_1 V G) (hs1 : 1 ≤ (slpV V).1 + (slpV V).2.1 + (slpV V).2.2) : r.toInt = r'.toInt ∧ IV_1 V Gb := by
  obtain rfl := Int32.toInt_inj.mp i0
  have hFx := hx.2.1
  have hFm := hm.2.1
  have m1 : (-1 : Int32).toInt = -1 := rfl
  obtain ⟨z0, z1, z2, z3, z4, z5, z6, z7, z8, z9, -, -⟩ := z32
  obtain ⟨hW, hR, hV, hCa, hE, hSV⟩ := hI
  obtain ⟨n, m, hEn⟩ := hE.1
  have hnow := hEn.now
  have hRa : RV V Ga := hR.fr hFx (by decide) (by decide)
  have a110 : Ga.1 110 = G.1 110 := hFx.row1 110 (by decide) (by decide)
  have hM := m_go hm hRa hV (fun s i hs hi => hW.ok hs i hi) (by rw [a110]; exact hEn.now2)
  rw [a110] at hM
  have hC : (¬ VGo V (G.1 58) p0 ∧ r.toInt = -1 ∧ G = Ga) ∨ (VGo V (G.1 58) p0 ∧ ∃ Gc, Fr [37, 38, 39, 58] [(6, 3)] G Gc ∧ P_eKeep Gc Ga ∧ CaC_1 V Ga ∧ Gc.1 58 = goR V (G.1 58) p0 ∧ r = Gc.1 58 4) := by
    clear hM hm
    obtain ⟨-, -, -, r1, G2, hgo, hh⟩ := hx
    obtain ⟨rfl, k1⟩ := k_wGo_1_eq hgo hW hnow
    rcases hh with ⟨c, rfl, rfl⟩ | ⟨c, y8, e8, G11, hdr, y15, e15, y16, e16, y17, e17, r18, G19, hsb, y24, e24, y25, e25, x26, w30, G33, hj, -, -, hF33, y39, e39, G38, -, hF38, w38, r42, G43, hst, hh⟩
    · exact Or.inl ⟨fun q => absurd c (k1.mpr q), m1, rfl⟩
    have hVG := k1.mp c
    clear k1 c
    have hWS : inW V (G.1 58 0) ∧ inS V (G.1 58 1) := by
      rcases hnow.1 with q | q
      · have := hVG.1
        omega
      · exact ⟨⟨q.1, q.2.1⟩, ⟨q.2.2.1, q.2.2.2⟩⟩
    obtain ⟨hwl, hwn⟩ := hWS.1.n
    obtain ⟨hsl, hsn⟩ := hWS.2.n
    rw [z0] at e8
    have hFd := hdr.2.1
    obtain ⟨-, -, d1, f1, d2, f2, d3, f3, d4, f4, -, w11⟩ := hdr
    rw [z7] at f1 w11
    have f4' : d4 = goS (G.1 58) := by
      unfold goS
      rw [f4, f3, f2, f1]
    rw [f4'] at w11
    rw [z2, w11, ud_no (by decide)] at e15
    rw [z7, w11, ud_at] at e17
    have hW11 : CW_1 V G11 := hW.fr hFd (by decide) (by decide)
    obtain ⟨rfl, e18⟩ := k_slipBy_1_eq hsb hW11 hs1
    have e24' : y24 = goX V (G.1 58) p0 := by
      unfold goX
      rw [e24, e16, e15, e18, e17]
    have t25 : y25.toInt = (wk V (G.1 58 0).toInt.toNat).2.2.1 := by
      rw [e25, e8]
      exact (hW11.2.1.2 _ hwl).2.2.1
    have e33 := hF33.nil
    subst e33
    have hJ : x26 = goX V (G.1 58) p0 ∧ w30 = goB V (G.1 58) p0 := by
      unfold goB
      rcases hj with ⟨f, ex, ew, -⟩ | ⟨f, ex, ew, -⟩
      · exact ⟨by rw [← ex, e24'], by rw [if_neg (by omega)]; exact ew.symm⟩
      · exact ⟨by rw [← ex, e24'], by rw [if_pos (by omega)]; exact ew.symm⟩
    obtain ⟨rfl, rfl⟩ := hJ
    rw [z5, w11] at w38
    have w38' : G38.1 58 = go0 V (G.1 58) p0 := w38
    rw [z1, z5, w11, ud_no (by decide), ud_no (by decide)] at e39
    have hW38 : CW_1 V G38 := hW11.fr hF38 (by decide) (by decide)
    obtain ⟨rfl, ks⟩ := k_standsV_1 hst hW38
    rw [e8, e39] at ks
    have hF38' : Fr [37, 38, 39, 58] [(6, 3)] G G38 := (Fr.call Fr.rf hFd (by decide) (by decide)).call hF38 (by decide) (by decide)
    have hCa38 : CaC_1 V G38 := (hCa.fr (hFd.row1 37 (by decide) (by decide)) (hFd.row1 38 (by decide) (by decide))).fr (hF38.row1 37 (by decide) (by decide)) (hF38.row1 38 (by decide) (by decide))
    refine Or.inr ⟨hVG, ?_⟩
    rcases hh with ⟨c4, G49, -, hF49, w49, G51, hk, y55, e55, rfl, rfl⟩ | ⟨c4, y59, e59, y60, e60, G61, -, hF61, w61, r62, G63, hlw, hh⟩
    · have hno : ¬ (0 ≤ (goX V (G.1 58) p0).toInt ∧ (goX V (G.1 58) p0).toInt + (wk V (G.1 58 0).toInt.toNat).1 ≤ (stl V (G.1 58 1).toInt.toNat : Int)) := fun q => absurd c4 (ks.mpr ⟨hWS.1, hWS.2, q.1, q.2⟩)
      rw [z4, w38'] at w49
      refine ⟨G49, hF38'.call hF49 (by decide) (by decide), hk, ?_, ?_, ?_⟩
      · exact (hCa38.fr (hF49.row1 37 (by decide) (by decide)) (hF49.row1 38 (by decide) (by decide))).fr (hk.2.1.row1 37 (by decide) (by decide)) (hk.2.1.row1 38 (by decide) (by decide))
      · rw [w49]
        unfold goR
        rw [if_neg hno]
      · rw [e55, z4, hk.2.1.row1 58 (by decide) (by decide)]
    · obtain ⟨-, -, g1, g2⟩ := ks.mp c4
      clear ks c4
      rw [z2, z3, w38'] at e59 w61
      rw [ud_no (by decide)] at e59
      have e59' : y59 = G.1 58 3 := by
        rw [e59]
        unfold go0
        rw [ud_no (by decide), ud_no (by decide)]
      rw [e60, e59'] at w61
      have at61 : ∀ j, j = 0 ∨ j = 1 ∨ j = 6 ∨ j = 8 ∨ j = 9 → G61.1 58 j = G.1 58 j := by
        intro j hj
        rw [w61]
        unfold go0
        rcases hj with rfl | rfl | rfl | rfl | rfl <;> rw [ud_no (by decide), ud_no (by decide), ud_no (by decide), ud_no (by decide)]
      have at2 : G61.1 58 2 = goX V (G.1 58) p0 := by
        rw [w61, ud_no (by decide), ud_at]
      obtain ⟨hCa2, q1, q2⟩ := k_wLawful_1_eq (w := (G.1 58 0).toInt.toNat) (s := (G.1 58 1).toInt.toNat) (t := (G.1 58 8).toInt.toNat) hlw (hW38.fr hF61 (by decide) (by decide)) hR.1.2.1 hV (hCa38.fr (hF61.row1 37 (by decide) (by decide)) (hF61.row1 38 (by decide) (by decide))) (by rw [at61 0 (by simp)]; exact hwn) hwl (by rw [at61 1 (by simp)]; exact hsn) hsl (by rw [at61 8 (by simp)]; have := hnow.2.2.2; omega) (by have := hnow.2.2.2; omega) (by rw [at61 6 (by simp)]; exact hnow.2.1.1)
      rw [at61 9 (by simp), at61 6 (by simp), at2] at q2
      have hr := pif_r q1 q2
      have r63 : G63.1 58 = upd (upd (go0 V (G.1 58) p0) 2 (goX V (G.1 58) p0)) 3 (G.1 58 3 + 1) := (hlw.2.1.row1 58 (by decide) (by decide)).trans w61
      have hF63 : Fr [37, 38, 39, 58] [(6, 3)] G G63 := (hF38'.call hF61 (by decide) (by decide)).call hlw.2.1 (by decide) (by decide)
      have hyes : 0 ≤ (goX V (G.1 58) p0).toInt ∧ (goX V (G.1 58) p0).toInt + (wk V (G.1 58 0).toInt.toNat).1 ≤ (stl V (G.1 58 1).toInt.toNat : Int) := ⟨g1, g2⟩
      rcases hh with ⟨f, G69, -, hF69, w69, G71, hk, y75, e75, rfl, rfl⟩ | ⟨f, G78, -, hF78, w78, G80, hk, y84, e84, rfl, rfl⟩
      · have hno : ¬ ((G.1 58 9).toInt = 1 ∨ LWF V (G.1 58 6) (G.1 58 0).toInt.toNat (G.1 58 1).toInt.toNat (G.1 58 8).toInt.toNat (goX V (G.1 58) p0).toInt) := fun q => (q2.mpr q) f
        rw [z4, r63] at w69
        refine ⟨G69, hF63.call hF69 (by decide) (by decide), hk, ?_, ?_, ?_⟩
        · exact (hCa2.fr (hF69.row1 37 (by decide) (by decide)) (hF69.row1 38 (by decide) (by decide))).fr (hk.2.1.row1 37 (by decide) (by decide)) (hk.2.1.row1 38 (by decide) (by decide))
        · rw [w69]
          unfold goR
          rw [if_pos hyes, pif_n hno]
        · rw [e75, z4, hk.2.1.row1 58 (by decide) (by decide)]
      · have hy2 := q2.mp f
        rw [z4, r63] at w78
        refine ⟨G78, hF63.call hF78 (by decide) (by decide), hk, ?_, ?_, ?_⟩
        · exact (hCa2.fr (hF78.row1 37 (by decide) (by decide)) (hF78.row1 38 (by decide) (by decide))).fr (hk.2.1.row1 37 (by decide) (by decide)) (hk.2.1.row1 38 (by decide) (by decide))
        · rw [w78]
          unfold goR
          rw [if_pos hyes, pif_p hy2]
        · rw [e84, z4, hk.2.1.row1 58 (by decide) (by decide)]
  have hvv : VGo V (G.1 58) p0 ↔ VGo V (G.1 110) p0 := by
    unfold VGo
    rw [hEn.2.1 0 (by decide), hEn.2.1 4 (by decide), hEn.2.1 5 (by decide)]
  rcases hC with ⟨n1, v1, rfl⟩ | ⟨y1, Gc, hFc, hk, hCaa, hrow, hr⟩
  · rcases hM with ⟨n2, v2, rfl⟩ | ⟨y2, -⟩
    · exact ⟨by rw [v1, v2], hW, hR, hV, hCa, hE, hSV⟩
    · exact absurd (hvv.mpr y2) n1
  · rcases hM with ⟨n2, -⟩ | ⟨y2, Gn, ha, hFn, hrow2, hr2⟩
    · exact absurd (hvv.mp y1) n2
    · have zr : ∀ j, j < 10 → Gb.1 110 j = Gc.1 58 j := fun j hj => by
        rw [hrow2, hrow]
        exact goR_cg hEn.2.1 j hj
      refine ⟨by rw [hr, hr2, zr 4 (by decide)], (hW.fr hFx (by decide) (by decide)).fr hFm (by decide) (by decide), hRa.fr hFm (by decide) (by decide), hV, hCaa.fr (hFm.row1 37 (by decide) (by decide)) (hFm.row1 38 (by decide) (by decide)), ER_ac (rsm := []) (fsm := []) hE hFc hk Fr.rf ha hFn ?_ zr (by decide) (by decide) (by decide), (hSV.fr hFx (by decide) (by decide)).fr hFm (by decide) (by decide)⟩
      rw [hrow]
      exact hnow.go
/-- the ACTS that touch no LINE -/
theorem IV_1.er {V : PV} {rs : List Nat} {fs : List (Nat × Nat)} {rs' : List Nat} {fs' : List (Nat × Nat)} {G Ga Gb : GS} (h : IV_1 V G) (hF : Fr rs fs G Ga) (hF' : Fr rs' fs' Ga Gb) (hE : ER V Gb) (h1 : (∀ i ∈ [10, 11, 12, 13, 14, 15, 16, 17, 18, 37, 38, 61, 62, 63, 64, 65, 72, 73, 74, 87, 88, 89, 90, 91, 92, 93, 94, 95, 96, 112, 113, 114, 115, 116], i ∉ rs ∧ ∀ x ∈ fs, x.1 ≠ i) ∧ ∀ i ∈ [10, 11, 12, 13, 14, 15, 16, 17, 18, 37, 38, 61, 62, 63, 64, 65, 72, 73, 74, 87, 88, 89, 90, 91, 92, 93, 94, 95, 96, 112, 113, 114, 115, 116], i ∉ rs' ∧ ∀ x ∈ fs', x.1 ≠ i) (h2 : (∀ y ∈ [(1, 9), (1, 10), (1, 11), (1, 12), (1, 13), (1, 14), (1, 15), (1, 16), (31, 5), (66, 22), (66, 52), (66, 53), (66, 54), (66, 55), (66, 56), (66, 85)], y.1 ∉ rs ∧ y ∉ fs) ∧ ∀ y ∈ [(1, 9), (1, 10), (1, 11), (1, 12), (1, 13), (1, 14), (1, 15), (1, 16), (31, 5), (66, 22), (66, 52), (66, 53), (66, 54), (66, 55), (66, 56), (66, 85)], y.1 ∉ rs' ∧ y ∉ fs') : IV_1 V Gb := by
  obtain ⟨a, b, c, d, -, f⟩ := h
  have l1 : ∀ i ∈ [10, 11, 12, 13, 14, 15, 16, 17, 18], i ∈ [10, 11, 12, 13, 14, 15, 16, 17, 18, 37, 38, 61, 62, 63, 64, 65, 72, 73, 74, 87, 88, 89, 90, 91, 92, 93, 94, 95, 96, 112, 113, 114, 115, 116] := by decide
  have l2 : ∀ i ∈ [72, 73, 74, 87, 88, 89, 90, 91, 92, 93, 94, 95, 96], i ∈ [10, 11, 12, 13, 14, 15, 16, 17, 18, 37, 38, 61, 62, 63, 64, 65, 72, 73, 74, 87, 88, 89, 90, 91, 92, 93, 94, 95, 96, 112, 113, 114, 115, 116] := by decide
  have l3 : ∀ y ∈ [(1, 9), (1, 10), (1, 11), (1, 12), (1, 13), (1, 14), (1, 15), (1, 16)], y ∈ [(1, 9), (1, 10), (1, 11), (1, 12), (1, 13), (1, 14), (1, 15), (1, 16), (31, 5), (66, 22), (66, 52), (66, 53), (66, 54), (66, 55), (66, 56), (66, 85)] := by decide
  have l4 : ∀ y ∈ [(66, 22), (66, 52), (66, 53), (66, 54), (66, 55), (66, 56)], y ∈ [(1, 9), (1, 10), (1, 11), (1, 12), (1, 13), (1, 14), (1, 15), (1, 16), (31, 5), (66, 22), (66, 52), (66, 53), (66, 54), (66, 55), (66, 56), (66, 85)] := by decide
  have l5 : ∀ i ∈ [61, 62, 63, 64, 65, 112, 113, 114, 115, 116], i ∈ [10, 11, 12, 13, 14, 15, 16, 17, 18, 37, 38, 61, 62, 63, 64, 65, 72, 73, 74, 87, 88, 89, 90, 91, 92, 93, 94, 95, 96, 112, 113, 114, 115, 116] := by decide
  have l6 : ∀ y ∈ [(31, 5), (66, 85)], y ∈ [(1, 9), (1, 10), (1, 11), (1, 12), (1, 13), (1, 14), (1, 15), (1, 16), (31, 5), (66, 22), (66, 52), (66, 53), (66, 54), (66, 55), (66, 56), (66, 85)] := by decide
  refine ⟨(a.fr hF (fun i hi => h1.1 i (l1 i hi)) (fun y hy => h2.1 y (l3 y hy))).fr hF' (fun i hi => h1.2 i (l1 i hi)) (fun y hy => h2.2 y (l3 y hy)), (b.fr hF (fun i hi => h1.1 i (l2 i hi)) (fun y hy => h2.1 y (l4 y hy))).fr hF' (fun i hi => h1.2 i (l2 i hi)) (fun y hy => h2.2 y (l4 y hy)), c, d.fr ?_ ?_, hE, (f.fr hF (fun i hi => h1.1 i (l5 i hi)) (fun y hy => h2.1 y (l6 y hy))).fr hF' (fun i hi => h1.2 i (l5 i hi)) (fun y hy => h2.2 y (l6 y hy))⟩
  · rw [hF'.rows h1.2 (i := 37) (by decide), hF.rows h1.1 (i := 37) (by decide)]
  · rw [hF'.rows h1.2 (i := 38) (by decide), hF.rows h1.1 (i := 38) (by decide)]
theorem k_wLawful_2_eq {V : PV} {r : Int32} {G G1 : GS} {w s t : Nat} (h : P_wLawful_2 G r G1) (hW : CW_2 V G) (hR3 : V.1.length ≤ 3) (hV : PVok V) (hCa : CaC_2 V G) (hw : (G.1 58 0).toInt = (w : Int)) (hwl : w < V.2.1.length) (hs : (G.1 58 1).toInt = (s : Int)) (hsl : s < V.1.length) (ht : (G.1 58 8).toInt = (t : Int)) (ht64 : t < 64) (hd0 : 0 ≤ (G.1 58 6).toInt) : CaC_2 V G1 ∧ (r.toInt = 0 ∨ r.toInt = 1) ∧ (r.toInt ≠ 0 ↔ ((G.1 58 9).toInt = 1 ∨ LWF V (G.1 58 6) w s t (G.1 58 2).toInt)) := by
  obtain ⟨z0, z1, z2, -, -, -, -, -, z8, z9, -, -⟩ := z32
  have o1 : (1 : Int32).toInt = 1 := rfl
  have z00 : (0 : Int32).toInt = 0 := rfl
  obtain ⟨-, -, -, y1, e1, r2, G3, htd, G8, hfi, y12, e12, hh⟩ := h
  obtain ⟨rfl, e2⟩ := k_today_eq htd
  rw [z1] at e1
  obtain ⟨hFo, hCa2⟩ := k_find_2 (s := s) hfi (by rw [e1]; exact hs) hsl hR3 hW hV (by rw [e2]; exact hd0) hCa
  rw [e2] at hFo
  have r58 : G8.1 58 = G.1 58 := hfi.2.1.row1 58 (by decide) (by decide)
  rw [z9, r58] at e12
  rcases hh with ⟨c, rfl, rfl⟩ | ⟨c, y14, e14, y15, e15, y16, e16, r17, G18, hil, hh⟩
  · exact ⟨hCa2, Or.inr o1, fun _ => Or.inl (by rw [← e12]; exact c), fun _ => by rw [o1]; decide⟩
  · rw [z0, r58] at e14
    rw [z8, r58] at e15
    rw [z2, r58] at e16
    obtain ⟨rfl, kl⟩ := k_isLawful_2 (w := w) (s := s) (t := t) hil (by rw [e14]; exact hw) hwl (by rw [e1]; exact hs) hsl (by rw [e15]; exact ht) ht64 (hW.fr hfi.2.1 (by decide) (by decide)) hV hFo
    rw [e16] at kl
    rcases hh with ⟨f, rfl, rfl⟩ | ⟨f, rfl, rfl⟩
    · exact ⟨hCa2, Or.inl z00, fun q => absurd z00 q, fun q => by
        rcases q with q | q
        · exact absurd (by rw [e12]; exact q) c
        · exact absurd f (kl.mpr q)⟩
    · exact ⟨hCa2, Or.inr o1, fun _ => Or.inr (kl.mp f), fun _ => by rw [o1]; decide⟩
theorem k_standsV_2 {V : PV} {p0 p1 p2 r : Int32} {G G1 : GS} (h : P_stands_2 p0 p1 p2 G r G1) (hW : CW_2 V G) : G = G1 ∧ (r.toInt ≠ 0 ↔ (inW V p0 ∧ inS V p1 ∧ 0 ≤ p2.toInt ∧ p2.toInt + (wk V p0.toInt.toNat).1 ≤ (stl V p1.toInt.toNat : Int))) := by
  obtain ⟨e, k⟩ := k_stands_2_eq h hW
  refine ⟨e, k.trans ⟨fun q => ⟨q.1, q.2.1, q.2.2.1, ?_⟩, fun q => ⟨q.1, q.2.1, q.2.2.1, ?_⟩⟩⟩
  · have := q.2.2.2
    unfold wk stl
    omega
  · have := q.2.2.2
    unfold wk stl at this
    omega
theorem walk_2 {V : PV} {p0 p1 p2 q0 q1 q2 r r' : Int32} {G Ga Gb : GS} (hx : P_Wwalk_2 p0 p1 p2 G r Ga) (hm : Q_walk q0 q1 q2 Ga r' Gb) (i0 : p0.toInt = q0.toInt) (i1 : p1.toInt = q1.toInt) (i2 : p2.toInt = q2.toInt) (hI : IV_2 V G) : r.toInt = r'.toInt ∧ IV_2 V Gb := by
  obtain rfl := Int32.toInt_inj.mp i0
  obtain rfl := Int32.toInt_inj.mp i1
  obtain rfl := Int32.toInt_inj.mp i2
  have hFx := hx.2.1
  have hFm := hm.2.1
  have m1 : (-1 : Int32).toInt = -1 := rfl
  obtain ⟨z0, z1, z2, z3, z4, z5, z6, z7, z8, z9, -, -⟩ := z32
  obtain ⟨hW, hR, hV, hCa, hE, hSV⟩ := hI
  obtain ⟨n, m, hEn⟩ := hE.1
  have hnow := hEn.now
  have hRa : RV V Ga := hR.fr hFx (by decide) (by decide)
  have a110 : Ga.1 110 = G.1 110 := hFx.row1 110 (by decide) (by decide)
  have e8 : G.1 110 8 = G.1 58 8 := hEn.2.1 8 (by decide)
  have hM := m_walk hm hRa hV (fun s i hs hi => hW.ok hs i hi) (by rw [a110, e8]; exact hnow.2.2.2)
  rw [a110] at hM
  have hC : (¬ VWk V p0 p1 p2 ∧ r.toInt = -1 ∧ G = Ga) ∨ (VWk V p0 p1 p2 ∧ ∃ Gc, Fr [37, 38, 39, 58] [(6, 3)] G Gc ∧ P_eKeep Gc Ga ∧ CaC_2 V Ga ∧ Gc.1 58 = wkR V (G.1 58) p0 p1 p2 ∧ r = Gc.1 58 4) := by
    clear hM hm
    obtain ⟨-, -, -, r1, G2, hst, hh⟩ := hx
    obtain ⟨rfl, k1⟩ := k_standsV_2 hst hW
    rcases hh with ⟨c, rfl, rfl⟩ | ⟨c, y12, e12, hh⟩
    · exact Or.inl ⟨fun q => absurd c (k1.mpr ⟨q.1, q.2.1, q.2.2.1, q.2.2.2.1⟩), m1, rfl⟩
    obtain ⟨hWk, hS, h0, h1⟩ := k1.mp c
    clear k1 c
    obtain ⟨hwl, hwn⟩ := hWk.n
    obtain ⟨hsl, hsn⟩ := hS.n
    have t12 : y12.toInt = (wk V p0.toInt.toNat).2.2.1 := by
      rw [e12]
      exact (hW.2.1.2 _ hwl).2.2.1
    rcases hh with ⟨d, G15, hso, r19, G20, hlw, hh⟩ | ⟨d, rfl, rfl⟩
    rotate_left
    · exact Or.inl ⟨fun q => by have := q.2.2.2.2; omega, m1, rfl⟩
    have hVW : VWk V p0 p1 p2 := ⟨hWk, hS, h0, h1, by omega⟩
    have hFs := hso.2.1
    have w15 : G15.1 58 = setr (G.1 58) p0 p1 p2 1 := by
      rw [hso.2.2.2]
      rfl
    obtain ⟨s0, s1, s2, s4, s6, s8, s9⟩ := setr_at (v := G.1 58) (p0 := p0) (p1 := p1) (p2 := p2) (h := 1)
    obtain ⟨hCa2, q1, q2⟩ := k_wLawful_2_eq (w := p0.toInt.toNat) (s := p1.toInt.toNat) (t := (G.1 58 8).toInt.toNat) hlw (hW.fr hFs (by decide) (by decide)) hR.1.2.1 hV (hCa.fr (hFs.row1 37 (by decide) (by decide)) (hFs.row1 38 (by decide) (by decide))) (by rw [w15, s0]; exact hwn) hwl (by rw [w15, s1]; exact hsn) hsl (by rw [w15, s8]; have := hnow.2.2.2; omega) (by have := hnow.2.2.2; omega) (by rw [w15, s6]; exact hnow.2.1.1)
    rw [w15, s9, s6, s2] at q2
    have hr := pif_r q1 q2
    have r20 : G20.1 58 = setr (G.1 58) p0 p1 p2 1 := (hlw.2.1.row1 58 (by decide) (by decide)).trans w15
    have hF20 : Fr [37, 38, 39, 58] [(6, 3)] G G20 := (Fr.call Fr.rf hFs (by decide) (by decide)).call hlw.2.1 (by decide) (by decide)
    refine Or.inr ⟨hVW, ?_⟩
    rcases hh with ⟨f, G34, -, hF34, w34, G36, hk, y40, e40, rfl, rfl⟩ | ⟨f, G27, hk, y31, e31, rfl, rfl⟩
    · have hno : ¬ ((G.1 58 9).toInt = 1 ∨ LWF V (G.1 58 6) p0.toInt.toNat p1.toInt.toNat (G.1 58 8).toInt.toNat p2.toInt) := fun q => (q2.mpr q) f
      rw [z4, r20, setr_4] at w34
      have h34 : G34.1 58 = wkR V (G.1 58) p0 p1 p2 := by
        rw [w34]
        unfold wkR
        rw [pif_n hno]
      refine ⟨G34, hF20.call hF34 (by decide) (by decide), hk, ?_, h34, ?_⟩
      · exact (hCa2.fr (hF34.row1 37 (by decide) (by decide)) (hF34.row1 38 (by decide) (by decide))).fr (hk.2.1.row1 37 (by decide) (by decide)) (hk.2.1.row1 38 (by decide) (by decide))
      · rw [e40, z4, hk.2.1.row1 58 (by decide) (by decide)]
    · have hyes := q2.mp f
      have h27 : G20.1 58 = wkR V (G.1 58) p0 p1 p2 := by
        rw [r20]
        unfold wkR
        rw [pif_p hyes]
      refine ⟨G20, hF20, hk, ?_, h27, ?_⟩
      · exact hCa2.fr (hk.2.1.row1 37 (by decide) (by decide)) (hk.2.1.row1 38 (by decide) (by decide))
      · rw [e31, z4, hk.2.1.row1 58 (by decide) (by decide)]
  rcases hC with ⟨n1, v1, rfl⟩ | ⟨y1, Gc, hFc, hk, hCaa, hrow, hr⟩
  · rcases hM with ⟨n2, v2, hFb⟩ | ⟨y2, -⟩
    · exact ⟨by rw [v1, v2], IV_2.fr ⟨hW, hR, hV, hCa, hE, hSV⟩ hFb (by decide) (by decide) (by decide)⟩
    · exact absurd y2 n1
  · rcases hM with ⟨n2, -⟩ | ⟨y2, Gm, Gn, hFm1, ha, hFn, hrow2, hr2⟩
    · exact absurd y1 n2
    · have zr : ∀ j, j < 10 → Gb.1 110 j = Gc.1 58 j := fun j hj => by
        rw [hrow2, hrow]
        exact wkR_cg hEn.2.1 j hj
      refine ⟨by rw [hr, hr2, zr 4 (by decide)], (hW.fr hFx (by decide) (by decide)).fr hFm (by decide) (by decide), hRa.fr hFm (by decide) (by decide), hV, hCaa.fr (hFm.row1 37 (by decide) (by decide)) (hFm.row1 38 (by decide) (by decide)), ER_ac hE hFc hk hFm1 ha hFn ?_ zr (by decide) (by decide) (by decide), (hSV.fr hFx (by decide) (by decide)).fr hFm (by decide) (by decide)⟩
      rw [hrow]
      exact hnow.set y1.1 y1.2.1
theorem k_slipBy_2_eq {V : PV} {p0 r : Int32} {G G1 : GS} (h : P_slipBy_2 p0 G r G1) (hW : CW_2 V G) (hs1 : 1 ≤ (slpV V).1 + (slpV V).2.1 + (slpV V).2.2) : G = G1 ∧ r = slp V p0 := by
  obtain ⟨-, hF, -, r1, G2, hal, w8, G9, hj, -, hF9, y13, e13, hh⟩ := h
  refine ⟨hF.nil, ?_⟩
  obtain ⟨-, hFa, -, y1, e1, y2, e2, y3, t3, y4, e4, y5, t5, rfl, rfl⟩ := hal
  obtain ⟨-, -, -, ⟨s0, s1, s2⟩, -⟩ := hW
  have t1 : y1.toInt = (slpV V).1 := by rw [e1]; exact s0
  have t2 : y2.toInt = (slpV V).2.1 := by rw [e2]; exact s1
  have t4 : y4.toInt = (slpV V).2.2 := by rw [e4]; exact s2
  have t5' : y5.toInt = (slpV V).1 + (slpV V).2.1 + (slpV V).2.2 := by omega
  have e5 : y5 = all32 V := of_i t5'
  have e9 := hF9.nil
  subst e9
  have hw8 : w8 = p0 - p0 / all32 V * all32 V := by
    rcases hj with ⟨c, -⟩ | ⟨c, y20, e20, ew, -⟩
    · omega
    · rw [← ew, e20, e5]
  have t13 : y13.toInt = (slpV V).1 := by rw [e13]; exact s0
  unfold slp
  rw [← hw8]
  rcases hh with ⟨c, y15, e15, y16, e16, y17, t17, ⟨d, rfl, -⟩ | ⟨d, rfl, -⟩⟩ | ⟨c, rfl, -⟩
  · have t15 : y15.toInt = (slpV V).1 := by rw [e15]; exact s0
    have t16 : y16.toInt = (slpV V).2.1 := by rw [e16]; exact s1
    rw [if_neg (by omega), if_neg (by omega)]
  · have t15 : y15.toInt = (slpV V).1 := by rw [e15]; exact s0
    have t16 : y16.toInt = (slpV V).2.1 := by rw [e16]; exact s1
    rw [if_neg (by omega), if_pos (by omega)]
  · rw [if_pos (by omega)]
theorem k_wGo_2_eq {V : PV} {p0 r : Int32} {G G1 : GS} (h : P_wGo_2 p0 G r G1) (hW : CW_2 V G) (hv : ROK V (G.1 58)) : G = G1 ∧ (r.toInt ≠ 0 ↔ VGo V (G.1 58) p0) := by
  obtain ⟨z0, -, -, -, z4, z5, -, -, -, -, -, -⟩ := z32
  have o1 : (1 : Int32).toInt = 1 := rfl
  have z00 : (0 : Int32).toInt = 0 := rfl
  obtain ⟨-, hF, -, -, y1, e1, r3, G4, hhw, hh⟩ := h
  refine ⟨hF.nil, ?_⟩
  rw [z0] at e1
  obtain ⟨rfl, k1⟩ := k_hasWalkerV_2 hhw hW
  rcases hh with ⟨c, rfl, -⟩ | ⟨c, y10, e10, hh⟩
  · refine ⟨fun q => absurd z00 q, fun q => absurd c (k1.mpr ?_)⟩
    rw [e1]
    rcases hv.1 with w | w
    · exact absurd q.1 (by omega)
    · exact ⟨w.1, w.2.1⟩
  have hWk := k1.mp c
  clear k1 c
  rw [e1] at hWk
  obtain ⟨hwl, hwn⟩ := hWk.n
  obtain ⟨k1, k2, k3, k4⟩ := hW.2.1.2 _ hwl
  rw [z4] at e10
  rcases hh with ⟨c, y12, e12, hh⟩ | ⟨c, rfl, -⟩
  rotate_left
  · exact ⟨fun q => absurd z00 q, fun q => absurd (by rw [e10]; exact q.2.1) c⟩
  have t12 : y12.toInt = (wk V (G.1 58 0).toInt.toNat).2.1 := by
    rw [e12, e1]
    exact k2
  rcases hh with ⟨d, y14, e14, w18, G19, hj, -, -, hF19, hh⟩ | ⟨d, rfl, -⟩
  rotate_left
  · exact ⟨fun q => absurd z00 q, fun q => by have := q.2.2.1; omega⟩
  rw [z5] at e14
  have e19 := hF19.nil
  subst e19
  have hw18 : w18.toInt = 0 ↔ ¬ (G.1 58 5).toInt = 1 := by
    rw [← e14]
    rcases hj with ⟨f, ew, -⟩ | ⟨f, ew, -⟩
    · rw [← ew]
      exact ⟨fun q => absurd q (by decide), fun q => absurd f q⟩
    · rw [← ew]
      exact ⟨fun _ => f, fun _ => rfl⟩
  have ht : ∀ {y : Int32}, y.toInt = (if (G.1 58 5).toInt = 1 then (wk V (G.1 58 0).toInt.toNat).2.2.1 else (wk V (G.1 58 0).toInt.toNat).2.2.2) → ((y.toInt < p0.toInt ∧ 0 = r) ∨ (p0.toInt ≤ y.toInt ∧ 1 = r)) → (r.toInt ≠ 0 ↔ VGo V (G.1 58) p0) := by
    intro y ty hc
    rcases hc with ⟨f, rfl⟩ | ⟨f, rfl⟩
    · refine ⟨fun q => absurd z00 q, fun q => ?_⟩
      have := q.2.2.2
      rw [← ty] at this
      omega
    · refine ⟨fun _ => ⟨hWk.1, by rw [← e10]; exact c, by rw [← t12]; exact d, by rw [← ty]; exact f⟩, fun _ => by rw [o1]; decide⟩
  rcases hh with ⟨c18, y, ey, hh⟩ | ⟨c18, y, ey, hh⟩
  · have h5 := hw18.mp c18
    refine ht (y := y) ?_ ?_
    · rw [if_neg h5, ey, e1]
      exact k4
    · rcases hh with ⟨f, e, -⟩ | ⟨f, e, -⟩
      · exact Or.inl ⟨f, e⟩
      · exact Or.inr ⟨f, e⟩
  · have h5 : (G.1 58 5).toInt = 1 := Classical.byContradiction (fun q => c18 (hw18.mpr q))
    refine ht (y := y) ?_ ?_
    · rw [if_pos h5, ey, e1]
      exact k3
    · rcases hh with ⟨f, e, -⟩ | ⟨f, e, -⟩
      · exact Or.inl ⟨f, e⟩
      · exact Or.inr ⟨f, e⟩
theorem go_2 {V : PV} {p0 q0 r r' : Int32} {G Ga Gb : GS} (hx : P_Wgo_2 p0 G r Ga) (hm : Q_go q0 Ga r' Gb) (i0 : p0.toInt = q0.toInt) (hI : IV_2 V G) (hs1 : 1 ≤ (slpV V).1 + (slpV V).2.1 + (slpV V).2.2) : r.toInt = r'.toInt ∧ IV_2 V Gb := by
  obtain rfl := Int32.toInt_inj.mp i0
  have hFx := hx.2.1
  have hFm := hm.2.1
  have m1 : (-1 : Int32).toInt = -1 := rfl
  obtain ⟨z0, z1, z2, z3, z4, z5, z6, z7, z8, z9, -, -⟩ := z32
  obtain ⟨hW, hR, hV, hCa, hE, hSV⟩ := hI
  obtain ⟨n, m, hEn⟩ := hE.1
  have hnow := hEn.now
  have hRa : RV V Ga := hR.fr hFx (by decide) (by decide)
  have a110 : Ga.1 110 = G.1 110 := hFx.row1 110 (by decide) (by decide)
  have hM := m_go hm hRa hV (fun s i hs hi => hW.ok hs i hi) (by rw [a110]; exact hEn.now2)
  rw [a110] at hM
  have hC : (¬ VGo V (G.1 58) p0 ∧ r.toInt = -1 ∧ G = Ga) ∨ (VGo V (G.1 58) p0 ∧ ∃ Gc, Fr [37, 38, 39, 58] [(6, 3)] G Gc ∧ P_eKeep Gc Ga ∧ CaC_2 V Ga ∧ Gc.1 58 = goR V (G.1 58) p0 ∧ r = Gc.1 58 4) := by
    clear hM hm
    obtain ⟨-, -, -, r1, G2, hgo, hh⟩ := hx
    obtain ⟨rfl, k1⟩ := k_wGo_2_eq hgo hW hnow
    rcases hh with ⟨c, rfl, rfl⟩ | ⟨c, y8, e8, G11, hdr, y15, e15, y16, e16, y17, e17, r18, G19, hsb, y24, e24, y25, e25, x26, w30, G33, hj, -, -, hF33, y39, e39, G38, -, hF38, w38, r42, G43, hst, hh⟩
    · exact Or.inl ⟨fun q => absurd c (k1.mpr q), m1, rfl⟩
    have hVG := k1.mp c
    clear k1 c
    have hWS : inW V (G.1 58 0) ∧ inS V (G.1 58 1) := by
      rcases hnow.1 with q | q
      · have := hVG.1
        omega
      · exact ⟨⟨q.1, q.2.1⟩, ⟨q.2.2.1, q.2.2.2⟩⟩
    obtain ⟨hwl, hwn⟩ := hWS.1.n
    obtain ⟨hsl, hsn⟩ := hWS.2.n
    rw [z0] at e8
    have hFd := hdr.2.1
    obtain ⟨-, -, d1, f1, d2, f2, d3, f3, d4, f4, -, w11⟩ := hdr
    rw [z7] at f1 w11
    have f4' : d4 = goS (G.1 58) := by
      unfold goS
      rw [f4, f3, f2, f1]
    rw [f4'] at w11
    rw [z2, w11, ud_no (by decide)] at e15
    rw [z7, w11, ud_at] at e17
    have hW11 : CW_2 V G11 := hW.fr hFd (by decide) (by decide)
    obtain ⟨rfl, e18⟩ := k_slipBy_2_eq hsb hW11 hs1
    have e24' : y24 = goX V (G.1 58) p0 := by
      unfold goX
      rw [e24, e16, e15, e18, e17]
    have t25 : y25.toInt = (wk V (G.1 58 0).toInt.toNat).2.2.1 := by
      rw [e25, e8]
      exact (hW11.2.1.2 _ hwl).2.2.1
    have e33 := hF33.nil
    subst e33
    have hJ : x26 = goX V (G.1 58) p0 ∧ w30 = goB V (G.1 58) p0 := by
      unfold goB
      rcases hj with ⟨f, ex, ew, -⟩ | ⟨f, ex, ew, -⟩
      · exact ⟨by rw [← ex, e24'], by rw [if_neg (by omega)]; exact ew.symm⟩
      · exact ⟨by rw [← ex, e24'], by rw [if_pos (by omega)]; exact ew.symm⟩
    obtain ⟨rfl, rfl⟩ := hJ
    rw [z5, w11] at w38
    have w38' : G38.1 58 = go0 V (G.1 58) p0 := w38
    rw [z1, z5, w11, ud_no (by decide), ud_no (by decide)] at e39
    have hW38 : CW_2 V G38 := hW11.fr hF38 (by decide) (by decide)
    obtain ⟨rfl, ks⟩ := k_standsV_2 hst hW38
    rw [e8, e39] at ks
    have hF38' : Fr [37, 38, 39, 58] [(6, 3)] G G38 := (Fr.call Fr.rf hFd (by decide) (by decide)).call hF38 (by decide) (by decide)
    have hCa38 : CaC_2 V G38 := (hCa.fr (hFd.row1 37 (by decide) (by decide)) (hFd.row1 38 (by decide) (by decide))).fr (hF38.row1 37 (by decide) (by decide)) (hF38.row1 38 (by decide) (by decide))
    refine Or.inr ⟨hVG, ?_⟩
    rcases hh with ⟨c4, G49, -, hF49, w49, G51, hk, y55, e55, rfl, rfl⟩ | ⟨c4, y59, e59, y60, e60, G61, -, hF61, w61, r62, G63, hlw, hh⟩
    · have hno : ¬ (0 ≤ (goX V (G.1 58) p0).toInt ∧ (goX V (G.1 58) p0).toInt + (wk V (G.1 58 0).toInt.toNat).1 ≤ (stl V (G.1 58 1).toInt.toNat : Int)) := fun q => absurd c4 (ks.mpr ⟨hWS.1, hWS.2, q.1, q.2⟩)
      rw [z4, w38'] at w49
      refine ⟨G49, hF38'.call hF49 (by decide) (by decide), hk, ?_, ?_, ?_⟩
      · exact (hCa38.fr (hF49.row1 37 (by decide) (by decide)) (hF49.row1 38 (by decide) (by decide))).fr (hk.2.1.row1 37 (by decide) (by decide)) (hk.2.1.row1 38 (by decide) (by decide))
      · rw [w49]
        unfold goR
        rw [if_neg hno]
      · rw [e55, z4, hk.2.1.row1 58 (by decide) (by decide)]
    · obtain ⟨-, -, g1, g2⟩ := ks.mp c4
      clear ks c4
      rw [z2, z3, w38'] at e59 w61
      rw [ud_no (by decide)] at e59
      have e59' : y59 = G.1 58 3 := by
        rw [e59]
        unfold go0
        rw [ud_no (by decide), ud_no (by decide)]
      rw [e60, e59'] at w61
      have at61 : ∀ j, j = 0 ∨ j = 1 ∨ j = 6 ∨ j = 8 ∨ j = 9 → G61.1 58 j = G.1 58 j := by
        intro j hj
        rw [w61]
        unfold go0
        rcases hj with rfl | rfl | rfl | rfl | rfl <;> rw [ud_no (by decide), ud_no (by decide), ud_no (by decide), ud_no (by decide)]
      have at2 : G61.1 58 2 = goX V (G.1 58) p0 := by
        rw [w61, ud_no (by decide), ud_at]
      obtain ⟨hCa2, q1, q2⟩ := k_wLawful_2_eq (w := (G.1 58 0).toInt.toNat) (s := (G.1 58 1).toInt.toNat) (t := (G.1 58 8).toInt.toNat) hlw (hW38.fr hF61 (by decide) (by decide)) hR.1.2.1 hV (hCa38.fr (hF61.row1 37 (by decide) (by decide)) (hF61.row1 38 (by decide) (by decide))) (by rw [at61 0 (by simp)]; exact hwn) hwl (by rw [at61 1 (by simp)]; exact hsn) hsl (by rw [at61 8 (by simp)]; have := hnow.2.2.2; omega) (by have := hnow.2.2.2; omega) (by rw [at61 6 (by simp)]; exact hnow.2.1.1)
      rw [at61 9 (by simp), at61 6 (by simp), at2] at q2
      have hr := pif_r q1 q2
      have r63 : G63.1 58 = upd (upd (go0 V (G.1 58) p0) 2 (goX V (G.1 58) p0)) 3 (G.1 58 3 + 1) := (hlw.2.1.row1 58 (by decide) (by decide)).trans w61
      have hF63 : Fr [37, 38, 39, 58] [(6, 3)] G G63 := (hF38'.call hF61 (by decide) (by decide)).call hlw.2.1 (by decide) (by decide)
      have hyes : 0 ≤ (goX V (G.1 58) p0).toInt ∧ (goX V (G.1 58) p0).toInt + (wk V (G.1 58 0).toInt.toNat).1 ≤ (stl V (G.1 58 1).toInt.toNat : Int) := ⟨g1, g2⟩
      rcases hh with ⟨f, G69, -, hF69, w69, G71, hk, y75, e75, rfl, rfl⟩ | ⟨f, G78, -, hF78, w78, G80, hk, y84, e84, rfl, rfl⟩
      · have hno : ¬ ((G.1 58 9).toInt = 1 ∨ LWF V (G.1 58 6) (G.1 58 0).toInt.toNat (G.1 58 1).toInt.toNat (G.1 58 8).toInt.toNat (goX V (G.1 58) p0).toInt) := fun q => (q2.mpr q) f
        rw [z4, r63] at w69
        refine ⟨G69, hF63.call hF69 (by decide) (by decide), hk, ?_, ?_, ?_⟩
        · exact (hCa2.fr (hF69.row1 37 (by decide) (by decide)) (hF69.row1 38 (by decide) (by decide))).fr (hk.2.1.row1 37 (by decide) (by decide)) (hk.2.1.row1 38 (by decide) (by decide))
        · rw [w69]
          unfold goR
          rw [if_pos hyes, pif_n hno]
        · rw [e75, z4, hk.2.1.row1 58 (by decide) (by decide)]
      · have hy2 := q2.mp f
        rw [z4, r63] at w78
        refine ⟨G78, hF63.call hF78 (by decide) (by decide), hk, ?_, ?_, ?_⟩
        · exact (hCa2.fr (hF78.row1 37 (by decide) (by decide)) (hF78.row1 38 (by decide) (by decide))).fr (hk.2.1.row1 37 (by decide) (by decide)) (hk.2.1.row1 38 (by decide) (by decide))
        · rw [w78]
          unfold goR
          rw [if_pos hyes, pif_p hy2]
        · rw [e84, z4, hk.2.1.row1 58 (by decide) (by decide)]
  have hvv : VGo V (G.1 58) p0 ↔ VGo V (G.1 110) p0 := by
    unfold VGo
    rw [hEn.2.1 0 (by decide), hEn.2.1 4 (by decide), hEn.2.1 5 (by decide)]
  rcases hC with ⟨n1, v1, rfl⟩ | ⟨y1, Gc, hFc, hk, hCaa, hrow, hr⟩
  · rcases hM with ⟨n2, v2, rfl⟩ | ⟨y2, -⟩
    · exact ⟨by rw [v1, v2], hW, hR, hV, hCa, hE, hSV⟩
    · exact absurd (hvv.mpr y2) n1
  · rcases hM with ⟨n2, -⟩ | ⟨y2, Gn, ha, hFn, hrow2, hr2⟩
    · exact absurd (hvv.mp y1) n2
    · have zr : ∀ j, j < 10 → Gb.1 110 j = Gc.1 58 j := fun j hj => by
        rw [hrow2, hrow]
        exact goR_cg hEn.2.1 j hj
      refine ⟨by rw [hr, hr2, zr 4 (by decide)], (hW.fr hFx (by decide) (by decide)).fr hFm (by decide) (by decide), hRa.fr hFm (by decide) (by decide), hV, hCaa.fr (hFm.row1 37 (by decide) (by decide)) (hFm.row1 38 (by decide) (by decide)), ER_ac (rsm := []) (fsm := []) hE hFc hk Fr.rf ha hFn ?_ zr (by decide) (by decide) (by decide), (hSV.fr hFx (by decide) (by decide)).fr hFm (by decide) (by decide)⟩
      rw [hrow]
      exact hnow.go
/-- the ACTS that touch no LINE -/
theorem IV_2.er {V : PV} {rs : List Nat} {fs : List (Nat × Nat)} {rs' : List Nat} {fs' : List (Nat × Nat)} {G Ga Gb : GS} (h : IV_2 V G) (hF : Fr rs fs G Ga) (hF' : Fr rs' fs' Ga Gb) (hE : ER V Gb) (h1 : (∀ i ∈ [20, 21, 22, 23, 24, 25, 26, 27, 28, 37, 38, 61, 62, 63, 64, 65, 72, 73, 74, 87, 88, 89, 90, 91, 92, 93, 94, 95, 96, 112, 113, 114, 115, 116], i ∉ rs ∧ ∀ x ∈ fs, x.1 ≠ i) ∧ ∀ i ∈ [20, 21, 22, 23, 24, 25, 26, 27, 28, 37, 38, 61, 62, 63, 64, 65, 72, 73, 74, 87, 88, 89, 90, 91, 92, 93, 94, 95, 96, 112, 113, 114, 115, 116], i ∉ rs' ∧ ∀ x ∈ fs', x.1 ≠ i) (h2 : (∀ y ∈ [(2, 9), (2, 10), (2, 11), (2, 12), (2, 13), (2, 14), (2, 15), (2, 16), (31, 5), (66, 22), (66, 52), (66, 53), (66, 54), (66, 55), (66, 56), (66, 85)], y.1 ∉ rs ∧ y ∉ fs) ∧ ∀ y ∈ [(2, 9), (2, 10), (2, 11), (2, 12), (2, 13), (2, 14), (2, 15), (2, 16), (31, 5), (66, 22), (66, 52), (66, 53), (66, 54), (66, 55), (66, 56), (66, 85)], y.1 ∉ rs' ∧ y ∉ fs') : IV_2 V Gb := by
  obtain ⟨a, b, c, d, -, f⟩ := h
  have l1 : ∀ i ∈ [20, 21, 22, 23, 24, 25, 26, 27, 28], i ∈ [20, 21, 22, 23, 24, 25, 26, 27, 28, 37, 38, 61, 62, 63, 64, 65, 72, 73, 74, 87, 88, 89, 90, 91, 92, 93, 94, 95, 96, 112, 113, 114, 115, 116] := by decide
  have l2 : ∀ i ∈ [72, 73, 74, 87, 88, 89, 90, 91, 92, 93, 94, 95, 96], i ∈ [20, 21, 22, 23, 24, 25, 26, 27, 28, 37, 38, 61, 62, 63, 64, 65, 72, 73, 74, 87, 88, 89, 90, 91, 92, 93, 94, 95, 96, 112, 113, 114, 115, 116] := by decide
  have l3 : ∀ y ∈ [(2, 9), (2, 10), (2, 11), (2, 12), (2, 13), (2, 14), (2, 15), (2, 16)], y ∈ [(2, 9), (2, 10), (2, 11), (2, 12), (2, 13), (2, 14), (2, 15), (2, 16), (31, 5), (66, 22), (66, 52), (66, 53), (66, 54), (66, 55), (66, 56), (66, 85)] := by decide
  have l4 : ∀ y ∈ [(66, 22), (66, 52), (66, 53), (66, 54), (66, 55), (66, 56)], y ∈ [(2, 9), (2, 10), (2, 11), (2, 12), (2, 13), (2, 14), (2, 15), (2, 16), (31, 5), (66, 22), (66, 52), (66, 53), (66, 54), (66, 55), (66, 56), (66, 85)] := by decide
  have l5 : ∀ i ∈ [61, 62, 63, 64, 65, 112, 113, 114, 115, 116], i ∈ [20, 21, 22, 23, 24, 25, 26, 27, 28, 37, 38, 61, 62, 63, 64, 65, 72, 73, 74, 87, 88, 89, 90, 91, 92, 93, 94, 95, 96, 112, 113, 114, 115, 116] := by decide
  have l6 : ∀ y ∈ [(31, 5), (66, 85)], y ∈ [(2, 9), (2, 10), (2, 11), (2, 12), (2, 13), (2, 14), (2, 15), (2, 16), (31, 5), (66, 22), (66, 52), (66, 53), (66, 54), (66, 55), (66, 56), (66, 85)] := by decide
  refine ⟨(a.fr hF (fun i hi => h1.1 i (l1 i hi)) (fun y hy => h2.1 y (l3 y hy))).fr hF' (fun i hi => h1.2 i (l1 i hi)) (fun y hy => h2.2 y (l3 y hy)), (b.fr hF (fun i hi => h1.1 i (l2 i hi)) (fun y hy => h2.1 y (l4 y hy))).fr hF' (fun i hi => h1.2 i (l2 i hi)) (fun y hy => h2.2 y (l4 y hy)), c, d.fr ?_ ?_, hE, (f.fr hF (fun i hi => h1.1 i (l5 i hi)) (fun y hy => h2.1 y (l6 y hy))).fr hF' (fun i hi => h1.2 i (l5 i hi)) (fun y hy => h2.2 y (l6 y hy))⟩
  · rw [hF'.rows h1.2 (i := 37) (by decide), hF.rows h1.1 (i := 37) (by decide)]
  · rw [hF'.rows h1.2 (i := 38) (by decide), hF.rows h1.1 (i := 38) (by decide)]

/-! pavement on both sides, whole -/
theorem k_fill_38_eq {p0 : Int32} {G G1 : GS} (h : P_fill_38 p0 G G1) : ∀ j, j < 3 → G1.1 38 j = p0 := by
  obtain ⟨-, -, x, G2, hl, -, -, -, c, rfl⟩ := h
  have hI := hl (fun q => ∃ k : Nat, q.1.toInt = (k : Int) ∧ ∀ j, j < k → q.2.1 38 j = p0) ⟨0, rfl, fun j hj => absurd hj (Nat.not_lt_zero j)⟩ (by
    rintro ⟨x1, G_1⟩ ⟨xn, G_1n⟩ ⟨k, i6, i7⟩ ⟨x1q, G_1q, xnq, G_1nq, q1, q2, -, -, c, y1, t1, ex, hF, w⟩
    obtain ⟨rfl, rfl⟩ := Prod.mk.inj q1
    obtain ⟨rfl, rfl⟩ := Prod.mk.inj q2
    simp only at i6 i7
    rw [cn_eq i6] at w
    refine ⟨k + 1, by show xn.toInt = _; rw [← ex]; omega, fun j hj => ?_⟩
    show G_1n.1 38 j = p0
    rw [w]
    by_cases hjk : j = k
    · exact if_pos hjk
    · rw [show upd (G_1.1 38) k p0 j = G_1.1 38 j from if_neg hjk]
      exact i7 j (by omega))
  obtain ⟨k, i6, i7⟩ := hI
  have i6' : x.toInt = (k : Int) := i6
  exact fun j hj => i7 j (by omega)
theorem k_fill_58_eq {p0 : Int32} {G G1 : GS} (h : P_fill_58 p0 G G1) : ∀ j, j < 10 → G1.1 58 j = p0 := by
  obtain ⟨-, -, x, G2, hl, -, -, -, c, rfl⟩ := h
  have hI := hl (fun q => ∃ k : Nat, q.1.toInt = (k : Int) ∧ ∀ j, j < k → q.2.1 58 j = p0) ⟨0, rfl, fun j hj => absurd hj (Nat.not_lt_zero j)⟩ (by
    rintro ⟨x1, G_1⟩ ⟨xn, G_1n⟩ ⟨k, i6, i7⟩ ⟨x1q, G_1q, xnq, G_1nq, q1, q2, -, -, c, y1, t1, ex, hF, w⟩
    obtain ⟨rfl, rfl⟩ := Prod.mk.inj q1
    obtain ⟨rfl, rfl⟩ := Prod.mk.inj q2
    simp only at i6 i7
    rw [cn_eq i6] at w
    refine ⟨k + 1, by show xn.toInt = _; rw [← ex]; omega, fun j hj => ?_⟩
    show G_1n.1 58 j = p0
    rw [w]
    by_cases hjk : j = k
    · exact if_pos hjk
    · rw [show upd (G_1.1 58) k p0 j = G_1.1 58 j from if_neg hjk]
      exact i7 j (by omega))
  obtain ⟨k, i6, i7⟩ := hI
  have i6' : x.toInt = (k : Int) := i6
  exact fun j hj => i7 j (by omega)
theorem k_wStart_2_eq {G G1 : GS} (h : P_wStart_2 G G1) : (G1.1 31 5).toInt = 0 ∧ (G1.1 0 12).toInt = 0 ∧ (G1.1 30 3).toInt = 0 ∧ (G1.1 30 4).toInt = 0 ∧ (G1.1 30 5).toInt = 0 ∧ G1.1 58 0 = -1 ∧ G1.1 58 7 = G.1 2 16 ∧ (∀ j, j < 10 → j ≠ 0 → j ≠ 7 → G1.1 58 j = 0) ∧ (∀ j, j < 10 → G1.1 59 j = G1.1 58 j) ∧ ∀ j, j < 3 → G1.1 38 j = -1 := by
  obtain ⟨-, -, -, G2, hlk, G8, hst, hFe, e12, e5⟩ := h
  have hFst := hst.2.1
  obtain ⟨-, -, -, G3, hfi, G4, -, hF4, e3, e58, G5, hfo, rfl⟩ := hst
  obtain ⟨-, hFf, -, -, f4, f5, f59⟩ := hfo
  obtain ⟨-, -, -, G6, -, -, -, G7, hfl, rfl⟩ := hlk
  have r58 : G1.1 58 = G4.1 58 := by rw [hFe.row1 58 (by decide) (by decide), hFf.row1 58 (by decide) (by decide)]
  have z0 : (0 : Int32).toNatClampNeg = 0 := rfl
  have z7 : (7 : Int32).toNatClampNeg = 7 := rfl
  have z10 : (10 : Int32).toNatClampNeg = 10 := rfl
  rw [z0, z7] at e58
  rw [z0, z10] at f59
  refine ⟨by rw [e5]; rfl, by rw [e12]; rfl, ?_, ?_, ?_, ?_, ?_, fun j hj h0 h7 => ?_, fun j hj => ?_, fun j hj => ?_⟩
  · rw [hFe.i 30 3 (by decide) (by decide), hFf.i 30 3 (by decide) (by decide), e3]
    rfl
  · rw [hFe.i 30 4 (by decide) (by decide), f4]
    rfl
  · rw [hFe.i 30 5 (by decide) (by decide), f5]
    rfl
  · rw [r58, e58]
    rfl
  · rw [r58, e58]
    rfl
  · rw [r58, e58, show upd (upd (G3.1 58) 0 (-1)) 7 (G.1 2 16) j = upd (G3.1 58) 0 (-1) j from if_neg h7, show upd (G3.1 58) 0 (-1) j = G3.1 58 j from if_neg h0]
    exact k_fill_58_eq hfi j hj
  · rw [r58, hFe.row1 59 (by decide) (by decide), f59, cpy_in (by omega) (by omega), show 0 + (j - 0) = j by omega]
  · rw [hFe.row1 38 (by decide) (by decide), hFst.row1 38 (by decide) (by decide)]
    exact k_fill_38_eq hfl j hj
/-- how it comes out: the same answer and FAULT; a good one: a PAVING that both hold -/
def PavO_1 (r r' : Int32) (G Ga Gb : GS) : Prop := r.toInt = r'.toInt ∧ (Gb.1 3 7).toInt = (Gb.1 66 2).toInt ∧ (Gb.1 3 8).toInt = (Gb.1 66 3).toInt ∧ TE Gb ∧ ((Gb.2.2 0 0 = 1 ∧ r.toInt = -1 ∧ (∀ V, IV_1 V G → IV_1 V Gb) ∧ (∀ i j, i = 0 ∧ j = 12 ∨ 29 ≤ i ∧ i ≤ 31 ∨ 33 ≤ i ∧ i ≤ 33 ∨ 37 ≤ i ∧ i ≤ 65 ∨ i = 66 ∧ 57 ≤ j ∨ 97 ≤ i → Gb.1 i j = G.1 i j)) ∨ (Gb.2.2 0 0 = 2 ∧ (∃ V, IV_2 V Gb) ∧ (Gb.1 31 5).toInt = 0 ∧ (Gb.1 66 85).toInt = 0 ∧ (Gb.1 0 12).toInt = 0 ∧ (Gb.1 66 66).toInt = 0))
theorem pavV_1 {G Ga Gb : GS} {r r' : Int32} (hx : P_Wpavement_1 G r Ga) (hm : Q_pavement Ga r' Gb) (hT : TE G) (htp : (G.1 0 11).toInt = (G.1 66 1).toInt) (h0 : 0 ≤ (G.1 0 11).toInt) (h1 : (G.1 0 11).toInt ≤ 1600) (hv : G.2.2 0 0 = 1) : PavO_1 r r' G Ga Gb := by
  have hm0 := hm
  have hFx := hx.2.1
  have hFm := hm.2.1
  obtain ⟨-, -, -, r2, G3, hrd, hh⟩ := hx
  obtain ⟨-, -, -, G2, hra, hh2⟩ := hm
  obtain ⟨n, hn0⟩ : ∃ n : Nat, (G.1 0 11).toInt = (n : Int) := ⟨(G.1 0 11).toInt.toNat, by clear hh hh2; omega⟩
  have hn : n ≤ 1600 := by clear hh hh2; omega
  obtain ⟨b, hb⟩ : ∃ b : Nat → Int, b = fun j => (G.1 67 j).toInt := ⟨_, rfl⟩
  have r67 : Ga.1 67 = G.1 67 := hFx.row1 67 (by decide) (by decide)
  have hc := c_read_2 (b := b) hrd hn0 hn (fun j hj => by
    have := hT j (by omega)
    rw [hb]
    exact ⟨this.2.2.1, this.2.2.2, this.1, this.2.1⟩)
  have hdx : ∀ {Gx : GS}, Q_readAll Ga Gx → (∃ f, parse b n = .inl f ∧ MF f Gx) ∨ (∃ V p, parse b n = .inr (V, p) ∧ MV V Gx ∧ (Gx.1 66 2).toInt = 0 ∧ (Gx.1 66 3).toInt = -1 ∧ PVok V) := fun hra => m_readAllP (b := b) (n := n) hra (by rw [hFx.i 66 1 (by decide) (by decide)]; omega) hn (fun j hj => by
    have := hT j (by omega)
    rw [hb, r67]
    exact ⟨rfl, this.1, this.2.1⟩)
  have hd := hdx hra
  have hTE : TE Gb := (hT.fr hFx (by decide) (by decide)).fr hFm (by decide) (by decide)
  have b7 : Gb.1 3 7 = Ga.1 3 7 := hFm.i 3 7 (by decide) (by decide)
  have b8 : Gb.1 3 8 = Ga.1 3 8 := hFm.i 3 8 (by decide) (by decide)
  have b00 : Gb.2.2 0 0 = Ga.2.2 0 0 := (hFm 0 0 (by decide) (by decide)).2.2
  rcases hc with ⟨f, e1, hC⟩ | ⟨V, p, e1, hr, hV, k7, k8⟩
  · rcases hd with ⟨f', e2, hM⟩ | ⟨V', p', e2, -⟩
    · have hff : f = f' := Sum.inl.inj (e1.symm.trans e2)
      subst hff
      have hpo := hM.pos
      rcases hh with ⟨-, rfl, hF, -⟩ | ⟨c, -⟩
      · rcases hh2 with ⟨c, -⟩ | ⟨-, rfl, eG9⟩
        · omega
        · obtain rfl := eG9.symm
          have hFr := hrd.2.1
          have hFa := hra.2.1
          have hsame : ∀ i j, i = 0 ∧ j = 12 ∨ 29 ≤ i ∧ i ≤ 31 ∨ 33 ≤ i ∧ i ≤ 33 ∨ 37 ≤ i ∧ i ≤ 65 ∨ i = 66 ∧ 57 ≤ j ∨ 97 ≤ i → Gb.1 i j = G.1 i j := by
            intro i j hij
            have u1 : i ∉ ([20, 21, 22, 23, 24, 25, 26, 27, 28, 34, 35, 36] : List Nat) := fun w => by simp at w; omega
            have u2 : (i, j) ∉ ([(2, 9), (2, 10), (2, 11), (2, 12), (2, 13), (2, 14), (2, 15), (2, 16), (3, 1), (3, 2), (3, 3), (3, 4), (3, 5), (3, 6), (3, 7), (3, 8), (4, 1), (4, 2), (5, 5), (5, 6), (5, 7), (5, 8), (5, 9)] : List (Nat × Nat)) := fun w => by simp at w; omega
            have u3 : i ∉ ([68, 69, 70, 71, 75, 77, 78, 79, 80, 81, 82, 83, 84, 85, 86] : List Nat) := fun w => by simp at w; omega
            have u4 : (i, j) ∉ ([(66, 1), (66, 2), (66, 3), (66, 4), (66, 5), (66, 6), (66, 7), (66, 8), (66, 9), (66, 19), (66, 20), (66, 21), (66, 23), (66, 24), (66, 45), (66, 46), (66, 47), (66, 48), (66, 49), (66, 50), (66, 51)] : List (Nat × Nat)) := fun w => by simp at w; omega
            rw [hFa.i i j u3 u4, hF.i i j (by simp) (by simp; omega), hFr.i i j u1 u2]
          have hrow : ∀ i, 29 ≤ i ∧ i ≤ 31 ∨ 33 ≤ i ∧ i ≤ 33 ∨ 37 ≤ i ∧ i ≤ 65 ∨ 97 ≤ i → Gb.1 i = G.1 i := fun i hi => funext fun j => hsame i j (by omega)
          refine ⟨rfl, ?_, ?_, hTE, Or.inl ⟨?_, rfl, fun W hI => ?_, hsame⟩⟩
          · rw [b7, hF.i 3 7 (by decide) (by decide), hC.2.1, hM.1]
          · rw [b8, hF.i 3 8 (by decide) (by decide), hC.2.2, hM.2.1]
          · rw [b00, (hF 0 0 (by decide) (by decide)).2.2, (hFr 0 0 (by decide) (by decide)).2.2]
            exact hv
          · obtain ⟨ha, hb, hc, hd, he, hs⟩ := hI
            refine ⟨((ha.fr hFr (by decide) (by decide)).fr hF (by decide) (by decide)).fr hFa (by decide) (by decide), ((hb.fr hFr (by decide) (by decide)).fr hF (by decide) (by decide)).fr hFa (by decide) (by decide), hc, hd.fr (hrow 37 (by decide)) (hrow 38 (by decide)), ((he.fr hFr (by decide) (by decide)).fr hF (by decide) (by decide)).fr hFa (by decide) (by decide), ((hs.fr hFr (by decide) (by decide)).fr hF (by decide) (by decide)).fr hFa (by decide) (by decide)⟩
      · exact absurd hC.1 c
    · rw [e1] at e2
      exact absurd e2 (by simp)
  · rcases hd with ⟨f', e2, -⟩ | ⟨V', p', e2, hV', k2, k3, hPV⟩
    · rw [e1] at e2
      exact absurd e2 (by simp)
    · have hVV : (V, p) = (V', p') := Sum.inr.inj (e1.symm.trans e2)
      obtain ⟨rfl, rfl⟩ := Prod.mk.inj hVV
      have hun : ∀ {Gx : GS}, Q_readAll Ga Gx → MV V Gx ∧ (Gx.1 66 2).toInt = 0 := by
        intro Gx hq
        rcases hdx hq with ⟨f', e3, -⟩ | ⟨V3, p3, e3, hV3, k4, -⟩
        · rw [e1] at e3
          exact absurd e3 (by simp)
        · have hVV3 : (V, p) = (V3, p3) := Sum.inr.inj (e1.symm.trans e3)
          obtain ⟨rfl, rfl⟩ := Prod.mk.inj hVV3
          exact ⟨hV3, k4⟩
      obtain ⟨v1, v2, v3, v4, v5, v6, v7, v8, v9⟩ := rv_pav hm0 (fun q => (hun q).2) (fun q => (hun q).1)
      rcases hh with ⟨c, -⟩ | ⟨-, G11, -, hF11, f00, -, -, G13, hst, rfl, rfl⟩
      · omega
      have hF13 := hst.2.1
      obtain ⟨w1, w2, w3, w4, w5, w6, w7, w8, w9, w10⟩ := k_wStart_2_eq hst
      have hB : ∀ {i j : Nat}, (i ∉ ([110, 117, 68, 69, 70, 71, 72, 73, 74, 75, 77, 78, 79, 80, 81, 82, 83, 84, 85, 86, 87, 88, 89, 90, 91, 92, 93, 94, 95, 96] : List Nat) → (i, j) ∉ ([(66, 1), (66, 2), (66, 3), (66, 4), (66, 5), (66, 6), (66, 7), (66, 8), (66, 9), (66, 19), (66, 20), (66, 21), (66, 22), (66, 23), (66, 24), (66, 45), (66, 46), (66, 47), (66, 48), (66, 49), (66, 50), (66, 51), (66, 52), (66, 53), (66, 54), (66, 55), (66, 56), (66, 66), (66, 78), (66, 79), (66, 85)] : List (Nat × Nat)) → Gb.1 i j = G13.1 i j) := fun u1 u2 => hFm.i _ _ u1 u2
      rcases hh2 with ⟨-, G16, -, hF16, -, -, -, -, -, -, x22, G18, -, -, -, -, hF18, -, x38, G34, -, -, -, -, hF34, -, x51, G47, -, -, -, hF47, -, x62, G58, -, -, -, -, hF58, -, x75, G71, -, -, -, hF71, -, G90, -, hF90, -, -, -, -, -, x95, G91, -, -, -, hF91, -, e45, rfl⟩ | ⟨c, -⟩
      · have hnow : ∀ j, j < 10 → G91.1 110 j = G91.1 58 j := fun j hj => by
          refine Int32.toInt_inj.mp ?_
          rw [hFm.row1 58 (by decide) (by decide)]
          by_cases hj0 : j = 0
          · subst hj0
            rw [w6, v3]
          · by_cases hj7 : j = 7
            · subst hj7
              rw [w7, v4, hF11.i 2 16 (by decide) (by decide)]
              exact (hV.cw.2.2.2.2.2.2).symm
            · rw [w8 j hj hj0 hj7, v2 j hj hj0 hj7]
        have r58 : G91.1 58 = G13.1 58 := hFm.row1 58 (by decide) (by decide)
        have hrok : ROK V (G91.1 58) := by
          unfold ROK
          rw [r58, w6, w8 6 (by decide) (by decide) (by decide), w8 8 (by decide) (by decide) (by decide), w8 9 (by decide) (by decide) (by decide)]
          exact ⟨Or.inl rfl, ⟨by decide, by decide⟩, Or.inl rfl, by decide, by decide⟩
        have h59 : ∀ j, j < 10 → G91.1 59 j = G91.1 58 j := fun j hj => by
          rw [hFm.row1 59 (by decide) (by decide), r58]
          exact w9 j hj
        have hER : ER V G91 := by
          refine ⟨⟨0, 0, ⟨?_, ?_, ?_, ?_, by decide⟩, hnow, fun k hk => ?_, fun j hj => ?_, fun k j hk => absurd hk (Nat.not_lt_zero k), fun k j hk hk2 => absurd hk2 (Nat.not_lt_zero k)⟩, 0, by decide, ?_, fun b' hb' => ⟨?_, fun q => ?_⟩⟩
          · rw [hFm.i 30 4 (by decide) (by decide)]
            exact w4
          · rw [hFm.i 30 5 (by decide) (by decide)]
            exact w5
          · rw [v6]
            rfl
          · rw [v7]
            rfl
          · have hk0 : k = 0 := by omega
            subst hk0
            refine hrok.cg (fun j hj => ?_)
            show G91.1 59 (10 * 0 + j) = _
            rw [show 10 * 0 + j = j by omega]
            exact h59 j hj
          · rw [show 10 * 0 + j = j by omega]
            exact h59 j hj
          · refine Int32.toInt_inj.mp ?_
            rw [hFm.i 30 3 (by decide) (by decide), w3]
            rfl
          · rw [v9 b' hb', Nat.zero_testBit]
            exact ⟨fun q => absurd rfl q, fun q => absurd q (by decide)⟩
          · rw [Nat.zero_testBit] at q
            exact absurd q (by decide)
        have hCA : CaC_2 V G91 := by
          intro s hs
          left
          rw [hFm.row1 38 (by decide) (by decide), w10 s (by have := v1.1.2.1; omega)]
          rfl
        have hS0 : SV V G91 := by
          have k1 : (G91.1 31 5).toInt = 0 := by
            rw [hFm.i 31 5 (by decide) (by decide)]
            exact w1
          refine ⟨?_, fun j hj => absurd hj (by omega), fun j hj => absurd hj (by omega)⟩
          rw [k1, v8]
          rfl
        refine ⟨?_, ?_, ?_, hTE, Or.inr ⟨?_, ⟨V, ?_, v1, hPV, hCA, hER, hS0⟩, ?_, ?_, ?_, ?_⟩⟩
        · rw [← e45, hV.1.1, hV'.1.1]
        · rw [b7, hF13.i 3 7 (by decide) (by decide), hF11.i 3 7 (by decide) (by decide), k7, hF91.i 66 2 (by decide) (by decide), hF90.i 66 2 (by decide) (by decide), hF71.i 66 2 (by decide) (by decide), hF58.i 66 2 (by decide) (by decide), hF47.i 66 2 (by decide) (by decide), hF34.i 66 2 (by decide) (by decide), hF18.i 66 2 (by decide) (by decide), hF16.i 66 2 (by decide) (by decide), k2]
        · rw [b8, hF13.i 3 8 (by decide) (by decide), hF11.i 3 8 (by decide) (by decide), k8, hF91.i 66 3 (by decide) (by decide), hF90.i 66 3 (by decide) (by decide), hF71.i 66 3 (by decide) (by decide), hF58.i 66 3 (by decide) (by decide), hF47.i 66 3 (by decide) (by decide), hF34.i 66 3 (by decide) (by decide), hF18.i 66 3 (by decide) (by decide), hF16.i 66 3 (by decide) (by decide), k3]
        · rw [b00, (hF13 0 0 (by decide) (by decide)).2.2]
          exact f00
        · have hW := hV.cw
          have rr : ∀ i, i ∈ [20, 21, 22, 23, 24, 25, 26, 27, 28] → G91.1 i = G3.1 i := by
            have key : ∀ i ∈ [20, 21, 22, 23, 24, 25, 26, 27, 28], (i ∉ ([110, 117, 68, 69, 70, 71, 72, 73, 74, 75, 77, 78, 79, 80, 81, 82, 83, 84, 85, 86, 87, 88, 89, 90, 91, 92, 93, 94, 95, 96] : List Nat) ∧ ∀ x ∈ ([(66, 1), (66, 2), (66, 3), (66, 4), (66, 5), (66, 6), (66, 7), (66, 8), (66, 9), (66, 19), (66, 20), (66, 21), (66, 22), (66, 23), (66, 24), (66, 45), (66, 46), (66, 47), (66, 48), (66, 49), (66, 50), (66, 51), (66, 52), (66, 53), (66, 54), (66, 55), (66, 56), (66, 66), (66, 78), (66, 79), (66, 85)] : List (Nat × Nat)), x.1 ≠ i) ∧ i ≠ 0 ∧ i ≠ 38 ∧ i ≠ 58 ∧ i ≠ 59 ∧ i ≠ 6 ∧ i ≠ 30 ∧ i ≠ 31 := by decide
            intro i hi
            obtain ⟨⟨u1, u2⟩, u3, u4, u5, u6, u7, u8, u9⟩ := key i hi
            rw [hFm.row1 i u1 u2, hF13.row1 i (by simp; omega) (by simp; omega), hF11.row1 i (by simp) (by simp; omega)]
          have ff : ∀ j, j ∈ [9, 10, 11, 12, 13, 14, 15, 16] → G91.1 2 j = G3.1 2 j := by
            intro j hj
            rw [hFm.i 2 j (by decide) (by simp), hF13.i 2 j (by decide) (by simp), hF11.i 2 j (by decide) (by simp)]
          unfold CW_2 StC_2 WkC_2 CodeC_2 EndC_2 at hW ⊢
          rw [ff 9 (by decide), ff 10 (by decide), ff 11 (by decide), ff 12 (by decide), ff 13 (by decide), ff 14 (by decide), ff 15 (by decide), ff 16 (by decide), rr 20 (by decide), rr 21 (by decide), rr 22 (by decide), rr 23 (by decide), rr 24 (by decide), rr 25 (by decide), rr 26 (by decide), rr 27 (by decide), rr 28 (by decide)]
          exact hW
        · rw [hFm.i 31 5 (by decide) (by decide)]
          exact w1
        · rw [v8]
          rfl
        · rw [hFm.i 0 12 (by decide) (by decide)]
          exact w2
        · rw [v5]
          rfl
      · omega
theorem k_wStart_1_eq {G G1 : GS} (h : P_wStart_1 G G1) : (G1.1 31 5).toInt = 0 ∧ (G1.1 0 12).toInt = 0 ∧ (G1.1 30 3).toInt = 0 ∧ (G1.1 30 4).toInt = 0 ∧ (G1.1 30 5).toInt = 0 ∧ G1.1 58 0 = -1 ∧ G1.1 58 7 = G.1 1 16 ∧ (∀ j, j < 10 → j ≠ 0 → j ≠ 7 → G1.1 58 j = 0) ∧ (∀ j, j < 10 → G1.1 59 j = G1.1 58 j) ∧ ∀ j, j < 3 → G1.1 38 j = -1 := by
  obtain ⟨-, -, -, G2, hlk, G8, hst, hFe, e12, e5⟩ := h
  have hFst := hst.2.1
  obtain ⟨-, -, -, G3, hfi, G4, -, hF4, e3, e58, G5, hfo, rfl⟩ := hst
  obtain ⟨-, hFf, -, -, f4, f5, f59⟩ := hfo
  obtain ⟨-, -, -, G6, -, -, -, G7, hfl, rfl⟩ := hlk
  have r58 : G1.1 58 = G4.1 58 := by rw [hFe.row1 58 (by decide) (by decide), hFf.row1 58 (by decide) (by decide)]
  have z0 : (0 : Int32).toNatClampNeg = 0 := rfl
  have z7 : (7 : Int32).toNatClampNeg = 7 := rfl
  have z10 : (10 : Int32).toNatClampNeg = 10 := rfl
  rw [z0, z7] at e58
  rw [z0, z10] at f59
  refine ⟨by rw [e5]; rfl, by rw [e12]; rfl, ?_, ?_, ?_, ?_, ?_, fun j hj h0 h7 => ?_, fun j hj => ?_, fun j hj => ?_⟩
  · rw [hFe.i 30 3 (by decide) (by decide), hFf.i 30 3 (by decide) (by decide), e3]
    rfl
  · rw [hFe.i 30 4 (by decide) (by decide), f4]
    rfl
  · rw [hFe.i 30 5 (by decide) (by decide), f5]
    rfl
  · rw [r58, e58]
    rfl
  · rw [r58, e58]
    rfl
  · rw [r58, e58, show upd (upd (G3.1 58) 0 (-1)) 7 (G.1 1 16) j = upd (G3.1 58) 0 (-1) j from if_neg h7, show upd (G3.1 58) 0 (-1) j = G3.1 58 j from if_neg h0]
    exact k_fill_58_eq hfi j hj
  · rw [r58, hFe.row1 59 (by decide) (by decide), f59, cpy_in (by omega) (by omega), show 0 + (j - 0) = j by omega]
  · rw [hFe.row1 38 (by decide) (by decide), hFst.row1 38 (by decide) (by decide)]
    exact k_fill_38_eq hfl j hj
/-- how it comes out: the same answer and FAULT; a good one: a PAVING that both hold -/
def PavO_2 (r r' : Int32) (G Ga Gb : GS) : Prop := r.toInt = r'.toInt ∧ (Gb.1 3 7).toInt = (Gb.1 66 2).toInt ∧ (Gb.1 3 8).toInt = (Gb.1 66 3).toInt ∧ TE Gb ∧ ((Gb.2.2 0 0 = 2 ∧ r.toInt = -1 ∧ (∀ V, IV_2 V G → IV_2 V Gb) ∧ (∀ i j, i = 0 ∧ j = 12 ∨ 29 ≤ i ∧ i ≤ 31 ∨ 33 ≤ i ∧ i ≤ 33 ∨ 37 ≤ i ∧ i ≤ 65 ∨ i = 66 ∧ 57 ≤ j ∨ 97 ≤ i → Gb.1 i j = G.1 i j)) ∨ (Gb.2.2 0 0 = 1 ∧ (∃ V, IV_1 V Gb) ∧ (Gb.1 31 5).toInt = 0 ∧ (Gb.1 66 85).toInt = 0 ∧ (Gb.1 0 12).toInt = 0 ∧ (Gb.1 66 66).toInt = 0))
theorem pavV_2 {G Ga Gb : GS} {r r' : Int32} (hx : P_Wpavement_2 G r Ga) (hm : Q_pavement Ga r' Gb) (hT : TE G) (htp : (G.1 0 11).toInt = (G.1 66 1).toInt) (h0 : 0 ≤ (G.1 0 11).toInt) (h1 : (G.1 0 11).toInt ≤ 1600) (hv : G.2.2 0 0 = 2) : PavO_2 r r' G Ga Gb := by
  have hm0 := hm
  have hFx := hx.2.1
  have hFm := hm.2.1
  obtain ⟨-, -, -, r2, G3, hrd, hh⟩ := hx
  obtain ⟨-, -, -, G2, hra, hh2⟩ := hm
  obtain ⟨n, hn0⟩ : ∃ n : Nat, (G.1 0 11).toInt = (n : Int) := ⟨(G.1 0 11).toInt.toNat, by clear hh hh2; omega⟩
  have hn : n ≤ 1600 := by clear hh hh2; omega
  obtain ⟨b, hb⟩ : ∃ b : Nat → Int, b = fun j => (G.1 67 j).toInt := ⟨_, rfl⟩
  have r67 : Ga.1 67 = G.1 67 := hFx.row1 67 (by decide) (by decide)
  have hc := c_read_1 (b := b) hrd hn0 hn (fun j hj => by
    have := hT j (by omega)
    rw [hb]
    exact ⟨this.2.2.1, this.2.2.2, this.1, this.2.1⟩)
  have hdx : ∀ {Gx : GS}, Q_readAll Ga Gx → (∃ f, parse b n = .inl f ∧ MF f Gx) ∨ (∃ V p, parse b n = .inr (V, p) ∧ MV V Gx ∧ (Gx.1 66 2).toInt = 0 ∧ (Gx.1 66 3).toInt = -1 ∧ PVok V) := fun hra => m_readAllP (b := b) (n := n) hra (by rw [hFx.i 66 1 (by decide) (by decide)]; omega) hn (fun j hj => by
    have := hT j (by omega)
    rw [hb, r67]
    exact ⟨rfl, this.1, this.2.1⟩)
  have hd := hdx hra
  have hTE : TE Gb := (hT.fr hFx (by decide) (by decide)).fr hFm (by decide) (by decide)
  have b7 : Gb.1 3 7 = Ga.1 3 7 := hFm.i 3 7 (by decide) (by decide)
  have b8 : Gb.1 3 8 = Ga.1 3 8 := hFm.i 3 8 (by decide) (by decide)
  have b00 : Gb.2.2 0 0 = Ga.2.2 0 0 := (hFm 0 0 (by decide) (by decide)).2.2
  rcases hc with ⟨f, e1, hC⟩ | ⟨V, p, e1, hr, hV, k7, k8⟩
  · rcases hd with ⟨f', e2, hM⟩ | ⟨V', p', e2, -⟩
    · have hff : f = f' := Sum.inl.inj (e1.symm.trans e2)
      subst hff
      have hpo := hM.pos
      rcases hh with ⟨-, rfl, hF, -⟩ | ⟨c, -⟩
      · rcases hh2 with ⟨c, -⟩ | ⟨-, rfl, eG9⟩
        · omega
        · obtain rfl := eG9.symm
          have hFr := hrd.2.1
          have hFa := hra.2.1
          have hsame : ∀ i j, i = 0 ∧ j = 12 ∨ 29 ≤ i ∧ i ≤ 31 ∨ 33 ≤ i ∧ i ≤ 33 ∨ 37 ≤ i ∧ i ≤ 65 ∨ i = 66 ∧ 57 ≤ j ∨ 97 ≤ i → Gb.1 i j = G.1 i j := by
            intro i j hij
            have u1 : i ∉ ([10, 11, 12, 13, 14, 15, 16, 17, 18, 34, 35, 36] : List Nat) := fun w => by simp at w; omega
            have u2 : (i, j) ∉ ([(1, 9), (1, 10), (1, 11), (1, 12), (1, 13), (1, 14), (1, 15), (1, 16), (3, 1), (3, 2), (3, 3), (3, 4), (3, 5), (3, 6), (3, 7), (3, 8), (4, 1), (4, 2), (5, 5), (5, 6), (5, 7), (5, 8), (5, 9)] : List (Nat × Nat)) := fun w => by simp at w; omega
            have u3 : i ∉ ([68, 69, 70, 71, 75, 77, 78, 79, 80, 81, 82, 83, 84, 85, 86] : List Nat) := fun w => by simp at w; omega
            have u4 : (i, j) ∉ ([(66, 1), (66, 2), (66, 3), (66, 4), (66, 5), (66, 6), (66, 7), (66, 8), (66, 9), (66, 19), (66, 20), (66, 21), (66, 23), (66, 24), (66, 45), (66, 46), (66, 47), (66, 48), (66, 49), (66, 50), (66, 51)] : List (Nat × Nat)) := fun w => by simp at w; omega
            rw [hFa.i i j u3 u4, hF.i i j (by simp) (by simp; omega), hFr.i i j u1 u2]
          have hrow : ∀ i, 29 ≤ i ∧ i ≤ 31 ∨ 33 ≤ i ∧ i ≤ 33 ∨ 37 ≤ i ∧ i ≤ 65 ∨ 97 ≤ i → Gb.1 i = G.1 i := fun i hi => funext fun j => hsame i j (by omega)
          refine ⟨rfl, ?_, ?_, hTE, Or.inl ⟨?_, rfl, fun W hI => ?_, hsame⟩⟩
          · rw [b7, hF.i 3 7 (by decide) (by decide), hC.2.1, hM.1]
          · rw [b8, hF.i 3 8 (by decide) (by decide), hC.2.2, hM.2.1]
          · rw [b00, (hF 0 0 (by decide) (by decide)).2.2, (hFr 0 0 (by decide) (by decide)).2.2]
            exact hv
          · obtain ⟨ha, hb, hc, hd, he, hs⟩ := hI
            refine ⟨((ha.fr hFr (by decide) (by decide)).fr hF (by decide) (by decide)).fr hFa (by decide) (by decide), ((hb.fr hFr (by decide) (by decide)).fr hF (by decide) (by decide)).fr hFa (by decide) (by decide), hc, hd.fr (hrow 37 (by decide)) (hrow 38 (by decide)), ((he.fr hFr (by decide) (by decide)).fr hF (by decide) (by decide)).fr hFa (by decide) (by decide), ((hs.fr hFr (by decide) (by decide)).fr hF (by decide) (by decide)).fr hFa (by decide) (by decide)⟩
      · exact absurd hC.1 c
    · rw [e1] at e2
      exact absurd e2 (by simp)
  · rcases hd with ⟨f', e2, -⟩ | ⟨V', p', e2, hV', k2, k3, hPV⟩
    · rw [e1] at e2
      exact absurd e2 (by simp)
    · have hVV : (V, p) = (V', p') := Sum.inr.inj (e1.symm.trans e2)
      obtain ⟨rfl, rfl⟩ := Prod.mk.inj hVV
      have hun : ∀ {Gx : GS}, Q_readAll Ga Gx → MV V Gx ∧ (Gx.1 66 2).toInt = 0 := by
        intro Gx hq
        rcases hdx hq with ⟨f', e3, -⟩ | ⟨V3, p3, e3, hV3, k4, -⟩
        · rw [e1] at e3
          exact absurd e3 (by simp)
        · have hVV3 : (V, p) = (V3, p3) := Sum.inr.inj (e1.symm.trans e3)
          obtain ⟨rfl, rfl⟩ := Prod.mk.inj hVV3
          exact ⟨hV3, k4⟩
      obtain ⟨v1, v2, v3, v4, v5, v6, v7, v8, v9⟩ := rv_pav hm0 (fun q => (hun q).2) (fun q => (hun q).1)
      rcases hh with ⟨c, -⟩ | ⟨-, G11, -, hF11, f00, -, -, G13, hst, rfl, rfl⟩
      · omega
      have hF13 := hst.2.1
      obtain ⟨w1, w2, w3, w4, w5, w6, w7, w8, w9, w10⟩ := k_wStart_1_eq hst
      have hB : ∀ {i j : Nat}, (i ∉ ([110, 117, 68, 69, 70, 71, 72, 73, 74, 75, 77, 78, 79, 80, 81, 82, 83, 84, 85, 86, 87, 88, 89, 90, 91, 92, 93, 94, 95, 96] : List Nat) → (i, j) ∉ ([(66, 1), (66, 2), (66, 3), (66, 4), (66, 5), (66, 6), (66, 7), (66, 8), (66, 9), (66, 19), (66, 20), (66, 21), (66, 22), (66, 23), (66, 24), (66, 45), (66, 46), (66, 47), (66, 48), (66, 49), (66, 50), (66, 51), (66, 52), (66, 53), (66, 54), (66, 55), (66, 56), (66, 66), (66, 78), (66, 79), (66, 85)] : List (Nat × Nat)) → Gb.1 i j = G13.1 i j) := fun u1 u2 => hFm.i _ _ u1 u2
      rcases hh2 with ⟨-, G16, -, hF16, -, -, -, -, -, -, x22, G18, -, -, -, -, hF18, -, x38, G34, -, -, -, -, hF34, -, x51, G47, -, -, -, hF47, -, x62, G58, -, -, -, -, hF58, -, x75, G71, -, -, -, hF71, -, G90, -, hF90, -, -, -, -, -, x95, G91, -, -, -, hF91, -, e45, rfl⟩ | ⟨c, -⟩
      · have hnow : ∀ j, j < 10 → G91.1 110 j = G91.1 58 j := fun j hj => by
          refine Int32.toInt_inj.mp ?_
          rw [hFm.row1 58 (by decide) (by decide)]
          by_cases hj0 : j = 0
          · subst hj0
            rw [w6, v3]
          · by_cases hj7 : j = 7
            · subst hj7
              rw [w7, v4, hF11.i 1 16 (by decide) (by decide)]
              exact (hV.cw.2.2.2.2.2.2).symm
            · rw [w8 j hj hj0 hj7, v2 j hj hj0 hj7]
        have r58 : G91.1 58 = G13.1 58 := hFm.row1 58 (by decide) (by decide)
        have hrok : ROK V (G91.1 58) := by
          unfold ROK
          rw [r58, w6, w8 6 (by decide) (by decide) (by decide), w8 8 (by decide) (by decide) (by decide), w8 9 (by decide) (by decide) (by decide)]
          exact ⟨Or.inl rfl, ⟨by decide, by decide⟩, Or.inl rfl, by decide, by decide⟩
        have h59 : ∀ j, j < 10 → G91.1 59 j = G91.1 58 j := fun j hj => by
          rw [hFm.row1 59 (by decide) (by decide), r58]
          exact w9 j hj
        have hER : ER V G91 := by
          refine ⟨⟨0, 0, ⟨?_, ?_, ?_, ?_, by decide⟩, hnow, fun k hk => ?_, fun j hj => ?_, fun k j hk => absurd hk (Nat.not_lt_zero k), fun k j hk hk2 => absurd hk2 (Nat.not_lt_zero k)⟩, 0, by decide, ?_, fun b' hb' => ⟨?_, fun q => ?_⟩⟩
          · rw [hFm.i 30 4 (by decide) (by decide)]
            exact w4
          · rw [hFm.i 30 5 (by decide) (by decide)]
            exact w5
          · rw [v6]
            rfl
          · rw [v7]
            rfl
          · have hk0 : k = 0 := by omega
            subst hk0
            refine hrok.cg (fun j hj => ?_)
            show G91.1 59 (10 * 0 + j) = _
            rw [show 10 * 0 + j = j by omega]
            exact h59 j hj
          · rw [show 10 * 0 + j = j by omega]
            exact h59 j hj
          · refine Int32.toInt_inj.mp ?_
            rw [hFm.i 30 3 (by decide) (by decide), w3]
            rfl
          · rw [v9 b' hb', Nat.zero_testBit]
            exact ⟨fun q => absurd rfl q, fun q => absurd q (by decide)⟩
          · rw [Nat.zero_testBit] at q
            exact absurd q (by decide)
        have hCA : CaC_1 V G91 := by
          intro s hs
          left
          rw [hFm.row1 38 (by decide) (by decide), w10 s (by have := v1.1.2.1; omega)]
          rfl
        have hS0 : SV V G91 := by
          have k1 : (G91.1 31 5).toInt = 0 := by
            rw [hFm.i 31 5 (by decide) (by decide)]
            exact w1
          refine ⟨?_, fun j hj => absurd hj (by omega), fun j hj => absurd hj (by omega)⟩
          rw [k1, v8]
          rfl
        refine ⟨?_, ?_, ?_, hTE, Or.inr ⟨?_, ⟨V, ?_, v1, hPV, hCA, hER, hS0⟩, ?_, ?_, ?_, ?_⟩⟩
        · rw [← e45, hV.1.1, hV'.1.1]
        · rw [b7, hF13.i 3 7 (by decide) (by decide), hF11.i 3 7 (by decide) (by decide), k7, hF91.i 66 2 (by decide) (by decide), hF90.i 66 2 (by decide) (by decide), hF71.i 66 2 (by decide) (by decide), hF58.i 66 2 (by decide) (by decide), hF47.i 66 2 (by decide) (by decide), hF34.i 66 2 (by decide) (by decide), hF18.i 66 2 (by decide) (by decide), hF16.i 66 2 (by decide) (by decide), k2]
        · rw [b8, hF13.i 3 8 (by decide) (by decide), hF11.i 3 8 (by decide) (by decide), k8, hF91.i 66 3 (by decide) (by decide), hF90.i 66 3 (by decide) (by decide), hF71.i 66 3 (by decide) (by decide), hF58.i 66 3 (by decide) (by decide), hF47.i 66 3 (by decide) (by decide), hF34.i 66 3 (by decide) (by decide), hF18.i 66 3 (by decide) (by decide), hF16.i 66 3 (by decide) (by decide), k3]
        · rw [b00, (hF13 0 0 (by decide) (by decide)).2.2]
          exact f00
        · have hW := hV.cw
          have rr : ∀ i, i ∈ [10, 11, 12, 13, 14, 15, 16, 17, 18] → G91.1 i = G3.1 i := by
            have key : ∀ i ∈ [10, 11, 12, 13, 14, 15, 16, 17, 18], (i ∉ ([110, 117, 68, 69, 70, 71, 72, 73, 74, 75, 77, 78, 79, 80, 81, 82, 83, 84, 85, 86, 87, 88, 89, 90, 91, 92, 93, 94, 95, 96] : List Nat) ∧ ∀ x ∈ ([(66, 1), (66, 2), (66, 3), (66, 4), (66, 5), (66, 6), (66, 7), (66, 8), (66, 9), (66, 19), (66, 20), (66, 21), (66, 22), (66, 23), (66, 24), (66, 45), (66, 46), (66, 47), (66, 48), (66, 49), (66, 50), (66, 51), (66, 52), (66, 53), (66, 54), (66, 55), (66, 56), (66, 66), (66, 78), (66, 79), (66, 85)] : List (Nat × Nat)), x.1 ≠ i) ∧ i ≠ 0 ∧ i ≠ 38 ∧ i ≠ 58 ∧ i ≠ 59 ∧ i ≠ 6 ∧ i ≠ 30 ∧ i ≠ 31 := by decide
            intro i hi
            obtain ⟨⟨u1, u2⟩, u3, u4, u5, u6, u7, u8, u9⟩ := key i hi
            rw [hFm.row1 i u1 u2, hF13.row1 i (by simp; omega) (by simp; omega), hF11.row1 i (by simp) (by simp; omega)]
          have ff : ∀ j, j ∈ [9, 10, 11, 12, 13, 14, 15, 16] → G91.1 1 j = G3.1 1 j := by
            intro j hj
            rw [hFm.i 1 j (by decide) (by simp), hF13.i 1 j (by decide) (by simp), hF11.i 1 j (by decide) (by simp)]
          unfold CW_1 StC_1 WkC_1 CodeC_1 EndC_1 at hW ⊢
          rw [ff 9 (by decide), ff 10 (by decide), ff 11 (by decide), ff 12 (by decide), ff 13 (by decide), ff 14 (by decide), ff 15 (by decide), ff 16 (by decide), rr 10 (by decide), rr 11 (by decide), rr 12 (by decide), rr 13 (by decide), rr 14 (by decide), rr 15 (by decide), rr 16 (by decide), rr 17 (by decide), rr 18 (by decide)]
          exact hW
        · rw [hFm.i 31 5 (by decide) (by decide)]
          exact w1
        · rw [v8]
          rfl
        · rw [hFm.i 0 12 (by decide) (by decide)]
          exact w2
        · rw [v5]
          rfl
      · omega

/-! SIGHTS -/
theorem SOK.fr {V : PV} {rs : List Nat} {fs : List (Nat × Nat)} {G G1 : GS} (h : SOK V G) (hF : Fr rs fs G G1) (h1 : ∀ i ∈ [61, 62, 63], i ∉ rs ∧ ∀ x ∈ fs, x.1 ≠ i) (h2 : ∀ y ∈ [(31, 5)], y.1 ∉ rs ∧ y ∉ fs) : SOK V G1 := by
  unfold SOK at h ⊢
  rw [hF.i 31 5 (h2 (31, 5) (by decide)).1 (h2 (31, 5) (by decide)).2, hF.rows h1 (i := 61) (by decide), hF.rows h1 (i := 62) (by decide), hF.rows h1 (i := 63) (by decide)]
  exact h
/-- what the found LINES need -/
def CX_1 (V : PV) (G : GS) : Prop := CaC_1 V G ∧ CW_1 V G ∧ 0 ≤ (G.1 58 6).toInt
theorem CX_1.fr {V : PV} {rs : List Nat} {fs : List (Nat × Nat)} {G G1 : GS} (h : CX_1 V G) (hF : Fr rs fs G G1) (h1 : (∀ i ∈ [10, 11, 12, 13, 14, 15, 16, 17, 18], i ∉ rs ∧ ∀ x ∈ fs, x.1 ≠ i) ∧ ∀ i ∈ [37, 38, 58], i ∉ rs ∧ ∀ x ∈ fs, x.1 ≠ i) (h2 : ∀ y ∈ [(1, 9), (1, 10), (1, 11), (1, 12), (1, 13), (1, 14), (1, 15), (1, 16)], y.1 ∉ rs ∧ y ∉ fs) : CX_1 V G1 := ⟨h.1.fr (hF.rows h1.2 (i := 37) (by decide)) (hF.rows h1.2 (i := 38) (by decide)), h.2.1.fr hF h1.1 h2, by rw [hF.rows h1.2 (i := 58) (by decide)]; exact h.2.2⟩
theorem CX_1.find {V : PV} {p day : Int32} {G G1 : GS} (h : CX_1 V G) (hf : P_lFind_1 p day G G1) (hR3 : V.1.length ≤ 3) (hV : PVok V) (hd : day = G.1 58 6) : CX_1 V G1 := ⟨ca_find_1 hf h.2.1 hR3 hV (by rw [hd]; exact h.2.2) h.1, h.2.1.fr hf.2.1 (by decide) (by decide), by rw [hf.2.1.row1 58 (by decide) (by decide)]; exact h.2.2⟩
theorem CX_1.prep {V : PV} {p0 p1 p2 : Int32} {G G1 : GS} (h : CX_1 V G) (hf : P_wPrep_1 p0 p1 p2 G G1) (hR3 : V.1.length ≤ 3) (hV : PVok V) : CX_1 V G1 := by
  obtain ⟨-, -, -, r1, G2, htd, G7, hfi, G14, hlk, G19, hcf, rfl⟩ := hf
  obtain ⟨rfl, e1⟩ := k_today_eq htd
  exact ((h.find hfi hR3 hV e1).fr hlk.2.1 (by decide) (by decide)).fr hcf.2.1 (by decide) (by decide)
theorem IV_1.cx {V : PV} {G : GS} (h : IV_1 V G) : CX_1 V G := ⟨h.2.2.2.1, h.1, h.2.2.2.2.1.day.1.1⟩
theorem CX_1.ls {V : PV} {p0 p1 p2 r : Int32} {G G1 : GS} (h : CX_1 V G) (hs : P_wLSight_1 p0 p1 p2 G r G1) (hR3 : V.1.length ≤ 3) (hV : PVok V) : CX_1 V G1 := by
  obtain ⟨-, -, -, y1, e1, y2, e2, y3, e3, r4, G5, htd, G10, hfi, y14, e14, y15, e15, y16, e16, r17, G18, hil, rfl, rfl⟩ := hs
  obtain ⟨rfl, e4⟩ := k_today_eq htd
  obtain rfl := hil.2.1.nil
  exact h.find hfi hR3 hV e4
theorem CX_1.near {V : PV} {p0 p1 p2 r : Int32} {G G1 : GS} (h : CX_1 V G) (hs : P_wNear_1 p0 p1 p2 G r G1) (hR3 : V.1.length ≤ 3) (hV : PVok V) : CX_1 V G1 := by
  obtain ⟨-, -, x5, x6, G2, hl, -, -, -, c, -, rfl⟩ := hs
  exact hl (fun q => CX_1 V q.2.2) h (by
    rintro ⟨a1, a2, b⟩ ⟨n1, n2, bn⟩ hi ⟨x1, x2, g, u1, u2, gn, q1, q2, -, -, c1, y13, e13, y14, e14, y15, e15, y16, e16, r19, G20, hst, hd⟩
    simp only [Prod.mk.injEq] at q1 q2
    obtain ⟨rfl, rfl, rfl⟩ := q1
    obtain ⟨rfl, rfl, rfl⟩ := q2
    obtain rfl := hst.2.1.nil
    rcases hd with ⟨f, y26, t26, ex, e6, eG⟩ | ⟨f, ⟨g2, y28, e28, y29, t29, ex, e6, eG⟩ | ⟨g2, r30, G31, hls, ⟨k, y37, t37, ex, e6, eG⟩ | ⟨k, y38, e38, y39, t39, ex, e6, eG⟩⟩⟩
    · subst eG
      exact hi
    · subst eG
      exact hi
    · subst eG
      exact CX_1.ls hi hls hR3 hV
    · subst eG
      exact CX_1.ls hi hls hR3 hV)
theorem CX_1.fa {V : PV} {p0 p1 r : Int32} {G G1 : GS} (h : CX_1 V G) (hs : P_wFitsAll_1 p0 p1 G r G1) (hR3 : V.1.length ≤ 3) (hV : PVok V) : CX_1 V G1 := by
  obtain ⟨-, -, -, x5, G2, hl, -, -, -, hh⟩ := hs
  have hI := hl (fun q => CX_1 V q.2) h (by
    rintro ⟨a1, b⟩ ⟨n1, bn⟩ hi ⟨x1, g, u1, gn, q1, q2, -, -, c1, r12, G13, hct, hd⟩
    obtain ⟨rfl, rfl⟩ := Prod.mk.inj q1
    obtain ⟨rfl, rfl⟩ := Prod.mk.inj q2
    obtain rfl := hct.2.1.nil
    rcases hd with ⟨f, y19, t19, ex, eG⟩ | ⟨f, r20, G21, hls, g2, y27, t27, ex, eG⟩
    · subst eG
      exact hi
    · subst eG
      exact CX_1.ls hi hls hR3 hV)
  rcases hh with ⟨c, -, rfl⟩ | ⟨c, r12, G13, hct, f, r20, G21, hls, g2, -, rfl⟩
  · exact hI
  · obtain rfl := hct.2.1.nil
    exact CX_1.ls hI hls hR3 hV
theorem ca_fits_1 {V : PV} {p0 r : Int32} {G G1 : GS} (hx : P_Wfits_1 p0 G r G1) (hI : IV_1 V G) : CaC_1 V G1 := by
  have hR3 := hI.2.1.1.2.1
  have hV := hI.2.2.1
  obtain ⟨-, -, x5, x6, G2, hl, -, -, -, -, c, -, rfl⟩ := hx
  exact (hl (fun q => CX_1 V q.2.2) hI.cx (by
    rintro ⟨a1, a2, b⟩ ⟨n1, n2, bn⟩ hi ⟨x1, x2, g, u1, u2, gn, q1, q2, -, -, -, c1, r14, G15, hfa, hd⟩
    simp only [Prod.mk.injEq] at q1 q2
    obtain ⟨rfl, rfl, rfl⟩ := q1
    obtain ⟨rfl, rfl, rfl⟩ := q2
    rcases hd with ⟨f, y21, e21, y22, t22, ex, e6, eG⟩ | ⟨f, y23, e23, y24, e24, y25, t25, ex, e6, eG⟩
    · subst eG
      exact CX_1.fa hi hfa hR3 hV
    · subst eG
      exact CX_1.fa hi hfa hR3 hV)).1
theorem ca_chance_1 {V : PV} {p0 p1 p2 : Int32} {r : Int64} {G G1 : GS} (hx : P_Wchance_1 p0 p1 p2 G r G1) (hI : IV_1 V G) : CaC_1 V G1 := by
  have hR3 := hI.2.1.1.2.1
  have hV := hI.2.2.1
  have hCX := hI.cx
  obtain ⟨-, -, r1, G2, hru, hh⟩ := hx
  obtain rfl := hru.2.1.nil
  rcases hh with ⟨c, -, rfl⟩ | ⟨c, ⟨d, -, rfl⟩ | ⟨d, ⟨f, x14, x15, x16, G10, hl, -, -, -, c14, r23, G24, hg, y28, e28, hh⟩ | ⟨f, -, rfl⟩⟩⟩
  · exact hCX.1
  · exact hCX.1
  · have hI2 := hl (fun q => CX_1 V q.2.2.2) hCX (by
      rintro ⟨a1, a2, a3, b⟩ ⟨n1, n2, n3, bn⟩ hi ⟨x1, x2, x3, g, u1, u2, u3, gn, q1, q2, -, -, c1, r33, G34, hct, hd⟩
      simp only [Prod.mk.injEq] at q1 q2
      obtain ⟨rfl, rfl, rfl, rfl⟩ := q1
      obtain ⟨rfl, rfl, rfl, rfl⟩ := q2
      obtain rfl := hct.2.1.nil
      rcases hd with ⟨k, y40, t40, ex, e5, e6, eG⟩ | ⟨k, r41, G42, hn1, y46, e46, y47, e47, r48, G49, hn2, y53, e53, y54, e54, y55, t55, ex, e5, e6, eG⟩
      · subst eG
        exact hi
      · subst eG
        exact CX_1.near (CX_1.near hi hn1 hR3 hV) hn2 hR3 hV)
    obtain rfl := hg.2.1.nil
    rcases hh with ⟨-, -, rfl⟩ | ⟨-, ⟨-, y32, e32, -, rfl⟩ | ⟨-, y31, e31, -, rfl⟩⟩
    · exact hI2.1
    · exact hI2.1
    · exact hI2.1
  · exact hCX.1
theorem ca_even_1 {V : PV} {p0 p1 p2 p3 p4 r : Int32} {G G1 : GS} (hx : P_Weven_1 p0 p1 p2 p3 p4 G r G1) (hI : IV_1 V G) : CaC_1 V G1 := by
  have hR3 := hI.2.1.1.2.1
  have hV := hI.2.2.1
  have hCX := hI.cx
  obtain ⟨-, -, r1, G2, hak, hh⟩ := hx
  obtain rfl := hak.2.1.nil
  rcases hh with ⟨c, -, rfl⟩ | ⟨c, r8, G9, hin, hh⟩
  · exact hCX.1
  obtain rfl := hin.2.1.nil
  rcases hh with ⟨c2, -, rfl⟩ | ⟨c2, ⟨d, -, rfl⟩ | ⟨d, ⟨f, G20, hp, x28, x29, G24, hl, -, -, -, -, hF24, hh⟩ | ⟨f, -, rfl⟩⟩⟩
  · exact hCX.1
  · exact hCX.1
  · have h2 := hCX.prep hp hR3 hV
    obtain rfl := hF24.nil
    rcases hh with ⟨-, -, rfl⟩ | ⟨-, y38, e38, -, -, rfl⟩
    · exact h2.1
    · exact h2.1
  · exact hCX.1
theorem ca_evens_1 {V : PV} {p0 p1 p2 r : Int32} {G G1 : GS} (hx : P_Wevens_1 p0 p1 p2 G r G1) (hI : IV_1 V G) : CaC_1 V G1 := by
  have hR3 := hI.2.1.1.2.1
  have hV := hI.2.2.1
  obtain ⟨-, -, G1', -, hF1, e1, r4, G5, hak, hh⟩ := hx
  have hCX := hI.cx.fr hF1 (by decide) (by decide)
  obtain rfl := hak.2.1.nil
  rcases hh with ⟨c, -, rfl⟩ | ⟨c, G13, hp, x22, G18, hl, -, -, hF18, c22, -, rfl⟩
  · exact hCX.1
  · exact ((hCX.prep hp hR3 hV).fr hF18 (by decide) (by decide)).1
theorem ca_ways_1 {V : PV} {p0 p1 p2 p3 : Int32} {r : Int64} {G G1 : GS} (hx : P_Wways_1 p0 p1 p2 p3 G r G1) (hI : IV_1 V G) : CaC_1 V G1 := by
  have hR3 := hI.2.1.1.2.1
  have hV := hI.2.2.1
  have hCX := hI.cx
  obtain ⟨-, -, r1, G2, hak, hh⟩ := hx
  obtain rfl := hak.2.1.nil
  rcases hh with ⟨c, -, rfl⟩ | ⟨c, ⟨d, -, rfl⟩ | ⟨d, ⟨f, G13, hp, r21, G22, hc, -, rfl⟩ | ⟨f, -, rfl⟩⟩⟩
  · exact hCX.1
  · exact hCX.1
  · exact ((hCX.prep hp hR3 hV).fr hc.2.1 (by decide) (by decide)).1
  · exact hCX.1
theorem ca_evenest_1 {V : PV} {p0 p1 p2 p3 : Int32} {r : Int32} {G G1 : GS} (hx : P_Wevenest_1 p0 p1 p2 p3 G r G1) (hI : IV_1 V G) : CaC_1 V G1 := by
  have hR3 := hI.2.1.1.2.1
  have hV := hI.2.2.1
  have hCX := hI.cx
  obtain ⟨-, -, r1, G2, hak, hh⟩ := hx
  obtain rfl := hak.2.1.nil
  rcases hh with ⟨c, -, rfl⟩ | ⟨c, ⟨d, -, rfl⟩ | ⟨d, ⟨f, G13, hp, r21, G22, hc, -, rfl⟩ | ⟨f, -, rfl⟩⟩⟩
  · exact hCX.1
  · exact hCX.1
  · exact ((hCX.prep hp hR3 hV).fr hc.2.1 (by decide) (by decide)).1
  · exact hCX.1
theorem ca_fewest_1 {V : PV} {p0 p1 p2 p3 r : Int32} {G G1 : GS} (hx : P_Wfewest_1 p0 p1 p2 p3 G r G1) (hI : IV_1 V G) : CaC_1 V G1 := by
  have hR3 := hI.2.1.1.2.1
  have hV := hI.2.2.1
  obtain ⟨-, -, G1', -, hF1, e1, r4, G5, hak, hh⟩ := hx
  have hCX := hI.cx.fr hF1 (by decide) (by decide)
  obtain rfl := hak.2.1.nil
  rcases hh with ⟨c, -, rfl⟩ | ⟨c, ⟨d, -, rfl⟩ | ⟨d, ⟨f, G15, hp, r23, G24, hfw, hh⟩ | ⟨f, -, rfl⟩⟩⟩
  · exact hCX.1
  · exact hCX.1
  · have h2 := (hCX.prep hp hR3 hV).fr hfw.2.1 (by decide) (by decide)
    rcases hh with ⟨g, -, rfl⟩ | ⟨g, r32, G33, hly, -, hF, -⟩
    · exact h2.1
    · exact ((h2.fr hly.2.1 (by decide) (by decide)).fr hF (by decide) (by decide)).1
  · exact hCX.1
theorem ca_keeps_1 {V : PV} {p0 p1 p2 r : Int32} {G G1 : GS} (hx : P_Wkeeps_1 p0 p1 p2 G r G1) (hI : IV_1 V G) : CaC_1 V G1 := by
  have hR3 := hI.2.1.1.2.1
  have hV := hI.2.2.1
  have hCX := hI.cx
  obtain ⟨-, -, r1, G2, hak, hh⟩ := hx
  obtain rfl := hak.2.1.nil
  rcases hh with ⟨c, -, rfl⟩ | ⟨c, G11, hp, r21, G22, hc, -, rfl⟩
  · exact hCX.1
  · exact ((hCX.prep hp hR3 hV).fr hc.2.1 (by decide) (by decide)).1
theorem ca_brave_1 {V : PV} {p0 p1 p2 p3 p4 : Int32} {r : Int64} {G G1 : GS} (hx : P_Wbrave_1 p0 p1 p2 p3 p4 G r G1) (hI : IV_1 V G) : CaC_1 V G1 := by
  have hR3 := hI.2.1.1.2.1
  have hV := hI.2.2.1
  have hCX := hI.cx
  obtain ⟨-, -, r1, G2, hak, hh⟩ := hx
  obtain rfl := hak.2.1.nil
  rcases hh with ⟨c, -, rfl⟩ | ⟨c, G11, hp, r21, G22, hc, -, rfl⟩
  · exact hCX.1
  · exact ((hCX.prep hp hR3 hV).fr hc.2.1 (by decide) (by decide)).1
theorem ca_boldest_1 {V : PV} {p0 p1 p2 p3 p4 r : Int32} {G G1 : GS} (hx : P_Wboldest_1 p0 p1 p2 p3 p4 G r G1) (hI : IV_1 V G) : CaC_1 V G1 := by
  have hR3 := hI.2.1.1.2.1
  have hV := hI.2.2.1
  have hCX := hI.cx
  obtain ⟨-, -, r1, G2, hak, hh⟩ := hx
  obtain rfl := hak.2.1.nil
  rcases hh with ⟨c, -, rfl⟩ | ⟨c, G11, hp, r21, G22, hc, r24, G25, hb, -, rfl⟩
  · exact hCX.1
  · exact (((hCX.prep hp hR3 hV).fr hc.2.1 (by decide) (by decide)).fr hb.2.1 (by decide) (by decide)).1
theorem ca_wager_1 {V : PV} {p0 p1 p2 p3 r : Int32} {G G1 : GS} (hx : P_Wwager_1 p0 p1 p2 p3 G r G1) (hI : IV_1 V G) : CaC_1 V G1 := by
  have hR3 := hI.2.1.1.2.1
  have hV := hI.2.2.1
  have hCX := hI.cx
  obtain ⟨-, -, r1, G2, hak, hh⟩ := hx
  obtain rfl := hak.2.1.nil
  rcases hh with ⟨c, -, rfl⟩ | ⟨c, ⟨d, -, rfl⟩ | ⟨d, ⟨f, G13, hp, r21, G22, hc, hh⟩ | ⟨f, -, rfl⟩⟩⟩
  · exact hCX.1
  · exact hCX.1
  · have h2 := (hCX.prep hp hR3 hV).fr hc.2.1 (by decide) (by decide)
    rcases hh with ⟨-, -, rfl⟩ | ⟨-, ⟨-, -, rfl⟩ | ⟨-, -, rfl⟩⟩
    · exact h2.1
    · exact h2.1
    · exact h2.1
  · exact hCX.1
theorem ca_leave_1 {V : PV} {p0 p1 r : Int32} {G G1 : GS} (hx : P_Wleave_1 p0 p1 G r G1) (hI : IV_1 V G) : CaC_1 V G1 := by
  have hR3 := hI.2.1.1.2.1
  have hV := hI.2.2.1
  have hCX := hI.cx
  obtain ⟨-, -, r1, G2, hak, hh⟩ := hx
  obtain rfl := hak.2.1.nil
  rcases hh with ⟨c, -, rfl⟩ | ⟨c, G13, hp, x21, x22, G17, hl, -, -, hF17, y28, e28, c28, -, rfl⟩
  · exact hCX.1
  · exact ((hCX.prep hp hR3 hV).fr hF17 (by decide) (by decide)).1
theorem sok_sight_1 {V : PV} {p0 p1 p2 r : Int32} {G Ga : GS} (hx : P_Wsight_1 p0 p1 p2 G r Ga) (hW : CW_1 V G) (hS : SOK V G) (hc0 : 0 ≤ (G.1 31 5).toInt) : SOK V Ga := by
  obtain ⟨-, -, r1, G2, hst, hx⟩ := hx
  obtain ⟨rfl, k1⟩ := k_standsV_1 hst hW
  rcases hx with ⟨c, -, rfl⟩ | ⟨c, r8, G9, htl, -, rfl⟩
  · exact hS
  have hv := k1.mp c
  clear k1
  obtain ⟨-, -, htl⟩ := htl
  rcases htl with ⟨d, y9, t9, e, hF, g5, w1, w2, w3, w4, w5⟩ | ⟨d, -, rfl⟩
  · obtain ⟨n, hn⟩ : ∃ n : Nat, (G.1 31 5).toInt = (n : Int) := ⟨(G.1 31 5).toInt.toNat, by omega⟩
    rw [cn_eq hn] at w1 w2 w3
    intro j hj
    rw [g5] at hj
    rw [w1, w2, w3]
    by_cases hjn : j = n
    · subst hjn
      rw [ud_at, ud_at, ud_at]
      exact hv
    · rw [ud_no hjn, ud_no hjn, ud_no hjn]
      exact hS j (by omega)
  · exact hS
theorem sightV_1 {V : PV} {p0 p1 p2 q0 q1 q2 r r' : Int32} {G Ga Gb : GS} (hx : P_Wsight_1 p0 p1 p2 G r Ga) (hm : Q_sight q0 q1 q2 Ga r' Gb) (i0 : p0.toInt = q0.toInt) (i1 : p1.toInt = q1.toInt) (i2 : p2.toInt = q2.toInt) (hI : IV_1 V G) (hB : Bd G) (ht : (G.1 31 6).toInt = (G.1 66 86).toInt) : r.toInt = r'.toInt ∧ IV_1 V Gb := by
  have hFx := hx.2.1
  have hFm := hm.2.1
  obtain ⟨hW, hR, hV, hCa, hE, hc, hS, hO⟩ := hI
  have hb := hB.i 31 5 (lo := 0) (hi := 20) rfl rfl
  have hO2 := sok_sight_1 hx hW hO hb.1
  obtain ⟨a1, a2, a3⟩ := sight_1 hx hm i0 i1 i2 ⟨V, hW, hR⟩ hS hc hb.1 hb.2 ht
  exact ⟨a1, (hW.fr hFx (by decide) (by decide)).fr hFm (by decide) (by decide), (hR.fr hFx (by decide) (by decide)).fr hFm (by decide) (by decide), hV, (hCa.fr (hFx.row1 37 (by decide) (by decide)) (hFx.row1 38 (by decide) (by decide))).fr (hFm.row1 37 (by decide) (by decide)) (hFm.row1 38 (by decide) (by decide)), (hE.fr hFx (by decide) (by decide)).fr hFm (by decide) (by decide), a2, a3, hO2.fr hFm (by decide) (by decide)⟩
theorem untellV_1 {V : PV} {p0 q0 r r' : Int32} {G Ga Gb : GS} (hx : P_Wuntell p0 G r Ga) (hm : Q_untell q0 Ga r' Gb) (i0 : p0.toInt = q0.toInt) (hI : IV_1 V G) (hB : Bd G) (ht : (G.1 31 6).toInt = (G.1 66 86).toInt) : r.toInt = r'.toInt ∧ IV_1 V Gb := by
  have hFx := hx.2.1
  have hFm := hm.2.1
  obtain ⟨hW, hR, hV, hCa, hE, hc, hS, hO⟩ := hI
  have hb := hB.i 31 6 (lo := 0) (hi := 100000) rfl rfl
  obtain ⟨a1, a3⟩ := unt_eq hx hm i0 hS hc ht hb.1
  refine ⟨a1, (hW.fr hFx (by decide) (by decide)).fr hFm (by decide) (by decide), (hR.fr hFx (by decide) (by decide)).fr hFm (by decide) (by decide), hV, (hCa.fr (hFx.row1 37 (by decide) (by decide)) (hFx.row1 38 (by decide) (by decide))).fr (hFm.row1 37 (by decide) (by decide)) (hFm.row1 38 (by decide) (by decide)), (hE.fr hFx (by decide) (by decide)).fr hFm (by decide) (by decide), ?_, a3, (hO.fr hFx (by decide) (by decide)).fr hFm (by decide) (by decide)⟩
  rw [hFm.i 31 5 (by decide) (by decide), hFx.i 31 5 (by decide) (by decide), hFm.i 66 85 (by decide) (by decide), hFx.i 66 85 (by decide) (by decide)]
  exact hc
/-- what the found LINES need -/
def CX_2 (V : PV) (G : GS) : Prop := CaC_2 V G ∧ CW_2 V G ∧ 0 ≤ (G.1 58 6).toInt
theorem CX_2.fr {V : PV} {rs : List Nat} {fs : List (Nat × Nat)} {G G1 : GS} (h : CX_2 V G) (hF : Fr rs fs G G1) (h1 : (∀ i ∈ [20, 21, 22, 23, 24, 25, 26, 27, 28], i ∉ rs ∧ ∀ x ∈ fs, x.1 ≠ i) ∧ ∀ i ∈ [37, 38, 58], i ∉ rs ∧ ∀ x ∈ fs, x.1 ≠ i) (h2 : ∀ y ∈ [(2, 9), (2, 10), (2, 11), (2, 12), (2, 13), (2, 14), (2, 15), (2, 16)], y.1 ∉ rs ∧ y ∉ fs) : CX_2 V G1 := ⟨h.1.fr (hF.rows h1.2 (i := 37) (by decide)) (hF.rows h1.2 (i := 38) (by decide)), h.2.1.fr hF h1.1 h2, by rw [hF.rows h1.2 (i := 58) (by decide)]; exact h.2.2⟩
theorem CX_2.find {V : PV} {p day : Int32} {G G1 : GS} (h : CX_2 V G) (hf : P_lFind_2 p day G G1) (hR3 : V.1.length ≤ 3) (hV : PVok V) (hd : day = G.1 58 6) : CX_2 V G1 := ⟨ca_find_2 hf h.2.1 hR3 hV (by rw [hd]; exact h.2.2) h.1, h.2.1.fr hf.2.1 (by decide) (by decide), by rw [hf.2.1.row1 58 (by decide) (by decide)]; exact h.2.2⟩
theorem CX_2.prep {V : PV} {p0 p1 p2 : Int32} {G G1 : GS} (h : CX_2 V G) (hf : P_wPrep_2 p0 p1 p2 G G1) (hR3 : V.1.length ≤ 3) (hV : PVok V) : CX_2 V G1 := by
  obtain ⟨-, -, -, r1, G2, htd, G7, hfi, G14, hlk, G19, hcf, rfl⟩ := hf
  obtain ⟨rfl, e1⟩ := k_today_eq htd
  exact ((h.find hfi hR3 hV e1).fr hlk.2.1 (by decide) (by decide)).fr hcf.2.1 (by decide) (by decide)
theorem IV_2.cx {V : PV} {G : GS} (h : IV_2 V G) : CX_2 V G := ⟨h.2.2.2.1, h.1, h.2.2.2.2.1.day.1.1⟩
theorem CX_2.ls {V : PV} {p0 p1 p2 r : Int32} {G G1 : GS} (h : CX_2 V G) (hs : P_wLSight_2 p0 p1 p2 G r G1) (hR3 : V.1.length ≤ 3) (hV : PVok V) : CX_2 V G1 := by
  obtain ⟨-, -, -, y1, e1, y2, e2, y3, e3, r4, G5, htd, G10, hfi, y14, e14, y15, e15, y16, e16, r17, G18, hil, rfl, rfl⟩ := hs
  obtain ⟨rfl, e4⟩ := k_today_eq htd
  obtain rfl := hil.2.1.nil
  exact h.find hfi hR3 hV e4
theorem CX_2.near {V : PV} {p0 p1 p2 r : Int32} {G G1 : GS} (h : CX_2 V G) (hs : P_wNear_2 p0 p1 p2 G r G1) (hR3 : V.1.length ≤ 3) (hV : PVok V) : CX_2 V G1 := by
  obtain ⟨-, -, x5, x6, G2, hl, -, -, -, c, -, rfl⟩ := hs
  exact hl (fun q => CX_2 V q.2.2) h (by
    rintro ⟨a1, a2, b⟩ ⟨n1, n2, bn⟩ hi ⟨x1, x2, g, u1, u2, gn, q1, q2, -, -, c1, y13, e13, y14, e14, y15, e15, y16, e16, r19, G20, hst, hd⟩
    simp only [Prod.mk.injEq] at q1 q2
    obtain ⟨rfl, rfl, rfl⟩ := q1
    obtain ⟨rfl, rfl, rfl⟩ := q2
    obtain rfl := hst.2.1.nil
    rcases hd with ⟨f, y26, t26, ex, e6, eG⟩ | ⟨f, ⟨g2, y28, e28, y29, t29, ex, e6, eG⟩ | ⟨g2, r30, G31, hls, ⟨k, y37, t37, ex, e6, eG⟩ | ⟨k, y38, e38, y39, t39, ex, e6, eG⟩⟩⟩
    · subst eG
      exact hi
    · subst eG
      exact hi
    · subst eG
      exact CX_2.ls hi hls hR3 hV
    · subst eG
      exact CX_2.ls hi hls hR3 hV)
theorem CX_2.fa {V : PV} {p0 p1 r : Int32} {G G1 : GS} (h : CX_2 V G) (hs : P_wFitsAll_2 p0 p1 G r G1) (hR3 : V.1.length ≤ 3) (hV : PVok V) : CX_2 V G1 := by
  obtain ⟨-, -, -, x5, G2, hl, -, -, -, hh⟩ := hs
  have hI := hl (fun q => CX_2 V q.2) h (by
    rintro ⟨a1, b⟩ ⟨n1, bn⟩ hi ⟨x1, g, u1, gn, q1, q2, -, -, c1, r12, G13, hct, hd⟩
    obtain ⟨rfl, rfl⟩ := Prod.mk.inj q1
    obtain ⟨rfl, rfl⟩ := Prod.mk.inj q2
    obtain rfl := hct.2.1.nil
    rcases hd with ⟨f, y19, t19, ex, eG⟩ | ⟨f, r20, G21, hls, g2, y27, t27, ex, eG⟩
    · subst eG
      exact hi
    · subst eG
      exact CX_2.ls hi hls hR3 hV)
  rcases hh with ⟨c, -, rfl⟩ | ⟨c, r12, G13, hct, f, r20, G21, hls, g2, -, rfl⟩
  · exact hI
  · obtain rfl := hct.2.1.nil
    exact CX_2.ls hI hls hR3 hV
theorem ca_fits_2 {V : PV} {p0 r : Int32} {G G1 : GS} (hx : P_Wfits_2 p0 G r G1) (hI : IV_2 V G) : CaC_2 V G1 := by
  have hR3 := hI.2.1.1.2.1
  have hV := hI.2.2.1
  obtain ⟨-, -, x5, x6, G2, hl, -, -, -, -, c, -, rfl⟩ := hx
  exact (hl (fun q => CX_2 V q.2.2) hI.cx (by
    rintro ⟨a1, a2, b⟩ ⟨n1, n2, bn⟩ hi ⟨x1, x2, g, u1, u2, gn, q1, q2, -, -, -, c1, r14, G15, hfa, hd⟩
    simp only [Prod.mk.injEq] at q1 q2
    obtain ⟨rfl, rfl, rfl⟩ := q1
    obtain ⟨rfl, rfl, rfl⟩ := q2
    rcases hd with ⟨f, y21, e21, y22, t22, ex, e6, eG⟩ | ⟨f, y23, e23, y24, e24, y25, t25, ex, e6, eG⟩
    · subst eG
      exact CX_2.fa hi hfa hR3 hV
    · subst eG
      exact CX_2.fa hi hfa hR3 hV)).1
theorem ca_chance_2 {V : PV} {p0 p1 p2 : Int32} {r : Int64} {G G1 : GS} (hx : P_Wchance_2 p0 p1 p2 G r G1) (hI : IV_2 V G) : CaC_2 V G1 := by
  have hR3 := hI.2.1.1.2.1
  have hV := hI.2.2.1
  have hCX := hI.cx
  obtain ⟨-, -, r1, G2, hru, hh⟩ := hx
  obtain rfl := hru.2.1.nil
  rcases hh with ⟨c, -, rfl⟩ | ⟨c, ⟨d, -, rfl⟩ | ⟨d, ⟨f, x14, x15, x16, G10, hl, -, -, -, c14, r23, G24, hg, y28, e28, hh⟩ | ⟨f, -, rfl⟩⟩⟩
  · exact hCX.1
  · exact hCX.1
  · have hI2 := hl (fun q => CX_2 V q.2.2.2) hCX (by
      rintro ⟨a1, a2, a3, b⟩ ⟨n1, n2, n3, bn⟩ hi ⟨x1, x2, x3, g, u1, u2, u3, gn, q1, q2, -, -, c1, r33, G34, hct, hd⟩
      simp only [Prod.mk.injEq] at q1 q2
      obtain ⟨rfl, rfl, rfl, rfl⟩ := q1
      obtain ⟨rfl, rfl, rfl, rfl⟩ := q2
      obtain rfl := hct.2.1.nil
      rcases hd with ⟨k, y40, t40, ex, e5, e6, eG⟩ | ⟨k, r41, G42, hn1, y46, e46, y47, e47, r48, G49, hn2, y53, e53, y54, e54, y55, t55, ex, e5, e6, eG⟩
      · subst eG
        exact hi
      · subst eG
        exact CX_2.near (CX_2.near hi hn1 hR3 hV) hn2 hR3 hV)
    obtain rfl := hg.2.1.nil
    rcases hh with ⟨-, -, rfl⟩ | ⟨-, ⟨-, y32, e32, -, rfl⟩ | ⟨-, y31, e31, -, rfl⟩⟩
    · exact hI2.1
    · exact hI2.1
    · exact hI2.1
  · exact hCX.1
theorem ca_even_2 {V : PV} {p0 p1 p2 p3 p4 r : Int32} {G G1 : GS} (hx : P_Weven_2 p0 p1 p2 p3 p4 G r G1) (hI : IV_2 V G) : CaC_2 V G1 := by
  have hR3 := hI.2.1.1.2.1
  have hV := hI.2.2.1
  have hCX := hI.cx
  obtain ⟨-, -, r1, G2, hak, hh⟩ := hx
  obtain rfl := hak.2.1.nil
  rcases hh with ⟨c, -, rfl⟩ | ⟨c, r8, G9, hin, hh⟩
  · exact hCX.1
  obtain rfl := hin.2.1.nil
  rcases hh with ⟨c2, -, rfl⟩ | ⟨c2, ⟨d, -, rfl⟩ | ⟨d, ⟨f, G20, hp, x28, x29, G24, hl, -, -, -, -, hF24, hh⟩ | ⟨f, -, rfl⟩⟩⟩
  · exact hCX.1
  · exact hCX.1
  · have h2 := hCX.prep hp hR3 hV
    obtain rfl := hF24.nil
    rcases hh with ⟨-, -, rfl⟩ | ⟨-, y38, e38, -, -, rfl⟩
    · exact h2.1
    · exact h2.1
  · exact hCX.1
theorem ca_evens_2 {V : PV} {p0 p1 p2 r : Int32} {G G1 : GS} (hx : P_Wevens_2 p0 p1 p2 G r G1) (hI : IV_2 V G) : CaC_2 V G1 := by
  have hR3 := hI.2.1.1.2.1
  have hV := hI.2.2.1
  obtain ⟨-, -, G1', -, hF1, e1, r4, G5, hak, hh⟩ := hx
  have hCX := hI.cx.fr hF1 (by decide) (by decide)
  obtain rfl := hak.2.1.nil
  rcases hh with ⟨c, -, rfl⟩ | ⟨c, G13, hp, x22, G18, hl, -, -, hF18, c22, -, rfl⟩
  · exact hCX.1
  · exact ((hCX.prep hp hR3 hV).fr hF18 (by decide) (by decide)).1
theorem ca_ways_2 {V : PV} {p0 p1 p2 p3 : Int32} {r : Int64} {G G1 : GS} (hx : P_Wways_2 p0 p1 p2 p3 G r G1) (hI : IV_2 V G) : CaC_2 V G1 := by
  have hR3 := hI.2.1.1.2.1
  have hV := hI.2.2.1
  have hCX := hI.cx
  obtain ⟨-, -, r1, G2, hak, hh⟩ := hx
  obtain rfl := hak.2.1.nil
  rcases hh with ⟨c, -, rfl⟩ | ⟨c, ⟨d, -, rfl⟩ | ⟨d, ⟨f, G13, hp, r21, G22, hc, -, rfl⟩ | ⟨f, -, rfl⟩⟩⟩
  · exact hCX.1
  · exact hCX.1
  · exact ((hCX.prep hp hR3 hV).fr hc.2.1 (by decide) (by decide)).1
  · exact hCX.1
theorem ca_evenest_2 {V : PV} {p0 p1 p2 p3 : Int32} {r : Int32} {G G1 : GS} (hx : P_Wevenest_2 p0 p1 p2 p3 G r G1) (hI : IV_2 V G) : CaC_2 V G1 := by
  have hR3 := hI.2.1.1.2.1
  have hV := hI.2.2.1
  have hCX := hI.cx
  obtain ⟨-, -, r1, G2, hak, hh⟩ := hx
  obtain rfl := hak.2.1.nil
  rcases hh with ⟨c, -, rfl⟩ | ⟨c, ⟨d, -, rfl⟩ | ⟨d, ⟨f, G13, hp, r21, G22, hc, -, rfl⟩ | ⟨f, -, rfl⟩⟩⟩
  · exact hCX.1
  · exact hCX.1
  · exact ((hCX.prep hp hR3 hV).fr hc.2.1 (by decide) (by decide)).1
  · exact hCX.1
theorem ca_fewest_2 {V : PV} {p0 p1 p2 p3 r : Int32} {G G1 : GS} (hx : P_Wfewest_2 p0 p1 p2 p3 G r G1) (hI : IV_2 V G) : CaC_2 V G1 := by
  have hR3 := hI.2.1.1.2.1
  have hV := hI.2.2.1
  obtain ⟨-, -, G1', -, hF1, e1, r4, G5, hak, hh⟩ := hx
  have hCX := hI.cx.fr hF1 (by decide) (by decide)
  obtain rfl := hak.2.1.nil
  rcases hh with ⟨c, -, rfl⟩ | ⟨c, ⟨d, -, rfl⟩ | ⟨d, ⟨f, G15, hp, r23, G24, hfw, hh⟩ | ⟨f, -, rfl⟩⟩⟩
  · exact hCX.1
  · exact hCX.1
  · have h2 := (hCX.prep hp hR3 hV).fr hfw.2.1 (by decide) (by decide)
    rcases hh with ⟨g, -, rfl⟩ | ⟨g, r32, G33, hly, -, hF, -⟩
    · exact h2.1
    · exact ((h2.fr hly.2.1 (by decide) (by decide)).fr hF (by decide) (by decide)).1
  · exact hCX.1
theorem ca_keeps_2 {V : PV} {p0 p1 p2 r : Int32} {G G1 : GS} (hx : P_Wkeeps_2 p0 p1 p2 G r G1) (hI : IV_2 V G) : CaC_2 V G1 := by
  have hR3 := hI.2.1.1.2.1
  have hV := hI.2.2.1
  have hCX := hI.cx
  obtain ⟨-, -, r1, G2, hak, hh⟩ := hx
  obtain rfl := hak.2.1.nil
  rcases hh with ⟨c, -, rfl⟩ | ⟨c, G11, hp, r21, G22, hc, -, rfl⟩
  · exact hCX.1
  · exact ((hCX.prep hp hR3 hV).fr hc.2.1 (by decide) (by decide)).1
theorem ca_brave_2 {V : PV} {p0 p1 p2 p3 p4 : Int32} {r : Int64} {G G1 : GS} (hx : P_Wbrave_2 p0 p1 p2 p3 p4 G r G1) (hI : IV_2 V G) : CaC_2 V G1 := by
  have hR3 := hI.2.1.1.2.1
  have hV := hI.2.2.1
  have hCX := hI.cx
  obtain ⟨-, -, r1, G2, hak, hh⟩ := hx
  obtain rfl := hak.2.1.nil
  rcases hh with ⟨c, -, rfl⟩ | ⟨c, G11, hp, r21, G22, hc, -, rfl⟩
  · exact hCX.1
  · exact ((hCX.prep hp hR3 hV).fr hc.2.1 (by decide) (by decide)).1
theorem ca_boldest_2 {V : PV} {p0 p1 p2 p3 p4 r : Int32} {G G1 : GS} (hx : P_Wboldest_2 p0 p1 p2 p3 p4 G r G1) (hI : IV_2 V G) : CaC_2 V G1 := by
  have hR3 := hI.2.1.1.2.1
  have hV := hI.2.2.1
  have hCX := hI.cx
  obtain ⟨-, -, r1, G2, hak, hh⟩ := hx
  obtain rfl := hak.2.1.nil
  rcases hh with ⟨c, -, rfl⟩ | ⟨c, G11, hp, r21, G22, hc, r24, G25, hb, -, rfl⟩
  · exact hCX.1
  · exact (((hCX.prep hp hR3 hV).fr hc.2.1 (by decide) (by decide)).fr hb.2.1 (by decide) (by decide)).1
theorem ca_wager_2 {V : PV} {p0 p1 p2 p3 r : Int32} {G G1 : GS} (hx : P_Wwager_2 p0 p1 p2 p3 G r G1) (hI : IV_2 V G) : CaC_2 V G1 := by
  have hR3 := hI.2.1.1.2.1
  have hV := hI.2.2.1
  have hCX := hI.cx
  obtain ⟨-, -, r1, G2, hak, hh⟩ := hx
  obtain rfl := hak.2.1.nil
  rcases hh with ⟨c, -, rfl⟩ | ⟨c, ⟨d, -, rfl⟩ | ⟨d, ⟨f, G13, hp, r21, G22, hc, hh⟩ | ⟨f, -, rfl⟩⟩⟩
  · exact hCX.1
  · exact hCX.1
  · have h2 := (hCX.prep hp hR3 hV).fr hc.2.1 (by decide) (by decide)
    rcases hh with ⟨-, -, rfl⟩ | ⟨-, ⟨-, -, rfl⟩ | ⟨-, -, rfl⟩⟩
    · exact h2.1
    · exact h2.1
    · exact h2.1
  · exact hCX.1
theorem ca_leave_2 {V : PV} {p0 p1 r : Int32} {G G1 : GS} (hx : P_Wleave_2 p0 p1 G r G1) (hI : IV_2 V G) : CaC_2 V G1 := by
  have hR3 := hI.2.1.1.2.1
  have hV := hI.2.2.1
  have hCX := hI.cx
  obtain ⟨-, -, r1, G2, hak, hh⟩ := hx
  obtain rfl := hak.2.1.nil
  rcases hh with ⟨c, -, rfl⟩ | ⟨c, G13, hp, x21, x22, G17, hl, -, -, hF17, y28, e28, c28, -, rfl⟩
  · exact hCX.1
  · exact ((hCX.prep hp hR3 hV).fr hF17 (by decide) (by decide)).1
theorem sok_sight_2 {V : PV} {p0 p1 p2 r : Int32} {G Ga : GS} (hx : P_Wsight_2 p0 p1 p2 G r Ga) (hW : CW_2 V G) (hS : SOK V G) (hc0 : 0 ≤ (G.1 31 5).toInt) : SOK V Ga := by
  obtain ⟨-, -, r1, G2, hst, hx⟩ := hx
  obtain ⟨rfl, k1⟩ := k_standsV_2 hst hW
  rcases hx with ⟨c, -, rfl⟩ | ⟨c, r8, G9, htl, -, rfl⟩
  · exact hS
  have hv := k1.mp c
  clear k1
  obtain ⟨-, -, htl⟩ := htl
  rcases htl with ⟨d, y9, t9, e, hF, g5, w1, w2, w3, w4, w5⟩ | ⟨d, -, rfl⟩
  · obtain ⟨n, hn⟩ : ∃ n : Nat, (G.1 31 5).toInt = (n : Int) := ⟨(G.1 31 5).toInt.toNat, by omega⟩
    rw [cn_eq hn] at w1 w2 w3
    intro j hj
    rw [g5] at hj
    rw [w1, w2, w3]
    by_cases hjn : j = n
    · subst hjn
      rw [ud_at, ud_at, ud_at]
      exact hv
    · rw [ud_no hjn, ud_no hjn, ud_no hjn]
      exact hS j (by omega)
  · exact hS
theorem sightV_2 {V : PV} {p0 p1 p2 q0 q1 q2 r r' : Int32} {G Ga Gb : GS} (hx : P_Wsight_2 p0 p1 p2 G r Ga) (hm : Q_sight q0 q1 q2 Ga r' Gb) (i0 : p0.toInt = q0.toInt) (i1 : p1.toInt = q1.toInt) (i2 : p2.toInt = q2.toInt) (hI : IV_2 V G) (hB : Bd G) (ht : (G.1 31 6).toInt = (G.1 66 86).toInt) : r.toInt = r'.toInt ∧ IV_2 V Gb := by
  have hFx := hx.2.1
  have hFm := hm.2.1
  obtain ⟨hW, hR, hV, hCa, hE, hc, hS, hO⟩ := hI
  have hb := hB.i 31 5 (lo := 0) (hi := 20) rfl rfl
  have hO2 := sok_sight_2 hx hW hO hb.1
  obtain ⟨a1, a2, a3⟩ := sight_2 hx hm i0 i1 i2 ⟨V, hW, hR⟩ hS hc hb.1 hb.2 ht
  exact ⟨a1, (hW.fr hFx (by decide) (by decide)).fr hFm (by decide) (by decide), (hR.fr hFx (by decide) (by decide)).fr hFm (by decide) (by decide), hV, (hCa.fr (hFx.row1 37 (by decide) (by decide)) (hFx.row1 38 (by decide) (by decide))).fr (hFm.row1 37 (by decide) (by decide)) (hFm.row1 38 (by decide) (by decide)), (hE.fr hFx (by decide) (by decide)).fr hFm (by decide) (by decide), a2, a3, hO2.fr hFm (by decide) (by decide)⟩
theorem untellV_2 {V : PV} {p0 q0 r r' : Int32} {G Ga Gb : GS} (hx : P_Wuntell p0 G r Ga) (hm : Q_untell q0 Ga r' Gb) (i0 : p0.toInt = q0.toInt) (hI : IV_2 V G) (hB : Bd G) (ht : (G.1 31 6).toInt = (G.1 66 86).toInt) : r.toInt = r'.toInt ∧ IV_2 V Gb := by
  have hFx := hx.2.1
  have hFm := hm.2.1
  obtain ⟨hW, hR, hV, hCa, hE, hc, hS, hO⟩ := hI
  have hb := hB.i 31 6 (lo := 0) (hi := 100000) rfl rfl
  obtain ⟨a1, a3⟩ := unt_eq hx hm i0 hS hc ht hb.1
  refine ⟨a1, (hW.fr hFx (by decide) (by decide)).fr hFm (by decide) (by decide), (hR.fr hFx (by decide) (by decide)).fr hFm (by decide) (by decide), hV, (hCa.fr (hFx.row1 37 (by decide) (by decide)) (hFx.row1 38 (by decide) (by decide))).fr (hFm.row1 37 (by decide) (by decide)) (hFm.row1 38 (by decide) (by decide)), (hE.fr hFx (by decide) (by decide)).fr hFm (by decide) (by decide), ?_, a3, (hO.fr hFx (by decide) (by decide)).fr hFm (by decide) (by decide)⟩
  rw [hFm.i 31 5 (by decide) (by decide), hFx.i 31 5 (by decide) (by decide), hFm.i 66 85 (by decide) (by decide), hFx.i 66 85 (by decide) (by decide)]
  exact hc
