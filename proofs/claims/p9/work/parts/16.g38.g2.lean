/-! ACTS, UNDO, REDO, BOXES on both sides */ -/
theorem fr2 {rs rs' : List Nat} {fs fs' : List (Nat × Nat)} {G Ga Gb : GS} (h : Fr rs fs G Ga) (h' : Fr rs' fs' Ga Gb) {L : List Nat} (h1 : ∀ i ∈ L, i ∉ rs ∧ ∀ x ∈ fs, x.1 ≠ i) (h2 : ∀ i ∈ L, i ∉ rs' ∧ ∀ x ∈ fs', x.1 ≠ i) {i : Nat} (hi : i ∈ L) : Gb.1 i = G.1 i := (h'.rows h2 hi).trans (h.rows h1 hi)
theorem ER_ac {V : PV} {rsc rsm rsn : List Nat} {fsc fsm fsn : List (Nat × Nat)} {G Gc Ga Gm Gn Gb : GS} (hE : ER V G) (hFc : Fr rsc fsc G Gc) (hk : P_eKeep Gc Ga) (hFm : Fr rsm fsm Ga Gm) (ha : Q_act Gm Gn) (hFn : Fr rsn fsn Gn Gb) (hw : ROK V (Gc.1 58)) (zr : ∀ j, j < 10 → Gb.1 110 j = Gc.1 58 j) (c1 : (∀ i ∈ [59, 60, 110, 111, 117, 118], i ∉ rsc ∧ ∀ x ∈ fsc, x.1 ≠ i) ∧ ∀ y ∈ [(30, 3), (30, 4), (66, 78)], y.1 ∉ rsc ∧ y ∉ fsc) (c2 : (∀ i ∈ [58, 59, 60, 110, 111, 117, 118], i ∉ rsm ∧ ∀ x ∈ fsm, x.1 ≠ i) ∧ ∀ y ∈ [(30, 3), (30, 4), (30, 5), (66, 78)], y.1 ∉ rsm ∧ y ∉ fsm) (c3 : (∀ i ∈ [58, 59, 60, 111, 117, 118], i ∉ rsn ∧ ∀ x ∈ fsn, x.1 ≠ i) ∧ ∀ y ∈ [(30, 3), (30, 4), (30, 5), (66, 78), (66, 79)], y.1 ∉ rsn ∧ y ∉ fsn) : ER V Gb := by
  obtain ⟨⟨n, m, hE⟩, hB⟩ := hE
  have hFk := hk.2.1
  have hFa := ha.2.1
  have f1 : ∀ {i j : Nat}, (i, j) ∈ [(30, 3), (30, 4), (66, 78)] → Gc.1 i j = G.1 i j := fun q => hFc.i _ _ (c1.2 _ q).1 (c1.2 _ q).2
  have f2 : ∀ {i j : Nat}, (i, j) ∈ [(30, 3), (30, 4), (30, 5), (66, 78)] → Gm.1 i j = Ga.1 i j := fun q => hFm.i _ _ (c2.2 _ q).1 (c2.2 _ q).2
  have f3 : ∀ {i j : Nat}, (i, j) ∈ [(30, 3), (30, 4), (30, 5), (66, 78), (66, 79)] → Gb.1 i j = Gn.1 i j := fun q => hFn.i _ _ (c3.2 _ q).1 (c3.2 _ q).2
  have g1 : ∀ {i : Nat}, i ∈ [59, 60, 110, 111, 117, 118] → Gc.1 i = G.1 i := fun q => hFc.rows c1.1 q
  have g2 : ∀ {i : Nat}, i ∈ [58, 59, 60, 110, 111, 117, 118] → Gm.1 i = Ga.1 i := fun q => hFm.rows c2.1 q
  have g3 : ∀ {i : Nat}, i ∈ [58, 59, 60, 111, 117, 118] → Gb.1 i = Gn.1 i := fun q => hFn.rows c3.1 q
  refine ⟨⟨n + 1 - shd n, 0, ER_act hE hk (fun i hi => ?_) (f1 (by decide)) ha ?_ ?_ ?_ hw ?_ ?_ ?_ ?_ (g3 (by decide)) (f3 (by decide)) (f3 (by decide)) zr⟩, hB.fr (fun i hi => ?_) ?_⟩
  · rcases (by simpa using hi : i = 59) with rfl
    exact g1 (by decide)
  · rw [g2 (by decide), hFk.row1 110 (by decide) (by decide), g1 (by decide)]
  · rw [g2 (by decide), hFk.row1 111 (by decide) (by decide), g1 (by decide)]
  · rw [f2 (by decide), hFk.i 66 78 (by decide) (by decide), f1 (by decide)]
  · rw [g3 (by decide), hFa.row1 58 (by decide) (by decide), g2 (by decide)]
  · rw [g3 (by decide), hFa.row1 59 (by decide) (by decide), g2 (by decide)]
  · rw [f3 (by decide), hFa.i 30 4 (by decide) (by decide), f2 (by decide)]
  · rw [f3 (by decide), hFa.i 30 5 (by decide) (by decide), f2 (by decide)]
  · rcases (by simpa using hi : i = 60 ∨ i = 117 ∨ i = 118) with rfl | rfl | rfl
    · rw [g3 (by decide), hFa.row1 60 (by decide) (by decide), g2 (by decide), hFk.row1 60 (by decide) (by decide), g1 (by decide)]
    · rw [g3 (by decide), hFa.row1 117 (by decide) (by decide), g2 (by decide), hFk.row1 117 (by decide) (by decide), g1 (by decide)]
    · rw [g3 (by decide), hFa.row1 118 (by decide) (by decide), g2 (by decide), hFk.row1 118 (by decide) (by decide), g1 (by decide)]
  · rw [f3 (by decide), hFa.i 30 3 (by decide) (by decide), f2 (by decide), hFk.i 30 3 (by decide) (by decide), f1 (by decide)]
theorem ER.fr {V : PV} {rs : List Nat} {fs : List (Nat × Nat)} {G G1 : GS} (h : ER V G) (hF : Fr rs fs G G1) (h1 : ∀ i ∈ [58, 59, 60, 110, 111, 117, 118], i ∉ rs ∧ ∀ x ∈ fs, x.1 ≠ i) (h2 : ∀ y ∈ [(30, 3), (30, 4), (30, 5), (66, 78), (66, 79)], y.1 ∉ rs ∧ y ∉ fs) : ER V G1 := by
  obtain ⟨⟨n, m, hE⟩, hB⟩ := h
  refine ⟨⟨n, m, hE.fr (fun i hi => hF.rows h1 ?_) (fun y hy => hF.i y.1 y.2 (h2 y ?_).1 (h2 y ?_).2)⟩, hB.fr (fun i hi => hF.rows h1 ?_) (hF.i 30 3 (h2 (30, 3) (by decide)).1 (h2 (30, 3) (by decide)).2)⟩
  · rcases (by simpa using hi : i = 58 ∨ i = 59 ∨ i = 110 ∨ i = 111) with rfl | rfl | rfl | rfl <;> decide
  · rcases (by simpa using hy : y = (30, 4) ∨ y = (30, 5) ∨ y = (66, 78) ∨ y = (66, 79)) with rfl | rfl | rfl | rfl <;> decide
  · rcases (by simpa using hy : y = (30, 4) ∨ y = (30, 5) ∨ y = (66, 78) ∨ y = (66, 79)) with rfl | rfl | rfl | rfl <;> decide
  · rcases (by simpa using hi : i = 60 ∨ i = 117 ∨ i = 118) with rfl | rfl | rfl <;> decide
theorem ROK.sk {V : PV} {v : Nat → Int32} {j : Nat} {x : Int32} (h : ROK V v) (hj : j ≠ 0 ∧ j ≠ 1 ∧ j ≠ 6 ∧ j ≠ 8 ∧ j ≠ 9) : ROK V (upd v j x) := by
  unfold ROK at h ⊢
  rw [ud_no (Ne.symm hj.1), ud_no (Ne.symm hj.2.1), ud_no (Ne.symm hj.2.2.1), ud_no (Ne.symm hj.2.2.2.1), ud_no (Ne.symm hj.2.2.2.2)]
  exact h
theorem ROK.s9 {V : PV} {v : Nat → Int32} {x : Int32} (h : ROK V v) (hx : x.toInt = 0 ∨ x.toInt = 1) : ROK V (upd v 9 x) := by
  unfold ROK at h ⊢
  rw [ud_no (show (0 : Nat) ≠ 9 by decide), ud_no (show (1 : Nat) ≠ 9 by decide), ud_no (show (6 : Nat) ≠ 9 by decide), ud_no (show (8 : Nat) ≠ 9 by decide), ud_at]
  exact ⟨h.1, h.2.1, hx, h.2.2.2⟩
theorem ROK.s6 {V : PV} {v : Nat → Int32} {x : Int32} (h : ROK V v) (hx : 0 ≤ x.toInt ∧ x.toInt ≤ 1000) : ROK V (upd v 6 x) := by
  unfold ROK at h ⊢
  rw [ud_no (show (0 : Nat) ≠ 6 by decide), ud_no (show (1 : Nat) ≠ 6 by decide), ud_no (show (9 : Nat) ≠ 6 by decide), ud_no (show (8 : Nat) ≠ 6 by decide), ud_at]
  exact ⟨h.1, hx, h.2.2⟩
theorem ROK.s8 {V : PV} {v : Nat → Int32} {x : Int32} (h : ROK V v) (hx : 0 ≤ x.toInt ∧ x.toInt < 64) : ROK V (upd v 8 x) := by
  unfold ROK at h ⊢
  rw [ud_no (show (0 : Nat) ≠ 8 by decide), ud_no (show (1 : Nat) ≠ 8 by decide), ud_no (show (9 : Nat) ≠ 8 by decide), ud_no (show (6 : Nat) ≠ 8 by decide), ud_at]
  exact ⟨h.1, h.2.1, h.2.2.1, hx⟩
theorem k_today_eq {r : Int32} {G G1 : GS} (h : P_wToday G r G1) : G = G1 ∧ r = G.1 58 6 := by
  obtain ⟨-, hF, y, e, rfl, -⟩ := h
  exact ⟨hF.nil, e⟩
theorem act_rain {V : PV} {G Ga Gb : GS} {r r' : Int32} (hx : P_Wrain G r Ga) (hm : Q_rain Ga r' Gb) (hE : ER V G) : r.toInt = r'.toInt ∧ ER V Gb := by
  have hFx := hx.2.1
  obtain ⟨-, -, -, -, y1, e1, y2, e2, G3, -, hF3, w3, G5, hk, y9, e9, hh⟩ := hx
  obtain ⟨-, -, -, -, M2, ha, y6, e6, y7, e7, y10, e10, hh2⟩ := hm
  obtain ⟨-, -, -, -, -, -, -, -, -, z9, -, -⟩ := z32
  obtain ⟨n, m, hEn⟩ := hE.1
  rw [z9] at e1 w3 e9 e6 e10 hh2
  rw [ud_at] at e10
  have a110 : M2.1 110 = G.1 110 := (ha.2.1.row1 110 (by decide) (by decide)).trans (hFx.row1 110 (by decide) (by decide))
  have e19 : G.1 110 9 = G.1 58 9 := hEn.2.1 9 (by decide)
  have hv := hEn.now.2.2.1
  have h27 : y7 = y2 ∧ (y2.toInt = 0 ∨ y2.toInt = 1) := by
    rw [e7, e6, a110, e19, e2, e1]
    rcases hv with q | q
    · have e : G.1 58 9 = 0 := Int32.toInt_inj.mp (by rw [q]; rfl)
      rw [e]
      decide
    · have e : G.1 58 9 = 1 := Int32.toInt_inj.mp (by rw [q]; rfl)
      rw [e]
      decide
  have r58 : G5.1 58 = G3.1 58 := hk.2.1.row1 58 (by decide) (by decide)
  have e9' : y9 = y2 := by rw [e9, r58, w3, ud_at]
  have t1 : y9.toInt = y10.toInt := by rw [e9', e10, h27.1]
  have hw : ROK V (G3.1 58) := by
    rw [w3]
    exact hEn.now.s9 h27.2
  have hE2 : ∀ {Gz : GS}, G5 = Ga → Fr [110] [] M2 Gz → Gz.1 110 = upd (M2.1 110) 9 y7 → ER V Gz := by
    intro Gz e hFn w
    subst e
    refine ER_ac (rsm := []) (fsm := []) hE hF3 hk Fr.rf ha hFn hw (fun j hj => ?_) (by decide) (by decide) (by decide)
    rw [w, w3, a110, h27.1]
    by_cases hj9 : j = 9
    · subst hj9
      rw [ud_at, ud_at]
    · rw [ud_no hj9, ud_no hj9]
      exact hEn.2.1 j hj
  rcases hh with ⟨c, e, eG⟩ | ⟨c, e, eG⟩
  · rcases hh2 with ⟨d, e', hFn, w⟩ | ⟨d, e', hFn, w⟩
    · exact ⟨by rw [← e, ← e'], hE2 eG hFn w⟩
    · omega
  · rcases hh2 with ⟨d, e', hFn, w⟩ | ⟨d, e', hFn, w⟩
    · omega
    · exact ⟨by rw [← e, ← e'], hE2 eG hFn w⟩
theorem act_day {V : PV} {G Ga Gb : GS} {r r' : Int32} (hx : P_Wday G r Ga) (hm : Q_day Ga r' Gb) (hE : ER V G) : r.toInt = r'.toInt ∧ ER V Gb := by
  have hFx := hx.2.1
  obtain ⟨-, -, -, r1, G2, htd, hh⟩ := hx
  obtain ⟨rfl, er1⟩ := k_today_eq htd
  obtain ⟨-, -, -, y1, e1, hh2⟩ := hm
  obtain ⟨-, -, -, -, -, -, z6, -, -, -, -, -⟩ := z32
  obtain ⟨n, m, hEn⟩ := hE.1
  have hv := hEn.now.2.1
  have b110 : Ga.1 110 = G.1 110 := hFx.row1 110 (by decide) (by decide)
  have e16 : G.1 110 6 = G.1 58 6 := hEn.2.1 6 (by decide)
  rw [z6, b110, e16] at e1
  rcases hh with ⟨c, y7, e7, y8, e8, G9, -, hF9, w9, G11, hk, r15, G16, htd2, e, eG⟩ | ⟨c, e, eG⟩
  · obtain ⟨e15, er15⟩ := k_today_eq htd2
    rw [z6] at e7 w9
    rw [er1] at c
    rcases hh2 with ⟨d, -⟩ | ⟨d, M4, ha, y8', e8', y9', e9', y12, e12, e', hFn, w⟩
    · rw [e1] at d
      omega
    · rw [z6] at e8' e12 w
      rw [ud_at] at e12
      have eGa : G11 = Ga := e15.trans eG
      subst eGa
      have a110 : M4.1 110 = G.1 110 := (ha.2.1.row1 110 (by decide) (by decide)).trans b110
      have e88 : y9' = y8 := by rw [e9', e8', a110, e16, e8, e7]
      have r58 : G11.1 58 = G9.1 58 := hk.2.1.row1 58 (by decide) (by decide)
      have t8 : y8.toInt = (G.1 58 6).toInt + 1 := by
        have o1 : (1 : Int32).toInt = 1 := rfl
        have := tI_add e8 (by rw [e7, o1]; omega) (by rw [e7, o1]; omega)
        rw [this, e7, o1]
      refine ⟨?_, ER_ac (rsm := []) (fsm := []) hE hF9 hk Fr.rf ha hFn ?_ (fun j hj => ?_) (by decide) (by decide) (by decide)⟩
      · rw [← e, ← e', er15, r58, w9, ud_at, e12, e88]
      · rw [w9]
        exact hEn.now.s6 (by omega)
      · rw [w, w9, a110, e88]
        by_cases hj6 : j = 6
        · subst hj6
          rw [ud_at, ud_at]
        · rw [ud_no hj6, ud_no hj6]
          exact hEn.2.1 j hj
  · subst eG
    rw [er1] at c
    rcases hh2 with ⟨d, e', rfl⟩ | ⟨d, -⟩
    · exact ⟨by rw [← e, ← e'], hE⟩
    · rw [e1] at d
      omega
theorem xor_key : ∀ f : Nat, f < 64 → ∀ k : Nat, k < 6 → 0 ≤ (Int32.ofNat f ^^^ (1 : Int32) <<< (Int32.ofNat k &&& 31)).toInt ∧ (Int32.ofNat f ^^^ (1 : Int32) <<< (Int32.ofNat k &&& 31)).toInt < 64 := by decide +kernel
theorem xor_r {x p : Int32} (h0 : 0 ≤ x.toInt) (h1 : x.toInt < 64) (p0 : 0 ≤ p.toInt) (p1 : p.toInt < 6) : 0 ≤ (x ^^^ (1 : Int32) <<< (p &&& 31)).toInt ∧ (x ^^^ (1 : Int32) <<< (p &&& 31)).toInt < 64 := by
  have := xor_key x.toInt.toNat (by omega) p.toInt.toNat (by omega)
  rw [← nat_i h0, ← nat_i p0] at this
  exact this
-- the rest is written by g2.py
theorem q_isRule {p0 r : Int32} {G G1 : GS} (h : Q_isRule p0 G r G1) : G = G1 ∧ (r.toInt ≠ 0 ↔ (0 ≤ p0.toInt ∧ p0.toInt < (G.1 66 54).toInt)) := by
  obtain ⟨-, hF, -, -, y2, t2, r4, G5, hi, rfl, rfl⟩ := h
  refine ⟨hF.nil, (q_isIn hi).2.trans ⟨fun q => ⟨q.1, by have := q.2; omega⟩, fun q => ⟨q.1, by have := q.2; omega⟩⟩⟩
theorem k_hasRule_1_eq {p0 r : Int32} {G G1 : GS} (h : P_hasRule_1 p0 G r G1) : G = G1 ∧ (r.toInt ≠ 0 ↔ (0 ≤ p0.toInt ∧ p0.toInt < (G.1 1 11).toInt ∧ p0.toInt < 6)) := by
  obtain ⟨-, hF, -, h6, hh⟩ := h
  have z : (0 : Int32).toInt = 0 := rfl
  have o : (1 : Int32).toInt = 1 := rfl
  refine ⟨hF.nil, ?_⟩
  rcases hh with ⟨c, rfl, -⟩ | ⟨c, ⟨d, rfl, -⟩ | ⟨d, rfl, -⟩⟩ <;> omega
theorem act_force_1 {V : PV} {p0 q0 : Int32} {G Ga Gb : GS} {r r' : Int32} (hx : P_Wforce_1 p0 G r Ga) (hm : Q_force q0 Ga r' Gb) (i0 : p0.toInt = q0.toInt) (hW : CW_1 V G) (hR : RV V G) (hE : ER V G) : r.toInt = r'.toInt ∧ ER V Gb := by
  obtain rfl := Int32.toInt_inj.mp i0
  have hFx := hx.2.1
  obtain ⟨-, -, -, r1, G2, hhr, hh⟩ := hx
  obtain ⟨rfl, k1⟩ := k_hasRule_1_eq hhr
  obtain ⟨-, -, -, r1', M2, hir, hh2⟩ := hm
  obtain ⟨rfl, k2⟩ := q_isRule hir
  have b54 : Ga.1 66 54 = G.1 66 54 := hFx.i 66 54 (by decide) (by decide)
  rw [hW.2.2.1.1] at k1
  rw [b54, hR.2.2.1.1] at k2
  have h6 := hR.2.2.1.2.1
  have k12 : r1.toInt ≠ 0 ↔ r1'.toInt ≠ 0 := k1.trans ⟨fun q => k2.mpr ⟨q.1, q.2.1⟩, fun q => by have := k2.mp q; exact ⟨this.1, this.2, by omega⟩⟩
  obtain ⟨-, -, -, -, -, -, -, -, z8, -, -, -⟩ := z32
  obtain ⟨n, m, hEn⟩ := hE.1
  have hv := hEn.now.2.2.2
  have b110 : Ga.1 110 = G.1 110 := hFx.row1 110 (by decide) (by decide)
  have e18 : G.1 110 8 = G.1 58 8 := hEn.2.1 8 (by decide)
  rcases hh with ⟨c, e, eG⟩ | ⟨c, y8, e8, y9, e9, y10, e10, G11, -, hF11, w11, G13, hk, y17, e17, y18, e18', y19, e19, e, eG⟩
  · rcases hh2 with ⟨d, e', eG'⟩ | ⟨d, -⟩
    · subst eG
      subst eG'
      exact ⟨by rw [← e, ← e'], hE⟩
    · exact absurd c (k12.mpr d)
  · rcases hh2 with ⟨d, -⟩ | ⟨d, M9, ha, y13', e13', y14', e14', y15', e15', y18', f18, y19', f19, y20', f20, e', hFn, w⟩
    · exact absurd d (k12.mp c)
    · subst eG
      have kk := k1.mp c
      clear k1 k2 k12
      rw [z8] at e8 w11 e17 e13' f18 w
      rw [ud_at] at f18
      have a110 : M9.1 110 = G.1 110 := (ha.2.1.row1 110 (by decide) (by decide)).trans b110
      have e1510 : y15' = y10 := by rw [e15', e13', e14', a110, e18, e10, e8, e9]
      have r58 : G13.1 58 = G11.1 58 := hk.2.1.row1 58 (by decide) (by decide)
      have e1710 : y17 = y10 := by rw [e17, r58, w11, ud_at]
      refine ⟨?_, ER_ac (rsm := []) (fsm := []) hE hF11 hk Fr.rf ha hFn ?_ (fun j hj => ?_) (by decide) (by decide) (by decide)⟩
      · rw [← e, ← e', e19, e18', e1710, f20, f19, f18, e1510]
      · rw [w11]
        refine hEn.now.s8 ?_
        rw [e10, e9, e8]
        exact xor_r hv.1 hv.2 kk.1 kk.2.2
      · rw [w, w11, a110, e1510]
        by_cases hj8 : j = 8
        · subst hj8
          rw [ud_at, ud_at]
        · rw [ud_no hj8, ud_no hj8]
          exact hEn.2.1 j hj
theorem k_hasRule_2_eq {p0 r : Int32} {G G1 : GS} (h : P_hasRule_2 p0 G r G1) : G = G1 ∧ (r.toInt ≠ 0 ↔ (0 ≤ p0.toInt ∧ p0.toInt < (G.1 2 11).toInt ∧ p0.toInt < 6)) := by
  obtain ⟨-, hF, -, h6, hh⟩ := h
  have z : (0 : Int32).toInt = 0 := rfl
  have o : (1 : Int32).toInt = 1 := rfl
  refine ⟨hF.nil, ?_⟩
  rcases hh with ⟨c, rfl, -⟩ | ⟨c, ⟨d, rfl, -⟩ | ⟨d, rfl, -⟩⟩ <;> omega
theorem act_force_2 {V : PV} {p0 q0 : Int32} {G Ga Gb : GS} {r r' : Int32} (hx : P_Wforce_2 p0 G r Ga) (hm : Q_force q0 Ga r' Gb) (i0 : p0.toInt = q0.toInt) (hW : CW_2 V G) (hR : RV V G) (hE : ER V G) : r.toInt = r'.toInt ∧ ER V Gb := by
  obtain rfl := Int32.toInt_inj.mp i0
  have hFx := hx.2.1
  obtain ⟨-, -, -, r1, G2, hhr, hh⟩ := hx
  obtain ⟨rfl, k1⟩ := k_hasRule_2_eq hhr
  obtain ⟨-, -, -, r1', M2, hir, hh2⟩ := hm
  obtain ⟨rfl, k2⟩ := q_isRule hir
  have b54 : Ga.1 66 54 = G.1 66 54 := hFx.i 66 54 (by decide) (by decide)
  rw [hW.2.2.1.1] at k1
  rw [b54, hR.2.2.1.1] at k2
  have h6 := hR.2.2.1.2.1
  have k12 : r1.toInt ≠ 0 ↔ r1'.toInt ≠ 0 := k1.trans ⟨fun q => k2.mpr ⟨q.1, q.2.1⟩, fun q => by have := k2.mp q; exact ⟨this.1, this.2, by omega⟩⟩
  obtain ⟨-, -, -, -, -, -, -, -, z8, -, -, -⟩ := z32
  obtain ⟨n, m, hEn⟩ := hE.1
  have hv := hEn.now.2.2.2
  have b110 : Ga.1 110 = G.1 110 := hFx.row1 110 (by decide) (by decide)
  have e18 : G.1 110 8 = G.1 58 8 := hEn.2.1 8 (by decide)
  rcases hh with ⟨c, e, eG⟩ | ⟨c, y8, e8, y9, e9, y10, e10, G11, -, hF11, w11, G13, hk, y17, e17, y18, e18', y19, e19, e, eG⟩
  · rcases hh2 with ⟨d, e', eG'⟩ | ⟨d, -⟩
    · subst eG
      subst eG'
      exact ⟨by rw [← e, ← e'], hE⟩
    · exact absurd c (k12.mpr d)
  · rcases hh2 with ⟨d, -⟩ | ⟨d, M9, ha, y13', e13', y14', e14', y15', e15', y18', f18, y19', f19, y20', f20, e', hFn, w⟩
    · exact absurd d (k12.mp c)
    · subst eG
      have kk := k1.mp c
      clear k1 k2 k12
      rw [z8] at e8 w11 e17 e13' f18 w
      rw [ud_at] at f18
      have a110 : M9.1 110 = G.1 110 := (ha.2.1.row1 110 (by decide) (by decide)).trans b110
      have e1510 : y15' = y10 := by rw [e15', e13', e14', a110, e18, e10, e8, e9]
      have r58 : G13.1 58 = G11.1 58 := hk.2.1.row1 58 (by decide) (by decide)
      have e1710 : y17 = y10 := by rw [e17, r58, w11, ud_at]
      refine ⟨?_, ER_ac (rsm := []) (fsm := []) hE hF11 hk Fr.rf ha hFn ?_ (fun j hj => ?_) (by decide) (by decide) (by decide)⟩
      · rw [← e, ← e', e19, e18', e1710, f20, f19, f18, e1510]
      · rw [w11]
        refine hEn.now.s8 ?_
        rw [e10, e9, e8]
        exact xor_r hv.1 hv.2 kk.1 kk.2.2
      · rw [w, w11, a110, e1510]
        by_cases hj8 : j = 8
        · subst hj8
          rw [ud_at, ud_at]
        · rw [ud_no hj8, ud_no hj8]
          exact hEn.2.1 j hj
theorem act_undo {V : PV} {G Ga Gb : GS} {r r' : Int32} (hx : P_Wundo G r Ga) (hm : Q_undo Ga r' Gb) (hE : ER V G) : r.toInt = r'.toInt ∧ ER V Gb := by
  have hFx := hx.2.1
  have hFm := hm.2.1
  obtain ⟨-, -, -, -, r3, G4, hb, rfl, rfl⟩ := hx
  obtain ⟨-, -, -, -, hh⟩ := hb
  obtain ⟨-, -, -, -, hh2⟩ := hm
  obtain ⟨⟨n, m, ⟨h1, h2, h3, h4, h5⟩, h6, h7, h8, h9, h10⟩, hB⟩ := hE
  obtain ⟨z0, -, -, -, -, -, -, -, -, -, z10, -⟩ := z32
  have b78 : G4.1 66 78 = G.1 66 78 := hFx.i 66 78 (by decide) (by decide)
  have b79 : G4.1 66 79 = G.1 66 79 := hFx.i 66 79 (by decide) (by decide)
  have b110 : G4.1 110 = G.1 110 := hFx.row1 110 (by decide) (by decide)
  have b111 : G4.1 111 = G.1 111 := hFx.row1 111 (by decide) (by decide)
  have b59 : G4.1 59 = G.1 59 := hFx.row1 59 (by decide) (by decide)
  rcases hh with ⟨c, y3, t3, y6, t6, y8, t8, e, hF, w4, w5, w58⟩ | ⟨c, e, eG⟩
  · rcases hh2 with ⟨d, -⟩ | ⟨d, y3', t3', y6', t6', y8', t8', M7, -, hF7, v78, v79, M10, hex, e', eM⟩
    · rw [b78] at d
      omega
    · subst eM
      obtain ⟨k, hk⟩ : ∃ k, n = k + 1 := ⟨n - 1, by omega⟩
      subst hk
      rw [b78] at t3'
      rw [b79] at t6'
      obtain ⟨x1, x2⟩ := m_exch (p := 16 * k) hex (by omega)
      rw [hF7.row1 111 (by decide) (by decide), hF7.row1 110 (by decide) (by decide), b111, b110] at x1
      rw [hF7.row1 111 (by decide) (by decide), b111] at x2
      rw [cn_eq (x := y8) (e := 10 * k) (by omega), z0, z10] at w58
      have m30 : ∀ j, M10.1 30 j = G4.1 30 j := fun j => hFm.i 30 j (by decide) (by simp)
      have m58 : M10.1 58 = G4.1 58 := hFm.row1 58 (by decide) (by decide)
      have m59 : M10.1 59 = G.1 59 := (hFm.row1 59 (by decide) (by decide)).trans b59
      have m78 : M10.1 66 78 = M7.1 66 78 := hex.2.1.i 66 78 (by decide) (by decide)
      have m79 : M10.1 66 79 = M7.1 66 79 := hex.2.1.i 66 79 (by decide) (by decide)
      have w58' : ∀ j, j < 10 → M10.1 58 j = G.1 59 (10 * k + j) := fun j hj => by
        rw [m58, w58, cpy_in (by omega) (by omega), show 10 * k + (j - 0) = 10 * k + j by omega]
      refine ⟨by rw [← e, ← e'], ⟨k, m + 1, ⟨?_, ?_, ?_, ?_, by omega⟩, fun j hj => ?_, fun i hi => ?_, fun j hj => ?_, fun i j hi hj => ?_, fun i j hi hi2 hj => ?_⟩, hB.fr (fun i hi => ?_) ?_⟩
      · rw [m30, w4]
        omega
      · rw [m30, w5]
        omega
      · rw [m78, v78]
        omega
      · rw [m79, v79]
        omega
      · rw [w58' j hj, (x1 j hj).1]
        exact h9 k j (by omega) hj
      · rw [m59]
        exact h7 i (by omega)
      · rw [m59, w58' j hj]
      · rw [m59, x2 _ (by omega)]
        exact h9 i j (by omega) hj
      · rw [m59]
        by_cases hik : i = k
        · subst hik
          rw [(x1 j hj).2, h6 j hj]
          exact (h8 j hj).symm
        · rw [x2 _ (by omega)]
          exact h10 i j (by omega) (by omega) hj
      · rcases (by simpa using hi : i = 60 ∨ i = 117 ∨ i = 118) with rfl | rfl | rfl
        · exact (hFm.row1 60 (by decide) (by decide)).trans (hFx.row1 60 (by decide) (by decide))
        · exact (hFm.row1 117 (by decide) (by decide)).trans (hFx.row1 117 (by decide) (by decide))
        · exact (hFm.row1 118 (by decide) (by decide)).trans (hFx.row1 118 (by decide) (by decide))
      · exact (hFm.i 30 3 (by decide) (by decide)).trans (hFx.i 30 3 (by decide) (by decide))
  · subst eG
    rcases hh2 with ⟨d, e', rfl⟩ | ⟨d, -⟩
    · exact ⟨by rw [← e, ← e'], ⟨n, m, ⟨h1, h2, h3, h4, h5⟩, h6, h7, h8, h9, h10⟩, hB⟩
    · omega
theorem act_redo {V : PV} {G Ga Gb : GS} {r r' : Int32} (hx : P_Wredo G r Ga) (hm : Q_redo Ga r' Gb) (hE : ER V G) : r.toInt = r'.toInt ∧ ER V Gb := by
  have hFx := hx.2.1
  have hFm := hm.2.1
  obtain ⟨-, -, -, -, r3, G4, hb, rfl, rfl⟩ := hx
  obtain ⟨-, -, -, -, hh⟩ := hb
  obtain ⟨-, -, -, -, hh2⟩ := hm
  obtain ⟨⟨n, m, ⟨h1, h2, h3, h4, h5⟩, h6, h7, h8, h9, h10⟩, hB⟩ := hE
  obtain ⟨z0, -, -, -, -, -, -, -, -, -, z10, -⟩ := z32
  have b78 : G4.1 66 78 = G.1 66 78 := hFx.i 66 78 (by decide) (by decide)
  have b79 : G4.1 66 79 = G.1 66 79 := hFx.i 66 79 (by decide) (by decide)
  have b110 : G4.1 110 = G.1 110 := hFx.row1 110 (by decide) (by decide)
  have b111 : G4.1 111 = G.1 111 := hFx.row1 111 (by decide) (by decide)
  have b59 : G4.1 59 = G.1 59 := hFx.row1 59 (by decide) (by decide)
  rcases hh with ⟨c, y4, t4, y6, t6, y8, t8, e, hF, w4, w5, w58⟩ | ⟨c, e, eG⟩
  · rcases hh2 with ⟨d, -⟩ | ⟨d, y4', t4', M6, hex, y10', t10', y12', t12', e', hFe, v78, v79⟩
    · rw [b79] at d
      omega
    · obtain ⟨k, hk⟩ : ∃ k, m = k + 1 := ⟨m - 1, by omega⟩
      subst hk
      rw [b78] at t4' t10'
      rw [b79] at t12'
      obtain ⟨x1, x2⟩ := m_exch (p := 16 * n) hex (by omega)
      rw [b111, b110] at x1
      rw [b111] at x2
      rw [cn_eq (x := y8) (e := 10 * (n + 1)) (by omega), z0, z10] at w58
      have m30 : ∀ j, Gb.1 30 j = G4.1 30 j := fun j => hFm.i 30 j (by decide) (by simp)
      have m58 : Gb.1 58 = G4.1 58 := hFm.row1 58 (by decide) (by decide)
      have m59 : Gb.1 59 = G.1 59 := (hFm.row1 59 (by decide) (by decide)).trans b59
      have m110 : Gb.1 110 = M6.1 110 := hFe.row1 110 (by decide) (by decide)
      have m111 : Gb.1 111 = M6.1 111 := hFe.row1 111 (by decide) (by decide)
      have w58' : ∀ j, j < 10 → Gb.1 58 j = G.1 59 (10 * (n + 1) + j) := fun j hj => by
        rw [m58, w58, cpy_in (by omega) (by omega), show 10 * (n + 1) + (j - 0) = 10 * (n + 1) + j by omega]
      refine ⟨by rw [← e, ← e'], ⟨n + 1, k, ⟨?_, ?_, ?_, ?_, by omega⟩, fun j hj => ?_, fun i hi => ?_, fun j hj => ?_, fun i j hi hj => ?_, fun i j hi hi2 hj => ?_⟩, hB.fr (fun i hi => ?_) ?_⟩
      · rw [m30, w4]
        omega
      · rw [m30, w5]
        omega
      · rw [v78]
        omega
      · rw [v79]
        omega
      · rw [w58' j hj, m110, (x1 j hj).1]
        exact h10 n j (Nat.le_refl n) (by omega) hj
      · rw [m59]
        exact h7 i (by omega)
      · rw [m59, w58' j hj]
      · rw [m59, m111]
        by_cases hik : i = n
        · subst hik
          rw [(x1 j hj).2, h6 j hj]
          exact (h8 j hj).symm
        · rw [x2 _ (by omega)]
          exact h9 i j (by omega) hj
      · rw [m59, m111, x2 _ (by omega)]
        exact h10 i j (by omega) (by omega) hj
      · rcases (by simpa using hi : i = 60 ∨ i = 117 ∨ i = 118) with rfl | rfl | rfl
        · exact (hFm.row1 60 (by decide) (by decide)).trans (hFx.row1 60 (by decide) (by decide))
        · exact (hFm.row1 117 (by decide) (by decide)).trans (hFx.row1 117 (by decide) (by decide))
        · exact (hFm.row1 118 (by decide) (by decide)).trans (hFx.row1 118 (by decide) (by decide))
      · exact (hFm.i 30 3 (by decide) (by decide)).trans (hFx.i 30 3 (by decide) (by decide))
  · subst eG
    rcases hh2 with ⟨d, e', rfl⟩ | ⟨d, -⟩
    · exact ⟨by rw [← e, ← e'], ⟨n, m, ⟨h1, h2, h3, h4, h5⟩, h6, h7, h8, h9, h10⟩, hB⟩
    · omega
theorem q_isBox {p0 r : Int32} {G G1 : GS} (h : Q_isBox p0 G r G1) : G = G1 ∧ (r.toInt ≠ 0 ↔ (0 ≤ p0.toInt ∧ p0.toInt < 3)) := by
  obtain ⟨-, hF, -, -, hh⟩ := h
  have z : (0 : Int32).toInt = 0 := rfl
  have o : (1 : Int32).toInt = 1 := rfl
  refine ⟨hF.nil, ?_⟩
  rcases hh with ⟨c, rfl, -⟩ | ⟨c, ⟨d, rfl, -⟩ | ⟨d, rfl, -⟩⟩ <;> omega
theorem box_set : ∀ f : Nat, f < 8 → ∀ b : Nat, b < 3 → (Int32.ofNat f ||| (1 : Int32) <<< (Int32.ofNat b &&& 31)) = Int32.ofNat (f ||| 2 ^ b) ∧ f ||| 2 ^ b < 8 ∧ ∀ c : Nat, c < 3 → ((f ||| 2 ^ b).testBit c = true ↔ (c = b ∨ f.testBit c = true)) := by decide +kernel
theorem box_get : ∀ f : Nat, f < 8 → ∀ b : Nat, b < 3 → (((Int32.ofNat f >>> (Int32.ofNat b &&& 31)) &&& 1).toInt ≠ 0 ↔ f.testBit b = true) := by decide +kernel
theorem m_imgl {p0 x : Int32} {G G1 : GS} {b : Nat} (hl : Rc (St_n_image_1 p0) (0, G) (x, G1)) (hx : 10 ≤ x.toInt) (hp : p0.toInt = (b : Int)) : (∀ j, j < 10 → G1.1 118 (16 * b + j) = G.1 110 (0 + j)) ∧ (∀ i, i < 16 * b ∨ 16 * b + 10 ≤ i → G1.1 118 i = G.1 118 i) ∧ G1.1 110 = G.1 110 := by
  refine cp_loop (N := 10) (so := 0) (dp := 16 * b) hl (fun y Gy yn Gn hs k hk => ?_) hx
  obtain ⟨a, b', an, bn, q1, q2, -, -, c, y24, t24, y25, t25, y26, e26, y28, t28, ex, hF, w⟩ := hs
  obtain ⟨rfl, rfl⟩ := Prod.mk.inj q1
  obtain ⟨rfl, rfl⟩ := Prod.mk.inj q2
  rw [cn_eq (x := y25) (e := 16 * b + k) (by omega), e26, cn_eq hk] at w
  refine ⟨by omega, by rw [← ex]; omega, by rw [Nat.zero_add]; exact w, hF.row1 110 (by decide) (by decide)⟩
theorem m_backl {p0 x : Int32} {G G1 : GS} {b : Nat} (hl : Rc (St_n_back_1 p0) (0, G) (x, G1)) (hx : 10 ≤ x.toInt) (hp : p0.toInt = (b : Int)) : (∀ j, j < 10 → G1.1 110 (0 + j) = G.1 118 (16 * b + j)) ∧ (∀ i, i < 0 ∨ 0 + 10 ≤ i → G1.1 110 i = G.1 110 i) ∧ G1.1 118 = G.1 118 := by
  refine cp_loop (N := 10) (so := 16 * b) (dp := 0) hl (fun y Gy yn Gn hs k hk => ?_) hx
  obtain ⟨a, b', an, bn, q1, q2, -, -, c, y29, t29, y30, t30, y31, e31, y33, t33, ex, hF, w⟩ := hs
  obtain ⟨rfl, rfl⟩ := Prod.mk.inj q1
  obtain ⟨rfl, rfl⟩ := Prod.mk.inj q2
  rw [cn_eq (x := y30) (e := 16 * b + k) (by omega)] at e31
  rw [e31, cn_eq hk] at w
  refine ⟨by omega, by rw [← ex]; omega, by rw [Nat.zero_add]; exact w, hF.row1 118 (by decide) (by decide)⟩
theorem act_image {V : PV} {p0 q0 : Int32} {G Ga Gb : GS} {r r' : Int32} (hx : P_Wimage p0 G r Ga) (hm : Q_image q0 Ga r' Gb) (i0 : p0.toInt = q0.toInt) (hE : ER V G) : r.toInt = r'.toInt ∧ ER V Gb := by
  obtain rfl := Int32.toInt_inj.mp i0
  have hFx := hx.2.1
  have hFm := hm.2.1
  obtain ⟨-, -, -, r3, G4, hin, hh⟩ := hx
  obtain ⟨-, -, -, -, hin⟩ := hin
  obtain ⟨-, -, -, r1, M2, hib, hh2⟩ := hm
  obtain ⟨rfl, k2⟩ := q_isBox hib
  obtain ⟨⟨n, m, hEn⟩, hB⟩ := hE
  obtain ⟨z0, -, -, -, -, -, z6, -, -, -, z10, -⟩ := z32
  have b110 : Ga.1 110 = G.1 110 := hFx.row1 110 (by decide) (by decide)
  have e16 : G.1 110 6 = G.1 58 6 := hEn.2.1 6 (by decide)
  have out : G = G4 → r3.toInt = 0 → ¬ (0 ≤ p0.toInt ∧ p0.toInt < 3) → r.toInt = r'.toInt ∧ ER V Gb := by
    intro e4 h0 hno
    have hr1 : r1.toInt = 0 := Classical.byContradiction (fun w => hno (k2.mp w))
    rcases hh with ⟨-, e, eG⟩ | ⟨c, -⟩
    · rcases hh2 with ⟨-, e', eG'⟩ | ⟨c', -⟩
      · subst e4
        subst eG
        subst eG'
        exact ⟨by rw [← e, ← e'], ⟨n, m, hEn⟩, hB⟩
      · exact absurd hr1 c'
    · exact absurd h0 c
  rcases hin with ⟨c, e, e4⟩ | ⟨c, ⟨d, y5, t5, y9, e9, y10, e10, e3, hF4, w3, w60⟩ | ⟨d, e, e4⟩⟩
  · exact out e4 (by rw [← e]; rfl) (by omega)
  · have hr1 : r1.toInt ≠ 0 := k2.mpr ⟨c, d⟩
    clear k2 out
    have h31 : r3.toInt ≠ 0 := by rw [← e3]; decide
    rcases hh with ⟨c1, -⟩ | ⟨-, r12, G13, htd, e, eG⟩
    · exact absurd c1 h31
    rcases hh2 with ⟨c1, -⟩ | ⟨-, M8, -, hF8, w117, x13, M9, hl, -, -, hF9, c13, y19, e19, e', eG'⟩
    · exact absurd c1 hr1
    obtain ⟨e13, er12⟩ := k_today_eq htd
    have eGa : G4 = Ga := e13.trans eG
    subst eGa
    subst eG'
    obtain ⟨b, hb⟩ : ∃ b : Nat, p0.toInt = (b : Int) := ⟨p0.toInt.toNat, by omega⟩
    obtain ⟨l1, l2, l3⟩ := m_imgl hl c13 hb
    rw [hF8.row1 110 (by decide) (by decide), b110] at l1 l3
    rw [hF8.row1 118 (by decide) (by decide), hFx.row1 118 (by decide) (by decide)] at l2
    rw [z6, l3, e16] at e19
    rw [cn_eq (x := y5) (e := 10 * b) (by omega), z0, z10] at w60
    obtain ⟨f, hf8, hf, hBx⟩ := hB
    have ep : p0 = Int32.ofNat b := by
      rw [nat_i (x := p0) c, hb]
      rfl
    obtain ⟨s1, s2, s3⟩ := box_set f hf8 b (by omega)
    rw [cn_eq hb, hFx.row1 117 (by decide) (by decide)] at w117
    have m117 : M9.1 117 = upd (G.1 117) b (vp_nar .boolean 1) := (hF9.row1 117 (by decide) (by decide)).trans w117
    have m60 : M9.1 60 = va_cpy (G.1 58) (G.1 60) 0 (10 * b) 10 := (hFm.row1 60 (by decide) (by decide)).trans w60
    refine ⟨?_, ⟨n, m, hEn.fr (fun i hi => ?_) (fun y hy => ?_)⟩, f ||| 2 ^ b, s2, ?_, fun b' hb' => ⟨?_, fun q => ⟨fun j hj => ?_, ?_⟩⟩⟩
    · rw [← e, ← e', er12, e19, hF4.row1 58 (by decide) (by decide)]
    · rcases (by simpa using hi : i = 58 ∨ i = 59 ∨ i = 110 ∨ i = 111) with rfl | rfl | rfl | rfl
      · exact (hFm.row1 58 (by decide) (by decide)).trans (hFx.row1 58 (by decide) (by decide))
      · exact (hFm.row1 59 (by decide) (by decide)).trans (hFx.row1 59 (by decide) (by decide))
      · exact (hFm.row1 110 (by decide) (by decide)).trans (hFx.row1 110 (by decide) (by decide))
      · exact (hFm.row1 111 (by decide) (by decide)).trans (hFx.row1 111 (by decide) (by decide))
    · rcases (by simpa using hy : y = (30, 4) ∨ y = (30, 5) ∨ y = (66, 78) ∨ y = (66, 79)) with rfl | rfl | rfl | rfl
      · exact (hFm.i 30 4 (by decide) (by decide)).trans (hFx.i 30 4 (by decide) (by decide))
      · exact (hFm.i 30 5 (by decide) (by decide)).trans (hFx.i 30 5 (by decide) (by decide))
      · exact (hFm.i 66 78 (by decide) (by decide)).trans (hFx.i 66 78 (by decide) (by decide))
      · exact (hFm.i 66 79 (by decide) (by decide)).trans (hFx.i 66 79 (by decide) (by decide))
    · rw [hFm.i 30 3 (by decide) (by decide), w3, e10, e9, hf, ep]
      exact s1
    · rw [m117]
      by_cases hbb : b' = b
      · subst hbb
        rw [ud_at]
        exact ⟨fun _ => (s3 b' hb').mpr (Or.inl rfl), fun _ => by decide⟩
      · rw [ud_no hbb]
        exact ((hBx b' hb').1).trans ⟨fun q => (s3 b' hb').mpr (Or.inr q), fun q => ((s3 b' hb').mp q).resolve_left hbb⟩
    · rw [m60]
      by_cases hbb : b' = b
      · subst hbb
        rw [l1 j hj, cpy_in (by omega) (by omega), Nat.zero_add, show 0 + (10 * b' + j - 10 * b') = j by omega]
        exact hEn.2.1 j hj
      · rw [l2 _ (by omega), cpy_out (by omega)]
        exact ((hBx b' hb').2 (((s3 b' hb').mp q).resolve_left hbb)).1 j hj
    · by_cases hbb : b' = b
      · subst hbb
        refine hEn.now.cg (fun j hj => ?_)
        show M9.1 60 (10 * b' + j) = _
        rw [m60, cpy_in (by omega) (by omega), show 0 + (10 * b' + j - 10 * b') = j by omega]
      · refine ((hBx b' hb').2 (((s3 b' hb').mp q).resolve_left hbb)).2.cg (fun j hj => ?_)
        show M9.1 60 (10 * b' + j) = _
        rw [m60, cpy_out (by omega)]
  · exact out e4 (by rw [← e]; rfl) (by omega)
theorem act_back {V : PV} {p0 q0 : Int32} {G Ga Gb : GS} {r r' : Int32} (hx : P_Wback p0 G r Ga) (hm : Q_back q0 Ga r' Gb) (i0 : p0.toInt = q0.toInt) (hE : ER V G) : r.toInt = r'.toInt ∧ ER V Gb := by
  obtain rfl := Int32.toInt_inj.mp i0
  have hFx := hx.2.1
  have hFm := hm.2.1
  obtain ⟨-, -, -, r3, G4, hin, hh⟩ := hx
  obtain ⟨-, -, -, -, hin⟩ := hin
  obtain ⟨-, -, -, r1, M2, hib, hh2⟩ := hm
  obtain ⟨rfl, k2⟩ := q_isBox hib
  obtain ⟨⟨n, m, hEn⟩, hB⟩ := hE
  obtain ⟨z0, -, -, -, -, -, z6, -, -, -, z10, -⟩ := z32
  obtain ⟨f, hf8, hf, hBx⟩ := hB
  have b117 : Ga.1 117 = G.1 117 := hFx.row1 117 (by decide) (by decide)
  have b118 : Ga.1 118 = G.1 118 := hFx.row1 118 (by decide) (by decide)
  have out : G = G4 → r3.toInt = 0 → (r1.toInt ≠ 0 → (G.1 117 p0.toNatClampNeg).toInt = 0) → r.toInt = r'.toInt ∧ ER V Gb := by
    intro e4 h0 hno
    rcases hh with ⟨-, e, eG⟩ | ⟨c, -⟩
    · subst e4
      subst eG
      rcases hh2 with ⟨-, e', eG'⟩ | ⟨c', y12, e12, ⟨-, e', eG'⟩ | ⟨d, -⟩⟩
      · subst eG'
        exact ⟨by rw [← e, ← e'], ⟨n, m, hEn⟩, f, hf8, hf, hBx⟩
      · subst eG'
        exact ⟨by rw [← e, ← e'], ⟨n, m, hEn⟩, f, hf8, hf, hBx⟩
      · rw [e12] at d
        exact absurd (hno c') d
    · exact absurd h0 c
  rcases hin with ⟨c, e, e4⟩ | ⟨c, ⟨d, e, e4⟩ | ⟨d, y7, e7, y8, e8, hin⟩⟩
  · exact out e4 (by rw [← e]; rfl) (fun w => absurd (k2.mp w) (by omega))
  · exact out e4 (by rw [← e]; rfl) (fun w => absurd (k2.mp w) (by omega))
  · have hr1 : r1.toInt ≠ 0 := k2.mpr ⟨c, d⟩
    clear k2
    obtain ⟨b, hb⟩ : ∃ b : Nat, p0.toInt = (b : Int) := ⟨p0.toInt.toNat, by omega⟩
    have ep : p0 = Int32.ofNat b := by
      rw [nat_i (x := p0) c, hb]
      rfl
    have hg := box_get f hf8 b (by omega)
    rw [hf, ep] at e7
    rw [e7] at e8
    rw [← e8] at hg
    have hbx := hBx b (by omega)
    rcases hin with ⟨g, e, e4⟩ | ⟨g, y10, t10, G11, -, hF11, w58, G15, hfo, e3, eG⟩
    · refine out e4 (by rw [← e]; rfl) (fun _ => ?_)
      rw [cn_eq hb]
      exact Classical.byContradiction (fun w => (hg.mpr (hbx.1.mp w)) g)
    · clear out
      have hbit := hg.mp g
      obtain ⟨hrow, hrok⟩ := hbx.2 hbit
      have h117 : (G.1 117 b).toInt ≠ 0 := hbx.1.mpr hbit
      have h31 : r3.toInt ≠ 0 := by rw [← e3]; decide
      subst eG
      rcases hh with ⟨c1, -⟩ | ⟨-, r12, G13, htd, e, eG⟩
      · exact absurd c1 h31
      rcases hh2 with ⟨c1, -⟩ | ⟨-, y12, e12, ⟨c1, -⟩ | ⟨-, x18, M14, hl, -, -, hF14, c18, y26, e26, e', hFe, v78, v79⟩⟩
      · exact absurd c1 hr1
      · rw [e12, cn_eq hb, b117] at c1
        exact absurd c1 h117
      obtain ⟨e13, er12⟩ := k_today_eq htd
      have eGa : G15 = Ga := e13.trans eG
      subst eGa
      obtain ⟨l1, l2, l3⟩ := m_backl hl c18 hb
      rw [b118] at l1
      obtain ⟨-, hFf, -, -, f4, f5, f59⟩ := hfo
      rw [cn_eq (x := y10) (e := 10 * b) (by omega), z0, z10] at w58
      rw [z0, z10] at f59
      have m58 : Gb.1 58 = G11.1 58 := (hFm.row1 58 (by decide) (by decide)).trans (hFf.row1 58 (by decide) (by decide))
      have m59 : Gb.1 59 = G15.1 59 := hFm.row1 59 (by decide) (by decide)
      have m110 : Gb.1 110 = M14.1 110 := hFe.row1 110 (by decide) (by decide)
      have w58' : ∀ j, j < 10 → Gb.1 58 j = G.1 60 (10 * b + j) := fun j hj => by
        rw [m58, w58, cpy_in (by omega) (by omega), show 10 * b + (j - 0) = 10 * b + j by omega]
      have w110 : ∀ j, j < 10 → Gb.1 110 j = Gb.1 58 j := fun j hj => by
        have := l1 j hj
        rw [Nat.zero_add] at this
        rw [m110, this, w58' j hj]
        exact hrow j hj
      have w59 : ∀ j, j < 10 → Gb.1 59 j = Gb.1 58 j := fun j hj => by
        rw [m59, f59, cpy_in (by omega) (by omega), m58, show 0 + (j - 0) = j by omega]
      refine ⟨?_, ⟨0, 0, ⟨?_, ?_, ?_, ?_, by decide⟩, w110, fun k hk => ?_, fun j hj => ?_, fun k j hk => absurd hk (Nat.not_lt_zero k), fun k j hk hk2 => absurd hk2 (Nat.not_lt_zero k)⟩, BXs.fr (G := G) ⟨f, hf8, hf, hBx⟩ (fun i hi => ?_) ?_⟩
      · rw [← e, ← e', er12, e26, z6, ← m110, w110 6 (by decide), hFm.row1 58 (by decide) (by decide)]
      · rw [hFm.i 30 4 (by decide) (by decide), f4]
        rfl
      · rw [hFm.i 30 5 (by decide) (by decide), f5]
        rfl
      · rw [v78]
        rfl
      · rw [v79]
        rfl
      · have hk0 : k = 0 := by omega
        subst hk0
        refine hrok.cg (fun j hj => ?_)
        show Gb.1 59 (10 * 0 + j) = G.1 60 (10 * b + j)
        rw [show 10 * 0 + j = j by omega, w59 j hj, w58' j hj]
      · rw [show 10 * 0 + j = j by omega]
        exact w59 j hj
      · rcases (by simpa using hi : i = 60 ∨ i = 117 ∨ i = 118) with rfl | rfl | rfl
        · exact (hFm.row1 60 (by decide) (by decide)).trans (hFx.row1 60 (by decide) (by decide))
        · exact (hFm.row1 117 (by decide) (by decide)).trans (hFx.row1 117 (by decide) (by decide))
        · exact (hFm.row1 118 (by decide) (by decide)).trans (hFx.row1 118 (by decide) (by decide))
      · exact (hFm.i 30 3 (by decide) (by decide)).trans (hFx.i 30 3 (by decide) (by decide))
theorem walker_eq {V : PV} {p0 q0 : Int32} {G Ga Gb : GS} {r r' : Int32} (hx : P_Wwalker p0 G r Ga) (hm : Q_walker q0 Ga r' Gb) (i0 : p0.toInt = q0.toInt) (hE : ER V G) : r.toInt = r'.toInt := by
  obtain rfl := Int32.toInt_inj.mp i0
  have eG := hx.2.1.nil
  subst eG
  obtain ⟨-, -, y1, e1, hx⟩ := hx
  obtain ⟨-, -, y1', e1', hm⟩ := hm
  obtain ⟨⟨n, m, hEn⟩, hB⟩ := hE
  obtain ⟨z0, -, -, -, -, -, -, -, -, -, -, -⟩ := z32
  have h0 := hEn.2.1 0 (by decide)
  have hv := hEn.now.1
  rw [z0] at e1 e1'
  rw [h0] at e1'
  rw [← e1] at hv e1'
  rcases hx with ⟨c, rfl, -⟩ | ⟨c, hx⟩
  · rcases hm with ⟨-, rfl, -⟩ | ⟨d, -⟩
    · rfl
    · rw [e1'] at d
      omega
  · rcases hm with ⟨d, -⟩ | ⟨d, r5, G6, hi, hm⟩
    · rw [e1'] at d
      omega
    · obtain ⟨rfl, k⟩ := q_isIn hi
      have z : (0 : Int32).toInt = 0 := rfl
      have f : (5 : Int32).toInt = 5 := rfl
      rw [z, f] at k
      rcases hx with ⟨c2, rfl, -⟩ | ⟨c2, ⟨c3, y5, e5, rfl, -⟩ | ⟨c3, rfl, -⟩⟩
      · rcases hm with ⟨-, rfl, -⟩ | ⟨d2, -⟩
        · rfl
        · exact absurd (k.mp d2) (by omega)
      · rcases hm with ⟨d2, -⟩ | ⟨-, y12, e12, rfl, -⟩
        · exact absurd d2 (k.mpr ⟨c2, c3⟩)
        · clear k
          obtain ⟨w, hw⟩ : ∃ w : Nat, p0.toInt = (w : Int) := ⟨p0.toInt.toNat, by omega⟩
          rw [e5, e12, cn_eq hw, hEn.2.1 w (by omega)]
      · rcases hm with ⟨-, rfl, -⟩ | ⟨d2, -⟩
        · rfl
        · exact absurd (k.mp d2) (by omega)
