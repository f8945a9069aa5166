/-! SIGHTS -/
theorem SOK.fr {V : PV} {rs : List Nat} {fs : List (Nat × Nat)} {G G1 : GS} (h : SOK V G) (hF : Fr rs fs G G1) (h1 : ∀ i ∈ [61, 62, 63], i ∉ rs ∧ ∀ x ∈ fs, x.1 ≠ i) (h2 : ∀ y ∈ [(31, 5)], y.1 ∉ rs ∧ y ∉ fs) : SOK V G1 := by
  unfold SOK at h ⊢
  rw [hF.i 31 5 (h2 (31, 5) (by decide)).1 (h2 (31, 5) (by decide)).2, hF.rows h1 (i := 61) (by decide), hF.rows h1 (i := 62) (by decide), hF.rows h1 (i := 63) (by decide)]
  exact h
/-- what the found LINES need -/
def CX_1 (V : PV) (G : GS) : Prop := CaC_1 V G ∧ CW_1 V G ∧ 0 ≤ (G.1 58 6).toInt
theorem CX_1.fr {V : PV} {rs : List Nat} {fs : List (Nat × Nat)} {G G1 : GS} (h : CX_1 V G) (hF : Fr rs fs G G1) (h1 : (∀ i ∈ [10, 11, 12, 13, 14, 15, 16, 17, 18], i ∉ rs ∧ ∀ x ∈ fs, x.1 ≠ i) ∧ ∀ i ∈ [37, 38, 58], i ∉ rs ∧ ∀ x ∈ fs, x.1 ≠ i) (h2 : ∀ y ∈ [(1, 9), (1, 10), (1, 11), (1, 12), (1, 13), (1, 14), (1, 15), (1, 16)], y.1 ∉ rs ∧ y ∉ fs) : CX_1 V G1 := ⟨h.1.fr (hF.rows h1.2 (i := 37) (by decide)) (hF.rows h1.2 (i := 38) (by decide)), h.2.1.fr hF h1.1 h2, by rw [hF.rows h1.2 (i := 58) (by decide)]; exact h.2.2⟩
theorem CX_1.find {V : PV} {p day : Int32} {G G1 : GS} (h : CX_1 V G) (hf : P_lFind_1 p day G G1) (hR3 : V.1.length ≤ 3) (hV : PVok V) (hd : day = G.1 58 6) : CX_1 V G1 := ⟨ca_find_1 hf h.2.1 hR3 hV (by rw [hd]; exact h.2.2) h.1, h.2.1.fr hf.2.1 (by decide) (by decide), by rw [hf.2.1.row1 58 (by decide) (by decide)]; exact h.2.2⟩
theorem CX_1.prep {V : PV} {p0 p1 p2 : Int32} {G G1 : GS} (h : CX_1 V G) (hf : P_wPrep_1 p0 p1 p2 G G1) (hR3 : V.1.length ≤ 3) (hV : PVok V) : CX_1 V G1 := by
  obtain ⟨-, -, -, r1, G2, htd, G7, hfi, G14, hlk, G19, hcf, rfl⟩ := hf
  obtain ⟨rfl, e1⟩ := k_today_eq htd
  exact ((h.find hfi hR3 hV e1).fr hlk.2.1 (by decide) (by decide)).fr hcf.2.1 (by decide) (by decide)
theorem IV_1.cx {V : PV} {G : GS} (h : IV_1 V G) : CX_1 V G := ⟨h.2.2.2.1, h.1, h.2.2.2.2.1.day.1.1⟩
theorem CX_1.ls {V : PV} {p0 p1 p2 r : Int32} {G G1 : GS} (h : CX_1 V G) (hs : P_wLSight_1 p0 p1 p2 G r G1) (hR3 : V.1.length ≤ 3) (hV : PVok V) : CX_1 V G1 := by
  obtain ⟨-, -, -, y1, e1, y2, e2, y3, e3, r4, G5, htd, G10, hfi, y14, e14, y15, e15, y16, e16, r17, G18, hil, rfl, rfl⟩ := hs
  obtain ⟨rfl, e4⟩ := k_today_eq htd
  obtain rfl := hil.2.1.nil
  exact h.find hfi hR3 hV e4
theorem CX_1.near {V : PV} {p0 p1 p2 r : Int32} {G G1 : GS} (h : CX_1 V G) (hs : P_wNear_1 p0 p1 p2 G r G1) (hR3 : V.1.length ≤ 3) (hV : PVok V) : CX_1 V G1 := by
  obtain ⟨-, -, x5, x6, G2, hl, -, -, -, c, -, rfl⟩ := hs
  exact hl (fun q => CX_1 V q.2.2) h (by
    rintro ⟨a1, a2, b⟩ ⟨n1, n2, bn⟩ hi ⟨x1, x2, g, u1, u2, gn, q1, q2, -, -, c1, y13, e13, y14, e14, y15, e15, y16, e16, r19, G20, hst, hd⟩
    simp only [Prod.mk.injEq] at q1 q2
    obtain ⟨rfl, rfl, rfl⟩ := q1
    obtain ⟨rfl, rfl, rfl⟩ := q2
    obtain rfl := hst.2.1.nil
    rcases hd with ⟨f, y26, t26, ex, e6, eG⟩ | ⟨f, ⟨g2, y28, e28, y29, t29, ex, e6, eG⟩ | ⟨g2, r30, G31, hls, ⟨k, y37, t37, ex, e6, eG⟩ | ⟨k, y38, e38, y39, t39, ex, e6, eG⟩⟩⟩
    · subst eG
      exact hi
    · subst eG
      exact hi
    · subst eG
      exact CX_1.ls hi hls hR3 hV
    · subst eG
      exact CX_1.ls hi hls hR3 hV)
theorem CX_1.fa {V : PV} {p0 p1 r : Int32} {G G1 : GS} (h : CX_1 V G) (hs : P_wFitsAll_1 p0 p1 G r G1) (hR3 : V.1.length ≤ 3) (hV : PVok V) : CX_1 V G1 := by
  obtain ⟨-, -, -, x5, G2, hl, -, -, -, hh⟩ := hs
  have hI := hl (fun q => CX_1 V q.2) h (by
    rintro ⟨a1, b⟩ ⟨n1, bn⟩ hi ⟨x1, g, u1, gn, q1, q2, -, -, c1, r12, G13, hct, hd⟩
    obtain ⟨rfl, rfl⟩ := Prod.mk.inj q1
    obtain ⟨rfl, rfl⟩ := Prod.mk.inj q2
    obtain rfl := hct.2.1.nil
    rcases hd with ⟨f, y19, t19, ex, eG⟩ | ⟨f, r20, G21, hls, g2, y27, t27, ex, eG⟩
    · subst eG
      exact hi
    · subst eG
      exact CX_1.ls hi hls hR3 hV)
  rcases hh with ⟨c, -, rfl⟩ | ⟨c, r12, G13, hct, f, r20, G21, hls, g2, -, rfl⟩
  · exact hI
  · obtain rfl := hct.2.1.nil
    exact CX_1.ls hI hls hR3 hV
theorem ca_fits_1 {V : PV} {p0 r : Int32} {G G1 : GS} (hx : P_Wfits_1 p0 G r G1) (hI : IV_1 V G) : CaC_1 V G1 := by
  have hR3 := hI.2.1.1.2.1
  have hV := hI.2.2.1
  obtain ⟨-, -, x5, x6, G2, hl, -, -, -, -, c, -, rfl⟩ := hx
  exact (hl (fun q => CX_1 V q.2.2) hI.cx (by
    rintro ⟨a1, a2, b⟩ ⟨n1, n2, bn⟩ hi ⟨x1, x2, g, u1, u2, gn, q1, q2, -, -, -, c1, r14, G15, hfa, hd⟩
    simp only [Prod.mk.injEq] at q1 q2
    obtain ⟨rfl, rfl, rfl⟩ := q1
    obtain ⟨rfl, rfl, rfl⟩ := q2
    rcases hd with ⟨f, y21, e21, y22, t22, ex, e6, eG⟩ | ⟨f, y23, e23, y24, e24, y25, t25, ex, e6, eG⟩
    · subst eG
      exact CX_1.fa hi hfa hR3 hV
    · subst eG
      exact CX_1.fa hi hfa hR3 hV)).1
theorem ca_chance_1 {V : PV} {p0 p1 p2 : Int32} {r : Int64} {G G1 : GS} (hx : P_Wchance_1 p0 p1 p2 G r G1) (hI : IV_1 V G) : CaC_1 V G1 := by
  have hR3 := hI.2.1.1.2.1
  have hV := hI.2.2.1
  have hCX := hI.cx
  obtain ⟨-, -, r1, G2, hru, hh⟩ := hx
  obtain rfl := hru.2.1.nil
  rcases hh with ⟨c, -, rfl⟩ | ⟨c, ⟨d, -, rfl⟩ | ⟨d, ⟨f, x14, x15, x16, G10, hl, -, -, -, c14, r23, G24, hg, y28, e28, hh⟩ | ⟨f, -, rfl⟩⟩⟩
  · exact hCX.1
  · exact hCX.1
  · have hI2 := hl (fun q => CX_1 V q.2.2.2) hCX (by
      rintro ⟨a1, a2, a3, b⟩ ⟨n1, n2, n3, bn⟩ hi ⟨x1, x2, x3, g, u1, u2, u3, gn, q1, q2, -, -, c1, r33, G34, hct, hd⟩
      simp only [Prod.mk.injEq] at q1 q2
      obtain ⟨rfl, rfl, rfl, rfl⟩ := q1
      obtain ⟨rfl, rfl, rfl, rfl⟩ := q2
      obtain rfl := hct.2.1.nil
      rcases hd with ⟨k, y40, t40, ex, e5, e6, eG⟩ | ⟨k, r41, G42, hn1, y46, e46, y47, e47, r48, G49, hn2, y53, e53, y54, e54, y55, t55, ex, e5, e6, eG⟩
      · subst eG
        exact hi
      · subst eG
        exact CX_1.near (CX_1.near hi hn1 hR3 hV) hn2 hR3 hV)
    obtain rfl := hg.2.1.nil
    rcases hh with ⟨-, -, rfl⟩ | ⟨-, ⟨-, y32, e32, -, rfl⟩ | ⟨-, y31, e31, -, rfl⟩⟩
    · exact hI2.1
    · exact hI2.1
    · exact hI2.1
  · exact hCX.1
theorem ca_even_1 {V : PV} {p0 p1 p2 p3 p4 r : Int32} {G G1 : GS} (hx : P_Weven_1 p0 p1 p2 p3 p4 G r G1) (hI : IV_1 V G) : CaC_1 V G1 := by
  have hR3 := hI.2.1.1.2.1
  have hV := hI.2.2.1
  have hCX := hI.cx
  obtain ⟨-, -, r1, G2, hak, hh⟩ := hx
  obtain rfl := hak.2.1.nil
  rcases hh with ⟨c, -, rfl⟩ | ⟨c, r8, G9, hin, hh⟩
  · exact hCX.1
  obtain rfl := hin.2.1.nil
  rcases hh with ⟨c2, -, rfl⟩ | ⟨c2, ⟨d, -, rfl⟩ | ⟨d, ⟨f, G20, hp, x28, x29, G24, hl, -, -, -, -, hF24, hh⟩ | ⟨f, -, rfl⟩⟩⟩
  · exact hCX.1
  · exact hCX.1
  · have h2 := hCX.prep hp hR3 hV
    obtain rfl := hF24.nil
    rcases hh with ⟨-, -, rfl⟩ | ⟨-, y38, e38, -, -, rfl⟩
    · exact h2.1
    · exact h2.1
  · exact hCX.1
theorem ca_evens_1 {V : PV} {p0 p1 p2 r : Int32} {G G1 : GS} (hx : P_Wevens_1 p0 p1 p2 G r G1) (hI : IV_1 V G) : CaC_1 V G1 := by
  have hR3 := hI.2.1.1.2.1
  have hV := hI.2.2.1
  obtain ⟨-, -, G1', -, hF1, e1, r4, G5, hak, hh⟩ := hx
  have hCX := hI.cx.fr hF1 (by decide) (by decide)
  obtain rfl := hak.2.1.nil
  rcases hh with ⟨c, -, rfl⟩ | ⟨c, G13, hp, x22, G18, hl, -, -, hF18, c22, -, rfl⟩
  · exact hCX.1
  · exact ((hCX.prep hp hR3 hV).fr hF18 (by decide) (by decide)).1
theorem ca_ways_1 {V : PV} {p0 p1 p2 p3 : Int32} {r : Int64} {G G1 : GS} (hx : P_Wways_1 p0 p1 p2 p3 G r G1) (hI : IV_1 V G) : CaC_1 V G1 := by
  have hR3 := hI.2.1.1.2.1
  have hV := hI.2.2.1
  have hCX := hI.cx
  obtain ⟨-, -, r1, G2, hak, hh⟩ := hx
  obtain rfl := hak.2.1.nil
  rcases hh with ⟨c, -, rfl⟩ | ⟨c, ⟨d, -, rfl⟩ | ⟨d, ⟨f, G13, hp, r21, G22, hc, -, rfl⟩ | ⟨f, -, rfl⟩⟩⟩
  · exact hCX.1
  · exact hCX.1
  · exact ((hCX.prep hp hR3 hV).fr hc.2.1 (by decide) (by decide)).1
  · exact hCX.1
theorem ca_evenest_1 {V : PV} {p0 p1 p2 p3 : Int32} {r : Int32} {G G1 : GS} (hx : P_Wevenest_1 p0 p1 p2 p3 G r G1) (hI : IV_1 V G) : CaC_1 V G1 := by
  have hR3 := hI.2.1.1.2.1
  have hV := hI.2.2.1
  have hCX := hI.cx
  obtain ⟨-, -, r1, G2, hak, hh⟩ := hx
  obtain rfl := hak.2.1.nil
  rcases hh with ⟨c, -, rfl⟩ | ⟨c, ⟨d, -, rfl⟩ | ⟨d, ⟨f, G13, hp, r21, G22, hc, -, rfl⟩ | ⟨f, -, rfl⟩⟩⟩
  · exact hCX.1
  · exact hCX.1
  · exact ((hCX.prep hp hR3 hV).fr hc.2.1 (by decide) (by decide)).1
  · exact hCX.1
theorem ca_fewest_1 {V : PV} {p0 p1 p2 p3 r : Int32} {G G1 : GS} (hx : P_Wfewest_1 p0 p1 p2 p3 G r G1) (hI : IV_1 V G) : CaC_1 V G1 := by
  have hR3 := hI.2.1.1.2.1
  have hV := hI.2.2.1
  obtain ⟨-, -, G1', -, hF1, e1, r4, G5, hak, hh⟩ := hx
  have hCX := hI.cx.fr hF1 (by decide) (by decide)
  obtain rfl := hak.2.1.nil
  rcases hh with ⟨c, -, rfl⟩ | ⟨c, ⟨d, -, rfl⟩ | ⟨d, ⟨f, G15, hp, r23, G24, hfw, hh⟩ | ⟨f, -, rfl⟩⟩⟩
  · exact hCX.1
  · exact hCX.1
  · have h2 := (hCX.prep hp hR3 hV).fr hfw.2.1 (by decide) (by decide)
    rcases hh with ⟨g, -, rfl⟩ | ⟨g, r32, G33, hly, -, hF, -⟩
    · exact h2.1
    · exact ((h2.fr hly.2.1 (by decide) (by decide)).fr hF (by decide) (by decide)).1
  · exact hCX.1
theorem ca_keeps_1 {V : PV} {p0 p1 p2 r : Int32} {G G1 : GS} (hx : P_Wkeeps_1 p0 p1 p2 G r G1) (hI : IV_1 V G) : CaC_1 V G1 := by
  have hR3 := hI.2.1.1.2.1
  have hV := hI.2.2.1
  have hCX := hI.cx
  obtain ⟨-, -, r1, G2, hak, hh⟩ := hx
  obtain rfl := hak.2.1.nil
  rcases hh with ⟨c, -, rfl⟩ | ⟨c, G11, hp, r21, G22, hc, -, rfl⟩
  · exact hCX.1
  · exact ((hCX.prep hp hR3 hV).fr hc.2.1 (by decide) (by decide)).1
theorem ca_brave_1 {V : PV} {p0 p1 p2 p3 p4 : Int32} {r : Int64} {G G1 : GS} (hx : P_Wbrave_1 p0 p1 p2 p3 p4 G r G1) (hI : IV_1 V G) : CaC_1 V G1 := by
  have hR3 := hI.2.1.1.2.1
  have hV := hI.2.2.1
  have hCX := hI.cx
  obtain ⟨-, -, r1, G2, hak, hh⟩ := hx
  obtain rfl := hak.2.1.nil
  rcases hh with ⟨c, -, rfl⟩ | ⟨c, G11, hp, r21, G22, hc, -, rfl⟩
  · exact hCX.1
  · exact ((hCX.prep hp hR3 hV).fr hc.2.1 (by decide) (by decide)).1
theorem ca_boldest_1 {V : PV} {p0 p1 p2 p3 p4 r : Int32} {G G1 : GS} (hx : P_Wboldest_1 p0 p1 p2 p3 p4 G r G1) (hI : IV_1 V G) : CaC_1 V G1 := by
  have hR3 := hI.2.1.1.2.1
  have hV := hI.2.2.1
  have hCX := hI.cx
  obtain ⟨-, -, r1, G2, hak, hh⟩ := hx
  obtain rfl := hak.2.1.nil
  rcases hh with ⟨c, -, rfl⟩ | ⟨c, G11, hp, r21, G22, hc, r24, G25, hb, -, rfl⟩
  · exact hCX.1
  · exact (((hCX.prep hp hR3 hV).fr hc.2.1 (by decide) (by decide)).fr hb.2.1 (by decide) (by decide)).1
theorem ca_wager_1 {V : PV} {p0 p1 p2 p3 r : Int32} {G G1 : GS} (hx : P_Wwager_1 p0 p1 p2 p3 G r G1) (hI : IV_1 V G) : CaC_1 V G1 := by
  have hR3 := hI.2.1.1.2.1
  have hV := hI.2.2.1
  have hCX := hI.cx
  obtain ⟨-, -, r1, G2, hak, hh⟩ := hx
  obtain rfl := hak.2.1.nil
  rcases hh with ⟨c, -, rfl⟩ | ⟨c, ⟨d, -, rfl⟩ | ⟨d, ⟨f, G13, hp, r21, G22, hc, hh⟩ | ⟨f, -, rfl⟩⟩⟩
  · exact hCX.1
  · exact hCX.1
  · have h2 := (hCX.prep hp hR3 hV).fr hc.2.1 (by decide) (by decide)
    rcases hh with ⟨-, -, rfl⟩ | ⟨-, ⟨-, -, rfl⟩ | ⟨-, -, rfl⟩⟩
    · exact h2.1
    · exact h2.1
    · exact h2.1
  · exact hCX.1
theorem ca_leave_1 {V : PV} {p0 p1 r : Int32} {G G1 : GS} (hx : P_Wleave_1 p0 p1 G r G1) (hI : IV_1 V G) : CaC_1 V G1 := by
  have hR3 := hI.2.1.1.2.1
  have hV := hI.2.2.1
  have hCX := hI.cx
  obtain ⟨-, -, r1, G2, hak, hh⟩ := hx
  obtain rfl := hak.2.1.nil
  rcases hh with ⟨c, -, rfl⟩ | ⟨c, G13, hp, x21, x22, G17, hl, -, -, hF17, y28, e28, c28, -, rfl⟩
  · exact hCX.1
  · exact ((hCX.prep hp hR3 hV).fr hF17 (by decide) (by decide)).1
theorem sok_sight_1 {V : PV} {p0 p1 p2 r : Int32} {G Ga : GS} (hx : P_Wsight_1 p0 p1 p2 G r Ga) (hW : CW_1 V G) (hS : SOK V G) (hc0 : 0 ≤ (G.1 31 5).toInt) : SOK V Ga := by
  obtain ⟨-, -, r1, G2, hst, hx⟩ := hx
  obtain ⟨rfl, k1⟩ := k_standsV_1 hst hW
  rcases hx with ⟨c, -, rfl⟩ | ⟨c, r8, G9, htl, -, rfl⟩
  · exact hS
  have hv := k1.mp c
  clear k1
  obtain ⟨-, -, htl⟩ := htl
  rcases htl with ⟨d, y9, t9, e, hF, g5, w1, w2, w3, w4, w5⟩ | ⟨d, -, rfl⟩
  · obtain ⟨n, hn⟩ : ∃ n : Nat, (G.1 31 5).toInt = (n : Int) := ⟨(G.1 31 5).toInt.toNat, by omega⟩
    rw [cn_eq hn] at w1 w2 w3
    intro j hj
    rw [g5] at hj
    rw [w1, w2, w3]
    by_cases hjn : j = n
    · subst hjn
      rw [ud_at, ud_at, ud_at]
      exact hv
    · rw [ud_no hjn, ud_no hjn, ud_no hjn]
      exact hS j (by omega)
  · exact hS
theorem sightV_1 {V : PV} {p0 p1 p2 q0 q1 q2 r r' : Int32} {G Ga Gb : GS} (hx : P_Wsight_1 p0 p1 p2 G r Ga) (hm : Q_sight q0 q1 q2 Ga r' Gb) (i0 : p0.toInt = q0.toInt) (i1 : p1.toInt = q1.toInt) (i2 : p2.toInt = q2.toInt) (hI : IV_1 V G) (hB : Bd G) (ht : (G.1 31 6).toInt = (G.1 66 86).toInt) : r.toInt = r'.toInt ∧ IV_1 V Gb := by
  have hFx := hx.2.1
  have hFm := hm.2.1
  obtain ⟨hW, hR, hV, hCa, hE, hc, hS, hO⟩ := hI
  have hb := hB.i 31 5 (lo := 0) (hi := 20) rfl rfl
  have hO2 := sok_sight_1 hx hW hO hb.1
  obtain ⟨a1, a2, a3⟩ := sight_1 hx hm i0 i1 i2 ⟨V, hW, hR⟩ hS hc hb.1 hb.2 ht
  exact ⟨a1, (hW.fr hFx (by decide) (by decide)).fr hFm (by decide) (by decide), (hR.fr hFx (by decide) (by decide)).fr hFm (by decide) (by decide), hV, (hCa.fr (hFx.row1 37 (by decide) (by decide)) (hFx.row1 38 (by decide) (by decide))).fr (hFm.row1 37 (by decide) (by decide)) (hFm.row1 38 (by decide) (by decide)), (hE.fr hFx (by decide) (by decide)).fr hFm (by decide) (by decide), a2, a3, hO2.fr hFm (by decide) (by decide)⟩
theorem untellV_1 {V : PV} {p0 q0 r r' : Int32} {G Ga Gb : GS} (hx : P_Wuntell p0 G r Ga) (hm : Q_untell q0 Ga r' Gb) (i0 : p0.toInt = q0.toInt) (hI : IV_1 V G) (hB : Bd G) (ht : (G.1 31 6).toInt = (G.1 66 86).toInt) : r.toInt = r'.toInt ∧ IV_1 V Gb := by
  have hFx := hx.2.1
  have hFm := hm.2.1
  obtain ⟨hW, hR, hV, hCa, hE, hc, hS, hO⟩ := hI
  have hb := hB.i 31 6 (lo := 0) (hi := 100000) rfl rfl
  obtain ⟨a1, a3⟩ := unt_eq hx hm i0 hS hc ht hb.1
  refine ⟨a1, (hW.fr hFx (by decide) (by decide)).fr hFm (by decide) (by decide), (hR.fr hFx (by decide) (by decide)).fr hFm (by decide) (by decide), hV, (hCa.fr (hFx.row1 37 (by decide) (by decide)) (hFx.row1 38 (by decide) (by decide))).fr (hFm.row1 37 (by decide) (by decide)) (hFm.row1 38 (by decide) (by decide)), (hE.fr hFx (by decide) (by decide)).fr hFm (by decide) (by decide), ?_, a3, (hO.fr hFx (by decide) (by decide)).fr hFm (by decide) (by decide)⟩
  rw [hFm.i 31 5 (by decide) (by decide), hFx.i 31 5 (by decide) (by decide), hFm.i 66 85 (by decide) (by decide), hFx.i 66 85 (by decide) (by decide)]
  exact hc
/-- what the found LINES need -/
def CX_2 (V : PV) (G : GS) : Prop := CaC_2 V G ∧ CW_2 V G ∧ 0 ≤ (G.1 58 6).toInt
theorem CX_2.fr {V : PV} {rs : List Nat} {fs : List (Nat × Nat)} {G G1 : GS} (h : CX_2 V G) (hF : Fr rs fs G G1) (h1 : (∀ i ∈ [20, 21, 22, 23, 24, 25, 26, 27, 28], i ∉ rs ∧ ∀ x ∈ fs, x.1 ≠ i) ∧ ∀ i ∈ [37, 38, 58], i ∉ rs ∧ ∀ x ∈ fs, x.1 ≠ i) (h2 : ∀ y ∈ [(2, 9), (2, 10), (2, 11), (2, 12), (2, 13), (2, 14), (2, 15), (2, 16)], y.1 ∉ rs ∧ y ∉ fs) : CX_2 V G1 := ⟨h.1.fr (hF.rows h1.2 (i := 37) (by decide)) (hF.rows h1.2 (i := 38) (by decide)), h.2.1.fr hF h1.1 h2, by rw [hF.rows h1.2 (i := 58) (by decide)]; exact h.2.2⟩
theorem CX_2.find {V : PV} {p day : Int32} {G G1 : GS} (h : CX_2 V G) (hf : P_lFind_2 p day G G1) (hR3 : V.1.length ≤ 3) (hV : PVok V) (hd : day = G.1 58 6) : CX_2 V G1 := ⟨ca_find_2 hf h.2.1 hR3 hV (by rw [hd]; exact h.2.2) h.1, h.2.1.fr hf.2.1 (by decide) (by decide), by rw [hf.2.1.row1 58 (by decide) (by decide)]; exact h.2.2⟩
theorem CX_2.prep {V : PV} {p0 p1 p2 : Int32} {G G1 : GS} (h : CX_2 V G) (hf : P_wPrep_2 p0 p1 p2 G G1) (hR3 : V.1.length ≤ 3) (hV : PVok V) : CX_2 V G1 := by
  obtain ⟨-, -, -, r1, G2, htd, G7, hfi, G14, hlk, G19, hcf, rfl⟩ := hf
  obtain ⟨rfl, e1⟩ := k_today_eq htd
  exact ((h.find hfi hR3 hV e1).fr hlk.2.1 (by decide) (by decide)).fr hcf.2.1 (by decide) (by decide)
theorem IV_2.cx {V : PV} {G : GS} (h : IV_2 V G) : CX_2 V G := ⟨h.2.2.2.1, h.1, h.2.2.2.2.1.day.1.1⟩
theorem CX_2.ls {V : PV} {p0 p1 p2 r : Int32} {G G1 : GS} (h : CX_2 V G) (hs : P_wLSight_2 p0 p1 p2 G r G1) (hR3 : V.1.length ≤ 3) (hV : PVok V) : CX_2 V G1 := by
  obtain ⟨-, -, -, y1, e1, y2, e2, y3, e3, r4, G5, htd, G10, hfi, y14, e14, y15, e15, y16, e16, r17, G18, hil, rfl, rfl⟩ := hs
  obtain ⟨rfl, e4⟩ := k_today_eq htd
  obtain rfl := hil.2.1.nil
  exact h.find hfi hR3 hV e4
theorem CX_2.near {V : PV} {p0 p1 p2 r : Int32} {G G1 : GS} (h : CX_2 V G) (hs : P_wNear_2 p0 p1 p2 G r G1) (hR3 : V.1.length ≤ 3) (hV : PVok V) : CX_2 V G1 := by
  obtain ⟨-, -, x5, x6, G2, hl, -, -, -, c, -, rfl⟩ := hs
  exact hl (fun q => CX_2 V q.2.2) h (by
    rintro ⟨a1, a2, b⟩ ⟨n1, n2, bn⟩ hi ⟨x1, x2, g, u1, u2, gn, q1, q2, -, -, c1, y13, e13, y14, e14, y15, e15, y16, e16, r19, G20, hst, hd⟩
    simp only [Prod.mk.injEq] at q1 q2
    obtain ⟨rfl, rfl, rfl⟩ := q1
    obtain ⟨rfl, rfl, rfl⟩ := q2
    obtain rfl := hst.2.1.nil
    rcases hd with ⟨f, y26, t26, ex, e6, eG⟩ | ⟨f, ⟨g2, y28, e28, y29, t29, ex, e6, eG⟩ | ⟨g2, r30, G31, hls, ⟨k, y37, t37, ex, e6, eG⟩ | ⟨k, y38, e38, y39, t39, ex, e6, eG⟩⟩⟩
    · subst eG
      exact hi
    · subst eG
      exact hi
    · subst eG
      exact CX_2.ls hi hls hR3 hV
    · subst eG
      exact CX_2.ls hi hls hR3 hV)
theorem CX_2.fa {V : PV} {p0 p1 r : Int32} {G G1 : GS} (h : CX_2 V G) (hs : P_wFitsAll_2 p0 p1 G r G1) (hR3 : V.1.length ≤ 3) (hV : PVok V) : CX_2 V G1 := by
  obtain ⟨-, -, -, x5, G2, hl, -, -, -, hh⟩ := hs
  have hI := hl (fun q => CX_2 V q.2) h (by
    rintro ⟨a1, b⟩ ⟨n1, bn⟩ hi ⟨x1, g, u1, gn, q1, q2, -, -, c1, r12, G13, hct, hd⟩
    obtain ⟨rfl, rfl⟩ := Prod.mk.inj q1
    obtain ⟨rfl, rfl⟩ := Prod.mk.inj q2
    obtain rfl := hct.2.1.nil
    rcases hd with ⟨f, y19, t19, ex, eG⟩ | ⟨f, r20, G21, hls, g2, y27, t27, ex, eG⟩
    · subst eG
      exact hi
    · subst eG
      exact CX_2.ls hi hls hR3 hV)
  rcases hh with ⟨c, -, rfl⟩ | ⟨c, r12, G13, hct, f, r20, G21, hls, g2, -, rfl⟩
  · exact hI
  · obtain rfl := hct.2.1.nil
    exact CX_2.ls hI hls hR3 hV
theorem ca_fits_2 {V : PV} {p0 r : Int32} {G G1 : GS} (hx : P_Wfits_2 p0 G r G1) (hI : IV_2 V G) : CaC_2 V G1 := by
  have hR3 := hI.2.1.1.2.1
  have hV := hI.2.2.1
  obtain ⟨-, -, x5, x6, G2, hl, -, -, -, -, c, -, rfl⟩ := hx
  exact (hl (fun q => CX_2 V q.2.2) hI.cx (by
    rintro ⟨a1, a2, b⟩ ⟨n1, n2, bn⟩ hi ⟨x1, x2, g, u1, u2, gn, q1, q2, -, -, -, c1, r14, G15, hfa, hd⟩
    simp only [Prod.mk.injEq] at q1 q2
    obtain ⟨rfl, rfl, rfl⟩ := q1
    obtain ⟨rfl, rfl, rfl⟩ := q2
    rcases hd with ⟨f, y21, e21, y22, t22, ex, e6, eG⟩ | ⟨f, y23, e23, y24, e24, y25, t25, ex, e6, eG⟩
    · subst eG
      exact CX_2.fa hi hfa hR3 hV
    · subst eG
      exact CX_2.fa hi hfa hR3 hV)).1
theorem ca_chance_2 {V : PV} {p0 p1 p2 : Int32} {r : Int64} {G G1 : GS} (hx : P_Wchance_2 p0 p1 p2 G r G1) (hI : IV_2 V G) : CaC_2 V G1 := by
  have hR3 := hI.2.1.1.2.1
  have hV := hI.2.2.1
  have hCX := hI.cx
  obtain ⟨-, -, r1, G2, hru, hh⟩ := hx
  obtain rfl := hru.2.1.nil
  rcases hh with ⟨c, -, rfl⟩ | ⟨c, ⟨d, -, rfl⟩ | ⟨d, ⟨f, x14, x15, x16, G10, hl, -, -, -, c14, r23, G24, hg, y28, e28, hh⟩ | ⟨f, -, rfl⟩⟩⟩
  · exact hCX.1
  · exact hCX.1
  · have hI2 := hl (fun q => CX_2 V q.2.2.2) hCX (by
      rintro ⟨a1, a2, a3, b⟩ ⟨n1, n2, n3, bn⟩ hi ⟨x1, x2, x3, g, u1, u2, u3, gn, q1, q2, -, -, c1, r33, G34, hct, hd⟩
      simp only [Prod.mk.injEq] at q1 q2
      obtain ⟨rfl, rfl, rfl, rfl⟩ := q1
      obtain ⟨rfl, rfl, rfl, rfl⟩ := q2
      obtain rfl := hct.2.1.nil
      rcases hd with ⟨k, y40, t40, ex, e5, e6, eG⟩ | ⟨k, r41, G42, hn1, y46, e46, y47, e47, r48, G49, hn2, y53, e53, y54, e54, y55, t55, ex, e5, e6, eG⟩
      · subst eG
        exact hi
      · subst eG
        exact CX_2.near (CX_2.near hi hn1 hR3 hV) hn2 hR3 hV)
    obtain rfl := hg.2.1.nil
    rcases hh with ⟨-, -, rfl⟩ | ⟨-, ⟨-, y32, e32, -, rfl⟩ | ⟨-, y31, e31, -, rfl⟩⟩
    · exact hI2.1
    · exact hI2.1
    · exact hI2.1
  · exact hCX.1
theorem ca_even_2 {V : PV} {p0 p1 p2 p3 p4 r : Int32} {G G1 : GS} (hx : P_Weven_2 p0 p1 p2 p3 p4 G r G1) (hI : IV_2 V G) : CaC_2 V G1 := by
  have hR3 := hI.2.1.1.2.1
  have hV := hI.2.2.1
  have hCX := hI.cx
  obtain ⟨-, -, r1, G2, hak, hh⟩ := hx
  obtain rfl := hak.2.1.nil
  rcases hh with ⟨c, -, rfl⟩ | ⟨c, r8, G9, hin, hh⟩
  · exact hCX.1
  obtain rfl := hin.2.1.nil
  rcases hh with ⟨c2, -, rfl⟩ | ⟨c2, ⟨d, -, rfl⟩ | ⟨d, ⟨f, G20, hp, x28, x29, G24, hl, -, -, -, -, hF24, hh⟩ | ⟨f, -, rfl⟩⟩⟩
  · exact hCX.1
  · exact hCX.1
  · have h2 := hCX.prep hp hR3 hV
    obtain rfl := hF24.nil
    rcases hh with ⟨-, -, rfl⟩ | ⟨-, y38, e38, -, -, rfl⟩
    · exact h2.1
    · exact h2.1
  · exact hCX.1
theorem ca_evens_2 {V : PV} {p0 p1 p2 r : Int32} {G G1 : GS} (hx : P_Wevens_2 p0 p1 p2 G r G1) (hI : IV_2 V G) : CaC_2 V G1 := by
  have hR3 := hI.2.1.1.2.1
  have hV := hI.2.2.1
  obtain ⟨-, -, G1', -, hF1, e1, r4, G5, hak, hh⟩ := hx
  have hCX := hI.cx.fr hF1 (by decide) (by decide)
  obtain rfl := hak.2.1.nil
  rcases hh with ⟨c, -, rfl⟩ | ⟨c, G13, hp, x22, G18, hl, -, -, hF18, c22, -, rfl⟩
  · exact hCX.1
  · exact ((hCX.prep hp hR3 hV).fr hF18 (by decide) (by decide)).1
theorem ca_ways_2 {V : PV} {p0 p1 p2 p3 : Int32} {r : Int64} {G G1 : GS} (hx : P_Wways_2 p0 p1 p2 p3 G r G1) (hI : IV_2 V G) : CaC_2 V G1 := by
  have hR3 := hI.2.1.1.2.1
  have hV := hI.2.2.1
  have hCX := hI.cx
  obtain ⟨-, -, r1, G2, hak, hh⟩ := hx
  obtain rfl := hak.2.1.nil
  rcases hh with ⟨c, -, rfl⟩ | ⟨c, ⟨d, -, rfl⟩ | ⟨d, ⟨f, G13, hp, r21, G22, hc, -, rfl⟩ | ⟨f, -, rfl⟩⟩⟩
  · exact hCX.1
  · exact hCX.1
  · exact ((hCX.prep hp hR3 hV).fr hc.2.1 (by decide) (by decide)).1
  · exact hCX.1
theorem ca_evenest_2 {V : PV} {p0 p1 p2 p3 : Int32} {r : Int32} {G G1 : GS} (hx : P_Wevenest_2 p0 p1 p2 p3 G r G1) (hI : IV_2 V G) : CaC_2 V G1 := by
  have hR3 := hI.2.1.1.2.1
  have hV := hI.2.2.1
  have hCX := hI.cx
  obtain ⟨-, -, r1, G2, hak, hh⟩ := hx
  obtain rfl := hak.2.1.nil
  rcases hh with ⟨c, -, rfl⟩ | ⟨c, ⟨d, -, rfl⟩ | ⟨d, ⟨f, G13, hp, r21, G22, hc, -, rfl⟩ | ⟨f, -, rfl⟩⟩⟩
  · exact hCX.1
  · exact hCX.1
  · exact ((hCX.prep hp hR3 hV).fr hc.2.1 (by decide) (by decide)).1
  · exact hCX.1
theorem ca_fewest_2 {V : PV} {p0 p1 p2 p3 r : Int32} {G G1 : GS} (hx : P_Wfewest_2 p0 p1 p2 p3 G r G1) (hI : IV_2 V G) : CaC_2 V G1 := by
  have hR3 := hI.2.1.1.2.1
  have hV := hI.2.2.1
  obtain ⟨-, -, G1', -, hF1, e1, r4, G5, hak, hh⟩ := hx
  have hCX := hI.cx.fr hF1 (by decide) (by decide)
  obtain rfl := hak.2.1.nil
  rcases hh with ⟨c, -, rfl⟩ | ⟨c, ⟨d, -, rfl⟩ | ⟨d, ⟨f, G15, hp, r23, G24, hfw, hh⟩ | ⟨f, -, rfl⟩⟩⟩
  · exact hCX.1
  · exact hCX.1
  · have h2 := (hCX.prep hp hR3 hV).fr hfw.2.1 (by decide) (by decide)
    rcases hh with ⟨g, -, rfl⟩ | ⟨g, r32, G33, hly, -, hF, -⟩
    · exact h2.1
    · exact ((h2.fr hly.2.1 (by decide) (by decide)).fr hF (by decide) (by decide)).1
  · exact hCX.1
theorem ca_keeps_2 {V : PV} {p0 p1 p2 r : Int32} {G G1 : GS} (hx : P_Wkeeps_2 p0 p1 p2 G r G1) (hI : IV_2 V G) : CaC_2 V G1 := by
  have hR3 := hI.2.1.1.2.1
  have hV := hI.2.2.1
  have hCX := hI.cx
  obtain ⟨-, -, r1, G2, hak, hh⟩ := hx
  obtain rfl := hak.2.1.nil
  rcases hh with ⟨c, -, rfl⟩ | ⟨c, G11, hp, r21, G22, hc, -, rfl⟩
  · exact hCX.1
  · exact ((hCX.prep hp hR3 hV).fr hc.2.1 (by decide) (by decide)).1
theorem ca_brave_2 {V : PV} {p0 p1 p2 p3 p4 : Int32} {r : Int64} {G G1 : GS} (hx : P_Wbrave_2 p0 p1 p2 p3 p4 G r G1) (hI : IV_2 V G) : CaC_2 V G1 := by
  have hR3 := hI.2.1.1.2.1
  have hV := hI.2.2.1
  have hCX := hI.cx
  obtain ⟨-, -, r1, G2, hak, hh⟩ := hx
  obtain rfl := hak.2.1.nil
  rcases hh with ⟨c, -, rfl⟩ | ⟨c, G11, hp, r21, G22, hc, -, rfl⟩
  · exact hCX.1
  · exact ((hCX.prep hp hR3 hV).fr hc.2.1 (by decide) (by decide)).1
theorem ca_boldest_2 {V : PV} {p0 p1 p2 p3 p4 r : Int32} {G G1 : GS} (hx : P_Wboldest_2 p0 p1 p2 p3 p4 G r G1) (hI : IV_2 V G) : CaC_2 V G1 := by
  have hR3 := hI.2.1.1.2.1
  have hV := hI.2.2.1
  have hCX := hI.cx
  obtain ⟨-, -, r1, G2, hak, hh⟩ := hx
  obtain rfl := hak.2.1.nil
  rcases hh with ⟨c, -, rfl⟩ | ⟨c, G11, hp, r21, G22, hc, r24, G25, hb, -, rfl⟩
  · exact hCX.1
  · exact (((hCX.prep hp hR3 hV).fr hc.2.1 (by decide) (by decide)).fr hb.2.1 (by decide) (by decide)).1
theorem ca_wager_2 {V : PV} {p0 p1 p2 p3 r : Int32} {G G1 : GS} (hx : P_Wwager_2 p0 p1 p2 p3 G r G1) (hI : IV_2 V G) : CaC_2 V G1 := by
  have hR3 := hI.2.1.1.2.1
  have hV := hI.2.2.1
  have hCX := hI.cx
  obtain ⟨-, -, r1, G2, hak, hh⟩ := hx
  obtain rfl := hak.2.1.nil
  rcases hh with ⟨c, -, rfl⟩ | ⟨c, ⟨d, -, rfl⟩ | ⟨d, ⟨f, G13, hp, r21, G22, hc, hh⟩ | ⟨f, -, rfl⟩⟩⟩
  · exact hCX.1
  · exact hCX.1
  · have h2 := (hCX.prep hp hR3 hV).fr hc.2.1 (by decide) (by decide)
    rcases hh with ⟨-, -, rfl⟩ | ⟨-, ⟨-, -, rfl⟩ | ⟨-, -, rfl⟩⟩
    · exact h2.1
    · exact h2.1
    · exact h2.1
  · exact hCX.1
theorem ca_leave_2 {V : PV} {p0 p1 r : Int32} {G G1 : GS} (hx : P_Wleave_2 p0 p1 G r G1) (hI : IV_2 V G) : CaC_2 V G1 := by
  have hR3 := hI.2.1.1.2.1
  have hV := hI.2.2.1
  have hCX := hI.cx
  obtain ⟨-, -, r1, G2, hak, hh⟩ := hx
  obtain rfl := hak.2.1.nil
  rcases hh with ⟨c, -, rfl⟩ | ⟨c, G13, hp, x21, x22, G17, hl, -, -, hF17, y28, e28, c28, -, rfl⟩
  · exact hCX.1
  · exact ((hCX.prep hp hR3 hV).fr hF17 (by decide) (by decide)).1
theorem sok_sight_2 {V : PV} {p0 p1 p2 r : Int32} {G Ga : GS} (hx : P_Wsight_2 p0 p1 p2 G r Ga) (hW : CW_2 V G) (hS : SOK V G) (hc0 : 0 ≤ (G.1 31 5).toInt) : SOK V Ga := by
  obtain ⟨-, -, r1, G2, hst, hx⟩ := hx
  obtain ⟨rfl, k1⟩ := k_standsV_2 hst hW
  rcases hx with ⟨c, -, rfl⟩ | ⟨c, r8, G9, htl, -, rfl⟩
  · exact hS
  have hv := k1.mp c
  clear k1
  obtain ⟨-, -, htl⟩ := htl
  rcases htl with ⟨d, y9, t9, e, hF, g5, w1, w2, w3, w4, w5⟩ | ⟨d, -, rfl⟩
  · obtain ⟨n, hn⟩ : ∃ n : Nat, (G.1 31 5).toInt = (n : Int) := ⟨(G.1 31 5).toInt.toNat, by omega⟩
    rw [cn_eq hn] at w1 w2 w3
    intro j hj
    rw [g5] at hj
    rw [w1, w2, w3]
    by_cases hjn : j = n
    · subst hjn
      rw [ud_at, ud_at, ud_at]
      exact hv
    · rw [ud_no hjn, ud_no hjn, ud_no hjn]
      exact hS j (by omega)
  · exact hS
theorem sightV_2 {V : PV} {p0 p1 p2 q0 q1 q2 r r' : Int32} {G Ga Gb : GS} (hx : P_Wsight_2 p0 p1 p2 G r Ga) (hm : Q_sight q0 q1 q2 Ga r' Gb) (i0 : p0.toInt = q0.toInt) (i1 : p1.toInt = q1.toInt) (i2 : p2.toInt = q2.toInt) (hI : IV_2 V G) (hB : Bd G) (ht : (G.1 31 6).toInt = (G.1 66 86).toInt) : r.toInt = r'.toInt ∧ IV_2 V Gb := by
  have hFx := hx.2.1
  have hFm := hm.2.1
  obtain ⟨hW, hR, hV, hCa, hE, hc, hS, hO⟩ := hI
  have hb := hB.i 31 5 (lo := 0) (hi := 20) rfl rfl
  have hO2 := sok_sight_2 hx hW hO hb.1
  obtain ⟨a1, a2, a3⟩ := sight_2 hx hm i0 i1 i2 ⟨V, hW, hR⟩ hS hc hb.1 hb.2 ht
  exact ⟨a1, (hW.fr hFx (by decide) (by decide)).fr hFm (by decide) (by decide), (hR.fr hFx (by decide) (by decide)).fr hFm (by decide) (by decide), hV, (hCa.fr (hFx.row1 37 (by decide) (by decide)) (hFx.row1 38 (by decide) (by decide))).fr (hFm.row1 37 (by decide) (by decide)) (hFm.row1 38 (by decide) (by decide)), (hE.fr hFx (by decide) (by decide)).fr hFm (by decide) (by decide), a2, a3, hO2.fr hFm (by decide) (by decide)⟩
theorem untellV_2 {V : PV} {p0 q0 r r' : Int32} {G Ga Gb : GS} (hx : P_Wuntell p0 G r Ga) (hm : Q_untell q0 Ga r' Gb) (i0 : p0.toInt = q0.toInt) (hI : IV_2 V G) (hB : Bd G) (ht : (G.1 31 6).toInt = (G.1 66 86).toInt) : r.toInt = r'.toInt ∧ IV_2 V Gb := by
  have hFx := hx.2.1
  have hFm := hm.2.1
  obtain ⟨hW, hR, hV, hCa, hE, hc, hS, hO⟩ := hI
  have hb := hB.i 31 6 (lo := 0) (hi := 100000) rfl rfl
  obtain ⟨a1, a3⟩ := unt_eq hx hm i0 hS hc ht hb.1
  refine ⟨a1, (hW.fr hFx (by decide) (by decide)).fr hFm (by decide) (by decide), (hR.fr hFx (by decide) (by decide)).fr hFm (by decide) (by decide), hV, (hCa.fr (hFx.row1 37 (by decide) (by decide)) (hFx.row1 38 (by decide) (by decide))).fr (hFm.row1 37 (by decide) (by decide)) (hFm.row1 38 (by decide) (by decide)), (hE.fr hFx (by decide) (by decide)).fr hFm (by decide) (by decide), ?_, a3, (hO.fr hFx (by decide) (by decide)).fr hFm (by decide) (by decide)⟩
  rw [hFm.i 31 5 (by decide) (by decide), hFx.i 31 5 (by decide) (by decide), hFm.i 66 85 (by decide) (by decide), hFx.i 66 85 (by decide) (by decide)]
  exact hc
