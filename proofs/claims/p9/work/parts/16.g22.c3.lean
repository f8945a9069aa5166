/-! the other lines by the reference -/
theorem MF.fr {f : Int × Int} {rs : List Nat} {fs : List (Nat × Nat)} {G G1 : GS} (h : MF f G) (hF : Fr rs fs G G1) (h1 : 66 ∉ rs) (h2 : (66, 2) ∉ fs ∧ (66, 3) ∉ fs) : MF f G1 := by
  unfold MF at h ⊢
  rw [hF.i 66 2 h1 h2.1, hF.i 66 3 h1 h2.2]
  exact h
theorem takes_f {c : Int64} {r : Int32} {G G1 : GS} (h : Q_takes c G r G1) (hf : 0 < (G.1 66 2).toInt) : r.toInt = 0 ∧ G = G1 := by
  obtain ⟨-, -, -, -, hh⟩ := h
  rcases hh with ⟨c1, -⟩ | ⟨c1, e1, e2⟩
  · omega
  · exact ⟨by rw [← e1]; rfl, e2⟩
def WkM (k : Nat) (x : WK) (G : GS) : Prop := (G.1 82 k).toInt = x.1 ∧ (G.1 83 k).toInt = x.2.1 ∧ (G.1 84 k).toInt = x.2.2.1 ∧ (G.1 85 k).toInt = x.2.2.2
theorem m_walker {b : Nat → Int} {n p : Nat} {G G1 : GS} {NS : List (List Int)} (h : Q_readWalker G G1) (hp : MP b n G p) (hk : tK b n p ≠ 202) (hk3 : tK b n p ≠ 203) (hN : NmM 3 NS G) (hm : (G.1 66 46).toInt = (NS.length : Int)) : LnM b n p (pWalker b n NS p) G1 (fun x => NmU 3 NS x.1 G G1 ∧ (G1.1 66 46).toInt = (NS.length : Int) + 1 ∧ WkM NS.length x.2 G1 ∧ ∀ k, k ≠ NS.length → G1.1 82 k = G.1 82 k ∧ G1.1 83 k = G.1 83 k ∧ G1.1 84 k = G.1 84 k ∧ G1.1 85 k = G.1 85 k) := by
  obtain ⟨-, -, -, G4, hnm, r12, G13, t12, G17, -, hF17, e82, r25, G26, t25, y31, e31, G30, -, hF30, e83, r39, G40, t39, y45, e45, G47, -, hF47, e84, e85, r51, G52, htk, hh⟩ := h
  have hmc := cn_eq hm
  rw [hmc] at e82 e31 e83 e45 e84 e85
  have ht := tN_p (b := b) hp.1.2.1 hp.2.2.2
  have htp := (ht.2.2 hk3).1
  have d4 : ∀ {f : Int × Int}, MF f G47 → MF f G1 := by
    intro f hmf
    obtain ⟨c, rfl⟩ := takes_f htk hmf.pos
    rcases hh with ⟨-, ⟨c2, -⟩ | ⟨-, rfl⟩⟩ | ⟨c2, -⟩
    · exact absurd c2 (by have := hmf.pos; rw [hF47.i 66 2 (by decide) (by decide)] at this; omega)
    · exact hmf
    · omega
  have d3 : ∀ {f : Int × Int}, MF f G30 → MF f G1 := by
    intro f hmf
    have e := told2_f t39 hmf.pos
    subst e
    exact d4 (hmf.fr hF47 (by decide) (by decide))
  have d2 : ∀ {f : Int × Int}, MF f G17 → MF f G1 := by
    intro f hmf
    have e := told2_f t25 hmf.pos
    subst e
    exact d3 (hmf.fr hF30 (by decide) (by decide))
  have d1 : ∀ {f : Int × Int}, MF f G4 → MF f G1 := by
    intro f hmf
    have e := told2_f t12 hmf.pos
    subst e
    exact d2 (hmf.fr hF17 (by decide) (by decide))
  rcases m_name hnm hp hk hN rfl hm with ⟨f, hf, hmf⟩ | ⟨e1, hp2, hLW, e68⟩
  · exact Or.inl ⟨f, by unfold pWalker; exact bnd_l hf, d1 hmf⟩
  have ht1 := tN_p (b := b) hp.1.2.1 ht.2.1
  rcases m_told2 (i := 2) (by decide) (by decide +kernel) t12 hp2 with ⟨f, hf, hmf⟩ | ⟨v1, p3, e2, hp3, hr12, -, -⟩
  · exact Or.inl ⟨f, by unfold pWalker; exact (bnd_r e1).trans (kn_eq.trans (bnd_l hf)), d2 (hmf.fr hF17 (by decide) (by decide))⟩
  have l3 := kn_p hp.1.2.1 ht1.2.1 e2
  replace hp3 := hp3.fr hF17 (by decide) (by decide) (by decide) (by decide)
  rcases m_told2 (i := 3) (by decide) (by decide +kernel) t25 hp3 with ⟨f, hf, hmf⟩ | ⟨v2, p4, e3, hp4, hr25, lo4, hi4⟩
  · exact Or.inl ⟨f, by unfold pWalker; exact (bnd_r e1).trans (kn_eq.trans ((bnd_r e2).trans (kn_eq.trans (bnd_l hf)))), d3 (hmf.fr hF30 (by decide) (by decide))⟩
  have l4 := kn_p hp3.1.2.1 hp3.2.2.2 e3
  replace hp4 := hp4.fr hF30 (by decide) (by decide) (by decide) (by decide)
  have h31 : y31.toInt = v2 := by
    rw [e31, show upd (G26.1 83) NS.length r25 NS.length = r25 from if_pos rfl]
    exact hr25
  have o4 := m_told2 (i := 4) (by decide) (by decide +kernel) t39 hp4
  rw [h31] at o4
  rcases o4 with ⟨f, hf, hmf⟩ | ⟨v3, p5, e4, hp5, hr39, lo5, hi5⟩
  · exact Or.inl ⟨f, by unfold pWalker; exact (bnd_r e1).trans (kn_eq.trans ((bnd_r e2).trans (kn_eq.trans ((bnd_r e3).trans (kn_eq.trans (bnd_l hf)))))), d4 (hmf.fr hF47 (by decide) (by decide))⟩
  have l5 := kn_p hp4.1.2.1 hp4.2.2.2 e4
  have hf40 : (G40.1 66 2).toInt = 0 := hp5.k2
  replace hp5 := hp5.fr hF47 (by decide) (by decide) (by decide) (by decide)
  have h45 : y45.toInt = v3 := by
    rw [e45, show upd (G40.1 84) NS.length r39 NS.length = r39 from if_pos rfl]
    exact hr39
  have e5 : pWalker b n NS p = (if tK b n p5 = 133 then bnd (pNum b n (v3 + 1) 99 (tNx b n p5)) fun v q => .inr ((tL b n (tNx b n p), v1, v2, v3, v), q) else .inr ((tL b n (tNx b n p), v1, v2, v3, v3), p5)) := by
    unfold pWalker
    exact (bnd_r e1).trans (kn_eq.trans ((bnd_r e2).trans (kn_eq.trans ((bnd_r e3).trans (kn_eq.trans (bnd_r e4))))))
  have hU4 : NmU 3 NS (tL b n (tNx b n p)) G G4 := ⟨hLW, e68⟩
  have hU47 : NmU 3 NS (tL b n (tNx b n p)) G G47 := (((((hU4.frl t12.2.1 (by decide) (by decide)).frl hF17 (by decide) (by decide)).frl t25.2.1 (by decide) (by decide)).frl hF30 (by decide) (by decide)).frl t39.2.1 (by decide) (by decide)).frl hF47 (by decide) (by decide)
  have b0 : ∀ i, i = 82 ∨ i = 83 ∨ i = 84 ∨ i = 85 → G4.1 i = G.1 i ∧ G13.1 i = G4.1 i ∧ G26.1 i = G17.1 i ∧ G40.1 i = G30.1 i ∧ G52.1 i = G47.1 i := by
    intro i hi
    rcases hi with rfl | rfl | rfl | rfl <;> exact ⟨hnm.2.1.row1 _ (by decide) (by decide), t12.2.1.row1 _ (by decide) (by decide), t25.2.1.row1 _ (by decide) (by decide), t39.2.1.row1 _ (by decide) (by decide), htk.2.1.row1 _ (by decide) (by decide)⟩
  have r2 : G52.1 82 = upd (G.1 82) NS.length r12 := by
    obtain ⟨a1, a2, a3, a4, a5⟩ := b0 82 (Or.inl rfl)
    rw [a5, hF47.row1 82 (by decide) (by decide), a4, hF30.row1 82 (by decide) (by decide), a3, e82, a2, a1]
  have r3 : G52.1 83 = upd (G.1 83) NS.length r25 := by
    obtain ⟨a1, a2, a3, a4, a5⟩ := b0 83 (Or.inr (Or.inl rfl))
    rw [a5, hF47.row1 83 (by decide) (by decide), a4, e83, a3, hF17.row1 83 (by decide) (by decide), a2, a1]
  have r4 : G52.1 84 = upd (G.1 84) NS.length r39 := by
    obtain ⟨a1, a2, a3, a4, a5⟩ := b0 84 (Or.inr (Or.inr (Or.inl rfl)))
    rw [a5, e84, a4, hF30.row1 84 (by decide) (by decide), a3, hF17.row1 84 (by decide) (by decide), a2, a1]
  have r5 : G52.1 85 = upd (G.1 85) NS.length y45 := by
    obtain ⟨a1, a2, a3, a4, a5⟩ := b0 85 (Or.inr (Or.inr (Or.inr rfl)))
    rw [a5, e85, a4, hF30.row1 85 (by decide) (by decide), a3, hF17.row1 85 (by decide) (by decide), a2, a1]
  have h46 : (G52.1 66 46).toInt = (NS.length : Int) := by
    rw [htk.2.1.i 66 46 (by decide) (by decide), hF47.i 66 46 (by decide) (by decide), t39.2.1.i 66 46 (by decide) (by decide), hF30.i 66 46 (by decide) (by decide), t25.2.1.i 66 46 (by decide) (by decide), hF17.i 66 46 (by decide) (by decide), t12.2.1.i 66 46 (by decide) (by decide), hnm.2.1.i 66 46 (by decide) (by decide)]
    exact hm
  have up : ∀ {Gz : GS} {v : Int32} {lv : Int}, Gz.1 82 = G52.1 82 → Gz.1 83 = G52.1 83 → Gz.1 84 = G52.1 84 → Gz.1 85 = upd (G.1 85) NS.length v → v.toInt = lv → WkM NS.length (v1, v2, v3, lv) Gz ∧ ∀ k, k ≠ NS.length → Gz.1 82 k = G.1 82 k ∧ Gz.1 83 k = G.1 83 k ∧ Gz.1 84 k = G.1 84 k ∧ Gz.1 85 k = G.1 85 k := by
    intro Gz v lv z2 z3 z4 z5 hv
    have own : ∀ (g : Nat → Int32) (x : Int32), upd g NS.length x NS.length = x := fun g x => if_pos rfl
    refine ⟨⟨?_, ?_, ?_, ?_⟩, fun k hk2 => ⟨?_, ?_, ?_, ?_⟩⟩
    · rw [z2, r2, own]
      exact hr12
    · rw [z3, r3, own]
      exact hr25
    · rw [z4, r4, own]
      exact hr39
    · rw [z5, own]
      exact hv
    · rw [z2, r2]
      exact if_neg hk2
    · rw [z3, r3]
      exact if_neg hk2
    · rw [z4, r4]
      exact if_neg hk2
    · rw [z5]
      exact if_neg hk2
  rcases m_takes (i := 5) (by decide) (by decide +kernel) htk hp5 with ⟨hr, hn5, rfl⟩ | ⟨hr, hk5, hp6⟩
  · have n133 : tK b n p5 ≠ 133 := hn5
    rw [if_neg n133] at e5
    rcases hh with ⟨-, ⟨-, y63, t63, hFe, e46⟩ | ⟨c, -⟩⟩ | ⟨c, -⟩
    · obtain ⟨u1, u2⟩ := up (Gz := G1) (hFe.row1 82 (by decide) (by decide)) (hFe.row1 83 (by decide) (by decide)) (hFe.row1 84 (by decide) (by decide)) ((hFe.row1 85 (by decide) (by decide)).trans r5) h45
      exact Or.inr ⟨_, p5, e5, hp5.fr hFe (by decide) (by decide) (by decide) (by decide), by omega, hU47.frl hFe (by decide) (by decide), by rw [e46]; omega, u1, u2⟩
    · exact absurd hf40 c
    · exact absurd hr c
  · have k133 : tK b n p5 = 133 := hk5
    rw [if_pos k133] at e5
    have t5 := tN_p (b := b) hp5.1.2.1 hp5.2.2.2
    rcases hh with ⟨c, -⟩ | ⟨-, y70, e70, y72, e72, r78, G79, t78, hh⟩
    · omega
    have h70 : y70.toInt = v3 := by
      rw [e70, hmc, r4, show upd (G.1 84) NS.length r39 NS.length = r39 from if_pos rfl]
      exact hr39
    have hi5' : v3 ≤ 60 := hi5
    have lo5' : v2 ≤ v3 := lo5
    have lo4' : 1 ≤ v2 := lo4
    have h72 : y72.toInt = v3 + 1 := xI_add (Y := 1) h70 rfl e72 (by omega) (by omega)
    have o6 := m_told t78 hp6
    rw [h72] at o6
    have t6 := tN_p (b := b) hp6.1.2.1 hp6.2.2.2
    rcases o6 with ⟨f, hf, hmf⟩ | ⟨e6, hp7, hr78, -, -⟩
    · refine Or.inl ⟨f, e5.trans (bnd_l hf), ?_⟩
      rcases hh with ⟨c, -⟩ | ⟨-, hFe, -⟩
      · exact absurd c (by have := hmf.pos; omega)
      · exact hmf.fr hFe (by decide) (by decide)
    · have hf79 : (G79.1 66 2).toInt = 0 := hp7.k2
      rcases hh with ⟨-, y90, t90, hFe, e46, e85'⟩ | ⟨c, -⟩
      · rw [hmc, t78.2.1.row1 85 (by decide) (by decide), r5] at e85'
        have e85'' : G1.1 85 = upd (G.1 85) NS.length r78 := by
          rw [e85']
          funext j
          unfold upd
          by_cases hj : j = NS.length
          · rw [if_pos hj, if_pos hj]
          · rw [if_neg hj, if_neg hj, if_neg hj]
        obtain ⟨u1, u2⟩ := up (Gz := G1) ((hFe.row1 82 (by decide) (by decide)).trans (t78.2.1.row1 82 (by decide) (by decide))) ((hFe.row1 83 (by decide) (by decide)).trans (t78.2.1.row1 83 (by decide) (by decide))) ((hFe.row1 84 (by decide) (by decide)).trans (t78.2.1.row1 84 (by decide) (by decide))) e85'' hr78
        exact Or.inr ⟨_, _, e5.trans (bnd_r e6), hp7.fr hFe (by decide) (by decide) (by decide) (by decide), by omega, ((hU47.frl htk.2.1 (by decide) (by decide)).frl t78.2.1 (by decide) (by decide)).frl hFe (by decide) (by decide), by rw [e46]; omega, u1, u2⟩
      · exact absurd hf79 c
def SlpM (o : Option (Int × Int × Int)) (G : GS) : Prop := (G.1 86 0).toInt = (o.getD (0, 1, 0)).1 ∧ (G.1 86 1).toInt = (o.getD (0, 1, 0)).2.1 ∧ (G.1 86 2).toInt = (o.getD (0, 1, 0)).2.2
theorem m_slip {b : Nat → Int} {n p : Nat} {G G1 : GS} (h : Q_readSlip G G1) (hp : MP b n G p) (hk : tK b n p ≠ 202) (hk3 : tK b n p ≠ 203) : LnM b n p (pSlip b n p) G1 (fun x => SlpM (some x) G1) := by
  obtain ⟨-, -, -, G2, htk, r11, G12, t11, G16, -, hF16, w16, r24, G25, t24, y30, e30, y32, e32, y34, e34, hh⟩ := h
  have ht := tN_p (b := b) hp.1.2.1 hp.2.2.2
  have htp := (ht.2.2 hk3).1
  have z0 : (0 : Int32).toNatClampNeg = 0 := rfl
  have z1 : (1 : Int32).toNatClampNeg = 1 := rfl
  have z2 : (2 : Int32).toNatClampNeg = 2 := rfl
  rw [z0] at w16 e30
  rw [z1] at e30 e32
  have d3 : ∀ {f : Int × Int}, MF f G25 → MF f G1 := by
    intro f hmf
    rcases hh with ⟨-, G29, -, hF29, -, r65, G66, t65, hFe, -⟩ | ⟨-, G29, -, hF29, -, r65, G66, t65, hFe, -⟩
    · have hm2 := hmf.fr hF29 (by decide) (by decide)
      have e := told_f t65 hm2.pos
      subst e
      exact hm2.fr hFe (by decide) (by decide)
    · have hm2 := hmf.fr hF29 (by decide) (by decide)
      have e := told_f t65 hm2.pos
      subst e
      exact hm2.fr hFe (by decide) (by decide)
  have d2 : ∀ {f : Int × Int}, MF f G16 → MF f G1 := by
    intro f hmf
    have e := told_f t24 hmf.pos
    subst e
    exact d3 hmf
  have hp2 := m_next htk hp hk
  rcases m_told t11 hp2 with ⟨f, hf, hmf⟩ | ⟨e1, hp3, hr11, lo1, hi1⟩
  · exact Or.inl ⟨f, by unfold pSlip; exact bnd_l hf, d2 (hmf.fr hF16 (by decide) (by decide))⟩
  have t2 := tN_p (b := b) hp2.1.2.1 hp2.2.2.2
  replace hp3 := hp3.fr hF16 (by decide) (by decide) (by decide) (by decide)
  rcases m_told t24 hp3 with ⟨f, hf, hmf⟩ | ⟨e2, hp4, hr24, lo2, hi2⟩
  · exact Or.inl ⟨f, by unfold pSlip; exact (bnd_r e1).trans (bnd_l hf), d3 hmf⟩
  have t3 := tN_p (b := b) hp3.1.2.1 hp3.2.2.2
  have t4 := tN_p (b := b) hp4.1.2.1 hp4.2.2.2
  have lo1' : 0 ≤ tV b n (tNx b n p) := lo1
  have hi1' : tV b n (tNx b n p) ≤ 9 := hi1
  have lo2' : 0 ≤ tV b n (tNx b n (tNx b n p)) := lo2
  have hi2' : tV b n (tNx b n (tNx b n p)) ≤ 9 := hi2
  have r25 : G25.1 86 = upd (G12.1 86) 0 r11 := by rw [t24.2.1.row1 86 (by decide) (by decide), w16]
  have h30 : y30.toInt = tV b n (tNx b n p) := by
    rw [e30, show upd (G25.1 86) 1 r24 0 = G25.1 86 0 from if_neg (by decide), r25, show upd (G12.1 86) 0 r11 0 = r11 from if_pos rfl]
    exact hr11
  have h32 : y32.toInt = tV b n (tNx b n (tNx b n p)) := by
    rw [e32, show upd (G25.1 86) 1 r24 1 = r24 from if_pos rfl]
    exact hr24
  have h34 : y34.toInt = tV b n (tNx b n p) + tV b n (tNx b n (tNx b n p)) := xI_add h30 h32 e34 (by omega) (by omega)
  have fin : ∀ {lo r65 : Int32} {G29 G66 : GS}, lo.toInt = (if tV b n (tNx b n p) + tV b n (tNx b n (tNx b n p)) = 0 then 1 else 0) → Fr [86] [] G25 G29 → G29.1 86 = upd (G25.1 86) 1 r24 → Q_told lo 9 G29 r65 G66 → Fr [86] [] G66 G1 → G1.1 86 = upd (G66.1 86) 2 r65 → LnM b n p (pSlip b n p) G1 (fun x => SlpM (some x) G1) := by
    intro lo r65 G29 G66 hlo hF29 w29 t65 hFe we
    have o := m_told t65 (hp4.fr hF29 (by decide) (by decide) (by decide) (by decide))
    rw [hlo] at o
    rcases o with ⟨f, hf, hmf⟩ | ⟨e3, hp5, hr65, -, -⟩
    · exact Or.inl ⟨f, by unfold pSlip; exact (bnd_r e1).trans ((bnd_r e2).trans (bnd_l hf)), hmf.fr hFe (by decide) (by decide)⟩
    · refine Or.inr ⟨_, _, by unfold pSlip; exact (bnd_r e1).trans ((bnd_r e2).trans (bnd_r e3)), hp5.fr hFe (by decide) (by decide) (by decide) (by decide), by omega, ?_, ?_, ?_⟩
      · rw [we, show upd (G66.1 86) 2 r65 0 = G66.1 86 0 from if_neg (by decide), t65.2.1.row1 86 (by decide) (by decide), w29, show upd (G25.1 86) 1 r24 0 = G25.1 86 0 from if_neg (by decide), r25, show upd (G12.1 86) 0 r11 0 = r11 from if_pos rfl]
        exact hr11
      · rw [we, show upd (G66.1 86) 2 r65 1 = G66.1 86 1 from if_neg (by decide), t65.2.1.row1 86 (by decide) (by decide), w29, show upd (G25.1 86) 1 r24 1 = r24 from if_pos rfl]
        exact hr24
      · rw [we, show upd (G66.1 86) 2 r65 2 = r65 from if_pos rfl]
        exact hr65
  rcases hh with ⟨c, G29, -, hF29, w29, r65, G66, t65, hFe, we⟩ | ⟨c, G29, -, hF29, w29, r65, G66, t65, hFe, we⟩
  · exact fin (by rw [if_pos (by omega)]; rfl) hF29 w29 t65 hFe we
  · exact fin (by rw [if_neg (by omega)]; rfl) hF29 w29 t65 hFe we
theorem m_rule {b : Nat → Int} {n p : Nat} {G G1 : GS} {NS : List (List Int)} {w : Int} (h : Q_readRule G G1) (hp : MP b n G p) (hk : tK b n p ≠ 202) (hk3 : tK b n p ≠ 203) (hN : NmM 7 NS G) (hm : (G.1 66 47).toInt = (NS.length : Int)) (hw : (G.1 66 21).toInt = w) (hw0 : 0 ≤ w) (hw9 : w ≤ 90) : LnM b n p (pRule b n NS w p) G1 (fun x => NmU 7 NS x.1 G G1 ∧ (G1.1 66 47).toInt = (NS.length : Int) + 1 ∧ (G1.1 66 21).toInt = x.2.2 ∧ 0 ≤ x.2.2 ∧ x.2.2 ≤ 90 ∧ CodeM NS.length x.2.1 G1 ∧ KpM NS.length G G1) := by
  obtain ⟨-, -, -, G4, hnm, hh⟩ := h
  have ht := tN_p (b := b) hp.1.2.1 hp.2.2.2
  have htp := (ht.2.2 hk3).1
  rcases m_name hnm hp hk hN rfl hm with ⟨f, hf, hmf⟩ | ⟨e1, hp2, hLW, e68⟩
  · have hpo := hmf.pos
    rcases hh with ⟨c, -⟩ | ⟨-, rfl⟩
    · omega
    · exact Or.inl ⟨f, by unfold pRule; exact bnd_l hf, hmf⟩
  have hf4 : (G4.1 66 2).toInt = 0 := hp2.k2
  have ht1 := tN_p (b := b) hp.1.2.1 ht.2.1
  rcases hh with ⟨-, G14, hfo, hh⟩ | ⟨c, -⟩
  rotate_left
  · omega
  have h21 : (G4.1 66 21).toInt = w := by
    rw [hnm.2.1.i 66 21 (by decide) (by decide)]
    exact hw
  rcases m_form hfo hp2 hm h21 hw0 hw9 with ⟨f, hmf, hev⟩ | ⟨p', C', u', w', hp3, hC, h21', hw0', hw9', hpp, hev⟩
  · have hpo := hmf.pos
    rcases hh with ⟨c, -⟩ | ⟨-, rfl⟩
    · omega
    · exact Or.inl ⟨f, by unfold pRule; exact (bnd_r e1).trans (bnd_l (pForm_l hev)), hmf⟩
  · have hf14 : (G14.1 66 2).toInt = 0 := hp3.k2
    rcases hh with ⟨-, y23, t23, hFe, e47⟩ | ⟨c, -⟩
    · have hU : NmU 7 NS (tL b n (tNx b n p)) G G4 := ⟨hLW, e68⟩
      exact Or.inr ⟨(tL b n (tNx b n p), C', w'), p', by unfold pRule; exact (bnd_r e1).trans (bnd_r (pForm_r hev)), hp3.fr hFe (by decide) (by decide) (by decide) (by decide), by omega, (hU.frl hfo.2.1 (by decide) (by decide)).frl hFe (by decide) (by decide), by rw [e47]; omega, by rw [hFe.i 66 21 (by decide) (by decide)]; exact h21', hw0', hw9', hC.fr hFe (by decide) (by decide), ((KpM.of hnm.2.1 (by decide) (by decide)).tr (kp_form hfo hm)).tr (KpM.of hFe (by decide) (by decide))⟩
    · exact absurd hf14 c
theorem kn_go {b : Nat → Int} {n p : Nat} {k lo hi : Int} (h : tK b n p = k) : (bnd (pKw b n k p) fun _ q => pNum b n lo hi q) = pNum b n lo hi (tNx b n p) := by
  have : pKw b n k p = .inr ((), tNx b n p) := by
    unfold pKw
    rw [if_pos h]
  exact bnd_r this
theorem m_once {b : Nat → Int} {n p i : Nat} {G G1 : GS} {c : Int64} {k r : Int32} (hi : i < 23) (hc : w8 (KW.getD i []) = c) (h : Q_isOnce c k G r G1) (hp : MP b n G p) : G = G1 ∧ (r.toInt ≠ 0 ↔ (tK b n p = 128 + (i : Int) ∧ (G.1 66 51 &&& k).toInt = 0)) := by
  obtain ⟨-, hF, -, -, r1, G2, hw, hh⟩ := h
  obtain ⟨rfl, hr⟩ := m_isWord hi hc hw hp
  refine ⟨hF.nil, ?_⟩
  rcases hh with ⟨c1, e, -⟩ | ⟨c1, y8, e8, ⟨c2, e, -⟩ | ⟨c2, e, -⟩⟩
  · subst e
    exact ⟨fun q => absurd rfl q, fun q => absurd c1 (hr.mpr q.1)⟩
  · subst e
    rw [e8] at c2
    exact ⟨fun _ => ⟨hr.mp c1, c2⟩, fun _ => by decide⟩
  · subst e
    rw [e8] at c2
    exact ⟨fun q => absurd rfl q, fun q => absurd q.2 c2⟩
def onb (s h d : Bool) : Int32 := (if s = true then (0 : Int32) else 1) ||| ((if h = true then (0 : Int32) else 2) ||| (if d = true then (0 : Int32) else 4))
theorem onb_1 : ∀ s h d : Bool, ((onb s h d &&& 1).toInt = 0 ↔ s = true) ∧ ((onb s h d &&& 2).toInt = 0 ↔ h = true) ∧ ((onb s h d &&& 4).toInt = 0 ↔ d = true) ∧ onb s h d ||| 1 = onb false h d ∧ onb s h d ||| 2 = onb s false d ∧ onb s h d ||| 4 = onb s h false := by decide
