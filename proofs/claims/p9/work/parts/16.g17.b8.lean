theorem c_walker_1 {b : Nat → Int} {n p : Nat} {r : Int32} {G G1 : GS} {NS : List (List Int)} (h : P_rWalker_1 G r G1) (hp : CPx b n G p) (hk : tK b n p ≠ 202) (hk3 : tK b n p ≠ 203) (hN : NmC 35 NS G) (hm : (G.1 1 10).toInt = (NS.length : Int)) : (4 ≤ NS.length ∧ CF (fl b n 2 p) r G1) ∨ (NS.length < 4 ∧ LnC b n p (smi b n (pWalker b n NS p)) r G1 (fun x => NmC 35 (NS ++ [x.1]) G1 ∧ (G1.1 1 10).toInt = (NS.length : Int) + 1 ∧ WkC_1 NS.length x.2 G1 ∧ ∀ k, k ≠ NS.length → G1.1 12 k = G.1 12 k ∧ G1.1 13 k = G.1 13 k ∧ G1.1 14 k = G.1 14 k ∧ G1.1 15 k = G.1 15 k)) := by
  obtain ⟨-, -, -, w4, G6, hj, -, -, -, -, r12, G13, hf1, hh⟩ := h
  have hj2 : G = G6 ∧ ((4 ≤ NS.length ∧ w4.toInt = 0) ∨ (NS.length < 4 ∧ w4.toInt = 1)) := by
    rcases hj with ⟨c, e1, e2⟩ | ⟨c, e1, e2⟩
    · exact ⟨e2, Or.inl ⟨by omega, by rw [← e1]; rfl⟩⟩
    · exact ⟨e2, Or.inr ⟨by omega, by rw [← e1]; rfl⟩⟩
  obtain ⟨rfl, hj3⟩ := hj2
  clear hj
  have ht := tN_p (b := b) hp.1.2.1 hp.2.2.2
  have htp := (ht.2.2 hk3).1
  rcases c_first hf1 hp hk with ⟨hm0, hC⟩ | ⟨hm1, hr, hp2⟩
  · rcases hh with ⟨c, rfl, rfl⟩ | ⟨c, -⟩
    · exact Or.inl ⟨by omega, rfl, hC.2⟩
    · exact absurd hC.1 c
  have hlt : NS.length < 4 := by omega
  refine Or.inr ⟨hlt, ?_⟩
  have hmc := cn_eq hm
  rcases hh with ⟨c, -⟩ | ⟨c, r19, G20, hnm, hh⟩
  · omega
  rcases c_name_35 hnm hp2 (hN.fr hf1.2.1 (by decide) (by decide)) hm hlt with ⟨f, hf, hC⟩ | ⟨e1, hr19, hp3, hN20⟩
  · rcases hh with ⟨c, rfl, rfl⟩ | ⟨c, -⟩
    · exact Or.inl ⟨f, smi_l (by unfold pWalker; exact bnd_l hf), rfl, hC.2⟩
    · exact absurd hC.1 c
  rcases hh with ⟨c, -⟩ | ⟨c, r26, G27, hp26, hh⟩
  · omega
  have t3 := tN_p (b := b) hp2.1.2.1 hp2.2.2.2
  rcases c_pass hp26 hp3 (by decide) with ⟨f, hf, hC⟩ | ⟨e2, hr26, hp4⟩
  · rcases hh with ⟨c, rfl, rfl⟩ | ⟨c, -⟩
    · exact Or.inl ⟨f, smi_l (by unfold pWalker; exact (bnd_r e1).trans (bnd_l hf)), rfl, hC.2⟩
    · exact absurd hC.1 c
  rcases hh with ⟨c, -⟩ | ⟨c, r35, G36, hn35, hh⟩
  · omega
  have t4 := tN_p (b := b) hp3.1.2.1 hp3.2.2.2
  rcases c_num hn35 hp4 with ⟨f, hf, hC⟩ | ⟨e3, hr35, hp5, v5, lo5, hi5⟩
  · rcases hh with ⟨c, rfl, rfl⟩ | ⟨c, -⟩
    · exact Or.inl ⟨f, smi_l (by unfold pWalker; exact (bnd_r e1).trans ((bnd_r e2).trans (bnd_l hf))), rfl, hC.2⟩
    · exact absurd hC.1 c
  rcases hh with ⟨c, -⟩ | ⟨c, G42, -, hF42, w42, r43, G44, hp43, hh⟩
  · omega
  have t5 := tN_p (b := b) hp4.1.2.1 hp4.2.2.2
  rw [hmc] at w42
  replace hp5 := hp5.fr hF42 (by decide) (by decide) (by decide) (by decide)
  rcases c_pass hp43 hp5 (by decide) with ⟨f, hf, hC⟩ | ⟨e4, hr43, hp6⟩
  · rcases hh with ⟨c, rfl, rfl⟩ | ⟨c, -⟩
    · exact Or.inl ⟨f, smi_l (by unfold pWalker; exact (bnd_r e1).trans ((bnd_r e2).trans ((bnd_r e3).trans (bnd_l hf)))), rfl, hC.2⟩
    · exact absurd hC.1 c
  rcases hh with ⟨c, -⟩ | ⟨c, r52, G53, hn52, hh⟩
  · omega
  have t6 := tN_p (b := b) hp5.1.2.1 hp5.2.2.2
  rcases c_num hn52 hp6 with ⟨f, hf, hC⟩ | ⟨e5, hr52, hp7, v7, lo7, hi7⟩
  · rcases hh with ⟨c, rfl, rfl⟩ | ⟨c, -⟩
    · exact Or.inl ⟨f, smi_l (by unfold pWalker; exact (bnd_r e1).trans ((bnd_r e2).trans ((bnd_r e3).trans ((bnd_r e4).trans (bnd_l hf))))), rfl, hC.2⟩
    · exact absurd hC.1 c
  rcases hh with ⟨c, -⟩ | ⟨c, G59, -, hF59, w59, r60, G61, hp60, hh⟩
  · omega
  have t7 := tN_p (b := b) hp6.1.2.1 hp6.2.2.2
  rw [hmc] at w59
  replace hp7 := hp7.fr hF59 (by decide) (by decide) (by decide) (by decide)
  rcases c_pass hp60 hp7 (by decide) with ⟨f, hf, hC⟩ | ⟨e6, hr60, hp8⟩
  · rcases hh with ⟨c, rfl, rfl⟩ | ⟨c, -⟩
    · exact Or.inl ⟨f, smi_l (by unfold pWalker; exact (bnd_r e1).trans ((bnd_r e2).trans ((bnd_r e3).trans ((bnd_r e4).trans ((bnd_r e5).trans (bnd_l hf)))))), rfl, hC.2⟩
    · exact absurd hC.1 c
  rcases hh with ⟨c, -⟩ | ⟨c, y67, e67, r69, G70, hn69, hh⟩
  · omega
  have t8 := tN_p (b := b) hp7.1.2.1 hp7.2.2.2
  rw [hmc, hp60.2.1.row1 13 (by decide) (by decide), w59] at e67
  have u67 : y67 = G53.1 5 9 := e67.trans (if_pos rfl)
  have hy67 : y67.toInt = tV b n (tNx b n (tNx b n (tNx b n (tNx b n (tNx b n p))))) := by
    rw [u67]
    exact v7
  rcases c_num hn69 hp8 with ⟨f, hf, hC⟩ | ⟨e7, hr69, hp9, v9, lo9, hi9⟩
  · rw [hy67] at hf
    rcases hh with ⟨c, rfl, rfl⟩ | ⟨c, -⟩
    · exact Or.inl ⟨f, smi_l (by unfold pWalker; exact (bnd_r e1).trans ((bnd_r e2).trans ((bnd_r e3).trans ((bnd_r e4).trans ((bnd_r e5).trans ((bnd_r e6).trans (bnd_l hf))))))), rfl, hC.2⟩
    · exact absurd hC.1 c
  rw [hy67] at e7 lo9
  rcases hh with ⟨c, -⟩ | ⟨c, G76, -, hF76, w76, hh⟩
  · omega
  have t9 := tN_p (b := b) hp8.1.2.1 hp8.2.2.2
  rw [hmc] at w76
  have k70 := hp9.2.1.1
  replace hp9 := hp9.fr hF76 (by decide) (by decide) (by decide) (by decide)
  generalize hpe : tNx b n (tNx b n (tNx b n (tNx b n (tNx b n (tNx b n (tNx b n p)))))) = p7 at e6 e7 hp8 v9 lo9 hi9 t9 t8 hp9 k70
  have t10 := tN_p (b := b) hp9.1.2.1 hp9.2.2.2
  have fin : ∀ {G79 : GS} {q : Nat} {lv : Int}, Fr [] [(3, 2), (3, 3), (3, 4), (3, 5), (3, 6), (3, 7), (3, 8), (5, 9)] G76 G79 → CPx b n G79 q → (G79.1 5 9).toInt = lv → p < q → pWalker b n NS p = .inr ((tL b n (tNx b n p), tV b n (tNx b n (tNx b n (tNx b n p))), tV b n (tNx b n (tNx b n (tNx b n (tNx b n (tNx b n p))))), tV b n p7, lv), q) → (∃ (y_85 : Int32), y_85.toInt = (G.1 1 10).toInt + 1 ∧ ∃ (G_86 : GS), Bd G_86 ∧ Fr [15] [(1, 10)] G79 G_86 ∧ G_86.1 1 10 = y_85 ∧ G_86.1 15 = (upd (G79.1 15) ((G.1 1 10).toNatClampNeg) (G79.1 5 9)) ∧ ∃ (r_90 : Int32) (G_91 : GS), P_tPass 59 G_86 r_90 G_91 ∧ r_90 = r ∧ G_91 = G1) → LnC b n p (smi b n (pWalker b n NS p)) r G1 (fun x => NmC 35 (NS ++ [x.1]) G1 ∧ (G1.1 1 10).toInt = (NS.length : Int) + 1 ∧ WkC_1 NS.length x.2 G1 ∧ ∀ k, k ≠ NS.length → G1.1 12 k = G.1 12 k ∧ G1.1 13 k = G.1 13 k ∧ G1.1 14 k = G.1 14 k ∧ G1.1 15 k = G.1 15 k) := by
    intro G79 q lv hF79 hpq v79 hlt2 hE hx
    obtain ⟨y85, t85, G86, -, hF86, w10, w86, r90, G91, hp90, rfl, rfl⟩ := hx
    rw [hmc] at w86
    have b0 : ∀ i, i = 12 ∨ i = 13 ∨ i = 14 ∨ i = 15 → G13.1 i = G.1 i ∧ G20.1 i = G13.1 i ∧ G27.1 i = G20.1 i ∧ G36.1 i = G27.1 i ∧ G44.1 i = G42.1 i ∧ G53.1 i = G44.1 i ∧ G61.1 i = G59.1 i ∧ G70.1 i = G61.1 i ∧ G79.1 i = G76.1 i ∧ G91.1 i = G86.1 i := by
      intro i hi
      rcases hi with rfl | rfl | rfl | rfl <;> exact ⟨hf1.2.1.row1 _ (by decide) (by decide), hnm.2.1.row1 _ (by decide) (by decide), hp26.2.1.row1 _ (by decide) (by decide), hn35.2.1.row1 _ (by decide) (by decide), hp43.2.1.row1 _ (by decide) (by decide), hn52.2.1.row1 _ (by decide) (by decide), hp60.2.1.row1 _ (by decide) (by decide), hn69.2.1.row1 _ (by decide) (by decide), hF79.row1 _ (by decide) (by decide), hp90.2.1.row1 _ (by decide) (by decide)⟩
    have r2 : G91.1 12 = upd (G.1 12) NS.length (G36.1 5 9) := by
      obtain ⟨a1, a2, a3, a4, a5, a6, a7, a8, a9, a10⟩ := b0 12 (Or.inl rfl)
      rw [a10, hF86.row1 12 (by decide) (by decide), a9, hF76.row1 12 (by decide) (by decide), a8, a7, hF59.row1 12 (by decide) (by decide), a6, a5, w42, a4, a3, a2, a1]
    have r3 : G91.1 13 = upd (G.1 13) NS.length (G53.1 5 9) := by
      obtain ⟨a1, a2, a3, a4, a5, a6, a7, a8, a9, a10⟩ := b0 13 (Or.inr (Or.inl rfl))
      rw [a10, hF86.row1 13 (by decide) (by decide), a9, hF76.row1 13 (by decide) (by decide), a8, a7, w59, a6, a5, hF42.row1 13 (by decide) (by decide), a4, a3, a2, a1]
    have r4 : G91.1 14 = upd (G.1 14) NS.length (G70.1 5 9) := by
      obtain ⟨a1, a2, a3, a4, a5, a6, a7, a8, a9, a10⟩ := b0 14 (Or.inr (Or.inr (Or.inl rfl)))
      rw [a10, hF86.row1 14 (by decide) (by decide), a9, w76, a8, a7, hF59.row1 14 (by decide) (by decide), a6, a5, hF42.row1 14 (by decide) (by decide), a4, a3, a2, a1]
    have r5 : G91.1 15 = upd (G.1 15) NS.length (G79.1 5 9) := by
      obtain ⟨a1, a2, a3, a4, a5, a6, a7, a8, a9, a10⟩ := b0 15 (Or.inr (Or.inr (Or.inr rfl)))
      rw [a10, w86, a9, hF76.row1 15 (by decide) (by decide), a8, a7, hF59.row1 15 (by decide) (by decide), a6, a5, hF42.row1 15 (by decide) (by decide), a4, a3, a2, a1]
    have hN86 : NmC 35 (NS ++ [tL b n (tNx b n p)]) G86 := (((((((((hN20.fr hp26.2.1 (by decide) (by decide)).fr hn35.2.1 (by decide) (by decide)).fr hF42 (by decide) (by decide)).fr hp43.2.1 (by decide) (by decide)).fr hn52.2.1 (by decide) (by decide)).fr hF59 (by decide) (by decide)).fr hp60.2.1 (by decide) (by decide)).fr hn69.2.1 (by decide) (by decide)).fr hF76 (by decide) (by decide)).fr hF79 (by decide) (by decide) |>.fr hF86 (by decide) (by decide)
    refine c_semi hp90 (hpq.fr hF86 (by decide) (by decide) (by decide) (by decide)) hE hlt2 (fun hFz => ?_)
    refine ⟨hN86.fr hFz (by decide) (by decide), by rw [hFz.i 1 10 (by decide) (by decide), w10]; omega, ⟨?_, ?_, ?_, ?_⟩, fun k hk2 => ⟨?_, ?_, ?_, ?_⟩⟩
    · rw [r2, show upd (G.1 12) NS.length (G36.1 5 9) NS.length = G36.1 5 9 from if_pos rfl]
      exact v5
    · rw [r3, show upd (G.1 13) NS.length (G53.1 5 9) NS.length = G53.1 5 9 from if_pos rfl]
      exact v7
    · rw [r4, show upd (G.1 14) NS.length (G70.1 5 9) NS.length = G70.1 5 9 from if_pos rfl]
      exact v9
    · rw [r5, show upd (G.1 15) NS.length (G79.1 5 9) NS.length = G79.1 5 9 from if_pos rfl]
      exact v79
    · rw [r2]
      exact if_neg hk2
    · rw [r3]
      exact if_neg hk2
    · rw [r4]
      exact if_neg hk2
    · rw [r5]
      exact if_neg hk2
  have e8 : pWalker b n NS p = (if tK b n (tNx b n p7) = 133 then bnd (pNum b n (tV b n p7 + 1) 99 (tNx b n (tNx b n p7))) fun v q => .inr ((tL b n (tNx b n p), tV b n (tNx b n (tNx b n (tNx b n p))), tV b n (tNx b n (tNx b n (tNx b n (tNx b n (tNx b n p))))), tV b n p7, v), q) else .inr ((tL b n (tNx b n p), tV b n (tNx b n (tNx b n (tNx b n p))), tV b n (tNx b n (tNx b n (tNx b n (tNx b n (tNx b n p))))), tV b n p7, tV b n p7), tNx b n p7)) := by
    unfold pWalker
    exact (bnd_r e1).trans ((bnd_r e2).trans ((bnd_r e3).trans ((bnd_r e4).trans ((bnd_r e5).trans ((bnd_r e6).trans (bnd_r e7))))))
  have h14 : ∀ {Gq : GS}, Gq.1 14 = G76.1 14 → ∀ {y : Int32}, y = Gq.1 14 ((G.1 1 10).toNatClampNeg) → y.toInt = tV b n p7 := by
    intro Gq e y e2'
    rw [e2', e, hmc, w76, show upd (G70.1 14) NS.length (G70.1 5 9) NS.length = G70.1 5 9 from if_pos rfl]
    exact v9
  rcases hh with ⟨c133, r98, G99, hp98, hh⟩ | ⟨G79, hj, -, -, hF79, hh⟩
  · rw [k70] at c133
    rw [if_pos c133] at e8
    rcases c_pass hp98 hp9 (by decide) with ⟨f, hf, hC⟩ | ⟨e9, hr98, hp10⟩
    · have : pKw b n 133 (tNx b n p7) = .inl f := hf
      unfold pKw at this
      rw [if_pos c133] at this
      exact absurd this (by simp)
    rcases hh with ⟨c, -⟩ | ⟨c, y105, e105, y106, t106, r108, G109, hn108, c108, rfl, rfl⟩
    · omega
    have h105 := h14 (hp98.2.1.row1 14 (by decide) (by decide)) e105
    rcases c_num hn108 hp10 with ⟨f, hf, hC⟩ | ⟨e10, hr108, -⟩
    · rw [show y106.toInt = tV b n p7 + 1 by omega] at hf
      exact Or.inl ⟨f, smi_l (e8.trans (bnd_l hf)), rfl, hC.2⟩
    · omega
  · rcases hj with ⟨c133, r98, G99, hp98, c98, y105, e105, y106, t106, r108, G109, hn108, c108, rfl⟩ | ⟨c133, rfl⟩
    · rw [k70] at c133
      rw [if_pos c133] at e8
      rcases c_pass hp98 hp9 (by decide) with ⟨f, hf, hC⟩ | ⟨e9, hr98, hp10⟩
      · exact absurd hC.1 c98
      have h105 := h14 (hp98.2.1.row1 14 (by decide) (by decide)) e105
      have t11 := tN_p (b := b) hp10.1.2.1 hp10.2.2.2
      rcases c_num hn108 hp10 with ⟨f, hf, hC⟩ | ⟨e10, hr108, hp11, v11, -⟩
      · exact absurd hC.1 c108
      · rw [show y106.toInt = tV b n p7 + 1 by omega] at e10
        exact fin hF79 hp11 v11 (by omega) (e8.trans (bnd_r e10)) hh
    · rw [k70] at c133
      rw [if_neg c133] at e8
      refine fin hF79 hp9 ?_ (by omega) e8 hh
      rw [hF76.i 5 9 (by decide) (by decide)]
      exact v9
theorem c_hand_1 {b : Nat → Int} {n p : Nat} {r : Int32} {G G1 : GS} (h : P_rHand_1 G r G1) (hp : CPx b n G p) (hk : tK b n p ≠ 202) (hk3 : tK b n p ≠ 203) : ((G.1 5 7).toInt ≠ 0 ∧ CF (fl b n 2 p) r G1) ∨ ((G.1 5 7).toInt = 0 ∧ LnC b n p (smi b n (pHand b n p)) r G1 (fun x => (G1.1 5 7).toInt = 1 ∧ (G1.1 1 14).toInt = x.1 ∧ (G1.1 1 15).toInt = x.2)) := by
  obtain ⟨-, -, -, w3, G5, hj, -, -, -, r10, G11, hf1, hh⟩ := h
  have hj2 : G = G5 ∧ (((G.1 5 7).toInt ≠ 0 ∧ w3.toInt = 0) ∨ ((G.1 5 7).toInt = 0 ∧ w3.toInt = 1)) := by
    rcases hj with ⟨c, e1, e2⟩ | ⟨c, e1, e2⟩
    · exact ⟨e2, Or.inr ⟨c, by rw [← e1]; rfl⟩⟩
    · exact ⟨e2, Or.inl ⟨c, by rw [← e1]; rfl⟩⟩
  obtain ⟨rfl, hj3⟩ := hj2
  clear hj
  have ht := tN_p (b := b) hp.1.2.1 hp.2.2.2
  have htp := (ht.2.2 hk3).1
  rcases c_first hf1 hp hk with ⟨hm0, hC⟩ | ⟨hm1, hr, hp2⟩
  · rcases hh with ⟨c, rfl, rfl⟩ | ⟨c, -⟩
    · exact Or.inl ⟨by omega, rfl, hC.2⟩
    · exact absurd hC.1 c
  refine Or.inr ⟨by omega, ?_⟩
  rcases hh with ⟨c, -⟩ | ⟨c, r19, G20, hn1, hh⟩
  · omega
  rcases c_num hn1 hp2 with ⟨f, hf, hC⟩ | ⟨e1, hr19, hp3, v3, -, -⟩
  · rcases hh with ⟨c, rfl, rfl⟩ | ⟨c, -⟩
    · exact Or.inl ⟨f, smi_l (by unfold pHand; exact bnd_l hf), rfl, hC.2⟩
    · exact absurd hC.1 c
  rcases hh with ⟨c, -⟩ | ⟨c, G27, -, hF27, w14, w7, r28, G29, hps, hh⟩
  · omega
  have t3 := tN_p (b := b) hp2.1.2.1 hp2.2.2.2
  replace hp3 := hp3.fr hF27 (by decide) (by decide) (by decide) (by decide)
  rcases c_pass hps hp3 (by decide) with ⟨f, hf, hC⟩ | ⟨e2, hr28, hp4⟩
  · rcases hh with ⟨c, rfl, rfl⟩ | ⟨c, -⟩
    · exact Or.inl ⟨f, smi_l (by unfold pHand; exact (bnd_r e1).trans (bnd_l hf)), rfl, hC.2⟩
    · exact absurd hC.1 c
  rcases hh with ⟨c, -⟩ | ⟨c, r37, G38, hn2, hh⟩
  · omega
  have t4 := tN_p (b := b) hp3.1.2.1 hp3.2.2.2
  rcases c_num hn2 hp4 with ⟨f, hf, hC⟩ | ⟨e3, hr37, hp5, v5, -, -⟩
  · rcases hh with ⟨c, rfl, rfl⟩ | ⟨c, -⟩
    · exact Or.inl ⟨f, smi_l (by unfold pHand; exact (bnd_r e1).trans ((bnd_r e2).trans (bnd_l hf))), rfl, hC.2⟩
    · exact absurd hC.1 c
  rcases hh with ⟨c, -⟩ | ⟨c, G44, -, hF44, w15, r45, G46, hp45, rfl, rfl⟩
  · omega
  have t5 := tN_p (b := b) hp4.1.2.1 hp4.2.2.2
  refine c_semi hp45 (hp5.fr hF44 (by decide) (by decide) (by decide) (by decide)) (by unfold pHand; exact (bnd_r e1).trans ((bnd_r e2).trans (bnd_r e3))) (by omega) (fun hFz => ⟨?_, ?_, ?_⟩)
  · rw [hFz.i 5 7 (by decide) (by decide), hF44.i 5 7 (by decide) (by decide), hn2.2.1.i 5 7 (by decide) (by decide), hps.2.1.i 5 7 (by decide) (by decide), w7]
    rfl
  · rw [hFz.i 1 14 (by decide) (by decide), hF44.i 1 14 (by decide) (by decide), hn2.2.1.i 1 14 (by decide) (by decide), hps.2.1.i 1 14 (by decide) (by decide), w14]
    exact v3
  · rw [hFz.i 1 15 (by decide) (by decide), w15]
    exact v5
theorem c_draw_1 {b : Nat → Int} {n p : Nat} {r : Int32} {G G1 : GS} (h : P_rDraw_1 G r G1) (hp : CPx b n G p) (hk : tK b n p ≠ 202) (hk3 : tK b n p ≠ 203) : ((G.1 5 8).toInt ≠ 0 ∧ CF (fl b n 2 p) r G1) ∨ ((G.1 5 8).toInt = 0 ∧ LnC b n p (smi b n (pDraw b n p)) r G1 (fun x => (G1.1 5 8).toInt = 1 ∧ (G1.1 1 16).toInt = x)) := by
  obtain ⟨-, -, -, w3, G5, hj, -, -, -, r10, G11, hf1, hh⟩ := h
  have hj2 : G = G5 ∧ (((G.1 5 8).toInt ≠ 0 ∧ w3.toInt = 0) ∨ ((G.1 5 8).toInt = 0 ∧ w3.toInt = 1)) := by
    rcases hj with ⟨c, e1, e2⟩ | ⟨c, e1, e2⟩
    · exact ⟨e2, Or.inr ⟨c, by rw [← e1]; rfl⟩⟩
    · exact ⟨e2, Or.inl ⟨c, by rw [← e1]; rfl⟩⟩
  obtain ⟨rfl, hj3⟩ := hj2
  clear hj
  have ht := tN_p (b := b) hp.1.2.1 hp.2.2.2
  have htp := (ht.2.2 hk3).1
  rcases c_first hf1 hp hk with ⟨hm0, hC⟩ | ⟨hm1, hr, hp2⟩
  · rcases hh with ⟨c, rfl, rfl⟩ | ⟨c, -⟩
    · exact Or.inl ⟨by omega, rfl, hC.2⟩
    · exact absurd hC.1 c
  refine Or.inr ⟨by omega, ?_⟩
  rcases hh with ⟨c, -⟩ | ⟨c, r19, G20, hn1, hh⟩
  · omega
  rcases c_num hn1 hp2 with ⟨f, hf, hC⟩ | ⟨e1, hr19, hp3, v3, -, -⟩
  · rcases hh with ⟨c, rfl, rfl⟩ | ⟨c, -⟩
    · exact Or.inl ⟨f, smi_l hf, rfl, hC.2⟩
    · exact absurd hC.1 c
  rcases hh with ⟨c, -⟩ | ⟨c, G27, -, hF27, w16, w8, r28, G29, hp28, rfl, rfl⟩
  · omega
  have t3 := tN_p (b := b) hp2.1.2.1 hp2.2.2.2
  refine c_semi hp28 (hp3.fr hF27 (by decide) (by decide) (by decide) (by decide)) e1 (by omega) (fun hFz => ⟨?_, ?_⟩)
  · rw [hFz.i 5 8 (by decide) (by decide), w8]
    rfl
  · rw [hFz.i 1 16 (by decide) (by decide), w16]
    exact v3
def SlI_1 (b : Nat → Int) (n p : Nat) (x s : Int32) (G : GS) : Prop := ∃ q, CPx b n G q ∧ p < q ∧ (G.1 5 6).toInt = 1 ∧ ((x.toInt = 0 ∧ s.toInt = 0 ∧ q = tNx b n p) ∨ (x.toInt = 1 ∧ pNum b n 0 9 (tNx b n p) = .inr ((G.1 16 0).toInt, q) ∧ s.toInt = (G.1 16 0).toInt) ∨ (x.toInt = 2 ∧ ∃ q1, pNum b n 0 9 (tNx b n p) = .inr ((G.1 16 0).toInt, q1) ∧ pNum b n 0 9 q1 = .inr ((G.1 16 1).toInt, q) ∧ s.toInt = (G.1 16 0).toInt + (G.1 16 1).toInt) ∨ (x.toInt = 3 ∧ pSlip b n p = .inr (((G.1 16 0).toInt, (G.1 16 1).toInt, (G.1 16 2).toInt), q)))
theorem c_slip_1 {b : Nat → Int} {n p : Nat} {r : Int32} {G G1 : GS} (h : P_rSlip_1 G r G1) (hp : CPx b n G p) (hk : tK b n p ≠ 202) (hk3 : tK b n p ≠ 203) : ((G.1 5 6).toInt ≠ 0 ∧ CF (fl b n 2 p) r G1) ∨ ((G.1 5 6).toInt = 0 ∧ LnC b n p (smi b n (pSlip b n p)) r G1 (fun x => (G1.1 5 6).toInt = 1 ∧ (G1.1 16 0).toInt = x.1 ∧ (G1.1 16 1).toInt = x.2.1 ∧ (G1.1 16 2).toInt = x.2.2)) := by
  obtain ⟨-, -, -, w3, G5, hj, -, -, -, r10, G11, hf1, hh⟩ := h
  have hj2 : G = G5 ∧ (((G.1 5 6).toInt ≠ 0 ∧ w3.toInt = 0) ∨ ((G.1 5 6).toInt = 0 ∧ w3.toInt = 1)) := by
    rcases hj with ⟨c, e1, e2⟩ | ⟨c, e1, e2⟩
    · exact ⟨e2, Or.inr ⟨c, by rw [← e1]; rfl⟩⟩
    · exact ⟨e2, Or.inl ⟨c, by rw [← e1]; rfl⟩⟩
  obtain ⟨rfl, hj3⟩ := hj2
  clear hj
  have ht := tN_p (b := b) hp.1.2.1 hp.2.2.2
  have htp := (ht.2.2 hk3).1
  rcases c_first hf1 hp hk with ⟨hm0, hC⟩ | ⟨hm1, hr, hp2⟩
  · rcases hh with ⟨c, rfl, rfl⟩ | ⟨c, -⟩
    · exact Or.inl ⟨by omega, rfl, hC.2⟩
    · exact absurd hC.1 c
  refine Or.inr ⟨by omega, ?_⟩
  rcases hh with ⟨c, -⟩ | ⟨c, G17, -, hF17, w6, x22, x23, G18, hl, -, -, -, -, -, hh⟩
  · omega
  have z0 : ((0 : Int32).toInt = 0) := rfl
  have hI0 : SlI_1 b n p 0 0 G17 := ⟨tNx b n p, hp2.fr hF17 (by decide) (by decide) (by decide) (by decide), htp, by rw [w6]; rfl, Or.inl ⟨rfl, rfl, rfl⟩⟩
  have num : ∀ {x s : Int32} {Ga Gb Gc : GS} {lo r7 : Int32} {x' s' : Int32}, SlI_1 b n p x s Ga → P_rNum lo 9 Ga r7 Gb → r7.toInt ≠ 0 → x.toInt < 3 → lo.toInt = (if x.toInt = 2 ∧ s.toInt = 0 then 1 else 0) → s'.toInt = s.toInt + (Gb.1 5 9).toInt → x'.toInt = x.toInt + 1 → Fr [16] [] Gb Gc → Gc.1 16 = upd (Gb.1 16) x.toNatClampNeg (Gb.1 5 9) → SlI_1 b n p x' s' Gc := by
    intro x s Ga Gb Gc lo r7 x' s' hi hn hr7 hx3 hlo hs' hx' hFc e6
    obtain ⟨q, i1, i2, i3, i4⟩ := hi
    have tq := tN_p (b := b) i1.1.2.1 i1.2.2.2
    rcases c_num hn i1 with ⟨f, -, hC⟩ | ⟨ev, -, hpn, v, -, -⟩
    · exact absurd hC.1 hr7
    have r6 : Gb.1 16 = Ga.1 16 := hn.2.1.row1 16 (by decide) (by decide)
    have h56 : (Gc.1 5 6).toInt = 1 := by
      rw [hFc.i 5 6 (by decide) (by decide), hn.2.1.i 5 6 (by decide) (by decide)]
      exact i3
    rw [r6] at e6
    refine ⟨tNx b n q, hpn.fr hFc (by decide) (by decide) (by decide) (by decide), by omega, h56, ?_⟩
    rcases i4 with ⟨a1, a2, a3⟩ | ⟨a1, a2, a3⟩ | ⟨a1, q1, a2, a3, a4⟩ | ⟨a1, -⟩
    · rw [if_neg (by omega)] at hlo
      rw [cn_eq (x := x) (e := 0) (by omega)] at e6
      have d0 : Gc.1 16 0 = Gb.1 5 9 := by rw [e6]; exact if_pos rfl
      refine Or.inr (Or.inl ⟨by omega, ?_, by rw [d0]; omega⟩)
      rw [d0, v, ← a3, ← hlo]
      exact ev
    · rw [if_neg (by omega)] at hlo
      rw [cn_eq (x := x) (e := 1) (by omega)] at e6
      have d0 : Gc.1 16 0 = Ga.1 16 0 := by rw [e6]; exact if_neg (by decide)
      have d1 : Gc.1 16 1 = Gb.1 5 9 := by rw [e6]; exact if_pos rfl
      refine Or.inr (Or.inr (Or.inl ⟨by omega, q, by rw [d0]; exact a2, ?_, by rw [d0, d1]; omega⟩))
      rw [d1, v, ← hlo]
      exact ev
    · rw [cn_eq (x := x) (e := 2) (by omega)] at e6
      have d0 : Gc.1 16 0 = Ga.1 16 0 := by rw [e6]; exact if_neg (by decide)
      have d1 : Gc.1 16 1 = Ga.1 16 1 := by rw [e6]; exact if_neg (by decide)
      have d2 : Gc.1 16 2 = Gb.1 5 9 := by rw [e6]; exact if_pos rfl
      refine Or.inr (Or.inr (Or.inr ⟨by omega, ?_⟩))
      have hlo2 : lo.toInt = (if (Ga.1 16 0).toInt + (Ga.1 16 1).toInt = 0 then 1 else 0) := by
        rw [hlo]
        by_cases hz : (Ga.1 16 0).toInt + (Ga.1 16 1).toInt = 0
        · rw [if_pos hz, if_pos (by omega)]
        · rw [if_neg hz, if_neg (by omega)]
      rw [hlo2] at ev
      unfold pSlip
      rw [d0, d1, d2, v]
      exact (bnd_r a2).trans ((bnd_r a3).trans (bnd_r ev))
    · omega
  have nof : ∀ {x s : Int32} {Ga Gb : GS} {lo r7 : Int32}, SlI_1 b n p x s Ga → P_rNum lo 9 Ga r7 Gb → r7.toInt = 0 → x.toInt < 3 → lo.toInt = (if x.toInt = 2 ∧ s.toInt = 0 then 1 else 0) → ∃ f, pSlip b n p = .inl f ∧ CF f r7 Gb := by
    intro x s Ga Gb lo r7 hi hn hr7 hx3 hlo
    obtain ⟨q, i1, i2, i3, i4⟩ := hi
    rcases c_num hn i1 with ⟨f, hf, hC⟩ | ⟨ev, hr, -⟩
    · refine ⟨f, ?_, hC⟩
      unfold pSlip
      rcases i4 with ⟨a1, a2, a3⟩ | ⟨a1, a2, a3⟩ | ⟨a1, q1, a2, a3, a4⟩ | ⟨a1, -⟩
      · rw [if_neg (by omega)] at hlo
        rw [hlo, a3] at hf
        exact bnd_l hf
      · rw [if_neg (by omega)] at hlo
        rw [hlo] at hf
        exact (bnd_r a2).trans (bnd_l hf)
      · have hlo2 : lo.toInt = (if (Ga.1 16 0).toInt + (Ga.1 16 1).toInt = 0 then 1 else 0) := by
          rw [hlo]
          by_cases hz : (Ga.1 16 0).toInt + (Ga.1 16 1).toInt = 0
          · rw [if_pos hz, if_pos (by omega)]
          · rw [if_neg hz, if_neg (by omega)]
        rw [hlo2] at hf
        exact (bnd_r a2).trans ((bnd_r a3).trans (bnd_l hf))
      · omega
    · omega
  have jn3 : ∀ {x s : Int32} {Ga Gb : GS}, Jn_k_rSlip_1_3 x s Ga Gb → Ga = Gb ∧ (0 : Int32).toInt = (if x.toInt = 2 ∧ s.toInt = 0 then 1 else 0) := by
    intro x s Ga Gb hj
    rcases hj with ⟨c1, c2, e⟩ | ⟨c1, e⟩
    · exact ⟨e, by rw [if_neg (fun q => c2 q.2)]; rfl⟩
    · exact ⟨e, by rw [if_neg (fun q => c1 q.1)]; rfl⟩
  have hI : SlI_1 b n p x22 x23 G18 := hl (fun q => SlI_1 b n p q.1 q.2.1 q.2.2) hI0 (by
    rintro ⟨x1, s1, G_1⟩ ⟨xn, sn, G_1n⟩ hi ⟨x1q, s1q, G_1q, xnq, snq, G_1nq, q1, q2, -, -, -, -, c1, hd⟩
    obtain ⟨rfl, q1x⟩ := Prod.mk.inj q1
    obtain ⟨rfl, rfl⟩ := Prod.mk.inj q1x
    obtain ⟨rfl, q2x⟩ := Prod.mk.inj q2
    obtain ⟨rfl, rfl⟩ := Prod.mk.inj q2x
    rcases hd with ⟨c2, c3, r61, G62, hn, hr, y69, t69, y71, t71, ex, es, hFc, e6⟩ | ⟨G41, hj, -, -, r47, G48, hn, hr, y55, t55, y56, t56, ex, es, hFc, e6⟩
    · exact num hi hn hr c1 (by rw [if_pos ⟨c2, c3⟩]; rfl) (by rw [← es]; exact t69) (by rw [← ex]; exact t71) hFc e6
    · obtain ⟨rfl, hz⟩ := jn3 hj
      exact num hi hn hr c1 hz (by rw [← es]; exact t55) (by rw [← ex]; exact t56) hFc e6)
  rcases hh with ⟨c3, r31, G32, hps, rfl, rfl⟩ | ⟨c3, hh⟩
  · obtain ⟨q, i1, i2, i3, i4⟩ := hI
    rcases i4 with ⟨a1, -⟩ | ⟨a1, -⟩ | ⟨a1, -⟩ | ⟨a1, a2⟩
    · omega
    · omega
    · omega
    · refine c_semi hps i1 a2 i2 (fun hFz => ?_)
      rw [hFz.i 5 6 (by decide) (by decide), hFz.row1 16 (by decide) (by decide)]
      exact ⟨i3, rfl, rfl, rfl⟩
  · rcases hh with ⟨c4, c5, r61, G62, hn, hr, rfl, rfl⟩ | ⟨G41, hj, -, -, r47, G48, hn, hr, rfl, rfl⟩
    · obtain ⟨f, g1, g2⟩ := nof hI hn hr c3 (by rw [if_pos ⟨c4, c5⟩]; rfl)
      exact Or.inl ⟨f, smi_l g1, rfl, g2.2⟩
    · obtain ⟨rfl, hz⟩ := jn3 hj
      obtain ⟨f, g1, g2⟩ := nof hI hn hr c3 hz
      exact Or.inl ⟨f, smi_l g1, rfl, g2.2⟩
theorem c_formC_1 {b : Nat → Int} {n c0 p : Nat} {r : Int32} {G G1 : GS} {w : Int} {C : List (Int × Int)} (h : P_fRead_1 G r G1) (hp : CPx b n G p) (hw : (G.1 1 12).toInt = w) (hw90 : w ≤ 90) (hC : CodeC_1 c0 C G) : (∃ f, CF f r G1 ∧ Ev b n (true, p, [], C, 0, w) (.inl f)) ∨ (∃ p' u' w' C', r.toInt = 1 ∧ CfC_1 b n c0 G1 p' C' u' w' ∧ p < p' ∧ Ev b n (true, p, [], C, 0, w) (.inr (p', C', u', w'))) := by
  obtain ⟨-, -, -, G2, -, hF2, -, e2, r3, G4, h1, rfl, rfl⟩ := h
  have hc : CfC_1 b n c0 G2 p C 0 w := ⟨hp.fr hF2 (by decide) (by decide) (by decide) (by decide), by rw [e2]; rfl, by rw [hF2.i 1 12 (by decide) (by decide)]; exact hw, hC.fr hF2 (by decide) (by decide) (by decide) (by decide), by decide, hw90⟩
  have hg := c_grp_1 (b := b) (n := n) (c0 := c0) 7
  rcases c_either_1 (d := 0) hg.1 hg.2 h1 rfl hc with ⟨f, hf1, hf2⟩ | ⟨p1, u1, w1, C1, hr1, hc1, hv1⟩
  · exact Or.inl ⟨f, hf1, Ev_topf hf2⟩
  · exact Or.inr ⟨p1, u1, w1, C1, hr1, hc1, hv1.1, Ev_top hv1⟩
theorem CodeC_1.cp {C : List (Int × Int)} {G : GS} (h : CodeC_1 0 C G) : (G.1 1 13).toInt = cap C.length := by
  have h1 := h.1
  unfold cap
  by_cases hq : C.length ≤ 580
  · rw [if_pos hq]
    omega
  · rw [if_neg hq]
    omega
theorem c_rule_1 {b : Nat → Int} {n p : Nat} {r : Int32} {G G1 : GS} {R : VR} {w : Int} (h : P_rRule_1 G r G1) (hp : CPx b n G p) (hk : tK b n p ≠ 202) (hk3 : tK b n p ≠ 203) (hR : RlsC_1 R w G) : (6 ≤ R.length ∧ CF (fl b n 2 p) r G1) ∨ (R.length < 6 ∧ LnC b n p (smi b n (pRule b n (nms R) w p)) r G1 (fun x => RlsC_1 (R ++ [(x.1, x.2.1)]) x.2.2 G1)) := by
  obtain ⟨hm, hN, h12, hw0, hw9, hC0, hE0⟩ := hR
  have hml : (G.1 1 11).toInt = ((nms R).length : Int) := by rw [nms_len]; exact hm
  obtain ⟨-, -, -, w3, G5, hj, -, -, -, -, r12, G13, hf1, hh⟩ := h
  have hj2 : G = G5 ∧ ((6 ≤ R.length ∧ w3.toInt = 0) ∨ (R.length < 6 ∧ w3.toInt = 1)) := by
    rcases hj with ⟨c, e1, e2⟩ | ⟨c, e1, e2⟩
    · exact ⟨e2, Or.inl ⟨by omega, by rw [← e1]; rfl⟩⟩
    · exact ⟨e2, Or.inr ⟨by omega, by rw [← e1]; rfl⟩⟩
  obtain ⟨rfl, hj3⟩ := hj2
  clear hj
  have ht := tN_p (b := b) hp.1.2.1 hp.2.2.2
  have htp := (ht.2.2 hk3).1
  rcases c_first hf1 hp hk with ⟨hm0, hC⟩ | ⟨hm1, hr, hp2⟩
  · rcases hh with ⟨c, rfl, rfl⟩ | ⟨c, -⟩
    · exact Or.inl ⟨by omega, rfl, hC.2⟩
    · exact absurd hC.1 c
  have hlt : R.length < 6 := by omega
  refine Or.inr ⟨hlt, ?_⟩
  rcases hh with ⟨c, -⟩ | ⟨c, r19, G20, hnm, hh⟩
  · omega
  rcases c_name_36 hnm hp2 (hN.fr hf1.2.1 (by decide) (by decide)) hml (by rw [nms_len]; exact hlt) with ⟨f, hf, hC⟩ | ⟨e1, hr19, hp3, hN20⟩
  · rcases hh with ⟨c, rfl, rfl⟩ | ⟨c, -⟩
    · exact Or.inl ⟨f, smi_l (by unfold pRule; exact bnd_l hf), rfl, hC.2⟩
    · exact absurd hC.1 c
  rcases hh with ⟨c, -⟩ | ⟨c, G27, -, hF27, w27, r28, G29, hfm, hh⟩
  · omega
  have t3 := tN_p (b := b) hp2.1.2.1 hp2.2.2.2
  replace hp3 := hp3.fr hF27 (by decide) (by decide) (by decide) (by decide)
  rw [cn_eq hm] at w27
  have h12' : (G27.1 1 12).toInt = w := by
    rw [hF27.i 1 12 (by decide) (by decide), hnm.2.1.i 1 12 (by decide) (by decide), hf1.2.1.i 1 12 (by decide) (by decide)]
    exact h12
  have hC27 : CodeC_1 0 (fcd R) G27 := ((hC0.fr hf1.2.1 (by decide) (by decide) (by decide) (by decide)).fr hnm.2.1 (by decide) (by decide) (by decide) (by decide)).fr hF27 (by decide) (by decide) (by decide) (by decide)
  rcases c_formC_1 hfm hp3 h12' hw9 hC27 with ⟨f, hC, hev⟩ | ⟨p', u', w', C', hr28, hc29, hpp, hev⟩
  · obtain ⟨o', ho1, ho2⟩ := Ev_pre hev
    cases o' with
    | inr o' => exact absurd ho2 (by simp [preO])
    | inl f' =>
      have hff : f = f' := by simpa [preO] using ho2
      subst hff
      rcases hh with ⟨c, rfl, rfl⟩ | ⟨c, -⟩
      · exact Or.inl ⟨f, smi_l (by unfold pRule; exact (bnd_r e1).trans (bnd_l (pForm_l ho1))), rfl, hC.2⟩
      · exact absurd hC.1 c
  obtain ⟨o', ho1, ho2⟩ := Ev_pre hev
  cases o' with
  | inl f' => exact absurd ho2 (by simp [preO])
  | inr o' =>
    obtain ⟨p2, D, u2, w2⟩ := o'
    have hq : p' = p2 ∧ C' = fcd R ++ D ∧ u' = u2 ∧ w' = w2 := by
      have := Sum.inr.inj ho2
      simpa using this
    obtain ⟨rfl, rfl, rfl, rfl⟩ := hq
    rcases hh with ⟨c, -⟩ | ⟨c, y35, t35, G38, -, hF38, w11, w38, r39, G40, hps, rfl, rfl⟩
    · omega
    obtain ⟨hp29, -, hw29, hC29, -, hw90⟩ := hc29
    have hrl : pRule b n (nms R) w p = .inr ((tL b n (tNx b n p), D, w'), p') := by
      unfold pRule
      exact (bnd_r e1).trans (bnd_r (pForm_r ho1))
    have hw0' : 0 ≤ w' := by
      rw [← hw29]
      exact (hfm.1.i 1 12 (lo := 0) (hi := 90) rfl rfl).1
    refine c_semi hps (hp29.fr hF38 (by decide) (by decide) (by decide) (by decide)) hrl (by omega) (fun hFz => ?_)
    have r8 : G40.1 18 = upd (upd (G20.1 18) R.length (G.1 1 13)) (R.length + 1) (G29.1 1 13) := by
      rw [hFz.row1 18 (by decide) (by decide), w38, cn_eq (x := y35) (e := R.length + 1) (by omega), hfm.2.1.row1 18 (by decide) (by decide), w27]
    have hcap : (G.1 1 13).toInt = cap (fcd R).length := hC0.cp
    have hcap2 : (G29.1 1 13).toInt = cap (fcd R ++ D).length := hC29.cp
    have h20 : G20.1 18 = G.1 18 := by rw [hnm.2.1.row1 18 (by decide) (by decide), hf1.2.1.row1 18 (by decide) (by decide)]
    rw [h20] at r8
    refine ⟨by rw [hFz.i 1 11 (by decide) (by decide), w11, List.length_append, List.length_singleton]; omega, ?_, by rw [hFz.i 1 12 (by decide) (by decide), hF38.i 1 12 (by decide) (by decide)]; exact hw29, hw0', hw90, ?_, ?_⟩
    · rw [nms_snoc]
      exact (((hN20.fr hF27 (by decide) (by decide)).fr hfm.2.1 (by decide) (by decide)).fr hF38 (by decide) (by decide)).fr hFz (by decide) (by decide)
    · rw [fcd_snoc]
      exact (hC29.fr hF38 (by decide) (by decide) (by decide) (by decide)).fr hFz (by decide) (by decide) (by decide) (by decide)
    · intro k hk2
      rw [List.length_append, List.length_singleton] at hk2
      rw [r8]
      by_cases hq : k = R.length
      · subst hq
        rw [show upd (upd (G.1 18) R.length (G.1 1 13)) (R.length + 1) (G29.1 1 13) R.length = upd (G.1 18) R.length (G.1 1 13) R.length from if_neg (by omega), show upd (G.1 18) R.length (G.1 1 13) R.length = G.1 1 13 from if_pos rfl, show upd (upd (G.1 18) R.length (G.1 1 13)) (R.length + 1) (G29.1 1 13) (R.length + 1) = G29.1 1 13 from if_pos rfl, take_snoc (Nat.le_refl _), List.take_length, take_all, fcd_snoc]
        exact ⟨hcap, hcap2⟩
      · have hE := hE0 k (by omega)
        rw [show upd (upd (G.1 18) R.length (G.1 1 13)) (R.length + 1) (G29.1 1 13) k = upd (G.1 18) R.length (G.1 1 13) k from if_neg (by omega), show upd (G.1 18) R.length (G.1 1 13) k = G.1 18 k from if_neg (by omega), show upd (upd (G.1 18) R.length (G.1 1 13)) (R.length + 1) (G29.1 1 13) (k + 1) = upd (G.1 18) R.length (G.1 1 13) (k + 1) from if_neg (by omega), take_snoc (by omega), take_snoc (by omega)]
        refine ⟨hE.1, ?_⟩
        by_cases hq2 : k + 1 = R.length
        · rw [show upd (G.1 18) R.length (G.1 1 13) (k + 1) = G.1 1 13 from if_pos hq2, hq2, List.take_length]
          exact hcap
        · rw [show upd (G.1 18) R.length (G.1 1 13) (k + 1) = G.1 18 (k + 1) from if_neg hq2]
          exact hE.2
theorem c_walker_2 {b : Nat → Int} {n p : Nat} {r : Int32} {G G1 : GS} {NS : List (List Int)} (h : P_rWalker_2 G r G1) (hp : CPx b n G p) (hk : tK b n p ≠ 202) (hk3 : tK b n p ≠ 203) (hN : NmC 35 NS G) (hm : (G.1 2 10).toInt = (NS.length : Int)) : (4 ≤ NS.length ∧ CF (fl b n 2 p) r G1) ∨ (NS.length < 4 ∧ LnC b n p (smi b n (pWalker b n NS p)) r G1 (fun x => NmC 35 (NS ++ [x.1]) G1 ∧ (G1.1 2 10).toInt = (NS.length : Int) + 1 ∧ WkC_2 NS.length x.2 G1 ∧ ∀ k, k ≠ NS.length → G1.1 22 k = G.1 22 k ∧ G1.1 23 k = G.1 23 k ∧ G1.1 24 k = G.1 24 k ∧ G1.1 25 k = G.1 25 k)) := by
  obtain ⟨-, -, -, w4, G6, hj, -, -, -, -, r12, G13, hf1, hh⟩ := h
  have hj2 : G = G6 ∧ ((4 ≤ NS.length ∧ w4.toInt = 0) ∨ (NS.length < 4 ∧ w4.toInt = 1)) := by
    rcases hj with ⟨c, e1, e2⟩ | ⟨c, e1, e2⟩
    · exact ⟨e2, Or.inl ⟨by omega, by rw [← e1]; rfl⟩⟩
    · exact ⟨e2, Or.inr ⟨by omega, by rw [← e1]; rfl⟩⟩
  obtain ⟨rfl, hj3⟩ := hj2
  clear hj
  have ht := tN_p (b := b) hp.1.2.1 hp.2.2.2
  have htp := (ht.2.2 hk3).1
  rcases c_first hf1 hp hk with ⟨hm0, hC⟩ | ⟨hm1, hr, hp2⟩
  · rcases hh with ⟨c, rfl, rfl⟩ | ⟨c, -⟩
    · exact Or.inl ⟨by omega, rfl, hC.2⟩
    · exact absurd hC.1 c
  have hlt : NS.length < 4 := by omega
  refine Or.inr ⟨hlt, ?_⟩
  have hmc := cn_eq hm
  rcases hh with ⟨c, -⟩ | ⟨c, r19, G20, hnm, hh⟩
  · omega
  rcases c_name_35 hnm hp2 (hN.fr hf1.2.1 (by decide) (by decide)) hm hlt with ⟨f, hf, hC⟩ | ⟨e1, hr19, hp3, hN20⟩
  · rcases hh with ⟨c, rfl, rfl⟩ | ⟨c, -⟩
    · exact Or.inl ⟨f, smi_l (by unfold pWalker; exact bnd_l hf), rfl, hC.2⟩
    · exact absurd hC.1 c
  rcases hh with ⟨c, -⟩ | ⟨c, r26, G27, hp26, hh⟩
  · omega
  have t3 := tN_p (b := b) hp2.1.2.1 hp2.2.2.2
  rcases c_pass hp26 hp3 (by decide) with ⟨f, hf, hC⟩ | ⟨e2, hr26, hp4⟩
  · rcases hh with ⟨c, rfl, rfl⟩ | ⟨c, -⟩
    · exact Or.inl ⟨f, smi_l (by unfold pWalker; exact (bnd_r e1).trans (bnd_l hf)), rfl, hC.2⟩
    · exact absurd hC.1 c
  rcases hh with ⟨c, -⟩ | ⟨c, r35, G36, hn35, hh⟩
  · omega
  have t4 := tN_p (b := b) hp3.1.2.1 hp3.2.2.2
  rcases c_num hn35 hp4 with ⟨f, hf, hC⟩ | ⟨e3, hr35, hp5, v5, lo5, hi5⟩
  · rcases hh with ⟨c, rfl, rfl⟩ | ⟨c, -⟩
    · exact Or.inl ⟨f, smi_l (by unfold pWalker; exact (bnd_r e1).trans ((bnd_r e2).trans (bnd_l hf))), rfl, hC.2⟩
    · exact absurd hC.1 c
  rcases hh with ⟨c, -⟩ | ⟨c, G42, -, hF42, w42, r43, G44, hp43, hh⟩
  · omega
  have t5 := tN_p (b := b) hp4.1.2.1 hp4.2.2.2
  rw [hmc] at w42
  replace hp5 := hp5.fr hF42 (by decide) (by decide) (by decide) (by decide)
  rcases c_pass hp43 hp5 (by decide) with ⟨f, hf, hC⟩ | ⟨e4, hr43, hp6⟩
  · rcases hh with ⟨c, rfl, rfl⟩ | ⟨c, -⟩
    · exact Or.inl ⟨f, smi_l (by unfold pWalker; exact (bnd_r e1).trans ((bnd_r e2).trans ((bnd_r e3).trans (bnd_l hf)))), rfl, hC.2⟩
    · exact absurd hC.1 c
  rcases hh with ⟨c, -⟩ | ⟨c, r52, G53, hn52, hh⟩
  · omega
  have t6 := tN_p (b := b) hp5.1.2.1 hp5.2.2.2
  rcases c_num hn52 hp6 with ⟨f, hf, hC⟩ | ⟨e5, hr52, hp7, v7, lo7, hi7⟩
  · rcases hh with ⟨c, rfl, rfl⟩ | ⟨c, -⟩
    · exact Or.inl ⟨f, smi_l (by unfold pWalker; exact (bnd_r e1).trans ((bnd_r e2).trans ((bnd_r e3).trans ((bnd_r e4).trans (bnd_l hf))))), rfl, hC.2⟩
    · exact absurd hC.1 c
  rcases hh with ⟨c, -⟩ | ⟨c, G59, -, hF59, w59, r60, G61, hp60, hh⟩
  · omega
  have t7 := tN_p (b := b) hp6.1.2.1 hp6.2.2.2
  rw [hmc] at w59
  replace hp7 := hp7.fr hF59 (by decide) (by decide) (by decide) (by decide)
  rcases c_pass hp60 hp7 (by decide) with ⟨f, hf, hC⟩ | ⟨e6, hr60, hp8⟩
  · rcases hh with ⟨c, rfl, rfl⟩ | ⟨c, -⟩
    · exact Or.inl ⟨f, smi_l (by unfold pWalker; exact (bnd_r e1).trans ((bnd_r e2).trans ((bnd_r e3).trans ((bnd_r e4).trans ((bnd_r e5).trans (bnd_l hf)))))), rfl, hC.2⟩
    · exact absurd hC.1 c
  rcases hh with ⟨c, -⟩ | ⟨c, y67, e67, r69, G70, hn69, hh⟩
  · omega
  have t8 := tN_p (b := b) hp7.1.2.1 hp7.2.2.2
  rw [hmc, hp60.2.1.row1 23 (by decide) (by decide), w59] at e67
  have u67 : y67 = G53.1 5 9 := e67.trans (if_pos rfl)
  have hy67 : y67.toInt = tV b n (tNx b n (tNx b n (tNx b n (tNx b n (tNx b n p))))) := by
    rw [u67]
    exact v7
  rcases c_num hn69 hp8 with ⟨f, hf, hC⟩ | ⟨e7, hr69, hp9, v9, lo9, hi9⟩
  · rw [hy67] at hf
    rcases hh with ⟨c, rfl, rfl⟩ | ⟨c, -⟩
    · exact Or.inl ⟨f, smi_l (by unfold pWalker; exact (bnd_r e1).trans ((bnd_r e2).trans ((bnd_r e3).trans ((bnd_r e4).trans ((bnd_r e5).trans ((bnd_r e6).trans (bnd_l hf))))))), rfl, hC.2⟩
    · exact absurd hC.1 c
  rw [hy67] at e7 lo9
  rcases hh with ⟨c, -⟩ | ⟨c, G76, -, hF76, w76, hh⟩
  · omega
  have t9 := tN_p (b := b) hp8.1.2.1 hp8.2.2.2
  rw [hmc] at w76
  have k70 := hp9.2.1.1
  replace hp9 := hp9.fr hF76 (by decide) (by decide) (by decide) (by decide)
  generalize hpe : tNx b n (tNx b n (tNx b n (tNx b n (tNx b n (tNx b n (tNx b n p)))))) = p7 at e6 e7 hp8 v9 lo9 hi9 t9 t8 hp9 k70
  have t10 := tN_p (b := b) hp9.1.2.1 hp9.2.2.2
  have fin : ∀ {G79 : GS} {q : Nat} {lv : Int}, Fr [] [(3, 2), (3, 3), (3, 4), (3, 5), (3, 6), (3, 7), (3, 8), (5, 9)] G76 G79 → CPx b n G79 q → (G79.1 5 9).toInt = lv → p < q → pWalker b n NS p = .inr ((tL b n (tNx b n p), tV b n (tNx b n (tNx b n (tNx b n p))), tV b n (tNx b n (tNx b n (tNx b n (tNx b n (tNx b n p))))), tV b n p7, lv), q) → (∃ (y_85 : Int32), y_85.toInt = (G.1 2 10).toInt + 1 ∧ ∃ (G_86 : GS), Bd G_86 ∧ Fr [25] [(2, 10)] G79 G_86 ∧ G_86.1 2 10 = y_85 ∧ G_86.1 25 = (upd (G79.1 25) ((G.1 2 10).toNatClampNeg) (G79.1 5 9)) ∧ ∃ (r_90 : Int32) (G_91 : GS), P_tPass 59 G_86 r_90 G_91 ∧ r_90 = r ∧ G_91 = G1) → LnC b n p (smi b n (pWalker b n NS p)) r G1 (fun x => NmC 35 (NS ++ [x.1]) G1 ∧ (G1.1 2 10).toInt = (NS.length : Int) + 1 ∧ WkC_2 NS.length x.2 G1 ∧ ∀ k, k ≠ NS.length → G1.1 22 k = G.1 22 k ∧ G1.1 23 k = G.1 23 k ∧ G1.1 24 k = G.1 24 k ∧ G1.1 25 k = G.1 25 k) := by
    intro G79 q lv hF79 hpq v79 hlt2 hE hx
    obtain ⟨y85, t85, G86, -, hF86, w10, w86, r90, G91, hp90, rfl, rfl⟩ := hx
    rw [hmc] at w86
    have b0 : ∀ i, i = 22 ∨ i = 23 ∨ i = 24 ∨ i = 25 → G13.1 i = G.1 i ∧ G20.1 i = G13.1 i ∧ G27.1 i = G20.1 i ∧ G36.1 i = G27.1 i ∧ G44.1 i = G42.1 i ∧ G53.1 i = G44.1 i ∧ G61.1 i = G59.1 i ∧ G70.1 i = G61.1 i ∧ G79.1 i = G76.1 i ∧ G91.1 i = G86.1 i := by
      intro i hi
      rcases hi with rfl | rfl | rfl | rfl <;> exact ⟨hf1.2.1.row1 _ (by decide) (by decide), hnm.2.1.row1 _ (by decide) (by decide), hp26.2.1.row1 _ (by decide) (by decide), hn35.2.1.row1 _ (by decide) (by decide), hp43.2.1.row1 _ (by decide) (by decide), hn52.2.1.row1 _ (by decide) (by decide), hp60.2.1.row1 _ (by decide) (by decide), hn69.2.1.row1 _ (by decide) (by decide), hF79.row1 _ (by decide) (by decide), hp90.2.1.row1 _ (by decide) (by decide)⟩
    have r2 : G91.1 22 = upd (G.1 22) NS.length (G36.1 5 9) := by
      obtain ⟨a1, a2, a3, a4, a5, a6, a7, a8, a9, a10⟩ := b0 22 (Or.inl rfl)
      rw [a10, hF86.row1 22 (by decide) (by decide), a9, hF76.row1 22 (by decide) (by decide), a8, a7, hF59.row1 22 (by decide) (by decide), a6, a5, w42, a4, a3, a2, a1]
    have r3 : G91.1 23 = upd (G.1 23) NS.length (G53.1 5 9) := by
      obtain ⟨a1, a2, a3, a4, a5, a6, a7, a8, a9, a10⟩ := b0 23 (Or.inr (Or.inl rfl))
      rw [a10, hF86.row1 23 (by decide) (by decide), a9, hF76.row1 23 (by decide) (by decide), a8, a7, w59, a6, a5, hF42.row1 23 (by decide) (by decide), a4, a3, a2, a1]
    have r4 : G91.1 24 = upd (G.1 24) NS.length (G70.1 5 9) := by
      obtain ⟨a1, a2, a3, a4, a5, a6, a7, a8, a9, a10⟩ := b0 24 (Or.inr (Or.inr (Or.inl rfl)))
      rw [a10, hF86.row1 24 (by decide) (by decide), a9, w76, a8, a7, hF59.row1 24 (by decide) (by decide), a6, a5, hF42.row1 24 (by decide) (by decide), a4, a3, a2, a1]
    have r5 : G91.1 25 = upd (G.1 25) NS.length (G79.1 5 9) := by
      obtain ⟨a1, a2, a3, a4, a5, a6, a7, a8, a9, a10⟩ := b0 25 (Or.inr (Or.inr (Or.inr rfl)))
      rw [a10, w86, a9, hF76.row1 25 (by decide) (by decide), a8, a7, hF59.row1 25 (by decide) (by decide), a6, a5, hF42.row1 25 (by decide) (by decide), a4, a3, a2, a1]
    have hN86 : NmC 35 (NS ++ [tL b n (tNx b n p)]) G86 := (((((((((hN20.fr hp26.2.1 (by decide) (by decide)).fr hn35.2.1 (by decide) (by decide)).fr hF42 (by decide) (by decide)).fr hp43.2.1 (by decide) (by decide)).fr hn52.2.1 (by decide) (by decide)).fr hF59 (by decide) (by decide)).fr hp60.2.1 (by decide) (by decide)).fr hn69.2.1 (by decide) (by decide)).fr hF76 (by decide) (by decide)).fr hF79 (by decide) (by decide) |>.fr hF86 (by decide) (by decide)
    refine c_semi hp90 (hpq.fr hF86 (by decide) (by decide) (by decide) (by decide)) hE hlt2 (fun hFz => ?_)
    refine ⟨hN86.fr hFz (by decide) (by decide), by rw [hFz.i 2 10 (by decide) (by decide), w10]; omega, ⟨?_, ?_, ?_, ?_⟩, fun k hk2 => ⟨?_, ?_, ?_, ?_⟩⟩
    · rw [r2, show upd (G.1 22) NS.length (G36.1 5 9) NS.length = G36.1 5 9 from if_pos rfl]
      exact v5
    · rw [r3, show upd (G.1 23) NS.length (G53.1 5 9) NS.length = G53.1 5 9 from if_pos rfl]
      exact v7
    · rw [r4, show upd (G.1 24) NS.length (G70.1 5 9) NS.length = G70.1 5 9 from if_pos rfl]
      exact v9
    · rw [r5, show upd (G.1 25) NS.length (G79.1 5 9) NS.length = G79.1 5 9 from if_pos rfl]
      exact v79
    · rw [r2]
      exact if_neg hk2
    · rw [r3]
      exact if_neg hk2
    · rw [r4]
      exact if_neg hk2
    · rw [r5]
      exact if_neg hk2
  have e8 : pWalker b n NS p = (if tK b n (tNx b n p7) = 133 then bnd (pNum b n (tV b n p7 + 1) 99 (tNx b n (tNx b n p7))) fun v q => .inr ((tL b n (tNx b n p), tV b n (tNx b n (tNx b n (tNx b n p))), tV b n (tNx b n (tNx b n (tNx b n (tNx b n (tNx b n p))))), tV b n p7, v), q) else .inr ((tL b n (tNx b n p), tV b n (tNx b n (tNx b n (tNx b n p))), tV b n (tNx b n (tNx b n (tNx b n (tNx b n (tNx b n p))))), tV b n p7, tV b n p7), tNx b n p7)) := by
    unfold pWalker
    exact (bnd_r e1).trans ((bnd_r e2).trans ((bnd_r e3).trans ((bnd_r e4).trans ((bnd_r e5).trans ((bnd_r e6).trans (bnd_r e7))))))
  have h14 : ∀ {Gq : GS}, Gq.1 24 = G76.1 24 → ∀ {y : Int32}, y = Gq.1 24 ((G.1 2 10).toNatClampNeg) → y.toInt = tV b n p7 := by
    intro Gq e y e2'
    rw [e2', e, hmc, w76, show upd (G70.1 24) NS.length (G70.1 5 9) NS.length = G70.1 5 9 from if_pos rfl]
    exact v9
  rcases hh with ⟨c133, r98, G99, hp98, hh⟩ | ⟨G79, hj, -, -, hF79, hh⟩
  · rw [k70] at c133
    rw [if_pos c133] at e8
    rcases c_pass hp98 hp9 (by decide) with ⟨f, hf, hC⟩ | ⟨e9, hr98, hp10⟩
    · have : pKw b n 133 (tNx b n p7) = .inl f := hf
      unfold pKw at this
      rw [if_pos c133] at this
      exact absurd this (by simp)
    rcases hh with ⟨c, -⟩ | ⟨c, y105, e105, y106, t106, r108, G109, hn108, c108, rfl, rfl⟩
    · omega
    have h105 := h14 (hp98.2.1.row1 24 (by decide) (by decide)) e105
    rcases c_num hn108 hp10 with ⟨f, hf, hC⟩ | ⟨e10, hr108, -⟩
    · rw [show y106.toInt = tV b n p7 + 1 by omega] at hf
      exact Or.inl ⟨f, smi_l (e8.trans (bnd_l hf)), rfl, hC.2⟩
    · omega
  · rcases hj with ⟨c133, r98, G99, hp98, c98, y105, e105, y106, t106, r108, G109, hn108, c108, rfl⟩ | ⟨c133, rfl⟩
    · rw [k70] at c133
      rw [if_pos c133] at e8
      rcases c_pass hp98 hp9 (by decide) with ⟨f, hf, hC⟩ | ⟨e9, hr98, hp10⟩
      · exact absurd hC.1 c98
      have h105 := h14 (hp98.2.1.row1 24 (by decide) (by decide)) e105
      have t11 := tN_p (b := b) hp10.1.2.1 hp10.2.2.2
      rcases c_num hn108 hp10 with ⟨f, hf, hC⟩ | ⟨e10, hr108, hp11, v11, -⟩
      · exact absurd hC.1 c108
      · rw [show y106.toInt = tV b n p7 + 1 by omega] at e10
        exact fin hF79 hp11 v11 (by omega) (e8.trans (bnd_r e10)) hh
    · rw [k70] at c133
      rw [if_neg c133] at e8
      refine fin hF79 hp9 ?_ (by omega) e8 hh
      rw [hF76.i 5 9 (by decide) (by decide)]
      exact v9
theorem c_hand_2 {b : Nat → Int} {n p : Nat} {r : Int32} {G G1 : GS} (h : P_rHand_2 G r G1) (hp : CPx b n G p) (hk : tK b n p ≠ 202) (hk3 : tK b n p ≠ 203) : ((G.1 5 7).toInt ≠ 0 ∧ CF (fl b n 2 p) r G1) ∨ ((G.1 5 7).toInt = 0 ∧ LnC b n p (smi b n (pHand b n p)) r G1 (fun x => (G1.1 5 7).toInt = 1 ∧ (G1.1 2 14).toInt = x.1 ∧ (G1.1 2 15).toInt = x.2)) := by
  obtain ⟨-, -, -, w3, G5, hj, -, -, -, r10, G11, hf1, hh⟩ := h
  have hj2 : G = G5 ∧ (((G.1 5 7).toInt ≠ 0 ∧ w3.toInt = 0) ∨ ((G.1 5 7).toInt = 0 ∧ w3.toInt = 1)) := by
    rcases hj with ⟨c, e1, e2⟩ | ⟨c, e1, e2⟩
    · exact ⟨e2, Or.inr ⟨c, by rw [← e1]; rfl⟩⟩
    · exact ⟨e2, Or.inl ⟨c, by rw [← e1]; rfl⟩⟩
  obtain ⟨rfl, hj3⟩ := hj2
  clear hj
  have ht := tN_p (b := b) hp.1.2.1 hp.2.2.2
  have htp := (ht.2.2 hk3).1
  rcases c_first hf1 hp hk with ⟨hm0, hC⟩ | ⟨hm1, hr, hp2⟩
  · rcases hh with ⟨c, rfl, rfl⟩ | ⟨c, -⟩
    · exact Or.inl ⟨by omega, rfl, hC.2⟩
    · exact absurd hC.1 c
  refine Or.inr ⟨by omega, ?_⟩
  rcases hh with ⟨c, -⟩ | ⟨c, r19, G20, hn1, hh⟩
  · omega
  rcases c_num hn1 hp2 with ⟨f, hf, hC⟩ | ⟨e1, hr19, hp3, v3, -, -⟩
  · rcases hh with ⟨c, rfl, rfl⟩ | ⟨c, -⟩
    · exact Or.inl ⟨f, smi_l (by unfold pHand; exact bnd_l hf), rfl, hC.2⟩
    · exact absurd hC.1 c
  rcases hh with ⟨c, -⟩ | ⟨c, G27, -, hF27, w14, w7, r28, G29, hps, hh⟩
  · omega
  have t3 := tN_p (b := b) hp2.1.2.1 hp2.2.2.2
  replace hp3 := hp3.fr hF27 (by decide) (by decide) (by decide) (by decide)
  rcases c_pass hps hp3 (by decide) with ⟨f, hf, hC⟩ | ⟨e2, hr28, hp4⟩
  · rcases hh with ⟨c, rfl, rfl⟩ | ⟨c, -⟩
    · exact Or.inl ⟨f, smi_l (by unfold pHand; exact (bnd_r e1).trans (bnd_l hf)), rfl, hC.2⟩
    · exact absurd hC.1 c
  rcases hh with ⟨c, -⟩ | ⟨c, r37, G38, hn2, hh⟩
  · omega
  have t4 := tN_p (b := b) hp3.1.2.1 hp3.2.2.2
  rcases c_num hn2 hp4 with ⟨f, hf, hC⟩ | ⟨e3, hr37, hp5, v5, -, -⟩
  · rcases hh with ⟨c, rfl, rfl⟩ | ⟨c, -⟩
    · exact Or.inl ⟨f, smi_l (by unfold pHand; exact (bnd_r e1).trans ((bnd_r e2).trans (bnd_l hf))), rfl, hC.2⟩
    · exact absurd hC.1 c
  rcases hh with ⟨c, -⟩ | ⟨c, G44, -, hF44, w15, r45, G46, hp45, rfl, rfl⟩
  · omega
  have t5 := tN_p (b := b) hp4.1.2.1 hp4.2.2.2
  refine c_semi hp45 (hp5.fr hF44 (by decide) (by decide) (by decide) (by decide)) (by unfold pHand; exact (bnd_r e1).trans ((bnd_r e2).trans (bnd_r e3))) (by omega) (fun hFz => ⟨?_, ?_, ?_⟩)
  · rw [hFz.i 5 7 (by decide) (by decide), hF44.i 5 7 (by decide) (by decide), hn2.2.1.i 5 7 (by decide) (by decide), hps.2.1.i 5 7 (by decide) (by decide), w7]
    rfl
  · rw [hFz.i 2 14 (by decide) (by decide), hF44.i 2 14 (by decide) (by decide), hn2.2.1.i 2 14 (by decide) (by decide), hps.2.1.i 2 14 (by decide) (by decide), w14]
    exact v3
  · rw [hFz.i 2 15 (by decide) (by decide), w15]
    exact v5
theorem c_draw_2 {b : Nat → Int} {n p : Nat} {r : Int32} {G G1 : GS} (h : P_rDraw_2 G r G1) (hp : CPx b n G p) (hk : tK b n p ≠ 202) (hk3 : tK b n p ≠ 203) : ((G.1 5 8).toInt ≠ 0 ∧ CF (fl b n 2 p) r G1) ∨ ((G.1 5 8).toInt = 0 ∧ LnC b n p (smi b n (pDraw b n p)) r G1 (fun x => (G1.1 5 8).toInt = 1 ∧ (G1.1 2 16).toInt = x)) := by
  obtain ⟨-, -, -, w3, G5, hj, -, -, -, r10, G11, hf1, hh⟩ := h
  have hj2 : G = G5 ∧ (((G.1 5 8).toInt ≠ 0 ∧ w3.toInt = 0) ∨ ((G.1 5 8).toInt = 0 ∧ w3.toInt = 1)) := by
    rcases hj with ⟨c, e1, e2⟩ | ⟨c, e1, e2⟩
    · exact ⟨e2, Or.inr ⟨c, by rw [← e1]; rfl⟩⟩
    · exact ⟨e2, Or.inl ⟨c, by rw [← e1]; rfl⟩⟩
  obtain ⟨rfl, hj3⟩ := hj2
  clear hj
  have ht := tN_p (b := b) hp.1.2.1 hp.2.2.2
  have htp := (ht.2.2 hk3).1
  rcases c_first hf1 hp hk with ⟨hm0, hC⟩ | ⟨hm1, hr, hp2⟩
  · rcases hh with ⟨c, rfl, rfl⟩ | ⟨c, -⟩
    · exact Or.inl ⟨by omega, rfl, hC.2⟩
    · exact absurd hC.1 c
  refine Or.inr ⟨by omega, ?_⟩
  rcases hh with ⟨c, -⟩ | ⟨c, r19, G20, hn1, hh⟩
  · omega
  rcases c_num hn1 hp2 with ⟨f, hf, hC⟩ | ⟨e1, hr19, hp3, v3, -, -⟩
  · rcases hh with ⟨c, rfl, rfl⟩ | ⟨c, -⟩
    · exact Or.inl ⟨f, smi_l hf, rfl, hC.2⟩
    · exact absurd hC.1 c
  rcases hh with ⟨c, -⟩ | ⟨c, G27, -, hF27, w16, w8, r28, G29, hp28, rfl, rfl⟩
  · omega
  have t3 := tN_p (b := b) hp2.1.2.1 hp2.2.2.2
  refine c_semi hp28 (hp3.fr hF27 (by decide) (by decide) (by decide) (by decide)) e1 (by omega) (fun hFz => ⟨?_, ?_⟩)
  · rw [hFz.i 5 8 (by decide) (by decide), w8]
    rfl
  · rw [hFz.i 2 16 (by decide) (by decide), w16]
    exact v3
def SlI_2 (b : Nat → Int) (n p : Nat) (x s : Int32) (G : GS) : Prop := ∃ q, CPx b n G q ∧ p < q ∧ (G.1 5 6).toInt = 1 ∧ ((x.toInt = 0 ∧ s.toInt = 0 ∧ q = tNx b n p) ∨ (x.toInt = 1 ∧ pNum b n 0 9 (tNx b n p) = .inr ((G.1 26 0).toInt, q) ∧ s.toInt = (G.1 26 0).toInt) ∨ (x.toInt = 2 ∧ ∃ q1, pNum b n 0 9 (tNx b n p) = .inr ((G.1 26 0).toInt, q1) ∧ pNum b n 0 9 q1 = .inr ((G.1 26 1).toInt, q) ∧ s.toInt = (G.1 26 0).toInt + (G.1 26 1).toInt) ∨ (x.toInt = 3 ∧ pSlip b n p = .inr (((G.1 26 0).toInt, (G.1 26 1).toInt, (G.1 26 2).toInt), q)))
theorem c_slip_2 {b : Nat → Int} {n p : Nat} {r : Int32} {G G1 : GS} (h : P_rSlip_2 G r G1) (hp : CPx b n G p) (hk : tK b n p ≠ 202) (hk3 : tK b n p ≠ 203) : ((G.1 5 6).toInt ≠ 0 ∧ CF (fl b n 2 p) r G1) ∨ ((G.1 5 6).toInt = 0 ∧ LnC b n p (smi b n (pSlip b n p)) r G1 (fun x => (G1.1 5 6).toInt = 1 ∧ (G1.1 26 0).toInt = x.1 ∧ (G1.1 26 1).toInt = x.2.1 ∧ (G1.1 26 2).toInt = x.2.2)) := by
  obtain ⟨-, -, -, w3, G5, hj, -, -, -, r10, G11, hf1, hh⟩ := h
  have hj2 : G = G5 ∧ (((G.1 5 6).toInt ≠ 0 ∧ w3.toInt = 0) ∨ ((G.1 5 6).toInt = 0 ∧ w3.toInt = 1)) := by
    rcases hj with ⟨c, e1, e2⟩ | ⟨c, e1, e2⟩
    · exact ⟨e2, Or.inr ⟨c, by rw [← e1]; rfl⟩⟩
    · exact ⟨e2, Or.inl ⟨c, by rw [← e1]; rfl⟩⟩
  obtain ⟨rfl, hj3⟩ := hj2
  clear hj
  have ht := tN_p (b := b) hp.1.2.1 hp.2.2.2
  have htp := (ht.2.2 hk3).1
  rcases c_first hf1 hp hk with ⟨hm0, hC⟩ | ⟨hm1, hr, hp2⟩
  · rcases hh with ⟨c, rfl, rfl⟩ | ⟨c, -⟩
    · exact Or.inl ⟨by omega, rfl, hC.2⟩
    · exact absurd hC.1 c
  refine Or.inr ⟨by omega, ?_⟩
  rcases hh with ⟨c, -⟩ | ⟨c, G17, -, hF17, w6, x22, x23, G18, hl, -, -, -, -, -, hh⟩
  · omega
  have z0 : ((0 : Int32).toInt = 0) := rfl
  have hI0 : SlI_2 b n p 0 0 G17 := ⟨tNx b n p, hp2.fr hF17 (by decide) (by decide) (by decide) (by decide), htp, by rw [w6]; rfl, Or.inl ⟨rfl, rfl, rfl⟩⟩
  have num : ∀ {x s : Int32} {Ga Gb Gc : GS} {lo r7 : Int32} {x' s' : Int32}, SlI_2 b n p x s Ga → P_rNum lo 9 Ga r7 Gb → r7.toInt ≠ 0 → x.toInt < 3 → lo.toInt = (if x.toInt = 2 ∧ s.toInt = 0 then 1 else 0) → s'.toInt = s.toInt + (Gb.1 5 9).toInt → x'.toInt = x.toInt + 1 → Fr [26] [] Gb Gc → Gc.1 26 = upd (Gb.1 26) x.toNatClampNeg (Gb.1 5 9) → SlI_2 b n p x' s' Gc := by
    intro x s Ga Gb Gc lo r7 x' s' hi hn hr7 hx3 hlo hs' hx' hFc e6
    obtain ⟨q, i1, i2, i3, i4⟩ := hi
    have tq := tN_p (b := b) i1.1.2.1 i1.2.2.2
    rcases c_num hn i1 with ⟨f, -, hC⟩ | ⟨ev, -, hpn, v, -, -⟩
    · exact absurd hC.1 hr7
    have r6 : Gb.1 26 = Ga.1 26 := hn.2.1.row1 26 (by decide) (by decide)
    have h56 : (Gc.1 5 6).toInt = 1 := by
      rw [hFc.i 5 6 (by decide) (by decide), hn.2.1.i 5 6 (by decide) (by decide)]
      exact i3
    rw [r6] at e6
    refine ⟨tNx b n q, hpn.fr hFc (by decide) (by decide) (by decide) (by decide), by omega, h56, ?_⟩
    rcases i4 with ⟨a1, a2, a3⟩ | ⟨a1, a2, a3⟩ | ⟨a1, q1, a2, a3, a4⟩ | ⟨a1, -⟩
    · rw [if_neg (by omega)] at hlo
      rw [cn_eq (x := x) (e := 0) (by omega)] at e6
      have d0 : Gc.1 26 0 = Gb.1 5 9 := by rw [e6]; exact if_pos rfl
      refine Or.inr (Or.inl ⟨by omega, ?_, by rw [d0]; omega⟩)
      rw [d0, v, ← a3, ← hlo]
      exact ev
    · rw [if_neg (by omega)] at hlo
      rw [cn_eq (x := x) (e := 1) (by omega)] at e6
      have d0 : Gc.1 26 0 = Ga.1 26 0 := by rw [e6]; exact if_neg (by decide)
      have d1 : Gc.1 26 1 = Gb.1 5 9 := by rw [e6]; exact if_pos rfl
      refine Or.inr (Or.inr (Or.inl ⟨by omega, q, by rw [d0]; exact a2, ?_, by rw [d0, d1]; omega⟩))
      rw [d1, v, ← hlo]
      exact ev
    · rw [cn_eq (x := x) (e := 2) (by omega)] at e6
      have d0 : Gc.1 26 0 = Ga.1 26 0 := by rw [e6]; exact if_neg (by decide)
      have d1 : Gc.1 26 1 = Ga.1 26 1 := by rw [e6]; exact if_neg (by decide)
      have d2 : Gc.1 26 2 = Gb.1 5 9 := by rw [e6]; exact if_pos rfl
      refine Or.inr (Or.inr (Or.inr ⟨by omega, ?_⟩))
      have hlo2 : lo.toInt = (if (Ga.1 26 0).toInt + (Ga.1 26 1).toInt = 0 then 1 else 0) := by
        rw [hlo]
        by_cases hz : (Ga.1 26 0).toInt + (Ga.1 26 1).toInt = 0
        · rw [if_pos hz, if_pos (by omega)]
        · rw [if_neg hz, if_neg (by omega)]
      rw [hlo2] at ev
      unfold pSlip
      rw [d0, d1, d2, v]
      exact (bnd_r a2).trans ((bnd_r a3).trans (bnd_r ev))
    · omega
  have nof : ∀ {x s : Int32} {Ga Gb : GS} {lo r7 : Int32}, SlI_2 b n p x s Ga → P_rNum lo 9 Ga r7 Gb → r7.toInt = 0 → x.toInt < 3 → lo.toInt = (if x.toInt = 2 ∧ s.toInt = 0 then 1 else 0) → ∃ f, pSlip b n p = .inl f ∧ CF f r7 Gb := by
    intro x s Ga Gb lo r7 hi hn hr7 hx3 hlo
    obtain ⟨q, i1, i2, i3, i4⟩ := hi
    rcases c_num hn i1 with ⟨f, hf, hC⟩ | ⟨ev, hr, -⟩
    · refine ⟨f, ?_, hC⟩
      unfold pSlip
      rcases i4 with ⟨a1, a2, a3⟩ | ⟨a1, a2, a3⟩ | ⟨a1, q1, a2, a3, a4⟩ | ⟨a1, -⟩
      · rw [if_neg (by omega)] at hlo
        rw [hlo, a3] at hf
        exact bnd_l hf
      · rw [if_neg (by omega)] at hlo
        rw [hlo] at hf
        exact (bnd_r a2).trans (bnd_l hf)
      · have hlo2 : lo.toInt = (if (Ga.1 26 0).toInt + (Ga.1 26 1).toInt = 0 then 1 else 0) := by
          rw [hlo]
          by_cases hz : (Ga.1 26 0).toInt + (Ga.1 26 1).toInt = 0
          · rw [if_pos hz, if_pos (by omega)]
          · rw [if_neg hz, if_neg (by omega)]
        rw [hlo2] at hf
        exact (bnd_r a2).trans ((bnd_r a3).trans (bnd_l hf))
      · omega
    · omega
  have jn3 : ∀ {x s : Int32} {Ga Gb : GS}, Jn_k_rSlip_2_3 x s Ga Gb → Ga = Gb ∧ (0 : Int32).toInt = (if x.toInt = 2 ∧ s.toInt = 0 then 1 else 0) := by
    intro x s Ga Gb hj
    rcases hj with ⟨c1, c2, e⟩ | ⟨c1, e⟩
    · exact ⟨e, by rw [if_neg (fun q => c2 q.2)]; rfl⟩
    · exact ⟨e, by rw [if_neg (fun q => c1 q.1)]; rfl⟩
  have hI : SlI_2 b n p x22 x23 G18 := hl (fun q => SlI_2 b n p q.1 q.2.1 q.2.2) hI0 (by
    rintro ⟨x1, s1, G_1⟩ ⟨xn, sn, G_1n⟩ hi ⟨x1q, s1q, G_1q, xnq, snq, G_1nq, q1, q2, -, -, -, -, c1, hd⟩
    obtain ⟨rfl, q1x⟩ := Prod.mk.inj q1
    obtain ⟨rfl, rfl⟩ := Prod.mk.inj q1x
    obtain ⟨rfl, q2x⟩ := Prod.mk.inj q2
    obtain ⟨rfl, rfl⟩ := Prod.mk.inj q2x
    rcases hd with ⟨c2, c3, r61, G62, hn, hr, y69, t69, y71, t71, ex, es, hFc, e6⟩ | ⟨G41, hj, -, -, r47, G48, hn, hr, y55, t55, y56, t56, ex, es, hFc, e6⟩
    · exact num hi hn hr c1 (by rw [if_pos ⟨c2, c3⟩]; rfl) (by rw [← es]; exact t69) (by rw [← ex]; exact t71) hFc e6
    · obtain ⟨rfl, hz⟩ := jn3 hj
      exact num hi hn hr c1 hz (by rw [← es]; exact t55) (by rw [← ex]; exact t56) hFc e6)
  rcases hh with ⟨c3, r31, G32, hps, rfl, rfl⟩ | ⟨c3, hh⟩
  · obtain ⟨q, i1, i2, i3, i4⟩ := hI
    rcases i4 with ⟨a1, -⟩ | ⟨a1, -⟩ | ⟨a1, -⟩ | ⟨a1, a2⟩
    · omega
    · omega
    · omega
    · refine c_semi hps i1 a2 i2 (fun hFz => ?_)
      rw [hFz.i 5 6 (by decide) (by decide), hFz.row1 26 (by decide) (by decide)]
      exact ⟨i3, rfl, rfl, rfl⟩
  · rcases hh with ⟨c4, c5, r61, G62, hn, hr, rfl, rfl⟩ | ⟨G41, hj, -, -, r47, G48, hn, hr, rfl, rfl⟩
    · obtain ⟨f, g1, g2⟩ := nof hI hn hr c3 (by rw [if_pos ⟨c4, c5⟩]; rfl)
      exact Or.inl ⟨f, smi_l g1, rfl, g2.2⟩
    · obtain ⟨rfl, hz⟩ := jn3 hj
      obtain ⟨f, g1, g2⟩ := nof hI hn hr c3 hz
      exact Or.inl ⟨f, smi_l g1, rfl, g2.2⟩
theorem c_formC_2 {b : Nat → Int} {n c0 p : Nat} {r : Int32} {G G1 : GS} {w : Int} {C : List (Int × Int)} (h : P_fRead_2 G r G1) (hp : CPx b n G p) (hw : (G.1 2 12).toInt = w) (hw90 : w ≤ 90) (hC : CodeC_2 c0 C G) : (∃ f, CF f r G1 ∧ Ev b n (true, p, [], C, 0, w) (.inl f)) ∨ (∃ p' u' w' C', r.toInt = 1 ∧ CfC_2 b n c0 G1 p' C' u' w' ∧ p < p' ∧ Ev b n (true, p, [], C, 0, w) (.inr (p', C', u', w'))) := by
  obtain ⟨-, -, -, G2, -, hF2, -, e2, r3, G4, h1, rfl, rfl⟩ := h
  have hc : CfC_2 b n c0 G2 p C 0 w := ⟨hp.fr hF2 (by decide) (by decide) (by decide) (by decide), by rw [e2]; rfl, by rw [hF2.i 2 12 (by decide) (by decide)]; exact hw, hC.fr hF2 (by decide) (by decide) (by decide) (by decide), by decide, hw90⟩
  have hg := c_grp_2 (b := b) (n := n) (c0 := c0) 7
  rcases c_either_2 (d := 0) hg.1 hg.2 h1 rfl hc with ⟨f, hf1, hf2⟩ | ⟨p1, u1, w1, C1, hr1, hc1, hv1⟩
  · exact Or.inl ⟨f, hf1, Ev_topf hf2⟩
  · exact Or.inr ⟨p1, u1, w1, C1, hr1, hc1, hv1.1, Ev_top hv1⟩
theorem CodeC_2.cp {C : List (Int × Int)} {G : GS} (h : CodeC_2 0 C G) : (G.1 2 13).toInt = cap C.length := by
  have h1 := h.1
  unfold cap
  by_cases hq : C.length ≤ 580
  · rw [if_pos hq]
    omega
  · rw [if_neg hq]
    omega
theorem c_rule_2 {b : Nat → Int} {n p : Nat} {r : Int32} {G G1 : GS} {R : VR} {w : Int} (h : P_rRule_2 G r G1) (hp : CPx b n G p) (hk : tK b n p ≠ 202) (hk3 : tK b n p ≠ 203) (hR : RlsC_2 R w G) : (6 ≤ R.length ∧ CF (fl b n 2 p) r G1) ∨ (R.length < 6 ∧ LnC b n p (smi b n (pRule b n (nms R) w p)) r G1 (fun x => RlsC_2 (R ++ [(x.1, x.2.1)]) x.2.2 G1)) := by
  obtain ⟨hm, hN, h12, hw0, hw9, hC0, hE0⟩ := hR
  have hml : (G.1 2 11).toInt = ((nms R).length : Int) := by rw [nms_len]; exact hm
  obtain ⟨-, -, -, w3, G5, hj, -, -, -, -, r12, G13, hf1, hh⟩ := h
  have hj2 : G = G5 ∧ ((6 ≤ R.length ∧ w3.toInt = 0) ∨ (R.length < 6 ∧ w3.toInt = 1)) := by
    rcases hj with ⟨c, e1, e2⟩ | ⟨c, e1, e2⟩
    · exact ⟨e2, Or.inl ⟨by omega, by rw [← e1]; rfl⟩⟩
    · exact ⟨e2, Or.inr ⟨by omega, by rw [← e1]; rfl⟩⟩
  obtain ⟨rfl, hj3⟩ := hj2
  clear hj
  have ht := tN_p (b := b) hp.1.2.1 hp.2.2.2
  have htp := (ht.2.2 hk3).1
  rcases c_first hf1 hp hk with ⟨hm0, hC⟩ | ⟨hm1, hr, hp2⟩
  · rcases hh with ⟨c, rfl, rfl⟩ | ⟨c, -⟩
    · exact Or.inl ⟨by omega, rfl, hC.2⟩
    · exact absurd hC.1 c
  have hlt : R.length < 6 := by omega
  refine Or.inr ⟨hlt, ?_⟩
  rcases hh with ⟨c, -⟩ | ⟨c, r19, G20, hnm, hh⟩
  · omega
  rcases c_name_36 hnm hp2 (hN.fr hf1.2.1 (by decide) (by decide)) hml (by rw [nms_len]; exact hlt) with ⟨f, hf, hC⟩ | ⟨e1, hr19, hp3, hN20⟩
  · rcases hh with ⟨c, rfl, rfl⟩ | ⟨c, -⟩
    · exact Or.inl ⟨f, smi_l (by unfold pRule; exact bnd_l hf), rfl, hC.2⟩
    · exact absurd hC.1 c
  rcases hh with ⟨c, -⟩ | ⟨c, G27, -, hF27, w27, r28, G29, hfm, hh⟩
  · omega
  have t3 := tN_p (b := b) hp2.1.2.1 hp2.2.2.2
  replace hp3 := hp3.fr hF27 (by decide) (by decide) (by decide) (by decide)
  rw [cn_eq hm] at w27
  have h12' : (G27.1 2 12).toInt = w := by
    rw [hF27.i 2 12 (by decide) (by decide), hnm.2.1.i 2 12 (by decide) (by decide), hf1.2.1.i 2 12 (by decide) (by decide)]
    exact h12
  have hC27 : CodeC_2 0 (fcd R) G27 := ((hC0.fr hf1.2.1 (by decide) (by decide) (by decide) (by decide)).fr hnm.2.1 (by decide) (by decide) (by decide) (by decide)).fr hF27 (by decide) (by decide) (by decide) (by decide)
  rcases c_formC_2 hfm hp3 h12' hw9 hC27 with ⟨f, hC, hev⟩ | ⟨p', u', w', C', hr28, hc29, hpp, hev⟩
  · obtain ⟨o', ho1, ho2⟩ := Ev_pre hev
    cases o' with
    | inr o' => exact absurd ho2 (by simp [preO])
    | inl f' =>
      have hff : f = f' := by simpa [preO] using ho2
      subst hff
      rcases hh with ⟨c, rfl, rfl⟩ | ⟨c, -⟩
      · exact Or.inl ⟨f, smi_l (by unfold pRule; exact (bnd_r e1).trans (bnd_l (pForm_l ho1))), rfl, hC.2⟩
      · exact absurd hC.1 c
  obtain ⟨o', ho1, ho2⟩ := Ev_pre hev
  cases o' with
  | inl f' => exact absurd ho2 (by simp [preO])
  | inr o' =>
    obtain ⟨p2, D, u2, w2⟩ := o'
    have hq : p' = p2 ∧ C' = fcd R ++ D ∧ u' = u2 ∧ w' = w2 := by
      have := Sum.inr.inj ho2
      simpa using this
    obtain ⟨rfl, rfl, rfl, rfl⟩ := hq
    rcases hh with ⟨c, -⟩ | ⟨c, y35, t35, G38, -, hF38, w11, w38, r39, G40, hps, rfl, rfl⟩
    · omega
    obtain ⟨hp29, -, hw29, hC29, -, hw90⟩ := hc29
    have hrl : pRule b n (nms R) w p = .inr ((tL b n (tNx b n p), D, w'), p') := by
      unfold pRule
      exact (bnd_r e1).trans (bnd_r (pForm_r ho1))
    have hw0' : 0 ≤ w' := by
      rw [← hw29]
      exact (hfm.1.i 2 12 (lo := 0) (hi := 90) rfl rfl).1
    refine c_semi hps (hp29.fr hF38 (by decide) (by decide) (by decide) (by decide)) hrl (by omega) (fun hFz => ?_)
    have r8 : G40.1 28 = upd (upd (G20.1 28) R.length (G.1 2 13)) (R.length + 1) (G29.1 2 13) := by
      rw [hFz.row1 28 (by decide) (by decide), w38, cn_eq (x := y35) (e := R.length + 1) (by omega), hfm.2.1.row1 28 (by decide) (by decide), w27]
    have hcap : (G.1 2 13).toInt = cap (fcd R).length := hC0.cp
    have hcap2 : (G29.1 2 13).toInt = cap (fcd R ++ D).length := hC29.cp
    have h20 : G20.1 28 = G.1 28 := by rw [hnm.2.1.row1 28 (by decide) (by decide), hf1.2.1.row1 28 (by decide) (by decide)]
    rw [h20] at r8
    refine ⟨by rw [hFz.i 2 11 (by decide) (by decide), w11, List.length_append, List.length_singleton]; omega, ?_, by rw [hFz.i 2 12 (by decide) (by decide), hF38.i 2 12 (by decide) (by decide)]; exact hw29, hw0', hw90, ?_, ?_⟩
    · rw [nms_snoc]
      exact (((hN20.fr hF27 (by decide) (by decide)).fr hfm.2.1 (by decide) (by decide)).fr hF38 (by decide) (by decide)).fr hFz (by decide) (by decide)
    · rw [fcd_snoc]
      exact (hC29.fr hF38 (by decide) (by decide) (by decide) (by decide)).fr hFz (by decide) (by decide) (by decide) (by decide)
    · intro k hk2
      rw [List.length_append, List.length_singleton] at hk2
      rw [r8]
      by_cases hq : k = R.length
      · subst hq
        rw [show upd (upd (G.1 28) R.length (G.1 2 13)) (R.length + 1) (G29.1 2 13) R.length = upd (G.1 28) R.length (G.1 2 13) R.length from if_neg (by omega), show upd (G.1 28) R.length (G.1 2 13) R.length = G.1 2 13 from if_pos rfl, show upd (upd (G.1 28) R.length (G.1 2 13)) (R.length + 1) (G29.1 2 13) (R.length + 1) = G29.1 2 13 from if_pos rfl, take_snoc (Nat.le_refl _), List.take_length, take_all, fcd_snoc]
        exact ⟨hcap, hcap2⟩
      · have hE := hE0 k (by omega)
        rw [show upd (upd (G.1 28) R.length (G.1 2 13)) (R.length + 1) (G29.1 2 13) k = upd (G.1 28) R.length (G.1 2 13) k from if_neg (by omega), show upd (G.1 28) R.length (G.1 2 13) k = G.1 28 k from if_neg (by omega), show upd (upd (G.1 28) R.length (G.1 2 13)) (R.length + 1) (G29.1 2 13) (k + 1) = upd (G.1 28) R.length (G.1 2 13) (k + 1) from if_neg (by omega), take_snoc (by omega), take_snoc (by omega)]
        refine ⟨hE.1, ?_⟩
        by_cases hq2 : k + 1 = R.length
        · rw [show upd (G.1 28) R.length (G.1 2 13) (k + 1) = G.1 2 13 from if_pos hq2, hq2, List.take_length]
          exact hcap
        · rw [show upd (G.1 28) R.length (G.1 2 13) (k + 1) = G.1 28 (k + 1) from if_neg hq2]
          exact hE.2
