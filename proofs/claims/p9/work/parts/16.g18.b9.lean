/-! the whole text by the program -/
theorem pLn_s {b : Nat → Int} {n : Nat} {V : PV} {p : Nat} : pLn b n V p = smi b n (pLine b n V p) := rfl
theorem topS_l {b : Nat → Int} {n : Nat} {V : PV} {p : Nat} {f : Int × Int} (hk : tK b n p ≠ 203) (h : pLn b n V p = .inl f) : topS b n (V, p) = .inr (.inl f) := by
  unfold topS
  rw [if_neg hk]
  have h' : pLn b n (V, p).1 (V, p).2 = .inl f := h
  rw [h']
theorem topS_r {b : Nat → Int} {n : Nat} {V V' : PV} {p p' : Nat} (hk : tK b n p ≠ 203) (h : pLn b n V p = .inr (V', p')) : topS b n (V, p) = .inl (V', p') := by
  unfold topS
  rw [if_neg hk]
  have h' : pLn b n (V, p).1 (V, p).2 = .inr (V', p') := h
  rw [h']
theorem topS_e {b : Nat → Int} {n : Nat} {V : PV} {p : Nat} (hk : tK b n p = 203) : topS b n (V, p) = .inr (.inr (V, p)) := by
  unfold topS
  rw [if_pos hk]
theorem pLn_1 {b : Nat → Int} {n : Nat} {V : PV} {p : Nat} (hk : tK b n p = 128) (hl : V.1.length < 3) : pLn b n V p = bnd (smi b n (pStreet b n (nms V.1) p)) fun x q => .inr ((V.1 ++ [x], V.2), q) := by
  rw [pLn_s, ← smi_b]
  unfold pLine
  rw [if_pos ⟨hk, hl⟩]
theorem pLn_2 {b : Nat → Int} {n : Nat} {V : PV} {p : Nat} (hk : tK b n p = 129) (hl : V.2.1.length < 4) : pLn b n V p = bnd (smi b n (pWalker b n (nms V.2.1) p)) fun x q => .inr ((V.1, V.2.1 ++ [x], V.2.2), q) := by
  rw [pLn_s, ← smi_b]
  unfold pLine
  rw [if_neg (fun q => by have := q.1; omega), if_pos ⟨hk, hl⟩]
theorem pLn_3 {b : Nat → Int} {n : Nat} {V : PV} {p : Nat} (hk : tK b n p = 134) (hl : V.2.2.1.length < 6) : pLn b n V p = bnd (smi b n (pRule b n (nms V.2.2.1) V.2.2.2.1 p)) fun x q => .inr ((V.1, V.2.1, V.2.2.1 ++ [(x.1, x.2.1)], x.2.2, V.2.2.2.2), q) := by
  rw [pLn_s, ← smi_b]
  unfold pLine
  rw [if_neg (fun q => by have := q.1; omega), if_neg (fun q => by have := q.1; omega), if_pos ⟨hk, hl⟩]
theorem pLn_4 {b : Nat → Int} {n : Nat} {V : PV} {p : Nat} (hk : tK b n p = 135) (hl : V.2.2.2.2.1.isNone = true) : pLn b n V p = bnd (smi b n (pSlip b n p)) fun x q => .inr ((V.1, V.2.1, V.2.2.1, V.2.2.2.1, some x, V.2.2.2.2.2), q) := by
  rw [pLn_s, ← smi_b]
  unfold pLine
  rw [if_neg (fun q => by have := q.1; omega), if_neg (fun q => by have := q.1; omega), if_neg (fun q => by have := q.1; omega), if_pos ⟨hk, hl⟩]
theorem pLn_5 {b : Nat → Int} {n : Nat} {V : PV} {p : Nat} (hk : tK b n p = 136) (hl : V.2.2.2.2.2.1.isNone = true) : pLn b n V p = bnd (smi b n (pHand b n p)) fun x q => .inr ((V.1, V.2.1, V.2.2.1, V.2.2.2.1, V.2.2.2.2.1, some x, V.2.2.2.2.2.2), q) := by
  rw [pLn_s, ← smi_b]
  unfold pLine
  rw [if_neg (fun q => by have := q.1; omega), if_neg (fun q => by have := q.1; omega), if_neg (fun q => by have := q.1; omega), if_neg (fun q => by have := q.1; omega), if_pos ⟨hk, hl⟩]
theorem pLn_6 {b : Nat → Int} {n : Nat} {V : PV} {p : Nat} (hk : tK b n p = 138) (hl : V.2.2.2.2.2.2.isNone = true) : pLn b n V p = bnd (smi b n (pDraw b n p)) fun x q => .inr ((V.1, V.2.1, V.2.2.1, V.2.2.2.1, V.2.2.2.2.1, V.2.2.2.2.2.1, some x), q) := by
  rw [pLn_s, ← smi_b]
  unfold pLine
  rw [if_neg (fun q => by have := q.1; omega), if_neg (fun q => by have := q.1; omega), if_neg (fun q => by have := q.1; omega), if_neg (fun q => by have := q.1; omega), if_neg (fun q => by have := q.1; omega), if_pos ⟨hk, hl⟩]
theorem pLn_0 {b : Nat → Int} {n : Nat} {V : PV} {p : Nat} (h1 : ¬ (tK b n p = 128 ∧ V.1.length < 3)) (h2 : ¬ (tK b n p = 129 ∧ V.2.1.length < 4)) (h3 : ¬ (tK b n p = 134 ∧ V.2.2.1.length < 6)) (h4 : ¬ (tK b n p = 135 ∧ V.2.2.2.2.1.isNone = true)) (h5 : ¬ (tK b n p = 136 ∧ V.2.2.2.2.2.1.isNone = true)) (h6 : ¬ (tK b n p = 138 ∧ V.2.2.2.2.2.2.isNone = true)) : pLn b n V p = .inl (fl b n 2 p) := by
  rw [pLn_s]
  refine smi_l ?_
  unfold pLine
  rw [if_neg h1, if_neg h2, if_neg h3, if_neg h4, if_neg h5, if_neg h6]
def RdC_1 (b : Nat → Int) (n : Nat) (V : PV) (p : Nat) (r : Int32) (G1 : GS) : Prop := (∃ f, pLn b n V p = .inl f ∧ CF f r G1) ∨ (∃ V' p', pLn b n V p = .inr (V', p') ∧ r.toInt = 1 ∧ CPx b n G1 p' ∧ p < p' ∧ CV_1 V' G1)
theorem c_ln1_1 {b : Nat → Int} {n p : Nat} {r : Int32} {G G1 : GS} {V : PV} (h : P_rStreet_1 G r G1) (hp : CPx b n G p) (hk : tK b n p = 128) (hV : CV_1 V G) : RdC_1 b n V p r G1 := by
  rcases c_street_1 h hp (by omega) (by omega) hV.1.2.1 (by rw [nms_len]; exact hV.1.1) with ⟨hl, hC⟩ | ⟨hl, hR⟩
  · rw [nms_len] at hl
    exact Or.inl ⟨_, pLn_0 (fun q => by have := q.2; omega) (fun q => by have := q.1; omega) (fun q => by have := q.1; omega) (fun q => by have := q.1; omega) (fun q => by have := q.1; omega) (fun q => by have := q.1; omega), hC⟩
  · rw [nms_len] at hl
    have e0 := pLn_1 hk hl
    rcases hR with ⟨f, e, hC⟩ | ⟨x, p', e, hr, hp', hlt, k1, k2, k3, k4, k5⟩
    · exact Or.inl ⟨f, e0.trans (bnd_l e), hC⟩
    · rw [nms_len] at k2 k3 k4
      refine Or.inr ⟨_, p', e0.trans (bnd_r e), hr, hp', hlt, ⟨?_, ?_, fun s hs => ?_⟩, hV.2.1.fr h.2.1 (by decide) (by decide) (by decide), hV.2.2.1.fr h.2.1 (by decide) (by decide) (by decide), hV.2.2.2.1.fr h.2.1 (by decide) (by decide) (by decide) (by decide), hV.2.2.2.2.1.fr h.2.1 (by decide) (by decide), hV.2.2.2.2.2.fr h.2.1 (by decide) (by decide)⟩
      · rw [k2]
        show (V.1.length : Int) + 1 = ((V.1 ++ [x]).length : Int)
        rw [List.length_append, List.length_singleton]
        omega
      · show NmC 34 (nms (V.1 ++ [x])) G1
        rw [nms_snoc]
        exact k1
      · have hs' : s < V.1.length + 1 := by
          have : s < (V.1 ++ [x]).length := hs
          rw [List.length_append, List.length_singleton] at this
          exact this
        show StC_1 s ((V.1 ++ [x]).getD s ([], [])).2 G1 ∧ (((V.1 ++ [x]).getD s ([], [])).2.length : Int) ≤ 400
        by_cases hq : s < V.1.length
        · rw [getD_snl hq]
          obtain ⟨a1, a2⟩ := hV.1.2.2 s hq
          refine ⟨⟨?_, fun i hi => ?_⟩, a2⟩
          · rw [k4.1 s (by omega)]
            exact a1.1
          · rw [k4.2 (400 * s + i) (by omega)]
            exact a1.2 i hi
        · have hs2 : s = V.1.length := by omega
          subst hs2
          rw [getD_snr]
          exact ⟨k3, k5⟩
theorem c_ln2_1 {b : Nat → Int} {n p : Nat} {r : Int32} {G G1 : GS} {V : PV} (h : P_rWalker_1 G r G1) (hp : CPx b n G p) (hk : tK b n p = 129) (hV : CV_1 V G) : RdC_1 b n V p r G1 := by
  rcases c_walker_1 h hp (by omega) (by omega) hV.2.1.2.1 (by rw [nms_len]; exact hV.2.1.1) with ⟨hl, hC⟩ | ⟨hl, hR⟩
  · rw [nms_len] at hl
    exact Or.inl ⟨_, pLn_0 (fun q => by have := q.1; omega) (fun q => by have := q.2; omega) (fun q => by have := q.1; omega) (fun q => by have := q.1; omega) (fun q => by have := q.1; omega) (fun q => by have := q.1; omega), hC⟩
  · rw [nms_len] at hl
    have e0 := pLn_2 hk hl
    rcases hR with ⟨f, e, hC⟩ | ⟨x, p', e, hr, hp', hlt, k1, k2, k3, k4⟩
    · exact Or.inl ⟨f, e0.trans (bnd_l e), hC⟩
    · rw [nms_len] at k2 k3 k4
      refine Or.inr ⟨_, p', e0.trans (bnd_r e), hr, hp', hlt, hV.1.fr h.2.1 (by decide) (by decide) (by decide), ⟨?_, ?_, fun s hs => ?_⟩, hV.2.2.1.fr h.2.1 (by decide) (by decide) (by decide), hV.2.2.2.1.fr h.2.1 (by decide) (by decide) (by decide) (by decide), hV.2.2.2.2.1.fr h.2.1 (by decide) (by decide), hV.2.2.2.2.2.fr h.2.1 (by decide) (by decide)⟩
      · rw [k2]
        show (V.2.1.length : Int) + 1 = ((V.2.1 ++ [x]).length : Int)
        rw [List.length_append, List.length_singleton]
        omega
      · show NmC 35 (nms (V.2.1 ++ [x])) G1
        rw [nms_snoc]
        exact k1
      · have hs' : s < V.2.1.length + 1 := by
          have : s < (V.2.1 ++ [x]).length := hs
          rw [List.length_append, List.length_singleton] at this
          exact this
        show WkC_1 s ((V.2.1 ++ [x]).getD s ([], 0, 0, 0, 0)).2 G1
        by_cases hq : s < V.2.1.length
        · rw [getD_snl hq]
          have a1 := hV.2.1.2.2 s hq
          obtain ⟨b1, b2, b3, b4⟩ := k4 s (by omega)
          unfold WkC_1 at a1 ⊢
          rw [b1, b2, b3, b4]
          exact a1
        · have hs2 : s = V.2.1.length := by omega
          subst hs2
          rw [getD_snr]
          exact k3
theorem c_ln3_1 {b : Nat → Int} {n p : Nat} {r : Int32} {G G1 : GS} {V : PV} (h : P_rRule_1 G r G1) (hp : CPx b n G p) (hk : tK b n p = 134) (hV : CV_1 V G) : RdC_1 b n V p r G1 := by
  rcases c_rule_1 h hp (by omega) (by omega) hV.2.2.1 with ⟨hl, hC⟩ | ⟨hl, hR⟩
  · exact Or.inl ⟨_, pLn_0 (fun q => by have := q.1; omega) (fun q => by have := q.1; omega) (fun q => by have := q.2; omega) (fun q => by have := q.1; omega) (fun q => by have := q.1; omega) (fun q => by have := q.1; omega), hC⟩
  · have e0 := pLn_3 hk hl
    rcases hR with ⟨f, e, hC⟩ | ⟨x, p', e, hr, hp', hlt, k1⟩
    · exact Or.inl ⟨f, e0.trans (bnd_l e), hC⟩
    · exact Or.inr ⟨_, p', e0.trans (bnd_r e), hr, hp', hlt, hV.1.fr h.2.1 (by decide) (by decide) (by decide), hV.2.1.fr h.2.1 (by decide) (by decide) (by decide), k1, hV.2.2.2.1.fr h.2.1 (by decide) (by decide) (by decide) (by decide), hV.2.2.2.2.1.fr h.2.1 (by decide) (by decide), hV.2.2.2.2.2.fr h.2.1 (by decide) (by decide)⟩
theorem c_ln4_1 {b : Nat → Int} {n p : Nat} {r : Int32} {G G1 : GS} {V : PV} (h : P_rSlip_1 G r G1) (hp : CPx b n G p) (hk : tK b n p = 135) (hV : CV_1 V G) : RdC_1 b n V p r G1 := by
  rcases c_slip_1 h hp (by omega) (by omega) with ⟨hl, hC⟩ | ⟨hl, hR⟩
  · exact Or.inl ⟨_, pLn_0 (fun q => by have := q.1; omega) (fun q => by have := q.1; omega) (fun q => by have := q.1; omega) (fun q => hl (hV.2.2.2.1.1.mp q.2)) (fun q => by have := q.1; omega) (fun q => by have := q.1; omega), hC⟩
  · have e0 := pLn_4 hk (hV.2.2.2.1.1.mpr hl)
    rcases hR with ⟨f, e, hC⟩ | ⟨x, p', e, hr, hp', hlt, k1, k2⟩
    · exact Or.inl ⟨f, e0.trans (bnd_l e), hC⟩
    · exact Or.inr ⟨_, p', e0.trans (bnd_r e), hr, hp', hlt, hV.1.fr h.2.1 (by decide) (by decide) (by decide), hV.2.1.fr h.2.1 (by decide) (by decide) (by decide), hV.2.2.1.fr h.2.1 (by decide) (by decide) (by decide), ⟨⟨fun q => absurd q (by simp), fun q => absurd (k1.symm.trans q) (by decide)⟩, k2⟩, hV.2.2.2.2.1.fr h.2.1 (by decide) (by decide), hV.2.2.2.2.2.fr h.2.1 (by decide) (by decide)⟩
theorem c_ln5_1 {b : Nat → Int} {n p : Nat} {r : Int32} {G G1 : GS} {V : PV} (h : P_rHand_1 G r G1) (hp : CPx b n G p) (hk : tK b n p = 136) (hV : CV_1 V G) : RdC_1 b n V p r G1 := by
  rcases c_hand_1 h hp (by omega) (by omega) with ⟨hl, hC⟩ | ⟨hl, hR⟩
  · exact Or.inl ⟨_, pLn_0 (fun q => by have := q.1; omega) (fun q => by have := q.1; omega) (fun q => by have := q.1; omega) (fun q => by have := q.1; omega) (fun q => hl (hV.2.2.2.2.1.1.mp q.2)) (fun q => by have := q.1; omega), hC⟩
  · have e0 := pLn_5 hk (hV.2.2.2.2.1.1.mpr hl)
    rcases hR with ⟨f, e, hC⟩ | ⟨x, p', e, hr, hp', hlt, k1, k2⟩
    · exact Or.inl ⟨f, e0.trans (bnd_l e), hC⟩
    · exact Or.inr ⟨_, p', e0.trans (bnd_r e), hr, hp', hlt, hV.1.fr h.2.1 (by decide) (by decide) (by decide), hV.2.1.fr h.2.1 (by decide) (by decide) (by decide), hV.2.2.1.fr h.2.1 (by decide) (by decide) (by decide), hV.2.2.2.1.fr h.2.1 (by decide) (by decide) (by decide) (by decide), ⟨⟨fun q => absurd q (by simp), fun q => absurd (k1.symm.trans q) (by decide)⟩, k2⟩, hV.2.2.2.2.2.fr h.2.1 (by decide) (by decide)⟩
theorem c_ln6_1 {b : Nat → Int} {n p : Nat} {r : Int32} {G G1 : GS} {V : PV} (h : P_rDraw_1 G r G1) (hp : CPx b n G p) (hk : tK b n p = 138) (hV : CV_1 V G) : RdC_1 b n V p r G1 := by
  rcases c_draw_1 h hp (by omega) (by omega) with ⟨hl, hC⟩ | ⟨hl, hR⟩
  · exact Or.inl ⟨_, pLn_0 (fun q => by have := q.1; omega) (fun q => by have := q.1; omega) (fun q => by have := q.1; omega) (fun q => by have := q.1; omega) (fun q => by have := q.1; omega) (fun q => hl (hV.2.2.2.2.2.1.mp q.2)), hC⟩
  · have e0 := pLn_6 hk (hV.2.2.2.2.2.1.mpr hl)
    rcases hR with ⟨f, e, hC⟩ | ⟨x, p', e, hr, hp', hlt, k1, k2⟩
    · exact Or.inl ⟨f, e0.trans (bnd_l e), hC⟩
    · exact Or.inr ⟨_, p', e0.trans (bnd_r e), hr, hp', hlt, hV.1.fr h.2.1 (by decide) (by decide) (by decide), hV.2.1.fr h.2.1 (by decide) (by decide) (by decide), hV.2.2.1.fr h.2.1 (by decide) (by decide) (by decide), hV.2.2.2.1.fr h.2.1 (by decide) (by decide) (by decide) (by decide), hV.2.2.2.2.1.fr h.2.1 (by decide) (by decide), ⟨⟨fun q => absurd q (by simp), fun q => absurd (k1.symm.trans q) (by decide)⟩, k2⟩⟩
theorem c_ln0_1 {b : Nat → Int} {n p : Nat} {r : Int32} {G G1 : GS} {V : PV} (h : P_tRefuse 2 G r G1) (hp : CPx b n G p) (hk : tK b n p ≠ 128 ∧ tK b n p ≠ 129 ∧ tK b n p ≠ 134 ∧ tK b n p ≠ 135 ∧ tK b n p ≠ 136 ∧ tK b n p ≠ 138) : RdC_1 b n V p r G1 := Or.inl ⟨_, pLn_0 (fun q => hk.1 q.1) (fun q => hk.2.1 q.1) (fun q => hk.2.2.1 q.1) (fun q => hk.2.2.2.1 q.1) (fun q => hk.2.2.2.2.1 q.1) (fun q => hk.2.2.2.2.2 q.1), (c_ref h hp).1⟩
def RI_1 (b : Nat → Int) (n : Nat) (x g : Int32) (G : GS) : Prop := (∃ f, g.toInt = 0 ∧ parse b n = .inl f ∧ CF f g G) ∨ (∃ V p, g.toInt = 1 ∧ CPx b n G p ∧ CV_1 V G ∧ x.toInt ≤ (p : Int) ∧ ∀ o, Et (topS b n) (V0, 0) o ↔ Et (topS b n) (V, p) o)
theorem c_rstep_1 {b : Nat → Int} {n : Nat} {q q1 : Int32 × Int32 × GS} (hs : St_k_rRead_1_1 q q1) (hi : RI_1 b n q.1 q.2.1 q.2.2) : RI_1 b n q1.1 q1.2.1 q1.2.2 := by
  obtain ⟨x, g, G, xn, gn, Gn, rfl, rfl, -, -, -, c1, c2, c3, hh⟩ := hs
  rcases hi with ⟨f, hg, -⟩ | ⟨V, p, hg, hp, hV, hx, hE⟩
  · exact absurd hg c1
  have hk := hp.2.1.1
  have k203 : tK b n p ≠ 203 := by rw [← hk]; exact c3
  have fin : RdC_1 b n V p gn Gn → xn.toInt = x.toInt + 1 → RI_1 b n xn gn Gn := by
    intro hR hxn
    rcases hR with ⟨f, e, hC⟩ | ⟨V', p', e, hr, hp', hlt, hV'⟩
    · exact Or.inl ⟨f, hC.1, run_eq ((hE _).mpr ((Et_r (topS_l k203 e)).mpr rfl)), hC⟩
    · exact Or.inr ⟨V', p', hr, hp', hV', by have hx' : x.toInt ≤ (p : Int) := hx; omega, fun o => (hE o).trans (Et_i (topS_r k203 e))⟩
  simp only at hp hk
  rw [hk] at hh
  clear hE
  rcases hh with ⟨d, r7, G7, d1, y7, t7, rfl, rfl, rfl⟩ | ⟨n128, hh⟩
  · exact fin (c_ln1_1 d1 hp d hV) t7
  rcases hh with ⟨d, r7, G7, d1, y7, t7, rfl, rfl, rfl⟩ | ⟨n129, hh⟩
  · exact fin (c_ln2_1 d1 hp d hV) t7
  rcases hh with ⟨d, r7, G7, d1, y7, t7, rfl, rfl, rfl⟩ | ⟨n130, hh⟩
  · exact fin (c_ln0_1 d1 hp (by omega)) t7
  rcases hh with ⟨d, r7, G7, d1, y7, t7, rfl, rfl, rfl⟩ | ⟨n131, hh⟩
  · exact fin (c_ln0_1 d1 hp (by omega)) t7
  rcases hh with ⟨d, r7, G7, d1, y7, t7, rfl, rfl, rfl⟩ | ⟨n132, hh⟩
  · exact fin (c_ln0_1 d1 hp (by omega)) t7
  rcases hh with ⟨d, r7, G7, d1, y7, t7, rfl, rfl, rfl⟩ | ⟨n133, hh⟩
  · exact fin (c_ln0_1 d1 hp (by omega)) t7
  rcases hh with ⟨d, r7, G7, d1, y7, t7, rfl, rfl, rfl⟩ | ⟨n134, hh⟩
  · exact fin (c_ln3_1 d1 hp d hV) t7
  rcases hh with ⟨d, r7, G7, d1, y7, t7, rfl, rfl, rfl⟩ | ⟨n135, hh⟩
  · exact fin (c_ln4_1 d1 hp d hV) t7
  rcases hh with ⟨d, r7, G7, d1, y7, t7, rfl, rfl, rfl⟩ | ⟨n136, hh⟩
  · exact fin (c_ln5_1 d1 hp d hV) t7
  rcases hh with ⟨d, r7, G7, d1, y7, t7, rfl, rfl, rfl⟩ | ⟨n137, hh⟩
  · exact fin (c_ln0_1 d1 hp (by omega)) t7
  rcases hh with ⟨d, r7, G7, d1, y7, t7, rfl, rfl, rfl⟩ | ⟨n138, hh⟩
  · exact fin (c_ln6_1 d1 hp d hV) t7
  obtain ⟨r7, G7, d1, y7, t7, rfl, rfl, rfl⟩ := hh
  exact fin (c_ln0_1 d1 hp ⟨n128, n129, n134, n135, n136, n138⟩) t7
theorem c_read_1 {b : Nat → Int} {n : Nat} {p0 r : Int32} {G G1 : GS} (h : P_rRead_1 p0 G r G1) (hn0 : p0.toInt = (n : Int)) (hn : n ≤ 1600) (hT : ∀ j, j < n → (b j < 128 → (G.1 32 j).toInt = b j) ∧ (128 ≤ b j → (G.1 32 j).toInt = b j - 256) ∧ 0 ≤ b j ∧ b j ≤ 255) : (∃ f, parse b n = .inl f ∧ CF f r G1) ∨ (∃ V p, parse b n = .inr (V, p) ∧ r.toInt = 1 ∧ CV_1 V G1 ∧ (G1.1 3 7).toInt = 0 ∧ (G1.1 3 8).toInt = -1) := by
  obtain ⟨-, -, -, Ga, -, hFa, -, Gb, hem, Gc, -, hFc, w6, w7, w8', Gd, hop, x, g, G15, hl, -, -, -, -, hh⟩ := h
  obtain ⟨-, hFe, -, e9, e10, e11, e12, e13, e14, e15, e16, eS⟩ := hem
  obtain ⟨-, hFo, y1, t1, G5, -, hF5, f1, f2, f7, f8, r6, G7, hadv, rfl⟩ := hop
  have hy1 : y1.toInt = (n : Int) := by omega
  have hX5 : XC b n G5 := by
    refine ⟨by rw [f1]; exact hy1, hn, ?_⟩
    rw [hF5.row1 32 (by decide) (by decide), hFc.row1 32 (by decide) (by decide), hFe.row1 32 (by decide) (by decide), hFa.row1 32 (by decide) (by decide)]
    exact hT
  obtain ⟨-, hX7, hT7⟩ := c_adv (q := 0) hX5 (by rw [f2]; rfl) (Nat.zero_le n) hadv
  have hp7 : CPx b n G7 0 := ⟨hX7, hT7, ⟨by rw [hadv.2.1.i 3 7 (by decide) (by decide), f7]; rfl, by rw [hadv.2.1.i 3 8 (by decide) (by decide), f8]; rfl⟩, Nat.zero_le n⟩
  have r7 : ∀ j, j ≠ 1 → G7.1 1 j = G7.1 1 j := fun _ _ => rfl
  have kc : ∀ j, G7.1 1 j = Gb.1 1 j := fun j => by rw [hadv.2.1.row1 1 (by decide) (by decide), hF5.row1 1 (by decide) (by decide), hFc.row1 1 (by decide) (by decide)]
  have ks : G7.1 16 = Gb.1 16 := by rw [hadv.2.1.row1 16 (by decide) (by decide), hF5.row1 16 (by decide) (by decide), hFc.row1 16 (by decide) (by decide)]
  have hV0 : CV_1 V0 G7 := by
    refine ⟨⟨by rw [kc, e9]; rfl, fun k hk => absurd hk (Nat.not_lt_zero k), fun s hs => absurd hs (Nat.not_lt_zero s)⟩, ⟨by rw [kc, e10]; rfl, fun k hk => absurd hk (Nat.not_lt_zero k), fun s hs => absurd hs (Nat.not_lt_zero s)⟩, ⟨by rw [kc, e11]; rfl, fun k hk => absurd hk (Nat.not_lt_zero k), by rw [kc, e12]; rfl, by decide, by decide, ⟨Or.inl ⟨by decide, by rw [kc, e13]; rfl⟩, fun i hi => absurd hi (Nat.not_lt_zero i)⟩, fun k hk => absurd hk (Nat.not_lt_zero k)⟩, ⟨⟨fun _ => ?_, fun _ => rfl⟩, ?_, ?_, ?_⟩, ⟨⟨fun _ => ?_, fun _ => rfl⟩, by rw [kc, e14]; rfl, by rw [kc, e15]; rfl⟩, ⟨⟨fun _ => ?_, fun _ => rfl⟩, by rw [kc, e16]; rfl⟩⟩
    · rw [hadv.2.1.i 5 6 (by decide) (by decide), hF5.i 5 6 (by decide) (by decide), w6]
      rfl
    · rw [ks, eS]
      rfl
    · rw [ks, eS]
      rfl
    · rw [ks, eS]
      rfl
    · rw [hadv.2.1.i 5 7 (by decide) (by decide), hF5.i 5 7 (by decide) (by decide), w7]
      rfl
    · rw [hadv.2.1.i 5 8 (by decide) (by decide), hF5.i 5 8 (by decide) (by decide), w8']
      rfl
  have hI : RI_1 b n x g G15 := hl (fun q => RI_1 b n q.1 q.2.1 q.2.2) (Or.inr ⟨V0, 0, rfl, hp7, hV0, Int.le_refl 0, fun o => Iff.rfl⟩) (fun a a' ha hs => c_rstep_1 hs ha)
  clear hl
  rcases hI with ⟨f, hg, e, hC⟩ | ⟨V, p, hg, hp, hV, hx, hE⟩
  · rcases hh with ⟨-, rfl, rfl⟩ | ⟨c, -⟩
    · exact Or.inl ⟨f, e, hC⟩
    · exact absurd hg c
  · have hk := hp.2.1.1
    have k203 : tK b n p = 203 ∧ g = r ∧ G15 = G1 := by
      rcases hh with ⟨c, -⟩ | ⟨c, ⟨d, e1, e2⟩ | ⟨d, d2, e1, e2⟩⟩
      · omega
      · refine ⟨?_, e1, e2⟩
        refine Classical.byContradiction (fun q => ?_)
        have := (tN_p (b := b) hp.1.2.1 hp.2.2.2).2.2 q
        have := (tS_p (b := b) hp.1.2.1 hp.2.2.2)
        have := hp.2.2.2
        omega
      · exact ⟨by rw [← hk]; exact d2, e1, e2⟩
    obtain ⟨k203, rfl, rfl⟩ := k203
    exact Or.inr ⟨V, p, run_eq ((hE _).mpr ((Et_r (topS_e k203)).mpr rfl)), hg, hV, hp.2.2.1.1, hp.2.2.1.2⟩
def RdC_2 (b : Nat → Int) (n : Nat) (V : PV) (p : Nat) (r : Int32) (G1 : GS) : Prop := (∃ f, pLn b n V p = .inl f ∧ CF f r G1) ∨ (∃ V' p', pLn b n V p = .inr (V', p') ∧ r.toInt = 1 ∧ CPx b n G1 p' ∧ p < p' ∧ CV_2 V' G1)
theorem c_ln1_2 {b : Nat → Int} {n p : Nat} {r : Int32} {G G1 : GS} {V : PV} (h : P_rStreet_2 G r G1) (hp : CPx b n G p) (hk : tK b n p = 128) (hV : CV_2 V G) : RdC_2 b n V p r G1 := by
  rcases c_street_2 h hp (by omega) (by omega) hV.1.2.1 (by rw [nms_len]; exact hV.1.1) with ⟨hl, hC⟩ | ⟨hl, hR⟩
  · rw [nms_len] at hl
    exact Or.inl ⟨_, pLn_0 (fun q => by have := q.2; omega) (fun q => by have := q.1; omega) (fun q => by have := q.1; omega) (fun q => by have := q.1; omega) (fun q => by have := q.1; omega) (fun q => by have := q.1; omega), hC⟩
  · rw [nms_len] at hl
    have e0 := pLn_1 hk hl
    rcases hR with ⟨f, e, hC⟩ | ⟨x, p', e, hr, hp', hlt, k1, k2, k3, k4, k5⟩
    · exact Or.inl ⟨f, e0.trans (bnd_l e), hC⟩
    · rw [nms_len] at k2 k3 k4
      refine Or.inr ⟨_, p', e0.trans (bnd_r e), hr, hp', hlt, ⟨?_, ?_, fun s hs => ?_⟩, hV.2.1.fr h.2.1 (by decide) (by decide) (by decide), hV.2.2.1.fr h.2.1 (by decide) (by decide) (by decide), hV.2.2.2.1.fr h.2.1 (by decide) (by decide) (by decide) (by decide), hV.2.2.2.2.1.fr h.2.1 (by decide) (by decide), hV.2.2.2.2.2.fr h.2.1 (by decide) (by decide)⟩
      · rw [k2]
        show (V.1.length : Int) + 1 = ((V.1 ++ [x]).length : Int)
        rw [List.length_append, List.length_singleton]
        omega
      · show NmC 34 (nms (V.1 ++ [x])) G1
        rw [nms_snoc]
        exact k1
      · have hs' : s < V.1.length + 1 := by
          have : s < (V.1 ++ [x]).length := hs
          rw [List.length_append, List.length_singleton] at this
          exact this
        show StC_2 s ((V.1 ++ [x]).getD s ([], [])).2 G1 ∧ (((V.1 ++ [x]).getD s ([], [])).2.length : Int) ≤ 400
        by_cases hq : s < V.1.length
        · rw [getD_snl hq]
          obtain ⟨a1, a2⟩ := hV.1.2.2 s hq
          refine ⟨⟨?_, fun i hi => ?_⟩, a2⟩
          · rw [k4.1 s (by omega)]
            exact a1.1
          · rw [k4.2 (400 * s + i) (by omega)]
            exact a1.2 i hi
        · have hs2 : s = V.1.length := by omega
          subst hs2
          rw [getD_snr]
          exact ⟨k3, k5⟩
theorem c_ln2_2 {b : Nat → Int} {n p : Nat} {r : Int32} {G G1 : GS} {V : PV} (h : P_rWalker_2 G r G1) (hp : CPx b n G p) (hk : tK b n p = 129) (hV : CV_2 V G) : RdC_2 b n V p r G1 := by
  rcases c_walker_2 h hp (by omega) (by omega) hV.2.1.2.1 (by rw [nms_len]; exact hV.2.1.1) with ⟨hl, hC⟩ | ⟨hl, hR⟩
  · rw [nms_len] at hl
    exact Or.inl ⟨_, pLn_0 (fun q => by have := q.1; omega) (fun q => by have := q.2; omega) (fun q => by have := q.1; omega) (fun q => by have := q.1; omega) (fun q => by have := q.1; omega) (fun q => by have := q.1; omega), hC⟩
  · rw [nms_len] at hl
    have e0 := pLn_2 hk hl
    rcases hR with ⟨f, e, hC⟩ | ⟨x, p', e, hr, hp', hlt, k1, k2, k3, k4⟩
    · exact Or.inl ⟨f, e0.trans (bnd_l e), hC⟩
    · rw [nms_len] at k2 k3 k4
      refine Or.inr ⟨_, p', e0.trans (bnd_r e), hr, hp', hlt, hV.1.fr h.2.1 (by decide) (by decide) (by decide), ⟨?_, ?_, fun s hs => ?_⟩, hV.2.2.1.fr h.2.1 (by decide) (by decide) (by decide), hV.2.2.2.1.fr h.2.1 (by decide) (by decide) (by decide) (by decide), hV.2.2.2.2.1.fr h.2.1 (by decide) (by decide), hV.2.2.2.2.2.fr h.2.1 (by decide) (by decide)⟩
      · rw [k2]
        show (V.2.1.length : Int) + 1 = ((V.2.1 ++ [x]).length : Int)
        rw [List.length_append, List.length_singleton]
        omega
      · show NmC 35 (nms (V.2.1 ++ [x])) G1
        rw [nms_snoc]
        exact k1
      · have hs' : s < V.2.1.length + 1 := by
          have : s < (V.2.1 ++ [x]).length := hs
          rw [List.length_append, List.length_singleton] at this
          exact this
        show WkC_2 s ((V.2.1 ++ [x]).getD s ([], 0, 0, 0, 0)).2 G1
        by_cases hq : s < V.2.1.length
        · rw [getD_snl hq]
          have a1 := hV.2.1.2.2 s hq
          obtain ⟨b1, b2, b3, b4⟩ := k4 s (by omega)
          unfold WkC_2 at a1 ⊢
          rw [b1, b2, b3, b4]
          exact a1
        · have hs2 : s = V.2.1.length := by omega
          subst hs2
          rw [getD_snr]
          exact k3
theorem c_ln3_2 {b : Nat → Int} {n p : Nat} {r : Int32} {G G1 : GS} {V : PV} (h : P_rRule_2 G r G1) (hp : CPx b n G p) (hk : tK b n p = 134) (hV : CV_2 V G) : RdC_2 b n V p r G1 := by
  rcases c_rule_2 h hp (by omega) (by omega) hV.2.2.1 with ⟨hl, hC⟩ | ⟨hl, hR⟩
  · exact Or.inl ⟨_, pLn_0 (fun q => by have := q.1; omega) (fun q => by have := q.1; omega) (fun q => by have := q.2; omega) (fun q => by have := q.1; omega) (fun q => by have := q.1; omega) (fun q => by have := q.1; omega), hC⟩
  · have e0 := pLn_3 hk hl
    rcases hR with ⟨f, e, hC⟩ | ⟨x, p', e, hr, hp', hlt, k1⟩
    · exact Or.inl ⟨f, e0.trans (bnd_l e), hC⟩
    · exact Or.inr ⟨_, p', e0.trans (bnd_r e), hr, hp', hlt, hV.1.fr h.2.1 (by decide) (by decide) (by decide), hV.2.1.fr h.2.1 (by decide) (by decide) (by decide), k1, hV.2.2.2.1.fr h.2.1 (by decide) (by decide) (by decide) (by decide), hV.2.2.2.2.1.fr h.2.1 (by decide) (by decide), hV.2.2.2.2.2.fr h.2.1 (by decide) (by decide)⟩
theorem c_ln4_2 {b : Nat → Int} {n p : Nat} {r : Int32} {G G1 : GS} {V : PV} (h : P_rSlip_2 G r G1) (hp : CPx b n G p) (hk : tK b n p = 135) (hV : CV_2 V G) : RdC_2 b n V p r G1 := by
  rcases c_slip_2 h hp (by omega) (by omega) with ⟨hl, hC⟩ | ⟨hl, hR⟩
  · exact Or.inl ⟨_, pLn_0 (fun q => by have := q.1; omega) (fun q => by have := q.1; omega) (fun q => by have := q.1; omega) (fun q => hl (hV.2.2.2.1.1.mp q.2)) (fun q => by have := q.1; omega) (fun q => by have := q.1; omega), hC⟩
  · have e0 := pLn_4 hk (hV.2.2.2.1.1.mpr hl)
    rcases hR with ⟨f, e, hC⟩ | ⟨x, p', e, hr, hp', hlt, k1, k2⟩
    · exact Or.inl ⟨f, e0.trans (bnd_l e), hC⟩
    · exact Or.inr ⟨_, p', e0.trans (bnd_r e), hr, hp', hlt, hV.1.fr h.2.1 (by decide) (by decide) (by decide), hV.2.1.fr h.2.1 (by decide) (by decide) (by decide), hV.2.2.1.fr h.2.1 (by decide) (by decide) (by decide), ⟨⟨fun q => absurd q (by simp), fun q => absurd (k1.symm.trans q) (by decide)⟩, k2⟩, hV.2.2.2.2.1.fr h.2.1 (by decide) (by decide), hV.2.2.2.2.2.fr h.2.1 (by decide) (by decide)⟩
theorem c_ln5_2 {b : Nat → Int} {n p : Nat} {r : Int32} {G G1 : GS} {V : PV} (h : P_rHand_2 G r G1) (hp : CPx b n G p) (hk : tK b n p = 136) (hV : CV_2 V G) : RdC_2 b n V p r G1 := by
  rcases c_hand_2 h hp (by omega) (by omega) with ⟨hl, hC⟩ | ⟨hl, hR⟩
  · exact Or.inl ⟨_, pLn_0 (fun q => by have := q.1; omega) (fun q => by have := q.1; omega) (fun q => by have := q.1; omega) (fun q => by have := q.1; omega) (fun q => hl (hV.2.2.2.2.1.1.mp q.2)) (fun q => by have := q.1; omega), hC⟩
  · have e0 := pLn_5 hk (hV.2.2.2.2.1.1.mpr hl)
    rcases hR with ⟨f, e, hC⟩ | ⟨x, p', e, hr, hp', hlt, k1, k2⟩
    · exact Or.inl ⟨f, e0.trans (bnd_l e), hC⟩
    · exact Or.inr ⟨_, p', e0.trans (bnd_r e), hr, hp', hlt, hV.1.fr h.2.1 (by decide) (by decide) (by decide), hV.2.1.fr h.2.1 (by decide) (by decide) (by decide), hV.2.2.1.fr h.2.1 (by decide) (by decide) (by decide), hV.2.2.2.1.fr h.2.1 (by decide) (by decide) (by decide) (by decide), ⟨⟨fun q => absurd q (by simp), fun q => absurd (k1.symm.trans q) (by decide)⟩, k2⟩, hV.2.2.2.2.2.fr h.2.1 (by decide) (by decide)⟩
theorem c_ln6_2 {b : Nat → Int} {n p : Nat} {r : Int32} {G G1 : GS} {V : PV} (h : P_rDraw_2 G r G1) (hp : CPx b n G p) (hk : tK b n p = 138) (hV : CV_2 V G) : RdC_2 b n V p r G1 := by
  rcases c_draw_2 h hp (by omega) (by omega) with ⟨hl, hC⟩ | ⟨hl, hR⟩
  · exact Or.inl ⟨_, pLn_0 (fun q => by have := q.1; omega) (fun q => by have := q.1; omega) (fun q => by have := q.1; omega) (fun q => by have := q.1; omega) (fun q => by have := q.1; omega) (fun q => hl (hV.2.2.2.2.2.1.mp q.2)), hC⟩
  · have e0 := pLn_6 hk (hV.2.2.2.2.2.1.mpr hl)
    rcases hR with ⟨f, e, hC⟩ | ⟨x, p', e, hr, hp', hlt, k1, k2⟩
    · exact Or.inl ⟨f, e0.trans (bnd_l e), hC⟩
    · exact Or.inr ⟨_, p', e0.trans (bnd_r e), hr, hp', hlt, hV.1.fr h.2.1 (by decide) (by decide) (by decide), hV.2.1.fr h.2.1 (by decide) (by decide) (by decide), hV.2.2.1.fr h.2.1 (by decide) (by decide) (by decide), hV.2.2.2.1.fr h.2.1 (by decide) (by decide) (by decide) (by decide), hV.2.2.2.2.1.fr h.2.1 (by decide) (by decide), ⟨⟨fun q => absurd q (by simp), fun q => absurd (k1.symm.trans q) (by decide)⟩, k2⟩⟩
theorem c_ln0_2 {b : Nat → Int} {n p : Nat} {r : Int32} {G G1 : GS} {V : PV} (h : P_tRefuse 2 G r G1) (hp : CPx b n G p) (hk : tK b n p ≠ 128 ∧ tK b n p ≠ 129 ∧ tK b n p ≠ 134 ∧ tK b n p ≠ 135 ∧ tK b n p ≠ 136 ∧ tK b n p ≠ 138) : RdC_2 b n V p r G1 := Or.inl ⟨_, pLn_0 (fun q => hk.1 q.1) (fun q => hk.2.1 q.1) (fun q => hk.2.2.1 q.1) (fun q => hk.2.2.2.1 q.1) (fun q => hk.2.2.2.2.1 q.1) (fun q => hk.2.2.2.2.2 q.1), (c_ref h hp).1⟩
def RI_2 (b : Nat → Int) (n : Nat) (x g : Int32) (G : GS) : Prop := (∃ f, g.toInt = 0 ∧ parse b n = .inl f ∧ CF f g G) ∨ (∃ V p, g.toInt = 1 ∧ CPx b n G p ∧ CV_2 V G ∧ x.toInt ≤ (p : Int) ∧ ∀ o, Et (topS b n) (V0, 0) o ↔ Et (topS b n) (V, p) o)
theorem c_rstep_2 {b : Nat → Int} {n : Nat} {q q1 : Int32 × Int32 × GS} (hs : St_k_rRead_2_1 q q1) (hi : RI_2 b n q.1 q.2.1 q.2.2) : RI_2 b n q1.1 q1.2.1 q1.2.2 := by
  obtain ⟨x, g, G, xn, gn, Gn, rfl, rfl, -, -, -, c1, c2, c3, hh⟩ := hs
  rcases hi with ⟨f, hg, -⟩ | ⟨V, p, hg, hp, hV, hx, hE⟩
  · exact absurd hg c1
  have hk := hp.2.1.1
  have k203 : tK b n p ≠ 203 := by rw [← hk]; exact c3
  have fin : RdC_2 b n V p gn Gn → xn.toInt = x.toInt + 1 → RI_2 b n xn gn Gn := by
    intro hR hxn
    rcases hR with ⟨f, e, hC⟩ | ⟨V', p', e, hr, hp', hlt, hV'⟩
    · exact Or.inl ⟨f, hC.1, run_eq ((hE _).mpr ((Et_r (topS_l k203 e)).mpr rfl)), hC⟩
    · exact Or.inr ⟨V', p', hr, hp', hV', by have hx' : x.toInt ≤ (p : Int) := hx; omega, fun o => (hE o).trans (Et_i (topS_r k203 e))⟩
  simp only at hp hk
  rw [hk] at hh
  clear hE
  rcases hh with ⟨d, r7, G7, d1, y7, t7, rfl, rfl, rfl⟩ | ⟨n128, hh⟩
  · exact fin (c_ln1_2 d1 hp d hV) t7
  rcases hh with ⟨d, r7, G7, d1, y7, t7, rfl, rfl, rfl⟩ | ⟨n129, hh⟩
  · exact fin (c_ln2_2 d1 hp d hV) t7
  rcases hh with ⟨d, r7, G7, d1, y7, t7, rfl, rfl, rfl⟩ | ⟨n130, hh⟩
  · exact fin (c_ln0_2 d1 hp (by omega)) t7
  rcases hh with ⟨d, r7, G7, d1, y7, t7, rfl, rfl, rfl⟩ | ⟨n131, hh⟩
  · exact fin (c_ln0_2 d1 hp (by omega)) t7
  rcases hh with ⟨d, r7, G7, d1, y7, t7, rfl, rfl, rfl⟩ | ⟨n132, hh⟩
  · exact fin (c_ln0_2 d1 hp (by omega)) t7
  rcases hh with ⟨d, r7, G7, d1, y7, t7, rfl, rfl, rfl⟩ | ⟨n133, hh⟩
  · exact fin (c_ln0_2 d1 hp (by omega)) t7
  rcases hh with ⟨d, r7, G7, d1, y7, t7, rfl, rfl, rfl⟩ | ⟨n134, hh⟩
  · exact fin (c_ln3_2 d1 hp d hV) t7
  rcases hh with ⟨d, r7, G7, d1, y7, t7, rfl, rfl, rfl⟩ | ⟨n135, hh⟩
  · exact fin (c_ln4_2 d1 hp d hV) t7
  rcases hh with ⟨d, r7, G7, d1, y7, t7, rfl, rfl, rfl⟩ | ⟨n136, hh⟩
  · exact fin (c_ln5_2 d1 hp d hV) t7
  rcases hh with ⟨d, r7, G7, d1, y7, t7, rfl, rfl, rfl⟩ | ⟨n137, hh⟩
  · exact fin (c_ln0_2 d1 hp (by omega)) t7
  rcases hh with ⟨d, r7, G7, d1, y7, t7, rfl, rfl, rfl⟩ | ⟨n138, hh⟩
  · exact fin (c_ln6_2 d1 hp d hV) t7
  obtain ⟨r7, G7, d1, y7, t7, rfl, rfl, rfl⟩ := hh
  exact fin (c_ln0_2 d1 hp ⟨n128, n129, n134, n135, n136, n138⟩) t7
theorem c_read_2 {b : Nat → Int} {n : Nat} {p0 r : Int32} {G G1 : GS} (h : P_rRead_2 p0 G r G1) (hn0 : p0.toInt = (n : Int)) (hn : n ≤ 1600) (hT : ∀ j, j < n → (b j < 128 → (G.1 32 j).toInt = b j) ∧ (128 ≤ b j → (G.1 32 j).toInt = b j - 256) ∧ 0 ≤ b j ∧ b j ≤ 255) : (∃ f, parse b n = .inl f ∧ CF f r G1) ∨ (∃ V p, parse b n = .inr (V, p) ∧ r.toInt = 1 ∧ CV_2 V G1 ∧ (G1.1 3 7).toInt = 0 ∧ (G1.1 3 8).toInt = -1) := by
  obtain ⟨-, -, -, Ga, -, hFa, -, Gb, hem, Gc, -, hFc, w6, w7, w8', Gd, hop, x, g, G15, hl, -, -, -, -, hh⟩ := h
  obtain ⟨-, hFe, -, e9, e10, e11, e12, e13, e14, e15, e16, eS⟩ := hem
  obtain ⟨-, hFo, y1, t1, G5, -, hF5, f1, f2, f7, f8, r6, G7, hadv, rfl⟩ := hop
  have hy1 : y1.toInt = (n : Int) := by omega
  have hX5 : XC b n G5 := by
    refine ⟨by rw [f1]; exact hy1, hn, ?_⟩
    rw [hF5.row1 32 (by decide) (by decide), hFc.row1 32 (by decide) (by decide), hFe.row1 32 (by decide) (by decide), hFa.row1 32 (by decide) (by decide)]
    exact hT
  obtain ⟨-, hX7, hT7⟩ := c_adv (q := 0) hX5 (by rw [f2]; rfl) (Nat.zero_le n) hadv
  have hp7 : CPx b n G7 0 := ⟨hX7, hT7, ⟨by rw [hadv.2.1.i 3 7 (by decide) (by decide), f7]; rfl, by rw [hadv.2.1.i 3 8 (by decide) (by decide), f8]; rfl⟩, Nat.zero_le n⟩
  have r7 : ∀ j, j ≠ 1 → G7.1 2 j = G7.1 2 j := fun _ _ => rfl
  have kc : ∀ j, G7.1 2 j = Gb.1 2 j := fun j => by rw [hadv.2.1.row1 2 (by decide) (by decide), hF5.row1 2 (by decide) (by decide), hFc.row1 2 (by decide) (by decide)]
  have ks : G7.1 26 = Gb.1 26 := by rw [hadv.2.1.row1 26 (by decide) (by decide), hF5.row1 26 (by decide) (by decide), hFc.row1 26 (by decide) (by decide)]
  have hV0 : CV_2 V0 G7 := by
    refine ⟨⟨by rw [kc, e9]; rfl, fun k hk => absurd hk (Nat.not_lt_zero k), fun s hs => absurd hs (Nat.not_lt_zero s)⟩, ⟨by rw [kc, e10]; rfl, fun k hk => absurd hk (Nat.not_lt_zero k), fun s hs => absurd hs (Nat.not_lt_zero s)⟩, ⟨by rw [kc, e11]; rfl, fun k hk => absurd hk (Nat.not_lt_zero k), by rw [kc, e12]; rfl, by decide, by decide, ⟨Or.inl ⟨by decide, by rw [kc, e13]; rfl⟩, fun i hi => absurd hi (Nat.not_lt_zero i)⟩, fun k hk => absurd hk (Nat.not_lt_zero k)⟩, ⟨⟨fun _ => ?_, fun _ => rfl⟩, ?_, ?_, ?_⟩, ⟨⟨fun _ => ?_, fun _ => rfl⟩, by rw [kc, e14]; rfl, by rw [kc, e15]; rfl⟩, ⟨⟨fun _ => ?_, fun _ => rfl⟩, by rw [kc, e16]; rfl⟩⟩
    · rw [hadv.2.1.i 5 6 (by decide) (by decide), hF5.i 5 6 (by decide) (by decide), w6]
      rfl
    · rw [ks, eS]
      rfl
    · rw [ks, eS]
      rfl
    · rw [ks, eS]
      rfl
    · rw [hadv.2.1.i 5 7 (by decide) (by decide), hF5.i 5 7 (by decide) (by decide), w7]
      rfl
    · rw [hadv.2.1.i 5 8 (by decide) (by decide), hF5.i 5 8 (by decide) (by decide), w8']
      rfl
  have hI : RI_2 b n x g G15 := hl (fun q => RI_2 b n q.1 q.2.1 q.2.2) (Or.inr ⟨V0, 0, rfl, hp7, hV0, Int.le_refl 0, fun o => Iff.rfl⟩) (fun a a' ha hs => c_rstep_2 hs ha)
  clear hl
  rcases hI with ⟨f, hg, e, hC⟩ | ⟨V, p, hg, hp, hV, hx, hE⟩
  · rcases hh with ⟨-, rfl, rfl⟩ | ⟨c, -⟩
    · exact Or.inl ⟨f, e, hC⟩
    · exact absurd hg c
  · have hk := hp.2.1.1
    have k203 : tK b n p = 203 ∧ g = r ∧ G15 = G1 := by
      rcases hh with ⟨c, -⟩ | ⟨c, ⟨d, e1, e2⟩ | ⟨d, d2, e1, e2⟩⟩
      · omega
      · refine ⟨?_, e1, e2⟩
        refine Classical.byContradiction (fun q => ?_)
        have := (tN_p (b := b) hp.1.2.1 hp.2.2.2).2.2 q
        have := (tS_p (b := b) hp.1.2.1 hp.2.2.2)
        have := hp.2.2.2
        omega
      · exact ⟨by rw [← hk]; exact d2, e1, e2⟩
    obtain ⟨k203, rfl, rfl⟩ := k203
    exact Or.inr ⟨V, p, run_eq ((hE _).mpr ((Et_r (topS_e k203)).mpr rfl)), hg, hV, hp.2.2.1.1, hp.2.2.1.2⟩
