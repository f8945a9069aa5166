/-! formulas by the program -/
def ekk (x : Int × Int) : Int := if x.1 = 0 then 201 else if x.1 = 1 then (if x.2 ≤ 4 then 139 + x.2 else 142 + x.2) else if x.1 = 2 then 146 else if x.2 = 124 then 144 else if x.2 = 38 then 145 else x.2
def ekv (x : Int × Int) : Int := if x.1 = 0 then x.2 else 0
def encd (k v : Int) : Int32 := Int32.ofInt k ||| (Int32.ofInt v <<< (10 &&& 31))
theorem getD_sn {α : Type} {NS : List α} {L e : α} {k : Nat} : (NS ++ [L]).getD k e = if k < NS.length then NS.getD k e else if k = NS.length then L else e := by
  rw [List.getD_eq_getElem?_getD, List.getD_eq_getElem?_getD]
  by_cases h : k < NS.length
  · rw [if_pos h, List.getElem?_append_left h]
  · rw [if_neg h, List.getElem?_append_right (by omega)]
    by_cases h2 : k = NS.length
    · rw [if_pos h2]
      simp [h2]
    · rw [if_neg h2, List.getElem?_eq_none (by simp; omega)]
      rfl
theorem ask_neg {k : Int} (h1 : k ≠ 139) (h2 : k ≠ 140) (h3 : k ≠ 141) (h4 : k ≠ 142) (h5 : k ≠ 143) (h6 : k ≠ 147) (h7 : k ≠ 148) (h8 : k ≠ 149) (h9 : k ≠ 150) : ask k = -1 := by
  unfold ask
  rw [if_neg h1, if_neg h2, if_neg h3, if_neg h4, if_neg h5, if_neg h6, if_neg h7, if_neg h8, if_neg h9]
theorem c_times {k r : Int32} {G G1 : GS} (h : P_fTimes k G r G1) : G = G1 ∧ (r.toInt ≠ 0 ↔ (k.toInt = 42 ∨ k.toInt = 47 ∨ k.toInt = 37)) := by
  obtain ⟨-, hF, -, h⟩ := h
  have z : (0 : Int32).toInt = 0 := rfl
  have o : (1 : Int32).toInt = 1 := rfl
  refine ⟨hF.nil, ?_⟩
  rcases h with ⟨c, rfl, -⟩ | ⟨c, ⟨d, rfl, -⟩ | ⟨d, ⟨e, rfl, -⟩ | ⟨e, rfl, -⟩⟩⟩ <;> omega
def CodeC_1 (c0 : Nat) (C : List (Int × Int)) (G : GS) : Prop := ((c0 + C.length ≤ 580 ∧ (G.1 1 13).toInt = ((c0 + C.length : Nat) : Int)) ∨ (580 < c0 + C.length ∧ (G.1 1 13).toInt = 580)) ∧ ∀ i, i < C.length → c0 + i < 580 → G.1 17 (c0 + i) = encd (ekk (C.getD i (0, 0))) (ekv (C.getD i (0, 0)))
def CfC_1 (b : Nat → Int) (n c0 : Nat) (G : GS) (p : Nat) (C : List (Int × Int)) (u w : Int) : Prop := CPx b n G p ∧ (G.1 4 2).toInt = u ∧ (G.1 1 12).toInt = w ∧ CodeC_1 c0 C G ∧ u ≤ 30 ∧ w ≤ 90
def LR_1 (b : Nat → Int) (n c0 : Nat) (L : Int) (d p : Nat) (C : List (Int × Int)) (u w : Int) (r : Int32) (G1 : GS) : Prop := (∃ f, CF f r G1 ∧ Lf b n L d p C u w f) ∨ (∃ p' u' w' C', r.toInt = 1 ∧ CfC_1 b n c0 G1 p' C' u' w' ∧ Lv b n L d p p' C C' u u' w w')
def XE_1 (b : Nat → Int) (n c0 : Nat) (L : Int) (E : XR) : Prop := ∀ (p0 : Int32) (d : Nat) (G : GS) (r : Int32) (G1 : GS) (p : Nat) (C : List (Int × Int)) (u w : Int), p0.toInt = (d : Int) → E p0 G r G1 → CfC_1 b n c0 G p C u w → LR_1 b n c0 L d p C u w r G1
theorem CodeC_1.fr {c0 : Nat} {C : List (Int × Int)} {rs : List Nat} {fs : List (Nat × Nat)} {G G1 : GS} (h : CodeC_1 c0 C G) (hF : Fr rs fs G G1) (h1 : 1 ∉ rs) (h2 : (1, 13) ∉ fs) (h3 : 17 ∉ rs) (h4 : ∀ x ∈ fs, x.1 ≠ 17) : CodeC_1 c0 C G1 := by
  unfold CodeC_1 at h ⊢
  rw [hF.i 1 13 h1 h2, hF.row1 17 h3 h4]
  exact h
theorem c_emit_1 {c0 : Nat} {C : List (Int × Int)} {G G1 : GS} {k v : Int32} {x : Int × Int} (h : P_emit_1 k v G G1) (hC : CodeC_1 c0 C G) (hk : k.toInt = ekk x) (hv : v.toInt = ekv x) : CodeC_1 c0 (C ++ [x]) G1 := by
  obtain ⟨-, -, hh⟩ := h
  obtain ⟨h1, h2⟩ := hC
  unfold CodeC_1
  rw [List.length_append, List.length_singleton]
  rcases hh with ⟨c, rfl⟩ | ⟨c, y3, t3, y5, e5, y6, e6, hF, e13, eR⟩
  · refine ⟨Or.inr ⟨by omega, by omega⟩, fun i hi hc => ?_⟩
    rw [getD_sn, if_pos (by omega)]
    exact h2 i (by omega) hc
  · refine ⟨Or.inl ⟨by omega, by rw [e13]; omega⟩, fun i hi hc => ?_⟩
    rw [eR, getD_sn]
    by_cases hq : i < C.length
    · rw [if_pos hq]
      have e : upd (G.1 17) (G.1 1 13).toNatClampNeg y6 (c0 + i) = G.1 17 (c0 + i) := if_neg (by have := c_nat (G.1 1 13); omega)
      rw [e]
      exact h2 i hq hc
    · rw [if_neg hq, if_pos (by omega)]
      have e : upd (G.1 17) (G.1 1 13).toNatClampNeg y6 (c0 + i) = y6 := if_pos (by have := c_nat (G.1 1 13); omega)
      rw [e, e6, e5, encd, ← hk, ← hv, Int32.ofInt_toInt, Int32.ofInt_toInt]
theorem CfC_1.next {b : Nat → Int} {n c0 p : Nat} {G G1 : GS} {C : List (Int × Int)} {u w : Int} {r : Int32} (h : CfC_1 b n c0 G p C u w) (ha : P_tAdvance G r G1) (hk : tK b n p ≠ 202) : r.toInt = 1 ∧ CfC_1 b n c0 G1 (tNx b n p) C u w := by
  obtain ⟨hp, hu, hw, hC, hb⟩ := h
  have hn := c_next ha hp hk
  exact ⟨hn.1, hn.2, by rw [ha.2.1.i 4 2 (by decide) (by decide)]; exact hu, by rw [ha.2.1.i 1 12 (by decide) (by decide)]; exact hw, hC.fr ha.2.1 (by decide) (by decide) (by decide) (by decide), hb⟩
theorem CfC_1.emit {b : Nat → Int} {n c0 p : Nat} {G G1 : GS} {C : List (Int × Int)} {u w : Int} {k v : Int32} {x : Int × Int} (h : CfC_1 b n c0 G p C u w) (he : P_emit_1 k v G G1) (hk : k.toInt = ekk x) (hv : v.toInt = ekv x) : CfC_1 b n c0 G1 p (C ++ [x]) u w := by
  obtain ⟨hp, hu, hw, hC, hb⟩ := h
  exact ⟨hp.fr he.2.1 (by decide) (by decide) (by decide) (by decide), by rw [he.2.1.i 4 2 (by decide) (by decide)]; exact hu, by rw [he.2.1.i 1 12 (by decide) (by decide)]; exact hw, c_emit_1 he hC hk hv, hb⟩
theorem CfC_1.t {b : Nat → Int} {n c0 p : Nat} {G : GS} {C : List (Int × Int)} {u w : Int} (h : CfC_1 b n c0 G p C u w) : n ≤ 1600 ∧ p ≤ n ∧ (G.1 3 3).toInt = tK b n p ∧ p ≤ tNx b n p ∧ tNx b n p ≤ n ∧ (tK b n p ≠ 203 → p < tNx b n p) := by
  have h1 := tN_p (b := b) h.1.1.2.1 h.1.2.2.2
  exact ⟨h.1.1.2.1, h.1.2.2.2, h.1.2.1.1, h1.1, h1.2.1, fun q => (h1.2.2 q).1⟩
theorem c_brk_1 {b : Nat → Int} {n c0 d p : Nat} {E O : XR} (hE : XE_1 b n c0 1 E) {p0 r : Int32} {G G1 : GS} {C : List (Int × Int)} {u w : Int} (h : P_fBracket_1_s E O p0 G r G1) (hd : p0.toInt = (d : Int)) (hc : CfC_1 b n c0 G p C (u + 1) (w + 1)) (hk : tK b n p = 40) (hf : ¬ (w = 90 ∨ u = 30)) : LR_1 b n c0 7 d p C u w r G1 := by
  obtain ⟨-, -, -, hh⟩ := h
  have z : (0 : Int32).toInt = 0 := rfl
  have ht := hc.t
  rcases hh with ⟨c, r2, G3, ha, y8, t8, r9, G10, hE1, hh⟩ | ⟨c, r29, G30, ha, rfl, rfl⟩
  · have hn := hc.next ha (by omega)
    have h1 := hE y8 (d + 1) G3 r9 G10 (tNx b n p) C (u + 1) (w + 1) (by omega) hE1 hn.2
    rcases h1 with ⟨f, hf1, hf2⟩ | ⟨p', u', w', C', hr, hc', hv⟩
    · rcases hh with ⟨c2, rfl, rfl⟩ | ⟨c2, hh⟩
      · exact Or.inl ⟨f, ⟨z, hf1.2⟩, Lf_brk0 hk hf (by omega) hf2⟩
      · have := hf1.1
        omega
    · rcases hh with ⟨c2, -⟩ | ⟨c2, ⟨c3, r23, G24, ha2, rfl, rfl⟩ | ⟨c3, r17, G18, ha2, rfl, rfl⟩⟩
      · omega
      · have ht' := hc'.t
        have hn' := hc'.next ha2 (by omega)
        exact Or.inr ⟨tNx b n p', u', w', C', hn'.1, hn'.2, Lv_brk hk hf (by omega) (by omega) (by omega) (by omega) hv⟩
      · have ht' := hc'.t
        exact Or.inl ⟨_, (c_ref ha2 hc'.1).1, Lf_brk1 hk hf (by omega) (by omega) hv⟩
  · exact Or.inl ⟨_, (c_ref ha hc.1).1, Lf_unit (Or.inr (Or.inr ⟨hk, by omega⟩))⟩
theorem c_unit_1 {b : Nat → Int} {n c0 d p : Nat} {E O : XR} (hE : XE_1 b n c0 1 E) {p0 r : Int32} {G G1 : GS} {C : List (Int × Int)} {u w : Int} (h : P_fUnit_1_s E O p0 G r G1) (hd : p0.toInt = (d : Int)) (hc : CfC_1 b n c0 G p C u w) : LR_1 b n c0 7 d p C u w r G1 := by
  obtain ⟨-, -, -, hh⟩ := h
  have z : (0 : Int32).toInt = 0 := rfl
  have ht := hc.t
  obtain ⟨hp, hu, hw, hC, hu30, hw90⟩ := id hc
  rcases hh with ⟨c, r3, G4, ha, rfl, rfl⟩ | ⟨c, ⟨cw, y11, t11, y13, t13, hh⟩ | ⟨cw, r3, G4, ha, rfl, rfl⟩⟩
  · exact Or.inl ⟨_, (c_ref ha hp).1, Lf_unit (Or.inr (Or.inl (Or.inr (by omega))))⟩
  · have g14 : ∀ G14 : GS, Fr [] [(1, 12), (4, 2)] G G14 → G14.1 1 12 = y13 → G14.1 4 2 = y11 → CfC_1 b n c0 G14 p C (u + 1) (w + 1) := by
      intro G14 hF e12 e2
      exact ⟨hp.fr hF (by decide) (by decide) (by decide) (by decide), by rw [e2]; omega, by rw [e12]; omega, hC.fr hF (by decide) (by decide) (by decide) (by decide), by omega, by omega⟩
    have fin : ∀ (x : Int × Int) (kk vv r28 : Int32) (G14 G24 G29 : GS), Fr [] [(1, 12), (4, 2)] G G14 → G14.1 1 12 = y13 → G14.1 4 2 = y11 → P_emit_1 kk vv G14 G24 → P_tAdvance G24 r28 G29 → kk.toInt = ekk x → vv.toInt = ekv x → tK b n p ≠ 202 → r28.toInt = 1 ∧ CfC_1 b n c0 G29 (tNx b n p) (C ++ [x]) (u + 1) (w + 1) := by
      intro x kk vv r28 G14 G24 G29 hF e12 e2 he ha hk hv h202
      exact ((g14 G14 hF e12 e2).emit he hk hv).next ha h202
    rcases hh with ⟨k40, G14, -, hF14, e12, e2, r16, G17, hb, rfl, rfl⟩ | ⟨k40, hh⟩
    · exact c_brk_1 hE hb hd (g14 G14 hF14 e12 e2) (by omega) (by omega)
    rcases hh with ⟨k139, G14, -, hF14, e12, e2, G24, he, r28, G29, ha, rfl, rfl⟩ | ⟨k139, hh⟩
    · have hk : tK b n p = 139 := by omega
      have hf := fin (1, 0) (G.1 3 3) 0 r28 G14 G24 G29 hF14 e12 e2 he ha (by show _ = (139 : Int); omega) rfl (by omega)
      have hv := Lv_opnd (b := b) (n := n) (d := d) (p := p) (C := C) (u := u) (w := w) (Or.inr (by rw [hk]; decide)) (by omega) (by omega) (by omega) (by omega)
      rw [hk, show (if ask 139 < 0 then ((0 : Int), tV b n p) else (1, ask 139)) = (1, 0) from rfl] at hv
      exact Or.inr ⟨_, _, _, _, hf.1, hf.2, hv⟩
    rcases hh with ⟨k140, G14, -, hF14, e12, e2, G24, he, r28, G29, ha, rfl, rfl⟩ | ⟨k140, hh⟩
    · have hk : tK b n p = 140 := by omega
      have hf := fin (1, 1) (G.1 3 3) 0 r28 G14 G24 G29 hF14 e12 e2 he ha (by show _ = (140 : Int); omega) rfl (by omega)
      have hv := Lv_opnd (b := b) (n := n) (d := d) (p := p) (C := C) (u := u) (w := w) (Or.inr (by rw [hk]; decide)) (by omega) (by omega) (by omega) (by omega)
      rw [hk, show (if ask 140 < 0 then ((0 : Int), tV b n p) else (1, ask 140)) = (1, 1) from rfl] at hv
      exact Or.inr ⟨_, _, _, _, hf.1, hf.2, hv⟩
    rcases hh with ⟨k141, G14, -, hF14, e12, e2, G24, he, r28, G29, ha, rfl, rfl⟩ | ⟨k141, hh⟩
    · have hk : tK b n p = 141 := by omega
      have hf := fin (1, 2) (G.1 3 3) 0 r28 G14 G24 G29 hF14 e12 e2 he ha (by show _ = (141 : Int); omega) rfl (by omega)
      have hv := Lv_opnd (b := b) (n := n) (d := d) (p := p) (C := C) (u := u) (w := w) (Or.inr (by rw [hk]; decide)) (by omega) (by omega) (by omega) (by omega)
      rw [hk, show (if ask 141 < 0 then ((0 : Int), tV b n p) else (1, ask 141)) = (1, 2) from rfl] at hv
      exact Or.inr ⟨_, _, _, _, hf.1, hf.2, hv⟩
    rcases hh with ⟨k142, G14, -, hF14, e12, e2, G24, he, r28, G29, ha, rfl, rfl⟩ | ⟨k142, hh⟩
    · have hk : tK b n p = 142 := by omega
      have hf := fin (1, 3) (G.1 3 3) 0 r28 G14 G24 G29 hF14 e12 e2 he ha (by show _ = (142 : Int); omega) rfl (by omega)
      have hv := Lv_opnd (b := b) (n := n) (d := d) (p := p) (C := C) (u := u) (w := w) (Or.inr (by rw [hk]; decide)) (by omega) (by omega) (by omega) (by omega)
      rw [hk, show (if ask 142 < 0 then ((0 : Int), tV b n p) else (1, ask 142)) = (1, 3) from rfl] at hv
      exact Or.inr ⟨_, _, _, _, hf.1, hf.2, hv⟩
    rcases hh with ⟨k143, G14, -, hF14, e12, e2, G24, he, r28, G29, ha, rfl, rfl⟩ | ⟨k143, hh⟩
    · have hk : tK b n p = 143 := by omega
      have hf := fin (1, 4) (G.1 3 3) 0 r28 G14 G24 G29 hF14 e12 e2 he ha (by show _ = (143 : Int); omega) rfl (by omega)
      have hv := Lv_opnd (b := b) (n := n) (d := d) (p := p) (C := C) (u := u) (w := w) (Or.inr (by rw [hk]; decide)) (by omega) (by omega) (by omega) (by omega)
      rw [hk, show (if ask 143 < 0 then ((0 : Int), tV b n p) else (1, ask 143)) = (1, 4) from rfl] at hv
      exact Or.inr ⟨_, _, _, _, hf.1, hf.2, hv⟩
    rcases hh with ⟨k147, G14, -, hF14, e12, e2, G24, he, r28, G29, ha, rfl, rfl⟩ | ⟨k147, hh⟩
    · have hk : tK b n p = 147 := by omega
      have hf := fin (1, 5) (G.1 3 3) 0 r28 G14 G24 G29 hF14 e12 e2 he ha (by show _ = (147 : Int); omega) rfl (by omega)
      have hv := Lv_opnd (b := b) (n := n) (d := d) (p := p) (C := C) (u := u) (w := w) (Or.inr (by rw [hk]; decide)) (by omega) (by omega) (by omega) (by omega)
      rw [hk, show (if ask 147 < 0 then ((0 : Int), tV b n p) else (1, ask 147)) = (1, 5) from rfl] at hv
      exact Or.inr ⟨_, _, _, _, hf.1, hf.2, hv⟩
    rcases hh with ⟨k148, G14, -, hF14, e12, e2, G24, he, r28, G29, ha, rfl, rfl⟩ | ⟨k148, hh⟩
    · have hk : tK b n p = 148 := by omega
      have hf := fin (1, 6) (G.1 3 3) 0 r28 G14 G24 G29 hF14 e12 e2 he ha (by show _ = (148 : Int); omega) rfl (by omega)
      have hv := Lv_opnd (b := b) (n := n) (d := d) (p := p) (C := C) (u := u) (w := w) (Or.inr (by rw [hk]; decide)) (by omega) (by omega) (by omega) (by omega)
      rw [hk, show (if ask 148 < 0 then ((0 : Int), tV b n p) else (1, ask 148)) = (1, 6) from rfl] at hv
      exact Or.inr ⟨_, _, _, _, hf.1, hf.2, hv⟩
    rcases hh with ⟨k149, G14, -, hF14, e12, e2, G24, he, r28, G29, ha, rfl, rfl⟩ | ⟨k149, hh⟩
    · have hk : tK b n p = 149 := by omega
      have hf := fin (1, 7) (G.1 3 3) 0 r28 G14 G24 G29 hF14 e12 e2 he ha (by show _ = (149 : Int); omega) rfl (by omega)
      have hv := Lv_opnd (b := b) (n := n) (d := d) (p := p) (C := C) (u := u) (w := w) (Or.inr (by rw [hk]; decide)) (by omega) (by omega) (by omega) (by omega)
      rw [hk, show (if ask 149 < 0 then ((0 : Int), tV b n p) else (1, ask 149)) = (1, 7) from rfl] at hv
      exact Or.inr ⟨_, _, _, _, hf.1, hf.2, hv⟩
    rcases hh with ⟨k150, G14, -, hF14, e12, e2, G24, he, r28, G29, ha, rfl, rfl⟩ | ⟨k150, hh⟩
    · have hk : tK b n p = 150 := by omega
      have hf := fin (1, 8) (G.1 3 3) 0 r28 G14 G24 G29 hF14 e12 e2 he ha (by show _ = (150 : Int); omega) rfl (by omega)
      have hv := Lv_opnd (b := b) (n := n) (d := d) (p := p) (C := C) (u := u) (w := w) (Or.inr (by rw [hk]; decide)) (by omega) (by omega) (by omega) (by omega)
      rw [hk, show (if ask 150 < 0 then ((0 : Int), tV b n p) else (1, ask 150)) = (1, 8) from rfl] at hv
      exact Or.inr ⟨_, _, _, _, hf.1, hf.2, hv⟩
    rcases hh with ⟨k201, G14, -, hF14, e12, e2, G24, he, r28, G29, ha, rfl, rfl⟩ | ⟨k201, G14, -, hF14, e12, e2, r142, G143, ha, rfl, rfl⟩
    · have hk : tK b n p = 201 := by omega
      have h5 := hp.2.1.2.2.2.1 hk
      have hf := fin (0, tV b n p) 201 (G.1 3 5) r28 G14 G24 G29 hF14 e12 e2 he ha rfl h5 (by omega)
      have hv := Lv_opnd (b := b) (n := n) (d := d) (p := p) (C := C) (u := u) (w := w) (Or.inl hk) (by omega) (by omega) (by omega) (by omega)
      rw [hk, show (if ask 201 < 0 then ((0 : Int), tV b n p) else (1, ask 201)) = (0, tV b n p) from rfl] at hv
      exact Or.inr ⟨_, _, _, _, hf.1, hf.2, hv⟩
    · have hn := ask_neg (k := tK b n p) (by omega) (by omega) (by omega) (by omega) (by omega) (by omega) (by omega) (by omega) (by omega)
      exact Or.inl ⟨_, (c_ref ha (g14 G14 hF14 e12 e2).1).1, Lf_unit (Or.inl ⟨by omega, by omega, by omega⟩)⟩
  · exact Or.inl ⟨_, (c_ref ha hp).1, Lf_unit (Or.inr (Or.inl (Or.inl (by omega))))⟩
theorem c_term_1 {b : Nat → Int} {n c0 d p : Nat} {E O : XR} (hE : XE_1 b n c0 1 E) {p0 r : Int32} {G G1 : GS} {C : List (Int × Int)} {u w : Int} (h : P_fTerm_1_s E O p0 G r G1) (hd : p0.toInt = (d : Int)) (hc : CfC_1 b n c0 G p C u w) : LR_1 b n c0 6 d p C u w r G1 := by
  obtain ⟨-, -, -, r1, G2, h1, hh⟩ := h
  have z : (0 : Int32).toInt = ((0 : Nat) : Int) := rfl
  have o : (1 : Int32).toInt = 1 := rfl
  have ht := hc.t
  have hL : ((6 : Int) = 6 ∧ (7 : Int) = 7) ∨ ((6 : Int) = 5 ∧ (7 : Int) = 6) ∨ ((6 : Int) = 2 ∧ (7 : Int) = 3) ∨ ((6 : Int) = 1 ∧ (7 : Int) = 2) := Or.inl ⟨rfl, rfl⟩
  rcases c_unit_1 hE h1 hd hc with ⟨f, hf1, hf2⟩ | ⟨p1, u1, w1, C1, hr1, hc1, hv1⟩
  · rcases hh with ⟨c2, rfl, rfl⟩ | ⟨c2, -⟩
    · exact Or.inl ⟨f, ⟨rfl, hf1.2⟩, Lf_init hL hf2⟩
    · have := hf1.1
      omega
  rcases hh with ⟨c2, -⟩ | ⟨c2, x, G8, hRc, hx, -, -, hh⟩
  · omega
  have hI := hRc (fun z => ∃ (p1 : Nat) (u1 w1 : Int) (C1 : List (Int × Int)) (k : Nat), z.1.toInt = (k : Int) ∧ p + 1 + k ≤ p1 ∧ CfC_1 b n c0 z.2 p1 C1 u1 w1 ∧ Lx b n 6 7 d p p1 C C1 u u1 w w1) ⟨p1, u1, w1, C1, 0, z, by have := hv1.1; omega, hc1, Lx_init hL hv1⟩ (by
    rintro ⟨x1, G_1⟩ ⟨xn, G_1n⟩ ⟨p2, u2, w2, C2, k, hk, hpk, hc2, hx2⟩ ⟨x1q, G_1q, xnq, G_1nq, e1, e2, -, -, c1, r18, G19, hti, c18, r25, G26, ha, r31, G32, h2, c31, G39, he, y43, t43, ex, eG⟩
    obtain ⟨rfl, rfl⟩ := Prod.mk.inj e1
    obtain ⟨rfl, rfl⟩ := Prod.mk.inj e2
    simp only at hk hc2
    have ht2 := hc2.t
    obtain ⟨rfl, hti2⟩ := c_times hti
    have hkk : tK b n p2 = 42 ∨ tK b n p2 = 47 ∨ tK b n p2 = 37 := by have := hti2.mp c18; omega
    have hsg : sig (tK b n p2) = tK b n p2 ∧ tgt (tK b n p2) = 6 ∧ cdo (tK b n p2) = (3, tK b n p2) ∧ ekk (3, tK b n p2) = tK b n p2 := by rcases hkk with e | e | e <;> rw [e] <;> decide
    have hn := hc2.next ha (by omega)
    have h3 := c_unit_1 hE h2 hd hn.2
    rcases h3 with ⟨f, hf1, -⟩ | ⟨p3, u3, w3, C3, hr3, hc3, hv3⟩
    · have := hf1.1
      omega
    · subst ex
      subst eG
      have hstep := Lx_step (tK b n p2) hL hsg.1 ⟨by omega, by omega, by omega⟩ hsg.2.1 (by omega) (by omega) hx2 hv3
      rw [hsg.2.2.1] at hstep
      exact ⟨p3, u3, w3, _, k + 1, by show y43.toInt = _; omega, by have := hv3.1; omega, hc3.emit he (x := (3, (tK b n p2))) (by rw [hsg.2.2.2]; omega) rfl, hstep⟩)
  obtain ⟨p2, u2, w2, C2, k, hk, hpk, hc2, hx2⟩ := hI
  simp only at hk hc2
  have ht2 := hc2.t
  rcases hh with ⟨c3, -⟩ | ⟨c3, r18, G19, hti, ⟨c18, rfl, rfl⟩ | ⟨c18, r25, G26, ha, r31, G32, h2, c31, rfl, rfl⟩⟩
  · omega
  · obtain ⟨rfl, hti2⟩ := c_times hti
    have hkk : ¬ (tK b n p2 = 42 ∨ tK b n p2 = 47 ∨ tK b n p2 = 37) := fun q => hti2.mpr (by omega) c18
    exact Or.inr ⟨p2, u2, w2, C2, o, hc2, Lx_end hx2 (fun T hT => ⟨fun _ => by omega, fun q => absurd q (by decide), fun q => absurd q (by decide), fun q => absurd q (by decide), fun q => absurd q (by decide)⟩)⟩
  · obtain ⟨rfl, hti2⟩ := c_times hti
    have hkk : tK b n p2 = 42 ∨ tK b n p2 = 47 ∨ tK b n p2 = 37 := by have := hti2.mp c18; omega
    have hsg : sig (tK b n p2) = tK b n p2 ∧ tgt (tK b n p2) = 6 ∧ cdo (tK b n p2) = (3, tK b n p2) ∧ ekk (3, tK b n p2) = tK b n p2 := by rcases hkk with e | e | e <;> rw [e] <;> decide
    have hn := hc2.next ha (by omega)
    rcases c_unit_1 hE h2 hd hn.2 with ⟨f, hf1, hf2⟩ | ⟨p3, u3, w3, C3, hr3, hc3, hv3⟩
    · exact Or.inl ⟨f, ⟨rfl, hf1.2⟩, Lf_step (tK b n p2) hL hsg.1 ⟨by omega, by omega, by omega⟩ hsg.2.1 (by omega) hx2 hf2⟩
    · omega
theorem c_sum_1 {b : Nat → Int} {n c0 d p : Nat} {E O : XR} (hE : XE_1 b n c0 1 E) {p0 r : Int32} {G G1 : GS} {C : List (Int × Int)} {u w : Int} (h : P_fSum_1_s E O p0 G r G1) (hd : p0.toInt = (d : Int)) (hc : CfC_1 b n c0 G p C u w) : LR_1 b n c0 5 d p C u w r G1 := by
  obtain ⟨-, -, -, r1, G2, h1, hh⟩ := h
  have z : (0 : Int32).toInt = ((0 : Nat) : Int) := rfl
  have o : (1 : Int32).toInt = 1 := rfl
  have ht := hc.t
  have hL : ((5 : Int) = 6 ∧ (6 : Int) = 7) ∨ ((5 : Int) = 5 ∧ (6 : Int) = 6) ∨ ((5 : Int) = 2 ∧ (6 : Int) = 3) ∨ ((5 : Int) = 1 ∧ (6 : Int) = 2) := Or.inr (Or.inl ⟨rfl, rfl⟩)
  rcases c_term_1 hE h1 hd hc with ⟨f, hf1, hf2⟩ | ⟨p1, u1, w1, C1, hr1, hc1, hv1⟩
  · rcases hh with ⟨c2, rfl, rfl⟩ | ⟨c2, -⟩
    · exact Or.inl ⟨f, ⟨rfl, hf1.2⟩, Lf_init hL hf2⟩
    · have := hf1.1
      omega
  rcases hh with ⟨c2, -⟩ | ⟨c2, x, G8, hRc, hx, -, -, hh⟩
  · omega
  have hI := hRc (fun z => ∃ (p1 : Nat) (u1 w1 : Int) (C1 : List (Int × Int)) (k : Nat), z.1.toInt = (k : Int) ∧ p + 1 + k ≤ p1 ∧ CfC_1 b n c0 z.2 p1 C1 u1 w1 ∧ Lx b n 5 6 d p p1 C C1 u u1 w w1) ⟨p1, u1, w1, C1, 0, z, by have := hv1.1; omega, hc1, Lx_init hL hv1⟩ (by
    rintro ⟨x1, G_1⟩ ⟨xn, G_1n⟩ ⟨p2, u2, w2, C2, k, hk, hpk, hc2, hx2⟩ ⟨x1, G_1, xn, G_1n, e1, e2, -, -, c1, G21, hJ, -, -, r25, G26, ha, r31, G32, h2, c31, G39, he, y43, t43, ex, eG⟩
    obtain ⟨rfl, rfl⟩ := Prod.mk.inj e1
    obtain ⟨rfl, rfl⟩ := Prod.mk.inj e2
    simp only at hk hc2
    have ht2 := hc2.t
    have hJ2 : G_1 = G21 ∧ (tK b n p2 = 43 ∨ tK b n p2 = 45) := by
      rcases hJ with ⟨c, e⟩ | ⟨c, c2, e⟩
      · exact ⟨e, Or.inl (by omega)⟩
      · exact ⟨e, Or.inr (by omega)⟩
    obtain ⟨rfl, hkk⟩ := hJ2
    have hsg : sig (tK b n p2) = tK b n p2 ∧ tgt (tK b n p2) = 5 ∧ cdo (tK b n p2) = (3, tK b n p2) ∧ ekk (3, tK b n p2) = tK b n p2 := by rcases hkk with e | e <;> rw [e] <;> decide
    have hn := hc2.next ha (by omega)
    have h3 := c_term_1 hE h2 hd hn.2
    rcases h3 with ⟨f, hf1, -⟩ | ⟨p3, u3, w3, C3, hr3, hc3, hv3⟩
    · have := hf1.1
      omega
    · subst ex
      subst eG
      have hstep := Lx_step (tK b n p2) hL hsg.1 ⟨by omega, by omega, by omega⟩ hsg.2.1 (by omega) (by omega) hx2 hv3
      rw [hsg.2.2.1] at hstep
      exact ⟨p3, u3, w3, _, k + 1, by show y43.toInt = _; omega, by have := hv3.1; omega, hc3.emit he (x := (3, (tK b n p2))) (by rw [hsg.2.2.2]; omega) rfl, hstep⟩)
  obtain ⟨p2, u2, w2, C2, k, hk, hpk, hc2, hx2⟩ := hI
  simp only at hk hc2
  have ht2 := hc2.t
  rcases hh with ⟨c3, -⟩ | ⟨c3, ⟨c43, c45, rfl, rfl⟩ | ⟨G21, hJ, -, -, r25, G26, ha, r31, G32, h2, c31, rfl, rfl⟩⟩
  · omega
  · exact Or.inr ⟨p2, u2, w2, C2, o, hc2, Lx_end hx2 (fun T hT => ⟨fun _ => hT.1 (by decide), fun _ => by omega, fun q => absurd q (by decide), fun q => absurd q (by decide), fun q => absurd q (by decide)⟩)⟩
  · have hJ2 : G8 = G21 ∧ (tK b n p2 = 43 ∨ tK b n p2 = 45) := by
      rcases hJ with ⟨c, e⟩ | ⟨c, c2, e⟩
      · exact ⟨e, Or.inl (by omega)⟩
      · exact ⟨e, Or.inr (by omega)⟩
    obtain ⟨rfl, hkk⟩ := hJ2
    have hsg : sig (tK b n p2) = tK b n p2 ∧ tgt (tK b n p2) = 5 ∧ cdo (tK b n p2) = (3, tK b n p2) ∧ ekk (3, tK b n p2) = tK b n p2 := by rcases hkk with e | e <;> rw [e] <;> decide
    have hn := hc2.next ha (by omega)
    rcases c_term_1 hE h2 hd hn.2 with ⟨f, hf1, hf2⟩ | ⟨p3, u3, w3, C3, hr3, hc3, hv3⟩
    · exact Or.inl ⟨f, ⟨rfl, hf1.2⟩, Lf_step (tK b n p2) hL hsg.1 ⟨by omega, by omega, by omega⟩ hsg.2.1 (by omega) hx2 hf2⟩
    · omega
theorem c_rel_1 {b : Nat → Int} {n c0 d p : Nat} {E O : XR} (hE : XE_1 b n c0 1 E) {p0 r : Int32} {G G1 : GS} {C : List (Int × Int)} {u w : Int} (h : P_fRelation_1_s E O p0 G r G1) (hd : p0.toInt = (d : Int)) (hc : CfC_1 b n c0 G p C u w) (h146 : tK b n p ≠ 146) : LR_1 b n c0 4 d p C u w r G1 := by
  obtain ⟨-, -, -, r1, G2, h1, hh⟩ := h
  have z : (0 : Int32).toInt = 0 := rfl
  have o : (1 : Int32).toInt = 1 := rfl
  rcases c_sum_1 hE h1 hd hc with ⟨f, hf1, hf2⟩ | ⟨p1, u1, w1, C1, hr1, hc1, hv1⟩
  · rcases hh with ⟨c2, rfl, rfl⟩ | ⟨c2, -⟩
    · exact Or.inl ⟨f, ⟨z, hf1.2⟩, Lf_rel0 h146 hf2⟩
    · have := hf1.1
      omega
  have ht1 := hc1.t
  rcases hh with ⟨c2, -⟩ | ⟨c2, ⟨c3, c4, c5, rfl, rfl⟩ | ⟨G11, hJ, -, -, r15, G16, ha, r21, G22, h2, hh⟩⟩
  · omega
  · exact Or.inr ⟨p1, u1, w1, C1, o, hc1, Lv_rel0 h146 hv1 (by omega)⟩
  · have hJ2 : G2 = G11 ∧ (tK b n p1 = 60 ∨ tK b n p1 = 62 ∨ tK b n p1 = 61) := by
      rcases hJ with ⟨c, e⟩ | ⟨c, ⟨c6, e⟩ | ⟨c6, c7, e⟩⟩
      · exact ⟨e, by omega⟩
      · exact ⟨e, by omega⟩
      · exact ⟨e, by omega⟩
    obtain ⟨rfl, hkk⟩ := hJ2
    have hsg : cdo (tK b n p1) = (3, tK b n p1) ∧ ekk (3, tK b n p1) = tK b n p1 := by rcases hkk with e | e | e <;> rw [e] <;> decide
    have hn := hc1.next ha (by omega)
    rcases c_sum_1 hE h2 hd hn.2 with ⟨f, hf1, hf2⟩ | ⟨p3, u3, w3, C3, hr3, hc3, hv3⟩
    · rcases hh with ⟨c6, rfl, rfl⟩ | ⟨c6, -⟩
      · exact Or.inl ⟨f, ⟨z, hf1.2⟩, Lf_rel1 h146 hkk hv1 hf2⟩
      · have := hf1.1
        omega
    · rcases hh with ⟨c6, -⟩ | ⟨c6, G29, he, rfl, rfl⟩
      · omega
      · have hv := Lv_rel1 h146 hkk (by omega) hv1 hv3
        rw [hsg.1] at hv
        exact Or.inr ⟨p3, u3, w3, _, o, hc3.emit he (x := (3, tK b n p1)) (by rw [hsg.2]; omega) rfl, hv⟩
theorem c_one_1 {b : Nat → Int} {n c0 d p : Nat} {E O : XR} (hE : XE_1 b n c0 1 E) (hO : XE_1 b n c0 3 O) {p0 r : Int32} {G G1 : GS} {C : List (Int × Int)} {u w : Int} (h : P_fOne_1_s E O p0 G r G1) (hd : p0.toInt = (d : Int)) (hc : CfC_1 b n c0 G p C u w) : LR_1 b n c0 3 d p C u w r G1 := by
  obtain ⟨-, -, -, hh⟩ := h
  have z : (0 : Int32).toInt = 0 := rfl
  have o : (1 : Int32).toInt = 1 := rfl
  have ht := hc.t
  rcases hh with ⟨c, ⟨c1, r3, G4, ha, y9, t9, r10, G11, hO1, hh⟩ | ⟨c1, r22, G23, ha, rfl, rfl⟩⟩ | ⟨c, r28, G29, hr, rfl, rfl⟩
  · have hk : tK b n p = 146 := by omega
    have hn := hc.next ha (by omega)
    rcases hO y9 (d + 1) G4 r10 G11 (tNx b n p) C u w (by omega) hO1 hn.2 with ⟨f, hf1, hf2⟩ | ⟨p1, u1, w1, C1, hr1, hc1, hv1⟩
    · rcases hh with ⟨c2, rfl, rfl⟩ | ⟨c2, -⟩
      · exact Or.inl ⟨f, ⟨z, hf1.2⟩, Lf_not hk (by omega) hf2⟩
      · have := hf1.1
        omega
    · rcases hh with ⟨c2, -⟩ | ⟨c2, G18, he, rfl, rfl⟩
      · omega
      · have hv := Lv_not hk (by omega) (by omega) hv1
        rw [show cdo 21 = (2, 0) from rfl] at hv
        exact Or.inr ⟨p1, u1, w1, _, o, hc1.emit he (x := (2, 0)) rfl rfl, hv⟩
  · exact Or.inl ⟨_, (c_ref ha hc.1).1, Lf_not7 (by omega) (by omega)⟩
  · rcases c_rel_1 hE hr hd hc (by omega) with ⟨f, hf1, hf2⟩ | ⟨p1, u1, w1, C1, hr1, hc1, hv1⟩
    · exact Or.inl ⟨f, hf1, Lf_one hf2⟩
    · exact Or.inr ⟨p1, u1, w1, C1, hr1, hc1, Lv_one hv1⟩
theorem c_both_1 {b : Nat → Int} {n c0 d p : Nat} {E O : XR} (hE : XE_1 b n c0 1 E) (hO : XE_1 b n c0 3 O) {p0 r : Int32} {G G1 : GS} {C : List (Int × Int)} {u w : Int} (h : P_fBoth_1_s E O p0 G r G1) (hd : p0.toInt = (d : Int)) (hc : CfC_1 b n c0 G p C u w) : LR_1 b n c0 2 d p C u w r G1 := by
  obtain ⟨-, -, -, r1, G2, h1, hh⟩ := h
  have z : (0 : Int32).toInt = ((0 : Nat) : Int) := rfl
  have o : (1 : Int32).toInt = 1 := rfl
  have ht := hc.t
  have hL : ((2 : Int) = 6 ∧ (3 : Int) = 7) ∨ ((2 : Int) = 5 ∧ (3 : Int) = 6) ∨ ((2 : Int) = 2 ∧ (3 : Int) = 3) ∨ ((2 : Int) = 1 ∧ (3 : Int) = 2) := Or.inr (Or.inr (Or.inl ⟨rfl, rfl⟩))
  rcases c_one_1 hE hO h1 hd hc with ⟨f, hf1, hf2⟩ | ⟨p1, u1, w1, C1, hr1, hc1, hv1⟩
  · rcases hh with ⟨c2, rfl, rfl⟩ | ⟨c2, -⟩
    · exact Or.inl ⟨f, ⟨rfl, hf1.2⟩, Lf_init hL hf2⟩
    · have := hf1.1
      omega
  rcases hh with ⟨c2, -⟩ | ⟨c2, x, G8, hRc, hx, -, -, hh⟩
  · omega
  have hI := hRc (fun z => ∃ (p1 : Nat) (u1 w1 : Int) (C1 : List (Int × Int)) (k : Nat), z.1.toInt = (k : Int) ∧ p + 1 + k ≤ p1 ∧ CfC_1 b n c0 z.2 p1 C1 u1 w1 ∧ Lx b n 2 3 d p p1 C C1 u u1 w w1) ⟨p1, u1, w1, C1, 0, z, by have := hv1.1; omega, hc1, Lx_init hL hv1⟩ (by
    rintro ⟨x1, G_1⟩ ⟨xn, G_1n⟩ ⟨p2, u2, w2, C2, k, hk, hpk, hc2, hx2⟩ ⟨x1, G_1, xn, G_1n, e1, e2, -, -, c1, c145, r25, G26, ha, r31, G32, h2, c31, G39, he, y43, t43, ex, eG⟩
    obtain ⟨rfl, rfl⟩ := Prod.mk.inj e1
    obtain ⟨rfl, rfl⟩ := Prod.mk.inj e2
    simp only at hk hc2
    have ht2 := hc2.t
    have hkk : tK b n p2 = 145 := by omega
    have hn := hc2.next ha (by omega)
    have h3 := c_one_1 hE hO h2 hd hn.2
    rcases h3 with ⟨f, hf1, -⟩ | ⟨p3, u3, w3, C3, hr3, hc3, hv3⟩
    · have := hf1.1
      omega
    · subst ex
      subst eG
      have hstep := Lx_step 38 hL (by rw [hkk]; rfl) (by decide) (by decide) (by omega) (by omega) hx2 hv3
      rw [show cdo 38 = (3, 38) from rfl] at hstep
      exact ⟨p3, u3, w3, _, k + 1, by show y43.toInt = _; omega, by have := hv3.1; omega, hc3.emit he (x := (3, 38)) rfl rfl, hstep⟩)
  obtain ⟨p2, u2, w2, C2, k, hk, hpk, hc2, hx2⟩ := hI
  simp only at hk hc2
  have ht2 := hc2.t
  rcases hh with ⟨c3, -⟩ | ⟨c3, ⟨c4, r25, G26, ha, r31, G32, h2, c31, rfl, rfl⟩ | ⟨c4, rfl, rfl⟩⟩
  · omega
  · have hkk : tK b n p2 = 145 := by omega
    have hn := hc2.next ha (by omega)
    rcases c_one_1 hE hO h2 hd hn.2 with ⟨f, hf1, hf2⟩ | ⟨p3, u3, w3, C3, hr3, hc3, hv3⟩
    · exact Or.inl ⟨f, ⟨rfl, hf1.2⟩, Lf_step 38 hL (by rw [hkk]; rfl) (by decide) (by decide) (by omega) hx2 hf2⟩
    · omega
  · exact Or.inr ⟨p2, u2, w2, C2, o, hc2, Lx_end hx2 (fun T hT => ⟨fun _ => hT.1 (by decide), fun _ => hT.2.1 (by decide), fun _ => hT.2.2.1 (by decide), fun _ => by omega, fun q => absurd q (by decide)⟩)⟩
theorem c_either_1 {b : Nat → Int} {n c0 d p : Nat} {E O : XR} (hE : XE_1 b n c0 1 E) (hO : XE_1 b n c0 3 O) {p0 r : Int32} {G G1 : GS} {C : List (Int × Int)} {u w : Int} (h : P_fEither_1_s E O p0 G r G1) (hd : p0.toInt = (d : Int)) (hc : CfC_1 b n c0 G p C u w) : LR_1 b n c0 1 d p C u w r G1 := by
  obtain ⟨-, -, -, r1, G2, h1, hh⟩ := h
  have z : (0 : Int32).toInt = ((0 : Nat) : Int) := rfl
  have o : (1 : Int32).toInt = 1 := rfl
  have ht := hc.t
  have hL : ((1 : Int) = 6 ∧ (2 : Int) = 7) ∨ ((1 : Int) = 5 ∧ (2 : Int) = 6) ∨ ((1 : Int) = 2 ∧ (2 : Int) = 3) ∨ ((1 : Int) = 1 ∧ (2 : Int) = 2) := Or.inr (Or.inr (Or.inr ⟨rfl, rfl⟩))
  rcases c_both_1 hE hO h1 hd hc with ⟨f, hf1, hf2⟩ | ⟨p1, u1, w1, C1, hr1, hc1, hv1⟩
  · rcases hh with ⟨c2, rfl, rfl⟩ | ⟨c2, -⟩
    · exact Or.inl ⟨f, ⟨rfl, hf1.2⟩, Lf_init hL hf2⟩
    · have := hf1.1
      omega
  rcases hh with ⟨c2, -⟩ | ⟨c2, x, G8, hRc, hx, -, -, hh⟩
  · omega
  have hI := hRc (fun z => ∃ (p1 : Nat) (u1 w1 : Int) (C1 : List (Int × Int)) (k : Nat), z.1.toInt = (k : Int) ∧ p + 1 + k ≤ p1 ∧ CfC_1 b n c0 z.2 p1 C1 u1 w1 ∧ Lx b n 1 2 d p p1 C C1 u u1 w w1) ⟨p1, u1, w1, C1, 0, z, by have := hv1.1; omega, hc1, Lx_init hL hv1⟩ (by
    rintro ⟨x1, G_1⟩ ⟨xn, G_1n⟩ ⟨p2, u2, w2, C2, k, hk, hpk, hc2, hx2⟩ ⟨x1, G_1, xn, G_1n, e1, e2, -, -, c1, c144, r25, G26, ha, r31, G32, h2, c31, G39, he, y43, t43, ex, eG⟩
    obtain ⟨rfl, rfl⟩ := Prod.mk.inj e1
    obtain ⟨rfl, rfl⟩ := Prod.mk.inj e2
    simp only at hk hc2
    have ht2 := hc2.t
    have hkk : tK b n p2 = 144 := by omega
    have hn := hc2.next ha (by omega)
    have h3 := c_both_1 hE hO h2 hd hn.2
    rcases h3 with ⟨f, hf1, -⟩ | ⟨p3, u3, w3, C3, hr3, hc3, hv3⟩
    · have := hf1.1
      omega
    · subst ex
      subst eG
      have hstep := Lx_step 124 hL (by rw [hkk]; rfl) (by decide) (by decide) (by omega) (by omega) hx2 hv3
      rw [show cdo 124 = (3, 124) from rfl] at hstep
      exact ⟨p3, u3, w3, _, k + 1, by show y43.toInt = _; omega, by have := hv3.1; omega, hc3.emit he (x := (3, 124)) rfl rfl, hstep⟩)
  obtain ⟨p2, u2, w2, C2, k, hk, hpk, hc2, hx2⟩ := hI
  simp only at hk hc2
  have ht2 := hc2.t
  rcases hh with ⟨c3, -⟩ | ⟨c3, ⟨c4, r25, G26, ha, r31, G32, h2, c31, rfl, rfl⟩ | ⟨c4, rfl, rfl⟩⟩
  · omega
  · have hkk : tK b n p2 = 144 := by omega
    have hn := hc2.next ha (by omega)
    rcases c_both_1 hE hO h2 hd hn.2 with ⟨f, hf1, hf2⟩ | ⟨p3, u3, w3, C3, hr3, hc3, hv3⟩
    · exact Or.inl ⟨f, ⟨rfl, hf1.2⟩, Lf_step 124 hL (by rw [hkk]; rfl) (by decide) (by decide) (by omega) hx2 hf2⟩
    · omega
  · exact Or.inr ⟨p2, u2, w2, C2, o, hc2, Lx_end hx2 (fun T hT => ⟨fun _ => hT.1 (by decide), fun _ => hT.2.1 (by decide), fun _ => hT.2.2.1 (by decide), fun _ => hT.2.2.2.1 (by decide), fun _ => by omega⟩)⟩
theorem c_grp_1 {b : Nat → Int} {n c0 : Nat} (k : Nat) : XE_1 b n c0 1 (PPf_1 k).1 ∧ XE_1 b n c0 3 (PPf_1 k).2 := by
  induction k with
  | zero => exact ⟨fun p0 d G r G1 p C u w _ h _ => h.elim, fun p0 d G r G1 p C u w _ h _ => h.elim⟩
  | succ k ih => exact ⟨fun p0 d G r G1 p C u w hd h hc => c_either_1 ih.1 ih.2 h hd hc, fun p0 d G r G1 p C u w hd h hc => c_one_1 ih.1 ih.2 h hd hc⟩
theorem c_form_1 {b : Nat → Int} {n c0 p : Nat} {r : Int32} {G G1 : GS} {w : Int} (h : P_fRead_1 G r G1) (hp : CPx b n G p) (hw : (G.1 1 12).toInt = w) (hw90 : w ≤ 90) (hC : CodeC_1 c0 [] G) : (∃ f, CF f r G1 ∧ Ev b n (true, p, [], [], 0, w) (.inl f)) ∨ (∃ p' u' w' C', r.toInt = 1 ∧ CfC_1 b n c0 G1 p' C' u' w' ∧ p < p' ∧ Ev b n (true, p, [], [], 0, w) (.inr (p', C', u', w'))) := by
  obtain ⟨-, -, -, G2, -, hF2, -, e2, r3, G4, h1, rfl, rfl⟩ := h
  have hc : CfC_1 b n c0 G2 p [] 0 w := ⟨hp.fr hF2 (by decide) (by decide) (by decide) (by decide), by rw [e2]; rfl, by rw [hF2.i 1 12 (by decide) (by decide)]; exact hw, hC.fr hF2 (by decide) (by decide) (by decide) (by decide), by decide, hw90⟩
  have hg := c_grp_1 (b := b) (n := n) (c0 := c0) 7
  rcases c_either_1 (d := 0) hg.1 hg.2 h1 rfl hc with ⟨f, hf1, hf2⟩ | ⟨p1, u1, w1, C1, hr1, hc1, hv1⟩
  · exact Or.inl ⟨f, hf1, Ev_topf hf2⟩
  · exact Or.inr ⟨p1, u1, w1, C1, hr1, hc1, hv1.1, Ev_top hv1⟩
def CodeC_2 (c0 : Nat) (C : List (Int × Int)) (G : GS) : Prop := ((c0 + C.length ≤ 580 ∧ (G.1 2 13).toInt = ((c0 + C.length : Nat) : Int)) ∨ (580 < c0 + C.length ∧ (G.1 2 13).toInt = 580)) ∧ ∀ i, i < C.length → c0 + i < 580 → G.1 27 (c0 + i) = encd (ekk (C.getD i (0, 0))) (ekv (C.getD i (0, 0)))
def CfC_2 (b : Nat → Int) (n c0 : Nat) (G : GS) (p : Nat) (C : List (Int × Int)) (u w : Int) : Prop := CPx b n G p ∧ (G.1 4 2).toInt = u ∧ (G.1 2 12).toInt = w ∧ CodeC_2 c0 C G ∧ u ≤ 30 ∧ w ≤ 90
def LR_2 (b : Nat → Int) (n c0 : Nat) (L : Int) (d p : Nat) (C : List (Int × Int)) (u w : Int) (r : Int32) (G1 : GS) : Prop := (∃ f, CF f r G1 ∧ Lf b n L d p C u w f) ∨ (∃ p' u' w' C', r.toInt = 1 ∧ CfC_2 b n c0 G1 p' C' u' w' ∧ Lv b n L d p p' C C' u u' w w')
def XE_2 (b : Nat → Int) (n c0 : Nat) (L : Int) (E : XR) : Prop := ∀ (p0 : Int32) (d : Nat) (G : GS) (r : Int32) (G1 : GS) (p : Nat) (C : List (Int × Int)) (u w : Int), p0.toInt = (d : Int) → E p0 G r G1 → CfC_2 b n c0 G p C u w → LR_2 b n c0 L d p C u w r G1
theorem CodeC_2.fr {c0 : Nat} {C : List (Int × Int)} {rs : List Nat} {fs : List (Nat × Nat)} {G G1 : GS} (h : CodeC_2 c0 C G) (hF : Fr rs fs G G1) (h1 : 2 ∉ rs) (h2 : (2, 13) ∉ fs) (h3 : 27 ∉ rs) (h4 : ∀ x ∈ fs, x.1 ≠ 27) : CodeC_2 c0 C G1 := by
  unfold CodeC_2 at h ⊢
  rw [hF.i 2 13 h1 h2, hF.row1 27 h3 h4]
  exact h
theorem c_emit_2 {c0 : Nat} {C : List (Int × Int)} {G G1 : GS} {k v : Int32} {x : Int × Int} (h : P_emit_2 k v G G1) (hC : CodeC_2 c0 C G) (hk : k.toInt = ekk x) (hv : v.toInt = ekv x) : CodeC_2 c0 (C ++ [x]) G1 := by
  obtain ⟨-, -, hh⟩ := h
  obtain ⟨h1, h2⟩ := hC
  unfold CodeC_2
  rw [List.length_append, List.length_singleton]
  rcases hh with ⟨c, rfl⟩ | ⟨c, y3, t3, y5, e5, y6, e6, hF, e13, eR⟩
  · refine ⟨Or.inr ⟨by omega, by omega⟩, fun i hi hc => ?_⟩
    rw [getD_sn, if_pos (by omega)]
    exact h2 i (by omega) hc
  · refine ⟨Or.inl ⟨by omega, by rw [e13]; omega⟩, fun i hi hc => ?_⟩
    rw [eR, getD_sn]
    by_cases hq : i < C.length
    · rw [if_pos hq]
      have e : upd (G.1 27) (G.1 2 13).toNatClampNeg y6 (c0 + i) = G.1 27 (c0 + i) := if_neg (by have := c_nat (G.1 2 13); omega)
      rw [e]
      exact h2 i hq hc
    · rw [if_neg hq, if_pos (by omega)]
      have e : upd (G.1 27) (G.1 2 13).toNatClampNeg y6 (c0 + i) = y6 := if_pos (by have := c_nat (G.1 2 13); omega)
      rw [e, e6, e5, encd, ← hk, ← hv, Int32.ofInt_toInt, Int32.ofInt_toInt]
theorem CfC_2.next {b : Nat → Int} {n c0 p : Nat} {G G1 : GS} {C : List (Int × Int)} {u w : Int} {r : Int32} (h : CfC_2 b n c0 G p C u w) (ha : P_tAdvance G r G1) (hk : tK b n p ≠ 202) : r.toInt = 1 ∧ CfC_2 b n c0 G1 (tNx b n p) C u w := by
  obtain ⟨hp, hu, hw, hC, hb⟩ := h
  have hn := c_next ha hp hk
  exact ⟨hn.1, hn.2, by rw [ha.2.1.i 4 2 (by decide) (by decide)]; exact hu, by rw [ha.2.1.i 2 12 (by decide) (by decide)]; exact hw, hC.fr ha.2.1 (by decide) (by decide) (by decide) (by decide), hb⟩
theorem CfC_2.emit {b : Nat → Int} {n c0 p : Nat} {G G1 : GS} {C : List (Int × Int)} {u w : Int} {k v : Int32} {x : Int × Int} (h : CfC_2 b n c0 G p C u w) (he : P_emit_2 k v G G1) (hk : k.toInt = ekk x) (hv : v.toInt = ekv x) : CfC_2 b n c0 G1 p (C ++ [x]) u w := by
  obtain ⟨hp, hu, hw, hC, hb⟩ := h
  exact ⟨hp.fr he.2.1 (by decide) (by decide) (by decide) (by decide), by rw [he.2.1.i 4 2 (by decide) (by decide)]; exact hu, by rw [he.2.1.i 2 12 (by decide) (by decide)]; exact hw, c_emit_2 he hC hk hv, hb⟩
theorem CfC_2.t {b : Nat → Int} {n c0 p : Nat} {G : GS} {C : List (Int × Int)} {u w : Int} (h : CfC_2 b n c0 G p C u w) : n ≤ 1600 ∧ p ≤ n ∧ (G.1 3 3).toInt = tK b n p ∧ p ≤ tNx b n p ∧ tNx b n p ≤ n ∧ (tK b n p ≠ 203 → p < tNx b n p) := by
  have h1 := tN_p (b := b) h.1.1.2.1 h.1.2.2.2
  exact ⟨h.1.1.2.1, h.1.2.2.2, h.1.2.1.1, h1.1, h1.2.1, fun q => (h1.2.2 q).1⟩
theorem c_brk_2 {b : Nat → Int} {n c0 d p : Nat} {E O : XR} (hE : XE_2 b n c0 1 E) {p0 r : Int32} {G G1 : GS} {C : List (Int × Int)} {u w : Int} (h : P_fBracket_2_s E O p0 G r G1) (hd : p0.toInt = (d : Int)) (hc : CfC_2 b n c0 G p C (u + 1) (w + 1)) (hk : tK b n p = 40) (hf : ¬ (w = 90 ∨ u = 30)) : LR_2 b n c0 7 d p C u w r G1 := by
  obtain ⟨-, -, -, hh⟩ := h
  have z : (0 : Int32).toInt = 0 := rfl
  have ht := hc.t
  rcases hh with ⟨c, r2, G3, ha, y8, t8, r9, G10, hE1, hh⟩ | ⟨c, r29, G30, ha, rfl, rfl⟩
  · have hn := hc.next ha (by omega)
    have h1 := hE y8 (d + 1) G3 r9 G10 (tNx b n p) C (u + 1) (w + 1) (by omega) hE1 hn.2
    rcases h1 with ⟨f, hf1, hf2⟩ | ⟨p', u', w', C', hr, hc', hv⟩
    · rcases hh with ⟨c2, rfl, rfl⟩ | ⟨c2, hh⟩
      · exact Or.inl ⟨f, ⟨z, hf1.2⟩, Lf_brk0 hk hf (by omega) hf2⟩
      · have := hf1.1
        omega
    · rcases hh with ⟨c2, -⟩ | ⟨c2, ⟨c3, r23, G24, ha2, rfl, rfl⟩ | ⟨c3, r17, G18, ha2, rfl, rfl⟩⟩
      · omega
      · have ht' := hc'.t
        have hn' := hc'.next ha2 (by omega)
        exact Or.inr ⟨tNx b n p', u', w', C', hn'.1, hn'.2, Lv_brk hk hf (by omega) (by omega) (by omega) (by omega) hv⟩
      · have ht' := hc'.t
        exact Or.inl ⟨_, (c_ref ha2 hc'.1).1, Lf_brk1 hk hf (by omega) (by omega) hv⟩
  · exact Or.inl ⟨_, (c_ref ha hc.1).1, Lf_unit (Or.inr (Or.inr ⟨hk, by omega⟩))⟩
theorem c_unit_2 {b : Nat → Int} {n c0 d p : Nat} {E O : XR} (hE : XE_2 b n c0 1 E) {p0 r : Int32} {G G1 : GS} {C : List (Int × Int)} {u w : Int} (h : P_fUnit_2_s E O p0 G r G1) (hd : p0.toInt = (d : Int)) (hc : CfC_2 b n c0 G p C u w) : LR_2 b n c0 7 d p C u w r G1 := by
  obtain ⟨-, -, -, hh⟩ := h
  have z : (0 : Int32).toInt = 0 := rfl
  have ht := hc.t
  obtain ⟨hp, hu, hw, hC, hu30, hw90⟩ := id hc
  rcases hh with ⟨c, r3, G4, ha, rfl, rfl⟩ | ⟨c, ⟨cw, y11, t11, y13, t13, hh⟩ | ⟨cw, r3, G4, ha, rfl, rfl⟩⟩
  · exact Or.inl ⟨_, (c_ref ha hp).1, Lf_unit (Or.inr (Or.inl (Or.inr (by omega))))⟩
  · have g14 : ∀ G14 : GS, Fr [] [(2, 12), (4, 2)] G G14 → G14.1 2 12 = y13 → G14.1 4 2 = y11 → CfC_2 b n c0 G14 p C (u + 1) (w + 1) := by
      intro G14 hF e12 e2
      exact ⟨hp.fr hF (by decide) (by decide) (by decide) (by decide), by rw [e2]; omega, by rw [e12]; omega, hC.fr hF (by decide) (by decide) (by decide) (by decide), by omega, by omega⟩
    have fin : ∀ (x : Int × Int) (kk vv r28 : Int32) (G14 G24 G29 : GS), Fr [] [(2, 12), (4, 2)] G G14 → G14.1 2 12 = y13 → G14.1 4 2 = y11 → P_emit_2 kk vv G14 G24 → P_tAdvance G24 r28 G29 → kk.toInt = ekk x → vv.toInt = ekv x → tK b n p ≠ 202 → r28.toInt = 1 ∧ CfC_2 b n c0 G29 (tNx b n p) (C ++ [x]) (u + 1) (w + 1) := by
      intro x kk vv r28 G14 G24 G29 hF e12 e2 he ha hk hv h202
      exact ((g14 G14 hF e12 e2).emit he hk hv).next ha h202
    rcases hh with ⟨k40, G14, -, hF14, e12, e2, r16, G17, hb, rfl, rfl⟩ | ⟨k40, hh⟩
    · exact c_brk_2 hE hb hd (g14 G14 hF14 e12 e2) (by omega) (by omega)
    rcases hh with ⟨k139, G14, -, hF14, e12, e2, G24, he, r28, G29, ha, rfl, rfl⟩ | ⟨k139, hh⟩
    · have hk : tK b n p = 139 := by omega
      have hf := fin (1, 0) (G.1 3 3) 0 r28 G14 G24 G29 hF14 e12 e2 he ha (by show _ = (139 : Int); omega) rfl (by omega)
      have hv := Lv_opnd (b := b) (n := n) (d := d) (p := p) (C := C) (u := u) (w := w) (Or.inr (by rw [hk]; decide)) (by omega) (by omega) (by omega) (by omega)
      rw [hk, show (if ask 139 < 0 then ((0 : Int), tV b n p) else (1, ask 139)) = (1, 0) from rfl] at hv
      exact Or.inr ⟨_, _, _, _, hf.1, hf.2, hv⟩
    rcases hh with ⟨k140, G14, -, hF14, e12, e2, G24, he, r28, G29, ha, rfl, rfl⟩ | ⟨k140, hh⟩
    · have hk : tK b n p = 140 := by omega
      have hf := fin (1, 1) (G.1 3 3) 0 r28 G14 G24 G29 hF14 e12 e2 he ha (by show _ = (140 : Int); omega) rfl (by omega)
      have hv := Lv_opnd (b := b) (n := n) (d := d) (p := p) (C := C) (u := u) (w := w) (Or.inr (by rw [hk]; decide)) (by omega) (by omega) (by omega) (by omega)
      rw [hk, show (if ask 140 < 0 then ((0 : Int), tV b n p) else (1, ask 140)) = (1, 1) from rfl] at hv
      exact Or.inr ⟨_, _, _, _, hf.1, hf.2, hv⟩
    rcases hh with ⟨k141, G14, -, hF14, e12, e2, G24, he, r28, G29, ha, rfl, rfl⟩ | ⟨k141, hh⟩
    · have hk : tK b n p = 141 := by omega
      have hf := fin (1, 2) (G.1 3 3) 0 r28 G14 G24 G29 hF14 e12 e2 he ha (by show _ = (141 : Int); omega) rfl (by omega)
      have hv := Lv_opnd (b := b) (n := n) (d := d) (p := p) (C := C) (u := u) (w := w) (Or.inr (by rw [hk]; decide)) (by omega) (by omega) (by omega) (by omega)
      rw [hk, show (if ask 141 < 0 then ((0 : Int), tV b n p) else (1, ask 141)) = (1, 2) from rfl] at hv
      exact Or.inr ⟨_, _, _, _, hf.1, hf.2, hv⟩
    rcases hh with ⟨k142, G14, -, hF14, e12, e2, G24, he, r28, G29, ha, rfl, rfl⟩ | ⟨k142, hh⟩
    · have hk : tK b n p = 142 := by omega
      have hf := fin (1, 3) (G.1 3 3) 0 r28 G14 G24 G29 hF14 e12 e2 he ha (by show _ = (142 : Int); omega) rfl (by omega)
      have hv := Lv_opnd (b := b) (n := n) (d := d) (p := p) (C := C) (u := u) (w := w) (Or.inr (by rw [hk]; decide)) (by omega) (by omega) (by omega) (by omega)
      rw [hk, show (if ask 142 < 0 then ((0 : Int), tV b n p) else (1, ask 142)) = (1, 3) from rfl] at hv
      exact Or.inr ⟨_, _, _, _, hf.1, hf.2, hv⟩
    rcases hh with ⟨k143, G14, -, hF14, e12, e2, G24, he, r28, G29, ha, rfl, rfl⟩ | ⟨k143, hh⟩
    · have hk : tK b n p = 143 := by omega
      have hf := fin (1, 4) (G.1 3 3) 0 r28 G14 G24 G29 hF14 e12 e2 he ha (by show _ = (143 : Int); omega) rfl (by omega)
      have hv := Lv_opnd (b := b) (n := n) (d := d) (p := p) (C := C) (u := u) (w := w) (Or.inr (by rw [hk]; decide)) (by omega) (by omega) (by omega) (by omega)
      rw [hk, show (if ask 143 < 0 then ((0 : Int), tV b n p) else (1, ask 143)) = (1, 4) from rfl] at hv
      exact Or.inr ⟨_, _, _, _, hf.1, hf.2, hv⟩
    rcases hh with ⟨k147, G14, -, hF14, e12, e2, G24, he, r28, G29, ha, rfl, rfl⟩ | ⟨k147, hh⟩
    · have hk : tK b n p = 147 := by omega
      have hf := fin (1, 5) (G.1 3 3) 0 r28 G14 G24 G29 hF14 e12 e2 he ha (by show _ = (147 : Int); omega) rfl (by omega)
      have hv := Lv_opnd (b := b) (n := n) (d := d) (p := p) (C := C) (u := u) (w := w) (Or.inr (by rw [hk]; decide)) (by omega) (by omega) (by omega) (by omega)
      rw [hk, show (if ask 147 < 0 then ((0 : Int), tV b n p) else (1, ask 147)) = (1, 5) from rfl] at hv
      exact Or.inr ⟨_, _, _, _, hf.1, hf.2, hv⟩
    rcases hh with ⟨k148, G14, -, hF14, e12, e2, G24, he, r28, G29, ha, rfl, rfl⟩ | ⟨k148, hh⟩
    · have hk : tK b n p = 148 := by omega
      have hf := fin (1, 6) (G.1 3 3) 0 r28 G14 G24 G29 hF14 e12 e2 he ha (by show _ = (148 : Int); omega) rfl (by omega)
      have hv := Lv_opnd (b := b) (n := n) (d := d) (p := p) (C := C) (u := u) (w := w) (Or.inr (by rw [hk]; decide)) (by omega) (by omega) (by omega) (by omega)
      rw [hk, show (if ask 148 < 0 then ((0 : Int), tV b n p) else (1, ask 148)) = (1, 6) from rfl] at hv
      exact Or.inr ⟨_, _, _, _, hf.1, hf.2, hv⟩
    rcases hh with ⟨k149, G14, -, hF14, e12, e2, G24, he, r28, G29, ha, rfl, rfl⟩ | ⟨k149, hh⟩
    · have hk : tK b n p = 149 := by omega
      have hf := fin (1, 7) (G.1 3 3) 0 r28 G14 G24 G29 hF14 e12 e2 he ha (by show _ = (149 : Int); omega) rfl (by omega)
      have hv := Lv_opnd (b := b) (n := n) (d := d) (p := p) (C := C) (u := u) (w := w) (Or.inr (by rw [hk]; decide)) (by omega) (by omega) (by omega) (by omega)
      rw [hk, show (if ask 149 < 0 then ((0 : Int), tV b n p) else (1, ask 149)) = (1, 7) from rfl] at hv
      exact Or.inr ⟨_, _, _, _, hf.1, hf.2, hv⟩
    rcases hh with ⟨k150, G14, -, hF14, e12, e2, G24, he, r28, G29, ha, rfl, rfl⟩ | ⟨k150, hh⟩
    · have hk : tK b n p = 150 := by omega
      have hf := fin (1, 8) (G.1 3 3) 0 r28 G14 G24 G29 hF14 e12 e2 he ha (by show _ = (150 : Int); omega) rfl (by omega)
      have hv := Lv_opnd (b := b) (n := n) (d := d) (p := p) (C := C) (u := u) (w := w) (Or.inr (by rw [hk]; decide)) (by omega) (by omega) (by omega) (by omega)
      rw [hk, show (if ask 150 < 0 then ((0 : Int), tV b n p) else (1, ask 150)) = (1, 8) from rfl] at hv
      exact Or.inr ⟨_, _, _, _, hf.1, hf.2, hv⟩
    rcases hh with ⟨k201, G14, -, hF14, e12, e2, G24, he, r28, G29, ha, rfl, rfl⟩ | ⟨k201, G14, -, hF14, e12, e2, r142, G143, ha, rfl, rfl⟩
    · have hk : tK b n p = 201 := by omega
      have h5 := hp.2.1.2.2.2.1 hk
      have hf := fin (0, tV b n p) 201 (G.1 3 5) r28 G14 G24 G29 hF14 e12 e2 he ha rfl h5 (by omega)
      have hv := Lv_opnd (b := b) (n := n) (d := d) (p := p) (C := C) (u := u) (w := w) (Or.inl hk) (by omega) (by omega) (by omega) (by omega)
      rw [hk, show (if ask 201 < 0 then ((0 : Int), tV b n p) else (1, ask 201)) = (0, tV b n p) from rfl] at hv
      exact Or.inr ⟨_, _, _, _, hf.1, hf.2, hv⟩
    · have hn := ask_neg (k := tK b n p) (by omega) (by omega) (by omega) (by omega) (by omega) (by omega) (by omega) (by omega) (by omega)
      exact Or.inl ⟨_, (c_ref ha (g14 G14 hF14 e12 e2).1).1, Lf_unit (Or.inl ⟨by omega, by omega, by omega⟩)⟩
  · exact Or.inl ⟨_, (c_ref ha hp).1, Lf_unit (Or.inr (Or.inl (Or.inl (by omega))))⟩
theorem c_term_2 {b : Nat → Int} {n c0 d p : Nat} {E O : XR} (hE : XE_2 b n c0 1 E) {p0 r : Int32} {G G1 : GS} {C : List (Int × Int)} {u w : Int} (h : P_fTerm_2_s E O p0 G r G1) (hd : p0.toInt = (d : Int)) (hc : CfC_2 b n c0 G p C u w) : LR_2 b n c0 6 d p C u w r G1 := by
  obtain ⟨-, -, -, r1, G2, h1, hh⟩ := h
  have z : (0 : Int32).toInt = ((0 : Nat) : Int) := rfl
  have o : (1 : Int32).toInt = 1 := rfl
  have ht := hc.t
  have hL : ((6 : Int) = 6 ∧ (7 : Int) = 7) ∨ ((6 : Int) = 5 ∧ (7 : Int) = 6) ∨ ((6 : Int) = 2 ∧ (7 : Int) = 3) ∨ ((6 : Int) = 1 ∧ (7 : Int) = 2) := Or.inl ⟨rfl, rfl⟩
  rcases c_unit_2 hE h1 hd hc with ⟨f, hf1, hf2⟩ | ⟨p1, u1, w1, C1, hr1, hc1, hv1⟩
  · rcases hh with ⟨c2, rfl, rfl⟩ | ⟨c2, -⟩
    · exact Or.inl ⟨f, ⟨rfl, hf1.2⟩, Lf_init hL hf2⟩
    · have := hf1.1
      omega
  rcases hh with ⟨c2, -⟩ | ⟨c2, x, G8, hRc, hx, -, -, hh⟩
  · omega
  have hI := hRc (fun z => ∃ (p1 : Nat) (u1 w1 : Int) (C1 : List (Int × Int)) (k : Nat), z.1.toInt = (k : Int) ∧ p + 1 + k ≤ p1 ∧ CfC_2 b n c0 z.2 p1 C1 u1 w1 ∧ Lx b n 6 7 d p p1 C C1 u u1 w w1) ⟨p1, u1, w1, C1, 0, z, by have := hv1.1; omega, hc1, Lx_init hL hv1⟩ (by
    rintro ⟨x1, G_1⟩ ⟨xn, G_1n⟩ ⟨p2, u2, w2, C2, k, hk, hpk, hc2, hx2⟩ ⟨x1q, G_1q, xnq, G_1nq, e1, e2, -, -, c1, r18, G19, hti, c18, r25, G26, ha, r31, G32, h2, c31, G39, he, y43, t43, ex, eG⟩
    obtain ⟨rfl, rfl⟩ := Prod.mk.inj e1
    obtain ⟨rfl, rfl⟩ := Prod.mk.inj e2
    simp only at hk hc2
    have ht2 := hc2.t
    obtain ⟨rfl, hti2⟩ := c_times hti
    have hkk : tK b n p2 = 42 ∨ tK b n p2 = 47 ∨ tK b n p2 = 37 := by have := hti2.mp c18; omega
    have hsg : sig (tK b n p2) = tK b n p2 ∧ tgt (tK b n p2) = 6 ∧ cdo (tK b n p2) = (3, tK b n p2) ∧ ekk (3, tK b n p2) = tK b n p2 := by rcases hkk with e | e | e <;> rw [e] <;> decide
    have hn := hc2.next ha (by omega)
    have h3 := c_unit_2 hE h2 hd hn.2
    rcases h3 with ⟨f, hf1, -⟩ | ⟨p3, u3, w3, C3, hr3, hc3, hv3⟩
    · have := hf1.1
      omega
    · subst ex
      subst eG
      have hstep := Lx_step (tK b n p2) hL hsg.1 ⟨by omega, by omega, by omega⟩ hsg.2.1 (by omega) (by omega) hx2 hv3
      rw [hsg.2.2.1] at hstep
      exact ⟨p3, u3, w3, _, k + 1, by show y43.toInt = _; omega, by have := hv3.1; omega, hc3.emit he (x := (3, (tK b n p2))) (by rw [hsg.2.2.2]; omega) rfl, hstep⟩)
  obtain ⟨p2, u2, w2, C2, k, hk, hpk, hc2, hx2⟩ := hI
  simp only at hk hc2
  have ht2 := hc2.t
  rcases hh with ⟨c3, -⟩ | ⟨c3, r18, G19, hti, ⟨c18, rfl, rfl⟩ | ⟨c18, r25, G26, ha, r31, G32, h2, c31, rfl, rfl⟩⟩
  · omega
  · obtain ⟨rfl, hti2⟩ := c_times hti
    have hkk : ¬ (tK b n p2 = 42 ∨ tK b n p2 = 47 ∨ tK b n p2 = 37) := fun q => hti2.mpr (by omega) c18
    exact Or.inr ⟨p2, u2, w2, C2, o, hc2, Lx_end hx2 (fun T hT => ⟨fun _ => by omega, fun q => absurd q (by decide), fun q => absurd q (by decide), fun q => absurd q (by decide), fun q => absurd q (by decide)⟩)⟩
  · obtain ⟨rfl, hti2⟩ := c_times hti
    have hkk : tK b n p2 = 42 ∨ tK b n p2 = 47 ∨ tK b n p2 = 37 := by have := hti2.mp c18; omega
    have hsg : sig (tK b n p2) = tK b n p2 ∧ tgt (tK b n p2) = 6 ∧ cdo (tK b n p2) = (3, tK b n p2) ∧ ekk (3, tK b n p2) = tK b n p2 := by rcases hkk with e | e | e <;> rw [e] <;> decide
    have hn := hc2.next ha (by omega)
    rcases c_unit_2 hE h2 hd hn.2 with ⟨f, hf1, hf2⟩ | ⟨p3, u3, w3, C3, hr3, hc3, hv3⟩
    · exact Or.inl ⟨f, ⟨rfl, hf1.2⟩, Lf_step (tK b n p2) hL hsg.1 ⟨by omega, by omega, by omega⟩ hsg.2.1 (by omega) hx2 hf2⟩
    · omega
theorem c_sum_2 {b : Nat → Int} {n c0 d p : Nat} {E O : XR} (hE : XE_2 b n c0 1 E) {p0 r : Int32} {G G1 : GS} {C : List (Int × Int)} {u w : Int} (h : P_fSum_2_s E O p0 G r G1) (hd : p0.toInt = (d : Int)) (hc : CfC_2 b n c0 G p C u w) : LR_2 b n c0 5 d p C u w r G1 := by
  obtain ⟨-, -, -, r1, G2, h1, hh⟩ := h
  have z : (0 : Int32).toInt = ((0 : Nat) : Int) := rfl
  have o : (1 : Int32).toInt = 1 := rfl
  have ht := hc.t
  have hL : ((5 : Int) = 6 ∧ (6 : Int) = 7) ∨ ((5 : Int) = 5 ∧ (6 : Int) = 6) ∨ ((5 : Int) = 2 ∧ (6 : Int) = 3) ∨ ((5 : Int) = 1 ∧ (6 : Int) = 2) := Or.inr (Or.inl ⟨rfl, rfl⟩)
  rcases c_term_2 hE h1 hd hc with ⟨f, hf1, hf2⟩ | ⟨p1, u1, w1, C1, hr1, hc1, hv1⟩
  · rcases hh with ⟨c2, rfl, rfl⟩ | ⟨c2, -⟩
    · exact Or.inl ⟨f, ⟨rfl, hf1.2⟩, Lf_init hL hf2⟩
    · have := hf1.1
      omega
  rcases hh with ⟨c2, -⟩ | ⟨c2, x, G8, hRc, hx, -, -, hh⟩
  · omega
  have hI := hRc (fun z => ∃ (p1 : Nat) (u1 w1 : Int) (C1 : List (Int × Int)) (k : Nat), z.1.toInt = (k : Int) ∧ p + 1 + k ≤ p1 ∧ CfC_2 b n c0 z.2 p1 C1 u1 w1 ∧ Lx b n 5 6 d p p1 C C1 u u1 w w1) ⟨p1, u1, w1, C1, 0, z, by have := hv1.1; omega, hc1, Lx_init hL hv1⟩ (by
    rintro ⟨x1, G_1⟩ ⟨xn, G_1n⟩ ⟨p2, u2, w2, C2, k, hk, hpk, hc2, hx2⟩ ⟨x1, G_1, xn, G_1n, e1, e2, -, -, c1, G21, hJ, -, -, r25, G26, ha, r31, G32, h2, c31, G39, he, y43, t43, ex, eG⟩
    obtain ⟨rfl, rfl⟩ := Prod.mk.inj e1
    obtain ⟨rfl, rfl⟩ := Prod.mk.inj e2
    simp only at hk hc2
    have ht2 := hc2.t
    have hJ2 : G_1 = G21 ∧ (tK b n p2 = 43 ∨ tK b n p2 = 45) := by
      rcases hJ with ⟨c, e⟩ | ⟨c, c2, e⟩
      · exact ⟨e, Or.inl (by omega)⟩
      · exact ⟨e, Or.inr (by omega)⟩
    obtain ⟨rfl, hkk⟩ := hJ2
    have hsg : sig (tK b n p2) = tK b n p2 ∧ tgt (tK b n p2) = 5 ∧ cdo (tK b n p2) = (3, tK b n p2) ∧ ekk (3, tK b n p2) = tK b n p2 := by rcases hkk with e | e <;> rw [e] <;> decide
    have hn := hc2.next ha (by omega)
    have h3 := c_term_2 hE h2 hd hn.2
    rcases h3 with ⟨f, hf1, -⟩ | ⟨p3, u3, w3, C3, hr3, hc3, hv3⟩
    · have := hf1.1
      omega
    · subst ex
      subst eG
      have hstep := Lx_step (tK b n p2) hL hsg.1 ⟨by omega, by omega, by omega⟩ hsg.2.1 (by omega) (by omega) hx2 hv3
      rw [hsg.2.2.1] at hstep
      exact ⟨p3, u3, w3, _, k + 1, by show y43.toInt = _; omega, by have := hv3.1; omega, hc3.emit he (x := (3, (tK b n p2))) (by rw [hsg.2.2.2]; omega) rfl, hstep⟩)
  obtain ⟨p2, u2, w2, C2, k, hk, hpk, hc2, hx2⟩ := hI
  simp only at hk hc2
  have ht2 := hc2.t
  rcases hh with ⟨c3, -⟩ | ⟨c3, ⟨c43, c45, rfl, rfl⟩ | ⟨G21, hJ, -, -, r25, G26, ha, r31, G32, h2, c31, rfl, rfl⟩⟩
  · omega
  · exact Or.inr ⟨p2, u2, w2, C2, o, hc2, Lx_end hx2 (fun T hT => ⟨fun _ => hT.1 (by decide), fun _ => by omega, fun q => absurd q (by decide), fun q => absurd q (by decide), fun q => absurd q (by decide)⟩)⟩
  · have hJ2 : G8 = G21 ∧ (tK b n p2 = 43 ∨ tK b n p2 = 45) := by
      rcases hJ with ⟨c, e⟩ | ⟨c, c2, e⟩
      · exact ⟨e, Or.inl (by omega)⟩
      · exact ⟨e, Or.inr (by omega)⟩
    obtain ⟨rfl, hkk⟩ := hJ2
    have hsg : sig (tK b n p2) = tK b n p2 ∧ tgt (tK b n p2) = 5 ∧ cdo (tK b n p2) = (3, tK b n p2) ∧ ekk (3, tK b n p2) = tK b n p2 := by rcases hkk with e | e <;> rw [e] <;> decide
    have hn := hc2.next ha (by omega)
    rcases c_term_2 hE h2 hd hn.2 with ⟨f, hf1, hf2⟩ | ⟨p3, u3, w3, C3, hr3, hc3, hv3⟩
    · exact Or.inl ⟨f, ⟨rfl, hf1.2⟩, Lf_step (tK b n p2) hL hsg.1 ⟨by omega, by omega, by omega⟩ hsg.2.1 (by omega) hx2 hf2⟩
    · omega
theorem c_rel_2 {b : Nat → Int} {n c0 d p : Nat} {E O : XR} (hE : XE_2 b n c0 1 E) {p0 r : Int32} {G G1 : GS} {C : List (Int × Int)} {u w : Int} (h : P_fRelation_2_s E O p0 G r G1) (hd : p0.toInt = (d : Int)) (hc : CfC_2 b n c0 G p C u w) (h146 : tK b n p ≠ 146) : LR_2 b n c0 4 d p C u w r G1 := by
  obtain ⟨-, -, -, r1, G2, h1, hh⟩ := h
  have z : (0 : Int32).toInt = 0 := rfl
  have o : (1 : Int32).toInt = 1 := rfl
  rcases c_sum_2 hE h1 hd hc with ⟨f, hf1, hf2⟩ | ⟨p1, u1, w1, C1, hr1, hc1, hv1⟩
  · rcases hh with ⟨c2, rfl, rfl⟩ | ⟨c2, -⟩
    · exact Or.inl ⟨f, ⟨z, hf1.2⟩, Lf_rel0 h146 hf2⟩
    · have := hf1.1
      omega
  have ht1 := hc1.t
  rcases hh with ⟨c2, -⟩ | ⟨c2, ⟨c3, c4, c5, rfl, rfl⟩ | ⟨G11, hJ, -, -, r15, G16, ha, r21, G22, h2, hh⟩⟩
  · omega
  · exact Or.inr ⟨p1, u1, w1, C1, o, hc1, Lv_rel0 h146 hv1 (by omega)⟩
  · have hJ2 : G2 = G11 ∧ (tK b n p1 = 60 ∨ tK b n p1 = 62 ∨ tK b n p1 = 61) := by
      rcases hJ with ⟨c, e⟩ | ⟨c, ⟨c6, e⟩ | ⟨c6, c7, e⟩⟩
      · exact ⟨e, by omega⟩
      · exact ⟨e, by omega⟩
      · exact ⟨e, by omega⟩
    obtain ⟨rfl, hkk⟩ := hJ2
    have hsg : cdo (tK b n p1) = (3, tK b n p1) ∧ ekk (3, tK b n p1) = tK b n p1 := by rcases hkk with e | e | e <;> rw [e] <;> decide
    have hn := hc1.next ha (by omega)
    rcases c_sum_2 hE h2 hd hn.2 with ⟨f, hf1, hf2⟩ | ⟨p3, u3, w3, C3, hr3, hc3, hv3⟩
    · rcases hh with ⟨c6, rfl, rfl⟩ | ⟨c6, -⟩
      · exact Or.inl ⟨f, ⟨z, hf1.2⟩, Lf_rel1 h146 hkk hv1 hf2⟩
      · have := hf1.1
        omega
    · rcases hh with ⟨c6, -⟩ | ⟨c6, G29, he, rfl, rfl⟩
      · omega
      · have hv := Lv_rel1 h146 hkk (by omega) hv1 hv3
        rw [hsg.1] at hv
        exact Or.inr ⟨p3, u3, w3, _, o, hc3.emit he (x := (3, tK b n p1)) (by rw [hsg.2]; omega) rfl, hv⟩
theorem c_one_2 {b : Nat → Int} {n c0 d p : Nat} {E O : XR} (hE : XE_2 b n c0 1 E) (hO : XE_2 b n c0 3 O) {p0 r : Int32} {G G1 : GS} {C : List (Int × Int)} {u w : Int} (h : P_fOne_2_s E O p0 G r G1) (hd : p0.toInt = (d : Int)) (hc : CfC_2 b n c0 G p C u w) : LR_2 b n c0 3 d p C u w r G1 := by
  obtain ⟨-, -, -, hh⟩ := h
  have z : (0 : Int32).toInt = 0 := rfl
  have o : (1 : Int32).toInt = 1 := rfl
  have ht := hc.t
  rcases hh with ⟨c, ⟨c1, r3, G4, ha, y9, t9, r10, G11, hO1, hh⟩ | ⟨c1, r22, G23, ha, rfl, rfl⟩⟩ | ⟨c, r28, G29, hr, rfl, rfl⟩
  · have hk : tK b n p = 146 := by omega
    have hn := hc.next ha (by omega)
    rcases hO y9 (d + 1) G4 r10 G11 (tNx b n p) C u w (by omega) hO1 hn.2 with ⟨f, hf1, hf2⟩ | ⟨p1, u1, w1, C1, hr1, hc1, hv1⟩
    · rcases hh with ⟨c2, rfl, rfl⟩ | ⟨c2, -⟩
      · exact Or.inl ⟨f, ⟨z, hf1.2⟩, Lf_not hk (by omega) hf2⟩
      · have := hf1.1
        omega
    · rcases hh with ⟨c2, -⟩ | ⟨c2, G18, he, rfl, rfl⟩
      · omega
      · have hv := Lv_not hk (by omega) (by omega) hv1
        rw [show cdo 21 = (2, 0) from rfl] at hv
        exact Or.inr ⟨p1, u1, w1, _, o, hc1.emit he (x := (2, 0)) rfl rfl, hv⟩
  · exact Or.inl ⟨_, (c_ref ha hc.1).1, Lf_not7 (by omega) (by omega)⟩
  · rcases c_rel_2 hE hr hd hc (by omega) with ⟨f, hf1, hf2⟩ | ⟨p1, u1, w1, C1, hr1, hc1, hv1⟩
    · exact Or.inl ⟨f, hf1, Lf_one hf2⟩
    · exact Or.inr ⟨p1, u1, w1, C1, hr1, hc1, Lv_one hv1⟩
theorem c_both_2 {b : Nat → Int} {n c0 d p : Nat} {E O : XR} (hE : XE_2 b n c0 1 E) (hO : XE_2 b n c0 3 O) {p0 r : Int32} {G G1 : GS} {C : List (Int × Int)} {u w : Int} (h : P_fBoth_2_s E O p0 G r G1) (hd : p0.toInt = (d : Int)) (hc : CfC_2 b n c0 G p C u w) : LR_2 b n c0 2 d p C u w r G1 := by
  obtain ⟨-, -, -, r1, G2, h1, hh⟩ := h
  have z : (0 : Int32).toInt = ((0 : Nat) : Int) := rfl
  have o : (1 : Int32).toInt = 1 := rfl
  have ht := hc.t
  have hL : ((2 : Int) = 6 ∧ (3 : Int) = 7) ∨ ((2 : Int) = 5 ∧ (3 : Int) = 6) ∨ ((2 : Int) = 2 ∧ (3 : Int) = 3) ∨ ((2 : Int) = 1 ∧ (3 : Int) = 2) := Or.inr (Or.inr (Or.inl ⟨rfl, rfl⟩))
  rcases c_one_2 hE hO h1 hd hc with ⟨f, hf1, hf2⟩ | ⟨p1, u1, w1, C1, hr1, hc1, hv1⟩
  · rcases hh with ⟨c2, rfl, rfl⟩ | ⟨c2, -⟩
    · exact Or.inl ⟨f, ⟨rfl, hf1.2⟩, Lf_init hL hf2⟩
    · have := hf1.1
      omega
  rcases hh with ⟨c2, -⟩ | ⟨c2, x, G8, hRc, hx, -, -, hh⟩
  · omega
  have hI := hRc (fun z => ∃ (p1 : Nat) (u1 w1 : Int) (C1 : List (Int × Int)) (k : Nat), z.1.toInt = (k : Int) ∧ p + 1 + k ≤ p1 ∧ CfC_2 b n c0 z.2 p1 C1 u1 w1 ∧ Lx b n 2 3 d p p1 C C1 u u1 w w1) ⟨p1, u1, w1, C1, 0, z, by have := hv1.1; omega, hc1, Lx_init hL hv1⟩ (by
    rintro ⟨x1, G_1⟩ ⟨xn, G_1n⟩ ⟨p2, u2, w2, C2, k, hk, hpk, hc2, hx2⟩ ⟨x1, G_1, xn, G_1n, e1, e2, -, -, c1, c145, r25, G26, ha, r31, G32, h2, c31, G39, he, y43, t43, ex, eG⟩
    obtain ⟨rfl, rfl⟩ := Prod.mk.inj e1
    obtain ⟨rfl, rfl⟩ := Prod.mk.inj e2
    simp only at hk hc2
    have ht2 := hc2.t
    have hkk : tK b n p2 = 145 := by omega
    have hn := hc2.next ha (by omega)
    have h3 := c_one_2 hE hO h2 hd hn.2
    rcases h3 with ⟨f, hf1, -⟩ | ⟨p3, u3, w3, C3, hr3, hc3, hv3⟩
    · have := hf1.1
      omega
    · subst ex
      subst eG
      have hstep := Lx_step 38 hL (by rw [hkk]; rfl) (by decide) (by decide) (by omega) (by omega) hx2 hv3
      rw [show cdo 38 = (3, 38) from rfl] at hstep
      exact ⟨p3, u3, w3, _, k + 1, by show y43.toInt = _; omega, by have := hv3.1; omega, hc3.emit he (x := (3, 38)) rfl rfl, hstep⟩)
  obtain ⟨p2, u2, w2, C2, k, hk, hpk, hc2, hx2⟩ := hI
  simp only at hk hc2
  have ht2 := hc2.t
  rcases hh with ⟨c3, -⟩ | ⟨c3, ⟨c4, r25, G26, ha, r31, G32, h2, c31, rfl, rfl⟩ | ⟨c4, rfl, rfl⟩⟩
  · omega
  · have hkk : tK b n p2 = 145 := by omega
    have hn := hc2.next ha (by omega)
    rcases c_one_2 hE hO h2 hd hn.2 with ⟨f, hf1, hf2⟩ | ⟨p3, u3, w3, C3, hr3, hc3, hv3⟩
    · exact Or.inl ⟨f, ⟨rfl, hf1.2⟩, Lf_step 38 hL (by rw [hkk]; rfl) (by decide) (by decide) (by omega) hx2 hf2⟩
    · omega
  · exact Or.inr ⟨p2, u2, w2, C2, o, hc2, Lx_end hx2 (fun T hT => ⟨fun _ => hT.1 (by decide), fun _ => hT.2.1 (by decide), fun _ => hT.2.2.1 (by decide), fun _ => by omega, fun q => absurd q (by decide)⟩)⟩
theorem c_either_2 {b : Nat → Int} {n c0 d p : Nat} {E O : XR} (hE : XE_2 b n c0 1 E) (hO : XE_2 b n c0 3 O) {p0 r : Int32} {G G1 : GS} {C : List (Int × Int)} {u w : Int} (h : P_fEither_2_s E O p0 G r G1) (hd : p0.toInt = (d : Int)) (hc : CfC_2 b n c0 G p C u w) : LR_2 b n c0 1 d p C u w r G1 := by
  obtain ⟨-, -, -, r1, G2, h1, hh⟩ := h
  have z : (0 : Int32).toInt = ((0 : Nat) : Int) := rfl
  have o : (1 : Int32).toInt = 1 := rfl
  have ht := hc.t
  have hL : ((1 : Int) = 6 ∧ (2 : Int) = 7) ∨ ((1 : Int) = 5 ∧ (2 : Int) = 6) ∨ ((1 : Int) = 2 ∧ (2 : Int) = 3) ∨ ((1 : Int) = 1 ∧ (2 : Int) = 2) := Or.inr (Or.inr (Or.inr ⟨rfl, rfl⟩))
  rcases c_both_2 hE hO h1 hd hc with ⟨f, hf1, hf2⟩ | ⟨p1, u1, w1, C1, hr1, hc1, hv1⟩
  · rcases hh with ⟨c2, rfl, rfl⟩ | ⟨c2, -⟩
    · exact Or.inl ⟨f, ⟨rfl, hf1.2⟩, Lf_init hL hf2⟩
    · have := hf1.1
      omega
  rcases hh with ⟨c2, -⟩ | ⟨c2, x, G8, hRc, hx, -, -, hh⟩
  · omega
  have hI := hRc (fun z => ∃ (p1 : Nat) (u1 w1 : Int) (C1 : List (Int × Int)) (k : Nat), z.1.toInt = (k : Int) ∧ p + 1 + k ≤ p1 ∧ CfC_2 b n c0 z.2 p1 C1 u1 w1 ∧ Lx b n 1 2 d p p1 C C1 u u1 w w1) ⟨p1, u1, w1, C1, 0, z, by have := hv1.1; omega, hc1, Lx_init hL hv1⟩ (by
    rintro ⟨x1, G_1⟩ ⟨xn, G_1n⟩ ⟨p2, u2, w2, C2, k, hk, hpk, hc2, hx2⟩ ⟨x1, G_1, xn, G_1n, e1, e2, -, -, c1, c144, r25, G26, ha, r31, G32, h2, c31, G39, he, y43, t43, ex, eG⟩
    obtain ⟨rfl, rfl⟩ := Prod.mk.inj e1
    obtain ⟨rfl, rfl⟩ := Prod.mk.inj e2
    simp only at hk hc2
    have ht2 := hc2.t
    have hkk : tK b n p2 = 144 := by omega
    have hn := hc2.next ha (by omega)
    have h3 := c_both_2 hE hO h2 hd hn.2
    rcases h3 with ⟨f, hf1, -⟩ | ⟨p3, u3, w3, C3, hr3, hc3, hv3⟩
    · have := hf1.1
      omega
    · subst ex
      subst eG
      have hstep := Lx_step 124 hL (by rw [hkk]; rfl) (by decide) (by decide) (by omega) (by omega) hx2 hv3
      rw [show cdo 124 = (3, 124) from rfl] at hstep
      exact ⟨p3, u3, w3, _, k + 1, by show y43.toInt = _; omega, by have := hv3.1; omega, hc3.emit he (x := (3, 124)) rfl rfl, hstep⟩)
  obtain ⟨p2, u2, w2, C2, k, hk, hpk, hc2, hx2⟩ := hI
  simp only at hk hc2
  have ht2 := hc2.t
  rcases hh with ⟨c3, -⟩ | ⟨c3, ⟨c4, r25, G26, ha, r31, G32, h2, c31, rfl, rfl⟩ | ⟨c4, rfl, rfl⟩⟩
  · omega
  · have hkk : tK b n p2 = 144 := by omega
    have hn := hc2.next ha (by omega)
    rcases c_both_2 hE hO h2 hd hn.2 with ⟨f, hf1, hf2⟩ | ⟨p3, u3, w3, C3, hr3, hc3, hv3⟩
    · exact Or.inl ⟨f, ⟨rfl, hf1.2⟩, Lf_step 124 hL (by rw [hkk]; rfl) (by decide) (by decide) (by omega) hx2 hf2⟩
    · omega
  · exact Or.inr ⟨p2, u2, w2, C2, o, hc2, Lx_end hx2 (fun T hT => ⟨fun _ => hT.1 (by decide), fun _ => hT.2.1 (by decide), fun _ => hT.2.2.1 (by decide), fun _ => hT.2.2.2.1 (by decide), fun _ => by omega⟩)⟩
theorem c_grp_2 {b : Nat → Int} {n c0 : Nat} (k : Nat) : XE_2 b n c0 1 (PPf_2 k).1 ∧ XE_2 b n c0 3 (PPf_2 k).2 := by
  induction k with
  | zero => exact ⟨fun p0 d G r G1 p C u w _ h _ => h.elim, fun p0 d G r G1 p C u w _ h _ => h.elim⟩
  | succ k ih => exact ⟨fun p0 d G r G1 p C u w hd h hc => c_either_2 ih.1 ih.2 h hd hc, fun p0 d G r G1 p C u w hd h hc => c_one_2 ih.1 ih.2 h hd hc⟩
theorem c_form_2 {b : Nat → Int} {n c0 p : Nat} {r : Int32} {G G1 : GS} {w : Int} (h : P_fRead_2 G r G1) (hp : CPx b n G p) (hw : (G.1 2 12).toInt = w) (hw90 : w ≤ 90) (hC : CodeC_2 c0 [] G) : (∃ f, CF f r G1 ∧ Ev b n (true, p, [], [], 0, w) (.inl f)) ∨ (∃ p' u' w' C', r.toInt = 1 ∧ CfC_2 b n c0 G1 p' C' u' w' ∧ p < p' ∧ Ev b n (true, p, [], [], 0, w) (.inr (p', C', u', w'))) := by
  obtain ⟨-, -, -, G2, -, hF2, -, e2, r3, G4, h1, rfl, rfl⟩ := h
  have hc : CfC_2 b n c0 G2 p [] 0 w := ⟨hp.fr hF2 (by decide) (by decide) (by decide) (by decide), by rw [e2]; rfl, by rw [hF2.i 2 12 (by decide) (by decide)]; exact hw, hC.fr hF2 (by decide) (by decide) (by decide) (by decide), by decide, hw90⟩
  have hg := c_grp_2 (b := b) (n := n) (c0 := c0) 7
  rcases c_either_2 (d := 0) hg.1 hg.2 h1 rfl hc with ⟨f, hf1, hf2⟩ | ⟨p1, u1, w1, C1, hr1, hc1, hv1⟩
  · exact Or.inl ⟨f, hf1, Ev_topf hf2⟩
  · exact Or.inr ⟨p1, u1, w1, C1, hr1, hc1, hv1.1, Ev_top hv1⟩
