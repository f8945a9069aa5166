/-! small pieces of the grammar over places of TOKENS -/
abbrev Rs (α : Type) : Type := (Int × Int) ⊕ (α × Nat)
def bnd {α β : Type} (o : Rs α) (f : α → Nat → Rs β) : Rs β := match o with
  | .inl e => .inl e
  | .inr v => f v.1 v.2
def fl (b : Nat → Int) (n : Nat) (c : Int) (p : Nat) : Int × Int := (if tK b n p = 202 then 1 else c, (tS b n p : Int))
def pNum (b : Nat → Int) (n : Nat) (lo hi : Int) (p : Nat) : Rs Int := if tK b n p ≠ 201 then .inl (fl b n 2 p) else if tV b n p < lo ∨ hi < tV b n p then .inl (fl b n 4 p) else .inr (tV b n p, tNx b n p)
def pKw (b : Nat → Int) (n : Nat) (k : Int) (p : Nat) : Rs Unit := if tK b n p = k then .inr ((), tNx b n p) else .inl (fl b n 2 p)
def pName (b : Nat → Int) (n : Nat) (NS : List (List Int)) (p : Nat) : Rs (List Int) := if tK b n p ≠ 200 then .inl (fl b n 2 p) else if tL b n p ∈ NS then .inl (fl b n 3 p) else .inr (tL b n p, tNx b n p)
theorem tS_p {b : Nat → Int} {n p : Nat} (hn : n ≤ 1600) (hp : p ≤ n) : p ≤ tS b n p ∧ tS b n p ≤ n := by
  have h := rn_p (c := blk) (b := b) (n := n) 1601 p (by omega)
  exact ⟨h.1, h.2.1 hp⟩
theorem tN_p {b : Nat → Int} {n p : Nat} (hn : n ≤ 1600) (hp : p ≤ n) : p ≤ tNx b n p ∧ tNx b n p ≤ n ∧ (tK b n p ≠ 203 → p < tNx b n p ∧ tS b n p < n) := by
  have h := tS_p (b := b) hn hp
  have hw := rn_p (c := ltr) (b := b) (n := n) 1601 (tS b n p) (by omega)
  have hd := rn_p (c := dgt) (b := b) (n := n) 1601 (tS b n p) (by omega)
  have hw2 := hw.2.1 h.2
  have hd2 := hd.2.1 h.2
  unfold tNx tK
  by_cases h1 : n ≤ tS b n p
  · rw [if_pos h1, if_pos h1]
    exact ⟨h.1, h.2, fun q => absurd rfl q⟩
  · rw [if_neg h1, if_neg h1]
    by_cases h2 : ltr (b (tS b n p)) = true
    · rw [if_pos h2, if_pos h2]
      have h3 : tW b n p ≠ tS b n p := fun e => hw.2.2.2 (by
        have e2 : rn ltr b n 1601 (tS b n p) = tS b n p := e
        rw [e2]
        exact ⟨by omega, h2⟩)
      have h4 : tS b n p ≤ tW b n p := hw.1
      have h5 : tW b n p ≤ n := hw2
      exact ⟨by omega, by omega, fun _ => ⟨by omega, by omega⟩⟩
    · rw [if_neg h2, if_neg h2]
      by_cases h6 : dgt (b (tS b n p)) = true
      · rw [if_pos h6, if_pos h6]
        have h3 : tD b n p ≠ tS b n p := fun e => hd.2.2.2 (by
          have e2 : rn dgt b n 1601 (tS b n p) = tS b n p := e
          rw [e2]
          exact ⟨by omega, h6⟩)
        have h4 : tS b n p ≤ tD b n p := hd.1
        have h5 : tD b n p ≤ n := hd2
        exact ⟨by omega, by omega, fun _ => ⟨by omega, by omega⟩⟩
      · rw [if_neg h6, if_neg h6]
        exact ⟨by omega, by omega, fun _ => ⟨by omega, by omega⟩⟩
def LW (L : List Int) : Prop := L.length ≤ 8 ∧ ∀ x ∈ L, 97 ≤ x ∧ x ≤ 122
theorem tK_w {b : Nat → Int} {n p : Nat} (hn : n ≤ 1600) (hp : p ≤ n) (h1 : 128 ≤ tK b n p) (h2 : tK b n p ≤ 200) : tK b n p = kwd (tL b n p) ∧ LW (tL b n p) := by
  have hw := rn_p (c := ltr) (b := b) (n := n) 1601 (tS b n p) (by omega)
  have hL : (∀ x ∈ tL b n p, 97 ≤ x ∧ x ≤ 122) := lets_of hw.2.2.1
  have hlen : (tL b n p).length = tW b n p - tS b n p := cut_len
  unfold tK at h1 h2 ⊢
  by_cases c1 : n ≤ tS b n p
  · rw [if_pos c1] at h1 h2
    omega
  · rw [if_neg c1] at h1 h2 ⊢
    by_cases c2 : ltr (b (tS b n p)) = true
    · rw [if_pos c2] at h1 h2 ⊢
      by_cases c3 : 8 < tW b n p - tS b n p
      · rw [if_pos c3] at h1 h2
        omega
      · rw [if_neg c3]
        exact ⟨rfl, by omega, hL⟩
    · rw [if_neg c2] at h1 h2
      by_cases c4 : dgt (b (tS b n p)) = true
      · rw [if_pos c4] at h1 h2
        split at h2 <;> omega
      · rw [if_neg c4] at h1 h2
        by_cases c5 : sgn (b (tS b n p)) = true
        · rw [if_pos c5] at h1 h2
          have := sgn_i.mp c5
          omega
        · rw [if_neg c5] at h1 h2
          omega
theorem kwd_iff {L : List Int} {i : Nat} (hi : i < 23) : kwd L = 128 + (i : Int) ↔ L = KW.getD i [] := by
  refine ⟨fun h => ?_, fun h => kwd_in hi h.symm⟩
  by_cases hq : ∃ j : Nat, j < 23 ∧ KW.getD j [] = L
  · obtain ⟨j, hj, e⟩ := hq
    have := kwd_in hj e
    have : j = i := by omega
    subst this
    exact e.symm
  · have := kwd_out (L := L) (fun j hj e => hq ⟨j, hj, e⟩)
    omega
/-! the program's -/
def CPx (b : Nat → Int) (n : Nat) (G : GS) (p : Nat) : Prop := XC b n G ∧ TC b n G p ∧ ((G.1 3 7).toInt = 0 ∧ (G.1 3 8).toInt = -1) ∧ p ≤ n
def CF (f : Int × Int) (r : Int32) (G1 : GS) : Prop := r.toInt = 0 ∧ (G1.1 3 7).toInt = f.1 ∧ (G1.1 3 8).toInt = f.2
theorem CPx.fr {b : Nat → Int} {n p : Nat} {rs : List Nat} {fs : List (Nat × Nat)} {G G1 : GS} (h : CPx b n G p) (hF : Fr rs fs G G1) (h1 : 3 ∉ rs) (h2 : ∀ x ∈ fs, x.1 ≠ 3) (h3 : 32 ∉ rs) (h4 : ∀ x ∈ fs, x.1 ≠ 32) : CPx b n G1 p := by
  obtain ⟨a1, a2, a3, a4⟩ := h
  have h5 : ∀ j, (3, j) ∉ fs := fun j q => h2 _ q rfl
  refine ⟨a1.fr hF h1 (h5 1) h3 h4, ?_, by rw [hF.i 3 7 h1 (h5 7), hF.i 3 8 h1 (h5 8)]; exact a3, a4⟩
  unfold TC at a2 ⊢
  rw [hF.i 3 3 h1 (h5 3), hF.i 3 4 h1 (h5 4), hF.i 3 2 h1 (h5 2), hF.i 3 5 h1 (h5 5), hF.l 3 6 h1 (h5 6)]
  exact a2
theorem c_ref {b : Nat → Int} {n p : Nat} {G G1 : GS} {c r : Int32} (h : P_tRefuse c G r G1) (hp : CPx b n G p) : CF (fl b n c.toInt p) r G1 ∧ Fr [] [(3, 7), (3, 8)] G G1 := by
  obtain ⟨-, hF, hr, hh⟩ := h
  obtain ⟨a1, a2, a3, a4⟩ := hp
  have z : (0 : Int32).toInt = 0 := rfl
  refine ⟨?_, hF⟩
  have k1 := a2.1
  have k2 := a2.2.1
  unfold CF fl
  rcases hh with ⟨c1, ⟨c2, -, hF2, e7, e8⟩ | ⟨c2, -, hF2, e7, e8⟩⟩ | ⟨c1, -, -⟩
  · rw [if_pos (by omega), e7, e8]
    exact ⟨by omega, rfl, k2⟩
  · rw [if_neg (by omega), e7, e8]
    exact ⟨by omega, rfl, k2⟩
  · omega
theorem c_next {b : Nat → Int} {n p : Nat} {G G1 : GS} {r : Int32} (h : P_tAdvance G r G1) (hp : CPx b n G p) (hk : tK b n p ≠ 202) : r.toInt = 1 ∧ CPx b n G1 (tNx b n p) := by
  obtain ⟨a1, a2, a3, a4⟩ := hp
  have ht := tN_p (b := b) a1.2.1 a4
  obtain ⟨h1, h2, h3⟩ := c_adv a1 (a2.2.2.1 hk) ht.2.1 h
  refine ⟨h1, h2, h3, ?_, ht.2.1⟩
  rw [h.2.1.i 3 7 (by decide) (by decide), h.2.1.i 3 8 (by decide) (by decide)]
  exact a3
theorem c_pass {b : Nat → Int} {n p : Nat} {G G1 : GS} {k r : Int32} (h : P_tPass k G r G1) (hp : CPx b n G p) (hk : k.toInt ≠ 202) : (∃ f, pKw b n k.toInt p = .inl f ∧ CF f r G1) ∨ (pKw b n k.toInt p = .inr ((), tNx b n p) ∧ r.toInt = 1 ∧ CPx b n G1 (tNx b n p)) := by
  obtain ⟨-, -, -, hh⟩ := h
  have k1 := hp.2.1.1
  unfold pKw
  rcases hh with ⟨c, r8, G9, ha, rfl, rfl⟩ | ⟨c, r2, G3, ha, rfl, rfl⟩
  · rw [if_pos (by omega)]
    exact Or.inr ⟨rfl, c_next ha hp (by omega)⟩
  · rw [if_neg (by omega)]
    exact Or.inl ⟨_, rfl, (c_ref ha hp).1⟩
theorem c_first {b : Nat → Int} {n p : Nat} {G G1 : GS} {m r : Int32} (h : P_rFirst m G r G1) (hp : CPx b n G p) (hk : tK b n p ≠ 202) : (m.toInt = 0 ∧ CF (fl b n 2 p) r G1) ∨ (m.toInt ≠ 0 ∧ r.toInt = 1 ∧ CPx b n G1 (tNx b n p)) := by
  obtain ⟨-, -, -, -, hh⟩ := h
  rcases hh with ⟨c, r2, G3, ha, rfl, rfl⟩ | ⟨c, r8, G9, ha, rfl, rfl⟩
  · exact Or.inl ⟨c, (c_ref ha hp).1⟩
  · exact Or.inr ⟨c, c_next ha hp hk⟩
theorem c_isNum {b : Nat → Int} {n p : Nat} {G G1 : GS} {lo hi r : Int32} (h : P_rIsNum lo hi G r G1) (hp : CPx b n G p) : (∃ f, pNum b n lo.toInt hi.toInt p = .inl f ∧ CF f r G1) ∨ (pNum b n lo.toInt hi.toInt p = .inr (tV b n p, tNx b n p) ∧ r.toInt = 1 ∧ CPx b n G1 p ∧ (G1.1 5 9).toInt = tV b n p ∧ tK b n p = 201 ∧ lo.toInt ≤ tV b n p ∧ tV b n p ≤ hi.toInt) := by
  obtain ⟨-, -, -, -, hh⟩ := h
  have k1 := hp.2.1.1
  have k5 := hp.2.1.2.2.2.1
  unfold pNum
  rcases hh with ⟨c, ⟨c1, r3, G4, ha, rfl, rfl⟩ | ⟨c1, ⟨c2, rfl, hF, e9⟩ | ⟨c2, r3, G4, ha, rfl, rfl⟩⟩⟩ | ⟨c, r3, G4, ha, rfl, rfl⟩
  · have := k5 (by omega)
    rw [if_neg (by omega), if_pos (Or.inl (by omega))]
    exact Or.inl ⟨_, rfl, (c_ref ha hp).1⟩
  · have := k5 (by omega)
    rw [if_neg (by omega), if_neg (by omega)]
    exact Or.inr ⟨rfl, rfl, hp.fr hF (by decide) (by decide) (by decide) (by decide), by rw [e9]; exact this, by omega, by omega, by omega⟩
  · have := k5 (by omega)
    rw [if_neg (by omega), if_pos (Or.inr (by omega))]
    exact Or.inl ⟨_, rfl, (c_ref ha hp).1⟩
  · rw [if_pos (by omega)]
    exact Or.inl ⟨_, rfl, (c_ref ha hp).1⟩
theorem c_num {b : Nat → Int} {n p : Nat} {G G1 : GS} {lo hi r : Int32} (h : P_rNum lo hi G r G1) (hp : CPx b n G p) : (∃ f, pNum b n lo.toInt hi.toInt p = .inl f ∧ CF f r G1) ∨ (pNum b n lo.toInt hi.toInt p = .inr (tV b n p, tNx b n p) ∧ r.toInt = 1 ∧ CPx b n G1 (tNx b n p) ∧ (G1.1 5 9).toInt = tV b n p ∧ lo.toInt ≤ tV b n p ∧ tV b n p ≤ hi.toInt) := by
  obtain ⟨-, -, -, -, r1, G2, hi1, hh⟩ := h
  have z : (0 : Int32).toInt = 0 := rfl
  have o : (1 : Int32).toInt = 1 := rfl
  rcases c_isNum hi1 hp with ⟨f, hf, hC⟩ | ⟨hv, hr, hp2, e9, hk, hl, hh2⟩
  · rcases hh with ⟨c, rfl, rfl⟩ | ⟨c, r8, G9, ha, rfl, rfl⟩
    · exact Or.inl ⟨f, hf, z, hC.2⟩
    · have := hC.1
      omega
  · rcases hh with ⟨c, rfl, rfl⟩ | ⟨c, r8, G9, ha, rfl, rfl⟩
    · omega
    · have hn := c_next ha hp2 (by omega)
      refine Or.inr ⟨hv, o, hn.2, ?_, hl, hh2⟩
      rw [ha.2.1.i 5 9 (by decide) (by decide)]
      exact e9
/-- names told: the program's rows -/
def NmC (row : Nat) (NS : List (List Int)) (G : GS) : Prop := ∀ k, k < NS.length → G.2.1 row k = w5 (NS.getD k []) ∧ LW (NS.getD k [])
theorem NmC.fr {row : Nat} {NS : List (List Int)} {rs : List Nat} {fs : List (Nat × Nat)} {G G1 : GS} (h : NmC row NS G) (hF : Fr rs fs G G1) (h1 : row ∉ rs) (h2 : ∀ x ∈ fs, x.1 ≠ row) : NmC row NS G1 := by
  intro k hk
  rw [hF.rowl row h1 h2]
  exact h k hk
theorem mem_getD {NS : List (List Int)} {L : List Int} : L ∈ NS ↔ ∃ k, k < NS.length ∧ NS.getD k [] = L := by
  rw [List.mem_iff_getElem]
  refine ⟨fun ⟨k, hk, e⟩ => ⟨k, hk, ?_⟩, fun ⟨k, hk, e⟩ => ⟨k, hk, ?_⟩⟩
  · rw [List.getD_eq_getElem?_getD, List.getElem?_eq_getElem hk]
    exact e
  · rw [List.getD_eq_getElem?_getD, List.getElem?_eq_getElem hk] at e
    exact e
theorem getD_snoc {NS : List (List Int)} {L : List Int} {k : Nat} : (NS ++ [L]).getD k [] = if k < NS.length then NS.getD k [] else if k = NS.length then L else [] := by
  rw [List.getD_eq_getElem?_getD, List.getD_eq_getElem?_getD]
  by_cases h : k < NS.length
  · rw [if_pos h, List.getElem?_append_left h]
  · rw [if_neg h, List.getElem?_append_right (by omega)]
    by_cases h2 : k = NS.length
    · rw [if_pos h2]
      simp [h2]
    · rw [if_neg h2]
      rw [List.getElem?_eq_none (by simp; omega)]
      rfl
theorem NmC_snoc {row : Nat} {NS : List (List Int)} {L : List Int} {G G1 : GS} {f : Nat → Int64} (h : NmC row NS G) (he : G1.2.1 row = vp_updL f NS.length (w5 L)) (hf : f = G.2.1 row) (hL : LW L) : NmC row (NS ++ [L]) G1 := by
  intro k hk
  rw [List.length_append, List.length_singleton] at hk
  rw [getD_snoc, he]
  by_cases h1 : k < NS.length
  · rw [if_pos h1]
    have e : vp_updL f NS.length (w5 L) k = f k := if_neg (by omega)
    rw [e, hf]
    exact h k h1
  · rw [if_neg h1, if_pos (by omega)]
    have e : vp_updL f NS.length (w5 L) k = w5 L := if_pos (by omega)
    rw [e]
    exact ⟨rfl, hL⟩
theorem c_name_34 {b : Nat → Int} {n p : Nat} {G G1 : GS} {m r : Int32} {NS : List (List Int)} (h : P_rName_34 m G r G1) (hp : CPx b n G p) (hN : NmC 34 NS G) (hm : m.toInt = (NS.length : Int)) (hmx : NS.length < 3) : (∃ f, pName b n NS p = .inl f ∧ CF f r G1) ∨ (pName b n NS p = .inr (tL b n p, tNx b n p) ∧ r.toInt = 1 ∧ CPx b n G1 (tNx b n p) ∧ NmC 34 (NS ++ [tL b n p]) G1) := by
  obtain ⟨-, -, -, hh⟩ := h
  have k1 := hp.2.1.1
  have z : (0 : Int32).toInt = ((0 : Nat) : Int) := rfl
  unfold pName
  rcases hh with ⟨c, ⟨c1, x, G9, hRc, -, -, -, hh⟩ | ⟨c1, r3, G4, ha, rfl, rfl⟩⟩ | ⟨c, r3, G4, ha, rfl, rfl⟩
  · have hk : tK b n p = 200 := by omega
    rw [if_neg (by omega)]
    have hw := hp.2.1.2.2.2.2 hk
    have hL := (tK_w (b := b) hp.1.2.1 hp.2.2.2 (by omega) (by omega)).2
    have hI := hRc (fun q => G = q.2 ∧ ∃ k : Nat, q.1.toInt = (k : Int) ∧ ∀ j, j < k → j < NS.length → NS.getD j [] ≠ tL b n p) ⟨rfl, 0, z, fun j a _ => by omega⟩ (by
      rintro ⟨x1, G_1⟩ ⟨xn, G_1n⟩ ⟨h1, k, h2, h3⟩ ⟨x1q, G_1q, xnq, G_1nq, e1, e2, -, -, c2, y27, e27, y28, e28, y29, e29, c29, y31, t31, ex, eG⟩
      obtain ⟨rfl, rfl⟩ := Prod.mk.inj e1
      obtain ⟨rfl, rfl⟩ := Prod.mk.inj e2
      simp only at h1 h2
      subst h1
      subst ex
      subst eG
      refine ⟨rfl, k + 1, by show y31.toInt = _; omega, fun j hj hl => ?_⟩
      by_cases hjk : j = k
      · subst hjk
        intro e
        have := lc_ne e29 c29
        rw [e27, e28, cn_eq h2, (hN j hl).1, hw, e] at this
        exact this rfl
      · exact h3 j (by omega) hl)
    obtain ⟨hG, k, hk2, hno⟩ := hI
    simp only at hG hk2
    subst hG
    rcases hh with ⟨c2, y19, e19, G20, -, hF20, e34, r21, G22, ha, rfl, rfl⟩ | ⟨c2, y27, e27, y28, e28, y29, e29, c29, r32, G33, ha, rfl, rfl⟩
    · rw [if_neg (fun q => by obtain ⟨j, hj, e⟩ := mem_getD.mp q; exact hno j (by omega) hj e)]
      have hp20 := hp.fr hF20 (by decide) (by decide) (by decide) (by decide)
      have hn := c_next ha hp20 (by omega)
      refine Or.inr ⟨rfl, hn.1, hn.2, ?_⟩
      refine NmC.fr (G := G20) (NmC_snoc hN (f := G.2.1 34) ?_ rfl hL) ha.2.1 (by decide) (by decide)
      rw [e34, cn_eq hm, e19, hw]
    · have hlt : k < NS.length := by omega
      rw [if_pos (mem_getD.mpr ⟨k, hlt, ?_⟩)]
      · exact Or.inl ⟨_, rfl, (c_ref ha hp).1⟩
      · have := lc_eq e29 c29
        rw [e27, e28, cn_eq hk2, (hN k hlt).1, hw] at this
        exact w5_inj (hN k hlt).2.2 hL.2 (hN k hlt).2.1 hL.1 this
  · omega
  · rw [if_pos (by omega)]
    exact Or.inl ⟨_, rfl, (c_ref ha hp).1⟩
theorem c_name_35 {b : Nat → Int} {n p : Nat} {G G1 : GS} {m r : Int32} {NS : List (List Int)} (h : P_rName_35 m G r G1) (hp : CPx b n G p) (hN : NmC 35 NS G) (hm : m.toInt = (NS.length : Int)) (hmx : NS.length < 4) : (∃ f, pName b n NS p = .inl f ∧ CF f r G1) ∨ (pName b n NS p = .inr (tL b n p, tNx b n p) ∧ r.toInt = 1 ∧ CPx b n G1 (tNx b n p) ∧ NmC 35 (NS ++ [tL b n p]) G1) := by
  obtain ⟨-, -, -, hh⟩ := h
  have k1 := hp.2.1.1
  have z : (0 : Int32).toInt = ((0 : Nat) : Int) := rfl
  unfold pName
  rcases hh with ⟨c, ⟨c1, x, G9, hRc, -, -, -, hh⟩ | ⟨c1, r3, G4, ha, rfl, rfl⟩⟩ | ⟨c, r3, G4, ha, rfl, rfl⟩
  · have hk : tK b n p = 200 := by omega
    rw [if_neg (by omega)]
    have hw := hp.2.1.2.2.2.2 hk
    have hL := (tK_w (b := b) hp.1.2.1 hp.2.2.2 (by omega) (by omega)).2
    have hI := hRc (fun q => G = q.2 ∧ ∃ k : Nat, q.1.toInt = (k : Int) ∧ ∀ j, j < k → j < NS.length → NS.getD j [] ≠ tL b n p) ⟨rfl, 0, z, fun j a _ => by omega⟩ (by
      rintro ⟨x1, G_1⟩ ⟨xn, G_1n⟩ ⟨h1, k, h2, h3⟩ ⟨x1q, G_1q, xnq, G_1nq, e1, e2, -, -, c2, y27, e27, y28, e28, y29, e29, c29, y31, t31, ex, eG⟩
      obtain ⟨rfl, rfl⟩ := Prod.mk.inj e1
      obtain ⟨rfl, rfl⟩ := Prod.mk.inj e2
      simp only at h1 h2
      subst h1
      subst ex
      subst eG
      refine ⟨rfl, k + 1, by show y31.toInt = _; omega, fun j hj hl => ?_⟩
      by_cases hjk : j = k
      · subst hjk
        intro e
        have := lc_ne e29 c29
        rw [e27, e28, cn_eq h2, (hN j hl).1, hw, e] at this
        exact this rfl
      · exact h3 j (by omega) hl)
    obtain ⟨hG, k, hk2, hno⟩ := hI
    simp only at hG hk2
    subst hG
    rcases hh with ⟨c2, y19, e19, G20, -, hF20, e34, r21, G22, ha, rfl, rfl⟩ | ⟨c2, y27, e27, y28, e28, y29, e29, c29, r32, G33, ha, rfl, rfl⟩
    · rw [if_neg (fun q => by obtain ⟨j, hj, e⟩ := mem_getD.mp q; exact hno j (by omega) hj e)]
      have hp20 := hp.fr hF20 (by decide) (by decide) (by decide) (by decide)
      have hn := c_next ha hp20 (by omega)
      refine Or.inr ⟨rfl, hn.1, hn.2, ?_⟩
      refine NmC.fr (G := G20) (NmC_snoc hN (f := G.2.1 35) ?_ rfl hL) ha.2.1 (by decide) (by decide)
      rw [e34, cn_eq hm, e19, hw]
    · have hlt : k < NS.length := by omega
      rw [if_pos (mem_getD.mpr ⟨k, hlt, ?_⟩)]
      · exact Or.inl ⟨_, rfl, (c_ref ha hp).1⟩
      · have := lc_eq e29 c29
        rw [e27, e28, cn_eq hk2, (hN k hlt).1, hw] at this
        exact w5_inj (hN k hlt).2.2 hL.2 (hN k hlt).2.1 hL.1 this
  · omega
  · rw [if_pos (by omega)]
    exact Or.inl ⟨_, rfl, (c_ref ha hp).1⟩
theorem c_name_36 {b : Nat → Int} {n p : Nat} {G G1 : GS} {m r : Int32} {NS : List (List Int)} (h : P_rName_36 m G r G1) (hp : CPx b n G p) (hN : NmC 36 NS G) (hm : m.toInt = (NS.length : Int)) (hmx : NS.length < 6) : (∃ f, pName b n NS p = .inl f ∧ CF f r G1) ∨ (pName b n NS p = .inr (tL b n p, tNx b n p) ∧ r.toInt = 1 ∧ CPx b n G1 (tNx b n p) ∧ NmC 36 (NS ++ [tL b n p]) G1) := by
  obtain ⟨-, -, -, hh⟩ := h
  have k1 := hp.2.1.1
  have z : (0 : Int32).toInt = ((0 : Nat) : Int) := rfl
  unfold pName
  rcases hh with ⟨c, ⟨c1, x, G9, hRc, -, -, -, hh⟩ | ⟨c1, r3, G4, ha, rfl, rfl⟩⟩ | ⟨c, r3, G4, ha, rfl, rfl⟩
  · have hk : tK b n p = 200 := by omega
    rw [if_neg (by omega)]
    have hw := hp.2.1.2.2.2.2 hk
    have hL := (tK_w (b := b) hp.1.2.1 hp.2.2.2 (by omega) (by omega)).2
    have hI := hRc (fun q => G = q.2 ∧ ∃ k : Nat, q.1.toInt = (k : Int) ∧ ∀ j, j < k → j < NS.length → NS.getD j [] ≠ tL b n p) ⟨rfl, 0, z, fun j a _ => by omega⟩ (by
      rintro ⟨x1, G_1⟩ ⟨xn, G_1n⟩ ⟨h1, k, h2, h3⟩ ⟨x1q, G_1q, xnq, G_1nq, e1, e2, -, -, c2, y27, e27, y28, e28, y29, e29, c29, y31, t31, ex, eG⟩
      obtain ⟨rfl, rfl⟩ := Prod.mk.inj e1
      obtain ⟨rfl, rfl⟩ := Prod.mk.inj e2
      simp only at h1 h2
      subst h1
      subst ex
      subst eG
      refine ⟨rfl, k + 1, by show y31.toInt = _; omega, fun j hj hl => ?_⟩
      by_cases hjk : j = k
      · subst hjk
        intro e
        have := lc_ne e29 c29
        rw [e27, e28, cn_eq h2, (hN j hl).1, hw, e] at this
        exact this rfl
      · exact h3 j (by omega) hl)
    obtain ⟨hG, k, hk2, hno⟩ := hI
    simp only at hG hk2
    subst hG
    rcases hh with ⟨c2, y19, e19, G20, -, hF20, e34, r21, G22, ha, rfl, rfl⟩ | ⟨c2, y27, e27, y28, e28, y29, e29, c29, r32, G33, ha, rfl, rfl⟩
    · rw [if_neg (fun q => by obtain ⟨j, hj, e⟩ := mem_getD.mp q; exact hno j (by omega) hj e)]
      have hp20 := hp.fr hF20 (by decide) (by decide) (by decide) (by decide)
      have hn := c_next ha hp20 (by omega)
      refine Or.inr ⟨rfl, hn.1, hn.2, ?_⟩
      refine NmC.fr (G := G20) (NmC_snoc hN (f := G.2.1 36) ?_ rfl hL) ha.2.1 (by decide) (by decide)
      rw [e34, cn_eq hm, e19, hw]
    · have hlt : k < NS.length := by omega
      rw [if_pos (mem_getD.mpr ⟨k, hlt, ?_⟩)]
      · exact Or.inl ⟨_, rfl, (c_ref ha hp).1⟩
      · have := lc_eq e29 c29
        rw [e27, e28, cn_eq hk2, (hN k hlt).1, hw] at this
        exact w5_inj (hN k hlt).2.2 hL.2 (hN k hlt).2.1 hL.1 this
  · omega
  · rw [if_pos (by omega)]
    exact Or.inl ⟨_, rfl, (c_ref ha hp).1⟩
