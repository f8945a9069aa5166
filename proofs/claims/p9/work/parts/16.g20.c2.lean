/-! lines by the reference -/
def LnM {α : Type} (b : Nat → Int) (n p : Nat) (o : Rs α) (G1 : GS) (K : α → Prop) : Prop := (∃ f, o = .inl f ∧ MF f G1) ∨ (∃ x p', o = .inr (x, p') ∧ MP b n G1 p' ∧ p < p' ∧ K x)
def TlM (G G1 : GS) : Prop := (((G.1 66 2).toInt = 0 ∧ ((((G.1 66 6).toInt = 59 ∧ (∃ (Ga : GS), Q_token G Ga ∧ Ga = G1)) ∨ ((G.1 66 6).toInt ≠ 59 ∧ (∃ (Ga : GS), Q_wrong 2 G Ga ∧ (((Ga.1 66 2).toInt = 0 ∧ (∃ (Gb : GS), Q_token Ga Gb ∧ Gb = G1)) ∨ ((Ga.1 66 2).toInt ≠ 0 ∧ (Ga = G1)))))))) ∨ ((G.1 66 2).toInt ≠ 0 ∧ (G = G1)))
theorem m_semi {α : Type} {b : Nat → Int} {n p : Nat} {o : Rs α} {G G1 : GS} {K K' : α → Prop} (h : LnM b n p o G K) (ht : TlM G G1) (hK : ∀ x, Fr [] [(66, 4), (66, 6), (66, 7), (66, 8), (66, 9)] G G1 → K x → K' x) : LnM b n p (smi b n o) G1 K' := by
  rcases h with ⟨f, e, hm⟩ | ⟨x, p', e, hp, hlt, hx⟩
  · have hpo := hm.pos
    rcases ht with ⟨c, -⟩ | ⟨-, rfl⟩
    · omega
    · exact Or.inl ⟨f, smi_l e, hm⟩
  · have hf0 : (G.1 66 2).toInt = 0 := hp.2.2.1.1
    have h59 := hp.so.2.2.2.2 59 (by decide) (by decide)
    have htn := tN_p (b := b) hp.1.2.1 hp.2.2.2
    rcases ht with ⟨-, ⟨c, Ga, htk, rfl⟩ | ⟨c, Ga, hwr, hh⟩⟩ | ⟨c, -⟩
    · have k := h59.mp c
      have hkw : pKw b n 59 p' = .inr ((), tNx b n p') := by
        unfold pKw
        rw [if_pos k]
      exact Or.inr ⟨x, tNx b n p', (smi_r e).trans (bnd_r hkw), m_next htk hp (by omega), by omega, hK x htk.2.1 hx⟩
    · have k : tK b n p' ≠ 59 := fun q => c (h59.mpr q)
      obtain ⟨hm, -⟩ := m_wrong hwr hp (by decide)
      have hkw : pKw b n 59 p' = .inl (fl b n 2 p') := by
        unfold pKw
        rw [if_neg k]
      rcases hh with ⟨c2, -⟩ | ⟨-, rfl⟩
      · exact absurd c2 (by have := hm.pos; omega)
      · exact Or.inl ⟨_, (smi_r e).trans (bnd_l hkw), hm⟩
    · exact absurd hf0 c
/-- the names' row gets one more -/
def NmU (base : Nat) (NS : List (List Int)) (L : List Int) (G G1 : GS) : Prop := LW L ∧ G1.2.1 68 = vp_updL (G.2.1 68) (base + NS.length) (w8 L)
theorem NmU.frl {base : Nat} {NS : List (List Int)} {L : List Int} {rs : List Nat} {fs : List (Nat × Nat)} {G G1 G2 : GS} (h : NmU base NS L G G1) (hF : Fr rs fs G1 G2) (h1 : 68 ∉ rs) (h2 : ∀ x ∈ fs, x.1 ≠ 68) : NmU base NS L G G2 := ⟨h.1, by rw [hF.rowl 68 h1 h2]; exact h.2⟩
theorem NmM.fr {base : Nat} {NS : List (List Int)} {rs : List Nat} {fs : List (Nat × Nat)} {G G1 : GS} (h : NmM base NS G) (hF : Fr rs fs G G1) (h1 : 68 ∉ rs) (h2 : ∀ x ∈ fs, x.1 ≠ 68) : NmM base NS G1 := by
  unfold NmM at h ⊢
  rw [hF.rowl 68 h1 h2]
  exact h
theorem NmU.own {base : Nat} {NS : List (List Int)} {L : List Int} {G G1 : GS} (h : NmU base NS L G G1) (hN : NmM base NS G) : NmM base (NS ++ [L]) G1 := by
  intro k hk
  rw [List.length_append, List.length_singleton] at hk
  rw [h.2, getD_snoc]
  by_cases hq : k < NS.length
  · rw [if_pos hq, show vp_updL (G.2.1 68) (base + NS.length) (w8 L) (base + k) = G.2.1 68 (base + k) from if_neg (by omega)]
    exact hN k hq
  · rw [if_neg hq, if_pos (by omega), show vp_updL (G.2.1 68) (base + NS.length) (w8 L) (base + k) = w8 L from if_pos (by omega)]
    exact ⟨rfl, h.1⟩
theorem NmU.oth {base base' : Nat} {NS NS' : List (List Int)} {L : List Int} {G G1 : GS} (h : NmU base NS L G G1) (hN : NmM base' NS' G) (hd : base + NS.length < base' ∨ base' + NS'.length ≤ base + NS.length) : NmM base' NS' G1 := by
  intro k hk
  rw [h.2, show vp_updL (G.2.1 68) (base + NS.length) (w8 L) (base' + k) = G.2.1 68 (base' + k) from if_neg (by omega)]
  exact hN k hk
theorem MP.k2 {b : Nat → Int} {n p : Nat} {G : GS} (h : MP b n G p) : (G.1 66 2).toInt = 0 := h.2.2.1.1
theorem kn_eq {α : Type} {b : Nat → Int} {n p : Nat} {k lo hi : Int} {K : Int → Nat → Rs α} : (bnd (pKw b n k p) fun _ q => bnd (pNum b n lo hi q) K) = bnd (bnd (pKw b n k p) fun _ q => pNum b n lo hi q) K := by
  cases pKw b n k p with
  | inl f => rfl
  | inr x => rfl
theorem pKw_n {b : Nat → Int} {n p q : Nat} {k : Int} {x : Unit} (h : pKw b n k p = .inr (x, q)) : q = tNx b n p := by
  unfold pKw at h
  split at h
  · exact ((Prod.mk.inj (Sum.inr.inj h)).2).symm
  · exact absurd h (by simp)
theorem pNum_n {b : Nat → Int} {n p q : Nat} {lo hi v : Int} (h : pNum b n lo hi p = .inr (v, q)) : q = tNx b n p := by
  unfold pNum at h
  split at h
  · exact absurd h (by simp)
  · split at h
    · exact absurd h (by simp)
    · exact ((Prod.mk.inj (Sum.inr.inj h)).2).symm
theorem kn_p {b : Nat → Int} {n p q : Nat} {k lo hi v : Int} (hn : n ≤ 1600) (hp : p ≤ n) (h : (bnd (pKw b n k p) fun _ q => pNum b n lo hi q) = .inr (v, q)) : p ≤ q := by
  cases hkw : pKw b n k p with
  | inl f =>
    rw [hkw] at h
    exact absurd h (by simp [bnd])
  | inr x =>
    rw [hkw] at h
    obtain ⟨x1, x2⟩ := x
    have h1 : pNum b n lo hi x2 = .inr (v, q) := h
    have e1 := pKw_n hkw
    have e2 := pNum_n h1
    have t1 := tN_p (b := b) hn hp
    have t2 := tN_p (b := b) hn t1.2.1
    rw [e2, e1]
    omega
theorem m_street {b : Nat → Int} {n p : Nat} {G G1 : GS} {NS : List (List Int)} (h : Q_readStreet G G1) (hp : MP b n G p) (hk : tK b n p ≠ 202) (hk3 : tK b n p ≠ 203) (hN : NmM 0 NS G) (hm : (G.1 66 45).toInt = (NS.length : Int)) : LnM b n p (pStreet b n NS p) G1 (fun x => NmU 0 NS x.1 G G1 ∧ (G1.1 66 45).toInt = (NS.length : Int) + 1 ∧ StM NS.length x.2 G1 ∧ KeM NS.length G G1 ∧ (x.2.length : Int) ≤ 400) := by
  obtain ⟨-, -, -, G4, hnm, r12, G13, ht2, hh⟩ := h
  have ht := tN_p (b := b) hp.1.2.1 hp.2.2.2
  have htp := (ht.2.2 hk3).1
  rcases m_name hnm hp hk hN rfl hm with ⟨f, hf, hmf⟩ | ⟨e1, hp2, hLW, e68⟩
  · have hpo := hmf.pos
    have e := told2_f ht2 hpo
    subst e
    rcases hh with ⟨c, -⟩ | ⟨-, rfl⟩
    · omega
    · exact Or.inl ⟨f, by unfold pStreet; exact bnd_l hf, hmf⟩
  have hU : NmU 0 NS (tL b n (tNx b n p)) G G4 := ⟨hLW, e68⟩
  have hq2 : tNx b n p ≤ n := ht.2.1
  have htn2 := tN_p (b := b) hp.1.2.1 hq2
  rcases m_told2 (i := 11) (by decide) (by decide +kernel) ht2 hp2 with ⟨f, hf, hmf⟩ | ⟨J, p5, e2, hp5, hrJ, hlo, hhi⟩
  · have hpo := hmf.pos
    have hf' : pStreet b n NS p = .inl f := by
      unfold pStreet
      exact (bnd_r e1).trans (kn_eq.trans (bnd_l hf))
    rcases hh with ⟨c, -⟩ | ⟨-, rfl⟩
    · omega
    · exact Or.inl ⟨f, hf', hmf⟩
  have hlo' : 0 ≤ J := hlo
  have hhi' : J ≤ 9 := hhi
  have hq5 : tNx b n (tNx b n p) ≤ p5 := kn_p hp.1.2.1 htn2.2.1 e2
  have hbn : ∀ {β : Type} (K : Int → Nat → Rs β), (bnd (pKw b n 139 (tNx b n (tNx b n p))) fun _ q => bnd (pNum b n 0 9 q) K) = K J p5 := fun K => kn_eq.trans (bnd_r e2)
  have hf13 : (G13.1 66 2).toInt = 0 := hp5.k2
  rcases hh with ⟨-, G19, -, hF19, e81, x24, G20, hl, -, -, -, hF20, hh⟩ | ⟨c, -⟩
  rotate_left
  · omega
  rw [cn_eq hm] at e81
  have hK13 : KeM NS.length G G13 := (KeM.of hnm.2.1 (by decide) (by decide)).tr (KeM.of ht2.2.1 (by decide) (by decide))
  have hK19 : KeM NS.length G G19 := hK13.tr ⟨fun s' q => by rw [e81]; exact if_neg q, fun j q => by rw [hF19.row1 77 (by decide) (by decide), hF19.row1 78 (by decide) (by decide), hF19.row1 79 (by decide) (by decide), hF19.row1 80 (by decide) (by decide)]; exact ⟨rfl, rfl, rfl, rfl⟩⟩
  have h45 : (G19.1 66 45).toInt = (NS.length : Int) := by
    rw [hF19.i 66 45 (by decide) (by decide), ht2.2.1.i 66 45 (by decide) (by decide), hnm.2.1.i 66 45 (by decide) (by decide)]
    exact hm
  have hS19 : StM NS.length [] G19 := ⟨by rw [e81, show upd (G13.1 81) NS.length 0 NS.length = 0 from if_pos rfl]; rfl, fun i hi => absurd hi (Nat.not_lt_zero i)⟩
  have hp19 : MP b n G19 p5 := hp5.fr hF19 (by decide) (by decide) (by decide) (by decide)
  have hU19 : NmU 0 NS (tL b n (tNx b n p)) G G19 := (hU.frl ht2.2.1 (by decide) (by decide)).frl hF19 (by decide) (by decide)
  have hI := hl (fun q => (∃ f, MF f q.2 ∧ pSls b n J p5 = .inl f) ∨ (∃ (nth : Nat) (I : List IC) (p' : Nat), q.1.toInt = (nth : Int) ∧ MP b n q.2 p' ∧ p5 ≤ p' ∧ (q.2.1 66 45).toInt = (NS.length : Int) ∧ StM NS.length I q.2 ∧ KeM NS.length G q.2 ∧ (I.length : Int) ≤ 400 ∧ nth ≤ I.length ∧ ∀ o, Et (slS b n J) (0, [], p5) o ↔ Et (slS b n J) (nth, I, p') o)) (Or.inr ⟨0, [], p5, rfl, hp19, Nat.le_refl _, h45, hS19, hK19, by decide, Nat.le_refl _, fun o => Iff.rfl⟩) (by
    rintro ⟨x1, G_1⟩ ⟨xn, G_1n⟩ hi ⟨x1q, G_1q, xnq, G_1nq, q1, q2, -, -, -, hf0, hd⟩
    obtain ⟨rfl, rfl⟩ := Prod.mk.inj q1
    obtain ⟨rfl, rfl⟩ := Prod.mk.inj q2
    rcases hi with ⟨f, hmf, -⟩ | ⟨nth, I, p', g1, g2, g3, g4, g5, g6, g7, g8, g9⟩
    · exact absurd hf0 (by have := MF.pos (G := G_1) hmf; omega)
    simp only at g1 g2 g4 g5 g6
    have h201 := g2.so.2.1
    have hd2 : (nth = 0 ∨ tK b n p' = 201) ∧ Q_readSlab r12 x1 ((G.1 66 45).toNatClampNeg) G_1 G_1n ∧ xn.toInt = x1.toInt + 1 := by
      rcases hd with ⟨d0, G7, d1, y7, d3, d4, d5⟩ | ⟨d0, d6, G7, d1, y7, d3, d4, d5⟩
      · subst d5
        exact ⟨Or.inl (by clear h201; omega), d1, by rw [← d4]; exact d3⟩
      · subst d5
        refine ⟨Or.inr (h201.mp d6), d1, ?_⟩
        rw [← d4]
        exact tI_add (y := 1) d3 (by have o : (1 : Int32).toInt = 1 := rfl; clear h201; omega) (by have o : (1 : Int32).toInt = 1 := rfl; clear h201; omega)
    clear hd h201
    obtain ⟨hc, d1, d3⟩ := hd2
    rcases m_slab d1 g2 g4 g5 hrJ g1 (by omega) hlo' hhi' with ⟨f, s1, s2⟩ | ⟨vx, p2, s1, s3, s4, s5, s6, s7, s8⟩
    · have hsl : slS b n J (nth, I, p') = .inr (.inl f) := slS_l hc s1
      exact Or.inl ⟨f, s2, run_eq ((g9 _).mpr ((Et_r hsl).mpr rfl))⟩
    · have hsl : slS b n J (nth, I, p') = .inl (nth + 1, I ++ slI J nth vx, p2) := slS_r hc s1
      have hle : nth + 1 ≤ (I ++ slI J nth vx).length := by
        rw [List.length_append, slI_len]
        omega
      refine Or.inr ⟨nth + 1, I ++ slI J nth vx, p2, by show xn.toInt = _; omega, s3, by omega, ?_, s5, g6.tr s6, s8, hle, fun o => (g9 o).trans (Et_i hsl)⟩
      show (G_1n.1 66 45).toInt = _
      rw [d1.2.1.i 66 45 (by decide) (by decide)]
      exact g4)
  rcases hI with ⟨f, hmf, he⟩ | ⟨nth, I, p', g1, g2, g3, g4, g5, g6, g7, g8, g9⟩
  · have hpo : 0 < (G20.1 66 2).toInt := MF.pos hmf
    rcases hh with ⟨c, -⟩ | ⟨-, rfl⟩
    · omega
    · exact Or.inl ⟨f, by unfold pStreet; exact (bnd_r e1).trans ((hbn _).trans (bnd_l he)), hmf⟩
  simp only at g1 g2 g4 g5 g6
  have hf20 : (G20.1 66 2).toInt = 0 := g2.k2
  rcases hh with ⟨-, c0, c2, y52, t52, hFe, e45⟩ | ⟨c, -⟩
  rotate_left
  · omega
  have h201 := g2.so.2.1
  have n201 : tK b n p' ≠ 201 := fun q => c2 (h201.mpr q)
  clear h201
  have hsl : slS b n J (nth, I, p') = .inr (.inr (I, p')) := by
    unfold slS
    rw [if_neg (show ¬ (nth = 0 ∨ tK b n p' = 201) by omega)]
  have hpl : pSls b n J p5 = .inr (I, p') := run_eq ((g9 _).mpr ((Et_r hsl).mpr rfl))
  refine Or.inr ⟨(tL b n (tNx b n p), I), p', by unfold pStreet; exact (bnd_r e1).trans ((hbn _).trans (bnd_r hpl)), g2.fr hFe (by decide) (by decide) (by decide) (by decide), by omega, (hU19.frl hF20 (by decide) (by decide)).frl hFe (by decide) (by decide), by rw [e45]; omega, g5.fr hFe (by decide) (by decide), g6.tr (KeM.of hFe (by decide) (by decide)), g7⟩
