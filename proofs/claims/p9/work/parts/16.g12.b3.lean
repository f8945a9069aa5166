/-! formulas by the reference: units -/
def CfM (b : Nat → Int) (n f : Nat) (G : GS) (p : Nat) (S : List Int) (C : List (Int × Int)) (u w : Int) : Prop := MP b n G p ∧ StkM S G ∧ (G.1 66 24).toInt = (dps S : Int) ∧ (G.1 66 23).toInt = u ∧ (G.1 66 21).toInt = w ∧ (G.1 66 19).toInt = (f : Int) ∧ CodeM f C G ∧ 0 ≤ w ∧ w ≤ 90
theorem CfM.t {b : Nat → Int} {n f p : Nat} {G : GS} {S : List Int} {C : List (Int × Int)} {u w : Int} (h : CfM b n f G p S C u w) : n ≤ 1600 ∧ p ≤ n ∧ p ≤ tNx b n p ∧ tNx b n p ≤ n ∧ (tK b n p ≠ 203 → p < tNx b n p) := by
  have h1 := tN_p (b := b) h.1.1.2.1 h.1.2.2.2
  exact ⟨h.1.1.2.1, h.1.2.2.2, h1.1, h1.2.1, fun q => (h1.2.2 q).1⟩
theorem m_count {b : Nat → Int} {n f p : Nat} {G G1 : GS} {S : List Int} {C : List (Int × Int)} {u w : Int} (h : Q_countUnit G G1) (hc : CfM b n f G p S C u w) (hw : w < 90) : CfM b n f G1 p S C (u + 1) (w + 1) := by
  obtain ⟨-, hF, -, y1, e1, y4, t4, -, e21, e23⟩ := h
  obtain ⟨c1, c2, c3, c4, c5, c6, c7, c8, c9⟩ := hc
  refine ⟨c1.fr hF (by decide) (by decide) (by decide) (by decide), c2.fr hF (by decide) (by decide) (by decide) (by decide), by rw [hF.i 66 24 (by decide) (by decide)]; exact c3, by rw [e23]; omega, ?_, by rw [hF.i 66 19 (by decide) (by decide)]; exact c6, c7.fr hF (by decide) (by decide), by omega, by omega⟩
  rw [e21]
  exact xI_add (Y := 1) c5 rfl e1 (by omega) (by omega)
theorem CfM.next {b : Nat → Int} {n f p : Nat} {G G1 : GS} {S : List Int} {C : List (Int × Int)} {u w : Int} (h : Q_token G G1) (hc : CfM b n f G p S C u w) (hk : tK b n p ≠ 202) : CfM b n f G1 (tNx b n p) S C u w := by
  obtain ⟨c1, c2, c3, c4, c5, c6, c7, c8⟩ := hc
  have hF := h.2.1
  exact ⟨m_next h c1 hk, c2.fr hF (by decide) (by decide) (by decide) (by decide), by rw [hF.i 66 24 (by decide) (by decide)]; exact c3, by rw [hF.i 66 23 (by decide) (by decide)]; exact c4, by rw [hF.i 66 21 (by decide) (by decide)]; exact c5, by rw [hF.i 66 19 (by decide) (by decide)]; exact c6, c7.fr hF (by decide) (by decide), c8⟩
theorem m_openUp {b : Nat → Int} {n f p : Nat} {G G1 : GS} {S : List Int} {C : List (Int × Int)} {u w : Int} {o : Int32} (h : Q_openUp o G G1) (hc : CfM b n f G p S C u w) (ho : o.toInt = 20 ∨ o.toInt = 21) (hk : tK b n p ≠ 202) : CfM b n f G1 (tNx b n p) (o.toInt :: S) C u w := by
  obtain ⟨-, -, -, y3, t3, y7, t7, hh⟩ := h
  have hf := hc.1.2.2.1
  rcases hh with ⟨c, G8, -, hF, e20, e24, e75, G21, ht, rfl⟩ | ⟨c, -⟩
  · refine CfM.next ht ?_ hk
    obtain ⟨c1, c2, c3, c4, c5, c6, c7, c8⟩ := hc
    refine ⟨c1.fr hF (by decide) (by decide) (by decide) (by decide), stk_push c2 (by rw [e20]; omega) e75, ?_, by rw [hF.i 66 23 (by decide) (by decide)]; exact c4, by rw [hF.i 66 21 (by decide) (by decide)]; exact c5, by rw [hF.i 66 19 (by decide) (by decide)]; exact c6, c7.fr hF (by decide) (by decide), c8⟩
    rw [dps, if_pos ho, e24]
    omega
  · omega
theorem openUp_f {G G1 : GS} {o : Int32} {ft : Int × Int} (h : Q_openUp o G G1) (hm : MF ft G) : MF ft G1 := by
  have e2 := h.2.1.i 66 2 (by decide) (by decide)
  have e3 := h.2.1.i 66 3 (by decide) (by decide)
  unfold MF at hm ⊢
  rw [e2, e3]
  exact hm
theorem count_f {G G1 : GS} {ft : Int × Int} (h : Q_countUnit G G1) (hm : MF ft G) : MF ft G1 := by
  have e2 := h.2.1.i 66 2 (by decide) (by decide)
  have e3 := h.2.1.i 66 3 (by decide) (by decide)
  unfold MF at hm ⊢
  rw [e2, e3]
  exact hm
theorem CfM.add {b : Nat → Int} {n f p : Nat} {G G1 : GS} {S : List Int} {C : List (Int × Int)} {u w : Int} {s v : Int32} (h : Q_add s v G G1) (hc : CfM b n f G p S C u w) : CfM b n f G1 p S (C ++ [(s.toInt, v.toInt)]) u w := by
  obtain ⟨c1, c2, c3, c4, c5, c6, c7, c8⟩ := hc
  have hF := h.2.1
  exact ⟨c1.fr hF (by decide) (by decide) (by decide) (by decide), c2.fr hF (by decide) (by decide) (by decide) (by decide), by rw [hF.i 66 24 (by decide) (by decide)]; exact c3, by rw [hF.i 66 23 (by decide) (by decide)]; exact c4, by rw [hF.i 66 21 (by decide) (by decide)]; exact c5, by rw [hF.i 66 19 (by decide) (by decide)]; exact c6, m_add h c6 c7, c8⟩
theorem CfM.close {b : Nat → Int} {n f p : Nat} {G G1 : GS} {S : List Int} {C : List (Int × Int)} {u w : Int} {L : Int32} (h : Q_close L G G1) (hc : CfM b n f G p S C u w) : CfM b n f G1 p (clo L.toInt S C).1 (clo L.toInt S C).2 u w := by
  obtain ⟨c1, c2, c3, c4, c5, c6, c7, c8⟩ := hc
  have hF := h.2.1
  obtain ⟨k1, k2, k3⟩ := m_close h c6 c2 c3 c7
  exact ⟨c1.fr hF (by decide) (by decide) (by decide) (by decide), k1, k2, by rw [hF.i 66 23 (by decide) (by decide)]; exact c4, by rw [hF.i 66 21 (by decide) (by decide)]; exact c5, by rw [hF.i 66 19 (by decide) (by decide)]; exact c6, k3, c8⟩
theorem MF.pos {ft : Int × Int} {G : GS} (h : MF ft G) : 0 < (G.1 66 2).toInt := by
  have h1 := h.1
  have h2 := h.2.2
  omega
def UI (b : Nat → Int) (n f p : Nat) (S : List Int) (C : List (Int × Int)) (u w : Int) (x : Int32) (G : GS) : Prop := (∃ ft, MF ft G ∧ Ev b n (true, p, S, C, u, w) (.inl ft)) ∨ (∃ p' S' u' w', CfM b n f G p' S' C u' w' ∧ p ≤ p' ∧ (∀ o, Ev b n (true, p, S, C, u, w) o ↔ Ev b n (true, p', S', C, u', w') o) ∧ (x.toInt = 0 → ¬ (tK b n p' = 146 ∧ mno S' = true) ∧ tK b n p' ≠ 40))
theorem m_ustep {b : Nat → Int} {n f p : Nat} {S : List Int} {C : List (Int × Int)} {u w : Int} {G : GS} {q q1 : Int32 × GS} (hs : St_n_unit_1 G q q1) (hi : UI b n f p S C u w q.1 q.2) : UI b n f p S C u w q1.1 q1.2 := by
  obtain ⟨x, G3, xn, G3n, rfl, rfl, -, -, -, -, -, hx, hf0, r1, Ga, hw1, hh⟩ := hs
  rcases hi with ⟨ft, hm, -⟩ | ⟨p', S', u', w', hc, hpp, hev, -⟩
  · exact absurd hf0 (by have := MF.pos (G := G3) hm; omega)
  have ht := hc.t
  obtain ⟨rfl, q18⟩ := m_isWord (i := 18) (by decide) (by decide +kernel) hw1 hc.1
  have q146 : r1.toInt ≠ 0 ↔ tK b n p' = 146 := q18
  clear q18
  have hd : (G3.1 66 24).toInt = (dps S' : Int) := hc.2.2.1
  have hu : (G3.1 66 23).toInt = u' := hc.2.2.2.1
  have hw : (G3.1 66 21).toInt = w' := hc.2.2.2.2.1
  have hwb : 0 ≤ w' ∧ w' ≤ 90 := hc.2.2.2.2.2.2.2
  rcases hh with ⟨hr, r2, Gb, hmn, hr2, hh⟩ | ⟨Gd, hj, -, -, hh⟩
  · have k146 := q146.mp hr
    obtain ⟨rfl, qm⟩ := m_mayNot hmn hc.2.1
    have km := qm.mp hr2
    rcases hh with ⟨c24, Ge, ho, rfl, rfl⟩ | ⟨c24, Ge, hwr, Gf, ho, rfl, rfl⟩
    · have h2 : CfM b n f Ge (tNx b n p') (21 :: S') C u' w' := m_openUp ho hc (Or.inr rfl) (by omega)
      have hsy : syB b n p' S' C u' w' = .inl (true, tNx b n p', 21 :: S', C, u', w') := by
        unfold syB
        rw [if_pos ⟨k146, km⟩, if_neg (by omega)]
      exact Or.inr ⟨tNx b n p', 21 :: S', u', w', h2, by omega, fun o => (hev o).trans (Ev_B hsy), fun q => absurd q hx⟩
    · obtain ⟨hm, -⟩ := m_wrong hwr hc.1 (by decide)
      have hsy : syB b n p' S' C u' w' = .inr (.inl (fl b n 2 p')) := by
        unfold syB
        rw [if_pos ⟨k146, km⟩, if_pos (by omega)]
      exact Or.inl ⟨fl b n 2 p', openUp_f ho hm, (hev _).mpr ((Ev_Br hsy).mpr rfl)⟩
  · have hno : ¬ (tK b n p' = 146 ∧ mno S' = true) ∧ G3 = Gd := by
      rcases hj with ⟨c, e⟩ | ⟨c, r2, Gb, hmn, hr2, e⟩
      · exact ⟨fun q => (q146.mpr q.1) c, e⟩
      · obtain ⟨rfl, qm⟩ := m_mayNot hmn hc.2.1
        exact ⟨fun q => (qm.mpr q.2) hr2, e⟩
    obtain ⟨hno, rfl⟩ := hno
    have h40 := hc.1.so.2.2.2.2 40 (by decide) (by decide)
    rcases hh with ⟨c40, r3, Gc, hfu, hh⟩ | ⟨c40, rfl, rfl⟩
    · have k40 := h40.mp c40
      obtain ⟨rfl, qf⟩ := m_isFull hfu
      rw [hu, hw] at qf
      rcases hh with ⟨hr3, hh⟩ | ⟨hr3, Ge, hwr, Gf, hcu, Gg, ho, rfl, rfl⟩
      · have nf : ¬ (w' = 90 ∨ u' = 30) := fun q => (qf.mpr q) hr3
        clear qf q146 h40
        rcases hh with ⟨c24, Ge, hcu, Gf, ho, rfl, rfl⟩ | ⟨c24, Ge, hwr, Gf, hcu, Gg, ho, rfl, rfl⟩
        · have h1 := m_count hcu hc (by omega)
          have h2 : CfM b n f Gf (tNx b n p') (20 :: S') C (u' + 1) (w' + 1) := m_openUp ho h1 (Or.inl rfl) (by omega)
          have hsy : syB b n p' S' C u' w' = .inl (true, tNx b n p', 20 :: S', C, u' + 1, w' + 1) := by
            unfold syB
            rw [if_neg hno, if_pos k40, if_neg (by omega)]
          exact Or.inr ⟨tNx b n p', 20 :: S', u' + 1, w' + 1, h2, by omega, fun o => (hev o).trans (Ev_B hsy), fun q => absurd q hx⟩
        · obtain ⟨hm, -⟩ := m_wrong hwr hc.1 (by decide)
          have hsy : syB b n p' S' C u' w' = .inr (.inl (fl b n 2 p')) := by
            unfold syB
            rw [if_neg hno, if_pos k40, if_pos (by omega)]
          exact Or.inl ⟨fl b n 2 p', openUp_f ho (count_f hcu hm), (hev _).mpr ((Ev_Br hsy).mpr rfl)⟩
      · have nf := qf.mp hr3
        clear qf q146 h40
        obtain ⟨hm, -⟩ := m_wrong hwr hc.1 (by decide)
        have hsy : syB b n p' S' C u' w' = .inr (.inl (fl b n 2 p')) := by
          unfold syB
          rw [if_neg hno, if_pos k40, if_pos (Or.inl nf)]
        exact Or.inl ⟨fl b n 2 p', openUp_f ho (count_f hcu hm), (hev _).mpr ((Ev_Br hsy).mpr rfl)⟩
    · exact Or.inr ⟨p', S', u', w', hc, hpp, hev, fun _ => ⟨hno, fun q => c40 (h40.mpr q)⟩⟩
def UO (b : Nat → Int) (n f p : Nat) (S : List Int) (C : List (Int × Int)) (u w : Int) (G1 : GS) : Prop := (∃ ft, MF ft G1 ∧ Ev b n (true, p, S, C, u, w) (.inl ft)) ∨ (∃ p' S' C' u' w', CfM b n f G1 p' S' C' u' w' ∧ p < p' ∧ ∀ o, Ev b n (true, p, S, C, u, w) o ↔ Ev b n (false, p', S', C', u', w') o)
theorem m_unit {b : Nat → Int} {n f p : Nat} {S : List Int} {C : List (Int × Int)} {u w : Int} {G G1 : GS} (h : Q_unit G G1) (hc0 : CfM b n f G p S C u w) : UO b n f p S C u w G1 := by
  obtain ⟨-, -, -, x, G3, hl, -, -, -, -, -, -, G29, hj, -, -, hh⟩ := h
  have hi : UI b n f p S C u w x G3 := hl (fun q => UI b n f p S C u w q.1 q.2) (Or.inr ⟨p, S, u, w, hc0, Nat.le_refl p, fun o => Iff.rfl, fun q => absurd q (show ¬ (1 : Int32).toInt = 0 by decide)⟩) (fun a a' ha hs => m_ustep hs ha)
  clear hl
  have e29 : G3 = G29 := by
    rcases hj with ⟨-, e⟩ | ⟨-, -, e⟩ <;> exact e
  rcases hi with ⟨ft, hm, he⟩ | ⟨p', S', u', w', hc, hpp, hev, hx0⟩
  · have hpos := hm.pos
    rcases hh with ⟨c, -⟩ | ⟨-, e⟩
    · omega
    · subst e29
      subst e
      exact Or.inl ⟨ft, hm, he⟩
  have hf0 : (G3.1 66 2).toInt = 0 := hc.1.2.2.1.1
  have hx : x.toInt = 0 := by
    rcases hj with ⟨c, -⟩ | ⟨-, c, -⟩
    · exact c
    · exact absurd hf0 c
  obtain ⟨hno, n40⟩ := hx0 hx
  clear hx0 hj hx
  subst e29
  have ht := hc.t
  have hu : (G3.1 66 23).toInt = u' := hc.2.2.2.1
  have hw : (G3.1 66 21).toInt = w' := hc.2.2.2.2.1
  have hwb : 0 ≤ w' ∧ w' ≤ 90 := hc.2.2.2.2.2.2.2
  rcases hh with ⟨-, r34, Ga, hask, hh⟩ | ⟨c, -⟩
  rotate_left
  · omega
  obtain ⟨rfl, hr⟩ := m_asked hask hc.1
  have h201 := hc.1.so.2.1
  have bad : (tK b n p' ≠ 201 ∧ ask (tK b n p') < 0) ∨ (w' = 90 ∨ u' = 30) → ∀ {Gw : GS}, Q_wrong 2 G3 Gw → UO b n f p S C u w Gw := by
    intro hb Gw hwr
    obtain ⟨hm, -⟩ := m_wrong hwr hc.1 (by decide)
    have hsy : syB b n p' S' C u' w' = .inr (.inl (fl b n 2 p')) := by
      unfold syB
      rw [if_neg hno, if_neg n40, if_pos hb]
    exact Or.inl ⟨fl b n 2 p', hm, (hev _).mpr ((Ev_Br hsy).mpr rfl)⟩
  have good : ¬ ((tK b n p' ≠ 201 ∧ ask (tK b n p') < 0) ∨ (w' = 90 ∨ u' = 30)) → ∀ {Gc Gd Ge : GS} {s v : Int32}, Q_countUnit G3 Gc → Q_add s v Gc Gd → Q_token Gd Ge → (s.toInt, v.toInt) = (if ask (tK b n p') < 0 then ((0 : Int), tV b n p') else (1, ask (tK b n p'))) → tK b n p' ≠ 202 ∧ tK b n p' ≠ 203 → UO b n f p S C u w Ge := by
    intro hb Gc Gd Ge s v hcu had htk hsv h2
    have hw9 : w' < 90 := by
      have q9 : w' ≠ 90 := fun q => hb (Or.inr (Or.inl q))
      clear hb hev hno bad
      omega
    have h1 := CfM.next htk (CfM.add had (m_count hcu hc hw9)) h2.1
    rw [hsv] at h1
    have hsy : syB b n p' S' C u' w' = .inl (false, tNx b n p', S', C ++ [if ask (tK b n p') < 0 then (0, tV b n p') else (1, ask (tK b n p'))], u' + 1, w' + 1) := by
      unfold syB
      rw [if_neg hno, if_neg n40, if_neg hb]
    exact Or.inr ⟨tNx b n p', S', _, u' + 1, w' + 1, h1, by have := ht.2.2.2.2 h2.2; omega, fun o => (hev o).trans (Ev_B hsy)⟩
  have a201 : ask 201 = -1 := by decide
  rcases hh with ⟨c2, r42, Gb, hfu, hh⟩ | ⟨c2, hh⟩
  · have k201 := h201.mp c2
    rw [k201, a201] at hr
    obtain ⟨rfl, qf⟩ := m_isFull hfu
    rw [hu, hw] at qf
    rcases hh with ⟨hr42, Gc, hcu, hh⟩ | ⟨hr42, Gc, hwr, hh⟩
    · have nf : ¬ (w' = 90 ∨ u' = 30) := fun q => (qf.mpr q) hr42
      rcases hh with ⟨c, -⟩ | ⟨-, Gd, had, Ge, htk, rfl⟩
      · exact absurd c (by rw [hr]; decide)
      · refine good (fun q => q.elim (fun q => q.1 k201) nf) hcu had htk ?_ ⟨by rw [k201]; decide, by rw [k201]; decide⟩
        rw [k201, a201, if_pos (by decide)]
        exact Prod.ext rfl (hc.1.2.1.2.2.2.1 k201)
    · have nf := qf.mp hr42
      rcases hh with ⟨c, -⟩ | ⟨-, rfl⟩
      · exact absurd c (by have := (m_wrong hwr hc.1 (by decide)).1.pos; omega)
      · exact bad (Or.inr nf) hwr
  · have n201 : tK b n p' ≠ 201 := fun q => c2 (h201.mpr q)
    rcases hh with ⟨c, Gc, hwr, hh⟩ | ⟨c, r45, Gb, hfu, hh⟩
    · rcases hh with ⟨c', -⟩ | ⟨-, rfl⟩
      · exact absurd c' (by have := (m_wrong hwr hc.1 (by decide)).1.pos; omega)
      · exact bad (Or.inl ⟨n201, by rw [← hr]; exact c⟩) hwr
    · have hask0 : ¬ ask (tK b n p') < 0 := by rw [← hr]; omega
      obtain ⟨rfl, qf⟩ := m_isFull hfu
      rw [hu, hw] at qf
      rcases hh with ⟨hr45, Gc, hcu, Gd, had, Ge, htk, rfl⟩ | ⟨hr45, Gc, hwr, hh⟩
      · have nf : ¬ (w' = 90 ∨ u' = 30) := fun q => (qf.mpr q) hr45
        refine good (fun q => q.elim (fun q => hask0 q.2) nf) hcu had htk ?_ ⟨fun q => hask0 (by rw [q]; decide), fun q => hask0 (by rw [q]; decide)⟩
        rw [if_neg hask0]
        exact Prod.ext rfl hr
      · have nf := qf.mp hr45
        rcases hh with ⟨c', -⟩ | ⟨-, rfl⟩
        · exact absurd c' (by have := (m_wrong hwr hc.1 (by decide)).1.pos; omega)
        · exact bad (Or.inr nf) hwr
