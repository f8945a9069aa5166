/-! formulas by the reference: units -/
def CfM (b : Nat → Int) (n f : Nat) (G : GS) (p : Nat) (S : List Int) (C : List (Int × Int)) (u w : Int) : Prop := MP b n G p ∧ StkM S G ∧ (G.1 66 24).toInt = (dps S : Int) ∧ (G.1 66 23).toInt = u ∧ (G.1 66 21).toInt = w ∧ (G.1 66 19).toInt = (f : Int) ∧ CodeM f C G ∧ 0 ≤ w ∧ w ≤ 90
theorem CfM.t {b : Nat → Int} {n f p : Nat} {G : GS} {S : List Int} {C : List (Int × Int)} {u w : Int} (h : CfM b n f G p S C u w) : n ≤ 1600 ∧ p ≤ n ∧ p ≤ tNx b n p ∧ tNx b n p ≤ n ∧ (tK b n p ≠ 203 → p < tNx b n p) := by
  have h1 := tN_p (b := b) h.1.1.2.1 h.1.2.2.2
  exact ⟨h.1.1.2.1, h.1.2.2.2, h1.1, h1.2.1, fun q => (h1.2.2 q).1⟩
theorem m_count {b : Nat → Int} {n f p : Nat} {G G1 : GS} {S : List Int} {C : List (Int × Int)} {u w : Int} (h : Q_countUnit G G1) (hc : CfM b n f G p S C u w) (hw : w < 90) : CfM b n f G1 p S C (u + 1) (w + 1) := by
  obtain ⟨-, hF, -, y1, e1, y4, t4, -, e21, e23⟩ := h
  obtain ⟨c1, c2, c3, c4, c5, c6, c7, c8, c9⟩ := hc
  refine ⟨c1.fr hF (by decide) (by decide) (by decide) (by decide), c2.fr hF (by decide) (by decide) (by decide) (by decide), by rw [hF.i 66 24 (by decide) (by decide)]; exact c3, by rw [e23]; omega, ?_, by rw [hF.i 66 19 (by decide) (by decide)]; exact c6, c7.fr hF (by decide) (by decide), by omega, by omega⟩
  rw [e21]
  exact xI_add (Y := 1) c5 rfl e1 (by omega) (by omega)
theorem CfM.next {b : Nat → Int} {n f p : Nat} {G G1 : GS} {S : List Int} {C : List (Int × Int)} {u w : Int} (h : Q_token G G1) (hc : CfM b n f G p S C u w) (hk : tK b n p ≠ 202) : CfM b n f G1 (tNx b n p) S C u w := by
  obtain ⟨c1, c2, c3, c4, c5, c6, c7, c8⟩ := hc
  have hF := h.2.1
  exact ⟨m_next h c1 hk, c2.fr hF (by decide) (by decide) (by decide) (by decide), by rw [hF.i 66 24 (by decide) (by decide)]; exact c3, by rw [hF.i 66 23 (by decide) (by decide)]; exact c4, by rw [hF.i 66 21 (by decide) (by decide)]; exact c5, by rw [hF.i 66 19 (by decide) (by decide)]; exact c6, c7.fr hF (by decide) (by decide), c8⟩
theorem m_openUp {b : Nat → Int} {n f p : Nat} {G G1 : GS} {S : List Int} {C : List (Int × Int)} {u w : Int} {o : Int32} (h : Q_openUp o G G1) (hc : CfM b n f G p S C u w) (ho : o.toInt = 20 ∨ o.toInt = 21) (hk : tK b n p ≠ 202) : CfM b n f G1 (tNx b n p) (o.toInt :: S) C u w := by
  obtain ⟨-, -, -, y3, t3, y7, t7, hh⟩ := h
  have hf := hc.1.2.2.1
  rcases hh with ⟨c, G8, -, hF, e20, e24, e75, G21, ht, rfl⟩ | ⟨c, -⟩
  · refine CfM.next ht ?_ hk
    obtain ⟨c1, c2, c3, c4, c5, c6, c7, c8⟩ := hc
    refine ⟨c1.fr hF (by decide) (by decide) (by decide) (by decide), stk_push c2 (by rw [e20]; omega) e75, ?_, by rw [hF.i 66 23 (by decide) (by decide)]; exact c4, by rw [hF.i 66 21 (by decide) (by decide)]; exact c5, by rw [hF.i 66 19 (by decide) (by decide)]; exact c6, c7.fr hF (by decide) (by decide), c8⟩
    rw [dps, if_pos ho, e24]
    omega
  · omega
theorem openUp_f {G G1 : GS} {o : Int32} {ft : Int × Int} (h : Q_openUp o G G1) (hm : MF ft G) : MF ft G1 := by
  have e2 := h.2.1.i 66 2 (by decide) (by decide)
  have e3 := h.2.1.i 66 3 (by decide) (by decide)
  unfold MF at hm ⊢
  rw [e2, e3]
  exact hm
theorem count_f {G G1 : GS} {ft : Int × Int} (h : Q_countUnit G G1) (hm : MF ft G) : MF ft G1 := by
  have e2 := h.2.1.i 66 2 (by decide) (by decide)
  have e3 := h.2.1.i 66 3 (by decide) (by decide)
  unfold MF at hm ⊢
  rw [e2, e3]
  exact hm
theorem CfM.add {b : Nat → Int} {n f p : Nat} {G G1 : GS} {S : List Int} {C : List (Int × Int)} {u w : Int} {s v : Int32} (h : Q_add s v G G1) (hc : CfM b n f G p S C u w) : CfM b n f G1 p S (C ++ [(s.toInt, v.toInt)]) u w := by
  obtain ⟨c1, c2, c3, c4, c5, c6, c7, c8⟩ := hc
  have hF := h.2.1
  exact ⟨c1.fr hF (by decide) (by decide) (by decide) (by decide), c2.fr hF (by decide) (by decide) (by decide) (by decide), by rw [hF.i 66 24 (by decide) (by decide)]; exact c3, by rw [hF.i 66 23 (by decide) (by decide)]; exact c4, by rw [hF.i 66 21 (by decide) (by decide)]; exact c5, by rw [hF.i 66 19 (by decide) (by decide)]; exact c6, m_add h c6 c7, c8⟩
theorem CfM.close {b : Nat → Int} {n f p : Nat} {G G1 : GS} {S : List Int} {C : List (Int × Int)} {u w : Int} {L : Int32} (h : Q_close L G G1) (hc : CfM b n f G p S C u w) : CfM b n f G1 p (clo L.toInt S C).1 (clo L.toInt S C).2 u w := by
  obtain ⟨c1, c2, c3, c4, c5, c6, c7, c8⟩ := hc
  have hF := h.2.1
  obtain ⟨k1, k2, k3⟩ := m_close h c6 c2 c3 c7
  exact ⟨c1.fr hF (by decide) (by decide) (by decide) (by decide), k1, k2, by rw [hF.i 66 23 (by decide) (by decide)]; exact c4, by rw [hF.i 66 21 (by decide) (by decide)]; exact c5, by rw [hF.i 66 19 (by decide) (by decide)]; exact c6, k3, c8⟩
theorem MF.pos {ft : Int × Int} {G : GS} (h : MF ft G) : 0 < (G.1 66 2).toInt := by
  have h1 := h.1
  have h2 := h.2.2
  omega
def UI (b : Nat → Int) (n f p : Nat) (S : List Int) (C : List (Int × Int)) (u w : Int) (x : Int32) (G : GS) : Prop := (∃ ft, MF ft G ∧ Ev b n (true, p, S, C, u, w) (.inl ft)) ∨ (∃ p' S' u' w', CfM b n f G p' S' C u' w' ∧ p ≤ p' ∧ (∀ o, Ev b n (true, p, S, C, u, w) o ↔ Ev b n (true, p', S', C, u', w') o) ∧ (x.toInt = 0 → ¬ (tK b n p' = 146 ∧ mno S' = true) ∧ tK b n p' ≠ 40))
theorem m_ustep {b : Nat → Int} {n f p : Nat} {S : List Int} {C : List (Int × Int)} {u w : Int} {G : GS} {q q1 : Int32 × GS} (hs : St_n_unit_1 G q q1) (hi : UI b n f p S C u w q.1 q.2) : UI b n f p S C u w q1.1 q1.2 := by
  obtain ⟨x, G3, xn, G3n, rfl, rfl, -, -, -, -, -, hx, hf0, r1, Ga, hw1, hh⟩ := hs
  rcases hi with ⟨ft, hm, -⟩ | ⟨p', S', u', w', hc, hpp, hev, -⟩
  · exact absurd hf0 (by have := MF.pos (G := G3) hm; omega)
  have ht := hc.t
  obtain ⟨rfl, q18⟩ := m_isWord (i := 18) (by decide) (by decide +kernel) hw1 hc.1
  have q146 : r1.toInt ≠ 0 ↔ tK b n p' = 146 := q18
  clear q18
  have hd : (G3.1 66 24).toInt = (dps S' : Int) := hc.2.2.1
  have hu : (G3.1 66 23).toInt = u' := hc.2.2.2.1
  have hw : (G3.1 66 21).toInt = w' := hc.2.2.2.2.1
  have hwb : 0 ≤ w' ∧ w' ≤ 90 := hc.2.2.2.2.2.2.2
  rcases hh with ⟨hr, r2, Gb, hmn, hr2, hh⟩ | ⟨Gd, hj, -, -, hh⟩
  · have k146 := q146.mp hr
    obtain ⟨rfl, qm⟩ := m_mayNot hmn hc.2.1
    have km := qm.mp hr2
    rcases hh with ⟨c24, Ge, ho, rfl, rfl⟩ | ⟨c24, Ge, hwr, Gf, ho, rfl, rfl⟩
    · have h2 : CfM b n f Ge (tNx b n p') (21 :: S') C u' w' := m_openUp ho hc (Or.inr rfl) (by omega)
      have hsy : syB b n p' S' C u' w' = .inl (true, tNx b n p', 21 :: S', C, u', w') := by
        unfold syB
        rw [if_pos ⟨k146, km⟩, if_neg (by omega)]
      exact Or.inr ⟨tNx b n p', 21 :: S', u', w', h2, by omega, fun o => (hev o).trans (Ev_B hsy), fun q => absurd q hx⟩
    · obtain ⟨hm, -⟩ := m_wrong hwr hc.1 (by decide)
      have hsy : syB b n p' S' C u' w' = .inr (.inl (fl b n 2 p')) := by
        unfold syB
        rw [if_pos ⟨k146, km⟩, if_pos (by omega)]
      exact Or.inl ⟨fl b n 2 p', openUp_f ho hm, (hev _).mpr ((Ev_Br hsy).mpr rfl)⟩
  · have hno : ¬ (tK b n p' = 146 ∧ mno S' = true) ∧ G3 = Gd := by
      rcases hj with ⟨c, e⟩ | ⟨c, r2, Gb, hmn, hr2, e⟩
      · exact ⟨fun q => (q146.mpr q.1) c, e⟩
      · obtain ⟨rfl, qm⟩ := m_mayNot hmn hc.2.1
        exact ⟨fun q => (qm.mpr q.2) hr2, e⟩
    obtain ⟨hno, rfl⟩ := hno
    have h40 := hc.1.so.2.2.2.2 40 (by decide) (by decide)
    rcases hh with ⟨c40, r3, Gc, hfu, hh⟩ | ⟨c40, rfl, rfl⟩
    · have k40 := h40.mp c40
      obtain ⟨rfl, qf⟩ := m_isFull hfu
      rw [hu, hw] at qf
      rcases hh with ⟨hr3, hh⟩ | ⟨hr3, Ge, hwr, Gf, hcu, Gg, ho, rfl, rfl⟩
      · have nf : ¬ (w' = 90 ∨ u' = 30) := fun q => (qf.mpr q) hr3
        clear qf q146 h40
        rcases hh with ⟨c24, Ge, hcu, Gf, ho, rfl, rfl⟩ | ⟨c24, Ge, hwr, Gf, hcu, Gg, ho, rfl, rfl⟩
        · have h1 := m_count hcu hc (by omega)
          have h2 : CfM b n f Gf (tNx b n p') (20 :: S') C (u' + 1) (w' + 1) := m_openUp ho h1 (Or.inl rfl) (by omega)
          have hsy : syB b n p' S' C u' w' = .inl (true, tNx b n p', 20 :: S', C, u' + 1, w' + 1) := by
            unfold syB
            rw [if_neg hno, if_pos k40, if_neg (by omega)]
          exact Or.inr ⟨tNx b n p', 20 :: S', u' + 1, w' + 1, h2, by omega, fun o => (hev o).trans (Ev_B hsy), fun q => absurd q hx⟩
        · obtain ⟨hm, -⟩ := m_wrong hwr hc.1 (by decide)
          have hsy : syB b n p' S' C u' w' = .inr (.inl (fl b n 2 p')) := by
            unfold syB
            rw [if_neg hno, if_pos k40, if_pos (by omega)]
          exact Or.inl ⟨fl b n 2 p', openUp_f ho (count_f hcu hm), (hev _).mpr ((Ev_Br hsy).mpr rfl)⟩
      · have nf := qf.mp hr3
        clear qf q146 h40
        obtain ⟨hm, -⟩ := m_wrong hwr hc.1 (by decide)
        have hsy : syB b n p' S' C u' w' = .inr (.inl (fl b n 2 p')) := by
          unfold syB
          rw [if_neg hno, if_pos k40, if_pos (Or.inl nf)]
        exact Or.inl ⟨fl b n 2 p', openUp_f ho (count_f hcu hm), (hev _).mpr ((Ev_Br hsy).mpr rfl)⟩
    · exact Or.inr ⟨p', S', u', w', hc, hpp, hev, fun _ => ⟨hno, fun q => c40 (h40.mpr q)⟩⟩
def UO (b : Nat → Int) (n f p : Nat) (S : List Int) (C : List (Int × Int)) (u w : Int) (G1 : GS) : Prop := (∃ ft, MF ft G1 ∧ Ev b n (true, p, S, C, u, w) (.inl ft)) ∨ (∃ p' S' C' u' w', CfM b n f G1 p' S' C' u' w' ∧ p < p' ∧ ∀ o, Ev b n (true, p, S, C, u, w) o ↔ Ev b n (false, p', S', C', u', w') o)
theorem m_unit {b : Nat → Int} {n f p : Nat} {S : List Int} {C : List (Int × Int)} {u w : Int} {G G1 : GS} (h : Q_unit G G1) (hc0 : CfM b n f G p S C u w) : UO b n f p S C u w G1 := by
  obtain ⟨-, -, -, x, G3, hl, -, -, -, -, -, -, G29, hj, -, -, hh⟩ := h
  have hi : UI b n f p S C u w x G3 := hl (fun q => UI b n f p S C u w q.1 q.2) (Or.inr ⟨p, S, u, w, hc0, Nat.le_refl p, fun o => Iff.rfl, fun q => absurd q (show ¬ (1 : Int32).toInt = 0 by decide)⟩) (fun a a' ha hs => m_ustep hs ha)
  clear hl
  have e29 : G3 = G29 := by
    rcases hj with ⟨-, e⟩ | ⟨-, -, e⟩ <;> exact e
  rcases hi with ⟨ft, hm, he⟩ | ⟨p', S', u', w', hc, hpp, hev, hx0⟩
  · have hpos := hm.pos
    rcases hh with ⟨c, -⟩ | ⟨-, e⟩
    · omega
    · subst e29
      subst e
      exact Or.inl ⟨ft, hm, he⟩
  have hf0 : (G3.1 66 2).toInt = 0 := hc.1.2.2.1.1
  have hx : x.toInt = 0 := by
    rcases hj with ⟨c, -⟩ | ⟨-, c, -⟩
    · exact c
    · exact absurd hf0 c
  obtain ⟨hno, n40⟩ := hx0 hx
  clear hx0 hj hx
  subst e29
  have ht := hc.t
  have hu : (G3.1 66 23).toInt = u' := hc.2.2.2.1
  have hw : (G3.1 66 21).toInt = w' := hc.2.2.2.2.1
  have hwb : 0 ≤ w' ∧ w' ≤ 90 := hc.2.2.2.2.2.2.2
  rcases hh with ⟨-, r34, Ga, hask, hh⟩ | ⟨c, -⟩
  rotate_left
  · omega
  obtain ⟨rfl, hr⟩ := m_asked hask hc.1
  have h201 := hc.1.so.2.1
  have bad : (tK b n p' ≠ 201 ∧ ask (tK b n p') < 0) ∨ (w' = 90 ∨ u' = 30) → ∀ {Gw : GS}, Q_wrong 2 G3 Gw → UO b n f p S C u w Gw := by
    intro hb Gw hwr
    obtain ⟨hm, -⟩ := m_wrong hwr hc.1 (by decide)
    have hsy : syB b n p' S' C u' w' = .inr (.inl (fl b n 2 p')) := by
      unfold syB
      rw [if_neg hno, if_neg n40, if_pos hb]
    exact Or.inl ⟨fl b n 2 p', hm, (hev _).mpr ((Ev_Br hsy).mpr rfl)⟩
  have good : ¬ ((tK b n p' ≠ 201 ∧ ask (tK b n p') < 0) ∨ (w' = 90 ∨ u' = 30)) → ∀ {Gc Gd Ge : GS} {s v : Int32}, Q_countUnit G3 Gc → Q_add s v Gc Gd → Q_token Gd Ge → (s.toInt, v.toInt) = (if ask (tK b n p') < 0 then ((0 : Int), tV b n p') else (1, ask (tK b n p'))) → tK b n p' ≠ 202 ∧ tK b n p' ≠ 203 → UO b n f p S C u w Ge := by
    intro hb Gc Gd Ge s v hcu had htk hsv h2
    have hw9 : w' < 90 := by
      have q9 : w' ≠ 90 := fun q => hb (Or.inr (Or.inl q))
      clear hb hev hno bad
      omega
    have h1 := CfM.next htk (CfM.add had (m_count hcu hc hw9)) h2.1
    rw [hsv] at h1
    have hsy : syB b n p' S' C u' w' = .inl (false, tNx b n p', S', C ++ [if ask (tK b n p') < 0 then (0, tV b n p') else (1, ask (tK b n p'))], u' + 1, w' + 1) := by
      unfold syB
      rw [if_neg hno, if_neg n40, if_neg hb]
    exact Or.inr ⟨tNx b n p', S', _, u' + 1, w' + 1, h1, by have := ht.2.2.2.2 h2.2; omega, fun o => (hev o).trans (Ev_B hsy)⟩
  have a201 : ask 201 = -1 := by decide
  rcases hh with ⟨c2, r42, Gb, hfu, hh⟩ | ⟨c2, hh⟩
  · have k201 := h201.mp c2
    rw [k201, a201] at hr
    obtain ⟨rfl, qf⟩ := m_isFull hfu
    rw [hu, hw] at qf
    rcases hh with ⟨hr42, Gc, hcu, hh⟩ | ⟨hr42, Gc, hwr, hh⟩
    · have nf : ¬ (w' = 90 ∨ u' = 30) := fun q => (qf.mpr q) hr42
      rcases hh with ⟨c, -⟩ | ⟨-, Gd, had, Ge, htk, rfl⟩
      · exact absurd c (by rw [hr]; decide)
      · refine good (fun q => q.elim (fun q => q.1 k201) nf) hcu had htk ?_ ⟨by rw [k201]; decide, by rw [k201]; decide⟩
        rw [k201, a201, if_pos (by decide)]
        exact Prod.ext rfl (hc.1.2.1.2.2.2.1 k201)
    · have nf := qf.mp hr42
      rcases hh with ⟨c, -⟩ | ⟨-, rfl⟩
      · exact absurd c (by have := (m_wrong hwr hc.1 (by decide)).1.pos; omega)
      · exact bad (Or.inr nf) hwr
  · have n201 : tK b n p' ≠ 201 := fun q => c2 (h201.mpr q)
    rcases hh with ⟨c, Gc, hwr, hh⟩ | ⟨c, r45, Gb, hfu, hh⟩
    · rcases hh with ⟨c', -⟩ | ⟨-, rfl⟩
      · exact absurd c' (by have := (m_wrong hwr hc.1 (by decide)).1.pos; omega)
      · exact bad (Or.inl ⟨n201, by rw [← hr]; exact c⟩) hwr
    · have hask0 : ¬ ask (tK b n p') < 0 := by rw [← hr]; omega
      obtain ⟨rfl, qf⟩ := m_isFull hfu
      rw [hu, hw] at qf
      rcases hh with ⟨hr45, Gc, hcu, Gd, had, Ge, htk, rfl⟩ | ⟨hr45, Gc, hwr, hh⟩
      · have nf : ¬ (w' = 90 ∨ u' = 30) := fun q => (qf.mpr q) hr45
        refine good (fun q => q.elim (fun q => hask0 q.2) nf) hcu had htk ?_ ⟨fun q => hask0 (by rw [q]; decide), fun q => hask0 (by rw [q]; decide)⟩
        rw [if_neg hask0]
        exact Prod.ext rfl hr
      · have nf := qf.mp hr45
        rcases hh with ⟨c', -⟩ | ⟨-, rfl⟩
        · exact absurd c' (by have := (m_wrong hwr hc.1 (by decide)).1.pos; omega)
        · exact bad (Or.inr nf) hwr

/-! formulas by the reference: the whole formula -/
theorem clo0_br : ∀ {S : List Int} {C : List (Int × Int)}, (20 : Int) ∈ S → ∃ T, (clo 0 S C).1 = 20 :: T
  | [], _, h => absurd h (by simp)
  | o :: S, C, h => by
    rw [clo]
    by_cases ho : o = 20
    · subst ho
      rw [if_neg (fun q => q.1 rfl)]
      exact ⟨S, rfl⟩
    · rw [if_pos ⟨ho, by have := tgt_r o; omega⟩]
      rcases List.mem_cons.mp h with e | e
      · exact absurd e.symm ho
      · exact clo0_br e
def FI (b : Nat → Int) (n f p : Nat) (s : FS) (x : Int32) (G : GS) : Prop := (∃ ft, MF ft G ∧ Ev b n s (.inl ft)) ∨ (∃ p' S' C' u' w', CfM b n f G p' S' C' u' w' ∧ p < p' ∧ (∀ o, Ev b n s o ↔ Ev b n (false, p', S', C', u', w') o) ∧ (x.toInt = 0 → ¬ (tK b n p' = 41 ∧ (20 : Int) ∈ S') ∧ ¬ (sig (tK b n p') ≠ 0 ∧ ¬ (tgt (sig (tK b n p')) = 4 ∧ hrl S' = true))))
theorem CfM.popB {b : Nat → Int} {n f p : Nat} {G G1 : GS} {S : List Int} {C : List (Int × Int)} {u w : Int} {y z : Int32} (hc : CfM b n f G p (20 :: S) C u w) (hF : Fr [] [(66, 20), (66, 24)] G G1) (e1 : G1.1 66 20 = y) (e2 : G1.1 66 24 = z) (hy : y.toInt = (G.1 66 20).toInt - 1) (hz : z.toInt = (G.1 66 24).toInt - 1) : CfM b n f G1 p S C u w := by
  obtain ⟨c1, c2, c3, c4, c5, c6, c7, c8⟩ := hc
  have hd : dps (20 :: S) = dps S + 1 := by rw [dps, if_pos (Or.inl rfl)]
  rw [hd] at c3
  refine ⟨c1.fr hF (by decide) (by decide) (by decide) (by decide), stk_pop c2 hF (by decide) (by decide) (by rw [e1]; exact hy), by rw [e2]; omega, by rw [hF.i 66 23 (by decide) (by decide)]; exact c4, by rw [hF.i 66 21 (by decide) (by decide)]; exact c5, by rw [hF.i 66 19 (by decide) (by decide)]; exact c6, c7.fr hF (by decide) (by decide), c8⟩
theorem CfM.push {b : Nat → Int} {n f p : Nat} {G G1 : GS} {S : List Int} {C : List (Int × Int)} {u w : Int} {o y : Int32} (hc : CfM b n f G p S C u w) (hF : Fr [75] [(66, 20)] G G1) (e1 : G1.1 66 20 = y) (hy : y.toInt = (G.1 66 20).toInt + 1) (e75 : G1.1 75 = upd (G.1 75) (G.1 66 20).toNatClampNeg o) (ho : ¬ (o.toInt = 20 ∨ o.toInt = 21)) : CfM b n f G1 p (o.toInt :: S) C u w := by
  obtain ⟨c1, c2, c3, c4, c5, c6, c7, c8⟩ := hc
  refine ⟨c1.fr hF (by decide) (by decide) (by decide) (by decide), stk_push c2 (by rw [e1]; exact hy) e75, by rw [hF.i 66 24 (by decide) (by decide), dps, if_neg ho]; exact c3, by rw [hF.i 66 23 (by decide) (by decide)]; exact c4, by rw [hF.i 66 21 (by decide) (by decide)]; exact c5, by rw [hF.i 66 19 (by decide) (by decide)]; exact c6, c7.fr hF (by decide) (by decide), c8⟩
theorem sig_n {k : Int} (h : sig k ≠ 0) : ¬ (sig k = 20 ∨ sig k = 21) ∧ k ≠ 202 ∧ k ≠ 203 := by
  unfold sig at h ⊢
  by_cases h1 : k = 145
  · rw [if_pos h1]
    omega
  · rw [if_neg h1] at h ⊢
    by_cases h2 : k = 144
    · rw [if_pos h2]
      omega
    · rw [if_neg h2] at h ⊢
      by_cases h3 : k = 60 ∨ k = 62 ∨ k = 61 ∨ k = 43 ∨ k = 45 ∨ k = 42 ∨ k = 47 ∨ k = 37
      · rw [if_pos h3]
        omega
      · rw [if_neg h3] at h
        exact absurd rfl h
theorem m_fstep {b : Nat → Int} {n f p : Nat} {s : FS} {G : GS} {q q1 : Int32 × GS} (hs : St_n_formula_1 G q q1) (hi : FI b n f p s q.1 q.2) : FI b n f p s q1.1 q1.2 := by
  obtain ⟨x, G3, xn, G3n, rfl, rfl, -, -, -, -, hx, hf0, r1, Ga, hsg, hh⟩ := hs
  rcases hi with ⟨ft, hm, -⟩ | ⟨p', S', C', u', w', hc, hpp, hev, -⟩
  · exact absurd hf0 (by have := MF.pos (G := G3) hm; omega)
  have ht := hc.t
  obtain ⟨rfl, hr⟩ := m_sign hsg hc.1
  have h41 := hc.1.so.2.2.2.2 41 (by decide) (by decide)
  rcases hh with ⟨c41, r2, Gb, hb, hr2, Gc, hcl, y1, hy1, y2, hy2, Gd, -, hF, e1, e2, Ge, htk, rfl, rfl⟩ | ⟨Gb, hj, -, -, hh⟩
  · have k41 := h41.mp c41
    obtain ⟨rfl, qb⟩ := m_hasBracket hb hc.2.1
    have kb := qb.mp hr2
    have h1 : CfM b n f Gc p' (clo 0 S' C').1 (clo 0 S' C').2 u' w' := CfM.close hcl hc
    obtain ⟨T, hT⟩ := clo0_br (S := S') (C := C') kb
    have h2 : CfM b n f Gd p' T (clo 0 S' C').2 u' w' := CfM.popB (by rw [← hT]; exact h1) hF e1 e2 hy1 hy2
    have h3 := CfM.next htk h2 (by omega)
    have hsy : syA b n p' S' C' u' w' = .inl (false, tNx b n p', T, (clo 0 S' C').2, u', w') := by
      unfold syA
      rw [if_pos ⟨k41, kb⟩, hT]
      rfl
    exact Or.inr ⟨tNx b n p', T, _, u', w', h3, by omega, fun o => (hev o).trans (Ev_A hsy), fun q => absurd q hx⟩
  · have hno : ¬ (tK b n p' = 41 ∧ (20 : Int) ∈ S') ∧ G3 = Gb := by
      rcases hj with ⟨c, r2, Gc, hb, hr2, e⟩ | ⟨c, e⟩
      · obtain ⟨rfl, qb⟩ := m_hasBracket hb hc.2.1
        exact ⟨fun q => (qb.mpr q.2) hr2, e⟩
      · exact ⟨fun q => c (h41.mpr q.1), e⟩
    obtain ⟨hno, rfl⟩ := hno
    clear h41
    rcases hh with ⟨c0, rfl, rfl⟩ | ⟨c0, r3, Gc, htg, hh⟩
    · exact Or.inr ⟨p', S', C', u', w', hc, hpp, hev, fun _ => ⟨hno, fun q => q.1 (by rw [← hr]; exact c0)⟩⟩
    · have hsn := sig_n (k := tK b n p') (by rw [← hr]; exact c0)
      obtain ⟨rfl, ht3⟩ := m_tight htg
      rw [hr] at ht3
      rcases hh with ⟨c4, r4, Gd, hrl', hr4, rfl, rfl⟩ | ⟨Gd, hj, -, -, r4, Ge, htg2, Gf, hcl, y1, hy1, Gg, -, hF, e1, e75, Gh, htk, Gi, hun, rfl, rfl⟩
      · obtain ⟨rfl, ql⟩ := m_hasRel hrl' hc.2.1
        exact Or.inr ⟨p', S', C', u', w', hc, hpp, hev, fun _ => ⟨hno, fun q => q.2 ⟨by rw [← ht3]; exact c4, ql.mp hr4⟩⟩⟩
      · have hno2 : ¬ (tgt (sig (tK b n p')) = 4 ∧ hrl S' = true) ∧ G3 = Gd := by
          rcases hj with ⟨c, r5, Gj, hrl', hr5, e⟩ | ⟨c, e⟩
          · obtain ⟨rfl, ql⟩ := m_hasRel hrl' hc.2.1
            exact ⟨fun q => (ql.mpr q.2) hr5, e⟩
          · exact ⟨fun q => c (by rw [ht3]; exact q.1), e⟩
        obtain ⟨hno2, rfl⟩ := hno2
        obtain ⟨rfl, ht4⟩ := m_tight htg2
        rw [hr] at ht4
        have h1 := CfM.close hcl hc
        rw [ht4] at h1
        have h2 := CfM.push h1 hF e1 hy1 e75 (by rw [hr]; exact hsn.1)
        rw [hr] at h2
        have h3 := CfM.next htk h2 hsn.2.1
        have hsy : syA b n p' S' C' u' w' = .inl (true, tNx b n p', sig (tK b n p') :: (clo (tgt (sig (tK b n p'))) S' C').1, (clo (tgt (sig (tK b n p'))) S' C').2, u', w') := by
          unfold syA
          rw [if_neg hno, if_pos ⟨by rw [← hr]; exact c0, hno2⟩]
        rcases m_unit hun h3 with ⟨ft, hm, he⟩ | ⟨p2, S2, C2, u2, w2, hc2, hp2, he2⟩
        · exact Or.inl ⟨ft, hm, (hev _).mpr ((Ev_A hsy).mpr he)⟩
        · exact Or.inr ⟨p2, S2, C2, u2, w2, hc2, by omega, fun o => ((hev o).trans (Ev_A hsy)).trans (he2 o), fun q => absurd q hx⟩
/-- the reference's formula: its FAULT, or its code, place and count of units, as the stack says -/
def FOM (b : Nat → Int) (n f p : Nat) (w : Int) (G1 : GS) : Prop := (∃ ft, MF ft G1 ∧ Ev b n (true, p, [], [], 0, w) (.inl ft)) ∨ (∃ p' C' u' w', MP b n G1 p' ∧ CodeM f C' G1 ∧ (G1.1 66 21).toInt = w' ∧ 0 ≤ w' ∧ w' ≤ 90 ∧ p < p' ∧ Ev b n (true, p, [], [], 0, w) (.inr (p', C', u', w')))
theorem m_form {b : Nat → Int} {n f p : Nat} {w : Int} {G G1 : GS} {p0 : Int32} (h : Q_formula p0 G G1) (hp : MP b n G p) (hf : p0.toInt = (f : Int)) (hw : (G.1 66 21).toInt = w) (hw0 : 0 ≤ w) (hw9 : w ≤ 90) : FOM b n f p w G1 := by
  obtain ⟨-, -, -, G5, -, hF5, e19, e20, e23, e24, e71, G21, hun, x, G3, hl, -, -, -, -, -, G48, hj, -, -, hh⟩ := h
  have hc0 : CfM b n f G5 p [] [] 0 w := by
    refine ⟨hp.fr hF5 (by decide) (by decide) (by decide) (by decide), ⟨by rw [e20]; rfl, fun i hi => absurd hi (by simp)⟩, by rw [e24]; rfl, by rw [e23]; rfl, by rw [hF5.i 66 21 (by decide) (by decide)]; exact hw, by rw [e19]; exact hf, ⟨?_, fun i hi => absurd hi (by simp)⟩, hw0, hw9⟩
    rw [e71, cn_eq hf]
    have : upd (G.1 71) f 0 f = 0 := by simp [upd]
    rw [this]
    rfl
  have hi : FI b n f p (true, p, [], [], 0, w) x G3 := by
    refine hl (fun q => FI b n f p (true, p, [], [], 0, w) q.1 q.2) ?_ (fun a a' ha hs => m_fstep hs ha)
    rcases m_unit hun hc0 with ⟨ft, hm, he⟩ | ⟨p2, S2, C2, u2, w2, hc2, hp2, he2⟩
    · exact Or.inl ⟨ft, hm, he⟩
    · exact Or.inr ⟨p2, S2, C2, u2, w2, hc2, hp2, he2, fun q => absurd q (show ¬ (1 : Int32).toInt = 0 by decide)⟩
  clear hl hun hc0
  have e48 : G3 = G48 := by
    rcases hj with ⟨-, e⟩ | ⟨-, -, e⟩ <;> exact e
  rcases hi with ⟨ft, hm, he⟩ | ⟨p', S', C', u', w', hc, hpp, hev, hx0⟩
  · have hpos := hm.pos
    rcases hh with ⟨c, -⟩ | ⟨-, e⟩
    · omega
    · subst e48
      subst e
      exact Or.inl ⟨ft, hm, he⟩
  have hf0 : (G3.1 66 2).toInt = 0 := hc.1.2.2.1.1
  have hx : x.toInt = 0 := by
    rcases hj with ⟨c, -⟩ | ⟨-, c, -⟩
    · exact c
    · exact absurd hf0 c
  obtain ⟨hno, hno2⟩ := hx0 hx
  clear hx0 hj hx
  subst e48
  rcases hh with ⟨-, r, Ga, hb, hh⟩ | ⟨c, -⟩
  · obtain ⟨rfl, qb⟩ := m_hasBracket hb hc.2.1
    rcases hh with ⟨hr, Gb, hcl, rfl⟩ | ⟨hr, Gb, hwr, hh⟩
    · have nb : ¬ (20 : Int) ∈ S' := fun q => (qb.mpr q) hr
      have h1 : CfM b n f Gb p' (clo 0 S' C').1 (clo 0 S' C').2 u' w' := CfM.close hcl hc
      have hsy : syA b n p' S' C' u' w' = .inr (.inr (p', (clo 0 S' C').2, u', w')) := by
        unfold syA
        rw [if_neg hno, if_neg hno2, if_neg nb]
      exact Or.inr ⟨p', _, u', w', h1.1, h1.2.2.2.2.2.2.1, h1.2.2.2.2.1, h1.2.2.2.2.2.2.2.1, h1.2.2.2.2.2.2.2.2, hpp, (hev _).mpr ((Ev_Ar hsy).mpr rfl)⟩
    · have kb := qb.mp hr
      obtain ⟨hm, -⟩ := m_wrong hwr hc.1 (by decide)
      have hsy : syA b n p' S' C' u' w' = .inr (.inl (fl b n 2 p')) := by
        unfold syA
        rw [if_neg hno, if_neg hno2, if_pos kb]
      rcases hh with ⟨c, -⟩ | ⟨-, rfl⟩
      · exact absurd c (by have := hm.pos; omega)
      · exact Or.inl ⟨fl b n 2 p', hm, (hev _).mpr ((Ev_Ar hsy).mpr rfl)⟩
  · exact absurd hf0 c
theorem Ev_one {b : Nat → Int} {n : Nat} {s : FS} {o o' : FO} (h : Ev b n s o) (h' : Ev b n s o') : o = o' := by
  obtain ⟨k, hk⟩ := h
  obtain ⟨k', hk'⟩ := h'
  have key : ∀ (k k' : Nat) (s : FS), itn b n k s = some o → itn b n k' s = some o' → o = o' := by
    intro k
    induction k with
    | zero => intro k' s h1; exact absurd h1 (by simp [itn])
    | succ k ih =>
      intro k' s h1 h2
      cases k' with
      | zero => exact absurd h2 (by simp [itn])
      | succ k' =>
        rw [itn] at h1 h2
        cases hs : sy b n s with
        | inr v =>
          rw [hs] at h1 h2
          exact (Option.some.inj h1).symm.trans (Option.some.inj h2)
        | inl v =>
          rw [hs] at h1 h2
          exact ih k' v h1 h2
  exact key k k' s hk hk'

/-! what a text says: a machine by steps, and what it comes to -/
def itr {σ ω : Type} (st : σ → σ ⊕ ω) : Nat → σ → Option ω
  | 0, _ => none
  | k + 1, s => match st s with
    | .inr o => some o
    | .inl s' => itr st k s'
def Et {σ ω : Type} (st : σ → σ ⊕ ω) (s : σ) (o : ω) : Prop := ∃ k, itr st k s = some o
theorem Et_i {σ ω : Type} {st : σ → σ ⊕ ω} {s s' : σ} {o : ω} (h : st s = .inl s') : Et st s o ↔ Et st s' o := by
  refine ⟨fun ⟨k, hk⟩ => ?_, fun ⟨k, hk⟩ => ⟨k + 1, ?_⟩⟩
  · cases k with
    | zero => exact absurd hk (by simp [itr])
    | succ k =>
      rw [itr, h] at hk
      exact ⟨k, hk⟩
  · rw [itr, h]
    exact hk
theorem Et_r {σ ω : Type} {st : σ → σ ⊕ ω} {s : σ} {o o' : ω} (h : st s = .inr o') : Et st s o ↔ o' = o := by
  refine ⟨fun ⟨k, hk⟩ => ?_, fun e => ⟨1, ?_⟩⟩
  · cases k with
    | zero => exact absurd hk (by simp [itr])
    | succ k =>
      rw [itr, h] at hk
      exact Option.some.inj hk
  · rw [itr, h, e]
theorem Et_one {σ ω : Type} {st : σ → σ ⊕ ω} {s : σ} {o o' : ω} (h : Et st s o) (h' : Et st s o') : o = o' := by
  obtain ⟨k, hk⟩ := h
  obtain ⟨k', hk'⟩ := h'
  have key : ∀ (k k' : Nat) (s : σ), itr st k s = some o → itr st k' s = some o' → o = o' := by
    intro k
    induction k with
    | zero => intro k' s h1; exact absurd h1 (by simp [itr])
    | succ k ih =>
      intro k' s h1 h2
      cases k' with
      | zero => exact absurd h2 (by simp [itr])
      | succ k' =>
        rw [itr] at h1 h2
        cases hs : st s with
        | inr v =>
          rw [hs] at h1 h2
          exact (Option.some.inj h1).symm.trans (Option.some.inj h2)
        | inl v =>
          rw [hs] at h1 h2
          exact ih k' v h1 h2
  exact key k k' s hk hk'
noncomputable def run {σ ω : Type} (st : σ → σ ⊕ Rs ω) (s : σ) : Rs ω := @Classical.epsilon (Rs ω) ⟨.inl (0, 0)⟩ (fun o => Et st s o)
theorem run_eq {σ ω : Type} {st : σ → σ ⊕ Rs ω} {s : σ} {o : Rs ω} (h : Et st s o) : run st s = o := Et_one (Classical.epsilon_spec (p := fun o => Et st s o) ⟨o, h⟩) h
noncomputable def evF (b : Nat → Int) (n : Nat) (w : Int) (p : Nat) : FO := @Classical.epsilon FO ⟨.inl (0, 0)⟩ (fun o => Ev b n (true, p, [], [], 0, w) o)
theorem evF_eq {b : Nat → Int} {n : Nat} {w : Int} {p : Nat} {o : FO} (h : Ev b n (true, p, [], [], 0, w) o) : evF b n w p = o := Ev_one (Classical.epsilon_spec (p := fun o => Ev b n (true, p, [], [], 0, w) o) ⟨o, h⟩) h
noncomputable def pForm (b : Nat → Int) (n : Nat) (w : Int) (p : Nat) : Rs (List (Int × Int) × Int) := match evF b n w p with
  | .inl f => .inl f
  | .inr (p', C, _, w') => .inr ((C, w'), p')
theorem pForm_l {b : Nat → Int} {n : Nat} {w : Int} {p : Nat} {f : Int × Int} (h : Ev b n (true, p, [], [], 0, w) (.inl f)) : pForm b n w p = .inl f := by
  unfold pForm
  rw [evF_eq h]
theorem pForm_r {b : Nat → Int} {n : Nat} {w : Int} {p p' : Nat} {C : List (Int × Int)} {u w' : Int} (h : Ev b n (true, p, [], [], 0, w) (.inr (p', C, u, w'))) : pForm b n w p = .inr ((C, w'), p') := by
  unfold pForm
  rw [evF_eq h]
/-- the code so far only stands ahead -/
theorem clo_pre (L : Int) (X : List (Int × Int)) : ∀ (S : List Int) (C : List (Int × Int)), clo L S (X ++ C) = ((clo L S C).1, X ++ (clo L S C).2)
  | [], C => rfl
  | o :: S, C => by
    rw [clo, clo]
    by_cases h : o ≠ 20 ∧ L ≤ tgt o
    · rw [if_pos h, if_pos h, List.append_assoc, clo_pre L X S]
    · rw [if_neg h, if_neg h]
def preS (X : List (Int × Int)) (s : FS) : FS := (s.1, s.2.1, s.2.2.1, X ++ s.2.2.2.1, s.2.2.2.2)
def preO (X : List (Int × Int)) : FO → FO
  | .inl f => .inl f
  | .inr o => .inr (o.1, X ++ o.2.1, o.2.2)
def preR (X : List (Int × Int)) : FS ⊕ FO → FS ⊕ FO
  | .inl s => .inl (preS X s)
  | .inr o => .inr (preO X o)
theorem syB_pre {b : Nat → Int} {n p : Nat} {S : List Int} {u w : Int} (X C : List (Int × Int)) : syB b n p S (X ++ C) u w = preR X (syB b n p S C u w) := by
  unfold syB
  by_cases h1 : tK b n p = 146 ∧ mno S = true
  · rw [if_pos h1, if_pos h1]
    by_cases h2 : 6 < dps S
    · rw [if_pos h2, if_pos h2]
      rfl
    · rw [if_neg h2, if_neg h2]
      rfl
  · rw [if_neg h1, if_neg h1]
    by_cases h2 : tK b n p = 40
    · rw [if_pos h2, if_pos h2]
      by_cases h3 : (w = 90 ∨ u = 30) ∨ 6 < dps S
      · rw [if_pos h3, if_pos h3]
        rfl
      · rw [if_neg h3, if_neg h3]
        rfl
    · rw [if_neg h2, if_neg h2]
      by_cases h3 : (tK b n p ≠ 201 ∧ ask (tK b n p) < 0) ∨ (w = 90 ∨ u = 30)
      · rw [if_pos h3, if_pos h3]
        rfl
      · rw [if_neg h3, if_neg h3, List.append_assoc]
        rfl
theorem syA_pre {b : Nat → Int} {n p : Nat} {S : List Int} {u w : Int} (X C : List (Int × Int)) : syA b n p S (X ++ C) u w = preR X (syA b n p S C u w) := by
  unfold syA
  rw [clo_pre, clo_pre]
  by_cases h1 : tK b n p = 41 ∧ 20 ∈ S
  · rw [if_pos h1, if_pos h1]
    rfl
  · rw [if_neg h1, if_neg h1]
    by_cases h2 : sig (tK b n p) ≠ 0 ∧ ¬ (tgt (sig (tK b n p)) = 4 ∧ hrl S = true)
    · rw [if_pos h2, if_pos h2]
      rfl
    · rw [if_neg h2, if_neg h2]
      by_cases h3 : (20 : Int) ∈ S
      · rw [if_pos h3, if_pos h3]
        rfl
      · rw [if_neg h3, if_neg h3]
        rfl
theorem sy_pre {b : Nat → Int} {n : Nat} (X : List (Int × Int)) (s : FS) : sy b n (preS X s) = preR X (sy b n s) := by
  obtain ⟨m, p, S, C, u, w⟩ := s
  unfold sy preS
  cases m with
  | true => exact syB_pre X C
  | false => exact syA_pre X C
theorem itn_pre {b : Nat → Int} {n : Nat} (X : List (Int × Int)) : ∀ (k : Nat) (s : FS), itn b n k (preS X s) = (itn b n k s).map (preO X)
  | 0, _ => rfl
  | k + 1, s => by
    rw [itn, itn, sy_pre]
    cases sy b n s with
    | inr o => rfl
    | inl s' => exact itn_pre X k s'
/-- what holds with code ahead holds without, the code ahead of what comes out -/
theorem Ev_pre {b : Nat → Int} {n p : Nat} {X : List (Int × Int)} {w : Int} {o : FO} (h : Ev b n (true, p, [], X, 0, w) o) : ∃ o', Ev b n (true, p, [], [], 0, w) o' ∧ o = preO X o' := by
  obtain ⟨k, hk⟩ := h
  have h1 := itn_pre (b := b) (n := n) X k (true, p, [], [], 0, w)
  have e : preS X (true, p, [], [], 0, w) = (true, p, [], X, 0, w) := by
    unfold preS
    simp
  rw [e, hk] at h1
  cases h2 : itn b n k (true, p, [], [], 0, w) with
  | none =>
    rw [h2] at h1
    exact absurd h1 (by simp)
  | some o' =>
    rw [h2] at h1
    exact ⟨o', ⟨k, h2⟩, Option.some.inj h1⟩
/-! SLABS -/
def mkw (k : Int) : Int32 := if k = 140 then 1 else if k = 141 then 2 else if k = 142 then 4 else 8
def mkS (b : Nat → Int) (n : Nat) (s : Int32 × Nat) : (Int32 × Nat) ⊕ Rs Int32 := if 140 ≤ tK b n s.2 ∧ tK b n s.2 ≤ 143 then (if (s.1 &&& mkw (tK b n s.2)).toInt ≠ 0 then .inr (.inl (fl b n 2 s.2)) else .inl (s.1 ||| mkw (tK b n s.2), tNx b n s.2)) else .inr (.inr s)
noncomputable def pMk (b : Nat → Int) (n p : Nat) : Rs Int32 := run (mkS b n) (0, p)
def rmx (r : Int) : Int := if 60 ≤ r then 60 else r
def ahd (J : Int) (nth : Nat) : Int := if nth = 0 then 0 else J
noncomputable def pSlab (b : Nat → Int) (n : Nat) (J : Int) (nth len p : Nat) : Rs (Int × Int32) := bnd (pNum b n 1 (rmx (400 - (len : Int) - ahd J nth)) p) fun v q => bnd (pMk b n q) fun m q' => .inr ((v, m), q')
abbrev IC : Type := Int × Int × Int × Int
def layI (m nth wide : Int) : List IC := (List.range wide.toNat).map fun (k : Nat) => (m, nth, (k : Int), wide)
theorem layI_len {m nth wide : Int} : (layI m nth wide).length = wide.toNat := by simp [layI]
theorem layI_get {m nth wide : Int} {k : Nat} {d : IC} (h : k < wide.toNat) : (layI m nth wide).getD k d = (m, nth, (k : Int), wide) := by
  unfold layI
  simp [List.getD_eq_getElem?_getD, h]
theorem layI_0 {m nth wide : Int} (h : wide ≤ 0) : layI m nth wide = [] := by
  unfold layI
  rw [Int.toNat_of_nonpos h]
  rfl
def slI (J : Int) (nth : Nat) (vx : Int × Int32) : List IC := layI (-1) ((nth : Int) - 1) (ahd J nth) ++ layI vx.2.toInt (nth : Int) vx.1
noncomputable def slS (b : Nat → Int) (n : Nat) (J : Int) (s : Nat × List IC × Nat) : (Nat × List IC × Nat) ⊕ Rs (List IC) := if s.1 = 0 ∨ tK b n s.2.2 = 201 then (match pSlab b n J s.1 s.2.1.length s.2.2 with
  | .inl f => .inr (.inl f)
  | .inr (vx, q) => .inl (s.1 + 1, s.2.1 ++ slI J s.1 vx, q)) else .inr (.inr s.2)
noncomputable def pSls (b : Nat → Int) (n : Nat) (J : Int) (p : Nat) : Rs (List IC) := run (slS b n J) (0, [], p)
/-! lines -/
noncomputable def pStreet (b : Nat → Int) (n : Nat) (NS : List (List Int)) (p : Nat) : Rs (List Int × List IC) := bnd (pName b n NS (tNx b n p)) fun L q => bnd (pKw b n 139 q) fun _ q => bnd (pNum b n 0 9 q) fun J q => bnd (pSls b n J q) fun I q => .inr ((L, I), q)
abbrev WK : Type := Int × Int × Int × Int
def pWalker (b : Nat → Int) (n : Nat) (NS : List (List Int)) (p : Nat) : Rs (List Int × WK) := bnd (pName b n NS (tNx b n p)) fun L q => bnd (pKw b n 130 q) fun _ q => bnd (pNum b n 1 12 q) fun f q => bnd (pKw b n 131 q) fun _ q => bnd (pNum b n 1 60 q) fun l q => bnd (pKw b n 132 q) fun _ q => bnd (pNum b n l 60 q) fun m q => if tK b n q = 133 then bnd (pNum b n (m + 1) 99 (tNx b n q)) fun v q => .inr ((L, f, l, m, v), q) else .inr ((L, f, l, m, m), q)
def pSlip (b : Nat → Int) (n p : Nat) : Rs (Int × Int × Int) := bnd (pNum b n 0 9 (tNx b n p)) fun x q => bnd (pNum b n 0 9 q) fun y q => bnd (pNum b n (if x + y = 0 then 1 else 0) 9 q) fun z q => .inr ((x, y, z), q)
def pHand (b : Nat → Int) (n p : Nat) : Rs (Int × Int) := bnd (pNum b n 1 99 (tNx b n p)) fun x q => bnd (pKw b n 137 q) fun _ q => bnd (pNum b n 0 99 q) fun y q => .inr ((x, y), q)
def pDraw (b : Nat → Int) (n p : Nat) : Rs Int := pNum b n 0 999 (tNx b n p)
noncomputable def pRule (b : Nat → Int) (n : Nat) (NS : List (List Int)) (w : Int) (p : Nat) : Rs (List Int × List (Int × Int) × Int) := bnd (pName b n NS (tNx b n p)) fun L q => bnd (pForm b n w q) fun x q => .inr ((L, x.1, x.2), q)
abbrev VS : Type := List (List Int × List IC)
abbrev VW : Type := List (List Int × WK)
abbrev VR : Type := List (List Int × List (Int × Int))
abbrev PV : Type := VS × VW × VR × Int × Option (Int × Int × Int) × Option (Int × Int) × Option Int
def nms {α : Type} (L : List (List Int × α)) : List (List Int) := L.map (fun x => x.1)
theorem nms_len {α : Type} {L : List (List Int × α)} : (nms L).length = L.length := by simp [nms]
theorem nms_snoc {α : Type} {L : List (List Int × α)} {x : List Int × α} : nms (L ++ [x]) = nms L ++ [x.1] := by simp [nms]
noncomputable def pLine (b : Nat → Int) (n : Nat) (V : PV) (p : Nat) : Rs PV :=
  if tK b n p = 128 ∧ V.1.length < 3 then bnd (pStreet b n (nms V.1) p) fun x q => .inr ((V.1 ++ [x], V.2), q)
  else if tK b n p = 129 ∧ V.2.1.length < 4 then bnd (pWalker b n (nms V.2.1) p) fun x q => .inr ((V.1, V.2.1 ++ [x], V.2.2), q)
  else if tK b n p = 134 ∧ V.2.2.1.length < 6 then bnd (pRule b n (nms V.2.2.1) V.2.2.2.1 p) fun x q => .inr ((V.1, V.2.1, V.2.2.1 ++ [(x.1, x.2.1)], x.2.2, V.2.2.2.2), q)
  else if tK b n p = 135 ∧ V.2.2.2.2.1.isNone = true then bnd (pSlip b n p) fun x q => .inr ((V.1, V.2.1, V.2.2.1, V.2.2.2.1, some x, V.2.2.2.2.2), q)
  else if tK b n p = 136 ∧ V.2.2.2.2.2.1.isNone = true then bnd (pHand b n p) fun x q => .inr ((V.1, V.2.1, V.2.2.1, V.2.2.2.1, V.2.2.2.2.1, some x, V.2.2.2.2.2.2), q)
  else if tK b n p = 138 ∧ V.2.2.2.2.2.2.isNone = true then bnd (pDraw b n p) fun x q => .inr ((V.1, V.2.1, V.2.2.1, V.2.2.2.1, V.2.2.2.2.1, V.2.2.2.2.2.1, some x), q)
  else .inl (fl b n 2 p)
noncomputable def pLn (b : Nat → Int) (n : Nat) (V : PV) (p : Nat) : Rs PV := bnd (pLine b n V p) fun V q => bnd (pKw b n 59 q) fun _ q => .inr (V, q)
noncomputable def topS (b : Nat → Int) (n : Nat) (s : PV × Nat) : (PV × Nat) ⊕ Rs PV := if tK b n s.2 = 203 then .inr (.inr s) else match pLn b n s.1 s.2 with
  | .inl f => .inr (.inl f)
  | .inr s' => .inl s'
def V0 : PV := ([], [], [], 0, none, none, none)
noncomputable def parse (b : Nat → Int) (n : Nat) : Rs PV := run (topS b n) (V0, 0)
theorem bnd_l {α β : Type} {o : Rs α} {f : Int × Int} {k : α → Nat → Rs β} (h : o = .inl f) : bnd o k = .inl f := by subst h; rfl
theorem bnd_r {α β : Type} {o : Rs α} {v : α} {q : Nat} {k : α → Nat → Rs β} (h : o = .inr (v, q)) : bnd o k = k v q := by subst h; rfl
theorem slS_l {b : Nat → Int} {n : Nat} {J : Int} {nth p : Nat} {I : List IC} {f : Int × Int} (hc : nth = 0 ∨ tK b n p = 201) (h : pSlab b n J nth I.length p = .inl f) : slS b n J (nth, I, p) = .inr (.inl f) := by
  unfold slS
  rw [if_pos hc]
  have h' : pSlab b n J (nth, I, p).1 (nth, I, p).2.1.length (nth, I, p).2.2 = .inl f := h
  rw [h']
theorem slS_r {b : Nat → Int} {n : Nat} {J : Int} {nth p q : Nat} {I : List IC} {vx : Int × Int32} (hc : nth = 0 ∨ tK b n p = 201) (h : pSlab b n J nth I.length p = .inr (vx, q)) : slS b n J (nth, I, p) = .inl (nth + 1, I ++ slI J nth vx, q) := by
  unfold slS
  rw [if_pos hc]
  have h' : pSlab b n J (nth, I, p).1 (nth, I, p).2.1.length (nth, I, p).2.2 = .inr (vx, q) := h
  rw [h']

/-! SLABS by the program -/
def encI (x : IC) : Int32 := ((((if x.1 < 0 then (1 : Int32) else 0) ||| (Int32.ofInt (if x.1 < 0 then 0 else x.1) <<< (1 &&& 31))) ||| (Int32.ofInt x.2.1 <<< (5 &&& 31))) ||| (Int32.ofInt x.2.2.1 <<< (14 &&& 31))) ||| (Int32.ofInt x.2.2.2 <<< (20 &&& 31))
def ICok (x : IC) : Prop := -1 ≤ x.1 ∧ x.1 ≤ 15 ∧ 0 ≤ x.2.1 ∧ x.2.1 < 512 ∧ 0 ≤ x.2.2.1 ∧ x.2.2.1 < 64 ∧ 0 ≤ x.2.2.2 ∧ x.2.2.2 < 64
def JM (p0 p1 : Int32) (m : Int) : Prop := (p0 = 1 ∧ p1 = 0 ∧ m = -1) ∨ (p0 = 0 ∧ p1.toInt = m ∧ 0 ≤ m)
theorem encI_eq {p0 p1 p2 x p3 : Int32} {m nth i w : Int} (h : JM p0 p1 m) (h2 : p2.toInt = nth) (h3 : x.toInt = i) (h4 : p3.toInt = w) : (((p0 ||| p1 <<< (1 &&& 31)) ||| p2 <<< (5 &&& 31)) ||| x <<< (14 &&& 31)) ||| p3 <<< (20 &&& 31) = encI (m, nth, i, w) := by
  have e0 : Int32.ofInt 0 = 0 := rfl
  subst h2
  subst h3
  subst h4
  unfold encI
  rcases h with ⟨rfl, rfl, rfl⟩ | ⟨rfl, rfl, h0⟩
  · simp only [Int32.ofInt_toInt]
    rw [if_pos (by decide), if_pos (by decide), e0]
  · simp only [Int32.ofInt_toInt]
    rw [if_neg (by omega), if_neg (by omega), Int32.ofInt_toInt]
theorem getD_app {α : Type} {A K : List α} {i : Nat} {d : α} : (A ++ K).getD i d = if i < A.length then A.getD i d else K.getD (i - A.length) d := by
  rw [List.getD_eq_getElem?_getD]
  by_cases h : i < A.length
  · rw [if_pos h, List.getElem?_append_left h, List.getD_eq_getElem?_getD]
  · rw [if_neg h, List.getElem?_append_right (by omega), List.getD_eq_getElem?_getD]
def pcN (v : Nat) : Nat := v % 2 + v / 2 % 2 + v / 4 % 2 + v / 8 % 2
theorem pc_key : ∀ v : Nat, v < 16 → ∀ j : Nat, j < 4 → (Int32.ofNat v &&& mkw (140 + (j : Int))).toInt = 0 → v + 2 ^ j < 16 ∧ pcN (v + 2 ^ j) = pcN v + 1 ∧ (Int32.ofNat v ||| mkw (140 + (j : Int))) = Int32.ofNat (v + 2 ^ j) := by decide +kernel
theorem pc_le : ∀ v : Nat, v < 16 → pcN v ≤ 4 := by decide +kernel
theorem ofN_16 : ∀ v : Nat, v < 16 → (Int32.ofNat v).toInt = (v : Int) := by decide +kernel
theorem mk_ok {v : Nat} {k : Int} (hv : v < 16) (h1 : 140 ≤ k) (h2 : k ≤ 143) (h0 : (Int32.ofNat v &&& mkw k).toInt = 0) : ∃ v', v' < 16 ∧ pcN v' = pcN v + 1 ∧ (Int32.ofNat v ||| mkw k) = Int32.ofNat v' := by
  have e : k = 140 + ((k - 140).toNat : Int) := by omega
  rw [e] at h0 ⊢
  exact ⟨_, pc_key v hv (k - 140).toNat (by omega) h0⟩
theorem sh1 {y : Int32} {k : Int} (h : y.toInt = k - 140) (h1 : 140 ≤ k) (h2 : k ≤ 143) : (1 : Int32) <<< (y &&& 31) = mkw k := by
  have hk : k = 140 ∨ k = 141 ∨ k = 142 ∨ k = 143 := by omega
  rcases hk with rfl | rfl | rfl | rfl
  · have e : y = 0 := Int32.toInt_inj.mp (by rw [h]; rfl)
    subst e
    rfl
  · have e : y = 1 := Int32.toInt_inj.mp (by rw [h]; rfl)
    subst e
    rfl
  · have e : y = 2 := Int32.toInt_inj.mp (by rw [h]; rfl)
    subst e
    rfl
  · have e : y = 3 := Int32.toInt_inj.mp (by rw [h]; rfl)
    subst e
    rfl
theorem slI_0 {J : Int} {vx : Int × Int32} : slI J 0 vx = layI vx.2.toInt 0 vx.1 := by
  unfold slI
  rw [layI_0 (show ahd J 0 ≤ 0 from Int.le_refl 0)]
  rfl
theorem ahd_r {J : Int} {nth : Nat} (h0 : 0 ≤ J) (h9 : J ≤ 9) : 0 ≤ ahd J nth ∧ ahd J nth ≤ 9 := by
  unfold ahd
  split <;> omega
theorem slI_len {J : Int} {nth : Nat} {vx : Int × Int32} : (slI J nth vx).length = (ahd J nth).toNat + vx.1.toNat := by
  unfold slI
  rw [List.length_append, layI_len, layI_len]
def StC_1 (s : Nat) (I : List IC) (G : GS) : Prop := (G.1 10 s).toInt = (I.length : Int) ∧ ∀ i, i < I.length → G.1 11 (400 * s + i) = encI (I.getD i (0, 0, 0, 0)) ∧ ICok (I.getD i (0, 0, 0, 0))
def KeC_1 (s : Nat) (G G1 : GS) : Prop := (∀ s', s' ≠ s → G1.1 10 s' = G.1 10 s') ∧ ∀ j, j < 400 * s → G1.1 11 j = G.1 11 j
theorem KeC_1.tr {s : Nat} {G G1 G2 : GS} (h : KeC_1 s G G1) (h' : KeC_1 s G1 G2) : KeC_1 s G G2 := ⟨fun s' q => (h'.1 s' q).trans (h.1 s' q), fun j q => (h'.2 j q).trans (h.2 j q)⟩
theorem KeC_1.of {s : Nat} {rs : List Nat} {fs : List (Nat × Nat)} {G G1 : GS} (hF : Fr rs fs G G1) (h1 : 10 ∉ rs) (h2 : ∀ x ∈ fs, x.1 ≠ 10) (h3 : 11 ∉ rs) (h4 : ∀ x ∈ fs, x.1 ≠ 11) : KeC_1 s G G1 := by
  unfold KeC_1
  rw [hF.row1 10 h1 h2, hF.row1 11 h3 h4]
  exact ⟨fun _ _ => rfl, fun _ _ => rfl⟩
theorem StC_1.fr {s : Nat} {I : List IC} {rs : List Nat} {fs : List (Nat × Nat)} {G G1 : GS} (h : StC_1 s I G) (hF : Fr rs fs G G1) (h1 : 10 ∉ rs) (h2 : ∀ x ∈ fs, x.1 ≠ 10) (h3 : 11 ∉ rs) (h4 : ∀ x ∈ fs, x.1 ≠ 11) : StC_1 s I G1 := by
  unfold StC_1 at h ⊢
  rw [hF.row1 10 h1 h2, hF.row1 11 h3 h4]
  exact h
theorem c_lay_1 {s : Nat} {I : List IC} {G G1 : GS} {p0 p1 p2 p3 : Int32} {m nth w : Int} (h : P_lay_1 p0 p1 p2 p3 G G1) (hs : (G.1 1 9).toInt = (s : Int)) (hs3 : s < 3) (hS : StC_1 s I G) (hm : JM p0 p1 m) (h2 : p2.toInt = nth) (h3 : p3.toInt = w) (hw0 : 0 ≤ w) (hroom : (I.length : Int) + w ≤ 400) (hok : -1 ≤ m ∧ m ≤ 15 ∧ 0 ≤ nth ∧ nth < 512 ∧ w < 64) : StC_1 s (I ++ layI m nth w) G1 ∧ KeC_1 s G G1 := by
  obtain ⟨-, -, hh⟩ := h
  rcases hh with ⟨c, y3, e3, x, G4, hl, -, -, hF4, hh⟩ | ⟨c, -⟩
  rotate_left
  · omega
  rw [cn_eq hs] at e3
  have e3' : y3.toInt = (I.length : Int) := by rw [e3]; exact hS.1
  have hI := hl (fun q => ∃ k : Nat, q.1.toInt = (k : Int) ∧ (k : Int) ≤ w ∧ (∀ j, j < 400 * s + I.length → q.2.1 11 j = G.1 11 j) ∧ ∀ i, i < k → q.2.1 11 (400 * s + I.length + i) = encI (m, nth, (i : Int), w)) ⟨0, rfl, hw0, fun _ _ => rfl, fun i hi => absurd hi (Nat.not_lt_zero i)⟩ (by
    rintro ⟨x1, G_1⟩ ⟨xn, G_1n⟩ ⟨k, h1, h2', h4, h5⟩ ⟨x1q, G_1q, xnq, G_1nq, e1, e2, -, -, c1, y17, t17, c17, y22, t22, y23, t23, y24, t24, y25, e25, y26, e26, y27, e27, y28, e28, y29, e29, y30, e30, y31, e31, y32, e32, y34, t34, ex, hFn, eR⟩
    obtain ⟨rfl, rfl⟩ := Prod.mk.inj e1
    obtain ⟨rfl, rfl⟩ := Prod.mk.inj e2
    simp only at h1 h2' h4 h5
    have hy : y24.toNatClampNeg = 400 * s + I.length + k := cn_eq (by omega)
    rw [hy] at eR
    refine ⟨k + 1, by show xn.toInt = _; rw [← ex]; omega, by omega, fun j hj => ?_, fun i hi => ?_⟩
    · show G_1n.1 11 j = _
      have e : upd (G_1.1 11) (400 * s + I.length + k) y32 j = G_1.1 11 j := if_neg (by omega)
      rw [eR, e]
      exact h4 j hj
    · show G_1n.1 11 (400 * s + I.length + i) = _
      rw [eR]
      by_cases hik : i = k
      · subst hik
        have e : upd (G_1.1 11) (400 * s + I.length + i) y32 (400 * s + I.length + i) = y32 := if_pos rfl
        rw [e, e32, e31, e30, e29, e28, e27, e26, e25]
        exact encI_eq hm h2 h1 h3
      · have e : upd (G_1.1 11) (400 * s + I.length + k) y32 (400 * s + I.length + i) = G_1.1 11 (400 * s + I.length + i) := if_neg (by omega)
        rw [e]
        exact h5 i (by omega))
  obtain ⟨k, hk, hkw, h4, h5⟩ := hI
  simp only at hk h4 h5
  rcases hh with ⟨c1, y14, t14, y15, t15, hF1, e10⟩ | ⟨c1, y17, t17, c17, -⟩
  rotate_left
  · omega
  have hk' : k = w.toNat := by omega
  have r11 : G1.1 11 = G4.1 11 := hF1.row1 11 (by decide) (by decide)
  have r10 : G4.1 10 = G.1 10 := hF4.row1 10 (by decide) (by decide)
  rw [cn_eq hs, r10] at e10
  refine ⟨⟨?_, fun i hi => ?_⟩, fun s' q => ?_, fun j q => ?_⟩
  · have e : upd (G.1 10) s y15 s = y15 := if_pos rfl
    rw [e10, e, List.length_append, layI_len]
    omega
  · rw [List.length_append, layI_len] at hi
    rw [r11, getD_app]
    by_cases hq : i < I.length
    · rw [if_pos hq, h4 (400 * s + i) (by omega)]
      exact hS.2 i hq
    · have e9 := h5 (i - I.length) (by omega)
      rw [show 400 * s + I.length + (i - I.length) = 400 * s + i by omega] at e9
      rw [if_neg hq, layI_get (by omega)]
      refine ⟨e9, hok.1, hok.2.1, hok.2.2.1, hok.2.2.2.1, ?_, ?_, ?_, hok.2.2.2.2⟩
      · show (0 : Int) ≤ ((i - I.length : Nat) : Int)
        omega
      · show ((i - I.length : Nat) : Int) < 64
        omega
      · show (0 : Int) ≤ w
        exact hw0
  · have e : upd (G.1 10) s y15 s' = G.1 10 s' := if_neg q
    rw [e10, e]
  · rw [r11]
    exact h4 j (by omega)
theorem c_mk_1 {b : Nat → Int} {n p : Nat} {G G2 : GS} {x32 x33 : Int32} (hl : Rc (St_k_rSlab_1_2) (0, 0, G) (x32, x33, G2)) (hp : CPx b n G p) : ∃ p' v, CPx b n G2 p' ∧ p ≤ p' ∧ v < 16 ∧ x33 = Int32.ofNat v ∧ x32.toInt ≤ 4 ∧ ∀ o, Et (mkS b n) (0, p) o ↔ Et (mkS b n) (x33, p') o := by
  have hI := hl (fun q => ∃ p' v, CPx b n q.2.2 p' ∧ p ≤ p' ∧ v < 16 ∧ q.2.1 = Int32.ofNat v ∧ q.1.toInt = (pcN v : Int) ∧ ∀ o, Et (mkS b n) (0, p) o ↔ Et (mkS b n) (q.2.1, p') o) ⟨p, 0, hp, Nat.le_refl p, by decide, rfl, rfl, fun o => Iff.rfl⟩ (by
    rintro ⟨x1, v1, G_1⟩ ⟨xn, vn, G_1n⟩ ⟨p', v, h1, h2, h3, h4, h5, h6⟩ ⟨x1q, v1q, G_1q, xnq, vnq, G_1nq, e1, e2, -, -, -, c1, c2, c3, y68, t68, y69, e69, y70, e70, c70, y72, e72, r73, G74, ha, y79, t79, ex, ev, eG⟩
    obtain ⟨rfl, e1x⟩ := Prod.mk.inj e1
    obtain ⟨rfl, rfl⟩ := Prod.mk.inj e1x
    obtain ⟨rfl, e2x⟩ := Prod.mk.inj e2
    obtain ⟨rfl, rfl⟩ := Prod.mk.inj e2x
    simp only at h1 h4 h5 h6
    have k1 := h1.2.1.1
    rw [k1] at c2 c3 t68
    have hsh := sh1 t68 c2 c3
    rw [hsh] at e69
    rw [e70, e69, h4] at c70
    obtain ⟨v', g1, g2, g3⟩ := mk_ok h3 c2 c3 c70
    have hn := c_next ha h1 (by omega)
    have ht := tN_p (b := b) h1.1.2.1 h1.2.2.2
    refine ⟨tNx b n p', v', by show CPx b n G_1n _; rw [← eG]; exact hn.2, by omega, g1, by show vn = _; rw [← ev, e72, e69, h4]; exact g3, by show xn.toInt = _; rw [← ex]; omega, fun o => (h6 o).trans ?_⟩
    show _ ↔ Et (mkS b n) (vn, tNx b n p') o
    have hm : mkS b n (v1, p') = .inl (v1 ||| mkw (tK b n p'), tNx b n p') := by
      unfold mkS
      rw [if_pos ⟨c2, c3⟩, if_neg (by rw [h4]; exact fun q => q c70)]
    rw [← ev, e72, e69]
    exact Et_i hm)
  obtain ⟨p', v, h1, h2, h3, h4, h5, h6⟩ := hI
  exact ⟨p', v, h1, h2, h3, h4, by have := pc_le v h3; show x32.toInt ≤ 4; have h5' : x32.toInt = (pcN v : Int) := h5; omega, h6⟩
def SlR_1 (b : Nat → Int) (n : Nat) (J : Int) (nth s : Nat) (I : List IC) (p : Nat) (r : Int32) (G G1 : GS) : Prop := (∃ f, pSlab b n J nth I.length p = .inl f ∧ CF f r G1) ∨ (∃ vx p', pSlab b n J nth I.length p = .inr (vx, p') ∧ r.toInt = 1 ∧ CPx b n G1 p' ∧ p < p' ∧ StC_1 s (I ++ slI J nth vx) G1 ∧ KeC_1 s G G1 ∧ 1 ≤ vx.1 ∧ ((I ++ slI J nth vx).length : Int) ≤ 400)
theorem c_slab_1 {b : Nat → Int} {n : Nat} {J : Int} {nth s : Nat} {I : List IC} {p : Nat} {p0 p1 r : Int32} {G G1 : GS} (h : P_rSlab_1 p0 p1 G r G1) (hp : CPx b n G p) (hs : (G.1 1 9).toInt = (s : Int)) (hs3 : s < 3) (hS : StC_1 s I G) (h0 : p0.toInt = (nth : Int)) (h1 : p1.toInt = J) (hn4 : nth ≤ 400) (hJ0 : 0 ≤ J) (hJ9 : J ≤ 9) : SlR_1 b n J nth s I p r G G1 := by
  obtain ⟨-, -, -, w3, G4, hj, -, -, -, y10, e10, y11, t11, y12, t12, y13, t13, r15, G16, hn, hh⟩ := h
  have hG4 : G = G4 ∧ w3.toInt = ahd J nth := by
    unfold ahd
    rcases hj with ⟨c, e1, e2⟩ | ⟨c, e1, e2⟩
    · rw [if_pos (by omega), ← e1]
      exact ⟨e2, rfl⟩
    · rw [if_neg (by omega), ← e1]
      exact ⟨e2, h1⟩
  obtain ⟨rfl, hw3⟩ := hG4
  clear hj
  have har := ahd_r (nth := nth) hJ0 hJ9
  rw [cn_eq hs] at e10
  have h10 : y10.toInt = (I.length : Int) := by rw [e10]; exact hS.1
  have h13 : y13.toInt = rmx (400 - (I.length : Int) - ahd J nth) := by
    clear hh
    unfold rmx
    by_cases hq : 60 ≤ 400 - (I.length : Int) - ahd J nth
    · rw [if_pos hq]
      omega
    · rw [if_neg hq]
      omega
  have h60 : y13.toInt ≤ 60 := by clear hh; omega
  have h13' : y13.toInt ≤ 400 - (I.length : Int) - ahd J nth := by clear hh; omega
  rcases c_isNum hn hp with ⟨f, hf, hC⟩ | ⟨hv, hr, hp2, e9, hk, hl1, hl2⟩
  · rw [h13] at hf
    rcases hh with ⟨c, rfl, rfl⟩ | ⟨c, -⟩
    · exact Or.inl ⟨f, bnd_l hf, rfl, hC.2⟩
    · exact absurd hC.1 c
  rw [h13] at hv
  rcases hh with ⟨c, -⟩ | ⟨c, r22, G23, ha, x32, x33, G28, hl, -, -, -, hF28, hh⟩
  · omega
  have hn2 := c_next ha hp2 (by omega)
  have htn := tN_p (b := b) hp.1.2.1 hp.2.2.2
  have htp : p < tNx b n p := (htn.2.2 (by omega)).1
  obtain ⟨p', v, hp3, hpp, hv16, hx33, hx4, hEt⟩ := c_mk_1 hl hn2.2
  have k3 := hp3.2.1.1
  have hs28 : (G28.1 1 9).toInt = (s : Int) := by
    rw [hF28.i 1 9 (by decide) (by decide), ha.2.1.i 1 9 (by decide) (by decide), hn.2.1.i 1 9 (by decide) (by decide)]
    exact hs
  have hS28 : StC_1 s I G28 := ((hS.fr hn.2.1 (by decide) (by decide) (by decide) (by decide)).fr ha.2.1 (by decide) (by decide) (by decide) (by decide)).fr hF28 (by decide) (by decide) (by decide) (by decide)
  have hK28 : KeC_1 s G G28 := ((KeC_1.of hn.2.1 (by decide) (by decide) (by decide) (by decide)).tr (KeC_1.of ha.2.1 (by decide) (by decide) (by decide) (by decide))).tr (KeC_1.of hF28 (by decide) (by decide) (by decide) (by decide))
  rcases hh with ⟨-, c2, c3, y68, t68, y69, e69, y70, e70, c70, r80, G81, hrf, rfl, rfl⟩ | ⟨G44, hj, -, -, hh⟩
  · rw [k3] at c2 c3 t68
    rw [sh1 t68 c2 c3] at e69
    have hm : mkS b n (x33, p') = .inr (.inl (fl b n 2 p')) := by
      unfold mkS
      rw [if_pos ⟨c2, c3⟩, if_pos (by rw [← e69, ← e70]; exact c70)]
    have hmk : pMk b n (tNx b n p) = .inl (fl b n 2 p') := run_eq ((hEt _).mpr ((Et_r hm).mpr rfl))
    exact Or.inl ⟨fl b n 2 p', (bnd_r hv).trans (bnd_l hmk), (c_ref hrf hp3).1⟩
  · have hj2 : G28 = G44 ∧ ¬ (140 ≤ tK b n p' ∧ tK b n p' ≤ 143) := by
      rw [← k3]
      rcases hj with ⟨c, -⟩ | ⟨c, ⟨d, e⟩ | ⟨d, d2, e⟩⟩
      · omega
      · exact ⟨e, by omega⟩
      · exact ⟨e, by omega⟩
    obtain ⟨rfl, hno⟩ := hj2
    clear hj
    have hm : mkS b n (x33, p') = .inr (.inr (x33, p')) := by
      unfold mkS
      rw [if_neg hno]
    have hmk : pMk b n (tNx b n p) = .inr (x33, p') := run_eq ((hEt _).mpr ((Et_r hm).mpr rfl))
    have hps : pSlab b n J nth I.length p = .inr ((tV b n p, x33), p') := (bnd_r hv).trans (bnd_r hmk)
    have hx0 : x33.toInt = (v : Int) := by rw [hx33]; exact ofN_16 v hv16
    have hl1' : 1 ≤ tV b n p := hl1
    have hlen : ((I ++ slI J nth (tV b n p, x33)).length : Int) ≤ 400 := by
      rw [List.length_append, slI_len]
      show ((I.length + ((ahd J nth).toNat + (tV b n p).toNat) : Nat) : Int) ≤ 400
      omega
    rcases hh with ⟨c0, G50, hla, rfl, rfl⟩ | ⟨c0, y54, t54, G56, hla1, G61, hla2, rfl, rfl⟩
    · have hn0 : nth = 0 := by omega
      subst hn0
      obtain ⟨k1, k2⟩ := c_lay_1 (m := x33.toInt) (nth := 0) (w := tV b n p) hla hs28 hs3 hS28 (Or.inr ⟨rfl, rfl, by omega⟩) h0 e9 (by omega) (by omega) ⟨by omega, by omega, by omega, by omega, by omega⟩
      refine Or.inr ⟨_, p', hps, rfl, hp3.fr hla.2.1 (by decide) (by decide) (by decide) (by decide), by omega, ?_, hK28.tr k2, hl1', hlen⟩
      rw [slI_0]
      exact k1
    · have e16 : (G16.1 5 9).toInt = tV b n p := e9
      obtain ⟨k1, k2⟩ := c_lay_1 (m := -1) (nth := (nth : Int) - 1) (w := ahd J nth) hla1 hs28 hs3 hS28 (Or.inl ⟨rfl, rfl, rfl⟩) (by omega) hw3 har.1 (by omega) ⟨by omega, by omega, by omega, by omega, by omega⟩
      have hs56 : (G56.1 1 9).toInt = (s : Int) := by
        rw [hla1.2.1.i 1 9 (by decide) (by decide)]
        exact hs28
      obtain ⟨k3', k4⟩ := c_lay_1 (m := x33.toInt) (nth := (nth : Int)) (w := tV b n p) hla2 hs56 hs3 k1 (Or.inr ⟨rfl, rfl, by omega⟩) h0 e16 (by omega) (by rw [List.length_append, layI_len]; omega) ⟨by omega, by omega, by omega, by omega, by omega⟩
      refine Or.inr ⟨_, p', hps, rfl, (hp3.fr hla1.2.1 (by decide) (by decide) (by decide) (by decide)).fr hla2.2.1 (by decide) (by decide) (by decide) (by decide), by omega, ?_, (hK28.tr k2).tr k4, hl1', hlen⟩
      rw [List.append_assoc] at k3'
      exact k3'
def StC_2 (s : Nat) (I : List IC) (G : GS) : Prop := (G.1 20 s).toInt = (I.length : Int) ∧ ∀ i, i < I.length → G.1 21 (400 * s + i) = encI (I.getD i (0, 0, 0, 0)) ∧ ICok (I.getD i (0, 0, 0, 0))
def KeC_2 (s : Nat) (G G1 : GS) : Prop := (∀ s', s' ≠ s → G1.1 20 s' = G.1 20 s') ∧ ∀ j, j < 400 * s → G1.1 21 j = G.1 21 j
theorem KeC_2.tr {s : Nat} {G G1 G2 : GS} (h : KeC_2 s G G1) (h' : KeC_2 s G1 G2) : KeC_2 s G G2 := ⟨fun s' q => (h'.1 s' q).trans (h.1 s' q), fun j q => (h'.2 j q).trans (h.2 j q)⟩
theorem KeC_2.of {s : Nat} {rs : List Nat} {fs : List (Nat × Nat)} {G G1 : GS} (hF : Fr rs fs G G1) (h1 : 20 ∉ rs) (h2 : ∀ x ∈ fs, x.1 ≠ 20) (h3 : 21 ∉ rs) (h4 : ∀ x ∈ fs, x.1 ≠ 21) : KeC_2 s G G1 := by
  unfold KeC_2
  rw [hF.row1 20 h1 h2, hF.row1 21 h3 h4]
  exact ⟨fun _ _ => rfl, fun _ _ => rfl⟩
theorem StC_2.fr {s : Nat} {I : List IC} {rs : List Nat} {fs : List (Nat × Nat)} {G G1 : GS} (h : StC_2 s I G) (hF : Fr rs fs G G1) (h1 : 20 ∉ rs) (h2 : ∀ x ∈ fs, x.1 ≠ 20) (h3 : 21 ∉ rs) (h4 : ∀ x ∈ fs, x.1 ≠ 21) : StC_2 s I G1 := by
  unfold StC_2 at h ⊢
  rw [hF.row1 20 h1 h2, hF.row1 21 h3 h4]
  exact h
theorem c_lay_2 {s : Nat} {I : List IC} {G G1 : GS} {p0 p1 p2 p3 : Int32} {m nth w : Int} (h : P_lay_2 p0 p1 p2 p3 G G1) (hs : (G.1 2 9).toInt = (s : Int)) (hs3 : s < 3) (hS : StC_2 s I G) (hm : JM p0 p1 m) (h2 : p2.toInt = nth) (h3 : p3.toInt = w) (hw0 : 0 ≤ w) (hroom : (I.length : Int) + w ≤ 400) (hok : -1 ≤ m ∧ m ≤ 15 ∧ 0 ≤ nth ∧ nth < 512 ∧ w < 64) : StC_2 s (I ++ layI m nth w) G1 ∧ KeC_2 s G G1 := by
  obtain ⟨-, -, hh⟩ := h
  rcases hh with ⟨c, y3, e3, x, G4, hl, -, -, hF4, hh⟩ | ⟨c, -⟩
  rotate_left
  · omega
  rw [cn_eq hs] at e3
  have e3' : y3.toInt = (I.length : Int) := by rw [e3]; exact hS.1
  have hI := hl (fun q => ∃ k : Nat, q.1.toInt = (k : Int) ∧ (k : Int) ≤ w ∧ (∀ j, j < 400 * s + I.length → q.2.1 21 j = G.1 21 j) ∧ ∀ i, i < k → q.2.1 21 (400 * s + I.length + i) = encI (m, nth, (i : Int), w)) ⟨0, rfl, hw0, fun _ _ => rfl, fun i hi => absurd hi (Nat.not_lt_zero i)⟩ (by
    rintro ⟨x1, G_1⟩ ⟨xn, G_1n⟩ ⟨k, h1, h2', h4, h5⟩ ⟨x1q, G_1q, xnq, G_1nq, e1, e2, -, -, c1, y17, t17, c17, y22, t22, y23, t23, y24, t24, y25, e25, y26, e26, y27, e27, y28, e28, y29, e29, y30, e30, y31, e31, y32, e32, y34, t34, ex, hFn, eR⟩
    obtain ⟨rfl, rfl⟩ := Prod.mk.inj e1
    obtain ⟨rfl, rfl⟩ := Prod.mk.inj e2
    simp only at h1 h2' h4 h5
    have hy : y24.toNatClampNeg = 400 * s + I.length + k := cn_eq (by omega)
    rw [hy] at eR
    refine ⟨k + 1, by show xn.toInt = _; rw [← ex]; omega, by omega, fun j hj => ?_, fun i hi => ?_⟩
    · show G_1n.1 21 j = _
      have e : upd (G_1.1 21) (400 * s + I.length + k) y32 j = G_1.1 21 j := if_neg (by omega)
      rw [eR, e]
      exact h4 j hj
    · show G_1n.1 21 (400 * s + I.length + i) = _
      rw [eR]
      by_cases hik : i = k
      · subst hik
        have e : upd (G_1.1 21) (400 * s + I.length + i) y32 (400 * s + I.length + i) = y32 := if_pos rfl
        rw [e, e32, e31, e30, e29, e28, e27, e26, e25]
        exact encI_eq hm h2 h1 h3
      · have e : upd (G_1.1 21) (400 * s + I.length + k) y32 (400 * s + I.length + i) = G_1.1 21 (400 * s + I.length + i) := if_neg (by omega)
        rw [e]
        exact h5 i (by omega))
  obtain ⟨k, hk, hkw, h4, h5⟩ := hI
  simp only at hk h4 h5
  rcases hh with ⟨c1, y14, t14, y15, t15, hF1, e10⟩ | ⟨c1, y17, t17, c17, -⟩
  rotate_left
  · omega
  have hk' : k = w.toNat := by omega
  have r11 : G1.1 21 = G4.1 21 := hF1.row1 21 (by decide) (by decide)
  have r10 : G4.1 20 = G.1 20 := hF4.row1 20 (by decide) (by decide)
  rw [cn_eq hs, r10] at e10
  refine ⟨⟨?_, fun i hi => ?_⟩, fun s' q => ?_, fun j q => ?_⟩
  · have e : upd (G.1 20) s y15 s = y15 := if_pos rfl
    rw [e10, e, List.length_append, layI_len]
    omega
  · rw [List.length_append, layI_len] at hi
    rw [r11, getD_app]
    by_cases hq : i < I.length
    · rw [if_pos hq, h4 (400 * s + i) (by omega)]
      exact hS.2 i hq
    · have e9 := h5 (i - I.length) (by omega)
      rw [show 400 * s + I.length + (i - I.length) = 400 * s + i by omega] at e9
      rw [if_neg hq, layI_get (by omega)]
      refine ⟨e9, hok.1, hok.2.1, hok.2.2.1, hok.2.2.2.1, ?_, ?_, ?_, hok.2.2.2.2⟩
      · show (0 : Int) ≤ ((i - I.length : Nat) : Int)
        omega
      · show ((i - I.length : Nat) : Int) < 64
        omega
      · show (0 : Int) ≤ w
        exact hw0
  · have e : upd (G.1 20) s y15 s' = G.1 20 s' := if_neg q
    rw [e10, e]
  · rw [r11]
    exact h4 j (by omega)
theorem c_mk_2 {b : Nat → Int} {n p : Nat} {G G2 : GS} {x32 x33 : Int32} (hl : Rc (St_k_rSlab_2_2) (0, 0, G) (x32, x33, G2)) (hp : CPx b n G p) : ∃ p' v, CPx b n G2 p' ∧ p ≤ p' ∧ v < 16 ∧ x33 = Int32.ofNat v ∧ x32.toInt ≤ 4 ∧ ∀ o, Et (mkS b n) (0, p) o ↔ Et (mkS b n) (x33, p') o := by
  have hI := hl (fun q => ∃ p' v, CPx b n q.2.2 p' ∧ p ≤ p' ∧ v < 16 ∧ q.2.1 = Int32.ofNat v ∧ q.1.toInt = (pcN v : Int) ∧ ∀ o, Et (mkS b n) (0, p) o ↔ Et (mkS b n) (q.2.1, p') o) ⟨p, 0, hp, Nat.le_refl p, by decide, rfl, rfl, fun o => Iff.rfl⟩ (by
    rintro ⟨x1, v1, G_1⟩ ⟨xn, vn, G_1n⟩ ⟨p', v, h1, h2, h3, h4, h5, h6⟩ ⟨x1q, v1q, G_1q, xnq, vnq, G_1nq, e1, e2, -, -, -, c1, c2, c3, y68, t68, y69, e69, y70, e70, c70, y72, e72, r73, G74, ha, y79, t79, ex, ev, eG⟩
    obtain ⟨rfl, e1x⟩ := Prod.mk.inj e1
    obtain ⟨rfl, rfl⟩ := Prod.mk.inj e1x
    obtain ⟨rfl, e2x⟩ := Prod.mk.inj e2
    obtain ⟨rfl, rfl⟩ := Prod.mk.inj e2x
    simp only at h1 h4 h5 h6
    have k1 := h1.2.1.1
    rw [k1] at c2 c3 t68
    have hsh := sh1 t68 c2 c3
    rw [hsh] at e69
    rw [e70, e69, h4] at c70
    obtain ⟨v', g1, g2, g3⟩ := mk_ok h3 c2 c3 c70
    have hn := c_next ha h1 (by omega)
    have ht := tN_p (b := b) h1.1.2.1 h1.2.2.2
    refine ⟨tNx b n p', v', by show CPx b n G_1n _; rw [← eG]; exact hn.2, by omega, g1, by show vn = _; rw [← ev, e72, e69, h4]; exact g3, by show xn.toInt = _; rw [← ex]; omega, fun o => (h6 o).trans ?_⟩
    show _ ↔ Et (mkS b n) (vn, tNx b n p') o
    have hm : mkS b n (v1, p') = .inl (v1 ||| mkw (tK b n p'), tNx b n p') := by
      unfold mkS
      rw [if_pos ⟨c2, c3⟩, if_neg (by rw [h4]; exact fun q => q c70)]
    rw [← ev, e72, e69]
    exact Et_i hm)
  obtain ⟨p', v, h1, h2, h3, h4, h5, h6⟩ := hI
  exact ⟨p', v, h1, h2, h3, h4, by have := pc_le v h3; show x32.toInt ≤ 4; have h5' : x32.toInt = (pcN v : Int) := h5; omega, h6⟩
def SlR_2 (b : Nat → Int) (n : Nat) (J : Int) (nth s : Nat) (I : List IC) (p : Nat) (r : Int32) (G G1 : GS) : Prop := (∃ f, pSlab b n J nth I.length p = .inl f ∧ CF f r G1) ∨ (∃ vx p', pSlab b n J nth I.length p = .inr (vx, p') ∧ r.toInt = 1 ∧ CPx b n G1 p' ∧ p < p' ∧ StC_2 s (I ++ slI J nth vx) G1 ∧ KeC_2 s G G1 ∧ 1 ≤ vx.1 ∧ ((I ++ slI J nth vx).length : Int) ≤ 400)
theorem c_slab_2 {b : Nat → Int} {n : Nat} {J : Int} {nth s : Nat} {I : List IC} {p : Nat} {p0 p1 r : Int32} {G G1 : GS} (h : P_rSlab_2 p0 p1 G r G1) (hp : CPx b n G p) (hs : (G.1 2 9).toInt = (s : Int)) (hs3 : s < 3) (hS : StC_2 s I G) (h0 : p0.toInt = (nth : Int)) (h1 : p1.toInt = J) (hn4 : nth ≤ 400) (hJ0 : 0 ≤ J) (hJ9 : J ≤ 9) : SlR_2 b n J nth s I p r G G1 := by
  obtain ⟨-, -, -, w3, G4, hj, -, -, -, y10, e10, y11, t11, y12, t12, y13, t13, r15, G16, hn, hh⟩ := h
  have hG4 : G = G4 ∧ w3.toInt = ahd J nth := by
    unfold ahd
    rcases hj with ⟨c, e1, e2⟩ | ⟨c, e1, e2⟩
    · rw [if_pos (by omega), ← e1]
      exact ⟨e2, rfl⟩
    · rw [if_neg (by omega), ← e1]
      exact ⟨e2, h1⟩
  obtain ⟨rfl, hw3⟩ := hG4
  clear hj
  have har := ahd_r (nth := nth) hJ0 hJ9
  rw [cn_eq hs] at e10
  have h10 : y10.toInt = (I.length : Int) := by rw [e10]; exact hS.1
  have h13 : y13.toInt = rmx (400 - (I.length : Int) - ahd J nth) := by
    clear hh
    unfold rmx
    by_cases hq : 60 ≤ 400 - (I.length : Int) - ahd J nth
    · rw [if_pos hq]
      omega
    · rw [if_neg hq]
      omega
  have h60 : y13.toInt ≤ 60 := by clear hh; omega
  have h13' : y13.toInt ≤ 400 - (I.length : Int) - ahd J nth := by clear hh; omega
  rcases c_isNum hn hp with ⟨f, hf, hC⟩ | ⟨hv, hr, hp2, e9, hk, hl1, hl2⟩
  · rw [h13] at hf
    rcases hh with ⟨c, rfl, rfl⟩ | ⟨c, -⟩
    · exact Or.inl ⟨f, bnd_l hf, rfl, hC.2⟩
    · exact absurd hC.1 c
  rw [h13] at hv
  rcases hh with ⟨c, -⟩ | ⟨c, r22, G23, ha, x32, x33, G28, hl, -, -, -, hF28, hh⟩
  · omega
  have hn2 := c_next ha hp2 (by omega)
  have htn := tN_p (b := b) hp.1.2.1 hp.2.2.2
  have htp : p < tNx b n p := (htn.2.2 (by omega)).1
  obtain ⟨p', v, hp3, hpp, hv16, hx33, hx4, hEt⟩ := c_mk_2 hl hn2.2
  have k3 := hp3.2.1.1
  have hs28 : (G28.1 2 9).toInt = (s : Int) := by
    rw [hF28.i 2 9 (by decide) (by decide), ha.2.1.i 2 9 (by decide) (by decide), hn.2.1.i 2 9 (by decide) (by decide)]
    exact hs
  have hS28 : StC_2 s I G28 := ((hS.fr hn.2.1 (by decide) (by decide) (by decide) (by decide)).fr ha.2.1 (by decide) (by decide) (by decide) (by decide)).fr hF28 (by decide) (by decide) (by decide) (by decide)
  have hK28 : KeC_2 s G G28 := ((KeC_2.of hn.2.1 (by decide) (by decide) (by decide) (by decide)).tr (KeC_2.of ha.2.1 (by decide) (by decide) (by decide) (by decide))).tr (KeC_2.of hF28 (by decide) (by decide) (by decide) (by decide))
  rcases hh with ⟨-, c2, c3, y68, t68, y69, e69, y70, e70, c70, r80, G81, hrf, rfl, rfl⟩ | ⟨G44, hj, -, -, hh⟩
  · rw [k3] at c2 c3 t68
    rw [sh1 t68 c2 c3] at e69
    have hm : mkS b n (x33, p') = .inr (.inl (fl b n 2 p')) := by
      unfold mkS
      rw [if_pos ⟨c2, c3⟩, if_pos (by rw [← e69, ← e70]; exact c70)]
    have hmk : pMk b n (tNx b n p) = .inl (fl b n 2 p') := run_eq ((hEt _).mpr ((Et_r hm).mpr rfl))
    exact Or.inl ⟨fl b n 2 p', (bnd_r hv).trans (bnd_l hmk), (c_ref hrf hp3).1⟩
  · have hj2 : G28 = G44 ∧ ¬ (140 ≤ tK b n p' ∧ tK b n p' ≤ 143) := by
      rw [← k3]
      rcases hj with ⟨c, -⟩ | ⟨c, ⟨d, e⟩ | ⟨d, d2, e⟩⟩
      · omega
      · exact ⟨e, by omega⟩
      · exact ⟨e, by omega⟩
    obtain ⟨rfl, hno⟩ := hj2
    clear hj
    have hm : mkS b n (x33, p') = .inr (.inr (x33, p')) := by
      unfold mkS
      rw [if_neg hno]
    have hmk : pMk b n (tNx b n p) = .inr (x33, p') := run_eq ((hEt _).mpr ((Et_r hm).mpr rfl))
    have hps : pSlab b n J nth I.length p = .inr ((tV b n p, x33), p') := (bnd_r hv).trans (bnd_r hmk)
    have hx0 : x33.toInt = (v : Int) := by rw [hx33]; exact ofN_16 v hv16
    have hl1' : 1 ≤ tV b n p := hl1
    have hlen : ((I ++ slI J nth (tV b n p, x33)).length : Int) ≤ 400 := by
      rw [List.length_append, slI_len]
      show ((I.length + ((ahd J nth).toNat + (tV b n p).toNat) : Nat) : Int) ≤ 400
      omega
    rcases hh with ⟨c0, G50, hla, rfl, rfl⟩ | ⟨c0, y54, t54, G56, hla1, G61, hla2, rfl, rfl⟩
    · have hn0 : nth = 0 := by omega
      subst hn0
      obtain ⟨k1, k2⟩ := c_lay_2 (m := x33.toInt) (nth := 0) (w := tV b n p) hla hs28 hs3 hS28 (Or.inr ⟨rfl, rfl, by omega⟩) h0 e9 (by omega) (by omega) ⟨by omega, by omega, by omega, by omega, by omega⟩
      refine Or.inr ⟨_, p', hps, rfl, hp3.fr hla.2.1 (by decide) (by decide) (by decide) (by decide), by omega, ?_, hK28.tr k2, hl1', hlen⟩
      rw [slI_0]
      exact k1
    · have e16 : (G16.1 5 9).toInt = tV b n p := e9
      obtain ⟨k1, k2⟩ := c_lay_2 (m := -1) (nth := (nth : Int) - 1) (w := ahd J nth) hla1 hs28 hs3 hS28 (Or.inl ⟨rfl, rfl, rfl⟩) (by omega) hw3 har.1 (by omega) ⟨by omega, by omega, by omega, by omega, by omega⟩
      have hs56 : (G56.1 2 9).toInt = (s : Int) := by
        rw [hla1.2.1.i 2 9 (by decide) (by decide)]
        exact hs28
      obtain ⟨k3', k4⟩ := c_lay_2 (m := x33.toInt) (nth := (nth : Int)) (w := tV b n p) hla2 hs56 hs3 k1 (Or.inr ⟨rfl, rfl, by omega⟩) h0 e16 (by omega) (by rw [List.length_append, layI_len]; omega) ⟨by omega, by omega, by omega, by omega, by omega⟩
      refine Or.inr ⟨_, p', hps, rfl, (hp3.fr hla1.2.1 (by decide) (by decide) (by decide) (by decide)).fr hla2.2.1 (by decide) (by decide) (by decide) (by decide), by omega, ?_, (hK28.tr k2).tr k4, hl1', hlen⟩
      rw [List.append_assoc] at k3'
      exact k3'

/-! lines by the program -/
def smi {α : Type} (b : Nat → Int) (n : Nat) (o : Rs α) : Rs α := bnd o fun x q => bnd (pKw b n 59 q) fun _ q => .inr (x, q)
theorem smi_l {α : Type} {b : Nat → Int} {n : Nat} {o : Rs α} {f : Int × Int} (h : o = .inl f) : smi b n o = .inl f := by subst h; rfl
theorem smi_r {α : Type} {b : Nat → Int} {n : Nat} {o : Rs α} {x : α} {q : Nat} (h : o = .inr (x, q)) : smi b n o = bnd (pKw b n 59 q) fun _ q => .inr (x, q) := by subst h; rfl
theorem smi_b {α β : Type} {b : Nat → Int} {n : Nat} {o : Rs α} {F : α → β} : smi b n (bnd o fun x q => .inr (F x, q)) = bnd (smi b n o) fun x q => .inr (F x, q) := by
  cases o with
  | inl f => rfl
  | inr x =>
    obtain ⟨x, q⟩ := x
    show bnd (pKw b n 59 q) (fun _ q => .inr (F x, q)) = bnd (bnd (pKw b n 59 q) (fun _ q => .inr (x, q))) (fun x q => .inr (F x, q))
    cases pKw b n 59 q with
    | inl f => rfl
    | inr y => rfl
def LnC {α : Type} (b : Nat → Int) (n p : Nat) (o : Rs α) (r : Int32) (G1 : GS) (K : α → Prop) : Prop := (∃ f, o = .inl f ∧ CF f r G1) ∨ (∃ x p', o = .inr (x, p') ∧ r.toInt = 1 ∧ CPx b n G1 p' ∧ p < p' ∧ K x)
theorem c_semi {α : Type} {b : Nat → Int} {n p q : Nat} {o : Rs α} {x : α} {r : Int32} {G G1 : GS} {K : α → Prop} (h : P_tPass 59 G r G1) (hp : CPx b n G q) (ho : o = .inr (x, q)) (hpq : p < q) (hK : Fr [] [(3, 2), (3, 3), (3, 4), (3, 5), (3, 6), (3, 7), (3, 8)] G G1 → K x) : LnC b n p (smi b n o) r G1 K := by
  have ht := tN_p (b := b) hp.1.2.1 hp.2.2.2
  rcases c_pass h hp (by decide) with ⟨f, hf, hC⟩ | ⟨e, hr, hp2⟩
  · exact Or.inl ⟨f, (smi_r ho).trans (bnd_l hf), hC⟩
  · exact Or.inr ⟨x, tNx b n q, (smi_r ho).trans (bnd_r e), hr, hp2, by omega, hK h.2.1⟩
def fcd (R : VR) : List (Int × Int) := (R.map (fun x => x.2)).flatten
theorem fcd_snoc {R : VR} {x : List Int × List (Int × Int)} : fcd (R ++ [x]) = fcd R ++ x.2 := by simp [fcd]
def cap (k : Nat) : Int := if k ≤ 580 then (k : Int) else 580
theorem take_snoc {α : Type} {R : List α} {x : α} {k : Nat} (h : k ≤ R.length) : (R ++ [x]).take k = R.take k := List.take_append_of_le_length h
theorem take_all {α : Type} {R : List α} {x : α} : (R ++ [x]).take (R.length + 1) = R ++ [x] := List.take_of_length_le (by simp)
theorem getD_snl {α : Type} {S : List α} {x d : α} {k : Nat} (h : k < S.length) : (S ++ [x]).getD k d = S.getD k d := by rw [getD_sn, if_pos h]
theorem getD_snr {α : Type} {S : List α} {x d : α} : (S ++ [x]).getD S.length d = x := by rw [getD_sn, if_neg (Nat.lt_irrefl _), if_pos rfl]
def SlpC (R : Nat) (o : Option (Int × Int × Int)) (G : GS) : Prop := (o.isNone = true ↔ (G.1 5 6).toInt = 0) ∧ (G.1 R 0).toInt = (o.getD (0, 1, 0)).1 ∧ (G.1 R 1).toInt = (o.getD (0, 1, 0)).2.1 ∧ (G.1 R 2).toInt = (o.getD (0, 1, 0)).2.2
def HndC (P : Nat) (o : Option (Int × Int)) (G : GS) : Prop := (o.isNone = true ↔ (G.1 5 7).toInt = 0) ∧ (G.1 P 14).toInt = (o.getD (30, 10)).1 ∧ (G.1 P 15).toInt = (o.getD (30, 10)).2
def DrwC (P : Nat) (o : Option Int) (G : GS) : Prop := (o.isNone = true ↔ (G.1 5 8).toInt = 0) ∧ (G.1 P 16).toInt = o.getD 0
theorem SlpC.fr {R : Nat} {o : Option (Int × Int × Int)} {rs : List Nat} {fs : List (Nat × Nat)} {G G1 : GS} (h : SlpC R o G) (hF : Fr rs fs G G1) (h1 : 5 ∉ rs) (h2 : (5, 6) ∉ fs) (h3 : R ∉ rs) (h4 : ∀ x ∈ fs, x.1 ≠ R) : SlpC R o G1 := by
  unfold SlpC at h ⊢
  rw [hF.i 5 6 h1 h2, hF.row1 R h3 h4]
  exact h
theorem HndC.fr {P : Nat} {o : Option (Int × Int)} {rs : List Nat} {fs : List (Nat × Nat)} {G G1 : GS} (h : HndC P o G) (hF : Fr rs fs G G1) (h1 : 5 ∉ rs ∧ P ∉ rs) (h2 : (5, 7) ∉ fs ∧ (P, 14) ∉ fs ∧ (P, 15) ∉ fs) : HndC P o G1 := by
  unfold HndC at h ⊢
  rw [hF.i 5 7 h1.1 h2.1, hF.i P 14 h1.2 h2.2.1, hF.i P 15 h1.2 h2.2.2]
  exact h
theorem DrwC.fr {P : Nat} {o : Option Int} {rs : List Nat} {fs : List (Nat × Nat)} {G G1 : GS} (h : DrwC P o G) (hF : Fr rs fs G G1) (h1 : 5 ∉ rs ∧ P ∉ rs) (h2 : (5, 8) ∉ fs ∧ (P, 16) ∉ fs) : DrwC P o G1 := by
  unfold DrwC at h ⊢
  rw [hF.i 5 8 h1.1 h2.1, hF.i P 16 h1.2 h2.2]
  exact h
def StsC_1 (S : VS) (G : GS) : Prop := (G.1 1 9).toInt = (S.length : Int) ∧ NmC 34 (nms S) G ∧ ∀ s, s < S.length → StC_1 s (S.getD s ([], [])).2 G ∧ ((S.getD s ([], [])).2.length : Int) ≤ 400
def WkC_1 (k : Nat) (x : WK) (G : GS) : Prop := (G.1 12 k).toInt = x.1 ∧ (G.1 13 k).toInt = x.2.1 ∧ (G.1 14 k).toInt = x.2.2.1 ∧ (G.1 15 k).toInt = x.2.2.2
def WksC_1 (W : VW) (G : GS) : Prop := (G.1 1 10).toInt = (W.length : Int) ∧ NmC 35 (nms W) G ∧ ∀ k, k < W.length → WkC_1 k (W.getD k ([], 0, 0, 0, 0)).2 G
def EndC_1 (R : VR) (G : GS) : Prop := ∀ k, k < R.length → (G.1 18 k).toInt = cap (fcd (R.take k)).length ∧ (G.1 18 (k + 1)).toInt = cap (fcd (R.take (k + 1))).length
def RlsC_1 (R : VR) (w : Int) (G : GS) : Prop := (G.1 1 11).toInt = (R.length : Int) ∧ NmC 36 (nms R) G ∧ (G.1 1 12).toInt = w ∧ 0 ≤ w ∧ w ≤ 90 ∧ CodeC_1 0 (fcd R) G ∧ EndC_1 R G
def CV_1 (V : PV) (G : GS) : Prop := StsC_1 V.1 G ∧ WksC_1 V.2.1 G ∧ RlsC_1 V.2.2.1 V.2.2.2.1 G ∧ SlpC 16 V.2.2.2.2.1 G ∧ HndC 1 V.2.2.2.2.2.1 G ∧ DrwC 1 V.2.2.2.2.2.2 G
theorem StsC_1.fr {S : VS} {rs : List Nat} {fs : List (Nat × Nat)} {G G1 : GS} (h : StsC_1 S G) (hF : Fr rs fs G G1) (h1 : 1 ∉ rs ∧ 10 ∉ rs ∧ 11 ∉ rs ∧ 34 ∉ rs) (h2 : (1, 9) ∉ fs) (h3 : ∀ x ∈ fs, x.1 ≠ 10 ∧ x.1 ≠ 11 ∧ x.1 ≠ 34) : StsC_1 S G1 := by
  obtain ⟨a1, a2, a3⟩ := h
  refine ⟨by rw [hF.i 1 9 h1.1 h2]; exact a1, a2.fr hF h1.2.2.2 (fun x hx => (h3 x hx).2.2), fun s hs => ⟨(a3 s hs).1.fr hF h1.2.1 (fun x hx => (h3 x hx).1) h1.2.2.1 (fun x hx => (h3 x hx).2.1), (a3 s hs).2⟩⟩
theorem WksC_1.fr {W : VW} {rs : List Nat} {fs : List (Nat × Nat)} {G G1 : GS} (h : WksC_1 W G) (hF : Fr rs fs G G1) (h1 : 1 ∉ rs ∧ 12 ∉ rs ∧ 13 ∉ rs ∧ 14 ∉ rs ∧ 15 ∉ rs ∧ 35 ∉ rs) (h2 : (1, 10) ∉ fs) (h3 : ∀ x ∈ fs, x.1 ≠ 12 ∧ x.1 ≠ 13 ∧ x.1 ≠ 14 ∧ x.1 ≠ 15 ∧ x.1 ≠ 35) : WksC_1 W G1 := by
  obtain ⟨a1, a2, a3⟩ := h
  refine ⟨by rw [hF.i 1 10 h1.1 h2]; exact a1, a2.fr hF h1.2.2.2.2.2 (fun x hx => (h3 x hx).2.2.2.2), fun k hk => ?_⟩
  have h4 := a3 k hk
  unfold WkC_1 at h4 ⊢
  rw [hF.row1 12 h1.2.1 (fun x hx => (h3 x hx).1), hF.row1 13 h1.2.2.1 (fun x hx => (h3 x hx).2.1), hF.row1 14 h1.2.2.2.1 (fun x hx => (h3 x hx).2.2.1), hF.row1 15 h1.2.2.2.2.1 (fun x hx => (h3 x hx).2.2.2.1)]
  exact h4
theorem RlsC_1.fr {R : VR} {w : Int} {rs : List Nat} {fs : List (Nat × Nat)} {G G1 : GS} (h : RlsC_1 R w G) (hF : Fr rs fs G G1) (h1 : 1 ∉ rs ∧ 17 ∉ rs ∧ 18 ∉ rs ∧ 36 ∉ rs) (h2 : (1, 11) ∉ fs ∧ (1, 12) ∉ fs ∧ (1, 13) ∉ fs) (h3 : ∀ x ∈ fs, x.1 ≠ 17 ∧ x.1 ≠ 18 ∧ x.1 ≠ 36) : RlsC_1 R w G1 := by
  obtain ⟨a1, a2, a3, a4, a5, a6, a7⟩ := h
  refine ⟨by rw [hF.i 1 11 h1.1 h2.1]; exact a1, a2.fr hF h1.2.2.2 (fun x hx => (h3 x hx).2.2), by rw [hF.i 1 12 h1.1 h2.2.1]; exact a3, a4, a5, a6.fr hF h1.1 h2.2.2 h1.2.1 (fun x hx => (h3 x hx).1), ?_⟩
  unfold EndC_1 at a7 ⊢
  rw [hF.row1 18 h1.2.2.1 (fun x hx => (h3 x hx).2.1)]
  exact a7
theorem c_street_1 {b : Nat → Int} {n p : Nat} {r : Int32} {G G1 : GS} {NS : List (List Int)} (h : P_rStreet_1 G r G1) (hp : CPx b n G p) (hk : tK b n p ≠ 202) (hk3 : tK b n p ≠ 203) (hN : NmC 34 NS G) (hm : (G.1 1 9).toInt = (NS.length : Int)) : (3 ≤ NS.length ∧ CF (fl b n 2 p) r G1) ∨ (NS.length < 3 ∧ LnC b n p (smi b n (pStreet b n NS p)) r G1 (fun x => NmC 34 (NS ++ [x.1]) G1 ∧ (G1.1 1 9).toInt = (NS.length : Int) + 1 ∧ StC_1 NS.length x.2 G1 ∧ KeC_1 NS.length G G1 ∧ (x.2.length : Int) ≤ 400)) := by
  obtain ⟨-, -, -, w3, G5, hj, -, -, -, -, r12, G13, hf1, hh⟩ := h
  have hj2 : G = G5 ∧ ((3 ≤ NS.length ∧ w3.toInt = 0) ∨ (NS.length < 3 ∧ w3.toInt = 1)) := by
    rcases hj with ⟨c, e1, e2⟩ | ⟨c, e1, e2⟩
    · exact ⟨e2, Or.inl ⟨by omega, by rw [← e1]; rfl⟩⟩
    · exact ⟨e2, Or.inr ⟨by omega, by rw [← e1]; rfl⟩⟩
  obtain ⟨rfl, hj3⟩ := hj2
  clear hj
  have ht := tN_p (b := b) hp.1.2.1 hp.2.2.2
  have htp := (ht.2.2 hk3).1
  rcases c_first hf1 hp hk with ⟨hm0, hC⟩ | ⟨hm1, hr, hp2⟩
  · rcases hh with ⟨c, rfl, rfl⟩ | ⟨c, -⟩
    · exact Or.inl ⟨by omega, rfl, hC.2⟩
    · exact absurd hC.1 c
  have hlt : NS.length < 3 := by omega
  refine Or.inr ⟨hlt, ?_⟩
  rcases hh with ⟨c, -⟩ | ⟨c, r19, G20, hnm, hh⟩
  · omega
  rcases c_name_34 hnm hp2 (hN.fr hf1.2.1 (by decide) (by decide)) hm hlt with ⟨f, hf, hC⟩ | ⟨e1, hr19, hp3, hN20⟩
  · rcases hh with ⟨c, rfl, rfl⟩ | ⟨c, -⟩
    · exact Or.inl ⟨f, smi_l (by unfold pStreet; exact bnd_l hf), rfl, hC.2⟩
    · exact absurd hC.1 c
  rcases hh with ⟨c, -⟩ | ⟨c, r26, G27, hps, hh⟩
  · omega
  have ht3 := tN_p (b := b) hp2.1.2.1 hp2.2.2.2
  rcases c_pass hps hp3 (by decide) with ⟨f, hf, hC⟩ | ⟨e2, hr26, hp4⟩
  · rcases hh with ⟨c, rfl, rfl⟩ | ⟨c, -⟩
    · exact Or.inl ⟨f, smi_l (by unfold pStreet; exact (bnd_r e1).trans (bnd_l hf)), rfl, hC.2⟩
    · exact absurd hC.1 c
  rcases hh with ⟨c, -⟩ | ⟨c, r35, G36, hnu, hh⟩
  · omega
  have ht4 := tN_p (b := b) hp3.1.2.1 hp3.2.2.2
  rcases c_num hnu hp4 with ⟨f, hf, hC⟩ | ⟨e3, hr35, hp5, e59, hlo, hhi⟩
  · rcases hh with ⟨c, rfl, rfl⟩ | ⟨c, -⟩
    · exact Or.inl ⟨f, smi_l (by unfold pStreet; exact (bnd_r e1).trans ((bnd_r e2).trans (bnd_l hf))), rfl, hC.2⟩
    · exact absurd hC.1 c
  rcases hh with ⟨c, -⟩ | ⟨c, G42, -, hF42, e42, x47, G43, hl, -, -, -, hF43, hh⟩
  · omega
  have ht5 := tN_p (b := b) hp4.1.2.1 hp4.2.2.2
  have hlo' : 0 ≤ tV b n (tNx b n (tNx b n (tNx b n p))) := hlo
  have hhi' : tV b n (tNx b n (tNx b n (tNx b n p))) ≤ 9 := hhi
  rw [cn_eq hm] at e42
  have hK36 : KeC_1 NS.length G G36 := (((KeC_1.of hf1.2.1 (by decide) (by decide) (by decide) (by decide)).tr (KeC_1.of hnm.2.1 (by decide) (by decide) (by decide) (by decide))).tr (KeC_1.of hps.2.1 (by decide) (by decide) (by decide) (by decide))).tr (KeC_1.of hnu.2.1 (by decide) (by decide) (by decide) (by decide))
  have hK42 : KeC_1 NS.length G G42 := hK36.tr ⟨fun s' q => by rw [e42]; exact if_neg q, fun j q => by rw [hF42.row1 11 (by decide) (by decide)]⟩
  have h9 : (G42.1 1 9).toInt = (NS.length : Int) := by
    rw [hF42.i 1 9 (by decide) (by decide), hnu.2.1.i 1 9 (by decide) (by decide), hps.2.1.i 1 9 (by decide) (by decide), hnm.2.1.i 1 9 (by decide) (by decide), hf1.2.1.i 1 9 (by decide) (by decide)]
    exact hm
  have hS42 : StC_1 NS.length [] G42 := ⟨by rw [e42, show upd (G36.1 10) NS.length 0 NS.length = 0 from if_pos rfl]; rfl, fun i hi => absurd hi (Nat.not_lt_zero i)⟩
  have hp42 : CPx b n G42 (tNx b n (tNx b n (tNx b n (tNx b n p)))) := hp5.fr hF42 (by decide) (by decide) (by decide) (by decide)
  have hN42 : NmC 34 (NS ++ [tL b n (tNx b n p)]) G42 := ((hN20.fr hps.2.1 (by decide) (by decide)).fr hnu.2.1 (by decide) (by decide)).fr hF42 (by decide) (by decide)
  generalize hJ : tV b n (tNx b n (tNx b n (tNx b n p))) = J at *
  generalize hpq : tNx b n (tNx b n (tNx b n (tNx b n p))) = p5 at *
  have hI := hl (fun q => ∃ (nth : Nat) (I : List IC) (p' : Nat), q.1.toInt = (nth : Int) ∧ CPx b n q.2 p' ∧ p5 ≤ p' ∧ (q.2.1 1 9).toInt = (NS.length : Int) ∧ StC_1 NS.length I q.2 ∧ KeC_1 NS.length G q.2 ∧ (I.length : Int) ≤ 400 ∧ nth ≤ I.length ∧ ∀ o, Et (slS b n J) (0, [], p5) o ↔ Et (slS b n J) (nth, I, p') o) ⟨0, [], p5, rfl, hp42, Nat.le_refl _, h9, hS42, hK42, by decide, Nat.le_refl _, fun o => Iff.rfl⟩ (by
    rintro ⟨x1, G_1⟩ ⟨xn, G_1n⟩ ⟨nth, I, p', g1, g2, g3, g4, g5, g6, g7, g8, g9⟩ ⟨x1q, G_1q, xnq, G_1nq, q1, q2, -, -, -, c1, hd⟩
    obtain ⟨rfl, rfl⟩ := Prod.mk.inj q1
    obtain ⟨rfl, rfl⟩ := Prod.mk.inj q2
    simp only at g1 g2 g4 g5 g6
    have hd2 : (nth = 0 ∨ tK b n p' = 201) ∧ ∃ (r7 : Int32), P_rSlab_1 x1 (G36.1 5 9) G_1 r7 G_1n ∧ r7.toInt ≠ 0 ∧ xn.toInt = x1.toInt + 1 := by
      rw [← g2.2.1.1]
      rcases hd with ⟨d0, r7, G7, d1, d2, y7, d3, d4, d5⟩ | ⟨d0, d6, r7, G7, d1, d2, y7, d3, d4, d5⟩
      · subst d5
        exact ⟨Or.inl (by omega), r7, d1, d2, by rw [← d4]; exact d3⟩
      · subst d5
        exact ⟨Or.inr d6, r7, d1, d2, by rw [← d4]; exact d3⟩
    clear hd
    obtain ⟨hc, r7, d1, d2, d3⟩ := hd2
    rcases c_slab_1 d1 g2 g4 hlt g5 g1 e59 (by omega) hlo' hhi' with ⟨f, s1, s2⟩ | ⟨vx, p2, s1, s2, s3, s4, s5, s6, s7, s8⟩
    · exact absurd s2.1 d2
    · have hsl : slS b n J (nth, I, p') = .inl (nth + 1, I ++ slI J nth vx, p2) := slS_r hc s1
      have hle : nth + 1 ≤ (I ++ slI J nth vx).length := by
        rw [List.length_append, slI_len]
        omega
      refine ⟨nth + 1, I ++ slI J nth vx, p2, by show xn.toInt = _; omega, s3, by omega, ?_, s5, g6.tr s6, s8, hle, fun o => (g9 o).trans (Et_i hsl)⟩
      show (G_1n.1 1 9).toInt = _
      rw [d1.2.1.i 1 9 (by decide) (by decide)]
      exact g4)
  obtain ⟨nth, I, p', g1, g2, g3, g4, g5, g6, g7, g8, g9⟩ := hI
  simp only at g1 g2 g4 g5 g6
  rcases hh with ⟨c1, hd⟩ | ⟨G56, hj, -, -, r60, G61, hps2, hh⟩
  · have hd2 : (nth = 0 ∨ tK b n p' = 201) ∧ ∃ (r7 : Int32), P_rSlab_1 x47 (G36.1 5 9) G43 r7 G1 ∧ r7.toInt = 0 ∧ 0 = r := by
      rw [← g2.2.1.1]
      rcases hd with ⟨d0, r7, G7, d1, d2, d4, d5⟩ | ⟨d0, d6, r7, G7, d1, d2, d4, d5⟩
      · subst d5
        exact ⟨Or.inl (by omega), r7, d1, d2, d4⟩
      · subst d5
        exact ⟨Or.inr d6, r7, d1, d2, d4⟩
    clear hd
    obtain ⟨hc, r7, d1, d2, rfl⟩ := hd2
    rcases c_slab_1 d1 g2 g4 hlt g5 g1 e59 (by omega) hlo' hhi' with ⟨f, s1, s2⟩ | ⟨vx, p2, s1, s2, -⟩
    · have hsl : slS b n J (nth, I, p') = .inr (.inl f) := slS_l hc s1
      have hpl : pSls b n J p5 = .inl f := run_eq ((g9 _).mpr ((Et_r hsl).mpr rfl))
      exact Or.inl ⟨f, smi_l (by unfold pStreet; exact (bnd_r e1).trans ((bnd_r e2).trans ((bnd_r e3).trans (bnd_l hpl)))), rfl, s2.2⟩
    · omega
  · have hj2 : G43 = G56 ∧ ¬ (nth = 0 ∨ tK b n p' = 201) := by
      rw [← g2.2.1.1]
      rcases hj with ⟨c, -⟩ | ⟨c, d, d2, e⟩
      · omega
      · exact ⟨e, by omega⟩
    obtain ⟨rfl, hc⟩ := hj2
    clear hj
    have hsl : slS b n J (nth, I, p') = .inr (.inr (I, p')) := by
      unfold slS
      rw [if_neg hc]
    have hpl : pSls b n J p5 = .inr (I, p') := run_eq ((g9 _).mpr ((Et_r hsl).mpr rfl))
    have hst : pStreet b n NS p = .inr ((tL b n (tNx b n p), I), p') := by
      unfold pStreet
      exact (bnd_r e1).trans ((bnd_r e2).trans ((bnd_r e3).trans (bnd_r hpl)))
    rcases hh with ⟨c, rfl, rfl⟩ | ⟨c, y67, t67, rfl, hFe, e9e⟩
    · rcases c_semi (p := p) (K := fun _ => True) hps2 g2 hst (by omega) (fun _ => trivial) with ⟨f, s1, s2⟩ | ⟨x, p2, s1, s2, -⟩
      · exact Or.inl ⟨f, s1, rfl, s2.2⟩
      · omega
    · rcases c_semi (p := p) (K := fun x => x = (tL b n (tNx b n p), I)) hps2 g2 hst (by omega) (fun _ => rfl) with ⟨f, s1, s2⟩ | ⟨x, p2, s1, s2, s3, s4, s5⟩
      · exact absurd s2.1 c
      · subst s5
        refine Or.inr ⟨_, p2, s1, rfl, s3.fr hFe (by decide) (by decide) (by decide) (by decide), s4, ((hN42.fr hF43 (by decide) (by decide)).fr hps2.2.1 (by decide) (by decide)).fr hFe (by decide) (by decide), by rw [e9e]; omega, (g5.fr hps2.2.1 (by decide) (by decide) (by decide) (by decide)).fr hFe (by decide) (by decide) (by decide) (by decide), (g6.tr (KeC_1.of hps2.2.1 (by decide) (by decide) (by decide) (by decide))).tr (KeC_1.of hFe (by decide) (by decide) (by decide) (by decide)), g7⟩
def StsC_2 (S : VS) (G : GS) : Prop := (G.1 2 9).toInt = (S.length : Int) ∧ NmC 34 (nms S) G ∧ ∀ s, s < S.length → StC_2 s (S.getD s ([], [])).2 G ∧ ((S.getD s ([], [])).2.length : Int) ≤ 400
def WkC_2 (k : Nat) (x : WK) (G : GS) : Prop := (G.1 22 k).toInt = x.1 ∧ (G.1 23 k).toInt = x.2.1 ∧ (G.1 24 k).toInt = x.2.2.1 ∧ (G.1 25 k).toInt = x.2.2.2
def WksC_2 (W : VW) (G : GS) : Prop := (G.1 2 10).toInt = (W.length : Int) ∧ NmC 35 (nms W) G ∧ ∀ k, k < W.length → WkC_2 k (W.getD k ([], 0, 0, 0, 0)).2 G
def EndC_2 (R : VR) (G : GS) : Prop := ∀ k, k < R.length → (G.1 28 k).toInt = cap (fcd (R.take k)).length ∧ (G.1 28 (k + 1)).toInt = cap (fcd (R.take (k + 1))).length
def RlsC_2 (R : VR) (w : Int) (G : GS) : Prop := (G.1 2 11).toInt = (R.length : Int) ∧ NmC 36 (nms R) G ∧ (G.1 2 12).toInt = w ∧ 0 ≤ w ∧ w ≤ 90 ∧ CodeC_2 0 (fcd R) G ∧ EndC_2 R G
def CV_2 (V : PV) (G : GS) : Prop := StsC_2 V.1 G ∧ WksC_2 V.2.1 G ∧ RlsC_2 V.2.2.1 V.2.2.2.1 G ∧ SlpC 26 V.2.2.2.2.1 G ∧ HndC 2 V.2.2.2.2.2.1 G ∧ DrwC 2 V.2.2.2.2.2.2 G
theorem StsC_2.fr {S : VS} {rs : List Nat} {fs : List (Nat × Nat)} {G G1 : GS} (h : StsC_2 S G) (hF : Fr rs fs G G1) (h1 : 2 ∉ rs ∧ 20 ∉ rs ∧ 21 ∉ rs ∧ 34 ∉ rs) (h2 : (2, 9) ∉ fs) (h3 : ∀ x ∈ fs, x.1 ≠ 20 ∧ x.1 ≠ 21 ∧ x.1 ≠ 34) : StsC_2 S G1 := by
  obtain ⟨a1, a2, a3⟩ := h
  refine ⟨by rw [hF.i 2 9 h1.1 h2]; exact a1, a2.fr hF h1.2.2.2 (fun x hx => (h3 x hx).2.2), fun s hs => ⟨(a3 s hs).1.fr hF h1.2.1 (fun x hx => (h3 x hx).1) h1.2.2.1 (fun x hx => (h3 x hx).2.1), (a3 s hs).2⟩⟩
theorem WksC_2.fr {W : VW} {rs : List Nat} {fs : List (Nat × Nat)} {G G1 : GS} (h : WksC_2 W G) (hF : Fr rs fs G G1) (h1 : 2 ∉ rs ∧ 22 ∉ rs ∧ 23 ∉ rs ∧ 24 ∉ rs ∧ 25 ∉ rs ∧ 35 ∉ rs) (h2 : (2, 10) ∉ fs) (h3 : ∀ x ∈ fs, x.1 ≠ 22 ∧ x.1 ≠ 23 ∧ x.1 ≠ 24 ∧ x.1 ≠ 25 ∧ x.1 ≠ 35) : WksC_2 W G1 := by
  obtain ⟨a1, a2, a3⟩ := h
  refine ⟨by rw [hF.i 2 10 h1.1 h2]; exact a1, a2.fr hF h1.2.2.2.2.2 (fun x hx => (h3 x hx).2.2.2.2), fun k hk => ?_⟩
  have h4 := a3 k hk
  unfold WkC_2 at h4 ⊢
  rw [hF.row1 22 h1.2.1 (fun x hx => (h3 x hx).1), hF.row1 23 h1.2.2.1 (fun x hx => (h3 x hx).2.1), hF.row1 24 h1.2.2.2.1 (fun x hx => (h3 x hx).2.2.1), hF.row1 25 h1.2.2.2.2.1 (fun x hx => (h3 x hx).2.2.2.1)]
  exact h4
theorem RlsC_2.fr {R : VR} {w : Int} {rs : List Nat} {fs : List (Nat × Nat)} {G G1 : GS} (h : RlsC_2 R w G) (hF : Fr rs fs G G1) (h1 : 2 ∉ rs ∧ 27 ∉ rs ∧ 28 ∉ rs ∧ 36 ∉ rs) (h2 : (2, 11) ∉ fs ∧ (2, 12) ∉ fs ∧ (2, 13) ∉ fs) (h3 : ∀ x ∈ fs, x.1 ≠ 27 ∧ x.1 ≠ 28 ∧ x.1 ≠ 36) : RlsC_2 R w G1 := by
  obtain ⟨a1, a2, a3, a4, a5, a6, a7⟩ := h
  refine ⟨by rw [hF.i 2 11 h1.1 h2.1]; exact a1, a2.fr hF h1.2.2.2 (fun x hx => (h3 x hx).2.2), by rw [hF.i 2 12 h1.1 h2.2.1]; exact a3, a4, a5, a6.fr hF h1.1 h2.2.2 h1.2.1 (fun x hx => (h3 x hx).1), ?_⟩
  unfold EndC_2 at a7 ⊢
  rw [hF.row1 28 h1.2.2.1 (fun x hx => (h3 x hx).2.1)]
  exact a7
theorem c_street_2 {b : Nat → Int} {n p : Nat} {r : Int32} {G G1 : GS} {NS : List (List Int)} (h : P_rStreet_2 G r G1) (hp : CPx b n G p) (hk : tK b n p ≠ 202) (hk3 : tK b n p ≠ 203) (hN : NmC 34 NS G) (hm : (G.1 2 9).toInt = (NS.length : Int)) : (3 ≤ NS.length ∧ CF (fl b n 2 p) r G1) ∨ (NS.length < 3 ∧ LnC b n p (smi b n (pStreet b n NS p)) r G1 (fun x => NmC 34 (NS ++ [x.1]) G1 ∧ (G1.1 2 9).toInt = (NS.length : Int) + 1 ∧ StC_2 NS.length x.2 G1 ∧ KeC_2 NS.length G G1 ∧ (x.2.length : Int) ≤ 400)) := by
  obtain ⟨-, -, -, w3, G5, hj, -, -, -, -, r12, G13, hf1, hh⟩ := h
  have hj2 : G = G5 ∧ ((3 ≤ NS.length ∧ w3.toInt = 0) ∨ (NS.length < 3 ∧ w3.toInt = 1)) := by
    rcases hj with ⟨c, e1, e2⟩ | ⟨c, e1, e2⟩
    · exact ⟨e2, Or.inl ⟨by omega, by rw [← e1]; rfl⟩⟩
    · exact ⟨e2, Or.inr ⟨by omega, by rw [← e1]; rfl⟩⟩
  obtain ⟨rfl, hj3⟩ := hj2
  clear hj
  have ht := tN_p (b := b) hp.1.2.1 hp.2.2.2
  have htp := (ht.2.2 hk3).1
  rcases c_first hf1 hp hk with ⟨hm0, hC⟩ | ⟨hm1, hr, hp2⟩
  · rcases hh with ⟨c, rfl, rfl⟩ | ⟨c, -⟩
    · exact Or.inl ⟨by omega, rfl, hC.2⟩
    · exact absurd hC.1 c
  have hlt : NS.length < 3 := by omega
  refine Or.inr ⟨hlt, ?_⟩
  rcases hh with ⟨c, -⟩ | ⟨c, r19, G20, hnm, hh⟩
  · omega
  rcases c_name_34 hnm hp2 (hN.fr hf1.2.1 (by decide) (by decide)) hm hlt with ⟨f, hf, hC⟩ | ⟨e1, hr19, hp3, hN20⟩
  · rcases hh with ⟨c, rfl, rfl⟩ | ⟨c, -⟩
    · exact Or.inl ⟨f, smi_l (by unfold pStreet; exact bnd_l hf), rfl, hC.2⟩
    · exact absurd hC.1 c
  rcases hh with ⟨c, -⟩ | ⟨c, r26, G27, hps, hh⟩
  · omega
  have ht3 := tN_p (b := b) hp2.1.2.1 hp2.2.2.2
  rcases c_pass hps hp3 (by decide) with ⟨f, hf, hC⟩ | ⟨e2, hr26, hp4⟩
  · rcases hh with ⟨c, rfl, rfl⟩ | ⟨c, -⟩
    · exact Or.inl ⟨f, smi_l (by unfold pStreet; exact (bnd_r e1).trans (bnd_l hf)), rfl, hC.2⟩
    · exact absurd hC.1 c
  rcases hh with ⟨c, -⟩ | ⟨c, r35, G36, hnu, hh⟩
  · omega
  have ht4 := tN_p (b := b) hp3.1.2.1 hp3.2.2.2
  rcases c_num hnu hp4 with ⟨f, hf, hC⟩ | ⟨e3, hr35, hp5, e59, hlo, hhi⟩
  · rcases hh with ⟨c, rfl, rfl⟩ | ⟨c, -⟩
    · exact Or.inl ⟨f, smi_l (by unfold pStreet; exact (bnd_r e1).trans ((bnd_r e2).trans (bnd_l hf))), rfl, hC.2⟩
    · exact absurd hC.1 c
  rcases hh with ⟨c, -⟩ | ⟨c, G42, -, hF42, e42, x47, G43, hl, -, -, -, hF43, hh⟩
  · omega
  have ht5 := tN_p (b := b) hp4.1.2.1 hp4.2.2.2
  have hlo' : 0 ≤ tV b n (tNx b n (tNx b n (tNx b n p))) := hlo
  have hhi' : tV b n (tNx b n (tNx b n (tNx b n p))) ≤ 9 := hhi
  rw [cn_eq hm] at e42
  have hK36 : KeC_2 NS.length G G36 := (((KeC_2.of hf1.2.1 (by decide) (by decide) (by decide) (by decide)).tr (KeC_2.of hnm.2.1 (by decide) (by decide) (by decide) (by decide))).tr (KeC_2.of hps.2.1 (by decide) (by decide) (by decide) (by decide))).tr (KeC_2.of hnu.2.1 (by decide) (by decide) (by decide) (by decide))
  have hK42 : KeC_2 NS.length G G42 := hK36.tr ⟨fun s' q => by rw [e42]; exact if_neg q, fun j q => by rw [hF42.row1 21 (by decide) (by decide)]⟩
  have h9 : (G42.1 2 9).toInt = (NS.length : Int) := by
    rw [hF42.i 2 9 (by decide) (by decide), hnu.2.1.i 2 9 (by decide) (by decide), hps.2.1.i 2 9 (by decide) (by decide), hnm.2.1.i 2 9 (by decide) (by decide), hf1.2.1.i 2 9 (by decide) (by decide)]
    exact hm
  have hS42 : StC_2 NS.length [] G42 := ⟨by rw [e42, show upd (G36.1 20) NS.length 0 NS.length = 0 from if_pos rfl]; rfl, fun i hi => absurd hi (Nat.not_lt_zero i)⟩
  have hp42 : CPx b n G42 (tNx b n (tNx b n (tNx b n (tNx b n p)))) := hp5.fr hF42 (by decide) (by decide) (by decide) (by decide)
  have hN42 : NmC 34 (NS ++ [tL b n (tNx b n p)]) G42 := ((hN20.fr hps.2.1 (by decide) (by decide)).fr hnu.2.1 (by decide) (by decide)).fr hF42 (by decide) (by decide)
  generalize hJ : tV b n (tNx b n (tNx b n (tNx b n p))) = J at *
  generalize hpq : tNx b n (tNx b n (tNx b n (tNx b n p))) = p5 at *
  have hI := hl (fun q => ∃ (nth : Nat) (I : List IC) (p' : Nat), q.1.toInt = (nth : Int) ∧ CPx b n q.2 p' ∧ p5 ≤ p' ∧ (q.2.1 2 9).toInt = (NS.length : Int) ∧ StC_2 NS.length I q.2 ∧ KeC_2 NS.length G q.2 ∧ (I.length : Int) ≤ 400 ∧ nth ≤ I.length ∧ ∀ o, Et (slS b n J) (0, [], p5) o ↔ Et (slS b n J) (nth, I, p') o) ⟨0, [], p5, rfl, hp42, Nat.le_refl _, h9, hS42, hK42, by decide, Nat.le_refl _, fun o => Iff.rfl⟩ (by
    rintro ⟨x1, G_1⟩ ⟨xn, G_1n⟩ ⟨nth, I, p', g1, g2, g3, g4, g5, g6, g7, g8, g9⟩ ⟨x1q, G_1q, xnq, G_1nq, q1, q2, -, -, -, c1, hd⟩
    obtain ⟨rfl, rfl⟩ := Prod.mk.inj q1
    obtain ⟨rfl, rfl⟩ := Prod.mk.inj q2
    simp only at g1 g2 g4 g5 g6
    have hd2 : (nth = 0 ∨ tK b n p' = 201) ∧ ∃ (r7 : Int32), P_rSlab_2 x1 (G36.1 5 9) G_1 r7 G_1n ∧ r7.toInt ≠ 0 ∧ xn.toInt = x1.toInt + 1 := by
      rw [← g2.2.1.1]
      rcases hd with ⟨d0, r7, G7, d1, d2, y7, d3, d4, d5⟩ | ⟨d0, d6, r7, G7, d1, d2, y7, d3, d4, d5⟩
      · subst d5
        exact ⟨Or.inl (by omega), r7, d1, d2, by rw [← d4]; exact d3⟩
      · subst d5
        exact ⟨Or.inr d6, r7, d1, d2, by rw [← d4]; exact d3⟩
    clear hd
    obtain ⟨hc, r7, d1, d2, d3⟩ := hd2
    rcases c_slab_2 d1 g2 g4 hlt g5 g1 e59 (by omega) hlo' hhi' with ⟨f, s1, s2⟩ | ⟨vx, p2, s1, s2, s3, s4, s5, s6, s7, s8⟩
    · exact absurd s2.1 d2
    · have hsl : slS b n J (nth, I, p') = .inl (nth + 1, I ++ slI J nth vx, p2) := slS_r hc s1
      have hle : nth + 1 ≤ (I ++ slI J nth vx).length := by
        rw [List.length_append, slI_len]
        omega
      refine ⟨nth + 1, I ++ slI J nth vx, p2, by show xn.toInt = _; omega, s3, by omega, ?_, s5, g6.tr s6, s8, hle, fun o => (g9 o).trans (Et_i hsl)⟩
      show (G_1n.1 2 9).toInt = _
      rw [d1.2.1.i 2 9 (by decide) (by decide)]
      exact g4)
  obtain ⟨nth, I, p', g1, g2, g3, g4, g5, g6, g7, g8, g9⟩ := hI
  simp only at g1 g2 g4 g5 g6
  rcases hh with ⟨c1, hd⟩ | ⟨G56, hj, -, -, r60, G61, hps2, hh⟩
  · have hd2 : (nth = 0 ∨ tK b n p' = 201) ∧ ∃ (r7 : Int32), P_rSlab_2 x47 (G36.1 5 9) G43 r7 G1 ∧ r7.toInt = 0 ∧ 0 = r := by
      rw [← g2.2.1.1]
      rcases hd with ⟨d0, r7, G7, d1, d2, d4, d5⟩ | ⟨d0, d6, r7, G7, d1, d2, d4, d5⟩
      · subst d5
        exact ⟨Or.inl (by omega), r7, d1, d2, d4⟩
      · subst d5
        exact ⟨Or.inr d6, r7, d1, d2, d4⟩
    clear hd
    obtain ⟨hc, r7, d1, d2, rfl⟩ := hd2
    rcases c_slab_2 d1 g2 g4 hlt g5 g1 e59 (by omega) hlo' hhi' with ⟨f, s1, s2⟩ | ⟨vx, p2, s1, s2, -⟩
    · have hsl : slS b n J (nth, I, p') = .inr (.inl f) := slS_l hc s1
      have hpl : pSls b n J p5 = .inl f := run_eq ((g9 _).mpr ((Et_r hsl).mpr rfl))
      exact Or.inl ⟨f, smi_l (by unfold pStreet; exact (bnd_r e1).trans ((bnd_r e2).trans ((bnd_r e3).trans (bnd_l hpl)))), rfl, s2.2⟩
    · omega
  · have hj2 : G43 = G56 ∧ ¬ (nth = 0 ∨ tK b n p' = 201) := by
      rw [← g2.2.1.1]
      rcases hj with ⟨c, -⟩ | ⟨c, d, d2, e⟩
      · omega
      · exact ⟨e, by omega⟩
    obtain ⟨rfl, hc⟩ := hj2
    clear hj
    have hsl : slS b n J (nth, I, p') = .inr (.inr (I, p')) := by
      unfold slS
      rw [if_neg hc]
    have hpl : pSls b n J p5 = .inr (I, p') := run_eq ((g9 _).mpr ((Et_r hsl).mpr rfl))
    have hst : pStreet b n NS p = .inr ((tL b n (tNx b n p), I), p') := by
      unfold pStreet
      exact (bnd_r e1).trans ((bnd_r e2).trans ((bnd_r e3).trans (bnd_r hpl)))
    rcases hh with ⟨c, rfl, rfl⟩ | ⟨c, y67, t67, rfl, hFe, e9e⟩
    · rcases c_semi (p := p) (K := fun _ => True) hps2 g2 hst (by omega) (fun _ => trivial) with ⟨f, s1, s2⟩ | ⟨x, p2, s1, s2, -⟩
      · exact Or.inl ⟨f, s1, rfl, s2.2⟩
      · omega
    · rcases c_semi (p := p) (K := fun x => x = (tL b n (tNx b n p), I)) hps2 g2 hst (by omega) (fun _ => rfl) with ⟨f, s1, s2⟩ | ⟨x, p2, s1, s2, s3, s4, s5⟩
      · exact absurd s2.1 c
      · subst s5
        refine Or.inr ⟨_, p2, s1, rfl, s3.fr hFe (by decide) (by decide) (by decide) (by decide), s4, ((hN42.fr hF43 (by decide) (by decide)).fr hps2.2.1 (by decide) (by decide)).fr hFe (by decide) (by decide), by rw [e9e]; omega, (g5.fr hps2.2.1 (by decide) (by decide) (by decide) (by decide)).fr hFe (by decide) (by decide) (by decide) (by decide), (g6.tr (KeC_2.of hps2.2.1 (by decide) (by decide) (by decide) (by decide))).tr (KeC_2.of hFe (by decide) (by decide) (by decide) (by decide)), g7⟩
