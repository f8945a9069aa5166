/-! formulas by the reference: units -/
def CfM (b : Nat → Int) (n f : Nat) (G : GS) (p : Nat) (S : List Int) (C : List (Int × Int)) (u w : Int) : Prop := MP b n G p ∧ StkM S G ∧ (G.1 66 24).toInt = (dps S : Int) ∧ (G.1 66 23).toInt = u ∧ (G.1 66 21).toInt = w ∧ (G.1 66 19).toInt = (f : Int) ∧ CodeM f C G ∧ 0 ≤ w ∧ w ≤ 90
theorem CfM.t {b : Nat → Int} {n f p : Nat} {G : GS} {S : List Int} {C : List (Int × Int)} {u w : Int} (h : CfM b n f G p S C u w) : n ≤ 1600 ∧ p ≤ n ∧ p ≤ tNx b n p ∧ tNx b n p ≤ n ∧ (tK b n p ≠ 203 → p < tNx b n p) := by
  have h1 := tN_p (b := b) h.1.1.2.1 h.1.2.2.2
  exact ⟨h.1.1.2.1, h.1.2.2.2, h1.1, h1.2.1, fun q => (h1.2.2 q).1⟩
theorem m_count {b : Nat → Int} {n f p : Nat} {G G1 : GS} {S : List Int} {C : List (Int × Int)} {u w : Int} (h : Q_countUnit G G1) (hc : CfM b n f G p S C u w) (hw : w < 90) : CfM b n f G1 p S C (u + 1) (w + 1) := by
  obtain ⟨-, hF, -, y1, e1, y4, t4, -, e21, e23⟩ := h
  obtain ⟨c1, c2, c3, c4, c5, c6, c7, c8, c9⟩ := hc
  refine ⟨c1.fr hF (by decide) (by decide) (by decide) (by decide), c2.fr hF (by decide) (by decide) (by decide) (by decide), by rw [hF.i 66 24 (by decide) (by decide)]; exact c3, by rw [e23]; omega, ?_, by rw [hF.i 66 19 (by decide) (by decide)]; exact c6, c7.fr hF (by decide) (by decide), by omega, by omega⟩
  rw [e21]
  exact xI_add (Y := 1) c5 rfl e1 (by omega) (by omega)
theorem CfM.next {b : Nat → Int} {n f p : Nat} {G G1 : GS} {S : List Int} {C : List (Int × Int)} {u w : Int} (h : Q_token G G1) (hc : CfM b n f G p S C u w) (hk : tK b n p ≠ 202) : CfM b n f G1 (tNx b n p) S C u w := by
  obtain ⟨c1, c2, c3, c4, c5, c6, c7, c8⟩ := hc
  have hF := h.2.1
  exact ⟨m_next h c1 hk, c2.fr hF (by decide) (by decide) (by decide) (by decide), by rw [hF.i 66 24 (by decide) (by decide)]; exact c3, by rw [hF.i 66 23 (by decide) (by decide)]; exact c4, by rw [hF.i 66 21 (by decide) (by decide)]; exact c5, by rw [hF.i 66 19 (by decide) (by decide)]; exact c6, c7.fr hF (by decide) (by decide), c8⟩
theorem m_openUp {b : Nat → Int} {n f p : Nat} {G G1 : GS} {S : List Int} {C : List (Int × Int)} {u w : Int} {o : Int32} (h : Q_openUp o G G1) (hc : CfM b n f G p S C u w) (ho : o.toInt = 20 ∨ o.toInt = 21) (hk : tK b n p ≠ 202) : CfM b n f G1 (tNx b n p) (o.toInt :: S) C u w := by
  obtain ⟨-, -, -, y3, t3, y7, t7, hh⟩ := h
  have hf := hc.1.2.2.1
  rcases hh with ⟨c, G8, -, hF, e20, e24, e75, G21, ht, rfl⟩ | ⟨c, -⟩
  · refine CfM.next ht ?_ hk
    obtain ⟨c1, c2, c3, c4, c5, c6, c7, c8⟩ := hc
    refine ⟨c1.fr hF (by decide) (by decide) (by decide) (by decide), stk_push c2 (by rw [e20]; omega) e75, ?_, by rw [hF.i 66 23 (by decide) (by decide)]; exact c4, by rw [hF.i 66 21 (by decide) (by decide)]; exact c5, by rw [hF.i 66 19 (by decide) (by decide)]; exact c6, c7.fr hF (by decide) (by decide), c8⟩
    rw [dps, if_pos ho, e24]
    omega
  · omega
theorem openUp_f {G G1 : GS} {o : Int32} {ft : Int × Int} (h : Q_openUp o G G1) (hm : MF ft G) : MF ft G1 := by
  have e2 := h.2.1.i 66 2 (by decide) (by decide)
  have e3 := h.2.1.i 66 3 (by decide) (by decide)
  unfold MF at hm ⊢
  rw [e2, e3]
  exact hm
theorem count_f {G G1 : GS} {ft : Int × Int} (h : Q_countUnit G G1) (hm : MF ft G) : MF ft G1 := by
  have e2 := h.2.1.i 66 2 (by decide) (by decide)
  have e3 := h.2.1.i 66 3 (by decide) (by decide)
  unfold MF at hm ⊢
  rw [e2, e3]
  exact hm
