/-! lines by the program -/
def smi {α : Type} (b : Nat → Int) (n : Nat) (o : Rs α) : Rs α := bnd o fun x q => bnd (pKw b n 59 q) fun _ q => .inr (x, q)
theorem smi_l {α : Type} {b : Nat → Int} {n : Nat} {o : Rs α} {f : Int × Int} (h : o = .inl f) : smi b n o = .inl f := by subst h; rfl
theorem smi_r {α : Type} {b : Nat → Int} {n : Nat} {o : Rs α} {x : α} {q : Nat} (h : o = .inr (x, q)) : smi b n o = bnd (pKw b n 59 q) fun _ q => .inr (x, q) := by subst h; rfl
theorem smi_b {α β : Type} {b : Nat → Int} {n : Nat} {o : Rs α} {F : α → β} : smi b n (bnd o fun x q => .inr (F x, q)) = bnd (smi b n o) fun x q => .inr (F x, q) := by
  cases o with
  | inl f => rfl
  | inr x =>
    obtain ⟨x, q⟩ := x
    show bnd (pKw b n 59 q) (fun _ q => .inr (F x, q)) = bnd (bnd (pKw b n 59 q) (fun _ q => .inr (x, q))) (fun x q => .inr (F x, q))
    cases pKw b n 59 q with
    | inl f => rfl
    | inr y => rfl
def LnC {α : Type} (b : Nat → Int) (n p : Nat) (o : Rs α) (r : Int32) (G1 : GS) (K : α → Prop) : Prop := (∃ f, o = .inl f ∧ CF f r G1) ∨ (∃ x p', o = .inr (x, p') ∧ r.toInt = 1 ∧ CPx b n G1 p' ∧ p < p' ∧ K x)
theorem c_semi {α : Type} {b : Nat → Int} {n p q : Nat} {o : Rs α} {x : α} {r : Int32} {G G1 : GS} {K : α → Prop} (h : P_tPass 59 G r G1) (hp : CPx b n G q) (ho : o = .inr (x, q)) (hpq : p < q) (hK : Fr [] [(3, 2), (3, 3), (3, 4), (3, 5), (3, 6), (3, 7), (3, 8)] G G1 → K x) : LnC b n p (smi b n o) r G1 K := by
  have ht := tN_p (b := b) hp.1.2.1 hp.2.2.2
  rcases c_pass h hp (by decide) with ⟨f, hf, hC⟩ | ⟨e, hr, hp2⟩
  · exact Or.inl ⟨f, (smi_r ho).trans (bnd_l hf), hC⟩
  · exact Or.inr ⟨x, tNx b n q, (smi_r ho).trans (bnd_r e), hr, hp2, by omega, hK h.2.1⟩
def fcd (R : VR) : List (Int × Int) := (R.map (fun x => x.2)).flatten
theorem fcd_snoc {R : VR} {x : List Int × List (Int × Int)} : fcd (R ++ [x]) = fcd R ++ x.2 := by simp [fcd]
def cap (k : Nat) : Int := if k ≤ 580 then (k : Int) else 580
theorem take_snoc {α : Type} {R : List α} {x : α} {k : Nat} (h : k ≤ R.length) : (R ++ [x]).take k = R.take k := List.take_append_of_le_length h
theorem take_all {α : Type} {R : List α} {x : α} : (R ++ [x]).take (R.length + 1) = R ++ [x] := List.take_of_length_le (by simp)
theorem getD_snl {α : Type} {S : List α} {x d : α} {k : Nat} (h : k < S.length) : (S ++ [x]).getD k d = S.getD k d := by rw [getD_sn, if_pos h]
theorem getD_snr {α : Type} {S : List α} {x d : α} : (S ++ [x]).getD S.length d = x := by rw [getD_sn, if_neg (Nat.lt_irrefl _), if_pos rfl]
def SlpC (R : Nat) (o : Option (Int × Int × Int)) (G : GS) : Prop := (o.isNone = true ↔ (G.1 5 6).toInt = 0) ∧ (G.1 R 0).toInt = (o.getD (0, 1, 0)).1 ∧ (G.1 R 1).toInt = (o.getD (0, 1, 0)).2.1 ∧ (G.1 R 2).toInt = (o.getD (0, 1, 0)).2.2
def HndC (P : Nat) (o : Option (Int × Int)) (G : GS) : Prop := (o.isNone = true ↔ (G.1 5 7).toInt = 0) ∧ (G.1 P 14).toInt = (o.getD (30, 10)).1 ∧ (G.1 P 15).toInt = (o.getD (30, 10)).2
def DrwC (P : Nat) (o : Option Int) (G : GS) : Prop := (o.isNone = true ↔ (G.1 5 8).toInt = 0) ∧ (G.1 P 16).toInt = o.getD 0
theorem SlpC.fr {R : Nat} {o : Option (Int × Int × Int)} {rs : List Nat} {fs : List (Nat × Nat)} {G G1 : GS} (h : SlpC R o G) (hF : Fr rs fs G G1) (h1 : 5 ∉ rs) (h2 : (5, 6) ∉ fs) (h3 : R ∉ rs) (h4 : ∀ x ∈ fs, x.1 ≠ R) : SlpC R o G1 := by
  unfold SlpC at h ⊢
  rw [hF.i 5 6 h1 h2, hF.row1 R h3 h4]
  exact h
theorem HndC.fr {P : Nat} {o : Option (Int × Int)} {rs : List Nat} {fs : List (Nat × Nat)} {G G1 : GS} (h : HndC P o G) (hF : Fr rs fs G G1) (h1 : 5 ∉ rs ∧ P ∉ rs) (h2 : (5, 7) ∉ fs ∧ (P, 14) ∉ fs ∧ (P, 15) ∉ fs) : HndC P o G1 := by
  unfold HndC at h ⊢
  rw [hF.i 5 7 h1.1 h2.1, hF.i P 14 h1.2 h2.2.1, hF.i P 15 h1.2 h2.2.2]
  exact h
theorem DrwC.fr {P : Nat} {o : Option Int} {rs : List Nat} {fs : List (Nat × Nat)} {G G1 : GS} (h : DrwC P o G) (hF : Fr rs fs G G1) (h1 : 5 ∉ rs ∧ P ∉ rs) (h2 : (5, 8) ∉ fs ∧ (P, 16) ∉ fs) : DrwC P o G1 := by
  unfold DrwC at h ⊢
  rw [hF.i 5 8 h1.1 h2.1, hF.i P 16 h1.2 h2.2]
  exact h
def StsC_1 (S : VS) (G : GS) : Prop := (G.1 1 9).toInt = (S.length : Int) ∧ NmC 34 (nms S) G ∧ ∀ s, s < S.length → StC_1 s (S.getD s ([], [])).2 G ∧ ((S.getD s ([], [])).2.length : Int) ≤ 400
def WkC_1 (k : Nat) (x : WK) (G : GS) : Prop := (G.1 12 k).toInt = x.1 ∧ (G.1 13 k).toInt = x.2.1 ∧ (G.1 14 k).toInt = x.2.2.1 ∧ (G.1 15 k).toInt = x.2.2.2
def WksC_1 (W : VW) (G : GS) : Prop := (G.1 1 10).toInt = (W.length : Int) ∧ NmC 35 (nms W) G ∧ ∀ k, k < W.length → WkC_1 k (W.getD k ([], 0, 0, 0, 0)).2 G
def EndC_1 (R : VR) (G : GS) : Prop := ∀ k, k < R.length → (G.1 18 k).toInt = cap (fcd (R.take k)).length ∧ (G.1 18 (k + 1)).toInt = cap (fcd (R.take (k + 1))).length
def RlsC_1 (R : VR) (w : Int) (G : GS) : Prop := (G.1 1 11).toInt = (R.length : Int) ∧ NmC 36 (nms R) G ∧ (G.1 1 12).toInt = w ∧ 0 ≤ w ∧ w ≤ 90 ∧ CodeC_1 0 (fcd R) G ∧ EndC_1 R G
def CV_1 (V : PV) (G : GS) : Prop := StsC_1 V.1 G ∧ WksC_1 V.2.1 G ∧ RlsC_1 V.2.2.1 V.2.2.2.1 G ∧ SlpC 16 V.2.2.2.2.1 G ∧ HndC 1 V.2.2.2.2.2.1 G ∧ DrwC 1 V.2.2.2.2.2.2 G
theorem StsC_1.fr {S : VS} {rs : List Nat} {fs : List (Nat × Nat)} {G G1 : GS} (h : StsC_1 S G) (hF : Fr rs fs G G1) (h1 : 1 ∉ rs ∧ 10 ∉ rs ∧ 11 ∉ rs ∧ 34 ∉ rs) (h2 : (1, 9) ∉ fs) (h3 : ∀ x ∈ fs, x.1 ≠ 10 ∧ x.1 ≠ 11 ∧ x.1 ≠ 34) : StsC_1 S G1 := by
  obtain ⟨a1, a2, a3⟩ := h
  refine ⟨by rw [hF.i 1 9 h1.1 h2]; exact a1, a2.fr hF h1.2.2.2 (fun x hx => (h3 x hx).2.2), fun s hs => ⟨(a3 s hs).1.fr hF h1.2.1 (fun x hx => (h3 x hx).1) h1.2.2.1 (fun x hx => (h3 x hx).2.1), (a3 s hs).2⟩⟩
theorem WksC_1.fr {W : VW} {rs : List Nat} {fs : List (Nat × Nat)} {G G1 : GS} (h : WksC_1 W G) (hF : Fr rs fs G G1) (h1 : 1 ∉ rs ∧ 12 ∉ rs ∧ 13 ∉ rs ∧ 14 ∉ rs ∧ 15 ∉ rs ∧ 35 ∉ rs) (h2 : (1, 10) ∉ fs) (h3 : ∀ x ∈ fs, x.1 ≠ 12 ∧ x.1 ≠ 13 ∧ x.1 ≠ 14 ∧ x.1 ≠ 15 ∧ x.1 ≠ 35) : WksC_1 W G1 := by
  obtain ⟨a1, a2, a3⟩ := h
  refine ⟨by rw [hF.i 1 10 h1.1 h2]; exact a1, a2.fr hF h1.2.2.2.2.2 (fun x hx => (h3 x hx).2.2.2.2), fun k hk => ?_⟩
  have h4 := a3 k hk
  unfold WkC_1 at h4 ⊢
  rw [hF.row1 12 h1.2.1 (fun x hx => (h3 x hx).1), hF.row1 13 h1.2.2.1 (fun x hx => (h3 x hx).2.1), hF.row1 14 h1.2.2.2.1 (fun x hx => (h3 x hx).2.2.1), hF.row1 15 h1.2.2.2.2.1 (fun x hx => (h3 x hx).2.2.2.1)]
  exact h4
theorem RlsC_1.fr {R : VR} {w : Int} {rs : List Nat} {fs : List (Nat × Nat)} {G G1 : GS} (h : RlsC_1 R w G) (hF : Fr rs fs G G1) (h1 : 1 ∉ rs ∧ 17 ∉ rs ∧ 18 ∉ rs ∧ 36 ∉ rs) (h2 : (1, 11) ∉ fs ∧ (1, 12) ∉ fs ∧ (1, 13) ∉ fs) (h3 : ∀ x ∈ fs, x.1 ≠ 17 ∧ x.1 ≠ 18 ∧ x.1 ≠ 36) : RlsC_1 R w G1 := by
  obtain ⟨a1, a2, a3, a4, a5, a6, a7⟩ := h
  refine ⟨by rw [hF.i 1 11 h1.1 h2.1]; exact a1, a2.fr hF h1.2.2.2 (fun x hx => (h3 x hx).2.2), by rw [hF.i 1 12 h1.1 h2.2.1]; exact a3, a4, a5, a6.fr hF h1.1 h2.2.2 h1.2.1 (fun x hx => (h3 x hx).1), ?_⟩
  unfold EndC_1 at a7 ⊢
  rw [hF.row1 18 h1.2.2.1 (fun x hx => (h3 x hx).2.1)]
  exact a7
theorem c_street_1 {b : Nat → Int} {n p : Nat} {r : Int32} {G G1 : GS} {NS : List (List Int)} (h : P_rStreet_1 G r G1) (hp : CPx b n G p) (hk : tK b n p ≠ 202) (hk3 : tK b n p ≠ 203) (hN : NmC 34 NS G) (hm : (G.1 1 9).toInt = (NS.length : Int)) : (3 ≤ NS.length ∧ CF (fl b n 2 p) r G1) ∨ (NS.length < 3 ∧ LnC b n p (smi b n (pStreet b n NS p)) r G1 (fun x => NmC 34 (NS ++ [x.1]) G1 ∧ (G1.1 1 9).toInt = (NS.length : Int) + 1 ∧ StC_1 NS.length x.2 G1 ∧ KeC_1 NS.length G G1 ∧ (x.2.length : Int) ≤ 400)) := by
  obtain ⟨-, -, -, w3, G5, hj, -, -, -, -, r12, G13, hf1, hh⟩ := h
  have hj2 : G = G5 ∧ ((3 ≤ NS.length ∧ w3.toInt = 0) ∨ (NS.length < 3 ∧ w3.toInt = 1)) := by
    rcases hj with ⟨c, e1, e2⟩ | ⟨c, e1, e2⟩
    · exact ⟨e2, Or.inl ⟨by omega, by rw [← e1]; rfl⟩⟩
    · exact ⟨e2, Or.inr ⟨by omega, by rw [← e1]; rfl⟩⟩
  obtain ⟨rfl, hj3⟩ := hj2
  clear hj
  have ht := tN_p (b := b) hp.1.2.1 hp.2.2.2
  have htp := (ht.2.2 hk3).1
  rcases c_first hf1 hp hk with ⟨hm0, hC⟩ | ⟨hm1, hr, hp2⟩
  · rcases hh with ⟨c, rfl, rfl⟩ | ⟨c, -⟩
    · exact Or.inl ⟨by omega, rfl, hC.2⟩
    · exact absurd hC.1 c
  have hlt : NS.length < 3 := by omega
  refine Or.inr ⟨hlt, ?_⟩
  rcases hh with ⟨c, -⟩ | ⟨c, r19, G20, hnm, hh⟩
  · omega
  rcases c_name_34 hnm hp2 (hN.fr hf1.2.1 (by decide) (by decide)) hm hlt with ⟨f, hf, hC⟩ | ⟨e1, hr19, hp3, hN20⟩
  · rcases hh with ⟨c, rfl, rfl⟩ | ⟨c, -⟩
    · exact Or.inl ⟨f, smi_l (by unfold pStreet; exact bnd_l hf), rfl, hC.2⟩
    · exact absurd hC.1 c
  rcases hh with ⟨c, -⟩ | ⟨c, r26, G27, hps, hh⟩
  · omega
  have ht3 := tN_p (b := b) hp2.1.2.1 hp2.2.2.2
  rcases c_pass hps hp3 (by decide) with ⟨f, hf, hC⟩ | ⟨e2, hr26, hp4⟩
  · rcases hh with ⟨c, rfl, rfl⟩ | ⟨c, -⟩
    · exact Or.inl ⟨f, smi_l (by unfold pStreet; exact (bnd_r e1).trans (bnd_l hf)), rfl, hC.2⟩
    · exact absurd hC.1 c
  rcases hh with ⟨c, -⟩ | ⟨c, r35, G36, hnu, hh⟩
  · omega
  have ht4 := tN_p (b := b) hp3.1.2.1 hp3.2.2.2
  rcases c_num hnu hp4 with ⟨f, hf, hC⟩ | ⟨e3, hr35, hp5, e59, hlo, hhi⟩
  · rcases hh with ⟨c, rfl, rfl⟩ | ⟨c, -⟩
    · exact Or.inl ⟨f, smi_l (by unfold pStreet; exact (bnd_r e1).trans ((bnd_r e2).trans (bnd_l hf))), rfl, hC.2⟩
    · exact absurd hC.1 c
  rcases hh with ⟨c, -⟩ | ⟨c, G42, -, hF42, e42, x47, G43, hl, -, -, -, hF43, hh⟩
  · omega
  have ht5 := tN_p (b := b) hp4.1.2.1 hp4.2.2.2
  have hlo' : 0 ≤ tV b n (tNx b n (tNx b n (tNx b n p))) := hlo
  have hhi' : tV b n (tNx b n (tNx b n (tNx b n p))) ≤ 9 := hhi
  rw [cn_eq hm] at e42
  have hK36 : KeC_1 NS.length G G36 := (((KeC_1.of hf1.2.1 (by decide) (by decide) (by decide) (by decide)).tr (KeC_1.of hnm.2.1 (by decide) (by decide) (by decide) (by decide))).tr (KeC_1.of hps.2.1 (by decide) (by decide) (by decide) (by decide))).tr (KeC_1.of hnu.2.1 (by decide) (by decide) (by decide) (by decide))
  have hK42 : KeC_1 NS.length G G42 := hK36.tr ⟨fun s' q => by rw [e42]; exact if_neg q, fun j q => by rw [hF42.row1 11 (by decide) (by decide)]⟩
  have h9 : (G42.1 1 9).toInt = (NS.length : Int) := by
    rw [hF42.i 1 9 (by decide) (by decide), hnu.2.1.i 1 9 (by decide) (by decide), hps.2.1.i 1 9 (by decide) (by decide), hnm.2.1.i 1 9 (by decide) (by decide), hf1.2.1.i 1 9 (by decide) (by decide)]
    exact hm
  have hS42 : StC_1 NS.length [] G42 := ⟨by rw [e42, show upd (G36.1 10) NS.length 0 NS.length = 0 from if_pos rfl]; rfl, fun i hi => absurd hi (Nat.not_lt_zero i)⟩
  have hp42 : CPx b n G42 (tNx b n (tNx b n (tNx b n (tNx b n p)))) := hp5.fr hF42 (by decide) (by decide) (by decide) (by decide)
  have hN42 : NmC 34 (NS ++ [tL b n (tNx b n p)]) G42 := ((hN20.fr hps.2.1 (by decide) (by decide)).fr hnu.2.1 (by decide) (by decide)).fr hF42 (by decide) (by decide)
  generalize hJ : tV b n (tNx b n (tNx b n (tNx b n p))) = J at *
  generalize hpq : tNx b n (tNx b n (tNx b n (tNx b n p))) = p5 at *
  have hI := hl (fun q => ∃ (nth : Nat) (I : List IC) (p' : Nat), q.1.toInt = (nth : Int) ∧ CPx b n q.2 p' ∧ p5 ≤ p' ∧ (q.2.1 1 9).toInt = (NS.length : Int) ∧ StC_1 NS.length I q.2 ∧ KeC_1 NS.length G q.2 ∧ (I.length : Int) ≤ 400 ∧ nth ≤ I.length ∧ ∀ o, Et (slS b n J) (0, [], p5) o ↔ Et (slS b n J) (nth, I, p') o) ⟨0, [], p5, rfl, hp42, Nat.le_refl _, h9, hS42, hK42, by decide, Nat.le_refl _, fun o => Iff.rfl⟩ (by
    rintro ⟨x1, G_1⟩ ⟨xn, G_1n⟩ ⟨nth, I, p', g1, g2, g3, g4, g5, g6, g7, g8, g9⟩ ⟨x1q, G_1q, xnq, G_1nq, q1, q2, -, -, -, c1, hd⟩
    obtain ⟨rfl, rfl⟩ := Prod.mk.inj q1
    obtain ⟨rfl, rfl⟩ := Prod.mk.inj q2
    simp only at g1 g2 g4 g5 g6
    have hd2 : (nth = 0 ∨ tK b n p' = 201) ∧ ∃ (r7 : Int32), P_rSlab_1 x1 (G36.1 5 9) G_1 r7 G_1n ∧ r7.toInt ≠ 0 ∧ xn.toInt = x1.toInt + 1 := by
      rw [← g2.2.1.1]
      rcases hd with ⟨d0, r7, G7, d1, d2, y7, d3, d4, d5⟩ | ⟨d0, d6, r7, G7, d1, d2, y7, d3, d4, d5⟩
      · subst d5
        exact ⟨Or.inl (by omega), r7, d1, d2, by rw [← d4]; exact d3⟩
      · subst d5
        exact ⟨Or.inr d6, r7, d1, d2, by rw [← d4]; exact d3⟩
    clear hd
    obtain ⟨hc, r7, d1, d2, d3⟩ := hd2
    rcases c_slab_1 d1 g2 g4 hlt g5 g1 e59 (by omega) hlo' hhi' with ⟨f, s1, s2⟩ | ⟨vx, p2, s1, s2, s3, s4, s5, s6, s7, s8⟩
    · exact absurd s2.1 d2
    · have hsl : slS b n J (nth, I, p') = .inl (nth + 1, I ++ slI J nth vx, p2) := slS_r hc s1
      have hle : nth + 1 ≤ (I ++ slI J nth vx).length := by
        rw [List.length_append, slI_len]
        omega
      refine ⟨nth + 1, I ++ slI J nth vx, p2, by show xn.toInt = _; omega, s3, by omega, ?_, s5, g6.tr s6, s8, hle, fun o => (g9 o).trans (Et_i hsl)⟩
      show (G_1n.1 1 9).toInt = _
      rw [d1.2.1.i 1 9 (by decide) (by decide)]
      exact g4)
  obtain ⟨nth, I, p', g1, g2, g3, g4, g5, g6, g7, g8, g9⟩ := hI
  simp only at g1 g2 g4 g5 g6
  rcases hh with ⟨c1, hd⟩ | ⟨G56, hj, -, -, r60, G61, hps2, hh⟩
  · have hd2 : (nth = 0 ∨ tK b n p' = 201) ∧ ∃ (r7 : Int32), P_rSlab_1 x47 (G36.1 5 9) G43 r7 G1 ∧ r7.toInt = 0 ∧ 0 = r := by
      rw [← g2.2.1.1]
      rcases hd with ⟨d0, r7, G7, d1, d2, d4, d5⟩ | ⟨d0, d6, r7, G7, d1, d2, d4, d5⟩
      · subst d5
        exact ⟨Or.inl (by omega), r7, d1, d2, d4⟩
      · subst d5
        exact ⟨Or.inr d6, r7, d1, d2, d4⟩
    clear hd
    obtain ⟨hc, r7, d1, d2, rfl⟩ := hd2
    rcases c_slab_1 d1 g2 g4 hlt g5 g1 e59 (by omega) hlo' hhi' with ⟨f, s1, s2⟩ | ⟨vx, p2, s1, s2, -⟩
    · have hsl : slS b n J (nth, I, p') = .inr (.inl f) := slS_l hc s1
      have hpl : pSls b n J p5 = .inl f := run_eq ((g9 _).mpr ((Et_r hsl).mpr rfl))
      exact Or.inl ⟨f, smi_l (by unfold pStreet; exact (bnd_r e1).trans ((bnd_r e2).trans ((bnd_r e3).trans (bnd_l hpl)))), rfl, s2.2⟩
    · omega
  · have hj2 : G43 = G56 ∧ ¬ (nth = 0 ∨ tK b n p' = 201) := by
      rw [← g2.2.1.1]
      rcases hj with ⟨c, -⟩ | ⟨c, d, d2, e⟩
      · omega
      · exact ⟨e, by omega⟩
    obtain ⟨rfl, hc⟩ := hj2
    clear hj
    have hsl : slS b n J (nth, I, p') = .inr (.inr (I, p')) := by
      unfold slS
      rw [if_neg hc]
    have hpl : pSls b n J p5 = .inr (I, p') := run_eq ((g9 _).mpr ((Et_r hsl).mpr rfl))
    have hst : pStreet b n NS p = .inr ((tL b n (tNx b n p), I), p') := by
      unfold pStreet
      exact (bnd_r e1).trans ((bnd_r e2).trans ((bnd_r e3).trans (bnd_r hpl)))
    rcases hh with ⟨c, rfl, rfl⟩ | ⟨c, y67, t67, rfl, hFe, e9e⟩
    · rcases c_semi (p := p) (K := fun _ => True) hps2 g2 hst (by omega) (fun _ => trivial) with ⟨f, s1, s2⟩ | ⟨x, p2, s1, s2, -⟩
      · exact Or.inl ⟨f, s1, rfl, s2.2⟩
      · omega
    · rcases c_semi (p := p) (K := fun x => x = (tL b n (tNx b n p), I)) hps2 g2 hst (by omega) (fun _ => rfl) with ⟨f, s1, s2⟩ | ⟨x, p2, s1, s2, s3, s4, s5⟩
      · exact absurd s2.1 c
      · subst s5
        refine Or.inr ⟨_, p2, s1, rfl, s3.fr hFe (by decide) (by decide) (by decide) (by decide), s4, ((hN42.fr hF43 (by decide) (by decide)).fr hps2.2.1 (by decide) (by decide)).fr hFe (by decide) (by decide), by rw [e9e]; omega, (g5.fr hps2.2.1 (by decide) (by decide) (by decide) (by decide)).fr hFe (by decide) (by decide) (by decide) (by decide), (g6.tr (KeC_1.of hps2.2.1 (by decide) (by decide) (by decide) (by decide))).tr (KeC_1.of hFe (by decide) (by decide) (by decide) (by decide)), g7⟩
def StsC_2 (S : VS) (G : GS) : Prop := (G.1 2 9).toInt = (S.length : Int) ∧ NmC 34 (nms S) G ∧ ∀ s, s < S.length → StC_2 s (S.getD s ([], [])).2 G ∧ ((S.getD s ([], [])).2.length : Int) ≤ 400
def WkC_2 (k : Nat) (x : WK) (G : GS) : Prop := (G.1 22 k).toInt = x.1 ∧ (G.1 23 k).toInt = x.2.1 ∧ (G.1 24 k).toInt = x.2.2.1 ∧ (G.1 25 k).toInt = x.2.2.2
def WksC_2 (W : VW) (G : GS) : Prop := (G.1 2 10).toInt = (W.length : Int) ∧ NmC 35 (nms W) G ∧ ∀ k, k < W.length → WkC_2 k (W.getD k ([], 0, 0, 0, 0)).2 G
def EndC_2 (R : VR) (G : GS) : Prop := ∀ k, k < R.length → (G.1 28 k).toInt = cap (fcd (R.take k)).length ∧ (G.1 28 (k + 1)).toInt = cap (fcd (R.take (k + 1))).length
def RlsC_2 (R : VR) (w : Int) (G : GS) : Prop := (G.1 2 11).toInt = (R.length : Int) ∧ NmC 36 (nms R) G ∧ (G.1 2 12).toInt = w ∧ 0 ≤ w ∧ w ≤ 90 ∧ CodeC_2 0 (fcd R) G ∧ EndC_2 R G
def CV_2 (V : PV) (G : GS) : Prop := StsC_2 V.1 G ∧ WksC_2 V.2.1 G ∧ RlsC_2 V.2.2.1 V.2.2.2.1 G ∧ SlpC 26 V.2.2.2.2.1 G ∧ HndC 2 V.2.2.2.2.2.1 G ∧ DrwC 2 V.2.2.2.2.2.2 G
theorem StsC_2.fr {S : VS} {rs : List Nat} {fs : List (Nat × Nat)} {G G1 : GS} (h : StsC_2 S G) (hF : Fr rs fs G G1) (h1 : 2 ∉ rs ∧ 20 ∉ rs ∧ 21 ∉ rs ∧ 34 ∉ rs) (h2 : (2, 9) ∉ fs) (h3 : ∀ x ∈ fs, x.1 ≠ 20 ∧ x.1 ≠ 21 ∧ x.1 ≠ 34) : StsC_2 S G1 := by
  obtain ⟨a1, a2, a3⟩ := h
  refine ⟨by rw [hF.i 2 9 h1.1 h2]; exact a1, a2.fr hF h1.2.2.2 (fun x hx => (h3 x hx).2.2), fun s hs => ⟨(a3 s hs).1.fr hF h1.2.1 (fun x hx => (h3 x hx).1) h1.2.2.1 (fun x hx => (h3 x hx).2.1), (a3 s hs).2⟩⟩
theorem WksC_2.fr {W : VW} {rs : List Nat} {fs : List (Nat × Nat)} {G G1 : GS} (h : WksC_2 W G) (hF : Fr rs fs G G1) (h1 : 2 ∉ rs ∧ 22 ∉ rs ∧ 23 ∉ rs ∧ 24 ∉ rs ∧ 25 ∉ rs ∧ 35 ∉ rs) (h2 : (2, 10) ∉ fs) (h3 : ∀ x ∈ fs, x.1 ≠ 22 ∧ x.1 ≠ 23 ∧ x.1 ≠ 24 ∧ x.1 ≠ 25 ∧ x.1 ≠ 35) : WksC_2 W G1 := by
  obtain ⟨a1, a2, a3⟩ := h
  refine ⟨by rw [hF.i 2 10 h1.1 h2]; exact a1, a2.fr hF h1.2.2.2.2.2 (fun x hx => (h3 x hx).2.2.2.2), fun k hk => ?_⟩
  have h4 := a3 k hk
  unfold WkC_2 at h4 ⊢
  rw [hF.row1 22 h1.2.1 (fun x hx => (h3 x hx).1), hF.row1 23 h1.2.2.1 (fun x hx => (h3 x hx).2.1), hF.row1 24 h1.2.2.2.1 (fun x hx => (h3 x hx).2.2.1), hF.row1 25 h1.2.2.2.2.1 (fun x hx => (h3 x hx).2.2.2.1)]
  exact h4
theorem RlsC_2.fr {R : VR} {w : Int} {rs : List Nat} {fs : List (Nat × Nat)} {G G1 : GS} (h : RlsC_2 R w G) (hF : Fr rs fs G G1) (h1 : 2 ∉ rs ∧ 27 ∉ rs ∧ 28 ∉ rs ∧ 36 ∉ rs) (h2 : (2, 11) ∉ fs ∧ (2, 12) ∉ fs ∧ (2, 13) ∉ fs) (h3 : ∀ x ∈ fs, x.1 ≠ 27 ∧ x.1 ≠ 28 ∧ x.1 ≠ 36) : RlsC_2 R w G1 := by
  obtain ⟨a1, a2, a3, a4, a5, a6, a7⟩ := h
  refine ⟨by rw [hF.i 2 11 h1.1 h2.1]; exact a1, a2.fr hF h1.2.2.2 (fun x hx => (h3 x hx).2.2), by rw [hF.i 2 12 h1.1 h2.2.1]; exact a3, a4, a5, a6.fr hF h1.1 h2.2.2 h1.2.1 (fun x hx => (h3 x hx).1), ?_⟩
  unfold EndC_2 at a7 ⊢
  rw [hF.row1 28 h1.2.2.1 (fun x hx => (h3 x hx).2.1)]
  exact a7
theorem c_street_2 {b : Nat → Int} {n p : Nat} {r : Int32} {G G1 : GS} {NS : List (List Int)} (h : P_rStreet_2 G r G1) (hp : CPx b n G p) (hk : tK b n p ≠ 202) (hk3 : tK b n p ≠ 203) (hN : NmC 34 NS G) (hm : (G.1 2 9).toInt = (NS.length : Int)) : (3 ≤ NS.length ∧ CF (fl b n 2 p) r G1) ∨ (NS.length < 3 ∧ LnC b n p (smi b n (pStreet b n NS p)) r G1 (fun x => NmC 34 (NS ++ [x.1]) G1 ∧ (G1.1 2 9).toInt = (NS.length : Int) + 1 ∧ StC_2 NS.length x.2 G1 ∧ KeC_2 NS.length G G1 ∧ (x.2.length : Int) ≤ 400)) := by
  obtain ⟨-, -, -, w3, G5, hj, -, -, -, -, r12, G13, hf1, hh⟩ := h
  have hj2 : G = G5 ∧ ((3 ≤ NS.length ∧ w3.toInt = 0) ∨ (NS.length < 3 ∧ w3.toInt = 1)) := by
    rcases hj with ⟨c, e1, e2⟩ | ⟨c, e1, e2⟩
    · exact ⟨e2, Or.inl ⟨by omega, by rw [← e1]; rfl⟩⟩
    · exact ⟨e2, Or.inr ⟨by omega, by rw [← e1]; rfl⟩⟩
  obtain ⟨rfl, hj3⟩ := hj2
  clear hj
  have ht := tN_p (b := b) hp.1.2.1 hp.2.2.2
  have htp := (ht.2.2 hk3).1
  rcases c_first hf1 hp hk with ⟨hm0, hC⟩ | ⟨hm1, hr, hp2⟩
  · rcases hh with ⟨c, rfl, rfl⟩ | ⟨c, -⟩
    · exact Or.inl ⟨by omega, rfl, hC.2⟩
    · exact absurd hC.1 c
  have hlt : NS.length < 3 := by omega
  refine Or.inr ⟨hlt, ?_⟩
  rcases hh with ⟨c, -⟩ | ⟨c, r19, G20, hnm, hh⟩
  · omega
  rcases c_name_34 hnm hp2 (hN.fr hf1.2.1 (by decide) (by decide)) hm hlt with ⟨f, hf, hC⟩ | ⟨e1, hr19, hp3, hN20⟩
  · rcases hh with ⟨c, rfl, rfl⟩ | ⟨c, -⟩
    · exact Or.inl ⟨f, smi_l (by unfold pStreet; exact bnd_l hf), rfl, hC.2⟩
    · exact absurd hC.1 c
  rcases hh with ⟨c, -⟩ | ⟨c, r26, G27, hps, hh⟩
  · omega
  have ht3 := tN_p (b := b) hp2.1.2.1 hp2.2.2.2
  rcases c_pass hps hp3 (by decide) with ⟨f, hf, hC⟩ | ⟨e2, hr26, hp4⟩
  · rcases hh with ⟨c, rfl, rfl⟩ | ⟨c, -⟩
    · exact Or.inl ⟨f, smi_l (by unfold pStreet; exact (bnd_r e1).trans (bnd_l hf)), rfl, hC.2⟩
    · exact absurd hC.1 c
  rcases hh with ⟨c, -⟩ | ⟨c, r35, G36, hnu, hh⟩
  · omega
  have ht4 := tN_p (b := b) hp3.1.2.1 hp3.2.2.2
  rcases c_num hnu hp4 with ⟨f, hf, hC⟩ | ⟨e3, hr35, hp5, e59, hlo, hhi⟩
  · rcases hh with ⟨c, rfl, rfl⟩ | ⟨c, -⟩
    · exact Or.inl ⟨f, smi_l (by unfold pStreet; exact (bnd_r e1).trans ((bnd_r e2).trans (bnd_l hf))), rfl, hC.2⟩
    · exact absurd hC.1 c
  rcases hh with ⟨c, -⟩ | ⟨c, G42, -, hF42, e42, x47, G43, hl, -, -, -, hF43, hh⟩
  · omega
  have ht5 := tN_p (b := b) hp4.1.2.1 hp4.2.2.2
  have hlo' : 0 ≤ tV b n (tNx b n (tNx b n (tNx b n p))) := hlo
  have hhi' : tV b n (tNx b n (tNx b n (tNx b n p))) ≤ 9 := hhi
  rw [cn_eq hm] at e42
  have hK36 : KeC_2 NS.length G G36 := (((KeC_2.of hf1.2.1 (by decide) (by decide) (by decide) (by decide)).tr (KeC_2.of hnm.2.1 (by decide) (by decide) (by decide) (by decide))).tr (KeC_2.of hps.2.1 (by decide) (by decide) (by decide) (by decide))).tr (KeC_2.of hnu.2.1 (by decide) (by decide) (by decide) (by decide))
  have hK42 : KeC_2 NS.length G G42 := hK36.tr ⟨fun s' q => by rw [e42]; exact if_neg q, fun j q => by rw [hF42.row1 21 (by decide) (by decide)]⟩
  have h9 : (G42.1 2 9).toInt = (NS.length : Int) := by
    rw [hF42.i 2 9 (by decide) (by decide), hnu.2.1.i 2 9 (by decide) (by decide), hps.2.1.i 2 9 (by decide) (by decide), hnm.2.1.i 2 9 (by decide) (by decide), hf1.2.1.i 2 9 (by decide) (by decide)]
    exact hm
  have hS42 : StC_2 NS.length [] G42 := ⟨by rw [e42, show upd (G36.1 20) NS.length 0 NS.length = 0 from if_pos rfl]; rfl, fun i hi => absurd hi (Nat.not_lt_zero i)⟩
  have hp42 : CPx b n G42 (tNx b n (tNx b n (tNx b n (tNx b n p)))) := hp5.fr hF42 (by decide) (by decide) (by decide) (by decide)
  have hN42 : NmC 34 (NS ++ [tL b n (tNx b n p)]) G42 := ((hN20.fr hps.2.1 (by decide) (by decide)).fr hnu.2.1 (by decide) (by decide)).fr hF42 (by decide) (by decide)
  generalize hJ : tV b n (tNx b n (tNx b n (tNx b n p))) = J at *
  generalize hpq : tNx b n (tNx b n (tNx b n (tNx b n p))) = p5 at *
  have hI := hl (fun q => ∃ (nth : Nat) (I : List IC) (p' : Nat), q.1.toInt = (nth : Int) ∧ CPx b n q.2 p' ∧ p5 ≤ p' ∧ (q.2.1 2 9).toInt = (NS.length : Int) ∧ StC_2 NS.length I q.2 ∧ KeC_2 NS.length G q.2 ∧ (I.length : Int) ≤ 400 ∧ nth ≤ I.length ∧ ∀ o, Et (slS b n J) (0, [], p5) o ↔ Et (slS b n J) (nth, I, p') o) ⟨0, [], p5, rfl, hp42, Nat.le_refl _, h9, hS42, hK42, by decide, Nat.le_refl _, fun o => Iff.rfl⟩ (by
    rintro ⟨x1, G_1⟩ ⟨xn, G_1n⟩ ⟨nth, I, p', g1, g2, g3, g4, g5, g6, g7, g8, g9⟩ ⟨x1q, G_1q, xnq, G_1nq, q1, q2, -, -, -, c1, hd⟩
    obtain ⟨rfl, rfl⟩ := Prod.mk.inj q1
    obtain ⟨rfl, rfl⟩ := Prod.mk.inj q2
    simp only at g1 g2 g4 g5 g6
    have hd2 : (nth = 0 ∨ tK b n p' = 201) ∧ ∃ (r7 : Int32), P_rSlab_2 x1 (G36.1 5 9) G_1 r7 G_1n ∧ r7.toInt ≠ 0 ∧ xn.toInt = x1.toInt + 1 := by
      rw [← g2.2.1.1]
      rcases hd with ⟨d0, r7, G7, d1, d2, y7, d3, d4, d5⟩ | ⟨d0, d6, r7, G7, d1, d2, y7, d3, d4, d5⟩
      · subst d5
        exact ⟨Or.inl (by omega), r7, d1, d2, by rw [← d4]; exact d3⟩
      · subst d5
        exact ⟨Or.inr d6, r7, d1, d2, by rw [← d4]; exact d3⟩
    clear hd
    obtain ⟨hc, r7, d1, d2, d3⟩ := hd2
    rcases c_slab_2 d1 g2 g4 hlt g5 g1 e59 (by omega) hlo' hhi' with ⟨f, s1, s2⟩ | ⟨vx, p2, s1, s2, s3, s4, s5, s6, s7, s8⟩
    · exact absurd s2.1 d2
    · have hsl : slS b n J (nth, I, p') = .inl (nth + 1, I ++ slI J nth vx, p2) := slS_r hc s1
      have hle : nth + 1 ≤ (I ++ slI J nth vx).length := by
        rw [List.length_append, slI_len]
        omega
      refine ⟨nth + 1, I ++ slI J nth vx, p2, by show xn.toInt = _; omega, s3, by omega, ?_, s5, g6.tr s6, s8, hle, fun o => (g9 o).trans (Et_i hsl)⟩
      show (G_1n.1 2 9).toInt = _
      rw [d1.2.1.i 2 9 (by decide) (by decide)]
      exact g4)
  obtain ⟨nth, I, p', g1, g2, g3, g4, g5, g6, g7, g8, g9⟩ := hI
  simp only at g1 g2 g4 g5 g6
  rcases hh with ⟨c1, hd⟩ | ⟨G56, hj, -, -, r60, G61, hps2, hh⟩
  · have hd2 : (nth = 0 ∨ tK b n p' = 201) ∧ ∃ (r7 : Int32), P_rSlab_2 x47 (G36.1 5 9) G43 r7 G1 ∧ r7.toInt = 0 ∧ 0 = r := by
      rw [← g2.2.1.1]
      rcases hd with ⟨d0, r7, G7, d1, d2, d4, d5⟩ | ⟨d0, d6, r7, G7, d1, d2, d4, d5⟩
      · subst d5
        exact ⟨Or.inl (by omega), r7, d1, d2, d4⟩
      · subst d5
        exact ⟨Or.inr d6, r7, d1, d2, d4⟩
    clear hd
    obtain ⟨hc, r7, d1, d2, rfl⟩ := hd2
    rcases c_slab_2 d1 g2 g4 hlt g5 g1 e59 (by omega) hlo' hhi' with ⟨f, s1, s2⟩ | ⟨vx, p2, s1, s2, -⟩
    · have hsl : slS b n J (nth, I, p') = .inr (.inl f) := slS_l hc s1
      have hpl : pSls b n J p5 = .inl f := run_eq ((g9 _).mpr ((Et_r hsl).mpr rfl))
      exact Or.inl ⟨f, smi_l (by unfold pStreet; exact (bnd_r e1).trans ((bnd_r e2).trans ((bnd_r e3).trans (bnd_l hpl)))), rfl, s2.2⟩
    · omega
  · have hj2 : G43 = G56 ∧ ¬ (nth = 0 ∨ tK b n p' = 201) := by
      rw [← g2.2.1.1]
      rcases hj with ⟨c, -⟩ | ⟨c, d, d2, e⟩
      · omega
      · exact ⟨e, by omega⟩
    obtain ⟨rfl, hc⟩ := hj2
    clear hj
    have hsl : slS b n J (nth, I, p') = .inr (.inr (I, p')) := by
      unfold slS
      rw [if_neg hc]
    have hpl : pSls b n J p5 = .inr (I, p') := run_eq ((g9 _).mpr ((Et_r hsl).mpr rfl))
    have hst : pStreet b n NS p = .inr ((tL b n (tNx b n p), I), p') := by
      unfold pStreet
      exact (bnd_r e1).trans ((bnd_r e2).trans ((bnd_r e3).trans (bnd_r hpl)))
    rcases hh with ⟨c, rfl, rfl⟩ | ⟨c, y67, t67, rfl, hFe, e9e⟩
    · rcases c_semi (p := p) (K := fun _ => True) hps2 g2 hst (by omega) (fun _ => trivial) with ⟨f, s1, s2⟩ | ⟨x, p2, s1, s2, -⟩
      · exact Or.inl ⟨f, s1, rfl, s2.2⟩
      · omega
    · rcases c_semi (p := p) (K := fun x => x = (tL b n (tNx b n p), I)) hps2 g2 hst (by omega) (fun _ => rfl) with ⟨f, s1, s2⟩ | ⟨x, p2, s1, s2, s3, s4, s5⟩
      · exact absurd s2.1 c
      · subst s5
        refine Or.inr ⟨_, p2, s1, rfl, s3.fr hFe (by decide) (by decide) (by decide) (by decide), s4, ((hN42.fr hF43 (by decide) (by decide)).fr hps2.2.1 (by decide) (by decide)).fr hFe (by decide) (by decide), by rw [e9e]; omega, (g5.fr hps2.2.1 (by decide) (by decide) (by decide) (by decide)).fr hFe (by decide) (by decide) (by decide) (by decide), (g6.tr (KeC_2.of hps2.2.1 (by decide) (by decide) (by decide) (by decide))).tr (KeC_2.of hFe (by decide) (by decide) (by decide) (by decide)), g7⟩
