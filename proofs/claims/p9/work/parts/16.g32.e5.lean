/-! the loops that work formulas out -/
def FOK (C : List (Int × Int)) : Prop := (∀ c ∈ C, cOK c) ∧ dep C = some 1 ∧ nPu C ≤ 30
theorem fcd_at {R : VR} : ∀ {k i : Nat}, k < R.length → i < (R.getD k ([], [])).2.length → (fcd R).getD ((fcd (R.take k)).length + i) (0, 0) = (R.getD k ([], [])).2.getD i (0, 0) := by
  induction R with
  | nil => intro k i h; exact absurd h (Nat.not_lt_zero k)
  | cons x R ih =>
    intro k i hk hi
    have e : fcd (x :: R) = x.2 ++ fcd R := by simp [fcd]
    cases k with
    | zero =>
      have hi' : i < x.2.length := by simpa using hi
      have e0 : (fcd (List.take 0 (x :: R))).length = 0 := rfl
      rw [e0, Nat.zero_add, e, getD_app, if_pos hi']
      simp
    | succ k =>
      have e1 : fcd (List.take (k + 1) (x :: R)) = x.2 ++ fcd (R.take k) := by simp [fcd]
      have hi' : i < (R.getD k ([], [])).2.length := by simpa using hi
      have hk' : k < R.length := by simpa using hk
      rw [e, e1, List.length_append, getD_app, if_neg (by omega), show x.2.length + (fcd (R.take k)).length + i - x.2.length = (fcd (R.take k)).length + i by omega, ih hk' hi']
      simp
theorem fcd_len {R : VR} {k : Nat} (h : k < R.length) : (fcd (R.take (k + 1))).length = (fcd (R.take k)).length + (R.getD k ([], [])).2.length := by
  have e : R.take (k + 1) = R.take k ++ [R.getD k ([], [])] := by
    rw [List.take_succ, List.getD_eq_getElem?_getD, List.getElem?_eq_getElem h]
    rfl
  rw [e, fcd_snoc, List.length_append]
theorem fcd_le {R : VR} (k : Nat) : (fcd (R.take k)).length ≤ (fcd R).length := by
  have e : R.take k ++ R.drop k = R := List.take_append_drop k R
  have h : fcd R = fcd (R.take k) ++ fcd (R.drop k) := by
    unfold fcd
    rw [← List.flatten_append, ← List.map_append, e]
  rw [h, List.length_append]
  omega
theorem cap_of {k : Nat} (h : k ≤ 580) : cap k = (k : Int) := by
  unfold cap
  rw [if_pos h]
theorem of_i {y : Int32} {v : Int} (h : y.toInt = v) : y = Int32.ofInt v := by rw [← h, Int32.ofInt_toInt]
theorem k_value_1 {R : VR} {x : IC} {day p0 p1 r : Int32} {G G1 : GS} {k : Nat} (h : P_lValue_1 p0 p1 day G r G1) (hk : p0.toInt = (k : Int)) (hkl : k < R.length) (hC : CodeC_1 0 (fcd R) G) (hE : EndC_1 R G) (h580 : (fcd R).length ≤ 580) (hx : ICok x) (h1 : p1 = encI x) (hw : FOK (R.getD k ([], [])).2) : r = (evl x day (R.getD k ([], [])).2).headD 0 := by
  obtain ⟨-, -, y2, e2, Ga, -, hFa, e63, x7, G3, hl, -, -, -, y11, t11, y12, e12, c12, r14, G15, hpop, rfl, rfl⟩ := h
  obtain ⟨C, hCC⟩ : ∃ C, C = (R.getD k ([], [])).2 := ⟨_, rfl⟩
  rw [← hCC] at hw ⊢
  obtain ⟨off, hoff⟩ : ∃ off, off = (fcd (R.take k)).length := ⟨_, rfl⟩
  obtain ⟨n1, n2⟩ := hE k hkl
  rw [fcd_len hkl, ← hCC, ← hoff] at n2
  rw [← hoff] at n1
  have hle := fcd_le (R := R) (k + 1)
  rw [fcd_len hkl, ← hCC, ← hoff] at hle
  rw [cap_of (by omega)] at n1 n2
  obtain ⟨w1, w2, w3⟩ := hw
  have hlen : ∀ i, i ≤ C.length → (evl x day (C.take i)).length ≤ 30 := fun i hi => by
    have a1 := (evl_len (x := x) (day := day) w2 w1 i hi).2
    have a2 := nPu_le (C := C) i
    omega
  have hI := hl (fun q => (q.2.1 17 = G.1 17 ∧ q.2.1 18 = G.1 18) ∧ ∃ i : Nat, q.1.toInt = ((off + i : Nat) : Int) ∧ i ≤ C.length ∧ StkC (evl x day (C.take i)) q.2) (by
    refine ⟨⟨hFa.row1 17 (by decide) (by decide), hFa.row1 18 (by decide) (by decide)⟩, 0, ?_, Nat.zero_le _, ?_⟩
    · show y2.toInt = _
      rw [e2, cn_eq hk]
      exact n1
    · exact ⟨by rw [e63]; rfl, fun i hi => absurd hi (Nat.not_lt_zero i)⟩) (by
    rintro ⟨x1, G_1⟩ ⟨xn, G_1n⟩ ⟨⟨i1, i2⟩, i, i3, i4, i5⟩ ⟨x1q, G_1q, xnq, G_1nq, q1, q2, -, -, z11, s11, z12, e12', c, y19, e19, y20, e20, hd⟩
    obtain ⟨rfl, rfl⟩ := Prod.mk.inj q1
    obtain ⟨rfl, rfl⟩ := Prod.mk.inj q2
    simp only at i1 i2 i3 i5
    rw [cn_eq (x := z11) (e := k + 1) (by clear hd; omega), i2] at e12'
    have hz : z12.toInt = ((off + C.length : Nat) : Int) := by rw [e12']; exact n2
    have hil : i < C.length := by clear hd; omega
    obtain ⟨cc, hcc⟩ : ∃ cc, cc = C.getD i (0, 0) := ⟨_, rfl⟩
    have hok : cOK cc := by rw [hcc]; exact w1 _ (getD_memC hil)
    have hget : (fcd R).getD (off + i) (0, 0) = cc := by rw [hoff, fcd_at hkl (by rw [← hCC]; exact hil), ← hCC, hcc]
    have hcode : G.1 17 (off + i) = encd (ekk cc) (ekv cc) := by
      have := hC.2 (off + i) (by omega) (by omega)
      rw [Nat.zero_add, hget] at this
      exact this
    rw [cn_eq (x := x1) (e := off + i) i3, i1, hcode] at e19
    obtain ⟨d1, d2⟩ := encd_i hok e19
    rw [← e20] at d1
    obtain ⟨-, -, -, -, g0, g1, g2, g3⟩ := ekk_r hok
    have hlt := hlen i (by omega)
    have hnx := evl_take (x := x) (day := day) hil
    rw [← hcc] at hnx
    have fin : ∀ {Gz : GS} {y : Int32}, y.toInt = x1.toInt + 1 → Gz.1 17 = G_1.1 17 → Gz.1 18 = G_1.1 18 → StkC (ev1 x day (evl x day (C.take i)) cc) Gz → (Gz.1 17 = G.1 17 ∧ Gz.1 18 = G.1 18) ∧ ∃ i : Nat, y.toInt = ((off + i : Nat) : Int) ∧ i ≤ C.length ∧ StkC (evl x day (C.take i)) Gz := by
      intro Gz y ty r7 r8 hst
      exact ⟨⟨r7.trans i1, r8.trans i2⟩, i + 1, by clear hd; omega, by omega, by rw [hnx]; exact hst⟩
    have c4 : cc.1 = 0 ∨ cc.1 = 1 ∨ cc.1 = 2 ∨ cc.1 = 3 := by
      have := hok
      unfold cOK at this
      clear hd
      omega
    rcases hd with ⟨f1, y86, e86, y87, e87, G89, hpu, y93, t93, ex, rfl⟩ | ⟨f1, hd⟩
    · have k0 : cc.1 = 0 := by
        rcases c4 with q | q | q | q
        · exact q
        · have := g1 q
          have hb := hok
          unfold cOK at hb
          omega
        · have := g2 q
          omega
        · have := g3 q
          omega
      rw [cn_eq (x := x1) (e := off + i) i3, i1, hcode] at e86
      have ey : y87 = Int32.ofInt cc.2 := by
        refine of_i ?_
        have := (encd_i hok e86).2
        rw [← e87] at this
        rw [this]
        exact (g0 k0).2
      rw [ey] at hpu
      refine fin (by rw [← ex]; exact t93) (hpu.2.1.row1 17 (by decide) (by decide)) (hpu.2.1.row1 18 (by decide) (by decide)) ?_
      unfold ev1
      rw [if_pos k0]
      exact k_push_eq hpu i5 (by omega)
    · have n0 : cc.1 ≠ 0 := fun q => f1 (by rw [d1]; exact (g0 q).1)
      rcases hd with ⟨f2, r68, G69, hpo, hd⟩ | ⟨f2, hd⟩
      · have k2 : cc.1 = 2 := by
          rcases c4 with q | q | q | q
          · exact absurd q n0
          · have := g1 q
            have hb := hok
            unfold cOK at hb
            clear hd
            omega
          · exact q
          · have := g3 q
            clear hd
            omega
        obtain ⟨hr, hst⟩ := k_pop_eq hpo i5
        have hlt2 : (evl x day (C.take i)).tail.length < 100 := by rw [List.length_tail]; omega
        rcases hd with ⟨f3, G81, hpu, y85, t85, ex, rfl⟩ | ⟨f3, G81, hpu, y85, t85, ex, rfl⟩
        · refine fin (by rw [← ex]; exact t85) ((hpu.2.1.row1 17 (by decide) (by decide)).trans (hpo.2.1.row1 17 (by decide) (by decide))) ((hpu.2.1.row1 18 (by decide) (by decide)).trans (hpo.2.1.row1 18 (by decide) (by decide))) ?_
          unfold ev1
          rw [if_neg n0, if_neg (by omega), if_pos k2, ← hr, if_pos f3]
          exact k_push_eq hpu hst hlt2
        · refine fin (by rw [← ex]; exact t85) ((hpu.2.1.row1 17 (by decide) (by decide)).trans (hpo.2.1.row1 17 (by decide) (by decide))) ((hpu.2.1.row1 18 (by decide) (by decide)).trans (hpo.2.1.row1 18 (by decide) (by decide))) ?_
          unfold ev1
          rw [if_neg n0, if_neg (by omega), if_pos k2, ← hr, if_neg f3]
          exact k_push_eq hpu hst hlt2
      · have n2' : cc.1 ≠ 2 := fun q => f2 (by rw [d1]; exact g2 q)
        rcases hd with ⟨f3, f4, f5, r57, G58, how, G63, hpu, y67, t67, ex, rfl⟩ | ⟨G29, hj, -, -, r33, G34, hp1, r38, G39, hp2, r43, G44, hjn, G49, hpu, y53, t53, ex, rfl⟩
        · have k1 : cc.1 = 1 := by
            rcases c4 with q | q | q | q
            · exact absurd q n0
            · exact q
            · exact absurd q n2'
            · have := g3 q
              omega
          have hb := hok
          unfold cOK at hb
          obtain ⟨e58, hv⟩ := k_own_eq (a := cc.2) how hx h1 (by omega) (by omega) (by rw [d1]; exact g1 k1)
          subst e58
          rw [of_i hv] at hpu
          refine fin (by rw [← ex]; exact t67) (hpu.2.1.row1 17 (by decide) (by decide)) (hpu.2.1.row1 18 (by decide) (by decide)) ?_
          unfold ev1
          rw [if_neg n0, if_pos k1]
          exact k_push_eq hpu i5 (by omega)
        · have hj2 : G_1 = G29 ∧ (y20.toInt = 144 ∨ y20.toInt = 145 ∨ y20.toInt < 128) := by
            rcases hj with ⟨q, e⟩ | ⟨-, ⟨q, e⟩ | ⟨-, q, e⟩⟩
            · exact ⟨e, Or.inl q⟩
            · exact ⟨e, Or.inr (Or.inl q)⟩
            · exact ⟨e, Or.inr (Or.inr q)⟩
          obtain ⟨rfl, hkd⟩ := hj2
          have k3 : cc.1 = 3 := by
            rcases c4 with q | q | q | q
            · exact absurd q n0
            · have := g1 q
              have hb := hok
              unfold cOK at hb
              omega
            · exact absurd q n2'
            · exact q
          have hsg : sgO cc.2 := by
            have hb := hok
            unfold cOK at hb
            rcases hb with q | q | q | q
            · exact absurd q.1 n0
            · exact absurd q.1 (by omega)
            · exact absurd q.1 n2'
            · exact q.2
          obtain ⟨hr1, hs1⟩ := k_pop_eq hp1 i5
          obtain ⟨hr2, hs2⟩ := k_pop_eq hp2 hs1
          have hcp : cc = (3, cc.2) := Prod.ext k3 rfl
          obtain ⟨e44, hv⟩ := k_join_eq (o := cc.2) hjn hsg (by rw [d1, ← hcp])
          subst e44
          rw [hv] at hpu
          refine fin (by rw [← ex]; exact t53) (((hpu.2.1.row1 17 (by decide) (by decide)).trans (hp2.2.1.row1 17 (by decide) (by decide))).trans (hp1.2.1.row1 17 (by decide) (by decide))) (((hpu.2.1.row1 18 (by decide) (by decide)).trans (hp2.2.1.row1 18 (by decide) (by decide))).trans (hp1.2.1.row1 18 (by decide) (by decide))) ?_
          unfold ev1
          rw [if_neg n0, if_neg (by omega), if_neg n2', ← hr2, ← hr1]
          exact k_push_eq hpu hs2 (by rw [List.length_tail, List.length_tail]; omega))
  obtain ⟨⟨i1, i2⟩, i, i3, i4, i5⟩ := hI
  simp only at i1 i2 i3 i5
  rw [cn_eq (x := y11) (e := k + 1) (by omega), i2] at e12
  have hz : y12.toInt = ((off + C.length : Nat) : Int) := by rw [e12]; exact n2
  have hi : i = C.length := by omega
  subst hi
  rw [List.take_length] at i5
  exact (k_pop_eq hpop i5).1
theorem k_value_2 {R : VR} {x : IC} {day p0 p1 r : Int32} {G G1 : GS} {k : Nat} (h : P_lValue_2 p0 p1 day G r G1) (hk : p0.toInt = (k : Int)) (hkl : k < R.length) (hC : CodeC_2 0 (fcd R) G) (hE : EndC_2 R G) (h580 : (fcd R).length ≤ 580) (hx : ICok x) (h1 : p1 = encI x) (hw : FOK (R.getD k ([], [])).2) : r = (evl x day (R.getD k ([], [])).2).headD 0 := by
  obtain ⟨-, -, y2, e2, Ga, -, hFa, e63, x7, G3, hl, -, -, -, y11, t11, y12, e12, c12, r14, G15, hpop, rfl, rfl⟩ := h
  obtain ⟨C, hCC⟩ : ∃ C, C = (R.getD k ([], [])).2 := ⟨_, rfl⟩
  rw [← hCC] at hw ⊢
  obtain ⟨off, hoff⟩ : ∃ off, off = (fcd (R.take k)).length := ⟨_, rfl⟩
  obtain ⟨n1, n2⟩ := hE k hkl
  rw [fcd_len hkl, ← hCC, ← hoff] at n2
  rw [← hoff] at n1
  have hle := fcd_le (R := R) (k + 1)
  rw [fcd_len hkl, ← hCC, ← hoff] at hle
  rw [cap_of (by omega)] at n1 n2
  obtain ⟨w1, w2, w3⟩ := hw
  have hlen : ∀ i, i ≤ C.length → (evl x day (C.take i)).length ≤ 30 := fun i hi => by
    have a1 := (evl_len (x := x) (day := day) w2 w1 i hi).2
    have a2 := nPu_le (C := C) i
    omega
  have hI := hl (fun q => (q.2.1 27 = G.1 27 ∧ q.2.1 28 = G.1 28) ∧ ∃ i : Nat, q.1.toInt = ((off + i : Nat) : Int) ∧ i ≤ C.length ∧ StkC (evl x day (C.take i)) q.2) (by
    refine ⟨⟨hFa.row1 27 (by decide) (by decide), hFa.row1 28 (by decide) (by decide)⟩, 0, ?_, Nat.zero_le _, ?_⟩
    · show y2.toInt = _
      rw [e2, cn_eq hk]
      exact n1
    · exact ⟨by rw [e63]; rfl, fun i hi => absurd hi (Nat.not_lt_zero i)⟩) (by
    rintro ⟨x1, G_1⟩ ⟨xn, G_1n⟩ ⟨⟨i1, i2⟩, i, i3, i4, i5⟩ ⟨x1q, G_1q, xnq, G_1nq, q1, q2, -, -, z11, s11, z12, e12', c, y19, e19, y20, e20, hd⟩
    obtain ⟨rfl, rfl⟩ := Prod.mk.inj q1
    obtain ⟨rfl, rfl⟩ := Prod.mk.inj q2
    simp only at i1 i2 i3 i5
    rw [cn_eq (x := z11) (e := k + 1) (by clear hd; omega), i2] at e12'
    have hz : z12.toInt = ((off + C.length : Nat) : Int) := by rw [e12']; exact n2
    have hil : i < C.length := by clear hd; omega
    obtain ⟨cc, hcc⟩ : ∃ cc, cc = C.getD i (0, 0) := ⟨_, rfl⟩
    have hok : cOK cc := by rw [hcc]; exact w1 _ (getD_memC hil)
    have hget : (fcd R).getD (off + i) (0, 0) = cc := by rw [hoff, fcd_at hkl (by rw [← hCC]; exact hil), ← hCC, hcc]
    have hcode : G.1 27 (off + i) = encd (ekk cc) (ekv cc) := by
      have := hC.2 (off + i) (by omega) (by omega)
      rw [Nat.zero_add, hget] at this
      exact this
    rw [cn_eq (x := x1) (e := off + i) i3, i1, hcode] at e19
    obtain ⟨d1, d2⟩ := encd_i hok e19
    rw [← e20] at d1
    obtain ⟨-, -, -, -, g0, g1, g2, g3⟩ := ekk_r hok
    have hlt := hlen i (by omega)
    have hnx := evl_take (x := x) (day := day) hil
    rw [← hcc] at hnx
    have fin : ∀ {Gz : GS} {y : Int32}, y.toInt = x1.toInt + 1 → Gz.1 27 = G_1.1 27 → Gz.1 28 = G_1.1 28 → StkC (ev1 x day (evl x day (C.take i)) cc) Gz → (Gz.1 27 = G.1 27 ∧ Gz.1 28 = G.1 28) ∧ ∃ i : Nat, y.toInt = ((off + i : Nat) : Int) ∧ i ≤ C.length ∧ StkC (evl x day (C.take i)) Gz := by
      intro Gz y ty r7 r8 hst
      exact ⟨⟨r7.trans i1, r8.trans i2⟩, i + 1, by clear hd; omega, by omega, by rw [hnx]; exact hst⟩
    have c4 : cc.1 = 0 ∨ cc.1 = 1 ∨ cc.1 = 2 ∨ cc.1 = 3 := by
      have := hok
      unfold cOK at this
      clear hd
      omega
    rcases hd with ⟨f1, y86, e86, y87, e87, G89, hpu, y93, t93, ex, rfl⟩ | ⟨f1, hd⟩
    · have k0 : cc.1 = 0 := by
        rcases c4 with q | q | q | q
        · exact q
        · have := g1 q
          have hb := hok
          unfold cOK at hb
          omega
        · have := g2 q
          omega
        · have := g3 q
          omega
      rw [cn_eq (x := x1) (e := off + i) i3, i1, hcode] at e86
      have ey : y87 = Int32.ofInt cc.2 := by
        refine of_i ?_
        have := (encd_i hok e86).2
        rw [← e87] at this
        rw [this]
        exact (g0 k0).2
      rw [ey] at hpu
      refine fin (by rw [← ex]; exact t93) (hpu.2.1.row1 27 (by decide) (by decide)) (hpu.2.1.row1 28 (by decide) (by decide)) ?_
      unfold ev1
      rw [if_pos k0]
      exact k_push_eq hpu i5 (by omega)
    · have n0 : cc.1 ≠ 0 := fun q => f1 (by rw [d1]; exact (g0 q).1)
      rcases hd with ⟨f2, r68, G69, hpo, hd⟩ | ⟨f2, hd⟩
      · have k2 : cc.1 = 2 := by
          rcases c4 with q | q | q | q
          · exact absurd q n0
          · have := g1 q
            have hb := hok
            unfold cOK at hb
            clear hd
            omega
          · exact q
          · have := g3 q
            clear hd
            omega
        obtain ⟨hr, hst⟩ := k_pop_eq hpo i5
        have hlt2 : (evl x day (C.take i)).tail.length < 100 := by rw [List.length_tail]; omega
        rcases hd with ⟨f3, G81, hpu, y85, t85, ex, rfl⟩ | ⟨f3, G81, hpu, y85, t85, ex, rfl⟩
        · refine fin (by rw [← ex]; exact t85) ((hpu.2.1.row1 27 (by decide) (by decide)).trans (hpo.2.1.row1 27 (by decide) (by decide))) ((hpu.2.1.row1 28 (by decide) (by decide)).trans (hpo.2.1.row1 28 (by decide) (by decide))) ?_
          unfold ev1
          rw [if_neg n0, if_neg (by omega), if_pos k2, ← hr, if_pos f3]
          exact k_push_eq hpu hst hlt2
        · refine fin (by rw [← ex]; exact t85) ((hpu.2.1.row1 27 (by decide) (by decide)).trans (hpo.2.1.row1 27 (by decide) (by decide))) ((hpu.2.1.row1 28 (by decide) (by decide)).trans (hpo.2.1.row1 28 (by decide) (by decide))) ?_
          unfold ev1
          rw [if_neg n0, if_neg (by omega), if_pos k2, ← hr, if_neg f3]
          exact k_push_eq hpu hst hlt2
      · have n2' : cc.1 ≠ 2 := fun q => f2 (by rw [d1]; exact g2 q)
        rcases hd with ⟨f3, f4, f5, r57, G58, how, G63, hpu, y67, t67, ex, rfl⟩ | ⟨G29, hj, -, -, r33, G34, hp1, r38, G39, hp2, r43, G44, hjn, G49, hpu, y53, t53, ex, rfl⟩
        · have k1 : cc.1 = 1 := by
            rcases c4 with q | q | q | q
            · exact absurd q n0
            · exact q
            · exact absurd q n2'
            · have := g3 q
              omega
          have hb := hok
          unfold cOK at hb
          obtain ⟨e58, hv⟩ := k_own_eq (a := cc.2) how hx h1 (by omega) (by omega) (by rw [d1]; exact g1 k1)
          subst e58
          rw [of_i hv] at hpu
          refine fin (by rw [← ex]; exact t67) (hpu.2.1.row1 27 (by decide) (by decide)) (hpu.2.1.row1 28 (by decide) (by decide)) ?_
          unfold ev1
          rw [if_neg n0, if_pos k1]
          exact k_push_eq hpu i5 (by omega)
        · have hj2 : G_1 = G29 ∧ (y20.toInt = 144 ∨ y20.toInt = 145 ∨ y20.toInt < 128) := by
            rcases hj with ⟨q, e⟩ | ⟨-, ⟨q, e⟩ | ⟨-, q, e⟩⟩
            · exact ⟨e, Or.inl q⟩
            · exact ⟨e, Or.inr (Or.inl q)⟩
            · exact ⟨e, Or.inr (Or.inr q)⟩
          obtain ⟨rfl, hkd⟩ := hj2
          have k3 : cc.1 = 3 := by
            rcases c4 with q | q | q | q
            · exact absurd q n0
            · have := g1 q
              have hb := hok
              unfold cOK at hb
              omega
            · exact absurd q n2'
            · exact q
          have hsg : sgO cc.2 := by
            have hb := hok
            unfold cOK at hb
            rcases hb with q | q | q | q
            · exact absurd q.1 n0
            · exact absurd q.1 (by omega)
            · exact absurd q.1 n2'
            · exact q.2
          obtain ⟨hr1, hs1⟩ := k_pop_eq hp1 i5
          obtain ⟨hr2, hs2⟩ := k_pop_eq hp2 hs1
          have hcp : cc = (3, cc.2) := Prod.ext k3 rfl
          obtain ⟨e44, hv⟩ := k_join_eq (o := cc.2) hjn hsg (by rw [d1, ← hcp])
          subst e44
          rw [hv] at hpu
          refine fin (by rw [← ex]; exact t53) (((hpu.2.1.row1 27 (by decide) (by decide)).trans (hp2.2.1.row1 27 (by decide) (by decide))).trans (hp1.2.1.row1 27 (by decide) (by decide))) (((hpu.2.1.row1 28 (by decide) (by decide)).trans (hp2.2.1.row1 28 (by decide) (by decide))).trans (hp1.2.1.row1 28 (by decide) (by decide))) ?_
          unfold ev1
          rw [if_neg n0, if_neg (by omega), if_neg n2', ← hr2, ← hr1]
          exact k_push_eq hpu hs2 (by rw [List.length_tail, List.length_tail]; omega))
  obtain ⟨⟨i1, i2⟩, i, i3, i4, i5⟩ := hI
  simp only at i1 i2 i3 i5
  rw [cn_eq (x := y11) (e := k + 1) (by omega), i2] at e12
  have hz : y12.toInt = ((off + C.length : Nat) : Int) := by rw [e12]; exact n2
  have hi : i = C.length := by omega
  subst hi
  rw [List.take_length] at i5
  exact (k_pop_eq hpop i5).1
