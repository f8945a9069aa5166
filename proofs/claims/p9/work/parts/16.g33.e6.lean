/-! the reference's loop over a formula's code -/
def StkR (st : List Int32) (G : GS) : Prop := ∀ i, i < st.length → G.1 76 (st.length - 1 - i) = st.getD i 0
theorem sr_push {st : List Int32} {v : Int32} {G G1 : GS} (hS : StkR st G) (e : G1.1 76 = upd (G.1 76) st.length v) : StkR (v :: st) G1 := by
  intro i hi
  rw [List.length_cons] at hi ⊢
  rw [e]
  cases i with
  | zero =>
    rw [show upd (G.1 76) st.length v (st.length + 1 - 1 - 0) = v from if_pos (by omega)]
    rfl
  | succ i =>
    rw [show upd (G.1 76) st.length v (st.length + 1 - 1 - (i + 1)) = G.1 76 (st.length + 1 - 1 - (i + 1)) from if_neg (by omega), show st.length + 1 - 1 - (i + 1) = st.length - 1 - i by omega, hS i (by omega)]
    simp
theorem sr_head {st : List Int32} {G : GS} (hS : StkR st G) (h : 1 ≤ st.length) : G.1 76 (st.length - 1) = st.headD 0 := by
  have := hS 0 (by omega)
  rw [Nat.sub_zero] at this
  rw [this]
  cases st with
  | nil => rfl
  | cons v st => rfl
theorem sr_head2 {st : List Int32} {G : GS} (hS : StkR st G) (h : 2 ≤ st.length) : G.1 76 (st.length - 1 - 1) = st.tail.headD 0 := by
  have := hS 1 (by omega)
  rw [this]
  cases st with
  | nil => rfl
  | cons v st =>
    cases st with
    | nil => rfl
    | cons w st => rfl
theorem sr_top {st : List Int32} {v : Int32} {G G1 : GS} (hS : StkR st G) (h : 1 ≤ st.length) (e : G1.1 76 = upd (G.1 76) (st.length - 1) v) : StkR (v :: st.tail) G1 := by
  cases st with
  | nil => exact absurd h (by decide)
  | cons w st =>
    intro i hi
    rw [List.tail_cons, List.length_cons] at hi ⊢
    rw [e, List.length_cons]
    cases i with
    | zero =>
      rw [show upd (G.1 76) (st.length + 1 - 1) v (st.length + 1 - 1 - 0) = v from if_pos (by omega)]
      rfl
    | succ i =>
      rw [show upd (G.1 76) (st.length + 1 - 1) v (st.length + 1 - 1 - (i + 1)) = G.1 76 (st.length + 1 - 1 - (i + 1)) from if_neg (by omega)]
      have := hS (i + 1) (by rw [List.length_cons]; omega)
      rw [List.length_cons] at this
      rw [this]
      simp
theorem sr_two {st : List Int32} {v : Int32} {G G1 : GS} (hS : StkR st G) (h : 2 ≤ st.length) (e : G1.1 76 = upd (G.1 76) (st.length - 1 - 1) v) : StkR (v :: st.tail.tail) G1 := by
  cases st with
  | nil => exact absurd h (by decide)
  | cons w st =>
    cases st with
    | nil => exact absurd h (by simp)
    | cons w2 st =>
      intro i hi
      rw [List.tail_cons, List.tail_cons, List.length_cons] at hi ⊢
      rw [e, List.length_cons, List.length_cons]
      cases i with
      | zero =>
        rw [show upd (G.1 76) (st.length + 1 + 1 - 1 - 1) v (st.length + 1 - 1 - 0) = v from if_pos (by omega)]
        rfl
      | succ i =>
        rw [show upd (G.1 76) (st.length + 1 + 1 - 1 - 1) v (st.length + 1 - 1 - (i + 1)) = G.1 76 (st.length + 1 - 1 - (i + 1)) from if_neg (by omega)]
        have := hS (i + 2) (by rw [List.length_cons, List.length_cons]; omega)
        rw [List.length_cons, List.length_cons, show st.length + 1 + 1 - 1 - (i + 2) = st.length + 1 - 1 - (i + 1) by omega] at this
        rw [this]
        simp
/-- the INCH at a place of the reference's rows -/
def IcR (x : IC) (j : Nat) (G : GS) : Prop := (G.1 87 j).toInt = x.1 ∧ (G.1 88 j).toInt = x.2.1 ∧ (G.1 89 j).toInt = x.2.2.1 ∧ (G.1 90 j).toInt = x.2.2.2
theorem q_ask_eq {x : IC} {p0 p1 r : Int32} {G G1 : GS} {j : Nat} (h : Q_askOf p0 p1 G r G1) (hj : p0.toInt = (j : Int)) (hx : IcR x j G) (h0 : 0 ≤ p1.toInt) (h8 : p1.toInt ≤ 8) : G = G1 ∧ r.toInt = icQ x (G.1 110 6).toInt p1.toInt := by
  obtain ⟨-, hF, hh⟩ := h
  refine ⟨hF.nil, ?_⟩
  obtain ⟨x1, x2, x3, x4⟩ := hx
  rw [cn_eq hj] at hh
  have z6 : (6 : Int32).toNatClampNeg = 6 := rfl
  rw [z6] at hh
  unfold icQ
  have bit : ∀ (k c : Nat) (hc : 2 ^ k = c) {y21 y22 y23 y24 : Int32}, y21 = G.1 87 j → y22.toInt = p1.toInt - 1 → y23 = y21 >>> (y22 &&& 31) → y24 = y23 &&& 1 → p1.toInt - 1 = (k : Int) → 0 ≤ y21.toInt → k < 4 → y24.toInt = x.1 / (c : Int) % 2 := by
    intro k c hc y21 y22 y23 y24 e21 t22 e23 e24 hk hp h4
    have e1 : y21.toInt = x.1 := by rw [e21]; exact x1
    have ey : y22 = Int32.ofInt (k : Int) := of_i (by omega)
    have hsh : (y21 >>> (y22 &&& 31)).toBitVec = y21.toBitVec.sshiftRight k := by
      have h5 : k = 0 ∨ k = 1 ∨ k = 2 ∨ k = 3 := by omega
      rcases h5 with rfl | rfl | rfl | rfl <;> rw [ey] <;> rfl
    have s1 := shr_i hsh hc e1 (by omega)
    rw [e24, e23]
    exact and_i (m := 1) (k := 1) (c := 2) rfl rfl s1 (Int.ediv_nonneg (by omega) (by omega))
  rcases hh with ⟨c, y2, e2, ⟨d, r5, G6, ht, rfl, -⟩ | ⟨d, r5, G6, ht, rfl, -⟩⟩ | ⟨c, hh⟩
  · rw [e2, x1] at d
    rw [(q_truth ht).2, if_pos c, if_neg (by omega)]
    rfl
  · rw [e2, x1] at d
    rw [(q_truth ht).2, if_pos c, if_pos d]
    rfl
  rw [if_neg c]
  rcases hh with ⟨c1, y19, e19, ⟨d, y21, e21, y22, t22, y23, e23, y24, e24, rfl, -⟩ | ⟨d, rfl, -⟩⟩ | ⟨c1, hh⟩
  · rw [if_pos (by omega), if_neg (by rw [e19, x1] at d; omega), bit 0 1 rfl e21 t22 e23 e24 (by omega) (by rw [e21]; rw [e19] at d; exact d) (by decide), c1]
    rfl
  · rw [e19, x1] at d
    rw [if_pos (by omega), if_pos d]
    rfl
  rcases hh with ⟨c2, y19, e19, ⟨d, y21, e21, y22, t22, y23, e23, y24, e24, rfl, -⟩ | ⟨d, rfl, -⟩⟩ | ⟨c2, hh⟩
  · rw [if_pos (by omega), if_neg (by rw [e19, x1] at d; omega), bit 1 2 rfl e21 t22 e23 e24 (by omega) (by rw [e21]; rw [e19] at d; exact d) (by decide), c2]
    rfl
  · rw [e19, x1] at d
    rw [if_pos (by omega), if_pos d]
    rfl
  rcases hh with ⟨c3, y19, e19, ⟨d, y21, e21, y22, t22, y23, e23, y24, e24, rfl, -⟩ | ⟨d, rfl, -⟩⟩ | ⟨c3, hh⟩
  · rw [if_pos (by omega), if_neg (by rw [e19, x1] at d; omega), bit 2 4 rfl e21 t22 e23 e24 (by omega) (by rw [e21]; rw [e19] at d; exact d) (by decide), c3]
    rfl
  · rw [e19, x1] at d
    rw [if_pos (by omega), if_pos d]
    rfl
  rcases hh with ⟨c4, y19, e19, ⟨d, y21, e21, y22, t22, y23, e23, y24, e24, rfl, -⟩ | ⟨d, rfl, -⟩⟩ | ⟨c4, hh⟩
  · rw [if_pos (by omega), if_neg (by rw [e19, x1] at d; omega), bit 3 8 rfl e21 t22 e23 e24 (by omega) (by rw [e21]; rw [e19] at d; exact d) (by decide), c4]
    rfl
  · rw [e19, x1] at d
    rw [if_pos (by omega), if_pos d]
    rfl
  rw [if_neg (by omega)]
  rcases hh with ⟨c5, y, e, rfl, -⟩ | ⟨c5, ⟨c6, y, e, rfl, -⟩ | ⟨c6, ⟨c7, y, e, rfl, -⟩ | ⟨c7, y, e, rfl, -⟩⟩⟩
  · rw [if_pos c5, e]
    exact x4
  · rw [if_neg c5, if_pos c6, e]
    exact x2
  · rw [if_neg c5, if_neg c6, if_pos c7, e]
    exact x3
  · rw [if_neg c5, if_neg c6, if_neg c7, e]
theorem q_worked_eq {x : IC} {p0 p1 r : Int32} {G G1 : GS} {k j : Nat} {C : List (Int × Int)} (h : Q_worked p0 p1 G r G1) (hk : p0.toInt = (k : Int)) (hj : p1.toInt = (j : Int)) (hC : RCd k C G) (hx : IcR x j G) (hw : FOK C) : r = (evl x (G.1 110 6) C).headD 0 := by
  obtain ⟨-, -, y1, t1, x8, x9, G4, hl, -, -, -, -, -, -, -, y18, t18, y19, e19, y21, t21, c21, y23, e23, rfl, rfl⟩ := h
  obtain ⟨w1, w2, w3⟩ := hw
  have hI := hl (fun q => (q.2.2.1 72 = G.1 72 ∧ q.2.2.1 73 = G.1 73 ∧ q.2.2.1 74 = G.1 74 ∧ q.2.2.1 87 = G.1 87 ∧ q.2.2.1 88 = G.1 88 ∧ q.2.2.1 89 = G.1 89 ∧ q.2.2.1 90 = G.1 90 ∧ q.2.2.1 110 = G.1 110) ∧ ∃ i : Nat, q.1.toInt = ((320 * k + i : Nat) : Int) ∧ i ≤ C.length ∧ q.2.1.toInt = ((evl x (G.1 110 6) (C.take i)).length : Int) ∧ StkR (evl x (G.1 110 6) (C.take i)) q.2.2) ⟨⟨rfl, rfl, rfl, rfl, rfl, rfl, rfl, rfl⟩, 0, by show y1.toInt = _; omega, Nat.zero_le _, rfl, fun i hi => absurd hi (Nat.not_lt_zero i)⟩ (by
    rintro ⟨x1, n1, G_1⟩ ⟨xn, nn, G_1n⟩ ⟨⟨a1, a2, a3, a4, a5, a6, a7, a8⟩, i, i3, i4, i5, i6⟩ ⟨x1q, n1q, G_1q, xnq, nnq, G_1nq, q1, q2, -, -, -, -, -, -, z18, s18, z19, f19, z21, s21, c, y24, e24, hd⟩
    obtain ⟨rfl, q1x⟩ := Prod.mk.inj q1
    obtain ⟨rfl, rfl⟩ := Prod.mk.inj q1x
    obtain ⟨rfl, q2x⟩ := Prod.mk.inj q2
    obtain ⟨rfl, rfl⟩ := Prod.mk.inj q2x
    simp only at a1 a2 a3 a4 a5 a6 a7 a8 i3 i5 i6
    rw [cn_eq hk, a3] at f19
    have hz : z19.toInt = (C.length : Int) := by rw [f19]; exact hC.1
    have hil : i < C.length := by clear hd; omega
    obtain ⟨cc, hcc⟩ : ∃ cc, cc = C.getD i (0, 0) := ⟨_, rfl⟩
    have hok : cOK cc := by rw [hcc]; exact w1 _ (getD_memC hil)
    obtain ⟨b1, b2⟩ := hC.2 i hil
    rw [← hcc] at b1 b2
    have hnx := evl_take (x := x) (day := G.1 110 6) hil
    rw [← hcc] at hnx
    obtain ⟨l1, l2⟩ := evl_len (x := x) (day := G.1 110 6) w2 w1 i (by omega)
    obtain ⟨l3, -⟩ := evl_len (x := x) (day := G.1 110 6) w2 w1 (i + 1) (by omega)
    have ld := dep_take1 (C := C) hil
    rw [l1, l3, ← hcc, hnx] at ld
    obtain ⟨st, hst⟩ : ∃ st, st = evl x (G.1 110 6) (C.take i) := ⟨_, rfl⟩
    rw [← hst] at i5 i6 hnx ld
    have hld : some (ev1 x (G.1 110 6) st cc).length = (if cc.1 ≤ 1 then some (st.length + 1) else if cc.1 = 2 then (if 1 ≤ st.length then some st.length else none) else (if 2 ≤ st.length then some (st.length - 1) else none)) := ld
    rw [cn_eq (x := x1) (e := 320 * k + i) i3] at hd e24
    rw [a1, a2] at hd
    rw [a1] at e24
    have fin : ∀ {Gz : GS} {y m : Int32}, y.toInt = x1.toInt + 1 → Fr [76] [] G_1 Gz → m.toInt = ((ev1 x (G.1 110 6) st cc).length : Int) → StkR (ev1 x (G.1 110 6) st cc) Gz → (Gz.1 72 = G.1 72 ∧ Gz.1 73 = G.1 73 ∧ Gz.1 74 = G.1 74 ∧ Gz.1 87 = G.1 87 ∧ Gz.1 88 = G.1 88 ∧ Gz.1 89 = G.1 89 ∧ Gz.1 90 = G.1 90 ∧ Gz.1 110 = G.1 110) ∧ ∃ i : Nat, y.toInt = ((320 * k + i : Nat) : Int) ∧ i ≤ C.length ∧ m.toInt = ((evl x (G.1 110 6) (C.take i)).length : Int) ∧ StkR (evl x (G.1 110 6) (C.take i)) Gz := by
      intro Gz y m ty hF tm hs
      refine ⟨⟨(hF.row1 72 (by decide) (by decide)).trans a1, (hF.row1 73 (by decide) (by decide)).trans a2, (hF.row1 74 (by decide) (by decide)).trans a3, (hF.row1 87 (by decide) (by decide)).trans a4, (hF.row1 88 (by decide) (by decide)).trans a5, (hF.row1 89 (by decide) (by decide)).trans a6, (hF.row1 90 (by decide) (by decide)).trans a7, (hF.row1 110 (by decide) (by decide)).trans a8⟩, i + 1, by clear hd; omega, by omega, ?_, ?_⟩
      · rw [hnx]
        exact tm
      · rw [hnx]
        exact hs
    have hxr : IcR x j G_1 := by
      unfold IcR
      rw [a4, a5, a6, a7]
      exact hx
    have push : ∀ {Gz : GS} {y m v : Int32}, cc.1 ≤ 1 → ev1 x (G.1 110 6) st cc = v :: st → y.toInt = x1.toInt + 1 → m.toInt = n1.toInt + 1 → Fr [76] [] G_1 Gz → Gz.1 76 = upd (G_1.1 76) n1.toNatClampNeg v → (Gz.1 72 = G.1 72 ∧ Gz.1 73 = G.1 73 ∧ Gz.1 74 = G.1 74 ∧ Gz.1 87 = G.1 87 ∧ Gz.1 88 = G.1 88 ∧ Gz.1 89 = G.1 89 ∧ Gz.1 90 = G.1 90 ∧ Gz.1 110 = G.1 110) ∧ ∃ i : Nat, y.toInt = ((320 * k + i : Nat) : Int) ∧ i ≤ C.length ∧ m.toInt = ((evl x (G.1 110 6) (C.take i)).length : Int) ∧ StkR (evl x (G.1 110 6) (C.take i)) Gz := by
      intro Gz y m v hc1 he ty tm hF e76
      rw [cn_eq i5] at e76
      refine fin ty hF ?_ ?_
      · rw [he, List.length_cons]
        clear hd
        omega
      · rw [he]
        exact sr_push i6 e76
    have asks : ∀ {y31 r33 : Int32} {G34 : GS}, y31 = G.1 73 (320 * k + i) → cc.1 = 1 → Q_askOf p1 y31 G_1 r33 G34 → G_1 = G34 ∧ ev1 x (G.1 110 6) st cc = r33 :: st := by
      intro y31 r33 G34 e31 hc1 hq
      have hb := hok
      unfold cOK at hb
      have e31' : y31.toInt = cc.2 := by rw [e31]; exact b2
      obtain ⟨eg, hv⟩ := q_ask_eq hq hj hxr (by clear hd; omega) (by clear hd; omega)
      refine ⟨eg, ?_⟩
      unfold ev1
      rw [if_neg (by omega), if_pos hc1, of_i hv, e31', a8]
    have c4 : cc.1 = 0 ∨ cc.1 = 1 ∨ cc.1 = 2 ∨ cc.1 = 3 := by
      have := hok
      unfold cOK at this
      clear hd
      omega
    have e24' : y24.toInt = cc.1 := by rw [e24]; exact b1
    rcases hd with ⟨f1, y28, e28, ⟨f2, y42, e42, y45, t45, y46, t46, ex, en, hF, e76⟩ | ⟨f2, -⟩⟩ | ⟨f1, y48, e48, ⟨f2, y96, e96, ⟨f3, -⟩ | ⟨f3, y99, e99, r101, G102, hq, y107, t107, y108, t108, ex, en, hF, e76⟩⟩ | ⟨f2, y51, e51, hd⟩⟩
    · refine push (by omega) ?_ (by rw [← ex]; exact t46) (by rw [← en]; exact t45) hF e76
      unfold ev1
      rw [if_pos (by omega), of_i (show y42.toInt = cc.2 by rw [e42]; exact b2)]
    · refine absurd ?_ f2
      rw [e28, b1]
      omega
    · rw [e96, b1] at f3
      rw [e48, b1] at f2
      omega
    · rw [e48, b1] at f2
      obtain ⟨rfl, he⟩ := asks e99 f2 hq
      exact push (by omega) he (by rw [← ex]; exact t108) (by rw [← en]; exact t107) hF e76
    · rw [e48, b1] at f2
      rcases hd with ⟨f3, y71, t71, y72, t72, y73, e73, hd⟩ | ⟨f3, y54, t54, y55, t55, y56, e56, y58, t58, y59, e59, y61, e61, r63, G64, hq, y69, t69, ex, en, hF, e76⟩
      · rw [e51, b1] at f3
        rw [if_neg (by omega), if_pos f3] at hld
        have h1 : 1 ≤ st.length := by
          refine Classical.byContradiction (fun q => ?_)
          rw [if_neg q] at hld
          exact absurd hld (by simp)
        rw [if_pos h1] at hld
        have hln := Option.some.inj hld
        rw [cn_eq (x := y72) (e := st.length - 1) (by clear hd; omega), sr_head i6 h1] at e73
        rcases hd with ⟨f4, r87, G88, hq, y94, t94, ex, en, hF, e76⟩ | ⟨f4, r87, G88, hq, y94, t94, ex, en, hF, e76⟩
        · obtain ⟨rfl, hr⟩ := q_truth hq
          rw [cn_eq (x := y71) (e := st.length - 1) (by omega), of_i hr] at e76
          refine fin (by rw [← ex]; exact t94) hF (by rw [← en]; dsimp only; omega) ?_
          have he : ev1 x (G.1 110 6) st cc = 1 :: st.tail := by
            unfold ev1
            rw [if_neg (by omega), if_neg (by omega), if_pos f3, ← e73, if_pos f4]
          rw [he]
          exact sr_top i6 h1 e76
        · obtain ⟨rfl, hr⟩ := q_truth hq
          rw [cn_eq (x := y71) (e := st.length - 1) (by omega), of_i hr] at e76
          refine fin (by rw [← ex]; exact t94) hF (by rw [← en]; dsimp only; omega) ?_
          have he : ev1 x (G.1 110 6) st cc = 0 :: st.tail := by
            unfold ev1
            rw [if_neg (by omega), if_neg (by omega), if_pos f3, ← e73, if_neg f4]
          rw [he]
          exact sr_top i6 h1 e76
      · rw [e51, b1] at f3
        rw [if_neg (by omega), if_neg f3] at hld
        have h2 : 2 ≤ st.length := by
          refine Classical.byContradiction (fun q => ?_)
          rw [if_neg q] at hld
          exact absurd hld (by simp)
        rw [if_pos h2] at hld
        have hln := Option.some.inj hld
        have hsg : sgO cc.2 := by
          have hb := hok
          unfold cOK at hb
          rcases hb with q | q | q | q
          · exact absurd q.1 (by omega)
          · exact absurd q.1 (by omega)
          · exact absurd q.1 (by omega)
          · exact q.2
        rw [cn_eq (x := y58) (e := st.length - 1 - 1) (by omega), sr_head2 i6 h2] at e59
        rw [cn_eq (x := y54) (e := st.length - 1) (by omega), sr_head i6 (by omega)] at e61
        obtain ⟨rfl, hr⟩ := q_done_eq (o := cc.2) hq hsg (by rw [e56]; exact b2)
        rw [cn_eq (x := y55) (e := st.length - 1 - 1) (by omega)] at e76
        have he : ev1 x (G.1 110 6) st cc = r63 :: st.tail.tail := by
          unfold ev1
          rw [if_neg (by omega), if_neg (by omega), if_neg f3, hr, e59, e61]
        refine fin (by rw [← ex]; exact t69) hF (by rw [← en]; dsimp only; omega) ?_
        rw [he]
        exact sr_two i6 h2 e76)
  obtain ⟨⟨a1, a2, a3, -⟩, i, i3, i4, i5, i6⟩ := hI
  simp only at a1 a2 a3 i3 i5 i6
  rw [cn_eq hk, a3] at e19
  have hz : y19.toInt = (C.length : Int) := by rw [e19]; exact hC.1
  have hi : i = C.length := by omega
  subst hi
  rw [List.take_length] at i5 i6
  obtain ⟨l1, -⟩ := evl_len (x := x) (day := G.1 110 6) w2 w1 C.length (Nat.le_refl _)
  rw [List.take_length, w2] at l1
  have hl1 := Option.some.inj l1
  have z0 : (0 : Int32).toNatClampNeg = 0 := rfl
  rw [z0] at e23
  have := sr_head i6 (by omega)
  rw [← hl1] at this
  rw [e23]
  exact this
