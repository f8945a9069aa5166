/-! formulas worked out -/
def icQ (x : IC) (day a : Int) : Int := if a = 0 then (if x.1 < 0 then 1 else 0) else if a ≤ 4 then (if x.1 < 0 then 0 else x.1 / 2 ^ (a - 1).toNat % 2) else if a = 5 then x.2.2.2 else if a = 6 then x.2.1 else if a = 7 then x.2.2.1 else day
def ev1 (x : IC) (day : Int32) (st : List Int32) (c : Int × Int) : List Int32 := if c.1 = 0 then Int32.ofInt c.2 :: st else if c.1 = 1 then Int32.ofInt (icQ x day.toInt c.2) :: st else if c.1 = 2 then (if (st.headD 0).toInt = 0 then 1 else 0) :: st.tail else don c.2 (st.tail.headD 0) (st.headD 0) :: st.tail.tail
def evl (x : IC) (day : Int32) (C : List (Int × Int)) : List Int32 := C.foldl (ev1 x day) []
theorem evl_take {x : IC} {day : Int32} {C : List (Int × Int)} {i : Nat} (h : i < C.length) : evl x day (C.take (i + 1)) = ev1 x day (evl x day (C.take i)) (C.getD i (0, 0)) := by
  have e : C.take (i + 1) = C.take i ++ [C.getD i (0, 0)] := by
    rw [List.take_succ, List.getD_eq_getElem?_getD, List.getElem?_eq_getElem h]
    rfl
  rw [e]
  simp [evl, List.foldl_append]
theorem dep_take1 {C : List (Int × Int)} {i : Nat} (h : i < C.length) : dep (C.take (i + 1)) = dst (dep (C.take i)) (C.getD i (0, 0)) := by
  have e : C.take (i + 1) = C.take i ++ [C.getD i (0, 0)] := by
    rw [List.take_succ, List.getD_eq_getElem?_getD, List.getElem?_eq_getElem h]
    rfl
  rw [e, dep_snoc]
theorem dst_none (C : List (Int × Int)) : C.foldl dst none = none := by
  induction C with
  | nil => rfl
  | cons c C ih => exact ih
theorem dep_some {C : List (Int × Int)} {d : Nat} (h : dep C = some d) (i : Nat) : ∃ k, dep (C.take i) = some k := by
  have e : C.take i ++ C.drop i = C := List.take_append_drop i C
  cases hk : dep (C.take i) with
  | some k => exact ⟨k, rfl⟩
  | none =>
    have h2 : dep C = none := by
      rw [← e]
      unfold dep at hk ⊢
      rw [List.foldl_append, hk, dst_none]
    rw [h2] at h
    exact absurd h (by simp)
theorem nPu_le {C : List (Int × Int)} (i : Nat) : nPu (C.take i) ≤ nPu C := by
  have e : C.take i ++ C.drop i = C := List.take_append_drop i C
  have h : nPu C = nPu (C.take i) + nPu (C.drop i) := by
    conv => lhs; rw [← e]
    unfold nPu
    rw [List.filter_append, List.length_append]
  omega
/-- so many values stand as the code says, and no more than it has pushes -/
theorem evl_len {x : IC} {day : Int32} {C : List (Int × Int)} {d : Nat} (h : dep C = some d) (hok : ∀ c ∈ C, cOK c) : ∀ i, i ≤ C.length → dep (C.take i) = some (evl x day (C.take i)).length ∧ (evl x day (C.take i)).length ≤ nPu (C.take i) := by
  intro i
  induction i with
  | zero => intro _; exact ⟨rfl, Nat.zero_le _⟩
  | succ i ih =>
    intro hi
    obtain ⟨h1, h2⟩ := ih (by omega)
    obtain ⟨k, hk⟩ := dep_some h (i + 1)
    have e1 := dep_take1 (C := C) (i := i) (by omega)
    have e2 := evl_take (x := x) (day := day) (C := C) (i := i) (by omega)
    have ep : nPu (C.take (i + 1)) = nPu (C.take i) + (if (C.getD i (0, 0)).1 ≤ 1 then 1 else 0) := by
      have e : C.take (i + 1) = C.take i ++ [C.getD i (0, 0)] := by
        rw [List.take_succ, List.getD_eq_getElem?_getD, List.getElem?_eq_getElem (by omega)]
        rfl
      rw [e, nPu_snoc]
    rw [h1, hk] at e1
    obtain ⟨st, hst⟩ : ∃ st, st = evl x day (C.take i) := ⟨_, rfl⟩
    obtain ⟨c, hc⟩ : ∃ c, c = C.getD i (0, 0) := ⟨_, rfl⟩
    rw [← hst] at h1 h2 e1 e2
    rw [← hc] at e1 e2 ep
    rw [hk, e2, ep]
    have e1' : some k = (if c.1 ≤ 1 then some (st.length + 1) else if c.1 = 2 then (if 1 ≤ st.length then some st.length else none) else (if 2 ≤ st.length then some (st.length - 1) else none)) := e1
    unfold ev1
    by_cases g1 : c.1 ≤ 1
    · rw [if_pos g1] at e1' ⊢
      by_cases g0 : c.1 = 0
      · rw [if_pos g0, e1', List.length_cons]
        exact ⟨rfl, by omega⟩
      · by_cases g11 : c.1 = 1
        · rw [if_neg g0, if_pos g11, e1', List.length_cons]
          exact ⟨rfl, by omega⟩
        · have hcm : c ∈ C := by
            rw [hc, List.getD_eq_getElem?_getD, List.getElem?_eq_getElem (by omega)]
            exact List.getElem_mem _
          have := hok c hcm
          unfold cOK at this
          omega
    · rw [if_neg g1] at e1' ⊢
      rw [if_neg (by omega), if_neg (by omega)]
      by_cases g2 : c.1 = 2
      · rw [if_pos g2] at e1' ⊢
        by_cases g3 : 1 ≤ st.length
        · rw [if_pos g3] at e1'
          rw [e1', List.length_cons, List.length_tail, show st.length - 1 + 1 = st.length by omega]
          exact ⟨rfl, by omega⟩
        · rw [if_neg g3] at e1'
          exact absurd e1' (by simp)
      · rw [if_neg g2] at e1' ⊢
        by_cases g3 : 2 ≤ st.length
        · rw [if_pos g3] at e1'
          rw [e1', List.length_cons, List.length_tail, List.length_tail, show st.length - 1 - 1 + 1 = st.length - 1 by omega]
          exact ⟨rfl, by omega⟩
        · rw [if_neg g3] at e1'
          exact absurd e1' (by simp)
theorem getD_memC {C : List (Int × Int)} {i : Nat} (h : i < C.length) : C.getD i (0, 0) ∈ C := by
  rw [List.getD_eq_getElem?_getD, List.getElem?_eq_getElem h]
  exact List.getElem_mem _
theorem ekk_r {c : Int × Int} (h : cOK c) : 0 ≤ ekk c ∧ ekk c < 1024 ∧ 0 ≤ ekv c ∧ ekv c ≤ 9999 ∧ (c.1 = 0 → ekk c = 201 ∧ ekv c = c.2) ∧ (c.1 = 1 → (c.2 ≤ 4 → ekk c = 139 + c.2) ∧ (5 ≤ c.2 → ekk c = 142 + c.2)) ∧ (c.1 = 2 → ekk c = 146) ∧ (c.1 = 3 → (ekk c = 144 ∨ ekk c = 145 ∨ ekk c < 128)) := by
  unfold cOK sgO at h
  rcases h with ⟨h1, h2, h3⟩ | ⟨h1, h2, h3⟩ | ⟨h1, h2⟩ | ⟨h1, h2⟩
  · have a : ekk c = 201 := by
      unfold ekk
      rw [if_pos h1]
    have b : ekv c = c.2 := by
      unfold ekv
      rw [if_pos h1]
    rw [a, b]
    omega
  · have b : ekv c = 0 := by
      unfold ekv
      rw [if_neg (show ¬ c.1 = 0 by omega)]
    by_cases h4 : c.2 ≤ 4
    · have a : ekk c = 139 + c.2 := by
        unfold ekk
        rw [if_neg (show ¬ c.1 = 0 by omega), if_pos h1, if_pos h4]
      rw [a, b]
      omega
    · have a : ekk c = 142 + c.2 := by
        unfold ekk
        rw [if_neg (show ¬ c.1 = 0 by omega), if_pos h1, if_neg h4]
      rw [a, b]
      omega
  · have b : ekv c = 0 := by
      unfold ekv
      rw [if_neg (show ¬ c.1 = 0 by omega)]
    have a : ekk c = 146 := by
      unfold ekk
      rw [if_neg (show ¬ c.1 = 0 by omega), if_neg (show ¬ c.1 = 1 by omega), if_pos h1]
    rw [a, b]
    omega
  · have b : ekv c = 0 := by
      unfold ekv
      rw [if_neg (show ¬ c.1 = 0 by omega)]
    have a0 : ekk c = (if c.2 = 124 then 144 else if c.2 = 38 then 145 else c.2) := by
      unfold ekk
      rw [if_neg (show ¬ c.1 = 0 by omega), if_neg (show ¬ c.1 = 1 by omega), if_neg (show ¬ c.1 = 2 by omega)]
    by_cases h4 : c.2 = 124
    · have a : ekk c = 144 := by rw [a0, if_pos h4]
      rw [a, b]
      omega
    · by_cases h5 : c.2 = 38
      · have a : ekk c = 145 := by rw [a0, if_neg h4, if_pos h5]
        rw [a, b]
        omega
      · have a : ekk c = c.2 := by rw [a0, if_neg h4, if_neg h5]
        rw [a, b]
        omega
theorem encd_i {c : Int × Int} (h : cOK c) {y : Int32} (hy : y = encd (ekk c) (ekv c)) : (y &&& 1023).toInt = ekk c ∧ (y >>> (10 &&& 31)).toInt = ekv c := by
  obtain ⟨h1, h2, h3, h4, -⟩ := ekk_r h
  have b1 := shl_i (kk := 10) (k := 10) (c := 1024) rfl rfl (oi_i h3 (by omega)) h3 (by omega)
  have c1 := or_i (k := 10) (c := 1024) rfl (oi_i h1 (by omega)) h1 (by omega) b1 h3 (by omega)
  have e : y.toInt = ekk c + ekv c * ((1024 : Nat) : Int) := by
    rw [hy]
    exact c1
  have q1 := and_i (m := 1023) (k := 10) (c := 1024) rfl rfl e (by omega)
  have q2 := shr_i (kk := 10) (k := 10) (c := 1024) rfl rfl e (by omega)
  rw [q1, q2]
  omega
/-- the program's values -/
def StkC (st : List Int32) (G : GS) : Prop := (G.1 6 3).toInt = (st.length : Int) ∧ ∀ i, i < st.length → G.1 39 (st.length - 1 - i) = st.getD i 0
theorem k_push_eq {st : List Int32} {v : Int32} {G G1 : GS} (h : P_lPush v G G1) (hS : StkC st G) (hl : st.length < 100) : StkC (v :: st) G1 := by
  obtain ⟨-, -, hh⟩ := h
  have h0 := hS.1
  rcases hh with ⟨c, -⟩ | ⟨c, y3, t3, hF, e3, e39⟩
  · omega
  · rw [cn_eq h0] at e39
    refine ⟨by rw [e3, List.length_cons]; omega, fun i hi => ?_⟩
    rw [List.length_cons] at hi ⊢
    rw [e39]
    cases i with
    | zero =>
      rw [show upd (G.1 39) st.length v (st.length + 1 - 1 - 0) = v from if_pos (by omega)]
      rfl
    | succ i =>
      rw [show upd (G.1 39) st.length v (st.length + 1 - 1 - (i + 1)) = G.1 39 (st.length + 1 - 1 - (i + 1)) from if_neg (by omega), show st.length + 1 - 1 - (i + 1) = st.length - 1 - i by omega, hS.2 i (by omega)]
      simp
theorem k_pop_eq {st : List Int32} {r : Int32} {G G1 : GS} (h : P_lPop G r G1) (hS : StkC st G) : r = st.headD 0 ∧ StkC st.tail G1 := by
  obtain ⟨-, -, hh⟩ := h
  have h0 := hS.1
  cases st with
  | nil =>
    have h0' : (G.1 6 3).toInt = 0 := h0
    rcases hh with ⟨-, rfl, rfl⟩ | ⟨c, -⟩
    · exact ⟨rfl, hS⟩
    · omega
  | cons v st =>
    rw [List.length_cons] at h0
    rcases hh with ⟨c, -⟩ | ⟨c, y3, t3, y5, e5, rfl, hF, e3⟩
    · omega
    · have h1 := hS.2 0 (by simp)
      rw [List.length_cons] at h1
      rw [cn_eq (x := y3) (e := st.length) (by omega)] at e5
      refine ⟨?_, by rw [e3]; show y3.toInt = _; rw [List.tail_cons]; omega, fun i hi => ?_⟩
      · rw [e5]
        simpa using h1
      · rw [List.tail_cons] at hi ⊢
        rw [hF.row1 39 (by decide) (by decide)]
        have h2 := hS.2 (i + 1) (by simp; omega)
        rw [List.length_cons, show st.length + 1 - 1 - (i + 1) = st.length - 1 - i by omega] at h2
        simpa using h2
theorem k_own_eq {x : IC} {day p0 p1 r : Int32} {G G1 : GS} {a : Int} (h : P_lOwn p0 p1 day G r G1) (hx : ICok x) (h1 : p1 = encI x) (ha0 : 0 ≤ a) (ha8 : a ≤ 8) (hk : (a ≤ 4 → p0.toInt = 139 + a) ∧ (5 ≤ a → p0.toInt = 142 + a)) : G = G1 ∧ r.toInt = icQ x day.toInt a := by
  obtain ⟨-, hF, hh⟩ := h
  refine ⟨hF.nil, ?_⟩
  obtain ⟨e1, e2⟩ := encI_i hx
  rw [← h1] at e1
  unfold icQ
  have t3 : (3 : Int32).toInt = 3 := rfl
  have t1 : (1 : Int32).toInt = 1 := rfl
  have t2 : (2 : Int32).toInt = 2 := rfl
  rcases hh with ⟨c, r2, G3, hp, rfl, -⟩ | ⟨c, ⟨d, r2, G3, hp, rfl, -⟩ | ⟨d, ⟨f, r2, G3, hp, rfl, -⟩ | ⟨f, ⟨g, rfl, -⟩ | ⟨g, y20, e20, y21, e21, y22, e22, rfl, -⟩⟩⟩⟩
  · rw [if_neg (by omega), if_neg (by omega), if_pos (by omega)]
    have := (k_part_eq hp hx h1).2
    rw [this, t3]
    rfl
  · rw [if_neg (by omega), if_neg (by omega), if_neg (by omega), if_pos (by omega)]
    have := (k_part_eq hp hx h1).2
    rw [this, t1]
    rfl
  · rw [if_neg (by omega), if_neg (by omega), if_neg (by omega), if_neg (by omega), if_pos (by omega)]
    have := (k_part_eq hp hx h1).2
    rw [this, t2]
    rfl
  · rw [if_neg (by omega), if_neg (by omega), if_neg (by omega), if_neg (by omega), if_neg (by omega)]
  · have ha : a ≤ 4 := by
      refine Classical.byContradiction (fun q => ?_)
      have := hk.2 (by omega)
      omega
    have h20 : y20.toInt = a := by
      have e139 : (139 : Int32).toInt = 139 := rfl
      have := tI_sub e20 (by rw [e139]; omega) (by rw [e139]; omega)
      rw [e139] at this
      have := hk.1 ha
      omega
    have bit : ∀ (k c : Nat) (hc : 2 ^ k = c), (p1 >>> (y20 &&& 31)).toBitVec = p1.toBitVec.sshiftRight k → y22.toInt = encV x / (c : Int) % 2 := by
      intro k c hc hsh
      have s1 := shr_i hsh hc e1 e2
      rw [e22, e21]
      exact and_i (m := 1) (k := 1) (c := 2) rfl rfl s1 (Int.ediv_nonneg e2 (by omega))
    obtain ⟨m, nth, i, l⟩ := x
    obtain ⟨g1, g2, g3, g4, g5, g6, g7, g8⟩ := hx
    simp only at g1 g2 g3 g4 g5 g6 g7 g8
    have eV : encV (m, nth, i, l) = (if m < 0 then 1 else 2 * m) + 32 * nth + 16384 * i + 1048576 * l := rfl
    have h5 : a = 0 ∨ a = 1 ∨ a = 2 ∨ a = 3 ∨ a = 4 := by omega
    rcases h5 with rfl | rfl | rfl | rfl | rfl
    · have ey : y20 = 0 := Int32.toInt_inj.mp (by rw [h20]; rfl)
      have := bit 0 1 rfl (by rw [ey]; rfl)
      rw [this, eV, if_pos rfl]
      show _ = (if m < 0 then 1 else 0)
      by_cases hm : m < 0
      · rw [if_pos hm, if_pos hm]
        omega
      · rw [if_neg hm, if_neg hm]
        omega
    · have ey : y20 = 1 := Int32.toInt_inj.mp (by rw [h20]; rfl)
      have := bit 1 2 rfl (by rw [ey]; rfl)
      rw [if_neg (show ¬ (1 : Int) = 0 by decide), if_pos (show (1 : Int) ≤ 4 by decide), this, eV]
      show _ = (if m < 0 then 0 else m / 1 % 2)
      by_cases hm : m < 0
      · rw [if_pos hm, if_pos hm]
        omega
      · rw [if_neg hm, if_neg hm]
        omega
    · have ey : y20 = 2 := Int32.toInt_inj.mp (by rw [h20]; rfl)
      have := bit 2 4 rfl (by rw [ey]; rfl)
      rw [if_neg (show ¬ (2 : Int) = 0 by decide), if_pos (show (2 : Int) ≤ 4 by decide), this, eV]
      show _ = (if m < 0 then 0 else m / 2 % 2)
      by_cases hm : m < 0
      · rw [if_pos hm, if_pos hm]
        omega
      · rw [if_neg hm, if_neg hm]
        omega
    · have ey : y20 = 3 := Int32.toInt_inj.mp (by rw [h20]; rfl)
      have := bit 3 8 rfl (by rw [ey]; rfl)
      rw [if_neg (show ¬ (3 : Int) = 0 by decide), if_pos (show (3 : Int) ≤ 4 by decide), this, eV]
      show _ = (if m < 0 then 0 else m / 4 % 2)
      by_cases hm : m < 0
      · rw [if_pos hm, if_pos hm]
        omega
      · rw [if_neg hm, if_neg hm]
        omega
    · have ey : y20 = 4 := Int32.toInt_inj.mp (by rw [h20]; rfl)
      have := bit 4 16 rfl (by rw [ey]; rfl)
      rw [if_neg (show ¬ (4 : Int) = 0 by decide), if_pos (show (4 : Int) ≤ 4 by decide), this, eV]
      show _ = (if m < 0 then 0 else m / 8 % 2)
      by_cases hm : m < 0
      · rw [if_pos hm, if_pos hm]
        omega
      · rw [if_neg hm, if_neg hm]
        omega
