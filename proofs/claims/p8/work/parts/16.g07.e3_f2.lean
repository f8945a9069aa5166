/-! values -/
def don (o : Int) (x y : Int32) : Int32 := if o = 43 then x + y else if o = 45 then x - y else if o = 42 then x * y else if o = 47 then (if y.toInt = 0 then 0 else x / y) else if o = 37 then (if y.toInt = 0 then 0 else x - x / y * y) else if o = 60 then (if x.toInt < y.toInt then 1 else 0) else if o = 62 then (if y.toInt < x.toInt then 1 else 0) else if o = 61 then (if x.toInt = y.toInt then 1 else 0) else if o = 38 then (if x.toInt = 0 then 0 else if y.toInt = 0 then 0 else 1) else (if x.toInt = 0 then (if y.toInt = 0 then 0 else 1) else 1)
theorem don_124 (x y : Int32) : don 124 x y = (if x.toInt = 0 then (if y.toInt = 0 then 0 else 1) else 1) := by rw [don, if_neg (by decide), if_neg (by decide), if_neg (by decide), if_neg (by decide), if_neg (by decide), if_neg (by decide), if_neg (by decide), if_neg (by decide), if_neg (by decide)]
theorem don_38 (x y : Int32) : don 38 x y = (if x.toInt = 0 then 0 else if y.toInt = 0 then 0 else 1) := by rw [don, if_neg (by decide), if_neg (by decide), if_neg (by decide), if_neg (by decide), if_neg (by decide), if_neg (by decide), if_neg (by decide), if_neg (by decide), if_pos rfl]
theorem don_60 (x y : Int32) : don 60 x y = (if x.toInt < y.toInt then 1 else 0) := by rw [don, if_neg (by decide), if_neg (by decide), if_neg (by decide), if_neg (by decide), if_neg (by decide), if_pos rfl]
theorem don_62 (x y : Int32) : don 62 x y = (if y.toInt < x.toInt then 1 else 0) := by rw [don, if_neg (by decide), if_neg (by decide), if_neg (by decide), if_neg (by decide), if_neg (by decide), if_neg (by decide), if_pos rfl]
theorem don_61 (x y : Int32) : don 61 x y = (if x.toInt = y.toInt then 1 else 0) := by rw [don, if_neg (by decide), if_neg (by decide), if_neg (by decide), if_neg (by decide), if_neg (by decide), if_neg (by decide), if_neg (by decide), if_pos rfl]
theorem don_43 (x y : Int32) : don 43 x y = (x + y) := by rw [don, if_pos rfl]
theorem don_45 (x y : Int32) : don 45 x y = (x - y) := by rw [don, if_neg (by decide), if_pos rfl]
theorem don_42 (x y : Int32) : don 42 x y = (x * y) := by rw [don, if_neg (by decide), if_neg (by decide), if_pos rfl]
theorem don_47 (x y : Int32) : don 47 x y = (if y.toInt = 0 then 0 else x / y) := by rw [don, if_neg (by decide), if_neg (by decide), if_neg (by decide), if_pos rfl]
theorem don_37 (x y : Int32) : don 37 x y = (if y.toInt = 0 then 0 else x - x / y * y) := by rw [don, if_neg (by decide), if_neg (by decide), if_neg (by decide), if_neg (by decide), if_pos rfl]
theorem k_join_eq {p0 p1 p2 r : Int32} {G G1 : GS} {o : Int} (h : P_lJoin p0 p1 p2 G r G1) (ho : sgO o) (hk : p0.toInt = ekk (3, o)) : G = G1 ∧ r = don o p1 p2 := by
  obtain ⟨-, hF, hh⟩ := h
  refine ⟨hF.nil, ?_⟩
  rcases ho with rfl | rfl | rfl | rfl | rfl | rfl | rfl | rfl | rfl | rfl
  · replace hk : p0.toInt = 144 := hk
    rcases hh with ⟨c, -⟩ | ⟨-, hh⟩
    · exact absurd (hk.symm.trans c) (by decide)
    rcases hh with ⟨c, -⟩ | ⟨-, hh⟩
    · exact absurd (hk.symm.trans c) (by decide)
    rcases hh with ⟨c, -⟩ | ⟨-, hh⟩
    · exact absurd (hk.symm.trans c) (by decide)
    rcases hh with ⟨c, -⟩ | ⟨-, hh⟩
    · exact absurd (hk.symm.trans c) (by decide)
    rcases hh with ⟨c, -⟩ | ⟨-, hh⟩
    · exact absurd (hk.symm.trans c) (by decide)
    rcases hh with ⟨c, -⟩ | ⟨-, hh⟩
    · exact absurd (hk.symm.trans c) (by decide)
    rcases hh with ⟨c, -⟩ | ⟨-, hh⟩
    · exact absurd (hk.symm.trans c) (by decide)
    rcases hh with ⟨-, hh⟩ | ⟨c, -⟩
    rotate_left
    · exact absurd hk c
    rcases hh with ⟨d, ⟨f, rfl, -⟩ | ⟨f, rfl, -⟩⟩ | ⟨d, rfl, -⟩
    · rw [don_124, if_pos d, if_pos f]
    · rw [don_124, if_pos d, if_neg f]
    · rw [don_124, if_neg d]
  · replace hk : p0.toInt = 145 := hk
    rcases hh with ⟨c, -⟩ | ⟨-, hh⟩
    · exact absurd (hk.symm.trans c) (by decide)
    rcases hh with ⟨c, -⟩ | ⟨-, hh⟩
    · exact absurd (hk.symm.trans c) (by decide)
    rcases hh with ⟨c, -⟩ | ⟨-, hh⟩
    · exact absurd (hk.symm.trans c) (by decide)
    rcases hh with ⟨c, -⟩ | ⟨-, hh⟩
    · exact absurd (hk.symm.trans c) (by decide)
    rcases hh with ⟨c, -⟩ | ⟨-, hh⟩
    · exact absurd (hk.symm.trans c) (by decide)
    rcases hh with ⟨c, -⟩ | ⟨-, hh⟩
    · exact absurd (hk.symm.trans c) (by decide)
    rcases hh with ⟨c, -⟩ | ⟨-, hh⟩
    · exact absurd (hk.symm.trans c) (by decide)
    rcases hh with ⟨c, -⟩ | ⟨-, hh⟩
    · exact absurd (hk.symm.trans c) (by decide)
    rcases hh with ⟨-, hh⟩ | ⟨c, -⟩
    rotate_left
    · exact absurd hk c
    rcases hh with ⟨d, rfl, -⟩ | ⟨d, ⟨f, rfl, -⟩ | ⟨f, rfl, -⟩⟩
    · rw [don_38, if_pos d]
    · rw [don_38, if_neg d, if_pos f]
    · rw [don_38, if_neg d, if_neg f]
  · replace hk : p0.toInt = 60 := hk
    rcases hh with ⟨c, -⟩ | ⟨-, hh⟩
    · exact absurd (hk.symm.trans c) (by decide)
    rcases hh with ⟨c, -⟩ | ⟨-, hh⟩
    · exact absurd (hk.symm.trans c) (by decide)
    rcases hh with ⟨c, -⟩ | ⟨-, hh⟩
    · exact absurd (hk.symm.trans c) (by decide)
    rcases hh with ⟨c, -⟩ | ⟨-, hh⟩
    · exact absurd (hk.symm.trans c) (by decide)
    rcases hh with ⟨-, hh⟩ | ⟨c, -⟩
    rotate_left
    · exact absurd hk c
    rcases hh with ⟨d, rfl, -⟩ | ⟨d, rfl, -⟩
    · rw [don_60, if_neg (by omega)]
    · rw [don_60, if_pos d]
  · replace hk : p0.toInt = 62 := hk
    rcases hh with ⟨c, -⟩ | ⟨-, hh⟩
    · exact absurd (hk.symm.trans c) (by decide)
    rcases hh with ⟨c, -⟩ | ⟨-, hh⟩
    · exact absurd (hk.symm.trans c) (by decide)
    rcases hh with ⟨c, -⟩ | ⟨-, hh⟩
    · exact absurd (hk.symm.trans c) (by decide)
    rcases hh with ⟨c, -⟩ | ⟨-, hh⟩
    · exact absurd (hk.symm.trans c) (by decide)
    rcases hh with ⟨c, -⟩ | ⟨-, hh⟩
    · exact absurd (hk.symm.trans c) (by decide)
    rcases hh with ⟨c, -⟩ | ⟨-, hh⟩
    · exact absurd (hk.symm.trans c) (by decide)
    rcases hh with ⟨-, hh⟩ | ⟨c, -⟩
    rotate_left
    · exact absurd hk c
    rcases hh with ⟨d, rfl, -⟩ | ⟨d, rfl, -⟩
    · rw [don_62, if_neg (by omega)]
    · rw [don_62, if_pos d]
  · replace hk : p0.toInt = 61 := hk
    rcases hh with ⟨c, -⟩ | ⟨-, hh⟩
    · exact absurd (hk.symm.trans c) (by decide)
    rcases hh with ⟨c, -⟩ | ⟨-, hh⟩
    · exact absurd (hk.symm.trans c) (by decide)
    rcases hh with ⟨c, -⟩ | ⟨-, hh⟩
    · exact absurd (hk.symm.trans c) (by decide)
    rcases hh with ⟨c, -⟩ | ⟨-, hh⟩
    · exact absurd (hk.symm.trans c) (by decide)
    rcases hh with ⟨c, -⟩ | ⟨-, hh⟩
    · exact absurd (hk.symm.trans c) (by decide)
    rcases hh with ⟨-, hh⟩ | ⟨c, -⟩
    rotate_left
    · exact absurd hk c
    rcases hh with ⟨d, rfl, -⟩ | ⟨d, rfl, -⟩
    · rw [don_61, if_pos d]
    · rw [don_61, if_neg d]
  · replace hk : p0.toInt = 43 := hk
    rcases hh with ⟨c, -⟩ | ⟨-, hh⟩
    · exact absurd (hk.symm.trans c) (by decide)
    rcases hh with ⟨-, hh⟩ | ⟨c, -⟩
    rotate_left
    · exact absurd hk c
    obtain ⟨y, e, rfl, -⟩ := hh
    rw [don_43]
    exact e
  · replace hk : p0.toInt = 45 := hk
    rcases hh with ⟨c, -⟩ | ⟨-, hh⟩
    · exact absurd (hk.symm.trans c) (by decide)
    rcases hh with ⟨c, -⟩ | ⟨-, hh⟩
    · exact absurd (hk.symm.trans c) (by decide)
    rcases hh with ⟨-, hh⟩ | ⟨c, -⟩
    rotate_left
    · exact absurd hk c
    obtain ⟨y, e, rfl, -⟩ := hh
    rw [don_45]
    exact e
  · replace hk : p0.toInt = 42 := hk
    rcases hh with ⟨-, hh⟩ | ⟨c, -⟩
    rotate_left
    · exact absurd hk c
    obtain ⟨y, e, rfl, -⟩ := hh
    rw [don_42]
    exact e
  · replace hk : p0.toInt = 47 := hk
    rcases hh with ⟨c, -⟩ | ⟨-, hh⟩
    · exact absurd (hk.symm.trans c) (by decide)
    rcases hh with ⟨c, -⟩ | ⟨-, hh⟩
    · exact absurd (hk.symm.trans c) (by decide)
    rcases hh with ⟨c, -⟩ | ⟨-, hh⟩
    · exact absurd (hk.symm.trans c) (by decide)
    rcases hh with ⟨-, hh⟩ | ⟨c, -⟩
    rotate_left
    · exact absurd hk c
    rcases hh with ⟨d, rfl, -⟩ | ⟨d, y, e, rfl, -⟩
    · rw [don_47, if_pos d]
    · rw [don_47, if_neg d]
      exact e
  · replace hk : p0.toInt = 37 := hk
    rcases hh with ⟨c, -⟩ | ⟨-, hh⟩
    · exact absurd (hk.symm.trans c) (by decide)
    rcases hh with ⟨c, -⟩ | ⟨-, hh⟩
    · exact absurd (hk.symm.trans c) (by decide)
    rcases hh with ⟨c, -⟩ | ⟨-, hh⟩
    · exact absurd (hk.symm.trans c) (by decide)
    rcases hh with ⟨c, -⟩ | ⟨-, hh⟩
    · exact absurd (hk.symm.trans c) (by decide)
    rcases hh with ⟨c, -⟩ | ⟨-, hh⟩
    · exact absurd (hk.symm.trans c) (by decide)
    rcases hh with ⟨c, -⟩ | ⟨-, hh⟩
    · exact absurd (hk.symm.trans c) (by decide)
    rcases hh with ⟨c, -⟩ | ⟨-, hh⟩
    · exact absurd (hk.symm.trans c) (by decide)
    rcases hh with ⟨c, -⟩ | ⟨-, hh⟩
    · exact absurd (hk.symm.trans c) (by decide)
    rcases hh with ⟨c, -⟩ | ⟨-, hh⟩
    · exact absurd (hk.symm.trans c) (by decide)
    rcases hh with ⟨d, rfl, -⟩ | ⟨d, y, e, rfl, -⟩
    · rw [don_37, if_pos d]
    · rw [don_37, if_neg d]
      exact e
theorem q_done_eq {p0 p1 p2 r : Int32} {G G1 : GS} {o : Int} (h : Q_done p0 p1 p2 G r G1) (ho : sgO o) (hk : p0.toInt = o) : G = G1 ∧ r = don o p1 p2 := by
  obtain ⟨-, hF, hh⟩ := h
  refine ⟨hF.nil, ?_⟩
  rcases ho with rfl | rfl | rfl | rfl | rfl | rfl | rfl | rfl | rfl | rfl
  · replace hk : p0.toInt = 124 := hk
    rcases hh with ⟨c, -⟩ | ⟨-, hh⟩
    · exact absurd (hk.symm.trans c) (by decide)
    rcases hh with ⟨c, -⟩ | ⟨-, hh⟩
    · exact absurd (hk.symm.trans c) (by decide)
    rcases hh with ⟨c, -⟩ | ⟨-, hh⟩
    · exact absurd (hk.symm.trans c) (by decide)
    rcases hh with ⟨c, -⟩ | ⟨-, hh⟩
    · exact absurd (hk.symm.trans c) (by decide)
    rcases hh with ⟨c, -⟩ | ⟨-, hh⟩
    · exact absurd (hk.symm.trans c) (by decide)
    rcases hh with ⟨c, -⟩ | ⟨-, hh⟩
    · exact absurd (hk.symm.trans c) (by decide)
    rcases hh with ⟨c, -⟩ | ⟨-, hh⟩
    · exact absurd (hk.symm.trans c) (by decide)
    rcases hh with ⟨c, -⟩ | ⟨-, hh⟩
    · exact absurd (hk.symm.trans c) (by decide)
    rcases hh with ⟨c, -⟩ | ⟨-, hh⟩
    · exact absurd (hk.symm.trans c) (by decide)
    rcases hh with ⟨c, -⟩ | ⟨-, hh⟩
    · exact absurd (hk.symm.trans c) (by decide)
    rcases hh with ⟨c, -⟩ | ⟨-, hh⟩
    · exact absurd (hk.symm.trans c) (by decide)
    rcases hh with ⟨c, -⟩ | ⟨-, hh⟩
    · exact absurd (hk.symm.trans c) (by decide)
    rcases hh with ⟨c, -⟩ | ⟨-, hh⟩
    · exact absurd (hk.symm.trans c) (by decide)
    rcases hh with ⟨c, -⟩ | ⟨-, hh⟩
    · exact absurd (hk.symm.trans c) (by decide)
    rcases hh with ⟨c, -⟩ | ⟨-, hh⟩
    · exact absurd (hk.symm.trans c) (by decide)
    rcases hh with ⟨c, -⟩ | ⟨-, hh⟩
    · exact absurd (hk.symm.trans c) (by decide)
    rcases hh with ⟨c, -⟩ | ⟨-, hh⟩
    · exact absurd (hk.symm.trans c) (by decide)
    rcases hh with ⟨c, -⟩ | ⟨-, hh⟩
    · exact absurd (hk.symm.trans c) (by decide)
    rcases hh with ⟨c, -⟩ | ⟨-, hh⟩
    · exact absurd (hk.symm.trans c) (by decide)
    rcases hh with ⟨c, -⟩ | ⟨-, hh⟩
    · exact absurd (hk.symm.trans c) (by decide)
    rcases hh with ⟨c, -⟩ | ⟨-, hh⟩
    · exact absurd (hk.symm.trans c) (by decide)
    rcases hh with ⟨c, -⟩ | ⟨-, hh⟩
    · exact absurd (hk.symm.trans c) (by decide)
    rcases hh with ⟨c, -⟩ | ⟨-, hh⟩
    · exact absurd (hk.symm.trans c) (by decide)
    rcases hh with ⟨c, -⟩ | ⟨-, hh⟩
    · exact absurd (hk.symm.trans c) (by decide)
    rcases hh with ⟨c, -⟩ | ⟨-, hh⟩
    · exact absurd (hk.symm.trans c) (by decide)
    rcases hh with ⟨c, -⟩ | ⟨-, hh⟩
    · exact absurd (hk.symm.trans c) (by decide)
    rcases hh with ⟨d, ⟨f, r7, G8, hq, rfl, -⟩ | ⟨f, r7, G8, hq, rfl, -⟩⟩ | ⟨d, r7, G8, hq, rfl, -⟩
    · rw [don_124, if_pos d, if_pos f]
      exact Int32.toInt_inj.mp (q_truth hq).2
    · rw [don_124, if_pos d, if_neg f]
      exact Int32.toInt_inj.mp (q_truth hq).2
    · rw [don_124, if_neg d]
      exact Int32.toInt_inj.mp (q_truth hq).2
  · replace hk : p0.toInt = 38 := hk
    rcases hh with ⟨c, -⟩ | ⟨-, hh⟩
    · exact absurd (hk.symm.trans c) (by decide)
    rcases hh with ⟨-, hh⟩ | ⟨c, -⟩
    rotate_left
    · exact absurd hk c
    rcases hh with ⟨d, r7, G8, hq, rfl, -⟩ | ⟨d, ⟨f, r7, G8, hq, rfl, -⟩ | ⟨f, r7, G8, hq, rfl, -⟩⟩
    · rw [don_38, if_pos d]
      exact Int32.toInt_inj.mp (q_truth hq).2
    · rw [don_38, if_neg d, if_pos f]
      exact Int32.toInt_inj.mp (q_truth hq).2
    · rw [don_38, if_neg d, if_neg f]
      exact Int32.toInt_inj.mp (q_truth hq).2
  · replace hk : p0.toInt = 60 := hk
    rcases hh with ⟨c, -⟩ | ⟨-, hh⟩
    · exact absurd (hk.symm.trans c) (by decide)
    rcases hh with ⟨c, -⟩ | ⟨-, hh⟩
    · exact absurd (hk.symm.trans c) (by decide)
    rcases hh with ⟨c, -⟩ | ⟨-, hh⟩
    · exact absurd (hk.symm.trans c) (by decide)
    rcases hh with ⟨c, -⟩ | ⟨-, hh⟩
    · exact absurd (hk.symm.trans c) (by decide)
    rcases hh with ⟨c, -⟩ | ⟨-, hh⟩
    · exact absurd (hk.symm.trans c) (by decide)
    rcases hh with ⟨c, -⟩ | ⟨-, hh⟩
    · exact absurd (hk.symm.trans c) (by decide)
    rcases hh with ⟨c, -⟩ | ⟨-, hh⟩
    · exact absurd (hk.symm.trans c) (by decide)
    rcases hh with ⟨c, -⟩ | ⟨-, hh⟩
    · exact absurd (hk.symm.trans c) (by decide)
    rcases hh with ⟨c, -⟩ | ⟨-, hh⟩
    · exact absurd (hk.symm.trans c) (by decide)
    rcases hh with ⟨c, -⟩ | ⟨-, hh⟩
    · exact absurd (hk.symm.trans c) (by decide)
    rcases hh with ⟨c, -⟩ | ⟨-, hh⟩
    · exact absurd (hk.symm.trans c) (by decide)
    rcases hh with ⟨c, -⟩ | ⟨-, hh⟩
    · exact absurd (hk.symm.trans c) (by decide)
    rcases hh with ⟨c, -⟩ | ⟨-, hh⟩
    · exact absurd (hk.symm.trans c) (by decide)
    rcases hh with ⟨c, -⟩ | ⟨-, hh⟩
    · exact absurd (hk.symm.trans c) (by decide)
    rcases hh with ⟨c, -⟩ | ⟨-, hh⟩
    · exact absurd (hk.symm.trans c) (by decide)
    rcases hh with ⟨c, -⟩ | ⟨-, hh⟩
    · exact absurd (hk.symm.trans c) (by decide)
    rcases hh with ⟨c, -⟩ | ⟨-, hh⟩
    · exact absurd (hk.symm.trans c) (by decide)
    rcases hh with ⟨c, -⟩ | ⟨-, hh⟩
    · exact absurd (hk.symm.trans c) (by decide)
    rcases hh with ⟨c, -⟩ | ⟨-, hh⟩
    · exact absurd (hk.symm.trans c) (by decide)
    rcases hh with ⟨c, -⟩ | ⟨-, hh⟩
    · exact absurd (hk.symm.trans c) (by decide)
    rcases hh with ⟨c, -⟩ | ⟨-, hh⟩
    · exact absurd (hk.symm.trans c) (by decide)
    rcases hh with ⟨c, -⟩ | ⟨-, hh⟩
    · exact absurd (hk.symm.trans c) (by decide)
    rcases hh with ⟨c, -⟩ | ⟨-, hh⟩
    · exact absurd (hk.symm.trans c) (by decide)
    rcases hh with ⟨-, hh⟩ | ⟨c, -⟩
    rotate_left
    · exact absurd hk c
    rcases hh with ⟨d, r7, G8, hq, rfl, -⟩ | ⟨d, r7, G8, hq, rfl, -⟩
    · rw [don_60, if_neg (by omega)]
      exact Int32.toInt_inj.mp (q_truth hq).2
    · rw [don_60, if_pos d]
      exact Int32.toInt_inj.mp (q_truth hq).2
  · replace hk : p0.toInt = 62 := hk
    rcases hh with ⟨c, -⟩ | ⟨-, hh⟩
    · exact absurd (hk.symm.trans c) (by decide)
    rcases hh with ⟨c, -⟩ | ⟨-, hh⟩
    · exact absurd (hk.symm.trans c) (by decide)
    rcases hh with ⟨c, -⟩ | ⟨-, hh⟩
    · exact absurd (hk.symm.trans c) (by decide)
    rcases hh with ⟨c, -⟩ | ⟨-, hh⟩
    · exact absurd (hk.symm.trans c) (by decide)
    rcases hh with ⟨c, -⟩ | ⟨-, hh⟩
    · exact absurd (hk.symm.trans c) (by decide)
    rcases hh with ⟨c, -⟩ | ⟨-, hh⟩
    · exact absurd (hk.symm.trans c) (by decide)
    rcases hh with ⟨c, -⟩ | ⟨-, hh⟩
    · exact absurd (hk.symm.trans c) (by decide)
    rcases hh with ⟨c, -⟩ | ⟨-, hh⟩
    · exact absurd (hk.symm.trans c) (by decide)
    rcases hh with ⟨c, -⟩ | ⟨-, hh⟩
    · exact absurd (hk.symm.trans c) (by decide)
    rcases hh with ⟨c, -⟩ | ⟨-, hh⟩
    · exact absurd (hk.symm.trans c) (by decide)
    rcases hh with ⟨c, -⟩ | ⟨-, hh⟩
    · exact absurd (hk.symm.trans c) (by decide)
    rcases hh with ⟨c, -⟩ | ⟨-, hh⟩
    · exact absurd (hk.symm.trans c) (by decide)
    rcases hh with ⟨c, -⟩ | ⟨-, hh⟩
    · exact absurd (hk.symm.trans c) (by decide)
    rcases hh with ⟨c, -⟩ | ⟨-, hh⟩
    · exact absurd (hk.symm.trans c) (by decide)
    rcases hh with ⟨c, -⟩ | ⟨-, hh⟩
    · exact absurd (hk.symm.trans c) (by decide)
    rcases hh with ⟨c, -⟩ | ⟨-, hh⟩
    · exact absurd (hk.symm.trans c) (by decide)
    rcases hh with ⟨c, -⟩ | ⟨-, hh⟩
    · exact absurd (hk.symm.trans c) (by decide)
    rcases hh with ⟨c, -⟩ | ⟨-, hh⟩
    · exact absurd (hk.symm.trans c) (by decide)
    rcases hh with ⟨c, -⟩ | ⟨-, hh⟩
    · exact absurd (hk.symm.trans c) (by decide)
    rcases hh with ⟨c, -⟩ | ⟨-, hh⟩
    · exact absurd (hk.symm.trans c) (by decide)
    rcases hh with ⟨c, -⟩ | ⟨-, hh⟩
    · exact absurd (hk.symm.trans c) (by decide)
    rcases hh with ⟨c, -⟩ | ⟨-, hh⟩
    · exact absurd (hk.symm.trans c) (by decide)
    rcases hh with ⟨c, -⟩ | ⟨-, hh⟩
    · exact absurd (hk.symm.trans c) (by decide)
    rcases hh with ⟨c, -⟩ | ⟨-, hh⟩
    · exact absurd (hk.symm.trans c) (by decide)
    rcases hh with ⟨c, -⟩ | ⟨-, hh⟩
    · exact absurd (hk.symm.trans c) (by decide)
    rcases hh with ⟨-, hh⟩ | ⟨c, -⟩
    rotate_left
    · exact absurd hk c
    rcases hh with ⟨d, r7, G8, hq, rfl, -⟩ | ⟨d, r7, G8, hq, rfl, -⟩
    · rw [don_62, if_neg (by omega)]
      exact Int32.toInt_inj.mp (q_truth hq).2
    · rw [don_62, if_pos d]
      exact Int32.toInt_inj.mp (q_truth hq).2
  · replace hk : p0.toInt = 61 := hk
    rcases hh with ⟨c, -⟩ | ⟨-, hh⟩
    · exact absurd (hk.symm.trans c) (by decide)
    rcases hh with ⟨c, -⟩ | ⟨-, hh⟩
    · exact absurd (hk.symm.trans c) (by decide)
    rcases hh with ⟨c, -⟩ | ⟨-, hh⟩
    · exact absurd (hk.symm.trans c) (by decide)
    rcases hh with ⟨c, -⟩ | ⟨-, hh⟩
    · exact absurd (hk.symm.trans c) (by decide)
    rcases hh with ⟨c, -⟩ | ⟨-, hh⟩
    · exact absurd (hk.symm.trans c) (by decide)
    rcases hh with ⟨c, -⟩ | ⟨-, hh⟩
    · exact absurd (hk.symm.trans c) (by decide)
    rcases hh with ⟨c, -⟩ | ⟨-, hh⟩
    · exact absurd (hk.symm.trans c) (by decide)
    rcases hh with ⟨c, -⟩ | ⟨-, hh⟩
    · exact absurd (hk.symm.trans c) (by decide)
    rcases hh with ⟨c, -⟩ | ⟨-, hh⟩
    · exact absurd (hk.symm.trans c) (by decide)
    rcases hh with ⟨c, -⟩ | ⟨-, hh⟩
    · exact absurd (hk.symm.trans c) (by decide)
    rcases hh with ⟨c, -⟩ | ⟨-, hh⟩
    · exact absurd (hk.symm.trans c) (by decide)
    rcases hh with ⟨c, -⟩ | ⟨-, hh⟩
    · exact absurd (hk.symm.trans c) (by decide)
    rcases hh with ⟨c, -⟩ | ⟨-, hh⟩
    · exact absurd (hk.symm.trans c) (by decide)
    rcases hh with ⟨c, -⟩ | ⟨-, hh⟩
    · exact absurd (hk.symm.trans c) (by decide)
    rcases hh with ⟨c, -⟩ | ⟨-, hh⟩
    · exact absurd (hk.symm.trans c) (by decide)
    rcases hh with ⟨c, -⟩ | ⟨-, hh⟩
    · exact absurd (hk.symm.trans c) (by decide)
    rcases hh with ⟨c, -⟩ | ⟨-, hh⟩
    · exact absurd (hk.symm.trans c) (by decide)
    rcases hh with ⟨c, -⟩ | ⟨-, hh⟩
    · exact absurd (hk.symm.trans c) (by decide)
    rcases hh with ⟨c, -⟩ | ⟨-, hh⟩
    · exact absurd (hk.symm.trans c) (by decide)
    rcases hh with ⟨c, -⟩ | ⟨-, hh⟩
    · exact absurd (hk.symm.trans c) (by decide)
    rcases hh with ⟨c, -⟩ | ⟨-, hh⟩
    · exact absurd (hk.symm.trans c) (by decide)
    rcases hh with ⟨c, -⟩ | ⟨-, hh⟩
    · exact absurd (hk.symm.trans c) (by decide)
    rcases hh with ⟨c, -⟩ | ⟨-, hh⟩
    · exact absurd (hk.symm.trans c) (by decide)
    rcases hh with ⟨c, -⟩ | ⟨-, hh⟩
    · exact absurd (hk.symm.trans c) (by decide)
    rcases hh with ⟨-, hh⟩ | ⟨c, -⟩
    rotate_left
    · exact absurd hk c
    rcases hh with ⟨d, r7, G8, hq, rfl, -⟩ | ⟨d, r7, G8, hq, rfl, -⟩
    · rw [don_61, if_pos d]
      exact Int32.toInt_inj.mp (q_truth hq).2
    · rw [don_61, if_neg d]
      exact Int32.toInt_inj.mp (q_truth hq).2
  · replace hk : p0.toInt = 43 := hk
    rcases hh with ⟨c, -⟩ | ⟨-, hh⟩
    · exact absurd (hk.symm.trans c) (by decide)
    rcases hh with ⟨c, -⟩ | ⟨-, hh⟩
    · exact absurd (hk.symm.trans c) (by decide)
    rcases hh with ⟨c, -⟩ | ⟨-, hh⟩
    · exact absurd (hk.symm.trans c) (by decide)
    rcases hh with ⟨c, -⟩ | ⟨-, hh⟩
    · exact absurd (hk.symm.trans c) (by decide)
    rcases hh with ⟨c, -⟩ | ⟨-, hh⟩
    · exact absurd (hk.symm.trans c) (by decide)
    rcases hh with ⟨c, -⟩ | ⟨-, hh⟩
    · exact absurd (hk.symm.trans c) (by decide)
    rcases hh with ⟨-, hh⟩ | ⟨c, -⟩
    rotate_left
    · exact absurd hk c
    obtain ⟨y, e, rfl, -⟩ := hh
    rw [don_43]
    exact e
  · replace hk : p0.toInt = 45 := hk
    rcases hh with ⟨c, -⟩ | ⟨-, hh⟩
    · exact absurd (hk.symm.trans c) (by decide)
    rcases hh with ⟨c, -⟩ | ⟨-, hh⟩
    · exact absurd (hk.symm.trans c) (by decide)
    rcases hh with ⟨c, -⟩ | ⟨-, hh⟩
    · exact absurd (hk.symm.trans c) (by decide)
    rcases hh with ⟨c, -⟩ | ⟨-, hh⟩
    · exact absurd (hk.symm.trans c) (by decide)
    rcases hh with ⟨c, -⟩ | ⟨-, hh⟩
    · exact absurd (hk.symm.trans c) (by decide)
    rcases hh with ⟨c, -⟩ | ⟨-, hh⟩
    · exact absurd (hk.symm.trans c) (by decide)
    rcases hh with ⟨c, -⟩ | ⟨-, hh⟩
    · exact absurd (hk.symm.trans c) (by decide)
    rcases hh with ⟨c, -⟩ | ⟨-, hh⟩
    · exact absurd (hk.symm.trans c) (by decide)
    rcases hh with ⟨-, hh⟩ | ⟨c, -⟩
    rotate_left
    · exact absurd hk c
    obtain ⟨y, e, rfl, -⟩ := hh
    rw [don_45]
    exact e
  · replace hk : p0.toInt = 42 := hk
    rcases hh with ⟨c, -⟩ | ⟨-, hh⟩
    · exact absurd (hk.symm.trans c) (by decide)
    rcases hh with ⟨c, -⟩ | ⟨-, hh⟩
    · exact absurd (hk.symm.trans c) (by decide)
    rcases hh with ⟨c, -⟩ | ⟨-, hh⟩
    · exact absurd (hk.symm.trans c) (by decide)
    rcases hh with ⟨c, -⟩ | ⟨-, hh⟩
    · exact absurd (hk.symm.trans c) (by decide)
    rcases hh with ⟨c, -⟩ | ⟨-, hh⟩
    · exact absurd (hk.symm.trans c) (by decide)
    rcases hh with ⟨-, hh⟩ | ⟨c, -⟩
    rotate_left
    · exact absurd hk c
    obtain ⟨y, e, rfl, -⟩ := hh
    rw [don_42]
    exact e
  · replace hk : p0.toInt = 47 := hk
    rcases hh with ⟨c, -⟩ | ⟨-, hh⟩
    · exact absurd (hk.symm.trans c) (by decide)
    rcases hh with ⟨c, -⟩ | ⟨-, hh⟩
    · exact absurd (hk.symm.trans c) (by decide)
    rcases hh with ⟨c, -⟩ | ⟨-, hh⟩
    · exact absurd (hk.symm.trans c) (by decide)
    rcases hh with ⟨c, -⟩ | ⟨-, hh⟩
    · exact absurd (hk.symm.trans c) (by decide)
    rcases hh with ⟨c, -⟩ | ⟨-, hh⟩
    · exact absurd (hk.symm.trans c) (by decide)
    rcases hh with ⟨c, -⟩ | ⟨-, hh⟩
    · exact absurd (hk.symm.trans c) (by decide)
    rcases hh with ⟨c, -⟩ | ⟨-, hh⟩
    · exact absurd (hk.symm.trans c) (by decide)
    rcases hh with ⟨c, -⟩ | ⟨-, hh⟩
    · exact absurd (hk.symm.trans c) (by decide)
    rcases hh with ⟨c, -⟩ | ⟨-, hh⟩
    · exact absurd (hk.symm.trans c) (by decide)
    rcases hh with ⟨c, -⟩ | ⟨-, hh⟩
    · exact absurd (hk.symm.trans c) (by decide)
    rcases hh with ⟨-, hh⟩ | ⟨c, -⟩
    rotate_left
    · exact absurd hk c
    rcases hh with ⟨d, rfl, -⟩ | ⟨d, y, e, rfl, -⟩
    · rw [don_47, if_pos d]
    · rw [don_47, if_neg d]
      exact e
  · replace hk : p0.toInt = 37 := hk
    rcases hh with ⟨-, hh⟩ | ⟨c, -⟩
    rotate_left
    · exact absurd hk c
    rcases hh with ⟨d, rfl, -⟩ | ⟨d, y, e, rfl, -⟩
    · rw [don_37, if_pos d]
    · rw [don_37, if_neg d]
      exact e

/-! formulas worked out -/
def icQ (x : IC) (day a : Int) : Int := if a = 0 then (if x.1 < 0 then 1 else 0) else if a ≤ 4 then (if x.1 < 0 then 0 else x.1 / 2 ^ (a - 1).toNat % 2) else if a = 5 then x.2.2.2 else if a = 6 then x.2.1 else if a = 7 then x.2.2.1 else day
def ev1 (x : IC) (day : Int32) (st : List Int32) (c : Int × Int) : List Int32 := if c.1 = 0 then Int32.ofInt c.2 :: st else if c.1 = 1 then Int32.ofInt (icQ x day.toInt c.2) :: st else if c.1 = 2 then (if (st.headD 0).toInt = 0 then 1 else 0) :: st.tail else don c.2 (st.tail.headD 0) (st.headD 0) :: st.tail.tail
def evl (x : IC) (day : Int32) (C : List (Int × Int)) : List Int32 := C.foldl (ev1 x day) []
theorem evl_take {x : IC} {day : Int32} {C : List (Int × Int)} {i : Nat} (h : i < C.length) : evl x day (C.take (i + 1)) = ev1 x day (evl x day (C.take i)) (C.getD i (0, 0)) := by
  have e : C.take (i + 1) = C.take i ++ [C.getD i (0, 0)] := by
    rw [List.take_succ, List.getD_eq_getElem?_getD, List.getElem?_eq_getElem h]
    rfl
  rw [e]
  simp [evl, List.foldl_append]
theorem dep_take1 {C : List (Int × Int)} {i : Nat} (h : i < C.length) : dep (C.take (i + 1)) = dst (dep (C.take i)) (C.getD i (0, 0)) := by
  have e : C.take (i + 1) = C.take i ++ [C.getD i (0, 0)] := by
    rw [List.take_succ, List.getD_eq_getElem?_getD, List.getElem?_eq_getElem h]
    rfl
  rw [e, dep_snoc]
theorem dst_none (C : List (Int × Int)) : C.foldl dst none = none := by
  induction C with
  | nil => rfl
  | cons c C ih => exact ih
theorem dep_some {C : List (Int × Int)} {d : Nat} (h : dep C = some d) (i : Nat) : ∃ k, dep (C.take i) = some k := by
  have e : C.take i ++ C.drop i = C := List.take_append_drop i C
  cases hk : dep (C.take i) with
  | some k => exact ⟨k, rfl⟩
  | none =>
    have h2 : dep C = none := by
      rw [← e]
      unfold dep at hk ⊢
      rw [List.foldl_append, hk, dst_none]
    rw [h2] at h
    exact absurd h (by simp)
theorem nPu_le {C : List (Int × Int)} (i : Nat) : nPu (C.take i) ≤ nPu C := by
  have e : C.take i ++ C.drop i = C := List.take_append_drop i C
  have h : nPu C = nPu (C.take i) + nPu (C.drop i) := by
    conv => lhs; rw [← e]
    unfold nPu
    rw [List.filter_append, List.length_append]
  omega
/-- so many values stand as the code says, and no more than it has pushes -/
theorem evl_len {x : IC} {day : Int32} {C : List (Int × Int)} {d : Nat} (h : dep C = some d) (hok : ∀ c ∈ C, cOK c) : ∀ i, i ≤ C.length → dep (C.take i) = some (evl x day (C.take i)).length ∧ (evl x day (C.take i)).length ≤ nPu (C.take i) := by
  intro i
  induction i with
  | zero => intro _; exact ⟨rfl, Nat.zero_le _⟩
  | succ i ih =>
    intro hi
    obtain ⟨h1, h2⟩ := ih (by omega)
    obtain ⟨k, hk⟩ := dep_some h (i + 1)
    have e1 := dep_take1 (C := C) (i := i) (by omega)
    have e2 := evl_take (x := x) (day := day) (C := C) (i := i) (by omega)
    have ep : nPu (C.take (i + 1)) = nPu (C.take i) + (if (C.getD i (0, 0)).1 ≤ 1 then 1 else 0) := by
      have e : C.take (i + 1) = C.take i ++ [C.getD i (0, 0)] := by
        rw [List.take_succ, List.getD_eq_getElem?_getD, List.getElem?_eq_getElem (by omega)]
        rfl
      rw [e, nPu_snoc]
    rw [h1, hk] at e1
    obtain ⟨st, hst⟩ : ∃ st, st = evl x day (C.take i) := ⟨_, rfl⟩
    obtain ⟨c, hc⟩ : ∃ c, c = C.getD i (0, 0) := ⟨_, rfl⟩
    rw [← hst] at h1 h2 e1 e2
    rw [← hc] at e1 e2 ep
    rw [hk, e2, ep]
    have e1' : some k = (if c.1 ≤ 1 then some (st.length + 1) else if c.1 = 2 then (if 1 ≤ st.length then some st.length else none) else (if 2 ≤ st.length then some (st.length - 1) else none)) := e1
    unfold ev1
    by_cases g1 : c.1 ≤ 1
    · rw [if_pos g1] at e1' ⊢
      by_cases g0 : c.1 = 0
      · rw [if_pos g0, e1', List.length_cons]
        exact ⟨rfl, by omega⟩
      · by_cases g11 : c.1 = 1
        · rw [if_neg g0, if_pos g11, e1', List.length_cons]
          exact ⟨rfl, by omega⟩
        · have hcm : c ∈ C := by
            rw [hc, List.getD_eq_getElem?_getD, List.getElem?_eq_getElem (by omega)]
            exact List.getElem_mem _
          have := hok c hcm
          unfold cOK at this
          omega
    · rw [if_neg g1] at e1' ⊢
      rw [if_neg (by omega), if_neg (by omega)]
      by_cases g2 : c.1 = 2
      · rw [if_pos g2] at e1' ⊢
        by_cases g3 : 1 ≤ st.length
        · rw [if_pos g3] at e1'
          rw [e1', List.length_cons, List.length_tail, show st.length - 1 + 1 = st.length by omega]
          exact ⟨rfl, by omega⟩
        · rw [if_neg g3] at e1'
          exact absurd e1' (by simp)
      · rw [if_neg g2] at e1' ⊢
        by_cases g3 : 2 ≤ st.length
        · rw [if_pos g3] at e1'
          rw [e1', List.length_cons, List.length_tail, List.length_tail, show st.length - 1 - 1 + 1 = st.length - 1 by omega]
          exact ⟨rfl, by omega⟩
        · rw [if_neg g3] at e1'
          exact absurd e1' (by simp)
theorem getD_memC {C : List (Int × Int)} {i : Nat} (h : i < C.length) : C.getD i (0, 0) ∈ C := by
  rw [List.getD_eq_getElem?_getD, List.getElem?_eq_getElem h]
  exact List.getElem_mem _
theorem ekk_r {c : Int × Int} (h : cOK c) : 0 ≤ ekk c ∧ ekk c < 1024 ∧ 0 ≤ ekv c ∧ ekv c ≤ 9999 ∧ (c.1 = 0 → ekk c = 201 ∧ ekv c = c.2) ∧ (c.1 = 1 → (c.2 ≤ 4 → ekk c = 139 + c.2) ∧ (5 ≤ c.2 → ekk c = 142 + c.2)) ∧ (c.1 = 2 → ekk c = 146) ∧ (c.1 = 3 → (ekk c = 144 ∨ ekk c = 145 ∨ ekk c < 128)) := by
  unfold cOK sgO at h
  rcases h with ⟨h1, h2, h3⟩ | ⟨h1, h2, h3⟩ | ⟨h1, h2⟩ | ⟨h1, h2⟩
  · have a : ekk c = 201 := by
      unfold ekk
      rw [if_pos h1]
    have b : ekv c = c.2 := by
      unfold ekv
      rw [if_pos h1]
    rw [a, b]
    omega
  · have b : ekv c = 0 := by
      unfold ekv
      rw [if_neg (show ¬ c.1 = 0 by omega)]
    by_cases h4 : c.2 ≤ 4
    · have a : ekk c = 139 + c.2 := by
        unfold ekk
        rw [if_neg (show ¬ c.1 = 0 by omega), if_pos h1, if_pos h4]
      rw [a, b]
      omega
    · have a : ekk c = 142 + c.2 := by
        unfold ekk
        rw [if_neg (show ¬ c.1 = 0 by omega), if_pos h1, if_neg h4]
      rw [a, b]
      omega
  · have b : ekv c = 0 := by
      unfold ekv
      rw [if_neg (show ¬ c.1 = 0 by omega)]
    have a : ekk c = 146 := by
      unfold ekk
      rw [if_neg (show ¬ c.1 = 0 by omega), if_neg (show ¬ c.1 = 1 by omega), if_pos h1]
    rw [a, b]
    omega
  · have b : ekv c = 0 := by
      unfold ekv
      rw [if_neg (show ¬ c.1 = 0 by omega)]
    have a0 : ekk c = (if c.2 = 124 then 144 else if c.2 = 38 then 145 else c.2) := by
      unfold ekk
      rw [if_neg (show ¬ c.1 = 0 by omega), if_neg (show ¬ c.1 = 1 by omega), if_neg (show ¬ c.1 = 2 by omega)]
    by_cases h4 : c.2 = 124
    · have a : ekk c = 144 := by rw [a0, if_pos h4]
      rw [a, b]
      omega
    · by_cases h5 : c.2 = 38
      · have a : ekk c = 145 := by rw [a0, if_neg h4, if_pos h5]
        rw [a, b]
        omega
      · have a : ekk c = c.2 := by rw [a0, if_neg h4, if_neg h5]
        rw [a, b]
        omega
theorem encd_i {c : Int × Int} (h : cOK c) {y : Int32} (hy : y = encd (ekk c) (ekv c)) : (y &&& 1023).toInt = ekk c ∧ (y >>> (10 &&& 31)).toInt = ekv c := by
  obtain ⟨h1, h2, h3, h4, -⟩ := ekk_r h
  have b1 := shl_i (kk := 10) (k := 10) (c := 1024) rfl rfl (oi_i h3 (by omega)) h3 (by omega)
  have c1 := or_i (k := 10) (c := 1024) rfl (oi_i h1 (by omega)) h1 (by omega) b1 h3 (by omega)
  have e : y.toInt = ekk c + ekv c * ((1024 : Nat) : Int) := by
    rw [hy]
    exact c1
  have q1 := and_i (m := 1023) (k := 10) (c := 1024) rfl rfl e (by omega)
  have q2 := shr_i (kk := 10) (k := 10) (c := 1024) rfl rfl e (by omega)
  rw [q1, q2]
  omega
/-- the program's values -/
def StkC (st : List Int32) (G : GS) : Prop := (G.1 6 3).toInt = (st.length : Int) ∧ ∀ i, i < st.length → G.1 39 (st.length - 1 - i) = st.getD i 0
theorem k_push_eq {st : List Int32} {v : Int32} {G G1 : GS} (h : P_lPush v G G1) (hS : StkC st G) (hl : st.length < 100) : StkC (v :: st) G1 := by
  obtain ⟨-, -, hh⟩ := h
  have h0 := hS.1
  rcases hh with ⟨c, -⟩ | ⟨c, y3, t3, hF, e3, e39⟩
  · omega
  · rw [cn_eq h0] at e39
    refine ⟨by rw [e3, List.length_cons]; omega, fun i hi => ?_⟩
    rw [List.length_cons] at hi ⊢
    rw [e39]
    cases i with
    | zero =>
      rw [show upd (G.1 39) st.length v (st.length + 1 - 1 - 0) = v from if_pos (by omega)]
      rfl
    | succ i =>
      rw [show upd (G.1 39) st.length v (st.length + 1 - 1 - (i + 1)) = G.1 39 (st.length + 1 - 1 - (i + 1)) from if_neg (by omega), show st.length + 1 - 1 - (i + 1) = st.length - 1 - i by omega, hS.2 i (by omega)]
      simp
theorem k_pop_eq {st : List Int32} {r : Int32} {G G1 : GS} (h : P_lPop G r G1) (hS : StkC st G) : r = st.headD 0 ∧ StkC st.tail G1 := by
  obtain ⟨-, -, hh⟩ := h
  have h0 := hS.1
  cases st with
  | nil =>
    have h0' : (G.1 6 3).toInt = 0 := h0
    rcases hh with ⟨-, rfl, rfl⟩ | ⟨c, -⟩
    · exact ⟨rfl, hS⟩
    · omega
  | cons v st =>
    rw [List.length_cons] at h0
    rcases hh with ⟨c, -⟩ | ⟨c, y3, t3, y5, e5, rfl, hF, e3⟩
    · omega
    · have h1 := hS.2 0 (by simp)
      rw [List.length_cons] at h1
      rw [cn_eq (x := y3) (e := st.length) (by omega)] at e5
      refine ⟨?_, by rw [e3]; show y3.toInt = _; rw [List.tail_cons]; omega, fun i hi => ?_⟩
      · rw [e5]
        simpa using h1
      · rw [List.tail_cons] at hi ⊢
        rw [hF.row1 39 (by decide) (by decide)]
        have h2 := hS.2 (i + 1) (by simp; omega)
        rw [List.length_cons, show st.length + 1 - 1 - (i + 1) = st.length - 1 - i by omega] at h2
        simpa using h2
theorem k_own_eq {x : IC} {day p0 p1 r : Int32} {G G1 : GS} {a : Int} (h : P_lOwn p0 p1 day G r G1) (hx : ICok x) (h1 : p1 = encI x) (ha0 : 0 ≤ a) (ha8 : a ≤ 8) (hk : (a ≤ 4 → p0.toInt = 139 + a) ∧ (5 ≤ a → p0.toInt = 142 + a)) : G = G1 ∧ r.toInt = icQ x day.toInt a := by
  obtain ⟨-, hF, hh⟩ := h
  refine ⟨hF.nil, ?_⟩
  obtain ⟨e1, e2⟩ := encI_i hx
  rw [← h1] at e1
  unfold icQ
  have t3 : (3 : Int32).toInt = 3 := rfl
  have t1 : (1 : Int32).toInt = 1 := rfl
  have t2 : (2 : Int32).toInt = 2 := rfl
  rcases hh with ⟨c, r2, G3, hp, rfl, -⟩ | ⟨c, ⟨d, r2, G3, hp, rfl, -⟩ | ⟨d, ⟨f, r2, G3, hp, rfl, -⟩ | ⟨f, ⟨g, rfl, -⟩ | ⟨g, y20, e20, y21, e21, y22, e22, rfl, -⟩⟩⟩⟩
  · rw [if_neg (by omega), if_neg (by omega), if_pos (by omega)]
    have := (k_part_eq hp hx h1).2
    rw [this, t3]
    rfl
  · rw [if_neg (by omega), if_neg (by omega), if_neg (by omega), if_pos (by omega)]
    have := (k_part_eq hp hx h1).2
    rw [this, t1]
    rfl
  · rw [if_neg (by omega), if_neg (by omega), if_neg (by omega), if_neg (by omega), if_pos (by omega)]
    have := (k_part_eq hp hx h1).2
    rw [this, t2]
    rfl
  · rw [if_neg (by omega), if_neg (by omega), if_neg (by omega), if_neg (by omega), if_neg (by omega)]
  · have ha : a ≤ 4 := by
      refine Classical.byContradiction (fun q => ?_)
      have := hk.2 (by omega)
      omega
    have h20 : y20.toInt = a := by
      have e139 : (139 : Int32).toInt = 139 := rfl
      have := tI_sub e20 (by rw [e139]; omega) (by rw [e139]; omega)
      rw [e139] at this
      have := hk.1 ha
      omega
    have bit : ∀ (k c : Nat) (hc : 2 ^ k = c), (p1 >>> (y20 &&& 31)).toBitVec = p1.toBitVec.sshiftRight k → y22.toInt = encV x / (c : Int) % 2 := by
      intro k c hc hsh
      have s1 := shr_i hsh hc e1 e2
      rw [e22, e21]
      exact and_i (m := 1) (k := 1) (c := 2) rfl rfl s1 (Int.ediv_nonneg e2 (by omega))
    obtain ⟨m, nth, i, l⟩ := x
    obtain ⟨g1, g2, g3, g4, g5, g6, g7, g8⟩ := hx
    simp only at g1 g2 g3 g4 g5 g6 g7 g8
    have eV : encV (m, nth, i, l) = (if m < 0 then 1 else 2 * m) + 32 * nth + 16384 * i + 1048576 * l := rfl
    have h5 : a = 0 ∨ a = 1 ∨ a = 2 ∨ a = 3 ∨ a = 4 := by omega
    rcases h5 with rfl | rfl | rfl | rfl | rfl
    · have ey : y20 = 0 := Int32.toInt_inj.mp (by rw [h20]; rfl)
      have := bit 0 1 rfl (by rw [ey]; rfl)
      rw [this, eV, if_pos rfl]
      show _ = (if m < 0 then 1 else 0)
      by_cases hm : m < 0
      · rw [if_pos hm, if_pos hm]
        omega
      · rw [if_neg hm, if_neg hm]
        omega
    · have ey : y20 = 1 := Int32.toInt_inj.mp (by rw [h20]; rfl)
      have := bit 1 2 rfl (by rw [ey]; rfl)
      rw [if_neg (show ¬ (1 : Int) = 0 by decide), if_pos (show (1 : Int) ≤ 4 by decide), this, eV]
      show _ = (if m < 0 then 0 else m / 1 % 2)
      by_cases hm : m < 0
      · rw [if_pos hm, if_pos hm]
        omega
      · rw [if_neg hm, if_neg hm]
        omega
    · have ey : y20 = 2 := Int32.toInt_inj.mp (by rw [h20]; rfl)
      have := bit 2 4 rfl (by rw [ey]; rfl)
      rw [if_neg (show ¬ (2 : Int) = 0 by decide), if_pos (show (2 : Int) ≤ 4 by decide), this, eV]
      show _ = (if m < 0 then 0 else m / 2 % 2)
      by_cases hm : m < 0
      · rw [if_pos hm, if_pos hm]
        omega
      · rw [if_neg hm, if_neg hm]
        omega
    · have ey : y20 = 3 := Int32.toInt_inj.mp (by rw [h20]; rfl)
      have := bit 3 8 rfl (by rw [ey]; rfl)
      rw [if_neg (show ¬ (3 : Int) = 0 by decide), if_pos (show (3 : Int) ≤ 4 by decide), this, eV]
      show _ = (if m < 0 then 0 else m / 4 % 2)
      by_cases hm : m < 0
      · rw [if_pos hm, if_pos hm]
        omega
      · rw [if_neg hm, if_neg hm]
        omega
    · have ey : y20 = 4 := Int32.toInt_inj.mp (by rw [h20]; rfl)
      have := bit 4 16 rfl (by rw [ey]; rfl)
      rw [if_neg (show ¬ (4 : Int) = 0 by decide), if_pos (show (4 : Int) ≤ 4 by decide), this, eV]
      show _ = (if m < 0 then 0 else m / 8 % 2)
      by_cases hm : m < 0
      · rw [if_pos hm, if_pos hm]
        omega
      · rw [if_neg hm, if_neg hm]
        omega

/-! the loops that work formulas out -/
def FOK (C : List (Int × Int)) : Prop := (∀ c ∈ C, cOK c) ∧ dep C = some 1 ∧ nPu C ≤ 30
theorem fcd_at {R : VR} : ∀ {k i : Nat}, k < R.length → i < (R.getD k ([], [])).2.length → (fcd R).getD ((fcd (R.take k)).length + i) (0, 0) = (R.getD k ([], [])).2.getD i (0, 0) := by
  induction R with
  | nil => intro k i h; exact absurd h (Nat.not_lt_zero k)
  | cons x R ih =>
    intro k i hk hi
    have e : fcd (x :: R) = x.2 ++ fcd R := by simp [fcd]
    cases k with
    | zero =>
      have hi' : i < x.2.length := by simpa using hi
      have e0 : (fcd (List.take 0 (x :: R))).length = 0 := rfl
      rw [e0, Nat.zero_add, e, getD_app, if_pos hi']
      simp
    | succ k =>
      have e1 : fcd (List.take (k + 1) (x :: R)) = x.2 ++ fcd (R.take k) := by simp [fcd]
      have hi' : i < (R.getD k ([], [])).2.length := by simpa using hi
      have hk' : k < R.length := by simpa using hk
      rw [e, e1, List.length_append, getD_app, if_neg (by omega), show x.2.length + (fcd (R.take k)).length + i - x.2.length = (fcd (R.take k)).length + i by omega, ih hk' hi']
      simp
theorem fcd_len {R : VR} {k : Nat} (h : k < R.length) : (fcd (R.take (k + 1))).length = (fcd (R.take k)).length + (R.getD k ([], [])).2.length := by
  have e : R.take (k + 1) = R.take k ++ [R.getD k ([], [])] := by
    rw [List.take_succ, List.getD_eq_getElem?_getD, List.getElem?_eq_getElem h]
    rfl
  rw [e, fcd_snoc, List.length_append]
theorem fcd_le {R : VR} (k : Nat) : (fcd (R.take k)).length ≤ (fcd R).length := by
  have e : R.take k ++ R.drop k = R := List.take_append_drop k R
  have h : fcd R = fcd (R.take k) ++ fcd (R.drop k) := by
    unfold fcd
    rw [← List.flatten_append, ← List.map_append, e]
  rw [h, List.length_append]
  omega
theorem cap_of {k : Nat} (h : k ≤ 580) : cap k = (k : Int) := by
  unfold cap
  rw [if_pos h]
theorem of_i {y : Int32} {v : Int} (h : y.toInt = v) : y = Int32.ofInt v := by rw [← h, Int32.ofInt_toInt]
theorem k_value_1 {R : VR} {x : IC} {day p0 p1 r : Int32} {G G1 : GS} {k : Nat} (h : P_lValue_1 p0 p1 day G r G1) (hk : p0.toInt = (k : Int)) (hkl : k < R.length) (hC : CodeC_1 0 (fcd R) G) (hE : EndC_1 R G) (h580 : (fcd R).length ≤ 580) (hx : ICok x) (h1 : p1 = encI x) (hw : FOK (R.getD k ([], [])).2) : r = (evl x day (R.getD k ([], [])).2).headD 0 := by
  obtain ⟨-, -, y2, e2, Ga, -, hFa, e63, x7, G3, hl, -, -, -, y11, t11, y12, e12, c12, r14, G15, hpop, rfl, rfl⟩ := h
  obtain ⟨C, hCC⟩ : ∃ C, C = (R.getD k ([], [])).2 := ⟨_, rfl⟩
  rw [← hCC] at hw ⊢
  obtain ⟨off, hoff⟩ : ∃ off, off = (fcd (R.take k)).length := ⟨_, rfl⟩
  obtain ⟨n1, n2⟩ := hE k hkl
  rw [fcd_len hkl, ← hCC, ← hoff] at n2
  rw [← hoff] at n1
  have hle := fcd_le (R := R) (k + 1)
  rw [fcd_len hkl, ← hCC, ← hoff] at hle
  rw [cap_of (by omega)] at n1 n2
  obtain ⟨w1, w2, w3⟩ := hw
  have hlen : ∀ i, i ≤ C.length → (evl x day (C.take i)).length ≤ 30 := fun i hi => by
    have a1 := (evl_len (x := x) (day := day) w2 w1 i hi).2
    have a2 := nPu_le (C := C) i
    omega
  have hI := hl (fun q => (q.2.1 17 = G.1 17 ∧ q.2.1 18 = G.1 18) ∧ ∃ i : Nat, q.1.toInt = ((off + i : Nat) : Int) ∧ i ≤ C.length ∧ StkC (evl x day (C.take i)) q.2) (by
    refine ⟨⟨hFa.row1 17 (by decide) (by decide), hFa.row1 18 (by decide) (by decide)⟩, 0, ?_, Nat.zero_le _, ?_⟩
    · show y2.toInt = _
      rw [e2, cn_eq hk]
      exact n1
    · exact ⟨by rw [e63]; rfl, fun i hi => absurd hi (Nat.not_lt_zero i)⟩) (by
    rintro ⟨x1, G_1⟩ ⟨xn, G_1n⟩ ⟨⟨i1, i2⟩, i, i3, i4, i5⟩ ⟨x1q, G_1q, xnq, G_1nq, q1, q2, -, -, z11, s11, z12, e12', c, y19, e19, y20, e20, hd⟩
    obtain ⟨rfl, rfl⟩ := Prod.mk.inj q1
    obtain ⟨rfl, rfl⟩ := Prod.mk.inj q2
    simp only at i1 i2 i3 i5
    rw [cn_eq (x := z11) (e := k + 1) (by clear hd; omega), i2] at e12'
    have hz : z12.toInt = ((off + C.length : Nat) : Int) := by rw [e12']; exact n2
    have hil : i < C.length := by clear hd; omega
    obtain ⟨cc, hcc⟩ : ∃ cc, cc = C.getD i (0, 0) := ⟨_, rfl⟩
    have hok : cOK cc := by rw [hcc]; exact w1 _ (getD_memC hil)
    have hget : (fcd R).getD (off + i) (0, 0) = cc := by rw [hoff, fcd_at hkl (by rw [← hCC]; exact hil), ← hCC, hcc]
    have hcode : G.1 17 (off + i) = encd (ekk cc) (ekv cc) := by
      have := hC.2 (off + i) (by omega) (by omega)
      rw [Nat.zero_add, hget] at this
      exact this
    rw [cn_eq (x := x1) (e := off + i) i3, i1, hcode] at e19
    obtain ⟨d1, d2⟩ := encd_i hok e19
    rw [← e20] at d1
    obtain ⟨-, -, -, -, g0, g1, g2, g3⟩ := ekk_r hok
    have hlt := hlen i (by omega)
    have hnx := evl_take (x := x) (day := day) hil
    rw [← hcc] at hnx
    have fin : ∀ {Gz : GS} {y : Int32}, y.toInt = x1.toInt + 1 → Gz.1 17 = G_1.1 17 → Gz.1 18 = G_1.1 18 → StkC (ev1 x day (evl x day (C.take i)) cc) Gz → (Gz.1 17 = G.1 17 ∧ Gz.1 18 = G.1 18) ∧ ∃ i : Nat, y.toInt = ((off + i : Nat) : Int) ∧ i ≤ C.length ∧ StkC (evl x day (C.take i)) Gz := by
      intro Gz y ty r7 r8 hst
      exact ⟨⟨r7.trans i1, r8.trans i2⟩, i + 1, by clear hd; omega, by omega, by rw [hnx]; exact hst⟩
    have c4 : cc.1 = 0 ∨ cc.1 = 1 ∨ cc.1 = 2 ∨ cc.1 = 3 := by
      have := hok
      unfold cOK at this
      clear hd
      omega
    rcases hd with ⟨f1, y86, e86, y87, e87, G89, hpu, y93, t93, ex, rfl⟩ | ⟨f1, hd⟩
    · have k0 : cc.1 = 0 := by
        rcases c4 with q | q | q | q
        · exact q
        · have := g1 q
          have hb := hok
          unfold cOK at hb
          omega
        · have := g2 q
          omega
        · have := g3 q
          omega
      rw [cn_eq (x := x1) (e := off + i) i3, i1, hcode] at e86
      have ey : y87 = Int32.ofInt cc.2 := by
        refine of_i ?_
        have := (encd_i hok e86).2
        rw [← e87] at this
        rw [this]
        exact (g0 k0).2
      rw [ey] at hpu
      refine fin (by rw [← ex]; exact t93) (hpu.2.1.row1 17 (by decide) (by decide)) (hpu.2.1.row1 18 (by decide) (by decide)) ?_
      unfold ev1
      rw [if_pos k0]
      exact k_push_eq hpu i5 (by omega)
    · have n0 : cc.1 ≠ 0 := fun q => f1 (by rw [d1]; exact (g0 q).1)
      rcases hd with ⟨f2, r68, G69, hpo, hd⟩ | ⟨f2, hd⟩
      · have k2 : cc.1 = 2 := by
          rcases c4 with q | q | q | q
          · exact absurd q n0
          · have := g1 q
            have hb := hok
            unfold cOK at hb
            clear hd
            omega
          · exact q
          · have := g3 q
            clear hd
            omega
        obtain ⟨hr, hst⟩ := k_pop_eq hpo i5
        have hlt2 : (evl x day (C.take i)).tail.length < 100 := by rw [List.length_tail]; omega
        rcases hd with ⟨f3, G81, hpu, y85, t85, ex, rfl⟩ | ⟨f3, G81, hpu, y85, t85, ex, rfl⟩
        · refine fin (by rw [← ex]; exact t85) ((hpu.2.1.row1 17 (by decide) (by decide)).trans (hpo.2.1.row1 17 (by decide) (by decide))) ((hpu.2.1.row1 18 (by decide) (by decide)).trans (hpo.2.1.row1 18 (by decide) (by decide))) ?_
          unfold ev1
          rw [if_neg n0, if_neg (by omega), if_pos k2, ← hr, if_pos f3]
          exact k_push_eq hpu hst hlt2
        · refine fin (by rw [← ex]; exact t85) ((hpu.2.1.row1 17 (by decide) (by decide)).trans (hpo.2.1.row1 17 (by decide) (by decide))) ((hpu.2.1.row1 18 (by decide) (by decide)).trans (hpo.2.1.row1 18 (by decide) (by decide))) ?_
          unfold ev1
          rw [if_neg n0, if_neg (by omega), if_pos k2, ← hr, if_neg f3]
          exact k_push_eq hpu hst hlt2
      · have n2' : cc.1 ≠ 2 := fun q => f2 (by rw [d1]; exact g2 q)
        rcases hd with ⟨f3, f4, f5, r57, G58, how, G63, hpu, y67, t67, ex, rfl⟩ | ⟨G29, hj, -, -, r33, G34, hp1, r38, G39, hp2, r43, G44, hjn, G49, hpu, y53, t53, ex, rfl⟩
        · have k1 : cc.1 = 1 := by
            rcases c4 with q | q | q | q
            · exact absurd q n0
            · exact q
            · exact absurd q n2'
            · have := g3 q
              omega
          have hb := hok
          unfold cOK at hb
          obtain ⟨e58, hv⟩ := k_own_eq (a := cc.2) how hx h1 (by omega) (by omega) (by rw [d1]; exact g1 k1)
          subst e58
          rw [of_i hv] at hpu
          refine fin (by rw [← ex]; exact t67) (hpu.2.1.row1 17 (by decide) (by decide)) (hpu.2.1.row1 18 (by decide) (by decide)) ?_
          unfold ev1
          rw [if_neg n0, if_pos k1]
          exact k_push_eq hpu i5 (by omega)
        · have hj2 : G_1 = G29 ∧ (y20.toInt = 144 ∨ y20.toInt = 145 ∨ y20.toInt < 128) := by
            rcases hj with ⟨q, e⟩ | ⟨-, ⟨q, e⟩ | ⟨-, q, e⟩⟩
            · exact ⟨e, Or.inl q⟩
            · exact ⟨e, Or.inr (Or.inl q)⟩
            · exact ⟨e, Or.inr (Or.inr q)⟩
          obtain ⟨rfl, hkd⟩ := hj2
          have k3 : cc.1 = 3 := by
            rcases c4 with q | q | q | q
            · exact absurd q n0
            · have := g1 q
              have hb := hok
              unfold cOK at hb
              omega
            · exact absurd q n2'
            · exact q
          have hsg : sgO cc.2 := by
            have hb := hok
            unfold cOK at hb
            rcases hb with q | q | q | q
            · exact absurd q.1 n0
            · exact absurd q.1 (by omega)
            · exact absurd q.1 n2'
            · exact q.2
          obtain ⟨hr1, hs1⟩ := k_pop_eq hp1 i5
          obtain ⟨hr2, hs2⟩ := k_pop_eq hp2 hs1
          have hcp : cc = (3, cc.2) := Prod.ext k3 rfl
          obtain ⟨e44, hv⟩ := k_join_eq (o := cc.2) hjn hsg (by rw [d1, ← hcp])
          subst e44
          rw [hv] at hpu
          refine fin (by rw [← ex]; exact t53) (((hpu.2.1.row1 17 (by decide) (by decide)).trans (hp2.2.1.row1 17 (by decide) (by decide))).trans (hp1.2.1.row1 17 (by decide) (by decide))) (((hpu.2.1.row1 18 (by decide) (by decide)).trans (hp2.2.1.row1 18 (by decide) (by decide))).trans (hp1.2.1.row1 18 (by decide) (by decide))) ?_
          unfold ev1
          rw [if_neg n0, if_neg (by omega), if_neg n2', ← hr2, ← hr1]
          exact k_push_eq hpu hs2 (by rw [List.length_tail, List.length_tail]; omega))
  obtain ⟨⟨i1, i2⟩, i, i3, i4, i5⟩ := hI
  simp only at i1 i2 i3 i5
  rw [cn_eq (x := y11) (e := k + 1) (by omega), i2] at e12
  have hz : y12.toInt = ((off + C.length : Nat) : Int) := by rw [e12]; exact n2
  have hi : i = C.length := by omega
  subst hi
  rw [List.take_length] at i5
  exact (k_pop_eq hpop i5).1
theorem k_value_2 {R : VR} {x : IC} {day p0 p1 r : Int32} {G G1 : GS} {k : Nat} (h : P_lValue_2 p0 p1 day G r G1) (hk : p0.toInt = (k : Int)) (hkl : k < R.length) (hC : CodeC_2 0 (fcd R) G) (hE : EndC_2 R G) (h580 : (fcd R).length ≤ 580) (hx : ICok x) (h1 : p1 = encI x) (hw : FOK (R.getD k ([], [])).2) : r = (evl x day (R.getD k ([], [])).2).headD 0 := by
  obtain ⟨-, -, y2, e2, Ga, -, hFa, e63, x7, G3, hl, -, -, -, y11, t11, y12, e12, c12, r14, G15, hpop, rfl, rfl⟩ := h
  obtain ⟨C, hCC⟩ : ∃ C, C = (R.getD k ([], [])).2 := ⟨_, rfl⟩
  rw [← hCC] at hw ⊢
  obtain ⟨off, hoff⟩ : ∃ off, off = (fcd (R.take k)).length := ⟨_, rfl⟩
  obtain ⟨n1, n2⟩ := hE k hkl
  rw [fcd_len hkl, ← hCC, ← hoff] at n2
  rw [← hoff] at n1
  have hle := fcd_le (R := R) (k + 1)
  rw [fcd_len hkl, ← hCC, ← hoff] at hle
  rw [cap_of (by omega)] at n1 n2
  obtain ⟨w1, w2, w3⟩ := hw
  have hlen : ∀ i, i ≤ C.length → (evl x day (C.take i)).length ≤ 30 := fun i hi => by
    have a1 := (evl_len (x := x) (day := day) w2 w1 i hi).2
    have a2 := nPu_le (C := C) i
    omega
  have hI := hl (fun q => (q.2.1 27 = G.1 27 ∧ q.2.1 28 = G.1 28) ∧ ∃ i : Nat, q.1.toInt = ((off + i : Nat) : Int) ∧ i ≤ C.length ∧ StkC (evl x day (C.take i)) q.2) (by
    refine ⟨⟨hFa.row1 27 (by decide) (by decide), hFa.row1 28 (by decide) (by decide)⟩, 0, ?_, Nat.zero_le _, ?_⟩
    · show y2.toInt = _
      rw [e2, cn_eq hk]
      exact n1
    · exact ⟨by rw [e63]; rfl, fun i hi => absurd hi (Nat.not_lt_zero i)⟩) (by
    rintro ⟨x1, G_1⟩ ⟨xn, G_1n⟩ ⟨⟨i1, i2⟩, i, i3, i4, i5⟩ ⟨x1q, G_1q, xnq, G_1nq, q1, q2, -, -, z11, s11, z12, e12', c, y19, e19, y20, e20, hd⟩
    obtain ⟨rfl, rfl⟩ := Prod.mk.inj q1
    obtain ⟨rfl, rfl⟩ := Prod.mk.inj q2
    simp only at i1 i2 i3 i5
    rw [cn_eq (x := z11) (e := k + 1) (by clear hd; omega), i2] at e12'
    have hz : z12.toInt = ((off + C.length : Nat) : Int) := by rw [e12']; exact n2
    have hil : i < C.length := by clear hd; omega
    obtain ⟨cc, hcc⟩ : ∃ cc, cc = C.getD i (0, 0) := ⟨_, rfl⟩
    have hok : cOK cc := by rw [hcc]; exact w1 _ (getD_memC hil)
    have hget : (fcd R).getD (off + i) (0, 0) = cc := by rw [hoff, fcd_at hkl (by rw [← hCC]; exact hil), ← hCC, hcc]
    have hcode : G.1 27 (off + i) = encd (ekk cc) (ekv cc) := by
      have := hC.2 (off + i) (by omega) (by omega)
      rw [Nat.zero_add, hget] at this
      exact this
    rw [cn_eq (x := x1) (e := off + i) i3, i1, hcode] at e19
    obtain ⟨d1, d2⟩ := encd_i hok e19
    rw [← e20] at d1
    obtain ⟨-, -, -, -, g0, g1, g2, g3⟩ := ekk_r hok
    have hlt := hlen i (by omega)
    have hnx := evl_take (x := x) (day := day) hil
    rw [← hcc] at hnx
    have fin : ∀ {Gz : GS} {y : Int32}, y.toInt = x1.toInt + 1 → Gz.1 27 = G_1.1 27 → Gz.1 28 = G_1.1 28 → StkC (ev1 x day (evl x day (C.take i)) cc) Gz → (Gz.1 27 = G.1 27 ∧ Gz.1 28 = G.1 28) ∧ ∃ i : Nat, y.toInt = ((off + i : Nat) : Int) ∧ i ≤ C.length ∧ StkC (evl x day (C.take i)) Gz := by
      intro Gz y ty r7 r8 hst
      exact ⟨⟨r7.trans i1, r8.trans i2⟩, i + 1, by clear hd; omega, by omega, by rw [hnx]; exact hst⟩
    have c4 : cc.1 = 0 ∨ cc.1 = 1 ∨ cc.1 = 2 ∨ cc.1 = 3 := by
      have := hok
      unfold cOK at this
      clear hd
      omega
    rcases hd with ⟨f1, y86, e86, y87, e87, G89, hpu, y93, t93, ex, rfl⟩ | ⟨f1, hd⟩
    · have k0 : cc.1 = 0 := by
        rcases c4 with q | q | q | q
        · exact q
        · have := g1 q
          have hb := hok
          unfold cOK at hb
          omega
        · have := g2 q
          omega
        · have := g3 q
          omega
      rw [cn_eq (x := x1) (e := off + i) i3, i1, hcode] at e86
      have ey : y87 = Int32.ofInt cc.2 := by
        refine of_i ?_
        have := (encd_i hok e86).2
        rw [← e87] at this
        rw [this]
        exact (g0 k0).2
      rw [ey] at hpu
      refine fin (by rw [← ex]; exact t93) (hpu.2.1.row1 27 (by decide) (by decide)) (hpu.2.1.row1 28 (by decide) (by decide)) ?_
      unfold ev1
      rw [if_pos k0]
      exact k_push_eq hpu i5 (by omega)
    · have n0 : cc.1 ≠ 0 := fun q => f1 (by rw [d1]; exact (g0 q).1)
      rcases hd with ⟨f2, r68, G69, hpo, hd⟩ | ⟨f2, hd⟩
      · have k2 : cc.1 = 2 := by
          rcases c4 with q | q | q | q
          · exact absurd q n0
          · have := g1 q
            have hb := hok
            unfold cOK at hb
            clear hd
            omega
          · exact q
          · have := g3 q
            clear hd
            omega
        obtain ⟨hr, hst⟩ := k_pop_eq hpo i5
        have hlt2 : (evl x day (C.take i)).tail.length < 100 := by rw [List.length_tail]; omega
        rcases hd with ⟨f3, G81, hpu, y85, t85, ex, rfl⟩ | ⟨f3, G81, hpu, y85, t85, ex, rfl⟩
        · refine fin (by rw [← ex]; exact t85) ((hpu.2.1.row1 27 (by decide) (by decide)).trans (hpo.2.1.row1 27 (by decide) (by decide))) ((hpu.2.1.row1 28 (by decide) (by decide)).trans (hpo.2.1.row1 28 (by decide) (by decide))) ?_
          unfold ev1
          rw [if_neg n0, if_neg (by omega), if_pos k2, ← hr, if_pos f3]
          exact k_push_eq hpu hst hlt2
        · refine fin (by rw [← ex]; exact t85) ((hpu.2.1.row1 27 (by decide) (by decide)).trans (hpo.2.1.row1 27 (by decide) (by decide))) ((hpu.2.1.row1 28 (by decide) (by decide)).trans (hpo.2.1.row1 28 (by decide) (by decide))) ?_
          unfold ev1
          rw [if_neg n0, if_neg (by omega), if_pos k2, ← hr, if_neg f3]
          exact k_push_eq hpu hst hlt2
      · have n2' : cc.1 ≠ 2 := fun q => f2 (by rw [d1]; exact g2 q)
        rcases hd with ⟨f3, f4, f5, r57, G58, how, G63, hpu, y67, t67, ex, rfl⟩ | ⟨G29, hj, -, -, r33, G34, hp1, r38, G39, hp2, r43, G44, hjn, G49, hpu, y53, t53, ex, rfl⟩
        · have k1 : cc.1 = 1 := by
            rcases c4 with q | q | q | q
            · exact absurd q n0
            · exact q
            · exact absurd q n2'
            · have := g3 q
              omega
          have hb := hok
          unfold cOK at hb
          obtain ⟨e58, hv⟩ := k_own_eq (a := cc.2) how hx h1 (by omega) (by omega) (by rw [d1]; exact g1 k1)
          subst e58
          rw [of_i hv] at hpu
          refine fin (by rw [← ex]; exact t67) (hpu.2.1.row1 27 (by decide) (by decide)) (hpu.2.1.row1 28 (by decide) (by decide)) ?_
          unfold ev1
          rw [if_neg n0, if_pos k1]
          exact k_push_eq hpu i5 (by omega)
        · have hj2 : G_1 = G29 ∧ (y20.toInt = 144 ∨ y20.toInt = 145 ∨ y20.toInt < 128) := by
            rcases hj with ⟨q, e⟩ | ⟨-, ⟨q, e⟩ | ⟨-, q, e⟩⟩
            · exact ⟨e, Or.inl q⟩
            · exact ⟨e, Or.inr (Or.inl q)⟩
            · exact ⟨e, Or.inr (Or.inr q)⟩
          obtain ⟨rfl, hkd⟩ := hj2
          have k3 : cc.1 = 3 := by
            rcases c4 with q | q | q | q
            · exact absurd q n0
            · have := g1 q
              have hb := hok
              unfold cOK at hb
              omega
            · exact absurd q n2'
            · exact q
          have hsg : sgO cc.2 := by
            have hb := hok
            unfold cOK at hb
            rcases hb with q | q | q | q
            · exact absurd q.1 n0
            · exact absurd q.1 (by omega)
            · exact absurd q.1 n2'
            · exact q.2
          obtain ⟨hr1, hs1⟩ := k_pop_eq hp1 i5
          obtain ⟨hr2, hs2⟩ := k_pop_eq hp2 hs1
          have hcp : cc = (3, cc.2) := Prod.ext k3 rfl
          obtain ⟨e44, hv⟩ := k_join_eq (o := cc.2) hjn hsg (by rw [d1, ← hcp])
          subst e44
          rw [hv] at hpu
          refine fin (by rw [← ex]; exact t53) (((hpu.2.1.row1 27 (by decide) (by decide)).trans (hp2.2.1.row1 27 (by decide) (by decide))).trans (hp1.2.1.row1 27 (by decide) (by decide))) (((hpu.2.1.row1 28 (by decide) (by decide)).trans (hp2.2.1.row1 28 (by decide) (by decide))).trans (hp1.2.1.row1 28 (by decide) (by decide))) ?_
          unfold ev1
          rw [if_neg n0, if_neg (by omega), if_neg n2', ← hr2, ← hr1]
          exact k_push_eq hpu hs2 (by rw [List.length_tail, List.length_tail]; omega))
  obtain ⟨⟨i1, i2⟩, i, i3, i4, i5⟩ := hI
  simp only at i1 i2 i3 i5
  rw [cn_eq (x := y11) (e := k + 1) (by omega), i2] at e12
  have hz : y12.toInt = ((off + C.length : Nat) : Int) := by rw [e12]; exact n2
  have hi : i = C.length := by omega
  subst hi
  rw [List.take_length] at i5
  exact (k_pop_eq hpop i5).1

/-! the reference's loop over a formula's code -/
def StkR (st : List Int32) (G : GS) : Prop := ∀ i, i < st.length → G.1 76 (st.length - 1 - i) = st.getD i 0
theorem sr_push {st : List Int32} {v : Int32} {G G1 : GS} (hS : StkR st G) (e : G1.1 76 = upd (G.1 76) st.length v) : StkR (v :: st) G1 := by
  intro i hi
  rw [List.length_cons] at hi ⊢
  rw [e]
  cases i with
  | zero =>
    rw [show upd (G.1 76) st.length v (st.length + 1 - 1 - 0) = v from if_pos (by omega)]
    rfl
  | succ i =>
    rw [show upd (G.1 76) st.length v (st.length + 1 - 1 - (i + 1)) = G.1 76 (st.length + 1 - 1 - (i + 1)) from if_neg (by omega), show st.length + 1 - 1 - (i + 1) = st.length - 1 - i by omega, hS i (by omega)]
    simp
theorem sr_head {st : List Int32} {G : GS} (hS : StkR st G) (h : 1 ≤ st.length) : G.1 76 (st.length - 1) = st.headD 0 := by
  have := hS 0 (by omega)
  rw [Nat.sub_zero] at this
  rw [this]
  cases st with
  | nil => rfl
  | cons v st => rfl
theorem sr_head2 {st : List Int32} {G : GS} (hS : StkR st G) (h : 2 ≤ st.length) : G.1 76 (st.length - 1 - 1) = st.tail.headD 0 := by
  have := hS 1 (by omega)
  rw [this]
  cases st with
  | nil => rfl
  | cons v st =>
    cases st with
    | nil => rfl
    | cons w st => rfl
theorem sr_top {st : List Int32} {v : Int32} {G G1 : GS} (hS : StkR st G) (h : 1 ≤ st.length) (e : G1.1 76 = upd (G.1 76) (st.length - 1) v) : StkR (v :: st.tail) G1 := by
  cases st with
  | nil => exact absurd h (by decide)
  | cons w st =>
    intro i hi
    rw [List.tail_cons, List.length_cons] at hi ⊢
    rw [e, List.length_cons]
    cases i with
    | zero =>
      rw [show upd (G.1 76) (st.length + 1 - 1) v (st.length + 1 - 1 - 0) = v from if_pos (by omega)]
      rfl
    | succ i =>
      rw [show upd (G.1 76) (st.length + 1 - 1) v (st.length + 1 - 1 - (i + 1)) = G.1 76 (st.length + 1 - 1 - (i + 1)) from if_neg (by omega)]
      have := hS (i + 1) (by rw [List.length_cons]; omega)
      rw [List.length_cons] at this
      rw [this]
      simp
theorem sr_two {st : List Int32} {v : Int32} {G G1 : GS} (hS : StkR st G) (h : 2 ≤ st.length) (e : G1.1 76 = upd (G.1 76) (st.length - 1 - 1) v) : StkR (v :: st.tail.tail) G1 := by
  cases st with
  | nil => exact absurd h (by decide)
  | cons w st =>
    cases st with
    | nil => exact absurd h (by simp)
    | cons w2 st =>
      intro i hi
      rw [List.tail_cons, List.tail_cons, List.length_cons] at hi ⊢
      rw [e, List.length_cons, List.length_cons]
      cases i with
      | zero =>
        rw [show upd (G.1 76) (st.length + 1 + 1 - 1 - 1) v (st.length + 1 - 1 - 0) = v from if_pos (by omega)]
        rfl
      | succ i =>
        rw [show upd (G.1 76) (st.length + 1 + 1 - 1 - 1) v (st.length + 1 - 1 - (i + 1)) = G.1 76 (st.length + 1 - 1 - (i + 1)) from if_neg (by omega)]
        have := hS (i + 2) (by rw [List.length_cons, List.length_cons]; omega)
        rw [List.length_cons, List.length_cons, show st.length + 1 + 1 - 1 - (i + 2) = st.length + 1 - 1 - (i + 1) by omega] at this
        rw [this]
        simp
/-- the INCH at a place of the reference's rows -/
def IcR (x : IC) (j : Nat) (G : GS) : Prop := (G.1 87 j).toInt = x.1 ∧ (G.1 88 j).toInt = x.2.1 ∧ (G.1 89 j).toInt = x.2.2.1 ∧ (G.1 90 j).toInt = x.2.2.2
theorem q_ask_eq {x : IC} {p0 p1 r : Int32} {G G1 : GS} {j : Nat} (h : Q_askOf p0 p1 G r G1) (hj : p0.toInt = (j : Int)) (hx : IcR x j G) (h0 : 0 ≤ p1.toInt) (h8 : p1.toInt ≤ 8) : G = G1 ∧ r.toInt = icQ x (G.1 110 6).toInt p1.toInt := by
  obtain ⟨-, hF, hh⟩ := h
  refine ⟨hF.nil, ?_⟩
  obtain ⟨x1, x2, x3, x4⟩ := hx
  rw [cn_eq hj] at hh
  have z6 : (6 : Int32).toNatClampNeg = 6 := rfl
  rw [z6] at hh
  unfold icQ
  have bit : ∀ (k c : Nat) (hc : 2 ^ k = c) {y21 y22 y23 y24 : Int32}, y21 = G.1 87 j → y22.toInt = p1.toInt - 1 → y23 = y21 >>> (y22 &&& 31) → y24 = y23 &&& 1 → p1.toInt - 1 = (k : Int) → 0 ≤ y21.toInt → k < 4 → y24.toInt = x.1 / (c : Int) % 2 := by
    intro k c hc y21 y22 y23 y24 e21 t22 e23 e24 hk hp h4
    have e1 : y21.toInt = x.1 := by rw [e21]; exact x1
    have ey : y22 = Int32.ofInt (k : Int) := of_i (by omega)
    have hsh : (y21 >>> (y22 &&& 31)).toBitVec = y21.toBitVec.sshiftRight k := by
      have h5 : k = 0 ∨ k = 1 ∨ k = 2 ∨ k = 3 := by omega
      rcases h5 with rfl | rfl | rfl | rfl <;> rw [ey] <;> rfl
    have s1 := shr_i hsh hc e1 (by omega)
    rw [e24, e23]
    exact and_i (m := 1) (k := 1) (c := 2) rfl rfl s1 (Int.ediv_nonneg (by omega) (by omega))
  rcases hh with ⟨c, y2, e2, ⟨d, r5, G6, ht, rfl, -⟩ | ⟨d, r5, G6, ht, rfl, -⟩⟩ | ⟨c, hh⟩
  · rw [e2, x1] at d
    rw [(q_truth ht).2, if_pos c, if_neg (by omega)]
    rfl
  · rw [e2, x1] at d
    rw [(q_truth ht).2, if_pos c, if_pos d]
    rfl
  rw [if_neg c]
  rcases hh with ⟨c1, y19, e19, ⟨d, y21, e21, y22, t22, y23, e23, y24, e24, rfl, -⟩ | ⟨d, rfl, -⟩⟩ | ⟨c1, hh⟩
  · rw [if_pos (by omega), if_neg (by rw [e19, x1] at d; omega), bit 0 1 rfl e21 t22 e23 e24 (by omega) (by rw [e21]; rw [e19] at d; exact d) (by decide), c1]
    rfl
  · rw [e19, x1] at d
    rw [if_pos (by omega), if_pos d]
    rfl
  rcases hh with ⟨c2, y19, e19, ⟨d, y21, e21, y22, t22, y23, e23, y24, e24, rfl, -⟩ | ⟨d, rfl, -⟩⟩ | ⟨c2, hh⟩
  · rw [if_pos (by omega), if_neg (by rw [e19, x1] at d; omega), bit 1 2 rfl e21 t22 e23 e24 (by omega) (by rw [e21]; rw [e19] at d; exact d) (by decide), c2]
    rfl
  · rw [e19, x1] at d
    rw [if_pos (by omega), if_pos d]
    rfl
  rcases hh with ⟨c3, y19, e19, ⟨d, y21, e21, y22, t22, y23, e23, y24, e24, rfl, -⟩ | ⟨d, rfl, -⟩⟩ | ⟨c3, hh⟩
  · rw [if_pos (by omega), if_neg (by rw [e19, x1] at d; omega), bit 2 4 rfl e21 t22 e23 e24 (by omega) (by rw [e21]; rw [e19] at d; exact d) (by decide), c3]
    rfl
  · rw [e19, x1] at d
    rw [if_pos (by omega), if_pos d]
    rfl
  rcases hh with ⟨c4, y19, e19, ⟨d, y21, e21, y22, t22, y23, e23, y24, e24, rfl, -⟩ | ⟨d, rfl, -⟩⟩ | ⟨c4, hh⟩
  · rw [if_pos (by omega), if_neg (by rw [e19, x1] at d; omega), bit 3 8 rfl e21 t22 e23 e24 (by omega) (by rw [e21]; rw [e19] at d; exact d) (by decide), c4]
    rfl
  · rw [e19, x1] at d
    rw [if_pos (by omega), if_pos d]
    rfl
  rw [if_neg (by omega)]
  rcases hh with ⟨c5, y, e, rfl, -⟩ | ⟨c5, ⟨c6, y, e, rfl, -⟩ | ⟨c6, ⟨c7, y, e, rfl, -⟩ | ⟨c7, y, e, rfl, -⟩⟩⟩
  · rw [if_pos c5, e]
    exact x4
  · rw [if_neg c5, if_pos c6, e]
    exact x2
  · rw [if_neg c5, if_neg c6, if_pos c7, e]
    exact x3
  · rw [if_neg c5, if_neg c6, if_neg c7, e]
theorem q_worked_eq {x : IC} {p0 p1 r : Int32} {G G1 : GS} {k j : Nat} {C : List (Int × Int)} (h : Q_worked p0 p1 G r G1) (hk : p0.toInt = (k : Int)) (hj : p1.toInt = (j : Int)) (hC : RCd k C G) (hx : IcR x j G) (hw : FOK C) : r = (evl x (G.1 110 6) C).headD 0 := by
  obtain ⟨-, -, y1, t1, x8, x9, G4, hl, -, -, -, -, -, -, -, y18, t18, y19, e19, y21, t21, c21, y23, e23, rfl, rfl⟩ := h
  obtain ⟨w1, w2, w3⟩ := hw
  have hI := hl (fun q => (q.2.2.1 72 = G.1 72 ∧ q.2.2.1 73 = G.1 73 ∧ q.2.2.1 74 = G.1 74 ∧ q.2.2.1 87 = G.1 87 ∧ q.2.2.1 88 = G.1 88 ∧ q.2.2.1 89 = G.1 89 ∧ q.2.2.1 90 = G.1 90 ∧ q.2.2.1 110 = G.1 110) ∧ ∃ i : Nat, q.1.toInt = ((320 * k + i : Nat) : Int) ∧ i ≤ C.length ∧ q.2.1.toInt = ((evl x (G.1 110 6) (C.take i)).length : Int) ∧ StkR (evl x (G.1 110 6) (C.take i)) q.2.2) ⟨⟨rfl, rfl, rfl, rfl, rfl, rfl, rfl, rfl⟩, 0, by show y1.toInt = _; omega, Nat.zero_le _, rfl, fun i hi => absurd hi (Nat.not_lt_zero i)⟩ (by
    rintro ⟨x1, n1, G_1⟩ ⟨xn, nn, G_1n⟩ ⟨⟨a1, a2, a3, a4, a5, a6, a7, a8⟩, i, i3, i4, i5, i6⟩ ⟨x1q, n1q, G_1q, xnq, nnq, G_1nq, q1, q2, -, -, -, -, -, -, z18, s18, z19, f19, z21, s21, c, y24, e24, hd⟩
    obtain ⟨rfl, q1x⟩ := Prod.mk.inj q1
    obtain ⟨rfl, rfl⟩ := Prod.mk.inj q1x
    obtain ⟨rfl, q2x⟩ := Prod.mk.inj q2
    obtain ⟨rfl, rfl⟩ := Prod.mk.inj q2x
    simp only at a1 a2 a3 a4 a5 a6 a7 a8 i3 i5 i6
    rw [cn_eq hk, a3] at f19
    have hz : z19.toInt = (C.length : Int) := by rw [f19]; exact hC.1
    have hil : i < C.length := by clear hd; omega
    obtain ⟨cc, hcc⟩ : ∃ cc, cc = C.getD i (0, 0) := ⟨_, rfl⟩
    have hok : cOK cc := by rw [hcc]; exact w1 _ (getD_memC hil)
    obtain ⟨b1, b2⟩ := hC.2 i hil
    rw [← hcc] at b1 b2
    have hnx := evl_take (x := x) (day := G.1 110 6) hil
    rw [← hcc] at hnx
    obtain ⟨l1, l2⟩ := evl_len (x := x) (day := G.1 110 6) w2 w1 i (by omega)
    obtain ⟨l3, -⟩ := evl_len (x := x) (day := G.1 110 6) w2 w1 (i + 1) (by omega)
    have ld := dep_take1 (C := C) hil
    rw [l1, l3, ← hcc, hnx] at ld
    obtain ⟨st, hst⟩ : ∃ st, st = evl x (G.1 110 6) (C.take i) := ⟨_, rfl⟩
    rw [← hst] at i5 i6 hnx ld
    have hld : some (ev1 x (G.1 110 6) st cc).length = (if cc.1 ≤ 1 then some (st.length + 1) else if cc.1 = 2 then (if 1 ≤ st.length then some st.length else none) else (if 2 ≤ st.length then some (st.length - 1) else none)) := ld
    rw [cn_eq (x := x1) (e := 320 * k + i) i3] at hd e24
    rw [a1, a2] at hd
    rw [a1] at e24
    have fin : ∀ {Gz : GS} {y m : Int32}, y.toInt = x1.toInt + 1 → Fr [76] [] G_1 Gz → m.toInt = ((ev1 x (G.1 110 6) st cc).length : Int) → StkR (ev1 x (G.1 110 6) st cc) Gz → (Gz.1 72 = G.1 72 ∧ Gz.1 73 = G.1 73 ∧ Gz.1 74 = G.1 74 ∧ Gz.1 87 = G.1 87 ∧ Gz.1 88 = G.1 88 ∧ Gz.1 89 = G.1 89 ∧ Gz.1 90 = G.1 90 ∧ Gz.1 110 = G.1 110) ∧ ∃ i : Nat, y.toInt = ((320 * k + i : Nat) : Int) ∧ i ≤ C.length ∧ m.toInt = ((evl x (G.1 110 6) (C.take i)).length : Int) ∧ StkR (evl x (G.1 110 6) (C.take i)) Gz := by
      intro Gz y m ty hF tm hs
      refine ⟨⟨(hF.row1 72 (by decide) (by decide)).trans a1, (hF.row1 73 (by decide) (by decide)).trans a2, (hF.row1 74 (by decide) (by decide)).trans a3, (hF.row1 87 (by decide) (by decide)).trans a4, (hF.row1 88 (by decide) (by decide)).trans a5, (hF.row1 89 (by decide) (by decide)).trans a6, (hF.row1 90 (by decide) (by decide)).trans a7, (hF.row1 110 (by decide) (by decide)).trans a8⟩, i + 1, by clear hd; omega, by omega, ?_, ?_⟩
      · rw [hnx]
        exact tm
      · rw [hnx]
        exact hs
    have hxr : IcR x j G_1 := by
      unfold IcR
      rw [a4, a5, a6, a7]
      exact hx
    have push : ∀ {Gz : GS} {y m v : Int32}, cc.1 ≤ 1 → ev1 x (G.1 110 6) st cc = v :: st → y.toInt = x1.toInt + 1 → m.toInt = n1.toInt + 1 → Fr [76] [] G_1 Gz → Gz.1 76 = upd (G_1.1 76) n1.toNatClampNeg v → (Gz.1 72 = G.1 72 ∧ Gz.1 73 = G.1 73 ∧ Gz.1 74 = G.1 74 ∧ Gz.1 87 = G.1 87 ∧ Gz.1 88 = G.1 88 ∧ Gz.1 89 = G.1 89 ∧ Gz.1 90 = G.1 90 ∧ Gz.1 110 = G.1 110) ∧ ∃ i : Nat, y.toInt = ((320 * k + i : Nat) : Int) ∧ i ≤ C.length ∧ m.toInt = ((evl x (G.1 110 6) (C.take i)).length : Int) ∧ StkR (evl x (G.1 110 6) (C.take i)) Gz := by
      intro Gz y m v hc1 he ty tm hF e76
      rw [cn_eq i5] at e76
      refine fin ty hF ?_ ?_
      · rw [he, List.length_cons]
        clear hd
        omega
      · rw [he]
        exact sr_push i6 e76
    have asks : ∀ {y31 r33 : Int32} {G34 : GS}, y31 = G.1 73 (320 * k + i) → cc.1 = 1 → Q_askOf p1 y31 G_1 r33 G34 → G_1 = G34 ∧ ev1 x (G.1 110 6) st cc = r33 :: st := by
      intro y31 r33 G34 e31 hc1 hq
      have hb := hok
      unfold cOK at hb
      have e31' : y31.toInt = cc.2 := by rw [e31]; exact b2
      obtain ⟨eg, hv⟩ := q_ask_eq hq hj hxr (by clear hd; omega) (by clear hd; omega)
      refine ⟨eg, ?_⟩
      unfold ev1
      rw [if_neg (by omega), if_pos hc1, of_i hv, e31', a8]
    have c4 : cc.1 = 0 ∨ cc.1 = 1 ∨ cc.1 = 2 ∨ cc.1 = 3 := by
      have := hok
      unfold cOK at this
      clear hd
      omega
    have e24' : y24.toInt = cc.1 := by rw [e24]; exact b1
    rcases hd with ⟨f1, y28, e28, ⟨f2, y42, e42, y45, t45, y46, t46, ex, en, hF, e76⟩ | ⟨f2, -⟩⟩ | ⟨f1, y48, e48, ⟨f2, y96, e96, ⟨f3, -⟩ | ⟨f3, y99, e99, r101, G102, hq, y107, t107, y108, t108, ex, en, hF, e76⟩⟩ | ⟨f2, y51, e51, hd⟩⟩
    · refine push (by omega) ?_ (by rw [← ex]; exact t46) (by rw [← en]; exact t45) hF e76
      unfold ev1
      rw [if_pos (by omega), of_i (show y42.toInt = cc.2 by rw [e42]; exact b2)]
    · refine absurd ?_ f2
      rw [e28, b1]
      omega
    · rw [e96, b1] at f3
      rw [e48, b1] at f2
      omega
    · rw [e48, b1] at f2
      obtain ⟨rfl, he⟩ := asks e99 f2 hq
      exact push (by omega) he (by rw [← ex]; exact t108) (by rw [← en]; exact t107) hF e76
    · rw [e48, b1] at f2
      rcases hd with ⟨f3, y71, t71, y72, t72, y73, e73, hd⟩ | ⟨f3, y54, t54, y55, t55, y56, e56, y58, t58, y59, e59, y61, e61, r63, G64, hq, y69, t69, ex, en, hF, e76⟩
      · rw [e51, b1] at f3
        rw [if_neg (by omega), if_pos f3] at hld
        have h1 : 1 ≤ st.length := by
          refine Classical.byContradiction (fun q => ?_)
          rw [if_neg q] at hld
          exact absurd hld (by simp)
        rw [if_pos h1] at hld
        have hln := Option.some.inj hld
        rw [cn_eq (x := y72) (e := st.length - 1) (by clear hd; omega), sr_head i6 h1] at e73
        rcases hd with ⟨f4, r87, G88, hq, y94, t94, ex, en, hF, e76⟩ | ⟨f4, r87, G88, hq, y94, t94, ex, en, hF, e76⟩
        · obtain ⟨rfl, hr⟩ := q_truth hq
          rw [cn_eq (x := y71) (e := st.length - 1) (by omega), of_i hr] at e76
          refine fin (by rw [← ex]; exact t94) hF (by rw [← en]; dsimp only; omega) ?_
          have he : ev1 x (G.1 110 6) st cc = 1 :: st.tail := by
            unfold ev1
            rw [if_neg (by omega), if_neg (by omega), if_pos f3, ← e73, if_pos f4]
          rw [he]
          exact sr_top i6 h1 e76
        · obtain ⟨rfl, hr⟩ := q_truth hq
          rw [cn_eq (x := y71) (e := st.length - 1) (by omega), of_i hr] at e76
          refine fin (by rw [← ex]; exact t94) hF (by rw [← en]; dsimp only; omega) ?_
          have he : ev1 x (G.1 110 6) st cc = 0 :: st.tail := by
            unfold ev1
            rw [if_neg (by omega), if_neg (by omega), if_pos f3, ← e73, if_neg f4]
          rw [he]
          exact sr_top i6 h1 e76
      · rw [e51, b1] at f3
        rw [if_neg (by omega), if_neg f3] at hld
        have h2 : 2 ≤ st.length := by
          refine Classical.byContradiction (fun q => ?_)
          rw [if_neg q] at hld
          exact absurd hld (by simp)
        rw [if_pos h2] at hld
        have hln := Option.some.inj hld
        have hsg : sgO cc.2 := by
          have hb := hok
          unfold cOK at hb
          rcases hb with q | q | q | q
          · exact absurd q.1 (by omega)
          · exact absurd q.1 (by omega)
          · exact absurd q.1 (by omega)
          · exact q.2
        rw [cn_eq (x := y58) (e := st.length - 1 - 1) (by omega), sr_head2 i6 h2] at e59
        rw [cn_eq (x := y54) (e := st.length - 1) (by omega), sr_head i6 (by omega)] at e61
        obtain ⟨rfl, hr⟩ := q_done_eq (o := cc.2) hq hsg (by rw [e56]; exact b2)
        rw [cn_eq (x := y55) (e := st.length - 1 - 1) (by omega)] at e76
        have he : ev1 x (G.1 110 6) st cc = r63 :: st.tail.tail := by
          unfold ev1
          rw [if_neg (by omega), if_neg (by omega), if_neg f3, hr, e59, e61]
        refine fin (by rw [← ex]; exact t69) hF (by rw [← en]; dsimp only; omega) ?_
        rw [he]
        exact sr_two i6 h2 e76)
  obtain ⟨⟨a1, a2, a3, -⟩, i, i3, i4, i5, i6⟩ := hI
  simp only at a1 a2 a3 i3 i5 i6
  rw [cn_eq hk, a3] at e19
  have hz : y19.toInt = (C.length : Int) := by rw [e19]; exact hC.1
  have hi : i = C.length := by omega
  subst hi
  rw [List.take_length] at i5 i6
  obtain ⟨l1, -⟩ := evl_len (x := x) (day := G.1 110 6) w2 w1 C.length (Nat.le_refl _)
  rw [List.take_length, w2] at l1
  have hl1 := Option.some.inj l1
  have z0 : (0 : Int32).toNatClampNeg = 0 := rfl
  rw [z0] at e23
  have := sr_head i6 (by omega)
  rw [← hl1] at this
  rw [e23]
  exact this

/-! LINES: what is asked, and the program's bits -/
def vlu (V : PV) (day : Int32) (x : IC) (k : Nat) : Int32 := (evl x day (V.2.2.1.getD k ([], [])).2).headD 0
def fbd (x : IC) : Prop := x.1 < 0 ∨ x.1 / 2 % 2 = 1 ∨ x.1 / 4 % 2 = 1
def LNs (V : PV) (day : Int32) (x : IC) (t : Nat) : Prop := (t = 0 ∧ fbd x) ∨ (t ≠ 0 ∧ ∃ k, k < V.2.2.1.length ∧ t.testBit k = true ∧ (vlu V day x k).toInt ≠ 0)
/-- all that holds of a PAVING's rules -/
def PVok (V : PV) : Prop := V.2.2.1.length ≤ 6 ∧ (fcd V.2.2.1).length ≤ 580 ∧ ∀ k, k < V.2.2.1.length → FOK (V.2.2.1.getD k ([], [])).2
theorem on_i {m : Nat} (h : m < 2147483648) : (Int32.ofNat m).toInt = (m : Int) := Int32.toInt_ofNat_of_lt h
theorem nat_i {x : Int32} (h : 0 ≤ x.toInt) : x = Int32.ofNat x.toInt.toNat := by
  refine Int32.toInt_inj.mp ?_
  have := tI_rng x
  rw [on_i (by omega)]
  omega
theorem ofN_tn {m : Nat} (h : m < 4294967296) : (Int32.ofNat m).toBitVec.toNat = m := by
  show (BitVec.ofNat 32 m).toNat = m
  rw [BitVec.toNat_ofNat]
  exact Nat.mod_eq_of_lt h
theorem n_and {a b : Nat} (ha : a < 2147483648) (hb : b < 2147483648) : (Int32.ofNat a &&& Int32.ofNat b).toInt = ((a &&& b : Nat) : Int) := by
  have h1 : a &&& b ≤ a := Nat.and_le_left
  refine ti_n ?_ (by omega)
  show ((Int32.ofNat a).toBitVec &&& (Int32.ofNat b).toBitVec).toNat = _
  rw [BitVec.toNat_and, ofN_tn (by omega), ofN_tn (by omega)]
theorem n_or {a b : Nat} (ha : a < 128) (hb : b < 128) : Int32.ofNat a ||| Int32.ofNat b = Int32.ofNat (a ||| b) := by
  have h1 : a ||| b < 2 ^ 7 := Nat.or_lt_two_pow (by omega) (by omega)
  refine Int32.toInt_inj.mp ?_
  rw [on_i (by omega)]
  refine ti_n ?_ (by omega)
  show ((Int32.ofNat a).toBitVec ||| (Int32.ofNat b).toBitVec).toNat = _
  rw [BitVec.toNat_or, ofN_tn (by omega), ofN_tn (by omega)]
/-- two sets of bits meet -/
theorem meet_i {a b : Nat} : a &&& b ≠ 0 ↔ ∃ k, a.testBit k = true ∧ b.testBit k = true := by
  constructor
  · intro h
    refine Classical.byContradiction (fun q => h ?_)
    refine Nat.eq_of_testBit_eq (fun k => ?_)
    rw [Nat.testBit_and, Nat.zero_testBit]
    by_cases h1 : a.testBit k = true
    · by_cases h2 : b.testBit k = true
      · exact absurd ⟨k, h1, h2⟩ q
      · rw [h1]
        simpa using h2
    · rw [Bool.eq_false_iff.mpr h1]
      rfl
  · rintro ⟨k, h1, h2⟩ h
    have := congrArg (fun z => Nat.testBit z k) h
    simp only [Nat.testBit_and, h1, h2, Nat.zero_testBit] at this
    exact absurd this (by decide)
theorem sh_pow : ∀ k : Nat, k < 31 → ((1 : Int32) <<< (Int32.ofNat k &&& 31)) = Int32.ofNat (2 ^ k) := by decide +kernel
/-- the bits that are found of an INCH: by the RULES below n -/
def FB (V : PV) (day : Int32) (x : IC) (n m : Nat) : Prop := m < 128 ∧ (m.testBit 6 = true ↔ fbd x) ∧ ∀ k, k < 6 → (m.testBit k = true ↔ (k < n ∧ (vlu V day x k).toInt ≠ 0))
theorem fb_0 {x : IC} (hx : ICok x) {y : Int32} (hy : y = encI x) : ((y &&& 13).toInt ≠ 0 ↔ fbd x) := by
  obtain ⟨e1, e2⟩ := encI_i hx
  rw [← hy] at e1
  have hr := tI_rng y
  have e3 : y = Int32.ofNat (encV x).toNat := by
    rw [nat_i (x := y) (by omega), e1]
  have e13 : (13 : Int32) = Int32.ofNat 13 := rfl
  rw [e3, e13, n_and (by omega) (by decide)]
  obtain ⟨m, nth, i, l⟩ := x
  obtain ⟨g1, g2, g3, g4, g5, g6, g7, g8⟩ := hx
  simp only at g1 g2 g3 g4 g5 g6 g7 g8
  have eV : encV (m, nth, i, l) = (if m < 0 then 1 else 2 * m) + 32 * nth + 16384 * i + 1048576 * l := rfl
  have hm : ((encV (m, nth, i, l)).toNat &&& 13) = ((encV (m, nth, i, l)).toNat % 16 &&& 13) := by
    refine Nat.eq_of_testBit_eq (fun k => ?_)
    rw [Nat.testBit_and, Nat.testBit_and, show (16 : Nat) = 2 ^ 4 from rfl, Nat.testBit_mod_two_pow]
    by_cases hk : k < 4
    · simp [hk]
    · have : Nat.testBit 13 k = false := Nat.testBit_lt_two_pow (Nat.lt_of_lt_of_le (by decide : 13 < 2 ^ 4) (Nat.pow_le_pow_right (by decide) (by omega)))
      rw [this]
      simp
  rw [hm]
  have hmod : (encV (m, nth, i, l)).toNat % 16 = ((if m < 0 then (1 : Int) else 2 * m) % 16).toNat := by
    rw [eV]
    by_cases h0 : m < 0
    · rw [if_pos h0]
      omega
    · rw [if_neg h0]
      omega
  rw [hmod]
  unfold fbd
  have key : ∀ v : Nat, v < 16 → (((2 * v % 16 &&& 13 : Nat) : Int) ≠ 0 ↔ (v / 2 % 2 = 1 ∨ v / 4 % 2 = 1)) := by decide +kernel
  by_cases h0 : m < 0
  · rw [if_pos h0]
    exact ⟨fun _ => Or.inl h0, fun _ => by decide⟩
  · rw [if_neg h0]
    have := key m.toNat (by omega)
    rw [show ((2 * m) % 16).toNat = 2 * m.toNat % 16 by omega, this]
    show _ ↔ (m < 0 ∨ m / 2 % 2 = 1 ∨ m / 4 % 2 = 1)
    constructor
    · intro q
      right
      rcases q with q | q
      · left
        omega
      · right
        omega
    · intro q
      rcases q with q | q | q
      · exact absurd q h0
      · left
        omega
      · right
        omega
theorem FB_start {V : PV} {day : Int32} {x : IC} {w : Int32} (h : (w = 64 ∧ fbd x) ∨ (w = 0 ∧ ¬ fbd x)) : ∃ m, w = Int32.ofNat m ∧ FB V day x 0 m := by
  rcases h with ⟨rfl, h⟩ | ⟨rfl, h⟩
  · refine ⟨64, rfl, by decide, ⟨fun _ => h, fun _ => by decide⟩, fun k hk => ⟨fun q => ?_, fun q => absurd q.1 (Nat.not_lt_zero k)⟩⟩
    have : ∀ k : Nat, k < 6 → Nat.testBit 64 k = false := by decide
    rw [this k hk] at q
    exact absurd q (by decide)
  · refine ⟨0, rfl, by decide, ⟨fun q => ?_, fun q => absurd q h⟩, fun k hk => ⟨fun q => ?_, fun q => absurd q.1 (Nat.not_lt_zero k)⟩⟩
    · exact absurd q (by decide)
    · rw [Nat.zero_testBit] at q
      exact absurd q (by decide)
theorem FB_no {V : PV} {day : Int32} {x : IC} {n m : Nat} (h : FB V day x n m) (hv : (vlu V day x n).toInt = 0) : FB V day x (n + 1) m := by
  refine ⟨h.1, h.2.1, fun k hk => (h.2.2 k hk).trans ⟨fun q => ⟨by omega, q.2⟩, fun q => ⟨?_, q.2⟩⟩⟩
  have : k ≠ n := fun e => q.2 (by rw [e]; exact hv)
  omega
theorem FB_yes {V : PV} {day : Int32} {x : IC} {n m : Nat} (h : FB V day x n m) (hn : n < 6) (hv : (vlu V day x n).toInt ≠ 0) : FB V day x (n + 1) (m ||| 2 ^ n) := by
  have hp : 2 ^ n < 2 ^ 7 := Nat.pow_lt_pow_right (by decide) (by omega)
  refine ⟨Nat.or_lt_two_pow (n := 7) h.1 hp, ?_, fun k hk => ?_⟩
  · rw [Nat.testBit_or, Nat.testBit_two_pow]
    have : decide (n = 6) = false := decide_eq_false (by omega)
    rw [this, Bool.or_false]
    exact h.2.1
  · rw [Nat.testBit_or, Nat.testBit_two_pow]
    by_cases hkn : n = k
    · subst hkn
      simp [hv]
    · have : decide (n = k) = false := decide_eq_false hkn
      rw [this, Bool.or_false]
      exact (h.2.2 k hk).trans ⟨fun q => ⟨by omega, q.2⟩, fun q => ⟨by omega, q.2⟩⟩
/-- whether it is a LINE, told from the bits -/
theorem FB_line {V : PV} {day : Int32} {x : IC} {m t : Nat} {y p : Int32} (h : FB V day x V.2.2.1.length m) (hV : V.2.2.1.length ≤ 6) (hy : y = Int32.ofNat m) (hp : p.toInt = (t : Int)) (ht : t < 64) : (p.toInt = 0 → ((y &&& 64).toInt ≠ 0 ↔ LNs V day x t)) ∧ (p.toInt ≠ 0 → ((y &&& p).toInt ≠ 0 ↔ LNs V day x t)) := by
  have hm := h.1
  have ep : p = Int32.ofNat t := by
    rw [nat_i (x := p) (by omega), hp]
    rfl
  have e64 : (64 : Int32) = Int32.ofNat 64 := rfl
  refine ⟨fun h0 => ?_, fun h0 => ?_⟩
  · have t0 : t = 0 := by omega
    rw [hy, e64, n_and (by omega) (by decide)]
    unfold LNs
    constructor
    · intro q
      refine Or.inl ⟨t0, h.2.1.mp ?_⟩
      obtain ⟨k, k1, k2⟩ := meet_i.mp (show m &&& 64 ≠ 0 by omega)
      have e6 : k = 6 := by
        rw [show (64 : Nat) = 2 ^ 6 from rfl, Nat.testBit_two_pow] at k2
        have := of_decide_eq_true k2
        omega
      rw [← e6]
      exact k1
    · intro q
      rcases q with q | q
      · have : m &&& 64 ≠ 0 := meet_i.mpr ⟨6, h.2.1.mpr q.2, by decide⟩
        omega
      · exact absurd t0 q.1
  · have t0 : t ≠ 0 := by omega
    rw [hy, ep, n_and (by omega) (by omega)]
    unfold LNs
    constructor
    · intro q
      obtain ⟨k, k1, k2⟩ := meet_i.mp (show m &&& t ≠ 0 by omega)
      have hk : k < 6 := by
        refine Classical.byContradiction (fun w => ?_)
        have : t.testBit k = false := Nat.testBit_lt_two_pow (Nat.lt_of_lt_of_le ht (by
          have := Nat.pow_le_pow_right (show 0 < 2 by decide) (show 6 ≤ k by omega)
          exact this))
        rw [this] at k2
        exact absurd k2 (by decide)
      have := (h.2.2 k hk).mp k1
      exact Or.inr ⟨t0, k, this.1, k2, this.2⟩
    · intro q
      rcases q with q | ⟨-, k, k1, k2, k3⟩
      · exact absurd q.1 t0
      · have : m &&& t ≠ 0 := meet_i.mpr ⟨k, (h.2.2 k (by omega)).mpr ⟨k1, k3⟩, k2⟩
        omega

/-! LINES on both sides -/
/-- the reference: is an INCH a LINE -/
theorem q_isLine_eq {V : PV} {x : IC} {p0 p1 p2 r : Int32} {G G1 : GS} {s i t : Nat} (h : Q_isLine p0 p1 p2 G r G1) (hs : p0.toInt = (s : Int)) (hi : p2.toInt = (i : Int)) (ht : p1.toInt = (t : Int)) (ht64 : t < 64) (hx : IcR x (400 * s + i) G) (hxo : ICok x) (hl : (G.1 66 54).toInt = (V.2.2.1.length : Int)) (hV : PVok V) (hC : ∀ k, k < V.2.2.1.length → RCd k (V.2.2.1.getD k ([], [])).2 G) : Fr [76] [] G G1 ∧ (r.toInt ≠ 0 ↔ LNs V (G.1 110 6) x t) := by
  obtain ⟨-, hF, -, y1, t1, y2, t2, hh⟩ := h
  refine ⟨hF, ?_⟩
  have z0 : (0 : Int32).toInt = 0 := rfl
  have o1 : (1 : Int32).toInt = 1 := rfl
  have hy : y2.toInt = ((400 * s + i : Nat) : Int) := by clear hh; omega
  unfold LNs
  rcases hh with ⟨c, y35, e35, hh⟩ | ⟨c, x8, x9, G4, hl1, -, b9, -, -, hh⟩
  · have t0 : t = 0 := by clear hh; omega
    rw [cn_eq hy] at e35 hh
    have e35' : y35.toInt = x.1 := by rw [e35]; exact hx.1
    have hne : ∀ {b : Prop}, (b ↔ fbd x) → (b ↔ ((t = 0 ∧ fbd x) ∨ (t ≠ 0 ∧ ∃ k, k < V.2.2.1.length ∧ t.testBit k = true ∧ (vlu V (G.1 110 6) x k).toInt ≠ 0))) := fun hb => hb.trans ⟨fun q => Or.inl ⟨t0, q⟩, fun q => q.elim (fun w => w.2) (fun w => absurd t0 w.1)⟩
    rcases hh with ⟨d, rfl, -⟩ | ⟨d, y37, e37, y38, e38, hh⟩
    · exact hne ⟨fun _ => Or.inl (by omega), fun _ => by omega⟩
    · have e37' : y37.toInt = x.1 := by rw [e37]; exact hx.1
      obtain ⟨h1, h2, -⟩ := hxo
      have e3 : y37 = Int32.ofNat x.1.toNat := by rw [nat_i (x := y37) (by omega), e37']
      have e6 : (6 : Int32) = Int32.ofNat 6 := rfl
      have e4 : y38.toInt = ((x.1.toNat &&& 6 : Nat) : Int) := by
        rw [e38, e3, e6]
        exact n_and (by omega) (by decide)
      have key : ∀ v : Nat, v < 16 → ((v &&& 6) ≠ 0 ↔ (v / 2 % 2 = 1 ∨ v / 4 % 2 = 1)) := by decide +kernel
      have hk := key x.1.toNat (by omega)
      have hb : y38.toInt ≠ 0 ↔ fbd x := by
        unfold fbd
        constructor
        · intro q
          have := hk.mp (by omega)
          clear hk
          omega
        · intro q
          have := hk.mpr (by clear hk; omega)
          omega
      rcases hh with ⟨f, rfl, -⟩ | ⟨f, rfl, -⟩
      · exact hne ⟨fun q => absurd z0 q, fun q => absurd f (hb.mpr q)⟩
      · exact hne ⟨fun _ => hb.mp f, fun _ => by omega⟩
  · have t0 : t ≠ 0 := by clear hh; omega
    have hI := hl1 (fun q => (q.2.2.1 72 = G.1 72 ∧ q.2.2.1 73 = G.1 73 ∧ q.2.2.1 74 = G.1 74 ∧ q.2.2.1 87 = G.1 87 ∧ q.2.2.1 88 = G.1 88 ∧ q.2.2.1 89 = G.1 89 ∧ q.2.2.1 90 = G.1 90 ∧ q.2.2.1 110 = G.1 110) ∧ ∃ n : Nat, q.1.toInt = (n : Int) ∧ (q.2.1.toInt = 0 ∨ q.2.1.toInt = 1) ∧ (q.2.1.toInt ≠ 0 ↔ ∃ k, k < n ∧ k < V.2.2.1.length ∧ t.testBit k = true ∧ (vlu V (G.1 110 6) x k).toInt ≠ 0)) ⟨⟨rfl, rfl, rfl, rfl, rfl, rfl, rfl, rfl⟩, 0, rfl, Or.inl rfl, ⟨fun q => absurd z0 q, fun ⟨k, hk, _⟩ => absurd hk (Nat.not_lt_zero k)⟩⟩ (by
      rintro ⟨x1, b1, G_1⟩ ⟨xn, bn, G_1n⟩ ⟨⟨a1, a2, a3, a4, a5, a6, a7, a8⟩, n, i3, i4, i5⟩ ⟨x1q, b1q, G_1q, xnq, bnq, G_1nq, q1, q2, -, -, -, c1, c2, y18, e18, y19, e19, hd⟩
      obtain ⟨rfl, q1x⟩ := Prod.mk.inj q1
      obtain ⟨rfl, rfl⟩ := Prod.mk.inj q1x
      obtain ⟨rfl, q2x⟩ := Prod.mk.inj q2
      obtain ⟨rfl, rfl⟩ := Prod.mk.inj q2x
      simp only at a1 a2 a3 a4 a5 a6 a7 a8 i3 i4 i5
      have hno : ¬ ∃ k, k < n ∧ k < V.2.2.1.length ∧ t.testBit k = true ∧ (vlu V (G.1 110 6) x k).toInt ≠ 0 := fun q => (i5.mpr q) c2
      clear i5
      have hn : n < V.2.2.1.length := by clear hd; omega
      have hn6 : n < 6 := by have := hV.1; omega
      have hbit : y19.toInt = 1 ↔ t.testBit n = true := by
        have ex1 : x1 = Int32.ofNat n := by
          rw [nat_i (x := x1) (by omega), i3]
          rfl
        have hsh : (p1 >>> (x1 &&& 31)).toBitVec = p1.toBitVec.sshiftRight n := by
          have h5 : n = 0 ∨ n = 1 ∨ n = 2 ∨ n = 3 ∨ n = 4 ∨ n = 5 := by omega
          rcases h5 with rfl | rfl | rfl | rfl | rfl | rfl <;> rw [ex1] <;> rfl
        have s1 := shr_i hsh (c := 2 ^ n) rfl ht (by omega)
        have s2 := and_i (m := 1) (k := 1) (c := 2) rfl rfl s1 (Int.ediv_nonneg (by omega) (Int.ofNat_zero_le _))
        rw [e19, e18, s2, Nat.testBit_eq_decide_div_mod_eq, decide_eq_true_iff]
        have e5 : (t : Int) / ((2 ^ n : Nat) : Int) % ((2 : Nat) : Int) = ((t / 2 ^ n % 2 : Nat) : Int) := by
          rw [Int.natCast_emod, Int.natCast_ediv]
        rw [e5]
        omega
      have fin : ∀ {Gz : GS} {y w : Int32}, y.toInt = x1.toInt + 1 → Fr [76] [] G_1 Gz → (w.toInt = 0 ∨ w.toInt = 1) → (w.toInt ≠ 0 ↔ (t.testBit n = true ∧ (vlu V (G.1 110 6) x n).toInt ≠ 0)) → (Gz.1 72 = G.1 72 ∧ Gz.1 73 = G.1 73 ∧ Gz.1 74 = G.1 74 ∧ Gz.1 87 = G.1 87 ∧ Gz.1 88 = G.1 88 ∧ Gz.1 89 = G.1 89 ∧ Gz.1 90 = G.1 90 ∧ Gz.1 110 = G.1 110) ∧ ∃ n : Nat, y.toInt = (n : Int) ∧ (w.toInt = 0 ∨ w.toInt = 1) ∧ (w.toInt ≠ 0 ↔ ∃ k, k < n ∧ k < V.2.2.1.length ∧ t.testBit k = true ∧ (vlu V (G.1 110 6) x k).toInt ≠ 0) := by
        intro Gz y w ty hF2 hw01 hw
        refine ⟨⟨(hF2.row1 72 (by decide) (by decide)).trans a1, (hF2.row1 73 (by decide) (by decide)).trans a2, (hF2.row1 74 (by decide) (by decide)).trans a3, (hF2.row1 87 (by decide) (by decide)).trans a4, (hF2.row1 88 (by decide) (by decide)).trans a5, (hF2.row1 89 (by decide) (by decide)).trans a6, (hF2.row1 90 (by decide) (by decide)).trans a7, (hF2.row1 110 (by decide) (by decide)).trans a8⟩, n + 1, by clear hd hw hno hbit; omega, hw01, hw.trans ⟨fun q => ⟨n, by omega, hn, q.1, q.2⟩, fun ⟨k, k1, k2, k3, k4⟩ => ?_⟩⟩
        have : k = n := Classical.byContradiction (fun w => hno ⟨k, by omega, k2, k3, k4⟩)
        subst this
        exact ⟨k3, k4⟩
      rcases hd with ⟨d, r25, G26, hwk, hd⟩ | ⟨d, y21, t21, ex, eb, eG⟩
      · have hxr : IcR x (400 * s + i) G_1 := by
          unfold IcR
          rw [a4, a5, a6, a7]
          exact hx
        have hCr : RCd n (V.2.2.1.getD n ([], [])).2 G_1 := by
          have := hC n hn
          unfold RCd at this ⊢
          rw [a1, a2, a3]
          exact this
        have hv := q_worked_eq hwk i3 hy hCr hxr (hV.2.2 n hn)
        rw [a8] at hv
        have hv' : r25 = vlu V (G.1 110 6) x n := hv
        rcases hd with ⟨f, y31, t31, ex, eb, eG⟩ | ⟨f, y31, t31, ex, eb, eG⟩
        · subst eG
          refine fin (by rw [← ex]; exact t31) hwk.2.1 (by rw [← eb]; exact Or.inl rfl) ⟨fun q => absurd (by rw [← eb]; rfl) q, fun q => absurd f (by rw [hv']; exact q.2)⟩
        · subst eG
          refine fin (by rw [← ex]; exact t31) hwk.2.1 (by rw [← eb]; exact Or.inr rfl) ⟨fun _ => ⟨hbit.mp d, by rw [← hv']; exact f⟩, fun _ => by rw [← eb]; show (1 : Int32).toInt ≠ 0; decide⟩
      · subst eG
        refine fin (by rw [← ex]; exact t21) (fun _ _ _ _ => ⟨rfl, rfl, rfl⟩) (by rw [← eb]; exact Or.inl rfl) ⟨fun q => absurd (by rw [← eb]; rfl) q, fun q => absurd (hbit.mpr q.1) d⟩)
    obtain ⟨-, n, i3, i4, i5⟩ := hI
    simp only at i3 i4 i5
    have fin2 : (∃ k, k < n ∧ k < V.2.2.1.length ∧ t.testBit k = true ∧ (vlu V (G.1 110 6) x k).toInt ≠ 0) ∨ V.2.2.1.length ≤ n → ((x9.toInt ≠ 0) ↔ ((t = 0 ∧ fbd x) ∨ (t ≠ 0 ∧ ∃ k, k < V.2.2.1.length ∧ t.testBit k = true ∧ (vlu V (G.1 110 6) x k).toInt ≠ 0))) := by
      intro hcase
      refine i5.trans ⟨fun ⟨k, _, k2, k3, k4⟩ => Or.inr ⟨t0, k, k2, k3, k4⟩, fun q => ?_⟩
      rcases q with q | ⟨-, k, k2, k3, k4⟩
      · exact absurd q.1 t0
      · rcases hcase with w | w
        · exact w
        · exact ⟨k, by omega, k2, k3, k4⟩
    rcases hh with ⟨d, rfl, -⟩ | ⟨d, f, rfl, -⟩
    · exact fin2 (Or.inr (by clear i5 fin2; omega))
    · exact fin2 (Or.inl (i5.mp f))
/-- what the program has found holds: by STREET, of the day it was found on -/
def FoC_1 (V : PV) (s : Nat) (day : Int32) (G : GS) : Prop := ∀ i, i < (V.1.getD s ([], [])).2.length → ∃ m, G.1 37 (400 * s + i) = Int32.ofNat m ∧ FB V day ((V.1.getD s ([], [])).2.getD i (0, 0, 0, 0)) V.2.2.1.length m
def CaC_1 (V : PV) (G : GS) : Prop := ∀ s, s < V.1.length → (G.1 38 s).toInt = -1 ∨ FoC_1 V s (G.1 38 s) G
theorem k_find_1 {V : PV} {p0 day : Int32} {G G1 : GS} {s : Nat} (h : P_lFind_1 p0 day G G1) (hs : p0.toInt = (s : Int)) (hsl : s < V.1.length) (hs3 : V.1.length ≤ 3) (hW : CW_1 V G) (hV : PVok V) (hd0 : 0 ≤ day.toInt) (hCa : CaC_1 V G) : FoC_1 V s day G1 ∧ CaC_1 V G1 := by
  have hFall := h.2.1
  obtain ⟨-, -, r1, G2, hst, hh⟩ := h
  obtain ⟨rfl, k1⟩ := k_hasStreet_1_eq hst
  rw [hW.1.1] at k1
  have hr1 : r1.toInt ≠ 0 := k1.mpr ⟨by omega, by omega⟩
  clear k1
  obtain ⟨⟨hlen, hin⟩, hl4⟩ := hW.1.2 s hsl
  rcases hh with ⟨c, -⟩ | ⟨-, y8, e8, hh⟩
  · exact absurd c hr1
  rw [cn_eq hs] at e8
  rcases hh with ⟨c, rfl⟩ | ⟨c, x14, G10, hl, -, -, hF10, y19, e19, c19, hFe, e38⟩
  · refine ⟨?_, hCa⟩
    have ed : G.1 38 s = day := by rw [← e8]; exact Int32.toInt_inj.mp c
    rcases hCa s hsl with q | q
    · rw [ed] at q
      omega
    · rw [ed] at q
      exact q
  obtain ⟨I, hI⟩ : ∃ I, I = (V.1.getD s ([], [])).2 := ⟨_, rfl⟩
  rw [← hI] at hlen hin hl4
  have inner : ∀ {i : Nat} {x1 r22 : Int32} {Gq G23 : GS} {w33 x43 x44 : Int32} {G34 G39 : GS}, x1.toInt = (i : Int) → i < I.length → Gq.1 17 = G.1 17 → Gq.1 18 = G.1 18 → Gq.1 1 9 = G.1 1 9 → Gq.1 1 13 = G.1 1 13 → Gq.1 10 = G.1 10 → Gq.1 11 = G.1 11 → P_inchAt_1 p0 x1 Gq r22 G23 → Jn_k_lFind_1_2 (r22 &&& 13) G23 w33 G34 → Rc (St_k_lFind_1_3 day r22 G) (0, w33, G34) (x43, x44, G39) → (G.1 1 11).toInt ≤ x43.toInt → Gq = G34 ∧ ∃ m, x44 = Int32.ofNat m ∧ FB V day (I.getD i (0, 0, 0, 0)) V.2.2.1.length m := by
    intro i x1 r22 Gq G23 w33 x43 x44 G34 G39 hx1 hil z7 z8 z9 z13 z0 z1 hia hj hl3 hx43
    obtain ⟨-, -, r3, G4, hin3, hia⟩ := hia
    obtain ⟨rfl, k4⟩ := k_hasInch_1_eq hin3
    rw [z9, hW.1.1, cn_eq hs, z0, hlen] at k4
    have hr3 : r3.toInt ≠ 0 := k4.mpr ⟨⟨by omega, by omega⟩, by omega, by omega⟩
    clear k4
    rcases hia with ⟨q, -⟩ | ⟨-, y8', t8', y9', t9', y10', e10', rfl, rfl⟩
    · exact absurd q hr3
    obtain ⟨hen, hok⟩ := hin i hil
    rw [cn_eq (x := y9') (e := 400 * s + i) (by omega), z1, hen] at e10'
    have hb := fb_0 hok e10'
    have hjw : Gq = G34 ∧ ((w33 = 64 ∧ fbd (I.getD i (0, 0, 0, 0))) ∨ (w33 = 0 ∧ ¬ fbd (I.getD i (0, 0, 0, 0)))) := by
      rcases hj with ⟨q, e1, e2⟩ | ⟨q, e1, e2⟩
      · exact ⟨e2, Or.inr ⟨e1.symm, fun w => (hb.mpr w) q⟩⟩
      · exact ⟨e2, Or.inl ⟨e1.symm, hb.mp q⟩⟩
    obtain ⟨rfl, hw⟩ := hjw
    clear hb
    obtain ⟨m0, hm0, hfb0⟩ := FB_start (V := V) (day := day) hw
    refine ⟨rfl, ?_⟩
    have hI3 := hl3 (fun q => (q.2.2.1 17 = G.1 17 ∧ q.2.2.1 18 = G.1 18 ∧ q.2.2.1 1 13 = G.1 1 13) ∧ ∃ n m : Nat, q.1.toInt = (n : Int) ∧ n ≤ V.2.2.1.length ∧ q.2.1 = Int32.ofNat m ∧ FB V day (I.getD i (0, 0, 0, 0)) n m) ⟨⟨z7, z8, z13⟩, 0, m0, rfl, Nat.zero_le _, hm0, hfb0⟩ (by
      rintro ⟨u1, v1, G_1⟩ ⟨un, vn, G_1n⟩ ⟨⟨a7, a8, a13⟩, n, m, i3, i4, i5, i6⟩ ⟨u1q, v1q, G_1q, unq, vnq, G_1nq, q1, q2, -, -, c1, r56, G57, hva, hd⟩
      obtain ⟨rfl, q1x⟩ := Prod.mk.inj q1
      obtain ⟨rfl, rfl⟩ := Prod.mk.inj q1x
      obtain ⟨rfl, q2x⟩ := Prod.mk.inj q2
      obtain ⟨rfl, rfl⟩ := Prod.mk.inj q2x
      simp only at a7 a8 a13 i3 i5
      have hR := hW.2.2.1
      have hn : n < V.2.2.1.length := by have := hR.1; clear hd; omega
      have hC' : CodeC_1 0 (fcd V.2.2.1) G_1 := by
        have := hR.2.2.1
        unfold CodeC_1 at this ⊢
        rw [a7, a13]
        exact this
      have hE' : EndC_1 V.2.2.1 G_1 := by
        have := hR.2.2.2
        unfold EndC_1 at this ⊢
        rw [a8]
        exact this
      have hv := k_value_1 hva i3 hn hC' hE' hV.2.1 hok e10' (hV.2.2 n hn)
      have hv' : r56 = vlu V day (I.getD i (0, 0, 0, 0)) n := hv
      have b7 := (hva.2.1.row1 17 (by decide) (by decide)).trans a7
      have b8 := (hva.2.1.row1 18 (by decide) (by decide)).trans a8
      have b13 := (hva.2.1.i 1 13 (by decide) (by decide)).trans a13
      have hm := i6.1
      rcases hd with ⟨f, y62, e62, y63, t63, ex, ev, eG⟩ | ⟨f, y64, e64, y65, e65, y66, t66, ex, ev, eG⟩
      · subst eG
        refine ⟨⟨b7, b8, b13⟩, n + 1, m, by show un.toInt = _; rw [← ex]; omega, by omega, ?_, FB_no i6 (by rw [← hv']; exact f)⟩
        show vn = _
        have e0 : (0 : Int32) = Int32.ofNat 0 := rfl
        rw [← ev, e62, i5, e0, n_or hm (by decide), Nat.or_zero]
      · subst eG
        have hn6 : n < 6 := by have := hV.1; omega
        refine ⟨⟨b7, b8, b13⟩, n + 1, m ||| 2 ^ n, by show un.toInt = _; rw [← ex]; omega, by omega, ?_, FB_yes i6 hn6 (by rw [← hv']; exact f)⟩
        show vn = _
        have eu : u1 = Int32.ofNat n := by
          rw [nat_i (x := u1) (by omega), i3]
          rfl
        have hp : 2 ^ n < 2 ^ 7 := Nat.pow_lt_pow_right (by decide) (by omega)
        rw [← ev, e65, e64, i5, eu, sh_pow n (by omega), n_or hm (by omega)])
    obtain ⟨-, n, m, i3, i4, i5, i6⟩ := hI3
    simp only at i3 i5
    have hn : n = V.2.2.1.length := by have := hW.2.2.1.1; omega
    subst hn
    exact ⟨m, i5, i6⟩
  have hI1 := hl (fun q => (q.2.1 17 = G.1 17 ∧ q.2.1 18 = G.1 18 ∧ q.2.1 1 9 = G.1 1 9 ∧ q.2.1 1 13 = G.1 1 13 ∧ q.2.1 10 = G.1 10 ∧ q.2.1 11 = G.1 11) ∧ (∀ j, j < 400 * s ∨ 400 * s + 400 ≤ j → q.2.1 37 j = G.1 37 j) ∧ ∃ n : Nat, q.1.toInt = (n : Int) ∧ n ≤ I.length ∧ ∀ i, i < n → ∃ m, q.2.1 37 (400 * s + i) = Int32.ofNat m ∧ FB V day (I.getD i (0, 0, 0, 0)) V.2.2.1.length m) ⟨⟨rfl, rfl, rfl, rfl, rfl, rfl⟩, fun _ _ => rfl, 0, rfl, Nat.zero_le _, fun i hi => absurd hi (Nat.not_lt_zero i)⟩ (by
    rintro ⟨x1, G_1⟩ ⟨xn, G_1n⟩ ⟨⟨a7, a8, a9, a13, a0, a1⟩, i2, n, i3, i4, i5⟩ ⟨x1q, G_1q, xnq, G_1nq, q1, q2, -, -, z19, f19, c1, r22, G23, hia, y27, e27, w33, G34, hj, -, -, -, x43, x44, G39, hl3, -, -, hF39, c43, y51, t51, y52, t52, y54, t54, ex, hFn, e37⟩
    obtain ⟨rfl, rfl⟩ := Prod.mk.inj q1
    obtain ⟨rfl, rfl⟩ := Prod.mk.inj q2
    simp only at a7 a8 a9 a13 a0 a1 i2 i3 i5
    rw [cn_eq hs, a0] at f19
    have hz : z19.toInt = (I.length : Int) := by rw [f19]; exact hlen
    subst e27
    obtain ⟨rfl, m, hm, hfb⟩ := inner i3 (by omega) a7 a8 a9 a13 a0 a1 hia hj hl3 c43
    have hy : y52.toNatClampNeg = 400 * s + n := cn_eq (by omega)
    rw [hy, hF39.row1 37 (by decide) (by decide)] at e37
    refine ⟨⟨?_, ?_, ?_, ?_, ?_, ?_⟩, fun j hj => ?_, n + 1, by show xn.toInt = _; rw [← ex]; omega, by omega, fun i hi => ?_⟩
    · exact ((hFn.row1 17 (by decide) (by decide)).trans (hF39.row1 17 (by decide) (by decide))).trans a7
    · exact ((hFn.row1 18 (by decide) (by decide)).trans (hF39.row1 18 (by decide) (by decide))).trans a8
    · exact ((hFn.i 1 9 (by decide) (by decide)).trans (hF39.i 1 9 (by decide) (by decide))).trans a9
    · exact ((hFn.i 1 13 (by decide) (by decide)).trans (hF39.i 1 13 (by decide) (by decide))).trans a13
    · exact ((hFn.row1 10 (by decide) (by decide)).trans (hF39.row1 10 (by decide) (by decide))).trans a0
    · exact ((hFn.row1 11 (by decide) (by decide)).trans (hF39.row1 11 (by decide) (by decide))).trans a1
    · show G_1n.1 37 j = _
      rw [e37, show upd (G_1.1 37) (400 * s + n) x44 j = G_1.1 37 j from if_neg (by omega)]
      exact i2 j hj
    · show ∃ m, G_1n.1 37 (400 * s + i) = _ ∧ _
      by_cases hin' : i = n
      · subst hin'
        refine ⟨m, ?_, hfb⟩
        rw [e37, show upd (G_1.1 37) (400 * s + i) x44 (400 * s + i) = x44 from if_pos rfl]
        exact hm
      · obtain ⟨m2, h1, h2⟩ := i5 i (by omega)
        refine ⟨m2, ?_, h2⟩
        rw [e37, show upd (G_1.1 37) (400 * s + n) x44 (400 * s + i) = G_1.1 37 (400 * s + i) from if_neg (by omega)]
        exact h1)
  obtain ⟨⟨a7, a8, a9, a13, a0, a1⟩, i2, n, i3, i4, i5⟩ := hI1
  simp only at a0 i2 i3 i5
  rw [cn_eq hs, a0] at e19
  have hz : y19.toInt = (I.length : Int) := by rw [e19]; exact hlen
  have hn : n = I.length := by omega
  subst hn
  have r37 : G1.1 37 = G10.1 37 := hFe.row1 37 (by decide) (by decide)
  have hFo : FoC_1 V s day G1 := by
    intro i hi
    rw [← hI] at hi ⊢
    rw [r37]
    exact i5 i hi
  refine ⟨hFo, fun s' hs' => ?_⟩
  rw [cn_eq hs, hF10.row1 38 (by decide) (by decide)] at e38
  by_cases hss : s' = s
  · subst hss
    right
    rw [e38, show upd (G.1 38) s' day s' = day from if_pos rfl]
    exact hFo
  · rw [e38, show upd (G.1 38) s day s' = G.1 38 s' from if_neg hss]
    rcases hCa s' hs' with q | q
    · exact Or.inl q
    · right
      intro i hi
      have hl' := (hW.1.2 s' hs').2
      obtain ⟨m, m1, m2⟩ := q i hi
      refine ⟨m, ?_, m2⟩
      rw [r37, i2 (400 * s' + i) (by omega)]
      exact m1
theorem k_isLine_1 {V : PV} {p0 p1 p2 r day : Int32} {G G1 : GS} {s i t : Nat} (h : P_lIsLine_1 p0 p1 p2 G r G1) (hs : p0.toInt = (s : Int)) (hsl : s < V.1.length) (hi : p2.toInt = (i : Int)) (ht : p1.toInt = (t : Int)) (ht64 : t < 64) (hW : CW_1 V G) (hV : PVok V) (hF : FoC_1 V s day G) : G = G1 ∧ (r.toInt ≠ 0 ↔ (i < (V.1.getD s ([], [])).2.length ∧ LNs V day ((V.1.getD s ([], [])).2.getD i (0, 0, 0, 0)) t)) := by
  obtain ⟨-, hFr, -, r1, G2, hin, hh⟩ := h
  refine ⟨hFr.nil, ?_⟩
  obtain ⟨rfl, k1⟩ := k_hasInch_1_eq hin
  rw [hW.1.1, cn_eq hs, (hW.1.2 s hsl).1.1] at k1
  have z : (0 : Int32).toInt = 0 := rfl
  have o : (1 : Int32).toInt = 1 := rfl
  rcases hh with ⟨c, rfl, -⟩ | ⟨c, y8, t8, y9, t9, y10, e10, hh⟩
  · exact ⟨fun q => absurd z q, fun q => absurd c (k1.mpr ⟨⟨by omega, by omega⟩, by omega, by have := q.1; omega⟩)⟩
  have hil : i < (V.1.getD s ([], [])).2.length := by
    have := (k1.mp c).2.2
    omega
  clear k1
  obtain ⟨m, m1, m2⟩ := hF i hil
  rw [cn_eq (x := y9) (e := 400 * s + i) (by clear hh; omega)] at e10
  obtain ⟨l1, l2⟩ := FB_line m2 hV.1 (e10.trans m1) ht ht64
  rcases hh with ⟨d, y14, e14, hh⟩ | ⟨d, y14, e14, hh⟩
  · have := l1 d
    rw [← e14] at this
    rcases hh with ⟨f, rfl, -⟩ | ⟨f, rfl, -⟩
    · exact ⟨fun q => absurd z q, fun q => absurd f (this.mpr q.2)⟩
    · exact ⟨fun _ => ⟨hil, this.mp f⟩, fun _ => by omega⟩
  · have := l2 d
    rw [← e14] at this
    rcases hh with ⟨f, rfl, -⟩ | ⟨f, rfl, -⟩
    · exact ⟨fun q => absurd z q, fun q => absurd f (this.mpr q.2)⟩
    · exact ⟨fun _ => ⟨hil, this.mp f⟩, fun _ => by omega⟩
/-- what the program has found holds: by STREET, of the day it was found on -/
def FoC_2 (V : PV) (s : Nat) (day : Int32) (G : GS) : Prop := ∀ i, i < (V.1.getD s ([], [])).2.length → ∃ m, G.1 37 (400 * s + i) = Int32.ofNat m ∧ FB V day ((V.1.getD s ([], [])).2.getD i (0, 0, 0, 0)) V.2.2.1.length m
def CaC_2 (V : PV) (G : GS) : Prop := ∀ s, s < V.1.length → (G.1 38 s).toInt = -1 ∨ FoC_2 V s (G.1 38 s) G
theorem k_find_2 {V : PV} {p0 day : Int32} {G G1 : GS} {s : Nat} (h : P_lFind_2 p0 day G G1) (hs : p0.toInt = (s : Int)) (hsl : s < V.1.length) (hs3 : V.1.length ≤ 3) (hW : CW_2 V G) (hV : PVok V) (hd0 : 0 ≤ day.toInt) (hCa : CaC_2 V G) : FoC_2 V s day G1 ∧ CaC_2 V G1 := by
  have hFall := h.2.1
  obtain ⟨-, -, r1, G2, hst, hh⟩ := h
  obtain ⟨rfl, k1⟩ := k_hasStreet_2_eq hst
  rw [hW.1.1] at k1
  have hr1 : r1.toInt ≠ 0 := k1.mpr ⟨by omega, by omega⟩
  clear k1
  obtain ⟨⟨hlen, hin⟩, hl4⟩ := hW.1.2 s hsl
  rcases hh with ⟨c, -⟩ | ⟨-, y8, e8, hh⟩
  · exact absurd c hr1
  rw [cn_eq hs] at e8
  rcases hh with ⟨c, rfl⟩ | ⟨c, x14, G10, hl, -, -, hF10, y19, e19, c19, hFe, e38⟩
  · refine ⟨?_, hCa⟩
    have ed : G.1 38 s = day := by rw [← e8]; exact Int32.toInt_inj.mp c
    rcases hCa s hsl with q | q
    · rw [ed] at q
      omega
    · rw [ed] at q
      exact q
  obtain ⟨I, hI⟩ : ∃ I, I = (V.1.getD s ([], [])).2 := ⟨_, rfl⟩
  rw [← hI] at hlen hin hl4
  have inner : ∀ {i : Nat} {x1 r22 : Int32} {Gq G23 : GS} {w33 x43 x44 : Int32} {G34 G39 : GS}, x1.toInt = (i : Int) → i < I.length → Gq.1 27 = G.1 27 → Gq.1 28 = G.1 28 → Gq.1 2 9 = G.1 2 9 → Gq.1 2 13 = G.1 2 13 → Gq.1 20 = G.1 20 → Gq.1 21 = G.1 21 → P_inchAt_2 p0 x1 Gq r22 G23 → Jn_k_lFind_2_2 (r22 &&& 13) G23 w33 G34 → Rc (St_k_lFind_2_3 day r22 G) (0, w33, G34) (x43, x44, G39) → (G.1 2 11).toInt ≤ x43.toInt → Gq = G34 ∧ ∃ m, x44 = Int32.ofNat m ∧ FB V day (I.getD i (0, 0, 0, 0)) V.2.2.1.length m := by
    intro i x1 r22 Gq G23 w33 x43 x44 G34 G39 hx1 hil z7 z8 z9 z13 z0 z1 hia hj hl3 hx43
    obtain ⟨-, -, r3, G4, hin3, hia⟩ := hia
    obtain ⟨rfl, k4⟩ := k_hasInch_2_eq hin3
    rw [z9, hW.1.1, cn_eq hs, z0, hlen] at k4
    have hr3 : r3.toInt ≠ 0 := k4.mpr ⟨⟨by omega, by omega⟩, by omega, by omega⟩
    clear k4
    rcases hia with ⟨q, -⟩ | ⟨-, y8', t8', y9', t9', y10', e10', rfl, rfl⟩
    · exact absurd q hr3
    obtain ⟨hen, hok⟩ := hin i hil
    rw [cn_eq (x := y9') (e := 400 * s + i) (by omega), z1, hen] at e10'
    have hb := fb_0 hok e10'
    have hjw : Gq = G34 ∧ ((w33 = 64 ∧ fbd (I.getD i (0, 0, 0, 0))) ∨ (w33 = 0 ∧ ¬ fbd (I.getD i (0, 0, 0, 0)))) := by
      rcases hj with ⟨q, e1, e2⟩ | ⟨q, e1, e2⟩
      · exact ⟨e2, Or.inr ⟨e1.symm, fun w => (hb.mpr w) q⟩⟩
      · exact ⟨e2, Or.inl ⟨e1.symm, hb.mp q⟩⟩
    obtain ⟨rfl, hw⟩ := hjw
    clear hb
    obtain ⟨m0, hm0, hfb0⟩ := FB_start (V := V) (day := day) hw
    refine ⟨rfl, ?_⟩
    have hI3 := hl3 (fun q => (q.2.2.1 27 = G.1 27 ∧ q.2.2.1 28 = G.1 28 ∧ q.2.2.1 2 13 = G.1 2 13) ∧ ∃ n m : Nat, q.1.toInt = (n : Int) ∧ n ≤ V.2.2.1.length ∧ q.2.1 = Int32.ofNat m ∧ FB V day (I.getD i (0, 0, 0, 0)) n m) ⟨⟨z7, z8, z13⟩, 0, m0, rfl, Nat.zero_le _, hm0, hfb0⟩ (by
      rintro ⟨u1, v1, G_1⟩ ⟨un, vn, G_1n⟩ ⟨⟨a7, a8, a13⟩, n, m, i3, i4, i5, i6⟩ ⟨u1q, v1q, G_1q, unq, vnq, G_1nq, q1, q2, -, -, c1, r56, G57, hva, hd⟩
      obtain ⟨rfl, q1x⟩ := Prod.mk.inj q1
      obtain ⟨rfl, rfl⟩ := Prod.mk.inj q1x
      obtain ⟨rfl, q2x⟩ := Prod.mk.inj q2
      obtain ⟨rfl, rfl⟩ := Prod.mk.inj q2x
      simp only at a7 a8 a13 i3 i5
      have hR := hW.2.2.1
      have hn : n < V.2.2.1.length := by have := hR.1; clear hd; omega
      have hC' : CodeC_2 0 (fcd V.2.2.1) G_1 := by
        have := hR.2.2.1
        unfold CodeC_2 at this ⊢
        rw [a7, a13]
        exact this
      have hE' : EndC_2 V.2.2.1 G_1 := by
        have := hR.2.2.2
        unfold EndC_2 at this ⊢
        rw [a8]
        exact this
      have hv := k_value_2 hva i3 hn hC' hE' hV.2.1 hok e10' (hV.2.2 n hn)
      have hv' : r56 = vlu V day (I.getD i (0, 0, 0, 0)) n := hv
      have b7 := (hva.2.1.row1 27 (by decide) (by decide)).trans a7
      have b8 := (hva.2.1.row1 28 (by decide) (by decide)).trans a8
      have b13 := (hva.2.1.i 2 13 (by decide) (by decide)).trans a13
      have hm := i6.1
      rcases hd with ⟨f, y62, e62, y63, t63, ex, ev, eG⟩ | ⟨f, y64, e64, y65, e65, y66, t66, ex, ev, eG⟩
      · subst eG
        refine ⟨⟨b7, b8, b13⟩, n + 1, m, by show un.toInt = _; rw [← ex]; omega, by omega, ?_, FB_no i6 (by rw [← hv']; exact f)⟩
        show vn = _
        have e0 : (0 : Int32) = Int32.ofNat 0 := rfl
        rw [← ev, e62, i5, e0, n_or hm (by decide), Nat.or_zero]
      · subst eG
        have hn6 : n < 6 := by have := hV.1; omega
        refine ⟨⟨b7, b8, b13⟩, n + 1, m ||| 2 ^ n, by show un.toInt = _; rw [← ex]; omega, by omega, ?_, FB_yes i6 hn6 (by rw [← hv']; exact f)⟩
        show vn = _
        have eu : u1 = Int32.ofNat n := by
          rw [nat_i (x := u1) (by omega), i3]
          rfl
        have hp : 2 ^ n < 2 ^ 7 := Nat.pow_lt_pow_right (by decide) (by omega)
        rw [← ev, e65, e64, i5, eu, sh_pow n (by omega), n_or hm (by omega)])
    obtain ⟨-, n, m, i3, i4, i5, i6⟩ := hI3
    simp only at i3 i5
    have hn : n = V.2.2.1.length := by have := hW.2.2.1.1; omega
    subst hn
    exact ⟨m, i5, i6⟩
  have hI1 := hl (fun q => (q.2.1 27 = G.1 27 ∧ q.2.1 28 = G.1 28 ∧ q.2.1 2 9 = G.1 2 9 ∧ q.2.1 2 13 = G.1 2 13 ∧ q.2.1 20 = G.1 20 ∧ q.2.1 21 = G.1 21) ∧ (∀ j, j < 400 * s ∨ 400 * s + 400 ≤ j → q.2.1 37 j = G.1 37 j) ∧ ∃ n : Nat, q.1.toInt = (n : Int) ∧ n ≤ I.length ∧ ∀ i, i < n → ∃ m, q.2.1 37 (400 * s + i) = Int32.ofNat m ∧ FB V day (I.getD i (0, 0, 0, 0)) V.2.2.1.length m) ⟨⟨rfl, rfl, rfl, rfl, rfl, rfl⟩, fun _ _ => rfl, 0, rfl, Nat.zero_le _, fun i hi => absurd hi (Nat.not_lt_zero i)⟩ (by
    rintro ⟨x1, G_1⟩ ⟨xn, G_1n⟩ ⟨⟨a7, a8, a9, a13, a0, a1⟩, i2, n, i3, i4, i5⟩ ⟨x1q, G_1q, xnq, G_1nq, q1, q2, -, -, z19, f19, c1, r22, G23, hia, y27, e27, w33, G34, hj, -, -, -, x43, x44, G39, hl3, -, -, hF39, c43, y51, t51, y52, t52, y54, t54, ex, hFn, e37⟩
    obtain ⟨rfl, rfl⟩ := Prod.mk.inj q1
    obtain ⟨rfl, rfl⟩ := Prod.mk.inj q2
    simp only at a7 a8 a9 a13 a0 a1 i2 i3 i5
    rw [cn_eq hs, a0] at f19
    have hz : z19.toInt = (I.length : Int) := by rw [f19]; exact hlen
    subst e27
    obtain ⟨rfl, m, hm, hfb⟩ := inner i3 (by omega) a7 a8 a9 a13 a0 a1 hia hj hl3 c43
    have hy : y52.toNatClampNeg = 400 * s + n := cn_eq (by omega)
    rw [hy, hF39.row1 37 (by decide) (by decide)] at e37
    refine ⟨⟨?_, ?_, ?_, ?_, ?_, ?_⟩, fun j hj => ?_, n + 1, by show xn.toInt = _; rw [← ex]; omega, by omega, fun i hi => ?_⟩
    · exact ((hFn.row1 27 (by decide) (by decide)).trans (hF39.row1 27 (by decide) (by decide))).trans a7
    · exact ((hFn.row1 28 (by decide) (by decide)).trans (hF39.row1 28 (by decide) (by decide))).trans a8
    · exact ((hFn.i 2 9 (by decide) (by decide)).trans (hF39.i 2 9 (by decide) (by decide))).trans a9
    · exact ((hFn.i 2 13 (by decide) (by decide)).trans (hF39.i 2 13 (by decide) (by decide))).trans a13
    · exact ((hFn.row1 20 (by decide) (by decide)).trans (hF39.row1 20 (by decide) (by decide))).trans a0
    · exact ((hFn.row1 21 (by decide) (by decide)).trans (hF39.row1 21 (by decide) (by decide))).trans a1
    · show G_1n.1 37 j = _
      rw [e37, show upd (G_1.1 37) (400 * s + n) x44 j = G_1.1 37 j from if_neg (by omega)]
      exact i2 j hj
    · show ∃ m, G_1n.1 37 (400 * s + i) = _ ∧ _
      by_cases hin' : i = n
      · subst hin'
        refine ⟨m, ?_, hfb⟩
        rw [e37, show upd (G_1.1 37) (400 * s + i) x44 (400 * s + i) = x44 from if_pos rfl]
        exact hm
      · obtain ⟨m2, h1, h2⟩ := i5 i (by omega)
        refine ⟨m2, ?_, h2⟩
        rw [e37, show upd (G_1.1 37) (400 * s + n) x44 (400 * s + i) = G_1.1 37 (400 * s + i) from if_neg (by omega)]
        exact h1)
  obtain ⟨⟨a7, a8, a9, a13, a0, a1⟩, i2, n, i3, i4, i5⟩ := hI1
  simp only at a0 i2 i3 i5
  rw [cn_eq hs, a0] at e19
  have hz : y19.toInt = (I.length : Int) := by rw [e19]; exact hlen
  have hn : n = I.length := by omega
  subst hn
  have r37 : G1.1 37 = G10.1 37 := hFe.row1 37 (by decide) (by decide)
  have hFo : FoC_2 V s day G1 := by
    intro i hi
    rw [← hI] at hi ⊢
    rw [r37]
    exact i5 i hi
  refine ⟨hFo, fun s' hs' => ?_⟩
  rw [cn_eq hs, hF10.row1 38 (by decide) (by decide)] at e38
  by_cases hss : s' = s
  · subst hss
    right
    rw [e38, show upd (G.1 38) s' day s' = day from if_pos rfl]
    exact hFo
  · rw [e38, show upd (G.1 38) s day s' = G.1 38 s' from if_neg hss]
    rcases hCa s' hs' with q | q
    · exact Or.inl q
    · right
      intro i hi
      have hl' := (hW.1.2 s' hs').2
      obtain ⟨m, m1, m2⟩ := q i hi
      refine ⟨m, ?_, m2⟩
      rw [r37, i2 (400 * s' + i) (by omega)]
      exact m1
theorem k_isLine_2 {V : PV} {p0 p1 p2 r day : Int32} {G G1 : GS} {s i t : Nat} (h : P_lIsLine_2 p0 p1 p2 G r G1) (hs : p0.toInt = (s : Int)) (hsl : s < V.1.length) (hi : p2.toInt = (i : Int)) (ht : p1.toInt = (t : Int)) (ht64 : t < 64) (hW : CW_2 V G) (hV : PVok V) (hF : FoC_2 V s day G) : G = G1 ∧ (r.toInt ≠ 0 ↔ (i < (V.1.getD s ([], [])).2.length ∧ LNs V day ((V.1.getD s ([], [])).2.getD i (0, 0, 0, 0)) t)) := by
  obtain ⟨-, hFr, -, r1, G2, hin, hh⟩ := h
  refine ⟨hFr.nil, ?_⟩
  obtain ⟨rfl, k1⟩ := k_hasInch_2_eq hin
  rw [hW.1.1, cn_eq hs, (hW.1.2 s hsl).1.1] at k1
  have z : (0 : Int32).toInt = 0 := rfl
  have o : (1 : Int32).toInt = 1 := rfl
  rcases hh with ⟨c, rfl, -⟩ | ⟨c, y8, t8, y9, t9, y10, e10, hh⟩
  · exact ⟨fun q => absurd z q, fun q => absurd c (k1.mpr ⟨⟨by omega, by omega⟩, by omega, by have := q.1; omega⟩)⟩
  have hil : i < (V.1.getD s ([], [])).2.length := by
    have := (k1.mp c).2.2
    omega
  clear k1
  obtain ⟨m, m1, m2⟩ := hF i hil
  rw [cn_eq (x := y9) (e := 400 * s + i) (by clear hh; omega)] at e10
  obtain ⟨l1, l2⟩ := FB_line m2 hV.1 (e10.trans m1) ht ht64
  rcases hh with ⟨d, y14, e14, hh⟩ | ⟨d, y14, e14, hh⟩
  · have := l1 d
    rw [← e14] at this
    rcases hh with ⟨f, rfl, -⟩ | ⟨f, rfl, -⟩
    · exact ⟨fun q => absurd z q, fun q => absurd f (this.mpr q.2)⟩
    · exact ⟨fun _ => ⟨hil, this.mp f⟩, fun _ => by omega⟩
  · have := l2 d
    rw [← e14] at this
    rcases hh with ⟨f, rfl, -⟩ | ⟨f, rfl, -⟩
    · exact ⟨fun q => absurd z q, fun q => absurd f (this.mpr q.2)⟩
    · exact ⟨fun _ => ⟨hil, this.mp f⟩, fun _ => by omega⟩
