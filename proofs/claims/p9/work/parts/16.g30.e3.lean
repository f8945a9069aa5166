/-! values -/
def don (o : Int) (x y : Int32) : Int32 := if o = 43 then x + y else if o = 45 then x - y else if o = 42 then x * y else if o = 47 then (if y.toInt = 0 then 0 else x / y) else if o = 37 then (if y.toInt = 0 then 0 else x - x / y * y) else if o = 60 then (if x.toInt < y.toInt then 1 else 0) else if o = 62 then (if y.toInt < x.toInt then 1 else 0) else if o = 61 then (if x.toInt = y.toInt then 1 else 0) else if o = 38 then (if x.toInt = 0 then 0 else if y.toInt = 0 then 0 else 1) else (if x.toInt = 0 then (if y.toInt = 0 then 0 else 1) else 1)
theorem don_124 (x y : Int32) : don 124 x y = (if x.toInt = 0 then (if y.toInt = 0 then 0 else 1) else 1) := by rw [don, if_neg (by decide), if_neg (by decide), if_neg (by decide), if_neg (by decide), if_neg (by decide), if_neg (by decide), if_neg (by decide), if_neg (by decide), if_neg (by decide)]
theorem don_38 (x y : Int32) : don 38 x y = (if x.toInt = 0 then 0 else if y.toInt = 0 then 0 else 1) := by rw [don, if_neg (by decide), if_neg (by decide), if_neg (by decide), if_neg (by decide), if_neg (by decide), if_neg (by decide), if_neg (by decide), if_neg (by decide), if_pos rfl]
theorem don_60 (x y : Int32) : don 60 x y = (if x.toInt < y.toInt then 1 else 0) := by rw [don, if_neg (by decide), if_neg (by decide), if_neg (by decide), if_neg (by decide), if_neg (by decide), if_pos rfl]
theorem don_62 (x y : Int32) : don 62 x y = (if y.toInt < x.toInt then 1 else 0) := by rw [don, if_neg (by decide), if_neg (by decide), if_neg (by decide), if_neg (by decide), if_neg (by decide), if_neg (by decide), if_pos rfl]
theorem don_61 (x y : Int32) : don 61 x y = (if x.toInt = y.toInt then 1 else 0) := by rw [don, if_neg (by decide), if_neg (by decide), if_neg (by decide), if_neg (by decide), if_neg (by decide), if_neg (by decide), if_neg (by decide), if_pos rfl]
theorem don_43 (x y : Int32) : don 43 x y = (x + y) := by rw [don, if_pos rfl]
theorem don_45 (x y : Int32) : don 45 x y = (x - y) := by rw [don, if_neg (by decide), if_pos rfl]
theorem don_42 (x y : Int32) : don 42 x y = (x * y) := by rw [don, if_neg (by decide), if_neg (by decide), if_pos rfl]
theorem don_47 (x y : Int32) : don 47 x y = (if y.toInt = 0 then 0 else x / y) := by rw [don, if_neg (by decide), if_neg (by decide), if_neg (by decide), if_pos rfl]
theorem don_37 (x y : Int32) : don 37 x y = (if y.toInt = 0 then 0 else x - x / y * y) := by rw [don, if_neg (by decide), if_neg (by decide), if_neg (by decide), if_neg (by decide), if_pos rfl]
theorem k_join_eq {p0 p1 p2 r : Int32} {G G1 : GS} {o : Int} (h : P_lJoin p0 p1 p2 G r G1) (ho : sgO o) (hk : p0.toInt = ekk (3, o)) : G = G1 ∧ r = don o p1 p2 := by
  obtain ⟨-, hF, hh⟩ := h
  refine ⟨hF.nil, ?_⟩
  rcases ho with rfl | rfl | rfl | rfl | rfl | rfl | rfl | rfl | rfl | rfl
  · replace hk : p0.toInt = 144 := hk
    rcases hh with ⟨c, -⟩ | ⟨-, hh⟩
    · exact absurd (hk.symm.trans c) (by decide)
    rcases hh with ⟨c, -⟩ | ⟨-, hh⟩
    · exact absurd (hk.symm.trans c) (by decide)
    rcases hh with ⟨c, -⟩ | ⟨-, hh⟩
    · exact absurd (hk.symm.trans c) (by decide)
    rcases hh with ⟨c, -⟩ | ⟨-, hh⟩
    · exact absurd (hk.symm.trans c) (by decide)
    rcases hh with ⟨c, -⟩ | ⟨-, hh⟩
    · exact absurd (hk.symm.trans c) (by decide)
    rcases hh with ⟨c, -⟩ | ⟨-, hh⟩
    · exact absurd (hk.symm.trans c) (by decide)
    rcases hh with ⟨c, -⟩ | ⟨-, hh⟩
    · exact absurd (hk.symm.trans c) (by decide)
    rcases hh with ⟨-, hh⟩ | ⟨c, -⟩
    rotate_left
    · exact absurd hk c
    rcases hh with ⟨d, ⟨f, rfl, -⟩ | ⟨f, rfl, -⟩⟩ | ⟨d, rfl, -⟩
    · rw [don_124, if_pos d, if_pos f]
    · rw [don_124, if_pos d, if_neg f]
    · rw [don_124, if_neg d]
  · replace hk : p0.toInt = 145 := hk
    rcases hh with ⟨c, -⟩ | ⟨-, hh⟩
    · exact absurd (hk.symm.trans c) (by decide)
    rcases hh with ⟨c, -⟩ | ⟨-, hh⟩
    · exact absurd (hk.symm.trans c) (by decide)
    rcases hh with ⟨c, -⟩ | ⟨-, hh⟩
    · exact absurd (hk.symm.trans c) (by decide)
    rcases hh with ⟨c, -⟩ | ⟨-, hh⟩
    · exact absurd (hk.symm.trans c) (by decide)
    rcases hh with ⟨c, -⟩ | ⟨-, hh⟩
    · exact absurd (hk.symm.trans c) (by decide)
    rcases hh with ⟨c, -⟩ | ⟨-, hh⟩
    · exact absurd (hk.symm.trans c) (by decide)
    rcases hh with ⟨c, -⟩ | ⟨-, hh⟩
    · exact absurd (hk.symm.trans c) (by decide)
    rcases hh with ⟨c, -⟩ | ⟨-, hh⟩
    · exact absurd (hk.symm.trans c) (by decide)
    rcases hh with ⟨-, hh⟩ | ⟨c, -⟩
    rotate_left
    · exact absurd hk c
    rcases hh with ⟨d, rfl, -⟩ | ⟨d, ⟨f, rfl, -⟩ | ⟨f, rfl, -⟩⟩
    · rw [don_38, if_pos d]
    · rw [don_38, if_neg d, if_pos f]
    · rw [don_38, if_neg d, if_neg f]
  · replace hk : p0.toInt = 60 := hk
    rcases hh with ⟨c, -⟩ | ⟨-, hh⟩
    · exact absurd (hk.symm.trans c) (by decide)
    rcases hh with ⟨c, -⟩ | ⟨-, hh⟩
    · exact absurd (hk.symm.trans c) (by decide)
    rcases hh with ⟨c, -⟩ | ⟨-, hh⟩
    · exact absurd (hk.symm.trans c) (by decide)
    rcases hh with ⟨c, -⟩ | ⟨-, hh⟩
    · exact absurd (hk.symm.trans c) (by decide)
    rcases hh with ⟨-, hh⟩ | ⟨c, -⟩
    rotate_left
    · exact absurd hk c
    rcases hh with ⟨d, rfl, -⟩ | ⟨d, rfl, -⟩
    · rw [don_60, if_neg (by omega)]
    · rw [don_60, if_pos d]
  · replace hk : p0.toInt = 62 := hk
    rcases hh with ⟨c, -⟩ | ⟨-, hh⟩
    · exact absurd (hk.symm.trans c) (by decide)
    rcases hh with ⟨c, -⟩ | ⟨-, hh⟩
    · exact absurd (hk.symm.trans c) (by decide)
    rcases hh with ⟨c, -⟩ | ⟨-, hh⟩
    · exact absurd (hk.symm.trans c) (by decide)
    rcases hh with ⟨c, -⟩ | ⟨-, hh⟩
    · exact absurd (hk.symm.trans c) (by decide)
    rcases hh with ⟨c, -⟩ | ⟨-, hh⟩
    · exact absurd (hk.symm.trans c) (by decide)
    rcases hh with ⟨c, -⟩ | ⟨-, hh⟩
    · exact absurd (hk.symm.trans c) (by decide)
    rcases hh with ⟨-, hh⟩ | ⟨c, -⟩
    rotate_left
    · exact absurd hk c
    rcases hh with ⟨d, rfl, -⟩ | ⟨d, rfl, -⟩
    · rw [don_62, if_neg (by omega)]
    · rw [don_62, if_pos d]
  · replace hk : p0.toInt = 61 := hk
    rcases hh with ⟨c, -⟩ | ⟨-, hh⟩
    · exact absurd (hk.symm.trans c) (by decide)
    rcases hh with ⟨c, -⟩ | ⟨-, hh⟩
    · exact absurd (hk.symm.trans c) (by decide)
    rcases hh with ⟨c, -⟩ | ⟨-, hh⟩
    · exact absurd (hk.symm.trans c) (by decide)
    rcases hh with ⟨c, -⟩ | ⟨-, hh⟩
    · exact absurd (hk.symm.trans c) (by decide)
    rcases hh with ⟨c, -⟩ | ⟨-, hh⟩
    · exact absurd (hk.symm.trans c) (by decide)
    rcases hh with ⟨-, hh⟩ | ⟨c, -⟩
    rotate_left
    · exact absurd hk c
    rcases hh with ⟨d, rfl, -⟩ | ⟨d, rfl, -⟩
    · rw [don_61, if_pos d]
    · rw [don_61, if_neg d]
  · replace hk : p0.toInt = 43 := hk
    rcases hh with ⟨c, -⟩ | ⟨-, hh⟩
    · exact absurd (hk.symm.trans c) (by decide)
    rcases hh with ⟨-, hh⟩ | ⟨c, -⟩
    rotate_left
    · exact absurd hk c
    obtain ⟨y, e, rfl, -⟩ := hh
    rw [don_43]
    exact e
  · replace hk : p0.toInt = 45 := hk
    rcases hh with ⟨c, -⟩ | ⟨-, hh⟩
    · exact absurd (hk.symm.trans c) (by decide)
    rcases hh with ⟨c, -⟩ | ⟨-, hh⟩
    · exact absurd (hk.symm.trans c) (by decide)
    rcases hh with ⟨-, hh⟩ | ⟨c, -⟩
    rotate_left
    · exact absurd hk c
    obtain ⟨y, e, rfl, -⟩ := hh
    rw [don_45]
    exact e
  · replace hk : p0.toInt = 42 := hk
    rcases hh with ⟨-, hh⟩ | ⟨c, -⟩
    rotate_left
    · exact absurd hk c
    obtain ⟨y, e, rfl, -⟩ := hh
    rw [don_42]
    exact e
  · replace hk : p0.toInt = 47 := hk
    rcases hh with ⟨c, -⟩ | ⟨-, hh⟩
    · exact absurd (hk.symm.trans c) (by decide)
    rcases hh with ⟨c, -⟩ | ⟨-, hh⟩
    · exact absurd (hk.symm.trans c) (by decide)
    rcases hh with ⟨c, -⟩ | ⟨-, hh⟩
    · exact absurd (hk.symm.trans c) (by decide)
    rcases hh with ⟨-, hh⟩ | ⟨c, -⟩
    rotate_left
    · exact absurd hk c
    rcases hh with ⟨d, rfl, -⟩ | ⟨d, y, e, rfl, -⟩
    · rw [don_47, if_pos d]
    · rw [don_47, if_neg d]
      exact e
  · replace hk : p0.toInt = 37 := hk
    rcases hh with ⟨c, -⟩ | ⟨-, hh⟩
    · exact absurd (hk.symm.trans c) (by decide)
    rcases hh with ⟨c, -⟩ | ⟨-, hh⟩
    · exact absurd (hk.symm.trans c) (by decide)
    rcases hh with ⟨c, -⟩ | ⟨-, hh⟩
    · exact absurd (hk.symm.trans c) (by decide)
    rcases hh with ⟨c, -⟩ | ⟨-, hh⟩
    · exact absurd (hk.symm.trans c) (by decide)
    rcases hh with ⟨c, -⟩ | ⟨-, hh⟩
    · exact absurd (hk.symm.trans c) (by decide)
    rcases hh with ⟨c, -⟩ | ⟨-, hh⟩
    · exact absurd (hk.symm.trans c) (by decide)
    rcases hh with ⟨c, -⟩ | ⟨-, hh⟩
    · exact absurd (hk.symm.trans c) (by decide)
    rcases hh with ⟨c, -⟩ | ⟨-, hh⟩
    · exact absurd (hk.symm.trans c) (by decide)
    rcases hh with ⟨c, -⟩ | ⟨-, hh⟩
    · exact absurd (hk.symm.trans c) (by decide)
    rcases hh with ⟨d, rfl, -⟩ | ⟨d, y, e, rfl, -⟩
    · rw [don_37, if_pos d]
    · rw [don_37, if_neg d]
      exact e
theorem q_done_eq {p0 p1 p2 r : Int32} {G G1 : GS} {o : Int} (h : Q_done p0 p1 p2 G r G1) (ho : sgO o) (hk : p0.toInt = o) : G = G1 ∧ r = don o p1 p2 := by
  obtain ⟨-, hF, hh⟩ := h
  refine ⟨hF.nil, ?_⟩
  rcases ho with rfl | rfl | rfl | rfl | rfl | rfl | rfl | rfl | rfl | rfl
  · replace hk : p0.toInt = 124 := hk
    rcases hh with ⟨c, -⟩ | ⟨-, hh⟩
    · exact absurd (hk.symm.trans c) (by decide)
    rcases hh with ⟨c, -⟩ | ⟨-, hh⟩
    · exact absurd (hk.symm.trans c) (by decide)
    rcases hh with ⟨c, -⟩ | ⟨-, hh⟩
    · exact absurd (hk.symm.trans c) (by decide)
    rcases hh with ⟨c, -⟩ | ⟨-, hh⟩
    · exact absurd (hk.symm.trans c) (by decide)
    rcases hh with ⟨c, -⟩ | ⟨-, hh⟩
    · exact absurd (hk.symm.trans c) (by decide)
    rcases hh with ⟨c, -⟩ | ⟨-, hh⟩
    · exact absurd (hk.symm.trans c) (by decide)
    rcases hh with ⟨c, -⟩ | ⟨-, hh⟩
    · exact absurd (hk.symm.trans c) (by decide)
    rcases hh with ⟨c, -⟩ | ⟨-, hh⟩
    · exact absurd (hk.symm.trans c) (by decide)
    rcases hh with ⟨c, -⟩ | ⟨-, hh⟩
    · exact absurd (hk.symm.trans c) (by decide)
    rcases hh with ⟨c, -⟩ | ⟨-, hh⟩
    · exact absurd (hk.symm.trans c) (by decide)
    rcases hh with ⟨c, -⟩ | ⟨-, hh⟩
    · exact absurd (hk.symm.trans c) (by decide)
    rcases hh with ⟨c, -⟩ | ⟨-, hh⟩
    · exact absurd (hk.symm.trans c) (by decide)
    rcases hh with ⟨c, -⟩ | ⟨-, hh⟩
    · exact absurd (hk.symm.trans c) (by decide)
    rcases hh with ⟨c, -⟩ | ⟨-, hh⟩
    · exact absurd (hk.symm.trans c) (by decide)
    rcases hh with ⟨c, -⟩ | ⟨-, hh⟩
    · exact absurd (hk.symm.trans c) (by decide)
    rcases hh with ⟨c, -⟩ | ⟨-, hh⟩
    · exact absurd (hk.symm.trans c) (by decide)
    rcases hh with ⟨c, -⟩ | ⟨-, hh⟩
    · exact absurd (hk.symm.trans c) (by decide)
    rcases hh with ⟨c, -⟩ | ⟨-, hh⟩
    · exact absurd (hk.symm.trans c) (by decide)
    rcases hh with ⟨c, -⟩ | ⟨-, hh⟩
    · exact absurd (hk.symm.trans c) (by decide)
    rcases hh with ⟨c, -⟩ | ⟨-, hh⟩
    · exact absurd (hk.symm.trans c) (by decide)
    rcases hh with ⟨c, -⟩ | ⟨-, hh⟩
    · exact absurd (hk.symm.trans c) (by decide)
    rcases hh with ⟨c, -⟩ | ⟨-, hh⟩
    · exact absurd (hk.symm.trans c) (by decide)
    rcases hh with ⟨c, -⟩ | ⟨-, hh⟩
    · exact absurd (hk.symm.trans c) (by decide)
    rcases hh with ⟨c, -⟩ | ⟨-, hh⟩
    · exact absurd (hk.symm.trans c) (by decide)
    rcases hh with ⟨c, -⟩ | ⟨-, hh⟩
    · exact absurd (hk.symm.trans c) (by decide)
    rcases hh with ⟨c, -⟩ | ⟨-, hh⟩
    · exact absurd (hk.symm.trans c) (by decide)
    rcases hh with ⟨d, ⟨f, r7, G8, hq, rfl, -⟩ | ⟨f, r7, G8, hq, rfl, -⟩⟩ | ⟨d, r7, G8, hq, rfl, -⟩
    · rw [don_124, if_pos d, if_pos f]
      exact Int32.toInt_inj.mp (q_truth hq).2
    · rw [don_124, if_pos d, if_neg f]
      exact Int32.toInt_inj.mp (q_truth hq).2
    · rw [don_124, if_neg d]
      exact Int32.toInt_inj.mp (q_truth hq).2
  · replace hk : p0.toInt = 38 := hk
    rcases hh with ⟨c, -⟩ | ⟨-, hh⟩
    · exact absurd (hk.symm.trans c) (by decide)
    rcases hh with ⟨-, hh⟩ | ⟨c, -⟩
    rotate_left
    · exact absurd hk c
    rcases hh with ⟨d, r7, G8, hq, rfl, -⟩ | ⟨d, ⟨f, r7, G8, hq, rfl, -⟩ | ⟨f, r7, G8, hq, rfl, -⟩⟩
    · rw [don_38, if_pos d]
      exact Int32.toInt_inj.mp (q_truth hq).2
    · rw [don_38, if_neg d, if_pos f]
      exact Int32.toInt_inj.mp (q_truth hq).2
    · rw [don_38, if_neg d, if_neg f]
      exact Int32.toInt_inj.mp (q_truth hq).2
  · replace hk : p0.toInt = 60 := hk
    rcases hh with ⟨c, -⟩ | ⟨-, hh⟩
    · exact absurd (hk.symm.trans c) (by decide)
    rcases hh with ⟨c, -⟩ | ⟨-, hh⟩
    · exact absurd (hk.symm.trans c) (by decide)
    rcases hh with ⟨c, -⟩ | ⟨-, hh⟩
    · exact absurd (hk.symm.trans c) (by decide)
    rcases hh with ⟨c, -⟩ | ⟨-, hh⟩
    · exact absurd (hk.symm.trans c) (by decide)
    rcases hh with ⟨c, -⟩ | ⟨-, hh⟩
    · exact absurd (hk.symm.trans c) (by decide)
    rcases hh with ⟨c, -⟩ | ⟨-, hh⟩
    · exact absurd (hk.symm.trans c) (by decide)
    rcases hh with ⟨c, -⟩ | ⟨-, hh⟩
    · exact absurd (hk.symm.trans c) (by decide)
    rcases hh with ⟨c, -⟩ | ⟨-, hh⟩
    · exact absurd (hk.symm.trans c) (by decide)
    rcases hh with ⟨c, -⟩ | ⟨-, hh⟩
    · exact absurd (hk.symm.trans c) (by decide)
    rcases hh with ⟨c, -⟩ | ⟨-, hh⟩
    · exact absurd (hk.symm.trans c) (by decide)
    rcases hh with ⟨c, -⟩ | ⟨-, hh⟩
    · exact absurd (hk.symm.trans c) (by decide)
    rcases hh with ⟨c, -⟩ | ⟨-, hh⟩
    · exact absurd (hk.symm.trans c) (by decide)
    rcases hh with ⟨c, -⟩ | ⟨-, hh⟩
    · exact absurd (hk.symm.trans c) (by decide)
    rcases hh with ⟨c, -⟩ | ⟨-, hh⟩
    · exact absurd (hk.symm.trans c) (by decide)
    rcases hh with ⟨c, -⟩ | ⟨-, hh⟩
    · exact absurd (hk.symm.trans c) (by decide)
    rcases hh with ⟨c, -⟩ | ⟨-, hh⟩
    · exact absurd (hk.symm.trans c) (by decide)
    rcases hh with ⟨c, -⟩ | ⟨-, hh⟩
    · exact absurd (hk.symm.trans c) (by decide)
    rcases hh with ⟨c, -⟩ | ⟨-, hh⟩
    · exact absurd (hk.symm.trans c) (by decide)
    rcases hh with ⟨c, -⟩ | ⟨-, hh⟩
    · exact absurd (hk.symm.trans c) (by decide)
    rcases hh with ⟨c, -⟩ | ⟨-, hh⟩
    · exact absurd (hk.symm.trans c) (by decide)
    rcases hh with ⟨c, -⟩ | ⟨-, hh⟩
    · exact absurd (hk.symm.trans c) (by decide)
    rcases hh with ⟨c, -⟩ | ⟨-, hh⟩
    · exact absurd (hk.symm.trans c) (by decide)
    rcases hh with ⟨c, -⟩ | ⟨-, hh⟩
    · exact absurd (hk.symm.trans c) (by decide)
    rcases hh with ⟨-, hh⟩ | ⟨c, -⟩
    rotate_left
    · exact absurd hk c
    rcases hh with ⟨d, r7, G8, hq, rfl, -⟩ | ⟨d, r7, G8, hq, rfl, -⟩
    · rw [don_60, if_neg (by omega)]
      exact Int32.toInt_inj.mp (q_truth hq).2
    · rw [don_60, if_pos d]
      exact Int32.toInt_inj.mp (q_truth hq).2
  · replace hk : p0.toInt = 62 := hk
    rcases hh with ⟨c, -⟩ | ⟨-, hh⟩
    · exact absurd (hk.symm.trans c) (by decide)
    rcases hh with ⟨c, -⟩ | ⟨-, hh⟩
    · exact absurd (hk.symm.trans c) (by decide)
    rcases hh with ⟨c, -⟩ | ⟨-, hh⟩
    · exact absurd (hk.symm.trans c) (by decide)
    rcases hh with ⟨c, -⟩ | ⟨-, hh⟩
    · exact absurd (hk.symm.trans c) (by decide)
    rcases hh with ⟨c, -⟩ | ⟨-, hh⟩
    · exact absurd (hk.symm.trans c) (by decide)
    rcases hh with ⟨c, -⟩ | ⟨-, hh⟩
    · exact absurd (hk.symm.trans c) (by decide)
    rcases hh with ⟨c, -⟩ | ⟨-, hh⟩
    · exact absurd (hk.symm.trans c) (by decide)
    rcases hh with ⟨c, -⟩ | ⟨-, hh⟩
    · exact absurd (hk.symm.trans c) (by decide)
    rcases hh with ⟨c, -⟩ | ⟨-, hh⟩
    · exact absurd (hk.symm.trans c) (by decide)
    rcases hh with ⟨c, -⟩ | ⟨-, hh⟩
    · exact absurd (hk.symm.trans c) (by decide)
    rcases hh with ⟨c, -⟩ | ⟨-, hh⟩
    · exact absurd (hk.symm.trans c) (by decide)
    rcases hh with ⟨c, -⟩ | ⟨-, hh⟩
    · exact absurd (hk.symm.trans c) (by decide)
    rcases hh with ⟨c, -⟩ | ⟨-, hh⟩
    · exact absurd (hk.symm.trans c) (by decide)
    rcases hh with ⟨c, -⟩ | ⟨-, hh⟩
    · exact absurd (hk.symm.trans c) (by decide)
    rcases hh with ⟨c, -⟩ | ⟨-, hh⟩
    · exact absurd (hk.symm.trans c) (by decide)
    rcases hh with ⟨c, -⟩ | ⟨-, hh⟩
    · exact absurd (hk.symm.trans c) (by decide)
    rcases hh with ⟨c, -⟩ | ⟨-, hh⟩
    · exact absurd (hk.symm.trans c) (by decide)
    rcases hh with ⟨c, -⟩ | ⟨-, hh⟩
    · exact absurd (hk.symm.trans c) (by decide)
    rcases hh with ⟨c, -⟩ | ⟨-, hh⟩
    · exact absurd (hk.symm.trans c) (by decide)
    rcases hh with ⟨c, -⟩ | ⟨-, hh⟩
    · exact absurd (hk.symm.trans c) (by decide)
    rcases hh with ⟨c, -⟩ | ⟨-, hh⟩
    · exact absurd (hk.symm.trans c) (by decide)
    rcases hh with ⟨c, -⟩ | ⟨-, hh⟩
    · exact absurd (hk.symm.trans c) (by decide)
    rcases hh with ⟨c, -⟩ | ⟨-, hh⟩
    · exact absurd (hk.symm.trans c) (by decide)
    rcases hh with ⟨c, -⟩ | ⟨-, hh⟩
    · exact absurd (hk.symm.trans c) (by decide)
    rcases hh with ⟨c, -⟩ | ⟨-, hh⟩
    · exact absurd (hk.symm.trans c) (by decide)
    rcases hh with ⟨-, hh⟩ | ⟨c, -⟩
    rotate_left
    · exact absurd hk c
    rcases hh with ⟨d, r7, G8, hq, rfl, -⟩ | ⟨d, r7, G8, hq, rfl, -⟩
    · rw [don_62, if_neg (by omega)]
      exact Int32.toInt_inj.mp (q_truth hq).2
    · rw [don_62, if_pos d]
      exact Int32.toInt_inj.mp (q_truth hq).2
  · replace hk : p0.toInt = 61 := hk
    rcases hh with ⟨c, -⟩ | ⟨-, hh⟩
    · exact absurd (hk.symm.trans c) (by decide)
    rcases hh with ⟨c, -⟩ | ⟨-, hh⟩
    · exact absurd (hk.symm.trans c) (by decide)
    rcases hh with ⟨c, -⟩ | ⟨-, hh⟩
    · exact absurd (hk.symm.trans c) (by decide)
    rcases hh with ⟨c, -⟩ | ⟨-, hh⟩
    · exact absurd (hk.symm.trans c) (by decide)
    rcases hh with ⟨c, -⟩ | ⟨-, hh⟩
    · exact absurd (hk.symm.trans c) (by decide)
    rcases hh with ⟨c, -⟩ | ⟨-, hh⟩
    · exact absurd (hk.symm.trans c) (by decide)
    rcases hh with ⟨c, -⟩ | ⟨-, hh⟩
    · exact absurd (hk.symm.trans c) (by decide)
    rcases hh with ⟨c, -⟩ | ⟨-, hh⟩
    · exact absurd (hk.symm.trans c) (by decide)
    rcases hh with ⟨c, -⟩ | ⟨-, hh⟩
    · exact absurd (hk.symm.trans c) (by decide)
    rcases hh with ⟨c, -⟩ | ⟨-, hh⟩
    · exact absurd (hk.symm.trans c) (by decide)
    rcases hh with ⟨c, -⟩ | ⟨-, hh⟩
    · exact absurd (hk.symm.trans c) (by decide)
    rcases hh with ⟨c, -⟩ | ⟨-, hh⟩
    · exact absurd (hk.symm.trans c) (by decide)
    rcases hh with ⟨c, -⟩ | ⟨-, hh⟩
    · exact absurd (hk.symm.trans c) (by decide)
    rcases hh with ⟨c, -⟩ | ⟨-, hh⟩
    · exact absurd (hk.symm.trans c) (by decide)
    rcases hh with ⟨c, -⟩ | ⟨-, hh⟩
    · exact absurd (hk.symm.trans c) (by decide)
    rcases hh with ⟨c, -⟩ | ⟨-, hh⟩
    · exact absurd (hk.symm.trans c) (by decide)
    rcases hh with ⟨c, -⟩ | ⟨-, hh⟩
    · exact absurd (hk.symm.trans c) (by decide)
    rcases hh with ⟨c, -⟩ | ⟨-, hh⟩
    · exact absurd (hk.symm.trans c) (by decide)
    rcases hh with ⟨c, -⟩ | ⟨-, hh⟩
    · exact absurd (hk.symm.trans c) (by decide)
    rcases hh with ⟨c, -⟩ | ⟨-, hh⟩
    · exact absurd (hk.symm.trans c) (by decide)
    rcases hh with ⟨c, -⟩ | ⟨-, hh⟩
    · exact absurd (hk.symm.trans c) (by decide)
    rcases hh with ⟨c, -⟩ | ⟨-, hh⟩
    · exact absurd (hk.symm.trans c) (by decide)
    rcases hh with ⟨c, -⟩ | ⟨-, hh⟩
    · exact absurd (hk.symm.trans c) (by decide)
    rcases hh with ⟨c, -⟩ | ⟨-, hh⟩
    · exact absurd (hk.symm.trans c) (by decide)
    rcases hh with ⟨-, hh⟩ | ⟨c, -⟩
    rotate_left
    · exact absurd hk c
    rcases hh with ⟨d, r7, G8, hq, rfl, -⟩ | ⟨d, r7, G8, hq, rfl, -⟩
    · rw [don_61, if_pos d]
      exact Int32.toInt_inj.mp (q_truth hq).2
    · rw [don_61, if_neg d]
      exact Int32.toInt_inj.mp (q_truth hq).2
  · replace hk : p0.toInt = 43 := hk
    rcases hh with ⟨c, -⟩ | ⟨-, hh⟩
    · exact absurd (hk.symm.trans c) (by decide)
    rcases hh with ⟨c, -⟩ | ⟨-, hh⟩
    · exact absurd (hk.symm.trans c) (by decide)
    rcases hh with ⟨c, -⟩ | ⟨-, hh⟩
    · exact absurd (hk.symm.trans c) (by decide)
    rcases hh with ⟨c, -⟩ | ⟨-, hh⟩
    · exact absurd (hk.symm.trans c) (by decide)
    rcases hh with ⟨c, -⟩ | ⟨-, hh⟩
    · exact absurd (hk.symm.trans c) (by decide)
    rcases hh with ⟨c, -⟩ | ⟨-, hh⟩
    · exact absurd (hk.symm.trans c) (by decide)
    rcases hh with ⟨-, hh⟩ | ⟨c, -⟩
    rotate_left
    · exact absurd hk c
    obtain ⟨y, e, rfl, -⟩ := hh
    rw [don_43]
    exact e
  · replace hk : p0.toInt = 45 := hk
    rcases hh with ⟨c, -⟩ | ⟨-, hh⟩
    · exact absurd (hk.symm.trans c) (by decide)
    rcases hh with ⟨c, -⟩ | ⟨-, hh⟩
    · exact absurd (hk.symm.trans c) (by decide)
    rcases hh with ⟨c, -⟩ | ⟨-, hh⟩
    · exact absurd (hk.symm.trans c) (by decide)
    rcases hh with ⟨c, -⟩ | ⟨-, hh⟩
    · exact absurd (hk.symm.trans c) (by decide)
    rcases hh with ⟨c, -⟩ | ⟨-, hh⟩
    · exact absurd (hk.symm.trans c) (by decide)
    rcases hh with ⟨c, -⟩ | ⟨-, hh⟩
    · exact absurd (hk.symm.trans c) (by decide)
    rcases hh with ⟨c, -⟩ | ⟨-, hh⟩
    · exact absurd (hk.symm.trans c) (by decide)
    rcases hh with ⟨c, -⟩ | ⟨-, hh⟩
    · exact absurd (hk.symm.trans c) (by decide)
    rcases hh with ⟨-, hh⟩ | ⟨c, -⟩
    rotate_left
    · exact absurd hk c
    obtain ⟨y, e, rfl, -⟩ := hh
    rw [don_45]
    exact e
  · replace hk : p0.toInt = 42 := hk
    rcases hh with ⟨c, -⟩ | ⟨-, hh⟩
    · exact absurd (hk.symm.trans c) (by decide)
    rcases hh with ⟨c, -⟩ | ⟨-, hh⟩
    · exact absurd (hk.symm.trans c) (by decide)
    rcases hh with ⟨c, -⟩ | ⟨-, hh⟩
    · exact absurd (hk.symm.trans c) (by decide)
    rcases hh with ⟨c, -⟩ | ⟨-, hh⟩
    · exact absurd (hk.symm.trans c) (by decide)
    rcases hh with ⟨c, -⟩ | ⟨-, hh⟩
    · exact absurd (hk.symm.trans c) (by decide)
    rcases hh with ⟨-, hh⟩ | ⟨c, -⟩
    rotate_left
    · exact absurd hk c
    obtain ⟨y, e, rfl, -⟩ := hh
    rw [don_42]
    exact e
  · replace hk : p0.toInt = 47 := hk
    rcases hh with ⟨c, -⟩ | ⟨-, hh⟩
    · exact absurd (hk.symm.trans c) (by decide)
    rcases hh with ⟨c, -⟩ | ⟨-, hh⟩
    · exact absurd (hk.symm.trans c) (by decide)
    rcases hh with ⟨c, -⟩ | ⟨-, hh⟩
    · exact absurd (hk.symm.trans c) (by decide)
    rcases hh with ⟨c, -⟩ | ⟨-, hh⟩
    · exact absurd (hk.symm.trans c) (by decide)
    rcases hh with ⟨c, -⟩ | ⟨-, hh⟩
    · exact absurd (hk.symm.trans c) (by decide)
    rcases hh with ⟨c, -⟩ | ⟨-, hh⟩
    · exact absurd (hk.symm.trans c) (by decide)
    rcases hh with ⟨c, -⟩ | ⟨-, hh⟩
    · exact absurd (hk.symm.trans c) (by decide)
    rcases hh with ⟨c, -⟩ | ⟨-, hh⟩
    · exact absurd (hk.symm.trans c) (by decide)
    rcases hh with ⟨c, -⟩ | ⟨-, hh⟩
    · exact absurd (hk.symm.trans c) (by decide)
    rcases hh with ⟨c, -⟩ | ⟨-, hh⟩
    · exact absurd (hk.symm.trans c) (by decide)
    rcases hh with ⟨-, hh⟩ | ⟨c, -⟩
    rotate_left
    · exact absurd hk c
    rcases hh with ⟨d, rfl, -⟩ | ⟨d, y, e, rfl, -⟩
    · rw [don_47, if_pos d]
    · rw [don_47, if_neg d]
      exact e
  · replace hk : p0.toInt = 37 := hk
    rcases hh with ⟨-, hh⟩ | ⟨c, -⟩
    rotate_left
    · exact absurd hk c
    rcases hh with ⟨d, rfl, -⟩ | ⟨d, y, e, rfl, -⟩
    · rw [don_37, if_pos d]
    · rw [don_37, if_neg d]
      exact e
