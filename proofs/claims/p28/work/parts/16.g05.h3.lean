/-! what both hold alike, as a number that the frame keeps -/
theorem Fr.sym {rs : List Nat} {fs : List (Nat × Nat)} {G G1 : GS} (h : Fr rs fs G G1) : Fr rs fs G1 G := fun i j h1 h2 => ⟨(h i j h1 h2).1.symm, (h i j h1 h2).2.1.symm, (h i j h1 h2).2.2.symm⟩
theorem gTE_q {G : GS} (h : gTE G = 1) : TE G := ind_p h
theorem len_L {x y : Int32} (h : x.toInt = y.toInt) : x = y := Int32.toInt_inj.mp h
noncomputable def gIA (G : GS) : Int := ind (∃ V, IV_1 V G)
theorem IV_1.fr1 {V : PV} {rs : List Nat} {fs : List (Nat × Nat)} {G G1 : GS} (h : IV_1 V G) (hF : Fr rs fs G G1) (h1 : ∀ i ∈ [10, 11, 12, 13, 14, 15, 16, 17, 18, 37, 38, 58, 59, 60, 61, 62, 63, 64, 65, 72, 73, 74, 87, 88, 89, 90, 91, 92, 93, 94, 95, 96, 110, 111, 112, 113, 114, 115, 116, 117, 118], i ∉ rs ∧ ∀ x ∈ fs, x.1 ≠ i) (h2 : ∀ y ∈ [(1, 9), (1, 10), (1, 11), (1, 12), (1, 13), (1, 14), (1, 15), (1, 16), (30, 3), (30, 4), (30, 5), (31, 5), (66, 22), (66, 52), (66, 53), (66, 54), (66, 55), (66, 56), (66, 78), (66, 79), (66, 85)], y.1 ∉ rs ∧ y ∉ fs) : IV_1 V G1 := by
  have l0 : ∀ i ∈ [37, 38], i ∈ ([10, 11, 12, 13, 14, 15, 16, 17, 18, 37, 38, 58, 59, 60, 61, 62, 63, 64, 65, 72, 73, 74, 87, 88, 89, 90, 91, 92, 93, 94, 95, 96, 110, 111, 112, 113, 114, 115, 116, 117, 118] : List Nat) := by decide
  have l1 : ∀ i ∈ [10, 11, 12, 13, 14, 15, 16, 17, 18], i ∈ ([10, 11, 12, 13, 14, 15, 16, 17, 18, 37, 38, 58, 59, 60, 61, 62, 63, 64, 65, 72, 73, 74, 87, 88, 89, 90, 91, 92, 93, 94, 95, 96, 110, 111, 112, 113, 114, 115, 116, 117, 118] : List Nat) := by decide
  have l2 : ∀ i ∈ [72, 73, 74, 87, 88, 89, 90, 91, 92, 93, 94, 95, 96], i ∈ ([10, 11, 12, 13, 14, 15, 16, 17, 18, 37, 38, 58, 59, 60, 61, 62, 63, 64, 65, 72, 73, 74, 87, 88, 89, 90, 91, 92, 93, 94, 95, 96, 110, 111, 112, 113, 114, 115, 116, 117, 118] : List Nat) := by decide
  have l3 : ∀ i ∈ [58, 59, 60, 110, 111, 117, 118], i ∈ ([10, 11, 12, 13, 14, 15, 16, 17, 18, 37, 38, 58, 59, 60, 61, 62, 63, 64, 65, 72, 73, 74, 87, 88, 89, 90, 91, 92, 93, 94, 95, 96, 110, 111, 112, 113, 114, 115, 116, 117, 118] : List Nat) := by decide
  have l4 : ∀ i ∈ [61, 62, 63, 64, 65, 112, 113, 114, 115, 116], i ∈ ([10, 11, 12, 13, 14, 15, 16, 17, 18, 37, 38, 58, 59, 60, 61, 62, 63, 64, 65, 72, 73, 74, 87, 88, 89, 90, 91, 92, 93, 94, 95, 96, 110, 111, 112, 113, 114, 115, 116, 117, 118] : List Nat) := by decide
  have m1 : ∀ y ∈ [(1, 9), (1, 10), (1, 11), (1, 12), (1, 13), (1, 14), (1, 15), (1, 16)], y ∈ ([(1, 9), (1, 10), (1, 11), (1, 12), (1, 13), (1, 14), (1, 15), (1, 16), (30, 3), (30, 4), (30, 5), (31, 5), (66, 22), (66, 52), (66, 53), (66, 54), (66, 55), (66, 56), (66, 78), (66, 79), (66, 85)] : List (Nat × Nat)) := by decide
  have m2 : ∀ y ∈ [(66, 22), (66, 52), (66, 53), (66, 54), (66, 55), (66, 56)], y ∈ ([(1, 9), (1, 10), (1, 11), (1, 12), (1, 13), (1, 14), (1, 15), (1, 16), (30, 3), (30, 4), (30, 5), (31, 5), (66, 22), (66, 52), (66, 53), (66, 54), (66, 55), (66, 56), (66, 78), (66, 79), (66, 85)] : List (Nat × Nat)) := by decide
  have m3 : ∀ y ∈ [(30, 3), (30, 4), (30, 5), (66, 78), (66, 79)], y ∈ ([(1, 9), (1, 10), (1, 11), (1, 12), (1, 13), (1, 14), (1, 15), (1, 16), (30, 3), (30, 4), (30, 5), (31, 5), (66, 22), (66, 52), (66, 53), (66, 54), (66, 55), (66, 56), (66, 78), (66, 79), (66, 85)] : List (Nat × Nat)) := by decide
  have m4 : ∀ y ∈ [(31, 5), (66, 85)], y ∈ ([(1, 9), (1, 10), (1, 11), (1, 12), (1, 13), (1, 14), (1, 15), (1, 16), (30, 3), (30, 4), (30, 5), (31, 5), (66, 22), (66, 52), (66, 53), (66, 54), (66, 55), (66, 56), (66, 78), (66, 79), (66, 85)] : List (Nat × Nat)) := by decide
  exact h.fr hF (fun i hi => h1 i (l0 i hi)) ⟨fun i hi => h1 i (l1 i hi), fun i hi => h1 i (l2 i hi), fun i hi => h1 i (l3 i hi), fun i hi => h1 i (l4 i hi)⟩ ⟨fun y hy => h2 y (m1 y hy), fun y hy => h2 y (m2 y hy), fun y hy => h2 y (m3 y hy), fun y hy => h2 y (m4 y hy)⟩
theorem gIA_fr {rs : List Nat} {fs : List (Nat × Nat)} {G G1 : GS} (h : Fr rs fs G G1) (h1 : ∀ i ∈ [10, 11, 12, 13, 14, 15, 16, 17, 18, 37, 38, 58, 59, 60, 61, 62, 63, 64, 65, 72, 73, 74, 87, 88, 89, 90, 91, 92, 93, 94, 95, 96, 110, 111, 112, 113, 114, 115, 116, 117, 118], i ∉ rs ∧ ∀ x ∈ fs, x.1 ≠ i) (h2 : ∀ y ∈ [(1, 9), (1, 10), (1, 11), (1, 12), (1, 13), (1, 14), (1, 15), (1, 16), (30, 3), (30, 4), (30, 5), (31, 5), (66, 22), (66, 52), (66, 53), (66, 54), (66, 55), (66, 56), (66, 78), (66, 79), (66, 85)], y.1 ∉ rs ∧ y ∉ fs) : gIA G1 = gIA G := by
  have e : (∃ V, IV_1 V G1) ↔ ∃ V, IV_1 V G := ⟨fun ⟨V, hV⟩ => ⟨V, hV.fr1 h.sym h1 h2⟩, fun ⟨V, hV⟩ => ⟨V, hV.fr1 h h1 h2⟩⟩
  unfold gIA
  rw [propext e]
theorem L_line_1 {p0 p1 p2 q0 q1 q2 : Int32} {r r' : Int32} {G Ga Gb : GS} (hx : P_Wline_1 p0 p1 p2 G r Ga) (hm : Q_line q0 q1 q2 Ga r' Gb) (i0 : p0.toInt = q0.toInt) (i1 : p1.toInt = q1.toInt) (i2 : p2.toInt = q2.toInt) (hI : gIA G = 1) : r.toInt = r'.toInt ∧ gIA Gb = 1 := by
  obtain ⟨V, hV⟩ := ind_p hI
  obtain ⟨a, b⟩ := line_1 hx hm i0 i1 i2 hV
  exact ⟨a, ind_1 ⟨V, b⟩⟩
theorem L_gap_1 {p0 p1 p2 q0 q1 q2 : Int32} {r r' : Int32} {G Ga Gb : GS} (hx : P_Wgap_1 p0 p1 p2 G r Ga) (hm : Q_gap q0 q1 q2 Ga r' Gb) (i0 : p0.toInt = q0.toInt) (i1 : p1.toInt = q1.toInt) (i2 : p2.toInt = q2.toInt) (hI : gIA G = 1) : r.toInt = r'.toInt ∧ gIA Gb = 1 := by
  obtain ⟨V, hV⟩ := ind_p hI
  obtain ⟨a, b⟩ := gap_1 hx hm i0 i1 i2 hV
  exact ⟨a, ind_1 ⟨V, b⟩⟩
theorem L_foot_1 {p0 p1 p2 p3 q0 q1 q2 q3 : Int32} {r r' : Int32} {G Ga Gb : GS} (hx : P_Wfoot_1 p0 p1 p2 p3 G r Ga) (hm : Q_foot q0 q1 q2 q3 Ga r' Gb) (i0 : p0.toInt = q0.toInt) (i1 : p1.toInt = q1.toInt) (i2 : p2.toInt = q2.toInt) (i3 : p3.toInt = q3.toInt) (hI : gIA G = 1) : r.toInt = r'.toInt ∧ gIA Gb = 1 := by
  obtain ⟨V, hV⟩ := ind_p hI
  obtain ⟨a, b⟩ := foot_1 hx hm i0 i1 i2 i3 hV
  exact ⟨a, ind_1 ⟨V, b⟩⟩
theorem L_walk_1 {p0 p1 p2 q0 q1 q2 : Int32} {r r' : Int32} {G Ga Gb : GS} (hx : P_Wwalk_1 p0 p1 p2 G r Ga) (hm : Q_walk q0 q1 q2 Ga r' Gb) (i0 : p0.toInt = q0.toInt) (i1 : p1.toInt = q1.toInt) (i2 : p2.toInt = q2.toInt) (hI : gIA G = 1) : r.toInt = r'.toInt ∧ gIA Gb = 1 := by
  obtain ⟨V, hV⟩ := ind_p hI
  obtain ⟨a, b⟩ := walk_1 hx hm i0 i1 i2 hV
  exact ⟨a, ind_1 ⟨V, b⟩⟩
theorem L_go_1 {p0 q0 : Int32} {r r' : Int32} {G Ga Gb : GS} (hx : P_Wgo_1 p0 G r Ga) (hm : Q_go q0 Ga r' Gb) (i0 : p0.toInt = q0.toInt) (hI : gIA G = 1) (hs : 1 ≤ (G.1 96 0).toInt + (G.1 96 1).toInt + (G.1 96 2).toInt) : r.toInt = r'.toInt ∧ gIA Gb = 1 := by
  obtain ⟨V, hV⟩ := ind_p hI
  obtain ⟨-, -, -, ⟨s0, s1, s2⟩, -⟩ := hV.2.1
  rw [s0, s1, s2] at hs
  obtain ⟨a, b⟩ := go_1 hx hm i0 hV hs
  exact ⟨a, ind_1 ⟨V, b⟩⟩
theorem L_sight_1 {p0 p1 p2 q0 q1 q2 : Int32} {r r' : Int32} {G Ga Gb : GS} (hx : P_Wsight_1 p0 p1 p2 G r Ga) (hm : Q_sight q0 q1 q2 Ga r' Gb) (i0 : p0.toInt = q0.toInt) (i1 : p1.toInt = q1.toInt) (i2 : p2.toInt = q2.toInt) (hI : gIA G = 1) (hB : Bd G) (ht : (G.1 31 6).toInt = (G.1 66 86).toInt) : r.toInt = r'.toInt ∧ gIA Gb = 1 := by
  obtain ⟨V, hV⟩ := ind_p hI
  obtain ⟨a, b⟩ := sightV_1 hx hm i0 i1 i2 hV hB ht
  exact ⟨a, ind_1 ⟨V, b⟩⟩
theorem L_untell_1 {p0 q0 : Int32} {r r' : Int32} {G Ga Gb : GS} (hx : P_Wuntell p0 G r Ga) (hm : Q_untell q0 Ga r' Gb) (i0 : p0.toInt = q0.toInt) (hI : gIA G = 1) (hB : Bd G) (ht : (G.1 31 6).toInt = (G.1 66 86).toInt) : r.toInt = r'.toInt ∧ gIA Gb = 1 := by
  obtain ⟨V, hV⟩ := ind_p hI
  obtain ⟨a, b⟩ := untellV_1 hx hm i0 hV hB ht
  exact ⟨a, ind_1 ⟨V, b⟩⟩
theorem L_inch_1 {p0 p1 p2 q0 q1 q2 : Int32} {r r' : Int32} {G Ga Gb : GS} (hx : P_Winch_1 p0 p1 p2 G r Ga) (hm : Q_inch q0 q1 q2 Ga r' Gb) (i0 : p0.toInt = q0.toInt) (i1 : p1.toInt = q1.toInt) (i2 : p2.toInt = q2.toInt) (hI : gIA G = 1) : r.toInt = r'.toInt := by
  obtain ⟨V, hV⟩ := ind_p hI
  exact inch_1 hx hm i0 i1 i2 ⟨V, hV.1, hV.2.1⟩
theorem L_length_1 {p0 q0 : Int32} {r r' : Int32} {G Ga Gb : GS} (hx : P_Wlength_1 p0 G r Ga) (hm : Q_length q0 Ga r' Gb) (i0 : p0.toInt = q0.toInt) (hI : gIA G = 1) : r.toInt = r'.toInt := by
  obtain ⟨V, hV⟩ := ind_p hI
  exact len_1 hx hm i0 ⟨V, hV.1, hV.2.1⟩
theorem L_walker_1 {p0 q0 : Int32} {r r' : Int32} {G Ga Gb : GS} (hx : P_Wwalker p0 G r Ga) (hm : Q_walker q0 Ga r' Gb) (i0 : p0.toInt = q0.toInt) (hI : gIA G = 1) : r.toInt = r'.toInt := by
  obtain ⟨V, hV⟩ := ind_p hI
  exact walker_eq hx hm i0 hV.2.2.2.2.1
theorem L_force_1 {p0 q0 : Int32} {r r' : Int32} {G Ga Gb : GS} (hx : P_Wforce_1 p0 G r Ga) (hm : Q_force q0 Ga r' Gb) (i0 : p0.toInt = q0.toInt) (hI : gIA G = 1) : r.toInt = r'.toInt ∧ gIA Gb = 1 := by
  obtain ⟨V, hV⟩ := ind_p hI
  obtain ⟨a, b⟩ := act_force_1 hx hm i0 hV.1 hV.2.1 hV.2.2.2.2.1
  exact ⟨a, ind_1 ⟨V, hV.er hx.2.1 hm.2.1 b (by decide) (by decide)⟩⟩
theorem L_rain_1 {r r' : Int32} {G Ga Gb : GS} (hx : P_Wrain  G r Ga) (hm : Q_rain  Ga r' Gb) (hI : gIA G = 1) : r.toInt = r'.toInt ∧ gIA Gb = 1 := by
  obtain ⟨V, hV⟩ := ind_p hI
  obtain ⟨a, b⟩ := act_rain hx hm hV.2.2.2.2.1
  exact ⟨a, ind_1 ⟨V, hV.er hx.2.1 hm.2.1 b (by decide) (by decide)⟩⟩
theorem L_day_1 {r r' : Int32} {G Ga Gb : GS} (hx : P_Wday  G r Ga) (hm : Q_day  Ga r' Gb) (hI : gIA G = 1) : r.toInt = r'.toInt ∧ gIA Gb = 1 := by
  obtain ⟨V, hV⟩ := ind_p hI
  obtain ⟨a, b⟩ := act_day hx hm hV.2.2.2.2.1
  exact ⟨a, ind_1 ⟨V, hV.er hx.2.1 hm.2.1 b (by decide) (by decide)⟩⟩
theorem L_undo_1 {r r' : Int32} {G Ga Gb : GS} (hx : P_Wundo  G r Ga) (hm : Q_undo  Ga r' Gb) (hI : gIA G = 1) : r.toInt = r'.toInt ∧ gIA Gb = 1 := by
  obtain ⟨V, hV⟩ := ind_p hI
  obtain ⟨a, b⟩ := act_undo hx hm hV.2.2.2.2.1
  exact ⟨a, ind_1 ⟨V, hV.er hx.2.1 hm.2.1 b (by decide) (by decide)⟩⟩
theorem L_redo_1 {r r' : Int32} {G Ga Gb : GS} (hx : P_Wredo  G r Ga) (hm : Q_redo  Ga r' Gb) (hI : gIA G = 1) : r.toInt = r'.toInt ∧ gIA Gb = 1 := by
  obtain ⟨V, hV⟩ := ind_p hI
  obtain ⟨a, b⟩ := act_redo hx hm hV.2.2.2.2.1
  exact ⟨a, ind_1 ⟨V, hV.er hx.2.1 hm.2.1 b (by decide) (by decide)⟩⟩
theorem L_image_1 {p0 q0 : Int32} {r r' : Int32} {G Ga Gb : GS} (hx : P_Wimage p0 G r Ga) (hm : Q_image q0 Ga r' Gb) (i0 : p0.toInt = q0.toInt) (hI : gIA G = 1) : r.toInt = r'.toInt ∧ gIA Gb = 1 := by
  obtain ⟨V, hV⟩ := ind_p hI
  obtain ⟨a, b⟩ := act_image hx hm i0 hV.2.2.2.2.1
  exact ⟨a, ind_1 ⟨V, hV.er hx.2.1 hm.2.1 b (by decide) (by decide)⟩⟩
theorem L_back_1 {p0 q0 : Int32} {r r' : Int32} {G Ga Gb : GS} (hx : P_Wback p0 G r Ga) (hm : Q_back q0 Ga r' Gb) (i0 : p0.toInt = q0.toInt) (hI : gIA G = 1) : r.toInt = r'.toInt ∧ gIA Gb = 1 := by
  obtain ⟨V, hV⟩ := ind_p hI
  obtain ⟨a, b⟩ := act_back hx hm i0 hV.2.2.2.2.1
  exact ⟨a, ind_1 ⟨V, hV.er hx.2.1 hm.2.1 b (by decide) (by decide)⟩⟩
theorem L_fewest_1 {p0 p1 p2 p3 q0 q1 q2 q3 : Int32} {r r' : Int32} {G Ga Gb : GS} (hx : P_Wfewest_1 p0 p1 p2 p3 G r Ga) (hm : Q_fewest q0 q1 q2 q3 Ga r' Gb) (i0 : p0.toInt = q0.toInt) (i1 : p1.toInt = q1.toInt) (i2 : p2.toInt = q2.toInt) (i3 : p3.toInt = q3.toInt) (hI : gIA G = 1) : gIA Gb = 1 := by
  obtain ⟨V, hV⟩ := ind_p hI
  exact ind_1 ⟨V, (hV.ca hx.2.1 (ca_fewest_1 hx hV) (by decide) (by decide)).fr hm.2.1 (by decide) (by decide) (by decide)⟩
theorem L_ways_1 {p0 p1 p2 p3 q0 q1 q2 q3 : Int32} {r r' : Int64} {G Ga Gb : GS} (hx : P_Wways_1 p0 p1 p2 p3 G r Ga) (hm : Q_ways q0 q1 q2 q3 Ga r' Gb) (i0 : p0.toInt = q0.toInt) (i1 : p1.toInt = q1.toInt) (i2 : p2.toInt = q2.toInt) (i3 : p3.toInt = q3.toInt) (hI : gIA G = 1) : gIA Gb = 1 := by
  obtain ⟨V, hV⟩ := ind_p hI
  exact ind_1 ⟨V, (hV.ca hx.2.1 (ca_ways_1 hx hV) (by decide) (by decide)).fr hm.2.1 (by decide) (by decide) (by decide)⟩
theorem L_evenest_1 {p0 p1 p2 p3 q0 q1 q2 q3 : Int32} {r r' : Int32} {G Ga Gb : GS} (hx : P_Wevenest_1 p0 p1 p2 p3 G r Ga) (hm : Q_evenest q0 q1 q2 q3 Ga r' Gb) (i0 : p0.toInt = q0.toInt) (i1 : p1.toInt = q1.toInt) (i2 : p2.toInt = q2.toInt) (i3 : p3.toInt = q3.toInt) (hI : gIA G = 1) : gIA Gb = 1 := by
  obtain ⟨V, hV⟩ := ind_p hI
  exact ind_1 ⟨V, (hV.ca hx.2.1 (ca_evenest_1 hx hV) (by decide) (by decide)).fr hm.2.1 (by decide) (by decide) (by decide)⟩
theorem L_even_1 {p0 p1 p2 p3 p4 q0 q1 q2 q3 q4 : Int32} {r r' : Int32} {G Ga Gb : GS} (hx : P_Weven_1 p0 p1 p2 p3 p4 G r Ga) (hm : Q_even q0 q1 q2 q3 q4 Ga r' Gb) (i0 : p0.toInt = q0.toInt) (i1 : p1.toInt = q1.toInt) (i2 : p2.toInt = q2.toInt) (i3 : p3.toInt = q3.toInt) (i4 : p4.toInt = q4.toInt) (hI : gIA G = 1) : gIA Gb = 1 := by
  obtain ⟨V, hV⟩ := ind_p hI
  exact ind_1 ⟨V, (hV.ca hx.2.1 (ca_even_1 hx hV) (by decide) (by decide)).fr hm.2.1 (by decide) (by decide) (by decide)⟩
theorem L_evens_1 {p0 p1 p2 q0 q1 q2 : Int32} {r r' : Int32} {G Ga Gb : GS} (hx : P_Wevens_1 p0 p1 p2 G r Ga) (hm : Q_evens q0 q1 q2 Ga r' Gb) (i0 : p0.toInt = q0.toInt) (i1 : p1.toInt = q1.toInt) (i2 : p2.toInt = q2.toInt) (hI : gIA G = 1) : gIA Gb = 1 := by
  obtain ⟨V, hV⟩ := ind_p hI
  exact ind_1 ⟨V, (hV.ca hx.2.1 (ca_evens_1 hx hV) (by decide) (by decide)).fr hm.2.1 (by decide) (by decide) (by decide)⟩
theorem L_keeps_1 {p0 p1 p2 q0 q1 q2 : Int32} {r r' : Int32} {G Ga Gb : GS} (hx : P_Wkeeps_1 p0 p1 p2 G r Ga) (hm : Q_keeps q0 q1 q2 Ga r' Gb) (i0 : p0.toInt = q0.toInt) (i1 : p1.toInt = q1.toInt) (i2 : p2.toInt = q2.toInt) (hI : gIA G = 1) : gIA Gb = 1 := by
  obtain ⟨V, hV⟩ := ind_p hI
  exact ind_1 ⟨V, (hV.ca hx.2.1 (ca_keeps_1 hx hV) (by decide) (by decide)).fr hm.2.1 (by decide) (by decide) (by decide)⟩
theorem L_brave_1 {p0 p1 p2 p3 p4 q0 q1 q2 q3 q4 : Int32} {r r' : Int64} {G Ga Gb : GS} (hx : P_Wbrave_1 p0 p1 p2 p3 p4 G r Ga) (hm : Q_brave q0 q1 q2 q3 q4 Ga r' Gb) (i0 : p0.toInt = q0.toInt) (i1 : p1.toInt = q1.toInt) (i2 : p2.toInt = q2.toInt) (i3 : p3.toInt = q3.toInt) (i4 : p4.toInt = q4.toInt) (hI : gIA G = 1) : gIA Gb = 1 := by
  obtain ⟨V, hV⟩ := ind_p hI
  exact ind_1 ⟨V, (hV.ca hx.2.1 (ca_brave_1 hx hV) (by decide) (by decide)).fr hm.2.1 (by decide) (by decide) (by decide)⟩
theorem L_boldest_1 {p0 p1 p2 p3 p4 q0 q1 q2 q3 q4 : Int32} {r r' : Int32} {G Ga Gb : GS} (hx : P_Wboldest_1 p0 p1 p2 p3 p4 G r Ga) (hm : Q_boldest q0 q1 q2 q3 q4 Ga r' Gb) (i0 : p0.toInt = q0.toInt) (i1 : p1.toInt = q1.toInt) (i2 : p2.toInt = q2.toInt) (i3 : p3.toInt = q3.toInt) (i4 : p4.toInt = q4.toInt) (hI : gIA G = 1) : gIA Gb = 1 := by
  obtain ⟨V, hV⟩ := ind_p hI
  exact ind_1 ⟨V, (hV.ca hx.2.1 (ca_boldest_1 hx hV) (by decide) (by decide)).fr hm.2.1 (by decide) (by decide) (by decide)⟩
theorem L_wager_1 {p0 p1 p2 p3 q0 q1 q2 q3 : Int32} {r r' : Int32} {G Ga Gb : GS} (hx : P_Wwager_1 p0 p1 p2 p3 G r Ga) (hm : Q_wager q0 q1 q2 q3 Ga r' Gb) (i0 : p0.toInt = q0.toInt) (i1 : p1.toInt = q1.toInt) (i2 : p2.toInt = q2.toInt) (i3 : p3.toInt = q3.toInt) (hI : gIA G = 1) : gIA Gb = 1 := by
  obtain ⟨V, hV⟩ := ind_p hI
  exact ind_1 ⟨V, (hV.ca hx.2.1 (ca_wager_1 hx hV) (by decide) (by decide)).fr hm.2.1 (by decide) (by decide) (by decide)⟩
theorem L_leave_1 {p0 p1 q0 q1 : Int32} {r r' : Int32} {G Ga Gb : GS} (hx : P_Wleave_1 p0 p1 G r Ga) (hm : Q_leave q0 q1 Ga r' Gb) (i0 : p0.toInt = q0.toInt) (i1 : p1.toInt = q1.toInt) (hI : gIA G = 1) : gIA Gb = 1 := by
  obtain ⟨V, hV⟩ := ind_p hI
  exact ind_1 ⟨V, (hV.ca hx.2.1 (ca_leave_1 hx hV) (by decide) (by decide)).fr hm.2.1 (by decide) (by decide) (by decide)⟩
theorem L_fits_1 {p0 q0 : Int32} {r r' : Int32} {G Ga Gb : GS} (hx : P_Wfits_1 p0 G r Ga) (hm : Q_fits q0 Ga r' Gb) (i0 : p0.toInt = q0.toInt) (hI : gIA G = 1) : gIA Gb = 1 := by
  obtain ⟨V, hV⟩ := ind_p hI
  exact ind_1 ⟨V, (hV.ca hx.2.1 (ca_fits_1 hx hV) (by decide) (by decide)).fr hm.2.1 (by decide) (by decide) (by decide)⟩
theorem L_chance_1 {p0 p1 p2 q0 q1 q2 : Int32} {r r' : Int64} {G Ga Gb : GS} (hx : P_Wchance_1 p0 p1 p2 G r Ga) (hm : Q_chance q0 q1 q2 Ga r' Gb) (i0 : p0.toInt = q0.toInt) (i1 : p1.toInt = q1.toInt) (i2 : p2.toInt = q2.toInt) (hI : gIA G = 1) : gIA Gb = 1 := by
  obtain ⟨V, hV⟩ := ind_p hI
  exact ind_1 ⟨V, (hV.ca hx.2.1 (ca_chance_1 hx hV) (by decide) (by decide)).fr hm.2.1 (by decide) (by decide) (by decide)⟩
noncomputable def gIB (G : GS) : Int := ind (∃ V, IV_2 V G)
theorem IV_2.fr1 {V : PV} {rs : List Nat} {fs : List (Nat × Nat)} {G G1 : GS} (h : IV_2 V G) (hF : Fr rs fs G G1) (h1 : ∀ i ∈ [20, 21, 22, 23, 24, 25, 26, 27, 28, 37, 38, 58, 59, 60, 61, 62, 63, 64, 65, 72, 73, 74, 87, 88, 89, 90, 91, 92, 93, 94, 95, 96, 110, 111, 112, 113, 114, 115, 116, 117, 118], i ∉ rs ∧ ∀ x ∈ fs, x.1 ≠ i) (h2 : ∀ y ∈ [(2, 9), (2, 10), (2, 11), (2, 12), (2, 13), (2, 14), (2, 15), (2, 16), (30, 3), (30, 4), (30, 5), (31, 5), (66, 22), (66, 52), (66, 53), (66, 54), (66, 55), (66, 56), (66, 78), (66, 79), (66, 85)], y.1 ∉ rs ∧ y ∉ fs) : IV_2 V G1 := by
  have l0 : ∀ i ∈ [37, 38], i ∈ ([20, 21, 22, 23, 24, 25, 26, 27, 28, 37, 38, 58, 59, 60, 61, 62, 63, 64, 65, 72, 73, 74, 87, 88, 89, 90, 91, 92, 93, 94, 95, 96, 110, 111, 112, 113, 114, 115, 116, 117, 118] : List Nat) := by decide
  have l1 : ∀ i ∈ [20, 21, 22, 23, 24, 25, 26, 27, 28], i ∈ ([20, 21, 22, 23, 24, 25, 26, 27, 28, 37, 38, 58, 59, 60, 61, 62, 63, 64, 65, 72, 73, 74, 87, 88, 89, 90, 91, 92, 93, 94, 95, 96, 110, 111, 112, 113, 114, 115, 116, 117, 118] : List Nat) := by decide
  have l2 : ∀ i ∈ [72, 73, 74, 87, 88, 89, 90, 91, 92, 93, 94, 95, 96], i ∈ ([20, 21, 22, 23, 24, 25, 26, 27, 28, 37, 38, 58, 59, 60, 61, 62, 63, 64, 65, 72, 73, 74, 87, 88, 89, 90, 91, 92, 93, 94, 95, 96, 110, 111, 112, 113, 114, 115, 116, 117, 118] : List Nat) := by decide
  have l3 : ∀ i ∈ [58, 59, 60, 110, 111, 117, 118], i ∈ ([20, 21, 22, 23, 24, 25, 26, 27, 28, 37, 38, 58, 59, 60, 61, 62, 63, 64, 65, 72, 73, 74, 87, 88, 89, 90, 91, 92, 93, 94, 95, 96, 110, 111, 112, 113, 114, 115, 116, 117, 118] : List Nat) := by decide
  have l4 : ∀ i ∈ [61, 62, 63, 64, 65, 112, 113, 114, 115, 116], i ∈ ([20, 21, 22, 23, 24, 25, 26, 27, 28, 37, 38, 58, 59, 60, 61, 62, 63, 64, 65, 72, 73, 74, 87, 88, 89, 90, 91, 92, 93, 94, 95, 96, 110, 111, 112, 113, 114, 115, 116, 117, 118] : List Nat) := by decide
  have m1 : ∀ y ∈ [(2, 9), (2, 10), (2, 11), (2, 12), (2, 13), (2, 14), (2, 15), (2, 16)], y ∈ ([(2, 9), (2, 10), (2, 11), (2, 12), (2, 13), (2, 14), (2, 15), (2, 16), (30, 3), (30, 4), (30, 5), (31, 5), (66, 22), (66, 52), (66, 53), (66, 54), (66, 55), (66, 56), (66, 78), (66, 79), (66, 85)] : List (Nat × Nat)) := by decide
  have m2 : ∀ y ∈ [(66, 22), (66, 52), (66, 53), (66, 54), (66, 55), (66, 56)], y ∈ ([(2, 9), (2, 10), (2, 11), (2, 12), (2, 13), (2, 14), (2, 15), (2, 16), (30, 3), (30, 4), (30, 5), (31, 5), (66, 22), (66, 52), (66, 53), (66, 54), (66, 55), (66, 56), (66, 78), (66, 79), (66, 85)] : List (Nat × Nat)) := by decide
  have m3 : ∀ y ∈ [(30, 3), (30, 4), (30, 5), (66, 78), (66, 79)], y ∈ ([(2, 9), (2, 10), (2, 11), (2, 12), (2, 13), (2, 14), (2, 15), (2, 16), (30, 3), (30, 4), (30, 5), (31, 5), (66, 22), (66, 52), (66, 53), (66, 54), (66, 55), (66, 56), (66, 78), (66, 79), (66, 85)] : List (Nat × Nat)) := by decide
  have m4 : ∀ y ∈ [(31, 5), (66, 85)], y ∈ ([(2, 9), (2, 10), (2, 11), (2, 12), (2, 13), (2, 14), (2, 15), (2, 16), (30, 3), (30, 4), (30, 5), (31, 5), (66, 22), (66, 52), (66, 53), (66, 54), (66, 55), (66, 56), (66, 78), (66, 79), (66, 85)] : List (Nat × Nat)) := by decide
  exact h.fr hF (fun i hi => h1 i (l0 i hi)) ⟨fun i hi => h1 i (l1 i hi), fun i hi => h1 i (l2 i hi), fun i hi => h1 i (l3 i hi), fun i hi => h1 i (l4 i hi)⟩ ⟨fun y hy => h2 y (m1 y hy), fun y hy => h2 y (m2 y hy), fun y hy => h2 y (m3 y hy), fun y hy => h2 y (m4 y hy)⟩
theorem gIB_fr {rs : List Nat} {fs : List (Nat × Nat)} {G G1 : GS} (h : Fr rs fs G G1) (h1 : ∀ i ∈ [20, 21, 22, 23, 24, 25, 26, 27, 28, 37, 38, 58, 59, 60, 61, 62, 63, 64, 65, 72, 73, 74, 87, 88, 89, 90, 91, 92, 93, 94, 95, 96, 110, 111, 112, 113, 114, 115, 116, 117, 118], i ∉ rs ∧ ∀ x ∈ fs, x.1 ≠ i) (h2 : ∀ y ∈ [(2, 9), (2, 10), (2, 11), (2, 12), (2, 13), (2, 14), (2, 15), (2, 16), (30, 3), (30, 4), (30, 5), (31, 5), (66, 22), (66, 52), (66, 53), (66, 54), (66, 55), (66, 56), (66, 78), (66, 79), (66, 85)], y.1 ∉ rs ∧ y ∉ fs) : gIB G1 = gIB G := by
  have e : (∃ V, IV_2 V G1) ↔ ∃ V, IV_2 V G := ⟨fun ⟨V, hV⟩ => ⟨V, hV.fr1 h.sym h1 h2⟩, fun ⟨V, hV⟩ => ⟨V, hV.fr1 h h1 h2⟩⟩
  unfold gIB
  rw [propext e]
theorem L_line_2 {p0 p1 p2 q0 q1 q2 : Int32} {r r' : Int32} {G Ga Gb : GS} (hx : P_Wline_2 p0 p1 p2 G r Ga) (hm : Q_line q0 q1 q2 Ga r' Gb) (i0 : p0.toInt = q0.toInt) (i1 : p1.toInt = q1.toInt) (i2 : p2.toInt = q2.toInt) (hI : gIB G = 1) : r.toInt = r'.toInt ∧ gIB Gb = 1 := by
  obtain ⟨V, hV⟩ := ind_p hI
  obtain ⟨a, b⟩ := line_2 hx hm i0 i1 i2 hV
  exact ⟨a, ind_1 ⟨V, b⟩⟩
theorem L_gap_2 {p0 p1 p2 q0 q1 q2 : Int32} {r r' : Int32} {G Ga Gb : GS} (hx : P_Wgap_2 p0 p1 p2 G r Ga) (hm : Q_gap q0 q1 q2 Ga r' Gb) (i0 : p0.toInt = q0.toInt) (i1 : p1.toInt = q1.toInt) (i2 : p2.toInt = q2.toInt) (hI : gIB G = 1) : r.toInt = r'.toInt ∧ gIB Gb = 1 := by
  obtain ⟨V, hV⟩ := ind_p hI
  obtain ⟨a, b⟩ := gap_2 hx hm i0 i1 i2 hV
  exact ⟨a, ind_1 ⟨V, b⟩⟩
theorem L_foot_2 {p0 p1 p2 p3 q0 q1 q2 q3 : Int32} {r r' : Int32} {G Ga Gb : GS} (hx : P_Wfoot_2 p0 p1 p2 p3 G r Ga) (hm : Q_foot q0 q1 q2 q3 Ga r' Gb) (i0 : p0.toInt = q0.toInt) (i1 : p1.toInt = q1.toInt) (i2 : p2.toInt = q2.toInt) (i3 : p3.toInt = q3.toInt) (hI : gIB G = 1) : r.toInt = r'.toInt ∧ gIB Gb = 1 := by
  obtain ⟨V, hV⟩ := ind_p hI
  obtain ⟨a, b⟩ := foot_2 hx hm i0 i1 i2 i3 hV
  exact ⟨a, ind_1 ⟨V, b⟩⟩
theorem L_walk_2 {p0 p1 p2 q0 q1 q2 : Int32} {r r' : Int32} {G Ga Gb : GS} (hx : P_Wwalk_2 p0 p1 p2 G r Ga) (hm : Q_walk q0 q1 q2 Ga r' Gb) (i0 : p0.toInt = q0.toInt) (i1 : p1.toInt = q1.toInt) (i2 : p2.toInt = q2.toInt) (hI : gIB G = 1) : r.toInt = r'.toInt ∧ gIB Gb = 1 := by
  obtain ⟨V, hV⟩ := ind_p hI
  obtain ⟨a, b⟩ := walk_2 hx hm i0 i1 i2 hV
  exact ⟨a, ind_1 ⟨V, b⟩⟩
theorem L_go_2 {p0 q0 : Int32} {r r' : Int32} {G Ga Gb : GS} (hx : P_Wgo_2 p0 G r Ga) (hm : Q_go q0 Ga r' Gb) (i0 : p0.toInt = q0.toInt) (hI : gIB G = 1) (hs : 1 ≤ (G.1 96 0).toInt + (G.1 96 1).toInt + (G.1 96 2).toInt) : r.toInt = r'.toInt ∧ gIB Gb = 1 := by
  obtain ⟨V, hV⟩ := ind_p hI
  obtain ⟨-, -, -, ⟨s0, s1, s2⟩, -⟩ := hV.2.1
  rw [s0, s1, s2] at hs
  obtain ⟨a, b⟩ := go_2 hx hm i0 hV hs
  exact ⟨a, ind_1 ⟨V, b⟩⟩
theorem L_sight_2 {p0 p1 p2 q0 q1 q2 : Int32} {r r' : Int32} {G Ga Gb : GS} (hx : P_Wsight_2 p0 p1 p2 G r Ga) (hm : Q_sight q0 q1 q2 Ga r' Gb) (i0 : p0.toInt = q0.toInt) (i1 : p1.toInt = q1.toInt) (i2 : p2.toInt = q2.toInt) (hI : gIB G = 1) (hB : Bd G) (ht : (G.1 31 6).toInt = (G.1 66 86).toInt) : r.toInt = r'.toInt ∧ gIB Gb = 1 := by
  obtain ⟨V, hV⟩ := ind_p hI
  obtain ⟨a, b⟩ := sightV_2 hx hm i0 i1 i2 hV hB ht
  exact ⟨a, ind_1 ⟨V, b⟩⟩
theorem L_untell_2 {p0 q0 : Int32} {r r' : Int32} {G Ga Gb : GS} (hx : P_Wuntell p0 G r Ga) (hm : Q_untell q0 Ga r' Gb) (i0 : p0.toInt = q0.toInt) (hI : gIB G = 1) (hB : Bd G) (ht : (G.1 31 6).toInt = (G.1 66 86).toInt) : r.toInt = r'.toInt ∧ gIB Gb = 1 := by
  obtain ⟨V, hV⟩ := ind_p hI
  obtain ⟨a, b⟩ := untellV_2 hx hm i0 hV hB ht
  exact ⟨a, ind_1 ⟨V, b⟩⟩
theorem L_inch_2 {p0 p1 p2 q0 q1 q2 : Int32} {r r' : Int32} {G Ga Gb : GS} (hx : P_Winch_2 p0 p1 p2 G r Ga) (hm : Q_inch q0 q1 q2 Ga r' Gb) (i0 : p0.toInt = q0.toInt) (i1 : p1.toInt = q1.toInt) (i2 : p2.toInt = q2.toInt) (hI : gIB G = 1) : r.toInt = r'.toInt := by
  obtain ⟨V, hV⟩ := ind_p hI
  exact inch_2 hx hm i0 i1 i2 ⟨V, hV.1, hV.2.1⟩
theorem L_length_2 {p0 q0 : Int32} {r r' : Int32} {G Ga Gb : GS} (hx : P_Wlength_2 p0 G r Ga) (hm : Q_length q0 Ga r' Gb) (i0 : p0.toInt = q0.toInt) (hI : gIB G = 1) : r.toInt = r'.toInt := by
  obtain ⟨V, hV⟩ := ind_p hI
  exact len_2 hx hm i0 ⟨V, hV.1, hV.2.1⟩
theorem L_walker_2 {p0 q0 : Int32} {r r' : Int32} {G Ga Gb : GS} (hx : P_Wwalker p0 G r Ga) (hm : Q_walker q0 Ga r' Gb) (i0 : p0.toInt = q0.toInt) (hI : gIB G = 1) : r.toInt = r'.toInt := by
  obtain ⟨V, hV⟩ := ind_p hI
  exact walker_eq hx hm i0 hV.2.2.2.2.1
theorem L_force_2 {p0 q0 : Int32} {r r' : Int32} {G Ga Gb : GS} (hx : P_Wforce_2 p0 G r Ga) (hm : Q_force q0 Ga r' Gb) (i0 : p0.toInt = q0.toInt) (hI : gIB G = 1) : r.toInt = r'.toInt ∧ gIB Gb = 1 := by
  obtain ⟨V, hV⟩ := ind_p hI
  obtain ⟨a, b⟩ := act_force_2 hx hm i0 hV.1 hV.2.1 hV.2.2.2.2.1
  exact ⟨a, ind_1 ⟨V, hV.er hx.2.1 hm.2.1 b (by decide) (by decide)⟩⟩
theorem L_rain_2 {r r' : Int32} {G Ga Gb : GS} (hx : P_Wrain  G r Ga) (hm : Q_rain  Ga r' Gb) (hI : gIB G = 1) : r.toInt = r'.toInt ∧ gIB Gb = 1 := by
  obtain ⟨V, hV⟩ := ind_p hI
  obtain ⟨a, b⟩ := act_rain hx hm hV.2.2.2.2.1
  exact ⟨a, ind_1 ⟨V, hV.er hx.2.1 hm.2.1 b (by decide) (by decide)⟩⟩
theorem L_day_2 {r r' : Int32} {G Ga Gb : GS} (hx : P_Wday  G r Ga) (hm : Q_day  Ga r' Gb) (hI : gIB G = 1) : r.toInt = r'.toInt ∧ gIB Gb = 1 := by
  obtain ⟨V, hV⟩ := ind_p hI
  obtain ⟨a, b⟩ := act_day hx hm hV.2.2.2.2.1
  exact ⟨a, ind_1 ⟨V, hV.er hx.2.1 hm.2.1 b (by decide) (by decide)⟩⟩
theorem L_undo_2 {r r' : Int32} {G Ga Gb : GS} (hx : P_Wundo  G r Ga) (hm : Q_undo  Ga r' Gb) (hI : gIB G = 1) : r.toInt = r'.toInt ∧ gIB Gb = 1 := by
  obtain ⟨V, hV⟩ := ind_p hI
  obtain ⟨a, b⟩ := act_undo hx hm hV.2.2.2.2.1
  exact ⟨a, ind_1 ⟨V, hV.er hx.2.1 hm.2.1 b (by decide) (by decide)⟩⟩
theorem L_redo_2 {r r' : Int32} {G Ga Gb : GS} (hx : P_Wredo  G r Ga) (hm : Q_redo  Ga r' Gb) (hI : gIB G = 1) : r.toInt = r'.toInt ∧ gIB Gb = 1 := by
  obtain ⟨V, hV⟩ := ind_p hI
  obtain ⟨a, b⟩ := act_redo hx hm hV.2.2.2.2.1
  exact ⟨a, ind_1 ⟨V, hV.er hx.2.1 hm.2.1 b (by decide) (by decide)⟩⟩
theorem L_image_2 {p0 q0 : Int32} {r r' : Int32} {G Ga Gb : GS} (hx : P_Wimage p0 G r Ga) (hm : Q_image q0 Ga r' Gb) (i0 : p0.toInt = q0.toInt) (hI : gIB G = 1) : r.toInt = r'.toInt ∧ gIB Gb = 1 := by
  obtain ⟨V, hV⟩ := ind_p hI
  obtain ⟨a, b⟩ := act_image hx hm i0 hV.2.2.2.2.1
  exact ⟨a, ind_1 ⟨V, hV.er hx.2.1 hm.2.1 b (by decide) (by decide)⟩⟩
theorem L_back_2 {p0 q0 : Int32} {r r' : Int32} {G Ga Gb : GS} (hx : P_Wback p0 G r Ga) (hm : Q_back q0 Ga r' Gb) (i0 : p0.toInt = q0.toInt) (hI : gIB G = 1) : r.toInt = r'.toInt ∧ gIB Gb = 1 := by
  obtain ⟨V, hV⟩ := ind_p hI
  obtain ⟨a, b⟩ := act_back hx hm i0 hV.2.2.2.2.1
  exact ⟨a, ind_1 ⟨V, hV.er hx.2.1 hm.2.1 b (by decide) (by decide)⟩⟩
theorem L_fewest_2 {p0 p1 p2 p3 q0 q1 q2 q3 : Int32} {r r' : Int32} {G Ga Gb : GS} (hx : P_Wfewest_2 p0 p1 p2 p3 G r Ga) (hm : Q_fewest q0 q1 q2 q3 Ga r' Gb) (i0 : p0.toInt = q0.toInt) (i1 : p1.toInt = q1.toInt) (i2 : p2.toInt = q2.toInt) (i3 : p3.toInt = q3.toInt) (hI : gIB G = 1) : gIB Gb = 1 := by
  obtain ⟨V, hV⟩ := ind_p hI
  exact ind_1 ⟨V, (hV.ca hx.2.1 (ca_fewest_2 hx hV) (by decide) (by decide)).fr hm.2.1 (by decide) (by decide) (by decide)⟩
theorem L_ways_2 {p0 p1 p2 p3 q0 q1 q2 q3 : Int32} {r r' : Int64} {G Ga Gb : GS} (hx : P_Wways_2 p0 p1 p2 p3 G r Ga) (hm : Q_ways q0 q1 q2 q3 Ga r' Gb) (i0 : p0.toInt = q0.toInt) (i1 : p1.toInt = q1.toInt) (i2 : p2.toInt = q2.toInt) (i3 : p3.toInt = q3.toInt) (hI : gIB G = 1) : gIB Gb = 1 := by
  obtain ⟨V, hV⟩ := ind_p hI
  exact ind_1 ⟨V, (hV.ca hx.2.1 (ca_ways_2 hx hV) (by decide) (by decide)).fr hm.2.1 (by decide) (by decide) (by decide)⟩
theorem L_evenest_2 {p0 p1 p2 p3 q0 q1 q2 q3 : Int32} {r r' : Int32} {G Ga Gb : GS} (hx : P_Wevenest_2 p0 p1 p2 p3 G r Ga) (hm : Q_evenest q0 q1 q2 q3 Ga r' Gb) (i0 : p0.toInt = q0.toInt) (i1 : p1.toInt = q1.toInt) (i2 : p2.toInt = q2.toInt) (i3 : p3.toInt = q3.toInt) (hI : gIB G = 1) : gIB Gb = 1 := by
  obtain ⟨V, hV⟩ := ind_p hI
  exact ind_1 ⟨V, (hV.ca hx.2.1 (ca_evenest_2 hx hV) (by decide) (by decide)).fr hm.2.1 (by decide) (by decide) (by decide)⟩
theorem L_even_2 {p0 p1 p2 p3 p4 q0 q1 q2 q3 q4 : Int32} {r r' : Int32} {G Ga Gb : GS} (hx : P_Weven_2 p0 p1 p2 p3 p4 G r Ga) (hm : Q_even q0 q1 q2 q3 q4 Ga r' Gb) (i0 : p0.toInt = q0.toInt) (i1 : p1.toInt = q1.toInt) (i2 : p2.toInt = q2.toInt) (i3 : p3.toInt = q3.toInt) (i4 : p4.toInt = q4.toInt) (hI : gIB G = 1) : gIB Gb = 1 := by
  obtain ⟨V, hV⟩ := ind_p hI
  exact ind_1 ⟨V, (hV.ca hx.2.1 (ca_even_2 hx hV) (by decide) (by decide)).fr hm.2.1 (by decide) (by decide) (by decide)⟩
theorem L_evens_2 {p0 p1 p2 q0 q1 q2 : Int32} {r r' : Int32} {G Ga Gb : GS} (hx : P_Wevens_2 p0 p1 p2 G r Ga) (hm : Q_evens q0 q1 q2 Ga r' Gb) (i0 : p0.toInt = q0.toInt) (i1 : p1.toInt = q1.toInt) (i2 : p2.toInt = q2.toInt) (hI : gIB G = 1) : gIB Gb = 1 := by
  obtain ⟨V, hV⟩ := ind_p hI
  exact ind_1 ⟨V, (hV.ca hx.2.1 (ca_evens_2 hx hV) (by decide) (by decide)).fr hm.2.1 (by decide) (by decide) (by decide)⟩
theorem L_keeps_2 {p0 p1 p2 q0 q1 q2 : Int32} {r r' : Int32} {G Ga Gb : GS} (hx : P_Wkeeps_2 p0 p1 p2 G r Ga) (hm : Q_keeps q0 q1 q2 Ga r' Gb) (i0 : p0.toInt = q0.toInt) (i1 : p1.toInt = q1.toInt) (i2 : p2.toInt = q2.toInt) (hI : gIB G = 1) : gIB Gb = 1 := by
  obtain ⟨V, hV⟩ := ind_p hI
  exact ind_1 ⟨V, (hV.ca hx.2.1 (ca_keeps_2 hx hV) (by decide) (by decide)).fr hm.2.1 (by decide) (by decide) (by decide)⟩
theorem L_brave_2 {p0 p1 p2 p3 p4 q0 q1 q2 q3 q4 : Int32} {r r' : Int64} {G Ga Gb : GS} (hx : P_Wbrave_2 p0 p1 p2 p3 p4 G r Ga) (hm : Q_brave q0 q1 q2 q3 q4 Ga r' Gb) (i0 : p0.toInt = q0.toInt) (i1 : p1.toInt = q1.toInt) (i2 : p2.toInt = q2.toInt) (i3 : p3.toInt = q3.toInt) (i4 : p4.toInt = q4.toInt) (hI : gIB G = 1) : gIB Gb = 1 := by
  obtain ⟨V, hV⟩ := ind_p hI
  exact ind_1 ⟨V, (hV.ca hx.2.1 (ca_brave_2 hx hV) (by decide) (by decide)).fr hm.2.1 (by decide) (by decide) (by decide)⟩
theorem L_boldest_2 {p0 p1 p2 p3 p4 q0 q1 q2 q3 q4 : Int32} {r r' : Int32} {G Ga Gb : GS} (hx : P_Wboldest_2 p0 p1 p2 p3 p4 G r Ga) (hm : Q_boldest q0 q1 q2 q3 q4 Ga r' Gb) (i0 : p0.toInt = q0.toInt) (i1 : p1.toInt = q1.toInt) (i2 : p2.toInt = q2.toInt) (i3 : p3.toInt = q3.toInt) (i4 : p4.toInt = q4.toInt) (hI : gIB G = 1) : gIB Gb = 1 := by
  obtain ⟨V, hV⟩ := ind_p hI
  exact ind_1 ⟨V, (hV.ca hx.2.1 (ca_boldest_2 hx hV) (by decide) (by decide)).fr hm.2.1 (by decide) (by decide) (by decide)⟩
theorem L_wager_2 {p0 p1 p2 p3 q0 q1 q2 q3 : Int32} {r r' : Int32} {G Ga Gb : GS} (hx : P_Wwager_2 p0 p1 p2 p3 G r Ga) (hm : Q_wager q0 q1 q2 q3 Ga r' Gb) (i0 : p0.toInt = q0.toInt) (i1 : p1.toInt = q1.toInt) (i2 : p2.toInt = q2.toInt) (i3 : p3.toInt = q3.toInt) (hI : gIB G = 1) : gIB Gb = 1 := by
  obtain ⟨V, hV⟩ := ind_p hI
  exact ind_1 ⟨V, (hV.ca hx.2.1 (ca_wager_2 hx hV) (by decide) (by decide)).fr hm.2.1 (by decide) (by decide) (by decide)⟩
theorem L_leave_2 {p0 p1 q0 q1 : Int32} {r r' : Int32} {G Ga Gb : GS} (hx : P_Wleave_2 p0 p1 G r Ga) (hm : Q_leave q0 q1 Ga r' Gb) (i0 : p0.toInt = q0.toInt) (i1 : p1.toInt = q1.toInt) (hI : gIB G = 1) : gIB Gb = 1 := by
  obtain ⟨V, hV⟩ := ind_p hI
  exact ind_1 ⟨V, (hV.ca hx.2.1 (ca_leave_2 hx hV) (by decide) (by decide)).fr hm.2.1 (by decide) (by decide) (by decide)⟩
theorem L_fits_2 {p0 q0 : Int32} {r r' : Int32} {G Ga Gb : GS} (hx : P_Wfits_2 p0 G r Ga) (hm : Q_fits q0 Ga r' Gb) (i0 : p0.toInt = q0.toInt) (hI : gIB G = 1) : gIB Gb = 1 := by
  obtain ⟨V, hV⟩ := ind_p hI
  exact ind_1 ⟨V, (hV.ca hx.2.1 (ca_fits_2 hx hV) (by decide) (by decide)).fr hm.2.1 (by decide) (by decide) (by decide)⟩
theorem L_chance_2 {p0 p1 p2 q0 q1 q2 : Int32} {r r' : Int64} {G Ga Gb : GS} (hx : P_Wchance_2 p0 p1 p2 G r Ga) (hm : Q_chance q0 q1 q2 Ga r' Gb) (i0 : p0.toInt = q0.toInt) (i1 : p1.toInt = q1.toInt) (i2 : p2.toInt = q2.toInt) (hI : gIB G = 1) : gIB Gb = 1 := by
  obtain ⟨V, hV⟩ := ind_p hI
  exact ind_1 ⟨V, (hV.ca hx.2.1 (ca_chance_2 hx hV) (by decide) (by decide)).fr hm.2.1 (by decide) (by decide) (by decide)⟩
theorem L_pavement_1 {G Ga Gb : GS} {r r' : Int32} (hx : P_Wpavement_1 G r Ga) (hm : Q_pavement Ga r' Gb) (hT : gTE G = 1) (htp : (G.1 0 11).toInt = (G.1 66 1).toInt) (h0 : 0 ≤ (G.1 0 11).toInt) (h1 : (G.1 0 11).toInt ≤ 1600) (hv : G.2.2 0 0 = 1) (hI : gIA G = 1) : r.toInt = r'.toInt ∧ (Gb.1 3 7).toInt = (Gb.1 66 2).toInt ∧ (Gb.1 3 8).toInt = (Gb.1 66 3).toInt ∧ gTE Gb = 1 ∧ (Gb.2.2 0 0 = 1 → gIA Gb = 1) ∧ (Gb.2.2 0 0 = 2 → gIB Gb = 1) := by
  obtain ⟨V, hV⟩ := ind_p hI
  obtain ⟨a1, a2, a3, a4, hh⟩ := pavV_1 hx hm (gTE_q hT) htp h0 h1 hv
  rcases hh with ⟨k1, k2, k3, -⟩ | ⟨k1, k2, -⟩
  · exact ⟨a1, a2, a3, ind_1 a4, fun _ => ind_1 ⟨V, k3 V hV⟩, fun e => absurd (k1.symm.trans e) (by decide)⟩
  · exact ⟨a1, a2, a3, ind_1 a4, fun e => absurd (k1.symm.trans e) (by decide), fun _ => ind_1 k2⟩
theorem L_pavement_2 {G Ga Gb : GS} {r r' : Int32} (hx : P_Wpavement_2 G r Ga) (hm : Q_pavement Ga r' Gb) (hT : gTE G = 1) (htp : (G.1 0 11).toInt = (G.1 66 1).toInt) (h0 : 0 ≤ (G.1 0 11).toInt) (h1 : (G.1 0 11).toInt ≤ 1600) (hv : G.2.2 0 0 = 2) (hI : gIB G = 1) : r.toInt = r'.toInt ∧ (Gb.1 3 7).toInt = (Gb.1 66 2).toInt ∧ (Gb.1 3 8).toInt = (Gb.1 66 3).toInt ∧ gTE Gb = 1 ∧ (Gb.2.2 0 0 = 1 → gIA Gb = 1) ∧ (Gb.2.2 0 0 = 2 → gIB Gb = 1) := by
  obtain ⟨V, hV⟩ := ind_p hI
  obtain ⟨a1, a2, a3, a4, hh⟩ := pavV_2 hx hm (gTE_q hT) htp h0 h1 hv
  rcases hh with ⟨k1, k2, k3, -⟩ | ⟨k1, k2, -⟩
  · exact ⟨a1, a2, a3, ind_1 a4, fun e => absurd (k1.symm.trans e) (by decide), fun _ => ind_1 ⟨V, k3 V hV⟩⟩
  · exact ⟨a1, a2, a3, ind_1 a4, fun _ => ind_1 k2, fun e => absurd (k1.symm.trans e) (by decide)⟩
