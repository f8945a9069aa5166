theorem LE_fits_1 {p0 q0 : Int32} {r r' : Int32} {G Ga Gb : GS} (hx : P_Wfits_1 p0 G r Ga) (hm : Q_fits q0 Ga r' Gb) (i0 : p0.toInt = q0.toInt) (hI : gIA G = 1) (hg : gW G = 1) (hz : 0 ≤ (G.1 31 5).toInt) : r.toInt = r'.toInt ∧ gIA Gb = 1 := by
  obtain ⟨V, hV⟩ := ind_p hI
  obtain ⟨a, b⟩ := fits_1 hx hm i0 hV hg hz
  exact ⟨a, ind_1 ⟨V, b⟩⟩
theorem LE_chance_1 {p0 p1 p2 q0 q1 q2 : Int32} {r r' : Int64} {G Ga Gb : GS} (hx : P_Wchance_1 p0 p1 p2 G r Ga) (hm : Q_chance q0 q1 q2 Ga r' Gb) (i0 : p0.toInt = q0.toInt) (i1 : p1.toInt = q1.toInt) (i2 : p2.toInt = q2.toInt) (hI : gIA G = 1) (hg : gW G = 1) (hz : 0 ≤ (G.1 31 5).toInt) : r = r' ∧ gIA Gb = 1 := by
  obtain ⟨V, hV⟩ := ind_p hI
  obtain ⟨a, b⟩ := chance_1 hx hm i0 i1 i2 hV hg hz
  exact ⟨a, ind_1 ⟨V, b⟩⟩
theorem LE_even_1 {p0 p1 p2 p3 p4 q0 q1 q2 q3 q4 : Int32} {r r' : Int32} {G Ga Gb : GS} (hx : P_Weven_1 p0 p1 p2 p3 p4 G r Ga) (hm : Q_even q0 q1 q2 q3 q4 Ga r' Gb) (i0 : p0.toInt = q0.toInt) (i1 : p1.toInt = q1.toInt) (i2 : p2.toInt = q2.toInt) (i3 : p3.toInt = q3.toInt) (i4 : p4.toInt = q4.toInt) (hI : gIA G = 1) (hg : gW G = 1) (hz : 0 ≤ (G.1 31 5).toInt) : r.toInt = r'.toInt ∧ gIA Gb = 1 := by
  obtain ⟨V, hV⟩ := ind_p hI
  exact ⟨even_1 hx hm i0 i1 i2 i3 i4 hV hg, L_even_1 hx hm i0 i1 i2 i3 i4 hI⟩
theorem LE_evens_1 {p0 p1 p2 q0 q1 q2 : Int32} {r r' : Int32} {G Ga Gb : GS} (hx : P_Wevens_1 p0 p1 p2 G r Ga) (hm : Q_evens q0 q1 q2 Ga r' Gb) (i0 : p0.toInt = q0.toInt) (i1 : p1.toInt = q1.toInt) (i2 : p2.toInt = q2.toInt) (hI : gIA G = 1) (hg : gW G = 1) (hz : 0 ≤ (G.1 31 5).toInt) : r.toInt = r'.toInt ∧ gIA Gb = 1 := by
  obtain ⟨V, hV⟩ := ind_p hI
  exact ⟨(evens_1 hx hm i0 i1 i2 hV hg).1, L_evens_1 hx hm i0 i1 i2 hI⟩
theorem LE_fits_2 {p0 q0 : Int32} {r r' : Int32} {G Ga Gb : GS} (hx : P_Wfits_2 p0 G r Ga) (hm : Q_fits q0 Ga r' Gb) (i0 : p0.toInt = q0.toInt) (hI : gIB G = 1) (hg : gW G = 1) (hz : 0 ≤ (G.1 31 5).toInt) : r.toInt = r'.toInt ∧ gIB Gb = 1 := by
  obtain ⟨V, hV⟩ := ind_p hI
  obtain ⟨a, b⟩ := fits_2 hx hm i0 hV hg hz
  exact ⟨a, ind_1 ⟨V, b⟩⟩
theorem LE_chance_2 {p0 p1 p2 q0 q1 q2 : Int32} {r r' : Int64} {G Ga Gb : GS} (hx : P_Wchance_2 p0 p1 p2 G r Ga) (hm : Q_chance q0 q1 q2 Ga r' Gb) (i0 : p0.toInt = q0.toInt) (i1 : p1.toInt = q1.toInt) (i2 : p2.toInt = q2.toInt) (hI : gIB G = 1) (hg : gW G = 1) (hz : 0 ≤ (G.1 31 5).toInt) : r = r' ∧ gIB Gb = 1 := by
  obtain ⟨V, hV⟩ := ind_p hI
  obtain ⟨a, b⟩ := chance_2 hx hm i0 i1 i2 hV hg hz
  exact ⟨a, ind_1 ⟨V, b⟩⟩
theorem LE_even_2 {p0 p1 p2 p3 p4 q0 q1 q2 q3 q4 : Int32} {r r' : Int32} {G Ga Gb : GS} (hx : P_Weven_2 p0 p1 p2 p3 p4 G r Ga) (hm : Q_even q0 q1 q2 q3 q4 Ga r' Gb) (i0 : p0.toInt = q0.toInt) (i1 : p1.toInt = q1.toInt) (i2 : p2.toInt = q2.toInt) (i3 : p3.toInt = q3.toInt) (i4 : p4.toInt = q4.toInt) (hI : gIB G = 1) (hg : gW G = 1) (hz : 0 ≤ (G.1 31 5).toInt) : r.toInt = r'.toInt ∧ gIB Gb = 1 := by
  obtain ⟨V, hV⟩ := ind_p hI
  exact ⟨even_2 hx hm i0 i1 i2 i3 i4 hV hg, L_even_2 hx hm i0 i1 i2 i3 i4 hI⟩
theorem LE_evens_2 {p0 p1 p2 q0 q1 q2 : Int32} {r r' : Int32} {G Ga Gb : GS} (hx : P_Wevens_2 p0 p1 p2 G r Ga) (hm : Q_evens q0 q1 q2 Ga r' Gb) (i0 : p0.toInt = q0.toInt) (i1 : p1.toInt = q1.toInt) (i2 : p2.toInt = q2.toInt) (hI : gIB G = 1) (hg : gW G = 1) (hz : 0 ≤ (G.1 31 5).toInt) : r.toInt = r'.toInt ∧ gIB Gb = 1 := by
  obtain ⟨V, hV⟩ := ind_p hI
  exact ⟨(evens_2 hx hm i0 i1 i2 hV hg).1, L_evens_2 hx hm i0 i1 i2 hI⟩
