

noncomputable def ind (p : Prop) : Int := @ite Int p (Classical.propDecidable p) 1 0
theorem ind_1 {p : Prop} (h : p) : ind p = 1 := by unfold ind; exact if_pos h
theorem ind_p {p : Prop} (h : ind p = 1) : p := by
  unfold ind at h
  split at h
  · assumption
  · cases h
theorem Fr.rows {rs : List Nat} {fs : List (Nat × Nat)} {G G1 : GS} (h : Fr rs fs G G1) {L : List Nat} (h1 : ∀ i ∈ L, i ∉ rs ∧ ∀ x ∈ fs, x.1 ≠ i) {i : Nat} (hi : i ∈ L) : G1.1 i = G.1 i := funext (h.ri i (h1 i hi).1 (h1 i hi).2)
/-- of the row of signs that wait: how many stand between two values, how many brackets -/
def bs (f : Nat → Int32) : Nat → Int
  | 0 => 0
  | n + 1 => bs f n + (if (f n).toInt = 20 ∨ (f n).toInt = 21 then 0 else 1)
def bk (f : Nat → Int32) : Nat → Int
  | 0 => 0
  | n + 1 => bk f n + (if (f n).toInt = 20 then 1 else 0)
theorem bs_congr {f g : Nat → Int32} : ∀ n, (∀ j, j < n → f j = g j) → bs f n = bs g n
  | 0, _ => rfl
  | n + 1, h => by rw [bs, bs, bs_congr n (fun j hj => h j (by omega)), h n (by omega)]
theorem bk_congr {f g : Nat → Int32} : ∀ n, (∀ j, j < n → f j = g j) → bk f n = bk g n
  | 0, _ => rfl
  | n + 1, h => by rw [bk, bk, bk_congr n (fun j hj => h j (by omega)), h n (by omega)]
theorem bs_rng (f : Nat → Int32) : ∀ n : Nat, 0 ≤ bs f n ∧ bs f n ≤ n
  | 0 => ⟨Int.le_refl _, Int.le_refl _⟩
  | n + 1 => by
    have := bs_rng f n
    rw [bs]
    split <;> omega
theorem bk_rng (f : Nat → Int32) : ∀ n : Nat, 0 ≤ bk f n ∧ bk f n ≤ n
  | 0 => ⟨Int.le_refl _, Int.le_refl _⟩
  | n + 1 => by
    have := bk_rng f n
    rw [bk]
    split <;> omega
/-- steps of a formula: how many values lie behind so many, and that none is wanting -/
def sgW (x : Int32) : Int := if x.toInt = 0 ∨ x.toInt = 1 then 1 else if x.toInt = 2 then 0 else -1
def dp (f : Nat → Int32) (b : Nat) : Nat → Int
  | 0 => 0
  | n + 1 => dp f b n + sgW (f (b + n))
def okW (x : Int32) (d : Int) : Prop := 0 ≤ d ∧ d ≤ 40 ∧ (x.toInt ≠ 0 → x.toInt ≠ 1 → 1 ≤ d) ∧ (x.toInt ≠ 0 → x.toInt ≠ 1 → x.toInt ≠ 2 → 2 ≤ d)
def WF (f : Nat → Int32) (b m : Nat) : Prop := ∀ n, n < m → okW (f (b + n)) (dp f b n)
theorem dp_congr {f g : Nat → Int32} {b : Nat} : ∀ n, (∀ j, j < n → f (b + j) = g (b + j)) → dp f b n = dp g b n
  | 0, _ => rfl
  | n + 1, h => by rw [dp, dp, dp_congr n (fun j hj => h j (by omega)), h n (by omega)]
theorem WF_congr {f g : Nat → Int32} {b m : Nat} (h : ∀ j, j < m → f (b + j) = g (b + j)) (hw : WF g b m) : WF f b m := fun n hn => by
  rw [h n hn, dp_congr n (fun j hj => h j (by omega))]
  exact hw n hn
def WFs (f g : Nat → Int32) (k : Nat) : Prop := ∀ i, i < k → WF f (320 * i) (g i).toNatClampNeg
def bkI (f : Nat → Int32) (x : Int) : Int := bk f x.toNat
theorem bk_mono (f : Nat → Int32) (x : Int) : 0 ≤ bkI f x ∧ bkI f x ≤ bkI f (x + 1) := by
  have h1 := (bk_rng f x.toNat).1
  unfold bkI
  by_cases h : 0 ≤ x
  · rw [show (x + 1).toNat = x.toNat + 1 by omega, bk]
    split <;> omega
  · have h2 := (bk_rng f (x + 1).toNat).1
    have h3 : x.toNat = 0 := by omega
    rw [h3]
    exact ⟨Int.le_refl _, h2⟩
def gB (G : GS) : Int := bs (G.1 75) (G.1 66 20).toNatClampNeg
def gK (G : GS) : Int := bk (G.1 75) (G.1 66 20).toNatClampNeg
def gT (G : GS) : Int := (G.1 75 ((G.1 66 20).toNatClampNeg - 1)).toInt
def gM (G : GS) : Int := (G.1 71 (G.1 66 19).toNatClampNeg).toInt
def gD (G : GS) : Int := dp (G.1 69) (320 * (G.1 66 19).toNatClampNeg) (G.1 71 (G.1 66 19).toNatClampNeg).toNatClampNeg
noncomputable def gC (G : GS) : Int := ind (WFs (G.1 69) (G.1 71) ((G.1 66 19).toNatClampNeg + 1))
noncomputable def gE (G : GS) : Int := ind (WFs (G.1 69) (G.1 71) (G.1 66 47).toNatClampNeg)
noncomputable def gP (G : GS) : Int := ind (WFs (G.1 72) (G.1 74) (G.1 66 54).toNatClampNeg)
def wkO (f l m p : Int32) : Prop := 1 ≤ f.toInt ∧ f.toInt ≤ 12 ∧ 1 ≤ l.toInt ∧ l.toInt ≤ m.toInt ∧ m.toInt ≤ 60 ∧ m.toInt ≤ p.toInt ∧ p.toInt ≤ 99
def wkS (f l m p : Nat → Int32) (n : Nat) : Prop := ∀ w, w < n → wkO (f w) (l w) (m w) (p w)
noncomputable def gN (G : GS) : Int := ind (wkS (G.1 82) (G.1 83) (G.1 84) (G.1 85) (G.1 66 46).toNatClampNeg)
noncomputable def gW (G : GS) : Int := ind (wkS (G.1 92) (G.1 93) (G.1 94) (G.1 95) (G.1 66 53).toNatClampNeg)
noncomputable def gS (G : GS) : Int := ind (∀ s : Nat, s < (G.1 66 85).toNatClampNeg → (G.1 114 s).toInt + (G.1 92 (G.1 112 s).toNatClampNeg).toInt ≤ (G.1 91 (G.1 113 s).toNatClampNeg).toInt)
theorem gB_fr {rs : List Nat} {fs : List (Nat × Nat)} {G G1 : GS} (h : Fr rs fs G G1) (h1 : ∀ i ∈ [75], i ∉ rs ∧ ∀ x ∈ fs, x.1 ≠ i) (h2 : ∀ y ∈ [(66, 20)], y.1 ∉ rs ∧ y ∉ fs) : gB G1 = gB G := by
  unfold gB
  rw [h.i 66 20 (h2 (66, 20) (by decide)).1 (h2 (66, 20) (by decide)).2, h.rows h1 (i := 75) (by decide)]
theorem gK_fr {rs : List Nat} {fs : List (Nat × Nat)} {G G1 : GS} (h : Fr rs fs G G1) (h1 : ∀ i ∈ [75], i ∉ rs ∧ ∀ x ∈ fs, x.1 ≠ i) (h2 : ∀ y ∈ [(66, 20)], y.1 ∉ rs ∧ y ∉ fs) : gK G1 = gK G := by
  unfold gK
  rw [h.i 66 20 (h2 (66, 20) (by decide)).1 (h2 (66, 20) (by decide)).2, h.rows h1 (i := 75) (by decide)]
theorem gT_fr {rs : List Nat} {fs : List (Nat × Nat)} {G G1 : GS} (h : Fr rs fs G G1) (h1 : ∀ i ∈ [75], i ∉ rs ∧ ∀ x ∈ fs, x.1 ≠ i) (h2 : ∀ y ∈ [(66, 20)], y.1 ∉ rs ∧ y ∉ fs) : gT G1 = gT G := by
  unfold gT
  rw [h.i 66 20 (h2 (66, 20) (by decide)).1 (h2 (66, 20) (by decide)).2, h.rows h1 (i := 75) (by decide)]
theorem gM_fr {rs : List Nat} {fs : List (Nat × Nat)} {G G1 : GS} (h : Fr rs fs G G1) (h1 : ∀ i ∈ [71], i ∉ rs ∧ ∀ x ∈ fs, x.1 ≠ i) (h2 : ∀ y ∈ [(66, 19)], y.1 ∉ rs ∧ y ∉ fs) : gM G1 = gM G := by
  unfold gM
  rw [h.i 66 19 (h2 (66, 19) (by decide)).1 (h2 (66, 19) (by decide)).2, h.rows h1 (i := 71) (by decide)]
theorem gD_fr {rs : List Nat} {fs : List (Nat × Nat)} {G G1 : GS} (h : Fr rs fs G G1) (h1 : ∀ i ∈ [69, 71], i ∉ rs ∧ ∀ x ∈ fs, x.1 ≠ i) (h2 : ∀ y ∈ [(66, 19)], y.1 ∉ rs ∧ y ∉ fs) : gD G1 = gD G := by
  unfold gD
  rw [h.i 66 19 (h2 (66, 19) (by decide)).1 (h2 (66, 19) (by decide)).2, h.rows h1 (i := 69) (by decide), h.rows h1 (i := 71) (by decide)]
theorem gC_fr {rs : List Nat} {fs : List (Nat × Nat)} {G G1 : GS} (h : Fr rs fs G G1) (h1 : ∀ i ∈ [69, 71], i ∉ rs ∧ ∀ x ∈ fs, x.1 ≠ i) (h2 : ∀ y ∈ [(66, 19)], y.1 ∉ rs ∧ y ∉ fs) : gC G1 = gC G := by
  unfold gC
  rw [h.i 66 19 (h2 (66, 19) (by decide)).1 (h2 (66, 19) (by decide)).2, h.rows h1 (i := 69) (by decide), h.rows h1 (i := 71) (by decide)]
theorem gE_fr {rs : List Nat} {fs : List (Nat × Nat)} {G G1 : GS} (h : Fr rs fs G G1) (h1 : ∀ i ∈ [69, 71], i ∉ rs ∧ ∀ x ∈ fs, x.1 ≠ i) (h2 : ∀ y ∈ [(66, 47)], y.1 ∉ rs ∧ y ∉ fs) : gE G1 = gE G := by
  unfold gE
  rw [h.i 66 47 (h2 (66, 47) (by decide)).1 (h2 (66, 47) (by decide)).2, h.rows h1 (i := 69) (by decide), h.rows h1 (i := 71) (by decide)]
theorem gN_fr {rs : List Nat} {fs : List (Nat × Nat)} {G G1 : GS} (h : Fr rs fs G G1) (h1 : ∀ i ∈ [82, 83, 84, 85], i ∉ rs ∧ ∀ x ∈ fs, x.1 ≠ i) (h2 : ∀ y ∈ [(66, 46)], y.1 ∉ rs ∧ y ∉ fs) : gN G1 = gN G := by
  unfold gN
  rw [h.i 66 46 (h2 (66, 46) (by decide)).1 (h2 (66, 46) (by decide)).2, h.rows h1 (i := 82) (by decide), h.rows h1 (i := 83) (by decide), h.rows h1 (i := 84) (by decide), h.rows h1 (i := 85) (by decide)]
theorem gW_fr {rs : List Nat} {fs : List (Nat × Nat)} {G G1 : GS} (h : Fr rs fs G G1) (h1 : ∀ i ∈ [92, 93, 94, 95], i ∉ rs ∧ ∀ x ∈ fs, x.1 ≠ i) (h2 : ∀ y ∈ [(66, 53)], y.1 ∉ rs ∧ y ∉ fs) : gW G1 = gW G := by
  unfold gW
  rw [h.i 66 53 (h2 (66, 53) (by decide)).1 (h2 (66, 53) (by decide)).2, h.rows h1 (i := 92) (by decide), h.rows h1 (i := 93) (by decide), h.rows h1 (i := 94) (by decide), h.rows h1 (i := 95) (by decide)]
theorem gP_fr {rs : List Nat} {fs : List (Nat × Nat)} {G G1 : GS} (h : Fr rs fs G G1) (h1 : ∀ i ∈ [72, 74], i ∉ rs ∧ ∀ x ∈ fs, x.1 ≠ i) (h2 : ∀ y ∈ [(66, 54)], y.1 ∉ rs ∧ y ∉ fs) : gP G1 = gP G := by
  unfold gP
  rw [h.i 66 54 (h2 (66, 54) (by decide)).1 (h2 (66, 54) (by decide)).2, h.rows h1 (i := 72) (by decide), h.rows h1 (i := 74) (by decide)]
theorem gS_fr {rs : List Nat} {fs : List (Nat × Nat)} {G G1 : GS} (h : Fr rs fs G G1) (h1 : ∀ i ∈ [91, 92, 112, 113, 114], i ∉ rs ∧ ∀ x ∈ fs, x.1 ≠ i) (h2 : ∀ y ∈ [(66, 85)], y.1 ∉ rs ∧ y ∉ fs) : gS G1 = gS G := by
  unfold gS
  rw [h.i 66 85 (h2 (66, 85) (by decide)).1 (h2 (66, 85) (by decide)).2, h.rows h1 (i := 91) (by decide), h.rows h1 (i := 92) (by decide), h.rows h1 (i := 112) (by decide), h.rows h1 (i := 113) (by decide), h.rows h1 (i := 114) (by decide)]
theorem gh_pos {G : GS} (h : 0 ≤ (G.1 66 20).toInt) : 0 ≤ gB G ∧ gB G ≤ (G.1 66 20).toInt ∧ 0 ≤ gK G ∧ gK G ≤ (G.1 66 20).toInt := by
  have h1 := bs_rng (G.1 75) (G.1 66 20).toNatClampNeg
  have h2 := bk_rng (G.1 75) (G.1 66 20).toNatClampNeg
  have h3 := tN h
  unfold gB gK
  omega
theorem bk_all {G : GS} {x : Int32} (h : x.toInt = (G.1 66 20).toInt) (h0 : 0 ≤ x.toInt) : bkI (G.1 75) x.toInt = gK G := by
  have h1 : x = G.1 66 20 := Int32.toInt_inj.mp h
  subst h1
  rfl
theorem gh_pop {Ga Gb : GS} {v : Int32} (e : Gb = (u2 Ga.1 66 20 v, Ga.2)) (hv : v.toInt = (Ga.1 66 20).toInt - 1) (h0 : 0 ≤ v.toInt) : (gT Ga = 20 ∨ gT Ga = 21 → gB Ga = gB Gb) ∧ (gT Ga ≠ 20 → gT Ga ≠ 21 → gB Ga = gB Gb + 1) ∧ (gT Ga = 20 → gK Ga = gK Gb + 1) ∧ (gT Ga ≠ 20 → gK Ga = gK Gb) := by
  have h1 : (Ga.1 66 20).toNatClampNeg = v.toNatClampNeg + 1 := by
    have a1 := c_nat v
    have a2 := c_nat (Ga.1 66 20)
    omega
  have h2 : Gb.1 66 20 = v := gp_eq e
  have h3 : Gb.1 75 = Ga.1 75 := funext fun j => gp_ne e (fun q => absurd q.1 (by decide))
  have eB : gB Ga = gB Gb + (if gT Ga = 20 ∨ gT Ga = 21 then 0 else 1) := by
    unfold gB gT
    rw [h1, h2, h3]
    rfl
  have eK : gK Ga = gK Gb + (if gT Ga = 20 then 1 else 0) := by
    unfold gK gT
    rw [h1, h2, h3]
    rfl
  refine ⟨fun q => ?_, fun q1 q2 => ?_, fun q => ?_, fun q => ?_⟩
  · rw [eB, if_pos q]; omega
  · rw [eB, if_neg (by omega)]
  · rw [eK, if_pos q]
  · rw [eK, if_neg q]; omega
theorem gT_at {G : GS} {x y : Int32} (ey : y = G.1 75 x.toNatClampNeg) (hx : x.toInt = (G.1 66 20).toInt - 1) (h0 : 0 ≤ x.toInt) : gT G = y.toInt := by
  unfold gT
  rw [ey, show (G.1 66 20).toNatClampNeg - 1 = x.toNatClampNeg by have a1 := c_nat x; have a2 := c_nat (G.1 66 20); omega]
theorem gT_at2 {Ga Gb : GS} {v x y : Int32} (e : Gb = (u2 Ga.1 66 20 v, Ga.2)) (ey : y = Gb.1 75 x.toNatClampNeg) (hx : x.toInt = (Ga.1 66 20).toInt - 1) (h0 : 0 ≤ x.toInt) : gT Ga = y.toInt :=
  gT_at (ey.trans (gp_ne e (fun q => absurd q.1 (by decide)))) hx h0
theorem gh_push {Ga Gb Gc : GS} {x v w : Int32} (e1 : Gb = (u2 Ga.1 75 x.toNatClampNeg v, Ga.2)) (e2 : Gc = (u2 Gb.1 66 20 w, Gb.2)) (hx : x.toInt = (Ga.1 66 20).toInt) (h0 : 0 ≤ x.toInt) (hw : w.toInt = x.toInt + 1) : (v.toInt = 20 ∨ v.toInt = 21 → gB Gc = gB Ga) ∧ (v.toInt ≠ 20 → v.toInt ≠ 21 → gB Gc = gB Ga + 1) := by
  have hx2 : x = Ga.1 66 20 := Int32.toInt_inj.mp hx
  have h1 : w.toNatClampNeg = x.toNatClampNeg + 1 := by
    have a1 := c_nat w
    have a2 := c_nat x
    omega
  have h2 : Gc.1 66 20 = w := gp_eq e2
  have h3 : Gc.1 75 = Gb.1 75 := funext fun j => gp_ne e2 (fun q => absurd q.1 (by decide))
  have h4 : bs (Gb.1 75) x.toNatClampNeg = bs (Ga.1 75) x.toNatClampNeg := bs_congr _ (fun j hj => gp_ne e1 (fun q => by have := q.2; omega))
  have h5 : Gb.1 75 x.toNatClampNeg = v := gp_eq e1
  have eB : gB Gc = gB Ga + (if v.toInt = 20 ∨ v.toInt = 21 then 0 else 1) := by
    unfold gB
    rw [h2, h3, h1, bs, h4, h5, hx2]
  exact ⟨fun q => by rw [eB, if_pos q]; omega, fun q1 q2 => by rw [eB, if_neg (by omega)]⟩
theorem add_gh {G G1 : GS} {p0 x : Int32} (hB : Bd G) (hf : G1.1 66 19 = G.1 66 19) (hp0 : 0 ≤ p0.toInt) (hp3 : p0.toInt ≤ 3) (hm : gM G ≤ 319) (hx : x.toInt = 320 * (G.1 66 19).toInt + gM G) (hs : ∀ j, j ≠ x.toNatClampNeg → G1.1 69 j = G.1 69 j) (hv : G1.1 69 x.toNatClampNeg = p0) (hn : ∀ j, j ≠ (G.1 66 19).toNatClampNeg → G1.1 71 j = G.1 71 j) (hnv : (G1.1 71 (G.1 66 19).toNatClampNeg).toInt = gM G + 1) : gM G1 = gM G + 1 ∧ (p0.toInt ≤ 1 → gD G1 = gD G + 1) ∧ (p0.toInt = 2 → gD G1 = gD G) ∧ (p0.toInt = 3 → gD G1 = gD G - 1) ∧ (gC G = 1 → 0 ≤ gD G → gD G ≤ 40 → (2 ≤ p0.toInt → 1 ≤ gD G) → (3 ≤ p0.toInt → 2 ≤ gD G) → gC G1 = 1) := by
  have b1 : 0 ≤ (G.1 66 19).toInt ∧ (G.1 66 19).toInt ≤ 5 := hB.i 66 19 rfl rfl
  have b2 : 0 ≤ gM G ∧ gM G ≤ 320 := hB.i 71 (G.1 66 19).toNatClampNeg rfl rfl
  have c0 := c_nat x
  have c1 := c_nat (G.1 66 19)
  have c2 : (G.1 71 (G.1 66 19).toNatClampNeg).toNatClampNeg = (gM G).toNat := c_nat _
  have c3 : (G1.1 71 (G.1 66 19).toNatClampNeg).toNatClampNeg = (gM G).toNat + 1 := by rw [c_nat, hnv]; omega
  have hidx : x.toNatClampNeg = 320 * (G.1 66 19).toNatClampNeg + (gM G).toNat := by omega
  have hsame : ∀ n, n ≤ (gM G).toNat → dp (G1.1 69) (320 * (G.1 66 19).toNatClampNeg) n = dp (G.1 69) (320 * (G.1 66 19).toNatClampNeg) n := fun n hn' => dp_congr n (fun j hj => hs _ (by omega))
  have eD : gD G1 = gD G + sgW p0 := by
    unfold gD
    rw [hf, c2, c3, dp, hsame _ (Nat.le_refl _), ← hidx, hv]
  refine ⟨?_, fun q => ?_, fun q => ?_, fun q => ?_, fun q1 q2 q3 q4 q5 => ?_⟩
  · show (G1.1 71 (G1.1 66 19).toNatClampNeg).toInt = _
    rw [hf, hnv]
  · rw [eD, sgW, if_pos (by omega)]
  · rw [eD, sgW, if_neg (by omega), if_pos q]; omega
  · rw [eD, sgW, if_neg (by omega), if_neg (by omega)]; omega
  · have hw := ind_p q1
    refine ind_1 (fun i hi => ?_)
    rw [hf] at hi
    by_cases hc : i = (G.1 66 19).toNatClampNeg
    · subst hc
      rw [c3]
      intro n hn'
      by_cases hq : n = (gM G).toNat
      · subst hq
        rw [hsame _ (Nat.le_refl _), ← hidx, hv]
        have : gD G = dp (G.1 69) (320 * (G.1 66 19).toNatClampNeg) (gM G).toNat := by unfold gD; rw [c2]
        rw [← this]
        exact ⟨q2, q3, fun a1 a2 => q4 (by omega), fun a1 a2 a3 => q5 (by omega)⟩
      · rw [hsame n (by omega), hs _ (by omega)]
        exact hw _ hi n (by rw [c2]; omega)
    · rw [hn i hc]
      have b3 : 0 ≤ (G.1 71 i).toInt ∧ (G.1 71 i).toInt ≤ 320 := hB.i 71 i rfl rfl
      have c4 := c_nat (G.1 71 i)
      exact WF_congr (fun j hj => hs _ (by omega)) (hw i (by omega))
theorem form_gh {G G1 : GS} {p0 : Int32} (hE : gE G = 1) (h1 : G1.1 66 19 = p0) (hp : p0.toInt = (G.1 66 47).toInt) (hs : ∀ j, True → G1.1 69 j = G.1 69 j) (hn : ∀ j, j ≠ p0.toNatClampNeg → G1.1 71 j = G.1 71 j) (hn0 : G1.1 71 p0.toNatClampNeg = 0) (ho : G1.1 66 20 = 0) : gC G1 = 1 ∧ gD G1 = 0 ∧ gB G1 = 0 ∧ gM G1 = 0 := by
  have hs' : G1.1 69 = G.1 69 := funext fun j => hs j trivial
  have hp2 : p0 = G.1 66 47 := Int32.toInt_inj.mp hp
  refine ⟨ind_1 (fun i hi => ?_), ?_, ?_, ?_⟩
  · rw [h1] at hi
    by_cases hc : i = p0.toNatClampNeg
    · subst hc
      rw [hn0]
      intro n hn'
      exact absurd hn' (Nat.not_lt_zero _)
    · rw [hn i hc, hs']
      exact ind_p hE i (by rw [← hp2]; omega)
  · unfold gD
    rw [h1, hn0]
    rfl
  · unfold gB
    rw [ho]
    rfl
  · unfold gM
    rw [h1, hn0]
    rfl
theorem rule_gh {Ga Gb : GS} {v : Int32} (hC : gC Ga = 1) (hf : (Ga.1 66 19).toInt = (Ga.1 66 47).toInt) (e : Gb = (u2 Ga.1 66 47 v, Ga.2)) (hv : v.toInt = (Ga.1 66 47).toInt + 1) (h0 : 0 ≤ (Ga.1 66 47).toInt) : gE Gb = 1 := by
  have hf2 : Ga.1 66 19 = Ga.1 66 47 := Int32.toInt_inj.mp hf
  have h2 : Gb.1 66 47 = v := gp_eq e
  have h3 : Gb.1 69 = Ga.1 69 := funext fun j => gp_ne e (fun q => absurd q.1 (by decide))
  have h4 : Gb.1 71 = Ga.1 71 := funext fun j => gp_ne e (fun q => absurd q.1 (by decide))
  have h5 : v.toNatClampNeg = (Ga.1 66 19).toNatClampNeg + 1 := by
    have a1 := c_nat v
    have a2 := c_nat (Ga.1 66 19)
    omega
  refine ind_1 ?_
  rw [h2, h3, h4, h5]
  exact ind_p hC
theorem gE_0 {G : GS} (h : G.1 66 47 = 0) : gE G = 1 := by
  refine ind_1 (fun i hi => ?_)
  rw [h] at hi
  exact absurd hi (Nat.not_lt_zero _)
theorem gN_0 {G : GS} (h : G.1 66 46 = 0) : gN G = 1 := by
  refine ind_1 (fun i hi => ?_)
  rw [h] at hi
  exact absurd hi (Nat.not_lt_zero _)
/-- one WALKER more -/
theorem walk_gh {G G1 : GS} {x v : Int32} (hN : gN G = 1) (hx : x.toInt = (G.1 66 46).toInt) (h0 : 0 ≤ x.toInt) (h1 : G1.1 66 46 = v) (hv : v.toInt = x.toInt + 1) (a1 : ∀ j, j ≠ x.toNatClampNeg → G1.1 82 j = G.1 82 j) (a2 : ∀ j, j ≠ x.toNatClampNeg → G1.1 83 j = G.1 83 j) (a3 : ∀ j, j ≠ x.toNatClampNeg → G1.1 84 j = G.1 84 j) (a4 : ∀ j, j ≠ x.toNatClampNeg → G1.1 85 j = G.1 85 j) {f l m p : Int32} (b1 : G1.1 82 x.toNatClampNeg = f) (b2 : G1.1 83 x.toNatClampNeg = l) (b3 : G1.1 84 x.toNatClampNeg = m) (b4 : G1.1 85 x.toNatClampNeg = p) (ho : wkO f l m p) : gN G1 = 1 := by
  refine ind_1 (fun i hi => ?_)
  rw [h1] at hi
  have c1 := c_nat v
  have c2 := c_nat x
  by_cases hc : i = x.toNatClampNeg
  · subst hc
    rw [b1, b2, b3, b4]
    exact ho
  · rw [a1 i hc, a2 i hc, a3 i hc, a4 i hc]
    have c3 := c_nat (G.1 66 46)
    exact ind_p hN i (by omega)
theorem lc_eq {z : Int32} {x y : Int64} (e : z = lg_cmp x y) (h : z.toInt = 0) : x = y := by
  subst e
  unfold lg_cmp at h
  split at h
  · exact absurd h (by decide)
  · split at h
    · assumption
    · exact absurd h (by decide)
theorem xI_addC {x y z : Int32} (e : z = x + y) : -2147483648 ≤ x.toInt + y.toInt ∧ x.toInt + y.toInt ≤ 2147483647 → z.toInt = x.toInt + y.toInt := fun h => tI_add e h.1 h.2
/-- bits of a slab's word -/
theorem orM {x y z w : Int32} (hy : y.toInt = 1 ∨ y.toInt = 2 ∨ y.toInt = 4 ∨ y.toInt = 8) (hx0 : 0 ≤ x.toInt) (hx : x.toInt ≤ 15) (ea : w = x &&& y) (hw : w.toInt = 0) (ez : z = x ||| y) : z.toInt = x.toInt + y.toInt ∧ z.toInt ≤ 15 := by
  obtain ⟨n, hn, rfl⟩ : ∃ n : Nat, n < 16 ∧ x = Int32.ofNat n := ⟨x.toInt.toNat, by omega, Int32.toInt_inj.mp (by rw [Int32.toInt_ofNat_of_lt (by omega)]; omega)⟩
  subst ea; subst ez
  have key : ∀ n : Fin 16, ∀ m : Fin 4, (Int32.ofNat n.val &&& (#[1, 2, 4, 8] : Array Int32)[m.val]!).toInt = 0 → (Int32.ofNat n.val ||| (#[1, 2, 4, 8] : Array Int32)[m.val]!).toInt = (Int32.ofNat n.val).toInt + (#[1, 2, 4, 8] : Array Int32)[m.val]!.toInt ∧ (Int32.ofNat n.val ||| (#[1, 2, 4, 8] : Array Int32)[m.val]!).toInt ≤ 15 := by decide
  rcases hy with q | q | q | q
  · obtain rfl : y = 1 := Int32.toInt_inj.mp q
    exact key ⟨n, hn⟩ 0 hw
  · obtain rfl : y = 2 := Int32.toInt_inj.mp q
    exact key ⟨n, hn⟩ 1 hw
  · obtain rfl : y = 4 := Int32.toInt_inj.mp q
    exact key ⟨n, hn⟩ 2 hw
  · obtain rfl : y = 8 := Int32.toInt_inj.mp q
    exact key ⟨n, hn⟩ 3 hw
def mkW (w : Int64) : Int := if w = 7497060 then 1 else if w = 108243635103086 then 2 else if w = 431415716206 then 4 else if w = 495672452197 then 8 else 0
theorem mkW_v (w : Int64) : mkW w = 0 ∨ mkW w = 1 ∨ mkW w = 2 ∨ mkW w = 4 ∨ mkW w = 8 := by
  unfold mkW
  split
  · simp
  split
  · simp
  split
  · simp
  split
  · simp
  · simp
/-- how many values lie when the step at a place is to be done -/
def dpK (f : Nat → Int32) (b k : Int) : Int := dp f b.toNat (k - b).toNat
theorem dpK_0 (f : Nat → Int32) (b : Int) : dpK f b b = 0 := by
  unfold dpK
  rw [Int.sub_self]
  rfl
theorem wk_step {f g : Nat → Int32} {R : Nat} (hw : WFs f g R) {p k y : Int32} (hp0 : 0 ≤ p.toInt) (hp : p.toInt < R) (hk : 320 * p.toInt ≤ k.toInt) (hk2 : k.toInt < 320 * p.toInt + (g p.toNatClampNeg).toInt) (hy : y.toInt = (f k.toNatClampNeg).toInt) : 0 ≤ dpK f (320 * p.toInt) k.toInt ∧ dpK f (320 * p.toInt) k.toInt ≤ 40 ∧ (y.toInt ≠ 0 → y.toInt ≠ 1 → 1 ≤ dpK f (320 * p.toInt) k.toInt) ∧ (y.toInt ≠ 0 → y.toInt ≠ 1 → y.toInt ≠ 2 → 2 ≤ dpK f (320 * p.toInt) k.toInt) ∧ (y.toInt = 0 ∨ y.toInt = 1 → dpK f (320 * p.toInt) (k.toInt + 1) = dpK f (320 * p.toInt) k.toInt + 1) ∧ (y.toInt = 2 → dpK f (320 * p.toInt) (k.toInt + 1) = dpK f (320 * p.toInt) k.toInt) ∧ (y.toInt ≠ 0 → y.toInt ≠ 1 → y.toInt ≠ 2 → dpK f (320 * p.toInt) (k.toInt + 1) = dpK f (320 * p.toInt) k.toInt - 1) := by
  have c1 := c_nat p
  have c2 := c_nat k
  have c3 := c_nat (g p.toNatClampNeg)
  have e1 : (320 * p.toInt).toNat = 320 * p.toNatClampNeg := by omega
  have e2 : (k.toInt + 1 - 320 * p.toInt).toNat = (k.toInt - 320 * p.toInt).toNat + 1 := by omega
  have e3 : 320 * p.toNatClampNeg + (k.toInt - 320 * p.toInt).toNat = k.toNatClampNeg := by omega
  have hyy : f k.toNatClampNeg = y := Int32.toInt_inj.mp hy.symm
  have h := hw p.toNatClampNeg (by omega) (k.toInt - 320 * p.toInt).toNat (by omega)
  have e4 : dpK f (320 * p.toInt) (k.toInt + 1) = dpK f (320 * p.toInt) k.toInt + sgW y := by
    unfold dpK
    rw [e1, e2, dp, e3, hyy]
  have e5 : dpK f (320 * p.toInt) k.toInt = dp f (320 * p.toNatClampNeg) (k.toInt - 320 * p.toInt).toNat := by
    unfold dpK
    rw [e1]
  rw [e3, hyy, ← e5] at h
  obtain ⟨h1, h2, h3, h4⟩ := h
  refine ⟨h1, h2, h3, h4, fun q => ?_, fun q => ?_, fun q1 q2 q3 => ?_⟩
  · rw [e4, sgW, if_pos q]
  · rw [e4, sgW, if_neg (by omega), if_pos q]; omega
  · rw [e4, sgW, if_neg (by omega), if_neg q3]; omega
theorem gW_at {G : GS} (h : gW G = 1) (x : Int32) (h0 : 0 ≤ x.toInt) (hx : x.toInt < (G.1 66 53).toInt) : 1 ≤ (G.1 92 x.toNatClampNeg).toInt ∧ (G.1 92 x.toNatClampNeg).toInt ≤ 12 ∧ 1 ≤ (G.1 93 x.toNatClampNeg).toInt ∧ (G.1 93 x.toNatClampNeg).toInt ≤ (G.1 94 x.toNatClampNeg).toInt ∧ (G.1 94 x.toNatClampNeg).toInt ≤ 60 ∧ (G.1 94 x.toNatClampNeg).toInt ≤ (G.1 95 x.toNatClampNeg).toInt ∧ (G.1 95 x.toNatClampNeg).toInt ≤ 99 :=
  ind_p h x.toNatClampNeg (by have := c_nat x; have := c_nat (G.1 66 53); omega)
theorem gN_at {G : GS} (h : gN G = 1) (x : Int32) (h0 : 0 ≤ x.toInt) (hx : x.toInt < (G.1 66 46).toInt) : wkO (G.1 82 x.toNatClampNeg) (G.1 83 x.toNatClampNeg) (G.1 84 x.toNatClampNeg) (G.1 85 x.toNatClampNeg) :=
  ind_p h x.toNatClampNeg (by have := c_nat x; have := c_nat (G.1 66 46); omega)
theorem nar_at {G G1 : GS} {i j : Nat} {v : Int32} (e : G1 = (u2 G.1 i j (vp_nar .boolean v), G.2)) (h0 : 0 ≤ v.toInt) (h1 : v.toInt ≤ 1) : (G1.1 i j).toInt = v.toInt := by
  rw [gp_eq e]
  rcases (show v.toInt = 0 ∨ v.toInt = 1 by omega) with q | q
  · obtain rfl : v = 0 := Int32.toInt_inj.mp q
    rfl
  · obtain rfl : v = 1 := Int32.toInt_inj.mp q
    rfl
theorem st400 {G G1 : GS} {x v : Int32} (e : G1 = (u2 G.1 98 x.toNatClampNeg (vp_nar .boolean v), G.2)) (h0 : 0 ≤ x.toInt) : (x.toInt ≠ 400 → (G1.1 98 400).toInt = (G.1 98 400).toInt) ∧ (x.toInt = 400 → 0 ≤ v.toInt → v.toInt ≤ 1 → (G1.1 98 400).toInt = v.toInt) := by
  have c1 := c_nat x
  refine ⟨fun q => ?_, fun q q0 q1 => ?_⟩
  · rw [gp_ne e (fun h => by have := h.2; omega)]
  · have h := nar_at e q0 q1
    rw [show x.toNatClampNeg = 400 by omega] at h
    exact h
theorem law4 {G : GS} {x v : Int32} (h : (G.1 98 400).toInt = 0) (e : v = G.1 98 x.toNatClampNeg) : v.toInt = 1 → x.toInt ≠ 400 := fun q1 q2 => by
  have c1 := c_nat x
  rw [e, show x.toNatClampNeg = 400 by omega, h] at q1
  cases q1
/-- copying the formulas -/
def CP (G : GS) (f k : Int) : Prop := (∀ i : Nat, (i : Int) < f → WF (G.1 72) (320 * i) (G.1 74 i).toNatClampNeg) ∧ ∀ j : Nat, 320 * f ≤ j → (j : Int) < k → G.1 72 j = G.1 69 j
theorem CP_0 {G : GS} : CP G 0 0 := ⟨fun i h => by omega, fun j h h' => by omega⟩
theorem CP_step {G G1 G2 : GS} {f : Int} {k v w : Int32} {r : Nat} (hB : Bd G) (h : CP G f k.toInt) (e1 : G1 = (u2 G.1 72 k.toNatClampNeg v, G.2)) (hv : v = G.1 69 k.toNatClampNeg) (e2 : G2 = (u2 G1.1 r k.toNatClampNeg w, G1.2)) (hr : r ≠ 72 ∧ r ≠ 74 ∧ r ≠ 69) (hf : 0 ≤ f) (hk : 320 * f ≤ k.toInt) {y : Int32} (hy : y.toInt = k.toInt + 1) : CP G2 f y.toInt := by
  have c1 := c_nat k
  have a1 : ∀ j, j ≠ k.toNatClampNeg → G2.1 72 j = G.1 72 j := fun j hj => (gp_ne e2 (fun q => hr.1 q.1.symm)).trans (gp_ne e1 (fun q => hj q.2))
  have a2 : G2.1 72 k.toNatClampNeg = v := (gp_ne e2 (fun q => hr.1 q.1.symm)).trans (gp_eq e1)
  have a3 : ∀ j, G2.1 74 j = G.1 74 j := fun j => (gp_ne e2 (fun q => hr.2.1 q.1.symm)).trans (gp_ne e1 (fun q => absurd q.1 (by decide)))
  have a4 : ∀ j, G2.1 69 j = G.1 69 j := fun j => (gp_ne e2 (fun q => hr.2.2 q.1.symm)).trans (gp_ne e1 (fun q => absurd q.1 (by decide)))
  refine ⟨fun i hi => ?_, fun j h1 h2 => ?_⟩
  · rw [a3]
    have b3 : 0 ≤ (G.1 74 i).toInt ∧ (G.1 74 i).toInt ≤ 320 := hB.i 74 i rfl rfl
    have c4 := c_nat (G.1 74 i)
    exact WF_congr (fun n hn => a1 _ (by omega)) (h.1 i hi)
  · by_cases hc : j = k.toNatClampNeg
    · subst hc
      rw [a2, a4, hv]
    · rw [a1 j hc, a4]
      exact h.2 j h1 (by omega)
theorem CP_many {G G1 : GS} {f k : Int} {x v : Int32} (h : CP G f k) (e : G1 = (u2 G.1 74 x.toNatClampNeg v, G.2)) (hx : x.toInt = f) : CP G1 f k := by
  have c1 := c_nat x
  have a1 : ∀ j, G1.1 72 j = G.1 72 j := fun j => gp_ne e (fun q => absurd q.1 (by decide))
  have a4 : ∀ j, G1.1 69 j = G.1 69 j := fun j => gp_ne e (fun q => absurd q.1 (by decide))
  refine ⟨fun i hi => ?_, fun j h1 h2 => ?_⟩
  · rw [show G1.1 74 i = G.1 74 i from gp_ne e (fun q => by have := q.2; omega)]
    exact WF_congr (fun n hn => a1 _) (h.1 i hi)
  · rw [a1, a4]
    exact h.2 j h1 h2
theorem CP_next {G : GS} {f y : Int32} {k : Int} (h : CP G f.toInt k) (hE : gE G = 1) (h0 : 0 ≤ f.toInt) (hf : f.toInt < (G.1 66 47).toInt) (hm : G.1 74 f.toNatClampNeg = G.1 71 f.toNatClampNeg) (hk : 320 * f.toInt + (G.1 74 f.toNatClampNeg).toInt ≤ k) (hy : y.toInt = f.toInt + 1) : CP G y.toInt (320 * y.toInt) := by
  have c1 := c_nat f
  have c2 := c_nat (G.1 66 47)
  have c3 := c_nat (G.1 74 f.toNatClampNeg)
  refine ⟨fun i hi => ?_, fun j h1 h2 => by omega⟩
  by_cases hc : i = f.toNatClampNeg
  · subst hc
    have hw := ind_p hE f.toNatClampNeg (by omega)
    rw [← hm] at hw
    exact WF_congr (fun n hn => h.2 _ (by omega) (by omega)) hw
  · exact h.1 i (by omega)
theorem CP_end {G : GS} {x k : Int} (h : CP G x k) (h0 : 0 ≤ x) (hr : (G.1 66 54).toInt ≤ x) : gP G = 1 := ind_1 (fun i hi => h.1 i (by have := c_nat (G.1 66 54); omega))
theorem CP_fr {rs : List Nat} {fs : List (Nat × Nat)} {G G1 : GS} {f k : Int} (h : Fr rs fs G G1) (h1 : ∀ i ∈ [72, 74, 69], i ∉ rs ∧ ∀ x ∈ fs, x.1 ≠ i) (hc : CP G f k) : CP G1 f k := by
  unfold CP
  rw [h.rows h1 (i := 72) (by decide), h.rows h1 (i := 74) (by decide), h.rows h1 (i := 69) (by decide)]
  exact hc
/-- copying the WALKERS -/
def WP (G : GS) (n : Int) : Prop := ∀ w : Nat, (w : Int) < n → wkO (G.1 92 w) (G.1 93 w) (G.1 94 w) (G.1 95 w)
theorem WP_0 {G : GS} : WP G 0 := fun w h => by omega
theorem WP_step {G G1 G2 G3 G4 : GS} {x a b c d : Int32} (h : WP G x.toInt) (h0 : 0 ≤ x.toInt) (e1 : G1 = (u2 G.1 92 x.toNatClampNeg a, G.2)) (e2 : G2 = (u2 G1.1 93 x.toNatClampNeg b, G1.2)) (e3 : G3 = (u2 G2.1 94 x.toNatClampNeg c, G2.2)) (e4 : G4 = (u2 G3.1 95 x.toNatClampNeg d, G3.2)) (ho : wkO a b c d) {y : Int32} (hy : y.toInt = x.toInt + 1) : WP G4 y.toInt := by
  intro w hw
  have c1 := c_nat x
  by_cases hc : w = x.toNatClampNeg
  · subst hc
    rw [show G4.1 92 x.toNatClampNeg = a from ((gp_ne e4 (fun q => absurd q.1 (by decide))).trans ((gp_ne e3 (fun q => absurd q.1 (by decide))).trans ((gp_ne e2 (fun q => absurd q.1 (by decide))).trans (gp_eq e1)))),
      show G4.1 93 x.toNatClampNeg = b from ((gp_ne e4 (fun q => absurd q.1 (by decide))).trans ((gp_ne e3 (fun q => absurd q.1 (by decide))).trans (gp_eq e2))),
      show G4.1 94 x.toNatClampNeg = c from ((gp_ne e4 (fun q => absurd q.1 (by decide))).trans (gp_eq e3)), show G4.1 95 x.toNatClampNeg = d from gp_eq e4]
    exact ho
  · rw [show G4.1 92 w = G.1 92 w from ((gp_ne e4 (fun q => hc q.2)).trans ((gp_ne e3 (fun q => hc q.2)).trans ((gp_ne e2 (fun q => hc q.2)).trans (gp_ne e1 (fun q => hc q.2))))),
      show G4.1 93 w = G.1 93 w from ((gp_ne e4 (fun q => hc q.2)).trans ((gp_ne e3 (fun q => hc q.2)).trans ((gp_ne e2 (fun q => hc q.2)).trans (gp_ne e1 (fun q => hc q.2))))),
      show G4.1 94 w = G.1 94 w from ((gp_ne e4 (fun q => hc q.2)).trans ((gp_ne e3 (fun q => hc q.2)).trans ((gp_ne e2 (fun q => hc q.2)).trans (gp_ne e1 (fun q => hc q.2))))),
      show G4.1 95 w = G.1 95 w from ((gp_ne e4 (fun q => hc q.2)).trans ((gp_ne e3 (fun q => hc q.2)).trans ((gp_ne e2 (fun q => hc q.2)).trans (gp_ne e1 (fun q => hc q.2)))))]
    exact h w (by omega)
theorem WP_end {G : GS} {x : Int} (h : WP G x) (h0 : 0 ≤ x) (hr : (G.1 66 53).toInt ≤ x) : gW G = 1 := ind_1 (fun i hi => h i (by have := c_nat (G.1 66 53); omega))
theorem gS_0 {G : GS} (h : G.1 66 85 = 0) : gS G = 1 := by
  refine ind_1 (fun i hi => ?_)
  rw [h] at hi
  exact absurd hi (Nat.not_lt_zero _)
/-- copying the slips -/
def SP (G : GS) (n : Int) : Prop := ∀ j : Nat, (j : Int) < n → G.1 96 j = G.1 86 j
theorem SP_0 {G : GS} : SP G 0 := fun w h => by omega
theorem SP_step {G G1 : GS} {x v y : Int32} (h : SP G x.toInt) (h0 : 0 ≤ x.toInt) (e1 : G1 = (u2 G.1 96 x.toNatClampNeg v, G.2)) (hv : v = G.1 86 x.toNatClampNeg) (hy : y.toInt = x.toInt + 1) : SP G1 y.toInt := by
  intro w hw
  have c1 := c_nat x
  rw [show G1.1 86 w = G.1 86 w from gp_ne e1 (fun q => absurd q.1 (by decide))]
  by_cases hc : w = x.toNatClampNeg
  · subst hc
    rw [gp_eq e1, hv]
  · rw [gp_ne e1 (fun q => hc q.2)]
    exact h w (by omega)
theorem SP_end {G : GS} {x : Int} (h : SP G x) (hx : 3 ≤ x) : (G.1 96 0).toInt = (G.1 86 0).toInt ∧ (G.1 96 1).toInt = (G.1 86 1).toInt ∧ (G.1 96 2).toInt = (G.1 86 2).toInt := ⟨by rw [h 0 (by omega)], by rw [h 1 (by omega)], by rw [h 2 (by omega)]⟩
theorem slN {G : GS} {x : Int32} (h0 : 0 ≤ x.toInt) (h3 : x.toInt < 3) (hs : 0 ≤ (G.1 86 0).toInt ∧ (G.1 86 0).toInt ≤ 9 ∧ 0 ≤ (G.1 86 1).toInt ∧ (G.1 86 1).toInt ≤ 9 ∧ 0 ≤ (G.1 86 2).toInt ∧ (G.1 86 2).toInt ≤ 9) : 0 ≤ (G.1 86 x.toNatClampNeg).toInt ∧ (G.1 86 x.toNatClampNeg).toInt ≤ 9 := by
  have c1 := c_nat x
  rcases (show x.toNatClampNeg = 0 ∨ x.toNatClampNeg = 1 ∨ x.toNatClampNeg = 2 by omega) with q | q | q <;> rw [q] <;> omega
