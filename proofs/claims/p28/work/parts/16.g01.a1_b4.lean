/-! the text, and what stands in it from a place on -/
def rn (c : Int → Bool) (b : Nat → Int) (n : Nat) : Nat → Nat → Nat
  | 0, p => p
  | f + 1, p => if p < n ∧ c (b p) = true then rn c b n f (p + 1) else p
theorem rn_eq {c : Int → Bool} {b : Nat → Int} {n : Nat} : ∀ (f p e : Nat), p ≤ e → e ≤ p + f → (∀ k, p ≤ k → k < e → k < n ∧ c (b k) = true) → ¬ (e < n ∧ c (b e) = true) → rn c b n f p = e
  | 0, p, e, h1, h2, _, _ => by
    show p = e
    omega
  | f + 1, p, e, h1, h2, h3, h4 => by
    show (if p < n ∧ c (b p) = true then rn c b n f (p + 1) else p) = e
    by_cases hp : p = e
    · subst hp
      rw [if_neg h4]
    · rw [if_pos (h3 p (Nat.le_refl p) (by omega))]
      exact rn_eq f (p + 1) e (by omega) (by omega) (fun k a1 a2 => h3 k (by omega) a2) h4
theorem rn_p {c : Int → Bool} {b : Nat → Int} {n : Nat} : ∀ (f p : Nat), n ≤ p + f → p ≤ rn c b n f p ∧ (p ≤ n → rn c b n f p ≤ n) ∧ (∀ k, p ≤ k → k < rn c b n f p → k < n ∧ c (b k) = true) ∧ ¬ (rn c b n f p < n ∧ c (b (rn c b n f p)) = true)
  | 0, p, h => ⟨Nat.le_refl p, fun q => q, fun k a1 a2 => by have : rn c b n 0 p = p := rfl; omega, fun q => by have : rn c b n 0 p = p := rfl; omega⟩
  | f + 1, p, h => by
    have e : rn c b n (f + 1) p = if p < n ∧ c (b p) = true then rn c b n f (p + 1) else p := rfl
    by_cases hp : p < n ∧ c (b p) = true
    · rw [if_pos hp] at e
      obtain ⟨i1, i2, i3, i4⟩ := rn_p (c := c) (b := b) (n := n) f (p + 1) (by omega)
      rw [e]
      refine ⟨by omega, fun _ => i2 (by omega), fun k a1 a2 => ?_, i4⟩
      by_cases hk : k = p
      · subst hk
        exact hp
      · exact i3 k (by omega) a2
    · rw [if_neg hp] at e
      rw [e]
      exact ⟨Nat.le_refl p, fun q => q, fun k a1 a2 => by omega, hp⟩
def blk (x : Int) : Bool := decide (x = 32 ∨ x = 10)
def ltr (x : Int) : Bool := decide (97 ≤ x ∧ x ≤ 122)
def dgt (x : Int) : Bool := decide (48 ≤ x ∧ x ≤ 57)
def sgn (x : Int) : Bool := decide (x = 59 ∨ x = 40 ∨ x = 41 ∨ x = 60 ∨ x = 62 ∨ x = 61 ∨ x = 43 ∨ x = 45 ∨ x = 42 ∨ x = 47 ∨ x = 37)
theorem blk_i {x : Int} : blk x = true ↔ x = 32 ∨ x = 10 := by simp [blk]
theorem ltr_i {x : Int} : ltr x = true ↔ 97 ≤ x ∧ x ≤ 122 := by simp [ltr]
theorem dgt_i {x : Int} : dgt x = true ↔ 48 ≤ x ∧ x ≤ 57 := by simp [dgt]
theorem sgn_i {x : Int} : sgn x = true ↔ x = 59 ∨ x = 40 ∨ x = 41 ∨ x = 60 ∨ x = 62 ∨ x = 61 ∨ x = 43 ∨ x = 45 ∨ x = 42 ∨ x = 47 ∨ x = 37 := by simp [sgn]
def cut (b : Nat → Int) (s e : Nat) : List Int := (List.range (e - s)).map (fun k => b (s + k))
theorem cut_nil {b : Nat → Int} {s : Nat} : cut b s s = [] := by simp [cut]
theorem cut_len {b : Nat → Int} {s e : Nat} : (cut b s e).length = e - s := by simp [cut]
theorem cut_snoc {b : Nat → Int} {s e : Nat} (h : s ≤ e) : cut b s (e + 1) = cut b s e ++ [b e] := by
  unfold cut
  rw [show e + 1 - s = (e - s) + 1 by omega, List.range_succ, List.map_append, List.map_singleton, show s + (e - s) = e by omega]
theorem cut_mem {b : Nat → Int} {s e : Nat} {x : Int} (h : x ∈ cut b s e) : ∃ k, s ≤ k ∧ k < e ∧ x = b k := by
  unfold cut at h
  obtain ⟨k, hk, rfl⟩ := List.mem_map.mp h
  have := List.mem_range.mp hk
  exact ⟨s + k, by omega, by omega, rfl⟩
theorem cut_get {b : Nat → Int} {s e k : Nat} (h : k < e - s) : (cut b s e).getD k 32 = b (s + k) := by
  unfold cut
  simp [List.getD_eq_getElem?_getD, h]
theorem cut_off {b : Nat → Int} {s e k : Nat} (h : ¬ k < e - s) : (cut b s e).getD k 32 = 32 := by
  unfold cut
  rw [List.getD_eq_getElem?_getD, List.getElem?_map, List.getElem?_eq_none (by rw [List.length_range]; omega)]
  rfl
/-- two short lists without blanks that look alike behind blanks are one -/
theorem pad_inj : ∀ (A B : List Int), (∀ x ∈ A, x ≠ 32) → (∀ x ∈ B, x ≠ 32) → (∀ k, k < A.length ∨ k < B.length → A.getD k 32 = B.getD k 32) → A = B
  | [], [], _, _, _ => rfl
  | [], y :: B, _, hB, h => by
    have := h 0 (Or.inr (by simp))
    simp at this
    exact absurd this.symm (hB y (by simp))
  | x :: A, [], hA, _, h => by
    have := h 0 (Or.inl (by simp))
    simp at this
    exact absurd this (hA x (by simp))
  | x :: A, y :: B, hA, hB, h => by
    have h0 := h 0 (Or.inl (by simp))
    simp at h0
    rw [h0, pad_inj A B (fun z hz => hA z (by simp [hz])) (fun z hz => hB z (by simp [hz])) (fun k hk => by have := h (k + 1) (by simp; omega); simpa using this)]
def KW : List (List Int) := [[115, 116, 114, 101, 101, 116], [119, 97, 108, 107, 101, 114], [102, 111, 111, 116], [115, 116, 101, 112], [116, 111], [108, 101, 97, 112], [114, 117, 108, 101], [115, 108, 105, 112], [104, 97, 110, 100], [115, 108, 97, 99, 107], [100, 114, 97, 119], [106, 111, 105, 110, 116], [114, 101, 100], [98, 114, 111, 107, 101, 110], [100, 114, 97, 105, 110], [115, 104, 97, 100, 101], [111, 114], [97, 110, 100], [110, 111, 116], [108, 111, 110, 103], [110, 116, 104], [105, 110, 99, 104], [100, 97, 121]]
def kwd (L : List Int) : Int := if KW.idxOf L < 23 then 128 + (KW.idxOf L : Int) else 200
theorem kwd_in {L : List Int} {i : Nat} (hi : i < 23) (h : KW.getD i [] = L) : kwd L = 128 + (i : Int) := by
  subst h
  have : ∀ i : Nat, i < 23 → kwd (KW.getD i []) = 128 + (i : Int) := by decide
  exact this i hi
theorem kwd_out {L : List Int} (h : ∀ i : Nat, i < 23 → KW.getD i [] ≠ L) : kwd L = 200 := by
  unfold kwd
  rw [if_neg]
  intro q
  have h1 := List.getElem_idxOf (x := L) (xs := KW) q
  refine h (KW.idxOf L) q ?_
  rw [List.getD_eq_getElem?_getD, List.getElem?_eq_getElem q]
  exact h1
def val (L : List Int) : Int := L.foldl (fun v x => 10 * v + (x - 48)) 0
theorem val_snoc {L : List Int} {x : Int} : val (L ++ [x]) = 10 * val L + (x - 48) := by simp [val, List.foldl_append]
def v5 (L : List Int) : Nat := L.foldl (fun v x => 32 * v + (x - 96).toNat) 0
def v8 (L : List Int) : Nat := L.foldl (fun v x => 256 * v + x.toNat) 0
theorem v5_snoc {L : List Int} {x : Int} : v5 (L ++ [x]) = 32 * v5 L + (x - 96).toNat := by simp [v5, List.foldl_append]
theorem v8_snoc {L : List Int} {x : Int} : v8 (L ++ [x]) = 256 * v8 L + x.toNat := by simp [v8, List.foldl_append]
def w5 (L : List Int) : Int64 := Int64.ofNat (v5 L)
def w8 (L : List Int) : Int64 := Int64.ofNat (v8 L)
def tS (b : Nat → Int) (n p : Nat) : Nat := rn blk b n 1601 p
def tW (b : Nat → Int) (n p : Nat) : Nat := rn ltr b n 1601 (tS b n p)
def tD (b : Nat → Int) (n p : Nat) : Nat := rn dgt b n 1601 (tS b n p)
def tL (b : Nat → Int) (n p : Nat) : List Int := cut b (tS b n p) (tW b n p)
def tV (b : Nat → Int) (n p : Nat) : Int := val (cut b (tS b n p) (tD b n p))
def tK (b : Nat → Int) (n p : Nat) : Int :=
  if n ≤ tS b n p then 203
  else if ltr (b (tS b n p)) = true then (if 8 < tW b n p - tS b n p then 202 else kwd (tL b n p))
  else if dgt (b (tS b n p)) = true then (if 4 < tD b n p - tS b n p ∨ (tD b n p < n ∧ ltr (b (tD b n p)) = true) then 202 else 201)
  else if sgn (b (tS b n p)) = true then b (tS b n p) else 202
def tNx (b : Nat → Int) (n p : Nat) : Nat :=
  if n ≤ tS b n p then tS b n p else if ltr (b (tS b n p)) = true then tW b n p else if dgt (b (tS b n p)) = true then tD b n p else tS b n p + 1
/-- lists of letters, 8 at most, as numbers: no two alike -/
theorem v_lt {L : List Int} (h : ∀ x ∈ L, 97 ≤ x ∧ x ≤ 122) : v5 L < 32 ^ L.length ∧ v8 L < 256 ^ L.length ∧ (L ≠ [] → v8 L < 123 * 256 ^ (L.length - 1)) := by
  have key : ∀ M : List Int, (∀ x ∈ M, 97 ≤ x ∧ x ≤ 122) → v5 M.reverse < 32 ^ M.length ∧ v8 M.reverse < 256 ^ M.length ∧ (M ≠ [] → v8 M.reverse < 123 * 256 ^ (M.length - 1)) := by
    intro M
    induction M with
    | nil => intro _; exact ⟨by decide, by decide, fun q => absurd rfl q⟩
    | cons x M ih =>
      intro hM
      obtain ⟨i1, i2, i3⟩ := ih (fun z hz => hM z (by simp [hz]))
      have hx := hM x (by simp)
      have e5 : v5 (x :: M).reverse = 32 * v5 M.reverse + (x - 96).toNat := by rw [List.reverse_cons, v5_snoc]
      have e8 : v8 (x :: M).reverse = 256 * v8 M.reverse + x.toNat := by rw [List.reverse_cons, v8_snoc]
      rw [e5, e8, List.length_cons, Nat.pow_succ, Nat.pow_succ]
      refine ⟨by omega, by omega, fun _ => ?_⟩
      cases M with
      | nil => simp [v8]; omega
      | cons y M =>
        have := i3 (by simp)
        simp only [List.length_cons, Nat.add_sub_cancel] at this ⊢
        rw [Nat.pow_succ]
        omega
  have := key L.reverse (fun x hx => h x (List.mem_reverse.mp hx))
  rw [List.reverse_reverse, List.length_reverse] at this
  refine ⟨this.1, this.2.1, fun q => this.2.2 (fun e => q (List.reverse_eq_nil_iff.mp e))⟩
theorem v_inj : ∀ (A B : List Int), (∀ x ∈ A, 97 ≤ x ∧ x ≤ 122) → (∀ x ∈ B, 97 ≤ x ∧ x ≤ 122) → (v5 A.reverse = v5 B.reverse ∨ v8 A.reverse = v8 B.reverse) → A = B
  | [], [], _, _, _ => rfl
  | [], y :: B, _, hB, h => by
    have hy := hB y (by simp)
    rw [List.reverse_cons, v5_snoc, v8_snoc] at h
    simp [v5, v8] at h
    omega
  | x :: A, [], hA, _, h => by
    have hx := hA x (by simp)
    rw [List.reverse_cons, v5_snoc, v8_snoc] at h
    simp [v5, v8] at h
    omega
  | x :: A, y :: B, hA, hB, h => by
    have hx := hA x (by simp)
    have hy := hB y (by simp)
    rw [List.reverse_cons, List.reverse_cons, v5_snoc, v8_snoc, v5_snoc, v8_snoc] at h
    have h1 : x = y ∧ (v5 A.reverse = v5 B.reverse ∨ v8 A.reverse = v8 B.reverse) := by omega
    rw [h1.1, v_inj A B (fun z hz => hA z (by simp [hz])) (fun z hz => hB z (by simp [hz])) h1.2]
theorem pk_step (k : Nat) (hk : k = 5 ∨ k = 8) {v : Nat} {d : Int32} (hv : v < 2 ^ 55) (h0 : 0 ≤ d.toInt) (h1 : d.toInt < 2 ^ k) : Int64.ofNat v <<< ((Int32.ofNat k).toInt64 &&& 63) ||| d.toInt64 = Int64.ofNat (2 ^ k * v + d.toInt.toNat) := by
  have hd : d.toInt64 = Int64.ofNat d.toInt.toNat := Int64.toInt_inj.mp (by
    have hlt : d.toInt.toNat < 2 ^ 63 := by rcases hk with rfl | rfl <;> omega
    rw [Int32.toInt_toInt64, Int64.toInt_ofNat_of_lt hlt]; omega)
  rw [hd]
  apply Int64.toBitVec.inj
  apply BitVec.eq_of_toNat_eq
  have e1 : (Int64.ofNat v <<< ((Int32.ofNat k).toInt64 &&& 63) ||| Int64.ofNat d.toInt.toNat).toBitVec = (BitVec.ofNat 64 v <<< k) ||| BitVec.ofNat 64 d.toInt.toNat := by rcases hk with rfl | rfl <;> rfl
  rw [e1, BitVec.toNat_or, BitVec.toNat_shiftLeft, BitVec.toNat_ofNat, BitVec.toNat_ofNat, Int64.toBitVec_ofNat', BitVec.toNat_ofNat]
  have e2 : v % 2 ^ 64 = v := Nat.mod_eq_of_lt (by omega)
  have hdl : d.toInt.toNat < 2 ^ k := by rcases hk with rfl | rfl <;> omega
  have e3 : d.toInt.toNat % 2 ^ 64 = d.toInt.toNat := Nat.mod_eq_of_lt (by rcases hk with rfl | rfl <;> omega)
  have e4 : v <<< k % 2 ^ 64 = v <<< k := Nat.mod_eq_of_lt (by rw [Nat.shiftLeft_eq]; rcases hk with rfl | rfl <;> omega)
  rw [e2, e3, e4, ← Nat.shiftLeft_add_eq_or_of_lt hdl, Nat.shiftLeft_eq, Nat.mul_comm v]
  exact (Nat.mod_eq_of_lt (by rcases hk with rfl | rfl <;> omega)).symm
theorem w5_inj {A B : List Int} (hA : ∀ x ∈ A, 97 ≤ x ∧ x ≤ 122) (hB : ∀ x ∈ B, 97 ≤ x ∧ x ≤ 122) (lA : A.length ≤ 8) (lB : B.length ≤ 8) (h : w5 A = w5 B) : A = B := by
  have b1 : v5 A < 2 ^ 63 := Nat.lt_of_lt_of_le (v_lt hA).1 (Nat.le_trans (Nat.pow_le_pow_right (by decide) lA) (by decide))
  have b2 : v5 B < 2 ^ 63 := Nat.lt_of_lt_of_le (v_lt hB).1 (Nat.le_trans (Nat.pow_le_pow_right (by decide) lB) (by decide))
  have h1 := congrArg Int64.toInt h
  unfold w5 at h1
  rw [Int64.toInt_ofNat_of_lt b1, Int64.toInt_ofNat_of_lt b2] at h1
  have := v_inj A.reverse B.reverse (fun x hx => hA x (List.mem_reverse.mp hx)) (fun x hx => hB x (List.mem_reverse.mp hx)) (Or.inl (by rw [List.reverse_reverse, List.reverse_reverse]; omega))
  exact List.reverse_inj.mp this
theorem v8_lt {A : List Int} (hA : ∀ x ∈ A, 97 ≤ x ∧ x ≤ 122) (lA : A.length ≤ 8) : v8 A < 2 ^ 63 := by
  by_cases hn : A = []
  · subst hn
    decide
  · have h1 := (v_lt hA).2.2 hn
    have h2 : 256 ^ (A.length - 1) ≤ 256 ^ 7 := Nat.pow_le_pow_right (by decide) (by omega)
    omega
theorem w8_inj {A B : List Int} (hA : ∀ x ∈ A, 97 ≤ x ∧ x ≤ 122) (hB : ∀ x ∈ B, 97 ≤ x ∧ x ≤ 122) (lA : A.length ≤ 8) (lB : B.length ≤ 8) (h : w8 A = w8 B) : A = B := by
  have h1 := congrArg Int64.toInt h
  unfold w8 at h1
  rw [Int64.toInt_ofNat_of_lt (v8_lt hA lA), Int64.toInt_ofNat_of_lt (v8_lt hB lB)] at h1
  have := v_inj A.reverse B.reverse (fun x hx => hA x (List.mem_reverse.mp hx)) (fun x hx => hB x (List.mem_reverse.mp hx)) (Or.inr (by rw [List.reverse_reverse, List.reverse_reverse]; omega))
  exact List.reverse_inj.mp this

/-! TOKENS by the program -/
theorem Fr.nil {G G1 : GS} (h : Fr [] [] G G1) : G = G1 := by
  have h' := fun i j => h i j (by simp) (by simp)
  exact Prod.ext (funext fun i => funext fun j => (h' i j).1.symm) (Prod.ext (funext fun i => funext fun j => (h' i j).2.1.symm) (funext fun i => funext fun j => (h' i j).2.2.symm))
theorem cn_eq {x : Int32} {e : Nat} (h : x.toInt = (e : Int)) : x.toNatClampNeg = e := by
  have := c_nat x
  omega
def XC (b : Nat → Int) (n : Nat) (G : GS) : Prop := (G.1 3 1).toInt = (n : Int) ∧ n ≤ 1600 ∧ ∀ j, j < n → (b j < 128 → (G.1 32 j).toInt = b j) ∧ (128 ≤ b j → (G.1 32 j).toInt = b j - 256) ∧ 0 ≤ b j ∧ b j ≤ 255
theorem XC.fr {b : Nat → Int} {n : Nat} {rs : List Nat} {fs : List (Nat × Nat)} {G G1 : GS} (h : XC b n G) (hF : Fr rs fs G G1) (h1 : 3 ∉ rs) (h2 : (3, 1) ∉ fs) (h3 : 32 ∉ rs) (h4 : ∀ x ∈ fs, x.1 ≠ 32) : XC b n G1 := by
  obtain ⟨a1, a2, a3⟩ := h
  refine ⟨by rw [hF.i 3 1 h1 h2]; exact a1, a2, fun j hj => ?_⟩
  rw [hF.ri 32 h3 h4 j]
  exact a3 j hj
theorem c_letter {p0 r : Int32} {G G1 : GS} (h : P_tLetter p0 G r G1) : G = G1 ∧ (r.toInt ≠ 0 ↔ (p0.toInt < (G.1 3 1).toInt ∧ 97 ≤ (G.1 32 p0.toNatClampNeg).toInt ∧ (G.1 32 p0.toNatClampNeg).toInt ≤ 122)) := by
  obtain ⟨-, hF, -, h⟩ := h
  have z : (0 : Int32).toInt = 0 := rfl
  have o : (1 : Int32).toInt = 1 := rfl
  refine ⟨hF.nil, ?_⟩
  rcases h with ⟨c, rfl, -⟩ | ⟨c, y, rfl, ⟨c1, rfl, -⟩ | ⟨c1, y2, rfl, ⟨c2, rfl, -⟩ | ⟨c2, rfl, -⟩⟩⟩ <;> omega
theorem c_digit {p0 r : Int32} {G G1 : GS} (h : P_tDigit p0 G r G1) : G = G1 ∧ (r.toInt ≠ 0 ↔ (p0.toInt < (G.1 3 1).toInt ∧ 48 ≤ (G.1 32 p0.toNatClampNeg).toInt ∧ (G.1 32 p0.toNatClampNeg).toInt ≤ 57)) := by
  obtain ⟨-, hF, -, h⟩ := h
  have z : (0 : Int32).toInt = 0 := rfl
  have o : (1 : Int32).toInt = 1 := rfl
  refine ⟨hF.nil, ?_⟩
  rcases h with ⟨c, rfl, -⟩ | ⟨c, y, rfl, ⟨c1, rfl, -⟩ | ⟨c1, y2, rfl, ⟨c2, rfl, -⟩ | ⟨c2, rfl, -⟩⟩⟩ <;> omega
theorem c_isL {b : Nat → Int} {n : Nat} {G G1 : GS} {x r : Int32} {e : Nat} (hX : XC b n G) (he : x.toInt = (e : Int)) (h : P_tLetter x G r G1) : G = G1 ∧ (r.toInt ≠ 0 ↔ (e < n ∧ ltr (b e) = true)) := by
  obtain ⟨h1, h2⟩ := c_letter h
  refine ⟨h1, h2.trans ?_⟩
  rw [cn_eq he, hX.1, he, ltr_i]
  refine ⟨fun q => ?_, fun q => ?_⟩
  · have hn : e < n := by omega
    have := hX.2.2 e hn
    exact ⟨hn, by omega, by omega⟩
  · have := hX.2.2 e q.1
    exact ⟨by omega, by omega, by omega⟩
theorem c_isD {b : Nat → Int} {n : Nat} {G G1 : GS} {x r : Int32} {e : Nat} (hX : XC b n G) (he : x.toInt = (e : Int)) (h : P_tDigit x G r G1) : G = G1 ∧ (r.toInt ≠ 0 ↔ (e < n ∧ dgt (b e) = true)) := by
  obtain ⟨h1, h2⟩ := c_digit h
  refine ⟨h1, h2.trans ?_⟩
  rw [cn_eq he, hX.1, he, dgt_i]
  refine ⟨fun q => ?_, fun q => ?_⟩
  · have hn : e < n := by omega
    have := hX.2.2 e hn
    exact ⟨hn, by omega, by omega⟩
  · have := hX.2.2 e q.1
    exact ⟨by omega, by omega, by omega⟩
theorem c_skip {b : Nat → Int} {n q : Nat} {G G_1 : GS} (hX : XC b n G) (hq : (G.1 3 2).toInt = (q : Int)) (hqn : q ≤ n) (h : Rc (St_k_tAdvance_1 G) G G_1) : Fr [] [(3, 2)] G G_1 ∧ ∃ e : Nat, (G_1.1 3 2).toInt = (e : Int) ∧ q ≤ e ∧ e ≤ n ∧ ∀ k, q ≤ k → k < e → k < n ∧ blk (b k) = true := by
  refine h (fun x => Fr [] [(3, 2)] G x ∧ ∃ e : Nat, (x.1 3 2).toInt = (e : Int) ∧ q ≤ e ∧ e ≤ n ∧ ∀ k, q ≤ k → k < e → k < n ∧ blk (b k) = true) ⟨Fr.rf, q, hq, Nat.le_refl q, hqn, fun k a1 a2 => by omega⟩ ?_
  rintro x y ⟨hF, e, he, h1, h2, h3⟩ ⟨G_2, G_3, rfl, rfl, -, c1, y1, rfl, h⟩
  have hen : e < n := by have := hX.1; omega
  have ht := (hX.fr hF (by decide) (by decide) (by decide) (by decide)).2.2 e hen
  rw [cn_eq he] at h
  have fin : ∀ y2 : Int32, y2.toInt = (x.1 3 2).toInt + 1 → Fr [] [(3, 2)] x y → y.1 3 2 = y2 → (b e = 32 ∨ b e = 10) → Fr [] [(3, 2)] G y ∧ ∃ e : Nat, (y.1 3 2).toInt = (e : Int) ∧ q ≤ e ∧ e ≤ n ∧ ∀ k, q ≤ k → k < e → k < n ∧ blk (b k) = true := by
    intro y2 t2 hF2 e2 hb
    refine ⟨hF.call hF2 (by decide) (by decide), e + 1, by rw [e2]; omega, by omega, by omega, fun k a1 a2 => ?_⟩
    by_cases hk : k = e
    · subst hk
      exact ⟨hen, blk_i.mpr hb⟩
    · exact h3 k a1 (by omega)
  rcases h with ⟨c2, y2, t2, hF2, e2⟩ | ⟨c2, y3, rfl, c3, y2, t2, hF2, e2⟩
  · exact fin y2 t2 hF2 e2 (by omega)
  · exact fin y2 t2 hF2 e2 (by omega)
theorem lets_of {b : Nat → Int} {n s e : Nat} (h : ∀ k, s ≤ k → k < e → k < n ∧ ltr (b k) = true) : ∀ x ∈ cut b s e, 97 ≤ x ∧ x ≤ 122 := by
  intro x hx
  obtain ⟨k, h1, h2, rfl⟩ := cut_mem hx
  exact ltr_i.mp (h k h1 h2).2
theorem c_wloop {b : Nat → Int} {n s : Nat} {G G_1 G_2 : GS} (hX : XC b n G) (hF1 : Fr [] [(3, 6)] G G_1) (h6 : G_1.2.1 3 6 = 0) (hs : (G.1 3 2).toInt = (s : Int)) (hsn : s ≤ n) (h : Rc (St_k_tCutWord_1 G) G_1 G_2) : Fr [] [(3, 2), (3, 6)] G G_2 ∧ ∃ e : Nat, (G_2.1 3 2).toInt = (e : Int) ∧ s ≤ e ∧ e ≤ n ∧ (∀ k, s ≤ k → k < e → k < n ∧ ltr (b k) = true) ∧ (e - s ≤ 8 → G_2.2.1 3 6 = w5 (cut b s e)) := by
  refine h (fun x => Fr [] [(3, 2), (3, 6)] G x ∧ ∃ e : Nat, (x.1 3 2).toInt = (e : Int) ∧ s ≤ e ∧ e ≤ n ∧ (∀ k, s ≤ k → k < e → k < n ∧ ltr (b k) = true) ∧ (e - s ≤ 8 → x.2.1 3 6 = w5 (cut b s e))) ⟨Fr.call Fr.rf hF1 (by decide) (by decide), s, by rw [hF1.i 3 2 (by decide) (by decide)]; exact hs, Nat.le_refl s, hsn, fun k a1 a2 => by omega, fun _ => by rw [cut_nil]; exact h6⟩ ?_
  rintro x y ⟨hF, e, he, h1, h2, h3, h4⟩ ⟨G_3, G_4, rfl, rfl, -, c1, r, G_5, hp, hr, y42, rfl, y43, rfl, y44, rfl, y45, t45, y46, t46, y47, rfl, y48, rfl, y50, t50, hF4, e2, e6⟩
  have hX1 := hX.fr hF (by decide) (by decide) (by decide) (by decide)
  obtain ⟨rfl, hl⟩ := c_isL hX1 he hp
  have hle := hl.mp hr
  have hx := hX1.2.2 e hle.1
  have hb := ltr_i.mp hle.2
  rw [cn_eq he] at t45
  refine ⟨hF.call hF4 (by decide) (by decide), e + 1, by rw [e2]; omega, by omega, by omega, fun k a1 a2 => ?_, fun hlen => ?_⟩
  · by_cases hk : k = e
    · subst hk
      exact hle
    · exact h3 k a1 (by omega)
  · have hv := (v_lt (lets_of h3)).1
    rw [cut_len] at hv
    have hv2 : v5 (cut b s e) < 2 ^ 55 := Nat.lt_of_lt_of_le hv (Nat.le_trans (Nat.pow_le_pow_right (by decide) (show e - s ≤ 7 by omega)) (by decide))
    have hp := pk_step 5 (Or.inl rfl) (v := v5 (cut b s e)) (d := y46) hv2 (by omega) (by omega)
    rw [e6, h4 (by omega), cut_snoc h1, w5, w5, v5_snoc]
    exact hp.trans (congrArg Int64.ofNat (by omega))
def Wb (j : Nat) : Int := ((sByt.getD 0 []).getD j 0).toInt
theorem Wb_c : ∀ j : Nat, j < 184 → ((((sByt.getD 0 []).getD j 0 &&& 255).toUInt32 % 65536).toInt32).toInt = Wb j := by decide +kernel
theorem Wb_k : ∀ i : Nat, i < 23 → ∀ k : Nat, k < 8 → Wb (8 * i + k) = (KW.getD i []).getD k 32 := by decide +kernel
theorem KW_n : ∀ i : Nat, i < 23 → (KW.getD i []).length ≤ 8 ∧ ∀ x ∈ KW.getD i [], 97 ≤ x ∧ x ≤ 122 := by decide +kernel
theorem c_charAt {p0 r : Int32} {G G1 : GS} {j : Nat} (h : P_jCharAt_0 p0 G r G1) (hj : p0.toInt = (j : Int)) (hj2 : j < 184) : G = G1 ∧ r.toInt = Wb j := by
  obtain ⟨-, hF, -, r1, G2, -, r8, G9, ⟨-, -, -, G3, -, -, y7, e7, y8, e8, y9, e9, e10, -⟩, e11, -⟩ := h
  refine ⟨hF.nil, ?_⟩
  rw [← e11, ← e10, e9, e8, e7, cn_eq hj]
  exact Wb_c j hj2
theorem c_len0 {r : Int32} {G G1 : GS} (h : P_jLen_0 G r G1) : G = G1 ∧ r.toInt = 184 := by
  obtain ⟨-, hF, hr, -⟩ := h
  exact ⟨hF.nil, by omega⟩
theorem c_kin {b : Nat → Int} {n s e : Nat} {G : GS} {x5 x22 : Int32} {i : Nat} {G12 G18 : GS} (hX : XC b n G) (hs : (G.1 3 4).toInt = (s : Int)) (he : (G.1 3 2).toInt = (e : Int)) (hse : s ≤ e) (hen : e ≤ n) (hall : ∀ k, s ≤ k → k < e → k < n ∧ ltr (b k) = true) (hi : x5.toInt = 8 * (i : Int)) (hi2 : i < 23) (hG : G = G12) (h : Rc (St_k_tKind_2 x5 G) (0, G12) (x22, G18)) : G = G18 ∧ ∃ k : Nat, x22.toInt = (k : Int) ∧ ∀ q, q < k → Wb (8 * i + q) = (cut b s e).getD q 32 := by
  have hz : (0 : Int32).toInt = 0 := rfl
  refine h (fun z => G = z.2 ∧ ∃ k : Nat, z.1.toInt = (k : Int) ∧ ∀ q, q < k → Wb (8 * i + q) = (cut b s e).getD q 32) ⟨hG, 0, hz, fun q a => by omega⟩ ?_
  rintro ⟨x, G_1⟩ ⟨xn, G_1n⟩ ⟨h1, k, h2, h3⟩ ⟨xq, G_1q, xnq, G_1nq, e1, e2, hb, -, c1, y31, t31, r32, G33, hc, y39, t39, hh⟩
  obtain ⟨rfl, rfl⟩ := Prod.mk.inj e1
  obtain ⟨rfl, rfl⟩ := Prod.mk.inj e2
  simp only at h1 h2
  obtain ⟨rfl, hr⟩ := c_charAt (j := 8 * i + k) hc (by omega) (by omega)
  subst h1
  have fin : ∀ y : Int32, y.toInt = x.toInt + 1 → y = xn → Wb (8 * i + k) = (cut b s e).getD k 32 → ∃ k : Nat, xn.toInt = (k : Int) ∧ ∀ q, q < k → Wb (8 * i + q) = (cut b s e).getD q 32 := by
    intro y ty ey hk
    subst ey
    refine ⟨k + 1, by omega, fun q hq => ?_⟩
    by_cases hqk : q = k
    · subst hqk
      exact hk
    · exact h3 q (by omega)
  rcases hh with ⟨c2, c3, y45, t45, e45, e46⟩ | ⟨c2, y46, t46, y47, rfl, c3, y51, t51, e51, e52⟩
  · exact ⟨e46, fin y45 t45 e45 (by rw [cut_off (by omega)]; omega)⟩
  · refine ⟨e52, fin y51 t51 e51 ?_⟩
    have hkk : k < e - s := by omega
    rw [cut_get hkk]
    have hl := hall (s + k) (by omega) (by omega)
    have ht := hX.2.2 (s + k) hl.1
    have hb2 := ltr_i.mp hl.2
    rw [cn_eq (e := s + k) (by omega)] at c3
    omega
theorem c_kind {b : Nat → Int} {n s e : Nat} {G G1 : GS} {r : Int32} (hX : XC b n G) (hs : (G.1 3 4).toInt = (s : Int)) (he : (G.1 3 2).toInt = (e : Int)) (hse : s ≤ e) (h8 : e - s ≤ 8) (hen : e ≤ n) (hall : ∀ k, s ≤ k → k < e → k < n ∧ ltr (b k) = true) (h : P_tKind G r G1) : G = G1 ∧ r.toInt = kwd (cut b s e) := by
  obtain ⟨-, hF, hrr, x5, G_1, hRc, hx5, -, hF1, y10, t10, r11, G12, hl, hh⟩ := h
  refine ⟨hF.nil, ?_⟩
  have hz : (0 : Int32).toInt = 0 := rfl
  have hcl : ∀ x ∈ cut b s e, x ≠ 32 := fun x hx => by have := lets_of hall x hx; omega
  have same : ∀ i : Nat, i < 23 → (∀ q, q < 8 → Wb (8 * i + q) = (cut b s e).getD q 32) → KW.getD i [] = cut b s e := by
    intro i hi hq
    have hk := KW_n i hi
    refine pad_inj _ _ (fun x hx => by have := hk.2 x hx; omega) hcl (fun k hk2 => ?_)
    have : k < 8 := by rw [cut_len] at hk2; omega
    rw [← Wb_k i hi k this]
    exact hq k this
  have hI := hRc (fun z => G = z.2 ∧ ∃ i : Nat, z.1.toInt = 8 * (i : Int) ∧ i ≤ 23 ∧ ∀ q, q < i → KW.getD q [] ≠ cut b s e) ⟨rfl, 0, by show (0 : Int32).toInt = _; omega, by omega, fun q a => by omega⟩ (by
    clear hh
    rintro ⟨x, G_2⟩ ⟨xn, G_2n⟩ ⟨h1, i, h2, h2b, h3⟩ ⟨xq, G_2q, xnq, G_2nq, e1, e2, hb, -, y10, t10, r11, G12, hl, c1, x22, G18, hR2, hx22, -, -, c2, y31, t31, r32, G33, hc, y39, t39, hh⟩
    obtain ⟨rfl, rfl⟩ := Prod.mk.inj e1
    obtain ⟨rfl, rfl⟩ := Prod.mk.inj e2
    simp only at h1 h2
    obtain ⟨rfl, hl2⟩ := c_len0 hl
    have hi : i < 23 := by omega
    obtain ⟨hG18, k, hk, hkq⟩ := c_kin hX hs he hse hen hall h2 hi h1 hR2
    subst h1
    subst hG18
    obtain ⟨rfl, hr⟩ := c_charAt (j := 8 * i + k) hc (by omega) (by omega)
    have fin : Wb (8 * i + k) ≠ (cut b s e).getD k 32 → KW.getD i [] ≠ cut b s e := by
      intro hne q
      refine hne ?_
      rw [Wb_k i hi k (by omega), q]
    have done : ∀ y : Int32, y.toInt = x.toInt + 8 → y = xn → Wb (8 * i + k) ≠ (cut b s e).getD k 32 → ∃ i : Nat, xn.toInt = 8 * (i : Int) ∧ i ≤ 23 ∧ ∀ q, q < i → KW.getD q [] ≠ cut b s e := by
      intro y ty ey hne
      subst ey
      refine ⟨i + 1, by omega, by omega, fun q hq => ?_⟩
      by_cases hqi : q = i
      · subst hqi
        exact fin hne
      · exact h3 q (by omega)
    rcases hh with ⟨c3, c4, y44, t44, e44, e45⟩ | ⟨c3, y46, t46, y47, rfl, c4, y50, t50, e50, e51⟩
    · exact ⟨e45, done y44 t44 e44 (by rw [cut_off (by omega)]; omega)⟩
    · refine ⟨e51, done y50 t50 e50 ?_⟩
      have hkk : k < e - s := by omega
      rw [cut_get hkk]
      have hl := hall (s + k) (by omega) (by omega)
      have ht := hX.2.2 (s + k) hl.1
      have hb2 := ltr_i.mp hl.2
      rw [cn_eq (e := s + k) (by omega)] at c4
      omega)
  obtain ⟨hG, i, hi, hi2, hno⟩ := hI
  simp only at hG hi
  obtain ⟨rfl, hl2⟩ := c_len0 hl
  rcases hh with ⟨c1, e1, -⟩ | ⟨c1, x22, G18, hR2, hx22, -, -, c2, y29, t29, y30, t30, e1, -⟩
  · have : i = 23 := by omega
    subst this
    rw [kwd_out hno, ← e1]
    rfl
  · have hi3 : i < 23 := by omega
    obtain ⟨-, k, hk, hkq⟩ := c_kin hX hs he hse hen hall hi hi3 hG hR2
    rw [kwd_in hi3 (same i hi3 (fun q hq => hkq q (by omega))), ← e1]
    omega

theorem c_word {b : Nat → Int} {n s : Nat} {G G1 : GS} (hX : XC b n G) (h : P_tCutWord G G1) (hs : (G.1 3 2).toInt = (s : Int)) (hp : (G.1 3 4).toInt = (s : Int)) (hsn : s ≤ n) : (G1.1 3 2).toInt = (rn ltr b n 1601 s : Int) ∧ (G1.1 3 3).toInt = (if 8 < rn ltr b n 1601 s - s then 202 else kwd (cut b s (rn ltr b n 1601 s))) ∧ (rn ltr b n 1601 s - s ≤ 8 → G1.2.1 3 6 = w5 (cut b s (rn ltr b n 1601 s))) := by
  obtain ⟨-, -, G_1, -, hF1, h6, G_2, hRc, -, -, hh⟩ := h
  obtain ⟨hF, e, he, h1, h2, h3, h4⟩ := c_wloop hX hF1 h6 hs hsn hRc
  have hX2 := hX.fr hF (by decide) (by decide) (by decide) (by decide)
  have hp2 : (G_2.1 3 4).toInt = (s : Int) := by rw [hF.i 3 4 (by decide) (by decide)]; exact hp
  have fin : ¬ (e < n ∧ ltr (b e) = true) → ∀ y14 : Int32, y14.toInt = (G_2.1 3 2).toInt - (G.1 3 4).toInt → ((y14.toInt ≤ 8 ∧ (∃ (r_16 : Int32) (G_17 : GS), P_tKind G_2 r_16 G_17 ∧ Fr [] [(3, 3)] G_17 G1 ∧ G1.1 3 3 = r_16)) ∨ (8 < y14.toInt ∧ (Fr [] [(3, 3)] G_2 G1 ∧ G1.1 3 3 = 202))) → (G1.1 3 2).toInt = (rn ltr b n 1601 s : Int) ∧ (G1.1 3 3).toInt = (if 8 < rn ltr b n 1601 s - s then 202 else kwd (cut b s (rn ltr b n 1601 s))) ∧ (rn ltr b n 1601 s - s ≤ 8 → G1.2.1 3 6 = w5 (cut b s (rn ltr b n 1601 s))) := by
    intro hno y14 t14 hh
    have hX0 := hX.2.1
    rw [rn_eq 1601 s e h1 (by omega) h3 hno]
    rcases hh with ⟨c, r, G17, hk, hF3, e3⟩ | ⟨c, hF3, e3⟩
    · obtain ⟨rfl, hr⟩ := c_kind hX2 hp2 he h1 (by omega) h2 h3 hk
      refine ⟨by rw [hF3.i 3 2 (by decide) (by decide)]; exact he, ?_, fun q => ?_⟩
      · rw [if_neg (by omega), e3]
        exact hr
      · rw [hF3.l 3 6 (by decide) (by decide)]
        exact h4 q
    · refine ⟨by rw [hF3.i 3 2 (by decide) (by decide)]; exact he, ?_, fun q => by omega⟩
      rw [if_pos (by omega), e3]
      rfl
  rcases hh with ⟨c, y14, t14, hh⟩ | ⟨c, r, G25, hl, hr, y32, t32, hh⟩
  · exact fin (fun q => by have := hX.1; omega) y14 t14 hh
  · obtain ⟨rfl, hl2⟩ := c_isL hX2 he hl
    exact fin (fun q => hl2.mpr q hr) y32 t32 hh
theorem c_nloop {b : Nat → Int} {n s : Nat} {G G_1 G_2 : GS} (hX : XC b n G) (hF1 : Fr [] [(3, 5)] G G_1) (h5 : G_1.1 3 5 = 0) (hs : (G.1 3 2).toInt = (s : Int)) (hsn : s ≤ n) (h : Rc (St_k_tCutNumber_1 G) G_1 G_2) : Fr [] [(3, 2), (3, 5)] G G_2 ∧ ∃ e : Nat, (G_2.1 3 2).toInt = (e : Int) ∧ s ≤ e ∧ e ≤ n ∧ (∀ k, s ≤ k → k < e → k < n ∧ dgt (b k) = true) ∧ (e - s ≤ 4 → (G_2.1 3 5).toInt = val (cut b s e) ∧ 0 ≤ val (cut b s e) ∧ val (cut b s e) + 1 ≤ 10 ^ (e - s)) := by
  refine h (fun x => Fr [] [(3, 2), (3, 5)] G x ∧ ∃ e : Nat, (x.1 3 2).toInt = (e : Int) ∧ s ≤ e ∧ e ≤ n ∧ (∀ k, s ≤ k → k < e → k < n ∧ dgt (b k) = true) ∧ (e - s ≤ 4 → (x.1 3 5).toInt = val (cut b s e) ∧ 0 ≤ val (cut b s e) ∧ val (cut b s e) + 1 ≤ 10 ^ (e - s))) ⟨Fr.call Fr.rf hF1 (by decide) (by decide), s, by rw [hF1.i 3 2 (by decide) (by decide)]; exact hs, Nat.le_refl s, hsn, fun k a1 a2 => by omega, fun _ => by rw [cut_nil, h5, Nat.sub_self]; exact ⟨rfl, by decide, by decide⟩⟩ ?_
  rintro x y ⟨hF, e, he, h1, h2, h3, h4⟩ ⟨G_3, G_4, rfl, rfl, -, c1, r, G_5, hp, hr, y39, e39, y40, rfl, y41, e41, y42, e42, y44, t44, hF4, e2, e5⟩
  have hX1 := hX.fr hF (by decide) (by decide) (by decide) (by decide)
  obtain ⟨rfl, hl⟩ := c_isD hX1 he hp
  have hle := hl.mp hr
  have hx := hX1.2.2 e hle.1
  have hb := dgt_i.mp hle.2
  rw [cn_eq he] at e41
  refine ⟨hF.call hF4 (by decide) (by decide), e + 1, by rw [e2]; omega, by omega, by omega, fun k a1 a2 => ?_, fun hlen => ?_⟩
  · by_cases hk : k = e
    · subst hk
      exact hle
    · exact h3 k a1 (by omega)
  · obtain ⟨g1, g2, g3⟩ := h4 (by omega)
    have hpw : (10 : Int) ^ (e - s) ≤ 10 ^ 3 := by
      have := Nat.pow_le_pow_right (show 0 < 10 by decide) (show e - s ≤ 3 by omega)
      exact_mod_cast this
    have t39 : y39.toInt = val (cut b s e) * 10 := xI_mul g1 rfl e39 (by omega) (by omega)
    have t41 : y41.toInt = val (cut b s e) * 10 + b e := xI_add t39 (show (x.1 32 e).toInt = b e by omega) e41 (by omega) (by omega)
    have t42 : y42.toInt = val (cut b s e) * 10 + b e - 48 := xI_sub t41 rfl e42 (by omega) (by omega)
    rw [e5, cut_snoc h1, val_snoc, show e + 1 - s = (e - s) + 1 by omega, Int.pow_succ]
    exact ⟨by omega, by omega, by omega⟩
theorem c_number {b : Nat → Int} {n s : Nat} {G G1 : GS} (hX : XC b n G) (h : P_tCutNumber G G1) (hs : (G.1 3 2).toInt = (s : Int)) (hp : (G.1 3 4).toInt = (s : Int)) (hsn : s ≤ n) : (G1.1 3 2).toInt = (rn dgt b n 1601 s : Int) ∧ (G1.1 3 3).toInt = (if 4 < rn dgt b n 1601 s - s ∨ (rn dgt b n 1601 s < n ∧ ltr (b (rn dgt b n 1601 s)) = true) then 202 else 201) ∧ (rn dgt b n 1601 s - s ≤ 4 → (G1.1 3 5).toInt = val (cut b s (rn dgt b n 1601 s))) := by
  obtain ⟨-, -, G_1, -, hF1, h5, G_2, hRc, -, -, G_13, hJ, -, -, y19, t19, hh⟩ := h
  obtain ⟨hF, e, he, h1, h2, h3, h4⟩ := c_nloop hX hF1 h5 hs hsn hRc
  have hX2 := hX.fr hF (by decide) (by decide) (by decide) (by decide)
  have hJ2 : G_2 = G_13 ∧ ¬ (e < n ∧ dgt (b e) = true) := by
    rcases hJ with ⟨c, rfl⟩ | ⟨c, r, G33, hd, hr, rfl⟩
    · exact ⟨rfl, fun q => by have := hX.1; omega⟩
    · obtain ⟨hG, hd2⟩ := c_isD hX2 he hd
      exact ⟨hG, fun q => hd2.mpr q hr⟩
  obtain ⟨rfl, hno⟩ := hJ2
  have hX0 := hX.2.1
  rw [rn_eq 1601 s e h1 (by omega) h3 hno]
  have fin : ∀ v : Int32, Fr [] [(3, 3)] G_2 G1 → (G1.1 3 2).toInt = (e : Int) ∧ (e - s ≤ 4 → (G1.1 3 5).toInt = val (cut b s e)) := by
    intro v hF3
    refine ⟨by rw [hF3.i 3 2 (by decide) (by decide)]; exact he, fun q => ?_⟩
    rw [hF3.i 3 5 (by decide) (by decide)]
    exact (h4 q).1
  rcases hh with ⟨c, hF3, e3⟩ | ⟨c, r, G23, hl, hh⟩
  · refine ⟨(fin 0 hF3).1, ?_, (fin 0 hF3).2⟩
    rw [if_pos (Or.inl (by omega)), e3]
    rfl
  · obtain ⟨rfl, hl2⟩ := c_isL hX2 he hl
    rcases hh with ⟨c2, hF3, e3⟩ | ⟨c2, hF3, e3⟩
    · refine ⟨(fin 0 hF3).1, ?_, (fin 0 hF3).2⟩
      rw [if_neg (fun q => q.elim (fun q => by omega) (fun q => hl2.mpr q c2)), e3]
      rfl
    · refine ⟨(fin 0 hF3).1, ?_, (fin 0 hF3).2⟩
      rw [if_pos (Or.inr (hl2.mp c2)), e3]
      rfl
theorem i8_i {x : Int32} (h0 : 0 ≤ x.toInt) (h1 : x.toInt ≤ 255) : (x.toInt < 128 → x.toInt8.toInt32.toInt = x.toInt) ∧ (128 ≤ x.toInt → x.toInt8.toInt32.toInt = x.toInt - 256) := by
  have e : x.toInt8.toInt32.toInt = x.toInt.bmod 256 := by rw [Int8.toInt_toInt32, Int32.toInt_toInt8]
  rw [e, Int.bmod_def]
  refine ⟨fun h => ?_, fun h => ?_⟩
  · rw [if_pos (by omega)]
    omega
  · rw [if_neg (by omega)]
    omega
def Sb (j : Nat) : Int := ((sByt.getD 1 []).getD j 0).toInt
theorem Sb_s : ∀ j : Nat, j < 11 → sgn (Sb j) = true ∧ 0 ≤ Sb j ∧ Sb j ≤ 127 := by decide +kernel
theorem Sb_o {x : Int} (h : ∀ j : Nat, j < 11 → Sb j ≠ x) : ¬ sgn x = true := by
  intro q
  have e : Sb 0 = 59 ∧ Sb 1 = 40 ∧ Sb 2 = 41 ∧ Sb 3 = 60 ∧ Sb 4 = 62 ∧ Sb 5 = 61 ∧ Sb 6 = 43 ∧ Sb 7 = 45 ∧ Sb 8 = 42 ∧ Sb 9 = 47 ∧ Sb 10 = 37 := by decide +kernel
  have q := sgn_i.mp q
  have := h 0 (by decide); have := h 1 (by decide); have := h 2 (by decide); have := h 3 (by decide); have := h 4 (by decide); have := h 5 (by decide); have := h 6 (by decide); have := h 7 (by decide); have := h 8 (by decide); have := h 9 (by decide); have := h 10 (by decide)
  omega
theorem c_idx {p0 r : Int32} {G G1 : GS} (h : P_jIdx_1 p0 G r G1) (h0 : 0 ≤ p0.toInt) (h1 : p0.toInt ≤ 255) : G = G1 ∧ (0 ≤ r.toInt ↔ sgn p0.toInt = true) := by
  obtain ⟨-, hF, r1, G2, ⟨-, -, r2, G3, -, r8, G9, ⟨-, -, hr8, -⟩, r14, G15, ⟨-, -, r3, G4, hcan, hh⟩, e14, -⟩, e1, -⟩ := h
  refine ⟨hF.nil, ?_⟩
  subst e1
  subst e14
  have m1 : (-1 : Int32).toInt = -1 := rfl
  have z0 : (0 : Int32).toInt = 0 := rfl
  have o1 : (1 : Int32).toInt = 1 := rfl
  have hr3 : r3.toInt = 1 := by
    obtain ⟨-, -, -, hc⟩ := hcan
    rcases hc with ⟨c, rfl, -⟩ | ⟨c, ⟨c2, rfl, -⟩ | ⟨c2, rfl, -⟩⟩ <;> omega
  rcases hh with ⟨c, -⟩ | ⟨c, y8, t8, y9, t9, r11, G12, ⟨-, -, y1, ey1, x6, G7, hRc, hx6, -, -, hh⟩, e11, -⟩
  · omega
  subst e11
  have hy1 : (p0.toInt < 128 → y1.toInt = p0.toInt) ∧ (128 ≤ p0.toInt → y1.toInt = p0.toInt - 256) := by
    rw [ey1]
    exact i8_i h0 h1
  have hI := hRc (fun z => ∃ k : Nat, z.1.toInt = (k : Int) ∧ ∀ q, q < k → Sb q ≠ y1.toInt) ⟨0, by clear hh; show y8.toInt = _; omega, fun q a => by omega⟩ (by
    clear hh
    rintro ⟨x, G_2⟩ ⟨xn, G_2n⟩ ⟨k, hk, hq⟩ ⟨xq, G_2q, xnq, G_2nq, e1, e2, hb, -, c1, y12, e12, c2, y14, t14, e14, -⟩
    obtain ⟨rfl, rfl⟩ := Prod.mk.inj e1
    obtain ⟨rfl, rfl⟩ := Prod.mk.inj e2
    simp only at hk
    subst e14
    refine ⟨k + 1, by show y14.toInt = _; omega, fun q hq2 => ?_⟩
    by_cases hqk : q = k
    · subst hqk
      rw [cn_eq hk] at e12
      rw [e12] at c2
      exact c2
    · exact hq q (by omega))
  obtain ⟨k, hk, hq⟩ := hI
  simp only at hk
  rcases hh with ⟨c2, e2, -⟩ | ⟨c2, y12, e12, c3, e2, -⟩
  · subst e2
    refine ⟨fun q => by omega, fun q => absurd q (Sb_o (fun j hj e => ?_))⟩
    have hb := Sb_s j hj
    exact hq j (by omega) (by omega)
  · subst e2
    rw [cn_eq hk] at e12
    have hb := Sb_s k (by omega)
    have e3 : Sb k = y12.toInt := by rw [e12]; rfl
    refine ⟨fun _ => ?_, fun _ => by omega⟩
    have : p0.toInt = Sb k := by omega
    rw [this]
    exact hb.1
theorem and255 {x y : Int32} (e : y = x &&& 255) (h0 : -128 ≤ x.toInt) (h1 : x.toInt ≤ 127) : (0 ≤ x.toInt → y.toInt = x.toInt) ∧ (x.toInt < 0 → y.toInt = x.toInt + 256) := by
  have e1 : y.toBitVec.toNat = x.toBitVec.toNat % 256 := by
    rw [e]
    show (x.toBitVec &&& 255#32).toNat = _
    rw [BitVec.toNat_and]
    exact Nat.and_two_pow_sub_one_eq_mod x.toBitVec.toNat 8
  have hx : x.toInt = x.toBitVec.toInt := rfl
  have hy : y.toInt = y.toBitVec.toInt := rfl
  rw [BitVec.toInt_eq_toNat_cond] at hx hy
  have lx := x.toBitVec.isLt
  split at hx <;> split at hy <;> constructor <;> intro h <;> omega
theorem u16_eq {x : Int32} (h0 : 0 ≤ x.toInt) (h1 : x.toInt ≤ 255) : (x.toUInt32 % 65536).toInt32 = x := by
  apply Int32.toInt_inj.mp
  have hb : x.toInt = x.toBitVec.toInt := rfl
  rw [hb] at h0 h1
  have h2 : ((x.toUInt32 % 65536).toInt32).toInt = (x.toBitVec % 65536#32).toInt := rfl
  rw [h2, hb]
  have h3 : x.toBitVec.toNat < 256 := by
    rw [BitVec.toInt_eq_toNat_cond] at h0 h1
    split at h0
    · rename_i q
      rw [if_pos q] at h1
      omega
    · rename_i q
      rw [if_neg q] at h1
      omega
  have h4 : x.toBitVec % 65536#32 = x.toBitVec := by
    apply BitVec.eq_of_toNat_eq
    rw [BitVec.toNat_umod]
    have : (65536#32).toNat = 65536 := rfl
    rw [this]
    omega
  rw [h4]
def TC (b : Nat → Int) (n : Nat) (G : GS) (p : Nat) : Prop := (G.1 3 3).toInt = tK b n p ∧ (G.1 3 4).toInt = (tS b n p : Int) ∧ (tK b n p ≠ 202 → (G.1 3 2).toInt = (tNx b n p : Int)) ∧ (tK b n p = 201 → (G.1 3 5).toInt = tV b n p) ∧ (tK b n p = 200 → G.2.1 3 6 = w5 (tL b n p))
theorem kwd_r (L : List Int) : 128 ≤ kwd L ∧ (kwd L ≤ 150 ∨ kwd L = 200) := by
  unfold kwd
  split <;> omega
theorem c_adv {b : Nat → Int} {n q : Nat} {G G1 : GS} {r : Int32} (hX : XC b n G) (hq : (G.1 3 2).toInt = (q : Int)) (hqn : q ≤ n) (h : P_tAdvance G r G1) : r.toInt = 1 ∧ XC b n G1 ∧ TC b n G1 q := by
  obtain ⟨-, hFF, hr, G_1, hRc, -, -, G_11, hJ, -, -, hh⟩ := h
  obtain ⟨hF, s, hs, h1, h2, h3⟩ := c_skip hX hq hqn hRc
  have hX1 := hX.fr hF (by decide) (by decide) (by decide) (by decide)
  have hX0 := hX.1
  have hJ2 : G_1 = G_11 ∧ ¬ (s < n ∧ blk (b s) = true) := by
    rcases hJ with ⟨c, rfl⟩ | ⟨c, y57, e57, c57, y62, e62, c62, rfl⟩
    · exact ⟨rfl, fun q => by omega⟩
    · refine ⟨rfl, fun q => ?_⟩
      have ht := hX1.2.2 s q.1
      have hb := blk_i.mp q.2
      rw [cn_eq hs] at e57 e62
      subst e57
      subst e62
      omega
  obtain ⟨rfl, hno⟩ := hJ2
  have hS : tS b n q = s := rn_eq 1601 q s h1 (by have := hX.2.1; omega) h3 hno
  refine ⟨by omega, hX.fr hFF (by decide) (by decide) (by decide) (by decide), ?_⟩
  unfold TC tK tNx tV tL tW tD
  rw [hS]
  rcases hh with ⟨c, G_16, -, hF16, e4, r18, G19, hl, hh⟩ | ⟨c, -, hF1, e3, e4⟩
  · have hsn : s < n := by omega
    have hX16 := hX1.fr hF16 (by decide) (by decide) (by decide) (by decide)
    have hs16 : (G_16.1 3 2).toInt = (s : Int) := by rw [hF16.i 3 2 (by decide) (by decide)]; exact hs
    have hp16 : (G_16.1 3 4).toInt = (s : Int) := by rw [e4]; exact hs
    obtain ⟨rfl, hl2⟩ := c_isL hX16 hs hl
    rw [if_neg (show ¬ n ≤ s by omega), if_neg (show ¬ n ≤ s by omega)]
    rcases hh with ⟨c18, r25, G26, hd, hh⟩ | ⟨c18, G51, hw, -, rfl⟩
    · have hnl : ¬ ltr (b s) = true := fun q => hl2.mpr ⟨hsn, q⟩ c18
      rw [if_neg hnl, if_neg hnl]
      obtain ⟨rfl, hd2⟩ := c_isD hX16 hs hd
      rcases hh with ⟨c25, y32, t32, y34, e34, y35, e35, y36, e36, G33, -, hF33, e33, r37, G38, hi, hh⟩ | ⟨c25, G46, hn, -, rfl⟩
      · have hnd : ¬ dgt (b s) = true := fun q => hd2.mpr ⟨hsn, q⟩ c25
        rw [if_neg hnd, if_neg hnd]
        have ht := hX16.2.2 s hsn
        rw [cn_eq hs] at e34
        subst e34
        have ha := and255 e35 (by omega) (by omega)
        have hv : y35.toInt = b s := by omega
        rw [u16_eq (by omega) (by omega)] at e36
        subst e36
        obtain ⟨rfl, hsg⟩ := c_idx hi (by omega) (by omega)
        rw [hv] at hsg
        have fin : ∀ v : Int32, Fr [] [(3, 3)] G33 G1 → (G1.1 3 4).toInt = (s : Int) ∧ (G1.1 3 2).toInt = ((s + 1 : Nat) : Int) := by
          intro v hF1
          refine ⟨?_, ?_⟩
          · rw [hF1.i 3 4 (by decide) (by decide), hF33.i 3 4 (by decide) (by decide)]
            exact hp16
          · rw [hF1.i 3 2 (by decide) (by decide), e33]
            omega
        rcases hh with ⟨c37, -, hF1, e3⟩ | ⟨c37, -, hF1, e3⟩
        · rw [if_neg (fun q => by have := hsg.mpr q; omega), e3]
          exact ⟨rfl, (fin 0 hF1).1, fun _ => (fin 0 hF1).2, fun q => absurd q (by decide), fun q => absurd q (by decide)⟩
        · have hq2 := hsg.mp c37
          rw [if_pos hq2, e3]
          have hq3 := sgn_i.mp hq2
          exact ⟨hv, (fin 0 hF1).1, fun _ => (fin 0 hF1).2, fun q => by omega, fun q => by omega⟩
      · have hnd : dgt (b s) = true := (hd2.mp c25).2
        rw [if_pos hnd, if_pos hnd]
        obtain ⟨g1, g2, g3⟩ := c_number hX16 hn hs16 hp16 (by omega)
        refine ⟨g2, ?_, fun _ => g1, fun q => ?_, fun q => ?_⟩
        · have := hn.2.1.i 3 4 (by decide) (by decide)
          rw [this]
          exact hp16
        · refine g3 ?_
          split at q
          · exact absurd q (by decide)
          · omega
        · split at q <;> exact absurd q (by decide)
    · have hnl : ltr (b s) = true := (hl2.mp c18).2
      rw [if_pos hnl, if_pos hnl]
      obtain ⟨g1, g2, g3⟩ := c_word hX16 hw hs16 hp16 (by omega)
      refine ⟨g2, ?_, fun _ => g1, fun q => ?_, fun q => ?_⟩
      · have := hw.2.1.i 3 4 (by decide) (by decide)
        rw [this]
        exact hp16
      · have := kwd_r (cut b s (rn ltr b n 1601 s))
        split at q <;> omega
      · refine g3 ?_
        split at q
        · exact absurd q (by decide)
        · omega
  · rw [if_pos (show n ≤ s by omega), if_pos (show n ≤ s by omega), e3, e4]
    refine ⟨rfl, hs, fun _ => ?_, fun q => absurd q (by decide), fun q => absurd q (by decide)⟩
    rw [hF1.i 3 2 (by decide) (by decide)]
    exact hs

/-! TOKENS by the reference -/
def XM (b : Nat → Int) (n : Nat) (G : GS) : Prop := (G.1 66 5).toInt = (n : Int) ∧ n ≤ 1600 ∧ ∀ j, j < n → (G.1 67 j).toInt = b j ∧ 0 ≤ b j ∧ b j ≤ 255
theorem XM.fr {b : Nat → Int} {n : Nat} {rs : List Nat} {fs : List (Nat × Nat)} {G G1 : GS} (h : XM b n G) (hF : Fr rs fs G G1) (h1 : 66 ∉ rs) (h2 : (66, 5) ∉ fs) (h3 : 67 ∉ rs) (h4 : ∀ x ∈ fs, x.1 ≠ 67) : XM b n G1 := by
  obtain ⟨a1, a2, a3⟩ := h
  refine ⟨by rw [hF.i 66 5 h1 h2]; exact a1, a2, fun j hj => ?_⟩
  rw [hF.ri 67 h3 h4 j]
  exact a3 j hj
def SRT (s k : Int) : Prop := (k = 203 → s = 0) ∧ (k = 202 → s = 3) ∧ (k = 201 → s = 2) ∧ (128 ≤ k → k ≤ 200 → s = 1) ∧ (k < 128 → s = k)
def TM (b : Nat → Int) (n : Nat) (G : GS) (p : Nat) : Prop := SRT (G.1 66 6).toInt (tK b n p) ∧ (G.1 66 7).toInt = (tS b n p : Int) ∧ (tK b n p ≠ 202 → (G.1 66 4).toInt = (tNx b n p : Int)) ∧ (tK b n p = 201 → (G.1 66 8).toInt = tV b n p) ∧ (128 ≤ tK b n p → tK b n p ≤ 200 → G.2.1 66 9 = w8 (tL b n p))
theorem r_here {b : Nat → Int} {n a k : Nat} {G G1 : GS} {p0 r : Int32} (hX : XM b n G) (ha : (G.1 66 4).toInt = (a : Int)) (hk : p0.toInt = (k : Int)) (h : Q_here p0 G r G1) : G = G1 ∧ (a + k < n → r.toInt = b (a + k) ∧ 0 ≤ b (a + k)) ∧ (n ≤ a + k → r.toInt = -1) := by
  obtain ⟨-, hF, hr, -, y2, t2, hh⟩ := h
  have hX0 := hX.1
  refine ⟨hF.nil, ?_⟩
  rcases hh with ⟨c, e, -⟩ | ⟨c, y5, t5, y6, e6, e, -⟩
  · subst e
    have m1 : (-1 : Int32).toInt = -1 := rfl
    exact ⟨fun q => by omega, fun _ => m1⟩
  · subst e
    subst e6
    rw [cn_eq (e := a + k) (by omega)]
    have := hX.2.2 (a + k) (by omega)
    exact ⟨fun _ => ⟨this.1, this.2.1⟩, fun q => by omega⟩
theorem r_letter {p0 r : Int32} {G G1 : GS} (h : Q_letter p0 G r G1) : G = G1 ∧ (r.toInt ≠ 0 ↔ (97 ≤ p0.toInt ∧ p0.toInt ≤ 122)) := by
  obtain ⟨-, hF, -, -, h⟩ := h
  have z : (0 : Int32).toInt = 0 := rfl
  have o : (1 : Int32).toInt = 1 := rfl
  refine ⟨hF.nil, ?_⟩
  rcases h with ⟨c, rfl, -⟩ | ⟨c, ⟨c1, rfl, -⟩ | ⟨c1, rfl, -⟩⟩ <;> omega
theorem r_digit {p0 r : Int32} {G G1 : GS} (h : Q_digit p0 G r G1) : G = G1 ∧ (r.toInt ≠ 0 ↔ (48 ≤ p0.toInt ∧ p0.toInt ≤ 57)) := by
  obtain ⟨-, hF, -, -, h⟩ := h
  have z : (0 : Int32).toInt = 0 := rfl
  have o : (1 : Int32).toInt = 1 := rfl
  refine ⟨hF.nil, ?_⟩
  rcases h with ⟨c, rfl, -⟩ | ⟨c, ⟨c1, rfl, -⟩ | ⟨c1, rfl, -⟩⟩ <;> omega
theorem r_sign {p0 r : Int32} {G G1 : GS} (h : Q_sign p0 G r G1) : G = G1 ∧ (r.toInt ≠ 0 ↔ sgn p0.toInt = true) := by
  obtain ⟨-, hF, -, h⟩ := h
  have z : (0 : Int32).toInt = 0 := rfl
  have o : (1 : Int32).toInt = 1 := rfl
  refine ⟨hF.nil, ?_⟩
  rw [sgn_i]
  rcases h with ⟨c, rfl, -⟩ | ⟨c, ⟨d, rfl, -⟩ | ⟨d, ⟨e, rfl, -⟩ | ⟨e, ⟨f, rfl, -⟩ | ⟨f, ⟨g, rfl, -⟩ | ⟨g, ⟨i, rfl, -⟩ | ⟨i, ⟨j, rfl, -⟩ | ⟨j, ⟨k, rfl, -⟩ | ⟨k, ⟨l, rfl, -⟩ | ⟨l, ⟨m, rfl, -⟩ | ⟨m, ⟨u, rfl, -⟩ | ⟨u, rfl, -⟩⟩⟩⟩⟩⟩⟩⟩⟩⟩⟩ <;> omega
theorem r_skip {b : Nat → Int} {n q : Nat} {G G_1 : GS} (hX : XM b n G) (hq : (G.1 66 4).toInt = (q : Int)) (hqn : q ≤ n) (h : Rc (St_n_token_1 G) G G_1) : Fr [] [(66, 4)] G G_1 ∧ ∃ e : Nat, (G_1.1 66 4).toInt = (e : Int) ∧ q ≤ e ∧ e ≤ n ∧ ∀ k, q ≤ k → k < e → k < n ∧ blk (b k) = true := by
  refine h (fun x => Fr [] [(66, 4)] G x ∧ ∃ e : Nat, (x.1 66 4).toInt = (e : Int) ∧ q ≤ e ∧ e ≤ n ∧ ∀ k, q ≤ k → k < e → k < n ∧ blk (b k) = true) ⟨Fr.rf, q, hq, Nat.le_refl q, hqn, fun k a1 a2 => by omega⟩ ?_
  rintro x y ⟨hF, e, he, h1, h2, h3⟩ ⟨G_2, G_3, rfl, rfl, -, -, r13, G14, hh, h⟩
  have hX1 := hX.fr hF (by decide) (by decide) (by decide) (by decide)
  have z : (0 : Int32).toInt = ((0 : Nat) : Int) := rfl
  obtain ⟨rfl, v1, v2⟩ := r_here hX1 he z hh
  have fin : ∀ y2 : Int32, y2.toInt = (x.1 66 4).toInt + 1 → Fr [] [(66, 4)] x y → y.1 66 4 = y2 → e < n → (b e = 32 ∨ b e = 10) → Fr [] [(66, 4)] G y ∧ ∃ e : Nat, (y.1 66 4).toInt = (e : Int) ∧ q ≤ e ∧ e ≤ n ∧ ∀ k, q ≤ k → k < e → k < n ∧ blk (b k) = true := by
    intro y2 t2 hF2 e2 hen hb
    refine ⟨hF.call hF2 (by decide) (by decide), e + 1, by rw [e2]; omega, by omega, by omega, fun k a1 a2 => ?_⟩
    by_cases hk : k = e
    · subst hk
      exact ⟨hen, blk_i.mpr hb⟩
    · exact h3 k a1 (by omega)
  simp only [Nat.add_zero] at v1 v2
  rcases h with ⟨c2, y2, t2, hF2, e2⟩ | ⟨c2, r27, G28, hh2, c3, y2, t2, hF2, e2⟩
  · have hen : e < n := by
      by_cases q : e < n
      · exact q
      · have := v2 (by omega)
        omega
    have := v1 hen
    exact fin y2 t2 hF2 e2 hen (by omega)
  · obtain ⟨rfl, w1, w2⟩ := r_here hX1 he z hh2
    simp only [Nat.add_zero] at w1 w2
    have hen : e < n := by
      by_cases q : e < n
      · exact q
      · have := w2 (by omega)
        omega
    have := w1 hen
    exact fin y2 t2 hF2 e2 hen (by omega)
theorem r_wloop {b : Nat → Int} {n a : Nat} {G0 G2 : GS} {x : Int32} (hX : XM b n G0) (ha : (G0.1 66 4).toInt = (a : Int)) (h9 : G0.2.1 66 9 = 0) (han : a ≤ n) (h : Rc (St_n_token_4) (0, G0) (x, G2)) : Fr [] [(66, 9)] G0 G2 ∧ ∃ k : Nat, x.toInt = (k : Int) ∧ a + k ≤ n ∧ (∀ j, a ≤ j → j < a + k → j < n ∧ ltr (b j) = true) ∧ (k ≤ 8 → G2.2.1 66 9 = w8 (cut b a (a + k))) := by
  refine h (fun z => Fr [] [(66, 9)] G0 z.2 ∧ ∃ k : Nat, z.1.toInt = (k : Int) ∧ a + k ≤ n ∧ (∀ j, a ≤ j → j < a + k → j < n ∧ ltr (b j) = true) ∧ (k ≤ 8 → z.2.2.1 66 9 = w8 (cut b a (a + k)))) ⟨Fr.rf, 0, rfl, by omega, fun j a1 a2 => by omega, fun _ => by rw [Nat.add_zero, cut_nil]; exact h9⟩ ?_
  rintro ⟨x1, G_1⟩ ⟨xn, G_1n⟩ ⟨hF, k, hk, h1, h3, h4⟩ ⟨x1q, G_1q, xnq, G_1nq, e1, e2, -, -, -, r177, G178, hh, r183, G184, hl, c1, hc⟩
  obtain ⟨rfl, rfl⟩ := Prod.mk.inj e1
  obtain ⟨rfl, rfl⟩ := Prod.mk.inj e2
  simp only at hF hk h4
  have hX1 := hX.fr hF (by decide) (by decide) (by decide) (by decide)
  have ha1 : (G_1.1 66 4).toInt = (a : Int) := by rw [hF.i 66 4 (by decide) (by decide)]; exact ha
  obtain ⟨rfl, v1, v2⟩ := r_here hX1 ha1 hk hh
  obtain ⟨rfl, hl2⟩ := r_letter hl
  have hb := hl2.mp c1
  have hen : a + k < n := by
    by_cases q : a + k < n
    · exact q
    · have := v2 (by omega)
      omega
  have v := v1 hen
  have hbl : ltr (b (a + k)) = true := ltr_i.mpr ⟨by omega, by omega⟩
  have hall : ∀ j, a ≤ j → j < a + (k + 1) → j < n ∧ ltr (b j) = true := by
    intro j q1 q2
    by_cases hj : j = a + k
    · subst hj
      exact ⟨hen, hbl⟩
    · exact h3 j q1 (by omega)
  rcases hc with ⟨c2, y, ty, ey, eG⟩ | ⟨c2, y205, e205, y206, e206, r209, G210, hh2, y215, e215, y216, e216, y, ty, ey, hF2, e9⟩
  · subst ey
    subst eG
    exact ⟨hF, k + 1, by show y.toInt = _; omega, by omega, hall, fun q => by omega⟩
  · subst ey
    obtain ⟨rfl, w1, w2⟩ := r_here hX1 ha1 hk hh2
    have w := w1 hen
    refine ⟨hF.call hF2 (by decide) (by decide), k + 1, by show y.toInt = _; omega, by omega, hall, fun q => ?_⟩
    have hv : v8 (cut b a (a + k)) < 2 ^ 55 := by
      have hlt := v_lt (lets_of h3)
      by_cases h0 : k = 0
      · subst h0
        rw [Nat.add_zero, cut_nil]
        decide
      · have h7 := hlt.2.2 (fun e => by have := congrArg List.length e; rw [cut_len] at this; simp at this; omega)
        rw [cut_len, show a + k - a = k by omega] at h7
        have h6 : 256 ^ (k - 1) ≤ 256 ^ 6 := Nat.pow_le_pow_right (by decide) (by omega)
        omega
    have hp := pk_step 8 (Or.inr rfl) (v := v8 (cut b a (a + k))) (d := r209) hv (by omega) (by omega)
    show G_1n.2.1 66 9 = _
    rw [e9, e216, e215, e206, e205, h4 (by omega), show a + (k + 1) = (a + k) + 1 by omega, cut_snoc (by omega), w8, w8, v8_snoc]
    exact hp.trans (congrArg Int64.ofNat (by omega))
theorem r_nloop {b : Nat → Int} {n a : Nat} {G0 G2 : GS} {x : Int32} (hX : XM b n G0) (ha : (G0.1 66 4).toInt = (a : Int)) (h8 : G0.1 66 8 = 0) (han : a ≤ n) (h : Rc (St_n_token_2) (0, G0) (x, G2)) : Fr [] [(66, 8)] G0 G2 ∧ ∃ k : Nat, x.toInt = (k : Int) ∧ a + k ≤ n ∧ (∀ j, a ≤ j → j < a + k → j < n ∧ dgt (b j) = true) ∧ (k ≤ 4 → (G2.1 66 8).toInt = val (cut b a (a + k)) ∧ 0 ≤ val (cut b a (a + k)) ∧ val (cut b a (a + k)) + 1 ≤ 10 ^ k) := by
  refine h (fun z => Fr [] [(66, 8)] G0 z.2 ∧ ∃ k : Nat, z.1.toInt = (k : Int) ∧ a + k ≤ n ∧ (∀ j, a ≤ j → j < a + k → j < n ∧ dgt (b j) = true) ∧ (k ≤ 4 → (z.2.1 66 8).toInt = val (cut b a (a + k)) ∧ 0 ≤ val (cut b a (a + k)) ∧ val (cut b a (a + k)) + 1 ≤ 10 ^ k)) ⟨Fr.rf, 0, rfl, by omega, fun j a1 a2 => by omega, fun _ => by rw [Nat.add_zero, cut_nil, h8]; exact ⟨rfl, by decide, by decide⟩⟩ ?_
  rintro ⟨x1, G_1⟩ ⟨xn, G_1n⟩ ⟨hF, k, hk, h1, h3, h4⟩ ⟨x1q, G_1q, xnq, G_1nq, e1, e2, -, -, -, r96, G97, hh, r102, G103, hl, c1, hc⟩
  obtain ⟨rfl, rfl⟩ := Prod.mk.inj e1
  obtain ⟨rfl, rfl⟩ := Prod.mk.inj e2
  simp only at hF hk h4
  have hX1 := hX.fr hF (by decide) (by decide) (by decide) (by decide)
  have ha1 : (G_1.1 66 4).toInt = (a : Int) := by rw [hF.i 66 4 (by decide) (by decide)]; exact ha
  obtain ⟨rfl, v1, v2⟩ := r_here hX1 ha1 hk hh
  obtain ⟨rfl, hl2⟩ := r_digit hl
  have hb := hl2.mp c1
  have hen : a + k < n := by
    by_cases q : a + k < n
    · exact q
    · have := v2 (by omega)
      omega
  have v := v1 hen
  have hbl : dgt (b (a + k)) = true := dgt_i.mpr ⟨by omega, by omega⟩
  have hall : ∀ j, a ≤ j → j < a + (k + 1) → j < n ∧ dgt (b j) = true := by
    intro j q1 q2
    by_cases hj : j = a + k
    · subst hj
      exact ⟨hen, hbl⟩
    · exact h3 j q1 (by omega)
  rcases hc with ⟨c2, y, ty, ey, eG⟩ | ⟨c2, y146, e146, r149, G150, hh2, y155, e155, y156, e156, y, ty, ey, hF2, e8⟩
  · subst ey
    subst eG
    exact ⟨hF, k + 1, by show y.toInt = _; omega, by omega, hall, fun q => by omega⟩
  · subst ey
    obtain ⟨rfl, w1, w2⟩ := r_here hX1 ha1 hk hh2
    have w := w1 hen
    refine ⟨hF.call hF2 (by decide) (by decide), k + 1, by show y.toInt = _; omega, by omega, hall, fun q => ?_⟩
    obtain ⟨g1, g2, g3⟩ := h4 (by omega)
    have hpw : (10 : Int) ^ k ≤ 10 ^ 3 := by
      have := Nat.pow_le_pow_right (show 0 < 10 by decide) (show k ≤ 3 by omega)
      exact_mod_cast this
    have t146 : y146.toInt = 10 * val (cut b a (a + k)) := xI_mul rfl g1 e146 (by omega) (by omega)
    have t155 : y155.toInt = 10 * val (cut b a (a + k)) + b (a + k) := xI_add t146 w.1 e155 (by omega) (by omega)
    have t156 : y156.toInt = 10 * val (cut b a (a + k)) + b (a + k) - 48 := xI_sub t155 rfl e156 (by omega) (by omega)
    show (G_1n.1 66 8).toInt = _ ∧ _
    rw [e8, show a + (k + 1) = (a + k) + 1 by omega, cut_snoc (by omega), val_snoc, Int.pow_succ]
    exact ⟨by omega, by omega, by omega⟩
theorem r_tok {b : Nat → Int} {n q : Nat} {G G1 : GS} (hX : XM b n G) (hq : (G.1 66 4).toInt = (q : Int)) (hqn : q ≤ n) (h : Q_token G G1) : XM b n G1 ∧ TM b n G1 q := by
  obtain ⟨-, hFF, -, G_1, hRc, -, -, -, r13, G14, hh1, c13, r27, G28, hh2, c27, G34, -, hF34, e34, r38, G39, hh3, hh⟩ := h
  obtain ⟨hF, s, hs, h1, h2, h3⟩ := r_skip hX hq hqn hRc
  have hX1 := hX.fr hF (by decide) (by decide) (by decide) (by decide)
  have hX0 := hX.2.1
  have z : (0 : Int32).toInt = ((0 : Nat) : Int) := rfl
  have o1 : (1 : Int32).toInt = 1 := rfl
  have o2 : (2 : Int32).toInt = 2 := rfl
  have o3 : (3 : Int32).toInt = 3 := rfl
  obtain ⟨rfl, v1, v2⟩ := r_here hX1 hs z hh1
  obtain ⟨rfl, w1, w2⟩ := r_here hX1 hs z hh2
  simp only [Nat.add_zero] at v1 v2 w1 w2
  have hno : ¬ (s < n ∧ blk (b s) = true) := by
    clear hh
    intro q
    have a1 := v1 q.1
    have a2 := w1 q.1
    have := blk_i.mp q.2
    omega
  have hS : tS b n q = s := rn_eq 1601 q s h1 (by omega) h3 hno
  refine ⟨hX.fr hFF (by decide) (by decide) (by decide) (by decide), ?_⟩
  have hX34 := hX1.fr hF34 (by decide) (by decide) (by decide) (by decide)
  have hs34 : (G34.1 66 4).toInt = (s : Int) := by rw [hF34.i 66 4 (by decide) (by decide)]; exact hs
  have hp34 : (G34.1 66 7).toInt = (s : Int) := by rw [e34]; exact hs
  obtain ⟨rfl, u1, u2⟩ := r_here hX34 hs34 z hh3
  simp only [Nat.add_zero] at u1 u2
  unfold TM tK tNx tV tL tW tD
  rw [hS]
  rcases hh with ⟨c38, G45, -, hF45, e8, e9, r47, G48, hl, hh⟩ | ⟨c38, y223, t223, hF1, f4, f6, f8, f9⟩
  · have hsn : s < n := by
      by_cases q : s < n
      · exact q
      · have := u2 (by omega)
        omega
    have u := u1 hsn
    have hX45 := hX34.fr hF45 (by decide) (by decide) (by decide) (by decide)
    have hs45 : (G45.1 66 4).toInt = (s : Int) := by rw [hF45.i 66 4 (by decide) (by decide)]; exact hs34
    have hp45 : (G45.1 66 7).toInt = (s : Int) := by rw [hF45.i 66 7 (by decide) (by decide)]; exact hp34
    rw [if_neg (show ¬ n ≤ s by omega), if_neg (show ¬ n ≤ s by omega)]
    obtain ⟨rfl, hl2⟩ := r_letter hl
    rcases hh with ⟨c47, r54, G55, hd, hh⟩ | ⟨c47, x, G161, hRc2, -, -, -, -, r177, G178, hh4, r183, G184, hl3, c183, hh⟩
    · have hnl : ¬ ltr (b s) = true := fun q => by have := ltr_i.mp q; exact hl2.mpr (by omega) c47
      rw [if_neg hnl, if_neg hnl]
      obtain ⟨rfl, hd2⟩ := r_digit hd
      rcases hh with ⟨c54, r61, G62, hsg, hh⟩ | ⟨c54, x, G80, hRc2, -, -, -, -, r96, G97, hh4, r102, G103, hd3, c102, hh⟩
      · have hnd : ¬ dgt (b s) = true := fun q => by have := dgt_i.mp q; exact hd2.mpr (by omega) c54
        rw [if_neg hnd, if_neg hnd]
        obtain ⟨rfl, hsg2⟩ := r_sign hsg
        rw [u.1] at hsg2
        rcases hh with ⟨c61, hF1, f6⟩ | ⟨c61, ⟨c3, hF1, f6⟩ | ⟨c3, y76, t76, hF1, f4, f6⟩⟩
        · rw [if_neg (fun q => hsg2.mpr q c61), f6]
          refine ⟨⟨fun q => by omega, fun _ => o3, fun q => by omega, fun q1 q2 => by omega, fun q => by omega⟩, ?_, fun q => absurd rfl q, fun q => absurd q (by decide), fun q1 q2 => absurd q2 (by decide)⟩
          rw [hF1.i 66 7 (by decide) (by decide)]
          exact hp45
        · have := sgn_i.mp (hsg2.mp c61)
          omega
        · have hq2 := hsg2.mp c61
          have hq3 := sgn_i.mp hq2
          rw [if_pos hq2, f6]
          refine ⟨⟨fun q => by omega, fun q => by omega, fun q => by omega, fun q1 q2 => by omega, fun q => u.1⟩, ?_, fun q => ?_, fun q => by omega, fun q1 q2 => by omega⟩
          · rw [hF1.i 66 7 (by decide) (by decide)]
            exact hp45
          · rw [f4]
            omega
      · have hnd : dgt (b s) = true := by have := hd2.mp c54; exact dgt_i.mpr (by omega)
        rw [if_pos hnd, if_pos hnd]
        obtain ⟨hF80, k, hk, g1, g2, g3⟩ := r_nloop hX45 hs45 e8 (by omega) hRc2
        have hX80 := hX45.fr hF80 (by decide) (by decide) (by decide) (by decide)
        have hs80 : (G80.1 66 4).toInt = (s : Int) := by rw [hF80.i 66 4 (by decide) (by decide)]; exact hs45
        have hp80 : (G80.1 66 7).toInt = (s : Int) := by rw [hF80.i 66 7 (by decide) (by decide)]; exact hp45
        obtain ⟨rfl, x1, x2⟩ := r_here hX80 hs80 hk hh4
        obtain ⟨rfl, hd4⟩ := r_digit hd3
        have hno2 : ¬ (s + k < n ∧ dgt (b (s + k)) = true) := by
          intro q
          have a1 := x1 q.1
          have a2 := dgt_i.mp q.2
          exact hd4.mpr (by omega) c102
        rw [rn_eq 1601 s (s + k) (by omega) (by omega) g2 hno2]
        rcases hh with ⟨c4, r123, G124, hh5, r129, G130, hl5, c129, y138, t138, hF1, f4, f6⟩ | ⟨G112, hJ, -, hF112, hF1, f6⟩
        · obtain ⟨rfl, y1, y2⟩ := r_here hX80 hs80 hk hh5
          obtain ⟨rfl, hl6⟩ := r_letter hl5
          rw [if_neg (fun q => q.elim (fun q => by omega) (fun q => by have a1 := y1 q.1; have a2 := ltr_i.mp q.2; exact hl6.mpr (by omega) c129)), f6]
          refine ⟨⟨fun q => by omega, fun q => by omega, fun _ => o2, fun q1 q2 => by omega, fun q => by omega⟩, ?_, fun q => ?_, fun _ => ?_, fun q1 q2 => absurd q2 (by decide)⟩
          · rw [hF1.i 66 7 (by decide) (by decide)]
            exact hp80
          · rw [f4]
            omega
          · rw [hF1.i 66 8 (by decide) (by decide)]
            exact (g3 (by omega)).1
        · obtain rfl := hF112.nil
          have hbad : 4 < s + k - s ∨ (s + k < n ∧ ltr (b (s + k)) = true) := by
            rcases hJ with ⟨c4, -⟩ | ⟨c4, r123, G124, hh5, r129, G130, hl5, c129, -⟩
            · exact Or.inl (by omega)
            · obtain ⟨rfl, y1, y2⟩ := r_here hX80 hs80 hk hh5
              obtain ⟨-, hl6⟩ := r_letter hl5
              have a2 := hl6.mp c129
              have hkn : s + k < n := by
                by_cases q : s + k < n
                · exact q
                · have := y2 (by omega)
                  omega
              have a1 := y1 hkn
              exact Or.inr ⟨hkn, ltr_i.mpr (by omega)⟩
          rw [if_pos hbad, f6]
          refine ⟨⟨fun q => by omega, fun _ => o3, fun q => by omega, fun q1 q2 => by omega, fun q => by omega⟩, ?_, fun q => absurd rfl q, fun q => absurd q (by decide), fun q1 q2 => absurd q2 (by decide)⟩
          rw [hF1.i 66 7 (by decide) (by decide)]
          exact hp80
    · have hnl : ltr (b s) = true := by have := hl2.mp c47; exact ltr_i.mpr (by omega)
      rw [if_pos hnl, if_pos hnl]
      obtain ⟨hF161, k, hk, g1, g2, g3⟩ := r_wloop hX45 hs45 e9 (by omega) hRc2
      have hX161 := hX45.fr hF161 (by decide) (by decide) (by decide) (by decide)
      have hs161 : (G161.1 66 4).toInt = (s : Int) := by rw [hF161.i 66 4 (by decide) (by decide)]; exact hs45
      have hp161 : (G161.1 66 7).toInt = (s : Int) := by rw [hF161.i 66 7 (by decide) (by decide)]; exact hp45
      obtain ⟨rfl, x1, x2⟩ := r_here hX161 hs161 hk hh4
      obtain ⟨rfl, hl4⟩ := r_letter hl3
      have hno2 : ¬ (s + k < n ∧ ltr (b (s + k)) = true) := by
        intro q
        have a1 := x1 q.1
        have a2 := ltr_i.mp q.2
        exact hl4.mpr (by omega) c183
      rw [rn_eq 1601 s (s + k) (by omega) (by omega) g2 hno2]
      have hkr := kwd_r (cut b s (s + k))
      rcases hh with ⟨c8, y193, t193, hF1, f4, f6⟩ | ⟨c8, hF1, f6⟩
      · rw [if_neg (show ¬ 8 < s + k - s by omega), f6]
        refine ⟨⟨fun q => by omega, fun q => by omega, fun q => by omega, fun q1 q2 => o1, fun q => by omega⟩, ?_, fun q => ?_, fun q => by omega, fun q1 q2 => ?_⟩
        · rw [hF1.i 66 7 (by decide) (by decide)]
          exact hp161
        · rw [f4]
          omega
        · rw [hF1.l 66 9 (by decide) (by decide)]
          exact g3 (by omega)
      · rw [if_pos (show 8 < s + k - s by omega), f6]
        refine ⟨⟨fun q => by omega, fun _ => o3, fun q => by omega, fun q1 q2 => by omega, fun q => by omega⟩, ?_, fun q => absurd rfl q, fun q => absurd q (by decide), fun q1 q2 => absurd q2 (by decide)⟩
        rw [hF1.i 66 7 (by decide) (by decide)]
        exact hp161
  · have hsn : n ≤ s := by
      by_cases q : s < n
      · have := u1 q
        omega
      · omega
    rw [if_pos hsn, if_pos hsn, f6]
    refine ⟨⟨fun _ => rfl, fun q => by omega, fun q => by omega, fun q1 q2 => by omega, fun q => by omega⟩, ?_, fun _ => ?_, fun q => absurd q (by decide), fun q1 q2 => absurd q2 (by decide)⟩
    · rw [hF1.i 66 7 (by decide) (by decide)]
      exact hp34
    · rw [f4]
      omega

/-! small pieces of the grammar over places of TOKENS -/
abbrev Rs (α : Type) : Type := (Int × Int) ⊕ (α × Nat)
def bnd {α β : Type} (o : Rs α) (f : α → Nat → Rs β) : Rs β := match o with
  | .inl e => .inl e
  | .inr v => f v.1 v.2
def fl (b : Nat → Int) (n : Nat) (c : Int) (p : Nat) : Int × Int := (if tK b n p = 202 then 1 else c, (tS b n p : Int))
def pNum (b : Nat → Int) (n : Nat) (lo hi : Int) (p : Nat) : Rs Int := if tK b n p ≠ 201 then .inl (fl b n 2 p) else if tV b n p < lo ∨ hi < tV b n p then .inl (fl b n 4 p) else .inr (tV b n p, tNx b n p)
def pKw (b : Nat → Int) (n : Nat) (k : Int) (p : Nat) : Rs Unit := if tK b n p = k then .inr ((), tNx b n p) else .inl (fl b n 2 p)
def pName (b : Nat → Int) (n : Nat) (NS : List (List Int)) (p : Nat) : Rs (List Int) := if tK b n p ≠ 200 then .inl (fl b n 2 p) else if tL b n p ∈ NS then .inl (fl b n 3 p) else .inr (tL b n p, tNx b n p)
theorem tS_p {b : Nat → Int} {n p : Nat} (hn : n ≤ 1600) (hp : p ≤ n) : p ≤ tS b n p ∧ tS b n p ≤ n := by
  have h := rn_p (c := blk) (b := b) (n := n) 1601 p (by omega)
  exact ⟨h.1, h.2.1 hp⟩
theorem tN_p {b : Nat → Int} {n p : Nat} (hn : n ≤ 1600) (hp : p ≤ n) : p ≤ tNx b n p ∧ tNx b n p ≤ n ∧ (tK b n p ≠ 203 → p < tNx b n p ∧ tS b n p < n) := by
  have h := tS_p (b := b) hn hp
  have hw := rn_p (c := ltr) (b := b) (n := n) 1601 (tS b n p) (by omega)
  have hd := rn_p (c := dgt) (b := b) (n := n) 1601 (tS b n p) (by omega)
  have hw2 := hw.2.1 h.2
  have hd2 := hd.2.1 h.2
  unfold tNx tK
  by_cases h1 : n ≤ tS b n p
  · rw [if_pos h1, if_pos h1]
    exact ⟨h.1, h.2, fun q => absurd rfl q⟩
  · rw [if_neg h1, if_neg h1]
    by_cases h2 : ltr (b (tS b n p)) = true
    · rw [if_pos h2, if_pos h2]
      have h3 : tW b n p ≠ tS b n p := fun e => hw.2.2.2 (by
        have e2 : rn ltr b n 1601 (tS b n p) = tS b n p := e
        rw [e2]
        exact ⟨by omega, h2⟩)
      have h4 : tS b n p ≤ tW b n p := hw.1
      have h5 : tW b n p ≤ n := hw2
      exact ⟨by omega, by omega, fun _ => ⟨by omega, by omega⟩⟩
    · rw [if_neg h2, if_neg h2]
      by_cases h6 : dgt (b (tS b n p)) = true
      · rw [if_pos h6, if_pos h6]
        have h3 : tD b n p ≠ tS b n p := fun e => hd.2.2.2 (by
          have e2 : rn dgt b n 1601 (tS b n p) = tS b n p := e
          rw [e2]
          exact ⟨by omega, h6⟩)
        have h4 : tS b n p ≤ tD b n p := hd.1
        have h5 : tD b n p ≤ n := hd2
        exact ⟨by omega, by omega, fun _ => ⟨by omega, by omega⟩⟩
      · rw [if_neg h6, if_neg h6]
        exact ⟨by omega, by omega, fun _ => ⟨by omega, by omega⟩⟩
def LW (L : List Int) : Prop := L.length ≤ 8 ∧ ∀ x ∈ L, 97 ≤ x ∧ x ≤ 122
theorem tK_w {b : Nat → Int} {n p : Nat} (hn : n ≤ 1600) (hp : p ≤ n) (h1 : 128 ≤ tK b n p) (h2 : tK b n p ≤ 200) : tK b n p = kwd (tL b n p) ∧ LW (tL b n p) := by
  have hw := rn_p (c := ltr) (b := b) (n := n) 1601 (tS b n p) (by omega)
  have hL : (∀ x ∈ tL b n p, 97 ≤ x ∧ x ≤ 122) := lets_of hw.2.2.1
  have hlen : (tL b n p).length = tW b n p - tS b n p := cut_len
  unfold tK at h1 h2 ⊢
  by_cases c1 : n ≤ tS b n p
  · rw [if_pos c1] at h1 h2
    omega
  · rw [if_neg c1] at h1 h2 ⊢
    by_cases c2 : ltr (b (tS b n p)) = true
    · rw [if_pos c2] at h1 h2 ⊢
      by_cases c3 : 8 < tW b n p - tS b n p
      · rw [if_pos c3] at h1 h2
        omega
      · rw [if_neg c3]
        exact ⟨rfl, by omega, hL⟩
    · rw [if_neg c2] at h1 h2
      by_cases c4 : dgt (b (tS b n p)) = true
      · rw [if_pos c4] at h1 h2
        split at h2 <;> omega
      · rw [if_neg c4] at h1 h2
        by_cases c5 : sgn (b (tS b n p)) = true
        · rw [if_pos c5] at h1 h2
          have := sgn_i.mp c5
          omega
        · rw [if_neg c5] at h1 h2
          omega
theorem kwd_iff {L : List Int} {i : Nat} (hi : i < 23) : kwd L = 128 + (i : Int) ↔ L = KW.getD i [] := by
  refine ⟨fun h => ?_, fun h => kwd_in hi h.symm⟩
  by_cases hq : ∃ j : Nat, j < 23 ∧ KW.getD j [] = L
  · obtain ⟨j, hj, e⟩ := hq
    have := kwd_in hj e
    have : j = i := by omega
    subst this
    exact e.symm
  · have := kwd_out (L := L) (fun j hj e => hq ⟨j, hj, e⟩)
    omega
/-! the program's -/
def CPx (b : Nat → Int) (n : Nat) (G : GS) (p : Nat) : Prop := XC b n G ∧ TC b n G p ∧ ((G.1 3 7).toInt = 0 ∧ (G.1 3 8).toInt = -1) ∧ p ≤ n
def CF (f : Int × Int) (r : Int32) (G1 : GS) : Prop := r.toInt = 0 ∧ (G1.1 3 7).toInt = f.1 ∧ (G1.1 3 8).toInt = f.2
theorem CPx.fr {b : Nat → Int} {n p : Nat} {rs : List Nat} {fs : List (Nat × Nat)} {G G1 : GS} (h : CPx b n G p) (hF : Fr rs fs G G1) (h1 : 3 ∉ rs) (h2 : ∀ x ∈ fs, x.1 ≠ 3) (h3 : 32 ∉ rs) (h4 : ∀ x ∈ fs, x.1 ≠ 32) : CPx b n G1 p := by
  obtain ⟨a1, a2, a3, a4⟩ := h
  have h5 : ∀ j, (3, j) ∉ fs := fun j q => h2 _ q rfl
  refine ⟨a1.fr hF h1 (h5 1) h3 h4, ?_, by rw [hF.i 3 7 h1 (h5 7), hF.i 3 8 h1 (h5 8)]; exact a3, a4⟩
  unfold TC at a2 ⊢
  rw [hF.i 3 3 h1 (h5 3), hF.i 3 4 h1 (h5 4), hF.i 3 2 h1 (h5 2), hF.i 3 5 h1 (h5 5), hF.l 3 6 h1 (h5 6)]
  exact a2
theorem c_ref {b : Nat → Int} {n p : Nat} {G G1 : GS} {c r : Int32} (h : P_tRefuse c G r G1) (hp : CPx b n G p) : CF (fl b n c.toInt p) r G1 ∧ Fr [] [(3, 7), (3, 8)] G G1 := by
  obtain ⟨-, hF, hr, hh⟩ := h
  obtain ⟨a1, a2, a3, a4⟩ := hp
  have z : (0 : Int32).toInt = 0 := rfl
  refine ⟨?_, hF⟩
  have k1 := a2.1
  have k2 := a2.2.1
  unfold CF fl
  rcases hh with ⟨c1, ⟨c2, -, hF2, e7, e8⟩ | ⟨c2, -, hF2, e7, e8⟩⟩ | ⟨c1, -, -⟩
  · rw [if_pos (by omega), e7, e8]
    exact ⟨by omega, rfl, k2⟩
  · rw [if_neg (by omega), e7, e8]
    exact ⟨by omega, rfl, k2⟩
  · omega
theorem c_next {b : Nat → Int} {n p : Nat} {G G1 : GS} {r : Int32} (h : P_tAdvance G r G1) (hp : CPx b n G p) (hk : tK b n p ≠ 202) : r.toInt = 1 ∧ CPx b n G1 (tNx b n p) := by
  obtain ⟨a1, a2, a3, a4⟩ := hp
  have ht := tN_p (b := b) a1.2.1 a4
  obtain ⟨h1, h2, h3⟩ := c_adv a1 (a2.2.2.1 hk) ht.2.1 h
  refine ⟨h1, h2, h3, ?_, ht.2.1⟩
  rw [h.2.1.i 3 7 (by decide) (by decide), h.2.1.i 3 8 (by decide) (by decide)]
  exact a3
theorem c_pass {b : Nat → Int} {n p : Nat} {G G1 : GS} {k r : Int32} (h : P_tPass k G r G1) (hp : CPx b n G p) (hk : k.toInt ≠ 202) : (∃ f, pKw b n k.toInt p = .inl f ∧ CF f r G1) ∨ (pKw b n k.toInt p = .inr ((), tNx b n p) ∧ r.toInt = 1 ∧ CPx b n G1 (tNx b n p)) := by
  obtain ⟨-, -, -, hh⟩ := h
  have k1 := hp.2.1.1
  unfold pKw
  rcases hh with ⟨c, r8, G9, ha, rfl, rfl⟩ | ⟨c, r2, G3, ha, rfl, rfl⟩
  · rw [if_pos (by omega)]
    exact Or.inr ⟨rfl, c_next ha hp (by omega)⟩
  · rw [if_neg (by omega)]
    exact Or.inl ⟨_, rfl, (c_ref ha hp).1⟩
theorem c_first {b : Nat → Int} {n p : Nat} {G G1 : GS} {m r : Int32} (h : P_rFirst m G r G1) (hp : CPx b n G p) (hk : tK b n p ≠ 202) : (m.toInt = 0 ∧ CF (fl b n 2 p) r G1) ∨ (m.toInt ≠ 0 ∧ r.toInt = 1 ∧ CPx b n G1 (tNx b n p)) := by
  obtain ⟨-, -, -, -, hh⟩ := h
  rcases hh with ⟨c, r2, G3, ha, rfl, rfl⟩ | ⟨c, r8, G9, ha, rfl, rfl⟩
  · exact Or.inl ⟨c, (c_ref ha hp).1⟩
  · exact Or.inr ⟨c, c_next ha hp hk⟩
theorem c_isNum {b : Nat → Int} {n p : Nat} {G G1 : GS} {lo hi r : Int32} (h : P_rIsNum lo hi G r G1) (hp : CPx b n G p) : (∃ f, pNum b n lo.toInt hi.toInt p = .inl f ∧ CF f r G1) ∨ (pNum b n lo.toInt hi.toInt p = .inr (tV b n p, tNx b n p) ∧ r.toInt = 1 ∧ CPx b n G1 p ∧ (G1.1 5 9).toInt = tV b n p ∧ tK b n p = 201 ∧ lo.toInt ≤ tV b n p ∧ tV b n p ≤ hi.toInt) := by
  obtain ⟨-, -, -, -, hh⟩ := h
  have k1 := hp.2.1.1
  have k5 := hp.2.1.2.2.2.1
  unfold pNum
  rcases hh with ⟨c, ⟨c1, r3, G4, ha, rfl, rfl⟩ | ⟨c1, ⟨c2, rfl, hF, e9⟩ | ⟨c2, r3, G4, ha, rfl, rfl⟩⟩⟩ | ⟨c, r3, G4, ha, rfl, rfl⟩
  · have := k5 (by omega)
    rw [if_neg (by omega), if_pos (Or.inl (by omega))]
    exact Or.inl ⟨_, rfl, (c_ref ha hp).1⟩
  · have := k5 (by omega)
    rw [if_neg (by omega), if_neg (by omega)]
    exact Or.inr ⟨rfl, rfl, hp.fr hF (by decide) (by decide) (by decide) (by decide), by rw [e9]; exact this, by omega, by omega, by omega⟩
  · have := k5 (by omega)
    rw [if_neg (by omega), if_pos (Or.inr (by omega))]
    exact Or.inl ⟨_, rfl, (c_ref ha hp).1⟩
  · rw [if_pos (by omega)]
    exact Or.inl ⟨_, rfl, (c_ref ha hp).1⟩
theorem c_num {b : Nat → Int} {n p : Nat} {G G1 : GS} {lo hi r : Int32} (h : P_rNum lo hi G r G1) (hp : CPx b n G p) : (∃ f, pNum b n lo.toInt hi.toInt p = .inl f ∧ CF f r G1) ∨ (pNum b n lo.toInt hi.toInt p = .inr (tV b n p, tNx b n p) ∧ r.toInt = 1 ∧ CPx b n G1 (tNx b n p) ∧ (G1.1 5 9).toInt = tV b n p ∧ lo.toInt ≤ tV b n p ∧ tV b n p ≤ hi.toInt) := by
  obtain ⟨-, -, -, -, r1, G2, hi1, hh⟩ := h
  have z : (0 : Int32).toInt = 0 := rfl
  have o : (1 : Int32).toInt = 1 := rfl
  rcases c_isNum hi1 hp with ⟨f, hf, hC⟩ | ⟨hv, hr, hp2, e9, hk, hl, hh2⟩
  · rcases hh with ⟨c, rfl, rfl⟩ | ⟨c, r8, G9, ha, rfl, rfl⟩
    · exact Or.inl ⟨f, hf, z, hC.2⟩
    · have := hC.1
      omega
  · rcases hh with ⟨c, rfl, rfl⟩ | ⟨c, r8, G9, ha, rfl, rfl⟩
    · omega
    · have hn := c_next ha hp2 (by omega)
      refine Or.inr ⟨hv, o, hn.2, ?_, hl, hh2⟩
      rw [ha.2.1.i 5 9 (by decide) (by decide)]
      exact e9
/-- names told: the program's rows -/
def NmC (row : Nat) (NS : List (List Int)) (G : GS) : Prop := ∀ k, k < NS.length → G.2.1 row k = w5 (NS.getD k []) ∧ LW (NS.getD k [])
theorem NmC.fr {row : Nat} {NS : List (List Int)} {rs : List Nat} {fs : List (Nat × Nat)} {G G1 : GS} (h : NmC row NS G) (hF : Fr rs fs G G1) (h1 : row ∉ rs) (h2 : ∀ x ∈ fs, x.1 ≠ row) : NmC row NS G1 := by
  intro k hk
  rw [hF.rowl row h1 h2]
  exact h k hk
theorem mem_getD {NS : List (List Int)} {L : List Int} : L ∈ NS ↔ ∃ k, k < NS.length ∧ NS.getD k [] = L := by
  rw [List.mem_iff_getElem]
  refine ⟨fun ⟨k, hk, e⟩ => ⟨k, hk, ?_⟩, fun ⟨k, hk, e⟩ => ⟨k, hk, ?_⟩⟩
  · rw [List.getD_eq_getElem?_getD, List.getElem?_eq_getElem hk]
    exact e
  · rw [List.getD_eq_getElem?_getD, List.getElem?_eq_getElem hk] at e
    exact e
theorem getD_snoc {NS : List (List Int)} {L : List Int} {k : Nat} : (NS ++ [L]).getD k [] = if k < NS.length then NS.getD k [] else if k = NS.length then L else [] := by
  rw [List.getD_eq_getElem?_getD, List.getD_eq_getElem?_getD]
  by_cases h : k < NS.length
  · rw [if_pos h, List.getElem?_append_left h]
  · rw [if_neg h, List.getElem?_append_right (by omega)]
    by_cases h2 : k = NS.length
    · rw [if_pos h2]
      simp [h2]
    · rw [if_neg h2]
      rw [List.getElem?_eq_none (by simp; omega)]
      rfl
theorem NmC_snoc {row : Nat} {NS : List (List Int)} {L : List Int} {G G1 : GS} {f : Nat → Int64} (h : NmC row NS G) (he : G1.2.1 row = vp_updL f NS.length (w5 L)) (hf : f = G.2.1 row) (hL : LW L) : NmC row (NS ++ [L]) G1 := by
  intro k hk
  rw [List.length_append, List.length_singleton] at hk
  rw [getD_snoc, he]
  by_cases h1 : k < NS.length
  · rw [if_pos h1]
    have e : vp_updL f NS.length (w5 L) k = f k := if_neg (by omega)
    rw [e, hf]
    exact h k h1
  · rw [if_neg h1, if_pos (by omega)]
    have e : vp_updL f NS.length (w5 L) k = w5 L := if_pos (by omega)
    rw [e]
    exact ⟨rfl, hL⟩
theorem c_name_34 {b : Nat → Int} {n p : Nat} {G G1 : GS} {m r : Int32} {NS : List (List Int)} (h : P_rName_34 m G r G1) (hp : CPx b n G p) (hN : NmC 34 NS G) (hm : m.toInt = (NS.length : Int)) (hmx : NS.length < 3) : (∃ f, pName b n NS p = .inl f ∧ CF f r G1) ∨ (pName b n NS p = .inr (tL b n p, tNx b n p) ∧ r.toInt = 1 ∧ CPx b n G1 (tNx b n p) ∧ NmC 34 (NS ++ [tL b n p]) G1) := by
  obtain ⟨-, -, -, hh⟩ := h
  have k1 := hp.2.1.1
  have z : (0 : Int32).toInt = ((0 : Nat) : Int) := rfl
  unfold pName
  rcases hh with ⟨c, ⟨c1, x, G9, hRc, -, -, -, hh⟩ | ⟨c1, r3, G4, ha, rfl, rfl⟩⟩ | ⟨c, r3, G4, ha, rfl, rfl⟩
  · have hk : tK b n p = 200 := by omega
    rw [if_neg (by omega)]
    have hw := hp.2.1.2.2.2.2 hk
    have hL := (tK_w (b := b) hp.1.2.1 hp.2.2.2 (by omega) (by omega)).2
    have hI := hRc (fun q => G = q.2 ∧ ∃ k : Nat, q.1.toInt = (k : Int) ∧ ∀ j, j < k → j < NS.length → NS.getD j [] ≠ tL b n p) ⟨rfl, 0, z, fun j a _ => by omega⟩ (by
      rintro ⟨x1, G_1⟩ ⟨xn, G_1n⟩ ⟨h1, k, h2, h3⟩ ⟨x1q, G_1q, xnq, G_1nq, e1, e2, -, -, c2, y27, e27, y28, e28, y29, e29, c29, y31, t31, ex, eG⟩
      obtain ⟨rfl, rfl⟩ := Prod.mk.inj e1
      obtain ⟨rfl, rfl⟩ := Prod.mk.inj e2
      simp only at h1 h2
      subst h1
      subst ex
      subst eG
      refine ⟨rfl, k + 1, by show y31.toInt = _; omega, fun j hj hl => ?_⟩
      by_cases hjk : j = k
      · subst hjk
        intro e
        have := lc_ne e29 c29
        rw [e27, e28, cn_eq h2, (hN j hl).1, hw, e] at this
        exact this rfl
      · exact h3 j (by omega) hl)
    obtain ⟨hG, k, hk2, hno⟩ := hI
    simp only at hG hk2
    subst hG
    rcases hh with ⟨c2, y19, e19, G20, -, hF20, e34, r21, G22, ha, rfl, rfl⟩ | ⟨c2, y27, e27, y28, e28, y29, e29, c29, r32, G33, ha, rfl, rfl⟩
    · rw [if_neg (fun q => by obtain ⟨j, hj, e⟩ := mem_getD.mp q; exact hno j (by omega) hj e)]
      have hp20 := hp.fr hF20 (by decide) (by decide) (by decide) (by decide)
      have hn := c_next ha hp20 (by omega)
      refine Or.inr ⟨rfl, hn.1, hn.2, ?_⟩
      refine NmC.fr (G := G20) (NmC_snoc hN (f := G.2.1 34) ?_ rfl hL) ha.2.1 (by decide) (by decide)
      rw [e34, cn_eq hm, e19, hw]
    · have hlt : k < NS.length := by omega
      rw [if_pos (mem_getD.mpr ⟨k, hlt, ?_⟩)]
      · exact Or.inl ⟨_, rfl, (c_ref ha hp).1⟩
      · have := lc_eq e29 c29
        rw [e27, e28, cn_eq hk2, (hN k hlt).1, hw] at this
        exact w5_inj (hN k hlt).2.2 hL.2 (hN k hlt).2.1 hL.1 this
  · omega
  · rw [if_pos (by omega)]
    exact Or.inl ⟨_, rfl, (c_ref ha hp).1⟩
theorem c_name_35 {b : Nat → Int} {n p : Nat} {G G1 : GS} {m r : Int32} {NS : List (List Int)} (h : P_rName_35 m G r G1) (hp : CPx b n G p) (hN : NmC 35 NS G) (hm : m.toInt = (NS.length : Int)) (hmx : NS.length < 4) : (∃ f, pName b n NS p = .inl f ∧ CF f r G1) ∨ (pName b n NS p = .inr (tL b n p, tNx b n p) ∧ r.toInt = 1 ∧ CPx b n G1 (tNx b n p) ∧ NmC 35 (NS ++ [tL b n p]) G1) := by
  obtain ⟨-, -, -, hh⟩ := h
  have k1 := hp.2.1.1
  have z : (0 : Int32).toInt = ((0 : Nat) : Int) := rfl
  unfold pName
  rcases hh with ⟨c, ⟨c1, x, G9, hRc, -, -, -, hh⟩ | ⟨c1, r3, G4, ha, rfl, rfl⟩⟩ | ⟨c, r3, G4, ha, rfl, rfl⟩
  · have hk : tK b n p = 200 := by omega
    rw [if_neg (by omega)]
    have hw := hp.2.1.2.2.2.2 hk
    have hL := (tK_w (b := b) hp.1.2.1 hp.2.2.2 (by omega) (by omega)).2
    have hI := hRc (fun q => G = q.2 ∧ ∃ k : Nat, q.1.toInt = (k : Int) ∧ ∀ j, j < k → j < NS.length → NS.getD j [] ≠ tL b n p) ⟨rfl, 0, z, fun j a _ => by omega⟩ (by
      rintro ⟨x1, G_1⟩ ⟨xn, G_1n⟩ ⟨h1, k, h2, h3⟩ ⟨x1q, G_1q, xnq, G_1nq, e1, e2, -, -, c2, y27, e27, y28, e28, y29, e29, c29, y31, t31, ex, eG⟩
      obtain ⟨rfl, rfl⟩ := Prod.mk.inj e1
      obtain ⟨rfl, rfl⟩ := Prod.mk.inj e2
      simp only at h1 h2
      subst h1
      subst ex
      subst eG
      refine ⟨rfl, k + 1, by show y31.toInt = _; omega, fun j hj hl => ?_⟩
      by_cases hjk : j = k
      · subst hjk
        intro e
        have := lc_ne e29 c29
        rw [e27, e28, cn_eq h2, (hN j hl).1, hw, e] at this
        exact this rfl
      · exact h3 j (by omega) hl)
    obtain ⟨hG, k, hk2, hno⟩ := hI
    simp only at hG hk2
    subst hG
    rcases hh with ⟨c2, y19, e19, G20, -, hF20, e34, r21, G22, ha, rfl, rfl⟩ | ⟨c2, y27, e27, y28, e28, y29, e29, c29, r32, G33, ha, rfl, rfl⟩
    · rw [if_neg (fun q => by obtain ⟨j, hj, e⟩ := mem_getD.mp q; exact hno j (by omega) hj e)]
      have hp20 := hp.fr hF20 (by decide) (by decide) (by decide) (by decide)
      have hn := c_next ha hp20 (by omega)
      refine Or.inr ⟨rfl, hn.1, hn.2, ?_⟩
      refine NmC.fr (G := G20) (NmC_snoc hN (f := G.2.1 35) ?_ rfl hL) ha.2.1 (by decide) (by decide)
      rw [e34, cn_eq hm, e19, hw]
    · have hlt : k < NS.length := by omega
      rw [if_pos (mem_getD.mpr ⟨k, hlt, ?_⟩)]
      · exact Or.inl ⟨_, rfl, (c_ref ha hp).1⟩
      · have := lc_eq e29 c29
        rw [e27, e28, cn_eq hk2, (hN k hlt).1, hw] at this
        exact w5_inj (hN k hlt).2.2 hL.2 (hN k hlt).2.1 hL.1 this
  · omega
  · rw [if_pos (by omega)]
    exact Or.inl ⟨_, rfl, (c_ref ha hp).1⟩
theorem c_name_36 {b : Nat → Int} {n p : Nat} {G G1 : GS} {m r : Int32} {NS : List (List Int)} (h : P_rName_36 m G r G1) (hp : CPx b n G p) (hN : NmC 36 NS G) (hm : m.toInt = (NS.length : Int)) (hmx : NS.length < 6) : (∃ f, pName b n NS p = .inl f ∧ CF f r G1) ∨ (pName b n NS p = .inr (tL b n p, tNx b n p) ∧ r.toInt = 1 ∧ CPx b n G1 (tNx b n p) ∧ NmC 36 (NS ++ [tL b n p]) G1) := by
  obtain ⟨-, -, -, hh⟩ := h
  have k1 := hp.2.1.1
  have z : (0 : Int32).toInt = ((0 : Nat) : Int) := rfl
  unfold pName
  rcases hh with ⟨c, ⟨c1, x, G9, hRc, -, -, -, hh⟩ | ⟨c1, r3, G4, ha, rfl, rfl⟩⟩ | ⟨c, r3, G4, ha, rfl, rfl⟩
  · have hk : tK b n p = 200 := by omega
    rw [if_neg (by omega)]
    have hw := hp.2.1.2.2.2.2 hk
    have hL := (tK_w (b := b) hp.1.2.1 hp.2.2.2 (by omega) (by omega)).2
    have hI := hRc (fun q => G = q.2 ∧ ∃ k : Nat, q.1.toInt = (k : Int) ∧ ∀ j, j < k → j < NS.length → NS.getD j [] ≠ tL b n p) ⟨rfl, 0, z, fun j a _ => by omega⟩ (by
      rintro ⟨x1, G_1⟩ ⟨xn, G_1n⟩ ⟨h1, k, h2, h3⟩ ⟨x1q, G_1q, xnq, G_1nq, e1, e2, -, -, c2, y27, e27, y28, e28, y29, e29, c29, y31, t31, ex, eG⟩
      obtain ⟨rfl, rfl⟩ := Prod.mk.inj e1
      obtain ⟨rfl, rfl⟩ := Prod.mk.inj e2
      simp only at h1 h2
      subst h1
      subst ex
      subst eG
      refine ⟨rfl, k + 1, by show y31.toInt = _; omega, fun j hj hl => ?_⟩
      by_cases hjk : j = k
      · subst hjk
        intro e
        have := lc_ne e29 c29
        rw [e27, e28, cn_eq h2, (hN j hl).1, hw, e] at this
        exact this rfl
      · exact h3 j (by omega) hl)
    obtain ⟨hG, k, hk2, hno⟩ := hI
    simp only at hG hk2
    subst hG
    rcases hh with ⟨c2, y19, e19, G20, -, hF20, e34, r21, G22, ha, rfl, rfl⟩ | ⟨c2, y27, e27, y28, e28, y29, e29, c29, r32, G33, ha, rfl, rfl⟩
    · rw [if_neg (fun q => by obtain ⟨j, hj, e⟩ := mem_getD.mp q; exact hno j (by omega) hj e)]
      have hp20 := hp.fr hF20 (by decide) (by decide) (by decide) (by decide)
      have hn := c_next ha hp20 (by omega)
      refine Or.inr ⟨rfl, hn.1, hn.2, ?_⟩
      refine NmC.fr (G := G20) (NmC_snoc hN (f := G.2.1 36) ?_ rfl hL) ha.2.1 (by decide) (by decide)
      rw [e34, cn_eq hm, e19, hw]
    · have hlt : k < NS.length := by omega
      rw [if_pos (mem_getD.mpr ⟨k, hlt, ?_⟩)]
      · exact Or.inl ⟨_, rfl, (c_ref ha hp).1⟩
      · have := lc_eq e29 c29
        rw [e27, e28, cn_eq hk2, (hN k hlt).1, hw] at this
        exact w5_inj (hN k hlt).2.2 hL.2 (hN k hlt).2.1 hL.1 this
  · omega
  · rw [if_pos (by omega)]
    exact Or.inl ⟨_, rfl, (c_ref ha hp).1⟩

/-! small pieces by the reference -/
theorem lc_iff {z : Int32} {x y : Int64} (e : z = lg_cmp x y) : z.toInt = 0 ↔ x = y := ⟨lc_eq e, fun h => Classical.byContradiction (fun q => lc_ne e q h)⟩
theorem w8_kw {L : List Int} (hL : LW L) {i : Nat} (hi : i < 23) {c : Int64} (hc : w8 (KW.getD i []) = c) : w8 L = c ↔ kwd L = 128 + (i : Int) := by
  subst hc
  rw [kwd_iff hi]
  exact ⟨fun h => w8_inj hL.2 (KW_n i hi).2 hL.1 (KW_n i hi).1 h, fun h => by rw [h]⟩
def MP (b : Nat → Int) (n : Nat) (G : GS) (p : Nat) : Prop := XM b n G ∧ TM b n G p ∧ ((G.1 66 2).toInt = 0 ∧ (G.1 66 3).toInt = -1) ∧ p ≤ n
def MF (f : Int × Int) (G1 : GS) : Prop := (G1.1 66 2).toInt = f.1 ∧ (G1.1 66 3).toInt = f.2 ∧ 0 < f.1
theorem MP.fr {b : Nat → Int} {n p : Nat} {rs : List Nat} {fs : List (Nat × Nat)} {G G1 : GS} (h : MP b n G p) (hF : Fr rs fs G G1) (h1 : 66 ∉ rs) (h2 : (66, 2) ∉ fs ∧ (66, 3) ∉ fs ∧ (66, 4) ∉ fs ∧ (66, 5) ∉ fs ∧ (66, 6) ∉ fs ∧ (66, 7) ∉ fs ∧ (66, 8) ∉ fs ∧ (66, 9) ∉ fs) (h3 : 67 ∉ rs) (h4 : ∀ x ∈ fs, x.1 ≠ 67) : MP b n G1 p := by
  obtain ⟨a1, a2, a3, a4⟩ := h
  obtain ⟨g2, g3, g4, g5, g6, g7, g8, g9⟩ := h2
  refine ⟨a1.fr hF h1 g5 h3 h4, ?_, by rw [hF.i 66 2 h1 g2, hF.i 66 3 h1 g3]; exact a3, a4⟩
  unfold TM at a2 ⊢
  rw [hF.i 66 6 h1 g6, hF.i 66 7 h1 g7, hF.i 66 4 h1 g4, hF.i 66 8 h1 g8, hF.l 66 9 h1 g9]
  exact a2
theorem tK_r {b : Nat → Int} {n p : Nat} (hn : n ≤ 1600) (hp : p ≤ n) : (37 ≤ tK b n p ∧ tK b n p ≤ 62) ∨ (128 ≤ tK b n p ∧ tK b n p ≤ 203) := by
  unfold tK
  by_cases c1 : n ≤ tS b n p
  · rw [if_pos c1]
    omega
  · rw [if_neg c1]
    by_cases c2 : ltr (b (tS b n p)) = true
    · rw [if_pos c2]
      have := kwd_r (tL b n p)
      split <;> omega
    · rw [if_neg c2]
      by_cases c4 : dgt (b (tS b n p)) = true
      · rw [if_pos c4]
        split <;> omega
      · rw [if_neg c4]
        by_cases c5 : sgn (b (tS b n p)) = true
        · rw [if_pos c5]
          have := sgn_i.mp c5
          omega
        · rw [if_neg c5]
          omega
theorem MP.so {b : Nat → Int} {n p : Nat} {G : GS} (h : MP b n G p) : ((G.1 66 6).toInt = 3 ↔ tK b n p = 202) ∧ ((G.1 66 6).toInt = 2 ↔ tK b n p = 201) ∧ ((G.1 66 6).toInt = 1 ↔ (128 ≤ tK b n p ∧ tK b n p ≤ 200)) ∧ ((G.1 66 6).toInt = 0 ↔ tK b n p = 203) ∧ (∀ c : Int, 4 ≤ c → c ≤ 127 → ((G.1 66 6).toInt = c ↔ tK b n p = c)) := by
  obtain ⟨s1, s2, s3, s4, s5⟩ := h.2.1.1
  have hr := tK_r (b := b) h.1.2.1 h.2.2.2
  refine ⟨by omega, by omega, by omega, by omega, fun c h1 h2 => by omega⟩
theorem m_wrong {b : Nat → Int} {n p : Nat} {G G1 : GS} {c : Int32} (h : Q_wrong c G G1) (hp : MP b n G p) (hc : 0 < c.toInt) : MF (fl b n c.toInt p) G1 ∧ Fr [] [(66, 2), (66, 3)] G G1 := by
  obtain ⟨-, hF, -, hh⟩ := h
  have hs := hp.so
  have k7 := hp.2.1.2.1
  have k2 := hp.2.2.1
  have o : (1 : Int32).toInt = 1 := rfl
  refine ⟨?_, hF⟩
  unfold MF fl
  rcases hh with ⟨c1, ⟨c2, -, e2, e3⟩ | ⟨c2, -, e2, e3⟩⟩ | ⟨c1, -⟩
  · rw [if_pos (hs.1.mp c2), e2, e3]
    exact ⟨rfl, k7, by show (0 : Int) < 1; decide⟩
  · rw [if_neg (fun q => c2 (hs.1.mpr q)), e2, e3]
    exact ⟨rfl, k7, hc⟩
  · omega
theorem m_next {b : Nat → Int} {n p : Nat} {G G1 : GS} (h : Q_token G G1) (hp : MP b n G p) (hk : tK b n p ≠ 202) : MP b n G1 (tNx b n p) := by
  obtain ⟨a1, a2, a3, a4⟩ := hp
  have ht := tN_p (b := b) a1.2.1 a4
  obtain ⟨h2, h3⟩ := r_tok a1 (a2.2.2.1 hk) ht.2.1 h
  refine ⟨h2, h3, ?_, ht.2.1⟩
  rw [h.2.1.i 66 2 (by decide) (by decide), h.2.1.i 66 3 (by decide) (by decide)]
  exact a3
theorem m_isWord {b : Nat → Int} {n p i : Nat} {G G1 : GS} {c : Int64} {r : Int32} (hi : i < 23) (hc : w8 (KW.getD i []) = c) (h : Q_isWord c G r G1) (hp : MP b n G p) : G = G1 ∧ (r.toInt ≠ 0 ↔ tK b n p = 128 + (i : Int)) := by
  obtain ⟨-, hF, -, -, hh⟩ := h
  have hs := hp.so.2.2.1
  have z : (0 : Int32).toInt = 0 := rfl
  have o : (1 : Int32).toInt = 1 := rfl
  refine ⟨hF.nil, ?_⟩
  rcases hh with ⟨c1, y2, e2, y3, e3, hh⟩ | ⟨c1, e, -⟩
  · have hk := hs.mp c1
    have hw := tK_w (b := b) hp.1.2.1 hp.2.2.2 hk.1 hk.2
    have h9 := hp.2.1.2.2.2.2 hk.1 hk.2
    have q : y3.toInt = 0 ↔ tK b n p = 128 + (i : Int) := by
      rw [lc_iff e3, e2, h9, hw.1]
      exact w8_kw hw.2 hi hc
    rcases hh with ⟨c2, e, -⟩ | ⟨c2, e, -⟩
    · subst e
      exact ⟨fun _ => q.mp c2, fun _ => by omega⟩
    · subst e
      exact ⟨fun q2 => by omega, fun q2 => absurd (q.mpr q2) c2⟩
  · subst e
    exact ⟨fun q2 => by omega, fun q2 => by omega⟩
theorem m_mark {L : List Int} {G G1 : GS} {r : Int32} (hw : G.2.1 66 9 = w8 L) (hL : LW L) (h : Q_mark G r G1) : G = G1 ∧ (kwd L = 140 → r.toInt = 1) ∧ (kwd L = 141 → r.toInt = 2) ∧ (kwd L = 142 → r.toInt = 4) ∧ (kwd L = 143 → r.toInt = 8) ∧ (kwd L < 140 ∨ 143 < kwd L → r.toInt = 0) := by
  obtain ⟨-, hF, -, -, h⟩ := h
  refine ⟨hF.nil, ?_⟩
  have v0 : (0 : Int32).toInt = 0 := rfl
  have v1 : (1 : Int32).toInt = 1 := rfl
  have v2 : (2 : Int32).toInt = 2 := rfl
  have v4 : (4 : Int32).toInt = 4 := rfl
  have v8 : (8 : Int32).toInt = 8 := rfl
  obtain ⟨y0, e0, z0, f0, h⟩ := h
  have q0 : z0.toInt = 0 ↔ kwd L = 128 + ((12 : Nat) : Int) := (lc_iff f0).trans (by rw [e0, hw]; exact w8_kw hL (by decide) (by decide +kernel))
  rcases h with ⟨c0, e, -⟩ | ⟨c0, h⟩
  · subst e
    have := q0.mp c0
    exact ⟨fun _ => by omega, fun _ => by omega, fun _ => by omega, fun _ => by omega, fun _ => by omega⟩
  obtain ⟨y1, e1, z1, f1, h⟩ := h
  have q1 : z1.toInt = 0 ↔ kwd L = 128 + ((13 : Nat) : Int) := (lc_iff f1).trans (by rw [e1, hw]; exact w8_kw hL (by decide) (by decide +kernel))
  rcases h with ⟨c1, e, -⟩ | ⟨c1, h⟩
  · subst e
    have := q1.mp c1
    exact ⟨fun _ => by omega, fun _ => by omega, fun _ => by omega, fun _ => by omega, fun _ => by omega⟩
  obtain ⟨y2, e2, z2, f2, h⟩ := h
  have q2 : z2.toInt = 0 ↔ kwd L = 128 + ((14 : Nat) : Int) := (lc_iff f2).trans (by rw [e2, hw]; exact w8_kw hL (by decide) (by decide +kernel))
  rcases h with ⟨c2, e, -⟩ | ⟨c2, h⟩
  · subst e
    have := q2.mp c2
    exact ⟨fun _ => by omega, fun _ => by omega, fun _ => by omega, fun _ => by omega, fun _ => by omega⟩
  obtain ⟨y3, e3, z3, f3, h⟩ := h
  have q3 : z3.toInt = 0 ↔ kwd L = 128 + ((15 : Nat) : Int) := (lc_iff f3).trans (by rw [e3, hw]; exact w8_kw hL (by decide) (by decide +kernel))
  rcases h with ⟨c3, e, -⟩ | ⟨c3, h⟩
  · subst e
    have := q3.mp c3
    exact ⟨fun _ => by omega, fun _ => by omega, fun _ => by omega, fun _ => by omega, fun _ => by omega⟩
  obtain ⟨e, -⟩ := h
  subst e
  exact ⟨fun _ => by omega, fun _ => by omega, fun _ => by omega, fun _ => by omega, fun _ => by omega⟩
theorem m_own {L : List Int} {G G1 : GS} {r : Int32} (hw : G.2.1 66 9 = w8 L) (hL : LW L) (h : Q_isOwn G r G1) : G = G1 ∧ (r.toInt = 0 ↔ kwd L = 200) := by
  obtain ⟨-, hF, -, h⟩ := h
  refine ⟨hF.nil, ?_⟩
  have v0 : (0 : Int32).toInt = 0 := rfl
  have v1 : (1 : Int32).toInt = 1 := rfl
  have hr := kwd_r L
  obtain ⟨y0, e0, z0, f0, h⟩ := h
  have q0 : z0.toInt = 0 ↔ kwd L = 128 := (lc_iff f0).trans (by rw [e0, hw]; exact w8_kw hL (i := 0) (by decide) (by decide +kernel))
  rcases h with ⟨c0, e, -⟩ | ⟨c0, h⟩
  · subst e
    have w := q0.mp c0
    exact ⟨fun q => absurd q (by decide), fun q => absurd (w.symm.trans q) (by decide)⟩
  have n0 : kwd L ≠ 128 := fun w => c0 (q0.mpr w)
  clear q0 c0 f0 z0 e0 y0
  obtain ⟨y1, e1, z1, f1, h⟩ := h
  have q1 : z1.toInt = 0 ↔ kwd L = 139 := (lc_iff f1).trans (by rw [e1, hw]; exact w8_kw hL (i := 11) (by decide) (by decide +kernel))
  rcases h with ⟨c1, e, -⟩ | ⟨c1, h⟩
  · subst e
    have w := q1.mp c1
    exact ⟨fun q => absurd q (by decide), fun q => absurd (w.symm.trans q) (by decide)⟩
  have n1 : kwd L ≠ 139 := fun w => c1 (q1.mpr w)
  clear q1 c1 f1 z1 e1 y1
  obtain ⟨y2, e2, z2, f2, h⟩ := h
  have q2 : z2.toInt = 0 ↔ kwd L = 129 := (lc_iff f2).trans (by rw [e2, hw]; exact w8_kw hL (i := 1) (by decide) (by decide +kernel))
  rcases h with ⟨c2, e, -⟩ | ⟨c2, h⟩
  · subst e
    have w := q2.mp c2
    exact ⟨fun q => absurd q (by decide), fun q => absurd (w.symm.trans q) (by decide)⟩
  have n2 : kwd L ≠ 129 := fun w => c2 (q2.mpr w)
  clear q2 c2 f2 z2 e2 y2
  obtain ⟨y3, e3, z3, f3, h⟩ := h
  have q3 : z3.toInt = 0 ↔ kwd L = 130 := (lc_iff f3).trans (by rw [e3, hw]; exact w8_kw hL (i := 2) (by decide) (by decide +kernel))
  rcases h with ⟨c3, e, -⟩ | ⟨c3, h⟩
  · subst e
    have w := q3.mp c3
    exact ⟨fun q => absurd q (by decide), fun q => absurd (w.symm.trans q) (by decide)⟩
  have n3 : kwd L ≠ 130 := fun w => c3 (q3.mpr w)
  clear q3 c3 f3 z3 e3 y3
  obtain ⟨y4, e4, z4, f4, h⟩ := h
  have q4 : z4.toInt = 0 ↔ kwd L = 131 := (lc_iff f4).trans (by rw [e4, hw]; exact w8_kw hL (i := 3) (by decide) (by decide +kernel))
  rcases h with ⟨c4, e, -⟩ | ⟨c4, h⟩
  · subst e
    have w := q4.mp c4
    exact ⟨fun q => absurd q (by decide), fun q => absurd (w.symm.trans q) (by decide)⟩
  have n4 : kwd L ≠ 131 := fun w => c4 (q4.mpr w)
  clear q4 c4 f4 z4 e4 y4
  obtain ⟨y5, e5, z5, f5, h⟩ := h
  have q5 : z5.toInt = 0 ↔ kwd L = 132 := (lc_iff f5).trans (by rw [e5, hw]; exact w8_kw hL (i := 4) (by decide) (by decide +kernel))
  rcases h with ⟨c5, e, -⟩ | ⟨c5, h⟩
  · subst e
    have w := q5.mp c5
    exact ⟨fun q => absurd q (by decide), fun q => absurd (w.symm.trans q) (by decide)⟩
  have n5 : kwd L ≠ 132 := fun w => c5 (q5.mpr w)
  clear q5 c5 f5 z5 e5 y5
  obtain ⟨y6, e6, z6, f6, h⟩ := h
  have q6 : z6.toInt = 0 ↔ kwd L = 133 := (lc_iff f6).trans (by rw [e6, hw]; exact w8_kw hL (i := 5) (by decide) (by decide +kernel))
  rcases h with ⟨c6, e, -⟩ | ⟨c6, h⟩
  · subst e
    have w := q6.mp c6
    exact ⟨fun q => absurd q (by decide), fun q => absurd (w.symm.trans q) (by decide)⟩
  have n6 : kwd L ≠ 133 := fun w => c6 (q6.mpr w)
  clear q6 c6 f6 z6 e6 y6
  obtain ⟨y7, e7, z7, f7, h⟩ := h
  have q7 : z7.toInt = 0 ↔ kwd L = 134 := (lc_iff f7).trans (by rw [e7, hw]; exact w8_kw hL (i := 6) (by decide) (by decide +kernel))
  rcases h with ⟨c7, e, -⟩ | ⟨c7, h⟩
  · subst e
    have w := q7.mp c7
    exact ⟨fun q => absurd q (by decide), fun q => absurd (w.symm.trans q) (by decide)⟩
  have n7 : kwd L ≠ 134 := fun w => c7 (q7.mpr w)
  clear q7 c7 f7 z7 e7 y7
  obtain ⟨y8, e8, z8, f8, h⟩ := h
  have q8 : z8.toInt = 0 ↔ kwd L = 135 := (lc_iff f8).trans (by rw [e8, hw]; exact w8_kw hL (i := 7) (by decide) (by decide +kernel))
  rcases h with ⟨c8, e, -⟩ | ⟨c8, h⟩
  · subst e
    have w := q8.mp c8
    exact ⟨fun q => absurd q (by decide), fun q => absurd (w.symm.trans q) (by decide)⟩
  have n8 : kwd L ≠ 135 := fun w => c8 (q8.mpr w)
  clear q8 c8 f8 z8 e8 y8
  obtain ⟨y9, e9, z9, f9, h⟩ := h
  have q9 : z9.toInt = 0 ↔ kwd L = 136 := (lc_iff f9).trans (by rw [e9, hw]; exact w8_kw hL (i := 8) (by decide) (by decide +kernel))
  rcases h with ⟨c9, e, -⟩ | ⟨c9, h⟩
  · subst e
    have w := q9.mp c9
    exact ⟨fun q => absurd q (by decide), fun q => absurd (w.symm.trans q) (by decide)⟩
  have n9 : kwd L ≠ 136 := fun w => c9 (q9.mpr w)
  clear q9 c9 f9 z9 e9 y9
  obtain ⟨y10, e10, z10, f10, h⟩ := h
  have q10 : z10.toInt = 0 ↔ kwd L = 137 := (lc_iff f10).trans (by rw [e10, hw]; exact w8_kw hL (i := 9) (by decide) (by decide +kernel))
  rcases h with ⟨c10, e, -⟩ | ⟨c10, h⟩
  · subst e
    have w := q10.mp c10
    exact ⟨fun q => absurd q (by decide), fun q => absurd (w.symm.trans q) (by decide)⟩
  have n10 : kwd L ≠ 137 := fun w => c10 (q10.mpr w)
  clear q10 c10 f10 z10 e10 y10
  obtain ⟨y11, e11, z11, f11, h⟩ := h
  have q11 : z11.toInt = 0 ↔ kwd L = 138 := (lc_iff f11).trans (by rw [e11, hw]; exact w8_kw hL (i := 10) (by decide) (by decide +kernel))
  rcases h with ⟨c11, e, -⟩ | ⟨c11, h⟩
  · subst e
    have w := q11.mp c11
    exact ⟨fun q => absurd q (by decide), fun q => absurd (w.symm.trans q) (by decide)⟩
  have n11 : kwd L ≠ 138 := fun w => c11 (q11.mpr w)
  clear q11 c11 f11 z11 e11 y11
  obtain ⟨rm, Gm, hm, h⟩ := h
  obtain ⟨-, m1, m2, m3, m4, m5⟩ := m_mark hw hL hm
  rcases h with ⟨cm, e, -⟩ | ⟨cm, h⟩
  · subst e
    refine ⟨fun q => absurd q (by decide), fun q => ?_⟩
    have := m5 (by rw [q]; decide)
    omega
  have n12 : ¬ (140 ≤ kwd L ∧ kwd L ≤ 143) := by
    clear h hr
    intro q
    have : kwd L = 140 ∨ kwd L = 141 ∨ kwd L = 142 ∨ kwd L = 143 := by omega
    rcases this with e | e | e | e
    · have := m1 e
      omega
    · have := m2 e
      omega
    · have := m3 e
      omega
    · have := m4 e
      omega
  clear m1 m2 m3 m4 m5 cm hm
  obtain ⟨y13, e13, z13, f13, h⟩ := h
  have q13 : z13.toInt = 0 ↔ kwd L = 147 := (lc_iff f13).trans (by rw [e13, hw]; exact w8_kw hL (i := 19) (by decide) (by decide +kernel))
  rcases h with ⟨c13, e, -⟩ | ⟨c13, h⟩
  · subst e
    have w := q13.mp c13
    exact ⟨fun q => absurd q (by decide), fun q => absurd (w.symm.trans q) (by decide)⟩
  have n13 : kwd L ≠ 147 := fun w => c13 (q13.mpr w)
  clear q13 c13 f13 z13 e13 y13
  obtain ⟨y14, e14, z14, f14, h⟩ := h
  have q14 : z14.toInt = 0 ↔ kwd L = 148 := (lc_iff f14).trans (by rw [e14, hw]; exact w8_kw hL (i := 20) (by decide) (by decide +kernel))
  rcases h with ⟨c14, e, -⟩ | ⟨c14, h⟩
  · subst e
    have w := q14.mp c14
    exact ⟨fun q => absurd q (by decide), fun q => absurd (w.symm.trans q) (by decide)⟩
  have n14 : kwd L ≠ 148 := fun w => c14 (q14.mpr w)
  clear q14 c14 f14 z14 e14 y14
  obtain ⟨y15, e15, z15, f15, h⟩ := h
  have q15 : z15.toInt = 0 ↔ kwd L = 149 := (lc_iff f15).trans (by rw [e15, hw]; exact w8_kw hL (i := 21) (by decide) (by decide +kernel))
  rcases h with ⟨c15, e, -⟩ | ⟨c15, h⟩
  · subst e
    have w := q15.mp c15
    exact ⟨fun q => absurd q (by decide), fun q => absurd (w.symm.trans q) (by decide)⟩
  have n15 : kwd L ≠ 149 := fun w => c15 (q15.mpr w)
  clear q15 c15 f15 z15 e15 y15
  obtain ⟨y16, e16, z16, f16, h⟩ := h
  have q16 : z16.toInt = 0 ↔ kwd L = 150 := (lc_iff f16).trans (by rw [e16, hw]; exact w8_kw hL (i := 22) (by decide) (by decide +kernel))
  rcases h with ⟨c16, e, -⟩ | ⟨c16, h⟩
  · subst e
    have w := q16.mp c16
    exact ⟨fun q => absurd q (by decide), fun q => absurd (w.symm.trans q) (by decide)⟩
  have n16 : kwd L ≠ 150 := fun w => c16 (q16.mpr w)
  clear q16 c16 f16 z16 e16 y16
  obtain ⟨y17, e17, z17, f17, h⟩ := h
  have q17 : z17.toInt = 0 ↔ kwd L = 145 := (lc_iff f17).trans (by rw [e17, hw]; exact w8_kw hL (i := 17) (by decide) (by decide +kernel))
  rcases h with ⟨c17, e, -⟩ | ⟨c17, h⟩
  · subst e
    have w := q17.mp c17
    exact ⟨fun q => absurd q (by decide), fun q => absurd (w.symm.trans q) (by decide)⟩
  have n17 : kwd L ≠ 145 := fun w => c17 (q17.mpr w)
  clear q17 c17 f17 z17 e17 y17
  obtain ⟨y18, e18, z18, f18, h⟩ := h
  have q18 : z18.toInt = 0 ↔ kwd L = 144 := (lc_iff f18).trans (by rw [e18, hw]; exact w8_kw hL (i := 16) (by decide) (by decide +kernel))
  rcases h with ⟨c18, e, -⟩ | ⟨c18, h⟩
  · subst e
    have w := q18.mp c18
    exact ⟨fun q => absurd q (by decide), fun q => absurd (w.symm.trans q) (by decide)⟩
  have n18 : kwd L ≠ 144 := fun w => c18 (q18.mpr w)
  clear q18 c18 f18 z18 e18 y18
  obtain ⟨y19, e19, z19, f19, h⟩ := h
  have q19 : z19.toInt = 0 ↔ kwd L = 146 := (lc_iff f19).trans (by rw [e19, hw]; exact w8_kw hL (i := 18) (by decide) (by decide +kernel))
  rcases h with ⟨c19, e, -⟩ | ⟨c19, h⟩
  · subst e
    have w := q19.mp c19
    exact ⟨fun q => absurd q (by decide), fun q => absurd (w.symm.trans q) (by decide)⟩
  have n19 : kwd L ≠ 146 := fun w => c19 (q19.mpr w)
  clear q19 c19 f19 z19 e19 y19
  obtain ⟨e, -⟩ := h
  subst e
  exact ⟨fun _ => by omega, fun _ => v0⟩
theorem m_isName {b : Nat → Int} {n p : Nat} {G G1 : GS} {r : Int32} (h : Q_isName G r G1) (hp : MP b n G p) : G = G1 ∧ (r.toInt ≠ 0 ↔ tK b n p = 200) := by
  obtain ⟨-, hF, -, hh⟩ := h
  have hs := hp.so.2.2.1
  have z : (0 : Int32).toInt = 0 := rfl
  have o : (1 : Int32).toInt = 1 := rfl
  refine ⟨hF.nil, ?_⟩
  rcases hh with ⟨c1, r2, G3, ho, hh⟩ | ⟨c1, e, -⟩
  · have hk := hs.mp c1
    have hw := tK_w (b := b) hp.1.2.1 hp.2.2.2 hk.1 hk.2
    have h9 := hp.2.1.2.2.2.2 hk.1 hk.2
    have q := (m_own h9 hw.2 ho).2
    rw [← hw.1] at q
    rcases hh with ⟨c2, e, -⟩ | ⟨c2, e, -⟩
    · subst e
      exact ⟨fun _ => q.mp c2, fun _ => by omega⟩
    · subst e
      exact ⟨fun q2 => by omega, fun q2 => absurd (q.mpr q2) c2⟩
  · subst e
    exact ⟨fun q2 => by omega, fun q2 => by omega⟩
theorem m_want {b : Nat → Int} {n p i : Nat} {G G1 : GS} {c : Int64} (hi : i < 23) (hc : w8 (KW.getD i []) = c) (h : Q_want c G G1) (hp : MP b n G p) : (∃ f, pKw b n (128 + (i : Int)) p = .inl f ∧ MF f G1) ∨ (pKw b n (128 + (i : Int)) p = .inr ((), tNx b n p) ∧ MP b n G1 (tNx b n p)) := by
  obtain ⟨-, -, -, hh⟩ := h
  have k2 := hp.2.2.1
  unfold pKw
  rcases hh with ⟨c1, r3, G4, hw, hh⟩ | ⟨c1, -⟩
  · obtain ⟨rfl, hr⟩ := m_isWord hi hc hw hp
    rcases hh with ⟨c2, G22, hq, rfl⟩ | ⟨c2, G14, hq, rfl⟩
    · rw [if_neg (fun q => hr.mpr q c2)]
      exact Or.inl ⟨_, rfl, (m_wrong hq hp (by decide)).1⟩
    · have := hr.mp c2
      rw [if_pos this]
      exact Or.inr ⟨rfl, m_next hq hp (by omega)⟩
  · omega
theorem m_takes {b : Nat → Int} {n p i : Nat} {G G1 : GS} {c : Int64} {r : Int32} (hi : i < 23) (hc : w8 (KW.getD i []) = c) (h : Q_takes c G r G1) (hp : MP b n G p) : (r.toInt = 0 ∧ tK b n p ≠ 128 + (i : Int) ∧ G = G1) ∨ (r.toInt = 1 ∧ tK b n p = 128 + (i : Int) ∧ MP b n G1 (tNx b n p)) := by
  obtain ⟨-, -, -, -, hh⟩ := h
  have k2 := hp.2.2.1
  have z : (0 : Int32).toInt = 0 := rfl
  have o : (1 : Int32).toInt = 1 := rfl
  rcases hh with ⟨c1, r5, G6, hw, hh⟩ | ⟨c1, -⟩
  · obtain ⟨rfl, hr⟩ := m_isWord hi hc hw hp
    rcases hh with ⟨c2, rfl, rfl⟩ | ⟨c2, G21, hq, rfl, rfl⟩
    · exact Or.inl ⟨z, fun q => hr.mpr q c2, rfl⟩
    · have := hr.mp c2
      exact Or.inr ⟨o, this, m_next hq hp (by omega)⟩
  · omega
theorem m_told {b : Nat → Int} {n p : Nat} {G G1 : GS} {lo hi r : Int32} (h : Q_told lo hi G r G1) (hp : MP b n G p) : (∃ f, pNum b n lo.toInt hi.toInt p = .inl f ∧ MF f G1) ∨ (pNum b n lo.toInt hi.toInt p = .inr (tV b n p, tNx b n p) ∧ MP b n G1 (tNx b n p) ∧ r.toInt = tV b n p ∧ lo.toInt ≤ tV b n p ∧ tV b n p ≤ hi.toInt) := by
  obtain ⟨-, -, -, hh⟩ := h
  have k2 := hp.2.2.1
  have hs := hp.so.2.1
  have k8 := hp.2.1.2.2.2.1
  have bad : ∀ (c : Int32) (G7 : GS), 0 < c.toInt → Q_wrong c G G7 → ∀ X : Prop, (((G7.1 66 2).toInt = 0 ∧ X) ∨ ((G7.1 66 2).toInt ≠ 0 ∧ ((G.1 66 8) = r ∧ G7 = G1))) → MF (fl b n c.toInt p) G1 := by
    intro c G7 hc hw X hh
    have hm := (m_wrong hw hp hc).1
    rcases hh with ⟨c1, -⟩ | ⟨c1, -, rfl⟩
    · have := hm.1
      have := hm.2.2
      omega
    · exact hm
  unfold pNum
  rcases hh with ⟨c, ⟨c1, ⟨c2, G7, hw, hh⟩ | ⟨c2, ⟨c3, G29, ht, er, rfl⟩ | ⟨c3, G7, hw, hh⟩⟩⟩ | ⟨c1, G7, hw, hh⟩⟩ | ⟨c, -⟩
  · have hk := hs.mp c1
    have := k8 hk
    rw [if_neg (by omega), if_pos (Or.inl (by omega))]
    exact Or.inl ⟨_, rfl, bad 4 G7 (by decide) hw _ hh⟩
  · have hk := hs.mp c1
    have := k8 hk
    rw [if_neg (by omega), if_neg (by omega)]
    subst er
    exact Or.inr ⟨rfl, m_next ht hp (by omega), this, by omega, by omega⟩
  · have hk := hs.mp c1
    have := k8 hk
    rw [if_neg (by omega), if_pos (Or.inr (by omega))]
    exact Or.inl ⟨_, rfl, bad 4 G7 (by decide) hw _ hh⟩
  · rw [if_pos (fun q => c1 (hs.mpr q))]
    exact Or.inl ⟨_, rfl, bad 2 G7 (by decide) hw _ hh⟩
  · omega
theorem told_f {G G1 : GS} {lo hi r : Int32} (h : Q_told lo hi G r G1) (hf : 0 < (G.1 66 2).toInt) : G = G1 := by
  obtain ⟨-, -, -, hh⟩ := h
  rcases hh with ⟨c, -⟩ | ⟨-, -, e⟩
  · omega
  · exact e
theorem want_f {G G1 : GS} {c : Int64} (h : Q_want c G G1) (hf : 0 < (G.1 66 2).toInt) : G = G1 := by
  obtain ⟨-, -, -, hh⟩ := h
  rcases hh with ⟨c, -⟩ | ⟨-, e⟩
  · omega
  · exact e
theorem told2_f {G G1 : GS} {c : Int64} {lo hi r : Int32} (h : Q_told2 c lo hi G r G1) (hf : 0 < (G.1 66 2).toInt) : G = G1 := by
  obtain ⟨-, -, -, G2, h1, r8, G9, h2, -, rfl⟩ := h
  have e1 := want_f h1 hf
  subst e1
  exact told_f h2 hf
theorem m_told2 {b : Nat → Int} {n p i : Nat} {G G1 : GS} {c : Int64} {lo hi r : Int32} (hx : i < 23) (hc : w8 (KW.getD i []) = c) (h : Q_told2 c lo hi G r G1) (hp : MP b n G p) : (∃ f, (bnd (pKw b n (128 + (i : Int)) p) fun _ p => pNum b n lo.toInt hi.toInt p) = .inl f ∧ MF f G1) ∨ (∃ v p', (bnd (pKw b n (128 + (i : Int)) p) fun _ p => pNum b n lo.toInt hi.toInt p) = .inr (v, p') ∧ MP b n G1 p' ∧ r.toInt = v ∧ lo.toInt ≤ v ∧ v ≤ hi.toInt) := by
  obtain ⟨-, -, -, G2, h1, r8, G9, h2, rfl, rfl⟩ := h
  rcases m_want hx hc h1 hp with ⟨f, e, hm⟩ | ⟨e, hp2⟩
  · rw [e]
    have e1 := told_f h2 (by have := hm.1; have := hm.2.2; omega)
    subst e1
    exact Or.inl ⟨f, rfl, hm⟩
  · rw [e]
    rcases m_told h2 hp2 with ⟨f, e, hm⟩ | ⟨e, hp3, hv⟩
    · exact Or.inl ⟨f, e, hm⟩
    · exact Or.inr ⟨_, _, e, hp3, hv⟩
def NmM (base : Nat) (NS : List (List Int)) (G : GS) : Prop := ∀ k, k < NS.length → G.2.1 68 (base + k) = w8 (NS.getD k []) ∧ LW (NS.getD k [])
theorem m_name {b : Nat → Int} {n p base : Nat} {G G1 : GS} {q0 m : Int32} {NS : List (List Int)} (h : Q_newName q0 m G G1) (hp : MP b n G p) (hk : tK b n p ≠ 202) (hN : NmM base NS G) (hb : q0.toInt = (base : Int)) (hm : m.toInt = (NS.length : Int)) : (∃ f, pName b n NS (tNx b n p) = .inl f ∧ MF f G1) ∨ (pName b n NS (tNx b n p) = .inr (tL b n (tNx b n p), tNx b n (tNx b n p)) ∧ MP b n G1 (tNx b n (tNx b n p)) ∧ LW (tL b n (tNx b n p)) ∧ G1.2.1 68 = vp_updL (G.2.1 68) (base + NS.length) (w8 (tL b n (tNx b n p)))) := by
  obtain ⟨-, -, -, G2, ht, r6, G7, hn, G15, hJ, -, -, -, x, G21, hRc, -, -, -, hF21, c1, hh⟩ := h
  have hp2 := m_next ht hp hk
  have hN2 : NmM base NS G2 := by
    intro k hk
    rw [ht.2.1.rowl 68 (by decide) (by decide)]
    exact hN k hk
  have e68 : G2.2.1 68 = G.2.1 68 := ht.2.1.rowl 68 (by decide) (by decide)
  generalize tNx b n p = p at hp2 ⊢
  obtain ⟨rfl, hr6⟩ := m_isName hn hp2
  have z : (0 : Int32).toInt = ((0 : Nat) : Int) := rfl
  unfold pName
  by_cases hK : tK b n p = 200
  · rw [if_neg (by omega)]
    have hw := tK_w (b := b) hp2.1.2.1 hp2.2.2.2 (by omega) (by omega)
    have h9 := hp2.2.1.2.2.2.2 (by omega) (by omega)
    have hG15 : G2 = G15 := by
      rcases hJ with ⟨c, -⟩ | ⟨c, e⟩
      · exact absurd c (hr6.mpr hK)
      · exact e
    subst hG15
    have hI := hRc (fun q => Fr [] [(66, 2), (66, 3)] G2 q.2 ∧ ((G2 = q.2 ∧ ∃ k : Nat, q.1.toInt = (k : Int) ∧ ∀ j, j < k → j < NS.length → NS.getD j [] ≠ tL b n p) ∨ (MF (fl b n 3 p) q.2 ∧ tL b n p ∈ NS))) ⟨Fr.rf, Or.inl ⟨rfl, 0, z, fun j a _ => by omega⟩⟩ (by
      rintro ⟨x1, G_1⟩ ⟨xn, G_1n⟩ ⟨hF, hI⟩ ⟨x1q, G_1q, xnq, G_1nq, e1, e2, -, -, -, c2, hh⟩
      obtain ⟨rfl, rfl⟩ := Prod.mk.inj e1
      obtain ⟨rfl, rfl⟩ := Prod.mk.inj e2
      simp only at hF hI
      rcases hI with ⟨h1, k, h2, h3⟩ | ⟨hM, hmem⟩
      · subst h1
        rcases hh with ⟨c3, y52, t52, y53, e53, y54, e54, y55, e55, hh⟩ | ⟨c3, y51, t51, ex, eG⟩
        · have hlt : k < NS.length := by omega
          have q := lc_iff e55
          rw [e53, e54, cn_eq (e := base + k) (by omega), (hN2 k hlt).1, h9] at q
          rcases hh with ⟨c4, G60, hw2, y64, t64, ex, eG⟩ | ⟨c4, y57, t57, ex, eG⟩
          · subst ex
            subst eG
            have hw3 := m_wrong hw2 hp2 (by decide)
            refine ⟨hw3.2, Or.inr ⟨hw3.1, mem_getD.mpr ⟨k, hlt, ?_⟩⟩⟩
            exact w8_inj (hN2 k hlt).2.2 hw.2.2 (hN2 k hlt).2.1 hw.2.1 (q.mp c4)
          · subst ex
            subst eG
            refine ⟨Fr.rf, Or.inl ⟨rfl, k + 1, by show y57.toInt = _; omega, fun j hj hl => ?_⟩⟩
            by_cases hjk : j = k
            · subst hjk
              intro e
              exact c4 (q.mpr (by rw [e]))
            · exact h3 j (by omega) hl
        · have := hp2.2.2.1
          omega
      · have hf0 := hM.1
        have hf1 := hM.2.2
        rcases hh with ⟨c3, -⟩ | ⟨c3, y51, t51, ex, eG⟩
        · omega
        · subst ex
          subst eG
          exact ⟨hF, Or.inr ⟨hM, hmem⟩⟩)
    obtain ⟨hF, hI⟩ := hI
    simp only at hF hI
    rcases hI with ⟨h1, k, h2, h3⟩ | ⟨hM, hmem⟩
    · subst h1
      rw [if_neg (fun q => by obtain ⟨j, hj, e⟩ := mem_getD.mp q; exact h3 j (by omega) hj e)]
      rcases hh with ⟨c3, y34, t34, y35, e35, G36, -, hF36, e36, G41, ht2, rfl⟩ | ⟨c3, -⟩
      · have hp36 := hp2.fr hF36 (by decide) (by decide) (by decide) (by decide)
        refine Or.inr ⟨rfl, m_next ht2 hp36 (by omega), hw.2, ?_⟩
        rw [ht2.2.1.rowl 68 (by decide) (by decide), e36, cn_eq (e := base + NS.length) (by omega), e35, h9, e68]
      · have := hp2.2.2.1
        omega
    · rw [if_pos hmem]
      have hf0 := hM.1
      have hf1 := hM.2.2
      rcases hh with ⟨c3, -⟩ | ⟨c3, rfl⟩
      · omega
      · exact Or.inl ⟨_, rfl, hM⟩
  · rw [if_pos hK]
    rcases hJ with ⟨c, G71, hw2, e71⟩ | ⟨c, -⟩
    · have hw3 := m_wrong hw2 hp2 (by decide)
      subst e71
      have hI := hRc (fun q => MF (fl b n 2 p) q.2) hw3.1 (by
        rintro ⟨x1, G_1⟩ ⟨xn, G_1n⟩ hM ⟨x1q, G_1q, xnq, G_1nq, e1, e2, -, -, -, c2, hh⟩
        obtain ⟨rfl, rfl⟩ := Prod.mk.inj e1
        obtain ⟨rfl, rfl⟩ := Prod.mk.inj e2
        simp only at hM
        have hf0 := hM.1
        have hf1 := hM.2.2
        rcases hh with ⟨c3, -⟩ | ⟨c3, y51, t51, ex, eG⟩
        · omega
        · subst eG
          exact hM)
      simp only at hI
      have hf0 := hI.1
      have hf1 := hI.2.2
      rcases hh with ⟨c3, -⟩ | ⟨c3, rfl⟩
      · omega
      · exact Or.inl ⟨_, rfl, hI⟩
    · exact absurd (hr6.mp c) hK

/-! formulas, by a stack of signs that wait, over places -/
def tgt (o : Int) : Int := if o = 124 then 1 else if o = 38 then 2 else if o = 21 then 3 else if o = 60 ∨ o = 62 ∨ o = 61 then 4 else if o = 43 ∨ o = 45 then 5 else 6
def cdo (o : Int) : Int × Int := if o = 21 then (2, 0) else (3, o)
def clo (least : Int) : List Int → List (Int × Int) → List Int × List (Int × Int)
  | [], C => ([], C)
  | o :: S, C => if o ≠ 20 ∧ least ≤ tgt o then clo least S (C ++ [cdo o]) else (o :: S, C)
def hrl : List Int → Bool
  | [] => false
  | o :: S => if o = 20 then false else if 4 < tgt o then hrl S else decide (tgt o = 4)
def mno : List Int → Bool
  | [] => true
  | o :: _ => decide (o = 20 ∨ tgt o < 4)
def dps : List Int → Nat
  | [] => 0
  | o :: S => if o = 20 ∨ o = 21 then dps S + 1 else dps S
def sig (k : Int) : Int := if k = 145 then 38 else if k = 144 then 124 else if k = 60 ∨ k = 62 ∨ k = 61 ∨ k = 43 ∨ k = 45 ∨ k = 42 ∨ k = 47 ∨ k = 37 then k else 0
def ask (k : Int) : Int := if k = 139 then 0 else if k = 140 then 1 else if k = 141 then 2 else if k = 142 then 3 else if k = 143 then 4 else if k = 147 then 5 else if k = 148 then 6 else if k = 149 then 7 else if k = 150 then 8 else -1
abbrev FS : Type := Bool × Nat × List Int × List (Int × Int) × Int × Int
abbrev FO : Type := (Int × Int) ⊕ (Nat × List (Int × Int) × Int × Int)
def syB (b : Nat → Int) (n : Nat) (p : Nat) (S : List Int) (C : List (Int × Int)) (u w : Int) : FS ⊕ FO :=
  if tK b n p = 146 ∧ mno S = true then (if 6 < dps S then .inr (.inl (fl b n 2 p)) else .inl (true, tNx b n p, 21 :: S, C, u, w))
  else if tK b n p = 40 then (if (w = 90 ∨ u = 30) ∨ 6 < dps S then .inr (.inl (fl b n 2 p)) else .inl (true, tNx b n p, 20 :: S, C, u + 1, w + 1))
  else if (tK b n p ≠ 201 ∧ ask (tK b n p) < 0) ∨ (w = 90 ∨ u = 30) then .inr (.inl (fl b n 2 p))
  else .inl (false, tNx b n p, S, C ++ [if ask (tK b n p) < 0 then (0, tV b n p) else (1, ask (tK b n p))], u + 1, w + 1)
def syA (b : Nat → Int) (n : Nat) (p : Nat) (S : List Int) (C : List (Int × Int)) (u w : Int) : FS ⊕ FO :=
  if tK b n p = 41 ∧ 20 ∈ S then .inl (false, tNx b n p, (clo 0 S C).1.tail, (clo 0 S C).2, u, w)
  else if sig (tK b n p) ≠ 0 ∧ ¬ (tgt (sig (tK b n p)) = 4 ∧ hrl S = true) then .inl (true, tNx b n p, sig (tK b n p) :: (clo (tgt (sig (tK b n p))) S C).1, (clo (tgt (sig (tK b n p))) S C).2, u, w)
  else if 20 ∈ S then .inr (.inl (fl b n 2 p)) else .inr (.inr (p, (clo 0 S C).2, u, w))
def sy (b : Nat → Int) (n : Nat) (s : FS) : FS ⊕ FO := if s.1 = true then syB b n s.2.1 s.2.2.1 s.2.2.2.1 s.2.2.2.2.1 s.2.2.2.2.2 else syA b n s.2.1 s.2.2.1 s.2.2.2.1 s.2.2.2.2.1 s.2.2.2.2.2
def itn (b : Nat → Int) (n : Nat) : Nat → FS → Option FO
  | 0, _ => none
  | k + 1, s => match sy b n s with
    | .inr o => some o
    | .inl s' => itn b n k s'
def Ev (b : Nat → Int) (n : Nat) (s : FS) (o : FO) : Prop := ∃ k, itn b n k s = some o
theorem Ev_i {b : Nat → Int} {n : Nat} {s s' : FS} {o : FO} (h : sy b n s = .inl s') : Ev b n s o ↔ Ev b n s' o := by
  refine ⟨fun ⟨k, hk⟩ => ?_, fun ⟨k, hk⟩ => ⟨k + 1, ?_⟩⟩
  · cases k with
    | zero => exact absurd hk (by simp [itn])
    | succ k =>
      rw [itn, h] at hk
      exact ⟨k, hk⟩
  · rw [itn, h]
    exact hk
theorem Ev_r {b : Nat → Int} {n : Nat} {s : FS} {o o' : FO} (h : sy b n s = .inr o') : Ev b n s o ↔ o' = o := by
  refine ⟨fun ⟨k, hk⟩ => ?_, fun e => ⟨1, ?_⟩⟩
  · cases k with
    | zero => exact absurd hk (by simp [itn])
    | succ k =>
      rw [itn, h] at hk
      exact Option.some.inj hk
  · rw [itn, h, e]
theorem Ev_B {b : Nat → Int} {n p : Nat} {S : List Int} {C : List (Int × Int)} {u w : Int} {s' : FS} {o : FO} (h : syB b n p S C u w = .inl s') : Ev b n (true, p, S, C, u, w) o ↔ Ev b n s' o := Ev_i h
theorem Ev_Br {b : Nat → Int} {n p : Nat} {S : List Int} {C : List (Int × Int)} {u w : Int} {o' o : FO} (h : syB b n p S C u w = .inr o') : Ev b n (true, p, S, C, u, w) o ↔ o' = o := Ev_r h
theorem Ev_A {b : Nat → Int} {n p : Nat} {S : List Int} {C : List (Int × Int)} {u w : Int} {s' : FS} {o : FO} (h : syA b n p S C u w = .inl s') : Ev b n (false, p, S, C, u, w) o ↔ Ev b n s' o := Ev_i h
theorem Ev_Ar {b : Nat → Int} {n p : Nat} {S : List Int} {C : List (Int × Int)} {u w : Int} {o' o : FO} (h : syA b n p S C u w = .inr o') : Ev b n (false, p, S, C, u, w) o ↔ o' = o := Ev_r h
/-- T: signs that wait, none a bracket, all as tight as L at least -/
def TL (L : Int) (T : List Int) : Prop := ∀ x ∈ T, x ≠ 20 ∧ L ≤ tgt x
/-- a stack whose head, if it is no bracket, is less tight than L -/
def Hd (L : Int) (S : List Int) : Prop := ∀ o S', S = o :: S' → o = 20 ∨ tgt o < L
theorem TL.le {L L' : Int} {T : List Int} (h : TL L T) (hl : L' ≤ L) : TL L' T := fun x hx => ⟨(h x hx).1, by have := (h x hx).2; omega⟩
theorem TL.app {L : Int} {T T' : List Int} (h : TL L T) (h' : TL L T') : TL L (T ++ T') := fun x hx => (List.mem_append.mp hx).elim (h x) (h' x)
theorem TL_nil {L : Int} : TL L [] := fun x hx => absurd hx (by simp)
theorem TL_one {L x : Int} (h1 : x ≠ 20) (h2 : L ≤ tgt x) : TL L [x] := fun y hy => by
  rw [List.mem_singleton] at hy
  subst hy
  exact ⟨h1, h2⟩
theorem Hd.le {L L' : Int} {S : List Int} (h : Hd L S) (hl : L ≤ L') : Hd L' S := fun o S' e => (h o S' e).imp id (fun q => by omega)
theorem Hd_cons {L o : Int} {S : List Int} (h : o = 20 ∨ tgt o < L) : Hd L (o :: S) := fun o' S' e => by
  obtain ⟨rfl, -⟩ := List.cons.inj e
  exact h
theorem clo_app {L : Int} : ∀ (T S : List Int) (C : List (Int × Int)), TL L T → Hd L S → clo L (T ++ S) C = (S, C ++ T.map cdo)
  | [], S, C, _, hS => by
    cases S with
    | nil => simp [clo]
    | cons o S =>
      rw [List.nil_append, clo, if_neg, List.map_nil, List.append_nil]
      intro q
      rcases hS o S rfl with h | h
      · exact q.1 h
      · omega
  | x :: T, S, C, hT, hS => by
    rw [List.cons_append, clo, if_pos (hT x (by simp)), clo_app T S _ (fun y hy => hT y (by simp [hy])) hS, List.map_cons, List.append_assoc]
    rfl
theorem hrl_off {T S : List Int} (hT : TL 5 T) (hS : Hd 4 S) : hrl (T ++ S) = false := by
  induction T with
  | nil =>
    cases S with
    | nil => rfl
    | cons o S =>
      rw [List.nil_append, hrl]
      rcases hS o S rfl with h | h
      · rw [if_pos h]
      · by_cases h2 : o = 20
        · rw [if_pos h2]
        · rw [if_neg h2, if_neg (by omega)]
          exact decide_eq_false (by omega)
  | cons x T ih =>
    have hx := hT x (by simp)
    rw [List.cons_append, hrl, if_neg hx.1, if_pos (by omega)]
    exact ih (fun y hy => hT y (by simp [hy]))
theorem hrl_app {T : List Int} (h : hrl T = true) (S : List Int) : hrl (T ++ S) = true := by
  induction T with
  | nil => exact absurd h (by simp [hrl])
  | cons x T ih =>
    rw [hrl] at h
    rw [List.cons_append, hrl]
    by_cases h1 : x = 20
    · rw [if_pos h1] at h
      exact absurd h (by simp)
    · rw [if_neg h1] at h ⊢
      by_cases h2 : 4 < tgt x
      · rw [if_pos h2] at h ⊢
        exact ih h
      · rw [if_neg h2] at h ⊢
        exact h
theorem hrl_on {T : List Int} {x : Int} (hT : TL 5 T) (h1 : x ≠ 20) (h2 : tgt x = 4) : hrl (T ++ [x]) = true := by
  induction T with
  | nil =>
    rw [List.nil_append, hrl, if_neg h1, if_neg (by omega)]
    exact decide_eq_true h2
  | cons y T ih =>
    have hy := hT y (by simp)
    rw [List.cons_append, hrl, if_neg hy.1, if_pos (by omega)]
    exact ih (fun z hz => hT z (by simp [hz]))
theorem mno_hd {S : List Int} : mno S = true ↔ Hd 4 S := by
  cases S with
  | nil => exact ⟨fun _ o S' e => absurd e (by simp), fun _ => rfl⟩
  | cons o S =>
    rw [mno, decide_eq_true_iff]
    refine ⟨fun h => Hd_cons h, fun h => h o S rfl⟩
theorem dps_app (T S : List Int) : dps (T ++ S) = dps T + dps S := by
  induction T with
  | nil => simp [dps]
  | cons x T ih =>
    rw [List.cons_append, dps, dps, ih]
    split <;> omega
/-- behind a piece of level L no sign stands that it would have taken -/
def NC (b : Nat → Int) (n : Nat) (L : Int) (p : Nat) (T : List Int) : Prop := (L ≤ 6 → tK b n p ≠ 42 ∧ tK b n p ≠ 47 ∧ tK b n p ≠ 37) ∧ (L ≤ 5 → tK b n p ≠ 43 ∧ tK b n p ≠ 45) ∧ (L ≤ 4 → tK b n p = 60 ∨ tK b n p = 62 ∨ tK b n p = 61 → hrl T = true) ∧ (L ≤ 2 → tK b n p ≠ 145) ∧ (L ≤ 1 → tK b n p ≠ 144)
/-- what a piece of level L at a place means: from there the stack goes to a place behind it, with signs that wait -/
def Ok (b : Nat → Int) (n : Nat) (L : Int) (d p : Nat) (S : List Int) : Prop := Hd (if L = 3 then 4 else L) S ∧ (5 ≤ L → tK b n p = 146 → mno S = false) ∧ dps S = d
def Lx (b : Nat → Int) (n : Nat) (L N : Int) (d p p' : Nat) (C C' : List (Int × Int)) (u u' w w' : Int) : Prop := p < p' ∧ ∃ (T : List Int) (Cp : List (Int × Int)), TL L T ∧ C' = Cp ++ T.map cdo ∧ NC b n N p' T ∧ ∀ S, Ok b n L d p S → ∀ o, Ev b n (false, p', T ++ S, Cp, u', w') o → Ev b n (true, p, S, C, u, w) o
def Lv (b : Nat → Int) (n : Nat) (L : Int) (d p p' : Nat) (C C' : List (Int × Int)) (u u' w w' : Int) : Prop := Lx b n L L d p p' C C' u u' w w'
def Lf (b : Nat → Int) (n : Nat) (L : Int) (d p : Nat) (C : List (Int × Int)) (u w : Int) (f : Int × Int) : Prop := ∀ S, Ok b n L d p S → Ev b n (true, p, S, C, u, w) (.inl f)
theorem tgt_r (o : Int) : 1 ≤ tgt o ∧ tgt o ≤ 6 := by
  unfold tgt
  split
  · omega
  · split
    · omega
    · split
      · omega
      · split
        · omega
        · split <;> omega

/-! pieces put together -/
theorem Lx_init {b : Nat → Int} {n : Nat} {L L1 : Int} {d p p' : Nat} {C C' : List (Int × Int)} {u u' w w' : Int} (hL : (L = 6 ∧ L1 = 7) ∨ (L = 5 ∧ L1 = 6) ∨ (L = 2 ∧ L1 = 3) ∨ (L = 1 ∧ L1 = 2)) (h : Lv b n L1 d p p' C C' u u' w w') : Lx b n L L1 d p p' C C' u u' w w' := by
  obtain ⟨h1, T, Cp, h2, h3, h4, h5⟩ := h
  refine ⟨h1, T, Cp, h2.le (by omega), h3, h4, fun S hS o ho => h5 S ⟨?_, fun q => hS.2.1 (by omega), hS.2.2⟩ o ho⟩
  have := hS.1
  rcases hL with ⟨rfl, rfl⟩ | ⟨rfl, rfl⟩ | ⟨rfl, rfl⟩ | ⟨rfl, rfl⟩ <;> exact this.le (by decide)
theorem Lx_end {b : Nat → Int} {n : Nat} {L N : Int} {d p p' : Nat} {C C' : List (Int × Int)} {u u' w w' : Int} (h : Lx b n L N d p p' C C' u u' w w') (hN : ∀ T, NC b n N p' T → NC b n L p' T) : Lv b n L d p p' C C' u u' w w' := by
  obtain ⟨h1, T, Cp, h2, h3, h4, h5⟩ := h
  exact ⟨h1, T, Cp, h2, h3, hN T h4, h5⟩
theorem Lx_step {b : Nat → Int} {n : Nat} {L L1 : Int} {d p p1 p2 : Nat} {C C1 C2 : List (Int × Int)} {u u1 u2 w w1 w2 : Int} (s : Int) (hL : (L = 6 ∧ L1 = 7) ∨ (L = 5 ∧ L1 = 6) ∨ (L = 2 ∧ L1 = 3) ∨ (L = 1 ∧ L1 = 2)) (hs : sig (tK b n p1) = s) (hs0 : s ≠ 0 ∧ s ≠ 20 ∧ s ≠ 21) (ht : tgt s = L) (h41 : tK b n p1 ≠ 41) (hp : p1 ≤ tNx b n p1) (h : Lx b n L L1 d p p1 C C1 u u1 w w1) (h' : Lv b n L1 d (tNx b n p1) p2 C1 C2 u1 u2 w1 w2) : Lx b n L L1 d p p2 C (C2 ++ [cdo s]) u u2 w w2 := by
  obtain ⟨g1, T, Cp, g2, g3, g4, g5⟩ := h
  obtain ⟨k1, T2, Cp2, k2, k3, k4, k5⟩ := h'
  refine ⟨by omega, T2 ++ [s], Cp2, (k2.le (by omega)).app (TL_one hs0.2.1 (by omega)), by rw [k3, List.map_append, List.append_assoc]; rfl, ⟨k4.1, k4.2.1, fun q1 q2 => hrl_app (k4.2.2.1 q1 q2) _, k4.2.2.2.1, k4.2.2.2.2⟩, fun S hS o ho => ?_⟩
  have e1 := g5 S hS o
  refine e1 ?_
  have hc : clo L (T ++ S) Cp = (S, Cp ++ T.map cdo) := clo_app T S Cp g2 (by
    have := hS.1
    rcases hL with ⟨rfl, rfl⟩ | ⟨rfl, rfl⟩ | ⟨rfl, rfl⟩ | ⟨rfl, rfl⟩ <;> exact this.le (by decide))
  have hA : syA b n p1 (T ++ S) Cp u1 w1 = .inl (true, tNx b n p1, s :: S, C1, u1, w1) := by
    unfold syA
    rw [if_neg (fun q => h41 q.1), hs, ht, hc, if_pos ⟨hs0.1, fun q => by omega⟩, g3]
  refine (Ev_A hA).mpr (k5 (s :: S) ⟨?_, fun q1 q2 => ?_, ?_⟩ o ?_)
  · refine Hd_cons (Or.inr ?_)
    rcases hL with ⟨rfl, rfl⟩ | ⟨rfl, rfl⟩ | ⟨rfl, rfl⟩ | ⟨rfl, rfl⟩ <;> rw [ht] <;> decide
  · rw [mno]
    exact decide_eq_false (fun q => q.elim hs0.2.1 (fun q => by omega))
  · rw [dps, if_neg (fun q => q.elim hs0.2.1 hs0.2.2)]
    exact hS.2.2
  · rw [List.append_assoc] at ho
    exact ho
theorem Lf_init {b : Nat → Int} {n : Nat} {L L1 : Int} {d p : Nat} {C : List (Int × Int)} {u w : Int} {f : Int × Int} (hL : (L = 6 ∧ L1 = 7) ∨ (L = 5 ∧ L1 = 6) ∨ (L = 2 ∧ L1 = 3) ∨ (L = 1 ∧ L1 = 2)) (h : Lf b n L1 d p C u w f) : Lf b n L d p C u w f := by
  intro S hS
  refine h S ⟨?_, fun q => hS.2.1 (by omega), hS.2.2⟩
  have := hS.1
  rcases hL with ⟨rfl, rfl⟩ | ⟨rfl, rfl⟩ | ⟨rfl, rfl⟩ | ⟨rfl, rfl⟩ <;> exact this.le (by decide)
theorem Lf_step {b : Nat → Int} {n : Nat} {L L1 : Int} {d p p1 : Nat} {C C1 : List (Int × Int)} {u u1 w w1 : Int} {f : Int × Int} (s : Int) (hL : (L = 6 ∧ L1 = 7) ∨ (L = 5 ∧ L1 = 6) ∨ (L = 2 ∧ L1 = 3) ∨ (L = 1 ∧ L1 = 2)) (hs : sig (tK b n p1) = s) (hs0 : s ≠ 0 ∧ s ≠ 20 ∧ s ≠ 21) (ht : tgt s = L) (h41 : tK b n p1 ≠ 41) (h : Lx b n L L1 d p p1 C C1 u u1 w w1) (h' : Lf b n L1 d (tNx b n p1) C1 u1 w1 f) : Lf b n L d p C u w f := by
  obtain ⟨g1, T, Cp, g2, g3, g4, g5⟩ := h
  intro S hS
  refine g5 S hS _ ?_
  have hc : clo L (T ++ S) Cp = (S, Cp ++ T.map cdo) := clo_app T S Cp g2 (by
    have := hS.1
    rcases hL with ⟨rfl, rfl⟩ | ⟨rfl, rfl⟩ | ⟨rfl, rfl⟩ | ⟨rfl, rfl⟩ <;> exact this.le (by decide))
  have hA : syA b n p1 (T ++ S) Cp u1 w1 = .inl (true, tNx b n p1, s :: S, C1, u1, w1) := by
    unfold syA
    rw [if_neg (fun q => h41 q.1), hs, ht, hc, if_pos ⟨hs0.1, fun q => by omega⟩, g3]
  refine (Ev_A hA).mpr (h' (s :: S) ⟨?_, fun q1 q2 => ?_, ?_⟩)
  · refine Hd_cons (Or.inr ?_)
    rcases hL with ⟨rfl, rfl⟩ | ⟨rfl, rfl⟩ | ⟨rfl, rfl⟩ | ⟨rfl, rfl⟩ <;> rw [ht] <;> decide
  · rw [mno]
    exact decide_eq_false (fun q => q.elim hs0.2.1 (fun q => by omega))
  · rw [dps, if_neg (fun q => q.elim hs0.2.1 hs0.2.2)]
    exact hS.2.2
/-- a relation -/
theorem Lv_rel0 {b : Nat → Int} {n : Nat} {d p p' : Nat} {C C' : List (Int × Int)} {u u' w w' : Int} (h146 : tK b n p ≠ 146) (h : Lv b n 5 d p p' C C' u u' w w') (hno : ¬ (tK b n p' = 60 ∨ tK b n p' = 62 ∨ tK b n p' = 61)) : Lv b n 4 d p p' C C' u u' w w' := by
  obtain ⟨h1, T, Cp, h2, h3, h4, h5⟩ := h
  refine ⟨h1, T, Cp, h2.le (by decide), h3, ⟨fun _ => h4.1 (by decide), fun _ => h4.2.1 (by decide), fun _ q => absurd q hno, fun q => absurd q (by decide), fun q => absurd q (by decide)⟩, fun S hS o ho => h5 S ⟨?_, fun _ q => absurd q h146, hS.2.2⟩ o ho⟩
  exact (show Hd 4 S from hS.1).le (by decide)
theorem rel_A {b : Nat → Int} {n : Nat} {p1 : Nat} {T S : List Int} {C1 Cp : List (Int × Int)} {u1 w1 : Int} (hk : tK b n p1 = 60 ∨ tK b n p1 = 62 ∨ tK b n p1 = 61) (g2 : TL 5 T) (hS : Hd 4 S) (g3 : C1 = Cp ++ T.map cdo) : syA b n p1 (T ++ S) Cp u1 w1 = .inl (true, tNx b n p1, tK b n p1 :: S, C1, u1, w1) := by
  have hs : sig (tK b n p1) = tK b n p1 := by
    unfold sig
    rw [if_neg (by omega), if_neg (by omega), if_pos (by omega)]
  have ht : tgt (tK b n p1) = 4 := by
    unfold tgt
    rw [if_neg (by omega), if_neg (by omega), if_neg (by omega), if_pos (by omega)]
  unfold syA
  rw [if_neg (fun q => by omega), hs, ht, clo_app T S Cp (g2.le (by decide)) hS, if_pos ⟨by omega, fun q => by rw [hrl_off g2 hS] at q; exact absurd q.2 (by decide)⟩, g3]
theorem Lv_rel1 {b : Nat → Int} {n : Nat} {d p p1 p2 : Nat} {C C1 C2 : List (Int × Int)} {u u1 u2 w w1 w2 : Int} (h146 : tK b n p ≠ 146) (hk : tK b n p1 = 60 ∨ tK b n p1 = 62 ∨ tK b n p1 = 61) (hp : p1 ≤ tNx b n p1) (h : Lv b n 5 d p p1 C C1 u u1 w w1) (h' : Lv b n 5 d (tNx b n p1) p2 C1 C2 u1 u2 w1 w2) : Lv b n 4 d p p2 C (C2 ++ [cdo (tK b n p1)]) u u2 w w2 := by
  obtain ⟨g1, T, Cp, g2, g3, g4, g5⟩ := h
  obtain ⟨k1, T2, Cp2, k2, k3, k4, k5⟩ := h'
  have ht : tgt (tK b n p1) = 4 := by
    unfold tgt
    rw [if_neg (by omega), if_neg (by omega), if_neg (by omega), if_pos (by omega)]
  refine ⟨by omega, T2 ++ [tK b n p1], Cp2, (k2.le (by decide)).app (TL_one (by omega) (by omega)), by rw [k3, List.map_append, List.append_assoc]; rfl, ⟨fun _ => k4.1 (by decide), fun _ => k4.2.1 (by decide), fun _ _ => hrl_on k2 (by omega) ht, fun q => absurd q (by decide), fun q => absurd q (by decide)⟩, fun S hS o ho => ?_⟩
  have hS4 : Hd 4 S := hS.1
  refine g5 S ⟨hS4.le (by decide), fun _ q => absurd q h146, hS.2.2⟩ o ((Ev_A (rel_A hk g2 hS4 g3)).mpr (k5 (tK b n p1 :: S) ⟨Hd_cons (Or.inr (by rw [ht]; decide)), fun _ _ => ?_, ?_⟩ o ?_))
  · rw [mno]
    exact decide_eq_false (fun q => by omega)
  · rw [dps, if_neg (by omega)]
    exact hS.2.2
  · rw [List.append_assoc] at ho
    exact ho
theorem Lf_rel0 {b : Nat → Int} {n : Nat} {d p : Nat} {C : List (Int × Int)} {u w : Int} {f : Int × Int} (h146 : tK b n p ≠ 146) (h : Lf b n 5 d p C u w f) : Lf b n 4 d p C u w f := fun S hS => h S ⟨(show Hd 4 S from hS.1).le (by decide), fun _ q => absurd q h146, hS.2.2⟩
theorem Lf_rel1 {b : Nat → Int} {n : Nat} {d p p1 : Nat} {C C1 : List (Int × Int)} {u u1 w w1 : Int} {f : Int × Int} (h146 : tK b n p ≠ 146) (hk : tK b n p1 = 60 ∨ tK b n p1 = 62 ∨ tK b n p1 = 61) (h : Lv b n 5 d p p1 C C1 u u1 w w1) (h' : Lf b n 5 d (tNx b n p1) C1 u1 w1 f) : Lf b n 4 d p C u w f := by
  obtain ⟨g1, T, Cp, g2, g3, g4, g5⟩ := h
  have ht : tgt (tK b n p1) = 4 := by
    unfold tgt
    rw [if_neg (by omega), if_neg (by omega), if_neg (by omega), if_pos (by omega)]
  intro S hS
  have hS4 : Hd 4 S := hS.1
  refine g5 S ⟨hS4.le (by decide), fun _ q => absurd q h146, hS.2.2⟩ _ ((Ev_A (rel_A hk g2 hS4 g3)).mpr (h' (tK b n p1 :: S) ⟨Hd_cons (Or.inr (by rw [ht]; decide)), fun _ _ => ?_, ?_⟩))
  · rw [mno]
    exact decide_eq_false (fun q => by omega)
  · rw [dps, if_neg (by omega)]
    exact hS.2.2
/-- one -/
theorem Lv_one {b : Nat → Int} {n : Nat} {d p p' : Nat} {C C' : List (Int × Int)} {u u' w w' : Int} (h : Lv b n 4 d p p' C C' u u' w w') : Lv b n 3 d p p' C C' u u' w w' := by
  obtain ⟨h1, T, Cp, h2, h3, h4, h5⟩ := h
  exact ⟨h1, T, Cp, h2.le (by decide), h3, ⟨fun _ => h4.1 (by decide), fun _ => h4.2.1 (by decide), fun _ => h4.2.2.1 (by decide), fun q => absurd q (by decide), fun q => absurd q (by decide)⟩, fun S hS o ho => h5 S ⟨show Hd 4 S from hS.1, fun q => absurd q (by decide), hS.2.2⟩ o ho⟩
theorem Lf_one {b : Nat → Int} {n : Nat} {d p : Nat} {C : List (Int × Int)} {u w : Int} {f : Int × Int} (h : Lf b n 4 d p C u w f) : Lf b n 3 d p C u w f := fun S hS => h S ⟨show Hd 4 S from hS.1, fun q => absurd q (by decide), hS.2.2⟩
theorem not_B {b : Nat → Int} {n : Nat} {d p : Nat} {S : List Int} {C : List (Int × Int)} {u w : Int} (hk : tK b n p = 146) (hd : d ≤ 6) (hS : Ok b n 3 d p S) : syB b n p S C u w = .inl (true, tNx b n p, 21 :: S, C, u, w) := by
  unfold syB
  rw [if_pos ⟨hk, mno_hd.mpr hS.1⟩, if_neg (by have := hS.2.2; omega)]
theorem not_S {b : Nat → Int} {n : Nat} {d p q : Nat} {S : List Int} (hS : Ok b n 3 d p S) : Ok b n 3 (d + 1) q (21 :: S) := ⟨Hd_cons (Or.inr (by decide)), fun h => absurd h (by decide), by rw [dps, if_pos (Or.inr rfl), hS.2.2]⟩
theorem Lv_not {b : Nat → Int} {n : Nat} {d p p' : Nat} {C C' : List (Int × Int)} {u u' w w' : Int} (hk : tK b n p = 146) (hd : d ≤ 6) (hp : p ≤ tNx b n p) (h : Lv b n 3 (d + 1) (tNx b n p) p' C C' u u' w w') : Lv b n 3 d p p' C (C' ++ [cdo 21]) u u' w w' := by
  obtain ⟨h1, T, Cp, h2, h3, h4, h5⟩ := h
  refine ⟨by omega, T ++ [21], Cp, h2.app (TL_one (by decide) (by decide)), by rw [h3, List.map_append, List.append_assoc]; rfl, ⟨h4.1, h4.2.1, fun q1 q2 => hrl_app (h4.2.2.1 q1 q2) _, h4.2.2.2.1, h4.2.2.2.2⟩, fun S hS o ho => ?_⟩
  refine (Ev_B (not_B hk hd hS)).mpr (h5 (21 :: S) (not_S hS) o ?_)
  rw [List.append_assoc] at ho
  exact ho
theorem Lf_not {b : Nat → Int} {n : Nat} {d p : Nat} {C : List (Int × Int)} {u w : Int} {f : Int × Int} (hk : tK b n p = 146) (hd : d ≤ 6) (h : Lf b n 3 (d + 1) (tNx b n p) C u w f) : Lf b n 3 d p C u w f := fun S hS => (Ev_B (not_B hk hd hS)).mpr (h (21 :: S) (not_S hS))
theorem Lf_not7 {b : Nat → Int} {n : Nat} {d p : Nat} {C : List (Int × Int)} {u w : Int} (hk : tK b n p = 146) (hd : 6 < d) : Lf b n 3 d p C u w (fl b n 2 p) := fun S hS => (Ev_Br (by
  unfold syB
  rw [if_pos ⟨hk, mno_hd.mpr hS.1⟩, if_pos (by have := hS.2.2; omega)])).mpr rfl
/-- a unit -/
theorem Lv_opnd {b : Nat → Int} {n : Nat} {d p : Nat} {C : List (Int × Int)} {u w : Int} (hk : tK b n p = 201 ∨ 0 ≤ ask (tK b n p)) (h40 : tK b n p ≠ 40) (h146 : tK b n p ≠ 146) (hf : ¬ (w = 90 ∨ u = 30)) (hp : p < tNx b n p) : Lv b n 7 d p (tNx b n p) C (C ++ [if ask (tK b n p) < 0 then (0, tV b n p) else (1, ask (tK b n p))]) u (u + 1) w (w + 1) := by
  refine ⟨hp, [], C ++ [if ask (tK b n p) < 0 then (0, tV b n p) else (1, ask (tK b n p))], TL_nil, by simp, ⟨fun q => absurd q (by decide), fun q => absurd q (by decide), fun q => absurd q (by decide), fun q => absurd q (by decide), fun q => absurd q (by decide)⟩, fun S hS o ho => ?_⟩
  refine (Ev_B ?_).mpr ho
  unfold syB
  rw [if_neg (fun q => h146 q.1), if_neg h40, if_neg (by omega)]
  rfl
theorem Lf_unit {b : Nat → Int} {n : Nat} {d p : Nat} {C : List (Int × Int)} {u w : Int} (hk : (tK b n p ≠ 201 ∧ ask (tK b n p) < 0 ∧ tK b n p ≠ 40) ∨ (w = 90 ∨ u = 30) ∨ (tK b n p = 40 ∧ 6 < d)) : Lf b n 7 d p C u w (fl b n 2 p) := by
  intro S hS
  refine (Ev_Br ?_).mpr rfl
  have hm : ¬ (tK b n p = 146 ∧ mno S = true) := fun q => by
    have := hS.2.1 (by decide) q.1
    rw [this] at q
    exact absurd q.2 (by decide)
  have hd := hS.2.2
  unfold syB
  rw [if_neg hm]
  by_cases h40 : tK b n p = 40
  · rw [if_pos h40, if_pos (by omega)]
  · rw [if_neg h40, if_pos (by omega)]
theorem brk_B {b : Nat → Int} {n : Nat} {d p : Nat} {S : List Int} {C : List (Int × Int)} {u w : Int} (hk : tK b n p = 40) (hf : ¬ (w = 90 ∨ u = 30)) (hd : d ≤ 6) (hS : Ok b n 7 d p S) : syB b n p S C u w = .inl (true, tNx b n p, 20 :: S, C, u + 1, w + 1) := by
  have := hS.2.2
  unfold syB
  rw [if_neg (fun q => by omega), if_pos hk, if_neg (by omega)]
theorem brk_S {b : Nat → Int} {n : Nat} {d p q : Nat} {S : List Int} (hS : Ok b n 7 d p S) : Ok b n 1 (d + 1) q (20 :: S) := ⟨Hd_cons (Or.inl rfl), fun h => absurd h (by decide), by rw [dps, if_pos (Or.inl rfl), hS.2.2]⟩
theorem Lv_brk {b : Nat → Int} {n : Nat} {d p p' : Nat} {C C' : List (Int × Int)} {u u' w w' : Int} (hk : tK b n p = 40) (hf : ¬ (w = 90 ∨ u = 30)) (hd : d ≤ 6) (hp : p ≤ tNx b n p) (hp2 : p' ≤ tNx b n p') (h41 : tK b n p' = 41) (h : Lv b n 1 (d + 1) (tNx b n p) p' C C' (u + 1) u' (w + 1) w') : Lv b n 7 d p (tNx b n p') C C' u u' w w' := by
  obtain ⟨h1, T, Cp, h2, h3, h4, h5⟩ := h
  refine ⟨by omega, [], C', TL_nil, by simp, ⟨fun q => absurd q (by decide), fun q => absurd q (by decide), fun q => absurd q (by decide), fun q => absurd q (by decide), fun q => absurd q (by decide)⟩, fun S hS o ho => ?_⟩
  refine (Ev_B (brk_B hk hf hd hS)).mpr (h5 (20 :: S) (brk_S hS) o ((Ev_A ?_).mpr ho))
  have hc : clo 0 (T ++ 20 :: S) Cp = (20 :: S, Cp ++ T.map cdo) := clo_app T (20 :: S) Cp (h2.le (by decide)) (Hd_cons (Or.inl rfl))
  unfold syA
  rw [if_pos ⟨h41, by simp⟩, hc, h3]
  rfl
theorem stop_A {b : Nat → Int} {n : Nat} {p' : Nat} {T S : List Int} (h4 : NC b n 1 p' T) : ¬ (sig (tK b n p') ≠ 0 ∧ ¬ (tgt (sig (tK b n p')) = 4 ∧ hrl (T ++ S) = true)) := by
  intro q
  have a1 := h4.1 (by decide)
  have a2 := h4.2.1 (by decide)
  have a4 := h4.2.2.2.1 (by decide)
  have a5 := h4.2.2.2.2 (by decide)
  by_cases hr : tK b n p' = 60 ∨ tK b n p' = 62 ∨ tK b n p' = 61
  · refine q.2 ⟨?_, hrl_app (h4.2.2.1 (by decide) hr) S⟩
    rcases hr with e | e | e <;> rw [e] <;> decide
  · refine q.1 ?_
    unfold sig
    rw [if_neg a4, if_neg a5, if_neg (by omega)]
theorem Lf_brk0 {b : Nat → Int} {n : Nat} {d p : Nat} {C : List (Int × Int)} {u w : Int} {f : Int × Int} (hk : tK b n p = 40) (hf : ¬ (w = 90 ∨ u = 30)) (hd : d ≤ 6) (h : Lf b n 1 (d + 1) (tNx b n p) C (u + 1) (w + 1) f) : Lf b n 7 d p C u w f := fun S hS => (Ev_B (brk_B hk hf hd hS)).mpr (h (20 :: S) (brk_S hS))
theorem Lf_brk1 {b : Nat → Int} {n : Nat} {d p p' : Nat} {C C' : List (Int × Int)} {u u' w w' : Int} (hk : tK b n p = 40) (hf : ¬ (w = 90 ∨ u = 30)) (hd : d ≤ 6) (h41 : tK b n p' ≠ 41) (h : Lv b n 1 (d + 1) (tNx b n p) p' C C' (u + 1) u' (w + 1) w') : Lf b n 7 d p C u w (fl b n 2 p') := by
  obtain ⟨h1, T, Cp, h2, h3, h4, h5⟩ := h
  intro S hS
  refine (Ev_B (brk_B hk hf hd hS)).mpr (h5 (20 :: S) (brk_S hS) _ ((Ev_Ar ?_).mpr rfl))
  unfold syA
  rw [if_neg (fun q => h41 q.1), if_neg (stop_A h4), if_pos (by simp)]
/-- the whole formula -/
theorem Ev_top {b : Nat → Int} {n : Nat} {p p' : Nat} {C C' : List (Int × Int)} {u u' w w' : Int} (h : Lv b n 1 0 p p' C C' u u' w w') : Ev b n (true, p, [], C, u, w) (.inr (p', C', u', w')) := by
  obtain ⟨h1, T, Cp, h2, h3, h4, h5⟩ := h
  refine h5 [] ⟨fun o S' e => absurd e (by simp), fun q => absurd q (by decide), rfl⟩ _ ((Ev_Ar ?_).mpr rfl)
  have hno : ¬ (20 : Int) ∈ T ++ [] := fun q => by
    rw [List.append_nil] at q
    exact (h2 20 q).1 rfl
  have hc : clo 0 (T ++ []) Cp = ([], Cp ++ T.map cdo) := clo_app T [] Cp (h2.le (by decide)) (fun o S' e => absurd e (by simp))
  unfold syA
  rw [if_neg (fun q => hno q.2), if_neg (stop_A h4), if_neg hno, hc, h3]
theorem Ev_topf {b : Nat → Int} {n : Nat} {p : Nat} {C : List (Int × Int)} {u w : Int} {f : Int × Int} (h : Lf b n 1 0 p C u w f) : Ev b n (true, p, [], C, u, w) (.inl f) := h [] ⟨fun o S' e => absurd e (by simp), fun q => absurd q (by decide), rfl⟩

/-! formulas by the program -/
def ekk (x : Int × Int) : Int := if x.1 = 0 then 201 else if x.1 = 1 then (if x.2 ≤ 4 then 139 + x.2 else 142 + x.2) else if x.1 = 2 then 146 else if x.2 = 124 then 144 else if x.2 = 38 then 145 else x.2
def ekv (x : Int × Int) : Int := if x.1 = 0 then x.2 else 0
def encd (k v : Int) : Int32 := Int32.ofInt k ||| (Int32.ofInt v <<< (10 &&& 31))
theorem getD_sn {α : Type} {NS : List α} {L e : α} {k : Nat} : (NS ++ [L]).getD k e = if k < NS.length then NS.getD k e else if k = NS.length then L else e := by
  rw [List.getD_eq_getElem?_getD, List.getD_eq_getElem?_getD]
  by_cases h : k < NS.length
  · rw [if_pos h, List.getElem?_append_left h]
  · rw [if_neg h, List.getElem?_append_right (by omega)]
    by_cases h2 : k = NS.length
    · rw [if_pos h2]
      simp [h2]
    · rw [if_neg h2, List.getElem?_eq_none (by simp; omega)]
      rfl
theorem ask_neg {k : Int} (h1 : k ≠ 139) (h2 : k ≠ 140) (h3 : k ≠ 141) (h4 : k ≠ 142) (h5 : k ≠ 143) (h6 : k ≠ 147) (h7 : k ≠ 148) (h8 : k ≠ 149) (h9 : k ≠ 150) : ask k = -1 := by
  unfold ask
  rw [if_neg h1, if_neg h2, if_neg h3, if_neg h4, if_neg h5, if_neg h6, if_neg h7, if_neg h8, if_neg h9]
theorem c_times {k r : Int32} {G G1 : GS} (h : P_fTimes k G r G1) : G = G1 ∧ (r.toInt ≠ 0 ↔ (k.toInt = 42 ∨ k.toInt = 47 ∨ k.toInt = 37)) := by
  obtain ⟨-, hF, -, h⟩ := h
  have z : (0 : Int32).toInt = 0 := rfl
  have o : (1 : Int32).toInt = 1 := rfl
  refine ⟨hF.nil, ?_⟩
  rcases h with ⟨c, rfl, -⟩ | ⟨c, ⟨d, rfl, -⟩ | ⟨d, ⟨e, rfl, -⟩ | ⟨e, rfl, -⟩⟩⟩ <;> omega
def CodeC_1 (c0 : Nat) (C : List (Int × Int)) (G : GS) : Prop := ((c0 + C.length ≤ 580 ∧ (G.1 1 13).toInt = ((c0 + C.length : Nat) : Int)) ∨ (580 < c0 + C.length ∧ (G.1 1 13).toInt = 580)) ∧ ∀ i, i < C.length → c0 + i < 580 → G.1 17 (c0 + i) = encd (ekk (C.getD i (0, 0))) (ekv (C.getD i (0, 0)))
def CfC_1 (b : Nat → Int) (n c0 : Nat) (G : GS) (p : Nat) (C : List (Int × Int)) (u w : Int) : Prop := CPx b n G p ∧ (G.1 4 2).toInt = u ∧ (G.1 1 12).toInt = w ∧ CodeC_1 c0 C G ∧ u ≤ 30 ∧ w ≤ 90
def LR_1 (b : Nat → Int) (n c0 : Nat) (L : Int) (d p : Nat) (C : List (Int × Int)) (u w : Int) (r : Int32) (G1 : GS) : Prop := (∃ f, CF f r G1 ∧ Lf b n L d p C u w f) ∨ (∃ p' u' w' C', r.toInt = 1 ∧ CfC_1 b n c0 G1 p' C' u' w' ∧ Lv b n L d p p' C C' u u' w w')
def XE_1 (b : Nat → Int) (n c0 : Nat) (L : Int) (E : XR) : Prop := ∀ (p0 : Int32) (d : Nat) (G : GS) (r : Int32) (G1 : GS) (p : Nat) (C : List (Int × Int)) (u w : Int), p0.toInt = (d : Int) → E p0 G r G1 → CfC_1 b n c0 G p C u w → LR_1 b n c0 L d p C u w r G1
theorem CodeC_1.fr {c0 : Nat} {C : List (Int × Int)} {rs : List Nat} {fs : List (Nat × Nat)} {G G1 : GS} (h : CodeC_1 c0 C G) (hF : Fr rs fs G G1) (h1 : 1 ∉ rs) (h2 : (1, 13) ∉ fs) (h3 : 17 ∉ rs) (h4 : ∀ x ∈ fs, x.1 ≠ 17) : CodeC_1 c0 C G1 := by
  unfold CodeC_1 at h ⊢
  rw [hF.i 1 13 h1 h2, hF.row1 17 h3 h4]
  exact h
theorem c_emit_1 {c0 : Nat} {C : List (Int × Int)} {G G1 : GS} {k v : Int32} {x : Int × Int} (h : P_emit_1 k v G G1) (hC : CodeC_1 c0 C G) (hk : k.toInt = ekk x) (hv : v.toInt = ekv x) : CodeC_1 c0 (C ++ [x]) G1 := by
  obtain ⟨-, -, hh⟩ := h
  obtain ⟨h1, h2⟩ := hC
  unfold CodeC_1
  rw [List.length_append, List.length_singleton]
  rcases hh with ⟨c, rfl⟩ | ⟨c, y3, t3, y5, e5, y6, e6, hF, e13, eR⟩
  · refine ⟨Or.inr ⟨by omega, by omega⟩, fun i hi hc => ?_⟩
    rw [getD_sn, if_pos (by omega)]
    exact h2 i (by omega) hc
  · refine ⟨Or.inl ⟨by omega, by rw [e13]; omega⟩, fun i hi hc => ?_⟩
    rw [eR, getD_sn]
    by_cases hq : i < C.length
    · rw [if_pos hq]
      have e : upd (G.1 17) (G.1 1 13).toNatClampNeg y6 (c0 + i) = G.1 17 (c0 + i) := if_neg (by have := c_nat (G.1 1 13); omega)
      rw [e]
      exact h2 i hq hc
    · rw [if_neg hq, if_pos (by omega)]
      have e : upd (G.1 17) (G.1 1 13).toNatClampNeg y6 (c0 + i) = y6 := if_pos (by have := c_nat (G.1 1 13); omega)
      rw [e, e6, e5, encd, ← hk, ← hv, Int32.ofInt_toInt, Int32.ofInt_toInt]
theorem CfC_1.next {b : Nat → Int} {n c0 p : Nat} {G G1 : GS} {C : List (Int × Int)} {u w : Int} {r : Int32} (h : CfC_1 b n c0 G p C u w) (ha : P_tAdvance G r G1) (hk : tK b n p ≠ 202) : r.toInt = 1 ∧ CfC_1 b n c0 G1 (tNx b n p) C u w := by
  obtain ⟨hp, hu, hw, hC, hb⟩ := h
  have hn := c_next ha hp hk
  exact ⟨hn.1, hn.2, by rw [ha.2.1.i 4 2 (by decide) (by decide)]; exact hu, by rw [ha.2.1.i 1 12 (by decide) (by decide)]; exact hw, hC.fr ha.2.1 (by decide) (by decide) (by decide) (by decide), hb⟩
theorem CfC_1.emit {b : Nat → Int} {n c0 p : Nat} {G G1 : GS} {C : List (Int × Int)} {u w : Int} {k v : Int32} {x : Int × Int} (h : CfC_1 b n c0 G p C u w) (he : P_emit_1 k v G G1) (hk : k.toInt = ekk x) (hv : v.toInt = ekv x) : CfC_1 b n c0 G1 p (C ++ [x]) u w := by
  obtain ⟨hp, hu, hw, hC, hb⟩ := h
  exact ⟨hp.fr he.2.1 (by decide) (by decide) (by decide) (by decide), by rw [he.2.1.i 4 2 (by decide) (by decide)]; exact hu, by rw [he.2.1.i 1 12 (by decide) (by decide)]; exact hw, c_emit_1 he hC hk hv, hb⟩
theorem CfC_1.t {b : Nat → Int} {n c0 p : Nat} {G : GS} {C : List (Int × Int)} {u w : Int} (h : CfC_1 b n c0 G p C u w) : n ≤ 1600 ∧ p ≤ n ∧ (G.1 3 3).toInt = tK b n p ∧ p ≤ tNx b n p ∧ tNx b n p ≤ n ∧ (tK b n p ≠ 203 → p < tNx b n p) := by
  have h1 := tN_p (b := b) h.1.1.2.1 h.1.2.2.2
  exact ⟨h.1.1.2.1, h.1.2.2.2, h.1.2.1.1, h1.1, h1.2.1, fun q => (h1.2.2 q).1⟩
theorem c_brk_1 {b : Nat → Int} {n c0 d p : Nat} {E O : XR} (hE : XE_1 b n c0 1 E) {p0 r : Int32} {G G1 : GS} {C : List (Int × Int)} {u w : Int} (h : P_fBracket_1_s E O p0 G r G1) (hd : p0.toInt = (d : Int)) (hc : CfC_1 b n c0 G p C (u + 1) (w + 1)) (hk : tK b n p = 40) (hf : ¬ (w = 90 ∨ u = 30)) : LR_1 b n c0 7 d p C u w r G1 := by
  obtain ⟨-, -, -, hh⟩ := h
  have z : (0 : Int32).toInt = 0 := rfl
  have ht := hc.t
  rcases hh with ⟨c, r2, G3, ha, y8, t8, r9, G10, hE1, hh⟩ | ⟨c, r29, G30, ha, rfl, rfl⟩
  · have hn := hc.next ha (by omega)
    have h1 := hE y8 (d + 1) G3 r9 G10 (tNx b n p) C (u + 1) (w + 1) (by omega) hE1 hn.2
    rcases h1 with ⟨f, hf1, hf2⟩ | ⟨p', u', w', C', hr, hc', hv⟩
    · rcases hh with ⟨c2, rfl, rfl⟩ | ⟨c2, hh⟩
      · exact Or.inl ⟨f, ⟨z, hf1.2⟩, Lf_brk0 hk hf (by omega) hf2⟩
      · have := hf1.1
        omega
    · rcases hh with ⟨c2, -⟩ | ⟨c2, ⟨c3, r23, G24, ha2, rfl, rfl⟩ | ⟨c3, r17, G18, ha2, rfl, rfl⟩⟩
      · omega
      · have ht' := hc'.t
        have hn' := hc'.next ha2 (by omega)
        exact Or.inr ⟨tNx b n p', u', w', C', hn'.1, hn'.2, Lv_brk hk hf (by omega) (by omega) (by omega) (by omega) hv⟩
      · have ht' := hc'.t
        exact Or.inl ⟨_, (c_ref ha2 hc'.1).1, Lf_brk1 hk hf (by omega) (by omega) hv⟩
  · exact Or.inl ⟨_, (c_ref ha hc.1).1, Lf_unit (Or.inr (Or.inr ⟨hk, by omega⟩))⟩
theorem c_unit_1 {b : Nat → Int} {n c0 d p : Nat} {E O : XR} (hE : XE_1 b n c0 1 E) {p0 r : Int32} {G G1 : GS} {C : List (Int × Int)} {u w : Int} (h : P_fUnit_1_s E O p0 G r G1) (hd : p0.toInt = (d : Int)) (hc : CfC_1 b n c0 G p C u w) : LR_1 b n c0 7 d p C u w r G1 := by
  obtain ⟨-, -, -, hh⟩ := h
  have z : (0 : Int32).toInt = 0 := rfl
  have ht := hc.t
  obtain ⟨hp, hu, hw, hC, hu30, hw90⟩ := id hc
  rcases hh with ⟨c, r3, G4, ha, rfl, rfl⟩ | ⟨c, ⟨cw, y11, t11, y13, t13, hh⟩ | ⟨cw, r3, G4, ha, rfl, rfl⟩⟩
  · exact Or.inl ⟨_, (c_ref ha hp).1, Lf_unit (Or.inr (Or.inl (Or.inr (by omega))))⟩
  · have g14 : ∀ G14 : GS, Fr [] [(1, 12), (4, 2)] G G14 → G14.1 1 12 = y13 → G14.1 4 2 = y11 → CfC_1 b n c0 G14 p C (u + 1) (w + 1) := by
      intro G14 hF e12 e2
      exact ⟨hp.fr hF (by decide) (by decide) (by decide) (by decide), by rw [e2]; omega, by rw [e12]; omega, hC.fr hF (by decide) (by decide) (by decide) (by decide), by omega, by omega⟩
    have fin : ∀ (x : Int × Int) (kk vv r28 : Int32) (G14 G24 G29 : GS), Fr [] [(1, 12), (4, 2)] G G14 → G14.1 1 12 = y13 → G14.1 4 2 = y11 → P_emit_1 kk vv G14 G24 → P_tAdvance G24 r28 G29 → kk.toInt = ekk x → vv.toInt = ekv x → tK b n p ≠ 202 → r28.toInt = 1 ∧ CfC_1 b n c0 G29 (tNx b n p) (C ++ [x]) (u + 1) (w + 1) := by
      intro x kk vv r28 G14 G24 G29 hF e12 e2 he ha hk hv h202
      exact ((g14 G14 hF e12 e2).emit he hk hv).next ha h202
    rcases hh with ⟨k40, G14, -, hF14, e12, e2, r16, G17, hb, rfl, rfl⟩ | ⟨k40, hh⟩
    · exact c_brk_1 hE hb hd (g14 G14 hF14 e12 e2) (by omega) (by omega)
    rcases hh with ⟨k139, G14, -, hF14, e12, e2, G24, he, r28, G29, ha, rfl, rfl⟩ | ⟨k139, hh⟩
    · have hk : tK b n p = 139 := by omega
      have hf := fin (1, 0) (G.1 3 3) 0 r28 G14 G24 G29 hF14 e12 e2 he ha (by show _ = (139 : Int); omega) rfl (by omega)
      have hv := Lv_opnd (b := b) (n := n) (d := d) (p := p) (C := C) (u := u) (w := w) (Or.inr (by rw [hk]; decide)) (by omega) (by omega) (by omega) (by omega)
      rw [hk, show (if ask 139 < 0 then ((0 : Int), tV b n p) else (1, ask 139)) = (1, 0) from rfl] at hv
      exact Or.inr ⟨_, _, _, _, hf.1, hf.2, hv⟩
    rcases hh with ⟨k140, G14, -, hF14, e12, e2, G24, he, r28, G29, ha, rfl, rfl⟩ | ⟨k140, hh⟩
    · have hk : tK b n p = 140 := by omega
      have hf := fin (1, 1) (G.1 3 3) 0 r28 G14 G24 G29 hF14 e12 e2 he ha (by show _ = (140 : Int); omega) rfl (by omega)
      have hv := Lv_opnd (b := b) (n := n) (d := d) (p := p) (C := C) (u := u) (w := w) (Or.inr (by rw [hk]; decide)) (by omega) (by omega) (by omega) (by omega)
      rw [hk, show (if ask 140 < 0 then ((0 : Int), tV b n p) else (1, ask 140)) = (1, 1) from rfl] at hv
      exact Or.inr ⟨_, _, _, _, hf.1, hf.2, hv⟩
    rcases hh with ⟨k141, G14, -, hF14, e12, e2, G24, he, r28, G29, ha, rfl, rfl⟩ | ⟨k141, hh⟩
    · have hk : tK b n p = 141 := by omega
      have hf := fin (1, 2) (G.1 3 3) 0 r28 G14 G24 G29 hF14 e12 e2 he ha (by show _ = (141 : Int); omega) rfl (by omega)
      have hv := Lv_opnd (b := b) (n := n) (d := d) (p := p) (C := C) (u := u) (w := w) (Or.inr (by rw [hk]; decide)) (by omega) (by omega) (by omega) (by omega)
      rw [hk, show (if ask 141 < 0 then ((0 : Int), tV b n p) else (1, ask 141)) = (1, 2) from rfl] at hv
      exact Or.inr ⟨_, _, _, _, hf.1, hf.2, hv⟩
    rcases hh with ⟨k142, G14, -, hF14, e12, e2, G24, he, r28, G29, ha, rfl, rfl⟩ | ⟨k142, hh⟩
    · have hk : tK b n p = 142 := by omega
      have hf := fin (1, 3) (G.1 3 3) 0 r28 G14 G24 G29 hF14 e12 e2 he ha (by show _ = (142 : Int); omega) rfl (by omega)
      have hv := Lv_opnd (b := b) (n := n) (d := d) (p := p) (C := C) (u := u) (w := w) (Or.inr (by rw [hk]; decide)) (by omega) (by omega) (by omega) (by omega)
      rw [hk, show (if ask 142 < 0 then ((0 : Int), tV b n p) else (1, ask 142)) = (1, 3) from rfl] at hv
      exact Or.inr ⟨_, _, _, _, hf.1, hf.2, hv⟩
    rcases hh with ⟨k143, G14, -, hF14, e12, e2, G24, he, r28, G29, ha, rfl, rfl⟩ | ⟨k143, hh⟩
    · have hk : tK b n p = 143 := by omega
      have hf := fin (1, 4) (G.1 3 3) 0 r28 G14 G24 G29 hF14 e12 e2 he ha (by show _ = (143 : Int); omega) rfl (by omega)
      have hv := Lv_opnd (b := b) (n := n) (d := d) (p := p) (C := C) (u := u) (w := w) (Or.inr (by rw [hk]; decide)) (by omega) (by omega) (by omega) (by omega)
      rw [hk, show (if ask 143 < 0 then ((0 : Int), tV b n p) else (1, ask 143)) = (1, 4) from rfl] at hv
      exact Or.inr ⟨_, _, _, _, hf.1, hf.2, hv⟩
    rcases hh with ⟨k147, G14, -, hF14, e12, e2, G24, he, r28, G29, ha, rfl, rfl⟩ | ⟨k147, hh⟩
    · have hk : tK b n p = 147 := by omega
      have hf := fin (1, 5) (G.1 3 3) 0 r28 G14 G24 G29 hF14 e12 e2 he ha (by show _ = (147 : Int); omega) rfl (by omega)
      have hv := Lv_opnd (b := b) (n := n) (d := d) (p := p) (C := C) (u := u) (w := w) (Or.inr (by rw [hk]; decide)) (by omega) (by omega) (by omega) (by omega)
      rw [hk, show (if ask 147 < 0 then ((0 : Int), tV b n p) else (1, ask 147)) = (1, 5) from rfl] at hv
      exact Or.inr ⟨_, _, _, _, hf.1, hf.2, hv⟩
    rcases hh with ⟨k148, G14, -, hF14, e12, e2, G24, he, r28, G29, ha, rfl, rfl⟩ | ⟨k148, hh⟩
    · have hk : tK b n p = 148 := by omega
      have hf := fin (1, 6) (G.1 3 3) 0 r28 G14 G24 G29 hF14 e12 e2 he ha (by show _ = (148 : Int); omega) rfl (by omega)
      have hv := Lv_opnd (b := b) (n := n) (d := d) (p := p) (C := C) (u := u) (w := w) (Or.inr (by rw [hk]; decide)) (by omega) (by omega) (by omega) (by omega)
      rw [hk, show (if ask 148 < 0 then ((0 : Int), tV b n p) else (1, ask 148)) = (1, 6) from rfl] at hv
      exact Or.inr ⟨_, _, _, _, hf.1, hf.2, hv⟩
    rcases hh with ⟨k149, G14, -, hF14, e12, e2, G24, he, r28, G29, ha, rfl, rfl⟩ | ⟨k149, hh⟩
    · have hk : tK b n p = 149 := by omega
      have hf := fin (1, 7) (G.1 3 3) 0 r28 G14 G24 G29 hF14 e12 e2 he ha (by show _ = (149 : Int); omega) rfl (by omega)
      have hv := Lv_opnd (b := b) (n := n) (d := d) (p := p) (C := C) (u := u) (w := w) (Or.inr (by rw [hk]; decide)) (by omega) (by omega) (by omega) (by omega)
      rw [hk, show (if ask 149 < 0 then ((0 : Int), tV b n p) else (1, ask 149)) = (1, 7) from rfl] at hv
      exact Or.inr ⟨_, _, _, _, hf.1, hf.2, hv⟩
    rcases hh with ⟨k150, G14, -, hF14, e12, e2, G24, he, r28, G29, ha, rfl, rfl⟩ | ⟨k150, hh⟩
    · have hk : tK b n p = 150 := by omega
      have hf := fin (1, 8) (G.1 3 3) 0 r28 G14 G24 G29 hF14 e12 e2 he ha (by show _ = (150 : Int); omega) rfl (by omega)
      have hv := Lv_opnd (b := b) (n := n) (d := d) (p := p) (C := C) (u := u) (w := w) (Or.inr (by rw [hk]; decide)) (by omega) (by omega) (by omega) (by omega)
      rw [hk, show (if ask 150 < 0 then ((0 : Int), tV b n p) else (1, ask 150)) = (1, 8) from rfl] at hv
      exact Or.inr ⟨_, _, _, _, hf.1, hf.2, hv⟩
    rcases hh with ⟨k201, G14, -, hF14, e12, e2, G24, he, r28, G29, ha, rfl, rfl⟩ | ⟨k201, G14, -, hF14, e12, e2, r142, G143, ha, rfl, rfl⟩
    · have hk : tK b n p = 201 := by omega
      have h5 := hp.2.1.2.2.2.1 hk
      have hf := fin (0, tV b n p) 201 (G.1 3 5) r28 G14 G24 G29 hF14 e12 e2 he ha rfl h5 (by omega)
      have hv := Lv_opnd (b := b) (n := n) (d := d) (p := p) (C := C) (u := u) (w := w) (Or.inl hk) (by omega) (by omega) (by omega) (by omega)
      rw [hk, show (if ask 201 < 0 then ((0 : Int), tV b n p) else (1, ask 201)) = (0, tV b n p) from rfl] at hv
      exact Or.inr ⟨_, _, _, _, hf.1, hf.2, hv⟩
    · have hn := ask_neg (k := tK b n p) (by omega) (by omega) (by omega) (by omega) (by omega) (by omega) (by omega) (by omega) (by omega)
      exact Or.inl ⟨_, (c_ref ha (g14 G14 hF14 e12 e2).1).1, Lf_unit (Or.inl ⟨by omega, by omega, by omega⟩)⟩
  · exact Or.inl ⟨_, (c_ref ha hp).1, Lf_unit (Or.inr (Or.inl (Or.inl (by omega))))⟩
theorem c_term_1 {b : Nat → Int} {n c0 d p : Nat} {E O : XR} (hE : XE_1 b n c0 1 E) {p0 r : Int32} {G G1 : GS} {C : List (Int × Int)} {u w : Int} (h : P_fTerm_1_s E O p0 G r G1) (hd : p0.toInt = (d : Int)) (hc : CfC_1 b n c0 G p C u w) : LR_1 b n c0 6 d p C u w r G1 := by
  obtain ⟨-, -, -, r1, G2, h1, hh⟩ := h
  have z : (0 : Int32).toInt = ((0 : Nat) : Int) := rfl
  have o : (1 : Int32).toInt = 1 := rfl
  have ht := hc.t
  have hL : ((6 : Int) = 6 ∧ (7 : Int) = 7) ∨ ((6 : Int) = 5 ∧ (7 : Int) = 6) ∨ ((6 : Int) = 2 ∧ (7 : Int) = 3) ∨ ((6 : Int) = 1 ∧ (7 : Int) = 2) := Or.inl ⟨rfl, rfl⟩
  rcases c_unit_1 hE h1 hd hc with ⟨f, hf1, hf2⟩ | ⟨p1, u1, w1, C1, hr1, hc1, hv1⟩
  · rcases hh with ⟨c2, rfl, rfl⟩ | ⟨c2, -⟩
    · exact Or.inl ⟨f, ⟨rfl, hf1.2⟩, Lf_init hL hf2⟩
    · have := hf1.1
      omega
  rcases hh with ⟨c2, -⟩ | ⟨c2, x, G8, hRc, hx, -, -, hh⟩
  · omega
  have hI := hRc (fun z => ∃ (p1 : Nat) (u1 w1 : Int) (C1 : List (Int × Int)) (k : Nat), z.1.toInt = (k : Int) ∧ p + 1 + k ≤ p1 ∧ CfC_1 b n c0 z.2 p1 C1 u1 w1 ∧ Lx b n 6 7 d p p1 C C1 u u1 w w1) ⟨p1, u1, w1, C1, 0, z, by have := hv1.1; omega, hc1, Lx_init hL hv1⟩ (by
    rintro ⟨x1, G_1⟩ ⟨xn, G_1n⟩ ⟨p2, u2, w2, C2, k, hk, hpk, hc2, hx2⟩ ⟨x1q, G_1q, xnq, G_1nq, e1, e2, -, -, c1, r18, G19, hti, c18, r25, G26, ha, r31, G32, h2, c31, G39, he, y43, t43, ex, eG⟩
    obtain ⟨rfl, rfl⟩ := Prod.mk.inj e1
    obtain ⟨rfl, rfl⟩ := Prod.mk.inj e2
    simp only at hk hc2
    have ht2 := hc2.t
    obtain ⟨rfl, hti2⟩ := c_times hti
    have hkk : tK b n p2 = 42 ∨ tK b n p2 = 47 ∨ tK b n p2 = 37 := by have := hti2.mp c18; omega
    have hsg : sig (tK b n p2) = tK b n p2 ∧ tgt (tK b n p2) = 6 ∧ cdo (tK b n p2) = (3, tK b n p2) ∧ ekk (3, tK b n p2) = tK b n p2 := by rcases hkk with e | e | e <;> rw [e] <;> decide
    have hn := hc2.next ha (by omega)
    have h3 := c_unit_1 hE h2 hd hn.2
    rcases h3 with ⟨f, hf1, -⟩ | ⟨p3, u3, w3, C3, hr3, hc3, hv3⟩
    · have := hf1.1
      omega
    · subst ex
      subst eG
      have hstep := Lx_step (tK b n p2) hL hsg.1 ⟨by omega, by omega, by omega⟩ hsg.2.1 (by omega) (by omega) hx2 hv3
      rw [hsg.2.2.1] at hstep
      exact ⟨p3, u3, w3, _, k + 1, by show y43.toInt = _; omega, by have := hv3.1; omega, hc3.emit he (x := (3, (tK b n p2))) (by rw [hsg.2.2.2]; omega) rfl, hstep⟩)
  obtain ⟨p2, u2, w2, C2, k, hk, hpk, hc2, hx2⟩ := hI
  simp only at hk hc2
  have ht2 := hc2.t
  rcases hh with ⟨c3, -⟩ | ⟨c3, r18, G19, hti, ⟨c18, rfl, rfl⟩ | ⟨c18, r25, G26, ha, r31, G32, h2, c31, rfl, rfl⟩⟩
  · omega
  · obtain ⟨rfl, hti2⟩ := c_times hti
    have hkk : ¬ (tK b n p2 = 42 ∨ tK b n p2 = 47 ∨ tK b n p2 = 37) := fun q => hti2.mpr (by omega) c18
    exact Or.inr ⟨p2, u2, w2, C2, o, hc2, Lx_end hx2 (fun T hT => ⟨fun _ => by omega, fun q => absurd q (by decide), fun q => absurd q (by decide), fun q => absurd q (by decide), fun q => absurd q (by decide)⟩)⟩
  · obtain ⟨rfl, hti2⟩ := c_times hti
    have hkk : tK b n p2 = 42 ∨ tK b n p2 = 47 ∨ tK b n p2 = 37 := by have := hti2.mp c18; omega
    have hsg : sig (tK b n p2) = tK b n p2 ∧ tgt (tK b n p2) = 6 ∧ cdo (tK b n p2) = (3, tK b n p2) ∧ ekk (3, tK b n p2) = tK b n p2 := by rcases hkk with e | e | e <;> rw [e] <;> decide
    have hn := hc2.next ha (by omega)
    rcases c_unit_1 hE h2 hd hn.2 with ⟨f, hf1, hf2⟩ | ⟨p3, u3, w3, C3, hr3, hc3, hv3⟩
    · exact Or.inl ⟨f, ⟨rfl, hf1.2⟩, Lf_step (tK b n p2) hL hsg.1 ⟨by omega, by omega, by omega⟩ hsg.2.1 (by omega) hx2 hf2⟩
    · omega
theorem c_sum_1 {b : Nat → Int} {n c0 d p : Nat} {E O : XR} (hE : XE_1 b n c0 1 E) {p0 r : Int32} {G G1 : GS} {C : List (Int × Int)} {u w : Int} (h : P_fSum_1_s E O p0 G r G1) (hd : p0.toInt = (d : Int)) (hc : CfC_1 b n c0 G p C u w) : LR_1 b n c0 5 d p C u w r G1 := by
  obtain ⟨-, -, -, r1, G2, h1, hh⟩ := h
  have z : (0 : Int32).toInt = ((0 : Nat) : Int) := rfl
  have o : (1 : Int32).toInt = 1 := rfl
  have ht := hc.t
  have hL : ((5 : Int) = 6 ∧ (6 : Int) = 7) ∨ ((5 : Int) = 5 ∧ (6 : Int) = 6) ∨ ((5 : Int) = 2 ∧ (6 : Int) = 3) ∨ ((5 : Int) = 1 ∧ (6 : Int) = 2) := Or.inr (Or.inl ⟨rfl, rfl⟩)
  rcases c_term_1 hE h1 hd hc with ⟨f, hf1, hf2⟩ | ⟨p1, u1, w1, C1, hr1, hc1, hv1⟩
  · rcases hh with ⟨c2, rfl, rfl⟩ | ⟨c2, -⟩
    · exact Or.inl ⟨f, ⟨rfl, hf1.2⟩, Lf_init hL hf2⟩
    · have := hf1.1
      omega
  rcases hh with ⟨c2, -⟩ | ⟨c2, x, G8, hRc, hx, -, -, hh⟩
  · omega
  have hI := hRc (fun z => ∃ (p1 : Nat) (u1 w1 : Int) (C1 : List (Int × Int)) (k : Nat), z.1.toInt = (k : Int) ∧ p + 1 + k ≤ p1 ∧ CfC_1 b n c0 z.2 p1 C1 u1 w1 ∧ Lx b n 5 6 d p p1 C C1 u u1 w w1) ⟨p1, u1, w1, C1, 0, z, by have := hv1.1; omega, hc1, Lx_init hL hv1⟩ (by
    rintro ⟨x1, G_1⟩ ⟨xn, G_1n⟩ ⟨p2, u2, w2, C2, k, hk, hpk, hc2, hx2⟩ ⟨x1, G_1, xn, G_1n, e1, e2, -, -, c1, G21, hJ, -, -, r25, G26, ha, r31, G32, h2, c31, G39, he, y43, t43, ex, eG⟩
    obtain ⟨rfl, rfl⟩ := Prod.mk.inj e1
    obtain ⟨rfl, rfl⟩ := Prod.mk.inj e2
    simp only at hk hc2
    have ht2 := hc2.t
    have hJ2 : G_1 = G21 ∧ (tK b n p2 = 43 ∨ tK b n p2 = 45) := by
      rcases hJ with ⟨c, e⟩ | ⟨c, c2, e⟩
      · exact ⟨e, Or.inl (by omega)⟩
      · exact ⟨e, Or.inr (by omega)⟩
    obtain ⟨rfl, hkk⟩ := hJ2
    have hsg : sig (tK b n p2) = tK b n p2 ∧ tgt (tK b n p2) = 5 ∧ cdo (tK b n p2) = (3, tK b n p2) ∧ ekk (3, tK b n p2) = tK b n p2 := by rcases hkk with e | e <;> rw [e] <;> decide
    have hn := hc2.next ha (by omega)
    have h3 := c_term_1 hE h2 hd hn.2
    rcases h3 with ⟨f, hf1, -⟩ | ⟨p3, u3, w3, C3, hr3, hc3, hv3⟩
    · have := hf1.1
      omega
    · subst ex
      subst eG
      have hstep := Lx_step (tK b n p2) hL hsg.1 ⟨by omega, by omega, by omega⟩ hsg.2.1 (by omega) (by omega) hx2 hv3
      rw [hsg.2.2.1] at hstep
      exact ⟨p3, u3, w3, _, k + 1, by show y43.toInt = _; omega, by have := hv3.1; omega, hc3.emit he (x := (3, (tK b n p2))) (by rw [hsg.2.2.2]; omega) rfl, hstep⟩)
  obtain ⟨p2, u2, w2, C2, k, hk, hpk, hc2, hx2⟩ := hI
  simp only at hk hc2
  have ht2 := hc2.t
  rcases hh with ⟨c3, -⟩ | ⟨c3, ⟨c43, c45, rfl, rfl⟩ | ⟨G21, hJ, -, -, r25, G26, ha, r31, G32, h2, c31, rfl, rfl⟩⟩
  · omega
  · exact Or.inr ⟨p2, u2, w2, C2, o, hc2, Lx_end hx2 (fun T hT => ⟨fun _ => hT.1 (by decide), fun _ => by omega, fun q => absurd q (by decide), fun q => absurd q (by decide), fun q => absurd q (by decide)⟩)⟩
  · have hJ2 : G8 = G21 ∧ (tK b n p2 = 43 ∨ tK b n p2 = 45) := by
      rcases hJ with ⟨c, e⟩ | ⟨c, c2, e⟩
      · exact ⟨e, Or.inl (by omega)⟩
      · exact ⟨e, Or.inr (by omega)⟩
    obtain ⟨rfl, hkk⟩ := hJ2
    have hsg : sig (tK b n p2) = tK b n p2 ∧ tgt (tK b n p2) = 5 ∧ cdo (tK b n p2) = (3, tK b n p2) ∧ ekk (3, tK b n p2) = tK b n p2 := by rcases hkk with e | e <;> rw [e] <;> decide
    have hn := hc2.next ha (by omega)
    rcases c_term_1 hE h2 hd hn.2 with ⟨f, hf1, hf2⟩ | ⟨p3, u3, w3, C3, hr3, hc3, hv3⟩
    · exact Or.inl ⟨f, ⟨rfl, hf1.2⟩, Lf_step (tK b n p2) hL hsg.1 ⟨by omega, by omega, by omega⟩ hsg.2.1 (by omega) hx2 hf2⟩
    · omega
theorem c_rel_1 {b : Nat → Int} {n c0 d p : Nat} {E O : XR} (hE : XE_1 b n c0 1 E) {p0 r : Int32} {G G1 : GS} {C : List (Int × Int)} {u w : Int} (h : P_fRelation_1_s E O p0 G r G1) (hd : p0.toInt = (d : Int)) (hc : CfC_1 b n c0 G p C u w) (h146 : tK b n p ≠ 146) : LR_1 b n c0 4 d p C u w r G1 := by
  obtain ⟨-, -, -, r1, G2, h1, hh⟩ := h
  have z : (0 : Int32).toInt = 0 := rfl
  have o : (1 : Int32).toInt = 1 := rfl
  rcases c_sum_1 hE h1 hd hc with ⟨f, hf1, hf2⟩ | ⟨p1, u1, w1, C1, hr1, hc1, hv1⟩
  · rcases hh with ⟨c2, rfl, rfl⟩ | ⟨c2, -⟩
    · exact Or.inl ⟨f, ⟨z, hf1.2⟩, Lf_rel0 h146 hf2⟩
    · have := hf1.1
      omega
  have ht1 := hc1.t
  rcases hh with ⟨c2, -⟩ | ⟨c2, ⟨c3, c4, c5, rfl, rfl⟩ | ⟨G11, hJ, -, -, r15, G16, ha, r21, G22, h2, hh⟩⟩
  · omega
  · exact Or.inr ⟨p1, u1, w1, C1, o, hc1, Lv_rel0 h146 hv1 (by omega)⟩
  · have hJ2 : G2 = G11 ∧ (tK b n p1 = 60 ∨ tK b n p1 = 62 ∨ tK b n p1 = 61) := by
      rcases hJ with ⟨c, e⟩ | ⟨c, ⟨c6, e⟩ | ⟨c6, c7, e⟩⟩
      · exact ⟨e, by omega⟩
      · exact ⟨e, by omega⟩
      · exact ⟨e, by omega⟩
    obtain ⟨rfl, hkk⟩ := hJ2
    have hsg : cdo (tK b n p1) = (3, tK b n p1) ∧ ekk (3, tK b n p1) = tK b n p1 := by rcases hkk with e | e | e <;> rw [e] <;> decide
    have hn := hc1.next ha (by omega)
    rcases c_sum_1 hE h2 hd hn.2 with ⟨f, hf1, hf2⟩ | ⟨p3, u3, w3, C3, hr3, hc3, hv3⟩
    · rcases hh with ⟨c6, rfl, rfl⟩ | ⟨c6, -⟩
      · exact Or.inl ⟨f, ⟨z, hf1.2⟩, Lf_rel1 h146 hkk hv1 hf2⟩
      · have := hf1.1
        omega
    · rcases hh with ⟨c6, -⟩ | ⟨c6, G29, he, rfl, rfl⟩
      · omega
      · have hv := Lv_rel1 h146 hkk (by omega) hv1 hv3
        rw [hsg.1] at hv
        exact Or.inr ⟨p3, u3, w3, _, o, hc3.emit he (x := (3, tK b n p1)) (by rw [hsg.2]; omega) rfl, hv⟩
theorem c_one_1 {b : Nat → Int} {n c0 d p : Nat} {E O : XR} (hE : XE_1 b n c0 1 E) (hO : XE_1 b n c0 3 O) {p0 r : Int32} {G G1 : GS} {C : List (Int × Int)} {u w : Int} (h : P_fOne_1_s E O p0 G r G1) (hd : p0.toInt = (d : Int)) (hc : CfC_1 b n c0 G p C u w) : LR_1 b n c0 3 d p C u w r G1 := by
  obtain ⟨-, -, -, hh⟩ := h
  have z : (0 : Int32).toInt = 0 := rfl
  have o : (1 : Int32).toInt = 1 := rfl
  have ht := hc.t
  rcases hh with ⟨c, ⟨c1, r3, G4, ha, y9, t9, r10, G11, hO1, hh⟩ | ⟨c1, r22, G23, ha, rfl, rfl⟩⟩ | ⟨c, r28, G29, hr, rfl, rfl⟩
  · have hk : tK b n p = 146 := by omega
    have hn := hc.next ha (by omega)
    rcases hO y9 (d + 1) G4 r10 G11 (tNx b n p) C u w (by omega) hO1 hn.2 with ⟨f, hf1, hf2⟩ | ⟨p1, u1, w1, C1, hr1, hc1, hv1⟩
    · rcases hh with ⟨c2, rfl, rfl⟩ | ⟨c2, -⟩
      · exact Or.inl ⟨f, ⟨z, hf1.2⟩, Lf_not hk (by omega) hf2⟩
      · have := hf1.1
        omega
    · rcases hh with ⟨c2, -⟩ | ⟨c2, G18, he, rfl, rfl⟩
      · omega
      · have hv := Lv_not hk (by omega) (by omega) hv1
        rw [show cdo 21 = (2, 0) from rfl] at hv
        exact Or.inr ⟨p1, u1, w1, _, o, hc1.emit he (x := (2, 0)) rfl rfl, hv⟩
  · exact Or.inl ⟨_, (c_ref ha hc.1).1, Lf_not7 (by omega) (by omega)⟩
  · rcases c_rel_1 hE hr hd hc (by omega) with ⟨f, hf1, hf2⟩ | ⟨p1, u1, w1, C1, hr1, hc1, hv1⟩
    · exact Or.inl ⟨f, hf1, Lf_one hf2⟩
    · exact Or.inr ⟨p1, u1, w1, C1, hr1, hc1, Lv_one hv1⟩
theorem c_both_1 {b : Nat → Int} {n c0 d p : Nat} {E O : XR} (hE : XE_1 b n c0 1 E) (hO : XE_1 b n c0 3 O) {p0 r : Int32} {G G1 : GS} {C : List (Int × Int)} {u w : Int} (h : P_fBoth_1_s E O p0 G r G1) (hd : p0.toInt = (d : Int)) (hc : CfC_1 b n c0 G p C u w) : LR_1 b n c0 2 d p C u w r G1 := by
  obtain ⟨-, -, -, r1, G2, h1, hh⟩ := h
  have z : (0 : Int32).toInt = ((0 : Nat) : Int) := rfl
  have o : (1 : Int32).toInt = 1 := rfl
  have ht := hc.t
  have hL : ((2 : Int) = 6 ∧ (3 : Int) = 7) ∨ ((2 : Int) = 5 ∧ (3 : Int) = 6) ∨ ((2 : Int) = 2 ∧ (3 : Int) = 3) ∨ ((2 : Int) = 1 ∧ (3 : Int) = 2) := Or.inr (Or.inr (Or.inl ⟨rfl, rfl⟩))
  rcases c_one_1 hE hO h1 hd hc with ⟨f, hf1, hf2⟩ | ⟨p1, u1, w1, C1, hr1, hc1, hv1⟩
  · rcases hh with ⟨c2, rfl, rfl⟩ | ⟨c2, -⟩
    · exact Or.inl ⟨f, ⟨rfl, hf1.2⟩, Lf_init hL hf2⟩
    · have := hf1.1
      omega
  rcases hh with ⟨c2, -⟩ | ⟨c2, x, G8, hRc, hx, -, -, hh⟩
  · omega
  have hI := hRc (fun z => ∃ (p1 : Nat) (u1 w1 : Int) (C1 : List (Int × Int)) (k : Nat), z.1.toInt = (k : Int) ∧ p + 1 + k ≤ p1 ∧ CfC_1 b n c0 z.2 p1 C1 u1 w1 ∧ Lx b n 2 3 d p p1 C C1 u u1 w w1) ⟨p1, u1, w1, C1, 0, z, by have := hv1.1; omega, hc1, Lx_init hL hv1⟩ (by
    rintro ⟨x1, G_1⟩ ⟨xn, G_1n⟩ ⟨p2, u2, w2, C2, k, hk, hpk, hc2, hx2⟩ ⟨x1, G_1, xn, G_1n, e1, e2, -, -, c1, c145, r25, G26, ha, r31, G32, h2, c31, G39, he, y43, t43, ex, eG⟩
    obtain ⟨rfl, rfl⟩ := Prod.mk.inj e1
    obtain ⟨rfl, rfl⟩ := Prod.mk.inj e2
    simp only at hk hc2
    have ht2 := hc2.t
    have hkk : tK b n p2 = 145 := by omega
    have hn := hc2.next ha (by omega)
    have h3 := c_one_1 hE hO h2 hd hn.2
    rcases h3 with ⟨f, hf1, -⟩ | ⟨p3, u3, w3, C3, hr3, hc3, hv3⟩
    · have := hf1.1
      omega
    · subst ex
      subst eG
      have hstep := Lx_step 38 hL (by rw [hkk]; rfl) (by decide) (by decide) (by omega) (by omega) hx2 hv3
      rw [show cdo 38 = (3, 38) from rfl] at hstep
      exact ⟨p3, u3, w3, _, k + 1, by show y43.toInt = _; omega, by have := hv3.1; omega, hc3.emit he (x := (3, 38)) rfl rfl, hstep⟩)
  obtain ⟨p2, u2, w2, C2, k, hk, hpk, hc2, hx2⟩ := hI
  simp only at hk hc2
  have ht2 := hc2.t
  rcases hh with ⟨c3, -⟩ | ⟨c3, ⟨c4, r25, G26, ha, r31, G32, h2, c31, rfl, rfl⟩ | ⟨c4, rfl, rfl⟩⟩
  · omega
  · have hkk : tK b n p2 = 145 := by omega
    have hn := hc2.next ha (by omega)
    rcases c_one_1 hE hO h2 hd hn.2 with ⟨f, hf1, hf2⟩ | ⟨p3, u3, w3, C3, hr3, hc3, hv3⟩
    · exact Or.inl ⟨f, ⟨rfl, hf1.2⟩, Lf_step 38 hL (by rw [hkk]; rfl) (by decide) (by decide) (by omega) hx2 hf2⟩
    · omega
  · exact Or.inr ⟨p2, u2, w2, C2, o, hc2, Lx_end hx2 (fun T hT => ⟨fun _ => hT.1 (by decide), fun _ => hT.2.1 (by decide), fun _ => hT.2.2.1 (by decide), fun _ => by omega, fun q => absurd q (by decide)⟩)⟩
theorem c_either_1 {b : Nat → Int} {n c0 d p : Nat} {E O : XR} (hE : XE_1 b n c0 1 E) (hO : XE_1 b n c0 3 O) {p0 r : Int32} {G G1 : GS} {C : List (Int × Int)} {u w : Int} (h : P_fEither_1_s E O p0 G r G1) (hd : p0.toInt = (d : Int)) (hc : CfC_1 b n c0 G p C u w) : LR_1 b n c0 1 d p C u w r G1 := by
  obtain ⟨-, -, -, r1, G2, h1, hh⟩ := h
  have z : (0 : Int32).toInt = ((0 : Nat) : Int) := rfl
  have o : (1 : Int32).toInt = 1 := rfl
  have ht := hc.t
  have hL : ((1 : Int) = 6 ∧ (2 : Int) = 7) ∨ ((1 : Int) = 5 ∧ (2 : Int) = 6) ∨ ((1 : Int) = 2 ∧ (2 : Int) = 3) ∨ ((1 : Int) = 1 ∧ (2 : Int) = 2) := Or.inr (Or.inr (Or.inr ⟨rfl, rfl⟩))
  rcases c_both_1 hE hO h1 hd hc with ⟨f, hf1, hf2⟩ | ⟨p1, u1, w1, C1, hr1, hc1, hv1⟩
  · rcases hh with ⟨c2, rfl, rfl⟩ | ⟨c2, -⟩
    · exact Or.inl ⟨f, ⟨rfl, hf1.2⟩, Lf_init hL hf2⟩
    · have := hf1.1
      omega
  rcases hh with ⟨c2, -⟩ | ⟨c2, x, G8, hRc, hx, -, -, hh⟩
  · omega
  have hI := hRc (fun z => ∃ (p1 : Nat) (u1 w1 : Int) (C1 : List (Int × Int)) (k : Nat), z.1.toInt = (k : Int) ∧ p + 1 + k ≤ p1 ∧ CfC_1 b n c0 z.2 p1 C1 u1 w1 ∧ Lx b n 1 2 d p p1 C C1 u u1 w w1) ⟨p1, u1, w1, C1, 0, z, by have := hv1.1; omega, hc1, Lx_init hL hv1⟩ (by
    rintro ⟨x1, G_1⟩ ⟨xn, G_1n⟩ ⟨p2, u2, w2, C2, k, hk, hpk, hc2, hx2⟩ ⟨x1, G_1, xn, G_1n, e1, e2, -, -, c1, c144, r25, G26, ha, r31, G32, h2, c31, G39, he, y43, t43, ex, eG⟩
    obtain ⟨rfl, rfl⟩ := Prod.mk.inj e1
    obtain ⟨rfl, rfl⟩ := Prod.mk.inj e2
    simp only at hk hc2
    have ht2 := hc2.t
    have hkk : tK b n p2 = 144 := by omega
    have hn := hc2.next ha (by omega)
    have h3 := c_both_1 hE hO h2 hd hn.2
    rcases h3 with ⟨f, hf1, -⟩ | ⟨p3, u3, w3, C3, hr3, hc3, hv3⟩
    · have := hf1.1
      omega
    · subst ex
      subst eG
      have hstep := Lx_step 124 hL (by rw [hkk]; rfl) (by decide) (by decide) (by omega) (by omega) hx2 hv3
      rw [show cdo 124 = (3, 124) from rfl] at hstep
      exact ⟨p3, u3, w3, _, k + 1, by show y43.toInt = _; omega, by have := hv3.1; omega, hc3.emit he (x := (3, 124)) rfl rfl, hstep⟩)
  obtain ⟨p2, u2, w2, C2, k, hk, hpk, hc2, hx2⟩ := hI
  simp only at hk hc2
  have ht2 := hc2.t
  rcases hh with ⟨c3, -⟩ | ⟨c3, ⟨c4, r25, G26, ha, r31, G32, h2, c31, rfl, rfl⟩ | ⟨c4, rfl, rfl⟩⟩
  · omega
  · have hkk : tK b n p2 = 144 := by omega
    have hn := hc2.next ha (by omega)
    rcases c_both_1 hE hO h2 hd hn.2 with ⟨f, hf1, hf2⟩ | ⟨p3, u3, w3, C3, hr3, hc3, hv3⟩
    · exact Or.inl ⟨f, ⟨rfl, hf1.2⟩, Lf_step 124 hL (by rw [hkk]; rfl) (by decide) (by decide) (by omega) hx2 hf2⟩
    · omega
  · exact Or.inr ⟨p2, u2, w2, C2, o, hc2, Lx_end hx2 (fun T hT => ⟨fun _ => hT.1 (by decide), fun _ => hT.2.1 (by decide), fun _ => hT.2.2.1 (by decide), fun _ => hT.2.2.2.1 (by decide), fun _ => by omega⟩)⟩
theorem c_grp_1 {b : Nat → Int} {n c0 : Nat} (k : Nat) : XE_1 b n c0 1 (PPf_1 k).1 ∧ XE_1 b n c0 3 (PPf_1 k).2 := by
  induction k with
  | zero => exact ⟨fun p0 d G r G1 p C u w _ h _ => h.elim, fun p0 d G r G1 p C u w _ h _ => h.elim⟩
  | succ k ih => exact ⟨fun p0 d G r G1 p C u w hd h hc => c_either_1 ih.1 ih.2 h hd hc, fun p0 d G r G1 p C u w hd h hc => c_one_1 ih.1 ih.2 h hd hc⟩
theorem c_form_1 {b : Nat → Int} {n c0 p : Nat} {r : Int32} {G G1 : GS} {w : Int} (h : P_fRead_1 G r G1) (hp : CPx b n G p) (hw : (G.1 1 12).toInt = w) (hw90 : w ≤ 90) (hC : CodeC_1 c0 [] G) : (∃ f, CF f r G1 ∧ Ev b n (true, p, [], [], 0, w) (.inl f)) ∨ (∃ p' u' w' C', r.toInt = 1 ∧ CfC_1 b n c0 G1 p' C' u' w' ∧ p < p' ∧ Ev b n (true, p, [], [], 0, w) (.inr (p', C', u', w'))) := by
  obtain ⟨-, -, -, G2, -, hF2, -, e2, r3, G4, h1, rfl, rfl⟩ := h
  have hc : CfC_1 b n c0 G2 p [] 0 w := ⟨hp.fr hF2 (by decide) (by decide) (by decide) (by decide), by rw [e2]; rfl, by rw [hF2.i 1 12 (by decide) (by decide)]; exact hw, hC.fr hF2 (by decide) (by decide) (by decide) (by decide), by decide, hw90⟩
  have hg := c_grp_1 (b := b) (n := n) (c0 := c0) 7
  rcases c_either_1 (d := 0) hg.1 hg.2 h1 rfl hc with ⟨f, hf1, hf2⟩ | ⟨p1, u1, w1, C1, hr1, hc1, hv1⟩
  · exact Or.inl ⟨f, hf1, Ev_topf hf2⟩
  · exact Or.inr ⟨p1, u1, w1, C1, hr1, hc1, hv1.1, Ev_top hv1⟩
def CodeC_2 (c0 : Nat) (C : List (Int × Int)) (G : GS) : Prop := ((c0 + C.length ≤ 580 ∧ (G.1 2 13).toInt = ((c0 + C.length : Nat) : Int)) ∨ (580 < c0 + C.length ∧ (G.1 2 13).toInt = 580)) ∧ ∀ i, i < C.length → c0 + i < 580 → G.1 27 (c0 + i) = encd (ekk (C.getD i (0, 0))) (ekv (C.getD i (0, 0)))
def CfC_2 (b : Nat → Int) (n c0 : Nat) (G : GS) (p : Nat) (C : List (Int × Int)) (u w : Int) : Prop := CPx b n G p ∧ (G.1 4 2).toInt = u ∧ (G.1 2 12).toInt = w ∧ CodeC_2 c0 C G ∧ u ≤ 30 ∧ w ≤ 90
def LR_2 (b : Nat → Int) (n c0 : Nat) (L : Int) (d p : Nat) (C : List (Int × Int)) (u w : Int) (r : Int32) (G1 : GS) : Prop := (∃ f, CF f r G1 ∧ Lf b n L d p C u w f) ∨ (∃ p' u' w' C', r.toInt = 1 ∧ CfC_2 b n c0 G1 p' C' u' w' ∧ Lv b n L d p p' C C' u u' w w')
def XE_2 (b : Nat → Int) (n c0 : Nat) (L : Int) (E : XR) : Prop := ∀ (p0 : Int32) (d : Nat) (G : GS) (r : Int32) (G1 : GS) (p : Nat) (C : List (Int × Int)) (u w : Int), p0.toInt = (d : Int) → E p0 G r G1 → CfC_2 b n c0 G p C u w → LR_2 b n c0 L d p C u w r G1
theorem CodeC_2.fr {c0 : Nat} {C : List (Int × Int)} {rs : List Nat} {fs : List (Nat × Nat)} {G G1 : GS} (h : CodeC_2 c0 C G) (hF : Fr rs fs G G1) (h1 : 2 ∉ rs) (h2 : (2, 13) ∉ fs) (h3 : 27 ∉ rs) (h4 : ∀ x ∈ fs, x.1 ≠ 27) : CodeC_2 c0 C G1 := by
  unfold CodeC_2 at h ⊢
  rw [hF.i 2 13 h1 h2, hF.row1 27 h3 h4]
  exact h
theorem c_emit_2 {c0 : Nat} {C : List (Int × Int)} {G G1 : GS} {k v : Int32} {x : Int × Int} (h : P_emit_2 k v G G1) (hC : CodeC_2 c0 C G) (hk : k.toInt = ekk x) (hv : v.toInt = ekv x) : CodeC_2 c0 (C ++ [x]) G1 := by
  obtain ⟨-, -, hh⟩ := h
  obtain ⟨h1, h2⟩ := hC
  unfold CodeC_2
  rw [List.length_append, List.length_singleton]
  rcases hh with ⟨c, rfl⟩ | ⟨c, y3, t3, y5, e5, y6, e6, hF, e13, eR⟩
  · refine ⟨Or.inr ⟨by omega, by omega⟩, fun i hi hc => ?_⟩
    rw [getD_sn, if_pos (by omega)]
    exact h2 i (by omega) hc
  · refine ⟨Or.inl ⟨by omega, by rw [e13]; omega⟩, fun i hi hc => ?_⟩
    rw [eR, getD_sn]
    by_cases hq : i < C.length
    · rw [if_pos hq]
      have e : upd (G.1 27) (G.1 2 13).toNatClampNeg y6 (c0 + i) = G.1 27 (c0 + i) := if_neg (by have := c_nat (G.1 2 13); omega)
      rw [e]
      exact h2 i hq hc
    · rw [if_neg hq, if_pos (by omega)]
      have e : upd (G.1 27) (G.1 2 13).toNatClampNeg y6 (c0 + i) = y6 := if_pos (by have := c_nat (G.1 2 13); omega)
      rw [e, e6, e5, encd, ← hk, ← hv, Int32.ofInt_toInt, Int32.ofInt_toInt]
theorem CfC_2.next {b : Nat → Int} {n c0 p : Nat} {G G1 : GS} {C : List (Int × Int)} {u w : Int} {r : Int32} (h : CfC_2 b n c0 G p C u w) (ha : P_tAdvance G r G1) (hk : tK b n p ≠ 202) : r.toInt = 1 ∧ CfC_2 b n c0 G1 (tNx b n p) C u w := by
  obtain ⟨hp, hu, hw, hC, hb⟩ := h
  have hn := c_next ha hp hk
  exact ⟨hn.1, hn.2, by rw [ha.2.1.i 4 2 (by decide) (by decide)]; exact hu, by rw [ha.2.1.i 2 12 (by decide) (by decide)]; exact hw, hC.fr ha.2.1 (by decide) (by decide) (by decide) (by decide), hb⟩
theorem CfC_2.emit {b : Nat → Int} {n c0 p : Nat} {G G1 : GS} {C : List (Int × Int)} {u w : Int} {k v : Int32} {x : Int × Int} (h : CfC_2 b n c0 G p C u w) (he : P_emit_2 k v G G1) (hk : k.toInt = ekk x) (hv : v.toInt = ekv x) : CfC_2 b n c0 G1 p (C ++ [x]) u w := by
  obtain ⟨hp, hu, hw, hC, hb⟩ := h
  exact ⟨hp.fr he.2.1 (by decide) (by decide) (by decide) (by decide), by rw [he.2.1.i 4 2 (by decide) (by decide)]; exact hu, by rw [he.2.1.i 2 12 (by decide) (by decide)]; exact hw, c_emit_2 he hC hk hv, hb⟩
theorem CfC_2.t {b : Nat → Int} {n c0 p : Nat} {G : GS} {C : List (Int × Int)} {u w : Int} (h : CfC_2 b n c0 G p C u w) : n ≤ 1600 ∧ p ≤ n ∧ (G.1 3 3).toInt = tK b n p ∧ p ≤ tNx b n p ∧ tNx b n p ≤ n ∧ (tK b n p ≠ 203 → p < tNx b n p) := by
  have h1 := tN_p (b := b) h.1.1.2.1 h.1.2.2.2
  exact ⟨h.1.1.2.1, h.1.2.2.2, h.1.2.1.1, h1.1, h1.2.1, fun q => (h1.2.2 q).1⟩
theorem c_brk_2 {b : Nat → Int} {n c0 d p : Nat} {E O : XR} (hE : XE_2 b n c0 1 E) {p0 r : Int32} {G G1 : GS} {C : List (Int × Int)} {u w : Int} (h : P_fBracket_2_s E O p0 G r G1) (hd : p0.toInt = (d : Int)) (hc : CfC_2 b n c0 G p C (u + 1) (w + 1)) (hk : tK b n p = 40) (hf : ¬ (w = 90 ∨ u = 30)) : LR_2 b n c0 7 d p C u w r G1 := by
  obtain ⟨-, -, -, hh⟩ := h
  have z : (0 : Int32).toInt = 0 := rfl
  have ht := hc.t
  rcases hh with ⟨c, r2, G3, ha, y8, t8, r9, G10, hE1, hh⟩ | ⟨c, r29, G30, ha, rfl, rfl⟩
  · have hn := hc.next ha (by omega)
    have h1 := hE y8 (d + 1) G3 r9 G10 (tNx b n p) C (u + 1) (w + 1) (by omega) hE1 hn.2
    rcases h1 with ⟨f, hf1, hf2⟩ | ⟨p', u', w', C', hr, hc', hv⟩
    · rcases hh with ⟨c2, rfl, rfl⟩ | ⟨c2, hh⟩
      · exact Or.inl ⟨f, ⟨z, hf1.2⟩, Lf_brk0 hk hf (by omega) hf2⟩
      · have := hf1.1
        omega
    · rcases hh with ⟨c2, -⟩ | ⟨c2, ⟨c3, r23, G24, ha2, rfl, rfl⟩ | ⟨c3, r17, G18, ha2, rfl, rfl⟩⟩
      · omega
      · have ht' := hc'.t
        have hn' := hc'.next ha2 (by omega)
        exact Or.inr ⟨tNx b n p', u', w', C', hn'.1, hn'.2, Lv_brk hk hf (by omega) (by omega) (by omega) (by omega) hv⟩
      · have ht' := hc'.t
        exact Or.inl ⟨_, (c_ref ha2 hc'.1).1, Lf_brk1 hk hf (by omega) (by omega) hv⟩
  · exact Or.inl ⟨_, (c_ref ha hc.1).1, Lf_unit (Or.inr (Or.inr ⟨hk, by omega⟩))⟩
theorem c_unit_2 {b : Nat → Int} {n c0 d p : Nat} {E O : XR} (hE : XE_2 b n c0 1 E) {p0 r : Int32} {G G1 : GS} {C : List (Int × Int)} {u w : Int} (h : P_fUnit_2_s E O p0 G r G1) (hd : p0.toInt = (d : Int)) (hc : CfC_2 b n c0 G p C u w) : LR_2 b n c0 7 d p C u w r G1 := by
  obtain ⟨-, -, -, hh⟩ := h
  have z : (0 : Int32).toInt = 0 := rfl
  have ht := hc.t
  obtain ⟨hp, hu, hw, hC, hu30, hw90⟩ := id hc
  rcases hh with ⟨c, r3, G4, ha, rfl, rfl⟩ | ⟨c, ⟨cw, y11, t11, y13, t13, hh⟩ | ⟨cw, r3, G4, ha, rfl, rfl⟩⟩
  · exact Or.inl ⟨_, (c_ref ha hp).1, Lf_unit (Or.inr (Or.inl (Or.inr (by omega))))⟩
  · have g14 : ∀ G14 : GS, Fr [] [(2, 12), (4, 2)] G G14 → G14.1 2 12 = y13 → G14.1 4 2 = y11 → CfC_2 b n c0 G14 p C (u + 1) (w + 1) := by
      intro G14 hF e12 e2
      exact ⟨hp.fr hF (by decide) (by decide) (by decide) (by decide), by rw [e2]; omega, by rw [e12]; omega, hC.fr hF (by decide) (by decide) (by decide) (by decide), by omega, by omega⟩
    have fin : ∀ (x : Int × Int) (kk vv r28 : Int32) (G14 G24 G29 : GS), Fr [] [(2, 12), (4, 2)] G G14 → G14.1 2 12 = y13 → G14.1 4 2 = y11 → P_emit_2 kk vv G14 G24 → P_tAdvance G24 r28 G29 → kk.toInt = ekk x → vv.toInt = ekv x → tK b n p ≠ 202 → r28.toInt = 1 ∧ CfC_2 b n c0 G29 (tNx b n p) (C ++ [x]) (u + 1) (w + 1) := by
      intro x kk vv r28 G14 G24 G29 hF e12 e2 he ha hk hv h202
      exact ((g14 G14 hF e12 e2).emit he hk hv).next ha h202
    rcases hh with ⟨k40, G14, -, hF14, e12, e2, r16, G17, hb, rfl, rfl⟩ | ⟨k40, hh⟩
    · exact c_brk_2 hE hb hd (g14 G14 hF14 e12 e2) (by omega) (by omega)
    rcases hh with ⟨k139, G14, -, hF14, e12, e2, G24, he, r28, G29, ha, rfl, rfl⟩ | ⟨k139, hh⟩
    · have hk : tK b n p = 139 := by omega
      have hf := fin (1, 0) (G.1 3 3) 0 r28 G14 G24 G29 hF14 e12 e2 he ha (by show _ = (139 : Int); omega) rfl (by omega)
      have hv := Lv_opnd (b := b) (n := n) (d := d) (p := p) (C := C) (u := u) (w := w) (Or.inr (by rw [hk]; decide)) (by omega) (by omega) (by omega) (by omega)
      rw [hk, show (if ask 139 < 0 then ((0 : Int), tV b n p) else (1, ask 139)) = (1, 0) from rfl] at hv
      exact Or.inr ⟨_, _, _, _, hf.1, hf.2, hv⟩
    rcases hh with ⟨k140, G14, -, hF14, e12, e2, G24, he, r28, G29, ha, rfl, rfl⟩ | ⟨k140, hh⟩
    · have hk : tK b n p = 140 := by omega
      have hf := fin (1, 1) (G.1 3 3) 0 r28 G14 G24 G29 hF14 e12 e2 he ha (by show _ = (140 : Int); omega) rfl (by omega)
      have hv := Lv_opnd (b := b) (n := n) (d := d) (p := p) (C := C) (u := u) (w := w) (Or.inr (by rw [hk]; decide)) (by omega) (by omega) (by omega) (by omega)
      rw [hk, show (if ask 140 < 0 then ((0 : Int), tV b n p) else (1, ask 140)) = (1, 1) from rfl] at hv
      exact Or.inr ⟨_, _, _, _, hf.1, hf.2, hv⟩
    rcases hh with ⟨k141, G14, -, hF14, e12, e2, G24, he, r28, G29, ha, rfl, rfl⟩ | ⟨k141, hh⟩
    · have hk : tK b n p = 141 := by omega
      have hf := fin (1, 2) (G.1 3 3) 0 r28 G14 G24 G29 hF14 e12 e2 he ha (by show _ = (141 : Int); omega) rfl (by omega)
      have hv := Lv_opnd (b := b) (n := n) (d := d) (p := p) (C := C) (u := u) (w := w) (Or.inr (by rw [hk]; decide)) (by omega) (by omega) (by omega) (by omega)
      rw [hk, show (if ask 141 < 0 then ((0 : Int), tV b n p) else (1, ask 141)) = (1, 2) from rfl] at hv
      exact Or.inr ⟨_, _, _, _, hf.1, hf.2, hv⟩
    rcases hh with ⟨k142, G14, -, hF14, e12, e2, G24, he, r28, G29, ha, rfl, rfl⟩ | ⟨k142, hh⟩
    · have hk : tK b n p = 142 := by omega
      have hf := fin (1, 3) (G.1 3 3) 0 r28 G14 G24 G29 hF14 e12 e2 he ha (by show _ = (142 : Int); omega) rfl (by omega)
      have hv := Lv_opnd (b := b) (n := n) (d := d) (p := p) (C := C) (u := u) (w := w) (Or.inr (by rw [hk]; decide)) (by omega) (by omega) (by omega) (by omega)
      rw [hk, show (if ask 142 < 0 then ((0 : Int), tV b n p) else (1, ask 142)) = (1, 3) from rfl] at hv
      exact Or.inr ⟨_, _, _, _, hf.1, hf.2, hv⟩
    rcases hh with ⟨k143, G14, -, hF14, e12, e2, G24, he, r28, G29, ha, rfl, rfl⟩ | ⟨k143, hh⟩
    · have hk : tK b n p = 143 := by omega
      have hf := fin (1, 4) (G.1 3 3) 0 r28 G14 G24 G29 hF14 e12 e2 he ha (by show _ = (143 : Int); omega) rfl (by omega)
      have hv := Lv_opnd (b := b) (n := n) (d := d) (p := p) (C := C) (u := u) (w := w) (Or.inr (by rw [hk]; decide)) (by omega) (by omega) (by omega) (by omega)
      rw [hk, show (if ask 143 < 0 then ((0 : Int), tV b n p) else (1, ask 143)) = (1, 4) from rfl] at hv
      exact Or.inr ⟨_, _, _, _, hf.1, hf.2, hv⟩
    rcases hh with ⟨k147, G14, -, hF14, e12, e2, G24, he, r28, G29, ha, rfl, rfl⟩ | ⟨k147, hh⟩
    · have hk : tK b n p = 147 := by omega
      have hf := fin (1, 5) (G.1 3 3) 0 r28 G14 G24 G29 hF14 e12 e2 he ha (by show _ = (147 : Int); omega) rfl (by omega)
      have hv := Lv_opnd (b := b) (n := n) (d := d) (p := p) (C := C) (u := u) (w := w) (Or.inr (by rw [hk]; decide)) (by omega) (by omega) (by omega) (by omega)
      rw [hk, show (if ask 147 < 0 then ((0 : Int), tV b n p) else (1, ask 147)) = (1, 5) from rfl] at hv
      exact Or.inr ⟨_, _, _, _, hf.1, hf.2, hv⟩
    rcases hh with ⟨k148, G14, -, hF14, e12, e2, G24, he, r28, G29, ha, rfl, rfl⟩ | ⟨k148, hh⟩
    · have hk : tK b n p = 148 := by omega
      have hf := fin (1, 6) (G.1 3 3) 0 r28 G14 G24 G29 hF14 e12 e2 he ha (by show _ = (148 : Int); omega) rfl (by omega)
      have hv := Lv_opnd (b := b) (n := n) (d := d) (p := p) (C := C) (u := u) (w := w) (Or.inr (by rw [hk]; decide)) (by omega) (by omega) (by omega) (by omega)
      rw [hk, show (if ask 148 < 0 then ((0 : Int), tV b n p) else (1, ask 148)) = (1, 6) from rfl] at hv
      exact Or.inr ⟨_, _, _, _, hf.1, hf.2, hv⟩
    rcases hh with ⟨k149, G14, -, hF14, e12, e2, G24, he, r28, G29, ha, rfl, rfl⟩ | ⟨k149, hh⟩
    · have hk : tK b n p = 149 := by omega
      have hf := fin (1, 7) (G.1 3 3) 0 r28 G14 G24 G29 hF14 e12 e2 he ha (by show _ = (149 : Int); omega) rfl (by omega)
      have hv := Lv_opnd (b := b) (n := n) (d := d) (p := p) (C := C) (u := u) (w := w) (Or.inr (by rw [hk]; decide)) (by omega) (by omega) (by omega) (by omega)
      rw [hk, show (if ask 149 < 0 then ((0 : Int), tV b n p) else (1, ask 149)) = (1, 7) from rfl] at hv
      exact Or.inr ⟨_, _, _, _, hf.1, hf.2, hv⟩
    rcases hh with ⟨k150, G14, -, hF14, e12, e2, G24, he, r28, G29, ha, rfl, rfl⟩ | ⟨k150, hh⟩
    · have hk : tK b n p = 150 := by omega
      have hf := fin (1, 8) (G.1 3 3) 0 r28 G14 G24 G29 hF14 e12 e2 he ha (by show _ = (150 : Int); omega) rfl (by omega)
      have hv := Lv_opnd (b := b) (n := n) (d := d) (p := p) (C := C) (u := u) (w := w) (Or.inr (by rw [hk]; decide)) (by omega) (by omega) (by omega) (by omega)
      rw [hk, show (if ask 150 < 0 then ((0 : Int), tV b n p) else (1, ask 150)) = (1, 8) from rfl] at hv
      exact Or.inr ⟨_, _, _, _, hf.1, hf.2, hv⟩
    rcases hh with ⟨k201, G14, -, hF14, e12, e2, G24, he, r28, G29, ha, rfl, rfl⟩ | ⟨k201, G14, -, hF14, e12, e2, r142, G143, ha, rfl, rfl⟩
    · have hk : tK b n p = 201 := by omega
      have h5 := hp.2.1.2.2.2.1 hk
      have hf := fin (0, tV b n p) 201 (G.1 3 5) r28 G14 G24 G29 hF14 e12 e2 he ha rfl h5 (by omega)
      have hv := Lv_opnd (b := b) (n := n) (d := d) (p := p) (C := C) (u := u) (w := w) (Or.inl hk) (by omega) (by omega) (by omega) (by omega)
      rw [hk, show (if ask 201 < 0 then ((0 : Int), tV b n p) else (1, ask 201)) = (0, tV b n p) from rfl] at hv
      exact Or.inr ⟨_, _, _, _, hf.1, hf.2, hv⟩
    · have hn := ask_neg (k := tK b n p) (by omega) (by omega) (by omega) (by omega) (by omega) (by omega) (by omega) (by omega) (by omega)
      exact Or.inl ⟨_, (c_ref ha (g14 G14 hF14 e12 e2).1).1, Lf_unit (Or.inl ⟨by omega, by omega, by omega⟩)⟩
  · exact Or.inl ⟨_, (c_ref ha hp).1, Lf_unit (Or.inr (Or.inl (Or.inl (by omega))))⟩
theorem c_term_2 {b : Nat → Int} {n c0 d p : Nat} {E O : XR} (hE : XE_2 b n c0 1 E) {p0 r : Int32} {G G1 : GS} {C : List (Int × Int)} {u w : Int} (h : P_fTerm_2_s E O p0 G r G1) (hd : p0.toInt = (d : Int)) (hc : CfC_2 b n c0 G p C u w) : LR_2 b n c0 6 d p C u w r G1 := by
  obtain ⟨-, -, -, r1, G2, h1, hh⟩ := h
  have z : (0 : Int32).toInt = ((0 : Nat) : Int) := rfl
  have o : (1 : Int32).toInt = 1 := rfl
  have ht := hc.t
  have hL : ((6 : Int) = 6 ∧ (7 : Int) = 7) ∨ ((6 : Int) = 5 ∧ (7 : Int) = 6) ∨ ((6 : Int) = 2 ∧ (7 : Int) = 3) ∨ ((6 : Int) = 1 ∧ (7 : Int) = 2) := Or.inl ⟨rfl, rfl⟩
  rcases c_unit_2 hE h1 hd hc with ⟨f, hf1, hf2⟩ | ⟨p1, u1, w1, C1, hr1, hc1, hv1⟩
  · rcases hh with ⟨c2, rfl, rfl⟩ | ⟨c2, -⟩
    · exact Or.inl ⟨f, ⟨rfl, hf1.2⟩, Lf_init hL hf2⟩
    · have := hf1.1
      omega
  rcases hh with ⟨c2, -⟩ | ⟨c2, x, G8, hRc, hx, -, -, hh⟩
  · omega
  have hI := hRc (fun z => ∃ (p1 : Nat) (u1 w1 : Int) (C1 : List (Int × Int)) (k : Nat), z.1.toInt = (k : Int) ∧ p + 1 + k ≤ p1 ∧ CfC_2 b n c0 z.2 p1 C1 u1 w1 ∧ Lx b n 6 7 d p p1 C C1 u u1 w w1) ⟨p1, u1, w1, C1, 0, z, by have := hv1.1; omega, hc1, Lx_init hL hv1⟩ (by
    rintro ⟨x1, G_1⟩ ⟨xn, G_1n⟩ ⟨p2, u2, w2, C2, k, hk, hpk, hc2, hx2⟩ ⟨x1q, G_1q, xnq, G_1nq, e1, e2, -, -, c1, r18, G19, hti, c18, r25, G26, ha, r31, G32, h2, c31, G39, he, y43, t43, ex, eG⟩
    obtain ⟨rfl, rfl⟩ := Prod.mk.inj e1
    obtain ⟨rfl, rfl⟩ := Prod.mk.inj e2
    simp only at hk hc2
    have ht2 := hc2.t
    obtain ⟨rfl, hti2⟩ := c_times hti
    have hkk : tK b n p2 = 42 ∨ tK b n p2 = 47 ∨ tK b n p2 = 37 := by have := hti2.mp c18; omega
    have hsg : sig (tK b n p2) = tK b n p2 ∧ tgt (tK b n p2) = 6 ∧ cdo (tK b n p2) = (3, tK b n p2) ∧ ekk (3, tK b n p2) = tK b n p2 := by rcases hkk with e | e | e <;> rw [e] <;> decide
    have hn := hc2.next ha (by omega)
    have h3 := c_unit_2 hE h2 hd hn.2
    rcases h3 with ⟨f, hf1, -⟩ | ⟨p3, u3, w3, C3, hr3, hc3, hv3⟩
    · have := hf1.1
      omega
    · subst ex
      subst eG
      have hstep := Lx_step (tK b n p2) hL hsg.1 ⟨by omega, by omega, by omega⟩ hsg.2.1 (by omega) (by omega) hx2 hv3
      rw [hsg.2.2.1] at hstep
      exact ⟨p3, u3, w3, _, k + 1, by show y43.toInt = _; omega, by have := hv3.1; omega, hc3.emit he (x := (3, (tK b n p2))) (by rw [hsg.2.2.2]; omega) rfl, hstep⟩)
  obtain ⟨p2, u2, w2, C2, k, hk, hpk, hc2, hx2⟩ := hI
  simp only at hk hc2
  have ht2 := hc2.t
  rcases hh with ⟨c3, -⟩ | ⟨c3, r18, G19, hti, ⟨c18, rfl, rfl⟩ | ⟨c18, r25, G26, ha, r31, G32, h2, c31, rfl, rfl⟩⟩
  · omega
  · obtain ⟨rfl, hti2⟩ := c_times hti
    have hkk : ¬ (tK b n p2 = 42 ∨ tK b n p2 = 47 ∨ tK b n p2 = 37) := fun q => hti2.mpr (by omega) c18
    exact Or.inr ⟨p2, u2, w2, C2, o, hc2, Lx_end hx2 (fun T hT => ⟨fun _ => by omega, fun q => absurd q (by decide), fun q => absurd q (by decide), fun q => absurd q (by decide), fun q => absurd q (by decide)⟩)⟩
  · obtain ⟨rfl, hti2⟩ := c_times hti
    have hkk : tK b n p2 = 42 ∨ tK b n p2 = 47 ∨ tK b n p2 = 37 := by have := hti2.mp c18; omega
    have hsg : sig (tK b n p2) = tK b n p2 ∧ tgt (tK b n p2) = 6 ∧ cdo (tK b n p2) = (3, tK b n p2) ∧ ekk (3, tK b n p2) = tK b n p2 := by rcases hkk with e | e | e <;> rw [e] <;> decide
    have hn := hc2.next ha (by omega)
    rcases c_unit_2 hE h2 hd hn.2 with ⟨f, hf1, hf2⟩ | ⟨p3, u3, w3, C3, hr3, hc3, hv3⟩
    · exact Or.inl ⟨f, ⟨rfl, hf1.2⟩, Lf_step (tK b n p2) hL hsg.1 ⟨by omega, by omega, by omega⟩ hsg.2.1 (by omega) hx2 hf2⟩
    · omega
theorem c_sum_2 {b : Nat → Int} {n c0 d p : Nat} {E O : XR} (hE : XE_2 b n c0 1 E) {p0 r : Int32} {G G1 : GS} {C : List (Int × Int)} {u w : Int} (h : P_fSum_2_s E O p0 G r G1) (hd : p0.toInt = (d : Int)) (hc : CfC_2 b n c0 G p C u w) : LR_2 b n c0 5 d p C u w r G1 := by
  obtain ⟨-, -, -, r1, G2, h1, hh⟩ := h
  have z : (0 : Int32).toInt = ((0 : Nat) : Int) := rfl
  have o : (1 : Int32).toInt = 1 := rfl
  have ht := hc.t
  have hL : ((5 : Int) = 6 ∧ (6 : Int) = 7) ∨ ((5 : Int) = 5 ∧ (6 : Int) = 6) ∨ ((5 : Int) = 2 ∧ (6 : Int) = 3) ∨ ((5 : Int) = 1 ∧ (6 : Int) = 2) := Or.inr (Or.inl ⟨rfl, rfl⟩)
  rcases c_term_2 hE h1 hd hc with ⟨f, hf1, hf2⟩ | ⟨p1, u1, w1, C1, hr1, hc1, hv1⟩
  · rcases hh with ⟨c2, rfl, rfl⟩ | ⟨c2, -⟩
    · exact Or.inl ⟨f, ⟨rfl, hf1.2⟩, Lf_init hL hf2⟩
    · have := hf1.1
      omega
  rcases hh with ⟨c2, -⟩ | ⟨c2, x, G8, hRc, hx, -, -, hh⟩
  · omega
  have hI := hRc (fun z => ∃ (p1 : Nat) (u1 w1 : Int) (C1 : List (Int × Int)) (k : Nat), z.1.toInt = (k : Int) ∧ p + 1 + k ≤ p1 ∧ CfC_2 b n c0 z.2 p1 C1 u1 w1 ∧ Lx b n 5 6 d p p1 C C1 u u1 w w1) ⟨p1, u1, w1, C1, 0, z, by have := hv1.1; omega, hc1, Lx_init hL hv1⟩ (by
    rintro ⟨x1, G_1⟩ ⟨xn, G_1n⟩ ⟨p2, u2, w2, C2, k, hk, hpk, hc2, hx2⟩ ⟨x1, G_1, xn, G_1n, e1, e2, -, -, c1, G21, hJ, -, -, r25, G26, ha, r31, G32, h2, c31, G39, he, y43, t43, ex, eG⟩
    obtain ⟨rfl, rfl⟩ := Prod.mk.inj e1
    obtain ⟨rfl, rfl⟩ := Prod.mk.inj e2
    simp only at hk hc2
    have ht2 := hc2.t
    have hJ2 : G_1 = G21 ∧ (tK b n p2 = 43 ∨ tK b n p2 = 45) := by
      rcases hJ with ⟨c, e⟩ | ⟨c, c2, e⟩
      · exact ⟨e, Or.inl (by omega)⟩
      · exact ⟨e, Or.inr (by omega)⟩
    obtain ⟨rfl, hkk⟩ := hJ2
    have hsg : sig (tK b n p2) = tK b n p2 ∧ tgt (tK b n p2) = 5 ∧ cdo (tK b n p2) = (3, tK b n p2) ∧ ekk (3, tK b n p2) = tK b n p2 := by rcases hkk with e | e <;> rw [e] <;> decide
    have hn := hc2.next ha (by omega)
    have h3 := c_term_2 hE h2 hd hn.2
    rcases h3 with ⟨f, hf1, -⟩ | ⟨p3, u3, w3, C3, hr3, hc3, hv3⟩
    · have := hf1.1
      omega
    · subst ex
      subst eG
      have hstep := Lx_step (tK b n p2) hL hsg.1 ⟨by omega, by omega, by omega⟩ hsg.2.1 (by omega) (by omega) hx2 hv3
      rw [hsg.2.2.1] at hstep
      exact ⟨p3, u3, w3, _, k + 1, by show y43.toInt = _; omega, by have := hv3.1; omega, hc3.emit he (x := (3, (tK b n p2))) (by rw [hsg.2.2.2]; omega) rfl, hstep⟩)
  obtain ⟨p2, u2, w2, C2, k, hk, hpk, hc2, hx2⟩ := hI
  simp only at hk hc2
  have ht2 := hc2.t
  rcases hh with ⟨c3, -⟩ | ⟨c3, ⟨c43, c45, rfl, rfl⟩ | ⟨G21, hJ, -, -, r25, G26, ha, r31, G32, h2, c31, rfl, rfl⟩⟩
  · omega
  · exact Or.inr ⟨p2, u2, w2, C2, o, hc2, Lx_end hx2 (fun T hT => ⟨fun _ => hT.1 (by decide), fun _ => by omega, fun q => absurd q (by decide), fun q => absurd q (by decide), fun q => absurd q (by decide)⟩)⟩
  · have hJ2 : G8 = G21 ∧ (tK b n p2 = 43 ∨ tK b n p2 = 45) := by
      rcases hJ with ⟨c, e⟩ | ⟨c, c2, e⟩
      · exact ⟨e, Or.inl (by omega)⟩
      · exact ⟨e, Or.inr (by omega)⟩
    obtain ⟨rfl, hkk⟩ := hJ2
    have hsg : sig (tK b n p2) = tK b n p2 ∧ tgt (tK b n p2) = 5 ∧ cdo (tK b n p2) = (3, tK b n p2) ∧ ekk (3, tK b n p2) = tK b n p2 := by rcases hkk with e | e <;> rw [e] <;> decide
    have hn := hc2.next ha (by omega)
    rcases c_term_2 hE h2 hd hn.2 with ⟨f, hf1, hf2⟩ | ⟨p3, u3, w3, C3, hr3, hc3, hv3⟩
    · exact Or.inl ⟨f, ⟨rfl, hf1.2⟩, Lf_step (tK b n p2) hL hsg.1 ⟨by omega, by omega, by omega⟩ hsg.2.1 (by omega) hx2 hf2⟩
    · omega
theorem c_rel_2 {b : Nat → Int} {n c0 d p : Nat} {E O : XR} (hE : XE_2 b n c0 1 E) {p0 r : Int32} {G G1 : GS} {C : List (Int × Int)} {u w : Int} (h : P_fRelation_2_s E O p0 G r G1) (hd : p0.toInt = (d : Int)) (hc : CfC_2 b n c0 G p C u w) (h146 : tK b n p ≠ 146) : LR_2 b n c0 4 d p C u w r G1 := by
  obtain ⟨-, -, -, r1, G2, h1, hh⟩ := h
  have z : (0 : Int32).toInt = 0 := rfl
  have o : (1 : Int32).toInt = 1 := rfl
  rcases c_sum_2 hE h1 hd hc with ⟨f, hf1, hf2⟩ | ⟨p1, u1, w1, C1, hr1, hc1, hv1⟩
  · rcases hh with ⟨c2, rfl, rfl⟩ | ⟨c2, -⟩
    · exact Or.inl ⟨f, ⟨z, hf1.2⟩, Lf_rel0 h146 hf2⟩
    · have := hf1.1
      omega
  have ht1 := hc1.t
  rcases hh with ⟨c2, -⟩ | ⟨c2, ⟨c3, c4, c5, rfl, rfl⟩ | ⟨G11, hJ, -, -, r15, G16, ha, r21, G22, h2, hh⟩⟩
  · omega
  · exact Or.inr ⟨p1, u1, w1, C1, o, hc1, Lv_rel0 h146 hv1 (by omega)⟩
  · have hJ2 : G2 = G11 ∧ (tK b n p1 = 60 ∨ tK b n p1 = 62 ∨ tK b n p1 = 61) := by
      rcases hJ with ⟨c, e⟩ | ⟨c, ⟨c6, e⟩ | ⟨c6, c7, e⟩⟩
      · exact ⟨e, by omega⟩
      · exact ⟨e, by omega⟩
      · exact ⟨e, by omega⟩
    obtain ⟨rfl, hkk⟩ := hJ2
    have hsg : cdo (tK b n p1) = (3, tK b n p1) ∧ ekk (3, tK b n p1) = tK b n p1 := by rcases hkk with e | e | e <;> rw [e] <;> decide
    have hn := hc1.next ha (by omega)
    rcases c_sum_2 hE h2 hd hn.2 with ⟨f, hf1, hf2⟩ | ⟨p3, u3, w3, C3, hr3, hc3, hv3⟩
    · rcases hh with ⟨c6, rfl, rfl⟩ | ⟨c6, -⟩
      · exact Or.inl ⟨f, ⟨z, hf1.2⟩, Lf_rel1 h146 hkk hv1 hf2⟩
      · have := hf1.1
        omega
    · rcases hh with ⟨c6, -⟩ | ⟨c6, G29, he, rfl, rfl⟩
      · omega
      · have hv := Lv_rel1 h146 hkk (by omega) hv1 hv3
        rw [hsg.1] at hv
        exact Or.inr ⟨p3, u3, w3, _, o, hc3.emit he (x := (3, tK b n p1)) (by rw [hsg.2]; omega) rfl, hv⟩
theorem c_one_2 {b : Nat → Int} {n c0 d p : Nat} {E O : XR} (hE : XE_2 b n c0 1 E) (hO : XE_2 b n c0 3 O) {p0 r : Int32} {G G1 : GS} {C : List (Int × Int)} {u w : Int} (h : P_fOne_2_s E O p0 G r G1) (hd : p0.toInt = (d : Int)) (hc : CfC_2 b n c0 G p C u w) : LR_2 b n c0 3 d p C u w r G1 := by
  obtain ⟨-, -, -, hh⟩ := h
  have z : (0 : Int32).toInt = 0 := rfl
  have o : (1 : Int32).toInt = 1 := rfl
  have ht := hc.t
  rcases hh with ⟨c, ⟨c1, r3, G4, ha, y9, t9, r10, G11, hO1, hh⟩ | ⟨c1, r22, G23, ha, rfl, rfl⟩⟩ | ⟨c, r28, G29, hr, rfl, rfl⟩
  · have hk : tK b n p = 146 := by omega
    have hn := hc.next ha (by omega)
    rcases hO y9 (d + 1) G4 r10 G11 (tNx b n p) C u w (by omega) hO1 hn.2 with ⟨f, hf1, hf2⟩ | ⟨p1, u1, w1, C1, hr1, hc1, hv1⟩
    · rcases hh with ⟨c2, rfl, rfl⟩ | ⟨c2, -⟩
      · exact Or.inl ⟨f, ⟨z, hf1.2⟩, Lf_not hk (by omega) hf2⟩
      · have := hf1.1
        omega
    · rcases hh with ⟨c2, -⟩ | ⟨c2, G18, he, rfl, rfl⟩
      · omega
      · have hv := Lv_not hk (by omega) (by omega) hv1
        rw [show cdo 21 = (2, 0) from rfl] at hv
        exact Or.inr ⟨p1, u1, w1, _, o, hc1.emit he (x := (2, 0)) rfl rfl, hv⟩
  · exact Or.inl ⟨_, (c_ref ha hc.1).1, Lf_not7 (by omega) (by omega)⟩
  · rcases c_rel_2 hE hr hd hc (by omega) with ⟨f, hf1, hf2⟩ | ⟨p1, u1, w1, C1, hr1, hc1, hv1⟩
    · exact Or.inl ⟨f, hf1, Lf_one hf2⟩
    · exact Or.inr ⟨p1, u1, w1, C1, hr1, hc1, Lv_one hv1⟩
theorem c_both_2 {b : Nat → Int} {n c0 d p : Nat} {E O : XR} (hE : XE_2 b n c0 1 E) (hO : XE_2 b n c0 3 O) {p0 r : Int32} {G G1 : GS} {C : List (Int × Int)} {u w : Int} (h : P_fBoth_2_s E O p0 G r G1) (hd : p0.toInt = (d : Int)) (hc : CfC_2 b n c0 G p C u w) : LR_2 b n c0 2 d p C u w r G1 := by
  obtain ⟨-, -, -, r1, G2, h1, hh⟩ := h
  have z : (0 : Int32).toInt = ((0 : Nat) : Int) := rfl
  have o : (1 : Int32).toInt = 1 := rfl
  have ht := hc.t
  have hL : ((2 : Int) = 6 ∧ (3 : Int) = 7) ∨ ((2 : Int) = 5 ∧ (3 : Int) = 6) ∨ ((2 : Int) = 2 ∧ (3 : Int) = 3) ∨ ((2 : Int) = 1 ∧ (3 : Int) = 2) := Or.inr (Or.inr (Or.inl ⟨rfl, rfl⟩))
  rcases c_one_2 hE hO h1 hd hc with ⟨f, hf1, hf2⟩ | ⟨p1, u1, w1, C1, hr1, hc1, hv1⟩
  · rcases hh with ⟨c2, rfl, rfl⟩ | ⟨c2, -⟩
    · exact Or.inl ⟨f, ⟨rfl, hf1.2⟩, Lf_init hL hf2⟩
    · have := hf1.1
      omega
  rcases hh with ⟨c2, -⟩ | ⟨c2, x, G8, hRc, hx, -, -, hh⟩
  · omega
  have hI := hRc (fun z => ∃ (p1 : Nat) (u1 w1 : Int) (C1 : List (Int × Int)) (k : Nat), z.1.toInt = (k : Int) ∧ p + 1 + k ≤ p1 ∧ CfC_2 b n c0 z.2 p1 C1 u1 w1 ∧ Lx b n 2 3 d p p1 C C1 u u1 w w1) ⟨p1, u1, w1, C1, 0, z, by have := hv1.1; omega, hc1, Lx_init hL hv1⟩ (by
    rintro ⟨x1, G_1⟩ ⟨xn, G_1n⟩ ⟨p2, u2, w2, C2, k, hk, hpk, hc2, hx2⟩ ⟨x1, G_1, xn, G_1n, e1, e2, -, -, c1, c145, r25, G26, ha, r31, G32, h2, c31, G39, he, y43, t43, ex, eG⟩
    obtain ⟨rfl, rfl⟩ := Prod.mk.inj e1
    obtain ⟨rfl, rfl⟩ := Prod.mk.inj e2
    simp only at hk hc2
    have ht2 := hc2.t
    have hkk : tK b n p2 = 145 := by omega
    have hn := hc2.next ha (by omega)
    have h3 := c_one_2 hE hO h2 hd hn.2
    rcases h3 with ⟨f, hf1, -⟩ | ⟨p3, u3, w3, C3, hr3, hc3, hv3⟩
    · have := hf1.1
      omega
    · subst ex
      subst eG
      have hstep := Lx_step 38 hL (by rw [hkk]; rfl) (by decide) (by decide) (by omega) (by omega) hx2 hv3
      rw [show cdo 38 = (3, 38) from rfl] at hstep
      exact ⟨p3, u3, w3, _, k + 1, by show y43.toInt = _; omega, by have := hv3.1; omega, hc3.emit he (x := (3, 38)) rfl rfl, hstep⟩)
  obtain ⟨p2, u2, w2, C2, k, hk, hpk, hc2, hx2⟩ := hI
  simp only at hk hc2
  have ht2 := hc2.t
  rcases hh with ⟨c3, -⟩ | ⟨c3, ⟨c4, r25, G26, ha, r31, G32, h2, c31, rfl, rfl⟩ | ⟨c4, rfl, rfl⟩⟩
  · omega
  · have hkk : tK b n p2 = 145 := by omega
    have hn := hc2.next ha (by omega)
    rcases c_one_2 hE hO h2 hd hn.2 with ⟨f, hf1, hf2⟩ | ⟨p3, u3, w3, C3, hr3, hc3, hv3⟩
    · exact Or.inl ⟨f, ⟨rfl, hf1.2⟩, Lf_step 38 hL (by rw [hkk]; rfl) (by decide) (by decide) (by omega) hx2 hf2⟩
    · omega
  · exact Or.inr ⟨p2, u2, w2, C2, o, hc2, Lx_end hx2 (fun T hT => ⟨fun _ => hT.1 (by decide), fun _ => hT.2.1 (by decide), fun _ => hT.2.2.1 (by decide), fun _ => by omega, fun q => absurd q (by decide)⟩)⟩
theorem c_either_2 {b : Nat → Int} {n c0 d p : Nat} {E O : XR} (hE : XE_2 b n c0 1 E) (hO : XE_2 b n c0 3 O) {p0 r : Int32} {G G1 : GS} {C : List (Int × Int)} {u w : Int} (h : P_fEither_2_s E O p0 G r G1) (hd : p0.toInt = (d : Int)) (hc : CfC_2 b n c0 G p C u w) : LR_2 b n c0 1 d p C u w r G1 := by
  obtain ⟨-, -, -, r1, G2, h1, hh⟩ := h
  have z : (0 : Int32).toInt = ((0 : Nat) : Int) := rfl
  have o : (1 : Int32).toInt = 1 := rfl
  have ht := hc.t
  have hL : ((1 : Int) = 6 ∧ (2 : Int) = 7) ∨ ((1 : Int) = 5 ∧ (2 : Int) = 6) ∨ ((1 : Int) = 2 ∧ (2 : Int) = 3) ∨ ((1 : Int) = 1 ∧ (2 : Int) = 2) := Or.inr (Or.inr (Or.inr ⟨rfl, rfl⟩))
  rcases c_both_2 hE hO h1 hd hc with ⟨f, hf1, hf2⟩ | ⟨p1, u1, w1, C1, hr1, hc1, hv1⟩
  · rcases hh with ⟨c2, rfl, rfl⟩ | ⟨c2, -⟩
    · exact Or.inl ⟨f, ⟨rfl, hf1.2⟩, Lf_init hL hf2⟩
    · have := hf1.1
      omega
  rcases hh with ⟨c2, -⟩ | ⟨c2, x, G8, hRc, hx, -, -, hh⟩
  · omega
  have hI := hRc (fun z => ∃ (p1 : Nat) (u1 w1 : Int) (C1 : List (Int × Int)) (k : Nat), z.1.toInt = (k : Int) ∧ p + 1 + k ≤ p1 ∧ CfC_2 b n c0 z.2 p1 C1 u1 w1 ∧ Lx b n 1 2 d p p1 C C1 u u1 w w1) ⟨p1, u1, w1, C1, 0, z, by have := hv1.1; omega, hc1, Lx_init hL hv1⟩ (by
    rintro ⟨x1, G_1⟩ ⟨xn, G_1n⟩ ⟨p2, u2, w2, C2, k, hk, hpk, hc2, hx2⟩ ⟨x1, G_1, xn, G_1n, e1, e2, -, -, c1, c144, r25, G26, ha, r31, G32, h2, c31, G39, he, y43, t43, ex, eG⟩
    obtain ⟨rfl, rfl⟩ := Prod.mk.inj e1
    obtain ⟨rfl, rfl⟩ := Prod.mk.inj e2
    simp only at hk hc2
    have ht2 := hc2.t
    have hkk : tK b n p2 = 144 := by omega
    have hn := hc2.next ha (by omega)
    have h3 := c_both_2 hE hO h2 hd hn.2
    rcases h3 with ⟨f, hf1, -⟩ | ⟨p3, u3, w3, C3, hr3, hc3, hv3⟩
    · have := hf1.1
      omega
    · subst ex
      subst eG
      have hstep := Lx_step 124 hL (by rw [hkk]; rfl) (by decide) (by decide) (by omega) (by omega) hx2 hv3
      rw [show cdo 124 = (3, 124) from rfl] at hstep
      exact ⟨p3, u3, w3, _, k + 1, by show y43.toInt = _; omega, by have := hv3.1; omega, hc3.emit he (x := (3, 124)) rfl rfl, hstep⟩)
  obtain ⟨p2, u2, w2, C2, k, hk, hpk, hc2, hx2⟩ := hI
  simp only at hk hc2
  have ht2 := hc2.t
  rcases hh with ⟨c3, -⟩ | ⟨c3, ⟨c4, r25, G26, ha, r31, G32, h2, c31, rfl, rfl⟩ | ⟨c4, rfl, rfl⟩⟩
  · omega
  · have hkk : tK b n p2 = 144 := by omega
    have hn := hc2.next ha (by omega)
    rcases c_both_2 hE hO h2 hd hn.2 with ⟨f, hf1, hf2⟩ | ⟨p3, u3, w3, C3, hr3, hc3, hv3⟩
    · exact Or.inl ⟨f, ⟨rfl, hf1.2⟩, Lf_step 124 hL (by rw [hkk]; rfl) (by decide) (by decide) (by omega) hx2 hf2⟩
    · omega
  · exact Or.inr ⟨p2, u2, w2, C2, o, hc2, Lx_end hx2 (fun T hT => ⟨fun _ => hT.1 (by decide), fun _ => hT.2.1 (by decide), fun _ => hT.2.2.1 (by decide), fun _ => hT.2.2.2.1 (by decide), fun _ => by omega⟩)⟩
theorem c_grp_2 {b : Nat → Int} {n c0 : Nat} (k : Nat) : XE_2 b n c0 1 (PPf_2 k).1 ∧ XE_2 b n c0 3 (PPf_2 k).2 := by
  induction k with
  | zero => exact ⟨fun p0 d G r G1 p C u w _ h _ => h.elim, fun p0 d G r G1 p C u w _ h _ => h.elim⟩
  | succ k ih => exact ⟨fun p0 d G r G1 p C u w hd h hc => c_either_2 ih.1 ih.2 h hd hc, fun p0 d G r G1 p C u w hd h hc => c_one_2 ih.1 ih.2 h hd hc⟩
theorem c_form_2 {b : Nat → Int} {n c0 p : Nat} {r : Int32} {G G1 : GS} {w : Int} (h : P_fRead_2 G r G1) (hp : CPx b n G p) (hw : (G.1 2 12).toInt = w) (hw90 : w ≤ 90) (hC : CodeC_2 c0 [] G) : (∃ f, CF f r G1 ∧ Ev b n (true, p, [], [], 0, w) (.inl f)) ∨ (∃ p' u' w' C', r.toInt = 1 ∧ CfC_2 b n c0 G1 p' C' u' w' ∧ p < p' ∧ Ev b n (true, p, [], [], 0, w) (.inr (p', C', u', w'))) := by
  obtain ⟨-, -, -, G2, -, hF2, -, e2, r3, G4, h1, rfl, rfl⟩ := h
  have hc : CfC_2 b n c0 G2 p [] 0 w := ⟨hp.fr hF2 (by decide) (by decide) (by decide) (by decide), by rw [e2]; rfl, by rw [hF2.i 2 12 (by decide) (by decide)]; exact hw, hC.fr hF2 (by decide) (by decide) (by decide) (by decide), by decide, hw90⟩
  have hg := c_grp_2 (b := b) (n := n) (c0 := c0) 7
  rcases c_either_2 (d := 0) hg.1 hg.2 h1 rfl hc with ⟨f, hf1, hf2⟩ | ⟨p1, u1, w1, C1, hr1, hc1, hv1⟩
  · exact Or.inl ⟨f, hf1, Ev_topf hf2⟩
  · exact Or.inr ⟨p1, u1, w1, C1, hr1, hc1, hv1.1, Ev_top hv1⟩

/-! formulas by the reference: the small pieces -/
def StkM (S : List Int) (G : GS) : Prop := (G.1 66 20).toInt = (S.length : Int) ∧ ∀ i, i < S.length → (G.1 75 (S.length - 1 - i)).toInt = S.getD i 0
def CodeM (f : Nat) (C : List (Int × Int)) (G : GS) : Prop := (G.1 71 f).toInt = (C.length : Int) ∧ ∀ i, i < C.length → (G.1 69 (320 * f + i)).toInt = (C.getD i (0, 0)).1 ∧ (G.1 70 (320 * f + i)).toInt = (C.getD i (0, 0)).2
theorem StkM.fr {S : List Int} {rs : List Nat} {fs : List (Nat × Nat)} {G G1 : GS} (h : StkM S G) (hF : Fr rs fs G G1) (h1 : 66 ∉ rs) (h2 : (66, 20) ∉ fs) (h3 : 75 ∉ rs) (h4 : ∀ x ∈ fs, x.1 ≠ 75) : StkM S G1 := by
  unfold StkM at h ⊢
  rw [hF.i 66 20 h1 h2, hF.row1 75 h3 h4]
  exact h
theorem CodeM.fr {f : Nat} {C : List (Int × Int)} {rs : List Nat} {fs : List (Nat × Nat)} {G G1 : GS} (h : CodeM f C G) (hF : Fr rs fs G G1) (h1 : 69 ∉ rs ∧ 70 ∉ rs ∧ 71 ∉ rs) (h2 : ∀ x ∈ fs, x.1 ≠ 69 ∧ x.1 ≠ 70 ∧ x.1 ≠ 71) : CodeM f C G1 := by
  unfold CodeM at h ⊢
  rw [hF.row1 69 h1.1 (fun x hx => (h2 x hx).1), hF.row1 70 h1.2.1 (fun x hx => (h2 x hx).2.1), hF.row1 71 h1.2.2 (fun x hx => (h2 x hx).2.2)]
  exact h
theorem m_tight {o r : Int32} {G G1 : GS} (h : Q_tight o G r G1) : G = G1 ∧ r.toInt = tgt o.toInt := by
  obtain ⟨-, hF, -, h⟩ := h
  refine ⟨hF.nil, ?_⟩
  unfold tgt
  rcases h with ⟨c, rfl, -⟩ | ⟨c, ⟨d, rfl, -⟩ | ⟨d, ⟨e, rfl, -⟩ | ⟨e, ⟨f, rfl, -⟩ | ⟨f, ⟨g, rfl, -⟩ | ⟨g, ⟨i, rfl, -⟩ | ⟨i, ⟨j, rfl, -⟩ | ⟨j, ⟨k, rfl, -⟩ | ⟨k, rfl, -⟩⟩⟩⟩⟩⟩⟩⟩
  · rw [c]; rfl
  · rw [d]; rfl
  · rw [e]; rfl
  · rw [f]; rfl
  · rw [g]; rfl
  · rw [i]; rfl
  · rw [j]; rfl
  · rw [k]; rfl
  · rw [if_neg k, if_neg d, if_neg c, if_neg (by omega), if_neg (by omega)]
    rfl
theorem m_add {f : Nat} {C : List (Int × Int)} {s v : Int32} {G G1 : GS} (h : Q_add s v G G1) (hf : (G.1 66 19).toInt = (f : Int)) (hC : CodeM f C G) : CodeM f (C ++ [(s.toInt, v.toInt)]) G1 := by
  obtain ⟨-, -, -, y2, t2, y3, e3, y5, t5, y7, t7, y8, e8, y10, t10, y12, e12, y14, t14, -, e69, e70, e71⟩ := h
  obtain ⟨h1, h2⟩ := hC
  rw [cn_eq hf] at e3 e8 e12 e71
  subst e3
  subst e8
  subst e12
  unfold CodeM
  rw [List.length_append, List.length_singleton, e69, e70, e71, cn_eq (e := 320 * f + C.length) (by omega), cn_eq (x := y10) (e := 320 * f + C.length) (by omega)]
  refine ⟨?_, fun i hi => ?_⟩
  · have e : upd (G.1 71) f y14 f = y14 := if_pos rfl
    rw [e]
    omega
  · rw [getD_sn]
    by_cases hq : i < C.length
    · have e1 : ∀ (g : Nat → Int32) (x : Int32), upd g (320 * f + C.length) x (320 * f + i) = g (320 * f + i) := fun g x => if_neg (by omega)
      rw [if_pos hq, e1, e1]
      exact h2 i hq
    · have e1 : ∀ (g : Nat → Int32) (x : Int32), upd g (320 * f + C.length) x (320 * f + i) = x := fun g x => if_pos (by omega)
      rw [if_neg hq, if_pos (by omega), e1, e1]
      exact ⟨rfl, rfl⟩
theorem stk_top {o : Int} {S : List Int} {G : GS} {x y : Int32} (h : StkM (o :: S) G) (hx : x.toInt = (G.1 66 20).toInt - 1) (hy : y = G.1 75 x.toNatClampNeg) : y.toInt = o := by
  have h1 := h.2 0 (by simp)
  have h0 := h.1
  rw [List.length_cons] at h0 h1
  rw [hy, cn_eq (e := S.length) (by omega)]
  simpa using h1
theorem stk_pop {o : Int} {S : List Int} {G G1 : GS} {rs : List Nat} {fs : List (Nat × Nat)} (h : StkM (o :: S) G) (hF : Fr rs fs G G1) (h3 : 75 ∉ rs) (h4 : ∀ x ∈ fs, x.1 ≠ 75) (h5 : (G1.1 66 20).toInt = (G.1 66 20).toInt - 1) : StkM S G1 := by
  have h0 := h.1
  rw [List.length_cons] at h0
  refine ⟨by omega, fun i hi => ?_⟩
  rw [hF.row1 75 h3 h4]
  have h1 := h.2 (i + 1) (by simp; omega)
  rw [List.length_cons, show S.length + 1 - 1 - (i + 1) = S.length - 1 - i by omega] at h1
  simpa using h1
theorem stk_push {o : Int32} {S : List Int} {G G1 : GS} (h : StkM S G) (h5 : (G1.1 66 20).toInt = (G.1 66 20).toInt + 1) (h6 : G1.1 75 = upd (G.1 75) (G.1 66 20).toNatClampNeg o) : StkM (o.toInt :: S) G1 := by
  have h0 := h.1
  refine ⟨by rw [List.length_cons]; omega, fun i hi => ?_⟩
  rw [h6, cn_eq h0, List.length_cons]
  rw [List.length_cons] at hi
  cases i with
  | zero =>
    have e : upd (G.1 75) S.length o (S.length + 1 - 1 - 0) = o := if_pos (by omega)
    rw [e]
    rfl
  | succ i =>
    have e : upd (G.1 75) S.length o (S.length + 1 - 1 - (i + 1)) = G.1 75 (S.length + 1 - 1 - (i + 1)) := if_neg (by omega)
    rw [e, show S.length + 1 - 1 - (i + 1) = S.length - 1 - i by omega, h.2 i (by omega)]
    simp
theorem m_close {f : Nat} {L : Int32} {S : List Int} {C : List (Int × Int)} {G G1 : GS} (h : Q_close L G G1) (hf : (G.1 66 19).toInt = (f : Int)) (hS : StkM S G) (hd : (G.1 66 24).toInt = (dps S : Int)) (hC : CodeM f C G) : StkM (clo L.toInt S C).1 G1 ∧ (G1.1 66 24).toInt = (dps (clo L.toInt S C).1 : Int) ∧ CodeM f (clo L.toInt S C).2 G1 := by
  obtain ⟨-, -, -, G_1, hRc, -, -, -, -, -, -, -, -, -, -, hh⟩ := h
  have hI := hRc (fun x => Fr [69, 70, 71] [(66, 20), (66, 24)] G x ∧ ∃ S' C', clo L.toInt S C = clo L.toInt S' C' ∧ StkM S' x ∧ (x.1 66 24).toInt = (dps S' : Int) ∧ CodeM f C' x) ⟨Fr.rf, S, C, rfl, hS, hd, hC⟩ (by
    clear hh
    rintro x y ⟨hF, S', C', hcl, hS', hd', hC'⟩ ⟨G_2, G_3, rfl, rfl, -, -, -, -, -, -, -, -, -, c1, y21, t21, y22, e22, c22, y25, t25, y26, e26, r28, G29, ht, c28, y50, t50, y52, e52, hh⟩
    have hfx : (x.1 66 19).toInt = (f : Int) := by rw [hF.i 66 19 (by decide) (by decide)]; exact hf
    obtain ⟨rfl, hr⟩ := m_tight ht
    cases S' with
    | nil =>
      have := hS'.1
      simp at this
      omega
    | cons o S' =>
      have v22 := stk_top hS' t21 e22
      have v26 := stk_top hS' t25 e26
      have v52 := stk_top hS' t50 e52
      rw [v26] at hr
      rw [clo, if_pos ⟨by omega, by omega⟩] at hcl
      rcases hh with ⟨c52, G51, -, hF51, e20, G82, ha, y86, t86, hF2, e24⟩ | ⟨c52, y58, e58, G51, -, hF51, e20, G64, ha, eG⟩
      · have ho : o = 21 := by omega
        subst ho
        have hS51 : StkM S' G51 := stk_pop hS' hF51 (by decide) (by decide) (by rw [e20]; omega)
        have hC51 : CodeM f C' G51 := hC'.fr hF51 (by decide) (by decide)
        have hC82 : CodeM f (C' ++ [cdo 21]) G82 := m_add ha (by rw [hF51.i 66 19 (by decide) (by decide)]; exact hfx) hC51
        refine ⟨((hF.call hF51 (by decide) (by decide)).call ha.2.1 (by decide) (by decide)).call hF2 (by decide) (by decide), S', _, hcl, (hS51.fr ha.2.1 (by decide) (by decide) (by decide) (by decide)).fr hF2 (by decide) (by decide) (by decide) (by decide), ?_, hC82.fr hF2 (by decide) (by decide)⟩
        rw [dps, if_pos (Or.inr rfl)] at hd'
        rw [e24]
        omega
      · have hS51 : StkM S' G51 := stk_pop hS' hF51 (by decide) (by decide) (by rw [e20]; omega)
        have hC51 : CodeM f C' G51 := hC'.fr hF51 (by decide) (by decide)
        have v58 := stk_top hS' t50 e58
        have hC64 : CodeM f (C' ++ [((3 : Int32).toInt, y58.toInt)]) G64 := m_add ha (by rw [hF51.i 66 19 (by decide) (by decide)]; exact hfx) hC51
        have hcd : cdo o = ((3 : Int32).toInt, y58.toInt) := by
          rw [cdo, if_neg (by omega), v58]
          rfl
        rw [hcd] at hcl
        subst eG
        refine ⟨(hF.call hF51 (by decide) (by decide)).call ha.2.1 (by decide) (by decide), S', _, hcl, hS51.fr ha.2.1 (by decide) (by decide) (by decide) (by decide), ?_, hC64⟩
        rw [dps, if_neg (by omega)] at hd'
        rw [ha.2.1.i 66 24 (by decide) (by decide), hF51.i 66 24 (by decide) (by decide)]
        exact hd')
  obtain ⟨hF, S', C', hcl, hS', hd', hC'⟩ := hI
  have fin : clo L.toInt S' C' = (S', C') → G_1 = G1 → StkM (clo L.toInt S C).1 G1 ∧ (G1.1 66 24).toInt = (dps (clo L.toInt S C).1 : Int) ∧ CodeM f (clo L.toInt S C).2 G1 := by
    intro e eG
    subst eG
    rw [hcl, e]
    exact ⟨hS', hd', hC'⟩
  cases S' with
  | nil =>
    rcases hh with ⟨c, eG⟩ | ⟨c, -⟩
    · exact fin rfl eG
    · have := hS'.1
      simp at this
      omega
  | cons o S' =>
    rcases hh with ⟨c, -⟩ | ⟨c, y21, t21, y22, e22, ⟨c22, eG⟩ | ⟨c22, y25, t25, y26, e26, r28, G29, ht, c28, eG⟩⟩
    · have := hS'.1
      simp at this
      omega
    · have v22 := stk_top hS' t21 e22
      exact fin (by rw [clo, if_neg (fun q => q.1 (by omega))]) eG
    · obtain ⟨rfl, hr⟩ := m_tight ht
      have v26 := stk_top hS' t25 e26
      rw [v26] at hr
      exact fin (by rw [clo, if_neg (fun q => by omega)]) eG
theorem m_mayNot {S : List Int} {r : Int32} {G G1 : GS} (h : Q_mayNot G r G1) (hS : StkM S G) : G = G1 ∧ (r.toInt ≠ 0 ↔ mno S = true) := by
  obtain ⟨-, hF, -, hh⟩ := h
  have z : (0 : Int32).toInt = 0 := rfl
  have o1 : (1 : Int32).toInt = 1 := rfl
  refine ⟨hF.nil, ?_⟩
  cases S with
  | nil =>
    have := hS.1
    simp at this
    rcases hh with ⟨c, rfl, -⟩ | ⟨c, -⟩
    · exact ⟨fun _ => rfl, fun _ => by omega⟩
    · omega
  | cons o S =>
    have h0 := hS.1
    rw [List.length_cons] at h0
    rw [mno, decide_eq_true_iff]
    rcases hh with ⟨c, -⟩ | ⟨c, y3, t3, y4, e4, ⟨c4, rfl, -⟩ | ⟨c4, y6, t6, y7, e7, r8, G9, ht, ⟨c8, rfl, -⟩ | ⟨c8, rfl, -⟩⟩⟩
    · omega
    · have := stk_top hS t3 e4
      exact ⟨fun _ => Or.inl (by omega), fun _ => by omega⟩
    · have v4 := stk_top hS t3 e4
      have v7 := stk_top hS t6 e7
      have hr := (m_tight ht).2
      rw [v7] at hr
      exact ⟨fun q => by omega, fun q => by omega⟩
    · have v4 := stk_top hS t3 e4
      have v7 := stk_top hS t6 e7
      have hr := (m_tight ht).2
      rw [v7] at hr
      exact ⟨fun q => Or.inr (by omega), fun q => by omega⟩
theorem m_isFull {r : Int32} {G G1 : GS} (h : Q_isFull G r G1) : G = G1 ∧ (r.toInt ≠ 0 ↔ ((G.1 66 21).toInt = 90 ∨ (G.1 66 23).toInt = 30)) := by
  obtain ⟨-, hF, -, -, hh⟩ := h
  have z : (0 : Int32).toInt = 0 := rfl
  have o1 : (1 : Int32).toInt = 1 := rfl
  refine ⟨hF.nil, ?_⟩
  rcases hh with ⟨c, rfl, -⟩ | ⟨c, ⟨c2, rfl, -⟩ | ⟨c2, rfl, -⟩⟩ <;> omega
theorem h_at {S : List Int} {G : GS} {j : Nat} (h : StkM S G) (hj : j < S.length) : (G.1 75 (S.length - 1 - j)).toInt = S.getD j 0 := h.2 j hj
theorem stk_at {S : List Int} {G : GS} {k : Nat} (h : StkM S G) (hk : k < S.length) : (G.1 75 k).toInt = S.getD (S.length - 1 - k) 0 := by
  have := h.2 (S.length - 1 - k) (by omega)
  rw [show S.length - 1 - (S.length - 1 - k) = k by omega] at this
  exact this
theorem mem_getD_i {S : List Int} {x : Int} : x ∈ S ↔ ∃ k, k < S.length ∧ S.getD k 0 = x := by
  rw [List.mem_iff_getElem]
  refine ⟨fun ⟨k, hk, e⟩ => ⟨k, hk, ?_⟩, fun ⟨k, hk, e⟩ => ⟨k, hk, ?_⟩⟩
  · rw [List.getD_eq_getElem?_getD, List.getElem?_eq_getElem hk]
    exact e
  · rw [List.getD_eq_getElem?_getD, List.getElem?_eq_getElem hk] at e
    exact e
theorem m_hasBracket {S : List Int} {r : Int32} {G G1 : GS} (h : Q_hasBracket G r G1) (hS : StkM S G) : G = G1 ∧ (r.toInt ≠ 0 ↔ (20 : Int) ∈ S) := by
  obtain ⟨-, hF, -, -, x6, x7, G2, hRc, -, -, -, -, -, -, c6, e7, -⟩ := h
  have z : (0 : Int32).toInt = 0 := rfl
  have o1 : (1 : Int32).toInt = 1 := rfl
  refine ⟨hF.nil, ?_⟩
  have hI := hRc (fun q => G = q.2.2 ∧ ∃ k : Nat, q.1.toInt = (k : Int) ∧ k ≤ S.length ∧ (q.2.1.toInt ≠ 0 ↔ ∃ j, j < k ∧ (G.1 75 j).toInt = 20)) ⟨rfl, 0, z, Nat.zero_le _, fun q => absurd z q, fun ⟨j, hj, _⟩ => by omega⟩ (by
    rintro ⟨x, f, G_1⟩ ⟨xn, fn, G_1n⟩ ⟨h1, k, h2, h3, h4⟩ ⟨xq, fq, Gq, xnq, fnq, Gnq, e1, e2, -, -, -, -, -, c1, hh⟩
    obtain ⟨rfl, e3⟩ := Prod.mk.inj e1
    obtain ⟨rfl, rfl⟩ := Prod.mk.inj e3
    obtain ⟨rfl, e4⟩ := Prod.mk.inj e2
    obtain ⟨rfl, rfl⟩ := Prod.mk.inj e4
    simp only at h1 h2 h4
    subst h1
    have h0 := hS.1
    have ext : ∀ y : Int32, y.toInt = x.toInt + 1 → (fn.toInt ≠ 0 ↔ (f.toInt ≠ 0 ∨ (G.1 75 k).toInt = 20)) → ∃ k : Nat, y.toInt = (k : Int) ∧ k ≤ S.length ∧ (fn.toInt ≠ 0 ↔ ∃ j, j < k ∧ (G.1 75 j).toInt = 20) := by
      intro y ty hy
      refine ⟨k + 1, by omega, by omega, hy.trans ⟨fun q => ?_, fun ⟨j, hj, e⟩ => ?_⟩⟩
      · rcases q with q | q
        · obtain ⟨j, hj, e⟩ := h4.mp q
          exact ⟨j, by omega, e⟩
        · exact ⟨k, by omega, q⟩
      · by_cases hjk : j = k
        · subst hjk
          exact Or.inr e
        · exact Or.inl (h4.mpr ⟨j, by omega, e⟩)
    rcases hh with ⟨c7, y23, e23, ⟨c23, y32, t32, ex, ef, eG⟩ | ⟨c23, y28, t28, ex, ef, eG⟩⟩ | ⟨c7, y20, t20, ex, ef, eG⟩
    · rw [cn_eq h2] at e23
      subst e23
      subst ex
      subst ef
      subst eG
      exact ⟨rfl, ext y32 t32 ⟨fun _ => Or.inr c23, fun _ => by omega⟩⟩
    · rw [cn_eq h2] at e23
      subst e23
      subst ex
      subst ef
      subst eG
      exact ⟨rfl, ext y28 t28 ⟨fun q => absurd z q, fun q => q.elim (fun q => absurd c7 q) (fun q => absurd q c23)⟩⟩
    · subst ex
      subst ef
      subst eG
      exact ⟨rfl, ext y20 t20 ⟨fun _ => Or.inl c7, fun _ => by omega⟩⟩)
  obtain ⟨-, k, h2, h3, h4⟩ := hI
  simp only at h2 h4
  subst e7
  have h0 := hS.1
  have hk : k = S.length := by omega
  subst hk
  rw [h4, mem_getD_i]
  refine ⟨fun ⟨j, hj, e⟩ => ⟨S.length - 1 - j, by omega, by rw [← stk_at hS hj]; exact e⟩, fun ⟨j, hj, e⟩ => ⟨S.length - 1 - j, by omega, by rw [h_at hS hj]; exact e⟩⟩
theorem m_hasRel {S : List Int} {r : Int32} {G G1 : GS} (h : Q_hasRelation G r G1) (hS : StkM S G) : G = G1 ∧ (r.toInt ≠ 0 ↔ hrl S = true) := by
  obtain ⟨-, hF, -, y2, t2, x7, G3, hRc, -, -, -, G13, hJ, -, -, hh⟩ := h
  have z : (0 : Int32).toInt = 0 := rfl
  have o1 : (1 : Int32).toInt = 1 := rfl
  have h0 := hS.1
  refine ⟨hF.nil, ?_⟩
  have topv : ∀ (T : List Int) (k : Nat), S.length = T.length + k → (∀ i, i < T.length → T.getD i 0 = S.getD (i + k) 0) → ∀ (o : Int) (T' : List Int), T = o :: T' → (G.1 75 T'.length).toInt = o := by
    intro T k hk hT o T' e
    subst e
    rw [List.length_cons] at hk
    rw [stk_at hS (by omega)]
    have := hT 0 (by simp)
    rw [show S.length - 1 - T'.length = 0 + k by omega, ← this]
    rfl
  have hI := hRc (fun q => G = q.2 ∧ ∃ (T : List Int) (k : Nat), hrl S = hrl T ∧ q.1.toInt = (T.length : Int) - 1 ∧ S.length = T.length + k ∧ ∀ i, i < T.length → T.getD i 0 = S.getD (i + k) 0) ⟨rfl, S, 0, rfl, by show y2.toInt = _; omega, by omega, fun i _ => rfl⟩ (by
    clear hh hJ
    rintro ⟨x, G_1⟩ ⟨xn, G_1n⟩ ⟨h1, T, k, h2, h3, h4, h5⟩ ⟨xq, Gq, xnq, Gnq, e1, e2, -, -, c1, y29, e29, c29, y31, e31, r32, G33, ht, c32, y39, t39, ex, eG⟩
    obtain ⟨rfl, rfl⟩ := Prod.mk.inj e1
    obtain ⟨rfl, rfl⟩ := Prod.mk.inj e2
    simp only at h1 h3
    subst h1
    obtain ⟨rfl, hr⟩ := m_tight ht
    subst ex
    subst eG
    cases T with
    | nil =>
      simp at h3
      omega
    | cons o T =>
      rw [List.length_cons] at h3
      have ho := topv (o :: T) k h4 h5 o T rfl
      rw [cn_eq (e := T.length) (by omega)] at e29 e31
      subst e29
      subst e31
      rw [ho] at hr
      refine ⟨rfl, T, k + 1, ?_, by show y39.toInt = _; omega, by rw [List.length_cons] at h4; omega, fun i hi => ?_⟩
      · rw [h2, hrl, if_neg (by omega), if_pos (by omega)]
      · have := h5 (i + 1) (by rw [List.length_cons]; omega)
        rw [show i + 1 + k = i + (k + 1) by omega] at this
        rw [← this]
        simp)
  obtain ⟨hG, T, k, h2, h3, h4, h5⟩ := hI
  simp only at hG h3
  subst hG
  rw [h2]
  have hG13 : G = G13 := by
    rcases hJ with ⟨c, e⟩ | ⟨c, y29, e29, ⟨c29, e⟩ | ⟨c29, y31, e31, r32, G33, ht, c32, e⟩⟩
    · exact e
    · exact e
    · exact (m_tight ht).1.trans e
  subst hG13
  cases T with
  | nil =>
    simp at h3
    rcases hh with ⟨c, e, -⟩ | ⟨c, -⟩
    · subst e
      exact ⟨fun q => absurd z q, fun q => absurd q (by simp [hrl])⟩
    · omega
  | cons o T =>
    rw [List.length_cons] at h3
    have ho := topv (o :: T) k h4 h5 o T rfl
    rcases hh with ⟨c, -⟩ | ⟨c, y18, e18, ⟨c18, e, -⟩ | ⟨c18, y20, e20, r21, G22, ht, hh⟩⟩
    · omega
    · rw [cn_eq (e := T.length) (by omega)] at e18
      subst e18
      subst e
      rw [hrl, if_pos (by omega)]
      exact ⟨fun q => absurd z q, fun q => absurd q (by decide)⟩
    · rw [cn_eq (e := T.length) (by omega)] at e18 e20
      subst e18
      subst e20
      have hr := (m_tight ht).2
      rw [ho] at hr
      have hle : tgt o ≤ 4 := by
        rcases hJ with ⟨c, e⟩ | ⟨c, y29, e29, ⟨c29, e⟩ | ⟨c29, y31, e31, r32, G33, ht2, c32, e⟩⟩
        · omega
        · rw [cn_eq (e := T.length) (by omega)] at e29
          subst e29
          omega
        · rw [cn_eq (e := T.length) (by omega)] at e31
          subst e31
          have hr2 := (m_tight ht2).2
          rw [ho] at hr2
          omega
      rw [hrl, if_neg (by omega), if_neg (by omega), decide_eq_true_iff]
      rcases hh with ⟨c21, e, -⟩ | ⟨c21, e, -⟩
      · subst e
        exact ⟨fun _ => by omega, fun _ => by omega⟩
      · subst e
        exact ⟨fun q => absurd z q, fun q => by omega⟩

/-! formulas by the reference: what is asked, signs -/
theorem m_asked {b : Nat → Int} {n p : Nat} {r : Int32} {G G1 : GS} (h : Q_asked G r G1) (hp : MP b n G p) : G = G1 ∧ r.toInt = ask (tK b n p) := by
  obtain ⟨-, hF, -, hh⟩ := h
  have hs := hp.so.2.2.1
  refine ⟨hF.nil, ?_⟩
  rcases hh with ⟨c1, y2, e2, y3, e3, hh⟩ | ⟨c1, e, -⟩
  · have hk := hs.mp c1
    have hw := tK_w (b := b) hp.1.2.1 hp.2.2.2 hk.1 hk.2
    have h9 := hp.2.1.2.2.2.2 hk.1 hk.2
    have q11 : y3.toInt = 0 ↔ tK b n p = 139 := (lc_iff e3).trans (by rw [e2, h9, hw.1]; exact w8_kw hw.2 (i := 11) (by decide) (by decide +kernel))
    rcases hh with ⟨c3, e, -⟩ | ⟨c3, r5, G6, hm, hh⟩
    · subst e
      rw [q11.mp c3]
      rfl
    · have n139 : tK b n p ≠ 139 := fun w => c3 (q11.mpr w)
      clear q11 c3 e3 y3 e2 y2
      obtain ⟨rfl, m1, m2, m3, m4, m5⟩ := m_mark h9 hw.2 hm
      rw [← hw.1] at m1 m2 m3 m4 m5
      rcases hh with ⟨c5, y12, e12, y13, e13, hh⟩ | ⟨c5, r24, G25, hm2, hh⟩
      · have n4 : ¬ (140 ≤ tK b n p ∧ tK b n p ≤ 143) := by
          clear hh
          intro q
          have : tK b n p = 140 ∨ tK b n p = 141 ∨ tK b n p = 142 ∨ tK b n p = 143 := by omega
          rcases this with e | e | e | e
          · have := m1 e
            omega
          · have := m2 e
            omega
          · have := m3 e
            omega
          · have := m4 e
            omega
        clear m1 m2 m3 m4 m5
        have q19 : y13.toInt = 0 ↔ tK b n p = 147 := (lc_iff e13).trans (by rw [e12, h9, hw.1]; exact w8_kw hw.2 (i := 19) (by decide) (by decide +kernel))
        rcases hh with ⟨c13, e, -⟩ | ⟨c13, y15, e15, y16, e16, hh⟩
        · subst e
          rw [q19.mp c13]
          rfl
        have n147 : tK b n p ≠ 147 := fun w => c13 (q19.mpr w)
        have q20 : y16.toInt = 0 ↔ tK b n p = 148 := (lc_iff e16).trans (by rw [e15, h9, hw.1]; exact w8_kw hw.2 (i := 20) (by decide) (by decide +kernel))
        rcases hh with ⟨c16, e, -⟩ | ⟨c16, y18, e18, y19, e19, hh⟩
        · subst e
          rw [q20.mp c16]
          rfl
        have n148 : tK b n p ≠ 148 := fun w => c16 (q20.mpr w)
        have q21 : y19.toInt = 0 ↔ tK b n p = 149 := (lc_iff e19).trans (by rw [e18, h9, hw.1]; exact w8_kw hw.2 (i := 21) (by decide) (by decide +kernel))
        rcases hh with ⟨c19, e, -⟩ | ⟨c19, y21, e21, y22, e22, hh⟩
        · subst e
          rw [q21.mp c19]
          rfl
        have n149 : tK b n p ≠ 149 := fun w => c19 (q21.mpr w)
        have q22 : y22.toInt = 0 ↔ tK b n p = 150 := (lc_iff e22).trans (by rw [e21, h9, hw.1]; exact w8_kw hw.2 (i := 22) (by decide) (by decide +kernel))
        rcases hh with ⟨c22, e, -⟩ | ⟨c22, e, -⟩
        · subst e
          rw [q22.mp c22]
          rfl
        · have n150 : tK b n p ≠ 150 := fun w => c22 (q22.mpr w)
          subst e
          rw [ask_neg n139 (by clear q19 q20 q21 q22; omega) (by clear q19 q20 q21 q22; omega) (by clear q19 q20 q21 q22; omega) (by clear q19 q20 q21 q22; omega) n147 n148 n149 n150]
          rfl
      · obtain ⟨rfl, k1, k2, k3, k4, k5⟩ := m_mark h9 hw.2 hm2
        rw [← hw.1] at k1 k2 k3 k4 k5
        have hin : tK b n p = 140 ∨ tK b n p = 141 ∨ tK b n p = 142 ∨ tK b n p = 143 := by
          by_cases q : 140 ≤ tK b n p ∧ tK b n p ≤ 143
          · clear hh
            omega
          · have := m5 (by clear hh; omega)
            clear hh
            omega
        clear m1 m2 m3 m4 m5 k5
        rcases hh with ⟨c24, e, -⟩ | ⟨c24, r31, G32, hm3, hh⟩
        · subst e
          rcases hin with e | e | e | e
          · have := k1 e; omega
          · have := k2 e; omega
          · have := k3 e; omega
          · rw [e]; rfl
        · obtain ⟨rfl, l1, l2, l3, l4, l5⟩ := m_mark h9 hw.2 hm3
          rw [← hw.1] at l1 l2 l3 l4 l5
          rcases hh with ⟨c31, e, -⟩ | ⟨c31, r38, G39, hm4, e, -⟩
          · subst e
            rcases hin with e | e | e | e
            · have := l1 e; omega
            · have := l2 e; omega
            · rw [e]; rfl
            · have := l4 e; omega
          · obtain ⟨-, j1, j2, j3, j4, j5⟩ := m_mark h9 hw.2 hm4
            rw [← hw.1] at j1 j2 j3 j4 j5
            subst e
            rcases hin with e | e | e | e
            · rw [j1 e, e]; rfl
            · rw [j2 e, e]; rfl
            · have := l3 e; omega
            · have := k4 e; omega
  · subst e
    rw [ask_neg (by omega) (by omega) (by omega) (by omega) (by omega) (by omega) (by omega) (by omega) (by omega)]
    rfl
theorem m_sign {b : Nat → Int} {n p : Nat} {r : Int32} {G G1 : GS} (h : Q_signOf G r G1) (hp : MP b n G p) : G = G1 ∧ r.toInt = sig (tK b n p) := by
  obtain ⟨-, hF, -, -, r1, G2, hw1, hh⟩ := h
  refine ⟨hF.nil, ?_⟩
  obtain ⟨rfl, q17⟩ := m_isWord (i := 17) (by decide) (by decide +kernel) hw1 hp
  have hs := hp.so.2.2.2.2
  rcases hh with ⟨c1, r9, G10, hw2, hh⟩ | ⟨c1, e, -⟩
  · have n145 : tK b n p ≠ 145 := fun w => q17.mpr (by rw [w]; rfl) c1
    obtain ⟨rfl, q16⟩ := m_isWord (i := 16) (by decide) (by decide +kernel) hw2 hp
    rcases hh with ⟨c9, hh⟩ | ⟨c9, e, -⟩
    · have n144 : tK b n p ≠ 144 := fun w => q16.mpr (by rw [w]; rfl) c9
      clear q16 q17
      have a60 := hs 60 (by decide) (by decide)
      have a62 := hs 62 (by decide) (by decide)
      have a61 := hs 61 (by decide) (by decide)
      have a43 := hs 43 (by decide) (by decide)
      have a45 := hs 45 (by decide) (by decide)
      have a42 := hs 42 (by decide) (by decide)
      have a47 := hs 47 (by decide) (by decide)
      have a37 := hs 37 (by decide) (by decide)
      rcases hh with ⟨c, e, -⟩ | ⟨c, ⟨d, e, -⟩ | ⟨d, ⟨f, e, -⟩ | ⟨f, ⟨g, e, -⟩ | ⟨g, ⟨i, e, -⟩ | ⟨i, ⟨j, e, -⟩ | ⟨j, ⟨k, e, -⟩ | ⟨k, ⟨l, e, -⟩ | ⟨l, e, -⟩⟩⟩⟩⟩⟩⟩⟩
      · subst e; rw [c, a60.mp c]; rfl
      · subst e; rw [d, a62.mp d]; rfl
      · subst e; rw [f, a61.mp f]; rfl
      · subst e; rw [g, a43.mp g]; rfl
      · subst e; rw [i, a45.mp i]; rfl
      · subst e; rw [j, a42.mp j]; rfl
      · subst e; rw [k, a47.mp k]; rfl
      · subst e; rw [l, a37.mp l]; rfl
      · subst e
        have b1 := fun w => c (a60.mpr w)
        have b2 := fun w => d (a62.mpr w)
        have b3 := fun w => f (a61.mpr w)
        have b4 := fun w => g (a43.mpr w)
        have b5 := fun w => i (a45.mpr w)
        have b6 := fun w => j (a42.mpr w)
        have b7 := fun w => k (a47.mpr w)
        have b8 := fun w => l (a37.mpr w)
        unfold sig
        rw [if_neg n145, if_neg n144, if_neg (fun q => by rcases q with q | q | q | q | q | q | q | q; exact b1 q; exact b2 q; exact b3 q; exact b4 q; exact b5 q; exact b6 q; exact b7 q; exact b8 q)]
        rfl
    · have := q16.mp c9
      subst e
      rw [this]
      rfl
  · have := q17.mp c1
    subst e
    rw [this]
    rfl

/-! formulas by the reference: units -/
def CfM (b : Nat → Int) (n f : Nat) (G : GS) (p : Nat) (S : List Int) (C : List (Int × Int)) (u w : Int) : Prop := MP b n G p ∧ StkM S G ∧ (G.1 66 24).toInt = (dps S : Int) ∧ (G.1 66 23).toInt = u ∧ (G.1 66 21).toInt = w ∧ (G.1 66 19).toInt = (f : Int) ∧ CodeM f C G ∧ 0 ≤ w ∧ w ≤ 90
theorem CfM.t {b : Nat → Int} {n f p : Nat} {G : GS} {S : List Int} {C : List (Int × Int)} {u w : Int} (h : CfM b n f G p S C u w) : n ≤ 1600 ∧ p ≤ n ∧ p ≤ tNx b n p ∧ tNx b n p ≤ n ∧ (tK b n p ≠ 203 → p < tNx b n p) := by
  have h1 := tN_p (b := b) h.1.1.2.1 h.1.2.2.2
  exact ⟨h.1.1.2.1, h.1.2.2.2, h1.1, h1.2.1, fun q => (h1.2.2 q).1⟩
theorem m_count {b : Nat → Int} {n f p : Nat} {G G1 : GS} {S : List Int} {C : List (Int × Int)} {u w : Int} (h : Q_countUnit G G1) (hc : CfM b n f G p S C u w) (hw : w < 90) : CfM b n f G1 p S C (u + 1) (w + 1) := by
  obtain ⟨-, hF, -, y1, e1, y4, t4, -, e21, e23⟩ := h
  obtain ⟨c1, c2, c3, c4, c5, c6, c7, c8, c9⟩ := hc
  refine ⟨c1.fr hF (by decide) (by decide) (by decide) (by decide), c2.fr hF (by decide) (by decide) (by decide) (by decide), by rw [hF.i 66 24 (by decide) (by decide)]; exact c3, by rw [e23]; omega, ?_, by rw [hF.i 66 19 (by decide) (by decide)]; exact c6, c7.fr hF (by decide) (by decide), by omega, by omega⟩
  rw [e21]
  exact xI_add (Y := 1) c5 rfl e1 (by omega) (by omega)
theorem CfM.next {b : Nat → Int} {n f p : Nat} {G G1 : GS} {S : List Int} {C : List (Int × Int)} {u w : Int} (h : Q_token G G1) (hc : CfM b n f G p S C u w) (hk : tK b n p ≠ 202) : CfM b n f G1 (tNx b n p) S C u w := by
  obtain ⟨c1, c2, c3, c4, c5, c6, c7, c8⟩ := hc
  have hF := h.2.1
  exact ⟨m_next h c1 hk, c2.fr hF (by decide) (by decide) (by decide) (by decide), by rw [hF.i 66 24 (by decide) (by decide)]; exact c3, by rw [hF.i 66 23 (by decide) (by decide)]; exact c4, by rw [hF.i 66 21 (by decide) (by decide)]; exact c5, by rw [hF.i 66 19 (by decide) (by decide)]; exact c6, c7.fr hF (by decide) (by decide), c8⟩
theorem m_openUp {b : Nat → Int} {n f p : Nat} {G G1 : GS} {S : List Int} {C : List (Int × Int)} {u w : Int} {o : Int32} (h : Q_openUp o G G1) (hc : CfM b n f G p S C u w) (ho : o.toInt = 20 ∨ o.toInt = 21) (hk : tK b n p ≠ 202) : CfM b n f G1 (tNx b n p) (o.toInt :: S) C u w := by
  obtain ⟨-, -, -, y3, t3, y7, t7, hh⟩ := h
  have hf := hc.1.2.2.1
  rcases hh with ⟨c, G8, -, hF, e20, e24, e75, G21, ht, rfl⟩ | ⟨c, -⟩
  · refine CfM.next ht ?_ hk
    obtain ⟨c1, c2, c3, c4, c5, c6, c7, c8⟩ := hc
    refine ⟨c1.fr hF (by decide) (by decide) (by decide) (by decide), stk_push c2 (by rw [e20]; omega) e75, ?_, by rw [hF.i 66 23 (by decide) (by decide)]; exact c4, by rw [hF.i 66 21 (by decide) (by decide)]; exact c5, by rw [hF.i 66 19 (by decide) (by decide)]; exact c6, c7.fr hF (by decide) (by decide), c8⟩
    rw [dps, if_pos ho, e24]
    omega
  · omega
theorem openUp_f {G G1 : GS} {o : Int32} {ft : Int × Int} (h : Q_openUp o G G1) (hm : MF ft G) : MF ft G1 := by
  have e2 := h.2.1.i 66 2 (by decide) (by decide)
  have e3 := h.2.1.i 66 3 (by decide) (by decide)
  unfold MF at hm ⊢
  rw [e2, e3]
  exact hm
theorem count_f {G G1 : GS} {ft : Int × Int} (h : Q_countUnit G G1) (hm : MF ft G) : MF ft G1 := by
  have e2 := h.2.1.i 66 2 (by decide) (by decide)
  have e3 := h.2.1.i 66 3 (by decide) (by decide)
  unfold MF at hm ⊢
  rw [e2, e3]
  exact hm
theorem CfM.add {b : Nat → Int} {n f p : Nat} {G G1 : GS} {S : List Int} {C : List (Int × Int)} {u w : Int} {s v : Int32} (h : Q_add s v G G1) (hc : CfM b n f G p S C u w) : CfM b n f G1 p S (C ++ [(s.toInt, v.toInt)]) u w := by
  obtain ⟨c1, c2, c3, c4, c5, c6, c7, c8⟩ := hc
  have hF := h.2.1
  exact ⟨c1.fr hF (by decide) (by decide) (by decide) (by decide), c2.fr hF (by decide) (by decide) (by decide) (by decide), by rw [hF.i 66 24 (by decide) (by decide)]; exact c3, by rw [hF.i 66 23 (by decide) (by decide)]; exact c4, by rw [hF.i 66 21 (by decide) (by decide)]; exact c5, by rw [hF.i 66 19 (by decide) (by decide)]; exact c6, m_add h c6 c7, c8⟩
theorem CfM.close {b : Nat → Int} {n f p : Nat} {G G1 : GS} {S : List Int} {C : List (Int × Int)} {u w : Int} {L : Int32} (h : Q_close L G G1) (hc : CfM b n f G p S C u w) : CfM b n f G1 p (clo L.toInt S C).1 (clo L.toInt S C).2 u w := by
  obtain ⟨c1, c2, c3, c4, c5, c6, c7, c8⟩ := hc
  have hF := h.2.1
  obtain ⟨k1, k2, k3⟩ := m_close h c6 c2 c3 c7
  exact ⟨c1.fr hF (by decide) (by decide) (by decide) (by decide), k1, k2, by rw [hF.i 66 23 (by decide) (by decide)]; exact c4, by rw [hF.i 66 21 (by decide) (by decide)]; exact c5, by rw [hF.i 66 19 (by decide) (by decide)]; exact c6, k3, c8⟩
theorem MF.pos {ft : Int × Int} {G : GS} (h : MF ft G) : 0 < (G.1 66 2).toInt := by
  have h1 := h.1
  have h2 := h.2.2
  omega
def UI (b : Nat → Int) (n f p : Nat) (S : List Int) (C : List (Int × Int)) (u w : Int) (x : Int32) (G : GS) : Prop := (∃ ft, MF ft G ∧ Ev b n (true, p, S, C, u, w) (.inl ft)) ∨ (∃ p' S' u' w', CfM b n f G p' S' C u' w' ∧ p ≤ p' ∧ (∀ o, Ev b n (true, p, S, C, u, w) o ↔ Ev b n (true, p', S', C, u', w') o) ∧ (x.toInt = 0 → ¬ (tK b n p' = 146 ∧ mno S' = true) ∧ tK b n p' ≠ 40))
theorem m_ustep {b : Nat → Int} {n f p : Nat} {S : List Int} {C : List (Int × Int)} {u w : Int} {G : GS} {q q1 : Int32 × GS} (hs : St_n_unit_1 G q q1) (hi : UI b n f p S C u w q.1 q.2) : UI b n f p S C u w q1.1 q1.2 := by
  obtain ⟨x, G3, xn, G3n, rfl, rfl, -, -, -, -, -, hx, hf0, r1, Ga, hw1, hh⟩ := hs
  rcases hi with ⟨ft, hm, -⟩ | ⟨p', S', u', w', hc, hpp, hev, -⟩
  · exact absurd hf0 (by have := MF.pos (G := G3) hm; omega)
  have ht := hc.t
  obtain ⟨rfl, q18⟩ := m_isWord (i := 18) (by decide) (by decide +kernel) hw1 hc.1
  have q146 : r1.toInt ≠ 0 ↔ tK b n p' = 146 := q18
  clear q18
  have hd : (G3.1 66 24).toInt = (dps S' : Int) := hc.2.2.1
  have hu : (G3.1 66 23).toInt = u' := hc.2.2.2.1
  have hw : (G3.1 66 21).toInt = w' := hc.2.2.2.2.1
  have hwb : 0 ≤ w' ∧ w' ≤ 90 := hc.2.2.2.2.2.2.2
  rcases hh with ⟨hr, r2, Gb, hmn, hr2, hh⟩ | ⟨Gd, hj, -, -, hh⟩
  · have k146 := q146.mp hr
    obtain ⟨rfl, qm⟩ := m_mayNot hmn hc.2.1
    have km := qm.mp hr2
    rcases hh with ⟨c24, Ge, ho, rfl, rfl⟩ | ⟨c24, Ge, hwr, Gf, ho, rfl, rfl⟩
    · have h2 : CfM b n f Ge (tNx b n p') (21 :: S') C u' w' := m_openUp ho hc (Or.inr rfl) (by omega)
      have hsy : syB b n p' S' C u' w' = .inl (true, tNx b n p', 21 :: S', C, u', w') := by
        unfold syB
        rw [if_pos ⟨k146, km⟩, if_neg (by omega)]
      exact Or.inr ⟨tNx b n p', 21 :: S', u', w', h2, by omega, fun o => (hev o).trans (Ev_B hsy), fun q => absurd q hx⟩
    · obtain ⟨hm, -⟩ := m_wrong hwr hc.1 (by decide)
      have hsy : syB b n p' S' C u' w' = .inr (.inl (fl b n 2 p')) := by
        unfold syB
        rw [if_pos ⟨k146, km⟩, if_pos (by omega)]
      exact Or.inl ⟨fl b n 2 p', openUp_f ho hm, (hev _).mpr ((Ev_Br hsy).mpr rfl)⟩
  · have hno : ¬ (tK b n p' = 146 ∧ mno S' = true) ∧ G3 = Gd := by
      rcases hj with ⟨c, e⟩ | ⟨c, r2, Gb, hmn, hr2, e⟩
      · exact ⟨fun q => (q146.mpr q.1) c, e⟩
      · obtain ⟨rfl, qm⟩ := m_mayNot hmn hc.2.1
        exact ⟨fun q => (qm.mpr q.2) hr2, e⟩
    obtain ⟨hno, rfl⟩ := hno
    have h40 := hc.1.so.2.2.2.2 40 (by decide) (by decide)
    rcases hh with ⟨c40, r3, Gc, hfu, hh⟩ | ⟨c40, rfl, rfl⟩
    · have k40 := h40.mp c40
      obtain ⟨rfl, qf⟩ := m_isFull hfu
      rw [hu, hw] at qf
      rcases hh with ⟨hr3, hh⟩ | ⟨hr3, Ge, hwr, Gf, hcu, Gg, ho, rfl, rfl⟩
      · have nf : ¬ (w' = 90 ∨ u' = 30) := fun q => (qf.mpr q) hr3
        clear qf q146 h40
        rcases hh with ⟨c24, Ge, hcu, Gf, ho, rfl, rfl⟩ | ⟨c24, Ge, hwr, Gf, hcu, Gg, ho, rfl, rfl⟩
        · have h1 := m_count hcu hc (by omega)
          have h2 : CfM b n f Gf (tNx b n p') (20 :: S') C (u' + 1) (w' + 1) := m_openUp ho h1 (Or.inl rfl) (by omega)
          have hsy : syB b n p' S' C u' w' = .inl (true, tNx b n p', 20 :: S', C, u' + 1, w' + 1) := by
            unfold syB
            rw [if_neg hno, if_pos k40, if_neg (by omega)]
          exact Or.inr ⟨tNx b n p', 20 :: S', u' + 1, w' + 1, h2, by omega, fun o => (hev o).trans (Ev_B hsy), fun q => absurd q hx⟩
        · obtain ⟨hm, -⟩ := m_wrong hwr hc.1 (by decide)
          have hsy : syB b n p' S' C u' w' = .inr (.inl (fl b n 2 p')) := by
            unfold syB
            rw [if_neg hno, if_pos k40, if_pos (by omega)]
          exact Or.inl ⟨fl b n 2 p', openUp_f ho (count_f hcu hm), (hev _).mpr ((Ev_Br hsy).mpr rfl)⟩
      · have nf := qf.mp hr3
        clear qf q146 h40
        obtain ⟨hm, -⟩ := m_wrong hwr hc.1 (by decide)
        have hsy : syB b n p' S' C u' w' = .inr (.inl (fl b n 2 p')) := by
          unfold syB
          rw [if_neg hno, if_pos k40, if_pos (Or.inl nf)]
        exact Or.inl ⟨fl b n 2 p', openUp_f ho (count_f hcu hm), (hev _).mpr ((Ev_Br hsy).mpr rfl)⟩
    · exact Or.inr ⟨p', S', u', w', hc, hpp, hev, fun _ => ⟨hno, fun q => c40 (h40.mpr q)⟩⟩
def UO (b : Nat → Int) (n f p : Nat) (S : List Int) (C : List (Int × Int)) (u w : Int) (G1 : GS) : Prop := (∃ ft, MF ft G1 ∧ Ev b n (true, p, S, C, u, w) (.inl ft)) ∨ (∃ p' S' C' u' w', CfM b n f G1 p' S' C' u' w' ∧ p < p' ∧ ∀ o, Ev b n (true, p, S, C, u, w) o ↔ Ev b n (false, p', S', C', u', w') o)
theorem m_unit {b : Nat → Int} {n f p : Nat} {S : List Int} {C : List (Int × Int)} {u w : Int} {G G1 : GS} (h : Q_unit G G1) (hc0 : CfM b n f G p S C u w) : UO b n f p S C u w G1 := by
  obtain ⟨-, -, -, x, G3, hl, -, -, -, -, -, -, G29, hj, -, -, hh⟩ := h
  have hi : UI b n f p S C u w x G3 := hl (fun q => UI b n f p S C u w q.1 q.2) (Or.inr ⟨p, S, u, w, hc0, Nat.le_refl p, fun o => Iff.rfl, fun q => absurd q (show ¬ (1 : Int32).toInt = 0 by decide)⟩) (fun a a' ha hs => m_ustep hs ha)
  clear hl
  have e29 : G3 = G29 := by
    rcases hj with ⟨-, e⟩ | ⟨-, -, e⟩ <;> exact e
  rcases hi with ⟨ft, hm, he⟩ | ⟨p', S', u', w', hc, hpp, hev, hx0⟩
  · have hpos := hm.pos
    rcases hh with ⟨c, -⟩ | ⟨-, e⟩
    · omega
    · subst e29
      subst e
      exact Or.inl ⟨ft, hm, he⟩
  have hf0 : (G3.1 66 2).toInt = 0 := hc.1.2.2.1.1
  have hx : x.toInt = 0 := by
    rcases hj with ⟨c, -⟩ | ⟨-, c, -⟩
    · exact c
    · exact absurd hf0 c
  obtain ⟨hno, n40⟩ := hx0 hx
  clear hx0 hj hx
  subst e29
  have ht := hc.t
  have hu : (G3.1 66 23).toInt = u' := hc.2.2.2.1
  have hw : (G3.1 66 21).toInt = w' := hc.2.2.2.2.1
  have hwb : 0 ≤ w' ∧ w' ≤ 90 := hc.2.2.2.2.2.2.2
  rcases hh with ⟨-, r34, Ga, hask, hh⟩ | ⟨c, -⟩
  rotate_left
  · omega
  obtain ⟨rfl, hr⟩ := m_asked hask hc.1
  have h201 := hc.1.so.2.1
  have bad : (tK b n p' ≠ 201 ∧ ask (tK b n p') < 0) ∨ (w' = 90 ∨ u' = 30) → ∀ {Gw : GS}, Q_wrong 2 G3 Gw → UO b n f p S C u w Gw := by
    intro hb Gw hwr
    obtain ⟨hm, -⟩ := m_wrong hwr hc.1 (by decide)
    have hsy : syB b n p' S' C u' w' = .inr (.inl (fl b n 2 p')) := by
      unfold syB
      rw [if_neg hno, if_neg n40, if_pos hb]
    exact Or.inl ⟨fl b n 2 p', hm, (hev _).mpr ((Ev_Br hsy).mpr rfl)⟩
  have good : ¬ ((tK b n p' ≠ 201 ∧ ask (tK b n p') < 0) ∨ (w' = 90 ∨ u' = 30)) → ∀ {Gc Gd Ge : GS} {s v : Int32}, Q_countUnit G3 Gc → Q_add s v Gc Gd → Q_token Gd Ge → (s.toInt, v.toInt) = (if ask (tK b n p') < 0 then ((0 : Int), tV b n p') else (1, ask (tK b n p'))) → tK b n p' ≠ 202 ∧ tK b n p' ≠ 203 → UO b n f p S C u w Ge := by
    intro hb Gc Gd Ge s v hcu had htk hsv h2
    have hw9 : w' < 90 := by
      have q9 : w' ≠ 90 := fun q => hb (Or.inr (Or.inl q))
      clear hb hev hno bad
      omega
    have h1 := CfM.next htk (CfM.add had (m_count hcu hc hw9)) h2.1
    rw [hsv] at h1
    have hsy : syB b n p' S' C u' w' = .inl (false, tNx b n p', S', C ++ [if ask (tK b n p') < 0 then (0, tV b n p') else (1, ask (tK b n p'))], u' + 1, w' + 1) := by
      unfold syB
      rw [if_neg hno, if_neg n40, if_neg hb]
    exact Or.inr ⟨tNx b n p', S', _, u' + 1, w' + 1, h1, by have := ht.2.2.2.2 h2.2; omega, fun o => (hev o).trans (Ev_B hsy)⟩
  have a201 : ask 201 = -1 := by decide
  rcases hh with ⟨c2, r42, Gb, hfu, hh⟩ | ⟨c2, hh⟩
  · have k201 := h201.mp c2
    rw [k201, a201] at hr
    obtain ⟨rfl, qf⟩ := m_isFull hfu
    rw [hu, hw] at qf
    rcases hh with ⟨hr42, Gc, hcu, hh⟩ | ⟨hr42, Gc, hwr, hh⟩
    · have nf : ¬ (w' = 90 ∨ u' = 30) := fun q => (qf.mpr q) hr42
      rcases hh with ⟨c, -⟩ | ⟨-, Gd, had, Ge, htk, rfl⟩
      · exact absurd c (by rw [hr]; decide)
      · refine good (fun q => q.elim (fun q => q.1 k201) nf) hcu had htk ?_ ⟨by rw [k201]; decide, by rw [k201]; decide⟩
        rw [k201, a201, if_pos (by decide)]
        exact Prod.ext rfl (hc.1.2.1.2.2.2.1 k201)
    · have nf := qf.mp hr42
      rcases hh with ⟨c, -⟩ | ⟨-, rfl⟩
      · exact absurd c (by have := (m_wrong hwr hc.1 (by decide)).1.pos; omega)
      · exact bad (Or.inr nf) hwr
  · have n201 : tK b n p' ≠ 201 := fun q => c2 (h201.mpr q)
    rcases hh with ⟨c, Gc, hwr, hh⟩ | ⟨c, r45, Gb, hfu, hh⟩
    · rcases hh with ⟨c', -⟩ | ⟨-, rfl⟩
      · exact absurd c' (by have := (m_wrong hwr hc.1 (by decide)).1.pos; omega)
      · exact bad (Or.inl ⟨n201, by rw [← hr]; exact c⟩) hwr
    · have hask0 : ¬ ask (tK b n p') < 0 := by rw [← hr]; omega
      obtain ⟨rfl, qf⟩ := m_isFull hfu
      rw [hu, hw] at qf
      rcases hh with ⟨hr45, Gc, hcu, Gd, had, Ge, htk, rfl⟩ | ⟨hr45, Gc, hwr, hh⟩
      · have nf : ¬ (w' = 90 ∨ u' = 30) := fun q => (qf.mpr q) hr45
        refine good (fun q => q.elim (fun q => hask0 q.2) nf) hcu had htk ?_ ⟨fun q => hask0 (by rw [q]; decide), fun q => hask0 (by rw [q]; decide)⟩
        rw [if_neg hask0]
        exact Prod.ext rfl hr
      · have nf := qf.mp hr45
        rcases hh with ⟨c', -⟩ | ⟨-, rfl⟩
        · exact absurd c' (by have := (m_wrong hwr hc.1 (by decide)).1.pos; omega)
        · exact bad (Or.inr nf) hwr

/-! formulas by the reference: the whole formula -/
theorem clo0_br : ∀ {S : List Int} {C : List (Int × Int)}, (20 : Int) ∈ S → ∃ T, (clo 0 S C).1 = 20 :: T
  | [], _, h => absurd h (by simp)
  | o :: S, C, h => by
    rw [clo]
    by_cases ho : o = 20
    · subst ho
      rw [if_neg (fun q => q.1 rfl)]
      exact ⟨S, rfl⟩
    · rw [if_pos ⟨ho, by have := tgt_r o; omega⟩]
      rcases List.mem_cons.mp h with e | e
      · exact absurd e.symm ho
      · exact clo0_br e
def FI (b : Nat → Int) (n f p : Nat) (s : FS) (x : Int32) (G : GS) : Prop := (∃ ft, MF ft G ∧ Ev b n s (.inl ft)) ∨ (∃ p' S' C' u' w', CfM b n f G p' S' C' u' w' ∧ p < p' ∧ (∀ o, Ev b n s o ↔ Ev b n (false, p', S', C', u', w') o) ∧ (x.toInt = 0 → ¬ (tK b n p' = 41 ∧ (20 : Int) ∈ S') ∧ ¬ (sig (tK b n p') ≠ 0 ∧ ¬ (tgt (sig (tK b n p')) = 4 ∧ hrl S' = true))))
theorem CfM.popB {b : Nat → Int} {n f p : Nat} {G G1 : GS} {S : List Int} {C : List (Int × Int)} {u w : Int} {y z : Int32} (hc : CfM b n f G p (20 :: S) C u w) (hF : Fr [] [(66, 20), (66, 24)] G G1) (e1 : G1.1 66 20 = y) (e2 : G1.1 66 24 = z) (hy : y.toInt = (G.1 66 20).toInt - 1) (hz : z.toInt = (G.1 66 24).toInt - 1) : CfM b n f G1 p S C u w := by
  obtain ⟨c1, c2, c3, c4, c5, c6, c7, c8⟩ := hc
  have hd : dps (20 :: S) = dps S + 1 := by rw [dps, if_pos (Or.inl rfl)]
  rw [hd] at c3
  refine ⟨c1.fr hF (by decide) (by decide) (by decide) (by decide), stk_pop c2 hF (by decide) (by decide) (by rw [e1]; exact hy), by rw [e2]; omega, by rw [hF.i 66 23 (by decide) (by decide)]; exact c4, by rw [hF.i 66 21 (by decide) (by decide)]; exact c5, by rw [hF.i 66 19 (by decide) (by decide)]; exact c6, c7.fr hF (by decide) (by decide), c8⟩
theorem CfM.push {b : Nat → Int} {n f p : Nat} {G G1 : GS} {S : List Int} {C : List (Int × Int)} {u w : Int} {o y : Int32} (hc : CfM b n f G p S C u w) (hF : Fr [75] [(66, 20)] G G1) (e1 : G1.1 66 20 = y) (hy : y.toInt = (G.1 66 20).toInt + 1) (e75 : G1.1 75 = upd (G.1 75) (G.1 66 20).toNatClampNeg o) (ho : ¬ (o.toInt = 20 ∨ o.toInt = 21)) : CfM b n f G1 p (o.toInt :: S) C u w := by
  obtain ⟨c1, c2, c3, c4, c5, c6, c7, c8⟩ := hc
  refine ⟨c1.fr hF (by decide) (by decide) (by decide) (by decide), stk_push c2 (by rw [e1]; exact hy) e75, by rw [hF.i 66 24 (by decide) (by decide), dps, if_neg ho]; exact c3, by rw [hF.i 66 23 (by decide) (by decide)]; exact c4, by rw [hF.i 66 21 (by decide) (by decide)]; exact c5, by rw [hF.i 66 19 (by decide) (by decide)]; exact c6, c7.fr hF (by decide) (by decide), c8⟩
theorem sig_n {k : Int} (h : sig k ≠ 0) : ¬ (sig k = 20 ∨ sig k = 21) ∧ k ≠ 202 ∧ k ≠ 203 := by
  unfold sig at h ⊢
  by_cases h1 : k = 145
  · rw [if_pos h1]
    omega
  · rw [if_neg h1] at h ⊢
    by_cases h2 : k = 144
    · rw [if_pos h2]
      omega
    · rw [if_neg h2] at h ⊢
      by_cases h3 : k = 60 ∨ k = 62 ∨ k = 61 ∨ k = 43 ∨ k = 45 ∨ k = 42 ∨ k = 47 ∨ k = 37
      · rw [if_pos h3]
        omega
      · rw [if_neg h3] at h
        exact absurd rfl h
theorem m_fstep {b : Nat → Int} {n f p : Nat} {s : FS} {G : GS} {q q1 : Int32 × GS} (hs : St_n_formula_1 G q q1) (hi : FI b n f p s q.1 q.2) : FI b n f p s q1.1 q1.2 := by
  obtain ⟨x, G3, xn, G3n, rfl, rfl, -, -, -, -, hx, hf0, r1, Ga, hsg, hh⟩ := hs
  rcases hi with ⟨ft, hm, -⟩ | ⟨p', S', C', u', w', hc, hpp, hev, -⟩
  · exact absurd hf0 (by have := MF.pos (G := G3) hm; omega)
  have ht := hc.t
  obtain ⟨rfl, hr⟩ := m_sign hsg hc.1
  have h41 := hc.1.so.2.2.2.2 41 (by decide) (by decide)
  rcases hh with ⟨c41, r2, Gb, hb, hr2, Gc, hcl, y1, hy1, y2, hy2, Gd, -, hF, e1, e2, Ge, htk, rfl, rfl⟩ | ⟨Gb, hj, -, -, hh⟩
  · have k41 := h41.mp c41
    obtain ⟨rfl, qb⟩ := m_hasBracket hb hc.2.1
    have kb := qb.mp hr2
    have h1 : CfM b n f Gc p' (clo 0 S' C').1 (clo 0 S' C').2 u' w' := CfM.close hcl hc
    obtain ⟨T, hT⟩ := clo0_br (S := S') (C := C') kb
    have h2 : CfM b n f Gd p' T (clo 0 S' C').2 u' w' := CfM.popB (by rw [← hT]; exact h1) hF e1 e2 hy1 hy2
    have h3 := CfM.next htk h2 (by omega)
    have hsy : syA b n p' S' C' u' w' = .inl (false, tNx b n p', T, (clo 0 S' C').2, u', w') := by
      unfold syA
      rw [if_pos ⟨k41, kb⟩, hT]
      rfl
    exact Or.inr ⟨tNx b n p', T, _, u', w', h3, by omega, fun o => (hev o).trans (Ev_A hsy), fun q => absurd q hx⟩
  · have hno : ¬ (tK b n p' = 41 ∧ (20 : Int) ∈ S') ∧ G3 = Gb := by
      rcases hj with ⟨c, r2, Gc, hb, hr2, e⟩ | ⟨c, e⟩
      · obtain ⟨rfl, qb⟩ := m_hasBracket hb hc.2.1
        exact ⟨fun q => (qb.mpr q.2) hr2, e⟩
      · exact ⟨fun q => c (h41.mpr q.1), e⟩
    obtain ⟨hno, rfl⟩ := hno
    clear h41
    rcases hh with ⟨c0, rfl, rfl⟩ | ⟨c0, r3, Gc, htg, hh⟩
    · exact Or.inr ⟨p', S', C', u', w', hc, hpp, hev, fun _ => ⟨hno, fun q => q.1 (by rw [← hr]; exact c0)⟩⟩
    · have hsn := sig_n (k := tK b n p') (by rw [← hr]; exact c0)
      obtain ⟨rfl, ht3⟩ := m_tight htg
      rw [hr] at ht3
      rcases hh with ⟨c4, r4, Gd, hrl', hr4, rfl, rfl⟩ | ⟨Gd, hj, -, -, r4, Ge, htg2, Gf, hcl, y1, hy1, Gg, -, hF, e1, e75, Gh, htk, Gi, hun, rfl, rfl⟩
      · obtain ⟨rfl, ql⟩ := m_hasRel hrl' hc.2.1
        exact Or.inr ⟨p', S', C', u', w', hc, hpp, hev, fun _ => ⟨hno, fun q => q.2 ⟨by rw [← ht3]; exact c4, ql.mp hr4⟩⟩⟩
      · have hno2 : ¬ (tgt (sig (tK b n p')) = 4 ∧ hrl S' = true) ∧ G3 = Gd := by
          rcases hj with ⟨c, r5, Gj, hrl', hr5, e⟩ | ⟨c, e⟩
          · obtain ⟨rfl, ql⟩ := m_hasRel hrl' hc.2.1
            exact ⟨fun q => (ql.mpr q.2) hr5, e⟩
          · exact ⟨fun q => c (by rw [ht3]; exact q.1), e⟩
        obtain ⟨hno2, rfl⟩ := hno2
        obtain ⟨rfl, ht4⟩ := m_tight htg2
        rw [hr] at ht4
        have h1 := CfM.close hcl hc
        rw [ht4] at h1
        have h2 := CfM.push h1 hF e1 hy1 e75 (by rw [hr]; exact hsn.1)
        rw [hr] at h2
        have h3 := CfM.next htk h2 hsn.2.1
        have hsy : syA b n p' S' C' u' w' = .inl (true, tNx b n p', sig (tK b n p') :: (clo (tgt (sig (tK b n p'))) S' C').1, (clo (tgt (sig (tK b n p'))) S' C').2, u', w') := by
          unfold syA
          rw [if_neg hno, if_pos ⟨by rw [← hr]; exact c0, hno2⟩]
        rcases m_unit hun h3 with ⟨ft, hm, he⟩ | ⟨p2, S2, C2, u2, w2, hc2, hp2, he2⟩
        · exact Or.inl ⟨ft, hm, (hev _).mpr ((Ev_A hsy).mpr he)⟩
        · exact Or.inr ⟨p2, S2, C2, u2, w2, hc2, by omega, fun o => ((hev o).trans (Ev_A hsy)).trans (he2 o), fun q => absurd q hx⟩
/-- the reference's formula: its FAULT, or its code, place and count of units, as the stack says -/
def FOM (b : Nat → Int) (n f p : Nat) (w : Int) (G1 : GS) : Prop := (∃ ft, MF ft G1 ∧ Ev b n (true, p, [], [], 0, w) (.inl ft)) ∨ (∃ p' C' u' w', MP b n G1 p' ∧ CodeM f C' G1 ∧ (G1.1 66 21).toInt = w' ∧ 0 ≤ w' ∧ w' ≤ 90 ∧ p < p' ∧ Ev b n (true, p, [], [], 0, w) (.inr (p', C', u', w')))
theorem m_form {b : Nat → Int} {n f p : Nat} {w : Int} {G G1 : GS} {p0 : Int32} (h : Q_formula p0 G G1) (hp : MP b n G p) (hf : p0.toInt = (f : Int)) (hw : (G.1 66 21).toInt = w) (hw0 : 0 ≤ w) (hw9 : w ≤ 90) : FOM b n f p w G1 := by
  obtain ⟨-, -, -, G5, -, hF5, e19, e20, e23, e24, e71, G21, hun, x, G3, hl, -, -, -, -, -, G48, hj, -, -, hh⟩ := h
  have hc0 : CfM b n f G5 p [] [] 0 w := by
    refine ⟨hp.fr hF5 (by decide) (by decide) (by decide) (by decide), ⟨by rw [e20]; rfl, fun i hi => absurd hi (by simp)⟩, by rw [e24]; rfl, by rw [e23]; rfl, by rw [hF5.i 66 21 (by decide) (by decide)]; exact hw, by rw [e19]; exact hf, ⟨?_, fun i hi => absurd hi (by simp)⟩, hw0, hw9⟩
    rw [e71, cn_eq hf]
    have : upd (G.1 71) f 0 f = 0 := by simp [upd]
    rw [this]
    rfl
  have hi : FI b n f p (true, p, [], [], 0, w) x G3 := by
    refine hl (fun q => FI b n f p (true, p, [], [], 0, w) q.1 q.2) ?_ (fun a a' ha hs => m_fstep hs ha)
    rcases m_unit hun hc0 with ⟨ft, hm, he⟩ | ⟨p2, S2, C2, u2, w2, hc2, hp2, he2⟩
    · exact Or.inl ⟨ft, hm, he⟩
    · exact Or.inr ⟨p2, S2, C2, u2, w2, hc2, hp2, he2, fun q => absurd q (show ¬ (1 : Int32).toInt = 0 by decide)⟩
  clear hl hun hc0
  have e48 : G3 = G48 := by
    rcases hj with ⟨-, e⟩ | ⟨-, -, e⟩ <;> exact e
  rcases hi with ⟨ft, hm, he⟩ | ⟨p', S', C', u', w', hc, hpp, hev, hx0⟩
  · have hpos := hm.pos
    rcases hh with ⟨c, -⟩ | ⟨-, e⟩
    · omega
    · subst e48
      subst e
      exact Or.inl ⟨ft, hm, he⟩
  have hf0 : (G3.1 66 2).toInt = 0 := hc.1.2.2.1.1
  have hx : x.toInt = 0 := by
    rcases hj with ⟨c, -⟩ | ⟨-, c, -⟩
    · exact c
    · exact absurd hf0 c
  obtain ⟨hno, hno2⟩ := hx0 hx
  clear hx0 hj hx
  subst e48
  rcases hh with ⟨-, r, Ga, hb, hh⟩ | ⟨c, -⟩
  · obtain ⟨rfl, qb⟩ := m_hasBracket hb hc.2.1
    rcases hh with ⟨hr, Gb, hcl, rfl⟩ | ⟨hr, Gb, hwr, hh⟩
    · have nb : ¬ (20 : Int) ∈ S' := fun q => (qb.mpr q) hr
      have h1 : CfM b n f Gb p' (clo 0 S' C').1 (clo 0 S' C').2 u' w' := CfM.close hcl hc
      have hsy : syA b n p' S' C' u' w' = .inr (.inr (p', (clo 0 S' C').2, u', w')) := by
        unfold syA
        rw [if_neg hno, if_neg hno2, if_neg nb]
      exact Or.inr ⟨p', _, u', w', h1.1, h1.2.2.2.2.2.2.1, h1.2.2.2.2.1, h1.2.2.2.2.2.2.2.1, h1.2.2.2.2.2.2.2.2, hpp, (hev _).mpr ((Ev_Ar hsy).mpr rfl)⟩
    · have kb := qb.mp hr
      obtain ⟨hm, -⟩ := m_wrong hwr hc.1 (by decide)
      have hsy : syA b n p' S' C' u' w' = .inr (.inl (fl b n 2 p')) := by
        unfold syA
        rw [if_neg hno, if_neg hno2, if_pos kb]
      rcases hh with ⟨c, -⟩ | ⟨-, rfl⟩
      · exact absurd c (by have := hm.pos; omega)
      · exact Or.inl ⟨fl b n 2 p', hm, (hev _).mpr ((Ev_Ar hsy).mpr rfl)⟩
  · exact absurd hf0 c
theorem Ev_one {b : Nat → Int} {n : Nat} {s : FS} {o o' : FO} (h : Ev b n s o) (h' : Ev b n s o') : o = o' := by
  obtain ⟨k, hk⟩ := h
  obtain ⟨k', hk'⟩ := h'
  have key : ∀ (k k' : Nat) (s : FS), itn b n k s = some o → itn b n k' s = some o' → o = o' := by
    intro k
    induction k with
    | zero => intro k' s h1; exact absurd h1 (by simp [itn])
    | succ k ih =>
      intro k' s h1 h2
      cases k' with
      | zero => exact absurd h2 (by simp [itn])
      | succ k' =>
        rw [itn] at h1 h2
        cases hs : sy b n s with
        | inr v =>
          rw [hs] at h1 h2
          exact (Option.some.inj h1).symm.trans (Option.some.inj h2)
        | inl v =>
          rw [hs] at h1 h2
          exact ih k' v h1 h2
  exact key k k' s hk hk'
