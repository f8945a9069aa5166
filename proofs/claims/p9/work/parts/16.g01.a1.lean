/-! the text, and what stands in it from a place on -/
def rn (c : Int → Bool) (b : Nat → Int) (n : Nat) : Nat → Nat → Nat
  | 0, p => p
  | f + 1, p => if p < n ∧ c (b p) = true then rn c b n f (p + 1) else p
theorem rn_eq {c : Int → Bool} {b : Nat → Int} {n : Nat} : ∀ (f p e : Nat), p ≤ e → e ≤ p + f → (∀ k, p ≤ k → k < e → k < n ∧ c (b k) = true) → ¬ (e < n ∧ c (b e) = true) → rn c b n f p = e
  | 0, p, e, h1, h2, _, _ => by
    show p = e
    omega
  | f + 1, p, e, h1, h2, h3, h4 => by
    show (if p < n ∧ c (b p) = true then rn c b n f (p + 1) else p) = e
    by_cases hp : p = e
    · subst hp
      rw [if_neg h4]
    · rw [if_pos (h3 p (Nat.le_refl p) (by omega))]
      exact rn_eq f (p + 1) e (by omega) (by omega) (fun k a1 a2 => h3 k (by omega) a2) h4
theorem rn_p {c : Int → Bool} {b : Nat → Int} {n : Nat} : ∀ (f p : Nat), n ≤ p + f → p ≤ rn c b n f p ∧ (p ≤ n → rn c b n f p ≤ n) ∧ (∀ k, p ≤ k → k < rn c b n f p → k < n ∧ c (b k) = true) ∧ ¬ (rn c b n f p < n ∧ c (b (rn c b n f p)) = true)
  | 0, p, h => ⟨Nat.le_refl p, fun q => q, fun k a1 a2 => by have : rn c b n 0 p = p := rfl; omega, fun q => by have : rn c b n 0 p = p := rfl; omega⟩
  | f + 1, p, h => by
    have e : rn c b n (f + 1) p = if p < n ∧ c (b p) = true then rn c b n f (p + 1) else p := rfl
    by_cases hp : p < n ∧ c (b p) = true
    · rw [if_pos hp] at e
      obtain ⟨i1, i2, i3, i4⟩ := rn_p (c := c) (b := b) (n := n) f (p + 1) (by omega)
      rw [e]
      refine ⟨by omega, fun _ => i2 (by omega), fun k a1 a2 => ?_, i4⟩
      by_cases hk : k = p
      · subst hk
        exact hp
      · exact i3 k (by omega) a2
    · rw [if_neg hp] at e
      rw [e]
      exact ⟨Nat.le_refl p, fun q => q, fun k a1 a2 => by omega, hp⟩
def blk (x : Int) : Bool := decide (x = 32 ∨ x = 10)
def ltr (x : Int) : Bool := decide (97 ≤ x ∧ x ≤ 122)
def dgt (x : Int) : Bool := decide (48 ≤ x ∧ x ≤ 57)
def sgn (x : Int) : Bool := decide (x = 59 ∨ x = 40 ∨ x = 41 ∨ x = 60 ∨ x = 62 ∨ x = 61 ∨ x = 43 ∨ x = 45 ∨ x = 42 ∨ x = 47 ∨ x = 37)
theorem blk_i {x : Int} : blk x = true ↔ x = 32 ∨ x = 10 := by simp [blk]
theorem ltr_i {x : Int} : ltr x = true ↔ 97 ≤ x ∧ x ≤ 122 := by simp [ltr]
theorem dgt_i {x : Int} : dgt x = true ↔ 48 ≤ x ∧ x ≤ 57 := by simp [dgt]
theorem sgn_i {x : Int} : sgn x = true ↔ x = 59 ∨ x = 40 ∨ x = 41 ∨ x = 60 ∨ x = 62 ∨ x = 61 ∨ x = 43 ∨ x = 45 ∨ x = 42 ∨ x = 47 ∨ x = 37 := by simp [sgn]
def cut (b : Nat → Int) (s e : Nat) : List Int := (List.range (e - s)).map (fun k => b (s + k))
theorem cut_nil {b : Nat → Int} {s : Nat} : cut b s s = [] := by simp [cut]
theorem cut_len {b : Nat → Int} {s e : Nat} : (cut b s e).length = e - s := by simp [cut]
theorem cut_snoc {b : Nat → Int} {s e : Nat} (h : s ≤ e) : cut b s (e + 1) = cut b s e ++ [b e] := by
  unfold cut
  rw [show e + 1 - s = (e - s) + 1 by omega, List.range_succ, List.map_append, List.map_singleton, show s + (e - s) = e by omega]
theorem cut_mem {b : Nat → Int} {s e : Nat} {x : Int} (h : x ∈ cut b s e) : ∃ k, s ≤ k ∧ k < e ∧ x = b k := by
  unfold cut at h
  obtain ⟨k, hk, rfl⟩ := List.mem_map.mp h
  have := List.mem_range.mp hk
  exact ⟨s + k, by omega, by omega, rfl⟩
theorem cut_get {b : Nat → Int} {s e k : Nat} (h : k < e - s) : (cut b s e).getD k 32 = b (s + k) := by
  unfold cut
  simp [List.getD_eq_getElem?_getD, h]
theorem cut_off {b : Nat → Int} {s e k : Nat} (h : ¬ k < e - s) : (cut b s e).getD k 32 = 32 := by
  unfold cut
  rw [List.getD_eq_getElem?_getD, List.getElem?_map, List.getElem?_eq_none (by rw [List.length_range]; omega)]
  rfl
/-- two short lists without blanks that look alike behind blanks are one -/
theorem pad_inj : ∀ (A B : List Int), (∀ x ∈ A, x ≠ 32) → (∀ x ∈ B, x ≠ 32) → (∀ k, k < A.length ∨ k < B.length → A.getD k 32 = B.getD k 32) → A = B
  | [], [], _, _, _ => rfl
  | [], y :: B, _, hB, h => by
    have := h 0 (Or.inr (by simp))
    simp at this
    exact absurd this.symm (hB y (by simp))
  | x :: A, [], hA, _, h => by
    have := h 0 (Or.inl (by simp))
    simp at this
    exact absurd this (hA x (by simp))
  | x :: A, y :: B, hA, hB, h => by
    have h0 := h 0 (Or.inl (by simp))
    simp at h0
    rw [h0, pad_inj A B (fun z hz => hA z (by simp [hz])) (fun z hz => hB z (by simp [hz])) (fun k hk => by have := h (k + 1) (by simp; omega); simpa using this)]
def KW : List (List Int) := [[115, 116, 114, 101, 101, 116], [119, 97, 108, 107, 101, 114], [102, 111, 111, 116], [115, 116, 101, 112], [116, 111], [108, 101, 97, 112], [114, 117, 108, 101], [115, 108, 105, 112], [104, 97, 110, 100], [115, 108, 97, 99, 107], [100, 114, 97, 119], [106, 111, 105, 110, 116], [114, 101, 100], [98, 114, 111, 107, 101, 110], [100, 114, 97, 105, 110], [115, 104, 97, 100, 101], [111, 114], [97, 110, 100], [110, 111, 116], [108, 111, 110, 103], [110, 116, 104], [105, 110, 99, 104], [100, 97, 121]]
def kwd (L : List Int) : Int := if KW.idxOf L < 23 then 128 + (KW.idxOf L : Int) else 200
theorem kwd_in {L : List Int} {i : Nat} (hi : i < 23) (h : KW.getD i [] = L) : kwd L = 128 + (i : Int) := by
  subst h
  have : ∀ i : Nat, i < 23 → kwd (KW.getD i []) = 128 + (i : Int) := by decide
  exact this i hi
theorem kwd_out {L : List Int} (h : ∀ i : Nat, i < 23 → KW.getD i [] ≠ L) : kwd L = 200 := by
  unfold kwd
  rw [if_neg]
  intro q
  have h1 := List.getElem_idxOf (x := L) (xs := KW) q
  refine h (KW.idxOf L) q ?_
  rw [List.getD_eq_getElem?_getD, List.getElem?_eq_getElem q]
  exact h1
def val (L : List Int) : Int := L.foldl (fun v x => 10 * v + (x - 48)) 0
theorem val_snoc {L : List Int} {x : Int} : val (L ++ [x]) = 10 * val L + (x - 48) := by simp [val, List.foldl_append]
def v5 (L : List Int) : Nat := L.foldl (fun v x => 32 * v + (x - 96).toNat) 0
def v8 (L : List Int) : Nat := L.foldl (fun v x => 256 * v + x.toNat) 0
theorem v5_snoc {L : List Int} {x : Int} : v5 (L ++ [x]) = 32 * v5 L + (x - 96).toNat := by simp [v5, List.foldl_append]
theorem v8_snoc {L : List Int} {x : Int} : v8 (L ++ [x]) = 256 * v8 L + x.toNat := by simp [v8, List.foldl_append]
def w5 (L : List Int) : Int64 := Int64.ofNat (v5 L)
def w8 (L : List Int) : Int64 := Int64.ofNat (v8 L)
def tS (b : Nat → Int) (n p : Nat) : Nat := rn blk b n 1601 p
def tW (b : Nat → Int) (n p : Nat) : Nat := rn ltr b n 1601 (tS b n p)
def tD (b : Nat → Int) (n p : Nat) : Nat := rn dgt b n 1601 (tS b n p)
def tL (b : Nat → Int) (n p : Nat) : List Int := cut b (tS b n p) (tW b n p)
def tV (b : Nat → Int) (n p : Nat) : Int := val (cut b (tS b n p) (tD b n p))
def tK (b : Nat → Int) (n p : Nat) : Int :=
  if n ≤ tS b n p then 203
  else if ltr (b (tS b n p)) = true then (if 8 < tW b n p - tS b n p then 202 else kwd (tL b n p))
  else if dgt (b (tS b n p)) = true then (if 4 < tD b n p - tS b n p ∨ (tD b n p < n ∧ ltr (b (tD b n p)) = true) then 202 else 201)
  else if sgn (b (tS b n p)) = true then b (tS b n p) else 202
def tNx (b : Nat → Int) (n p : Nat) : Nat :=
  if n ≤ tS b n p then tS b n p else if ltr (b (tS b n p)) = true then tW b n p else if dgt (b (tS b n p)) = true then tD b n p else tS b n p + 1
/-- lists of letters, 8 at most, as numbers: no two alike -/
theorem v_lt {L : List Int} (h : ∀ x ∈ L, 97 ≤ x ∧ x ≤ 122) : v5 L < 32 ^ L.length ∧ v8 L < 256 ^ L.length ∧ (L ≠ [] → v8 L < 123 * 256 ^ (L.length - 1)) := by
  have key : ∀ M : List Int, (∀ x ∈ M, 97 ≤ x ∧ x ≤ 122) → v5 M.reverse < 32 ^ M.length ∧ v8 M.reverse < 256 ^ M.length ∧ (M ≠ [] → v8 M.reverse < 123 * 256 ^ (M.length - 1)) := by
    intro M
    induction M with
    | nil => intro _; exact ⟨by decide, by decide, fun q => absurd rfl q⟩
    | cons x M ih =>
      intro hM
      obtain ⟨i1, i2, i3⟩ := ih (fun z hz => hM z (by simp [hz]))
      have hx := hM x (by simp)
      have e5 : v5 (x :: M).reverse = 32 * v5 M.reverse + (x - 96).toNat := by rw [List.reverse_cons, v5_snoc]
      have e8 : v8 (x :: M).reverse = 256 * v8 M.reverse + x.toNat := by rw [List.reverse_cons, v8_snoc]
      rw [e5, e8, List.length_cons, Nat.pow_succ, Nat.pow_succ]
      refine ⟨by omega, by omega, fun _ => ?_⟩
      cases M with
      | nil => simp [v8]; omega
      | cons y M =>
        have := i3 (by simp)
        simp only [List.length_cons, Nat.add_sub_cancel] at this ⊢
        rw [Nat.pow_succ]
        omega
  have := key L.reverse (fun x hx => h x (List.mem_reverse.mp hx))
  rw [List.reverse_reverse, List.length_reverse] at this
  refine ⟨this.1, this.2.1, fun q => this.2.2 (fun e => q (List.reverse_eq_nil_iff.mp e))⟩
theorem v_inj : ∀ (A B : List Int), (∀ x ∈ A, 97 ≤ x ∧ x ≤ 122) → (∀ x ∈ B, 97 ≤ x ∧ x ≤ 122) → (v5 A.reverse = v5 B.reverse ∨ v8 A.reverse = v8 B.reverse) → A = B
  | [], [], _, _, _ => rfl
  | [], y :: B, _, hB, h => by
    have hy := hB y (by simp)
    rw [List.reverse_cons, v5_snoc, v8_snoc] at h
    simp [v5, v8] at h
    omega
  | x :: A, [], hA, _, h => by
    have hx := hA x (by simp)
    rw [List.reverse_cons, v5_snoc, v8_snoc] at h
    simp [v5, v8] at h
    omega
  | x :: A, y :: B, hA, hB, h => by
    have hx := hA x (by simp)
    have hy := hB y (by simp)
    rw [List.reverse_cons, List.reverse_cons, v5_snoc, v8_snoc, v5_snoc, v8_snoc] at h
    have h1 : x = y ∧ (v5 A.reverse = v5 B.reverse ∨ v8 A.reverse = v8 B.reverse) := by omega
    rw [h1.1, v_inj A B (fun z hz => hA z (by simp [hz])) (fun z hz => hB z (by simp [hz])) h1.2]
theorem pk_step (k : Nat) (hk : k = 5 ∨ k = 8) {v : Nat} {d : Int32} (hv : v < 2 ^ 55) (h0 : 0 ≤ d.toInt) (h1 : d.toInt < 2 ^ k) : Int64.ofNat v <<< ((Int32.ofNat k).toInt64 &&& 63) ||| d.toInt64 = Int64.ofNat (2 ^ k * v + d.toInt.toNat) := by
  have hd : d.toInt64 = Int64.ofNat d.toInt.toNat := Int64.toInt_inj.mp (by
    have hlt : d.toInt.toNat < 2 ^ 63 := by rcases hk with rfl | rfl <;> omega
    rw [Int32.toInt_toInt64, Int64.toInt_ofNat_of_lt hlt]; omega)
  rw [hd]
  apply Int64.toBitVec.inj
  apply BitVec.eq_of_toNat_eq
  have e1 : (Int64.ofNat v <<< ((Int32.ofNat k).toInt64 &&& 63) ||| Int64.ofNat d.toInt.toNat).toBitVec = (BitVec.ofNat 64 v <<< k) ||| BitVec.ofNat 64 d.toInt.toNat := by rcases hk with rfl | rfl <;> rfl
  rw [e1, BitVec.toNat_or, BitVec.toNat_shiftLeft, BitVec.toNat_ofNat, BitVec.toNat_ofNat, Int64.toBitVec_ofNat', BitVec.toNat_ofNat]
  have e2 : v % 2 ^ 64 = v := Nat.mod_eq_of_lt (by omega)
  have hdl : d.toInt.toNat < 2 ^ k := by rcases hk with rfl | rfl <;> omega
  have e3 : d.toInt.toNat % 2 ^ 64 = d.toInt.toNat := Nat.mod_eq_of_lt (by rcases hk with rfl | rfl <;> omega)
  have e4 : v <<< k % 2 ^ 64 = v <<< k := Nat.mod_eq_of_lt (by rw [Nat.shiftLeft_eq]; rcases hk with rfl | rfl <;> omega)
  rw [e2, e3, e4, ← Nat.shiftLeft_add_eq_or_of_lt hdl, Nat.shiftLeft_eq, Nat.mul_comm v]
  exact (Nat.mod_eq_of_lt (by rcases hk with rfl | rfl <;> omega)).symm
theorem w5_inj {A B : List Int} (hA : ∀ x ∈ A, 97 ≤ x ∧ x ≤ 122) (hB : ∀ x ∈ B, 97 ≤ x ∧ x ≤ 122) (lA : A.length ≤ 8) (lB : B.length ≤ 8) (h : w5 A = w5 B) : A = B := by
  have b1 : v5 A < 2 ^ 63 := Nat.lt_of_lt_of_le (v_lt hA).1 (Nat.le_trans (Nat.pow_le_pow_right (by decide) lA) (by decide))
  have b2 : v5 B < 2 ^ 63 := Nat.lt_of_lt_of_le (v_lt hB).1 (Nat.le_trans (Nat.pow_le_pow_right (by decide) lB) (by decide))
  have h1 := congrArg Int64.toInt h
  unfold w5 at h1
  rw [Int64.toInt_ofNat_of_lt b1, Int64.toInt_ofNat_of_lt b2] at h1
  have := v_inj A.reverse B.reverse (fun x hx => hA x (List.mem_reverse.mp hx)) (fun x hx => hB x (List.mem_reverse.mp hx)) (Or.inl (by rw [List.reverse_reverse, List.reverse_reverse]; omega))
  exact List.reverse_inj.mp this
theorem v8_lt {A : List Int} (hA : ∀ x ∈ A, 97 ≤ x ∧ x ≤ 122) (lA : A.length ≤ 8) : v8 A < 2 ^ 63 := by
  by_cases hn : A = []
  · subst hn
    decide
  · have h1 := (v_lt hA).2.2 hn
    have h2 : 256 ^ (A.length - 1) ≤ 256 ^ 7 := Nat.pow_le_pow_right (by decide) (by omega)
    omega
theorem w8_inj {A B : List Int} (hA : ∀ x ∈ A, 97 ≤ x ∧ x ≤ 122) (hB : ∀ x ∈ B, 97 ≤ x ∧ x ≤ 122) (lA : A.length ≤ 8) (lB : B.length ≤ 8) (h : w8 A = w8 B) : A = B := by
  have h1 := congrArg Int64.toInt h
  unfold w8 at h1
  rw [Int64.toInt_ofNat_of_lt (v8_lt hA lA), Int64.toInt_ofNat_of_lt (v8_lt hB lB)] at h1
  have := v_inj A.reverse B.reverse (fun x hx => hA x (List.mem_reverse.mp hx)) (fun x hx => hB x (List.mem_reverse.mp hx)) (Or.inr (by rw [List.reverse_reverse, List.reverse_reverse]; omega))
  exact List.reverse_inj.mp this
