/-! ===== endless slabs, in plain numbers ===== -/
def plN (S R x : Nat) : Nat → Bool
  | 0 => true
  | n + 1 => plN S R x n && decide ((x + n) % R < S)
theorem plN_all (S R x : Nat) : ∀ n, plN S R x n = true ↔ ∀ i, i < n → (x + i) % R < S
  | 0 => by simp [plN]
  | n + 1 => by
    rw [plN, Bool.and_eq_true, plN_all S R x n, decide_eq_true_eq]
    constructor
    · rintro ⟨h1, h2⟩ i hi
      rcases Nat.lt_or_ge i n with q | q
      · exact h1 i q
      · rw [show i = n by omega]; exact h2
    · intro h
      exact ⟨fun i hi => h i (by omega), h n (by omega)⟩
theorem plN_iff {S J F x : Nat} (hS : 1 ≤ S) (hF : 1 ≤ F) (hx : x < S + J) : plN S (S + J) x F = true ↔ ¬ (0 < J ∧ S < x + F) := by
  rw [plN_all]
  constructor
  · rintro h ⟨hJ, hF2⟩
    rcases Nat.lt_or_ge x S with q | q
    · have h1 := h (S - x) (by omega)
      rw [show x + (S - x) = S by omega, Nat.mod_eq_of_lt (by omega)] at h1
      omega
    · have h1 := h 0 (by omega)
      rw [Nat.add_zero, Nat.mod_eq_of_lt hx] at h1
      omega
  · intro h i hi
    rcases Nat.eq_zero_or_pos J with q | q
    · subst q
      exact Nat.mod_lt _ (by omega)
    · have h2 : x + F ≤ S := by
        rcases Nat.lt_or_ge S (x + F) with z | z
        · exact absurd ⟨q, z⟩ h
        · exact z
      rw [Nat.mod_eq_of_lt (by omega)]
      omega
/-- the reference's firstOf: fuel, how many feet, where -/
def foG (S R F B : Nat) : Nat → Nat → Nat → Int32
  | 0, _, _ => -1
  | f + 1, n, h => if plN S R h F = true then foG S R F B f (n + 1) ((h + B) % R) else nI n
/-- the class's first -/
def clG (S J F B : Nat) : Nat → Nat → Nat → Int32
  | 0, _, _ => -1
  | f + 1, n, h => if 0 < J ∧ S < h + F then nI n else clG S J F B f (n + 1) ((h + B) % (S + J))
theorem cl_fo {S J F B : Nat} (hS : 1 ≤ S) (hF : 1 ≤ F) : ∀ (f n h : Nat), h < S + J → clG S J F B f n h = foG S (S + J) F B f n h
  | 0, _, _, _ => rfl
  | f + 1, n, h, hh => by
    rw [clG, foG]
    by_cases q : 0 < J ∧ S < h + F
    · rw [if_pos q, if_neg (fun z => (plN_iff hS hF hh).mp z q)]
    · rw [if_neg q, if_pos ((plN_iff hS hF hh).mpr q)]
      exact cl_fo hS hF f (n + 1) _ (Nat.mod_lt _ (by omega))
theorem it_step (h B R k : Nat) : ((h + B) % R + k * B) % R = (h + (k + 1) * B) % R := by
  rw [Nat.add_mod, Nat.mod_mod, ← Nat.add_mod]
  congr 1
  rw [Nat.succ_mul]
  omega
theorem fo_all {S R F B : Nat} : ∀ (f n h : Nat), h < R → (∀ k, k < f → plN S R ((h + k * B) % R) F = true) → foG S R F B f n h = -1
  | 0, _, _, _, _ => rfl
  | f + 1, n, h, hh, H => by
    rw [foG]
    have h0 := H 0 (by omega)
    rw [Nat.zero_mul, Nat.add_zero, Nat.mod_eq_of_lt hh] at h0
    rw [if_pos h0]
    refine fo_all f (n + 1) _ (Nat.mod_lt _ (by omega)) (fun k hk => ?_)
    rw [it_step]
    exact H (k + 1) (by omega)
theorem fo_some {S R F B : Nat} : ∀ (f n h k : Nat), h < R → k < f → ¬ plN S R ((h + k * B) % R) F = true → ∃ j, j ≤ k ∧ ∀ f', k < f' → foG S R F B f' n h = nI (n + j)
  | 0, _, _, k, _, hk, _ => absurd hk (by omega)
  | f + 1, n, h, k, hh, hk, H => by
    by_cases q : plN S R h F = true
    · rcases k with _ | k
      · rw [Nat.zero_mul, Nat.add_zero, Nat.mod_eq_of_lt hh] at H
        exact absurd q H
      · obtain ⟨j, hj, hf⟩ := fo_some (B := B) f (n + 1) ((h + B) % R) k (Nat.mod_lt _ (by omega)) (by omega) (by rw [it_step]; exact H)
        refine ⟨j + 1, by omega, fun f' hf' => ?_⟩
        rcases f' with _ | f'
        · omega
        · rw [foG, if_pos q, hf f' (by omega)]
          congr 1
          omega
    · refine ⟨0, by omega, fun f' hf' => ?_⟩
      rcases f' with _ | f'
      · omega
      · rw [foG, if_neg q]
        rfl
theorem fo_more {S R F B x : Nat} (hx : x < R) : foG S R F B (R + 1) 0 x = foG S R F B R 0 x := by
  by_cases H : ∀ k, k < R → plN S R ((x + k * B) % R) F = true
  · rw [fo_all R 0 x hx H, fo_all (R + 1) 0 x hx]
    intro k hk
    rcases Nat.lt_or_ge k R with q | q
    · exact H k q
    · rw [show k = R by omega, Nat.add_mul_mod_self_left]
      have h0 := H 0 (by omega)
      rw [Nat.zero_mul, Nat.add_zero] at h0
      exact h0
  · obtain ⟨k, hk⟩ := Classical.not_forall.mp H
    obtain ⟨hk1, hk2⟩ := Classical.not_imp.mp hk
    obtain ⟨j, -, hf⟩ := fo_some R 0 x k hx hk1 hk2
    rw [hf (R + 1) (by omega), hf R hk1]
theorem first_same {S J F B x : Nat} (hS : 1 ≤ S) (hF : 1 ≤ F) (hx : x < S + J) : clG S J F B (S + J) 0 x = foG S (S + J) F B (S + J + 1) 0 x := by
  rw [cl_fo hS hF _ _ _ hx, fo_more hx]
/-- the answer is NONE, or a number up to the round -/
theorem fo_val {S R F B x : Nat} (hx : x < R) (hR : R < 1000) : (foG S R F B (R + 1) 0 x = -1 ∧ ∀ k, k < R → plN S R ((x + k * B) % R) F = true) ∨ (¬ foG S R F B (R + 1) 0 x < 0 ∧ ∃ k, k < R ∧ ¬ plN S R ((x + k * B) % R) F = true) := by
  by_cases H : ∀ k, k < R → plN S R ((x + k * B) % R) F = true
  · exact Or.inl ⟨by rw [fo_more hx, fo_all R 0 x hx H], H⟩
  · obtain ⟨k, hk⟩ := Classical.not_forall.mp H
    obtain ⟨hk1, hk2⟩ := Classical.not_imp.mp hk
    obtain ⟨j, hj, hf⟩ := fo_some R 0 x k hx hk1 hk2
    refine Or.inr ⟨?_, k, hk1, hk2⟩
    rw [hf (R + 1) (by omega), Nat.zero_add]
    exact nI_pos (by omega)
/-- the reference's beginOf -/
def boN (S R F B : Nat) : Nat → Nat
  | 0 => 0
  | x + 1 => boN S R F B x + (if foG S R F B (R + 1) 0 x < 0 then 1 else 0)
theorem boN_le (S R F B : Nat) : ∀ x, boN S R F B x ≤ x
  | 0 => Nat.le_refl 0
  | x + 1 => by
    have h := boN_le S R F B x
    rw [boN]
    split <;> omega
/-- the class's beginnings -/
def bgN (S J F B : Nat) : Nat := if J = 0 then S + J else (Nat.gcd (S + J) B + 1 - J - F) * ((S + J) / Nat.gcd (S + J) B)
def bz_chk (R B : Nat) : Bool := (List.range R).any (fun k => k * B % R == Nat.gcd R B % R)
theorem bz_all : (List.range 70).all (fun R => (List.range 100).all (fun B => R == 0 || bz_chk R B)) = true := by decide +kernel
theorem bz {R B : Nat} (h0 : 0 < R) (hR : R < 70) (hB : B < 100) : ∃ k, k * B % R = Nat.gcd R B % R := by
  have h1 := List.all_eq_true.mp bz_all R (List.mem_range.mpr hR)
  have h2 := List.all_eq_true.mp h1 B (List.mem_range.mpr hB)
  rw [Bool.or_eq_true] at h2
  rcases h2 with q | q
  · rw [beq_iff_eq] at q
    omega
  · obtain ⟨k, -, hk⟩ := List.any_eq_true.mp q
    exact ⟨k, by simpa using hk⟩
theorem all_iff {S J F B x : Nat} (hS : 1 ≤ S) (hF : 1 ≤ F) (hJ : 0 < J) (hR : S + J < 70) (hB0 : 0 < B) (hB : B < 100) (hx : x < S + J) :
    (∀ k, k < S + J → plN S (S + J) ((x + k * B) % (S + J)) F = true) ↔ x % Nat.gcd (S + J) B < Nat.gcd (S + J) B + 1 - J - F := by
  have hR0 : 0 < S + J := by omega
  generalize hg : Nat.gcd (S + J) B = g
  have g0 : 0 < g := by rw [← hg]; exact Nat.gcd_pos_of_pos_right _ hB0
  obtain ⟨a, ha⟩ : g ∣ S + J := by rw [← hg]; exact Nat.gcd_dvd_left _ _
  obtain ⟨b, hb⟩ : g ∣ B := by rw [← hg]; exact Nat.gcd_dvd_right _ _
  have a0 : 0 < a := by
    rcases Nat.eq_zero_or_pos a with q | q
    · rw [q, Nat.mul_zero] at ha
      omega
    · exact q
  have xg : x % g < g := Nat.mod_lt _ g0
  constructor
  · intro H
    obtain ⟨k, hk⟩ := bz hR0 hR hB
    rw [hg] at hk
    -- the last inch of x's sort
    have hy : g * (a - 1) + x % g < S + J := by
      rw [ha]
      have : g * a = g * (a - 1) + g := by
        rw [← Nat.mul_succ]
        congr 1
        omega
      omega
    -- it is reached
    obtain ⟨t, ht⟩ : ∃ t, g * (a - 1) + x % g + (S + J) * x = x + g * t := by
      have hxd := Nat.div_add_mod x g
      refine ⟨(a - 1) + a * x - x / g, ?_⟩
      have h9 : x / g ≤ a * x := Nat.le_trans (Nat.div_le_self _ _) (Nat.le_mul_of_pos_left _ a0)
      have h8 : g * ((a - 1) + a * x - x / g) + g * (x / g) = g * (a - 1) + g * (a * x) := by
        rw [← Nat.mul_add, ← Nat.mul_add]
        congr 1
        omega
      rw [ha, Nat.mul_assoc]
      omega
    have hk2 : (x + (t * k % (S + J)) * B) % (S + J) = g * (a - 1) + x % g := by
      have e1 : (x + (t * k % (S + J)) * B) % (S + J) = (x + t * (k * B)) % (S + J) := by
        rw [Nat.add_mod, Nat.mul_mod, Nat.mod_mod, ← Nat.mul_mod, ← Nat.add_mod, Nat.mul_assoc]
      have e2 : (x + t * (k * B)) % (S + J) = (x + g * t) % (S + J) := by
        rw [Nat.add_mod, Nat.mul_mod, hk, ← Nat.mul_mod, ← Nat.add_mod, Nat.mul_comm t g]
      rw [e1, e2, ← ht, Nat.add_mul_mod_self_left, Nat.mod_eq_of_lt hy]
    have h1 := H (t * k % (S + J)) (Nat.mod_lt _ hR0)
    rw [hk2] at h1
    have h2 := (plN_iff hS hF hy).mp h1
    have h3 : g * (a - 1) + g = S + J := by
      rw [ha, ← Nat.mul_succ]
      congr 1
      omega
    have h4 : ¬ S < g * (a - 1) + x % g + F := fun z => h2 ⟨hJ, z⟩
    omega
  · intro H k hk
    have hy : (x + k * B) % (S + J) < S + J := Nat.mod_lt _ hR0
    refine (plN_iff hS hF hy).mpr (fun z => ?_)
    have hm : (x + k * B) % (S + J) % g = x % g := by
      rw [Nat.mod_mod_of_dvd _ ⟨a, ha⟩, hb, Nat.mul_left_comm, Nat.add_mul_mod_self_left]
    generalize (x + k * B) % (S + J) = y at hy z hm
    have hd := Nat.div_add_mod y g
    have hq : y / g < a := by
      apply Nat.div_lt_of_lt_mul
      rw [← ha]
      exact hy
    have h5 : g * (y / g) + g ≤ g * a := by
      rw [← Nat.mul_succ]
      exact Nat.mul_le_mul_left _ hq
    omega
/-- so many of the first n that are below c modulo g -/
def cmN (g c : Nat) : Nat → Nat
  | 0 => 0
  | x + 1 => cmN g c x + (if x % g < c then 1 else 0)
theorem cm_block {g c : Nat} (hc : c ≤ g) (m : Nat) : ∀ n, n ≤ g → cmN g c (g * m + n) = cmN g c (g * m) + min n c
  | 0, _ => by simp
  | n + 1, hn => by
    rw [← Nat.add_assoc, cmN, cm_block hc m n (by omega), Nat.mul_add_mod, Nat.mod_eq_of_lt (show n < g by omega)]
    split <;> omega
theorem cm_mul {g c : Nat} (hc : c ≤ g) : ∀ m, cmN g c (g * m) = c * m
  | 0 => by simp [cmN]
  | m + 1 => by
    rw [Nat.mul_succ, cm_block hc m g (Nat.le_refl g), cm_mul hc m, Nat.mul_succ]
    omega
theorem begin_same {S J F B : Nat} (hS : 1 ≤ S) (hF : 1 ≤ F) (hR : S + J < 70) (hB0 : 0 < B) (hB : B < 100) : boN S (S + J) F B (S + J) = bgN S J F B := by
  rw [bgN]
  by_cases hJ : J = 0
  · rw [if_pos hJ]
    have : ∀ x, x ≤ S + J → boN S (S + J) F B x = x := by
      intro x
      induction x with
      | zero => intro _; rfl
      | succ x ih =>
        intro hx
        rw [boN, ih (by omega)]
        rcases fo_val (S := S) (F := F) (B := B) (show x < S + J by omega) (by omega) with ⟨h1, -⟩ | ⟨-, k, hk, hk2⟩
        · rw [h1, if_pos (by decide)]
        · exact absurd ((plN_iff hS hF (Nat.mod_lt _ (by omega))).mpr (fun z => by omega)) hk2
    exact this _ (Nat.le_refl _)
  · rw [if_neg hJ]
    have g0 : 0 < Nat.gcd (S + J) B := Nat.gcd_pos_of_pos_right _ hB0
    have hd : Nat.gcd (S + J) B * ((S + J) / Nat.gcd (S + J) B) = S + J := Nat.mul_div_cancel' (Nat.gcd_dvd_left _ _)
    have : ∀ x, x ≤ S + J → boN S (S + J) F B x = cmN (Nat.gcd (S + J) B) (Nat.gcd (S + J) B + 1 - J - F) x := by
      intro x
      induction x with
      | zero => intro _; rfl
      | succ x ih =>
        intro hx
        rw [boN, cmN, ih (by omega)]
        have hi := all_iff hS hF (show 0 < J by omega) hR hB0 hB (show x < S + J by omega)
        rcases fo_val (S := S) (F := F) (B := B) (show x < S + J by omega) (by omega) with ⟨h1, h2⟩ | ⟨h1, k, hk, hk2⟩
        · rw [h1, if_pos (by decide), if_pos (hi.mp h2)]
        · rw [if_neg h1, if_neg (fun z => hk2 (hi.mpr z k hk))]
    rw [this _ (Nat.le_refl _)]
    have h9 := cm_mul (g := Nat.gcd (S + J) B) (c := Nat.gcd (S + J) B + 1 - J - F) (by omega) ((S + J) / Nat.gcd (S + J) B)
    rw [hd] at h9
    exact h9
theorem bgN_le {S J F B : Nat} (hS : 1 ≤ S) (hF : 1 ≤ F) (hR : S + J < 70) (hB0 : 0 < B) (hB : B < 100) : bgN S J F B ≤ 69 := by
  rw [← begin_same hS hF hR hB0 hB]
  have := boN_le S (S + J) F B (S + J)
  omega
