

/-! ===== endless slabs, in plain numbers ===== -/
def plN (S R x : Nat) : Nat → Bool
  | 0 => true
  | n + 1 => plN S R x n && decide ((x + n) % R < S)
theorem plN_all (S R x : Nat) : ∀ n, plN S R x n = true ↔ ∀ i, i < n → (x + i) % R < S
  | 0 => by simp [plN]
  | n + 1 => by
    rw [plN, Bool.and_eq_true, plN_all S R x n, decide_eq_true_eq]
    constructor
    · rintro ⟨h1, h2⟩ i hi
      rcases Nat.lt_or_ge i n with q | q
      · exact h1 i q
      · rw [show i = n by omega]; exact h2
    · intro h
      exact ⟨fun i hi => h i (by omega), h n (by omega)⟩
theorem plN_iff {S J F x : Nat} (hS : 1 ≤ S) (hF : 1 ≤ F) (hx : x < S + J) : plN S (S + J) x F = true ↔ ¬ (0 < J ∧ S < x + F) := by
  rw [plN_all]
  constructor
  · rintro h ⟨hJ, hF2⟩
    rcases Nat.lt_or_ge x S with q | q
    · have h1 := h (S - x) (by omega)
      rw [show x + (S - x) = S by omega, Nat.mod_eq_of_lt (by omega)] at h1
      omega
    · have h1 := h 0 (by omega)
      rw [Nat.add_zero, Nat.mod_eq_of_lt hx] at h1
      omega
  · intro h i hi
    rcases Nat.eq_zero_or_pos J with q | q
    · subst q
      exact Nat.mod_lt _ (by omega)
    · have h2 : x + F ≤ S := by
        rcases Nat.lt_or_ge S (x + F) with z | z
        · exact absurd ⟨q, z⟩ h
        · exact z
      rw [Nat.mod_eq_of_lt (by omega)]
      omega
/-- the reference's firstOf: fuel, how many feet, where -/
def foG (S R F B : Nat) : Nat → Nat → Nat → Int32
  | 0, _, _ => -1
  | f + 1, n, h => if plN S R h F = true then foG S R F B f (n + 1) ((h + B) % R) else nI n
/-- the class's first -/
def clG (S J F B : Nat) : Nat → Nat → Nat → Int32
  | 0, _, _ => -1
  | f + 1, n, h => if 0 < J ∧ S < h + F then nI n else clG S J F B f (n + 1) ((h + B) % (S + J))
theorem cl_fo {S J F B : Nat} (hS : 1 ≤ S) (hF : 1 ≤ F) : ∀ (f n h : Nat), h < S + J → clG S J F B f n h = foG S (S + J) F B f n h
  | 0, _, _, _ => rfl
  | f + 1, n, h, hh => by
    rw [clG, foG]
    by_cases q : 0 < J ∧ S < h + F
    · rw [if_pos q, if_neg (fun z => (plN_iff hS hF hh).mp z q)]
    · rw [if_neg q, if_pos ((plN_iff hS hF hh).mpr q)]
      exact cl_fo hS hF f (n + 1) _ (Nat.mod_lt _ (by omega))
theorem it_step (h B R k : Nat) : ((h + B) % R + k * B) % R = (h + (k + 1) * B) % R := by
  rw [Nat.add_mod, Nat.mod_mod, ← Nat.add_mod]
  congr 1
  rw [Nat.succ_mul]
  omega
theorem fo_all {S R F B : Nat} : ∀ (f n h : Nat), h < R → (∀ k, k < f → plN S R ((h + k * B) % R) F = true) → foG S R F B f n h = -1
  | 0, _, _, _, _ => rfl
  | f + 1, n, h, hh, H => by
    rw [foG]
    have h0 := H 0 (by omega)
    rw [Nat.zero_mul, Nat.add_zero, Nat.mod_eq_of_lt hh] at h0
    rw [if_pos h0]
    refine fo_all f (n + 1) _ (Nat.mod_lt _ (by omega)) (fun k hk => ?_)
    rw [it_step]
    exact H (k + 1) (by omega)
theorem fo_some {S R F B : Nat} : ∀ (f n h k : Nat), h < R → k < f → ¬ plN S R ((h + k * B) % R) F = true → ∃ j, j ≤ k ∧ ∀ f', k < f' → foG S R F B f' n h = nI (n + j)
  | 0, _, _, k, _, hk, _ => absurd hk (by omega)
  | f + 1, n, h, k, hh, hk, H => by
    by_cases q : plN S R h F = true
    · rcases k with _ | k
      · rw [Nat.zero_mul, Nat.add_zero, Nat.mod_eq_of_lt hh] at H
        exact absurd q H
      · obtain ⟨j, hj, hf⟩ := fo_some (B := B) f (n + 1) ((h + B) % R) k (Nat.mod_lt _ (by omega)) (by omega) (by rw [it_step]; exact H)
        refine ⟨j + 1, by omega, fun f' hf' => ?_⟩
        rcases f' with _ | f'
        · omega
        · rw [foG, if_pos q, hf f' (by omega)]
          congr 1
          omega
    · refine ⟨0, by omega, fun f' hf' => ?_⟩
      rcases f' with _ | f'
      · omega
      · rw [foG, if_neg q]
        rfl
theorem fo_more {S R F B x : Nat} (hx : x < R) : foG S R F B (R + 1) 0 x = foG S R F B R 0 x := by
  by_cases H : ∀ k, k < R → plN S R ((x + k * B) % R) F = true
  · rw [fo_all R 0 x hx H, fo_all (R + 1) 0 x hx]
    intro k hk
    rcases Nat.lt_or_ge k R with q | q
    · exact H k q
    · rw [show k = R by omega, Nat.add_mul_mod_self_left]
      have h0 := H 0 (by omega)
      rw [Nat.zero_mul, Nat.add_zero] at h0
      exact h0
  · obtain ⟨k, hk⟩ := Classical.not_forall.mp H
    obtain ⟨hk1, hk2⟩ := Classical.not_imp.mp hk
    obtain ⟨j, -, hf⟩ := fo_some R 0 x k hx hk1 hk2
    rw [hf (R + 1) (by omega), hf R hk1]
theorem first_same {S J F B x : Nat} (hS : 1 ≤ S) (hF : 1 ≤ F) (hx : x < S + J) : clG S J F B (S + J) 0 x = foG S (S + J) F B (S + J + 1) 0 x := by
  rw [cl_fo hS hF _ _ _ hx, fo_more hx]
/-- the answer is NONE, or a number up to the round -/
theorem fo_val {S R F B x : Nat} (hx : x < R) (hR : R < 1000) : (foG S R F B (R + 1) 0 x = -1 ∧ ∀ k, k < R → plN S R ((x + k * B) % R) F = true) ∨ (¬ foG S R F B (R + 1) 0 x < 0 ∧ ∃ k, k < R ∧ ¬ plN S R ((x + k * B) % R) F = true) := by
  by_cases H : ∀ k, k < R → plN S R ((x + k * B) % R) F = true
  · exact Or.inl ⟨by rw [fo_more hx, fo_all R 0 x hx H], H⟩
  · obtain ⟨k, hk⟩ := Classical.not_forall.mp H
    obtain ⟨hk1, hk2⟩ := Classical.not_imp.mp hk
    obtain ⟨j, hj, hf⟩ := fo_some R 0 x k hx hk1 hk2
    refine Or.inr ⟨?_, k, hk1, hk2⟩
    rw [hf (R + 1) (by omega), Nat.zero_add]
    exact nI_pos (by omega)
/-- the reference's beginOf -/
def boN (S R F B : Nat) : Nat → Nat
  | 0 => 0
  | x + 1 => boN S R F B x + (if foG S R F B (R + 1) 0 x < 0 then 1 else 0)
theorem boN_le (S R F B : Nat) : ∀ x, boN S R F B x ≤ x
  | 0 => Nat.le_refl 0
  | x + 1 => by
    have h := boN_le S R F B x
    rw [boN]
    split <;> omega
/-- the class's beginnings -/
def bgN (S J F B : Nat) : Nat := if J = 0 then S + J else (Nat.gcd (S + J) B + 1 - J - F) * ((S + J) / Nat.gcd (S + J) B)
def bz_chk (R B : Nat) : Bool := (List.range R).any (fun k => k * B % R == Nat.gcd R B % R)
theorem bz_all : (List.range 70).all (fun R => (List.range 100).all (fun B => R == 0 || bz_chk R B)) = true := by decide +kernel
theorem bz {R B : Nat} (h0 : 0 < R) (hR : R < 70) (hB : B < 100) : ∃ k, k * B % R = Nat.gcd R B % R := by
  have h1 := List.all_eq_true.mp bz_all R (List.mem_range.mpr hR)
  have h2 := List.all_eq_true.mp h1 B (List.mem_range.mpr hB)
  rw [Bool.or_eq_true] at h2
  rcases h2 with q | q
  · rw [beq_iff_eq] at q
    omega
  · obtain ⟨k, -, hk⟩ := List.any_eq_true.mp q
    exact ⟨k, by simpa using hk⟩
theorem all_iff {S J F B x : Nat} (hS : 1 ≤ S) (hF : 1 ≤ F) (hJ : 0 < J) (hR : S + J < 70) (hB0 : 0 < B) (hB : B < 100) (hx : x < S + J) :
    (∀ k, k < S + J → plN S (S + J) ((x + k * B) % (S + J)) F = true) ↔ x % Nat.gcd (S + J) B < Nat.gcd (S + J) B + 1 - J - F := by
  have hR0 : 0 < S + J := by omega
  generalize hg : Nat.gcd (S + J) B = g
  have g0 : 0 < g := by rw [← hg]; exact Nat.gcd_pos_of_pos_right _ hB0
  obtain ⟨a, ha⟩ : g ∣ S + J := by rw [← hg]; exact Nat.gcd_dvd_left _ _
  obtain ⟨b, hb⟩ : g ∣ B := by rw [← hg]; exact Nat.gcd_dvd_right _ _
  have a0 : 0 < a := by
    rcases Nat.eq_zero_or_pos a with q | q
    · rw [q, Nat.mul_zero] at ha
      omega
    · exact q
  have xg : x % g < g := Nat.mod_lt _ g0
  constructor
  · intro H
    obtain ⟨k, hk⟩ := bz hR0 hR hB
    rw [hg] at hk
    -- the last inch of x's sort
    have hy : g * (a - 1) + x % g < S + J := by
      rw [ha]
      have : g * a = g * (a - 1) + g := by
        rw [← Nat.mul_succ]
        congr 1
        omega
      omega
    -- it is reached
    obtain ⟨t, ht⟩ : ∃ t, g * (a - 1) + x % g + (S + J) * x = x + g * t := by
      have hxd := Nat.div_add_mod x g
      refine ⟨(a - 1) + a * x - x / g, ?_⟩
      have h9 : x / g ≤ a * x := Nat.le_trans (Nat.div_le_self _ _) (Nat.le_mul_of_pos_left _ a0)
      have h8 : g * ((a - 1) + a * x - x / g) + g * (x / g) = g * (a - 1) + g * (a * x) := by
        rw [← Nat.mul_add, ← Nat.mul_add]
        congr 1
        omega
      rw [ha, Nat.mul_assoc]
      omega
    have hk2 : (x + (t * k % (S + J)) * B) % (S + J) = g * (a - 1) + x % g := by
      have e1 : (x + (t * k % (S + J)) * B) % (S + J) = (x + t * (k * B)) % (S + J) := by
        rw [Nat.add_mod, Nat.mul_mod, Nat.mod_mod, ← Nat.mul_mod, ← Nat.add_mod, Nat.mul_assoc]
      have e2 : (x + t * (k * B)) % (S + J) = (x + g * t) % (S + J) := by
        rw [Nat.add_mod, Nat.mul_mod, hk, ← Nat.mul_mod, ← Nat.add_mod, Nat.mul_comm t g]
      rw [e1, e2, ← ht, Nat.add_mul_mod_self_left, Nat.mod_eq_of_lt hy]
    have h1 := H (t * k % (S + J)) (Nat.mod_lt _ hR0)
    rw [hk2] at h1
    have h2 := (plN_iff hS hF hy).mp h1
    have h3 : g * (a - 1) + g = S + J := by
      rw [ha, ← Nat.mul_succ]
      congr 1
      omega
    have h4 : ¬ S < g * (a - 1) + x % g + F := fun z => h2 ⟨hJ, z⟩
    omega
  · intro H k hk
    have hy : (x + k * B) % (S + J) < S + J := Nat.mod_lt _ hR0
    refine (plN_iff hS hF hy).mpr (fun z => ?_)
    have hm : (x + k * B) % (S + J) % g = x % g := by
      rw [Nat.mod_mod_of_dvd _ ⟨a, ha⟩, hb, Nat.mul_left_comm, Nat.add_mul_mod_self_left]
    generalize (x + k * B) % (S + J) = y at hy z hm
    have hd := Nat.div_add_mod y g
    have hq : y / g < a := by
      apply Nat.div_lt_of_lt_mul
      rw [← ha]
      exact hy
    have h5 : g * (y / g) + g ≤ g * a := by
      rw [← Nat.mul_succ]
      exact Nat.mul_le_mul_left _ hq
    omega
/-- so many of the first n that are below c modulo g -/
def cmN (g c : Nat) : Nat → Nat
  | 0 => 0
  | x + 1 => cmN g c x + (if x % g < c then 1 else 0)
theorem cm_block {g c : Nat} (hc : c ≤ g) (m : Nat) : ∀ n, n ≤ g → cmN g c (g * m + n) = cmN g c (g * m) + min n c
  | 0, _ => by simp
  | n + 1, hn => by
    rw [← Nat.add_assoc, cmN, cm_block hc m n (by omega), Nat.mul_add_mod, Nat.mod_eq_of_lt (show n < g by omega)]
    split <;> omega
theorem cm_mul {g c : Nat} (hc : c ≤ g) : ∀ m, cmN g c (g * m) = c * m
  | 0 => by simp [cmN]
  | m + 1 => by
    rw [Nat.mul_succ, cm_block hc m g (Nat.le_refl g), cm_mul hc m, Nat.mul_succ]
    omega
theorem begin_same {S J F B : Nat} (hS : 1 ≤ S) (hF : 1 ≤ F) (hR : S + J < 70) (hB0 : 0 < B) (hB : B < 100) : boN S (S + J) F B (S + J) = bgN S J F B := by
  rw [bgN]
  by_cases hJ : J = 0
  · rw [if_pos hJ]
    have : ∀ x, x ≤ S + J → boN S (S + J) F B x = x := by
      intro x
      induction x with
      | zero => intro _; rfl
      | succ x ih =>
        intro hx
        rw [boN, ih (by omega)]
        rcases fo_val (S := S) (F := F) (B := B) (show x < S + J by omega) (by omega) with ⟨h1, -⟩ | ⟨-, k, hk, hk2⟩
        · rw [h1, if_pos (by decide)]
        · exact absurd ((plN_iff hS hF (Nat.mod_lt _ (by omega))).mpr (fun z => by omega)) hk2
    exact this _ (Nat.le_refl _)
  · rw [if_neg hJ]
    have g0 : 0 < Nat.gcd (S + J) B := Nat.gcd_pos_of_pos_right _ hB0
    have hd : Nat.gcd (S + J) B * ((S + J) / Nat.gcd (S + J) B) = S + J := Nat.mul_div_cancel' (Nat.gcd_dvd_left _ _)
    have : ∀ x, x ≤ S + J → boN S (S + J) F B x = cmN (Nat.gcd (S + J) B) (Nat.gcd (S + J) B + 1 - J - F) x := by
      intro x
      induction x with
      | zero => intro _; rfl
      | succ x ih =>
        intro hx
        rw [boN, cmN, ih (by omega)]
        have hi := all_iff hS hF (show 0 < J by omega) hR hB0 hB (show x < S + J by omega)
        rcases fo_val (S := S) (F := F) (B := B) (show x < S + J by omega) (by omega) with ⟨h1, h2⟩ | ⟨h1, k, hk, hk2⟩
        · rw [h1, if_pos (by decide), if_pos (hi.mp h2)]
        · rw [if_neg h1, if_neg (fun z => hk2 (hi.mpr z k hk))]
    rw [this _ (Nat.le_refl _)]
    have h9 := cm_mul (g := Nat.gcd (S + J) B) (c := Nat.gcd (S + J) B + 1 - J - F) (by omega) ((S + J) / Nat.gcd (S + J) B)
    rw [hd] at h9
    exact h9
theorem bgN_le {S J F B : Nat} (hS : 1 ≤ S) (hF : 1 ≤ F) (hR : S + J < 70) (hB0 : 0 < B) (hB : B < 100) : bgN S J F B ≤ 69 := by
  rw [← begin_same hS hF hR hB0 hB]
  have := boN_le S (S + J) F B (S + J)
  omega
section LOOPW
variable {p : Program} {l : Launch} {e : Env} {R : Room} {s : State} {m : MethodId} {args : Array Value} {below : List Frame} {meth : Method} {c : Code} {cells slots : Nat} {Q : State → Prop} {pc : Nat}
/-- a loop whose head is at pc, with an empty stack: P holds there, μ falls -/
theorem loop_W {σ : Type} (P : σ → Heap → List Loc → Array Slot → Prop) (μ : σ → Nat) (step : ∀ (x : σ) (H : Heap) (locs : List Loc) (ls : Array Slot), P x H locs ls → (∀ (y : σ) (H' : Heap) (locs' : List Loc) (ls' : Array Slot), P y H' locs' ls' → μ y < μ x → W p l e R s m args below meth c H' locs' cells slots Q (F0 m pc ls' [])) → W p l e R s m args below meth c H locs cells slots Q (F0 m pc ls [])) : ∀ (x : σ) (H : Heap) (locs : List Loc) (ls : Array Slot), P x H locs ls → W p l e R s m args below meth c H locs cells slots Q (F0 m pc ls []) := by
  have key : ∀ (n : Nat) (x : σ) (H : Heap) (locs : List Loc) (ls : Array Slot), μ x < n → P x H locs ls → W p l e R s m args below meth c H locs cells slots Q (F0 m pc ls []) := by
    intro n
    induction n with
    | zero => intro x H locs ls h; exact absurd h (Nat.not_lt_zero _)
    | succ n ih => intro x H locs ls h hP; exact step x H locs ls hP (fun y H' locs' ls' hy hlt => ih y H' locs' ls' (by omega) hy)
  intro x H locs ls h
  exact key (μ x + 1) x H locs ls (Nat.lt_succ_self _) h
end LOOPW
theorem n_nle {a b : Nat} (ha : a < 2 ^ 31) (hb : b < 2 ^ 31) (h : ¬ nI a ≤ nI b) : b < a := Nat.lt_of_not_le (fun z => h ((nI_leI ha hb).mpr z))
theorem n_nlt {a b : Nat} (ha : a < 2 ^ 31) (hb : b < 2 ^ 31) (h : ¬ nI a < nI b) : b ≤ a := Nat.le_of_not_lt (fun z => h ((nI_ltI ha hb).mpr z))
def b2i (b : Bool) : Int32 := if b = true then 1 else 0
theorem b2i_nar (b : Bool) : narrow .boolean (.int (b2i b)) = .int (b2i b) := by cases b <;> decide
theorem b2i_f {b : Bool} (h : b2i b = 0) : ¬ b = true := by cases b with | false => decide | true => exact absurd h (by decide)
theorem b2i_t {b : Bool} (h : ¬ b2i b = 0) : b = true := by cases b with | true => rfl | false => exact absurd rfl h
theorem pl_0 {S R x i : Nat} (h : b2i (plN S R x i) = 0) : (0 : Int32) = b2i (plN S R x (i + 1)) := by
  have h1 : plN S R x i = false := by have := b2i_f h; cases hq : plN S R x i <;> simp_all
  rw [plN, h1]; rfl
theorem pl_n {S R x i : Nat} (hS : S < 2 ^ 31) (hm : (x + i) % R < 2 ^ 31) (h : nI S ≤ nI ((x + i) % R)) : (0 : Int32) = b2i (plN S R x (i + 1)) := by
  have h1 := (nI_leI hS hm).mp h
  rw [plN, decide_eq_false (by omega), Bool.and_false]; rfl
theorem pl_1 {S R x i : Nat} (hS : S < 2 ^ 31) (hm : (x + i) % R < 2 ^ 31) (h0 : ¬ b2i (plN S R x i) = 0) (h : ¬ nI S ≤ nI ((x + i) % R)) : (1 : Int32) = b2i (plN S R x (i + 1)) := by
  have h1 : (x + i) % R < S := by
    rcases Nat.lt_or_ge ((x + i) % R) S with q | q
    · exact q
    · exact absurd ((nI_leI hS hm).mpr q) h
  rw [plN, b2i_t h0, decide_eq_true h1]; rfl
theorem fo_next {S R F B i h x : Nat} (hle : i ≤ R) (hf : foG S R F B (R + 1) 0 x = foG S R F B (R + 1 - i) i h) (hpl : plN S R h F = true) : foG S R F B (R + 1) 0 x = foG S R F B (R + 1 - (i + 1)) (i + 1) ((h + B) % R) := by
  rw [hf, show R + 1 - i = (R + 1 - (i + 1)) + 1 by omega, foG, if_pos hpl]
theorem fo_out {S R F B i h : Nat} (hle : i ≤ R) (hpl : ¬ plN S R h F = true) : foG S R F B (R + 1 - i) i h = nI i := by
  rw [show R + 1 - i = (R - i) + 1 by omega, foG, if_neg hpl]
theorem cl_next {S J F B i h x : Nat} (hle : i < S + J) (hf : clG S J F B (S + J) 0 x = clG S J F B (S + J - i) i h) (hpl : ¬ (0 < J ∧ S < h + F)) : clG S J F B (S + J) 0 x = clG S J F B (S + J - (i + 1)) (i + 1) ((h + B) % (S + J)) := by
  rw [hf, show S + J - i = (S + J - (i + 1)) + 1 by omega, clG, if_neg hpl]
theorem cl_out {S J F B i h : Nat} (hle : i < S + J) (hpl : 0 < J ∧ S < h + F) : clG S J F B (S + J - i) i h = nI i := by
  rw [show S + J - i = (S + J - (i + 1)) + 1 by omega, clG, if_pos hpl]
theorem bo_0 {S R F B i : Nat} (h : 0 ≤ foG S R F B (R + 1) 0 i) : nI (boN S R F B i) + 0 = nI (boN S R F B (i + 1)) := by
  rw [boN, if_neg (Int32.not_lt.mpr h)]
  exact nI_add _ 0
theorem bo_1 {S R F B i : Nat} (h : ¬ 0 ≤ foG S R F B (R + 1) 0 i) : nI (boN S R F B i) + 1 = nI (boN S R F B (i + 1)) := by
  rw [boN, if_pos (Int32.not_le.mp h)]
  exact nI_1 _
theorem lN_ne0 {b : Nat} (h : 0 < b) (hb : b < 2 ^ 31) : ¬ lN b = 0 := fun q => by
  have := (lN_eq (a := b) (b := 0) hb (by omega)).mp q
  omega
theorem lc_zero {b : Nat} (hb : b < 2 ^ 31) (h : lg_cmp (lN b) 0 = 0) : b = 0 := by
  rcases Nat.eq_zero_or_pos b with q | q
  · exact q
  · have h1 : (0 : Int64) < lN b := (lN_lt (a := 0) (b := b) (by omega) hb).mpr q
    exact absurd h (by simp [lg_cmp, h1])
theorem lc_pos {b : Nat} (hb : b < 2 ^ 31) (h : ¬ lg_cmp (lN b) 0 = 0) : 0 < b := by
  rcases Nat.eq_zero_or_pos b with q | q
  · subst q
    exact absurd (by decide) h
  · exact q
theorem gcd_step {a b g : Nat} (h : Nat.gcd a b = g) : Nat.gcd b (a % b) = g := by
  rw [← h, Nat.gcd_comm a b, Nat.gcd_rec b a, Nat.gcd_comm]
theorem gcd_sum {t a b : Nat} (h : t + b ≤ 99) (hb : 0 < b) : t + 1 + a % b ≤ 99 := by
  have := Nat.mod_lt a hb
  omega
theorem nI_z {n : Nat} (hn : n < 2 ^ 31) (h : nI n = 0) : n = 0 := (nI_eq (a := n) (b := 0) hn (by omega)).mp h
theorem mx_ok {g j f : Nat} (hg : g ≤ 99) (hj : j ≤ 9) (hf : f ≤ 12) : (if (0 : Int32) < nI g - nI j - nI f + 1 then nI g - nI j - nI f + 1 else 0) = nI (g + 1 - j - f) := by
  have e1 : nI g - nI j - nI f + 1 = nI (g + 1) - nI (j + f) := by
    rw [← nI_1, ← nI_add]
    apply Int32.toBitVec_inj.mp
    simp only [Int32.toBitVec_sub, Int32.toBitVec_add]
    generalize (nI g).toBitVec = x
    generalize (nI j).toBitVec = y
    generalize (nI f).toBitVec = z
    rw [BitVec.sub_eq_add_neg, BitVec.sub_eq_add_neg, BitVec.sub_eq_add_neg, BitVec.neg_add, BitVec.sub_eq_add_neg]
    simp only [BitVec.add_assoc, BitVec.add_comm]
    rw [← BitVec.add_assoc, BitVec.add_comm _ x, BitVec.add_assoc]
  rw [e1]
  rcases Nat.lt_or_ge (j + f) (g + 1) with q | q
  · have h9 : (0 : Int32) < nI (g + 1 - (j + f)) := (nI_ltI (a := 0) (b := g + 1 - (j + f)) (by omega) (by omega)).mpr (by omega)
    rw [pk_sub (by omega), if_pos h9]
    congr 1
    omega
  · rcases Nat.eq_or_lt_of_le q with z | z
    · rw [← z, show g + 1 - j - f = 0 by omega, pk_sub (Nat.le_refl _), Nat.sub_self]
      rfl
    · have h9 := pk_sneg (a := g + 1) (b := j + f) (by omega) z
      rw [if_neg (fun w => Int32.lt_irrefl (Int32.lt_trans h9 w)), show g + 1 - j - f = 0 by omega]
      rfl
theorem bg_fin {S J F B : Nat} (hg0 : 0 < Nat.gcd (S + J) B) (hg2 : Nat.gcd (S + J) B ≤ 99) (hj : J ≤ 9 ∧ F ≤ 12) (hr : S + J < 100) (h : ¬ nI J = 0) : (if (0 : Int32) < nI (Nat.gcd (S + J) B) - nI J - nI F + 1 then nI (Nat.gcd (S + J) B) - nI J - nI F + 1 else 0) * (nI (S + J) / nI (Nat.gcd (S + J) B)) = nI (bgN S J F B) := by
  rw [mx_ok hg2 hj.1 hj.2, pk_div (by omega) hg0 (by omega), pk_mul, bgN, if_neg (fun q => h (by rw [q]; rfl))]
def s_endless (a b c : Int32) : Int32 := if a < 1 then 0 else if 60 < a then 0 else if b < 0 then 0 else if 9 < b then 0 else if c < 1 then 0 else if 12 < c then 0 else 1
def s_in (v a b : Int32) : Int32 := if v < a then 0 else if b < v then 0 else 1
theorem s_in_ne {v a b : Int32} (h : ¬ s_in v a b = 0) : ¬ v < a ∧ ¬ b < v := by
  unfold s_in at h
  by_cases h1 : v < a
  · simp [h1] at h
  · by_cases h2 : b < v
    · simp [h1, h2] at h
    · exact ⟨h1, h2⟩
theorem s_endless_in (a b c : Int32) : s_endless a b c = if s_in a 1 60 = 0 then 0 else if s_in b 0 9 = 0 then 0 else if s_in c 1 12 = 0 then 0 else 1 := by
  unfold s_endless s_in
  by_cases h1 : a < 1 <;> by_cases h2 : 60 < a <;> by_cases h3 : b < 0 <;> by_cases h4 : 9 < b <;> by_cases h5 : c < 1 <;> by_cases h6 : 12 < c <;> simp [h1, h2, h3, h4, h5, h6]
theorem in_nat {v : Int32} {a b : Nat} (hb : b < 10000) (hab : a ≤ b) (h1 : ¬ v < nI a) (h2 : ¬ nI b < v) : ∃ n, a ≤ n ∧ n ≤ b ∧ v = nI n := by
  have h0 : ¬ v < 0 := fun q => h1 (Int32.lt_of_lt_of_le q (nI_pos' (by omega)))
  obtain ⟨j, hj, rfl⟩ := nI_of h0
  refine ⟨j, ?_, ?_, rfl⟩
  · rcases Nat.lt_or_ge j a with q | q
    · exact absurd (nI_lt q (by omega)) h1
    · exact q
  · rcases Nat.lt_or_ge b j with q | q
    · exact absurd (nI_lt q hj) h2
    · exact q
theorem endless_nats {a b c : Int32} (h : ¬ s_endless a b c = 0) : ∃ x y z : Nat, (1 ≤ x ∧ x ≤ 60 ∧ y ≤ 9 ∧ 1 ≤ z ∧ z ≤ 12) ∧ a = nI x ∧ b = nI y ∧ c = nI z := by
  rw [s_endless_in] at h
  by_cases h1 : s_in a 1 60 = 0
  · simp [h1] at h
  by_cases h2 : s_in b 0 9 = 0
  · simp [h1, h2] at h
  by_cases h3 : s_in c 1 12 = 0
  · simp [h1, h2, h3] at h
  obtain ⟨x, x1, x2, rfl⟩ := in_nat (a := 1) (b := 60) (by omega) (by omega) (s_in_ne h1).1 (s_in_ne h1).2
  obtain ⟨y, y1, y2, rfl⟩ := in_nat (a := 0) (b := 9) (by omega) (by omega) (s_in_ne h2).1 (s_in_ne h2).2
  obtain ⟨z, z1, z2, rfl⟩ := in_nat (a := 1) (b := 12) (by omega) (by omega) (s_in_ne h3).1 (s_in_ne h3).2
  exact ⟨x, y, z, ⟨x1, x2, y2, z1, z2⟩, rfl, rfl, rfl⟩
theorem first_bad {a b c d x : Int32} (h1 : ¬ s_endless a b c = 0) (h2 : ¬ s_in d 1 99 = 0) (h3 : ¬ s_in x 0 (a + b - 1) = 0) : ¬ s_endless a b c = 0 ∧ ¬ d < 1 ∧ ¬ 99 < d ∧ ¬ x < 0 ∧ x < a + b := by
  refine ⟨h1, (s_in_ne h2).1, (s_in_ne h2).2, (s_in_ne h3).1, ?_⟩
  obtain ⟨n, k, f, hv, rfl, rfl, rfl⟩ := endless_nats h1
  obtain ⟨h4, h5⟩ := s_in_ne h3
  rw [nI_add] at h5 ⊢
  rw [show nI (n + k) - 1 = nI (n + k - 1) from pk_sub (a := n + k) (b := 1) (by omega)] at h5
  obtain ⟨j, -, j2, rfl⟩ := in_nat (a := 0) (b := n + k - 1) (by omega) (by omega) h4 h5
  exact nI_lt (by omega) (by omega)
def suN (a b c d f : Nat) : Nat → Int64
  | 0 => 0
  | i + 1 => if bgN a b f (i + 1) = 0 ∨ bgN c d f (i + 1) = 0 then suN a b c d f i else suN a b c d f i ||| ((1 : Int64) <<< ((nI i).toInt64 &&& 63))
section SU
variable {a b c d f i : Nat}
theorem su_lt1 (ha : 1 ≤ a ∧ a ≤ 60) (hb : b ≤ 9) (hf : (1 ≤ f ∧ f ≤ 12) ∧ i < 60) : bgN a b f (i + 1) < 2 ^ 31 := by
  have := bgN_le (S := a) (J := b) (F := f) (B := i + 1) ha.1 hf.1.1 (by omega) (by omega) (by omega)
  omega
theorem su_1 (ha : 1 ≤ a ∧ a ≤ 60) (hb : b ≤ 9) (hc : 1 ≤ c ∧ c ≤ 60) (hd : d ≤ 9) (hf : (1 ≤ f ∧ f ≤ 12) ∧ i < 60) (h1 : ¬ nI (bgN a b f (i + 1)) = 0) (h2 : ¬ nI (bgN c d f (i + 1)) = 0) : suN a b c d f i ||| ((1 : Int64) <<< ((nI i).toInt64 &&& 63)) = suN a b c d f (i + 1) := by
  rw [suN, if_neg]
  rintro (q | q)
  · exact h1 (by rw [q]; rfl)
  · exact h2 (by rw [q]; rfl)
theorem su_1l (ha : 1 ≤ a ∧ a ≤ 60) (hb : b ≤ 9) (hc : 1 ≤ c ∧ c ≤ 60) (hd : d ≤ 9) (hf : (1 ≤ f ∧ f ≤ 12) ∧ i < 60) (h1 : ¬ nI (bgN a b f (i + 1)) ≤ 0) (h2 : ¬ nI (bgN c d f (i + 1)) ≤ 0) : suN a b c d f i ||| ((1 : Int64) <<< ((nI i).toInt64 &&& 63)) = suN a b c d f (i + 1) :=
  su_1 ha hb hc hd hf (fun q => h1 (by rw [q]; decide)) (fun q => h2 (by rw [q]; decide))
theorem su_0a (ha : 1 ≤ a ∧ a ≤ 60) (hb : b ≤ 9) (hc : 1 ≤ c ∧ c ≤ 60) (hd : d ≤ 9) (hf : (1 ≤ f ∧ f ≤ 12) ∧ i < 60) (h : nI (bgN a b f (i + 1)) = 0) : suN a b c d f (i + 1) = suN a b c d f i := by
  rw [suN, if_pos (Or.inl (nI_z (su_lt1 ha hb hf) h))]
theorem su_0b (ha : 1 ≤ a ∧ a ≤ 60) (hb : b ≤ 9) (hc : 1 ≤ c ∧ c ≤ 60) (hd : d ≤ 9) (hf : (1 ≤ f ∧ f ≤ 12) ∧ i < 60) (h : nI (bgN c d f (i + 1)) = 0) : suN a b c d f (i + 1) = suN a b c d f i := by
  rw [suN, if_pos (Or.inr (nI_z (su_lt1 hc hd hf) h))]
theorem su_0al (ha : 1 ≤ a ∧ a ≤ 60) (hb : b ≤ 9) (hc : 1 ≤ c ∧ c ≤ 60) (hd : d ≤ 9) (hf : (1 ≤ f ∧ f ≤ 12) ∧ i < 60) (h : nI (bgN a b f (i + 1)) ≤ 0) : suN a b c d f (i + 1) = suN a b c d f i := by
  have h9 := (nI_leI (b := 0) (su_lt1 ha hb hf) (by omega)).mp h
  exact su_0a ha hb hc hd hf (by rw [show bgN a b f (i + 1) = 0 by omega]; rfl)
theorem su_0bl (ha : 1 ≤ a ∧ a ≤ 60) (hb : b ≤ 9) (hc : 1 ≤ c ∧ c ≤ 60) (hd : d ≤ 9) (hf : (1 ≤ f ∧ f ≤ 12) ∧ i < 60) (h : nI (bgN c d f (i + 1)) ≤ 0) : suN a b c d f (i + 1) = suN a b c d f i := by
  have h9 := (nI_leI (b := 0) (su_lt1 hc hd hf) (by omega)).mp h
  exact su_0b ha hb hc hd hf (by rw [show bgN c d f (i + 1) = 0 by omega]; rfl)
end SU
