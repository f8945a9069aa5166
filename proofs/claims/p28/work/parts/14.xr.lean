/-! exact relations: what a loop reaches; rows behind stores -/
abbrev XR : Type := Int32 → GS → Int32 → GS → Prop
def Rc {α : Type} (S : α → α → Prop) (a b : α) : Prop := ∀ P : α → Prop, P a → (∀ x y, P x → S x y → P y) → P b
theorem Rc.rf {α : Type} {S : α → α → Prop} {a : α} : Rc S a a := fun _ h _ => h
theorem Rc.st {α : Type} {S : α → α → Prop} {a b c : α} (h : Rc S a b) (hs : S b c) : Rc S a c := fun P h0 h1 => h1 b c (h P h0 h1) hs
theorem rw_put {G G1 : GS} {i j i' : Nat} {v : Int32} (e : G1 = (u2 G.1 i j v, G.2)) (h : i' ≠ i) : G1.1 i' = G.1 i' := by subst e; exact u2_ne h
theorem rw_ast {G G1 : GS} {i j : Nat} {v : Int32} (e : G1 = (u2 G.1 i j v, G.2)) : G1.1 i = upd (G.1 i) j v := by subst e; exact u2_row
theorem rw_row {G G1 : GS} {i : Nat} {r : Nat → Int32} (e : G1 = (uR G.1 i r, G.2)) : G1.1 i = r := by subst e; exact uR_at
theorem rw_rne {G G1 : GS} {i i' : Nat} {r : Nat → Int32} (e : G1 = (uR G.1 i r, G.2)) (h : i' ≠ i) : G1.1 i' = G.1 i' := by subst e; exact uR_ne h
theorem rl_put {G G1 : GS} {i j i' : Nat} {v : Int32} (e : G1 = (u2 G.1 i j v, G.2)) : G1.2.1 i' = G.2.1 i' := by subst e; rfl
theorem rl_row {G G1 : GS} {i i' : Nat} {r : Nat → Int32} (e : G1 = (uR G.1 i r, G.2)) : G1.2.1 i' = G.2.1 i' := by subst e; rfl
theorem rl_ast {G G1 : GS} {i j : Nat} {v : Int64} (e : G1 = (G.1, u2 G.2.1 i j v, G.2.2)) : G1.2.1 i = vp_updL (G.2.1 i) j v := by subst e; exact u2_rowl
theorem rl_ne {G G1 : GS} {i j i' : Nat} {v : Int64} (e : G1 = (G.1, u2 G.2.1 i j v, G.2.2)) (h : i' ≠ i) : G1.2.1 i' = G.2.1 i' := by subst e; exact u2_ne h
theorem gpl_eq {G G1 : GS} {i j : Nat} {v : Int64} (e : G1 = (G.1, u2 G.2.1 i j v, G.2.2)) : G1.2.1 i j = v := by subst e; exact u2_at
theorem gpl_ne {G G1 : GS} {i j i' j' : Nat} {v : Int64} (e : G1 = (G.1, u2 G.2.1 i j v, G.2.2)) (h : ¬ (i' = i ∧ j' = j)) : G1.2.1 i' j' = G.2.1 i' j' := by subst e; exact u2_off h
theorem Fr.row1 {rs : List Nat} {fs : List (Nat × Nat)} {G G1 : GS} (h : Fr rs fs G G1) (i : Nat) (h1 : i ∉ rs) (h2 : ∀ x ∈ fs, x.1 ≠ i) : G1.1 i = G.1 i := funext fun j => h.ri i h1 h2 j
theorem Fr.rowl {rs : List Nat} {fs : List (Nat × Nat)} {G G1 : GS} (h : Fr rs fs G G1) (i : Nat) (h1 : i ∉ rs) (h2 : ∀ x ∈ fs, x.1 ≠ i) : G1.2.1 i = G.2.1 i := funext fun j => (h i j h1 (fun q => h2 _ q rfl)).2.1
