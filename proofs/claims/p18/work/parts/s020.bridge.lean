

theorem Wd_sub {D : va_G} {k : KT} {A : Nat → Prop} {a : Nat → Nat} {G : GS} {H : Heap} (hW : Wd D k A a G H) {i ci : Nat} {sp : List Nat} (hi : Ks[i]? = some (.inl (ci, sp))) : va_P D classes [(a i, .inr (ci, fL a G i sp 0))] H ∧ va_D A [(a i, .inr (ci, fL a G i sp 0))] := by
  refine ⟨fun n q h => ?_, fun n m x y hn hm _ => ?_, fun n q h => ?_⟩
  · match n, h with
    | 0, h => cases h; exact hW.1 i _ (Ws_obj hi)
    | n + 1, h => simp at h
  · match n, m, hn, hm with
    | 0, 0, _, _ => rfl
    | 0, m + 1, _, hm => simp at hm
    | n + 1, m, hn, _ => simp at hn
  · match n, h with
    | 0, h => cases h; exact hW.2.2 i _ (Ws_obj hi)
    | n + 1, h => simp at h
theorem Wd_back {D : va_G} {k : KT} {A : Nat → Prop} {a : Nat → Nat} {G : GS} {H H1 : Heap} (hW : Wd D k A a G H) {i ci : Nat} {sp : List Nat} (hi : Ks[i]? = some (.inl (ci, sp))) (hP1 : va_P D classes [(a i, .inr (ci, fL a G i sp 0))] H1) (hk1 : ∀ q : Nat, q < H.size → ¬ va_A [(a i, .inr (ci, fL a G i sp 0))] H.size q → H1[q]? = H[q]?) : Wd D k A a G H1 := by
  refine ⟨fun n x hx => ?_, hW.2⟩
  by_cases hc : x.1 = a i
  · have e : n = i := hW.2.1 n i x _ hx (Ws_obj hi) hc
    subst e
    rw [Ws_obj hi] at hx
    cases hx
    exact hP1 0 _ rfl
  · have hlt := (hW.1 n x hx).lt
    refine (hW.1 n x hx).kept (hk1 x.1 hlt (fun q => ?_))
    rcases q with ⟨m, e9, hm⟩ | q
    · match m, hm with
      | 0, hm => exact hc (congrArg Prod.fst (Option.some.inj hm)).symm
      | m + 1, hm => simp at hm
    · omega
theorem Wd_free {D : va_G} {k : KT} {A : Nat → Prop} {a : Nat → Nat} {G : GS} {H H0 : Heap} {locs : List Loc} (hW : Wd D k A a G H) {i ci : Nat} {sp : List Nat} (hi : Ks[i]? = some (.inl (ci, sp))) (hS : va_S A H0 H locs) (hA : ∀ q : Nat, H0.size ≤ q → A q) : ∀ q : Nat, va_A [(a i, .inr (ci, fL a G i sp 0))] H.size q → A q := fun q h => by
  rcases h with ⟨m, e9, hm⟩ | h
  · match m, hm with
    | 0, hm => cases hm; exact hW.2.2 i _ (Ws_obj hi)
    | m + 1, hm => simp at hm
  · exact hA q (Nat.le_trans hS.1 h)
section BR
variable {p : Program} {l : Launch} {e : Env} {R : Room} {s : State} {m : MethodId} {args : Array Value} {below : List Frame} {meth : Method} {c : Code} {H : Heap} {locs : List Loc} {cells slots : Nat} {Q : State → Prop}
variable {pc : Nat} {ls : Array Slot} {rest st0 : List Value} {D : va_G} {k : KT} {A : Nat → Prop} {a : Nat → Nat} {G : GS} {av : Array Value} {H0 : Heap}
/-- a call whose contract speaks of the receiver's cell alone -/
theorem B_calli {i ci : Nat} {sp : List Nat} (hi : Ks[i]? = some (.inl (ci, sp))) (hW : Wd D k A a G H) {post : Int32 → Prop} (hr : va_Run p l e R s m args below meth c H locs cells slots 0 0 (F0 m pc ls st0) rest (va_Qi (fun (r : Int32) (_ : Unit) => post r) (fun (_ : Unit) t => cB D (va_A [(a i, .inr (ci, fL a G i sp 0))] H.size) [(a i, .inr (ci, fL a G i sp 0))] t) (va_A [(a i, .inr (ci, fL a G i sp 0))] H.size) av) (va_A [(a i, .inr (ci, fL a G i sp 0))] H.size)) (hS : va_S A H0 H locs) (hA : ∀ q : Nat, H0.size ≤ q → A q)
    (kk : ∀ (r : Int32) (H1 : Heap) (locs1 : List Loc), post r → Wd D k A a G H1 → va_S A H0 H1 locs1 → W p l e R s m args below meth c H1 locs1 cells slots Q (F0 m (pc + 3) ls (.int r :: rest))) : W p l e R s m args below meth c H locs cells slots Q (F0 m pc ls st0) :=
  va_calli hr hS (fun q _ h => Wd_free hW hi hS hA q h) (Wd_free hW hi hS hA) (fun r u t H1 locs1 ht _ hp hB _ hk hS1 => kk r H1 locs1 hp (Wd_back hW hi (by rw [← ht]; exact hB.1) hk) hS1)
theorem B_calll {i ci : Nat} {sp : List Nat} (hi : Ks[i]? = some (.inl (ci, sp))) (hW : Wd D k A a G H) {post : Int64 → Prop} (hr : va_Run p l e R s m args below meth c H locs cells slots 0 0 (F0 m pc ls st0) rest (va_Ql (fun (r : Int64) (_ : Unit) => post r) (fun (_ : Unit) t => cB D (va_A [(a i, .inr (ci, fL a G i sp 0))] H.size) [(a i, .inr (ci, fL a G i sp 0))] t) (va_A [(a i, .inr (ci, fL a G i sp 0))] H.size) av) (va_A [(a i, .inr (ci, fL a G i sp 0))] H.size)) (hS : va_S A H0 H locs) (hA : ∀ q : Nat, H0.size ≤ q → A q)
    (kk : ∀ (r : Int64) (H1 : Heap) (locs1 : List Loc), post r → Wd D k A a G H1 → va_S A H0 H1 locs1 → W p l e R s m args below meth c H1 locs1 cells slots Q (F0 m (pc + 3) ls (.long r :: rest))) : W p l e R s m args below meth c H locs cells slots Q (F0 m pc ls st0) :=
  va_calll hr hS (fun q _ h => Wd_free hW hi hS hA q h) (Wd_free hW hi hS hA) (fun r u t H1 locs1 ht _ hp hB _ hk hS1 => kk r H1 locs1 hp (Wd_back hW hi (by rw [← ht]; exact hB.1) hk) hS1)
end BR
theorem lc_same {z : Int32} {x y : Int64} (e : z = lg_cmp x y) (h : x = y) : z.toInt = 0 := by
  subst h
  subst e
  unfold lg_cmp
  rw [if_neg (by intro q; exact absurd (Int64.lt_iff_toInt_lt.mp q) (by omega)), if_pos rfl]
  rfl
