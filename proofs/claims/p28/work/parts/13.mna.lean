theorem arrV_cg {c : ClassId} {N : Nat} {f g : Nat → Value} (h : ∀ j, j < N → f j = g j) : arrV c N f = arrV c N g := by
  unfold arrV
  have : (fun j : Fin N => f j.val) = fun j : Fin N => g j.val := funext fun j => h j.val j.isLt
  rw [this]
theorem outer4 (c : ClassId) (h0 : Nat) : Jvm.Free.Multi.outerC c 4 h0 4 = vp_cell c (4, .inr (.inr (.inr (.inr (fun i => some (h0 + 1 + i)))))) := by
  show (((((({ cls := c, slots := Array.replicate 4 .null, vm := .none } : Cell).setSlot 0 (.ref (h0 + 1 + 0))).setSlot 1 (.ref (h0 + 1 + 1))).setSlot 2 (.ref (h0 + 1 + 2))).setSlot 3 (.ref (h0 + 1 + 3)))) = _
  rw [arrV_new, arrV_store, arrV_store, arrV_store, arrV_store, vp_cell_q]
  refine arrV_cg (fun j hj => ?_)
  rcases (show j = 0 ∨ j = 1 ∨ j = 2 ∨ j = 3 by omega) with q | q | q | q <;> subst q <;> rfl
theorem news_at {q : Nat} {e0 e1 e2 e3 e4 : va_E} : ∀ (k : Nat) (x : Nat × va_E), ([(q, e0), (q + 1, e1), (q + 2, e2), (q + 3, e3), (q + 4, e4)] : va_W)[k]? = some x → x.1 = q + k
  | 0, x, h => by cases h; rfl
  | 1, x, h => by cases h; rfl
  | 2, x, h => by cases h; rfl
  | 3, x, h => by cases h; rfl
  | 4, x, h => by cases h; rfl
  | k + 5, x, h => by simp at h
section MNA
variable {p : Program} {l : Launch} {e : Env} {R : Room} {s : State} {m : MethodId} {args : Array Value} {below : List Frame} {meth : Method} {c : Code} {H : Heap} {locs : List Loc} {cells slots : Nat} {Q : State → Prop}
variable {cc : ByteArray} {pc : Nat} {ls : Array Slot} {rest : List Value} {D : va_G} {cl : List vw_C} {A : Nat → Prop} {ws : va_W} {H0 : Heap}
/-- new int[4][402]: the row of rows, and they -/
theorem va_mnaR (hexec : p.tables.exec = Jvm.exec) (hb : c.code = cc) {own : String} {index : Nat} (hown : s.vm.findClass own = some m.cls) (hclink : (Cond.classLink own index ("[" ++ (FieldType.array .int).toString)).before args s = true) (hover : va_AOA .int s) (harr : (Cond.arrayClass .int).before args s = true) {c5 cy : ClassId} (h5 : s.vm.findClass ("[" ++ (FieldType.array .int).toString) = some c5) (hcy : s.vm.findClass (FieldType.array .int).toString = some cy)
    (hP : va_P D cl ws H) (hD : va_D A ws) (hS : va_S A H0 H locs) (hA : ∀ q : Nat, H0.size ≤ q → A q) (hcells : cells + (1 + 4) ≤ R.cells) (hslots : slots + (4 + 4 * 402) ≤ R.slots) (hdg : decode cc pc = .ok (.multianewarray index 2, 4))
    (kk : ∀ (q : Nat) (H1 : Heap), va_P D cl (ws ++ [(q, .inl (c5, 4, .inr (.inr (.inr (.inr (fun i => some (q + 1 + i))))))), (q + 1, .inl (cy, 402, .inl (fun _ => 0))), (q + 2, .inl (cy, 402, .inl (fun _ => 0))), (q + 3, .inl (cy, 402, .inl (fun _ => 0))), (q + 4, .inl (cy, 402, .inl (fun _ => 0)))]) H1 → va_D A (ws ++ [(q, .inl (c5, 4, .inr (.inr (.inr (.inr (fun i => some (q + 1 + i))))))), (q + 1, .inl (cy, 402, .inl (fun _ => 0))), (q + 2, .inl (cy, 402, .inl (fun _ => 0))), (q + 3, .inl (cy, 402, .inl (fun _ => 0))), (q + 4, .inl (cy, 402, .inl (fun _ => 0)))]) → va_S A H0 H1 locs → W p l e R s m args below meth c H1 locs (cells + 1 + 4) (slots + 4 + 4 * 402) Q (F0 m (pc + 4) ls (.ref q :: rest))) : W p l e R s m args below meth c H locs cells slots Q (F0 m pc ls (.int 402 :: .int 4 :: rest)) := by
  intro T hT Xs
  obtain ⟨vm₁, cA, comp, -, fA, fC, hO, -, X', step⟩ := Jvm.Stand.multianewarray2F Xs hexec hown hclink (show (Cond.arrayOver (.array .int)).before args s = true from hover) harr (g := F0 m pc ls (.int 402 :: .int 4 :: rest)) rfl (by rw [hb]; exact hdg) rfl (n := 4) (k := 402) (by decide) (by decide) (by decide) (by decide) (by decide) rfl rfl hcells hslots
  have ec : some cy = some comp := hcy.symm.trans fC
  cases ec
  have ea : some c5 = some cA := h5.symm.trans fA
  cases ea
  have hn4 : (4 : Int32).toNatClampNeg = 4 := rfl
  have hk4 : (402 : Int32).toNatClampNeg = 402 := rfl
  rw [hn4, hk4] at X' step
  generalize hF : Jvm.Free.Multi.fill (T.setVm vm₁) c5 cy 4 402 (defaultValue .int) 4 = F at X' step
  have hTh : (T.setVm vm₁).heap = H := hT
  obtain ⟨f1, f2, -, -⟩ := Jvm.Free.Multi.fill_facts (T.setVm vm₁) c5 cy 4 402 (defaultValue .int) 4
  rw [hF, hTh] at f1 f2
  have hold : ∀ x : Nat, x < H.size → F.heap[x]? = H[x]? := fun x hx => by
    have := Jvm.Free.Multi.fill_old (T.setVm vm₁) c5 cy 4 402 (defaultValue .int) (a := x) (by rw [hTh]; exact hx) 4
    rw [hF, hTh] at this
    exact this
  have hrow : ∀ j : Nat, j < 4 → F.heap[H.size + 1 + j]? = some (vp_cell cy (402, .inl (fun _ => 0))) := fun j hj => by
    have := Jvm.Free.Multi.fill_inner (T.setVm vm₁) c5 cy 4 402 (defaultValue .int) 4 j hj
    rw [hF, hTh] at this
    rw [this]
    exact congrArg some (arrV_new cy 402 (.int 0))
  rw [outer4] at f2
  have hP0 : va_P D cl ws F.heap := hP.kept (fun k9 x hx => hold x.1 ((hP k9 x hx).lt))
  have hPn : va_P D cl ([(H.size, .inl (c5, 4, .inr (.inr (.inr (.inr (fun i => some (H.size + 1 + i))))))), (H.size + 1, .inl (cy, 402, .inl (fun _ => 0))), (H.size + 2, .inl (cy, 402, .inl (fun _ => 0))), (H.size + 3, .inl (cy, 402, .inl (fun _ => 0))), (H.size + 4, .inl (cy, 402, .inl (fun _ => 0)))]) F.heap := fun k9 x hx => by
    match k9, hx with
    | 0, hx => cases hx; exact f2
    | 1, hx => cases hx; exact hrow 0 (by decide)
    | 2, hx => cases hx; exact hrow 1 (by decide)
    | 3, hx => cases hx; exact hrow 2 (by decide)
    | 4, hx => cases hx; exact hrow 3 (by decide)
    | k9 + 5, hx => simp at hx
  have hDn : va_D A ([(H.size, .inl (c5, 4, .inr (.inr (.inr (.inr (fun i => some (H.size + 1 + i))))))), (H.size + 1, .inl (cy, 402, .inl (fun _ => 0))), (H.size + 2, .inl (cy, 402, .inl (fun _ => 0))), (H.size + 3, .inl (cy, 402, .inl (fun _ => 0))), (H.size + 4, .inl (cy, 402, .inl (fun _ => 0)))]) := ⟨fun i j x y hi hj hxy => by
    have a1 := news_at i x hi
    have a2 := news_at j y hj
    omega, fun k9 x hx => by
    have a1 := news_at k9 x hx
    exact hA _ (by have := hS.1; omega)⟩
  have hDa := hD.app hDn (fun i j x y hi hj hxy => by
    have a1 := (hP i x hi).lt
    have a2 := news_at j y hj
    omega)
  obtain ⟨t, a1, b1⟩ := kk H.size F.heap (hP0.app hPn) hDa ⟨by rw [f1]; exact Nat.le_trans hS.1 (by omega), fun x h1 h2 => (hold x (Nat.lt_of_lt_of_le h1 hS.1)).trans (hS.2.1 x h1 h2), hS.2.2⟩ F rfl X'
  refine ⟨t, step t ?_, b1⟩
  have e9 : T.heap.size = H.size := by rw [hT]
  rw [e9]
  exact a1
end MNA
