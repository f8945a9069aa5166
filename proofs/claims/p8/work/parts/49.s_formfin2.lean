

theorem PPf_2_b1 (n : Nat) : ∀ (p0 : Int32) (G : GS) (r : Int32) (G1 : GS), (PPf_2 n).1 p0 G r G1 → Bd G1 ∧ Fr [27] [(2, 12), (2, 13), (3, 2), (3, 3), (3, 4), (3, 5), (3, 6), (3, 7), (3, 8), (4, 2)] G G1 ∧ (0 ≤ r.toInt ∧ r.toInt ≤ 1) := by
  intro p0 G r G1 h
  cases n with
  | zero => exact h.elim
  | succ n => exact ⟨h.1, h.2.1, h.2.2.1⟩
theorem PPf_2_b2 (n : Nat) : ∀ (p0 : Int32) (G : GS) (r : Int32) (G1 : GS), (PPf_2 n).2 p0 G r G1 → Bd G1 ∧ Fr [27] [(2, 12), (2, 13), (3, 2), (3, 3), (3, 4), (3, 5), (3, 6), (3, 7), (3, 8), (4, 2)] G G1 ∧ (0 ≤ r.toInt ∧ r.toInt ≤ 1) := by
  intro p0 G r G1 h
  cases n with
  | zero => exact h.elim
  | succ n => exact ⟨h.1, h.2.1, h.2.2.1⟩
theorem k_fGrp_2 (l : Launch) (D : va_G) (k : KT) (A : Nat → Prop) (a : Nat → Nat) (z : SK) (n : Nat) : (∀ (G : GS) (p0 : Int32) (ha_p0 : 0 ≤ p0.toInt ∧ p0.toInt ≤ 7) (hv_4_1 : G.2.2 4 1 = 2) (hd : 8 ≤ p0.toInt + (n : Int)), Met l yX2_passEither (WS yX2_passEither cX2_passEither 3 (some .boolean)) ({ frames := 12 * n + 2, cells := 0, slots := 0, locals := 258 * n + 43 }) (va_Pc [.ref (a 4), .int p0] (cW D k A a z G)) (va_Qi (fun (r : Int32) (G1 : GS) => (PPf_2 n).1 p0 G r G1) (fun (G1 : GS) t => Wd D k A a G1 t.heap) A) 0 0 A) ∧ (∀ (G : GS) (p0 : Int32) (ha_p0 : 0 ≤ p0.toInt ∧ p0.toInt ≤ 7) (hv_4_1 : G.2.2 4 1 = 2) (hd : 8 ≤ p0.toInt + (n : Int)), Met l yX2_passOne (WS yX2_passOne cX2_passOne 2 (some .boolean)) ({ frames := 12 * n, cells := 0, slots := 0, locals := 258 * n }) (va_Pc [.ref (a 4), .int p0] (cW D k A a z G)) (va_Qi (fun (r : Int32) (G1 : GS) => (PPf_2 n).2 p0 G r G1) (fun (G1 : GS) t => Wd D k A a G1 t.heap) A) 0 0 A) := by
  induction n with
  | zero => exact ⟨fun G p0 ha_p0 hv_4_1 hd => by exfalso; omega, fun G p0 ha_p0 hv_4_1 hd => by exfalso; omega⟩
  | succ n ih =>
    obtain ⟨hE, hO⟩ := ih
    refine ⟨fun G p0 ha_p0 hv_4_1 hd => ?_, fun G p0 ha_p0 hv_4_1 hd => ?_⟩
    · have h9 := k_fEither_2_s l D k A a z (12 * n) (258 * n) n (PPf_2 n).1 (PPf_2 n).2 (PPf_2_b1 n) (PPf_2_b2 n) (fun G p0 ha_p0 hv_4_1 hd => by have := hE G p0 ha_p0 hv_4_1 hd; exact this) (fun G p0 ha_p0 hv_4_1 hd => by have := hO G p0 ha_p0 hv_4_1 hd; exact this) G p0 ha_p0 hv_4_1 (by omega)
      rw [show 12 * n + 14 = 12 * (n + 1) + 2 by omega, show 258 * n + 301 = 258 * (n + 1) + 43 by omega] at h9
      exact h9
    · have h9 := k_fOne_2_s l D k A a z (12 * n) (258 * n) n (PPf_2 n).1 (PPf_2 n).2 (PPf_2_b1 n) (PPf_2_b2 n) (fun G p0 ha_p0 hv_4_1 hd => by have := hE G p0 ha_p0 hv_4_1 hd; exact this) (fun G p0 ha_p0 hv_4_1 hd => by have := hO G p0 ha_p0 hv_4_1 hd; exact this) G p0 ha_p0 hv_4_1 (by omega)
      rw [show 12 * n + 12 = 12 * (n + 1) by omega, show 258 * n + 258 = 258 * (n + 1) by omega] at h9
      exact h9
theorem k_fEither_2 (l : Launch) (D : va_G) (k : KT) (A : Nat → Prop) (a : Nat → Nat) (z : SK) (G : GS) (p0 : Int32) (ha_p0 : 0 ≤ p0.toInt ∧ p0.toInt ≤ 7) (hv_4_1 : G.2.2 4 1 = 2) : Met l yX2_passEither (WS yX2_passEither cX2_passEither 3 (some .boolean)) ({ frames := 98, cells := 0, slots := 0, locals := 2107 }) (va_Pc [.ref (a 4), .int p0] (cW D k A a z G)) (va_Qi (fun (r : Int32) (G1 : GS) => P_fEither_2 p0 G r G1) (fun (G1 : GS) t => Wd D k A a G1 t.heap) A) 0 0 A := by
  have h9 := k_fEither_2_s l D k A a z (12 * 7) (258 * 7) 7 (PPf_2 7).1 (PPf_2 7).2 (PPf_2_b1 7) (PPf_2_b2 7) (k_fGrp_2 l D k A a z 7).1 (k_fGrp_2 l D k A a z 7).2 G p0 ha_p0 hv_4_1 (by omega)
  exact h9
