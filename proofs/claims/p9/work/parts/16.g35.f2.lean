/-! LINES on both sides -/
/-- the reference: is an INCH a LINE -/
theorem q_isLine_eq {V : PV} {x : IC} {p0 p1 p2 r : Int32} {G G1 : GS} {s i t : Nat} (h : Q_isLine p0 p1 p2 G r G1) (hs : p0.toInt = (s : Int)) (hi : p2.toInt = (i : Int)) (ht : p1.toInt = (t : Int)) (ht64 : t < 64) (hx : IcR x (400 * s + i) G) (hxo : ICok x) (hl : (G.1 66 54).toInt = (V.2.2.1.length : Int)) (hV : PVok V) (hC : ∀ k, k < V.2.2.1.length → RCd k (V.2.2.1.getD k ([], [])).2 G) : Fr [76] [] G G1 ∧ (r.toInt ≠ 0 ↔ LNs V (G.1 110 6) x t) := by
  obtain ⟨-, hF, -, y1, t1, y2, t2, hh⟩ := h
  refine ⟨hF, ?_⟩
  have z0 : (0 : Int32).toInt = 0 := rfl
  have o1 : (1 : Int32).toInt = 1 := rfl
  have hy : y2.toInt = ((400 * s + i : Nat) : Int) := by clear hh; omega
  unfold LNs
  rcases hh with ⟨c, y35, e35, hh⟩ | ⟨c, x8, x9, G4, hl1, -, b9, -, -, hh⟩
  · have t0 : t = 0 := by clear hh; omega
    rw [cn_eq hy] at e35 hh
    have e35' : y35.toInt = x.1 := by rw [e35]; exact hx.1
    have hne : ∀ {b : Prop}, (b ↔ fbd x) → (b ↔ ((t = 0 ∧ fbd x) ∨ (t ≠ 0 ∧ ∃ k, k < V.2.2.1.length ∧ t.testBit k = true ∧ (vlu V (G.1 110 6) x k).toInt ≠ 0))) := fun hb => hb.trans ⟨fun q => Or.inl ⟨t0, q⟩, fun q => q.elim (fun w => w.2) (fun w => absurd t0 w.1)⟩
    rcases hh with ⟨d, rfl, -⟩ | ⟨d, y37, e37, y38, e38, hh⟩
    · exact hne ⟨fun _ => Or.inl (by omega), fun _ => by omega⟩
    · have e37' : y37.toInt = x.1 := by rw [e37]; exact hx.1
      obtain ⟨h1, h2, -⟩ := hxo
      have e3 : y37 = Int32.ofNat x.1.toNat := by rw [nat_i (x := y37) (by omega), e37']
      have e6 : (6 : Int32) = Int32.ofNat 6 := rfl
      have e4 : y38.toInt = ((x.1.toNat &&& 6 : Nat) : Int) := by
        rw [e38, e3, e6]
        exact n_and (by omega) (by decide)
      have key : ∀ v : Nat, v < 16 → ((v &&& 6) ≠ 0 ↔ (v / 2 % 2 = 1 ∨ v / 4 % 2 = 1)) := by decide +kernel
      have hk := key x.1.toNat (by omega)
      have hb : y38.toInt ≠ 0 ↔ fbd x := by
        unfold fbd
        constructor
        · intro q
          have := hk.mp (by omega)
          clear hk
          omega
        · intro q
          have := hk.mpr (by clear hk; omega)
          omega
      rcases hh with ⟨f, rfl, -⟩ | ⟨f, rfl, -⟩
      · exact hne ⟨fun q => absurd z0 q, fun q => absurd f (hb.mpr q)⟩
      · exact hne ⟨fun _ => hb.mp f, fun _ => by omega⟩
  · have t0 : t ≠ 0 := by clear hh; omega
    have hI := hl1 (fun q => (q.2.2.1 72 = G.1 72 ∧ q.2.2.1 73 = G.1 73 ∧ q.2.2.1 74 = G.1 74 ∧ q.2.2.1 87 = G.1 87 ∧ q.2.2.1 88 = G.1 88 ∧ q.2.2.1 89 = G.1 89 ∧ q.2.2.1 90 = G.1 90 ∧ q.2.2.1 110 = G.1 110) ∧ ∃ n : Nat, q.1.toInt = (n : Int) ∧ (q.2.1.toInt = 0 ∨ q.2.1.toInt = 1) ∧ (q.2.1.toInt ≠ 0 ↔ ∃ k, k < n ∧ k < V.2.2.1.length ∧ t.testBit k = true ∧ (vlu V (G.1 110 6) x k).toInt ≠ 0)) ⟨⟨rfl, rfl, rfl, rfl, rfl, rfl, rfl, rfl⟩, 0, rfl, Or.inl rfl, ⟨fun q => absurd z0 q, fun ⟨k, hk, _⟩ => absurd hk (Nat.not_lt_zero k)⟩⟩ (by
      rintro ⟨x1, b1, G_1⟩ ⟨xn, bn, G_1n⟩ ⟨⟨a1, a2, a3, a4, a5, a6, a7, a8⟩, n, i3, i4, i5⟩ ⟨x1q, b1q, G_1q, xnq, bnq, G_1nq, q1, q2, -, -, -, c1, c2, y18, e18, y19, e19, hd⟩
      obtain ⟨rfl, q1x⟩ := Prod.mk.inj q1
      obtain ⟨rfl, rfl⟩ := Prod.mk.inj q1x
      obtain ⟨rfl, q2x⟩ := Prod.mk.inj q2
      obtain ⟨rfl, rfl⟩ := Prod.mk.inj q2x
      simp only at a1 a2 a3 a4 a5 a6 a7 a8 i3 i4 i5
      have hno : ¬ ∃ k, k < n ∧ k < V.2.2.1.length ∧ t.testBit k = true ∧ (vlu V (G.1 110 6) x k).toInt ≠ 0 := fun q => (i5.mpr q) c2
      clear i5
      have hn : n < V.2.2.1.length := by clear hd; omega
      have hn6 : n < 6 := by have := hV.1; omega
      have hbit : y19.toInt = 1 ↔ t.testBit n = true := by
        have ex1 : x1 = Int32.ofNat n := by
          rw [nat_i (x := x1) (by omega), i3]
          rfl
        have hsh : (p1 >>> (x1 &&& 31)).toBitVec = p1.toBitVec.sshiftRight n := by
          have h5 : n = 0 ∨ n = 1 ∨ n = 2 ∨ n = 3 ∨ n = 4 ∨ n = 5 := by omega
          rcases h5 with rfl | rfl | rfl | rfl | rfl | rfl <;> rw [ex1] <;> rfl
        have s1 := shr_i hsh (c := 2 ^ n) rfl ht (by omega)
        have s2 := and_i (m := 1) (k := 1) (c := 2) rfl rfl s1 (Int.ediv_nonneg (by omega) (Int.ofNat_zero_le _))
        rw [e19, e18, s2, Nat.testBit_eq_decide_div_mod_eq, decide_eq_true_iff]
        have e5 : (t : Int) / ((2 ^ n : Nat) : Int) % ((2 : Nat) : Int) = ((t / 2 ^ n % 2 : Nat) : Int) := by
          rw [Int.natCast_emod, Int.natCast_ediv]
        rw [e5]
        omega
      have fin : ∀ {Gz : GS} {y w : Int32}, y.toInt = x1.toInt + 1 → Fr [76] [] G_1 Gz → (w.toInt = 0 ∨ w.toInt = 1) → (w.toInt ≠ 0 ↔ (t.testBit n = true ∧ (vlu V (G.1 110 6) x n).toInt ≠ 0)) → (Gz.1 72 = G.1 72 ∧ Gz.1 73 = G.1 73 ∧ Gz.1 74 = G.1 74 ∧ Gz.1 87 = G.1 87 ∧ Gz.1 88 = G.1 88 ∧ Gz.1 89 = G.1 89 ∧ Gz.1 90 = G.1 90 ∧ Gz.1 110 = G.1 110) ∧ ∃ n : Nat, y.toInt = (n : Int) ∧ (w.toInt = 0 ∨ w.toInt = 1) ∧ (w.toInt ≠ 0 ↔ ∃ k, k < n ∧ k < V.2.2.1.length ∧ t.testBit k = true ∧ (vlu V (G.1 110 6) x k).toInt ≠ 0) := by
        intro Gz y w ty hF2 hw01 hw
        refine ⟨⟨(hF2.row1 72 (by decide) (by decide)).trans a1, (hF2.row1 73 (by decide) (by decide)).trans a2, (hF2.row1 74 (by decide) (by decide)).trans a3, (hF2.row1 87 (by decide) (by decide)).trans a4, (hF2.row1 88 (by decide) (by decide)).trans a5, (hF2.row1 89 (by decide) (by decide)).trans a6, (hF2.row1 90 (by decide) (by decide)).trans a7, (hF2.row1 110 (by decide) (by decide)).trans a8⟩, n + 1, by clear hd hw hno hbit; omega, hw01, hw.trans ⟨fun q => ⟨n, by omega, hn, q.1, q.2⟩, fun ⟨k, k1, k2, k3, k4⟩ => ?_⟩⟩
        have : k = n := Classical.byContradiction (fun w => hno ⟨k, by omega, k2, k3, k4⟩)
        subst this
        exact ⟨k3, k4⟩
      rcases hd with ⟨d, r25, G26, hwk, hd⟩ | ⟨d, y21, t21, ex, eb, eG⟩
      · have hxr : IcR x (400 * s + i) G_1 := by
          unfold IcR
          rw [a4, a5, a6, a7]
          exact hx
        have hCr : RCd n (V.2.2.1.getD n ([], [])).2 G_1 := by
          have := hC n hn
          unfold RCd at this ⊢
          rw [a1, a2, a3]
          exact this
        have hv := q_worked_eq hwk i3 hy hCr hxr (hV.2.2 n hn)
        rw [a8] at hv
        have hv' : r25 = vlu V (G.1 110 6) x n := hv
        rcases hd with ⟨f, y31, t31, ex, eb, eG⟩ | ⟨f, y31, t31, ex, eb, eG⟩
        · subst eG
          refine fin (by rw [← ex]; exact t31) hwk.2.1 (by rw [← eb]; exact Or.inl rfl) ⟨fun q => absurd (by rw [← eb]; rfl) q, fun q => absurd f (by rw [hv']; exact q.2)⟩
        · subst eG
          refine fin (by rw [← ex]; exact t31) hwk.2.1 (by rw [← eb]; exact Or.inr rfl) ⟨fun _ => ⟨hbit.mp d, by rw [← hv']; exact f⟩, fun _ => by rw [← eb]; show (1 : Int32).toInt ≠ 0; decide⟩
      · subst eG
        refine fin (by rw [← ex]; exact t21) (fun _ _ _ _ => ⟨rfl, rfl, rfl⟩) (by rw [← eb]; exact Or.inl rfl) ⟨fun q => absurd (by rw [← eb]; rfl) q, fun q => absurd (hbit.mpr q.1) d⟩)
    obtain ⟨-, n, i3, i4, i5⟩ := hI
    simp only at i3 i4 i5
    have fin2 : (∃ k, k < n ∧ k < V.2.2.1.length ∧ t.testBit k = true ∧ (vlu V (G.1 110 6) x k).toInt ≠ 0) ∨ V.2.2.1.length ≤ n → ((x9.toInt ≠ 0) ↔ ((t = 0 ∧ fbd x) ∨ (t ≠ 0 ∧ ∃ k, k < V.2.2.1.length ∧ t.testBit k = true ∧ (vlu V (G.1 110 6) x k).toInt ≠ 0))) := by
      intro hcase
      refine i5.trans ⟨fun ⟨k, _, k2, k3, k4⟩ => Or.inr ⟨t0, k, k2, k3, k4⟩, fun q => ?_⟩
      rcases q with q | ⟨-, k, k2, k3, k4⟩
      · exact absurd q.1 t0
      · rcases hcase with w | w
        · exact w
        · exact ⟨k, by omega, k2, k3, k4⟩
    rcases hh with ⟨d, rfl, -⟩ | ⟨d, f, rfl, -⟩
    · exact fin2 (Or.inr (by clear i5 fin2; omega))
    · exact fin2 (Or.inl (i5.mp f))
/-- what the program has found holds: by STREET, of the day it was found on -/
def FoC_1 (V : PV) (s : Nat) (day : Int32) (G : GS) : Prop := ∀ i, i < (V.1.getD s ([], [])).2.length → ∃ m, G.1 37 (400 * s + i) = Int32.ofNat m ∧ FB V day ((V.1.getD s ([], [])).2.getD i (0, 0, 0, 0)) V.2.2.1.length m
def CaC_1 (V : PV) (G : GS) : Prop := ∀ s, s < V.1.length → (G.1 38 s).toInt = -1 ∨ FoC_1 V s (G.1 38 s) G
theorem k_find_1 {V : PV} {p0 day : Int32} {G G1 : GS} {s : Nat} (h : P_lFind_1 p0 day G G1) (hs : p0.toInt = (s : Int)) (hsl : s < V.1.length) (hs3 : V.1.length ≤ 3) (hW : CW_1 V G) (hV : PVok V) (hd0 : 0 ≤ day.toInt) (hCa : CaC_1 V G) : FoC_1 V s day G1 ∧ CaC_1 V G1 := by
  have hFall := h.2.1
  obtain ⟨-, -, r1, G2, hst, hh⟩ := h
  obtain ⟨rfl, k1⟩ := k_hasStreet_1_eq hst
  rw [hW.1.1] at k1
  have hr1 : r1.toInt ≠ 0 := k1.mpr ⟨by omega, by omega⟩
  clear k1
  obtain ⟨⟨hlen, hin⟩, hl4⟩ := hW.1.2 s hsl
  rcases hh with ⟨c, -⟩ | ⟨-, y8, e8, hh⟩
  · exact absurd c hr1
  rw [cn_eq hs] at e8
  rcases hh with ⟨c, rfl⟩ | ⟨c, x14, G10, hl, -, -, hF10, y19, e19, c19, hFe, e38⟩
  · refine ⟨?_, hCa⟩
    have ed : G.1 38 s = day := by rw [← e8]; exact Int32.toInt_inj.mp c
    rcases hCa s hsl with q | q
    · rw [ed] at q
      omega
    · rw [ed] at q
      exact q
  obtain ⟨I, hI⟩ : ∃ I, I = (V.1.getD s ([], [])).2 := ⟨_, rfl⟩
  rw [← hI] at hlen hin hl4
  have inner : ∀ {i : Nat} {x1 r22 : Int32} {Gq G23 : GS} {w33 x43 x44 : Int32} {G34 G39 : GS}, x1.toInt = (i : Int) → i < I.length → Gq.1 17 = G.1 17 → Gq.1 18 = G.1 18 → Gq.1 1 9 = G.1 1 9 → Gq.1 1 13 = G.1 1 13 → Gq.1 10 = G.1 10 → Gq.1 11 = G.1 11 → P_inchAt_1 p0 x1 Gq r22 G23 → Jn_k_lFind_1_2 (r22 &&& 13) G23 w33 G34 → Rc (St_k_lFind_1_3 day r22 G) (0, w33, G34) (x43, x44, G39) → (G.1 1 11).toInt ≤ x43.toInt → Gq = G34 ∧ ∃ m, x44 = Int32.ofNat m ∧ FB V day (I.getD i (0, 0, 0, 0)) V.2.2.1.length m := by
    intro i x1 r22 Gq G23 w33 x43 x44 G34 G39 hx1 hil z7 z8 z9 z13 z0 z1 hia hj hl3 hx43
    obtain ⟨-, -, r3, G4, hin3, hia⟩ := hia
    obtain ⟨rfl, k4⟩ := k_hasInch_1_eq hin3
    rw [z9, hW.1.1, cn_eq hs, z0, hlen] at k4
    have hr3 : r3.toInt ≠ 0 := k4.mpr ⟨⟨by omega, by omega⟩, by omega, by omega⟩
    clear k4
    rcases hia with ⟨q, -⟩ | ⟨-, y8', t8', y9', t9', y10', e10', rfl, rfl⟩
    · exact absurd q hr3
    obtain ⟨hen, hok⟩ := hin i hil
    rw [cn_eq (x := y9') (e := 400 * s + i) (by omega), z1, hen] at e10'
    have hb := fb_0 hok e10'
    have hjw : Gq = G34 ∧ ((w33 = 64 ∧ fbd (I.getD i (0, 0, 0, 0))) ∨ (w33 = 0 ∧ ¬ fbd (I.getD i (0, 0, 0, 0)))) := by
      rcases hj with ⟨q, e1, e2⟩ | ⟨q, e1, e2⟩
      · exact ⟨e2, Or.inr ⟨e1.symm, fun w => (hb.mpr w) q⟩⟩
      · exact ⟨e2, Or.inl ⟨e1.symm, hb.mp q⟩⟩
    obtain ⟨rfl, hw⟩ := hjw
    clear hb
    obtain ⟨m0, hm0, hfb0⟩ := FB_start (V := V) (day := day) hw
    refine ⟨rfl, ?_⟩
    have hI3 := hl3 (fun q => (q.2.2.1 17 = G.1 17 ∧ q.2.2.1 18 = G.1 18 ∧ q.2.2.1 1 13 = G.1 1 13) ∧ ∃ n m : Nat, q.1.toInt = (n : Int) ∧ n ≤ V.2.2.1.length ∧ q.2.1 = Int32.ofNat m ∧ FB V day (I.getD i (0, 0, 0, 0)) n m) ⟨⟨z7, z8, z13⟩, 0, m0, rfl, Nat.zero_le _, hm0, hfb0⟩ (by
      rintro ⟨u1, v1, G_1⟩ ⟨un, vn, G_1n⟩ ⟨⟨a7, a8, a13⟩, n, m, i3, i4, i5, i6⟩ ⟨u1q, v1q, G_1q, unq, vnq, G_1nq, q1, q2, -, -, c1, r56, G57, hva, hd⟩
      obtain ⟨rfl, q1x⟩ := Prod.mk.inj q1
      obtain ⟨rfl, rfl⟩ := Prod.mk.inj q1x
      obtain ⟨rfl, q2x⟩ := Prod.mk.inj q2
      obtain ⟨rfl, rfl⟩ := Prod.mk.inj q2x
      simp only at a7 a8 a13 i3 i5
      have hR := hW.2.2.1
      have hn : n < V.2.2.1.length := by have := hR.1; clear hd; omega
      have hC' : CodeC_1 0 (fcd V.2.2.1) G_1 := by
        have := hR.2.2.1
        unfold CodeC_1 at this ⊢
        rw [a7, a13]
        exact this
      have hE' : EndC_1 V.2.2.1 G_1 := by
        have := hR.2.2.2
        unfold EndC_1 at this ⊢
        rw [a8]
        exact this
      have hv := k_value_1 hva i3 hn hC' hE' hV.2.1 hok e10' (hV.2.2 n hn)
      have hv' : r56 = vlu V day (I.getD i (0, 0, 0, 0)) n := hv
      have b7 := (hva.2.1.row1 17 (by decide) (by decide)).trans a7
      have b8 := (hva.2.1.row1 18 (by decide) (by decide)).trans a8
      have b13 := (hva.2.1.i 1 13 (by decide) (by decide)).trans a13
      have hm := i6.1
      rcases hd with ⟨f, y62, e62, y63, t63, ex, ev, eG⟩ | ⟨f, y64, e64, y65, e65, y66, t66, ex, ev, eG⟩
      · subst eG
        refine ⟨⟨b7, b8, b13⟩, n + 1, m, by show un.toInt = _; rw [← ex]; omega, by omega, ?_, FB_no i6 (by rw [← hv']; exact f)⟩
        show vn = _
        have e0 : (0 : Int32) = Int32.ofNat 0 := rfl
        rw [← ev, e62, i5, e0, n_or hm (by decide), Nat.or_zero]
      · subst eG
        have hn6 : n < 6 := by have := hV.1; omega
        refine ⟨⟨b7, b8, b13⟩, n + 1, m ||| 2 ^ n, by show un.toInt = _; rw [← ex]; omega, by omega, ?_, FB_yes i6 hn6 (by rw [← hv']; exact f)⟩
        show vn = _
        have eu : u1 = Int32.ofNat n := by
          rw [nat_i (x := u1) (by omega), i3]
          rfl
        have hp : 2 ^ n < 2 ^ 7 := Nat.pow_lt_pow_right (by decide) (by omega)
        rw [← ev, e65, e64, i5, eu, sh_pow n (by omega), n_or hm (by omega)])
    obtain ⟨-, n, m, i3, i4, i5, i6⟩ := hI3
    simp only at i3 i5
    have hn : n = V.2.2.1.length := by have := hW.2.2.1.1; omega
    subst hn
    exact ⟨m, i5, i6⟩
  have hI1 := hl (fun q => (q.2.1 17 = G.1 17 ∧ q.2.1 18 = G.1 18 ∧ q.2.1 1 9 = G.1 1 9 ∧ q.2.1 1 13 = G.1 1 13 ∧ q.2.1 10 = G.1 10 ∧ q.2.1 11 = G.1 11) ∧ (∀ j, j < 400 * s ∨ 400 * s + 400 ≤ j → q.2.1 37 j = G.1 37 j) ∧ ∃ n : Nat, q.1.toInt = (n : Int) ∧ n ≤ I.length ∧ ∀ i, i < n → ∃ m, q.2.1 37 (400 * s + i) = Int32.ofNat m ∧ FB V day (I.getD i (0, 0, 0, 0)) V.2.2.1.length m) ⟨⟨rfl, rfl, rfl, rfl, rfl, rfl⟩, fun _ _ => rfl, 0, rfl, Nat.zero_le _, fun i hi => absurd hi (Nat.not_lt_zero i)⟩ (by
    rintro ⟨x1, G_1⟩ ⟨xn, G_1n⟩ ⟨⟨a7, a8, a9, a13, a0, a1⟩, i2, n, i3, i4, i5⟩ ⟨x1q, G_1q, xnq, G_1nq, q1, q2, -, -, z19, f19, c1, r22, G23, hia, y27, e27, w33, G34, hj, -, -, -, x43, x44, G39, hl3, -, -, hF39, c43, y51, t51, y52, t52, y54, t54, ex, hFn, e37⟩
    obtain ⟨rfl, rfl⟩ := Prod.mk.inj q1
    obtain ⟨rfl, rfl⟩ := Prod.mk.inj q2
    simp only at a7 a8 a9 a13 a0 a1 i2 i3 i5
    rw [cn_eq hs, a0] at f19
    have hz : z19.toInt = (I.length : Int) := by rw [f19]; exact hlen
    subst e27
    obtain ⟨rfl, m, hm, hfb⟩ := inner i3 (by omega) a7 a8 a9 a13 a0 a1 hia hj hl3 c43
    have hy : y52.toNatClampNeg = 400 * s + n := cn_eq (by omega)
    rw [hy, hF39.row1 37 (by decide) (by decide)] at e37
    refine ⟨⟨?_, ?_, ?_, ?_, ?_, ?_⟩, fun j hj => ?_, n + 1, by show xn.toInt = _; rw [← ex]; omega, by omega, fun i hi => ?_⟩
    · exact ((hFn.row1 17 (by decide) (by decide)).trans (hF39.row1 17 (by decide) (by decide))).trans a7
    · exact ((hFn.row1 18 (by decide) (by decide)).trans (hF39.row1 18 (by decide) (by decide))).trans a8
    · exact ((hFn.i 1 9 (by decide) (by decide)).trans (hF39.i 1 9 (by decide) (by decide))).trans a9
    · exact ((hFn.i 1 13 (by decide) (by decide)).trans (hF39.i 1 13 (by decide) (by decide))).trans a13
    · exact ((hFn.row1 10 (by decide) (by decide)).trans (hF39.row1 10 (by decide) (by decide))).trans a0
    · exact ((hFn.row1 11 (by decide) (by decide)).trans (hF39.row1 11 (by decide) (by decide))).trans a1
    · show G_1n.1 37 j = _
      rw [e37, show upd (G_1.1 37) (400 * s + n) x44 j = G_1.1 37 j from if_neg (by omega)]
      exact i2 j hj
    · show ∃ m, G_1n.1 37 (400 * s + i) = _ ∧ _
      by_cases hin' : i = n
      · subst hin'
        refine ⟨m, ?_, hfb⟩
        rw [e37, show upd (G_1.1 37) (400 * s + i) x44 (400 * s + i) = x44 from if_pos rfl]
        exact hm
      · obtain ⟨m2, h1, h2⟩ := i5 i (by omega)
        refine ⟨m2, ?_, h2⟩
        rw [e37, show upd (G_1.1 37) (400 * s + n) x44 (400 * s + i) = G_1.1 37 (400 * s + i) from if_neg (by omega)]
        exact h1)
  obtain ⟨⟨a7, a8, a9, a13, a0, a1⟩, i2, n, i3, i4, i5⟩ := hI1
  simp only at a0 i2 i3 i5
  rw [cn_eq hs, a0] at e19
  have hz : y19.toInt = (I.length : Int) := by rw [e19]; exact hlen
  have hn : n = I.length := by omega
  subst hn
  have r37 : G1.1 37 = G10.1 37 := hFe.row1 37 (by decide) (by decide)
  have hFo : FoC_1 V s day G1 := by
    intro i hi
    rw [← hI] at hi ⊢
    rw [r37]
    exact i5 i hi
  refine ⟨hFo, fun s' hs' => ?_⟩
  rw [cn_eq hs, hF10.row1 38 (by decide) (by decide)] at e38
  by_cases hss : s' = s
  · subst hss
    right
    rw [e38, show upd (G.1 38) s' day s' = day from if_pos rfl]
    exact hFo
  · rw [e38, show upd (G.1 38) s day s' = G.1 38 s' from if_neg hss]
    rcases hCa s' hs' with q | q
    · exact Or.inl q
    · right
      intro i hi
      have hl' := (hW.1.2 s' hs').2
      obtain ⟨m, m1, m2⟩ := q i hi
      refine ⟨m, ?_, m2⟩
      rw [r37, i2 (400 * s' + i) (by omega)]
      exact m1
theorem k_isLine_1 {V : PV} {p0 p1 p2 r day : Int32} {G G1 : GS} {s i t : Nat} (h : P_lIsLine_1 p0 p1 p2 G r G1) (hs : p0.toInt = (s : Int)) (hsl : s < V.1.length) (hi : p2.toInt = (i : Int)) (ht : p1.toInt = (t : Int)) (ht64 : t < 64) (hW : CW_1 V G) (hV : PVok V) (hF : FoC_1 V s day G) : G = G1 ∧ (r.toInt ≠ 0 ↔ (i < (V.1.getD s ([], [])).2.length ∧ LNs V day ((V.1.getD s ([], [])).2.getD i (0, 0, 0, 0)) t)) := by
  obtain ⟨-, hFr, -, r1, G2, hin, hh⟩ := h
  refine ⟨hFr.nil, ?_⟩
  obtain ⟨rfl, k1⟩ := k_hasInch_1_eq hin
  rw [hW.1.1, cn_eq hs, (hW.1.2 s hsl).1.1] at k1
  have z : (0 : Int32).toInt = 0 := rfl
  have o : (1 : Int32).toInt = 1 := rfl
  rcases hh with ⟨c, rfl, -⟩ | ⟨c, y8, t8, y9, t9, y10, e10, hh⟩
  · exact ⟨fun q => absurd z q, fun q => absurd c (k1.mpr ⟨⟨by omega, by omega⟩, by omega, by have := q.1; omega⟩)⟩
  have hil : i < (V.1.getD s ([], [])).2.length := by
    have := (k1.mp c).2.2
    omega
  clear k1
  obtain ⟨m, m1, m2⟩ := hF i hil
  rw [cn_eq (x := y9) (e := 400 * s + i) (by clear hh; omega)] at e10
  obtain ⟨l1, l2⟩ := FB_line m2 hV.1 (e10.trans m1) ht ht64
  rcases hh with ⟨d, y14, e14, hh⟩ | ⟨d, y14, e14, hh⟩
  · have := l1 d
    rw [← e14] at this
    rcases hh with ⟨f, rfl, -⟩ | ⟨f, rfl, -⟩
    · exact ⟨fun q => absurd z q, fun q => absurd f (this.mpr q.2)⟩
    · exact ⟨fun _ => ⟨hil, this.mp f⟩, fun _ => by omega⟩
  · have := l2 d
    rw [← e14] at this
    rcases hh with ⟨f, rfl, -⟩ | ⟨f, rfl, -⟩
    · exact ⟨fun q => absurd z q, fun q => absurd f (this.mpr q.2)⟩
    · exact ⟨fun _ => ⟨hil, this.mp f⟩, fun _ => by omega⟩
/-- what the program has found holds: by STREET, of the day it was found on -/
def FoC_2 (V : PV) (s : Nat) (day : Int32) (G : GS) : Prop := ∀ i, i < (V.1.getD s ([], [])).2.length → ∃ m, G.1 37 (400 * s + i) = Int32.ofNat m ∧ FB V day ((V.1.getD s ([], [])).2.getD i (0, 0, 0, 0)) V.2.2.1.length m
def CaC_2 (V : PV) (G : GS) : Prop := ∀ s, s < V.1.length → (G.1 38 s).toInt = -1 ∨ FoC_2 V s (G.1 38 s) G
theorem k_find_2 {V : PV} {p0 day : Int32} {G G1 : GS} {s : Nat} (h : P_lFind_2 p0 day G G1) (hs : p0.toInt = (s : Int)) (hsl : s < V.1.length) (hs3 : V.1.length ≤ 3) (hW : CW_2 V G) (hV : PVok V) (hd0 : 0 ≤ day.toInt) (hCa : CaC_2 V G) : FoC_2 V s day G1 ∧ CaC_2 V G1 := by
  have hFall := h.2.1
  obtain ⟨-, -, r1, G2, hst, hh⟩ := h
  obtain ⟨rfl, k1⟩ := k_hasStreet_2_eq hst
  rw [hW.1.1] at k1
  have hr1 : r1.toInt ≠ 0 := k1.mpr ⟨by omega, by omega⟩
  clear k1
  obtain ⟨⟨hlen, hin⟩, hl4⟩ := hW.1.2 s hsl
  rcases hh with ⟨c, -⟩ | ⟨-, y8, e8, hh⟩
  · exact absurd c hr1
  rw [cn_eq hs] at e8
  rcases hh with ⟨c, rfl⟩ | ⟨c, x14, G10, hl, -, -, hF10, y19, e19, c19, hFe, e38⟩
  · refine ⟨?_, hCa⟩
    have ed : G.1 38 s = day := by rw [← e8]; exact Int32.toInt_inj.mp c
    rcases hCa s hsl with q | q
    · rw [ed] at q
      omega
    · rw [ed] at q
      exact q
  obtain ⟨I, hI⟩ : ∃ I, I = (V.1.getD s ([], [])).2 := ⟨_, rfl⟩
  rw [← hI] at hlen hin hl4
  have inner : ∀ {i : Nat} {x1 r22 : Int32} {Gq G23 : GS} {w33 x43 x44 : Int32} {G34 G39 : GS}, x1.toInt = (i : Int) → i < I.length → Gq.1 27 = G.1 27 → Gq.1 28 = G.1 28 → Gq.1 2 9 = G.1 2 9 → Gq.1 2 13 = G.1 2 13 → Gq.1 20 = G.1 20 → Gq.1 21 = G.1 21 → P_inchAt_2 p0 x1 Gq r22 G23 → Jn_k_lFind_2_2 (r22 &&& 13) G23 w33 G34 → Rc (St_k_lFind_2_3 day r22 G) (0, w33, G34) (x43, x44, G39) → (G.1 2 11).toInt ≤ x43.toInt → Gq = G34 ∧ ∃ m, x44 = Int32.ofNat m ∧ FB V day (I.getD i (0, 0, 0, 0)) V.2.2.1.length m := by
    intro i x1 r22 Gq G23 w33 x43 x44 G34 G39 hx1 hil z7 z8 z9 z13 z0 z1 hia hj hl3 hx43
    obtain ⟨-, -, r3, G4, hin3, hia⟩ := hia
    obtain ⟨rfl, k4⟩ := k_hasInch_2_eq hin3
    rw [z9, hW.1.1, cn_eq hs, z0, hlen] at k4
    have hr3 : r3.toInt ≠ 0 := k4.mpr ⟨⟨by omega, by omega⟩, by omega, by omega⟩
    clear k4
    rcases hia with ⟨q, -⟩ | ⟨-, y8', t8', y9', t9', y10', e10', rfl, rfl⟩
    · exact absurd q hr3
    obtain ⟨hen, hok⟩ := hin i hil
    rw [cn_eq (x := y9') (e := 400 * s + i) (by omega), z1, hen] at e10'
    have hb := fb_0 hok e10'
    have hjw : Gq = G34 ∧ ((w33 = 64 ∧ fbd (I.getD i (0, 0, 0, 0))) ∨ (w33 = 0 ∧ ¬ fbd (I.getD i (0, 0, 0, 0)))) := by
      rcases hj with ⟨q, e1, e2⟩ | ⟨q, e1, e2⟩
      · exact ⟨e2, Or.inr ⟨e1.symm, fun w => (hb.mpr w) q⟩⟩
      · exact ⟨e2, Or.inl ⟨e1.symm, hb.mp q⟩⟩
    obtain ⟨rfl, hw⟩ := hjw
    clear hb
    obtain ⟨m0, hm0, hfb0⟩ := FB_start (V := V) (day := day) hw
    refine ⟨rfl, ?_⟩
    have hI3 := hl3 (fun q => (q.2.2.1 27 = G.1 27 ∧ q.2.2.1 28 = G.1 28 ∧ q.2.2.1 2 13 = G.1 2 13) ∧ ∃ n m : Nat, q.1.toInt = (n : Int) ∧ n ≤ V.2.2.1.length ∧ q.2.1 = Int32.ofNat m ∧ FB V day (I.getD i (0, 0, 0, 0)) n m) ⟨⟨z7, z8, z13⟩, 0, m0, rfl, Nat.zero_le _, hm0, hfb0⟩ (by
      rintro ⟨u1, v1, G_1⟩ ⟨un, vn, G_1n⟩ ⟨⟨a7, a8, a13⟩, n, m, i3, i4, i5, i6⟩ ⟨u1q, v1q, G_1q, unq, vnq, G_1nq, q1, q2, -, -, c1, r56, G57, hva, hd⟩
      obtain ⟨rfl, q1x⟩ := Prod.mk.inj q1
      obtain ⟨rfl, rfl⟩ := Prod.mk.inj q1x
      obtain ⟨rfl, q2x⟩ := Prod.mk.inj q2
      obtain ⟨rfl, rfl⟩ := Prod.mk.inj q2x
      simp only at a7 a8 a13 i3 i5
      have hR := hW.2.2.1
      have hn : n < V.2.2.1.length := by have := hR.1; clear hd; omega
      have hC' : CodeC_2 0 (fcd V.2.2.1) G_1 := by
        have := hR.2.2.1
        unfold CodeC_2 at this ⊢
        rw [a7, a13]
        exact this
      have hE' : EndC_2 V.2.2.1 G_1 := by
        have := hR.2.2.2
        unfold EndC_2 at this ⊢
        rw [a8]
        exact this
      have hv := k_value_2 hva i3 hn hC' hE' hV.2.1 hok e10' (hV.2.2 n hn)
      have hv' : r56 = vlu V day (I.getD i (0, 0, 0, 0)) n := hv
      have b7 := (hva.2.1.row1 27 (by decide) (by decide)).trans a7
      have b8 := (hva.2.1.row1 28 (by decide) (by decide)).trans a8
      have b13 := (hva.2.1.i 2 13 (by decide) (by decide)).trans a13
      have hm := i6.1
      rcases hd with ⟨f, y62, e62, y63, t63, ex, ev, eG⟩ | ⟨f, y64, e64, y65, e65, y66, t66, ex, ev, eG⟩
      · subst eG
        refine ⟨⟨b7, b8, b13⟩, n + 1, m, by show un.toInt = _; rw [← ex]; omega, by omega, ?_, FB_no i6 (by rw [← hv']; exact f)⟩
        show vn = _
        have e0 : (0 : Int32) = Int32.ofNat 0 := rfl
        rw [← ev, e62, i5, e0, n_or hm (by decide), Nat.or_zero]
      · subst eG
        have hn6 : n < 6 := by have := hV.1; omega
        refine ⟨⟨b7, b8, b13⟩, n + 1, m ||| 2 ^ n, by show un.toInt = _; rw [← ex]; omega, by omega, ?_, FB_yes i6 hn6 (by rw [← hv']; exact f)⟩
        show vn = _
        have eu : u1 = Int32.ofNat n := by
          rw [nat_i (x := u1) (by omega), i3]
          rfl
        have hp : 2 ^ n < 2 ^ 7 := Nat.pow_lt_pow_right (by decide) (by omega)
        rw [← ev, e65, e64, i5, eu, sh_pow n (by omega), n_or hm (by omega)])
    obtain ⟨-, n, m, i3, i4, i5, i6⟩ := hI3
    simp only at i3 i5
    have hn : n = V.2.2.1.length := by have := hW.2.2.1.1; omega
    subst hn
    exact ⟨m, i5, i6⟩
  have hI1 := hl (fun q => (q.2.1 27 = G.1 27 ∧ q.2.1 28 = G.1 28 ∧ q.2.1 2 9 = G.1 2 9 ∧ q.2.1 2 13 = G.1 2 13 ∧ q.2.1 20 = G.1 20 ∧ q.2.1 21 = G.1 21) ∧ (∀ j, j < 400 * s ∨ 400 * s + 400 ≤ j → q.2.1 37 j = G.1 37 j) ∧ ∃ n : Nat, q.1.toInt = (n : Int) ∧ n ≤ I.length ∧ ∀ i, i < n → ∃ m, q.2.1 37 (400 * s + i) = Int32.ofNat m ∧ FB V day (I.getD i (0, 0, 0, 0)) V.2.2.1.length m) ⟨⟨rfl, rfl, rfl, rfl, rfl, rfl⟩, fun _ _ => rfl, 0, rfl, Nat.zero_le _, fun i hi => absurd hi (Nat.not_lt_zero i)⟩ (by
    rintro ⟨x1, G_1⟩ ⟨xn, G_1n⟩ ⟨⟨a7, a8, a9, a13, a0, a1⟩, i2, n, i3, i4, i5⟩ ⟨x1q, G_1q, xnq, G_1nq, q1, q2, -, -, z19, f19, c1, r22, G23, hia, y27, e27, w33, G34, hj, -, -, -, x43, x44, G39, hl3, -, -, hF39, c43, y51, t51, y52, t52, y54, t54, ex, hFn, e37⟩
    obtain ⟨rfl, rfl⟩ := Prod.mk.inj q1
    obtain ⟨rfl, rfl⟩ := Prod.mk.inj q2
    simp only at a7 a8 a9 a13 a0 a1 i2 i3 i5
    rw [cn_eq hs, a0] at f19
    have hz : z19.toInt = (I.length : Int) := by rw [f19]; exact hlen
    subst e27
    obtain ⟨rfl, m, hm, hfb⟩ := inner i3 (by omega) a7 a8 a9 a13 a0 a1 hia hj hl3 c43
    have hy : y52.toNatClampNeg = 400 * s + n := cn_eq (by omega)
    rw [hy, hF39.row1 37 (by decide) (by decide)] at e37
    refine ⟨⟨?_, ?_, ?_, ?_, ?_, ?_⟩, fun j hj => ?_, n + 1, by show xn.toInt = _; rw [← ex]; omega, by omega, fun i hi => ?_⟩
    · exact ((hFn.row1 27 (by decide) (by decide)).trans (hF39.row1 27 (by decide) (by decide))).trans a7
    · exact ((hFn.row1 28 (by decide) (by decide)).trans (hF39.row1 28 (by decide) (by decide))).trans a8
    · exact ((hFn.i 2 9 (by decide) (by decide)).trans (hF39.i 2 9 (by decide) (by decide))).trans a9
    · exact ((hFn.i 2 13 (by decide) (by decide)).trans (hF39.i 2 13 (by decide) (by decide))).trans a13
    · exact ((hFn.row1 20 (by decide) (by decide)).trans (hF39.row1 20 (by decide) (by decide))).trans a0
    · exact ((hFn.row1 21 (by decide) (by decide)).trans (hF39.row1 21 (by decide) (by decide))).trans a1
    · show G_1n.1 37 j = _
      rw [e37, show upd (G_1.1 37) (400 * s + n) x44 j = G_1.1 37 j from if_neg (by omega)]
      exact i2 j hj
    · show ∃ m, G_1n.1 37 (400 * s + i) = _ ∧ _
      by_cases hin' : i = n
      · subst hin'
        refine ⟨m, ?_, hfb⟩
        rw [e37, show upd (G_1.1 37) (400 * s + i) x44 (400 * s + i) = x44 from if_pos rfl]
        exact hm
      · obtain ⟨m2, h1, h2⟩ := i5 i (by omega)
        refine ⟨m2, ?_, h2⟩
        rw [e37, show upd (G_1.1 37) (400 * s + n) x44 (400 * s + i) = G_1.1 37 (400 * s + i) from if_neg (by omega)]
        exact h1)
  obtain ⟨⟨a7, a8, a9, a13, a0, a1⟩, i2, n, i3, i4, i5⟩ := hI1
  simp only at a0 i2 i3 i5
  rw [cn_eq hs, a0] at e19
  have hz : y19.toInt = (I.length : Int) := by rw [e19]; exact hlen
  have hn : n = I.length := by omega
  subst hn
  have r37 : G1.1 37 = G10.1 37 := hFe.row1 37 (by decide) (by decide)
  have hFo : FoC_2 V s day G1 := by
    intro i hi
    rw [← hI] at hi ⊢
    rw [r37]
    exact i5 i hi
  refine ⟨hFo, fun s' hs' => ?_⟩
  rw [cn_eq hs, hF10.row1 38 (by decide) (by decide)] at e38
  by_cases hss : s' = s
  · subst hss
    right
    rw [e38, show upd (G.1 38) s' day s' = day from if_pos rfl]
    exact hFo
  · rw [e38, show upd (G.1 38) s day s' = G.1 38 s' from if_neg hss]
    rcases hCa s' hs' with q | q
    · exact Or.inl q
    · right
      intro i hi
      have hl' := (hW.1.2 s' hs').2
      obtain ⟨m, m1, m2⟩ := q i hi
      refine ⟨m, ?_, m2⟩
      rw [r37, i2 (400 * s' + i) (by omega)]
      exact m1
theorem k_isLine_2 {V : PV} {p0 p1 p2 r day : Int32} {G G1 : GS} {s i t : Nat} (h : P_lIsLine_2 p0 p1 p2 G r G1) (hs : p0.toInt = (s : Int)) (hsl : s < V.1.length) (hi : p2.toInt = (i : Int)) (ht : p1.toInt = (t : Int)) (ht64 : t < 64) (hW : CW_2 V G) (hV : PVok V) (hF : FoC_2 V s day G) : G = G1 ∧ (r.toInt ≠ 0 ↔ (i < (V.1.getD s ([], [])).2.length ∧ LNs V day ((V.1.getD s ([], [])).2.getD i (0, 0, 0, 0)) t)) := by
  obtain ⟨-, hFr, -, r1, G2, hin, hh⟩ := h
  refine ⟨hFr.nil, ?_⟩
  obtain ⟨rfl, k1⟩ := k_hasInch_2_eq hin
  rw [hW.1.1, cn_eq hs, (hW.1.2 s hsl).1.1] at k1
  have z : (0 : Int32).toInt = 0 := rfl
  have o : (1 : Int32).toInt = 1 := rfl
  rcases hh with ⟨c, rfl, -⟩ | ⟨c, y8, t8, y9, t9, y10, e10, hh⟩
  · exact ⟨fun q => absurd z q, fun q => absurd c (k1.mpr ⟨⟨by omega, by omega⟩, by omega, by have := q.1; omega⟩)⟩
  have hil : i < (V.1.getD s ([], [])).2.length := by
    have := (k1.mp c).2.2
    omega
  clear k1
  obtain ⟨m, m1, m2⟩ := hF i hil
  rw [cn_eq (x := y9) (e := 400 * s + i) (by clear hh; omega)] at e10
  obtain ⟨l1, l2⟩ := FB_line m2 hV.1 (e10.trans m1) ht ht64
  rcases hh with ⟨d, y14, e14, hh⟩ | ⟨d, y14, e14, hh⟩
  · have := l1 d
    rw [← e14] at this
    rcases hh with ⟨f, rfl, -⟩ | ⟨f, rfl, -⟩
    · exact ⟨fun q => absurd z q, fun q => absurd f (this.mpr q.2)⟩
    · exact ⟨fun _ => ⟨hil, this.mp f⟩, fun _ => by omega⟩
  · have := l2 d
    rw [← e14] at this
    rcases hh with ⟨f, rfl, -⟩ | ⟨f, rfl, -⟩
    · exact ⟨fun q => absurd z q, fun q => absurd f (this.mpr q.2)⟩
    · exact ⟨fun _ => ⟨hil, this.mp f⟩, fun _ => by omega⟩
