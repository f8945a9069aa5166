set_option maxHeartbeats 4000000 in
set_option maxRecDepth 100000 in
theorem whole_start {p : Program} {e : Env} {s : State} {m : MethodId} {below : List Frame} {meth : Method} {c : Code} (l : Launch) (hflags : l.flags = flags0) {b L : Nat} {xs : Nat → Int32} (hL : L ≤ 6) (C0 : lw_At p s m meth c b L xs) : W p l e room_1 s m #[Value.ref b] below meth c s.heap [] 0 0 (lw_Z below #[Value.ref b] s) (entryFrame m ([Value.ref b] : List Value).toArray 4) := by
  obtain ⟨hx, hb, hr, hml, hown, hts, hX, hbl, hlocks, hgv⟩ := id C0
  have hown : s.vm.findClass RL = some m.cls := hown
  have hgd : ∀ w ∈ gd, w ∈ lw_tbl := fun w h => (List.mem_filter.mp h).1
  have hg : ∀ w ∈ gd, w.before #[Value.ref b] s = true := fun w h => hts w (hgd w h)
  obtain ⟨c0, iS0, hKn0⟩ := u_known (C := RX0) (T := TX0) (N := 8) (n := 8) hg iX0 (hg (Cond.instantiable RX0 8) m366)
  obtain ⟨c1, iS1, hKn1⟩ := u_known (C := RX1) (T := TX1) (N := 6) (n := 6) hg iX1 (hg (Cond.instantiable RX1 6) m487)
  obtain ⟨c2, iS2, hKn2⟩ := u_known (C := RX2) (T := TX2) (N := 3) (n := 3) hg iX2 (hg (Cond.instantiable RX2 3) m296)
  obtain ⟨c3, iS3, hKn3⟩ := u_known (C := RX3) (T := TX3) (N := 5) (n := 5) hg iX3 (hg (Cond.instantiable RX3 5) m344)
  obtain ⟨c4, iS4, hKn4⟩ := u_known (C := RX4) (T := TX4) (N := 4) (n := 4) hg iX4 (hg (Cond.instantiable RX4 4) m422)
  obtain ⟨c5, iS5, hKn5⟩ := u_known (C := RX5) (T := TX5) (N := 7) (n := 7) hg iX5 (hg (Cond.instantiable RX5 7) m459)
  obtain ⟨c6, iS6, hKn6⟩ := u_known (C := RX6) (T := TX6) (N := 17) (n := 17) hg iX6 (hg (Cond.instantiable RX6 17) m147)
  obtain ⟨c7, iS7, hKn7⟩ := u_known (C := RX7) (T := TX7) (N := 10) (n := 10) hg iX7 (hg (Cond.instantiable RX7 10) m247)
  obtain ⟨c8, iS8, hKn8⟩ := u_known (C := RX8) (T := TX8) (N := 7) (n := 7) hg iX8 (hg (Cond.instantiable RX8 7) m515)
  obtain ⟨c9, iS9, hKn9⟩ := u_known (C := RX9) (T := TX9) (N := 9) (n := 9) hg iX9 (hg (Cond.instantiable RX9 9) m253)
  obtain ⟨c10, iS10, hKn10⟩ := u_known (C := RX10) (T := TX10) (N := 5) (n := 5) hg iX10 (hg (Cond.instantiable RX10 5) m414)
  obtain ⟨c11, iS11, hKn11⟩ := u_known (C := RX11) (T := TX11) (N := 13) (n := 13) hg iX11 (hg (Cond.instantiable RX11 13) m139)
  obtain ⟨c12, iS12, hKn12⟩ := u_known (C := RX12) (T := TX12) (N := 89) (n := 89) hg iX12 (hg (Cond.instantiable RX12 89) m1309)
  obtain ⟨D, hKc⟩ : ∃ D : va_G, ∀ (k : Nat) (q : vw_C), classes[k]? = some q → u_Kn s q.1 q.2.1 q.2.2 (D.1 k) (D.2 k) := by
    refine ⟨(fun k => match k with | 0 => c0 | 1 => c1 | 2 => c2 | 3 => c3 | 4 => c4 | 5 => c5 | 6 => c6 | 7 => c7 | 8 => c8 | 9 => c9 | 10 => c10 | 11 => c11 | _ => c12, fun k => match k with | 0 => iS0 | 1 => iS1 | 2 => iS2 | 3 => iS3 | 4 => iS4 | 5 => iS5 | 6 => iS6 | 7 => iS7 | 8 => iS8 | 9 => iS9 | 10 => iS10 | 11 => iS11 | _ => iS12), ?_⟩
    intro k q hq
    match k, hq with
    | 0, hq => cases hq; exact hKn0
    | 1, hq => cases hq; exact hKn1
    | 2, hq => cases hq; exact hKn2
    | 3, hq => cases hq; exact hKn3
    | 4, hq => cases hq; exact hKn4
    | 5, hq => cases hq; exact hKn5
    | 6, hq => cases hq; exact hKn6
    | 7, hq => cases hq; exact hKn7
    | 8, hq => cases hq; exact hKn8
    | 9, hq => cases hq; exact hKn9
    | 10, hq => cases hq; exact hKn10
    | 11, hq => cases hq; exact hKn11
    | 12, hq => cases hq; exact hKn12
    | k + 13, hq => simp [classes] at hq
  obtain ⟨ka0, kk0, km0, kf0, kc0, kd0⟩ := Cond.arrayClass_spec (hg (Cond.arrayClass .byte) m293)
  obtain ⟨ka1, kk1, km1, kf1, kc1, kd1⟩ := Cond.arrayClass_spec (hg (Cond.arrayClass .int) m245)
  obtain ⟨ka2, kk2, km2, kf2, kc2, kd2⟩ := Cond.arrayClass_spec (hg (Cond.arrayClass .long) m294)
  obtain ⟨ka3, kk3, km3, kf3, kc3, kd3⟩ := Cond.arrayClass_spec (hg (Cond.arrayClass .boolean) m412)
  obtain ⟨k, hk⟩ : ∃ k : ClassId × ClassId × ClassId × ClassId, k = (ka0, ka1, ka2, ka3) := ⟨_, rfl⟩
  have hK : va_K D classes (TY k) s := by
    subst hk
    refine ⟨hKc, fun j q hj => ?_⟩
    match j, hj with
    | 0, hj => cases hj; exact ⟨fun n z => ⟨fun k h => (by cases h), kk0, kc0, km0, kd0⟩, kf0⟩
    | 1, hj => cases hj; exact ⟨fun n z => ⟨fun k h => (by cases h), kk1, kc1, km1, kd1⟩, kf1⟩
    | 2, hj => cases hj; exact ⟨fun n z => ⟨fun k h => (by cases h), kk2, kc2, km2, kd2⟩, kf2⟩
    | 3, hj => cases hj; exact ⟨fun n z => ⟨fun k h => (by cases h), kk3, kc3, km3, kd3⟩, kf3⟩
    | j + 4, hj => simp at hj
  have hKX : va_K D classes (TY k) s ∧ cX s := ⟨hK, over_moved (Vm.Alike.refl s.vm) (hts (.arrayOver (.array .int)) (List.mem_of_getElem? (i := 420) (by decide +kernel))), va_Nw.of rfl (hts (.methodLinkNest RX11 43 yX0_init RX11) (List.mem_of_getElem? (i := 367) (by decide +kernel))), va_Nw.of rfl (hts (.methodLinkNest RX11 50 yX10_init RX11) (List.mem_of_getElem? (i := 415) (by decide +kernel))), va_Nw.of rfl (hts (.methodLinkNest RX10 18 yX4_init RX11) (List.mem_of_getElem? (i := 423) (by decide +kernel))), va_Nw.of rfl (hts (.methodLinkNest RX11 57 yX5_init RX11) (List.mem_of_getElem? (i := 460) (by decide +kernel))), va_Nw.of rfl (hts (.methodLinkNest RX11 64 yX1_init RX11) (List.mem_of_getElem? (i := 488) (by decide +kernel))), va_Nw.of rfl (hts (.methodLinkNest RX11 71 yX8_init RX11) (List.mem_of_getElem? (i := 516) (by decide +kernel)))⟩
  obtain ⟨A, hAe⟩ : ∃ A : Nat → Prop, A = fun q : Nat => s.heap.size ≤ q := ⟨_, rfl⟩
  have hA : ∀ q : Nat, s.heap.size ≤ q → A q := fun q h => by rw [hAe]; exact h
  have hA2 : ∀ q : Nat, A q → s.heap.size ≤ q := fun q h => by rw [hAe] at h; exact h
  have hbA : ¬ A b := fun h => Nat.not_le.mpr hbl (hA2 b h)
  have hS : va_S A s.heap s.heap [] := va_S.rf
  have hP : va_P D classes [] s.heap := fun k q h => by simp at h
  have hD : va_D A [] := ⟨fun i j p q h => by simp at h, fun k q h => by simp at h⟩
  have hl := lv_entry ([.ref b]) (n := 4) (Nat.le_of_ble_eq_true rfl)
  rw [lg_entry_eq]
  generalize (lg_sl ([.ref b]) ++ List.replicate (4 - (lg_sl ([.ref b])).length) Slot.unset).toArray = ls at hl ⊢
  have hl : lv_has ls 4 [(0, .ref b)] := hl
  refine va_new (ci := 11) (fs := [.null, .null, .null, .null, .null, .null, .null, .null, .null, .null, .null, .int 0, .int 0]) (C := RX11) (T := TX11) (N := 13) hx hb hg iX11 tyX11 tyX11_ok hown (hg (Cond.classLink RL 7 RX11) m138) (hg (Cond.instantiable RX11 13) m139) (hg (Cond.initialized RX11) m117) hK hP hD hS hA rfl (by decide) (Nat.le_of_ble_eq_true rfl) (Nat.le_of_ble_eq_true rfl) dL_law_0 (fun q_1 H hP hD hS => ?_)
  have hP : va_P D classes [(q_1, .inr (11, [.null, .null, .null, .null, .null, .null, .null, .null, .null, .null, .null, .int 0, .int 0]))] H := hP
  have hD : va_D A [(q_1, .inr (11, [.null, .null, .null, .null, .null, .null, .null, .null, .null, .null, .null, .int 0, .int 0]))] := hD
  refine W.widen (k := 1) (n := 13) (Nat.le_of_ble_eq_true rfl) (Nat.le_of_ble_eq_true rfl) ?_
  refine lv_dup hx hb dL_law_3 rfl ?_
  have hPc := hP.sub (ws' := [(q_1, .inr (11, [.null, .null, .null, .null, .null, .null, .null, .null, .null, .null, .null, .int 0, .int 0]))]) [0] rfl
  have hDc := hD.sub (ws' := [(q_1, .inr (11, [.null, .null, .null, .null, .null, .null, .null, .null, .null, .null, .null, .int 0, .int 0]))]) [0] (by decide) rfl
  have hFc := va_free (wc := [(q_1, .inr (11, [.null, .null, .null, .null, .null, .null, .null, .null, .null, .null, .null, .int 0, .int 0]))]) hD hS hA [0] rfl
  refine va_callv (va_runI (As := []) (rest := [.ref q_1]) ⟨hx, hb, hml, hown, hts⟩ (c_X11_init l D k H.size q_1 ) (cwI 0 hts (gd_in hgd (gd_WS m142)) rfl rfl rfl (hg (Cond.initialized RX11) m117) (hg (Cond.methodLink RL 9 yX11_init) m140) (hg (Cond.instanceMethod yX11_init) m141) rfl (by decide +kernel) ⟨Nat.le_of_ble_eq_true rfl, Nat.le_of_ble_eq_true rfl⟩) (cP_S hPc hKX hDc) rfl rfl hl.1 rfl (lv_room (Nat.le_of_ble_eq_true rfl)) dL_law_4 ⟨Nat.le_of_ble_eq_true rfl, Nat.le_of_ble_eq_true rfl⟩) hS (fun q _ h => hFc q h) hFc (fun u t H1 locs ht hvm hw hB hz1 hk1 hS => ?_)
  obtain ⟨z_3, z_4, z_5, z_6, z_7, z_8, z_9, z_10, z_11, z_12, z_13, z_14, z_15, z_16, z_17, z_18, z_19, z_20, z_21, z_22, z_23, z_24, z_25, z_26, z_27, z_28, z_29, z_30, z_31, g_32, g_33, g_34, g_35, g_36, g_37, g_38, g_39, g_40, g_41, g_42, g_43, g_44, g_45, g_46, g_47, g_48, g_49, g_50, g_51, g_52, g_53, g_54, g_55, g_56, g_57, g_58, g_59, g_60, g_61, g_62, g_63, g_64, g_65, g_66, g_67, g_68, g_69, g_70, g_71, g_72, g_73, g_74, g_75, g_76, g_77, g_78, g_79, g_80, g_81, g_82, g_83, g_84, g_85, g_86, g_87, g_88, g_89, g_90, g_91, g_92, g_93, hP1, hD1⟩ := hB
  rw [ht] at hP1
  obtain ⟨hP, hD⟩ := va_join (wr := []) (w1 := [(q_1, .inr (11, z_3)), (z_4, .inr (6, z_5)), (z_6, .inl (k.2.1, 3, .inl z_7)), (z_8, .inr (6, z_9)), (z_10, .inl (k.2.1, 3, .inl z_11)), (z_12, .inl (k.1, 1600, .inl z_13)), (z_14, .inr (7, z_15)), (z_16, .inr (9, z_17)), (z_18, .inr (3, z_19)), (z_20, .inl (k.2.1, 3, .inl z_21)), (z_22, .inr (1, z_23)), (z_24, .inl (k.2.1, 10, .inl z_25)), (z_26, .inl (k.2.1, 410, .inl z_27)), (z_28, .inl (k.2.1, 30, .inl z_29)), (z_30, .inr (8, z_31))]) hP hD [0] [] rfl rfl (by decide) (by decide) hk1 hFc hP1 hD1
  generalize H1 = H at hP hS ⊢
  have hP : va_P D classes [(q_1, .inr (11, z_3)), (z_4, .inr (6, z_5)), (z_6, .inl (k.2.1, 3, .inl z_7)), (z_8, .inr (6, z_9)), (z_10, .inl (k.2.1, 3, .inl z_11)), (z_12, .inl (k.1, 1600, .inl z_13)), (z_14, .inr (7, z_15)), (z_16, .inr (9, z_17)), (z_18, .inr (3, z_19)), (z_20, .inl (k.2.1, 3, .inl z_21)), (z_22, .inr (1, z_23)), (z_24, .inl (k.2.1, 10, .inl z_25)), (z_26, .inl (k.2.1, 410, .inl z_27)), (z_28, .inl (k.2.1, 30, .inl z_29)), (z_30, .inr (8, z_31))] H := hP
  have hD : va_D A [(q_1, .inr (11, z_3)), (z_4, .inr (6, z_5)), (z_6, .inl (k.2.1, 3, .inl z_7)), (z_8, .inr (6, z_9)), (z_10, .inl (k.2.1, 3, .inl z_11)), (z_12, .inl (k.1, 1600, .inl z_13)), (z_14, .inr (7, z_15)), (z_16, .inr (9, z_17)), (z_18, .inr (3, z_19)), (z_20, .inl (k.2.1, 3, .inl z_21)), (z_22, .inr (1, z_23)), (z_24, .inl (k.2.1, 10, .inl z_25)), (z_26, .inl (k.2.1, 410, .inl z_27)), (z_28, .inl (k.2.1, 30, .inl z_29)), (z_30, .inr (8, z_31))] := hD
  refine W.widen (k := 66) (n := 13763) (Nat.le_of_ble_eq_true rfl) (Nat.le_of_ble_eq_true rfl) ?_
  refine lv_astore_n (lv' := [(1, .ref q_1), (0, .ref b)]) hx hb dL_law_7 rfl hl (by decide) rfl (fun ls hl => ?_)
  refine va_new (ci := 12) (fs := [.null, .int 0, .int 0, .int 0, .int 0, .int 0, .int 0, .int 0, .int 0, .long 0, .null, .null, .null, .null, .null, .null, .null, .null, .null, .int 0, .int 0, .int 0, .int 0, .int 0, .int 0, .null, .null, .null, .null, .null, .null, .null, .null, .null, .null, .null, .null, .null, .null, .null, .null, .null, .null, .null, .null, .int 0, .int 0, .int 0, .int 0, .int 0, .int 0, .int 0, .int 0, .int 0, .int 0, .int 0, .int 0, .null, .null, .int 0, .int 0, .int 0, .int 0, .int 0, .null, .null, .int 0, .null, .null, .null, .null, .null, .null, .null, .null, .null, .null, .null, .int 0, .int 0, .null, .null, .null, .null, .null, .int 0, .int 0, .null, .null]) (C := RX12) (T := TX12) (N := 89) hx hb hg iX12 tyX12 tyX12_ok hown (hg (Cond.classLink RL 10 RX12) m1308) (hg (Cond.instantiable RX12 89) m1309) (hg (Cond.initialized RX12) m131) hK hP hD hS hA rfl (by decide) (Nat.le_of_ble_eq_true rfl) (Nat.le_of_ble_eq_true rfl) dL_law_8 (fun q_94 H hP hD hS => ?_)
  have hP : va_P D classes [(q_1, .inr (11, z_3)), (z_4, .inr (6, z_5)), (z_6, .inl (k.2.1, 3, .inl z_7)), (z_8, .inr (6, z_9)), (z_10, .inl (k.2.1, 3, .inl z_11)), (z_12, .inl (k.1, 1600, .inl z_13)), (z_14, .inr (7, z_15)), (z_16, .inr (9, z_17)), (z_18, .inr (3, z_19)), (z_20, .inl (k.2.1, 3, .inl z_21)), (z_22, .inr (1, z_23)), (z_24, .inl (k.2.1, 10, .inl z_25)), (z_26, .inl (k.2.1, 410, .inl z_27)), (z_28, .inl (k.2.1, 30, .inl z_29)), (z_30, .inr (8, z_31)), (q_94, .inr (12, [.null, .int 0, .int 0, .int 0, .int 0, .int 0, .int 0, .int 0, .int 0, .long 0, .null, .null, .null, .null, .null, .null, .null, .null, .null, .int 0, .int 0, .int 0, .int 0, .int 0, .int 0, .null, .null, .null, .null, .null, .null, .null, .null, .null, .null, .null, .null, .null, .null, .null, .null, .null, .null, .null, .null, .int 0, .int 0, .int 0, .int 0, .int 0, .int 0, .int 0, .int 0, .int 0, .int 0, .int 0, .int 0, .null, .null, .int 0, .int 0, .int 0, .int 0, .int 0, .null, .null, .int 0, .null, .null, .null, .null, .null, .null, .null, .null, .null, .null, .null, .int 0, .int 0, .null, .null, .null, .null, .null, .int 0, .int 0, .null, .null]))] H := hP
  have hD : va_D A [(q_1, .inr (11, z_3)), (z_4, .inr (6, z_5)), (z_6, .inl (k.2.1, 3, .inl z_7)), (z_8, .inr (6, z_9)), (z_10, .inl (k.2.1, 3, .inl z_11)), (z_12, .inl (k.1, 1600, .inl z_13)), (z_14, .inr (7, z_15)), (z_16, .inr (9, z_17)), (z_18, .inr (3, z_19)), (z_20, .inl (k.2.1, 3, .inl z_21)), (z_22, .inr (1, z_23)), (z_24, .inl (k.2.1, 10, .inl z_25)), (z_26, .inl (k.2.1, 410, .inl z_27)), (z_28, .inl (k.2.1, 30, .inl z_29)), (z_30, .inr (8, z_31)), (q_94, .inr (12, [.null, .int 0, .int 0, .int 0, .int 0, .int 0, .int 0, .int 0, .int 0, .long 0, .null, .null, .null, .null, .null, .null, .null, .null, .null, .int 0, .int 0, .int 0, .int 0, .int 0, .int 0, .null, .null, .null, .null, .null, .null, .null, .null, .null, .null, .null, .null, .null, .null, .null, .null, .null, .null, .null, .null, .int 0, .int 0, .int 0, .int 0, .int 0, .int 0, .int 0, .int 0, .int 0, .int 0, .int 0, .int 0, .null, .null, .int 0, .int 0, .int 0, .int 0, .int 0, .null, .null, .int 0, .null, .null, .null, .null, .null, .null, .null, .null, .null, .null, .null, .int 0, .int 0, .null, .null, .null, .null, .null, .int 0, .int 0, .null, .null]))] := hD
  refine W.widen (k := 67) (n := 13852) (Nat.le_of_ble_eq_true rfl) (Nat.le_of_ble_eq_true rfl) ?_
  refine lv_dup hx hb dL_law_11 rfl ?_
  have hPc := hP.sub (ws' := [(q_94, .inr (12, [.null, .int 0, .int 0, .int 0, .int 0, .int 0, .int 0, .int 0, .int 0, .long 0, .null, .null, .null, .null, .null, .null, .null, .null, .null, .int 0, .int 0, .int 0, .int 0, .int 0, .int 0, .null, .null, .null, .null, .null, .null, .null, .null, .null, .null, .null, .null, .null, .null, .null, .null, .null, .null, .null, .null, .int 0, .int 0, .int 0, .int 0, .int 0, .int 0, .int 0, .int 0, .int 0, .int 0, .int 0, .int 0, .null, .null, .int 0, .int 0, .int 0, .int 0, .int 0, .null, .null, .int 0, .null, .null, .null, .null, .null, .null, .null, .null, .null, .null, .null, .int 0, .int 0, .null, .null, .null, .null, .null, .int 0, .int 0, .null, .null]))]) [15] rfl
  have hDc := hD.sub (ws' := [(q_94, .inr (12, [.null, .int 0, .int 0, .int 0, .int 0, .int 0, .int 0, .int 0, .int 0, .long 0, .null, .null, .null, .null, .null, .null, .null, .null, .null, .int 0, .int 0, .int 0, .int 0, .int 0, .int 0, .null, .null, .null, .null, .null, .null, .null, .null, .null, .null, .null, .null, .null, .null, .null, .null, .null, .null, .null, .null, .int 0, .int 0, .int 0, .int 0, .int 0, .int 0, .int 0, .int 0, .int 0, .int 0, .int 0, .int 0, .null, .null, .int 0, .int 0, .int 0, .int 0, .int 0, .null, .null, .int 0, .null, .null, .null, .null, .null, .null, .null, .null, .null, .null, .null, .int 0, .int 0, .null, .null, .null, .null, .null, .int 0, .int 0, .null, .null]))]) [15] (by decide) rfl
  have hFc := va_free (wc := [(q_94, .inr (12, [.null, .int 0, .int 0, .int 0, .int 0, .int 0, .int 0, .int 0, .int 0, .long 0, .null, .null, .null, .null, .null, .null, .null, .null, .null, .int 0, .int 0, .int 0, .int 0, .int 0, .int 0, .null, .null, .null, .null, .null, .null, .null, .null, .null, .null, .null, .null, .null, .null, .null, .null, .null, .null, .null, .null, .int 0, .int 0, .int 0, .int 0, .int 0, .int 0, .int 0, .int 0, .int 0, .int 0, .int 0, .int 0, .null, .null, .int 0, .int 0, .int 0, .int 0, .int 0, .null, .null, .int 0, .null, .null, .null, .null, .null, .null, .null, .null, .null, .null, .null, .int 0, .int 0, .null, .null, .null, .null, .null, .int 0, .int 0, .null, .null]))]) hD hS hA [15] rfl
  refine va_callv (va_runI (As := []) (rest := [.ref q_94]) ⟨hx, hb, hml, hown, hts⟩ (c_X12_init l D k H.size q_94 ) (cwI 0 hts (gd_in hgd (gd_WS m1312)) rfl rfl rfl (hg (Cond.initialized RX12) m131) (hg (Cond.methodLink RL 12 yX12_init) m1310) (hg (Cond.instanceMethod yX12_init) m1311) rfl (by decide +kernel) ⟨Nat.le_of_ble_eq_true rfl, Nat.le_of_ble_eq_true rfl⟩) (cP_S hPc hKX hDc) rfl rfl hl.1 rfl (lv_room (Nat.le_of_ble_eq_true rfl)) dL_law_12 ⟨Nat.le_of_ble_eq_true rfl, Nat.le_of_ble_eq_true rfl⟩) hS (fun q _ h => hFc q h) hFc (fun u t H1 locs ht hvm hw hB hz1 hk1 hS => ?_)
  obtain ⟨z_96, z_97, z_98, z_99, z_100, z_101, z_102, z_103, z_104, z_105, z_106, z_107, z_108, z_109, z_110, g_111, g_112, g_113, g_114, g_115, g_116, g_117, g_118, g_119, g_120, g_121, g_122, g_123, g_124, g_125, g_126, g_127, g_128, g_129, g_130, g_131, g_132, g_133, g_134, g_135, g_136, g_137, g_138, g_139, g_140, g_141, g_142, g_143, g_144, g_145, g_146, g_147, g_148, g_149, g_150, g_151, g_152, g_153, g_154, g_155, g_156, hP1, hD1⟩ := hB
  rw [ht] at hP1
  obtain ⟨hP, hD⟩ := va_join (wr := [(q_1, .inr (11, z_3)), (z_4, .inr (6, z_5)), (z_6, .inl (k.2.1, 3, .inl z_7)), (z_8, .inr (6, z_9)), (z_10, .inl (k.2.1, 3, .inl z_11)), (z_12, .inl (k.1, 1600, .inl z_13)), (z_14, .inr (7, z_15)), (z_16, .inr (9, z_17)), (z_18, .inr (3, z_19)), (z_20, .inl (k.2.1, 3, .inl z_21)), (z_22, .inr (1, z_23)), (z_24, .inl (k.2.1, 10, .inl z_25)), (z_26, .inl (k.2.1, 410, .inl z_27)), (z_28, .inl (k.2.1, 30, .inl z_29)), (z_30, .inr (8, z_31))]) (w1 := [(q_94, .inr (12, z_96)), (z_97, .inl (k.2.1, 1600, .inl z_98)), (z_99, .inl (k.2.1, 3, .inl z_100)), (z_101, .inl (k.2.1, 3, .inl z_102)), (z_103, .inl (k.2.1, 16, .inl z_104)), (z_105, .inl (k.2.1, 640, .inl z_106)), (z_107, .inl (k.2.2.2, 3, .inl z_108)), (z_109, .inl (k.2.1, 48, .inl z_110))]) hP hD [15] [0, 1, 2, 3, 4, 5, 6, 7, 8, 9, 10, 11, 12, 13, 14] rfl rfl (by decide) (by decide) hk1 hFc hP1 hD1
  generalize H1 = H at hP hS ⊢
  have hP : va_P D classes [(q_1, .inr (11, z_3)), (z_4, .inr (6, z_5)), (z_6, .inl (k.2.1, 3, .inl z_7)), (z_8, .inr (6, z_9)), (z_10, .inl (k.2.1, 3, .inl z_11)), (z_12, .inl (k.1, 1600, .inl z_13)), (z_14, .inr (7, z_15)), (z_16, .inr (9, z_17)), (z_18, .inr (3, z_19)), (z_20, .inl (k.2.1, 3, .inl z_21)), (z_22, .inr (1, z_23)), (z_24, .inl (k.2.1, 10, .inl z_25)), (z_26, .inl (k.2.1, 410, .inl z_27)), (z_28, .inl (k.2.1, 30, .inl z_29)), (z_30, .inr (8, z_31)), (q_94, .inr (12, z_96)), (z_97, .inl (k.2.1, 1600, .inl z_98)), (z_99, .inl (k.2.1, 3, .inl z_100)), (z_101, .inl (k.2.1, 3, .inl z_102)), (z_103, .inl (k.2.1, 16, .inl z_104)), (z_105, .inl (k.2.1, 640, .inl z_106)), (z_107, .inl (k.2.2.2, 3, .inl z_108)), (z_109, .inl (k.2.1, 48, .inl z_110))] H := hP
  have hD : va_D A [(q_1, .inr (11, z_3)), (z_4, .inr (6, z_5)), (z_6, .inl (k.2.1, 3, .inl z_7)), (z_8, .inr (6, z_9)), (z_10, .inl (k.2.1, 3, .inl z_11)), (z_12, .inl (k.1, 1600, .inl z_13)), (z_14, .inr (7, z_15)), (z_16, .inr (9, z_17)), (z_18, .inr (3, z_19)), (z_20, .inl (k.2.1, 3, .inl z_21)), (z_22, .inr (1, z_23)), (z_24, .inl (k.2.1, 10, .inl z_25)), (z_26, .inl (k.2.1, 410, .inl z_27)), (z_28, .inl (k.2.1, 30, .inl z_29)), (z_30, .inr (8, z_31)), (q_94, .inr (12, z_96)), (z_97, .inl (k.2.1, 1600, .inl z_98)), (z_99, .inl (k.2.1, 3, .inl z_100)), (z_101, .inl (k.2.1, 3, .inl z_102)), (z_103, .inl (k.2.1, 16, .inl z_104)), (z_105, .inl (k.2.1, 640, .inl z_106)), (z_107, .inl (k.2.2.2, 3, .inl z_108)), (z_109, .inl (k.2.1, 48, .inl z_110))] := hD
  refine W.widen (k := 119) (n := 46443) (Nat.le_of_ble_eq_true rfl) (Nat.le_of_ble_eq_true rfl) ?_
  refine lv_astore_n (lv' := [(2, .ref q_94), (1, .ref q_1), (0, .ref b)]) hx hb dL_law_15 rfl hl (by decide) rfl (fun ls hl => ?_)
  refine lv_iconst (v := 0) hx hb dL_law_16 (by decide) ?_
  refine lv_istore_n (lv' := [(3, .int 0), (2, .ref q_94), (1, .ref q_1), (0, .ref b)]) hx hb dL_law_17 rfl hl (by decide) rfl (fun ls hl => ?_)
  -- the two objects stand
  have hP2 := hP.sub (ws' := [(q_1, .inr (11, z_3)), (z_4, .inr (6, z_5)), (z_6, .inl (k.2.1, 3, .inl z_7)), (z_8, .inr (6, z_9)), (z_10, .inl (k.2.1, 3, .inl z_11)), (z_12, .inl (k.1, 1600, .inl z_13)), (z_14, .inr (7, z_15)), (z_16, .inr (9, z_17)), (z_18, .inr (3, z_19)), (z_20, .inl (k.2.1, 3, .inl z_21)), (z_22, .inr (1, z_23)), (z_24, .inl (k.2.1, 10, .inl z_25)), (z_26, .inl (k.2.1, 410, .inl z_27)), (z_28, .inl (k.2.1, 30, .inl z_29)), (z_30, .inr (8, z_31)), (q_94, .inr (12, z_96)), (z_97, .inl (k.2.1, 1600, .inl z_98)), (z_99, .inl (k.2.1, 3, .inl z_100)), (z_101, .inl (k.2.1, 3, .inl z_102)), (z_103, .inl (k.2.1, 16, .inl z_104)), (z_105, .inl (k.2.1, 640, .inl z_106)), (z_107, .inl (k.2.2.2, 3, .inl z_108)), (z_109, .inl (k.2.1, 48, .inl z_110))]) [0, 1, 2, 3, 4, 5, 6, 7, 8, 9, 10, 11, 12, 13, 14, 15, 16, 17, 18, 19, 20, 21, 22] rfl
  have hD2 := hD.sub (ws' := [(q_1, .inr (11, z_3)), (z_4, .inr (6, z_5)), (z_6, .inl (k.2.1, 3, .inl z_7)), (z_8, .inr (6, z_9)), (z_10, .inl (k.2.1, 3, .inl z_11)), (z_12, .inl (k.1, 1600, .inl z_13)), (z_14, .inr (7, z_15)), (z_16, .inr (9, z_17)), (z_18, .inr (3, z_19)), (z_20, .inl (k.2.1, 3, .inl z_21)), (z_22, .inr (1, z_23)), (z_24, .inl (k.2.1, 10, .inl z_25)), (z_26, .inl (k.2.1, 410, .inl z_27)), (z_28, .inl (k.2.1, 30, .inl z_29)), (z_30, .inr (8, z_31)), (q_94, .inr (12, z_96)), (z_97, .inl (k.2.1, 1600, .inl z_98)), (z_99, .inl (k.2.1, 3, .inl z_100)), (z_101, .inl (k.2.1, 3, .inl z_102)), (z_103, .inl (k.2.1, 16, .inl z_104)), (z_105, .inl (k.2.1, 640, .inl z_106)), (z_107, .inl (k.2.2.2, 3, .inl z_108)), (z_109, .inl (k.2.1, 48, .inl z_110))]) [0, 1, 2, 3, 4, 5, 6, 7, 8, 9, 10, 11, 12, 13, 14, 15, 16, 17, 18, 19, 20, 21, 22] (by decide) rfl
  have hF : Fresh D k A q_1 q_94 H := ⟨z_3, z_4, z_5, z_6, z_7, z_8, z_9, z_10, z_11, z_12, z_13, z_14, z_15, z_16, z_17, z_18, z_19, z_20, z_21, z_22, z_23, z_24, z_25, z_26, z_27, z_28, z_29, z_30, z_31, z_96, z_97, z_98, z_99, z_100, z_101, z_102, z_103, z_104, z_105, z_106, z_107, z_108, z_109, z_110, ⟨g_32, g_33, g_34, g_35, g_36, g_37, g_38, g_39, g_40⟩, ⟨g_41, g_42, g_43, g_44, g_45, g_46, g_47, g_48, g_49⟩, ⟨g_50, g_51, g_52⟩, ⟨g_53, g_54, g_55, g_56, g_57, g_58, g_59, g_60, g_61⟩, ⟨g_62, g_63, g_64⟩, ⟨g_65, g_66, g_67, g_68, g_69⟩, ⟨g_70, g_71, g_72, g_73, g_74, g_75, g_76⟩, ⟨g_77, g_78⟩, ⟨g_79, g_80, g_81, g_82, g_83, g_84⟩, ⟨g_85, g_86, g_87, g_88, g_89, g_90, g_91⟩, ⟨g_92, g_93⟩, ⟨g_111, g_112, g_113, g_114, g_115, g_116, g_117, g_118, g_119, g_120, g_121, g_122, g_123, g_124, g_125, g_126, g_127, g_128, g_129, g_130, g_131, g_132, g_133, g_134, g_135, g_136, g_137, g_138, g_139, g_140, g_141, g_142, g_143, g_144, g_145⟩, ⟨g_146, g_147, g_148⟩, ⟨g_149, g_150, g_151, g_152, g_153, g_154, g_155⟩, g_156, hP2, hD2⟩
  clear hP2 hD2 hP hD
  have hl : lv_has ls 4 [(0, .ref b), (1, .ref q_1), (2, .ref q_94), (3, .int 0)] := lv_sub hl [3, 2, 1, 0] rfl
  refine lv_iload_n hx hb dL_law_18 rfl (lv_at hl 3 rfl) ?_
  refine lv_aload_n hx hb dL_law_19 rfl (lv_at hl 0 rfl) ?_
  refine va_slen hx hb hX hbl hbA hS dL_law_20 ?_
  refine lv_bipush (v := 6) hx hb dL_law_21 (by decide) ?_
  refine lv_isub hx hb dL_law_23 ?_
  refine lv_icmp_gt (tgt := 1651) hx hb dL_law_24 (by decide) (fun c_1 => ?_) (fun c_1 => ?_)
  · refine lv_iconst (v := 1) hx hb dL_law_1651 (by decide) ?_
    refine va_forget (fun q hq => hA2 _ (hS.2.2 q hq)) ?_
    refine W.widen (k := 600000) (n := 7302250) (Nat.le_of_ble_eq_true rfl) (Nat.le_of_ble_eq_true rfl) ?_
    exact lw_ret hx hb hr hlocks dL_law_1652
  have hL6 : L = 6 := len6 hL c_1
  refine lv_aload_n hx hb dL_law_27 rfl (lv_at hl 0 rfl) ?_
  refine lv_iload_n hx hb dL_law_28 rfl (lv_at hl 3 rfl) ?_
  have hin0 : vp_in 0 L := by rw [hL6]; exact (show ¬ ((0 : Int32) < 0 ∨ 6 ≤ (0 : Int32).toNatClampNeg) from by decide)
  refine va_sld hx hb hX hbl hbA hS hin0 dL_law_29 ?_
  refine lv_bipush (v := 63) hx hb dL_law_30 (by decide) ?_
  refine lv_iand hx hb dL_law_32 ?_
  refine lv_topi (fun z ez => ?_)
  by_cases d_0 : z = 0
  · refine lv_tableIn (tgt := 204) hx hb dL_law_33 (by rw [d_0]; decide) (by rw [d_0]; decide) (off := 171) (by rw [d_0]; decide) (by decide) ?_
    exact law_0 hL6 C0 hKX hA hA2 hbA hF hS hl
  by_cases d_1 : z = 1
  · refine lv_tableIn (tgt := 267) hx hb dL_law_33 (by rw [d_1]; decide) (by rw [d_1]; decide) (off := 234) (by rw [d_1]; decide) (by decide) ?_
    exact law_1 hL6 C0 hKX hA hA2 hbA hF hS hl
  by_cases d_2 : z = 2
  · refine lv_tableIn (tgt := 290) hx hb dL_law_33 (by rw [d_2]; decide) (by rw [d_2]; decide) (off := 257) (by rw [d_2]; decide) (by decide) ?_
    exact law_2 hL6 C0 hKX hA hA2 hbA hF hS hl
  by_cases d_3 : z = 3
  · refine lv_tableIn (tgt := 303) hx hb dL_law_33 (by rw [d_3]; decide) (by rw [d_3]; decide) (off := 270) (by rw [d_3]; decide) (by decide) ?_
    exact law_3 hL6 C0 hKX hA hA2 hbA hF hS hl
  by_cases d_4 : z = 4
  · refine lv_tableIn (tgt := 326) hx hb dL_law_33 (by rw [d_4]; decide) (by rw [d_4]; decide) (off := 293) (by rw [d_4]; decide) (by decide) ?_
    exact law_4 hL6 C0 hKX hA hA2 hbA hF hS hl
  by_cases d_5 : z = 5
  · refine lv_tableIn (tgt := 369) hx hb dL_law_33 (by rw [d_5]; decide) (by rw [d_5]; decide) (off := 336) (by rw [d_5]; decide) (by decide) ?_
    exact law_5 hL6 C0 hKX hA hA2 hbA hF hS hl
  by_cases d_6 : z = 6
  · refine lv_tableIn (tgt := 392) hx hb dL_law_33 (by rw [d_6]; decide) (by rw [d_6]; decide) (off := 359) (by rw [d_6]; decide) (by decide) ?_
    exact law_6 hL6 C0 hKX hA hA2 hbA hF hS hl
  by_cases d_7 : z = 7
  · refine lv_tableIn (tgt := 435) hx hb dL_law_33 (by rw [d_7]; decide) (by rw [d_7]; decide) (off := 402) (by rw [d_7]; decide) (by decide) ?_
    exact law_7 hL6 C0 hKX hA hA2 hbA hF hS hl
  by_cases d_8 : z = 8
  · refine lv_tableIn (tgt := 478) hx hb dL_law_33 (by rw [d_8]; decide) (by rw [d_8]; decide) (off := 445) (by rw [d_8]; decide) (by decide) ?_
    exact law_8 hL6 C0 hKX hA hA2 hbA hF hS hl
  by_cases d_9 : z = 9
  · refine lv_tableIn (tgt := 531) hx hb dL_law_33 (by rw [d_9]; decide) (by rw [d_9]; decide) (off := 498) (by rw [d_9]; decide) (by decide) ?_
    exact law_9 hL6 C0 hKX hA hA2 hbA hF hS hl
  by_cases d_10 : z = 10
  · refine lv_tableIn (tgt := 584) hx hb dL_law_33 (by rw [d_10]; decide) (by rw [d_10]; decide) (off := 551) (by rw [d_10]; decide) (by decide) ?_
    exact law_10 hL6 C0 hKX hA hA2 hbA hF hS hl
  by_cases d_11 : z = 11
  · refine lv_tableIn (tgt := 638) hx hb dL_law_33 (by rw [d_11]; decide) (by rw [d_11]; decide) (off := 605) (by rw [d_11]; decide) (by decide) ?_
    exact law_11 hL6 C0 hKX hA hA2 hbA hF hS hl
  by_cases d_12 : z = 12
  · refine lv_tableIn (tgt := 691) hx hb dL_law_33 (by rw [d_12]; decide) (by rw [d_12]; decide) (off := 658) (by rw [d_12]; decide) (by decide) ?_
    exact law_12 hL6 C0 hKX hA hA2 hbA hF hS hl
  by_cases d_13 : z = 13
  · refine lv_tableIn (tgt := 754) hx hb dL_law_33 (by rw [d_13]; decide) (by rw [d_13]; decide) (off := 721) (by rw [d_13]; decide) (by decide) ?_
    exact law_13 hL6 C0 hKX hA hA2 hbA hF hS hl
  by_cases d_14 : z = 14
  · refine lv_tableIn (tgt := 797) hx hb dL_law_33 (by rw [d_14]; decide) (by rw [d_14]; decide) (off := 764) (by rw [d_14]; decide) (by decide) ?_
    exact law_14 hL6 C0 hKX hA hA2 hbA hF hS hl
  by_cases d_15 : z = 15
  · refine lv_tableIn (tgt := 860) hx hb dL_law_33 (by rw [d_15]; decide) (by rw [d_15]; decide) (off := 827) (by rw [d_15]; decide) (by decide) ?_
    exact law_15 hL6 C0 hKX hA hA2 hbA hF hS hl
  by_cases d_16 : z = 16
  · refine lv_tableIn (tgt := 913) hx hb dL_law_33 (by rw [d_16]; decide) (by rw [d_16]; decide) (off := 880) (by rw [d_16]; decide) (by decide) ?_
    exact law_16 hL6 C0 hKX hA hA2 hbA hF hS hl
  by_cases d_17 : z = 17
  · refine lv_tableIn (tgt := 977) hx hb dL_law_33 (by rw [d_17]; decide) (by rw [d_17]; decide) (off := 944) (by rw [d_17]; decide) (by decide) ?_
    exact law_17 hL6 C0 hKX hA hA2 hbA hF hS hl
  by_cases d_18 : z = 18
  · refine lv_tableIn (tgt := 1020) hx hb dL_law_33 (by rw [d_18]; decide) (by rw [d_18]; decide) (off := 987) (by rw [d_18]; decide) (by decide) ?_
    exact law_18 hL6 C0 hKX hA hA2 hbA hF hS hl
  by_cases d_19 : z = 19
  · refine lv_tableIn (tgt := 1084) hx hb dL_law_33 (by rw [d_19]; decide) (by rw [d_19]; decide) (off := 1051) (by rw [d_19]; decide) (by decide) ?_
    exact law_19 hL6 C0 hKX hA hA2 hbA hF hS hl
  by_cases d_20 : z = 20
  · refine lv_tableIn (tgt := 1147) hx hb dL_law_33 (by rw [d_20]; decide) (by rw [d_20]; decide) (off := 1114) (by rw [d_20]; decide) (by decide) ?_
    exact law_20 hL6 C0 hKX hA hA2 hbA hF hS hl
  by_cases d_21 : z = 21
  · refine lv_tableIn (tgt := 1200) hx hb dL_law_33 (by rw [d_21]; decide) (by rw [d_21]; decide) (off := 1167) (by rw [d_21]; decide) (by decide) ?_
    exact law_21 hL6 C0 hKX hA hA2 hbA hF hS hl
  by_cases d_22 : z = 22
  · refine lv_tableIn (tgt := 1233) hx hb dL_law_33 (by rw [d_22]; decide) (by rw [d_22]; decide) (off := 1200) (by rw [d_22]; decide) (by decide) ?_
    exact law_22 hL6 C0 hKX hA hA2 hbA hF hS hl
  by_cases d_23 : z = 23
  · refine lv_tableIn (tgt := 1276) hx hb dL_law_33 (by rw [d_23]; decide) (by rw [d_23]; decide) (off := 1243) (by rw [d_23]; decide) (by decide) ?_
    exact law_23 hL6 C0 hKX hA hA2 hbA hF hS hl
  by_cases d_24 : z = 24
  · refine lv_tableIn (tgt := 1299) hx hb dL_law_33 (by rw [d_24]; decide) (by rw [d_24]; decide) (off := 1266) (by rw [d_24]; decide) (by decide) ?_
    exact law_24 hL6 C0 hKX hA hA2 hbA hF hS hl
  by_cases d_25 : z = 25
  · refine lv_tableIn (tgt := 1322) hx hb dL_law_33 (by rw [d_25]; decide) (by rw [d_25]; decide) (off := 1289) (by rw [d_25]; decide) (by decide) ?_
    exact law_25 hL6 C0 hKX hA hA2 hbA hF hS hl
  by_cases d_26 : z = 26
  · refine lv_tableIn (tgt := 1335) hx hb dL_law_33 (by rw [d_26]; decide) (by rw [d_26]; decide) (off := 1302) (by rw [d_26]; decide) (by decide) ?_
    exact law_26 hL6 C0 hKX hA hA2 hbA hF hS hl
  by_cases d_27 : z = 27
  · refine lv_tableIn (tgt := 1348) hx hb dL_law_33 (by rw [d_27]; decide) (by rw [d_27]; decide) (off := 1315) (by rw [d_27]; decide) (by decide) ?_
    exact law_27 hL6 C0 hKX hA hA2 hbA hF hS hl
  by_cases d_28 : z = 28
  · refine lv_tableIn (tgt := 1361) hx hb dL_law_33 (by rw [d_28]; decide) (by rw [d_28]; decide) (off := 1328) (by rw [d_28]; decide) (by decide) ?_
    exact law_28 hL6 C0 hKX hA hA2 hbA hF hS hl
  by_cases d_29 : z = 29
  · refine lv_tableIn (tgt := 1374) hx hb dL_law_33 (by rw [d_29]; decide) (by rw [d_29]; decide) (off := 1341) (by rw [d_29]; decide) (by decide) ?_
    exact law_29 hL6 C0 hKX hA hA2 hbA hF hS hl
  by_cases d_30 : z = 30
  · refine lv_tableIn (tgt := 1397) hx hb dL_law_33 (by rw [d_30]; decide) (by rw [d_30]; decide) (off := 1364) (by rw [d_30]; decide) (by decide) ?_
    exact law_30 hL6 C0 hKX hA hA2 hbA hF hS hl
  by_cases d_31 : z = 31
  · refine lv_tableIn (tgt := 1420) hx hb dL_law_33 (by rw [d_31]; decide) (by rw [d_31]; decide) (off := 1387) (by rw [d_31]; decide) (by decide) ?_
    exact law_31 hL6 C0 hKX hA hA2 hbA hF hS hl
  by_cases d_32 : z = 32
  · refine lv_tableIn (tgt := 1463) hx hb dL_law_33 (by rw [d_32]; decide) (by rw [d_32]; decide) (off := 1430) (by rw [d_32]; decide) (by decide) ?_
    exact law_32 hL6 C0 hKX hA hA2 hbA hF hS hl
  by_cases d_33 : z = 33
  · refine lv_tableIn (tgt := 1486) hx hb dL_law_33 (by rw [d_33]; decide) (by rw [d_33]; decide) (off := 1453) (by rw [d_33]; decide) (by decide) ?_
    exact law_33 hL6 C0 hKX hA hA2 hbA hF hS hl
  by_cases d_34 : z = 34
  · refine lv_tableIn (tgt := 1509) hx hb dL_law_33 (by rw [d_34]; decide) (by rw [d_34]; decide) (off := 1476) (by rw [d_34]; decide) (by decide) ?_
    exact law_34 hL6 C0 hKX hA hA2 hbA hF hS hl
  by_cases d_35 : z = 35
  · refine lv_tableIn (tgt := 1532) hx hb dL_law_33 (by rw [d_35]; decide) (by rw [d_35]; decide) (off := 1499) (by rw [d_35]; decide) (by decide) ?_
    exact law_35 hL6 C0 hKX hA hA2 hbA hF hS hl
  by_cases d_36 : z = 36
  · refine lv_tableIn (tgt := 1576) hx hb dL_law_33 (by rw [d_36]; decide) (by rw [d_36]; decide) (off := 1543) (by rw [d_36]; decide) (by decide) ?_
    exact law_36 hL6 C0 hKX hA hA2 hbA hF hS hl
  by_cases d_37 : z = 37
  · refine lv_tableIn (tgt := 1599) hx hb dL_law_33 (by rw [d_37]; decide) (by rw [d_37]; decide) (off := 1566) (by rw [d_37]; decide) (by decide) ?_
    exact law_37 hL6 C0 hKX hA hA2 hbA hF hS hl
  by_cases d_38 : z = 38
  · refine lv_tableIn (tgt := 1622) hx hb dL_law_33 (by rw [d_38]; decide) (by rw [d_38]; decide) (off := 1589) (by rw [d_38]; decide) (by decide) ?_
    exact law_38 hL6 C0 hKX hA hA2 hbA hF hS hl
  refine lv_tableOut (tgt := 1645) hx hb dL_law_33 (tb_out38 z d_0 d_1 d_2 d_3 d_4 d_5 d_6 d_7 d_8 d_9 d_10 d_11 d_12 d_13 d_14 d_15 d_16 d_17 d_18 d_19 d_20 d_21 d_22 d_23 d_24 d_25 d_26 d_27 d_28 d_29 d_30 d_31 d_32 d_33 d_34 d_35 d_36 d_37 d_38) (by decide) ?_
  exact law_tail hL6 C0 hKX hA hA2 hbA hS hl
