def lb (c : ByteArray) : List Nat := c.data.toList.map UInt8.toNat
/-- the bytes l stand in c from p on -/
def BB (c : ByteArray) (p : Nat) (l : List Nat) : Prop := ∃ t, (lb c).drop p = l ++ t
theorem BB.hd {c : ByteArray} {p b : Nat} {l : List Nat} (h : BB c p (b :: l)) : (lb c)[p]? = some b := by
  obtain ⟨t, h⟩ := h
  have e : ((lb c).drop p)[0]? = some b := by rw [h]; rfl
  rw [List.getElem?_drop, Nat.add_zero] at e
  exact e
theorem BB.tl {c : ByteArray} {p b : Nat} {l : List Nat} (h : BB c p (b :: l)) : BB c (p + 1) l := by
  obtain ⟨t, h⟩ := h
  refine ⟨t, ?_⟩
  have e : ((lb c).drop p).drop 1 = l ++ t := by rw [h]; rfl
  rw [List.drop_drop] at e
  first | exact e | (rw [Nat.add_comm] at e; exact e)
theorem BB.lt {c : ByteArray} {p b : Nat} {l : List Nat} (h : BB c p (b :: l)) : b < 256 := by
  have h := h.hd
  unfold lb at h
  rw [List.getElem?_map] at h
  obtain ⟨x, -, rfl⟩ := Option.map_eq_some_iff.mp h
  exact Nat.lt_of_lt_of_le x.toNat_lt (by decide)
noncomputable def dgo (bs : List Nat) : Nat → List (Nat × List Nat) → Bool :=
  List.rec (motive := fun _ => Nat → List (Nat × List Nat) → Bool) (fun _ rs => rs.isEmpty) (fun b t ih p rs => match rs with
    | [] => true
    | r :: rs => bif Nat.beq p r.1 then r.2.isPrefixOf (b :: t) && ih p.succ rs else ih p.succ (r :: rs)) bs
theorem dgo_ok : ∀ (bs : List Nat) (p : Nat) (rs : List (Nat × List Nat)), dgo bs p rs = true → ∀ q ∈ rs, ∃ j, q.1 = p + j ∧ ∃ t, bs.drop j = q.2 ++ t
  | [], p, [], h, q, hq => absurd hq List.not_mem_nil
  | [], p, r :: rs, h, q, hq => absurd (show false = true from h) Bool.false_ne_true
  | b :: t, p, [], h, q, hq => absurd hq List.not_mem_nil
  | b :: t, p, r :: rs, h, q, hq => by
    have h : (bif Nat.beq p r.1 then r.2.isPrefixOf (b :: t) && dgo t p.succ rs else dgo t p.succ (r :: rs)) = true := h
    cases e : Nat.beq p r.1 with
    | true =>
      rw [e] at h
      have h : (r.2.isPrefixOf (b :: t) && dgo t p.succ rs) = true := h
      rw [Bool.and_eq_true] at h
      rcases List.mem_cons.mp hq with rfl | hq
      · obtain ⟨t', ht⟩ := List.isPrefixOf_iff_prefix.mp h.1
        exact ⟨0, (Nat.eq_of_beq_eq_true e).symm, t', ht.symm⟩
      · obtain ⟨j, hj, t', ht⟩ := dgo_ok t p.succ rs h.2 q hq
        exact ⟨j + 1, by omega, t', ht⟩
    | false =>
      rw [e] at h
      have h : dgo t p.succ (r :: rs) = true := h
      obtain ⟨j, hj, t', ht⟩ := dgo_ok t p.succ (r :: rs) h q hq
      exact ⟨j + 1, by omega, t', ht⟩
theorem dw {c : ByteArray} {rs : List (Nat × List Nat)} (h : dgo (lb c) 0 rs = true) (i : Nat) {p : Nat} {l : List Nat} (hi : rs[i]? = some (p, l)) : BB c p l := by
  obtain ⟨j, hj, t, ht⟩ := dgo_ok _ _ _ h _ (List.mem_of_getElem? hi)
  have e : p = j := hj.trans (Nat.zero_add j)
  subst e
  exact ⟨t, ht⟩
section DECB
theorem rdu1 {c : ByteArray} {p b : Nat} (h : (lb c)[p]? = some b) : Jvm.ClassFile.Reader.runAt (Jvm.ClassFile.Reader.u1 : Jvm.ClassFile.Decoder Nat) c p = .ok (b, p + 1) := by
  obtain ⟨⟨l⟩⟩ := c
  unfold lb at h
  rw [List.getElem?_map] at h
  obtain ⟨x, hx, rfl⟩ := Option.map_eq_some_iff.mp h
  have hx : l[p]? = some x := hx
  obtain ⟨hp, hv⟩ := List.getElem?_eq_some_iff.mp hx
  have hp' : p < (ByteArray.mk ⟨l⟩).size := hp
  have e : Jvm.ClassFile.Reader.runAt (Jvm.ClassFile.Reader.u1 : Jvm.ClassFile.Decoder Nat) (ByteArray.mk ⟨l⟩) p = (dite (p < (ByteArray.mk ⟨l⟩).size) (fun h => (do set (p + 1); pure ((ByteArray.mk ⟨l⟩)[p]'h).toNat : Jvm.ClassFile.Decoder Nat)) (fun _ => throw (Jvm.ClassFile.HasTruncated.truncated p))) (ByteArray.mk ⟨l⟩) p := rfl
  rw [e, dif_pos hp']
  show Except.ok (((ByteArray.mk ⟨l⟩)[p]'hp').toNat, p + 1) = _
  rw [show ((ByteArray.mk ⟨l⟩)[p]'hp') = x from hv]
theorem rdbk {α β : Type} {r : Jvm.ClassFile.Decoder α} {f : α → Jvm.ClassFile.Decoder β} {c : ByteArray} {p p' : Nat} {a : α} {y : Except Jvm.ClassFile.DecodeError (β × Nat)} (h : Jvm.ClassFile.Reader.runAt r c p = .ok (a, p')) (k : Jvm.ClassFile.Reader.runAt (f a) c p' = y) : Jvm.ClassFile.Reader.runAt (r >>= f) c p = y := by
  have h : r c p = .ok (a, p') := h
  have e : Jvm.ClassFile.Reader.runAt (r >>= f) c p = Except.bind (r c p) (fun q => f q.1 c q.2) := rfl
  rw [e, h]
  exact k
theorem dk_of {c : ByteArray} {pc n : Nat} {i : Jvm.ClassFile.Instr} (h : Jvm.ClassFile.Reader.runAt (Jvm.ClassFile.Decoder.instr pc) c pc = .ok (i, pc + n)) : decode c pc = .ok (i, n) := by
  have e : decode c pc = Except.bind (Jvm.ClassFile.Reader.runAt (Jvm.ClassFile.Decoder.instr pc) c pc) (fun q => .ok (q.1, q.2 - pc)) := rfl
  rw [e, h]
  show Except.ok (i, pc + n - pc) = _
  rw [Nat.add_sub_cancel_left]
theorem rdu2 {c : ByteArray} {p h l : Nat} (hb : BB c p [h, l]) : Jvm.ClassFile.Reader.runAt (Jvm.ClassFile.Reader.u2 : Jvm.ClassFile.Decoder Nat) c p = .ok (h * 256 + l, p + 2) := by
  unfold Jvm.ClassFile.Reader.u2
  refine rdbk (rdu1 hb.hd) ?_
  exact rdbk (rdu1 hb.tl.hd) rfl
def sg1 (b : Nat) : Int := bif Nat.blt b 128 then Int.ofNat b else Int.negSucc (255 - b)
def sg2 (h l : Nat) : Int := bif Nat.blt h 128 then Int.ofNat (h * 256 + l) else Int.negSucc (65535 - (h * 256 + l))
theorem sg1_eq {b : Nat} (hb : b < 256) : Jvm.ClassFile.Reader.signed 8 b = sg1 b := by
  unfold Jvm.ClassFile.Reader.signed sg1
  by_cases h : b < 128
  · have e : Nat.blt b 128 = true := by rw [Nat.blt_eq]; exact h
    rw [if_pos (show b < 2 ^ (8 - 1) from h), e]; rfl
  · have e : Nat.blt b 128 = false := by
      cases e : Nat.blt b 128 with
      | false => rfl
      | true => rw [Nat.blt_eq] at e; exact absurd e h
    rw [if_neg (show ¬ b < 2 ^ (8 - 1) from h), e]
    show (b : Int) - ((2 ^ 8 : Nat) : Int) = Int.negSucc (255 - b)
    have e2 : Int.negSucc (255 - b) = - ((255 - b : Nat) : Int) - 1 := by omega
    rw [e2, show ((2 ^ 8 : Nat) : Int) = 256 from rfl]
    omega
theorem sg2_eq {h l : Nat} (hh : h < 256) (hl : l < 256) : Jvm.ClassFile.Reader.signed 16 (h * 256 + l) = sg2 h l := by
  unfold Jvm.ClassFile.Reader.signed sg2
  by_cases hc : h < 128
  · have e : Nat.blt h 128 = true := by rw [Nat.blt_eq]; exact hc
    rw [if_pos (show h * 256 + l < 2 ^ (16 - 1) from by have : (2 : Nat) ^ (16 - 1) = 32768 := rfl; omega), e]; rfl
  · have e : Nat.blt h 128 = false := by
      cases e : Nat.blt h 128 with
      | false => rfl
      | true => rw [Nat.blt_eq] at e; exact absurd e hc
    rw [if_neg (show ¬ h * 256 + l < 2 ^ (16 - 1) from by have : (2 : Nat) ^ (16 - 1) = 32768 := rfl; omega), e]
    show ((h * 256 + l : Nat) : Int) - ((2 ^ 16 : Nat) : Int) = Int.negSucc (65535 - (h * 256 + l))
    have e2 : Int.negSucc (65535 - (h * 256 + l)) = - ((65535 - (h * 256 + l) : Nat) : Int) - 1 := by omega
    rw [e2, show ((2 ^ 16 : Nat) : Int) = 65536 from rfl]
    omega
theorem rds1 {c : ByteArray} {p b : Nat} {v : Int} {t : List Nat} (hb : BB c p (b :: t)) (hv : sg1 b = v) : Jvm.ClassFile.Reader.runAt (Jvm.ClassFile.Reader.s1 : Jvm.ClassFile.Decoder Int) c p = .ok (v, p + 1) := by
  have h : (Jvm.ClassFile.Reader.u1 : Jvm.ClassFile.Decoder Nat) c p = .ok (b, p + 1) := rdu1 hb.hd
  have e : Jvm.ClassFile.Reader.runAt (Jvm.ClassFile.Reader.s1 : Jvm.ClassFile.Decoder Int) c p = Except.bind ((Jvm.ClassFile.Reader.u1 : Jvm.ClassFile.Decoder Nat) c p) (fun q => .ok (Jvm.ClassFile.Reader.signed 8 q.1, q.2)) := rfl
  rw [e, h]
  show Except.ok (Jvm.ClassFile.Reader.signed 8 b, p + 1) = _
  rw [sg1_eq hb.lt, hv]
theorem rds2 {c : ByteArray} {p h l : Nat} {v : Int} (hb : BB c p [h, l]) (hv : sg2 h l = v) : Jvm.ClassFile.Reader.runAt (Jvm.ClassFile.Reader.s2 : Jvm.ClassFile.Decoder Int) c p = .ok (v, p + 2) := by
  have h1 : (Jvm.ClassFile.Reader.u2 : Jvm.ClassFile.Decoder Nat) c p = .ok (h * 256 + l, p + 2) := rdu2 hb
  have e : Jvm.ClassFile.Reader.runAt (Jvm.ClassFile.Reader.s2 : Jvm.ClassFile.Decoder Int) c p = Except.bind ((Jvm.ClassFile.Reader.u2 : Jvm.ClassFile.Decoder Nat) c p) (fun q => .ok (Jvm.ClassFile.Reader.signed 16 q.1, q.2)) := rfl
  rw [e, h1]
  show Except.ok (Jvm.ClassFile.Reader.signed 16 (h * 256 + l), p + 2) = _
  rw [sg2_eq hb.lt hb.tl.lt, hv]

theorem dk_2 {c : ByteArray} {pc : Nat} (hb : BB c pc [2]) : decode c pc = .ok (.iconst (-1), 1) := by
  refine dk_of ?_
  unfold Jvm.ClassFile.Decoder.instr
  refine rdbk (rdu1 hb.hd) ?_
  exact rfl
theorem dk_3 {c : ByteArray} {pc : Nat} (hb : BB c pc [3]) : decode c pc = .ok (.iconst 0, 1) := by
  refine dk_of ?_
  unfold Jvm.ClassFile.Decoder.instr
  refine rdbk (rdu1 hb.hd) ?_
  exact rfl
theorem dk_4 {c : ByteArray} {pc : Nat} (hb : BB c pc [4]) : decode c pc = .ok (.iconst 1, 1) := by
  refine dk_of ?_
  unfold Jvm.ClassFile.Decoder.instr
  refine rdbk (rdu1 hb.hd) ?_
  exact rfl
theorem dk_5 {c : ByteArray} {pc : Nat} (hb : BB c pc [5]) : decode c pc = .ok (.iconst 2, 1) := by
  refine dk_of ?_
  unfold Jvm.ClassFile.Decoder.instr
  refine rdbk (rdu1 hb.hd) ?_
  exact rfl
theorem dk_6 {c : ByteArray} {pc : Nat} (hb : BB c pc [6]) : decode c pc = .ok (.iconst 3, 1) := by
  refine dk_of ?_
  unfold Jvm.ClassFile.Decoder.instr
  refine rdbk (rdu1 hb.hd) ?_
  exact rfl
theorem dk_7 {c : ByteArray} {pc : Nat} (hb : BB c pc [7]) : decode c pc = .ok (.iconst 4, 1) := by
  refine dk_of ?_
  unfold Jvm.ClassFile.Decoder.instr
  refine rdbk (rdu1 hb.hd) ?_
  exact rfl
theorem dk_8 {c : ByteArray} {pc : Nat} (hb : BB c pc [8]) : decode c pc = .ok (.iconst 5, 1) := by
  refine dk_of ?_
  unfold Jvm.ClassFile.Decoder.instr
  refine rdbk (rdu1 hb.hd) ?_
  exact rfl
theorem dk_9 {c : ByteArray} {pc : Nat} (hb : BB c pc [9]) : decode c pc = .ok (.lconst 0, 1) := by
  refine dk_of ?_
  unfold Jvm.ClassFile.Decoder.instr
  refine rdbk (rdu1 hb.hd) ?_
  exact rfl
theorem dk_10 {c : ByteArray} {pc : Nat} (hb : BB c pc [10]) : decode c pc = .ok (.lconst 1, 1) := by
  refine dk_of ?_
  unfold Jvm.ClassFile.Decoder.instr
  refine rdbk (rdu1 hb.hd) ?_
  exact rfl
theorem dk_16 {c : ByteArray} {pc : Nat} {k : Nat} {v : Int} (hb : BB c pc [16, k]) (hv : sg1 k = v) : decode c pc = .ok (.bipush v, 2) := by
  refine dk_of ?_
  unfold Jvm.ClassFile.Decoder.instr
  refine rdbk (rdu1 hb.hd) ?_
  exact rdbk (r := Jvm.ClassFile.Reader.s1) (f := fun a => pure (Jvm.ClassFile.Instr.bipush a)) (rds1 hb.tl hv) rfl
theorem dk_17 {c : ByteArray} {pc : Nat} {h l : Nat} {v : Int} (hb : BB c pc [17, h, l]) (hv : sg2 h l = v) : decode c pc = .ok (.sipush v, 3) := by
  refine dk_of ?_
  unfold Jvm.ClassFile.Decoder.instr
  refine rdbk (rdu1 hb.hd) ?_
  exact rdbk (r := Jvm.ClassFile.Reader.s2) (f := fun a => pure (Jvm.ClassFile.Instr.sipush a)) (rds2 hb.tl hv) rfl
theorem dk_18 {c : ByteArray} {pc : Nat} {k : Nat} (hb : BB c pc [18, k]) : decode c pc = .ok (.ldc k, 2) := by
  refine dk_of ?_
  unfold Jvm.ClassFile.Decoder.instr
  refine rdbk (rdu1 hb.hd) ?_
  exact rdbk (r := Jvm.ClassFile.Reader.u1) (f := fun a => pure (Jvm.ClassFile.Instr.ldc a)) (rdu1 hb.tl.hd) rfl
theorem dk_19 {c : ByteArray} {pc : Nat} {h l k : Nat} (hb : BB c pc [19, h, l]) (hk : h * 256 + l = k) : decode c pc = .ok (.ldc_w (h * 256 + l), 3) := by
  subst hk
  refine dk_of ?_
  unfold Jvm.ClassFile.Decoder.instr
  refine rdbk (rdu1 hb.hd) ?_
  exact rdbk (r := Jvm.ClassFile.Reader.u2) (f := fun a => pure (Jvm.ClassFile.Instr.ldc_w a)) (rdu2 hb.tl) rfl
theorem dk_20 {c : ByteArray} {pc : Nat} {h l k : Nat} (hb : BB c pc [20, h, l]) (hk : h * 256 + l = k) : decode c pc = .ok (.ldc2_w (h * 256 + l), 3) := by
  subst hk
  refine dk_of ?_
  unfold Jvm.ClassFile.Decoder.instr
  refine rdbk (rdu1 hb.hd) ?_
  exact rdbk (r := Jvm.ClassFile.Reader.u2) (f := fun a => pure (Jvm.ClassFile.Instr.ldc2_w a)) (rdu2 hb.tl) rfl
theorem dk_21 {c : ByteArray} {pc : Nat} {k : Nat} (hb : BB c pc [21, k]) : decode c pc = .ok (.iload k, 2) := by
  refine dk_of ?_
  unfold Jvm.ClassFile.Decoder.instr
  refine rdbk (rdu1 hb.hd) ?_
  exact rdbk (r := Jvm.ClassFile.Reader.u1) (f := fun a => pure (Jvm.ClassFile.Instr.iload a)) (rdu1 hb.tl.hd) rfl
theorem dk_22 {c : ByteArray} {pc : Nat} {k : Nat} (hb : BB c pc [22, k]) : decode c pc = .ok (.lload k, 2) := by
  refine dk_of ?_
  unfold Jvm.ClassFile.Decoder.instr
  refine rdbk (rdu1 hb.hd) ?_
  exact rdbk (r := Jvm.ClassFile.Reader.u1) (f := fun a => pure (Jvm.ClassFile.Instr.lload a)) (rdu1 hb.tl.hd) rfl
theorem dk_25 {c : ByteArray} {pc : Nat} {k : Nat} (hb : BB c pc [25, k]) : decode c pc = .ok (.aload k, 2) := by
  refine dk_of ?_
  unfold Jvm.ClassFile.Decoder.instr
  refine rdbk (rdu1 hb.hd) ?_
  exact rdbk (r := Jvm.ClassFile.Reader.u1) (f := fun a => pure (Jvm.ClassFile.Instr.aload a)) (rdu1 hb.tl.hd) rfl
theorem dk_26 {c : ByteArray} {pc : Nat} (hb : BB c pc [26]) : decode c pc = .ok (.iload_n 0, 1) := by
  refine dk_of ?_
  unfold Jvm.ClassFile.Decoder.instr
  refine rdbk (rdu1 hb.hd) ?_
  exact rfl
theorem dk_27 {c : ByteArray} {pc : Nat} (hb : BB c pc [27]) : decode c pc = .ok (.iload_n 1, 1) := by
  refine dk_of ?_
  unfold Jvm.ClassFile.Decoder.instr
  refine rdbk (rdu1 hb.hd) ?_
  exact rfl
theorem dk_28 {c : ByteArray} {pc : Nat} (hb : BB c pc [28]) : decode c pc = .ok (.iload_n 2, 1) := by
  refine dk_of ?_
  unfold Jvm.ClassFile.Decoder.instr
  refine rdbk (rdu1 hb.hd) ?_
  exact rfl
theorem dk_29 {c : ByteArray} {pc : Nat} (hb : BB c pc [29]) : decode c pc = .ok (.iload_n 3, 1) := by
  refine dk_of ?_
  unfold Jvm.ClassFile.Decoder.instr
  refine rdbk (rdu1 hb.hd) ?_
  exact rfl
theorem dk_30 {c : ByteArray} {pc : Nat} (hb : BB c pc [30]) : decode c pc = .ok (.lload_n 0, 1) := by
  refine dk_of ?_
  unfold Jvm.ClassFile.Decoder.instr
  refine rdbk (rdu1 hb.hd) ?_
  exact rfl
theorem dk_31 {c : ByteArray} {pc : Nat} (hb : BB c pc [31]) : decode c pc = .ok (.lload_n 1, 1) := by
  refine dk_of ?_
  unfold Jvm.ClassFile.Decoder.instr
  refine rdbk (rdu1 hb.hd) ?_
  exact rfl
theorem dk_32 {c : ByteArray} {pc : Nat} (hb : BB c pc [32]) : decode c pc = .ok (.lload_n 2, 1) := by
  refine dk_of ?_
  unfold Jvm.ClassFile.Decoder.instr
  refine rdbk (rdu1 hb.hd) ?_
  exact rfl
theorem dk_33 {c : ByteArray} {pc : Nat} (hb : BB c pc [33]) : decode c pc = .ok (.lload_n 3, 1) := by
  refine dk_of ?_
  unfold Jvm.ClassFile.Decoder.instr
  refine rdbk (rdu1 hb.hd) ?_
  exact rfl
theorem dk_42 {c : ByteArray} {pc : Nat} (hb : BB c pc [42]) : decode c pc = .ok (.aload_n 0, 1) := by
  refine dk_of ?_
  unfold Jvm.ClassFile.Decoder.instr
  refine rdbk (rdu1 hb.hd) ?_
  exact rfl
theorem dk_43 {c : ByteArray} {pc : Nat} (hb : BB c pc [43]) : decode c pc = .ok (.aload_n 1, 1) := by
  refine dk_of ?_
  unfold Jvm.ClassFile.Decoder.instr
  refine rdbk (rdu1 hb.hd) ?_
  exact rfl
theorem dk_44 {c : ByteArray} {pc : Nat} (hb : BB c pc [44]) : decode c pc = .ok (.aload_n 2, 1) := by
  refine dk_of ?_
  unfold Jvm.ClassFile.Decoder.instr
  refine rdbk (rdu1 hb.hd) ?_
  exact rfl
theorem dk_45 {c : ByteArray} {pc : Nat} (hb : BB c pc [45]) : decode c pc = .ok (.aload_n 3, 1) := by
  refine dk_of ?_
  unfold Jvm.ClassFile.Decoder.instr
  refine rdbk (rdu1 hb.hd) ?_
  exact rfl
theorem dk_46 {c : ByteArray} {pc : Nat} (hb : BB c pc [46]) : decode c pc = .ok (.iaload, 1) := by
  refine dk_of ?_
  unfold Jvm.ClassFile.Decoder.instr
  refine rdbk (rdu1 hb.hd) ?_
  exact rfl
theorem dk_47 {c : ByteArray} {pc : Nat} (hb : BB c pc [47]) : decode c pc = .ok (.laload, 1) := by
  refine dk_of ?_
  unfold Jvm.ClassFile.Decoder.instr
  refine rdbk (rdu1 hb.hd) ?_
  exact rfl
theorem dk_50 {c : ByteArray} {pc : Nat} (hb : BB c pc [50]) : decode c pc = .ok (.aaload, 1) := by
  refine dk_of ?_
  unfold Jvm.ClassFile.Decoder.instr
  refine rdbk (rdu1 hb.hd) ?_
  exact rfl
theorem dk_51 {c : ByteArray} {pc : Nat} (hb : BB c pc [51]) : decode c pc = .ok (.baload, 1) := by
  refine dk_of ?_
  unfold Jvm.ClassFile.Decoder.instr
  refine rdbk (rdu1 hb.hd) ?_
  exact rfl
theorem dk_54 {c : ByteArray} {pc : Nat} {k : Nat} (hb : BB c pc [54, k]) : decode c pc = .ok (.istore k, 2) := by
  refine dk_of ?_
  unfold Jvm.ClassFile.Decoder.instr
  refine rdbk (rdu1 hb.hd) ?_
  exact rdbk (r := Jvm.ClassFile.Reader.u1) (f := fun a => pure (Jvm.ClassFile.Instr.istore a)) (rdu1 hb.tl.hd) rfl
theorem dk_55 {c : ByteArray} {pc : Nat} {k : Nat} (hb : BB c pc [55, k]) : decode c pc = .ok (.lstore k, 2) := by
  refine dk_of ?_
  unfold Jvm.ClassFile.Decoder.instr
  refine rdbk (rdu1 hb.hd) ?_
  exact rdbk (r := Jvm.ClassFile.Reader.u1) (f := fun a => pure (Jvm.ClassFile.Instr.lstore a)) (rdu1 hb.tl.hd) rfl
theorem dk_58 {c : ByteArray} {pc : Nat} {k : Nat} (hb : BB c pc [58, k]) : decode c pc = .ok (.astore k, 2) := by
  refine dk_of ?_
  unfold Jvm.ClassFile.Decoder.instr
  refine rdbk (rdu1 hb.hd) ?_
  exact rdbk (r := Jvm.ClassFile.Reader.u1) (f := fun a => pure (Jvm.ClassFile.Instr.astore a)) (rdu1 hb.tl.hd) rfl
theorem dk_60 {c : ByteArray} {pc : Nat} (hb : BB c pc [60]) : decode c pc = .ok (.istore_n 1, 1) := by
  refine dk_of ?_
  unfold Jvm.ClassFile.Decoder.instr
  refine rdbk (rdu1 hb.hd) ?_
  exact rfl
theorem dk_61 {c : ByteArray} {pc : Nat} (hb : BB c pc [61]) : decode c pc = .ok (.istore_n 2, 1) := by
  refine dk_of ?_
  unfold Jvm.ClassFile.Decoder.instr
  refine rdbk (rdu1 hb.hd) ?_
  exact rfl
theorem dk_62 {c : ByteArray} {pc : Nat} (hb : BB c pc [62]) : decode c pc = .ok (.istore_n 3, 1) := by
  refine dk_of ?_
  unfold Jvm.ClassFile.Decoder.instr
  refine rdbk (rdu1 hb.hd) ?_
  exact rfl
theorem dk_63 {c : ByteArray} {pc : Nat} (hb : BB c pc [63]) : decode c pc = .ok (.lstore_n 0, 1) := by
  refine dk_of ?_
  unfold Jvm.ClassFile.Decoder.instr
  refine rdbk (rdu1 hb.hd) ?_
  exact rfl
theorem dk_65 {c : ByteArray} {pc : Nat} (hb : BB c pc [65]) : decode c pc = .ok (.lstore_n 2, 1) := by
  refine dk_of ?_
  unfold Jvm.ClassFile.Decoder.instr
  refine rdbk (rdu1 hb.hd) ?_
  exact rfl
theorem dk_66 {c : ByteArray} {pc : Nat} (hb : BB c pc [66]) : decode c pc = .ok (.lstore_n 3, 1) := by
  refine dk_of ?_
  unfold Jvm.ClassFile.Decoder.instr
  refine rdbk (rdu1 hb.hd) ?_
  exact rfl
theorem dk_76 {c : ByteArray} {pc : Nat} (hb : BB c pc [76]) : decode c pc = .ok (.astore_n 1, 1) := by
  refine dk_of ?_
  unfold Jvm.ClassFile.Decoder.instr
  refine rdbk (rdu1 hb.hd) ?_
  exact rfl
theorem dk_77 {c : ByteArray} {pc : Nat} (hb : BB c pc [77]) : decode c pc = .ok (.astore_n 2, 1) := by
  refine dk_of ?_
  unfold Jvm.ClassFile.Decoder.instr
  refine rdbk (rdu1 hb.hd) ?_
  exact rfl
theorem dk_78 {c : ByteArray} {pc : Nat} (hb : BB c pc [78]) : decode c pc = .ok (.astore_n 3, 1) := by
  refine dk_of ?_
  unfold Jvm.ClassFile.Decoder.instr
  refine rdbk (rdu1 hb.hd) ?_
  exact rfl
theorem dk_79 {c : ByteArray} {pc : Nat} (hb : BB c pc [79]) : decode c pc = .ok (.iastore, 1) := by
  refine dk_of ?_
  unfold Jvm.ClassFile.Decoder.instr
  refine rdbk (rdu1 hb.hd) ?_
  exact rfl
theorem dk_80 {c : ByteArray} {pc : Nat} (hb : BB c pc [80]) : decode c pc = .ok (.lastore, 1) := by
  refine dk_of ?_
  unfold Jvm.ClassFile.Decoder.instr
  refine rdbk (rdu1 hb.hd) ?_
  exact rfl
theorem dk_84 {c : ByteArray} {pc : Nat} (hb : BB c pc [84]) : decode c pc = .ok (.bastore, 1) := by
  refine dk_of ?_
  unfold Jvm.ClassFile.Decoder.instr
  refine rdbk (rdu1 hb.hd) ?_
  exact rfl
theorem dk_87 {c : ByteArray} {pc : Nat} (hb : BB c pc [87]) : decode c pc = .ok (.pop, 1) := by
  refine dk_of ?_
  unfold Jvm.ClassFile.Decoder.instr
  refine rdbk (rdu1 hb.hd) ?_
  exact rfl
theorem dk_88 {c : ByteArray} {pc : Nat} (hb : BB c pc [88]) : decode c pc = .ok (.pop2, 1) := by
  refine dk_of ?_
  unfold Jvm.ClassFile.Decoder.instr
  refine rdbk (rdu1 hb.hd) ?_
  exact rfl
theorem dk_89 {c : ByteArray} {pc : Nat} (hb : BB c pc [89]) : decode c pc = .ok (.dup, 1) := by
  refine dk_of ?_
  unfold Jvm.ClassFile.Decoder.instr
  refine rdbk (rdu1 hb.hd) ?_
  exact rfl
theorem dk_90 {c : ByteArray} {pc : Nat} (hb : BB c pc [90]) : decode c pc = .ok (.dup_x1, 1) := by
  refine dk_of ?_
  unfold Jvm.ClassFile.Decoder.instr
  refine rdbk (rdu1 hb.hd) ?_
  exact rfl
theorem dk_92 {c : ByteArray} {pc : Nat} (hb : BB c pc [92]) : decode c pc = .ok (.dup2, 1) := by
  refine dk_of ?_
  unfold Jvm.ClassFile.Decoder.instr
  refine rdbk (rdu1 hb.hd) ?_
  exact rfl
theorem dk_96 {c : ByteArray} {pc : Nat} (hb : BB c pc [96]) : decode c pc = .ok (.iadd, 1) := by
  refine dk_of ?_
  unfold Jvm.ClassFile.Decoder.instr
  refine rdbk (rdu1 hb.hd) ?_
  exact rfl
theorem dk_97 {c : ByteArray} {pc : Nat} (hb : BB c pc [97]) : decode c pc = .ok (.ladd, 1) := by
  refine dk_of ?_
  unfold Jvm.ClassFile.Decoder.instr
  refine rdbk (rdu1 hb.hd) ?_
  exact rfl
theorem dk_100 {c : ByteArray} {pc : Nat} (hb : BB c pc [100]) : decode c pc = .ok (.isub, 1) := by
  refine dk_of ?_
  unfold Jvm.ClassFile.Decoder.instr
  refine rdbk (rdu1 hb.hd) ?_
  exact rfl
theorem dk_101 {c : ByteArray} {pc : Nat} (hb : BB c pc [101]) : decode c pc = .ok (.lsub, 1) := by
  refine dk_of ?_
  unfold Jvm.ClassFile.Decoder.instr
  refine rdbk (rdu1 hb.hd) ?_
  exact rfl
theorem dk_104 {c : ByteArray} {pc : Nat} (hb : BB c pc [104]) : decode c pc = .ok (.imul, 1) := by
  refine dk_of ?_
  unfold Jvm.ClassFile.Decoder.instr
  refine rdbk (rdu1 hb.hd) ?_
  exact rfl
theorem dk_105 {c : ByteArray} {pc : Nat} (hb : BB c pc [105]) : decode c pc = .ok (.lmul, 1) := by
  refine dk_of ?_
  unfold Jvm.ClassFile.Decoder.instr
  refine rdbk (rdu1 hb.hd) ?_
  exact rfl
theorem dk_108 {c : ByteArray} {pc : Nat} (hb : BB c pc [108]) : decode c pc = .ok (.idiv, 1) := by
  refine dk_of ?_
  unfold Jvm.ClassFile.Decoder.instr
  refine rdbk (rdu1 hb.hd) ?_
  exact rfl
theorem dk_109 {c : ByteArray} {pc : Nat} (hb : BB c pc [109]) : decode c pc = .ok (.ldiv, 1) := by
  refine dk_of ?_
  unfold Jvm.ClassFile.Decoder.instr
  refine rdbk (rdu1 hb.hd) ?_
  exact rfl
theorem dk_112 {c : ByteArray} {pc : Nat} (hb : BB c pc [112]) : decode c pc = .ok (.irem, 1) := by
  refine dk_of ?_
  unfold Jvm.ClassFile.Decoder.instr
  refine rdbk (rdu1 hb.hd) ?_
  exact rfl
theorem dk_113 {c : ByteArray} {pc : Nat} (hb : BB c pc [113]) : decode c pc = .ok (.lrem, 1) := by
  refine dk_of ?_
  unfold Jvm.ClassFile.Decoder.instr
  refine rdbk (rdu1 hb.hd) ?_
  exact rfl
theorem dk_120 {c : ByteArray} {pc : Nat} (hb : BB c pc [120]) : decode c pc = .ok (.ishl, 1) := by
  refine dk_of ?_
  unfold Jvm.ClassFile.Decoder.instr
  refine rdbk (rdu1 hb.hd) ?_
  exact rfl
theorem dk_121 {c : ByteArray} {pc : Nat} (hb : BB c pc [121]) : decode c pc = .ok (.lshl, 1) := by
  refine dk_of ?_
  unfold Jvm.ClassFile.Decoder.instr
  refine rdbk (rdu1 hb.hd) ?_
  exact rfl
theorem dk_122 {c : ByteArray} {pc : Nat} (hb : BB c pc [122]) : decode c pc = .ok (.ishr, 1) := by
  refine dk_of ?_
  unfold Jvm.ClassFile.Decoder.instr
  refine rdbk (rdu1 hb.hd) ?_
  exact rfl
theorem dk_124 {c : ByteArray} {pc : Nat} (hb : BB c pc [124]) : decode c pc = .ok (.iushr, 1) := by
  refine dk_of ?_
  unfold Jvm.ClassFile.Decoder.instr
  refine rdbk (rdu1 hb.hd) ?_
  exact rfl
theorem dk_126 {c : ByteArray} {pc : Nat} (hb : BB c pc [126]) : decode c pc = .ok (.iand, 1) := by
  refine dk_of ?_
  unfold Jvm.ClassFile.Decoder.instr
  refine rdbk (rdu1 hb.hd) ?_
  exact rfl
theorem dk_128 {c : ByteArray} {pc : Nat} (hb : BB c pc [128]) : decode c pc = .ok (.ior, 1) := by
  refine dk_of ?_
  unfold Jvm.ClassFile.Decoder.instr
  refine rdbk (rdu1 hb.hd) ?_
  exact rfl
theorem dk_129 {c : ByteArray} {pc : Nat} (hb : BB c pc [129]) : decode c pc = .ok (.lor, 1) := by
  refine dk_of ?_
  unfold Jvm.ClassFile.Decoder.instr
  refine rdbk (rdu1 hb.hd) ?_
  exact rfl
theorem dk_130 {c : ByteArray} {pc : Nat} (hb : BB c pc [130]) : decode c pc = .ok (.ixor, 1) := by
  refine dk_of ?_
  unfold Jvm.ClassFile.Decoder.instr
  refine rdbk (rdu1 hb.hd) ?_
  exact rfl
theorem dk_132 {c : ByteArray} {pc : Nat} {i k : Nat} {v : Int} (hb : BB c pc [132, i, k]) (hv : sg1 k = v) : decode c pc = .ok (.iinc i v, 3) := by
  refine dk_of ?_
  unfold Jvm.ClassFile.Decoder.instr
  refine rdbk (rdu1 hb.hd) ?_
  exact rdbk (r := Jvm.ClassFile.Reader.u1) (f := fun a => (do let b ← Jvm.ClassFile.Reader.s1; pure (Jvm.ClassFile.Instr.iinc a b))) (rdu1 hb.tl.hd) (rdbk (r := Jvm.ClassFile.Reader.s1) (f := fun b => pure (Jvm.ClassFile.Instr.iinc i b)) (rds1 hb.tl.tl hv) rfl)
theorem dk_133 {c : ByteArray} {pc : Nat} (hb : BB c pc [133]) : decode c pc = .ok (.i2l, 1) := by
  refine dk_of ?_
  unfold Jvm.ClassFile.Decoder.instr
  refine rdbk (rdu1 hb.hd) ?_
  exact rfl
theorem dk_136 {c : ByteArray} {pc : Nat} (hb : BB c pc [136]) : decode c pc = .ok (.l2i, 1) := by
  refine dk_of ?_
  unfold Jvm.ClassFile.Decoder.instr
  refine rdbk (rdu1 hb.hd) ?_
  exact rfl
theorem dk_145 {c : ByteArray} {pc : Nat} (hb : BB c pc [145]) : decode c pc = .ok (.i2b, 1) := by
  refine dk_of ?_
  unfold Jvm.ClassFile.Decoder.instr
  refine rdbk (rdu1 hb.hd) ?_
  exact rfl
theorem dk_146 {c : ByteArray} {pc : Nat} (hb : BB c pc [146]) : decode c pc = .ok (.i2c, 1) := by
  refine dk_of ?_
  unfold Jvm.ClassFile.Decoder.instr
  refine rdbk (rdu1 hb.hd) ?_
  exact rfl
theorem dk_148 {c : ByteArray} {pc : Nat} (hb : BB c pc [148]) : decode c pc = .ok (.lcmp, 1) := by
  refine dk_of ?_
  unfold Jvm.ClassFile.Decoder.instr
  refine rdbk (rdu1 hb.hd) ?_
  exact rfl
theorem dk_153 {c : ByteArray} {pc : Nat} {h l : Nat} {v : Int} (hb : BB c pc [153, h, l]) (hv : sg2 h l = v) : decode c pc = .ok (.ifCond .eq v, 3) := by
  refine dk_of ?_
  unfold Jvm.ClassFile.Decoder.instr
  refine rdbk (rdu1 hb.hd) ?_
  exact rdbk (r := Jvm.ClassFile.Reader.s2) (f := fun a => pure (Jvm.ClassFile.Instr.ifCond .eq a)) (rds2 hb.tl hv) rfl
theorem dk_154 {c : ByteArray} {pc : Nat} {h l : Nat} {v : Int} (hb : BB c pc [154, h, l]) (hv : sg2 h l = v) : decode c pc = .ok (.ifCond .ne v, 3) := by
  refine dk_of ?_
  unfold Jvm.ClassFile.Decoder.instr
  refine rdbk (rdu1 hb.hd) ?_
  exact rdbk (r := Jvm.ClassFile.Reader.s2) (f := fun a => pure (Jvm.ClassFile.Instr.ifCond .ne a)) (rds2 hb.tl hv) rfl
theorem dk_155 {c : ByteArray} {pc : Nat} {h l : Nat} {v : Int} (hb : BB c pc [155, h, l]) (hv : sg2 h l = v) : decode c pc = .ok (.ifCond .lt v, 3) := by
  refine dk_of ?_
  unfold Jvm.ClassFile.Decoder.instr
  refine rdbk (rdu1 hb.hd) ?_
  exact rdbk (r := Jvm.ClassFile.Reader.s2) (f := fun a => pure (Jvm.ClassFile.Instr.ifCond .lt a)) (rds2 hb.tl hv) rfl
theorem dk_156 {c : ByteArray} {pc : Nat} {h l : Nat} {v : Int} (hb : BB c pc [156, h, l]) (hv : sg2 h l = v) : decode c pc = .ok (.ifCond .ge v, 3) := by
  refine dk_of ?_
  unfold Jvm.ClassFile.Decoder.instr
  refine rdbk (rdu1 hb.hd) ?_
  exact rdbk (r := Jvm.ClassFile.Reader.s2) (f := fun a => pure (Jvm.ClassFile.Instr.ifCond .ge a)) (rds2 hb.tl hv) rfl
theorem dk_157 {c : ByteArray} {pc : Nat} {h l : Nat} {v : Int} (hb : BB c pc [157, h, l]) (hv : sg2 h l = v) : decode c pc = .ok (.ifCond .gt v, 3) := by
  refine dk_of ?_
  unfold Jvm.ClassFile.Decoder.instr
  refine rdbk (rdu1 hb.hd) ?_
  exact rdbk (r := Jvm.ClassFile.Reader.s2) (f := fun a => pure (Jvm.ClassFile.Instr.ifCond .gt a)) (rds2 hb.tl hv) rfl
theorem dk_158 {c : ByteArray} {pc : Nat} {h l : Nat} {v : Int} (hb : BB c pc [158, h, l]) (hv : sg2 h l = v) : decode c pc = .ok (.ifCond .le v, 3) := by
  refine dk_of ?_
  unfold Jvm.ClassFile.Decoder.instr
  refine rdbk (rdu1 hb.hd) ?_
  exact rdbk (r := Jvm.ClassFile.Reader.s2) (f := fun a => pure (Jvm.ClassFile.Instr.ifCond .le a)) (rds2 hb.tl hv) rfl
theorem dk_159 {c : ByteArray} {pc : Nat} {h l : Nat} {v : Int} (hb : BB c pc [159, h, l]) (hv : sg2 h l = v) : decode c pc = .ok (.if_icmp .eq v, 3) := by
  refine dk_of ?_
  unfold Jvm.ClassFile.Decoder.instr
  refine rdbk (rdu1 hb.hd) ?_
  exact rdbk (r := Jvm.ClassFile.Reader.s2) (f := fun a => pure (Jvm.ClassFile.Instr.if_icmp .eq a)) (rds2 hb.tl hv) rfl
theorem dk_160 {c : ByteArray} {pc : Nat} {h l : Nat} {v : Int} (hb : BB c pc [160, h, l]) (hv : sg2 h l = v) : decode c pc = .ok (.if_icmp .ne v, 3) := by
  refine dk_of ?_
  unfold Jvm.ClassFile.Decoder.instr
  refine rdbk (rdu1 hb.hd) ?_
  exact rdbk (r := Jvm.ClassFile.Reader.s2) (f := fun a => pure (Jvm.ClassFile.Instr.if_icmp .ne a)) (rds2 hb.tl hv) rfl
theorem dk_161 {c : ByteArray} {pc : Nat} {h l : Nat} {v : Int} (hb : BB c pc [161, h, l]) (hv : sg2 h l = v) : decode c pc = .ok (.if_icmp .lt v, 3) := by
  refine dk_of ?_
  unfold Jvm.ClassFile.Decoder.instr
  refine rdbk (rdu1 hb.hd) ?_
  exact rdbk (r := Jvm.ClassFile.Reader.s2) (f := fun a => pure (Jvm.ClassFile.Instr.if_icmp .lt a)) (rds2 hb.tl hv) rfl
theorem dk_162 {c : ByteArray} {pc : Nat} {h l : Nat} {v : Int} (hb : BB c pc [162, h, l]) (hv : sg2 h l = v) : decode c pc = .ok (.if_icmp .ge v, 3) := by
  refine dk_of ?_
  unfold Jvm.ClassFile.Decoder.instr
  refine rdbk (rdu1 hb.hd) ?_
  exact rdbk (r := Jvm.ClassFile.Reader.s2) (f := fun a => pure (Jvm.ClassFile.Instr.if_icmp .ge a)) (rds2 hb.tl hv) rfl
theorem dk_163 {c : ByteArray} {pc : Nat} {h l : Nat} {v : Int} (hb : BB c pc [163, h, l]) (hv : sg2 h l = v) : decode c pc = .ok (.if_icmp .gt v, 3) := by
  refine dk_of ?_
  unfold Jvm.ClassFile.Decoder.instr
  refine rdbk (rdu1 hb.hd) ?_
  exact rdbk (r := Jvm.ClassFile.Reader.s2) (f := fun a => pure (Jvm.ClassFile.Instr.if_icmp .gt a)) (rds2 hb.tl hv) rfl
theorem dk_164 {c : ByteArray} {pc : Nat} {h l : Nat} {v : Int} (hb : BB c pc [164, h, l]) (hv : sg2 h l = v) : decode c pc = .ok (.if_icmp .le v, 3) := by
  refine dk_of ?_
  unfold Jvm.ClassFile.Decoder.instr
  refine rdbk (rdu1 hb.hd) ?_
  exact rdbk (r := Jvm.ClassFile.Reader.s2) (f := fun a => pure (Jvm.ClassFile.Instr.if_icmp .le a)) (rds2 hb.tl hv) rfl
theorem dk_167 {c : ByteArray} {pc : Nat} {h l : Nat} {v : Int} (hb : BB c pc [167, h, l]) (hv : sg2 h l = v) : decode c pc = .ok (.goto v, 3) := by
  refine dk_of ?_
  unfold Jvm.ClassFile.Decoder.instr
  refine rdbk (rdu1 hb.hd) ?_
  exact rdbk (r := Jvm.ClassFile.Reader.s2) (f := fun a => pure (Jvm.ClassFile.Instr.goto a)) (rds2 hb.tl hv) rfl
theorem dk_172 {c : ByteArray} {pc : Nat} (hb : BB c pc [172]) : decode c pc = .ok (.ireturn, 1) := by
  refine dk_of ?_
  unfold Jvm.ClassFile.Decoder.instr
  refine rdbk (rdu1 hb.hd) ?_
  exact rfl
theorem dk_173 {c : ByteArray} {pc : Nat} (hb : BB c pc [173]) : decode c pc = .ok (.lreturn, 1) := by
  refine dk_of ?_
  unfold Jvm.ClassFile.Decoder.instr
  refine rdbk (rdu1 hb.hd) ?_
  exact rfl
theorem dk_177 {c : ByteArray} {pc : Nat} (hb : BB c pc [177]) : decode c pc = .ok (.return_, 1) := by
  refine dk_of ?_
  unfold Jvm.ClassFile.Decoder.instr
  refine rdbk (rdu1 hb.hd) ?_
  exact rfl
theorem dk_178 {c : ByteArray} {pc : Nat} {h l k : Nat} (hb : BB c pc [178, h, l]) (hk : h * 256 + l = k) : decode c pc = .ok (.getstatic (h * 256 + l), 3) := by
  subst hk
  refine dk_of ?_
  unfold Jvm.ClassFile.Decoder.instr
  refine rdbk (rdu1 hb.hd) ?_
  exact rdbk (r := Jvm.ClassFile.Reader.u2) (f := fun a => pure (Jvm.ClassFile.Instr.getstatic a)) (rdu2 hb.tl) rfl
theorem dk_180 {c : ByteArray} {pc : Nat} {h l k : Nat} (hb : BB c pc [180, h, l]) (hk : h * 256 + l = k) : decode c pc = .ok (.getfield (h * 256 + l), 3) := by
  subst hk
  refine dk_of ?_
  unfold Jvm.ClassFile.Decoder.instr
  refine rdbk (rdu1 hb.hd) ?_
  exact rdbk (r := Jvm.ClassFile.Reader.u2) (f := fun a => pure (Jvm.ClassFile.Instr.getfield a)) (rdu2 hb.tl) rfl
theorem dk_181 {c : ByteArray} {pc : Nat} {h l k : Nat} (hb : BB c pc [181, h, l]) (hk : h * 256 + l = k) : decode c pc = .ok (.putfield (h * 256 + l), 3) := by
  subst hk
  refine dk_of ?_
  unfold Jvm.ClassFile.Decoder.instr
  refine rdbk (rdu1 hb.hd) ?_
  exact rdbk (r := Jvm.ClassFile.Reader.u2) (f := fun a => pure (Jvm.ClassFile.Instr.putfield a)) (rdu2 hb.tl) rfl
theorem dk_182 {c : ByteArray} {pc : Nat} {h l k : Nat} (hb : BB c pc [182, h, l]) (hk : h * 256 + l = k) : decode c pc = .ok (.invokevirtual (h * 256 + l), 3) := by
  subst hk
  refine dk_of ?_
  unfold Jvm.ClassFile.Decoder.instr
  refine rdbk (rdu1 hb.hd) ?_
  exact rdbk (r := Jvm.ClassFile.Reader.u2) (f := fun a => pure (Jvm.ClassFile.Instr.invokevirtual a)) (rdu2 hb.tl) rfl
theorem dk_183 {c : ByteArray} {pc : Nat} {h l k : Nat} (hb : BB c pc [183, h, l]) (hk : h * 256 + l = k) : decode c pc = .ok (.invokespecial (h * 256 + l), 3) := by
  subst hk
  refine dk_of ?_
  unfold Jvm.ClassFile.Decoder.instr
  refine rdbk (rdu1 hb.hd) ?_
  exact rdbk (r := Jvm.ClassFile.Reader.u2) (f := fun a => pure (Jvm.ClassFile.Instr.invokespecial a)) (rdu2 hb.tl) rfl
theorem dk_184 {c : ByteArray} {pc : Nat} {h l k : Nat} (hb : BB c pc [184, h, l]) (hk : h * 256 + l = k) : decode c pc = .ok (.invokestatic (h * 256 + l), 3) := by
  subst hk
  refine dk_of ?_
  unfold Jvm.ClassFile.Decoder.instr
  refine rdbk (rdu1 hb.hd) ?_
  exact rdbk (r := Jvm.ClassFile.Reader.u2) (f := fun a => pure (Jvm.ClassFile.Instr.invokestatic a)) (rdu2 hb.tl) rfl
theorem dk_187 {c : ByteArray} {pc : Nat} {h l k : Nat} (hb : BB c pc [187, h, l]) (hk : h * 256 + l = k) : decode c pc = .ok (.new (h * 256 + l), 3) := by
  subst hk
  refine dk_of ?_
  unfold Jvm.ClassFile.Decoder.instr
  refine rdbk (rdu1 hb.hd) ?_
  exact rdbk (r := Jvm.ClassFile.Reader.u2) (f := fun a => pure (Jvm.ClassFile.Instr.new a)) (rdu2 hb.tl) rfl
theorem dk_188_4 {c : ByteArray} {pc : Nat} (hb : BB c pc [188, 4]) : decode c pc = .ok (.newarray .boolean, 2) := by
  refine dk_of ?_
  unfold Jvm.ClassFile.Decoder.instr
  refine rdbk (rdu1 hb.hd) ?_
  show Jvm.ClassFile.Reader.runAt (Jvm.ClassFile.Decoder.newarray pc) c (pc + 1) = _
  unfold Jvm.ClassFile.Decoder.newarray
  refine rdbk (rdu1 hb.tl.hd) ?_
  exact rfl
theorem dk_188_8 {c : ByteArray} {pc : Nat} (hb : BB c pc [188, 8]) : decode c pc = .ok (.newarray .byte, 2) := by
  refine dk_of ?_
  unfold Jvm.ClassFile.Decoder.instr
  refine rdbk (rdu1 hb.hd) ?_
  show Jvm.ClassFile.Reader.runAt (Jvm.ClassFile.Decoder.newarray pc) c (pc + 1) = _
  unfold Jvm.ClassFile.Decoder.newarray
  refine rdbk (rdu1 hb.tl.hd) ?_
  exact rfl
theorem dk_188_10 {c : ByteArray} {pc : Nat} (hb : BB c pc [188, 10]) : decode c pc = .ok (.newarray .int, 2) := by
  refine dk_of ?_
  unfold Jvm.ClassFile.Decoder.instr
  refine rdbk (rdu1 hb.hd) ?_
  show Jvm.ClassFile.Reader.runAt (Jvm.ClassFile.Decoder.newarray pc) c (pc + 1) = _
  unfold Jvm.ClassFile.Decoder.newarray
  refine rdbk (rdu1 hb.tl.hd) ?_
  exact rfl
theorem dk_188_11 {c : ByteArray} {pc : Nat} (hb : BB c pc [188, 11]) : decode c pc = .ok (.newarray .long, 2) := by
  refine dk_of ?_
  unfold Jvm.ClassFile.Decoder.instr
  refine rdbk (rdu1 hb.hd) ?_
  show Jvm.ClassFile.Reader.runAt (Jvm.ClassFile.Decoder.newarray pc) c (pc + 1) = _
  unfold Jvm.ClassFile.Decoder.newarray
  refine rdbk (rdu1 hb.tl.hd) ?_
  exact rfl
theorem dk_190 {c : ByteArray} {pc : Nat} (hb : BB c pc [190]) : decode c pc = .ok (.arraylength, 1) := by
  refine dk_of ?_
  unfold Jvm.ClassFile.Decoder.instr
  refine rdbk (rdu1 hb.hd) ?_
  exact rfl
theorem dk_191 {c : ByteArray} {pc : Nat} (hb : BB c pc [191]) : decode c pc = .ok (.athrow, 1) := by
  refine dk_of ?_
  unfold Jvm.ClassFile.Decoder.instr
  refine rdbk (rdu1 hb.hd) ?_
  exact rfl
end DECB
