section
-- ===== PART A: goes FIRST, ahead of the names: the tables' words, and 'selects' of the private methods out of them =====
/-- a private method of a class that the tables say can be made, by its rows of tables_1 -/
def lw_okq (q : MethodName × Nat) : Prop := (q.1.cls ≠ "java/lang/invoke/MethodHandle" ∧ q.1.cls ≠ "java/lang/invoke/VarHandle") ∧ Cond.instantiable q.1.cls q.2 ∈ tables_1 ∧ Cond.privateMethod q.1 ∈ tables_1 ∧ Cond.instanceMethod q.1 ∈ tables_1
theorem lw_p0 : lw_okq (⟨"SlabWalk", "startAnew", "()V"⟩, 13) := ⟨⟨by decide +kernel, by decide +kernel⟩, List.mem_of_getElem? (i := 23) (by decide +kernel), List.mem_of_getElem? (i := 432) (by decide +kernel), List.mem_of_getElem? (i := 433) (by decide +kernel)⟩
theorem lw_p1 : lw_okq (⟨"SlabWalk$Earnest", "forgetActs", "()V"⟩, 6) := ⟨⟨by decide +kernel, by decide +kernel⟩, List.mem_of_getElem? (i := 371) (by decide +kernel), List.mem_of_getElem? (i := 448) (by decide +kernel), List.mem_of_getElem? (i := 449) (by decide +kernel)⟩
theorem lw_p2 : lw_okq (⟨"SlabWalk", "putOnTape", "(I)V"⟩, 13) := ⟨⟨by decide +kernel, by decide +kernel⟩, List.mem_of_getElem? (i := 23) (by decide +kernel), List.mem_of_getElem? (i := 499) (by decide +kernel), List.mem_of_getElem? (i := 500) (by decide +kernel)⟩
theorem lw_p3 : lw_okq (⟨"SlabWalk$Tokens", "isLetter", "(I)Z"⟩, 9) := ⟨⟨by decide +kernel, by decide +kernel⟩, List.mem_of_getElem? (i := 137) (by decide +kernel), List.mem_of_getElem? (i := 527) (by decide +kernel), List.mem_of_getElem? (i := 528) (by decide +kernel)⟩
theorem lw_p4 : lw_okq (⟨"SlabWalk$Tokens", "cutWord", "()V"⟩, 9) := ⟨⟨by decide +kernel, by decide +kernel⟩, List.mem_of_getElem? (i := 137) (by decide +kernel), List.mem_of_getElem? (i := 531) (by decide +kernel), List.mem_of_getElem? (i := 532) (by decide +kernel)⟩
theorem lw_p5 : lw_okq (⟨"SlabWalk$Tokens", "kindOfWord", "()I"⟩, 9) := ⟨⟨by decide +kernel, by decide +kernel⟩, List.mem_of_getElem? (i := 137) (by decide +kernel), List.mem_of_getElem? (i := 535) (by decide +kernel), List.mem_of_getElem? (i := 536) (by decide +kernel)⟩
theorem lw_p6 : lw_okq (⟨"SlabWalk$Tokens", "isDigit", "(I)Z"⟩, 9) := ⟨⟨by decide +kernel, by decide +kernel⟩, List.mem_of_getElem? (i := 137) (by decide +kernel), List.mem_of_getElem? (i := 588) (by decide +kernel), List.mem_of_getElem? (i := 589) (by decide +kernel)⟩
theorem lw_p7 : lw_okq (⟨"SlabWalk$Tokens", "cutNumber", "()V"⟩, 9) := ⟨⟨by decide +kernel, by decide +kernel⟩, List.mem_of_getElem? (i := 137) (by decide +kernel), List.mem_of_getElem? (i := 592) (by decide +kernel), List.mem_of_getElem? (i := 593) (by decide +kernel)⟩
theorem lw_p8 : lw_okq (⟨"SlabWalk$Reader", "readStreet", "()Z"⟩, 10) := ⟨⟨by decide +kernel, by decide +kernel⟩, List.mem_of_getElem? (i := 131) (by decide +kernel), List.mem_of_getElem? (i := 654) (by decide +kernel), List.mem_of_getElem? (i := 655) (by decide +kernel)⟩
theorem lw_p9 : lw_okq (⟨"SlabWalk$Reader", "passFirst", "(Z)Z"⟩, 10) := ⟨⟨by decide +kernel, by decide +kernel⟩, List.mem_of_getElem? (i := 131) (by decide +kernel), List.mem_of_getElem? (i := 658) (by decide +kernel), List.mem_of_getElem? (i := 659) (by decide +kernel)⟩
theorem lw_p10 : lw_okq (⟨"SlabWalk$Reader", "passName", "([JI)Z"⟩, 10) := ⟨⟨by decide +kernel, by decide +kernel⟩, List.mem_of_getElem? (i := 131) (by decide +kernel), List.mem_of_getElem? (i := 667) (by decide +kernel), List.mem_of_getElem? (i := 668) (by decide +kernel)⟩
theorem lw_p11 : lw_okq (⟨"SlabWalk$Reader", "passNumber", "(II)Z"⟩, 10) := ⟨⟨by decide +kernel, by decide +kernel⟩, List.mem_of_getElem? (i := 131) (by decide +kernel), List.mem_of_getElem? (i := 676) (by decide +kernel), List.mem_of_getElem? (i := 677) (by decide +kernel)⟩
theorem lw_p12 : lw_okq (⟨"SlabWalk$Reader", "isNumber", "(II)Z"⟩, 10) := ⟨⟨by decide +kernel, by decide +kernel⟩, List.mem_of_getElem? (i := 131) (by decide +kernel), List.mem_of_getElem? (i := 680) (by decide +kernel), List.mem_of_getElem? (i := 681) (by decide +kernel)⟩
theorem lw_p13 : lw_okq (⟨"SlabWalk$Reader", "readSlab", "(II)Z"⟩, 10) := ⟨⟨by decide +kernel, by decide +kernel⟩, List.mem_of_getElem? (i := 131) (by decide +kernel), List.mem_of_getElem? (i := 684) (by decide +kernel), List.mem_of_getElem? (i := 685) (by decide +kernel)⟩
theorem lw_p14 : lw_okq (⟨"SlabWalk$Reader", "readWalker", "()Z"⟩, 10) := ⟨⟨by decide +kernel, by decide +kernel⟩, List.mem_of_getElem? (i := 131) (by decide +kernel), List.mem_of_getElem? (i := 694) (by decide +kernel), List.mem_of_getElem? (i := 695) (by decide +kernel)⟩
theorem lw_p15 : lw_okq (⟨"SlabWalk$Reader", "readRule", "()Z"⟩, 10) := ⟨⟨by decide +kernel, by decide +kernel⟩, List.mem_of_getElem? (i := 131) (by decide +kernel), List.mem_of_getElem? (i := 698) (by decide +kernel), List.mem_of_getElem? (i := 699) (by decide +kernel)⟩
def lw_privs_1 : List (MethodName × Nat) := [(⟨"SlabWalk", "startAnew", "()V"⟩, 13), (⟨"SlabWalk$Earnest", "forgetActs", "()V"⟩, 6), (⟨"SlabWalk", "putOnTape", "(I)V"⟩, 13), (⟨"SlabWalk$Tokens", "isLetter", "(I)Z"⟩, 9), (⟨"SlabWalk$Tokens", "cutWord", "()V"⟩, 9), (⟨"SlabWalk$Tokens", "kindOfWord", "()I"⟩, 9), (⟨"SlabWalk$Tokens", "isDigit", "(I)Z"⟩, 9), (⟨"SlabWalk$Tokens", "cutNumber", "()V"⟩, 9), (⟨"SlabWalk$Reader", "readStreet", "()Z"⟩, 10), (⟨"SlabWalk$Reader", "passFirst", "(Z)Z"⟩, 10), (⟨"SlabWalk$Reader", "passName", "([JI)Z"⟩, 10), (⟨"SlabWalk$Reader", "passNumber", "(II)Z"⟩, 10), (⟨"SlabWalk$Reader", "isNumber", "(II)Z"⟩, 10), (⟨"SlabWalk$Reader", "readSlab", "(II)Z"⟩, 10), (⟨"SlabWalk$Reader", "readWalker", "()Z"⟩, 10), (⟨"SlabWalk$Reader", "readRule", "()Z"⟩, 10)]
theorem lw_r1 : ∀ q ∈ lw_privs_1, lw_okq q := List.forall_mem_cons.mpr ⟨lw_p0, List.forall_mem_cons.mpr ⟨lw_p1, List.forall_mem_cons.mpr ⟨lw_p2, List.forall_mem_cons.mpr ⟨lw_p3, List.forall_mem_cons.mpr ⟨lw_p4, List.forall_mem_cons.mpr ⟨lw_p5, List.forall_mem_cons.mpr ⟨lw_p6, List.forall_mem_cons.mpr ⟨lw_p7, List.forall_mem_cons.mpr ⟨lw_p8, List.forall_mem_cons.mpr ⟨lw_p9, List.forall_mem_cons.mpr ⟨lw_p10, List.forall_mem_cons.mpr ⟨lw_p11, List.forall_mem_cons.mpr ⟨lw_p12, List.forall_mem_cons.mpr ⟨lw_p13, List.forall_mem_cons.mpr ⟨lw_p14, List.forall_mem_cons.mpr ⟨lw_p15, fun _ h => absurd h List.not_mem_nil⟩⟩⟩⟩⟩⟩⟩⟩⟩⟩⟩⟩⟩⟩⟩⟩
theorem lw_p16 : lw_okq (⟨"SlabWalk$Formulas", "passEither", "(I)Z"⟩, 3) := ⟨⟨by decide +kernel, by decide +kernel⟩, List.mem_of_getElem? (i := 180) (by decide +kernel), List.mem_of_getElem? (i := 706) (by decide +kernel), List.mem_of_getElem? (i := 707) (by decide +kernel)⟩
theorem lw_p17 : lw_okq (⟨"SlabWalk$Formulas", "passBoth", "(I)Z"⟩, 3) := ⟨⟨by decide +kernel, by decide +kernel⟩, List.mem_of_getElem? (i := 180) (by decide +kernel), List.mem_of_getElem? (i := 710) (by decide +kernel), List.mem_of_getElem? (i := 711) (by decide +kernel)⟩
theorem lw_p18 : lw_okq (⟨"SlabWalk$Formulas", "passOne", "(I)Z"⟩, 3) := ⟨⟨by decide +kernel, by decide +kernel⟩, List.mem_of_getElem? (i := 180) (by decide +kernel), List.mem_of_getElem? (i := 714) (by decide +kernel), List.mem_of_getElem? (i := 715) (by decide +kernel)⟩
theorem lw_p19 : lw_okq (⟨"SlabWalk$Formulas", "passRelation", "(I)Z"⟩, 3) := ⟨⟨by decide +kernel, by decide +kernel⟩, List.mem_of_getElem? (i := 180) (by decide +kernel), List.mem_of_getElem? (i := 718) (by decide +kernel), List.mem_of_getElem? (i := 719) (by decide +kernel)⟩
theorem lw_p20 : lw_okq (⟨"SlabWalk$Formulas", "passSum", "(I)Z"⟩, 3) := ⟨⟨by decide +kernel, by decide +kernel⟩, List.mem_of_getElem? (i := 180) (by decide +kernel), List.mem_of_getElem? (i := 722) (by decide +kernel), List.mem_of_getElem? (i := 723) (by decide +kernel)⟩
theorem lw_p21 : lw_okq (⟨"SlabWalk$Formulas", "passTerm", "(I)Z"⟩, 3) := ⟨⟨by decide +kernel, by decide +kernel⟩, List.mem_of_getElem? (i := 180) (by decide +kernel), List.mem_of_getElem? (i := 726) (by decide +kernel), List.mem_of_getElem? (i := 727) (by decide +kernel)⟩
theorem lw_p22 : lw_okq (⟨"SlabWalk$Formulas", "passUnit", "(I)Z"⟩, 3) := ⟨⟨by decide +kernel, by decide +kernel⟩, List.mem_of_getElem? (i := 180) (by decide +kernel), List.mem_of_getElem? (i := 730) (by decide +kernel), List.mem_of_getElem? (i := 731) (by decide +kernel)⟩
theorem lw_p23 : lw_okq (⟨"SlabWalk$Formulas", "passBracket", "(I)Z"⟩, 3) := ⟨⟨by decide +kernel, by decide +kernel⟩, List.mem_of_getElem? (i := 180) (by decide +kernel), List.mem_of_getElem? (i := 735) (by decide +kernel), List.mem_of_getElem? (i := 736) (by decide +kernel)⟩
theorem lw_p24 : lw_okq (⟨"SlabWalk$Reader", "readSlip", "()Z"⟩, 10) := ⟨⟨by decide +kernel, by decide +kernel⟩, List.mem_of_getElem? (i := 131) (by decide +kernel), List.mem_of_getElem? (i := 747) (by decide +kernel), List.mem_of_getElem? (i := 748) (by decide +kernel)⟩
theorem lw_p25 : lw_okq (⟨"SlabWalk$Reader", "readHand", "()Z"⟩, 10) := ⟨⟨by decide +kernel, by decide +kernel⟩, List.mem_of_getElem? (i := 131) (by decide +kernel), List.mem_of_getElem? (i := 751) (by decide +kernel), List.mem_of_getElem? (i := 752) (by decide +kernel)⟩
theorem lw_p26 : lw_okq (⟨"SlabWalk$Reader", "readDraw", "()Z"⟩, 10) := ⟨⟨by decide +kernel, by decide +kernel⟩, List.mem_of_getElem? (i := 131) (by decide +kernel), List.mem_of_getElem? (i := 755) (by decide +kernel), List.mem_of_getElem? (i := 756) (by decide +kernel)⟩
theorem lw_p27 : lw_okq (⟨"SlabWalk", "today", "()I"⟩, 13) := ⟨⟨by decide +kernel, by decide +kernel⟩, List.mem_of_getElem? (i := 23) (by decide +kernel), List.mem_of_getElem? (i := 796) (by decide +kernel), List.mem_of_getElem? (i := 797) (by decide +kernel)⟩
theorem lw_p28 : lw_okq (⟨"SlabWalk$Lines", "valueOf", "(III)I"⟩, 5) := ⟨⟨by decide +kernel, by decide +kernel⟩, List.mem_of_getElem? (i := 228) (by decide +kernel), List.mem_of_getElem? (i := 806) (by decide +kernel), List.mem_of_getElem? (i := 807) (by decide +kernel)⟩
theorem lw_p29 : lw_okq (⟨"SlabWalk$Lines", "push", "(I)V"⟩, 5) := ⟨⟨by decide +kernel, by decide +kernel⟩, List.mem_of_getElem? (i := 228) (by decide +kernel), List.mem_of_getElem? (i := 810) (by decide +kernel), List.mem_of_getElem? (i := 811) (by decide +kernel)⟩
theorem lw_p30 : lw_okq (⟨"SlabWalk$Lines", "pop", "()I"⟩, 5) := ⟨⟨by decide +kernel, by decide +kernel⟩, List.mem_of_getElem? (i := 228) (by decide +kernel), List.mem_of_getElem? (i := 814) (by decide +kernel), List.mem_of_getElem? (i := 815) (by decide +kernel)⟩
theorem lw_p31 : lw_okq (⟨"SlabWalk", "canAsk", "(III)Z"⟩, 13) := ⟨⟨by decide +kernel, by decide +kernel⟩, List.mem_of_getElem? (i := 23) (by decide +kernel), List.mem_of_getElem? (i := 838) (by decide +kernel), List.mem_of_getElem? (i := 839) (by decide +kernel)⟩
def lw_privs_2 : List (MethodName × Nat) := [(⟨"SlabWalk$Formulas", "passEither", "(I)Z"⟩, 3), (⟨"SlabWalk$Formulas", "passBoth", "(I)Z"⟩, 3), (⟨"SlabWalk$Formulas", "passOne", "(I)Z"⟩, 3), (⟨"SlabWalk$Formulas", "passRelation", "(I)Z"⟩, 3), (⟨"SlabWalk$Formulas", "passSum", "(I)Z"⟩, 3), (⟨"SlabWalk$Formulas", "passTerm", "(I)Z"⟩, 3), (⟨"SlabWalk$Formulas", "passUnit", "(I)Z"⟩, 3), (⟨"SlabWalk$Formulas", "passBracket", "(I)Z"⟩, 3), (⟨"SlabWalk$Reader", "readSlip", "()Z"⟩, 10), (⟨"SlabWalk$Reader", "readHand", "()Z"⟩, 10), (⟨"SlabWalk$Reader", "readDraw", "()Z"⟩, 10), (⟨"SlabWalk", "today", "()I"⟩, 13), (⟨"SlabWalk$Lines", "valueOf", "(III)I"⟩, 5), (⟨"SlabWalk$Lines", "push", "(I)V"⟩, 5), (⟨"SlabWalk$Lines", "pop", "()I"⟩, 5), (⟨"SlabWalk", "canAsk", "(III)Z"⟩, 13)]
theorem lw_r2 : ∀ q ∈ lw_privs_2, lw_okq q := List.forall_mem_cons.mpr ⟨lw_p16, List.forall_mem_cons.mpr ⟨lw_p17, List.forall_mem_cons.mpr ⟨lw_p18, List.forall_mem_cons.mpr ⟨lw_p19, List.forall_mem_cons.mpr ⟨lw_p20, List.forall_mem_cons.mpr ⟨lw_p21, List.forall_mem_cons.mpr ⟨lw_p22, List.forall_mem_cons.mpr ⟨lw_p23, List.forall_mem_cons.mpr ⟨lw_p24, List.forall_mem_cons.mpr ⟨lw_p25, List.forall_mem_cons.mpr ⟨lw_p26, List.forall_mem_cons.mpr ⟨lw_p27, List.forall_mem_cons.mpr ⟨lw_p28, List.forall_mem_cons.mpr ⟨lw_p29, List.forall_mem_cons.mpr ⟨lw_p30, List.forall_mem_cons.mpr ⟨lw_p31, fun _ h => absurd h List.not_mem_nil⟩⟩⟩⟩⟩⟩⟩⟩⟩⟩⟩⟩⟩⟩⟩⟩
theorem lw_p32 : lw_okq (⟨"SlabWalk", "prepare", "(III)V"⟩, 13) := ⟨⟨by decide +kernel, by decide +kernel⟩, List.mem_of_getElem? (i := 23) (by decide +kernel), List.mem_of_getElem? (i := 860) (by decide +kernel), List.mem_of_getElem? (i := 861) (by decide +kernel)⟩
theorem lw_p33 : lw_okq (⟨"SlabWalk$Trails", "findFeetFrom", "(LSlabWalk$Course;II)V"⟩, 5) := ⟨⟨by decide +kernel, by decide +kernel⟩, List.mem_of_getElem? (i := 298) (by decide +kernel), List.mem_of_getElem? (i := 878) (by decide +kernel), List.mem_of_getElem? (i := 879) (by decide +kernel)⟩
theorem lw_p34 : lw_okq (⟨"SlabWalk$Odds", "setNextFeet", "(LSlabWalk$Course;)V"⟩, 7) := ⟨⟨by decide +kernel, by decide +kernel⟩, List.mem_of_getElem? (i := 343) (by decide +kernel), List.mem_of_getElem? (i := 908) (by decide +kernel), List.mem_of_getElem? (i := 909) (by decide +kernel)⟩
theorem lw_p35 : lw_okq (⟨"SlabWalk$Trails", "firstHeel", "(LSlabWalk$Course;II)I"⟩, 5) := ⟨⟨by decide +kernel, by decide +kernel⟩, List.mem_of_getElem? (i := 298) (by decide +kernel), List.mem_of_getElem? (i := 930) (by decide +kernel), List.mem_of_getElem? (i := 931) (by decide +kernel)⟩
theorem lw_p36 : lw_okq (⟨"SlabWalk", "layDown", "(I)V"⟩, 13) := ⟨⟨by decide +kernel, by decide +kernel⟩, List.mem_of_getElem? (i := 23) (by decide +kernel), List.mem_of_getElem? (i := 946) (by decide +kernel), List.mem_of_getElem? (i := 947) (by decide +kernel)⟩
theorem lw_p37 : lw_okq (⟨"SlabWalk$Trails", "followHand", "(LSlabWalk$Course;III)Z"⟩, 5) := ⟨⟨by decide +kernel, by decide +kernel⟩, List.mem_of_getElem? (i := 298) (by decide +kernel), List.mem_of_getElem? (i := 981) (by decide +kernel), List.mem_of_getElem? (i := 982) (by decide +kernel)⟩
theorem lw_p38 : lw_okq (⟨"SlabWalk", "canBeBrave", "(IIIII)Z"⟩, 13) := ⟨⟨by decide +kernel, by decide +kernel⟩, List.mem_of_getElem? (i := 23) (by decide +kernel), List.mem_of_getElem? (i := 1002) (by decide +kernel), List.mem_of_getElem? (i := 1003) (by decide +kernel)⟩
theorem lw_p39 : lw_okq (⟨"SlabWalk$Odds", "bestStep", "(LSlabWalk$Course;I)I"⟩, 7) := ⟨⟨by decide +kernel, by decide +kernel⟩, List.mem_of_getElem? (i := 343) (by decide +kernel), List.mem_of_getElem? (i := 1011) (by decide +kernel), List.mem_of_getElem? (i := 1012) (by decide +kernel)⟩
theorem lw_p40 : lw_okq (⟨"SlabWalk$Odds", "aimFrom", "(LSlabWalk$Course;II)J"⟩, 7) := ⟨⟨by decide +kernel, by decide +kernel⟩, List.mem_of_getElem? (i := 343) (by decide +kernel), List.mem_of_getElem? (i := 1015) (by decide +kernel), List.mem_of_getElem? (i := 1016) (by decide +kernel)⟩
theorem lw_p41 : lw_okq (⟨"SlabWalk", "winningRule", "(II)I"⟩, 13) := ⟨⟨by decide +kernel, by decide +kernel⟩, List.mem_of_getElem? (i := 23) (by decide +kernel), List.mem_of_getElem? (i := 1031) (by decide +kernel), List.mem_of_getElem? (i := 1032) (by decide +kernel)⟩
theorem lw_p42 : lw_okq (⟨"SlabWalk", "leavesWay", "(II)Z"⟩, 13) := ⟨⟨by decide +kernel, by decide +kernel⟩, List.mem_of_getElem? (i := 23) (by decide +kernel), List.mem_of_getElem? (i := 1039) (by decide +kernel), List.mem_of_getElem? (i := 1040) (by decide +kernel)⟩
theorem lw_p43 : lw_okq (⟨"SlabWalk", "isLawfulNow", "()Z"⟩, 13) := ⟨⟨by decide +kernel, by decide +kernel⟩, List.mem_of_getElem? (i := 23) (by decide +kernel), List.mem_of_getElem? (i := 1059) (by decide +kernel), List.mem_of_getElem? (i := 1060) (by decide +kernel)⟩
theorem lw_p44 : lw_okq (⟨"SlabWalk", "canGo", "(I)Z"⟩, 13) := ⟨⟨by decide +kernel, by decide +kernel⟩, List.mem_of_getElem? (i := 23) (by decide +kernel), List.mem_of_getElem? (i := 1071) (by decide +kernel), List.mem_of_getElem? (i := 1072) (by decide +kernel)⟩
theorem lw_p45 : lw_okq (⟨"SlabWalk", "fitsAll", "(II)Z"⟩, 13) := ⟨⟨by decide +kernel, by decide +kernel⟩, List.mem_of_getElem? (i := 23) (by decide +kernel), List.mem_of_getElem? (i := 1152) (by decide +kernel), List.mem_of_getElem? (i := 1153) (by decide +kernel)⟩
theorem lw_p46 : lw_okq (⟨"SlabWalk", "isLawfulSight", "(III)Z"⟩, 13) := ⟨⟨by decide +kernel, by decide +kernel⟩, List.mem_of_getElem? (i := 23) (by decide +kernel), List.mem_of_getElem? (i := 1160) (by decide +kernel), List.mem_of_getElem? (i := 1161) (by decide +kernel)⟩
theorem lw_p47 : lw_okq (⟨"SlabWalk", "heelsNear", "(IIZ)I"⟩, 13) := ⟨⟨by decide +kernel, by decide +kernel⟩, List.mem_of_getElem? (i := 23) (by decide +kernel), List.mem_of_getElem? (i := 1168) (by decide +kernel), List.mem_of_getElem? (i := 1169) (by decide +kernel)⟩
def lw_privs_3 : List (MethodName × Nat) := [(⟨"SlabWalk", "prepare", "(III)V"⟩, 13), (⟨"SlabWalk$Trails", "findFeetFrom", "(LSlabWalk$Course;II)V"⟩, 5), (⟨"SlabWalk$Odds", "setNextFeet", "(LSlabWalk$Course;)V"⟩, 7), (⟨"SlabWalk$Trails", "firstHeel", "(LSlabWalk$Course;II)I"⟩, 5), (⟨"SlabWalk", "layDown", "(I)V"⟩, 13), (⟨"SlabWalk$Trails", "followHand", "(LSlabWalk$Course;III)Z"⟩, 5), (⟨"SlabWalk", "canBeBrave", "(IIIII)Z"⟩, 13), (⟨"SlabWalk$Odds", "bestStep", "(LSlabWalk$Course;I)I"⟩, 7), (⟨"SlabWalk$Odds", "aimFrom", "(LSlabWalk$Course;II)J"⟩, 7), (⟨"SlabWalk", "winningRule", "(II)I"⟩, 13), (⟨"SlabWalk", "leavesWay", "(II)Z"⟩, 13), (⟨"SlabWalk", "isLawfulNow", "()Z"⟩, 13), (⟨"SlabWalk", "canGo", "(I)Z"⟩, 13), (⟨"SlabWalk", "fitsAll", "(II)Z"⟩, 13), (⟨"SlabWalk", "isLawfulSight", "(III)Z"⟩, 13), (⟨"SlabWalk", "heelsNear", "(IIZ)I"⟩, 13)]
theorem lw_r3 : ∀ q ∈ lw_privs_3, lw_okq q := List.forall_mem_cons.mpr ⟨lw_p32, List.forall_mem_cons.mpr ⟨lw_p33, List.forall_mem_cons.mpr ⟨lw_p34, List.forall_mem_cons.mpr ⟨lw_p35, List.forall_mem_cons.mpr ⟨lw_p36, List.forall_mem_cons.mpr ⟨lw_p37, List.forall_mem_cons.mpr ⟨lw_p38, List.forall_mem_cons.mpr ⟨lw_p39, List.forall_mem_cons.mpr ⟨lw_p40, List.forall_mem_cons.mpr ⟨lw_p41, List.forall_mem_cons.mpr ⟨lw_p42, List.forall_mem_cons.mpr ⟨lw_p43, List.forall_mem_cons.mpr ⟨lw_p44, List.forall_mem_cons.mpr ⟨lw_p45, List.forall_mem_cons.mpr ⟨lw_p46, List.forall_mem_cons.mpr ⟨lw_p47, fun _ h => absurd h List.not_mem_nil⟩⟩⟩⟩⟩⟩⟩⟩⟩⟩⟩⟩⟩⟩⟩⟩
theorem lw_p48 : lw_okq (⟨"SlabWalkModel", "four", "(I)V"⟩, 89) := ⟨⟨by decide +kernel, by decide +kernel⟩, List.mem_of_getElem? (i := 1193) (by decide +kernel), List.mem_of_getElem? (i := 1471) (by decide +kernel), List.mem_of_getElem? (i := 1472) (by decide +kernel)⟩
theorem lw_p49 : lw_okq (⟨"SlabWalkModel", "readAll", "()V"⟩, 89) := ⟨⟨by decide +kernel, by decide +kernel⟩, List.mem_of_getElem? (i := 1193) (by decide +kernel), List.mem_of_getElem? (i := 1483) (by decide +kernel), List.mem_of_getElem? (i := 1484) (by decide +kernel)⟩
theorem lw_p50 : lw_okq (⟨"SlabWalkModel", "token", "()V"⟩, 89) := ⟨⟨by decide +kernel, by decide +kernel⟩, List.mem_of_getElem? (i := 1193) (by decide +kernel), List.mem_of_getElem? (i := 1487) (by decide +kernel), List.mem_of_getElem? (i := 1488) (by decide +kernel)⟩
theorem lw_p51 : lw_okq (⟨"SlabWalkModel", "here", "(I)I"⟩, 89) := ⟨⟨by decide +kernel, by decide +kernel⟩, List.mem_of_getElem? (i := 1193) (by decide +kernel), List.mem_of_getElem? (i := 1491) (by decide +kernel), List.mem_of_getElem? (i := 1492) (by decide +kernel)⟩
theorem lw_p52 : lw_okq (⟨"SlabWalkModel", "readLine", "()V"⟩, 89) := ⟨⟨by decide +kernel, by decide +kernel⟩, List.mem_of_getElem? (i := 1193) (by decide +kernel), List.mem_of_getElem? (i := 1504) (by decide +kernel), List.mem_of_getElem? (i := 1505) (by decide +kernel)⟩
theorem lw_p53 : lw_okq (⟨"SlabWalkModel", "isWord", "(J)Z"⟩, 89) := ⟨⟨by decide +kernel, by decide +kernel⟩, List.mem_of_getElem? (i := 1193) (by decide +kernel), List.mem_of_getElem? (i := 1509) (by decide +kernel), List.mem_of_getElem? (i := 1510) (by decide +kernel)⟩
theorem lw_p54 : lw_okq (⟨"SlabWalkModel", "readStreet", "()V"⟩, 89) := ⟨⟨by decide +kernel, by decide +kernel⟩, List.mem_of_getElem? (i := 1193) (by decide +kernel), List.mem_of_getElem? (i := 1513) (by decide +kernel), List.mem_of_getElem? (i := 1514) (by decide +kernel)⟩
theorem lw_p55 : lw_okq (⟨"SlabWalkModel", "newName", "(II)V"⟩, 89) := ⟨⟨by decide +kernel, by decide +kernel⟩, List.mem_of_getElem? (i := 1193) (by decide +kernel), List.mem_of_getElem? (i := 1517) (by decide +kernel), List.mem_of_getElem? (i := 1518) (by decide +kernel)⟩
theorem lw_p56 : lw_okq (⟨"SlabWalkModel", "isName", "()Z"⟩, 89) := ⟨⟨by decide +kernel, by decide +kernel⟩, List.mem_of_getElem? (i := 1193) (by decide +kernel), List.mem_of_getElem? (i := 1521) (by decide +kernel), List.mem_of_getElem? (i := 1522) (by decide +kernel)⟩
theorem lw_p57 : lw_okq (⟨"SlabWalkModel", "isOwn", "()Z"⟩, 89) := ⟨⟨by decide +kernel, by decide +kernel⟩, List.mem_of_getElem? (i := 1193) (by decide +kernel), List.mem_of_getElem? (i := 1525) (by decide +kernel), List.mem_of_getElem? (i := 1526) (by decide +kernel)⟩
theorem lw_p58 : lw_okq (⟨"SlabWalkModel", "mark", "()I"⟩, 89) := ⟨⟨by decide +kernel, by decide +kernel⟩, List.mem_of_getElem? (i := 1193) (by decide +kernel), List.mem_of_getElem? (i := 1540) (by decide +kernel), List.mem_of_getElem? (i := 1541) (by decide +kernel)⟩
theorem lw_p59 : lw_okq (⟨"SlabWalkModel", "wrong", "(I)V"⟩, 89) := ⟨⟨by decide +kernel, by decide +kernel⟩, List.mem_of_getElem? (i := 1193) (by decide +kernel), List.mem_of_getElem? (i := 1555) (by decide +kernel), List.mem_of_getElem? (i := 1556) (by decide +kernel)⟩
theorem lw_p60 : lw_okq (⟨"SlabWalkModel", "told", "(JII)I"⟩, 89) := ⟨⟨by decide +kernel, by decide +kernel⟩, List.mem_of_getElem? (i := 1193) (by decide +kernel), List.mem_of_getElem? (i := 1559) (by decide +kernel), List.mem_of_getElem? (i := 1560) (by decide +kernel)⟩
theorem lw_p61 : lw_okq (⟨"SlabWalkModel", "want", "(J)V"⟩, 89) := ⟨⟨by decide +kernel, by decide +kernel⟩, List.mem_of_getElem? (i := 1193) (by decide +kernel), List.mem_of_getElem? (i := 1563) (by decide +kernel), List.mem_of_getElem? (i := 1564) (by decide +kernel)⟩
theorem lw_p62 : lw_okq (⟨"SlabWalkModel", "toldNumber", "(II)I"⟩, 89) := ⟨⟨by decide +kernel, by decide +kernel⟩, List.mem_of_getElem? (i := 1193) (by decide +kernel), List.mem_of_getElem? (i := 1567) (by decide +kernel), List.mem_of_getElem? (i := 1568) (by decide +kernel)⟩
theorem lw_p63 : lw_okq (⟨"SlabWalkModel", "readSlab", "(II)V"⟩, 89) := ⟨⟨by decide +kernel, by decide +kernel⟩, List.mem_of_getElem? (i := 1193) (by decide +kernel), List.mem_of_getElem? (i := 1571) (by decide +kernel), List.mem_of_getElem? (i := 1572) (by decide +kernel)⟩
def lw_privs_4 : List (MethodName × Nat) := [(⟨"SlabWalkModel", "four", "(I)V"⟩, 89), (⟨"SlabWalkModel", "readAll", "()V"⟩, 89), (⟨"SlabWalkModel", "token", "()V"⟩, 89), (⟨"SlabWalkModel", "here", "(I)I"⟩, 89), (⟨"SlabWalkModel", "readLine", "()V"⟩, 89), (⟨"SlabWalkModel", "isWord", "(J)Z"⟩, 89), (⟨"SlabWalkModel", "readStreet", "()V"⟩, 89), (⟨"SlabWalkModel", "newName", "(II)V"⟩, 89), (⟨"SlabWalkModel", "isName", "()Z"⟩, 89), (⟨"SlabWalkModel", "isOwn", "()Z"⟩, 89), (⟨"SlabWalkModel", "mark", "()I"⟩, 89), (⟨"SlabWalkModel", "wrong", "(I)V"⟩, 89), (⟨"SlabWalkModel", "told", "(JII)I"⟩, 89), (⟨"SlabWalkModel", "want", "(J)V"⟩, 89), (⟨"SlabWalkModel", "toldNumber", "(II)I"⟩, 89), (⟨"SlabWalkModel", "readSlab", "(II)V"⟩, 89)]
theorem lw_r4 : ∀ q ∈ lw_privs_4, lw_okq q := List.forall_mem_cons.mpr ⟨lw_p48, List.forall_mem_cons.mpr ⟨lw_p49, List.forall_mem_cons.mpr ⟨lw_p50, List.forall_mem_cons.mpr ⟨lw_p51, List.forall_mem_cons.mpr ⟨lw_p52, List.forall_mem_cons.mpr ⟨lw_p53, List.forall_mem_cons.mpr ⟨lw_p54, List.forall_mem_cons.mpr ⟨lw_p55, List.forall_mem_cons.mpr ⟨lw_p56, List.forall_mem_cons.mpr ⟨lw_p57, List.forall_mem_cons.mpr ⟨lw_p58, List.forall_mem_cons.mpr ⟨lw_p59, List.forall_mem_cons.mpr ⟨lw_p60, List.forall_mem_cons.mpr ⟨lw_p61, List.forall_mem_cons.mpr ⟨lw_p62, List.forall_mem_cons.mpr ⟨lw_p63, fun _ h => absurd h List.not_mem_nil⟩⟩⟩⟩⟩⟩⟩⟩⟩⟩⟩⟩⟩⟩⟩⟩
theorem lw_p64 : lw_okq (⟨"SlabWalkModel", "wrongAt", "(II)V"⟩, 89) := ⟨⟨by decide +kernel, by decide +kernel⟩, List.mem_of_getElem? (i := 1193) (by decide +kernel), List.mem_of_getElem? (i := 1575) (by decide +kernel), List.mem_of_getElem? (i := 1576) (by decide +kernel)⟩
theorem lw_p65 : lw_okq (⟨"SlabWalkModel", "pave", "(III)V"⟩, 89) := ⟨⟨by decide +kernel, by decide +kernel⟩, List.mem_of_getElem? (i := 1193) (by decide +kernel), List.mem_of_getElem? (i := 1579) (by decide +kernel), List.mem_of_getElem? (i := 1580) (by decide +kernel)⟩
theorem lw_p66 : lw_okq (⟨"SlabWalkModel", "readWalker", "()V"⟩, 89) := ⟨⟨by decide +kernel, by decide +kernel⟩, List.mem_of_getElem? (i := 1193) (by decide +kernel), List.mem_of_getElem? (i := 1583) (by decide +kernel), List.mem_of_getElem? (i := 1584) (by decide +kernel)⟩
theorem lw_p67 : lw_okq (⟨"SlabWalkModel", "takes", "(J)Z"⟩, 89) := ⟨⟨by decide +kernel, by decide +kernel⟩, List.mem_of_getElem? (i := 1193) (by decide +kernel), List.mem_of_getElem? (i := 1587) (by decide +kernel), List.mem_of_getElem? (i := 1588) (by decide +kernel)⟩
theorem lw_p68 : lw_okq (⟨"SlabWalkModel", "readRule", "()V"⟩, 89) := ⟨⟨by decide +kernel, by decide +kernel⟩, List.mem_of_getElem? (i := 1193) (by decide +kernel), List.mem_of_getElem? (i := 1591) (by decide +kernel), List.mem_of_getElem? (i := 1592) (by decide +kernel)⟩
theorem lw_p69 : lw_okq (⟨"SlabWalkModel", "formula", "(I)V"⟩, 89) := ⟨⟨by decide +kernel, by decide +kernel⟩, List.mem_of_getElem? (i := 1193) (by decide +kernel), List.mem_of_getElem? (i := 1595) (by decide +kernel), List.mem_of_getElem? (i := 1596) (by decide +kernel)⟩
theorem lw_p70 : lw_okq (⟨"SlabWalkModel", "unit", "()V"⟩, 89) := ⟨⟨by decide +kernel, by decide +kernel⟩, List.mem_of_getElem? (i := 1193) (by decide +kernel), List.mem_of_getElem? (i := 1599) (by decide +kernel), List.mem_of_getElem? (i := 1600) (by decide +kernel)⟩
theorem lw_p71 : lw_okq (⟨"SlabWalkModel", "mayNot", "()Z"⟩, 89) := ⟨⟨by decide +kernel, by decide +kernel⟩, List.mem_of_getElem? (i := 1193) (by decide +kernel), List.mem_of_getElem? (i := 1603) (by decide +kernel), List.mem_of_getElem? (i := 1604) (by decide +kernel)⟩
theorem lw_p72 : lw_okq (⟨"SlabWalkModel", "openUp", "(I)V"⟩, 89) := ⟨⟨by decide +kernel, by decide +kernel⟩, List.mem_of_getElem? (i := 1193) (by decide +kernel), List.mem_of_getElem? (i := 1610) (by decide +kernel), List.mem_of_getElem? (i := 1611) (by decide +kernel)⟩
theorem lw_p73 : lw_okq (⟨"SlabWalkModel", "isFull", "()Z"⟩, 89) := ⟨⟨by decide +kernel, by decide +kernel⟩, List.mem_of_getElem? (i := 1193) (by decide +kernel), List.mem_of_getElem? (i := 1614) (by decide +kernel), List.mem_of_getElem? (i := 1615) (by decide +kernel)⟩
theorem lw_p74 : lw_okq (⟨"SlabWalkModel", "countUnit", "()V"⟩, 89) := ⟨⟨by decide +kernel, by decide +kernel⟩, List.mem_of_getElem? (i := 1193) (by decide +kernel), List.mem_of_getElem? (i := 1618) (by decide +kernel), List.mem_of_getElem? (i := 1619) (by decide +kernel)⟩
theorem lw_p75 : lw_okq (⟨"SlabWalkModel", "asked", "()I"⟩, 89) := ⟨⟨by decide +kernel, by decide +kernel⟩, List.mem_of_getElem? (i := 1193) (by decide +kernel), List.mem_of_getElem? (i := 1622) (by decide +kernel), List.mem_of_getElem? (i := 1623) (by decide +kernel)⟩
theorem lw_p76 : lw_okq (⟨"SlabWalkModel", "add", "(II)V"⟩, 89) := ⟨⟨by decide +kernel, by decide +kernel⟩, List.mem_of_getElem? (i := 1193) (by decide +kernel), List.mem_of_getElem? (i := 1626) (by decide +kernel), List.mem_of_getElem? (i := 1627) (by decide +kernel)⟩
theorem lw_p77 : lw_okq (⟨"SlabWalkModel", "sign", "()I"⟩, 89) := ⟨⟨by decide +kernel, by decide +kernel⟩, List.mem_of_getElem? (i := 1193) (by decide +kernel), List.mem_of_getElem? (i := 1630) (by decide +kernel), List.mem_of_getElem? (i := 1631) (by decide +kernel)⟩
theorem lw_p78 : lw_okq (⟨"SlabWalkModel", "hasBracket", "()Z"⟩, 89) := ⟨⟨by decide +kernel, by decide +kernel⟩, List.mem_of_getElem? (i := 1193) (by decide +kernel), List.mem_of_getElem? (i := 1634) (by decide +kernel), List.mem_of_getElem? (i := 1635) (by decide +kernel)⟩
theorem lw_p79 : lw_okq (⟨"SlabWalkModel", "close", "(I)V"⟩, 89) := ⟨⟨by decide +kernel, by decide +kernel⟩, List.mem_of_getElem? (i := 1193) (by decide +kernel), List.mem_of_getElem? (i := 1638) (by decide +kernel), List.mem_of_getElem? (i := 1639) (by decide +kernel)⟩
def lw_privs_5 : List (MethodName × Nat) := [(⟨"SlabWalkModel", "wrongAt", "(II)V"⟩, 89), (⟨"SlabWalkModel", "pave", "(III)V"⟩, 89), (⟨"SlabWalkModel", "readWalker", "()V"⟩, 89), (⟨"SlabWalkModel", "takes", "(J)Z"⟩, 89), (⟨"SlabWalkModel", "readRule", "()V"⟩, 89), (⟨"SlabWalkModel", "formula", "(I)V"⟩, 89), (⟨"SlabWalkModel", "unit", "()V"⟩, 89), (⟨"SlabWalkModel", "mayNot", "()Z"⟩, 89), (⟨"SlabWalkModel", "openUp", "(I)V"⟩, 89), (⟨"SlabWalkModel", "isFull", "()Z"⟩, 89), (⟨"SlabWalkModel", "countUnit", "()V"⟩, 89), (⟨"SlabWalkModel", "asked", "()I"⟩, 89), (⟨"SlabWalkModel", "add", "(II)V"⟩, 89), (⟨"SlabWalkModel", "sign", "()I"⟩, 89), (⟨"SlabWalkModel", "hasBracket", "()Z"⟩, 89), (⟨"SlabWalkModel", "close", "(I)V"⟩, 89)]
theorem lw_r5 : ∀ q ∈ lw_privs_5, lw_okq q := List.forall_mem_cons.mpr ⟨lw_p64, List.forall_mem_cons.mpr ⟨lw_p65, List.forall_mem_cons.mpr ⟨lw_p66, List.forall_mem_cons.mpr ⟨lw_p67, List.forall_mem_cons.mpr ⟨lw_p68, List.forall_mem_cons.mpr ⟨lw_p69, List.forall_mem_cons.mpr ⟨lw_p70, List.forall_mem_cons.mpr ⟨lw_p71, List.forall_mem_cons.mpr ⟨lw_p72, List.forall_mem_cons.mpr ⟨lw_p73, List.forall_mem_cons.mpr ⟨lw_p74, List.forall_mem_cons.mpr ⟨lw_p75, List.forall_mem_cons.mpr ⟨lw_p76, List.forall_mem_cons.mpr ⟨lw_p77, List.forall_mem_cons.mpr ⟨lw_p78, List.forall_mem_cons.mpr ⟨lw_p79, fun _ h => absurd h List.not_mem_nil⟩⟩⟩⟩⟩⟩⟩⟩⟩⟩⟩⟩⟩⟩⟩⟩
theorem lw_p80 : lw_okq (⟨"SlabWalkModel", "hasRelation", "()Z"⟩, 89) := ⟨⟨by decide +kernel, by decide +kernel⟩, List.mem_of_getElem? (i := 1193) (by decide +kernel), List.mem_of_getElem? (i := 1642) (by decide +kernel), List.mem_of_getElem? (i := 1643) (by decide +kernel)⟩
theorem lw_p81 : lw_okq (⟨"SlabWalkModel", "isOnce", "(JI)Z"⟩, 89) := ⟨⟨by decide +kernel, by decide +kernel⟩, List.mem_of_getElem? (i := 1193) (by decide +kernel), List.mem_of_getElem? (i := 1646) (by decide +kernel), List.mem_of_getElem? (i := 1647) (by decide +kernel)⟩
theorem lw_p82 : lw_okq (⟨"SlabWalkModel", "readSlip", "()V"⟩, 89) := ⟨⟨by decide +kernel, by decide +kernel⟩, List.mem_of_getElem? (i := 1193) (by decide +kernel), List.mem_of_getElem? (i := 1650) (by decide +kernel), List.mem_of_getElem? (i := 1651) (by decide +kernel)⟩
theorem lw_p83 : lw_okq (⟨"SlabWalkModel", "isStreet", "(I)Z"⟩, 89) := ⟨⟨by decide +kernel, by decide +kernel⟩, List.mem_of_getElem? (i := 1193) (by decide +kernel), List.mem_of_getElem? (i := 1662) (by decide +kernel), List.mem_of_getElem? (i := 1663) (by decide +kernel)⟩
theorem lw_p84 : lw_okq (⟨"SlabWalkModel", "isInch", "(II)Z"⟩, 89) := ⟨⟨by decide +kernel, by decide +kernel⟩, List.mem_of_getElem? (i := 1193) (by decide +kernel), List.mem_of_getElem? (i := 1669) (by decide +kernel), List.mem_of_getElem? (i := 1670) (by decide +kernel)⟩
theorem lw_p85 : lw_okq (⟨"SlabWalkModel", "areRules", "(I)Z"⟩, 89) := ⟨⟨by decide +kernel, by decide +kernel⟩, List.mem_of_getElem? (i := 1193) (by decide +kernel), List.mem_of_getElem? (i := 1684) (by decide +kernel), List.mem_of_getElem? (i := 1685) (by decide +kernel)⟩
theorem lw_p86 : lw_okq (⟨"SlabWalkModel", "isLine", "(III)Z"⟩, 89) := ⟨⟨by decide +kernel, by decide +kernel⟩, List.mem_of_getElem? (i := 1193) (by decide +kernel), List.mem_of_getElem? (i := 1688) (by decide +kernel), List.mem_of_getElem? (i := 1689) (by decide +kernel)⟩
theorem lw_p87 : lw_okq (⟨"SlabWalkModel", "worked", "(II)I"⟩, 89) := ⟨⟨by decide +kernel, by decide +kernel⟩, List.mem_of_getElem? (i := 1193) (by decide +kernel), List.mem_of_getElem? (i := 1692) (by decide +kernel), List.mem_of_getElem? (i := 1693) (by decide +kernel)⟩
theorem lw_p88 : lw_okq (⟨"SlabWalkModel", "askOf", "(II)I"⟩, 89) := ⟨⟨by decide +kernel, by decide +kernel⟩, List.mem_of_getElem? (i := 1193) (by decide +kernel), List.mem_of_getElem? (i := 1696) (by decide +kernel), List.mem_of_getElem? (i := 1697) (by decide +kernel)⟩
theorem lw_p89 : lw_okq (⟨"SlabWalkModel", "isAsked", "(III)Z"⟩, 89) := ⟨⟨by decide +kernel, by decide +kernel⟩, List.mem_of_getElem? (i := 1193) (by decide +kernel), List.mem_of_getElem? (i := 1711) (by decide +kernel), List.mem_of_getElem? (i := 1712) (by decide +kernel)⟩
theorem lw_p90 : lw_okq (⟨"SlabWalkModel", "isWalker", "(I)Z"⟩, 89) := ⟨⟨by decide +kernel, by decide +kernel⟩, List.mem_of_getElem? (i := 1193) (by decide +kernel), List.mem_of_getElem? (i := 1715) (by decide +kernel), List.mem_of_getElem? (i := 1716) (by decide +kernel)⟩
theorem lw_p91 : lw_okq (⟨"SlabWalkModel", "layStreet", "(III)V"⟩, 89) := ⟨⟨by decide +kernel, by decide +kernel⟩, List.mem_of_getElem? (i := 1193) (by decide +kernel), List.mem_of_getElem? (i := 1719) (by decide +kernel), List.mem_of_getElem? (i := 1720) (by decide +kernel)⟩
theorem lw_p92 : lw_okq (⟨"SlabWalkModel", "doesStand", "(I)Z"⟩, 89) := ⟨⟨by decide +kernel, by decide +kernel⟩, List.mem_of_getElem? (i := 1193) (by decide +kernel), List.mem_of_getElem? (i := 1723) (by decide +kernel), List.mem_of_getElem? (i := 1724) (by decide +kernel)⟩
theorem lw_p93 : lw_okq (⟨"SlabWalkModel", "layNeeds", "()V"⟩, 89) := ⟨⟨by decide +kernel, by decide +kernel⟩, List.mem_of_getElem? (i := 1193) (by decide +kernel), List.mem_of_getElem? (i := 1731) (by decide +kernel), List.mem_of_getElem? (i := 1732) (by decide +kernel)⟩
theorem lw_p94 : lw_okq (⟨"SlabWalkModel", "layNeed", "(II)V"⟩, 89) := ⟨⟨by decide +kernel, by decide +kernel⟩, List.mem_of_getElem? (i := 1193) (by decide +kernel), List.mem_of_getElem? (i := 1735) (by decide +kernel), List.mem_of_getElem? (i := 1736) (by decide +kernel)⟩
theorem lw_p95 : lw_okq (⟨"SlabWalkModel", "isEnd", "(I)Z"⟩, 89) := ⟨⟨by decide +kernel, by decide +kernel⟩, List.mem_of_getElem? (i := 1193) (by decide +kernel), List.mem_of_getElem? (i := 1739) (by decide +kernel), List.mem_of_getElem? (i := 1740) (by decide +kernel)⟩
def lw_privs_6 : List (MethodName × Nat) := [(⟨"SlabWalkModel", "hasRelation", "()Z"⟩, 89), (⟨"SlabWalkModel", "isOnce", "(JI)Z"⟩, 89), (⟨"SlabWalkModel", "readSlip", "()V"⟩, 89), (⟨"SlabWalkModel", "isStreet", "(I)Z"⟩, 89), (⟨"SlabWalkModel", "isInch", "(II)Z"⟩, 89), (⟨"SlabWalkModel", "areRules", "(I)Z"⟩, 89), (⟨"SlabWalkModel", "isLine", "(III)Z"⟩, 89), (⟨"SlabWalkModel", "worked", "(II)I"⟩, 89), (⟨"SlabWalkModel", "askOf", "(II)I"⟩, 89), (⟨"SlabWalkModel", "isAsked", "(III)Z"⟩, 89), (⟨"SlabWalkModel", "isWalker", "(I)Z"⟩, 89), (⟨"SlabWalkModel", "layStreet", "(III)V"⟩, 89), (⟨"SlabWalkModel", "doesStand", "(I)Z"⟩, 89), (⟨"SlabWalkModel", "layNeeds", "()V"⟩, 89), (⟨"SlabWalkModel", "layNeed", "(II)V"⟩, 89), (⟨"SlabWalkModel", "isEnd", "(I)Z"⟩, 89)]
theorem lw_r6 : ∀ q ∈ lw_privs_6, lw_okq q := List.forall_mem_cons.mpr ⟨lw_p80, List.forall_mem_cons.mpr ⟨lw_p81, List.forall_mem_cons.mpr ⟨lw_p82, List.forall_mem_cons.mpr ⟨lw_p83, List.forall_mem_cons.mpr ⟨lw_p84, List.forall_mem_cons.mpr ⟨lw_p85, List.forall_mem_cons.mpr ⟨lw_p86, List.forall_mem_cons.mpr ⟨lw_p87, List.forall_mem_cons.mpr ⟨lw_p88, List.forall_mem_cons.mpr ⟨lw_p89, List.forall_mem_cons.mpr ⟨lw_p90, List.forall_mem_cons.mpr ⟨lw_p91, List.forall_mem_cons.mpr ⟨lw_p92, List.forall_mem_cons.mpr ⟨lw_p93, List.forall_mem_cons.mpr ⟨lw_p94, List.forall_mem_cons.mpr ⟨lw_p95, fun _ h => absurd h List.not_mem_nil⟩⟩⟩⟩⟩⟩⟩⟩⟩⟩⟩⟩⟩⟩⟩⟩
theorem lw_p96 : lw_okq (⟨"SlabWalkModel", "needOf", "(III)I"⟩, 89) := ⟨⟨by decide +kernel, by decide +kernel⟩, List.mem_of_getElem? (i := 1193) (by decide +kernel), List.mem_of_getElem? (i := 1744) (by decide +kernel), List.mem_of_getElem? (i := 1745) (by decide +kernel)⟩
theorem lw_p97 : lw_okq (⟨"SlabWalkModel", "lay", "(I)V"⟩, 89) := ⟨⟨by decide +kernel, by decide +kernel⟩, List.mem_of_getElem? (i := 1193) (by decide +kernel), List.mem_of_getElem? (i := 1751) (by decide +kernel), List.mem_of_getElem? (i := 1752) (by decide +kernel)⟩
theorem lw_p98 : lw_okq (⟨"SlabWalkModel", "goOn", "(I)V"⟩, 89) := ⟨⟨by decide +kernel, by decide +kernel⟩, List.mem_of_getElem? (i := 1193) (by decide +kernel), List.mem_of_getElem? (i := 1760) (by decide +kernel), List.mem_of_getElem? (i := 1761) (by decide +kernel)⟩
theorem lw_p99 : lw_okq (⟨"SlabWalkModel", "isEven", "(II)Z"⟩, 89) := ⟨⟨by decide +kernel, by decide +kernel⟩, List.mem_of_getElem? (i := 1193) (by decide +kernel), List.mem_of_getElem? (i := 1772) (by decide +kernel), List.mem_of_getElem? (i := 1773) (by decide +kernel)⟩
theorem lw_p100 : lw_okq (⟨"SlabWalkModel", "comesToEnd", "(II)Z"⟩, 89) := ⟨⟨by decide +kernel, by decide +kernel⟩, List.mem_of_getElem? (i := 1193) (by decide +kernel), List.mem_of_getElem? (i := 1784) (by decide +kernel), List.mem_of_getElem? (i := 1785) (by decide +kernel)⟩
theorem lw_p101 : lw_okq (⟨"SlabWalkModel", "isHeld", "(II)Z"⟩, 89) := ⟨⟨by decide +kernel, by decide +kernel⟩, List.mem_of_getElem? (i := 1193) (by decide +kernel), List.mem_of_getElem? (i := 1816) (by decide +kernel), List.mem_of_getElem? (i := 1817) (by decide +kernel)⟩
theorem lw_p102 : lw_okq (⟨"SlabWalkModel", "keepOn", "(II)V"⟩, 89) := ⟨⟨by decide +kernel, by decide +kernel⟩, List.mem_of_getElem? (i := 1193) (by decide +kernel), List.mem_of_getElem? (i := 1820) (by decide +kernel), List.mem_of_getElem? (i := 1821) (by decide +kernel)⟩
theorem lw_p103 : lw_okq (⟨"SlabWalkModel", "layBold", "(IIIII)Z"⟩, 89) := ⟨⟨by decide +kernel, by decide +kernel⟩, List.mem_of_getElem? (i := 1193) (by decide +kernel), List.mem_of_getElem? (i := 1828) (by decide +kernel), List.mem_of_getElem? (i := 1829) (by decide +kernel)⟩
theorem lw_p104 : lw_okq (⟨"SlabWalkModel", "bestOdds", "(II)J"⟩, 89) := ⟨⟨by decide +kernel, by decide +kernel⟩, List.mem_of_getElem? (i := 1193) (by decide +kernel), List.mem_of_getElem? (i := 1832) (by decide +kernel), List.mem_of_getElem? (i := 1833) (by decide +kernel)⟩
theorem lw_p105 : lw_okq (⟨"SlabWalkModel", "rest", "(I)J"⟩, 89) := ⟨⟨by decide +kernel, by decide +kernel⟩, List.mem_of_getElem? (i := 1193) (by decide +kernel), List.mem_of_getElem? (i := 1836) (by decide +kernel), List.mem_of_getElem? (i := 1837) (by decide +kernel)⟩
theorem lw_p106 : lw_okq (⟨"SlabWalkModel", "allSlips", "()I"⟩, 89) := ⟨⟨by decide +kernel, by decide +kernel⟩, List.mem_of_getElem? (i := 1193) (by decide +kernel), List.mem_of_getElem? (i := 1840) (by decide +kernel), List.mem_of_getElem? (i := 1841) (by decide +kernel)⟩
theorem lw_p107 : lw_okq (⟨"SlabWalkModel", "oddsBy", "(IIIJ)J"⟩, 89) := ⟨⟨by decide +kernel, by decide +kernel⟩, List.mem_of_getElem? (i := 1193) (by decide +kernel), List.mem_of_getElem? (i := 1844) (by decide +kernel), List.mem_of_getElem? (i := 1845) (by decide +kernel)⟩
theorem lw_p108 : lw_okq (⟨"SlabWalkModel", "layWays", "(II)V"⟩, 89) := ⟨⟨by decide +kernel, by decide +kernel⟩, List.mem_of_getElem? (i := 1193) (by decide +kernel), List.mem_of_getElem? (i := 1856) (by decide +kernel), List.mem_of_getElem? (i := 1857) (by decide +kernel)⟩
theorem lw_p109 : lw_okq (⟨"SlabWalkModel", "hasWay", "(III)Z"⟩, 89) := ⟨⟨by decide +kernel, by decide +kernel⟩, List.mem_of_getElem? (i := 1193) (by decide +kernel), List.mem_of_getElem? (i := 1860) (by decide +kernel), List.mem_of_getElem? (i := 1861) (by decide +kernel)⟩
theorem lw_p110 : lw_okq (⟨"SlabWalkModel", "layWins", "(I)V"⟩, 89) := ⟨⟨by decide +kernel, by decide +kernel⟩, List.mem_of_getElem? (i := 1193) (by decide +kernel), List.mem_of_getElem? (i := 1864) (by decide +kernel), List.mem_of_getElem? (i := 1865) (by decide +kernel)⟩
theorem lw_p111 : lw_okq (⟨"SlabWalkModel", "act", "()V"⟩, 89) := ⟨⟨by decide +kernel, by decide +kernel⟩, List.mem_of_getElem? (i := 1193) (by decide +kernel), List.mem_of_getElem? (i := 1876) (by decide +kernel), List.mem_of_getElem? (i := 1877) (by decide +kernel)⟩
def lw_privs_7 : List (MethodName × Nat) := [(⟨"SlabWalkModel", "needOf", "(III)I"⟩, 89), (⟨"SlabWalkModel", "lay", "(I)V"⟩, 89), (⟨"SlabWalkModel", "goOn", "(I)V"⟩, 89), (⟨"SlabWalkModel", "isEven", "(II)Z"⟩, 89), (⟨"SlabWalkModel", "comesToEnd", "(II)Z"⟩, 89), (⟨"SlabWalkModel", "isHeld", "(II)Z"⟩, 89), (⟨"SlabWalkModel", "keepOn", "(II)V"⟩, 89), (⟨"SlabWalkModel", "layBold", "(IIIII)Z"⟩, 89), (⟨"SlabWalkModel", "bestOdds", "(II)J"⟩, 89), (⟨"SlabWalkModel", "rest", "(I)J"⟩, 89), (⟨"SlabWalkModel", "allSlips", "()I"⟩, 89), (⟨"SlabWalkModel", "oddsBy", "(IIIJ)J"⟩, 89), (⟨"SlabWalkModel", "layWays", "(II)V"⟩, 89), (⟨"SlabWalkModel", "hasWay", "(III)Z"⟩, 89), (⟨"SlabWalkModel", "layWins", "(I)V"⟩, 89), (⟨"SlabWalkModel", "act", "()V"⟩, 89)]
theorem lw_r7 : ∀ q ∈ lw_privs_7, lw_okq q := List.forall_mem_cons.mpr ⟨lw_p96, List.forall_mem_cons.mpr ⟨lw_p97, List.forall_mem_cons.mpr ⟨lw_p98, List.forall_mem_cons.mpr ⟨lw_p99, List.forall_mem_cons.mpr ⟨lw_p100, List.forall_mem_cons.mpr ⟨lw_p101, List.forall_mem_cons.mpr ⟨lw_p102, List.forall_mem_cons.mpr ⟨lw_p103, List.forall_mem_cons.mpr ⟨lw_p104, List.forall_mem_cons.mpr ⟨lw_p105, List.forall_mem_cons.mpr ⟨lw_p106, List.forall_mem_cons.mpr ⟨lw_p107, List.forall_mem_cons.mpr ⟨lw_p108, List.forall_mem_cons.mpr ⟨lw_p109, List.forall_mem_cons.mpr ⟨lw_p110, List.forall_mem_cons.mpr ⟨lw_p111, fun _ h => absurd h List.not_mem_nil⟩⟩⟩⟩⟩⟩⟩⟩⟩⟩⟩⟩⟩⟩⟩⟩
theorem lw_p112 : lw_okq (⟨"SlabWalkModel", "stands", "(I)I"⟩, 89) := ⟨⟨by decide +kernel, by decide +kernel⟩, List.mem_of_getElem? (i := 1193) (by decide +kernel), List.mem_of_getElem? (i := 1880) (by decide +kernel), List.mem_of_getElem? (i := 1881) (by decide +kernel)⟩
theorem lw_p113 : lw_okq (⟨"SlabWalkModel", "isRule", "(I)Z"⟩, 89) := ⟨⟨by decide +kernel, by decide +kernel⟩, List.mem_of_getElem? (i := 1193) (by decide +kernel), List.mem_of_getElem? (i := 1892) (by decide +kernel), List.mem_of_getElem? (i := 1893) (by decide +kernel)⟩
theorem lw_p114 : lw_okq (⟨"SlabWalkModel", "exchange", "(I)V"⟩, 89) := ⟨⟨by decide +kernel, by decide +kernel⟩, List.mem_of_getElem? (i := 1193) (by decide +kernel), List.mem_of_getElem? (i := 1908) (by decide +kernel), List.mem_of_getElem? (i := 1909) (by decide +kernel)⟩
theorem lw_p115 : lw_okq (⟨"SlabWalkModel", "counts", "(II)Z"⟩, 89) := ⟨⟨by decide +kernel, by decide +kernel⟩, List.mem_of_getElem? (i := 1193) (by decide +kernel), List.mem_of_getElem? (i := 1940) (by decide +kernel), List.mem_of_getElem? (i := 1941) (by decide +kernel)⟩
def lw_privs_8 : List (MethodName × Nat) := [(⟨"SlabWalkModel", "stands", "(I)I"⟩, 89), (⟨"SlabWalkModel", "isRule", "(I)Z"⟩, 89), (⟨"SlabWalkModel", "exchange", "(I)V"⟩, 89), (⟨"SlabWalkModel", "counts", "(II)Z"⟩, 89)]
theorem lw_r8 : ∀ q ∈ lw_privs_8, lw_okq q := List.forall_mem_cons.mpr ⟨lw_p112, List.forall_mem_cons.mpr ⟨lw_p113, List.forall_mem_cons.mpr ⟨lw_p114, List.forall_mem_cons.mpr ⟨lw_p115, fun _ h => absurd h List.not_mem_nil⟩⟩⟩⟩
def lw_privs : List (MethodName × Nat) := lw_privs_1 ++ (lw_privs_2 ++ (lw_privs_3 ++ (lw_privs_4 ++ (lw_privs_5 ++ (lw_privs_6 ++ (lw_privs_7 ++ (lw_privs_8)))))))
def lw_tbl : List Cond := k2_sels lw_privs ++ tables_1
theorem lw_privs_ok : ∀ q ∈ lw_privs, lw_okq q := by
  show ∀ q ∈ lw_privs_1 ++ (lw_privs_2 ++ (lw_privs_3 ++ (lw_privs_4 ++ (lw_privs_5 ++ (lw_privs_6 ++ (lw_privs_7 ++ (lw_privs_8))))))), lw_okq q
  exact List.forall_mem_append.mpr ⟨lw_r1, List.forall_mem_append.mpr ⟨lw_r2, List.forall_mem_append.mpr ⟨lw_r3, List.forall_mem_append.mpr ⟨lw_r4, List.forall_mem_append.mpr ⟨lw_r5, List.forall_mem_append.mpr ⟨lw_r6, List.forall_mem_append.mpr ⟨lw_r7, lw_r8⟩⟩⟩⟩⟩⟩⟩
end
section
def RX0 : String := "SlabWalk$Course"
def TX0 : u_T := fun k => match k with
  | 0 => ("SlabWalk$Course", "lawful", "[Z", true)
  | 1 => ("SlabWalk$Course", "length", "I", false)
  | 2 => ("SlabWalk$Course", "foot", "I", false)
  | 3 => ("SlabWalk$Course", "least", "I", false)
  | 4 => ("SlabWalk$Course", "most", "I", false)
  | 5 => ("SlabWalk$Course", "leap", "I", false)
  | 6 => ("SlabWalk$Course", "last", "I", false)
  | _ => ("SlabWalk$Course", "end", "I", false)
def tyX0 : Nat → FieldType := fun k => match k with
  | 0 => .array .boolean
  | 1 => .int
  | 2 => .int
  | 3 => .int
  | 4 => .int
  | 5 => .int
  | 6 => .int
  | _ => .int
abbrev wsX00 : List Cond := u_ws RX0 TX0 8
theorem nmX0 : ∀ a, a < 8 → ∀ b, b < 8 → a ≠ b → (TX0 a).2.1 ≠ (TX0 b).2.1 := by decide +kernel
theorem tyX0_ok : ∀ k, k < 8 → parseFieldDescriptor (TX0 k).2.2.1 = some (tyX0 k) := by decide +kernel
abbrev cX0_init : ByteArray := prog_2_method_1_code
def yX0_init : MethodName := ⟨RX0, "<init>", "()V"⟩
abbrev cX0_lookAt : ByteArray := prog_2_method_2_code
def yX0_lookAt : MethodName := ⟨RX0, "lookAt", "(LSlabWalk$Paving;II)V"⟩
abbrev cX0_findLawful : ByteArray := prog_2_method_3_code
def yX0_findLawful : MethodName := ⟨RX0, "findLawful", "(LSlabWalk$Lines;II)V"⟩
abbrev cX0_lastFirst : ByteArray := prog_2_method_4_code
def yX0_lastFirst : MethodName := ⟨RX0, "lastFirst", "()I"⟩
def RX1 : String := "SlabWalk$Earnest"
def TX1 : u_T := fun k => match k with
  | 0 => ("SlabWalk$Earnest", "now", "[I", true)
  | 1 => ("SlabWalk$Earnest", "kept", "[I", true)
  | 2 => ("SlabWalk$Earnest", "boxes", "[I", true)
  | 3 => ("SlabWalk$Earnest", "full", "I", false)
  | 4 => ("SlabWalk$Earnest", "done", "I", false)
  | _ => ("SlabWalk$Earnest", "undone", "I", false)
def tyX1 : Nat → FieldType := fun k => match k with
  | 0 => .array .int
  | 1 => .array .int
  | 2 => .array .int
  | 3 => .int
  | 4 => .int
  | _ => .int
abbrev wsX10 : List Cond := u_ws RX1 TX1 6
theorem nmX1 : ∀ a, a < 6 → ∀ b, b < 6 → a ≠ b → (TX1 a).2.1 ≠ (TX1 b).2.1 := by decide +kernel
theorem tyX1_ok : ∀ k, k < 6 → parseFieldDescriptor (TX1 k).2.2.1 = some (tyX1 k) := by decide +kernel
abbrev cX1_init : ByteArray := prog_3_method_1_code
def yX1_init : MethodName := ⟨RX1, "<init>", "()V"⟩
abbrev cX1_startAnew : ByteArray := prog_3_method_2_code
def yX1_startAnew : MethodName := ⟨RX1, "startAnew", "(I)V"⟩
abbrev cX1_forgetActs : ByteArray := prog_3_method_3_code
def yX1_forgetActs : MethodName := ⟨RX1, "forgetActs", "()V"⟩
abbrev cX1_setOut : ByteArray := prog_3_method_4_code
def yX1_setOut : MethodName := ⟨RX1, "setOut", "(III)V"⟩
abbrev cX1_drawSeed : ByteArray := prog_3_method_5_code
def yX1_drawSeed : MethodName := ⟨RX1, "drawSeed", "()V"⟩
abbrev cX1_keepAct : ByteArray := prog_3_method_6_code
def yX1_keepAct : MethodName := ⟨RX1, "keepAct", "()V"⟩
abbrev cX1_takeBack : ByteArray := prog_3_method_7_code
def yX1_takeBack : MethodName := ⟨RX1, "takeBack", "()Z"⟩
abbrev cX1_doAgain : ByteArray := prog_3_method_8_code
def yX1_doAgain : MethodName := ⟨RX1, "doAgain", "()Z"⟩
abbrev cX1_keepIn : ByteArray := prog_3_method_9_code
def yX1_keepIn : MethodName := ⟨RX1, "keepIn", "(I)Z"⟩
abbrev cX1_bringFrom : ByteArray := prog_3_method_10_code
def yX1_bringFrom : MethodName := ⟨RX1, "bringFrom", "(I)Z"⟩
def RX2 : String := "SlabWalk$Formulas"
def TX2 : u_T := fun k => match k with
  | 0 => ("SlabWalk$Formulas", "tokens", "LSlabWalk$Tokens;", true)
  | 1 => ("SlabWalk$Formulas", "paving", "LSlabWalk$Paving;", false)
  | _ => ("SlabWalk$Formulas", "units", "I", false)
def tyX2 : Nat → FieldType := fun k => match k with
  | 0 => .object "SlabWalk$Tokens"
  | 1 => .object "SlabWalk$Paving"
  | _ => .int
abbrev wsX20 : List Cond := u_ws RX2 TX2 3
theorem nmX2 : ∀ a, a < 3 → ∀ b, b < 3 → a ≠ b → (TX2 a).2.1 ≠ (TX2 b).2.1 := by decide +kernel
theorem tyX2_ok : ∀ k, k < 3 → parseFieldDescriptor (TX2 k).2.2.1 = some (tyX2 k) := by decide +kernel
abbrev cX2_init : ByteArray := prog_4_method_1_code
def yX2_init : MethodName := ⟨RX2, "<init>", "(LSlabWalk$Tokens;LSlabWalk$Paving;)V"⟩
abbrev cX2_read : ByteArray := prog_4_method_2_code
def yX2_read : MethodName := ⟨RX2, "read", "(LSlabWalk$Paving;)Z"⟩
abbrev cX2_passEither : ByteArray := prog_4_method_3_code
def yX2_passEither : MethodName := ⟨RX2, "passEither", "(I)Z"⟩
abbrev cX2_passBoth : ByteArray := prog_4_method_4_code
def yX2_passBoth : MethodName := ⟨RX2, "passBoth", "(I)Z"⟩
abbrev cX2_passOne : ByteArray := prog_4_method_5_code
def yX2_passOne : MethodName := ⟨RX2, "passOne", "(I)Z"⟩
abbrev cX2_passRelation : ByteArray := prog_4_method_6_code
def yX2_passRelation : MethodName := ⟨RX2, "passRelation", "(I)Z"⟩
abbrev cX2_passSum : ByteArray := prog_4_method_7_code
def yX2_passSum : MethodName := ⟨RX2, "passSum", "(I)Z"⟩
abbrev cX2_passTerm : ByteArray := prog_4_method_8_code
def yX2_passTerm : MethodName := ⟨RX2, "passTerm", "(I)Z"⟩
abbrev cX2_isTimes : ByteArray := prog_4_method_9_code
def yX2_isTimes : MethodName := ⟨RX2, "isTimes", "(I)Z"⟩
abbrev cX2_passUnit : ByteArray := prog_4_method_10_code
def yX2_passUnit : MethodName := ⟨RX2, "passUnit", "(I)Z"⟩
abbrev cX2_passBracket : ByteArray := prog_4_method_11_code
def yX2_passBracket : MethodName := ⟨RX2, "passBracket", "(I)Z"⟩
def RX3 : String := "SlabWalk$Lines"
def TX3 : u_T := fun k => match k with
  | 0 => ("SlabWalk$Lines", "found", "[I", true)
  | 1 => ("SlabWalk$Lines", "foundOn", "[I", true)
  | 2 => ("SlabWalk$Lines", "values", "[I", true)
  | 3 => ("SlabWalk$Lines", "top", "I", false)
  | _ => ("SlabWalk$Lines", "paving", "LSlabWalk$Paving;", false)
def tyX3 : Nat → FieldType := fun k => match k with
  | 0 => .array .int
  | 1 => .array .int
  | 2 => .array .int
  | 3 => .int
  | _ => .object "SlabWalk$Paving"
abbrev wsX30 : List Cond := u_ws RX3 TX3 5
theorem nmX3 : ∀ a, a < 5 → ∀ b, b < 5 → a ≠ b → (TX3 a).2.1 ≠ (TX3 b).2.1 := by decide +kernel
theorem tyX3_ok : ∀ k, k < 5 → parseFieldDescriptor (TX3 k).2.2.1 = some (tyX3 k) := by decide +kernel
abbrev cX3_init : ByteArray := prog_5_method_1_code
def yX3_init : MethodName := ⟨RX3, "<init>", "(LSlabWalk$Paving;)V"⟩
abbrev cX3_lookAt : ByteArray := prog_5_method_2_code
def yX3_lookAt : MethodName := ⟨RX3, "lookAt", "(LSlabWalk$Paving;)V"⟩
abbrev cX3_findFor : ByteArray := prog_5_method_3_code
def yX3_findFor : MethodName := ⟨RX3, "findFor", "(II)V"⟩
abbrev cX3_isLine : ByteArray := prog_5_method_4_code
def yX3_isLine : MethodName := ⟨RX3, "isLine", "(III)Z"⟩
abbrev cX3_isLawful : ByteArray := prog_5_method_5_code
def yX3_isLawful : MethodName := ⟨RX3, "isLawful", "(IIII)Z"⟩
abbrev cX3_valueOf : ByteArray := prog_5_method_6_code
def yX3_valueOf : MethodName := ⟨RX3, "valueOf", "(III)I"⟩
abbrev cX3_push : ByteArray := prog_5_method_7_code
def yX3_push : MethodName := ⟨RX3, "push", "(I)V"⟩
abbrev cX3_pop : ByteArray := prog_5_method_8_code
def yX3_pop : MethodName := ⟨RX3, "pop", "()I"⟩
abbrev cX3_ownOf : ByteArray := prog_5_method_9_code
def yX3_ownOf : MethodName := ⟨RX3, "ownOf", "(III)I"⟩
abbrev cX3_join : ByteArray := prog_5_method_10_code
def yX3_join : MethodName := ⟨RX3, "join", "(III)I"⟩
def RX4 : String := "SlabWalk$Minima"
def TX4 : u_T := fun k => match k with
  | 0 => ("SlabWalk$Minima", "keys", "[I", true)
  | 1 => ("SlabWalk$Minima", "values", "[I", true)
  | 2 => ("SlabWalk$Minima", "head", "I", false)
  | _ => ("SlabWalk$Minima", "tail", "I", false)
def tyX4 : Nat → FieldType := fun k => match k with
  | 0 => .array .int
  | 1 => .array .int
  | 2 => .int
  | _ => .int
abbrev wsX40 : List Cond := u_ws RX4 TX4 4
theorem nmX4 : ∀ a, a < 4 → ∀ b, b < 4 → a ≠ b → (TX4 a).2.1 ≠ (TX4 b).2.1 := by decide +kernel
theorem tyX4_ok : ∀ k, k < 4 → parseFieldDescriptor (TX4 k).2.2.1 = some (tyX4 k) := by decide +kernel
abbrev cX4_init : ByteArray := prog_6_method_1_code
def yX4_init : MethodName := ⟨RX4, "<init>", "()V"⟩
abbrev cX4_empty : ByteArray := prog_6_method_2_code
def yX4_empty : MethodName := ⟨RX4, "empty", "()V"⟩
abbrev cX4_add : ByteArray := prog_6_method_3_code
def yX4_add : MethodName := ⟨RX4, "add", "(II)V"⟩
abbrev cX4_leastFrom : ByteArray := prog_6_method_4_code
def yX4_leastFrom : MethodName := ⟨RX4, "leastFrom", "(I)I"⟩
def RX5 : String := "SlabWalk$Odds"
def TX5 : u_T := fun k => match k with
  | 0 => ("SlabWalk$Odds", "stepped", "[J", true)
  | 1 => ("SlabWalk$Odds", "leapt", "[J", true)
  | 2 => ("SlabWalk$Odds", "sums", "[J", true)
  | 3 => ("SlabWalk$Odds", "steppedSums", "[J", true)
  | 4 => ("SlabWalk$Odds", "odds", "[J", true)
  | 5 => ("SlabWalk$Odds", "aims", "[J", true)
  | _ => ("SlabWalk$Odds", "boldest", "I", false)
def tyX5 : Nat → FieldType := fun k => match k with
  | 0 => .array .long
  | 1 => .array .long
  | 2 => .array .long
  | 3 => .array .long
  | 4 => .array .long
  | 5 => .array .long
  | _ => .int
abbrev wsX50 : List Cond := u_ws RX5 TX5 7
theorem nmX5 : ∀ a, a < 7 → ∀ b, b < 7 → a ≠ b → (TX5 a).2.1 ≠ (TX5 b).2.1 := by decide +kernel
theorem tyX5_ok : ∀ k, k < 7 → parseFieldDescriptor (TX5 k).2.2.1 = some (tyX5 k) := by decide +kernel
abbrev cX5_init : ByteArray := prog_7_method_1_code
def yX5_init : MethodName := ⟨RX5, "<init>", "()V"⟩
abbrev cX5_countWays : ByteArray := prog_7_method_2_code
def yX5_countWays : MethodName := ⟨RX5, "countWays", "(LSlabWalk$Course;I)J"⟩
abbrev cX5_setNextFeet : ByteArray := prog_7_method_3_code
def yX5_setNextFeet : MethodName := ⟨RX5, "setNextFeet", "(LSlabWalk$Course;)V"⟩
abbrev cX5_sumOf : ByteArray := prog_7_method_4_code
def yX5_sumOf : MethodName := ⟨RX5, "sumOf", "([JIII)J"⟩
abbrev cX5_bravest : ByteArray := prog_7_method_5_code
def yX5_bravest : MethodName := ⟨RX5, "bravest", "(LSlabWalk$Course;[III)J"⟩
abbrev cX5_aimFrom : ByteArray := prog_7_method_6_code
def yX5_aimFrom : MethodName := ⟨RX5, "aimFrom", "(LSlabWalk$Course;II)J"⟩
abbrev cX5_bestStep : ByteArray := prog_7_method_7_code
def yX5_bestStep : MethodName := ⟨RX5, "bestStep", "(LSlabWalk$Course;I)I"⟩
abbrev cX5_boldestStep : ByteArray := prog_7_method_8_code
def yX5_boldestStep : MethodName := ⟨RX5, "boldestStep", "()I"⟩
def RX6 : String := "SlabWalk$Paving"
def TX6 : u_T := fun k => match k with
  | 0 => ("SlabWalk$Paving", "length", "[I", true)
  | 1 => ("SlabWalk$Paving", "inches", "[I", true)
  | 2 => ("SlabWalk$Paving", "foot", "[I", true)
  | 3 => ("SlabWalk$Paving", "least", "[I", true)
  | 4 => ("SlabWalk$Paving", "most", "[I", true)
  | 5 => ("SlabWalk$Paving", "leap", "[I", true)
  | 6 => ("SlabWalk$Paving", "slip", "[I", true)
  | 7 => ("SlabWalk$Paving", "code", "[I", true)
  | 8 => ("SlabWalk$Paving", "codeEnd", "[I", true)
  | 9 => ("SlabWalk$Paving", "streets", "I", false)
  | 10 => ("SlabWalk$Paving", "walkers", "I", false)
  | 11 => ("SlabWalk$Paving", "rules", "I", false)
  | 12 => ("SlabWalk$Paving", "units", "I", false)
  | 13 => ("SlabWalk$Paving", "coded", "I", false)
  | 14 => ("SlabWalk$Paving", "hand", "I", false)
  | 15 => ("SlabWalk$Paving", "slack", "I", false)
  | _ => ("SlabWalk$Paving", "draw", "I", false)
def tyX6 : Nat → FieldType := fun k => match k with
  | 0 => .array .int
  | 1 => .array .int
  | 2 => .array .int
  | 3 => .array .int
  | 4 => .array .int
  | 5 => .array .int
  | 6 => .array .int
  | 7 => .array .int
  | 8 => .array .int
  | 9 => .int
  | 10 => .int
  | 11 => .int
  | 12 => .int
  | 13 => .int
  | 14 => .int
  | 15 => .int
  | _ => .int
abbrev wsX60 : List Cond := u_ws RX6 TX6 17
theorem nmX6 : ∀ a, a < 17 → ∀ b, b < 17 → a ≠ b → (TX6 a).2.1 ≠ (TX6 b).2.1 := by decide +kernel
theorem tyX6_ok : ∀ k, k < 17 → parseFieldDescriptor (TX6 k).2.2.1 = some (tyX6 k) := by decide +kernel
abbrev cX6_init : ByteArray := prog_8_method_1_code
def yX6_init : MethodName := ⟨RX6, "<init>", "()V"⟩
abbrev cX6_empty : ByteArray := prog_8_method_2_code
def yX6_empty : MethodName := ⟨RX6, "empty", "()V"⟩
abbrev cX6_inchAt : ByteArray := prog_8_method_3_code
def yX6_inchAt : MethodName := ⟨RX6, "inchAt", "(II)I"⟩
abbrev cX6_part : ByteArray := prog_8_method_4_code
def yX6_part : MethodName := ⟨RX6, "part", "(II)I"⟩
abbrev cX6_lay : ByteArray := prog_8_method_5_code
def yX6_lay : MethodName := ⟨RX6, "lay", "(IIII)V"⟩
abbrev cX6_emit : ByteArray := prog_8_method_6_code
def yX6_emit : MethodName := ⟨RX6, "emit", "(II)V"⟩
abbrev cX6_hasStreet : ByteArray := prog_8_method_7_code
def yX6_hasStreet : MethodName := ⟨RX6, "hasStreet", "(I)Z"⟩
abbrev cX6_hasWalker : ByteArray := prog_8_method_8_code
def yX6_hasWalker : MethodName := ⟨RX6, "hasWalker", "(I)Z"⟩
abbrev cX6_hasRule : ByteArray := prog_8_method_9_code
def yX6_hasRule : MethodName := ⟨RX6, "hasRule", "(I)Z"⟩
abbrev cX6_hasSet : ByteArray := prog_8_method_10_code
def yX6_hasSet : MethodName := ⟨RX6, "hasSet", "(I)Z"⟩
abbrev cX6_hasInch : ByteArray := prog_8_method_11_code
def yX6_hasInch : MethodName := ⟨RX6, "hasInch", "(II)Z"⟩
abbrev cX6_stands : ByteArray := prog_8_method_12_code
def yX6_stands : MethodName := ⟨RX6, "stands", "(III)Z"⟩
abbrev cX6_allSlips : ByteArray := prog_8_method_13_code
def yX6_allSlips : MethodName := ⟨RX6, "allSlips", "()I"⟩
abbrev cX6_slipBy : ByteArray := prog_8_method_14_code
def yX6_slipBy : MethodName := ⟨RX6, "slipBy", "(I)I"⟩
def RX7 : String := "SlabWalk$Reader"
def TX7 : u_T := fun k => match k with
  | 0 => ("SlabWalk$Reader", "tokens", "LSlabWalk$Tokens;", true)
  | 1 => ("SlabWalk$Reader", "formulas", "LSlabWalk$Formulas;", true)
  | 2 => ("SlabWalk$Reader", "streetNames", "[J", true)
  | 3 => ("SlabWalk$Reader", "walkerNames", "[J", true)
  | 4 => ("SlabWalk$Reader", "ruleNames", "[J", true)
  | 5 => ("SlabWalk$Reader", "paving", "LSlabWalk$Paving;", false)
  | 6 => ("SlabWalk$Reader", "slipTold", "Z", false)
  | 7 => ("SlabWalk$Reader", "handTold", "Z", false)
  | 8 => ("SlabWalk$Reader", "drawTold", "Z", false)
  | _ => ("SlabWalk$Reader", "number", "I", false)
def tyX7 : Nat → FieldType := fun k => match k with
  | 0 => .object "SlabWalk$Tokens"
  | 1 => .object "SlabWalk$Formulas"
  | 2 => .array .long
  | 3 => .array .long
  | 4 => .array .long
  | 5 => .object "SlabWalk$Paving"
  | 6 => .boolean
  | 7 => .boolean
  | 8 => .boolean
  | _ => .int
abbrev wsX70 : List Cond := u_ws RX7 TX7 10
theorem nmX7 : ∀ a, a < 10 → ∀ b, b < 10 → a ≠ b → (TX7 a).2.1 ≠ (TX7 b).2.1 := by decide +kernel
theorem tyX7_ok : ∀ k, k < 10 → parseFieldDescriptor (TX7 k).2.2.1 = some (tyX7 k) := by decide +kernel
abbrev cX7_init : ByteArray := prog_9_method_1_code
def yX7_init : MethodName := ⟨RX7, "<init>", "([BLSlabWalk$Paving;)V"⟩
abbrev cX7_read : ByteArray := prog_9_method_2_code
def yX7_read : MethodName := ⟨RX7, "read", "(ILSlabWalk$Paving;)Z"⟩
abbrev cX7_passFirst : ByteArray := prog_9_method_3_code
def yX7_passFirst : MethodName := ⟨RX7, "passFirst", "(Z)Z"⟩
abbrev cX7_passName : ByteArray := prog_9_method_4_code
def yX7_passName : MethodName := ⟨RX7, "passName", "([JI)Z"⟩
abbrev cX7_isNumber : ByteArray := prog_9_method_5_code
def yX7_isNumber : MethodName := ⟨RX7, "isNumber", "(II)Z"⟩
abbrev cX7_passNumber : ByteArray := prog_9_method_6_code
def yX7_passNumber : MethodName := ⟨RX7, "passNumber", "(II)Z"⟩
abbrev cX7_readStreet : ByteArray := prog_9_method_7_code
def yX7_readStreet : MethodName := ⟨RX7, "readStreet", "()Z"⟩
abbrev cX7_readSlab : ByteArray := prog_9_method_8_code
def yX7_readSlab : MethodName := ⟨RX7, "readSlab", "(II)Z"⟩
abbrev cX7_readWalker : ByteArray := prog_9_method_9_code
def yX7_readWalker : MethodName := ⟨RX7, "readWalker", "()Z"⟩
abbrev cX7_readRule : ByteArray := prog_9_method_10_code
def yX7_readRule : MethodName := ⟨RX7, "readRule", "()Z"⟩
abbrev cX7_readSlip : ByteArray := prog_9_method_11_code
def yX7_readSlip : MethodName := ⟨RX7, "readSlip", "()Z"⟩
abbrev cX7_readHand : ByteArray := prog_9_method_12_code
def yX7_readHand : MethodName := ⟨RX7, "readHand", "()Z"⟩
abbrev cX7_readDraw : ByteArray := prog_9_method_13_code
def yX7_readDraw : MethodName := ⟨RX7, "readDraw", "()Z"⟩
def RX8 : String := "SlabWalk$Sights"
def TX8 : u_T := fun k => match k with
  | 0 => ("SlabWalk$Sights", "walker", "[I", true)
  | 1 => ("SlabWalk$Sights", "street", "[I", true)
  | 2 => ("SlabWalk$Sights", "heel", "[I", true)
  | 3 => ("SlabWalk$Sights", "told", "[I", true)
  | 4 => ("SlabWalk$Sights", "untold", "[I", true)
  | 5 => ("SlabWalk$Sights", "count", "I", false)
  | _ => ("SlabWalk$Sights", "time", "I", false)
def tyX8 : Nat → FieldType := fun k => match k with
  | 0 => .array .int
  | 1 => .array .int
  | 2 => .array .int
  | 3 => .array .int
  | 4 => .array .int
  | 5 => .int
  | _ => .int
abbrev wsX80 : List Cond := u_ws RX8 TX8 7
theorem nmX8 : ∀ a, a < 7 → ∀ b, b < 7 → a ≠ b → (TX8 a).2.1 ≠ (TX8 b).2.1 := by decide +kernel
theorem tyX8_ok : ∀ k, k < 7 → parseFieldDescriptor (TX8 k).2.2.1 = some (tyX8 k) := by decide +kernel
abbrev cX8_init : ByteArray := prog_10_method_1_code
def yX8_init : MethodName := ⟨RX8, "<init>", "()V"⟩
abbrev cX8_tell : ByteArray := prog_10_method_2_code
def yX8_tell : MethodName := ⟨RX8, "tell", "(III)I"⟩
abbrev cX8_takeFrom : ByteArray := prog_10_method_3_code
def yX8_takeFrom : MethodName := ⟨RX8, "takeFrom", "(I)Z"⟩
abbrev cX8_counts : ByteArray := prog_10_method_4_code
def yX8_counts : MethodName := ⟨RX8, "counts", "(II)Z"⟩
def RX9 : String := "SlabWalk$Tokens"
def TX9 : u_T := fun k => match k with
  | 0 => ("SlabWalk$Tokens", "text", "[B", true)
  | 1 => ("SlabWalk$Tokens", "size", "I", false)
  | 2 => ("SlabWalk$Tokens", "at", "I", false)
  | 3 => ("SlabWalk$Tokens", "kind", "I", false)
  | 4 => ("SlabWalk$Tokens", "place", "I", false)
  | 5 => ("SlabWalk$Tokens", "number", "I", false)
  | 6 => ("SlabWalk$Tokens", "word", "J", false)
  | 7 => ("SlabWalk$Tokens", "fault", "I", false)
  | _ => ("SlabWalk$Tokens", "faultPlace", "I", false)
def tyX9 : Nat → FieldType := fun k => match k with
  | 0 => .array .byte
  | 1 => .int
  | 2 => .int
  | 3 => .int
  | 4 => .int
  | 5 => .int
  | 6 => .long
  | 7 => .int
  | _ => .int
abbrev wsX90 : List Cond := u_ws RX9 TX9 9
theorem nmX9 : ∀ a, a < 9 → ∀ b, b < 9 → a ≠ b → (TX9 a).2.1 ≠ (TX9 b).2.1 := by decide +kernel
theorem tyX9_ok : ∀ k, k < 9 → parseFieldDescriptor (TX9 k).2.2.1 = some (tyX9 k) := by decide +kernel
abbrev cX9_init : ByteArray := prog_11_method_1_code
def yX9_init : MethodName := ⟨RX9, "<init>", "([B)V"⟩
abbrev cX9_open : ByteArray := prog_11_method_2_code
def yX9_open : MethodName := ⟨RX9, "open", "(I)V"⟩
abbrev cX9_refuse : ByteArray := prog_11_method_3_code
def yX9_refuse : MethodName := ⟨RX9, "refuse", "(I)Z"⟩
abbrev cX9_pass : ByteArray := prog_11_method_4_code
def yX9_pass : MethodName := ⟨RX9, "pass", "(I)Z"⟩
abbrev cX9_advance : ByteArray := prog_11_method_5_code
def yX9_advance : MethodName := ⟨RX9, "advance", "()Z"⟩
abbrev cX9_isLetter : ByteArray := prog_11_method_6_code
def yX9_isLetter : MethodName := ⟨RX9, "isLetter", "(I)Z"⟩
abbrev cX9_isDigit : ByteArray := prog_11_method_7_code
def yX9_isDigit : MethodName := ⟨RX9, "isDigit", "(I)Z"⟩
abbrev cX9_cutWord : ByteArray := prog_11_method_8_code
def yX9_cutWord : MethodName := ⟨RX9, "cutWord", "()V"⟩
abbrev cX9_kindOfWord : ByteArray := prog_11_method_9_code
def yX9_kindOfWord : MethodName := ⟨RX9, "kindOfWord", "()I"⟩
abbrev cX9_cutNumber : ByteArray := prog_11_method_10_code
def yX9_cutNumber : MethodName := ⟨RX9, "cutNumber", "()V"⟩
def RX10 : String := "SlabWalk$Trails"
def TX10 : u_T := fun k => match k with
  | 0 => ("SlabWalk$Trails", "rows", "[[I", true)
  | 1 => ("SlabWalk$Trails", "steps", "LSlabWalk$Minima;", true)
  | 2 => ("SlabWalk$Trails", "leaps", "LSlabWalk$Minima;", true)
  | 3 => ("SlabWalk$Trails", "winning", "[I", true)
  | _ => ("SlabWalk$Trails", "leaving", "[Z", true)
def tyX10 : Nat → FieldType := fun k => match k with
  | 0 => .array (.array .int)
  | 1 => .object "SlabWalk$Minima"
  | 2 => .object "SlabWalk$Minima"
  | 3 => .array .int
  | _ => .array .boolean
abbrev wsX100 : List Cond := u_ws RX10 TX10 5
theorem nmX10 : ∀ a, a < 5 → ∀ b, b < 5 → a ≠ b → (TX10 a).2.1 ≠ (TX10 b).2.1 := by decide +kernel
theorem tyX10_ok : ∀ k, k < 5 → parseFieldDescriptor (TX10 k).2.2.1 = some (tyX10 k) := by decide +kernel
abbrev cX10_init : ByteArray := prog_12_method_1_code
def yX10_init : MethodName := ⟨RX10, "<init>", "()V"⟩
abbrev cX10_fewestFeet : ByteArray := prog_12_method_2_code
def yX10_fewestFeet : MethodName := ⟨RX10, "fewestFeet", "(LSlabWalk$Course;I)I"⟩
abbrev cX10_findFeetFrom : ByteArray := prog_12_method_3_code
def yX10_findFeetFrom : MethodName := ⟨RX10, "findFeetFrom", "(LSlabWalk$Course;II)V"⟩
abbrev cX10_leastOf : ByteArray := prog_12_method_4_code
def yX10_leastOf : MethodName := ⟨RX10, "leastOf", "([III)I"⟩
abbrev cX10_layHeels : ByteArray := prog_12_method_5_code
def yX10_layHeels : MethodName := ⟨RX10, "layHeels", "(LSlabWalk$Course;I[I)I"⟩
abbrev cX10_rowOf : ByteArray := prog_12_method_6_code
def yX10_rowOf : MethodName := ⟨RX10, "rowOf", "(IZ)I"⟩
abbrev cX10_isThereWay : ByteArray := prog_12_method_7_code
def yX10_isThereWay : MethodName := ⟨RX10, "isThereWay", "(LSlabWalk$Course;)Z"⟩
abbrev cX10_firstHeel : ByteArray := prog_12_method_8_code
def yX10_firstHeel : MethodName := ⟨RX10, "firstHeel", "(LSlabWalk$Course;II)I"⟩
abbrev cX10_comesEvenly : ByteArray := prog_12_method_9_code
def yX10_comesEvenly : MethodName := ⟨RX10, "comesEvenly", "(LSlabWalk$Course;I)Z"⟩
abbrev cX10_mostEven : ByteArray := prog_12_method_10_code
def yX10_mostEven : MethodName := ⟨RX10, "mostEven", "(LSlabWalk$Course;I)I"⟩
abbrev cX10_fewestLeaps : ByteArray := prog_12_method_11_code
def yX10_fewestLeaps : MethodName := ⟨RX10, "fewestLeaps", "(LSlabWalk$Course;II)I"⟩
abbrev cX10_followHand : ByteArray := prog_12_method_12_code
def yX10_followHand : MethodName := ⟨RX10, "followHand", "(LSlabWalk$Course;III)Z"⟩
abbrev cX10_winningFrom : ByteArray := prog_12_method_13_code
def yX10_winningFrom : MethodName := ⟨RX10, "winningFrom", "(II)I"⟩
def RX11 : String := "SlabWalk"
def TX11 : u_T := fun k => match k with
  | 0 => ("SlabWalk", "paving", "LSlabWalk$Paving;", false)
  | 1 => ("SlabWalk", "spare", "LSlabWalk$Paving;", false)
  | 2 => ("SlabWalk", "tape", "[B", true)
  | 3 => ("SlabWalk", "reader", "LSlabWalk$Reader;", true)
  | 4 => ("SlabWalk", "lines", "LSlabWalk$Lines;", true)
  | 5 => ("SlabWalk", "course", "LSlabWalk$Course;", true)
  | 6 => ("SlabWalk", "trails", "LSlabWalk$Trails;", true)
  | 7 => ("SlabWalk", "odds", "LSlabWalk$Odds;", true)
  | 8 => ("SlabWalk", "earnest", "LSlabWalk$Earnest;", true)
  | 9 => ("SlabWalk", "sights", "LSlabWalk$Sights;", true)
  | 10 => ("SlabWalk", "lying", "[I", true)
  | 11 => ("SlabWalk", "taped", "I", false)
  | _ => ("SlabWalk", "lie", "I", false)
def tyX11 : Nat → FieldType := fun k => match k with
  | 0 => .object "SlabWalk$Paving"
  | 1 => .object "SlabWalk$Paving"
  | 2 => .array .byte
  | 3 => .object "SlabWalk$Reader"
  | 4 => .object "SlabWalk$Lines"
  | 5 => .object "SlabWalk$Course"
  | 6 => .object "SlabWalk$Trails"
  | 7 => .object "SlabWalk$Odds"
  | 8 => .object "SlabWalk$Earnest"
  | 9 => .object "SlabWalk$Sights"
  | 10 => .array .int
  | 11 => .int
  | _ => .int
abbrev wsX110 : List Cond := u_ws RX11 TX11 13
theorem nmX11 : ∀ a, a < 13 → ∀ b, b < 13 → a ≠ b → (TX11 a).2.1 ≠ (TX11 b).2.1 := by decide +kernel
theorem tyX11_ok : ∀ k, k < 13 → parseFieldDescriptor (TX11 k).2.2.1 = some (tyX11 k) := by decide +kernel
abbrev cX11_init : ByteArray := prog_1_method_1_code
def yX11_init : MethodName := ⟨RX11, "<init>", "()V"⟩
abbrev cX11_feed : ByteArray := prog_1_method_2_code
def yX11_feed : MethodName := ⟨RX11, "feed", "(IIIII)I"⟩
abbrev cX11_end : ByteArray := prog_1_method_3_code
def yX11_end : MethodName := ⟨RX11, "end", "(I)I"⟩
abbrev cX11_pavement : ByteArray := prog_1_method_4_code
def yX11_pavement : MethodName := ⟨RX11, "pavement", "()I"⟩
abbrev cX11_fault : ByteArray := prog_1_method_5_code
def yX11_fault : MethodName := ⟨RX11, "fault", "(I)I"⟩
abbrev cX11_inch : ByteArray := prog_1_method_6_code
def yX11_inch : MethodName := ⟨RX11, "inch", "(III)I"⟩
abbrev cX11_length : ByteArray := prog_1_method_7_code
def yX11_length : MethodName := ⟨RX11, "length", "(I)I"⟩
abbrev cX11_line : ByteArray := prog_1_method_8_code
def yX11_line : MethodName := ⟨RX11, "line", "(III)I"⟩
abbrev cX11_gap : ByteArray := prog_1_method_9_code
def yX11_gap : MethodName := ⟨RX11, "gap", "(III)I"⟩
abbrev cX11_foot : ByteArray := prog_1_method_10_code
def yX11_foot : MethodName := ⟨RX11, "foot", "(IIII)I"⟩
abbrev cX11_fewest : ByteArray := prog_1_method_11_code
def yX11_fewest : MethodName := ⟨RX11, "fewest", "(IIII)I"⟩
abbrev cX11_ways : ByteArray := prog_1_method_12_code
def yX11_ways : MethodName := ⟨RX11, "ways", "(IIII)J"⟩
abbrev cX11_evenest : ByteArray := prog_1_method_13_code
def yX11_evenest : MethodName := ⟨RX11, "evenest", "(IIII)I"⟩
abbrev cX11_even : ByteArray := prog_1_method_14_code
def yX11_even : MethodName := ⟨RX11, "even", "(IIIII)I"⟩
abbrev cX11_evens : ByteArray := prog_1_method_15_code
def yX11_evens : MethodName := ⟨RX11, "evens", "(III)I"⟩
abbrev cX11_first : ByteArray := prog_1_method_16_code
def yX11_first : MethodName := ⟨RX11, "first", "(IIIII)I"⟩
abbrev cX11_begin : ByteArray := prog_1_method_17_code
def yX11_begin : MethodName := ⟨RX11, "begin", "(IIII)I"⟩
abbrev cX11_suits : ByteArray := prog_1_method_18_code
def yX11_suits : MethodName := ⟨RX11, "suits", "(IIIII)J"⟩
abbrev cX11_keeps : ByteArray := prog_1_method_19_code
def yX11_keeps : MethodName := ⟨RX11, "keeps", "(III)I"⟩
abbrev cX11_brave : ByteArray := prog_1_method_20_code
def yX11_brave : MethodName := ⟨RX11, "brave", "(IIIII)J"⟩
abbrev cX11_boldest : ByteArray := prog_1_method_21_code
def yX11_boldest : MethodName := ⟨RX11, "boldest", "(IIIII)I"⟩
abbrev cX11_wager : ByteArray := prog_1_method_22_code
def yX11_wager : MethodName := ⟨RX11, "wager", "(IIII)I"⟩
abbrev cX11_leave : ByteArray := prog_1_method_23_code
def yX11_leave : MethodName := ⟨RX11, "leave", "(II)I"⟩
abbrev cX11_walk : ByteArray := prog_1_method_24_code
def yX11_walk : MethodName := ⟨RX11, "walk", "(III)I"⟩
abbrev cX11_go : ByteArray := prog_1_method_25_code
def yX11_go : MethodName := ⟨RX11, "go", "(I)I"⟩
abbrev cX11_force : ByteArray := prog_1_method_26_code
def yX11_force : MethodName := ⟨RX11, "force", "(I)I"⟩
abbrev cX11_rain : ByteArray := prog_1_method_27_code
def yX11_rain : MethodName := ⟨RX11, "rain", "()Z"⟩
abbrev cX11_day : ByteArray := prog_1_method_28_code
def yX11_day : MethodName := ⟨RX11, "day", "()I"⟩
abbrev cX11_undo : ByteArray := prog_1_method_29_code
def yX11_undo : MethodName := ⟨RX11, "undo", "()Z"⟩
abbrev cX11_redo : ByteArray := prog_1_method_30_code
def yX11_redo : MethodName := ⟨RX11, "redo", "()Z"⟩
abbrev cX11_walker : ByteArray := prog_1_method_31_code
def yX11_walker : MethodName := ⟨RX11, "walker", "(I)I"⟩
abbrev cX11_lies : ByteArray := prog_1_method_32_code
def yX11_lies : MethodName := ⟨RX11, "lies", "(I)I"⟩
abbrev cX11_sight : ByteArray := prog_1_method_33_code
def yX11_sight : MethodName := ⟨RX11, "sight", "(III)I"⟩
abbrev cX11_untell : ByteArray := prog_1_method_34_code
def yX11_untell : MethodName := ⟨RX11, "untell", "(I)Z"⟩
abbrev cX11_later : ByteArray := prog_1_method_35_code
def yX11_later : MethodName := ⟨RX11, "later", "(I)I"⟩
abbrev cX11_fits : ByteArray := prog_1_method_36_code
def yX11_fits : MethodName := ⟨RX11, "fits", "(I)I"⟩
abbrev cX11_chance : ByteArray := prog_1_method_37_code
def yX11_chance : MethodName := ⟨RX11, "chance", "(III)J"⟩
abbrev cX11_image : ByteArray := prog_1_method_38_code
def yX11_image : MethodName := ⟨RX11, "image", "(I)I"⟩
abbrev cX11_back : ByteArray := prog_1_method_39_code
def yX11_back : MethodName := ⟨RX11, "back", "(I)I"⟩
abbrev cX11_about : ByteArray := prog_1_method_40_code
def yX11_about : MethodName := ⟨RX11, "about", "(I)I"⟩
abbrev cX11_startAnew : ByteArray := prog_1_method_41_code
def yX11_startAnew : MethodName := ⟨RX11, "startAnew", "()V"⟩
abbrev cX11_putOnTape : ByteArray := prog_1_method_42_code
def yX11_putOnTape : MethodName := ⟨RX11, "putOnTape", "(I)V"⟩
abbrev cX11_layDown : ByteArray := prog_1_method_43_code
def yX11_layDown : MethodName := ⟨RX11, "layDown", "(I)V"⟩
abbrev cX11_today : ByteArray := prog_1_method_44_code
def yX11_today : MethodName := ⟨RX11, "today", "()I"⟩
abbrev cX11_canAsk : ByteArray := prog_1_method_45_code
def yX11_canAsk : MethodName := ⟨RX11, "canAsk", "(III)Z"⟩
abbrev cX11_canBeBrave : ByteArray := prog_1_method_46_code
def yX11_canBeBrave : MethodName := ⟨RX11, "canBeBrave", "(IIIII)Z"⟩
abbrev cX11_canGo : ByteArray := prog_1_method_47_code
def yX11_canGo : MethodName := ⟨RX11, "canGo", "(I)Z"⟩
abbrev cX11_isLawfulNow : ByteArray := prog_1_method_48_code
def yX11_isLawfulNow : MethodName := ⟨RX11, "isLawfulNow", "()Z"⟩
abbrev cX11_prepare : ByteArray := prog_1_method_49_code
def yX11_prepare : MethodName := ⟨RX11, "prepare", "(III)V"⟩
abbrev cX11_leavesWay : ByteArray := prog_1_method_50_code
def yX11_leavesWay : MethodName := ⟨RX11, "leavesWay", "(II)Z"⟩
abbrev cX11_winningRule : ByteArray := prog_1_method_51_code
def yX11_winningRule : MethodName := ⟨RX11, "winningRule", "(II)I"⟩
abbrev cX11_fitsAll : ByteArray := prog_1_method_52_code
def yX11_fitsAll : MethodName := ⟨RX11, "fitsAll", "(II)Z"⟩
abbrev cX11_isLawfulSight : ByteArray := prog_1_method_53_code
def yX11_isLawfulSight : MethodName := ⟨RX11, "isLawfulSight", "(III)Z"⟩
abbrev cX11_heelsNear : ByteArray := prog_1_method_54_code
def yX11_heelsNear : MethodName := ⟨RX11, "heelsNear", "(IIZ)I"⟩
abbrev cX11_isEndless : ByteArray := prog_1_method_55_code
def yX11_isEndless : MethodName := ⟨RX11, "isEndless", "(III)Z"⟩
abbrev cX11_beginnings : ByteArray := prog_1_method_56_code
def yX11_beginnings : MethodName := ⟨RX11, "beginnings", "(IIII)I"⟩
abbrev cX11_commonDivisor : ByteArray := prog_1_method_57_code
def yX11_commonDivisor : MethodName := ⟨RX11, "commonDivisor", "(JJ)J"⟩
def RX12 : String := "SlabWalkModel"
def TX12 : u_T := fun k => match k with
  | 0 => ("SlabWalkModel", "tape", "[I", true)
  | 1 => ("SlabWalkModel", "taped", "I", false)
  | 2 => ("SlabWalkModel", "fault", "I", false)
  | 3 => ("SlabWalkModel", "faultPlace", "I", false)
  | 4 => ("SlabWalkModel", "at", "I", false)
  | 5 => ("SlabWalkModel", "size", "I", false)
  | 6 => ("SlabWalkModel", "sort", "I", false)
  | 7 => ("SlabWalkModel", "place", "I", false)
  | 8 => ("SlabWalkModel", "number", "I", false)
  | 9 => ("SlabWalkModel", "word", "J", false)
  | 10 => ("SlabWalkModel", "nName", "[J", true)
  | 11 => ("SlabWalkModel", "nStep", "[I", true)
  | 12 => ("SlabWalkModel", "nArg", "[I", true)
  | 13 => ("SlabWalkModel", "nMany", "[I", true)
  | 14 => ("SlabWalkModel", "step", "[I", true)
  | 15 => ("SlabWalkModel", "arg", "[I", true)
  | 16 => ("SlabWalkModel", "many", "[I", true)
  | 17 => ("SlabWalkModel", "open", "[I", true)
  | 18 => ("SlabWalkModel", "values", "[I", true)
  | 19 => ("SlabWalkModel", "form", "I", false)
  | 20 => ("SlabWalkModel", "opens", "I", false)
  | 21 => ("SlabWalkModel", "nUnits", "I", false)
  | 22 => ("SlabWalkModel", "units", "I", false)
  | 23 => ("SlabWalkModel", "ownUnits", "I", false)
  | 24 => ("SlabWalkModel", "deep", "I", false)
  | 25 => ("SlabWalkModel", "nMarks", "[I", true)
  | 26 => ("SlabWalkModel", "nNths", "[I", true)
  | 27 => ("SlabWalkModel", "nInches", "[I", true)
  | 28 => ("SlabWalkModel", "nLongs", "[I", true)
  | 29 => ("SlabWalkModel", "nLength", "[I", true)
  | 30 => ("SlabWalkModel", "nFoot", "[I", true)
  | 31 => ("SlabWalkModel", "nLeast", "[I", true)
  | 32 => ("SlabWalkModel", "nMost", "[I", true)
  | 33 => ("SlabWalkModel", "nLeap", "[I", true)
  | 34 => ("SlabWalkModel", "nSlips", "[I", true)
  | 35 => ("SlabWalkModel", "marks", "[I", true)
  | 36 => ("SlabWalkModel", "nths", "[I", true)
  | 37 => ("SlabWalkModel", "inches", "[I", true)
  | 38 => ("SlabWalkModel", "longs", "[I", true)
  | 39 => ("SlabWalkModel", "lengths", "[I", true)
  | 40 => ("SlabWalkModel", "foots", "[I", true)
  | 41 => ("SlabWalkModel", "leasts", "[I", true)
  | 42 => ("SlabWalkModel", "mosts", "[I", true)
  | 43 => ("SlabWalkModel", "leaps", "[I", true)
  | 44 => ("SlabWalkModel", "slips", "[I", true)
  | 45 => ("SlabWalkModel", "nStreets", "I", false)
  | 46 => ("SlabWalkModel", "nWalkers", "I", false)
  | 47 => ("SlabWalkModel", "nRules", "I", false)
  | 48 => ("SlabWalkModel", "nHand", "I", false)
  | 49 => ("SlabWalkModel", "nSlack", "I", false)
  | 50 => ("SlabWalkModel", "nDraw", "I", false)
  | 51 => ("SlabWalkModel", "nOnce", "I", false)
  | 52 => ("SlabWalkModel", "streets", "I", false)
  | 53 => ("SlabWalkModel", "walkers", "I", false)
  | 54 => ("SlabWalkModel", "rules", "I", false)
  | 55 => ("SlabWalkModel", "hand", "I", false)
  | 56 => ("SlabWalkModel", "slack", "I", false)
  | 57 => ("SlabWalkModel", "lines", "[Z", true)
  | 58 => ("SlabWalkModel", "lawful", "[Z", true)
  | 59 => ("SlabWalkModel", "inchesOf", "I", false)
  | 60 => ("SlabWalkModel", "foot", "I", false)
  | 61 => ("SlabWalkModel", "least", "I", false)
  | 62 => ("SlabWalkModel", "most", "I", false)
  | 63 => ("SlabWalkModel", "leap", "I", false)
  | 64 => ("SlabWalkModel", "need", "[I", true)
  | 65 => ("SlabWalkModel", "lies", "[I", true)
  | 66 => ("SlabWalkModel", "lain", "I", false)
  | 67 => ("SlabWalkModel", "ways", "[J", true)
  | 68 => ("SlabWalkModel", "next", "[J", true)
  | 69 => ("SlabWalkModel", "comes", "[Z", true)
  | 70 => ("SlabWalkModel", "leapt", "[I", true)
  | 71 => ("SlabWalkModel", "leaptNext", "[I", true)
  | 72 => ("SlabWalkModel", "odds", "[J", true)
  | 73 => ("SlabWalkModel", "hasWays", "[Z", true)
  | 74 => ("SlabWalkModel", "wins", "[Z", true)
  | 75 => ("SlabWalkModel", "winsBy", "[I", true)
  | 76 => ("SlabWalkModel", "now", "[I", true)
  | 77 => ("SlabWalkModel", "were", "[I", true)
  | 78 => ("SlabWalkModel", "acts", "I", false)
  | 79 => ("SlabWalkModel", "undone", "I", false)
  | 80 => ("SlabWalkModel", "sightWho", "[I", true)
  | 81 => ("SlabWalkModel", "sightWhere", "[I", true)
  | 82 => ("SlabWalkModel", "sightHeel", "[I", true)
  | 83 => ("SlabWalkModel", "sightTold", "[I", true)
  | 84 => ("SlabWalkModel", "sightUntold", "[I", true)
  | 85 => ("SlabWalkModel", "sights", "I", false)
  | 86 => ("SlabWalkModel", "time", "I", false)
  | 87 => ("SlabWalkModel", "hasBox", "[Z", true)
  | _ => ("SlabWalkModel", "boxes", "[I", true)
def tyX12 : Nat → FieldType := fun k => match k with
  | 0 => .array .int
  | 1 => .int
  | 2 => .int
  | 3 => .int
  | 4 => .int
  | 5 => .int
  | 6 => .int
  | 7 => .int
  | 8 => .int
  | 9 => .long
  | 10 => .array .long
  | 11 => .array .int
  | 12 => .array .int
  | 13 => .array .int
  | 14 => .array .int
  | 15 => .array .int
  | 16 => .array .int
  | 17 => .array .int
  | 18 => .array .int
  | 19 => .int
  | 20 => .int
  | 21 => .int
  | 22 => .int
  | 23 => .int
  | 24 => .int
  | 25 => .array .int
  | 26 => .array .int
  | 27 => .array .int
  | 28 => .array .int
  | 29 => .array .int
  | 30 => .array .int
  | 31 => .array .int
  | 32 => .array .int
  | 33 => .array .int
  | 34 => .array .int
  | 35 => .array .int
  | 36 => .array .int
  | 37 => .array .int
  | 38 => .array .int
  | 39 => .array .int
  | 40 => .array .int
  | 41 => .array .int
  | 42 => .array .int
  | 43 => .array .int
  | 44 => .array .int
  | 45 => .int
  | 46 => .int
  | 47 => .int
  | 48 => .int
  | 49 => .int
  | 50 => .int
  | 51 => .int
  | 52 => .int
  | 53 => .int
  | 54 => .int
  | 55 => .int
  | 56 => .int
  | 57 => .array .boolean
  | 58 => .array .boolean
  | 59 => .int
  | 60 => .int
  | 61 => .int
  | 62 => .int
  | 63 => .int
  | 64 => .array .int
  | 65 => .array .int
  | 66 => .int
  | 67 => .array .long
  | 68 => .array .long
  | 69 => .array .boolean
  | 70 => .array .int
  | 71 => .array .int
  | 72 => .array .long
  | 73 => .array .boolean
  | 74 => .array .boolean
  | 75 => .array .int
  | 76 => .array .int
  | 77 => .array .int
  | 78 => .int
  | 79 => .int
  | 80 => .array .int
  | 81 => .array .int
  | 82 => .array .int
  | 83 => .array .int
  | 84 => .array .int
  | 85 => .int
  | 86 => .int
  | 87 => .array .boolean
  | _ => .array .int
abbrev wsX120 : List Cond := u_ws RX12 TX12 89
theorem nmX12 : ∀ a, a < 89 → ∀ b, b < 89 → a ≠ b → (TX12 a).2.1 ≠ (TX12 b).2.1 := by decide +kernel
theorem tyX12_ok : ∀ k, k < 89 → parseFieldDescriptor (TX12 k).2.2.1 = some (tyX12 k) := by decide +kernel
abbrev cX12_init : ByteArray := prog_14_method_1_code
def yX12_init : MethodName := ⟨RX12, "<init>", "()V"⟩
abbrev cX12_feed : ByteArray := prog_14_method_2_code
def yX12_feed : MethodName := ⟨RX12, "feed", "(IIIII)I"⟩
abbrev cX12_four : ByteArray := prog_14_method_3_code
def yX12_four : MethodName := ⟨RX12, "four", "(I)V"⟩
abbrev cX12_end : ByteArray := prog_14_method_4_code
def yX12_end : MethodName := ⟨RX12, "end", "(I)I"⟩
abbrev cX12_here : ByteArray := prog_14_method_5_code
def yX12_here : MethodName := ⟨RX12, "here", "(I)I"⟩
abbrev cX12_isLetter : ByteArray := prog_14_method_6_code
def yX12_isLetter : MethodName := ⟨RX12, "isLetter", "(I)Z"⟩
abbrev cX12_isDigit : ByteArray := prog_14_method_7_code
def yX12_isDigit : MethodName := ⟨RX12, "isDigit", "(I)Z"⟩
abbrev cX12_isSign : ByteArray := prog_14_method_8_code
def yX12_isSign : MethodName := ⟨RX12, "isSign", "(I)Z"⟩
abbrev cX12_token : ByteArray := prog_14_method_9_code
def yX12_token : MethodName := ⟨RX12, "token", "()V"⟩
abbrev cX12_wrong : ByteArray := prog_14_method_10_code
def yX12_wrong : MethodName := ⟨RX12, "wrong", "(I)V"⟩
abbrev cX12_wrongAt : ByteArray := prog_14_method_11_code
def yX12_wrongAt : MethodName := ⟨RX12, "wrongAt", "(II)V"⟩
abbrev cX12_isWord : ByteArray := prog_14_method_12_code
def yX12_isWord : MethodName := ⟨RX12, "isWord", "(J)Z"⟩
abbrev cX12_isOwn : ByteArray := prog_14_method_13_code
def yX12_isOwn : MethodName := ⟨RX12, "isOwn", "()Z"⟩
abbrev cX12_mark : ByteArray := prog_14_method_14_code
def yX12_mark : MethodName := ⟨RX12, "mark", "()I"⟩
abbrev cX12_isName : ByteArray := prog_14_method_15_code
def yX12_isName : MethodName := ⟨RX12, "isName", "()Z"⟩
abbrev cX12_takes : ByteArray := prog_14_method_16_code
def yX12_takes : MethodName := ⟨RX12, "takes", "(J)Z"⟩
abbrev cX12_want : ByteArray := prog_14_method_17_code
def yX12_want : MethodName := ⟨RX12, "want", "(J)V"⟩
abbrev cX12_toldNumber : ByteArray := prog_14_method_18_code
def yX12_toldNumber : MethodName := ⟨RX12, "toldNumber", "(II)I"⟩
abbrev cX12_told : ByteArray := prog_14_method_19_code
def yX12_told : MethodName := ⟨RX12, "told", "(JII)I"⟩
abbrev cX12_newName : ByteArray := prog_14_method_20_code
def yX12_newName : MethodName := ⟨RX12, "newName", "(II)V"⟩
abbrev cX12_add : ByteArray := prog_14_method_21_code
def yX12_add : MethodName := ⟨RX12, "add", "(II)V"⟩
abbrev cX12_tight : ByteArray := prog_14_method_22_code
def yX12_tight : MethodName := ⟨RX12, "tight", "(I)I"⟩
abbrev cX12_close : ByteArray := prog_14_method_23_code
def yX12_close : MethodName := ⟨RX12, "close", "(I)V"⟩
abbrev cX12_hasRelation : ByteArray := prog_14_method_24_code
def yX12_hasRelation : MethodName := ⟨RX12, "hasRelation", "()Z"⟩
abbrev cX12_mayNot : ByteArray := prog_14_method_25_code
def yX12_mayNot : MethodName := ⟨RX12, "mayNot", "()Z"⟩
abbrev cX12_asked : ByteArray := prog_14_method_26_code
def yX12_asked : MethodName := ⟨RX12, "asked", "()I"⟩
abbrev cX12_isFull : ByteArray := prog_14_method_27_code
def yX12_isFull : MethodName := ⟨RX12, "isFull", "()Z"⟩
abbrev cX12_countUnit : ByteArray := prog_14_method_28_code
def yX12_countUnit : MethodName := ⟨RX12, "countUnit", "()V"⟩
abbrev cX12_openUp : ByteArray := prog_14_method_29_code
def yX12_openUp : MethodName := ⟨RX12, "openUp", "(I)V"⟩
abbrev cX12_unit : ByteArray := prog_14_method_30_code
def yX12_unit : MethodName := ⟨RX12, "unit", "()V"⟩
abbrev cX12_sign : ByteArray := prog_14_method_31_code
def yX12_sign : MethodName := ⟨RX12, "sign", "()I"⟩
abbrev cX12_hasBracket : ByteArray := prog_14_method_32_code
def yX12_hasBracket : MethodName := ⟨RX12, "hasBracket", "()Z"⟩
abbrev cX12_formula : ByteArray := prog_14_method_33_code
def yX12_formula : MethodName := ⟨RX12, "formula", "(I)V"⟩
abbrev cX12_truth : ByteArray := prog_14_method_34_code
def yX12_truth : MethodName := ⟨RX12, "truth", "(Z)I"⟩
abbrev cX12_done : ByteArray := prog_14_method_35_code
def yX12_done : MethodName := ⟨RX12, "done", "(III)I"⟩
abbrev cX12_askOf : ByteArray := prog_14_method_36_code
def yX12_askOf : MethodName := ⟨RX12, "askOf", "(II)I"⟩
abbrev cX12_worked : ByteArray := prog_14_method_37_code
def yX12_worked : MethodName := ⟨RX12, "worked", "(II)I"⟩
abbrev cX12_pave : ByteArray := prog_14_method_38_code
def yX12_pave : MethodName := ⟨RX12, "pave", "(III)V"⟩
abbrev cX12_readSlab : ByteArray := prog_14_method_39_code
def yX12_readSlab : MethodName := ⟨RX12, "readSlab", "(II)V"⟩
abbrev cX12_readStreet : ByteArray := prog_14_method_40_code
def yX12_readStreet : MethodName := ⟨RX12, "readStreet", "()V"⟩
abbrev cX12_readWalker : ByteArray := prog_14_method_41_code
def yX12_readWalker : MethodName := ⟨RX12, "readWalker", "()V"⟩
abbrev cX12_readRule : ByteArray := prog_14_method_42_code
def yX12_readRule : MethodName := ⟨RX12, "readRule", "()V"⟩
abbrev cX12_readSlip : ByteArray := prog_14_method_43_code
def yX12_readSlip : MethodName := ⟨RX12, "readSlip", "()V"⟩
abbrev cX12_isOnce : ByteArray := prog_14_method_44_code
def yX12_isOnce : MethodName := ⟨RX12, "isOnce", "(JI)Z"⟩
abbrev cX12_readLine : ByteArray := prog_14_method_45_code
def yX12_readLine : MethodName := ⟨RX12, "readLine", "()V"⟩
abbrev cX12_readAll : ByteArray := prog_14_method_46_code
def yX12_readAll : MethodName := ⟨RX12, "readAll", "()V"⟩
abbrev cX12_pavement : ByteArray := prog_14_method_47_code
def yX12_pavement : MethodName := ⟨RX12, "pavement", "()I"⟩
abbrev cX12_fault : ByteArray := prog_14_method_48_code
def yX12_fault : MethodName := ⟨RX12, "fault", "(I)I"⟩
abbrev cX12_isIn : ByteArray := prog_14_method_49_code
def yX12_isIn : MethodName := ⟨RX12, "isIn", "(III)Z"⟩
abbrev cX12_isStreet : ByteArray := prog_14_method_50_code
def yX12_isStreet : MethodName := ⟨RX12, "isStreet", "(I)Z"⟩
abbrev cX12_isWalker : ByteArray := prog_14_method_51_code
def yX12_isWalker : MethodName := ⟨RX12, "isWalker", "(I)Z"⟩
abbrev cX12_isRule : ByteArray := prog_14_method_52_code
def yX12_isRule : MethodName := ⟨RX12, "isRule", "(I)Z"⟩
abbrev cX12_areRules : ByteArray := prog_14_method_53_code
def yX12_areRules : MethodName := ⟨RX12, "areRules", "(I)Z"⟩
abbrev cX12_isInch : ByteArray := prog_14_method_54_code
def yX12_isInch : MethodName := ⟨RX12, "isInch", "(II)Z"⟩
abbrev cX12_inch : ByteArray := prog_14_method_55_code
def yX12_inch : MethodName := ⟨RX12, "inch", "(III)I"⟩
abbrev cX12_length : ByteArray := prog_14_method_56_code
def yX12_length : MethodName := ⟨RX12, "length", "(I)I"⟩
abbrev cX12_isLine : ByteArray := prog_14_method_57_code
def yX12_isLine : MethodName := ⟨RX12, "isLine", "(III)Z"⟩
abbrev cX12_line : ByteArray := prog_14_method_58_code
def yX12_line : MethodName := ⟨RX12, "line", "(III)I"⟩
abbrev cX12_gap : ByteArray := prog_14_method_59_code
def yX12_gap : MethodName := ⟨RX12, "gap", "(III)I"⟩
abbrev cX12_layStreet : ByteArray := prog_14_method_60_code
def yX12_layStreet : MethodName := ⟨RX12, "layStreet", "(III)V"⟩
abbrev cX12_doesStand : ByteArray := prog_14_method_61_code
def yX12_doesStand : MethodName := ⟨RX12, "doesStand", "(I)Z"⟩
abbrev cX12_isEnd : ByteArray := prog_14_method_62_code
def yX12_isEnd : MethodName := ⟨RX12, "isEnd", "(I)Z"⟩
abbrev cX12_isAsked : ByteArray := prog_14_method_63_code
def yX12_isAsked : MethodName := ⟨RX12, "isAsked", "(III)Z"⟩
abbrev cX12_foot : ByteArray := prog_14_method_64_code
def yX12_foot : MethodName := ⟨RX12, "foot", "(IIII)I"⟩
abbrev cX12_needOf : ByteArray := prog_14_method_65_code
def yX12_needOf : MethodName := ⟨RX12, "needOf", "(III)I"⟩
abbrev cX12_layNeeds : ByteArray := prog_14_method_66_code
def yX12_layNeeds : MethodName := ⟨RX12, "layNeeds", "()V"⟩
abbrev cX12_layNeed : ByteArray := prog_14_method_67_code
def yX12_layNeed : MethodName := ⟨RX12, "layNeed", "(II)V"⟩
abbrev cX12_lesser : ByteArray := prog_14_method_68_code
def yX12_lesser : MethodName := ⟨RX12, "lesser", "(II)I"⟩
abbrev cX12_lay : ByteArray := prog_14_method_69_code
def yX12_lay : MethodName := ⟨RX12, "lay", "(I)V"⟩
abbrev cX12_hasWay : ByteArray := prog_14_method_70_code
def yX12_hasWay : MethodName := ⟨RX12, "hasWay", "(III)Z"⟩
abbrev cX12_fewest : ByteArray := prog_14_method_71_code
def yX12_fewest : MethodName := ⟨RX12, "fewest", "(IIII)I"⟩
abbrev cX12_capped : ByteArray := prog_14_method_72_code
def yX12_capped : MethodName := ⟨RX12, "capped", "(J)J"⟩
abbrev cX12_ways : ByteArray := prog_14_method_73_code
def yX12_ways : MethodName := ⟨RX12, "ways", "(IIII)J"⟩
abbrev cX12_goOn : ByteArray := prog_14_method_74_code
def yX12_goOn : MethodName := ⟨RX12, "goOn", "(I)V"⟩
abbrev cX12_isEven : ByteArray := prog_14_method_75_code
def yX12_isEven : MethodName := ⟨RX12, "isEven", "(II)Z"⟩
abbrev cX12_evenest : ByteArray := prog_14_method_76_code
def yX12_evenest : MethodName := ⟨RX12, "evenest", "(IIII)I"⟩
abbrev cX12_even : ByteArray := prog_14_method_77_code
def yX12_even : MethodName := ⟨RX12, "even", "(IIIII)I"⟩
abbrev cX12_comesToEnd : ByteArray := prog_14_method_78_code
def yX12_comesToEnd : MethodName := ⟨RX12, "comesToEnd", "(II)Z"⟩
abbrev cX12_evens : ByteArray := prog_14_method_79_code
def yX12_evens : MethodName := ⟨RX12, "evens", "(III)I"⟩
abbrev cX12_isPlain : ByteArray := prog_14_method_80_code
def yX12_isPlain : MethodName := ⟨RX12, "isPlain", "(IIII)Z"⟩
abbrev cX12_areSlabs : ByteArray := prog_14_method_81_code
def yX12_areSlabs : MethodName := ⟨RX12, "areSlabs", "(III)Z"⟩
abbrev cX12_firstOf : ByteArray := prog_14_method_82_code
def yX12_firstOf : MethodName := ⟨RX12, "firstOf", "(IIIII)I"⟩
abbrev cX12_first : ByteArray := prog_14_method_83_code
def yX12_first : MethodName := ⟨RX12, "first", "(IIIII)I"⟩
abbrev cX12_beginOf : ByteArray := prog_14_method_84_code
def yX12_beginOf : MethodName := ⟨RX12, "beginOf", "(IIII)I"⟩
abbrev cX12_begin : ByteArray := prog_14_method_85_code
def yX12_begin : MethodName := ⟨RX12, "begin", "(IIII)I"⟩
abbrev cX12_suits : ByteArray := prog_14_method_86_code
def yX12_suits : MethodName := ⟨RX12, "suits", "(IIIII)J"⟩
abbrev cX12_isHeld : ByteArray := prog_14_method_87_code
def yX12_isHeld : MethodName := ⟨RX12, "isHeld", "(II)Z"⟩
abbrev cX12_keeps : ByteArray := prog_14_method_88_code
def yX12_keeps : MethodName := ⟨RX12, "keeps", "(III)I"⟩
abbrev cX12_keepOn : ByteArray := prog_14_method_89_code
def yX12_keepOn : MethodName := ⟨RX12, "keepOn", "(II)V"⟩
abbrev cX12_allSlips : ByteArray := prog_14_method_90_code
def yX12_allSlips : MethodName := ⟨RX12, "allSlips", "()I"⟩
abbrev cX12_oddsBy : ByteArray := prog_14_method_91_code
def yX12_oddsBy : MethodName := ⟨RX12, "oddsBy", "(IIIJ)J"⟩
abbrev cX12_rest : ByteArray := prog_14_method_92_code
def yX12_rest : MethodName := ⟨RX12, "rest", "(I)J"⟩
abbrev cX12_bestOdds : ByteArray := prog_14_method_93_code
def yX12_bestOdds : MethodName := ⟨RX12, "bestOdds", "(II)J"⟩
abbrev cX12_layBold : ByteArray := prog_14_method_94_code
def yX12_layBold : MethodName := ⟨RX12, "layBold", "(IIIII)Z"⟩
abbrev cX12_brave : ByteArray := prog_14_method_95_code
def yX12_brave : MethodName := ⟨RX12, "brave", "(IIIII)J"⟩
abbrev cX12_boldest : ByteArray := prog_14_method_96_code
def yX12_boldest : MethodName := ⟨RX12, "boldest", "(IIIII)I"⟩
abbrev cX12_layWins : ByteArray := prog_14_method_97_code
def yX12_layWins : MethodName := ⟨RX12, "layWins", "(I)V"⟩
abbrev cX12_layWays : ByteArray := prog_14_method_98_code
def yX12_layWays : MethodName := ⟨RX12, "layWays", "(II)V"⟩
abbrev cX12_wager : ByteArray := prog_14_method_99_code
def yX12_wager : MethodName := ⟨RX12, "wager", "(IIII)I"⟩
abbrev cX12_leave : ByteArray := prog_14_method_100_code
def yX12_leave : MethodName := ⟨RX12, "leave", "(II)I"⟩
abbrev cX12_act : ByteArray := prog_14_method_101_code
def yX12_act : MethodName := ⟨RX12, "act", "()V"⟩
abbrev cX12_exchange : ByteArray := prog_14_method_102_code
def yX12_exchange : MethodName := ⟨RX12, "exchange", "(I)V"⟩
abbrev cX12_stands : ByteArray := prog_14_method_103_code
def yX12_stands : MethodName := ⟨RX12, "stands", "(I)I"⟩
abbrev cX12_walk : ByteArray := prog_14_method_104_code
def yX12_walk : MethodName := ⟨RX12, "walk", "(III)I"⟩
abbrev cX12_go : ByteArray := prog_14_method_105_code
def yX12_go : MethodName := ⟨RX12, "go", "(I)I"⟩
abbrev cX12_force : ByteArray := prog_14_method_106_code
def yX12_force : MethodName := ⟨RX12, "force", "(I)I"⟩
abbrev cX12_rain : ByteArray := prog_14_method_107_code
def yX12_rain : MethodName := ⟨RX12, "rain", "()Z"⟩
abbrev cX12_day : ByteArray := prog_14_method_108_code
def yX12_day : MethodName := ⟨RX12, "day", "()I"⟩
abbrev cX12_undo : ByteArray := prog_14_method_109_code
def yX12_undo : MethodName := ⟨RX12, "undo", "()Z"⟩
abbrev cX12_redo : ByteArray := prog_14_method_110_code
def yX12_redo : MethodName := ⟨RX12, "redo", "()Z"⟩
abbrev cX12_walker : ByteArray := prog_14_method_111_code
def yX12_walker : MethodName := ⟨RX12, "walker", "(I)I"⟩
abbrev cX12_lies : ByteArray := prog_14_method_112_code
def yX12_lies : MethodName := ⟨RX12, "lies", "(I)I"⟩
abbrev cX12_sight : ByteArray := prog_14_method_113_code
def yX12_sight : MethodName := ⟨RX12, "sight", "(III)I"⟩
abbrev cX12_untell : ByteArray := prog_14_method_114_code
def yX12_untell : MethodName := ⟨RX12, "untell", "(I)Z"⟩
abbrev cX12_later : ByteArray := prog_14_method_115_code
def yX12_later : MethodName := ⟨RX12, "later", "(I)I"⟩
abbrev cX12_counts : ByteArray := prog_14_method_116_code
def yX12_counts : MethodName := ⟨RX12, "counts", "(II)Z"⟩
abbrev cX12_fits : ByteArray := prog_14_method_117_code
def yX12_fits : MethodName := ⟨RX12, "fits", "(I)I"⟩
abbrev cX12_common : ByteArray := prog_14_method_118_code
def yX12_common : MethodName := ⟨RX12, "common", "(JJ)J"⟩
abbrev cX12_chance : ByteArray := prog_14_method_119_code
def yX12_chance : MethodName := ⟨RX12, "chance", "(III)J"⟩
abbrev cX12_isBox : ByteArray := prog_14_method_120_code
def yX12_isBox : MethodName := ⟨RX12, "isBox", "(I)Z"⟩
abbrev cX12_image : ByteArray := prog_14_method_121_code
def yX12_image : MethodName := ⟨RX12, "image", "(I)I"⟩
abbrev cX12_back : ByteArray := prog_14_method_122_code
def yX12_back : MethodName := ⟨RX12, "back", "(I)I"⟩
abbrev cX12_about : ByteArray := prog_14_method_123_code
def yX12_about : MethodName := ⟨RX12, "about", "(I)I"⟩
def RJx145de : String := "java/io/Serializable"
def TJx145de : u_T := fun k => match k with
  | _ => ("", "", "", false)
def tyJx145de : Nat → FieldType := fun k => match k with
  | _ => .int
abbrev wsJx145de0 : List Cond := u_ws RJx145de TJx145de 0
theorem nmJx145de : ∀ a, a < 0 → ∀ b, b < 0 → a ≠ b → (TJx145de a).2.1 ≠ (TJx145de b).2.1 := by decide +kernel
theorem tyJx145de_ok : ∀ k, k < 0 → parseFieldDescriptor (TJx145de k).2.2.1 = some (tyJx145de k) := by decide +kernel
def RJx9f9b0 : String := "java/lang/CharSequence"
def TJx9f9b0 : u_T := fun k => match k with
  | _ => ("", "", "", false)
def tyJx9f9b0 : Nat → FieldType := fun k => match k with
  | _ => .int
abbrev wsJx9f9b00 : List Cond := u_ws RJx9f9b0 TJx9f9b0 0
theorem nmJx9f9b0 : ∀ a, a < 0 → ∀ b, b < 0 → a ≠ b → (TJx9f9b0 a).2.1 ≠ (TJx9f9b0 b).2.1 := by decide +kernel
theorem tyJx9f9b0_ok : ∀ k, k < 0 → parseFieldDescriptor (TJx9f9b0 k).2.2.1 = some (tyJx9f9b0 k) := by decide +kernel
def RJ11 : String := "java/lang/Character"
def TJ11 : u_T := fun k => match k with
  | _ => ("", "", "", false)
def tyJ11 : Nat → FieldType := fun k => match k with
  | _ => .int
abbrev wsJ110 : List Cond := u_ws RJ11 TJ11 0
theorem nmJ11 : ∀ a, a < 0 → ∀ b, b < 0 → a ≠ b → (TJ11 a).2.1 ≠ (TJ11 b).2.1 := by decide +kernel
theorem tyJ11_ok : ∀ k, k < 0 → parseFieldDescriptor (TJ11 k).2.2.1 = some (tyJ11 k) := by decide +kernel
abbrev cJ11_isValidCodePoint_9a6ad : ByteArray := prog_15_method_11_code
def yJ11_isValidCodePoint_9a6ad : MethodName := ⟨RJ11, "isValidCodePoint", "(I)Z"⟩
abbrev cJ11_highSurrogate_5068e : ByteArray := prog_15_method_28_code
def yJ11_highSurrogate_5068e : MethodName := ⟨RJ11, "highSurrogate", "(I)C"⟩
abbrev cJ11_lowSurrogate_5068e : ByteArray := prog_15_method_29_code
def yJ11_lowSurrogate_5068e : MethodName := ⟨RJ11, "lowSurrogate", "(I)C"⟩
def RJxb160c : String := "java/lang/Comparable"
def TJxb160c : u_T := fun k => match k with
  | _ => ("", "", "", false)
def tyJxb160c : Nat → FieldType := fun k => match k with
  | _ => .int
abbrev wsJxb160c0 : List Cond := u_ws RJxb160c TJxb160c 0
theorem nmJxb160c : ∀ a, a < 0 → ∀ b, b < 0 → a ≠ b → (TJxb160c a).2.1 ≠ (TJxb160c b).2.1 := by decide +kernel
theorem tyJxb160c_ok : ∀ k, k < 0 → parseFieldDescriptor (TJxb160c k).2.2.1 = some (tyJxb160c k) := by decide +kernel
def RJ9 : String := "java/lang/Math"
def TJ9 : u_T := fun k => match k with
  | _ => ("", "", "", false)
def tyJ9 : Nat → FieldType := fun k => match k with
  | _ => .int
abbrev wsJ90 : List Cond := u_ws RJ9 TJ9 0
theorem nmJ9 : ∀ a, a < 0 → ∀ b, b < 0 → a ≠ b → (TJ9 a).2.1 ≠ (TJ9 b).2.1 := by decide +kernel
theorem tyJ9_ok : ∀ k, k < 0 → parseFieldDescriptor (TJ9 k).2.2.1 = some (tyJ9 k) := by decide +kernel
abbrev cJ9_max_7cf53 : ByteArray := prog_16_method_65_code
def yJ9_max_7cf53 : MethodName := ⟨RJ9, "max", "(II)I"⟩
abbrev cJ9_min_7cf53 : ByteArray := prog_16_method_69_code
def yJ9_min_7cf53 : MethodName := ⟨RJ9, "min", "(II)I"⟩
abbrev cJ9_min_f86c9 : ByteArray := prog_16_method_70_code
def yJ9_min_f86c9 : MethodName := ⟨RJ9, "min", "(JJ)J"⟩
def RJ0 : String := "java/lang/String"
def TJ0 : u_T := fun k => match k with
  | _ => ("", "", "", false)
def tyJ0 : Nat → FieldType := fun k => match k with
  | _ => .int
abbrev wsJ00 : List Cond := u_ws RJ0 TJ0 0
theorem nmJ0 : ∀ a, a < 0 → ∀ b, b < 0 → a ≠ b → (TJ0 a).2.1 ≠ (TJ0 b).2.1 := by decide +kernel
theorem tyJ0_ok : ∀ k, k < 0 → parseFieldDescriptor (TJ0 k).2.2.1 = some (tyJ0 k) := by decide +kernel
abbrev cJ0_length_8abf5 : ByteArray := prog_17_method_54_code
def yJ0_length_8abf5 : MethodName := ⟨RJ0, "length", "()I"⟩
abbrev cJ0_charAt_5068e : ByteArray := prog_17_method_56_code
def yJ0_charAt_5068e : MethodName := ⟨RJ0, "charAt", "(I)C"⟩
abbrev cJ0_indexOf_0f7a4 : ByteArray := prog_17_method_79_code
def yJ0_indexOf_0f7a4 : MethodName := ⟨RJ0, "indexOf", "(I)I"⟩
abbrev cJ0_indexOf_7cf53 : ByteArray := prog_17_method_80_code
def yJ0_indexOf_7cf53 : MethodName := ⟨RJ0, "indexOf", "(II)I"⟩
abbrev cJ0_coder_7d493 : ByteArray := prog_17_method_152_code
def yJ0_coder_7d493 : MethodName := ⟨RJ0, "coder", "()B"⟩
abbrev cJ0_isLatin1_aae02 : ByteArray := prog_17_method_154_code
def yJ0_isLatin1_aae02 : MethodName := ⟨RJ0, "isLatin1", "()Z"⟩
abbrev cJ0_checkIndex_df160 : ByteArray := prog_17_method_155_code
def yJ0_checkIndex_df160 : MethodName := ⟨RJ0, "checkIndex", "(II)V"⟩
abbrev cJ0_checkBoundsBeginEnd_23922 : ByteArray := prog_17_method_158_code
def yJ0_checkBoundsBeginEnd_23922 : MethodName := ⟨RJ0, "checkBoundsBeginEnd", "(III)V"⟩
def RJ1 : String := "java/lang/StringLatin1"
def TJ1 : u_T := fun k => match k with
  | _ => ("", "", "", false)
def tyJ1 : Nat → FieldType := fun k => match k with
  | _ => .int
abbrev wsJ10 : List Cond := u_ws RJ1 TJ1 0
theorem nmJ1 : ∀ a, a < 0 → ∀ b, b < 0 → a ≠ b → (TJ1 a).2.1 ≠ (TJ1 b).2.1 := by decide +kernel
theorem tyJ1_ok : ∀ k, k < 0 → parseFieldDescriptor (TJ1 k).2.2.1 = some (tyJ1 k) := by decide +kernel
abbrev cJ1_charAt_3b067 : ByteArray := prog_18_method_2_code
def yJ1_charAt_3b067 : MethodName := ⟨RJ1, "charAt", "([BI)C"⟩
abbrev cJ1_canEncode_9a6ad : ByteArray := prog_18_method_4_code
def yJ1_canEncode_9a6ad : MethodName := ⟨RJ1, "canEncode", "(I)Z"⟩
abbrev cJ1_indexOf_4cfef : ByteArray := prog_18_method_22_code
def yJ1_indexOf_4cfef : MethodName := ⟨RJ1, "indexOf", "([BIII)I"⟩
abbrev cJ1_indexOfChar_4cfef : ByteArray := prog_18_method_23_code
def yJ1_indexOfChar_4cfef : MethodName := ⟨RJ1, "indexOfChar", "([BIII)I"⟩
def RJ2 : String := "java/lang/StringUTF16"
def TJ2 : u_T := fun k => match k with
  | _ => ("", "", "", false)
def tyJ2 : Nat → FieldType := fun k => match k with
  | _ => .int
abbrev wsJ20 : List Cond := u_ws RJ2 TJ2 0
theorem nmJ2 : ∀ a, a < 0 → ∀ b, b < 0 → a ≠ b → (TJ2 a).2.1 ≠ (TJ2 b).2.1 := by decide +kernel
theorem tyJ2_ok : ∀ k, k < 0 → parseFieldDescriptor (TJ2 k).2.2.1 = some (tyJ2 k) := by decide +kernel
abbrev cJ2_getChar_3b067 : ByteArray := prog_19_method_5_code
def yJ2_getChar_3b067 : MethodName := ⟨RJ2, "getChar", "([BI)C"⟩
abbrev cJ2_length_9d52b : ByteArray := prog_19_method_6_code
def yJ2_length_9d52b : MethodName := ⟨RJ2, "length", "([B)I"⟩
abbrev cJ2_indexOf_4cfef : ByteArray := prog_19_method_40_code
def yJ2_indexOf_4cfef : MethodName := ⟨RJ2, "indexOf", "([BIII)I"⟩
abbrev cJ2_indexOfChar_4cfef : ByteArray := prog_19_method_47_code
def yJ2_indexOfChar_4cfef : MethodName := ⟨RJ2, "indexOfChar", "([BIII)I"⟩
abbrev cJ2_indexOfCharUnsafe_4cfef : ByteArray := prog_19_method_48_code
def yJ2_indexOfCharUnsafe_4cfef : MethodName := ⟨RJ2, "indexOfCharUnsafe", "([BIII)I"⟩
abbrev cJ2_indexOfSupplementary_4cfef : ByteArray := prog_19_method_49_code
def yJ2_indexOfSupplementary_4cfef : MethodName := ⟨RJ2, "indexOfSupplementary", "([BIII)I"⟩
abbrev cJ2_charAt_3b067 : ByteArray := prog_19_method_83_code
def yJ2_charAt_3b067 : MethodName := ⟨RJ2, "charAt", "([BI)C"⟩
abbrev cJ2_checkIndex_2214a : ByteArray := prog_19_method_91_code
def yJ2_checkIndex_2214a : MethodName := ⟨RJ2, "checkIndex", "(I[B)V"⟩
abbrev cJ2_checkBoundsBeginEnd_d044e : ByteArray := prog_19_method_93_code
def yJ2_checkBoundsBeginEnd_d044e : MethodName := ⟨RJ2, "checkBoundsBeginEnd", "(II[B)V"⟩
def RJ10 : String := "java/lang/System"
def TJ10 : u_T := fun k => match k with
  | _ => ("", "", "", false)
def tyJ10 : Nat → FieldType := fun k => match k with
  | _ => .int
abbrev wsJ100 : List Cond := u_ws RJ10 TJ10 0
theorem nmJ10 : ∀ a, a < 0 → ∀ b, b < 0 → a ≠ b → (TJ10 a).2.1 ≠ (TJ10 b).2.1 := by decide +kernel
theorem tyJ10_ok : ∀ k, k < 0 → parseFieldDescriptor (TJ10 k).2.2.1 = some (tyJ10 k) := by decide +kernel
def RJxfd54e : String := "java/lang/constant/Constable"
def TJxfd54e : u_T := fun k => match k with
  | _ => ("", "", "", false)
def tyJxfd54e : Nat → FieldType := fun k => match k with
  | _ => .int
abbrev wsJxfd54e0 : List Cond := u_ws RJxfd54e TJxfd54e 0
theorem nmJxfd54e : ∀ a, a < 0 → ∀ b, b < 0 → a ≠ b → (TJxfd54e a).2.1 ≠ (TJxfd54e b).2.1 := by decide +kernel
theorem tyJxfd54e_ok : ∀ k, k < 0 → parseFieldDescriptor (TJxfd54e k).2.2.1 = some (tyJxfd54e k) := by decide +kernel
def RJx3cf43 : String := "java/lang/constant/ConstantDesc"
def TJx3cf43 : u_T := fun k => match k with
  | _ => ("", "", "", false)
def tyJx3cf43 : Nat → FieldType := fun k => match k with
  | _ => .int
abbrev wsJx3cf430 : List Cond := u_ws RJx3cf43 TJx3cf43 0
theorem nmJx3cf43 : ∀ a, a < 0 → ∀ b, b < 0 → a ≠ b → (TJx3cf43 a).2.1 ≠ (TJx3cf43 b).2.1 := by decide +kernel
theorem tyJx3cf43_ok : ∀ k, k < 0 → parseFieldDescriptor (TJx3cf43 k).2.2.1 = some (tyJx3cf43 k) := by decide +kernel
def RJ7 : String := "java/util/Arrays"
def TJ7 : u_T := fun k => match k with
  | _ => ("", "", "", false)
def tyJ7 : Nat → FieldType := fun k => match k with
  | _ => .int
abbrev wsJ70 : List Cond := u_ws RJ7 TJ7 0
theorem nmJ7 : ∀ a, a < 0 → ∀ b, b < 0 → a ≠ b → (TJ7 a).2.1 ≠ (TJ7 b).2.1 := by decide +kernel
theorem tyJ7_ok : ∀ k, k < 0 → parseFieldDescriptor (TJ7 k).2.2.1 = some (tyJ7 k) := by decide +kernel
abbrev cJ7_fill_53178 : ByteArray := prog_21_method_103_code
def yJ7_fill_53178 : MethodName := ⟨RJ7, "fill", "([II)V"⟩
def RJ3 : String := "jdk/internal/util/Preconditions"
def TJ3 : u_T := fun k => match k with
  | _ => ("", "", "", false)
def tyJ3 : Nat → FieldType := fun k => match k with
  | _ => .int
abbrev wsJ30 : List Cond := u_ws RJ3 TJ3 0
theorem nmJ3 : ∀ a, a < 0 → ∀ b, b < 0 → a ≠ b → (TJ3 a).2.1 ≠ (TJ3 b).2.1 := by decide +kernel
theorem tyJ3_ok : ∀ k, k < 0 → parseFieldDescriptor (TJ3 k).2.2.1 = some (tyJ3 k) := by decide +kernel
abbrev cJ3_checkIndex_8e157 : ByteArray := prog_22_method_11_code
def yJ3_checkIndex_8e157 : MethodName := ⟨RJ3, "checkIndex", "(IILjava/util/function/BiFunction;)I"⟩
abbrev cJ3_checkFromToIndex_8c36e : ByteArray := prog_22_method_12_code
def yJ3_checkFromToIndex_8c36e : MethodName := ⟨RJ3, "checkFromToIndex", "(IIILjava/util/function/BiFunction;)I"⟩
def RL : String := "SlabWalkLaw"
abbrev cL_law : ByteArray := code
def yL_law : MethodName := ⟨RL, "law", "([I)Z"⟩
end
section
abbrev classes : List vw_C := [(RX0, TX0, 8), (RX1, TX1, 6), (RX2, TX2, 3), (RX3, TX3, 5), (RX4, TX4, 4), (RX5, TX5, 7), (RX6, TX6, 17), (RX7, TX7, 10), (RX8, TX8, 7), (RX9, TX9, 9), (RX10, TX10, 5), (RX11, TX11, 13), (RX12, TX12, 89)]
/-- the good words of the tables: every method's contract takes all of them -/
def gd : List Cond := lw_tbl.filter goodWord
theorem gd_mem {w : Cond} (i : Nat) (h : lw_tbl[i]? = some w) (g : goodWord w = true) : w ∈ gd := List.mem_filter.mpr ⟨List.mem_of_getElem? h, g⟩
theorem gd_r (ws : List Cond) (ps : List Nat) (hp : ws = ps.filterMap (fun i => lw_tbl[i]?)) (h : ws.all goodWord = true) : ∀ w ∈ ws, w ∈ gd := by
  intro w hw
  have h1 := List.all_eq_true.mp h w hw
  rw [hp] at hw
  obtain ⟨i, -, hi⟩ := List.mem_filterMap.mp hw
  exact gd_mem i hi h1
theorem gd_good {w : Cond} (h : w ∈ gd) : (w.onTables && w.keeps) = true ∨ ∃ ty, w = .arrayClass ty := good_of_word (List.mem_filter.mp h).2
abbrev WS (y : MethodName) (c : ByteArray) (n : Nat) (r : Option FieldType) : List Cond := .code y c n r :: gd
theorem gd_in {big ws : List Cond} (hb : ∀ w ∈ gd, w ∈ big) (h : ∀ w ∈ ws, w ∈ gd) : GoodIn big ws := fun w hw => ⟨hb w (h w hw), gd_good (h w hw)⟩
theorem gd_WS {y : MethodName} {c : ByteArray} {n : Nat} {r : Option FieldType} (hc : Cond.code y c n r ∈ gd) : ∀ w ∈ WS y c n r, w ∈ gd := fun w h => (List.mem_cons.mp h).elim (fun e => e ▸ hc) id
theorem gd_V {big : List Cond} {own C : String} {idx : Nat} {y : MethodName} {c : ByteArray} {n : Nat} {r : Option FieldType} (hb : ∀ w ∈ gd, w ∈ big) (h1 : Cond.methodLink own idx y ∈ gd) (h2 : Cond.instanceMethod y ∈ gd) (h3 : Cond.selects C y y ∈ gd) (h4 : Cond.initialized C ∈ gd) (hc : Cond.code y c n r ∈ gd) : GoodIn big (wsV own idx C y (WS y c n r)) :=
  gd_in hb (fun w hw => by
    unfold wsV at hw
    rcases List.mem_append.mp hw with h | h
    · simp only [List.mem_cons, List.not_mem_nil, or_false] at h
      rcases h with rfl | rfl | rfl | rfl
      · exact h1
      · exact h2
      · exact h3
      · exact h4
    · exact gd_WS hc w h)
theorem gd_S {big : List Cond} {own : String} {idx : Nat} {y : MethodName} {c : ByteArray} {n : Nat} {r : Option FieldType} (hb : ∀ w ∈ gd, w ∈ big) (h1 : Cond.methodLink own idx y ∈ gd) (h2 : Cond.static y ∈ gd) (h4 : Cond.initialized y.cls ∈ gd) (hc : Cond.code y c n r ∈ gd) : GoodIn big (va_wsS own idx y (WS y c n r)) :=
  gd_in hb (fun w hw => by
    unfold va_wsS at hw
    rcases List.mem_append.mp hw with h | h
    · simp only [List.mem_cons, List.not_mem_nil, or_false] at h
      rcases h with rfl | rfl | rfl
      · exact h1
      · exact h2
      · exact h4
    · exact gd_WS hc w h)
/-- words that aren't kept by themselves: the nest's private constructors, the class of int[][] -/
def va_AOA (t : FieldType) (U : State) : Prop := (Cond.arrayOver (.array t)).before #[] U = true
def cX (U : State) : Prop := va_AOA .int U ∧ va_Nw (.methodLinkNest RX11 43 yX0_init RX11) U ∧ va_Nw (.methodLinkNest RX11 50 yX10_init RX11) U ∧ va_Nw (.methodLinkNest RX10 18 yX4_init RX11) U ∧ va_Nw (.methodLinkNest RX11 57 yX5_init RX11) U ∧ va_Nw (.methodLinkNest RX11 64 yX1_init RX11) U ∧ va_Nw (.methodLinkNest RX11 71 yX8_init RX11) U
theorem cX.warm {s U : State} (hW : s.WarmedH U.vm) (h : cX s) : cX U := by
  obtain ⟨h0, h1, h2, h3, h4, h5, h6⟩ := h
  exact ⟨over_moved hW.alike h0, va_Nw.warmM hW h1, va_Nw.warmM hW h2, va_Nw.warmM hW h3, va_Nw.warmM hW h4, va_Nw.warmM hW h5, va_Nw.warmM hW h6⟩
theorem cX.calling {U : State} {g : JFrame} {mk : MethodId} {a : Array Value} (h : cX U) : cX (U.calling g mk a) := by
  obtain ⟨h0, h1, h2, h3, h4, h5, h6⟩ := h
  exact ⟨over_moved (Vm.Alike.refl U.vm) h0, va_Nw.same rfl rfl h1, va_Nw.same rfl rfl h2, va_Nw.same rfl rfl h3, va_Nw.same rfl rfl h4, va_Nw.same rfl rfl h5, va_Nw.same rfl rfl h6⟩
abbrev TY (k : ClassId × ClassId × ClassId × ClassId) : List (ClassId × FieldType) := [(k.1, .byte), (k.2.1, .int), (k.2.2.1, .long), (k.2.2.2, .boolean)]
/-- where a contract starts: the cells ws, all classes known, the heap of size sz -/
def cP (D : va_G) (k : ClassId × ClassId × ClassId × ClassId) (ws : va_W) (sz : Nat) (U : State) : Prop := U.heap.size = sz ∧ va_P D classes ws U.heap ∧ (va_K D classes (TY k) U ∧ cX U) ∧ va_D (fun _ => True) ws
/-- the cells where a contract ends -/
def cB (D : va_G) (A : Nat → Prop) (ws : va_W) (t : State) : Prop := va_P D classes ws t.heap ∧ va_D A ws
theorem cP_blind {D : va_G} {k : ClassId × ClassId × ClassId × ClassId} {ws : va_W} {sz : Nat} {av : List Value} : FrameBlind (va_Pc av (cP D k ws sz)) := fun a U g mk q => by
  obtain ⟨q0, q1, qP, ⟨qK, qX⟩, qD⟩ := q
  exact ⟨q0, q1, qP, ⟨va_K.moved (u := U) (U := U.calling g mk a) (Vm.Alike.refl U.vm) qK, qX.calling⟩, qD⟩
theorem cP_S {D : va_G} {k : ClassId × ClassId × ClassId × ClassId} {ws : va_W} {A : Nat → Prop} {As : List Value} {s : State} {H : Heap} (hP : va_P D classes ws H) (hK : va_K D classes (TY k) s ∧ cX s) (hD : va_D A ws) : PreS s H (va_Pc As (cP D k ws H.size)) As :=
  ⟨cP_blind, fun U hU hW => ⟨rfl, by rw [hU], by rw [hU]; exact hP, ⟨va_K.moved hW.alike hK.1, hK.2.warm hW⟩, hD.weaken (fun _ _ _ _ => trivial)⟩⟩
theorem cP_V {D : va_G} {k : ClassId × ClassId × ClassId × ClassId} {ws : va_W} {A : Nat → Prop} {As : List Value} {s : State} {H : Heap} {b q0 ci : Nat} {q : vw_C} {fs : List Value} (hP : va_P D classes ws H) (hK : va_K D classes (TY k) s ∧ cX s) (hD : va_D A ws) (hc : classes[ci]? = some q) (he : ws[q0]? = some (b, .inr (ci, fs))) : PreV s H q.1 b (va_Pc (.ref b :: As) (cP D k ws H.size)) As :=
  ⟨cP_blind, va_recv hK.1 hP hc he, fun U hU hW => ⟨rfl, by rw [hU], by rw [hU]; exact hP, ⟨va_K.moved hW.alike hK.1, hK.2.warm hW⟩, hD.weaken (fun _ _ _ _ => trivial)⟩⟩
theorem cB_of {D : va_G} {A : Nat → Prop} {ws : va_W} {t : State} {H : Heap} (ht : t.heap = H) (hP : va_P D classes ws H) (hD : va_D A ws) : cB D A ws t := ⟨by rw [ht]; exact hP, hD⟩
/-- put over known fields -/
theorem fs_ne {fs : List Value} {k j : Nat} {v w : Value} (h : fs[j]? = some w) (hk : k ≠ j) : (fs.set k v)[j]? = some w := by rw [List.getElem?_set_ne hk]; exact h
theorem fs_eq {fs : List Value} {k : Nat} {v w : Value} (h : fs[k]? = some w) : (fs.set k v)[k]? = some v := by rw [List.getElem?_set_self (List.getElem?_eq_some_iff.mp h).1]
theorem fs_lt {fs : List Value} {k : Nat} {w : Value} (h : fs[k]? = some w) : k < fs.length := (List.getElem?_eq_some_iff.mp h).1
section NEWT
variable {p : Program} {l : Launch} {e : Env} {R : Room} {s : State} {m : MethodId} {args : Array Value} {below : List Frame} {meth : Method} {c : Code} {H : Heap} {locs : List Loc} {cells slots : Nat} {Q : State → Prop}
variable {cc : ByteArray} {pc : Nat} {ls : Array Slot} {rest : List Value} {D : va_G} {cl : List vw_C} {A : Nat → Prop} {tys : List (ClassId × FieldType)} {ws : va_W} {H0 : Heap}
/-- a new array of a primitive type whose class is known -/
theorem va_newaT (hexec : p.tables.exec = Jvm.exec) (hb : c.code = cc) {atype : ArrayType} (harr : (Cond.arrayClass (newarray.typeOf atype)).before args s = true) {ty : FieldType} (hty : newarray.typeOf atype = ty) (hra : ∀ (U : State) (c1 c2 : ClassId), va_RA U c1 ty → va_RA U c2 ty → c1 = c2) (hK : va_K D cl tys s) (hP : va_P D cl ws H) (hD : va_D A ws) (hS : va_S A H0 H locs) (hA : ∀ q, H0.size ≤ q → A q) (t0 : Nat) {cA : ClassId} (ht : tys[t0]? = some (cA, ty))
    {n : Int32} {N' : Nat} {a0 : vp_A} (ha : ∀ cA : ClassId, vp_cell cA a0 = arrV cA N' (fun _ => defaultValue ty)) (hn : ¬ n < 0) (hN : n.toNatClampNeg = N') (hbytes : N' * componentBytes ty ≤ 536870912) (hcells : cells + 1 ≤ R.cells) (hslots : slots + N' ≤ R.slots) (hdg : decode cc pc = .ok (.newarray atype, 2))
    (kk : ∀ (q : Nat) (H1 : Heap), va_P D cl (ws ++ [(q, .inl (cA, a0))]) H1 → va_D A (ws ++ [(q, .inl (cA, a0))]) → va_S A H0 H1 locs →
      W p l e R s m args below meth c H1 locs (cells + 1) (slots + N') Q (F0 m (pc + 2) ls (.ref q :: rest))) : W p l e R s m args below meth c H locs cells slots Q (F0 m pc ls (.int n :: rest)) := by
  refine va_newa hexec hb harr hty hK hP hD hS hA ha hn hN hbytes hcells hslots hdg (fun q c2 H1 hK2 hP2 hD2 hS2 => ?_)
  have e1 := (hK.2 t0 _ ht).2
  have e2 := (hK2.2 tys.length (c2, ty) (by rw [List.getElem?_append_right (Nat.le_refl _), Nat.sub_self]; rfl)).2
  have e : c2 = cA := hra s c2 cA e2 e1
  subst e
  exact kk q H1 hP2 hD2 hS2
end NEWT
theorem ra_int (U : State) (c1 c2 : ClassId) (h1 : va_RA U c1 .int) (h2 : va_RA U c2 .int) : c1 = c2 := Option.some.inj (Eq.trans (Eq.symm h1) h2)
theorem ra_byte (U : State) (c1 c2 : ClassId) (h1 : va_RA U c1 .byte) (h2 : va_RA U c2 .byte) : c1 = c2 := Option.some.inj (Eq.trans (Eq.symm h1) h2)
theorem ra_long (U : State) (c1 c2 : ClassId) (h1 : va_RA U c1 .long) (h2 : va_RA U c2 .long) : c1 = c2 := Option.some.inj (Eq.trans (Eq.symm h1) h2)
theorem ra_boolean (U : State) (c1 c2 : ClassId) (h1 : va_RA U c1 .boolean) (h2 : va_RA U c2 .boolean) : c1 = c2 := Option.some.inj (Eq.trans (Eq.symm h1) h2)
section MNA
variable {p : Program} {l : Launch} {e : Env} {R : Room} {s : State} {m : MethodId} {args : Array Value} {below : List Frame} {meth : Method} {c : Code} {H : Heap} {locs : List Loc} {cells slots : Nat} {Q : State → Prop}
variable {cc : ByteArray} {pc : Nat} {ls : Array Slot} {rest : List Value} {D : va_G} {cl : List vw_C} {A : Nat → Prop} {tys : List (ClassId × FieldType)} {ws : va_W} {H0 : Heap}
/-- new T[n][k] whose cells nobody asks for again -/
theorem va_mna0 (hexec : p.tables.exec = Jvm.exec) (hb : c.code = cc) {own : String} {index : Nat} {ty : FieldType} (hown : s.vm.findClass own = some m.cls) (hclink : (Cond.classLink own index ("[" ++ (FieldType.array ty).toString)).before args s = true) (hover : va_AOA ty s) (harr : (Cond.arrayClass ty).before args s = true)
    (hP : va_P D cl ws H) (hS : va_S A H0 H locs) {n k : Int32} {N' K' : Nat} (hn : ¬ n < 0) (hk : ¬ k < 0) (hN : n.toNatClampNeg = N') (hM : k.toNatClampNeg = K')
    (hb1 : N' * 4 ≤ 536870912) (hb2 : K' * componentBytes ty ≤ 536870912) (hb3 : K' ≤ 536870912) (hdf : fits ty (defaultValue ty) = true) (hdd : (defaultValue ty).isDefault = true) (hcells : cells + (1 + N') ≤ R.cells) (hslots : slots + (N' + N' * K') ≤ R.slots) (hdg : decode cc pc = .ok (.multianewarray index 2, 4))
    (kk : ∀ (q : Nat) (H1 : Heap), va_P D cl ws H1 → va_S A H0 H1 locs → W p l e R s m args below meth c H1 locs (cells + 1 + N') (slots + N' + N' * K') Q (F0 m (pc + 4) ls (.ref q :: rest))) : W p l e R s m args below meth c H locs cells slots Q (F0 m pc ls (.int k :: .int n :: rest)) := by
  subst hN
  subst hM
  intro T hT Xs
  obtain ⟨vm₁, cA, comp, -, fA, fC, hO, -, X', step⟩ := Jvm.Stand.multianewarray2F Xs hexec hown hclink (show (Cond.arrayOver (.array ty)).before args s = true from hover) harr (g := F0 m pc ls (.int k :: .int n :: rest)) rfl (by rw [hb]; exact hdg) rfl hn hk hb1 hb2 hb3 hdf hdd hcells hslots
  generalize hF : Jvm.Free.Multi.fill (T.setVm vm₁) cA comp n.toNatClampNeg k.toNatClampNeg (defaultValue ty) n.toNatClampNeg = F at X' step
  have hTh : (T.setVm vm₁).heap = H := hT
  obtain ⟨f1, f2, -, -⟩ := Jvm.Free.Multi.fill_facts (T.setVm vm₁) cA comp n.toNatClampNeg k.toNatClampNeg (defaultValue ty) n.toNatClampNeg
  rw [hF, hTh] at f1 f2
  have hold : ∀ x : Nat, x < H.size → F.heap[x]? = H[x]? := fun x hx => by
    have := Jvm.Free.Multi.fill_old (T.setVm vm₁) cA comp n.toNatClampNeg k.toNatClampNeg (defaultValue ty) (a := x) (by rw [hTh]; exact hx) n.toNatClampNeg
    rw [hF, hTh] at this
    exact this
  have hP0 : va_P D cl ws F.heap := hP.kept (fun k9 x hx => hold x.1 ((hP k9 x hx).lt))
  obtain ⟨t, a1, b1⟩ := kk H.size F.heap hP0 ⟨by rw [f1]; exact Nat.le_trans hS.1 (by omega), fun x h1 h2 => (hold x (Nat.lt_of_lt_of_le h1 hS.1)).trans (hS.2.1 x h1 h2), hS.2.2⟩ F rfl X'
  refine ⟨t, step t ?_, b1⟩
  have e : T.heap.size = H.size := by rw [hT]
  rw [e]
  exact a1
end MNA
set_option maxRecDepth 20000 in
theorem iX0 : ∀ w ∈ u_ws RX0 TX0 8, w ∈ gd := gd_r _ [395, 397, 399, 401, 403, 405, 407, 409] (by decide +kernel) (by decide +kernel)
set_option maxRecDepth 20000 in
theorem iX1 : ∀ w ∈ u_ws RX1 TX1 6, w ∈ gd := gd_r _ [501, 503, 505, 507, 509, 511] (by decide +kernel) (by decide +kernel)
set_option maxRecDepth 20000 in
theorem iX2 : ∀ w ∈ u_ws RX2 TX2 3, w ∈ gd := gd_r _ [304, 306, 308] (by decide +kernel) (by decide +kernel)
set_option maxRecDepth 20000 in
theorem iX3 : ∀ w ∈ u_ws RX3 TX3 5, w ∈ gd := gd_r _ [354, 356, 358, 360, 362] (by decide +kernel) (by decide +kernel)
set_option maxRecDepth 20000 in
theorem iX4 : ∀ w ∈ u_ws RX4 TX4 4, w ∈ gd := gd_r _ [431, 433, 435, 437] (by decide +kernel) (by decide +kernel)
set_option maxRecDepth 20000 in
theorem iX5 : ∀ w ∈ u_ws RX5 TX5 7, w ∈ gd := gd_r _ [471, 473, 475, 477, 479, 481, 483] (by decide +kernel) (by decide +kernel)
set_option maxRecDepth 20000 in
theorem iX6 : ∀ w ∈ u_ws RX6 TX6 17, w ∈ gd := gd_r _ [210, 212, 214, 216, 218, 220, 222, 224, 226, 228, 230, 232, 234, 236, 238, 240, 242] (by decide +kernel) (by decide +kernel)
set_option maxRecDepth 20000 in
theorem iX7 : ∀ w ∈ u_ws RX7 TX7 10, w ∈ gd := gd_r _ [322, 324, 326, 328, 330, 332, 334, 336, 338, 340] (by decide +kernel) (by decide +kernel)
set_option maxRecDepth 20000 in
theorem iX8 : ∀ w ∈ u_ws RX8 TX8 7, w ∈ gd := gd_r _ [532, 534, 536, 538, 540, 542, 544] (by decide +kernel) (by decide +kernel)
set_option maxRecDepth 20000 in
theorem iX9 : ∀ w ∈ u_ws RX9 TX9 9, w ∈ gd := gd_r _ [274, 276, 278, 280, 282, 284, 286, 288, 290] (by decide +kernel) (by decide +kernel)
set_option maxRecDepth 20000 in
theorem iX10 : ∀ w ∈ u_ws RX10 TX10 5, w ∈ gd := gd_r _ [447, 449, 451, 453, 455] (by decide +kernel) (by decide +kernel)
set_option maxRecDepth 20000 in
theorem iX11 : ∀ w ∈ u_ws RX11 TX11 13, w ∈ gd := gd_r _ [583, 585, 587, 589, 591, 593, 595, 597, 599, 601, 603, 605, 607] (by decide +kernel) (by decide +kernel)
set_option maxRecDepth 20000 in
theorem iX12 : ∀ w ∈ u_ws RX12 TX12 89, w ∈ gd := gd_r _ [1403, 1405, 1407, 1409, 1411, 1413, 1415, 1417, 1419, 1421, 1423, 1425, 1427, 1429, 1431, 1433, 1435, 1437, 1439, 1441, 1443, 1445, 1447, 1449, 1451, 1453, 1455, 1457, 1459, 1461, 1463, 1465, 1467, 1469, 1471, 1473, 1475, 1477, 1479, 1481, 1483, 1485, 1487, 1489, 1491, 1493, 1495, 1497, 1499, 1501, 1503, 1505, 1507, 1509, 1511, 1513, 1515, 1517, 1519, 1521, 1523, 1525, 1527, 1529, 1531, 1533, 1535, 1537, 1539, 1541, 1543, 1545, 1547, 1549, 1551, 1553, 1555, 1557, 1559, 1561, 1563, 1565, 1567, 1569, 1571, 1573, 1575, 1577, 1579] (by decide +kernel) (by decide +kernel)
end
section
set_option maxRecDepth 20000 in
theorem m118 : Cond.initialized RX6 ∈ gd := gd_mem 118 (by decide +kernel) (by decide +kernel)
set_option maxRecDepth 20000 in
theorem m186 : Cond.fieldLink RX6 42 "SlabWalk$Paving" "streets" "I" ∈ gd := gd_mem 186 (by decide +kernel) (by decide +kernel)
set_option maxRecDepth 20000 in
theorem m189 : Cond.fieldLink RX6 46 "SlabWalk$Paving" "walkers" "I" ∈ gd := gd_mem 189 (by decide +kernel) (by decide +kernel)
set_option maxRecDepth 20000 in
theorem m192 : Cond.fieldLink RX6 49 "SlabWalk$Paving" "rules" "I" ∈ gd := gd_mem 192 (by decide +kernel) (by decide +kernel)
set_option maxRecDepth 20000 in
theorem m886 : Cond.methodLink RX6 77 yX6_hasStreet ∈ gd := gd_mem 886 (by decide +kernel) (by decide +kernel)
set_option maxRecDepth 20000 in
theorem m887 : Cond.instanceMethod yX6_hasStreet ∈ gd := gd_mem 887 (by decide +kernel) (by decide +kernel)
set_option maxRecDepth 20000 in
theorem m888 : Cond.selects RX6 yX6_hasStreet yX6_hasStreet ∈ gd := gd_mem 888 (by decide +kernel) (by decide +kernel)
set_option maxRecDepth 20000 in
theorem m889 : Cond.code yX6_hasStreet cX6_hasStreet 2 (some .boolean) ∈ gd := gd_mem 889 (by decide +kernel) (by decide +kernel)
set_option maxRecDepth 20000 in
theorem m958 : Cond.instanceMethod yX6_hasWalker ∈ gd := gd_mem 958 (by decide +kernel) (by decide +kernel)
set_option maxRecDepth 20000 in
theorem m959 : Cond.selects RX6 yX6_hasWalker yX6_hasWalker ∈ gd := gd_mem 959 (by decide +kernel) (by decide +kernel)
set_option maxRecDepth 20000 in
theorem m960 : Cond.code yX6_hasWalker cX6_hasWalker 2 (some .boolean) ∈ gd := gd_mem 960 (by decide +kernel) (by decide +kernel)
set_option maxRecDepth 20000 in
theorem m969 : Cond.methodLink RX6 81 yX6_hasWalker ∈ gd := gd_mem 969 (by decide +kernel) (by decide +kernel)
end
section
theorem dX6_hasInch_0 : decode cX6_hasInch 0 = .ok (.aload_n 0, 1) := by decide +kernel
theorem dX6_hasInch_1 : decode cX6_hasInch 1 = .ok (.iload_n 1, 1) := by decide +kernel
theorem dX6_hasInch_2 : decode cX6_hasInch 2 = .ok (.invokevirtual 77, 3) := by decide +kernel
theorem dX6_hasInch_5 : decode cX6_hasInch 5 = .ok (.ifCond .eq 21, 3) := by decide +kernel
theorem dX6_hasInch_26 : decode cX6_hasInch 26 = .ok (.iconst 0, 1) := by decide +kernel
theorem dX6_hasInch_27 : decode cX6_hasInch 27 = .ok (.ireturn, 1) := by decide +kernel
theorem dX6_hasRule_0 : decode cX6_hasRule 0 = .ok (.iload_n 1, 1) := by decide +kernel
theorem dX6_hasRule_1 : decode cX6_hasRule 1 = .ok (.ifCond .lt 21, 3) := by decide +kernel
theorem dX6_hasRule_4 : decode cX6_hasRule 4 = .ok (.iload_n 1, 1) := by decide +kernel
theorem dX6_hasRule_5 : decode cX6_hasRule 5 = .ok (.aload_n 0, 1) := by decide +kernel
theorem dX6_hasRule_6 : decode cX6_hasRule 6 = .ok (.getfield 49, 3) := by decide +kernel
theorem dX6_hasRule_9 : decode cX6_hasRule 9 = .ok (.if_icmp .ge 13, 3) := by decide +kernel
theorem dX6_hasRule_22 : decode cX6_hasRule 22 = .ok (.iconst 0, 1) := by decide +kernel
theorem dX6_hasRule_23 : decode cX6_hasRule 23 = .ok (.ireturn, 1) := by decide +kernel
theorem dX6_hasStreet_0 : decode cX6_hasStreet 0 = .ok (.iload_n 1, 1) := by decide +kernel
theorem dX6_hasStreet_1 : decode cX6_hasStreet 1 = .ok (.ifCond .lt 20, 3) := by decide +kernel
theorem dX6_hasStreet_4 : decode cX6_hasStreet 4 = .ok (.iload_n 1, 1) := by decide +kernel
theorem dX6_hasStreet_5 : decode cX6_hasStreet 5 = .ok (.aload_n 0, 1) := by decide +kernel
theorem dX6_hasStreet_6 : decode cX6_hasStreet 6 = .ok (.getfield 42, 3) := by decide +kernel
theorem dX6_hasStreet_9 : decode cX6_hasStreet 9 = .ok (.if_icmp .ge 12, 3) := by decide +kernel
theorem dX6_hasStreet_21 : decode cX6_hasStreet 21 = .ok (.iconst 0, 1) := by decide +kernel
theorem dX6_hasStreet_22 : decode cX6_hasStreet 22 = .ok (.ireturn, 1) := by decide +kernel
theorem dX6_hasWalker_0 : decode cX6_hasWalker 0 = .ok (.iload_n 1, 1) := by decide +kernel
theorem dX6_hasWalker_1 : decode cX6_hasWalker 1 = .ok (.ifCond .lt 20, 3) := by decide +kernel
theorem dX6_hasWalker_4 : decode cX6_hasWalker 4 = .ok (.iload_n 1, 1) := by decide +kernel
theorem dX6_hasWalker_5 : decode cX6_hasWalker 5 = .ok (.aload_n 0, 1) := by decide +kernel
theorem dX6_hasWalker_6 : decode cX6_hasWalker 6 = .ok (.getfield 46, 3) := by decide +kernel
theorem dX6_hasWalker_9 : decode cX6_hasWalker 9 = .ok (.if_icmp .ge 12, 3) := by decide +kernel
theorem dX6_hasWalker_21 : decode cX6_hasWalker 21 = .ok (.iconst 0, 1) := by decide +kernel
theorem dX6_hasWalker_22 : decode cX6_hasWalker 22 = .ok (.ireturn, 1) := by decide +kernel
theorem dX6_stands_0 : decode cX6_stands 0 = .ok (.aload_n 0, 1) := by decide +kernel
theorem dX6_stands_1 : decode cX6_stands 1 = .ok (.iload_n 1, 1) := by decide +kernel
theorem dX6_stands_2 : decode cX6_stands 2 = .ok (.invokevirtual 81, 3) := by decide +kernel
theorem dX6_stands_5 : decode cX6_stands 5 = .ok (.ifCond .eq 36, 3) := by decide +kernel
theorem dX6_stands_41 : decode cX6_stands 41 = .ok (.iconst 0, 1) := by decide +kernel
theorem dX6_stands_42 : decode cX6_stands 42 = .ok (.ireturn, 1) := by decide +kernel
end
section
set_option maxHeartbeats 4000000 in
set_option maxRecDepth 100000 in
theorem c_hasStreet (l : Launch) (D : va_G) (k : ClassId × ClassId × ClassId × ClassId) (sz : Nat) (h0 : Nat) (P : List Value) (p0 : Int32) (g_P_streets : P[9]? = some (.int 0)) : Met l yX6_hasStreet (WS yX6_hasStreet cX6_hasStreet 2 (some .boolean)) ({ frames := 0, cells := 0, slots := 0, locals := 0 }) (va_Pc [.ref h0, .int p0] (cP D k [(h0, .inr (6, P))] sz)) (va_Qi (fun (r : Int32) (_ : Unit) => r = 0) (fun (_ : Unit) t => cB D (va_A [(h0, .inr (6, P))] sz) [(h0, .inr (6, P))] t) (va_A [(h0, .inr (6, P))] sz)) 0 0 (va_A [(h0, .inr (6, P))] sz) := by
  refine Met.ofW (cc := cX6_hasStreet) (maxL := 2) (ret := (some .boolean)) (by decide) rfl ?_
  intro p e s m args below meth c s₁ B hml hv
  obtain ⟨rfl, hsz, hP, hKX, hD0⟩ := hv
  have hK := hKX.1
  have hx := B.exec
  have hb := B.bytes
  have hr := B.returns
  have hts := atoms_spec (ws := WS yX6_hasStreet cX6_hasStreet 2 (some .boolean)) B.pre
  have hgd : ∀ w ∈ gd, w ∈ WS yX6_hasStreet cX6_hasStreet 2 (some .boolean) := fun w h => List.mem_cons_of_mem _ h
  have hg : ∀ w ∈ gd, w.before _ s = true := fun w h => hts w (hgd w h)
  have hown : s.vm.findClass RX6 = some m.cls := findClass_of_methodNamed B.named
  have hlocks := B.notSynchronized
  subst hsz
  have hD := hD0.self (sz := s.heap.size)
  generalize hAe : va_A [(h0, .inr (6, P))] s.heap.size = A at hD ⊢
  have hA : ∀ q : Nat, s.heap.size ≤ q → A q := fun q h => by rw [← hAe]; exact Or.inr h
  have hS : va_S A s.heap s.heap [] := va_S.rf
  have hP : va_P D classes [(h0, .inr (6, P))] s.heap := hP
  have hl := lv_entry ([.ref h0, .int p0]) (n := 2) (Nat.le_of_ble_eq_true rfl)
  rw [lg_entry_eq]
  generalize (lg_sl ([.ref h0, .int p0]) ++ List.replicate (2 - (lg_sl ([.ref h0, .int p0])).length) Slot.unset).toArray = ls at hl ⊢
  have hl : lv_has ls 2 [(0, .ref h0), (1, .int p0)] := hl
  refine lv_iload_n hx hb dX6_hasStreet_0 rfl (lv_at hl 1 rfl) ?_
  refine lv_if_lt (tgt := 21) hx hb dX6_hasStreet_1 (by decide) (fun c_1 => ?_) (fun c_1 => ?_)
  · have c_1 : p0 < 0 := c_1
    refine lv_iconst (v := 0) hx hb dX6_hasStreet_21 (by decide) ?_
    have hP9 := hP.sub (ws' := [(h0, .inr (6, P))]) [0] rfl
    have hD9 := hD.sub (ws' := [(h0, .inr (6, P))]) [0] (by decide) rfl
    exact W.zret (v := 0) hx hb hr (by decide) (fun t ht hW => ⟨⟨0, (), rfl, rfl, cB_of ht hP9 hD9⟩, hS.F ht⟩) hS.2.2 dX6_hasStreet_22
  · have c_1 : ¬ (p0 < 0) := c_1
    refine lv_iload_n hx hb dX6_hasStreet_4 rfl (lv_at hl 1 rfl) ?_
    refine lv_aload_n hx hb dX6_hasStreet_5 rfl (lv_at hl 0 rfl) ?_
    refine va_get (D := D) (ci := 6) (v := .int 0) (C := RX6) (T := TX6) (N := 17) hx hb hg iX6 hown hK hP 0 rfl rfl 9 (by decide) (hg (Cond.fieldLink RX6 42 "SlabWalk$Paving" "streets" "I") m186) (fun _ h9 => h9) g_P_streets dX6_hasStreet_6 ?_
    refine lv_icmp_ge (tgt := 21) hx hb dX6_hasStreet_9 (by decide) (fun c_2 => ?_) (fun c_2 => ?_)
    · have c_2 : 0 ≤ p0 := c_2
      refine lv_iconst (v := 0) hx hb dX6_hasStreet_21 (by decide) ?_
      have hP9 := hP.sub (ws' := [(h0, .inr (6, P))]) [0] rfl
      have hD9 := hD.sub (ws' := [(h0, .inr (6, P))]) [0] (by decide) rfl
      exact W.zret (v := 0) hx hb hr (by decide) (fun t ht hW => ⟨⟨0, (), rfl, rfl, cB_of ht hP9 hD9⟩, hS.F ht⟩) hS.2.2 dX6_hasStreet_22
    · exact absurd (Int32.not_lt.mp c_1) c_2

set_option maxHeartbeats 4000000 in
set_option maxRecDepth 100000 in
theorem c_hasWalker (l : Launch) (D : va_G) (k : ClassId × ClassId × ClassId × ClassId) (sz : Nat) (h0 : Nat) (P : List Value) (p0 : Int32) (g_P_walkers : P[10]? = some (.int 0)) : Met l yX6_hasWalker (WS yX6_hasWalker cX6_hasWalker 2 (some .boolean)) ({ frames := 0, cells := 0, slots := 0, locals := 0 }) (va_Pc [.ref h0, .int p0] (cP D k [(h0, .inr (6, P))] sz)) (va_Qi (fun (r : Int32) (_ : Unit) => r = 0) (fun (_ : Unit) t => cB D (va_A [(h0, .inr (6, P))] sz) [(h0, .inr (6, P))] t) (va_A [(h0, .inr (6, P))] sz)) 0 0 (va_A [(h0, .inr (6, P))] sz) := by
  refine Met.ofW (cc := cX6_hasWalker) (maxL := 2) (ret := (some .boolean)) (by decide) rfl ?_
  intro p e s m args below meth c s₁ B hml hv
  obtain ⟨rfl, hsz, hP, hKX, hD0⟩ := hv
  have hK := hKX.1
  have hx := B.exec
  have hb := B.bytes
  have hr := B.returns
  have hts := atoms_spec (ws := WS yX6_hasWalker cX6_hasWalker 2 (some .boolean)) B.pre
  have hgd : ∀ w ∈ gd, w ∈ WS yX6_hasWalker cX6_hasWalker 2 (some .boolean) := fun w h => List.mem_cons_of_mem _ h
  have hg : ∀ w ∈ gd, w.before _ s = true := fun w h => hts w (hgd w h)
  have hown : s.vm.findClass RX6 = some m.cls := findClass_of_methodNamed B.named
  have hlocks := B.notSynchronized
  subst hsz
  have hD := hD0.self (sz := s.heap.size)
  generalize hAe : va_A [(h0, .inr (6, P))] s.heap.size = A at hD ⊢
  have hA : ∀ q : Nat, s.heap.size ≤ q → A q := fun q h => by rw [← hAe]; exact Or.inr h
  have hS : va_S A s.heap s.heap [] := va_S.rf
  have hP : va_P D classes [(h0, .inr (6, P))] s.heap := hP
  have hl := lv_entry ([.ref h0, .int p0]) (n := 2) (Nat.le_of_ble_eq_true rfl)
  rw [lg_entry_eq]
  generalize (lg_sl ([.ref h0, .int p0]) ++ List.replicate (2 - (lg_sl ([.ref h0, .int p0])).length) Slot.unset).toArray = ls at hl ⊢
  have hl : lv_has ls 2 [(0, .ref h0), (1, .int p0)] := hl
  refine lv_iload_n hx hb dX6_hasWalker_0 rfl (lv_at hl 1 rfl) ?_
  refine lv_if_lt (tgt := 21) hx hb dX6_hasWalker_1 (by decide) (fun c_1 => ?_) (fun c_1 => ?_)
  · have c_1 : p0 < 0 := c_1
    refine lv_iconst (v := 0) hx hb dX6_hasWalker_21 (by decide) ?_
    have hP9 := hP.sub (ws' := [(h0, .inr (6, P))]) [0] rfl
    have hD9 := hD.sub (ws' := [(h0, .inr (6, P))]) [0] (by decide) rfl
    exact W.zret (v := 0) hx hb hr (by decide) (fun t ht hW => ⟨⟨0, (), rfl, rfl, cB_of ht hP9 hD9⟩, hS.F ht⟩) hS.2.2 dX6_hasWalker_22
  · have c_1 : ¬ (p0 < 0) := c_1
    refine lv_iload_n hx hb dX6_hasWalker_4 rfl (lv_at hl 1 rfl) ?_
    refine lv_aload_n hx hb dX6_hasWalker_5 rfl (lv_at hl 0 rfl) ?_
    refine va_get (D := D) (ci := 6) (v := .int 0) (C := RX6) (T := TX6) (N := 17) hx hb hg iX6 hown hK hP 0 rfl rfl 10 (by decide) (hg (Cond.fieldLink RX6 46 "SlabWalk$Paving" "walkers" "I") m189) (fun _ h9 => h9) g_P_walkers dX6_hasWalker_6 ?_
    refine lv_icmp_ge (tgt := 21) hx hb dX6_hasWalker_9 (by decide) (fun c_2 => ?_) (fun c_2 => ?_)
    · have c_2 : 0 ≤ p0 := c_2
      refine lv_iconst (v := 0) hx hb dX6_hasWalker_21 (by decide) ?_
      have hP9 := hP.sub (ws' := [(h0, .inr (6, P))]) [0] rfl
      have hD9 := hD.sub (ws' := [(h0, .inr (6, P))]) [0] (by decide) rfl
      exact W.zret (v := 0) hx hb hr (by decide) (fun t ht hW => ⟨⟨0, (), rfl, rfl, cB_of ht hP9 hD9⟩, hS.F ht⟩) hS.2.2 dX6_hasWalker_22
    · exact absurd (Int32.not_lt.mp c_1) c_2

set_option maxHeartbeats 4000000 in
set_option maxRecDepth 100000 in
theorem c_hasRule (l : Launch) (D : va_G) (k : ClassId × ClassId × ClassId × ClassId) (sz : Nat) (h0 : Nat) (P : List Value) (p0 : Int32) (g_P_rules : P[11]? = some (.int 0)) : Met l yX6_hasRule (WS yX6_hasRule cX6_hasRule 2 (some .boolean)) ({ frames := 0, cells := 0, slots := 0, locals := 0 }) (va_Pc [.ref h0, .int p0] (cP D k [(h0, .inr (6, P))] sz)) (va_Qi (fun (r : Int32) (_ : Unit) => r = 0) (fun (_ : Unit) t => cB D (va_A [(h0, .inr (6, P))] sz) [(h0, .inr (6, P))] t) (va_A [(h0, .inr (6, P))] sz)) 0 0 (va_A [(h0, .inr (6, P))] sz) := by
  refine Met.ofW (cc := cX6_hasRule) (maxL := 2) (ret := (some .boolean)) (by decide) rfl ?_
  intro p e s m args below meth c s₁ B hml hv
  obtain ⟨rfl, hsz, hP, hKX, hD0⟩ := hv
  have hK := hKX.1
  have hx := B.exec
  have hb := B.bytes
  have hr := B.returns
  have hts := atoms_spec (ws := WS yX6_hasRule cX6_hasRule 2 (some .boolean)) B.pre
  have hgd : ∀ w ∈ gd, w ∈ WS yX6_hasRule cX6_hasRule 2 (some .boolean) := fun w h => List.mem_cons_of_mem _ h
  have hg : ∀ w ∈ gd, w.before _ s = true := fun w h => hts w (hgd w h)
  have hown : s.vm.findClass RX6 = some m.cls := findClass_of_methodNamed B.named
  have hlocks := B.notSynchronized
  subst hsz
  have hD := hD0.self (sz := s.heap.size)
  generalize hAe : va_A [(h0, .inr (6, P))] s.heap.size = A at hD ⊢
  have hA : ∀ q : Nat, s.heap.size ≤ q → A q := fun q h => by rw [← hAe]; exact Or.inr h
  have hS : va_S A s.heap s.heap [] := va_S.rf
  have hP : va_P D classes [(h0, .inr (6, P))] s.heap := hP
  have hl := lv_entry ([.ref h0, .int p0]) (n := 2) (Nat.le_of_ble_eq_true rfl)
  rw [lg_entry_eq]
  generalize (lg_sl ([.ref h0, .int p0]) ++ List.replicate (2 - (lg_sl ([.ref h0, .int p0])).length) Slot.unset).toArray = ls at hl ⊢
  have hl : lv_has ls 2 [(0, .ref h0), (1, .int p0)] := hl
  refine lv_iload_n hx hb dX6_hasRule_0 rfl (lv_at hl 1 rfl) ?_
  refine lv_if_lt (tgt := 22) hx hb dX6_hasRule_1 (by decide) (fun c_1 => ?_) (fun c_1 => ?_)
  · have c_1 : p0 < 0 := c_1
    refine lv_iconst (v := 0) hx hb dX6_hasRule_22 (by decide) ?_
    have hP9 := hP.sub (ws' := [(h0, .inr (6, P))]) [0] rfl
    have hD9 := hD.sub (ws' := [(h0, .inr (6, P))]) [0] (by decide) rfl
    exact W.zret (v := 0) hx hb hr (by decide) (fun t ht hW => ⟨⟨0, (), rfl, rfl, cB_of ht hP9 hD9⟩, hS.F ht⟩) hS.2.2 dX6_hasRule_23
  · have c_1 : ¬ (p0 < 0) := c_1
    refine lv_iload_n hx hb dX6_hasRule_4 rfl (lv_at hl 1 rfl) ?_
    refine lv_aload_n hx hb dX6_hasRule_5 rfl (lv_at hl 0 rfl) ?_
    refine va_get (D := D) (ci := 6) (v := .int 0) (C := RX6) (T := TX6) (N := 17) hx hb hg iX6 hown hK hP 0 rfl rfl 11 (by decide) (hg (Cond.fieldLink RX6 49 "SlabWalk$Paving" "rules" "I") m192) (fun _ h9 => h9) g_P_rules dX6_hasRule_6 ?_
    refine lv_icmp_ge (tgt := 22) hx hb dX6_hasRule_9 (by decide) (fun c_2 => ?_) (fun c_2 => ?_)
    · have c_2 : 0 ≤ p0 := c_2
      refine lv_iconst (v := 0) hx hb dX6_hasRule_22 (by decide) ?_
      have hP9 := hP.sub (ws' := [(h0, .inr (6, P))]) [0] rfl
      have hD9 := hD.sub (ws' := [(h0, .inr (6, P))]) [0] (by decide) rfl
      exact W.zret (v := 0) hx hb hr (by decide) (fun t ht hW => ⟨⟨0, (), rfl, rfl, cB_of ht hP9 hD9⟩, hS.F ht⟩) hS.2.2 dX6_hasRule_23
    · exact absurd (Int32.not_lt.mp c_1) c_2

set_option maxHeartbeats 4000000 in
set_option maxRecDepth 100000 in
theorem c_hasInch (l : Launch) (D : va_G) (k : ClassId × ClassId × ClassId × ClassId) (sz : Nat) (h0 : Nat) (P : List Value) (p0 p1 : Int32) (g_P_streets : P[9]? = some (.int 0)) : Met l yX6_hasInch (WS yX6_hasInch cX6_hasInch 3 (some .boolean)) ({ frames := 1, cells := 0, slots := 0, locals := 21 }) (va_Pc [.ref h0, .int p0, .int p1] (cP D k [(h0, .inr (6, P))] sz)) (va_Qi (fun (r : Int32) (_ : Unit) => r = 0) (fun (_ : Unit) t => cB D (va_A [(h0, .inr (6, P))] sz) [(h0, .inr (6, P))] t) (va_A [(h0, .inr (6, P))] sz)) 0 0 (va_A [(h0, .inr (6, P))] sz) := by
  refine Met.ofW (cc := cX6_hasInch) (maxL := 3) (ret := (some .boolean)) (by decide) rfl ?_
  intro p e s m args below meth c s₁ B hml hv
  obtain ⟨rfl, hsz, hP, hKX, hD0⟩ := hv
  have hK := hKX.1
  have hx := B.exec
  have hb := B.bytes
  have hr := B.returns
  have hts := atoms_spec (ws := WS yX6_hasInch cX6_hasInch 3 (some .boolean)) B.pre
  have hgd : ∀ w ∈ gd, w ∈ WS yX6_hasInch cX6_hasInch 3 (some .boolean) := fun w h => List.mem_cons_of_mem _ h
  have hg : ∀ w ∈ gd, w.before _ s = true := fun w h => hts w (hgd w h)
  have hown : s.vm.findClass RX6 = some m.cls := findClass_of_methodNamed B.named
  have hlocks := B.notSynchronized
  subst hsz
  have hD := hD0.self (sz := s.heap.size)
  generalize hAe : va_A [(h0, .inr (6, P))] s.heap.size = A at hD ⊢
  have hA : ∀ q : Nat, s.heap.size ≤ q → A q := fun q h => by rw [← hAe]; exact Or.inr h
  have hS : va_S A s.heap s.heap [] := va_S.rf
  have hP : va_P D classes [(h0, .inr (6, P))] s.heap := hP
  have hl := lv_entry ([.ref h0, .int p0, .int p1]) (n := 3) (Nat.le_of_ble_eq_true rfl)
  rw [lg_entry_eq]
  generalize (lg_sl ([.ref h0, .int p0, .int p1]) ++ List.replicate (3 - (lg_sl ([.ref h0, .int p0, .int p1])).length) Slot.unset).toArray = ls at hl ⊢
  have hl : lv_has ls 3 [(0, .ref h0), (1, .int p0), (2, .int p1)] := hl
  refine lv_aload_n hx hb dX6_hasInch_0 rfl (lv_at hl 0 rfl) ?_
  refine lv_iload_n hx hb dX6_hasInch_1 rfl (lv_at hl 1 rfl) ?_
  have hPc := hP.sub (ws' := [(h0, .inr (6, P))]) [0] rfl
  have hDc := hD.sub (ws' := [(h0, .inr (6, P))]) [0] (by decide) rfl
  have hFc := va_free (wc := [(h0, .inr (6, P))]) hD hS hA [0] rfl
  refine va_calli (va_runV (As := [.int p0]) (rest := []) ⟨hx, hb, hml, hown, hts⟩ (c_hasStreet l D k s.heap.size h0 P p0 g_P_streets) (cwV 1 hts (gd_V hgd m886 m887 m888 m118 m889) rfl rfl rfl (by decide +kernel) ⟨Nat.le_of_ble_eq_true rfl, Nat.le_of_ble_eq_true rfl⟩) (cP_V hPc hKX hDc (ci := 6) (q0 := 0) rfl rfl) rfl rfl hl.1 rfl (lv_room (Nat.le_of_ble_eq_true rfl)) dX6_hasInch_2 ⟨Nat.le_of_ble_eq_true rfl, Nat.le_of_ble_eq_true rfl⟩) hS (fun q _ h => hFc q h) hFc (fun r1 u t H1 locs ht hvm hw hB hz1 hk1 hS => ?_)
  obtain ⟨hP1, hD1⟩ := hB
  rw [ht] at hP1
  obtain ⟨hP, hD⟩ := va_join (wr := []) (w1 := [(h0, .inr (6, P))]) hP hD [0] [] rfl rfl (by decide) (by decide) hk1 hFc hP1 hD1
  generalize H1 = H at hP hS ⊢
  have hP : va_P D classes [(h0, .inr (6, P))] H := hP
  have hD : va_D A [(h0, .inr (6, P))] := hD
  refine W.widen (k := 0) (n := 0) (Nat.le_of_ble_eq_true rfl) (Nat.le_of_ble_eq_true rfl) ?_
  subst hw
  refine lv_if_eq (tgt := 26) hx hb dX6_hasInch_5 (by decide) (fun c_2 => ?_) (fun c_2 => ?_)
  · have c_2 : 0 = 0 := c_2
    refine lv_iconst (v := 0) hx hb dX6_hasInch_26 (by decide) ?_
    have hP9 := hP.sub (ws' := [(h0, .inr (6, P))]) [0] rfl
    have hD9 := hD.sub (ws' := [(h0, .inr (6, P))]) [0] (by decide) rfl
    exact W.zret (v := 0) hx hb hr (by decide) (fun t ht hW => ⟨⟨0, (), rfl, rfl, cB_of ht hP9 hD9⟩, hS.F ht⟩) hS.2.2 dX6_hasInch_27
  · exact absurd (by decide) c_2

set_option maxHeartbeats 4000000 in
set_option maxRecDepth 100000 in
theorem c_stands (l : Launch) (D : va_G) (k : ClassId × ClassId × ClassId × ClassId) (sz : Nat) (h0 : Nat) (P : List Value) (p0 p1 p2 : Int32) (g_P_walkers : P[10]? = some (.int 0)) : Met l yX6_stands (WS yX6_stands cX6_stands 4 (some .boolean)) ({ frames := 1, cells := 0, slots := 0, locals := 21 }) (va_Pc [.ref h0, .int p0, .int p1, .int p2] (cP D k [(h0, .inr (6, P))] sz)) (va_Qi (fun (r : Int32) (_ : Unit) => r = 0) (fun (_ : Unit) t => cB D (va_A [(h0, .inr (6, P))] sz) [(h0, .inr (6, P))] t) (va_A [(h0, .inr (6, P))] sz)) 0 0 (va_A [(h0, .inr (6, P))] sz) := by
  refine Met.ofW (cc := cX6_stands) (maxL := 4) (ret := (some .boolean)) (by decide) rfl ?_
  intro p e s m args below meth c s₁ B hml hv
  obtain ⟨rfl, hsz, hP, hKX, hD0⟩ := hv
  have hK := hKX.1
  have hx := B.exec
  have hb := B.bytes
  have hr := B.returns
  have hts := atoms_spec (ws := WS yX6_stands cX6_stands 4 (some .boolean)) B.pre
  have hgd : ∀ w ∈ gd, w ∈ WS yX6_stands cX6_stands 4 (some .boolean) := fun w h => List.mem_cons_of_mem _ h
  have hg : ∀ w ∈ gd, w.before _ s = true := fun w h => hts w (hgd w h)
  have hown : s.vm.findClass RX6 = some m.cls := findClass_of_methodNamed B.named
  have hlocks := B.notSynchronized
  subst hsz
  have hD := hD0.self (sz := s.heap.size)
  generalize hAe : va_A [(h0, .inr (6, P))] s.heap.size = A at hD ⊢
  have hA : ∀ q : Nat, s.heap.size ≤ q → A q := fun q h => by rw [← hAe]; exact Or.inr h
  have hS : va_S A s.heap s.heap [] := va_S.rf
  have hP : va_P D classes [(h0, .inr (6, P))] s.heap := hP
  have hl := lv_entry ([.ref h0, .int p0, .int p1, .int p2]) (n := 4) (Nat.le_of_ble_eq_true rfl)
  rw [lg_entry_eq]
  generalize (lg_sl ([.ref h0, .int p0, .int p1, .int p2]) ++ List.replicate (4 - (lg_sl ([.ref h0, .int p0, .int p1, .int p2])).length) Slot.unset).toArray = ls at hl ⊢
  have hl : lv_has ls 4 [(0, .ref h0), (1, .int p0), (2, .int p1), (3, .int p2)] := hl
  refine lv_aload_n hx hb dX6_stands_0 rfl (lv_at hl 0 rfl) ?_
  refine lv_iload_n hx hb dX6_stands_1 rfl (lv_at hl 1 rfl) ?_
  have hPc := hP.sub (ws' := [(h0, .inr (6, P))]) [0] rfl
  have hDc := hD.sub (ws' := [(h0, .inr (6, P))]) [0] (by decide) rfl
  have hFc := va_free (wc := [(h0, .inr (6, P))]) hD hS hA [0] rfl
  refine va_calli (va_runV (As := [.int p0]) (rest := []) ⟨hx, hb, hml, hown, hts⟩ (c_hasWalker l D k s.heap.size h0 P p0 g_P_walkers) (cwV 1 hts (gd_V hgd m969 m958 m959 m118 m960) rfl rfl rfl (by decide +kernel) ⟨Nat.le_of_ble_eq_true rfl, Nat.le_of_ble_eq_true rfl⟩) (cP_V hPc hKX hDc (ci := 6) (q0 := 0) rfl rfl) rfl rfl hl.1 rfl (lv_room (Nat.le_of_ble_eq_true rfl)) dX6_stands_2 ⟨Nat.le_of_ble_eq_true rfl, Nat.le_of_ble_eq_true rfl⟩) hS (fun q _ h => hFc q h) hFc (fun r1 u t H1 locs ht hvm hw hB hz1 hk1 hS => ?_)
  obtain ⟨hP1, hD1⟩ := hB
  rw [ht] at hP1
  obtain ⟨hP, hD⟩ := va_join (wr := []) (w1 := [(h0, .inr (6, P))]) hP hD [0] [] rfl rfl (by decide) (by decide) hk1 hFc hP1 hD1
  generalize H1 = H at hP hS ⊢
  have hP : va_P D classes [(h0, .inr (6, P))] H := hP
  have hD : va_D A [(h0, .inr (6, P))] := hD
  refine W.widen (k := 0) (n := 0) (Nat.le_of_ble_eq_true rfl) (Nat.le_of_ble_eq_true rfl) ?_
  subst hw
  refine lv_if_eq (tgt := 41) hx hb dX6_stands_5 (by decide) (fun c_2 => ?_) (fun c_2 => ?_)
  · have c_2 : 0 = 0 := c_2
    refine lv_iconst (v := 0) hx hb dX6_stands_41 (by decide) ?_
    have hP9 := hP.sub (ws' := [(h0, .inr (6, P))]) [0] rfl
    have hD9 := hD.sub (ws' := [(h0, .inr (6, P))]) [0] (by decide) rfl
    exact W.zret (v := 0) hx hb hr (by decide) (fun t ht hW => ⟨⟨0, (), rfl, rfl, cB_of ht hP9 hD9⟩, hS.F ht⟩) hS.2.2 dX6_stands_42
  · exact absurd (by decide) c_2
end
