section
-- ===== PART A: goes FIRST, ahead of the names: the tables' words, and 'selects' of the private methods out of them =====
/-- a private method of a class that the tables say can be made, by its rows of tables_1 -/
def lw_okq (q : MethodName × Nat) : Prop := (q.1.cls ≠ "java/lang/invoke/MethodHandle" ∧ q.1.cls ≠ "java/lang/invoke/VarHandle") ∧ Cond.instantiable q.1.cls q.2 ∈ tables_1 ∧ Cond.privateMethod q.1 ∈ tables_1 ∧ Cond.instanceMethod q.1 ∈ tables_1
theorem lw_p0 : lw_okq (⟨"SlabWalk", "startAnew", "()V"⟩, 13) := ⟨⟨by decide +kernel, by decide +kernel⟩, List.mem_of_getElem? (i := 23) (by decide +kernel), List.mem_of_getElem? (i := 432) (by decide +kernel), List.mem_of_getElem? (i := 433) (by decide +kernel)⟩
theorem lw_p1 : lw_okq (⟨"SlabWalk$Earnest", "forgetActs", "()V"⟩, 6) := ⟨⟨by decide +kernel, by decide +kernel⟩, List.mem_of_getElem? (i := 371) (by decide +kernel), List.mem_of_getElem? (i := 448) (by decide +kernel), List.mem_of_getElem? (i := 449) (by decide +kernel)⟩
theorem lw_p2 : lw_okq (⟨"SlabWalk", "putOnTape", "(I)V"⟩, 13) := ⟨⟨by decide +kernel, by decide +kernel⟩, List.mem_of_getElem? (i := 23) (by decide +kernel), List.mem_of_getElem? (i := 499) (by decide +kernel), List.mem_of_getElem? (i := 500) (by decide +kernel)⟩
theorem lw_p3 : lw_okq (⟨"SlabWalk$Tokens", "isLetter", "(I)Z"⟩, 9) := ⟨⟨by decide +kernel, by decide +kernel⟩, List.mem_of_getElem? (i := 137) (by decide +kernel), List.mem_of_getElem? (i := 527) (by decide +kernel), List.mem_of_getElem? (i := 528) (by decide +kernel)⟩
theorem lw_p4 : lw_okq (⟨"SlabWalk$Tokens", "cutWord", "()V"⟩, 9) := ⟨⟨by decide +kernel, by decide +kernel⟩, List.mem_of_getElem? (i := 137) (by decide +kernel), List.mem_of_getElem? (i := 531) (by decide +kernel), List.mem_of_getElem? (i := 532) (by decide +kernel)⟩
theorem lw_p5 : lw_okq (⟨"SlabWalk$Tokens", "kindOfWord", "()I"⟩, 9) := ⟨⟨by decide +kernel, by decide +kernel⟩, List.mem_of_getElem? (i := 137) (by decide +kernel), List.mem_of_getElem? (i := 535) (by decide +kernel), List.mem_of_getElem? (i := 536) (by decide +kernel)⟩
theorem lw_p6 : lw_okq (⟨"SlabWalk$Tokens", "isDigit", "(I)Z"⟩, 9) := ⟨⟨by decide +kernel, by decide +kernel⟩, List.mem_of_getElem? (i := 137) (by decide +kernel), List.mem_of_getElem? (i := 588) (by decide +kernel), List.mem_of_getElem? (i := 589) (by decide +kernel)⟩
theorem lw_p7 : lw_okq (⟨"SlabWalk$Tokens", "cutNumber", "()V"⟩, 9) := ⟨⟨by decide +kernel, by decide +kernel⟩, List.mem_of_getElem? (i := 137) (by decide +kernel), List.mem_of_getElem? (i := 592) (by decide +kernel), List.mem_of_getElem? (i := 593) (by decide +kernel)⟩
theorem lw_p8 : lw_okq (⟨"SlabWalk$Reader", "readStreet", "()Z"⟩, 10) := ⟨⟨by decide +kernel, by decide +kernel⟩, List.mem_of_getElem? (i := 131) (by decide +kernel), List.mem_of_getElem? (i := 654) (by decide +kernel), List.mem_of_getElem? (i := 655) (by decide +kernel)⟩
theorem lw_p9 : lw_okq (⟨"SlabWalk$Reader", "passFirst", "(Z)Z"⟩, 10) := ⟨⟨by decide +kernel, by decide +kernel⟩, List.mem_of_getElem? (i := 131) (by decide +kernel), List.mem_of_getElem? (i := 658) (by decide +kernel), List.mem_of_getElem? (i := 659) (by decide +kernel)⟩
theorem lw_p10 : lw_okq (⟨"SlabWalk$Reader", "passName", "([JI)Z"⟩, 10) := ⟨⟨by decide +kernel, by decide +kernel⟩, List.mem_of_getElem? (i := 131) (by decide +kernel), List.mem_of_getElem? (i := 667) (by decide +kernel), List.mem_of_getElem? (i := 668) (by decide +kernel)⟩
theorem lw_p11 : lw_okq (⟨"SlabWalk$Reader", "passNumber", "(II)Z"⟩, 10) := ⟨⟨by decide +kernel, by decide +kernel⟩, List.mem_of_getElem? (i := 131) (by decide +kernel), List.mem_of_getElem? (i := 676) (by decide +kernel), List.mem_of_getElem? (i := 677) (by decide +kernel)⟩
theorem lw_p12 : lw_okq (⟨"SlabWalk$Reader", "isNumber", "(II)Z"⟩, 10) := ⟨⟨by decide +kernel, by decide +kernel⟩, List.mem_of_getElem? (i := 131) (by decide +kernel), List.mem_of_getElem? (i := 680) (by decide +kernel), List.mem_of_getElem? (i := 681) (by decide +kernel)⟩
theorem lw_p13 : lw_okq (⟨"SlabWalk$Reader", "readSlab", "(II)Z"⟩, 10) := ⟨⟨by decide +kernel, by decide +kernel⟩, List.mem_of_getElem? (i := 131) (by decide +kernel), List.mem_of_getElem? (i := 684) (by decide +kernel), List.mem_of_getElem? (i := 685) (by decide +kernel)⟩
theorem lw_p14 : lw_okq (⟨"SlabWalk$Reader", "readWalker", "()Z"⟩, 10) := ⟨⟨by decide +kernel, by decide +kernel⟩, List.mem_of_getElem? (i := 131) (by decide +kernel), List.mem_of_getElem? (i := 694) (by decide +kernel), List.mem_of_getElem? (i := 695) (by decide +kernel)⟩
theorem lw_p15 : lw_okq (⟨"SlabWalk$Reader", "readRule", "()Z"⟩, 10) := ⟨⟨by decide +kernel, by decide +kernel⟩, List.mem_of_getElem? (i := 131) (by decide +kernel), List.mem_of_getElem? (i := 698) (by decide +kernel), List.mem_of_getElem? (i := 699) (by decide +kernel)⟩
def lw_privs_1 : List (MethodName × Nat) := [(⟨"SlabWalk", "startAnew", "()V"⟩, 13), (⟨"SlabWalk$Earnest", "forgetActs", "()V"⟩, 6), (⟨"SlabWalk", "putOnTape", "(I)V"⟩, 13), (⟨"SlabWalk$Tokens", "isLetter", "(I)Z"⟩, 9), (⟨"SlabWalk$Tokens", "cutWord", "()V"⟩, 9), (⟨"SlabWalk$Tokens", "kindOfWord", "()I"⟩, 9), (⟨"SlabWalk$Tokens", "isDigit", "(I)Z"⟩, 9), (⟨"SlabWalk$Tokens", "cutNumber", "()V"⟩, 9), (⟨"SlabWalk$Reader", "readStreet", "()Z"⟩, 10), (⟨"SlabWalk$Reader", "passFirst", "(Z)Z"⟩, 10), (⟨"SlabWalk$Reader", "passName", "([JI)Z"⟩, 10), (⟨"SlabWalk$Reader", "passNumber", "(II)Z"⟩, 10), (⟨"SlabWalk$Reader", "isNumber", "(II)Z"⟩, 10), (⟨"SlabWalk$Reader", "readSlab", "(II)Z"⟩, 10), (⟨"SlabWalk$Reader", "readWalker", "()Z"⟩, 10), (⟨"SlabWalk$Reader", "readRule", "()Z"⟩, 10)]
theorem lw_r1 : ∀ q ∈ lw_privs_1, lw_okq q := List.forall_mem_cons.mpr ⟨lw_p0, List.forall_mem_cons.mpr ⟨lw_p1, List.forall_mem_cons.mpr ⟨lw_p2, List.forall_mem_cons.mpr ⟨lw_p3, List.forall_mem_cons.mpr ⟨lw_p4, List.forall_mem_cons.mpr ⟨lw_p5, List.forall_mem_cons.mpr ⟨lw_p6, List.forall_mem_cons.mpr ⟨lw_p7, List.forall_mem_cons.mpr ⟨lw_p8, List.forall_mem_cons.mpr ⟨lw_p9, List.forall_mem_cons.mpr ⟨lw_p10, List.forall_mem_cons.mpr ⟨lw_p11, List.forall_mem_cons.mpr ⟨lw_p12, List.forall_mem_cons.mpr ⟨lw_p13, List.forall_mem_cons.mpr ⟨lw_p14, List.forall_mem_cons.mpr ⟨lw_p15, fun _ h => absurd h List.not_mem_nil⟩⟩⟩⟩⟩⟩⟩⟩⟩⟩⟩⟩⟩⟩⟩⟩
theorem lw_p16 : lw_okq (⟨"SlabWalk$Formulas", "passEither", "(I)Z"⟩, 3) := ⟨⟨by decide +kernel, by decide +kernel⟩, List.mem_of_getElem? (i := 180) (by decide +kernel), List.mem_of_getElem? (i := 706) (by decide +kernel), List.mem_of_getElem? (i := 707) (by decide +kernel)⟩
theorem lw_p17 : lw_okq (⟨"SlabWalk$Formulas", "passBoth", "(I)Z"⟩, 3) := ⟨⟨by decide +kernel, by decide +kernel⟩, List.mem_of_getElem? (i := 180) (by decide +kernel), List.mem_of_getElem? (i := 710) (by decide +kernel), List.mem_of_getElem? (i := 711) (by decide +kernel)⟩
theorem lw_p18 : lw_okq (⟨"SlabWalk$Formulas", "passOne", "(I)Z"⟩, 3) := ⟨⟨by decide +kernel, by decide +kernel⟩, List.mem_of_getElem? (i := 180) (by decide +kernel), List.mem_of_getElem? (i := 714) (by decide +kernel), List.mem_of_getElem? (i := 715) (by decide +kernel)⟩
theorem lw_p19 : lw_okq (⟨"SlabWalk$Formulas", "passRelation", "(I)Z"⟩, 3) := ⟨⟨by decide +kernel, by decide +kernel⟩, List.mem_of_getElem? (i := 180) (by decide +kernel), List.mem_of_getElem? (i := 718) (by decide +kernel), List.mem_of_getElem? (i := 719) (by decide +kernel)⟩
theorem lw_p20 : lw_okq (⟨"SlabWalk$Formulas", "passSum", "(I)Z"⟩, 3) := ⟨⟨by decide +kernel, by decide +kernel⟩, List.mem_of_getElem? (i := 180) (by decide +kernel), List.mem_of_getElem? (i := 722) (by decide +kernel), List.mem_of_getElem? (i := 723) (by decide +kernel)⟩
theorem lw_p21 : lw_okq (⟨"SlabWalk$Formulas", "passTerm", "(I)Z"⟩, 3) := ⟨⟨by decide +kernel, by decide +kernel⟩, List.mem_of_getElem? (i := 180) (by decide +kernel), List.mem_of_getElem? (i := 726) (by decide +kernel), List.mem_of_getElem? (i := 727) (by decide +kernel)⟩
theorem lw_p22 : lw_okq (⟨"SlabWalk$Formulas", "passUnit", "(I)Z"⟩, 3) := ⟨⟨by decide +kernel, by decide +kernel⟩, List.mem_of_getElem? (i := 180) (by decide +kernel), List.mem_of_getElem? (i := 730) (by decide +kernel), List.mem_of_getElem? (i := 731) (by decide +kernel)⟩
theorem lw_p23 : lw_okq (⟨"SlabWalk$Formulas", "passBracket", "(I)Z"⟩, 3) := ⟨⟨by decide +kernel, by decide +kernel⟩, List.mem_of_getElem? (i := 180) (by decide +kernel), List.mem_of_getElem? (i := 735) (by decide +kernel), List.mem_of_getElem? (i := 736) (by decide +kernel)⟩
theorem lw_p24 : lw_okq (⟨"SlabWalk$Reader", "readSlip", "()Z"⟩, 10) := ⟨⟨by decide +kernel, by decide +kernel⟩, List.mem_of_getElem? (i := 131) (by decide +kernel), List.mem_of_getElem? (i := 747) (by decide +kernel), List.mem_of_getElem? (i := 748) (by decide +kernel)⟩
theorem lw_p25 : lw_okq (⟨"SlabWalk$Reader", "readHand", "()Z"⟩, 10) := ⟨⟨by decide +kernel, by decide +kernel⟩, List.mem_of_getElem? (i := 131) (by decide +kernel), List.mem_of_getElem? (i := 751) (by decide +kernel), List.mem_of_getElem? (i := 752) (by decide +kernel)⟩
theorem lw_p26 : lw_okq (⟨"SlabWalk$Reader", "readDraw", "()Z"⟩, 10) := ⟨⟨by decide +kernel, by decide +kernel⟩, List.mem_of_getElem? (i := 131) (by decide +kernel), List.mem_of_getElem? (i := 755) (by decide +kernel), List.mem_of_getElem? (i := 756) (by decide +kernel)⟩
theorem lw_p27 : lw_okq (⟨"SlabWalk", "today", "()I"⟩, 13) := ⟨⟨by decide +kernel, by decide +kernel⟩, List.mem_of_getElem? (i := 23) (by decide +kernel), List.mem_of_getElem? (i := 796) (by decide +kernel), List.mem_of_getElem? (i := 797) (by decide +kernel)⟩
theorem lw_p28 : lw_okq (⟨"SlabWalk$Lines", "valueOf", "(III)I"⟩, 5) := ⟨⟨by decide +kernel, by decide +kernel⟩, List.mem_of_getElem? (i := 228) (by decide +kernel), List.mem_of_getElem? (i := 806) (by decide +kernel), List.mem_of_getElem? (i := 807) (by decide +kernel)⟩
theorem lw_p29 : lw_okq (⟨"SlabWalk$Lines", "push", "(I)V"⟩, 5) := ⟨⟨by decide +kernel, by decide +kernel⟩, List.mem_of_getElem? (i := 228) (by decide +kernel), List.mem_of_getElem? (i := 810) (by decide +kernel), List.mem_of_getElem? (i := 811) (by decide +kernel)⟩
theorem lw_p30 : lw_okq (⟨"SlabWalk$Lines", "pop", "()I"⟩, 5) := ⟨⟨by decide +kernel, by decide +kernel⟩, List.mem_of_getElem? (i := 228) (by decide +kernel), List.mem_of_getElem? (i := 814) (by decide +kernel), List.mem_of_getElem? (i := 815) (by decide +kernel)⟩
theorem lw_p31 : lw_okq (⟨"SlabWalk", "canAsk", "(III)Z"⟩, 13) := ⟨⟨by decide +kernel, by decide +kernel⟩, List.mem_of_getElem? (i := 23) (by decide +kernel), List.mem_of_getElem? (i := 838) (by decide +kernel), List.mem_of_getElem? (i := 839) (by decide +kernel)⟩
def lw_privs_2 : List (MethodName × Nat) := [(⟨"SlabWalk$Formulas", "passEither", "(I)Z"⟩, 3), (⟨"SlabWalk$Formulas", "passBoth", "(I)Z"⟩, 3), (⟨"SlabWalk$Formulas", "passOne", "(I)Z"⟩, 3), (⟨"SlabWalk$Formulas", "passRelation", "(I)Z"⟩, 3), (⟨"SlabWalk$Formulas", "passSum", "(I)Z"⟩, 3), (⟨"SlabWalk$Formulas", "passTerm", "(I)Z"⟩, 3), (⟨"SlabWalk$Formulas", "passUnit", "(I)Z"⟩, 3), (⟨"SlabWalk$Formulas", "passBracket", "(I)Z"⟩, 3), (⟨"SlabWalk$Reader", "readSlip", "()Z"⟩, 10), (⟨"SlabWalk$Reader", "readHand", "()Z"⟩, 10), (⟨"SlabWalk$Reader", "readDraw", "()Z"⟩, 10), (⟨"SlabWalk", "today", "()I"⟩, 13), (⟨"SlabWalk$Lines", "valueOf", "(III)I"⟩, 5), (⟨"SlabWalk$Lines", "push", "(I)V"⟩, 5), (⟨"SlabWalk$Lines", "pop", "()I"⟩, 5), (⟨"SlabWalk", "canAsk", "(III)Z"⟩, 13)]
theorem lw_r2 : ∀ q ∈ lw_privs_2, lw_okq q := List.forall_mem_cons.mpr ⟨lw_p16, List.forall_mem_cons.mpr ⟨lw_p17, List.forall_mem_cons.mpr ⟨lw_p18, List.forall_mem_cons.mpr ⟨lw_p19, List.forall_mem_cons.mpr ⟨lw_p20, List.forall_mem_cons.mpr ⟨lw_p21, List.forall_mem_cons.mpr ⟨lw_p22, List.forall_mem_cons.mpr ⟨lw_p23, List.forall_mem_cons.mpr ⟨lw_p24, List.forall_mem_cons.mpr ⟨lw_p25, List.forall_mem_cons.mpr ⟨lw_p26, List.forall_mem_cons.mpr ⟨lw_p27, List.forall_mem_cons.mpr ⟨lw_p28, List.forall_mem_cons.mpr ⟨lw_p29, List.forall_mem_cons.mpr ⟨lw_p30, List.forall_mem_cons.mpr ⟨lw_p31, fun _ h => absurd h List.not_mem_nil⟩⟩⟩⟩⟩⟩⟩⟩⟩⟩⟩⟩⟩⟩⟩⟩
theorem lw_p32 : lw_okq (⟨"SlabWalk", "prepare", "(III)V"⟩, 13) := ⟨⟨by decide +kernel, by decide +kernel⟩, List.mem_of_getElem? (i := 23) (by decide +kernel), List.mem_of_getElem? (i := 860) (by decide +kernel), List.mem_of_getElem? (i := 861) (by decide +kernel)⟩
theorem lw_p33 : lw_okq (⟨"SlabWalk$Trails", "findFeetFrom", "(LSlabWalk$Course;II)V"⟩, 5) := ⟨⟨by decide +kernel, by decide +kernel⟩, List.mem_of_getElem? (i := 298) (by decide +kernel), List.mem_of_getElem? (i := 878) (by decide +kernel), List.mem_of_getElem? (i := 879) (by decide +kernel)⟩
theorem lw_p34 : lw_okq (⟨"SlabWalk$Odds", "setNextFeet", "(LSlabWalk$Course;)V"⟩, 7) := ⟨⟨by decide +kernel, by decide +kernel⟩, List.mem_of_getElem? (i := 343) (by decide +kernel), List.mem_of_getElem? (i := 908) (by decide +kernel), List.mem_of_getElem? (i := 909) (by decide +kernel)⟩
theorem lw_p35 : lw_okq (⟨"SlabWalk$Trails", "firstHeel", "(LSlabWalk$Course;II)I"⟩, 5) := ⟨⟨by decide +kernel, by decide +kernel⟩, List.mem_of_getElem? (i := 298) (by decide +kernel), List.mem_of_getElem? (i := 930) (by decide +kernel), List.mem_of_getElem? (i := 931) (by decide +kernel)⟩
theorem lw_p36 : lw_okq (⟨"SlabWalk", "layDown", "(I)V"⟩, 13) := ⟨⟨by decide +kernel, by decide +kernel⟩, List.mem_of_getElem? (i := 23) (by decide +kernel), List.mem_of_getElem? (i := 946) (by decide +kernel), List.mem_of_getElem? (i := 947) (by decide +kernel)⟩
theorem lw_p37 : lw_okq (⟨"SlabWalk$Trails", "followHand", "(LSlabWalk$Course;III)Z"⟩, 5) := ⟨⟨by decide +kernel, by decide +kernel⟩, List.mem_of_getElem? (i := 298) (by decide +kernel), List.mem_of_getElem? (i := 981) (by decide +kernel), List.mem_of_getElem? (i := 982) (by decide +kernel)⟩
theorem lw_p38 : lw_okq (⟨"SlabWalk", "canBeBrave", "(IIIII)Z"⟩, 13) := ⟨⟨by decide +kernel, by decide +kernel⟩, List.mem_of_getElem? (i := 23) (by decide +kernel), List.mem_of_getElem? (i := 1002) (by decide +kernel), List.mem_of_getElem? (i := 1003) (by decide +kernel)⟩
theorem lw_p39 : lw_okq (⟨"SlabWalk$Odds", "bestStep", "(LSlabWalk$Course;I)I"⟩, 7) := ⟨⟨by decide +kernel, by decide +kernel⟩, List.mem_of_getElem? (i := 343) (by decide +kernel), List.mem_of_getElem? (i := 1011) (by decide +kernel), List.mem_of_getElem? (i := 1012) (by decide +kernel)⟩
theorem lw_p40 : lw_okq (⟨"SlabWalk$Odds", "aimFrom", "(LSlabWalk$Course;II)J"⟩, 7) := ⟨⟨by decide +kernel, by decide +kernel⟩, List.mem_of_getElem? (i := 343) (by decide +kernel), List.mem_of_getElem? (i := 1015) (by decide +kernel), List.mem_of_getElem? (i := 1016) (by decide +kernel)⟩
theorem lw_p41 : lw_okq (⟨"SlabWalk", "winningRule", "(II)I"⟩, 13) := ⟨⟨by decide +kernel, by decide +kernel⟩, List.mem_of_getElem? (i := 23) (by decide +kernel), List.mem_of_getElem? (i := 1031) (by decide +kernel), List.mem_of_getElem? (i := 1032) (by decide +kernel)⟩
theorem lw_p42 : lw_okq (⟨"SlabWalk", "leavesWay", "(II)Z"⟩, 13) := ⟨⟨by decide +kernel, by decide +kernel⟩, List.mem_of_getElem? (i := 23) (by decide +kernel), List.mem_of_getElem? (i := 1039) (by decide +kernel), List.mem_of_getElem? (i := 1040) (by decide +kernel)⟩
theorem lw_p43 : lw_okq (⟨"SlabWalk", "isLawfulNow", "()Z"⟩, 13) := ⟨⟨by decide +kernel, by decide +kernel⟩, List.mem_of_getElem? (i := 23) (by decide +kernel), List.mem_of_getElem? (i := 1059) (by decide +kernel), List.mem_of_getElem? (i := 1060) (by decide +kernel)⟩
theorem lw_p44 : lw_okq (⟨"SlabWalk", "canGo", "(I)Z"⟩, 13) := ⟨⟨by decide +kernel, by decide +kernel⟩, List.mem_of_getElem? (i := 23) (by decide +kernel), List.mem_of_getElem? (i := 1071) (by decide +kernel), List.mem_of_getElem? (i := 1072) (by decide +kernel)⟩
theorem lw_p45 : lw_okq (⟨"SlabWalk", "fitsAll", "(II)Z"⟩, 13) := ⟨⟨by decide +kernel, by decide +kernel⟩, List.mem_of_getElem? (i := 23) (by decide +kernel), List.mem_of_getElem? (i := 1152) (by decide +kernel), List.mem_of_getElem? (i := 1153) (by decide +kernel)⟩
theorem lw_p46 : lw_okq (⟨"SlabWalk", "isLawfulSight", "(III)Z"⟩, 13) := ⟨⟨by decide +kernel, by decide +kernel⟩, List.mem_of_getElem? (i := 23) (by decide +kernel), List.mem_of_getElem? (i := 1160) (by decide +kernel), List.mem_of_getElem? (i := 1161) (by decide +kernel)⟩
theorem lw_p47 : lw_okq (⟨"SlabWalk", "heelsNear", "(IIZ)I"⟩, 13) := ⟨⟨by decide +kernel, by decide +kernel⟩, List.mem_of_getElem? (i := 23) (by decide +kernel), List.mem_of_getElem? (i := 1168) (by decide +kernel), List.mem_of_getElem? (i := 1169) (by decide +kernel)⟩
def lw_privs_3 : List (MethodName × Nat) := [(⟨"SlabWalk", "prepare", "(III)V"⟩, 13), (⟨"SlabWalk$Trails", "findFeetFrom", "(LSlabWalk$Course;II)V"⟩, 5), (⟨"SlabWalk$Odds", "setNextFeet", "(LSlabWalk$Course;)V"⟩, 7), (⟨"SlabWalk$Trails", "firstHeel", "(LSlabWalk$Course;II)I"⟩, 5), (⟨"SlabWalk", "layDown", "(I)V"⟩, 13), (⟨"SlabWalk$Trails", "followHand", "(LSlabWalk$Course;III)Z"⟩, 5), (⟨"SlabWalk", "canBeBrave", "(IIIII)Z"⟩, 13), (⟨"SlabWalk$Odds", "bestStep", "(LSlabWalk$Course;I)I"⟩, 7), (⟨"SlabWalk$Odds", "aimFrom", "(LSlabWalk$Course;II)J"⟩, 7), (⟨"SlabWalk", "winningRule", "(II)I"⟩, 13), (⟨"SlabWalk", "leavesWay", "(II)Z"⟩, 13), (⟨"SlabWalk", "isLawfulNow", "()Z"⟩, 13), (⟨"SlabWalk", "canGo", "(I)Z"⟩, 13), (⟨"SlabWalk", "fitsAll", "(II)Z"⟩, 13), (⟨"SlabWalk", "isLawfulSight", "(III)Z"⟩, 13), (⟨"SlabWalk", "heelsNear", "(IIZ)I"⟩, 13)]
theorem lw_r3 : ∀ q ∈ lw_privs_3, lw_okq q := List.forall_mem_cons.mpr ⟨lw_p32, List.forall_mem_cons.mpr ⟨lw_p33, List.forall_mem_cons.mpr ⟨lw_p34, List.forall_mem_cons.mpr ⟨lw_p35, List.forall_mem_cons.mpr ⟨lw_p36, List.forall_mem_cons.mpr ⟨lw_p37, List.forall_mem_cons.mpr ⟨lw_p38, List.forall_mem_cons.mpr ⟨lw_p39, List.forall_mem_cons.mpr ⟨lw_p40, List.forall_mem_cons.mpr ⟨lw_p41, List.forall_mem_cons.mpr ⟨lw_p42, List.forall_mem_cons.mpr ⟨lw_p43, List.forall_mem_cons.mpr ⟨lw_p44, List.forall_mem_cons.mpr ⟨lw_p45, List.forall_mem_cons.mpr ⟨lw_p46, List.forall_mem_cons.mpr ⟨lw_p47, fun _ h => absurd h List.not_mem_nil⟩⟩⟩⟩⟩⟩⟩⟩⟩⟩⟩⟩⟩⟩⟩⟩
theorem lw_p48 : lw_okq (⟨"SlabWalkModel", "four", "(I)V"⟩, 89) := ⟨⟨by decide +kernel, by decide +kernel⟩, List.mem_of_getElem? (i := 1193) (by decide +kernel), List.mem_of_getElem? (i := 1471) (by decide +kernel), List.mem_of_getElem? (i := 1472) (by decide +kernel)⟩
theorem lw_p49 : lw_okq (⟨"SlabWalkModel", "readAll", "()V"⟩, 89) := ⟨⟨by decide +kernel, by decide +kernel⟩, List.mem_of_getElem? (i := 1193) (by decide +kernel), List.mem_of_getElem? (i := 1483) (by decide +kernel), List.mem_of_getElem? (i := 1484) (by decide +kernel)⟩
theorem lw_p50 : lw_okq (⟨"SlabWalkModel", "token", "()V"⟩, 89) := ⟨⟨by decide +kernel, by decide +kernel⟩, List.mem_of_getElem? (i := 1193) (by decide +kernel), List.mem_of_getElem? (i := 1487) (by decide +kernel), List.mem_of_getElem? (i := 1488) (by decide +kernel)⟩
theorem lw_p51 : lw_okq (⟨"SlabWalkModel", "here", "(I)I"⟩, 89) := ⟨⟨by decide +kernel, by decide +kernel⟩, List.mem_of_getElem? (i := 1193) (by decide +kernel), List.mem_of_getElem? (i := 1491) (by decide +kernel), List.mem_of_getElem? (i := 1492) (by decide +kernel)⟩
theorem lw_p52 : lw_okq (⟨"SlabWalkModel", "readLine", "()V"⟩, 89) := ⟨⟨by decide +kernel, by decide +kernel⟩, List.mem_of_getElem? (i := 1193) (by decide +kernel), List.mem_of_getElem? (i := 1504) (by decide +kernel), List.mem_of_getElem? (i := 1505) (by decide +kernel)⟩
theorem lw_p53 : lw_okq (⟨"SlabWalkModel", "isWord", "(J)Z"⟩, 89) := ⟨⟨by decide +kernel, by decide +kernel⟩, List.mem_of_getElem? (i := 1193) (by decide +kernel), List.mem_of_getElem? (i := 1509) (by decide +kernel), List.mem_of_getElem? (i := 1510) (by decide +kernel)⟩
theorem lw_p54 : lw_okq (⟨"SlabWalkModel", "readStreet", "()V"⟩, 89) := ⟨⟨by decide +kernel, by decide +kernel⟩, List.mem_of_getElem? (i := 1193) (by decide +kernel), List.mem_of_getElem? (i := 1513) (by decide +kernel), List.mem_of_getElem? (i := 1514) (by decide +kernel)⟩
theorem lw_p55 : lw_okq (⟨"SlabWalkModel", "newName", "(II)V"⟩, 89) := ⟨⟨by decide +kernel, by decide +kernel⟩, List.mem_of_getElem? (i := 1193) (by decide +kernel), List.mem_of_getElem? (i := 1517) (by decide +kernel), List.mem_of_getElem? (i := 1518) (by decide +kernel)⟩
theorem lw_p56 : lw_okq (⟨"SlabWalkModel", "isName", "()Z"⟩, 89) := ⟨⟨by decide +kernel, by decide +kernel⟩, List.mem_of_getElem? (i := 1193) (by decide +kernel), List.mem_of_getElem? (i := 1521) (by decide +kernel), List.mem_of_getElem? (i := 1522) (by decide +kernel)⟩
theorem lw_p57 : lw_okq (⟨"SlabWalkModel", "isOwn", "()Z"⟩, 89) := ⟨⟨by decide +kernel, by decide +kernel⟩, List.mem_of_getElem? (i := 1193) (by decide +kernel), List.mem_of_getElem? (i := 1525) (by decide +kernel), List.mem_of_getElem? (i := 1526) (by decide +kernel)⟩
theorem lw_p58 : lw_okq (⟨"SlabWalkModel", "mark", "()I"⟩, 89) := ⟨⟨by decide +kernel, by decide +kernel⟩, List.mem_of_getElem? (i := 1193) (by decide +kernel), List.mem_of_getElem? (i := 1540) (by decide +kernel), List.mem_of_getElem? (i := 1541) (by decide +kernel)⟩
theorem lw_p59 : lw_okq (⟨"SlabWalkModel", "wrong", "(I)V"⟩, 89) := ⟨⟨by decide +kernel, by decide +kernel⟩, List.mem_of_getElem? (i := 1193) (by decide +kernel), List.mem_of_getElem? (i := 1555) (by decide +kernel), List.mem_of_getElem? (i := 1556) (by decide +kernel)⟩
theorem lw_p60 : lw_okq (⟨"SlabWalkModel", "told", "(JII)I"⟩, 89) := ⟨⟨by decide +kernel, by decide +kernel⟩, List.mem_of_getElem? (i := 1193) (by decide +kernel), List.mem_of_getElem? (i := 1559) (by decide +kernel), List.mem_of_getElem? (i := 1560) (by decide +kernel)⟩
theorem lw_p61 : lw_okq (⟨"SlabWalkModel", "want", "(J)V"⟩, 89) := ⟨⟨by decide +kernel, by decide +kernel⟩, List.mem_of_getElem? (i := 1193) (by decide +kernel), List.mem_of_getElem? (i := 1563) (by decide +kernel), List.mem_of_getElem? (i := 1564) (by decide +kernel)⟩
theorem lw_p62 : lw_okq (⟨"SlabWalkModel", "toldNumber", "(II)I"⟩, 89) := ⟨⟨by decide +kernel, by decide +kernel⟩, List.mem_of_getElem? (i := 1193) (by decide +kernel), List.mem_of_getElem? (i := 1567) (by decide +kernel), List.mem_of_getElem? (i := 1568) (by decide +kernel)⟩
theorem lw_p63 : lw_okq (⟨"SlabWalkModel", "readSlab", "(II)V"⟩, 89) := ⟨⟨by decide +kernel, by decide +kernel⟩, List.mem_of_getElem? (i := 1193) (by decide +kernel), List.mem_of_getElem? (i := 1571) (by decide +kernel), List.mem_of_getElem? (i := 1572) (by decide +kernel)⟩
def lw_privs_4 : List (MethodName × Nat) := [(⟨"SlabWalkModel", "four", "(I)V"⟩, 89), (⟨"SlabWalkModel", "readAll", "()V"⟩, 89), (⟨"SlabWalkModel", "token", "()V"⟩, 89), (⟨"SlabWalkModel", "here", "(I)I"⟩, 89), (⟨"SlabWalkModel", "readLine", "()V"⟩, 89), (⟨"SlabWalkModel", "isWord", "(J)Z"⟩, 89), (⟨"SlabWalkModel", "readStreet", "()V"⟩, 89), (⟨"SlabWalkModel", "newName", "(II)V"⟩, 89), (⟨"SlabWalkModel", "isName", "()Z"⟩, 89), (⟨"SlabWalkModel", "isOwn", "()Z"⟩, 89), (⟨"SlabWalkModel", "mark", "()I"⟩, 89), (⟨"SlabWalkModel", "wrong", "(I)V"⟩, 89), (⟨"SlabWalkModel", "told", "(JII)I"⟩, 89), (⟨"SlabWalkModel", "want", "(J)V"⟩, 89), (⟨"SlabWalkModel", "toldNumber", "(II)I"⟩, 89), (⟨"SlabWalkModel", "readSlab", "(II)V"⟩, 89)]
theorem lw_r4 : ∀ q ∈ lw_privs_4, lw_okq q := List.forall_mem_cons.mpr ⟨lw_p48, List.forall_mem_cons.mpr ⟨lw_p49, List.forall_mem_cons.mpr ⟨lw_p50, List.forall_mem_cons.mpr ⟨lw_p51, List.forall_mem_cons.mpr ⟨lw_p52, List.forall_mem_cons.mpr ⟨lw_p53, List.forall_mem_cons.mpr ⟨lw_p54, List.forall_mem_cons.mpr ⟨lw_p55, List.forall_mem_cons.mpr ⟨lw_p56, List.forall_mem_cons.mpr ⟨lw_p57, List.forall_mem_cons.mpr ⟨lw_p58, List.forall_mem_cons.mpr ⟨lw_p59, List.forall_mem_cons.mpr ⟨lw_p60, List.forall_mem_cons.mpr ⟨lw_p61, List.forall_mem_cons.mpr ⟨lw_p62, List.forall_mem_cons.mpr ⟨lw_p63, fun _ h => absurd h List.not_mem_nil⟩⟩⟩⟩⟩⟩⟩⟩⟩⟩⟩⟩⟩⟩⟩⟩
theorem lw_p64 : lw_okq (⟨"SlabWalkModel", "wrongAt", "(II)V"⟩, 89) := ⟨⟨by decide +kernel, by decide +kernel⟩, List.mem_of_getElem? (i := 1193) (by decide +kernel), List.mem_of_getElem? (i := 1575) (by decide +kernel), List.mem_of_getElem? (i := 1576) (by decide +kernel)⟩
theorem lw_p65 : lw_okq (⟨"SlabWalkModel", "pave", "(III)V"⟩, 89) := ⟨⟨by decide +kernel, by decide +kernel⟩, List.mem_of_getElem? (i := 1193) (by decide +kernel), List.mem_of_getElem? (i := 1579) (by decide +kernel), List.mem_of_getElem? (i := 1580) (by decide +kernel)⟩
theorem lw_p66 : lw_okq (⟨"SlabWalkModel", "readWalker", "()V"⟩, 89) := ⟨⟨by decide +kernel, by decide +kernel⟩, List.mem_of_getElem? (i := 1193) (by decide +kernel), List.mem_of_getElem? (i := 1583) (by decide +kernel), List.mem_of_getElem? (i := 1584) (by decide +kernel)⟩
theorem lw_p67 : lw_okq (⟨"SlabWalkModel", "takes", "(J)Z"⟩, 89) := ⟨⟨by decide +kernel, by decide +kernel⟩, List.mem_of_getElem? (i := 1193) (by decide +kernel), List.mem_of_getElem? (i := 1587) (by decide +kernel), List.mem_of_getElem? (i := 1588) (by decide +kernel)⟩
theorem lw_p68 : lw_okq (⟨"SlabWalkModel", "readRule", "()V"⟩, 89) := ⟨⟨by decide +kernel, by decide +kernel⟩, List.mem_of_getElem? (i := 1193) (by decide +kernel), List.mem_of_getElem? (i := 1591) (by decide +kernel), List.mem_of_getElem? (i := 1592) (by decide +kernel)⟩
theorem lw_p69 : lw_okq (⟨"SlabWalkModel", "formula", "(I)V"⟩, 89) := ⟨⟨by decide +kernel, by decide +kernel⟩, List.mem_of_getElem? (i := 1193) (by decide +kernel), List.mem_of_getElem? (i := 1595) (by decide +kernel), List.mem_of_getElem? (i := 1596) (by decide +kernel)⟩
theorem lw_p70 : lw_okq (⟨"SlabWalkModel", "unit", "()V"⟩, 89) := ⟨⟨by decide +kernel, by decide +kernel⟩, List.mem_of_getElem? (i := 1193) (by decide +kernel), List.mem_of_getElem? (i := 1599) (by decide +kernel), List.mem_of_getElem? (i := 1600) (by decide +kernel)⟩
theorem lw_p71 : lw_okq (⟨"SlabWalkModel", "mayNot", "()Z"⟩, 89) := ⟨⟨by decide +kernel, by decide +kernel⟩, List.mem_of_getElem? (i := 1193) (by decide +kernel), List.mem_of_getElem? (i := 1603) (by decide +kernel), List.mem_of_getElem? (i := 1604) (by decide +kernel)⟩
theorem lw_p72 : lw_okq (⟨"SlabWalkModel", "openUp", "(I)V"⟩, 89) := ⟨⟨by decide +kernel, by decide +kernel⟩, List.mem_of_getElem? (i := 1193) (by decide +kernel), List.mem_of_getElem? (i := 1610) (by decide +kernel), List.mem_of_getElem? (i := 1611) (by decide +kernel)⟩
theorem lw_p73 : lw_okq (⟨"SlabWalkModel", "isFull", "()Z"⟩, 89) := ⟨⟨by decide +kernel, by decide +kernel⟩, List.mem_of_getElem? (i := 1193) (by decide +kernel), List.mem_of_getElem? (i := 1614) (by decide +kernel), List.mem_of_getElem? (i := 1615) (by decide +kernel)⟩
theorem lw_p74 : lw_okq (⟨"SlabWalkModel", "countUnit", "()V"⟩, 89) := ⟨⟨by decide +kernel, by decide +kernel⟩, List.mem_of_getElem? (i := 1193) (by decide +kernel), List.mem_of_getElem? (i := 1618) (by decide +kernel), List.mem_of_getElem? (i := 1619) (by decide +kernel)⟩
theorem lw_p75 : lw_okq (⟨"SlabWalkModel", "asked", "()I"⟩, 89) := ⟨⟨by decide +kernel, by decide +kernel⟩, List.mem_of_getElem? (i := 1193) (by decide +kernel), List.mem_of_getElem? (i := 1622) (by decide +kernel), List.mem_of_getElem? (i := 1623) (by decide +kernel)⟩
theorem lw_p76 : lw_okq (⟨"SlabWalkModel", "add", "(II)V"⟩, 89) := ⟨⟨by decide +kernel, by decide +kernel⟩, List.mem_of_getElem? (i := 1193) (by decide +kernel), List.mem_of_getElem? (i := 1626) (by decide +kernel), List.mem_of_getElem? (i := 1627) (by decide +kernel)⟩
theorem lw_p77 : lw_okq (⟨"SlabWalkModel", "sign", "()I"⟩, 89) := ⟨⟨by decide +kernel, by decide +kernel⟩, List.mem_of_getElem? (i := 1193) (by decide +kernel), List.mem_of_getElem? (i := 1630) (by decide +kernel), List.mem_of_getElem? (i := 1631) (by decide +kernel)⟩
theorem lw_p78 : lw_okq (⟨"SlabWalkModel", "hasBracket", "()Z"⟩, 89) := ⟨⟨by decide +kernel, by decide +kernel⟩, List.mem_of_getElem? (i := 1193) (by decide +kernel), List.mem_of_getElem? (i := 1634) (by decide +kernel), List.mem_of_getElem? (i := 1635) (by decide +kernel)⟩
theorem lw_p79 : lw_okq (⟨"SlabWalkModel", "close", "(I)V"⟩, 89) := ⟨⟨by decide +kernel, by decide +kernel⟩, List.mem_of_getElem? (i := 1193) (by decide +kernel), List.mem_of_getElem? (i := 1638) (by decide +kernel), List.mem_of_getElem? (i := 1639) (by decide +kernel)⟩
def lw_privs_5 : List (MethodName × Nat) := [(⟨"SlabWalkModel", "wrongAt", "(II)V"⟩, 89), (⟨"SlabWalkModel", "pave", "(III)V"⟩, 89), (⟨"SlabWalkModel", "readWalker", "()V"⟩, 89), (⟨"SlabWalkModel", "takes", "(J)Z"⟩, 89), (⟨"SlabWalkModel", "readRule", "()V"⟩, 89), (⟨"SlabWalkModel", "formula", "(I)V"⟩, 89), (⟨"SlabWalkModel", "unit", "()V"⟩, 89), (⟨"SlabWalkModel", "mayNot", "()Z"⟩, 89), (⟨"SlabWalkModel", "openUp", "(I)V"⟩, 89), (⟨"SlabWalkModel", "isFull", "()Z"⟩, 89), (⟨"SlabWalkModel", "countUnit", "()V"⟩, 89), (⟨"SlabWalkModel", "asked", "()I"⟩, 89), (⟨"SlabWalkModel", "add", "(II)V"⟩, 89), (⟨"SlabWalkModel", "sign", "()I"⟩, 89), (⟨"SlabWalkModel", "hasBracket", "()Z"⟩, 89), (⟨"SlabWalkModel", "close", "(I)V"⟩, 89)]
theorem lw_r5 : ∀ q ∈ lw_privs_5, lw_okq q := List.forall_mem_cons.mpr ⟨lw_p64, List.forall_mem_cons.mpr ⟨lw_p65, List.forall_mem_cons.mpr ⟨lw_p66, List.forall_mem_cons.mpr ⟨lw_p67, List.forall_mem_cons.mpr ⟨lw_p68, List.forall_mem_cons.mpr ⟨lw_p69, List.forall_mem_cons.mpr ⟨lw_p70, List.forall_mem_cons.mpr ⟨lw_p71, List.forall_mem_cons.mpr ⟨lw_p72, List.forall_mem_cons.mpr ⟨lw_p73, List.forall_mem_cons.mpr ⟨lw_p74, List.forall_mem_cons.mpr ⟨lw_p75, List.forall_mem_cons.mpr ⟨lw_p76, List.forall_mem_cons.mpr ⟨lw_p77, List.forall_mem_cons.mpr ⟨lw_p78, List.forall_mem_cons.mpr ⟨lw_p79, fun _ h => absurd h List.not_mem_nil⟩⟩⟩⟩⟩⟩⟩⟩⟩⟩⟩⟩⟩⟩⟩⟩
theorem lw_p80 : lw_okq (⟨"SlabWalkModel", "hasRelation", "()Z"⟩, 89) := ⟨⟨by decide +kernel, by decide +kernel⟩, List.mem_of_getElem? (i := 1193) (by decide +kernel), List.mem_of_getElem? (i := 1642) (by decide +kernel), List.mem_of_getElem? (i := 1643) (by decide +kernel)⟩
theorem lw_p81 : lw_okq (⟨"SlabWalkModel", "isOnce", "(JI)Z"⟩, 89) := ⟨⟨by decide +kernel, by decide +kernel⟩, List.mem_of_getElem? (i := 1193) (by decide +kernel), List.mem_of_getElem? (i := 1646) (by decide +kernel), List.mem_of_getElem? (i := 1647) (by decide +kernel)⟩
theorem lw_p82 : lw_okq (⟨"SlabWalkModel", "readSlip", "()V"⟩, 89) := ⟨⟨by decide +kernel, by decide +kernel⟩, List.mem_of_getElem? (i := 1193) (by decide +kernel), List.mem_of_getElem? (i := 1650) (by decide +kernel), List.mem_of_getElem? (i := 1651) (by decide +kernel)⟩
theorem lw_p83 : lw_okq (⟨"SlabWalkModel", "isStreet", "(I)Z"⟩, 89) := ⟨⟨by decide +kernel, by decide +kernel⟩, List.mem_of_getElem? (i := 1193) (by decide +kernel), List.mem_of_getElem? (i := 1662) (by decide +kernel), List.mem_of_getElem? (i := 1663) (by decide +kernel)⟩
theorem lw_p84 : lw_okq (⟨"SlabWalkModel", "isInch", "(II)Z"⟩, 89) := ⟨⟨by decide +kernel, by decide +kernel⟩, List.mem_of_getElem? (i := 1193) (by decide +kernel), List.mem_of_getElem? (i := 1669) (by decide +kernel), List.mem_of_getElem? (i := 1670) (by decide +kernel)⟩
theorem lw_p85 : lw_okq (⟨"SlabWalkModel", "areRules", "(I)Z"⟩, 89) := ⟨⟨by decide +kernel, by decide +kernel⟩, List.mem_of_getElem? (i := 1193) (by decide +kernel), List.mem_of_getElem? (i := 1684) (by decide +kernel), List.mem_of_getElem? (i := 1685) (by decide +kernel)⟩
theorem lw_p86 : lw_okq (⟨"SlabWalkModel", "isLine", "(III)Z"⟩, 89) := ⟨⟨by decide +kernel, by decide +kernel⟩, List.mem_of_getElem? (i := 1193) (by decide +kernel), List.mem_of_getElem? (i := 1688) (by decide +kernel), List.mem_of_getElem? (i := 1689) (by decide +kernel)⟩
theorem lw_p87 : lw_okq (⟨"SlabWalkModel", "worked", "(II)I"⟩, 89) := ⟨⟨by decide +kernel, by decide +kernel⟩, List.mem_of_getElem? (i := 1193) (by decide +kernel), List.mem_of_getElem? (i := 1692) (by decide +kernel), List.mem_of_getElem? (i := 1693) (by decide +kernel)⟩
theorem lw_p88 : lw_okq (⟨"SlabWalkModel", "askOf", "(II)I"⟩, 89) := ⟨⟨by decide +kernel, by decide +kernel⟩, List.mem_of_getElem? (i := 1193) (by decide +kernel), List.mem_of_getElem? (i := 1696) (by decide +kernel), List.mem_of_getElem? (i := 1697) (by decide +kernel)⟩
theorem lw_p89 : lw_okq (⟨"SlabWalkModel", "isAsked", "(III)Z"⟩, 89) := ⟨⟨by decide +kernel, by decide +kernel⟩, List.mem_of_getElem? (i := 1193) (by decide +kernel), List.mem_of_getElem? (i := 1711) (by decide +kernel), List.mem_of_getElem? (i := 1712) (by decide +kernel)⟩
theorem lw_p90 : lw_okq (⟨"SlabWalkModel", "isWalker", "(I)Z"⟩, 89) := ⟨⟨by decide +kernel, by decide +kernel⟩, List.mem_of_getElem? (i := 1193) (by decide +kernel), List.mem_of_getElem? (i := 1715) (by decide +kernel), List.mem_of_getElem? (i := 1716) (by decide +kernel)⟩
theorem lw_p91 : lw_okq (⟨"SlabWalkModel", "layStreet", "(III)V"⟩, 89) := ⟨⟨by decide +kernel, by decide +kernel⟩, List.mem_of_getElem? (i := 1193) (by decide +kernel), List.mem_of_getElem? (i := 1719) (by decide +kernel), List.mem_of_getElem? (i := 1720) (by decide +kernel)⟩
theorem lw_p92 : lw_okq (⟨"SlabWalkModel", "doesStand", "(I)Z"⟩, 89) := ⟨⟨by decide +kernel, by decide +kernel⟩, List.mem_of_getElem? (i := 1193) (by decide +kernel), List.mem_of_getElem? (i := 1723) (by decide +kernel), List.mem_of_getElem? (i := 1724) (by decide +kernel)⟩
theorem lw_p93 : lw_okq (⟨"SlabWalkModel", "layNeeds", "()V"⟩, 89) := ⟨⟨by decide +kernel, by decide +kernel⟩, List.mem_of_getElem? (i := 1193) (by decide +kernel), List.mem_of_getElem? (i := 1731) (by decide +kernel), List.mem_of_getElem? (i := 1732) (by decide +kernel)⟩
theorem lw_p94 : lw_okq (⟨"SlabWalkModel", "layNeed", "(II)V"⟩, 89) := ⟨⟨by decide +kernel, by decide +kernel⟩, List.mem_of_getElem? (i := 1193) (by decide +kernel), List.mem_of_getElem? (i := 1735) (by decide +kernel), List.mem_of_getElem? (i := 1736) (by decide +kernel)⟩
theorem lw_p95 : lw_okq (⟨"SlabWalkModel", "isEnd", "(I)Z"⟩, 89) := ⟨⟨by decide +kernel, by decide +kernel⟩, List.mem_of_getElem? (i := 1193) (by decide +kernel), List.mem_of_getElem? (i := 1739) (by decide +kernel), List.mem_of_getElem? (i := 1740) (by decide +kernel)⟩
def lw_privs_6 : List (MethodName × Nat) := [(⟨"SlabWalkModel", "hasRelation", "()Z"⟩, 89), (⟨"SlabWalkModel", "isOnce", "(JI)Z"⟩, 89), (⟨"SlabWalkModel", "readSlip", "()V"⟩, 89), (⟨"SlabWalkModel", "isStreet", "(I)Z"⟩, 89), (⟨"SlabWalkModel", "isInch", "(II)Z"⟩, 89), (⟨"SlabWalkModel", "areRules", "(I)Z"⟩, 89), (⟨"SlabWalkModel", "isLine", "(III)Z"⟩, 89), (⟨"SlabWalkModel", "worked", "(II)I"⟩, 89), (⟨"SlabWalkModel", "askOf", "(II)I"⟩, 89), (⟨"SlabWalkModel", "isAsked", "(III)Z"⟩, 89), (⟨"SlabWalkModel", "isWalker", "(I)Z"⟩, 89), (⟨"SlabWalkModel", "layStreet", "(III)V"⟩, 89), (⟨"SlabWalkModel", "doesStand", "(I)Z"⟩, 89), (⟨"SlabWalkModel", "layNeeds", "()V"⟩, 89), (⟨"SlabWalkModel", "layNeed", "(II)V"⟩, 89), (⟨"SlabWalkModel", "isEnd", "(I)Z"⟩, 89)]
theorem lw_r6 : ∀ q ∈ lw_privs_6, lw_okq q := List.forall_mem_cons.mpr ⟨lw_p80, List.forall_mem_cons.mpr ⟨lw_p81, List.forall_mem_cons.mpr ⟨lw_p82, List.forall_mem_cons.mpr ⟨lw_p83, List.forall_mem_cons.mpr ⟨lw_p84, List.forall_mem_cons.mpr ⟨lw_p85, List.forall_mem_cons.mpr ⟨lw_p86, List.forall_mem_cons.mpr ⟨lw_p87, List.forall_mem_cons.mpr ⟨lw_p88, List.forall_mem_cons.mpr ⟨lw_p89, List.forall_mem_cons.mpr ⟨lw_p90, List.forall_mem_cons.mpr ⟨lw_p91, List.forall_mem_cons.mpr ⟨lw_p92, List.forall_mem_cons.mpr ⟨lw_p93, List.forall_mem_cons.mpr ⟨lw_p94, List.forall_mem_cons.mpr ⟨lw_p95, fun _ h => absurd h List.not_mem_nil⟩⟩⟩⟩⟩⟩⟩⟩⟩⟩⟩⟩⟩⟩⟩⟩
theorem lw_p96 : lw_okq (⟨"SlabWalkModel", "needOf", "(III)I"⟩, 89) := ⟨⟨by decide +kernel, by decide +kernel⟩, List.mem_of_getElem? (i := 1193) (by decide +kernel), List.mem_of_getElem? (i := 1744) (by decide +kernel), List.mem_of_getElem? (i := 1745) (by decide +kernel)⟩
theorem lw_p97 : lw_okq (⟨"SlabWalkModel", "lay", "(I)V"⟩, 89) := ⟨⟨by decide +kernel, by decide +kernel⟩, List.mem_of_getElem? (i := 1193) (by decide +kernel), List.mem_of_getElem? (i := 1751) (by decide +kernel), List.mem_of_getElem? (i := 1752) (by decide +kernel)⟩
theorem lw_p98 : lw_okq (⟨"SlabWalkModel", "goOn", "(I)V"⟩, 89) := ⟨⟨by decide +kernel, by decide +kernel⟩, List.mem_of_getElem? (i := 1193) (by decide +kernel), List.mem_of_getElem? (i := 1760) (by decide +kernel), List.mem_of_getElem? (i := 1761) (by decide +kernel)⟩
theorem lw_p99 : lw_okq (⟨"SlabWalkModel", "isEven", "(II)Z"⟩, 89) := ⟨⟨by decide +kernel, by decide +kernel⟩, List.mem_of_getElem? (i := 1193) (by decide +kernel), List.mem_of_getElem? (i := 1772) (by decide +kernel), List.mem_of_getElem? (i := 1773) (by decide +kernel)⟩
theorem lw_p100 : lw_okq (⟨"SlabWalkModel", "comesToEnd", "(II)Z"⟩, 89) := ⟨⟨by decide +kernel, by decide +kernel⟩, List.mem_of_getElem? (i := 1193) (by decide +kernel), List.mem_of_getElem? (i := 1784) (by decide +kernel), List.mem_of_getElem? (i := 1785) (by decide +kernel)⟩
theorem lw_p101 : lw_okq (⟨"SlabWalkModel", "isHeld", "(II)Z"⟩, 89) := ⟨⟨by decide +kernel, by decide +kernel⟩, List.mem_of_getElem? (i := 1193) (by decide +kernel), List.mem_of_getElem? (i := 1816) (by decide +kernel), List.mem_of_getElem? (i := 1817) (by decide +kernel)⟩
theorem lw_p102 : lw_okq (⟨"SlabWalkModel", "keepOn", "(II)V"⟩, 89) := ⟨⟨by decide +kernel, by decide +kernel⟩, List.mem_of_getElem? (i := 1193) (by decide +kernel), List.mem_of_getElem? (i := 1820) (by decide +kernel), List.mem_of_getElem? (i := 1821) (by decide +kernel)⟩
theorem lw_p103 : lw_okq (⟨"SlabWalkModel", "layBold", "(IIIII)Z"⟩, 89) := ⟨⟨by decide +kernel, by decide +kernel⟩, List.mem_of_getElem? (i := 1193) (by decide +kernel), List.mem_of_getElem? (i := 1828) (by decide +kernel), List.mem_of_getElem? (i := 1829) (by decide +kernel)⟩
theorem lw_p104 : lw_okq (⟨"SlabWalkModel", "bestOdds", "(II)J"⟩, 89) := ⟨⟨by decide +kernel, by decide +kernel⟩, List.mem_of_getElem? (i := 1193) (by decide +kernel), List.mem_of_getElem? (i := 1832) (by decide +kernel), List.mem_of_getElem? (i := 1833) (by decide +kernel)⟩
theorem lw_p105 : lw_okq (⟨"SlabWalkModel", "rest", "(I)J"⟩, 89) := ⟨⟨by decide +kernel, by decide +kernel⟩, List.mem_of_getElem? (i := 1193) (by decide +kernel), List.mem_of_getElem? (i := 1836) (by decide +kernel), List.mem_of_getElem? (i := 1837) (by decide +kernel)⟩
theorem lw_p106 : lw_okq (⟨"SlabWalkModel", "allSlips", "()I"⟩, 89) := ⟨⟨by decide +kernel, by decide +kernel⟩, List.mem_of_getElem? (i := 1193) (by decide +kernel), List.mem_of_getElem? (i := 1840) (by decide +kernel), List.mem_of_getElem? (i := 1841) (by decide +kernel)⟩
theorem lw_p107 : lw_okq (⟨"SlabWalkModel", "oddsBy", "(IIIJ)J"⟩, 89) := ⟨⟨by decide +kernel, by decide +kernel⟩, List.mem_of_getElem? (i := 1193) (by decide +kernel), List.mem_of_getElem? (i := 1844) (by decide +kernel), List.mem_of_getElem? (i := 1845) (by decide +kernel)⟩
theorem lw_p108 : lw_okq (⟨"SlabWalkModel", "layWays", "(II)V"⟩, 89) := ⟨⟨by decide +kernel, by decide +kernel⟩, List.mem_of_getElem? (i := 1193) (by decide +kernel), List.mem_of_getElem? (i := 1856) (by decide +kernel), List.mem_of_getElem? (i := 1857) (by decide +kernel)⟩
theorem lw_p109 : lw_okq (⟨"SlabWalkModel", "hasWay", "(III)Z"⟩, 89) := ⟨⟨by decide +kernel, by decide +kernel⟩, List.mem_of_getElem? (i := 1193) (by decide +kernel), List.mem_of_getElem? (i := 1860) (by decide +kernel), List.mem_of_getElem? (i := 1861) (by decide +kernel)⟩
theorem lw_p110 : lw_okq (⟨"SlabWalkModel", "layWins", "(I)V"⟩, 89) := ⟨⟨by decide +kernel, by decide +kernel⟩, List.mem_of_getElem? (i := 1193) (by decide +kernel), List.mem_of_getElem? (i := 1864) (by decide +kernel), List.mem_of_getElem? (i := 1865) (by decide +kernel)⟩
theorem lw_p111 : lw_okq (⟨"SlabWalkModel", "act", "()V"⟩, 89) := ⟨⟨by decide +kernel, by decide +kernel⟩, List.mem_of_getElem? (i := 1193) (by decide +kernel), List.mem_of_getElem? (i := 1876) (by decide +kernel), List.mem_of_getElem? (i := 1877) (by decide +kernel)⟩
def lw_privs_7 : List (MethodName × Nat) := [(⟨"SlabWalkModel", "needOf", "(III)I"⟩, 89), (⟨"SlabWalkModel", "lay", "(I)V"⟩, 89), (⟨"SlabWalkModel", "goOn", "(I)V"⟩, 89), (⟨"SlabWalkModel", "isEven", "(II)Z"⟩, 89), (⟨"SlabWalkModel", "comesToEnd", "(II)Z"⟩, 89), (⟨"SlabWalkModel", "isHeld", "(II)Z"⟩, 89), (⟨"SlabWalkModel", "keepOn", "(II)V"⟩, 89), (⟨"SlabWalkModel", "layBold", "(IIIII)Z"⟩, 89), (⟨"SlabWalkModel", "bestOdds", "(II)J"⟩, 89), (⟨"SlabWalkModel", "rest", "(I)J"⟩, 89), (⟨"SlabWalkModel", "allSlips", "()I"⟩, 89), (⟨"SlabWalkModel", "oddsBy", "(IIIJ)J"⟩, 89), (⟨"SlabWalkModel", "layWays", "(II)V"⟩, 89), (⟨"SlabWalkModel", "hasWay", "(III)Z"⟩, 89), (⟨"SlabWalkModel", "layWins", "(I)V"⟩, 89), (⟨"SlabWalkModel", "act", "()V"⟩, 89)]
theorem lw_r7 : ∀ q ∈ lw_privs_7, lw_okq q := List.forall_mem_cons.mpr ⟨lw_p96, List.forall_mem_cons.mpr ⟨lw_p97, List.forall_mem_cons.mpr ⟨lw_p98, List.forall_mem_cons.mpr ⟨lw_p99, List.forall_mem_cons.mpr ⟨lw_p100, List.forall_mem_cons.mpr ⟨lw_p101, List.forall_mem_cons.mpr ⟨lw_p102, List.forall_mem_cons.mpr ⟨lw_p103, List.forall_mem_cons.mpr ⟨lw_p104, List.forall_mem_cons.mpr ⟨lw_p105, List.forall_mem_cons.mpr ⟨lw_p106, List.forall_mem_cons.mpr ⟨lw_p107, List.forall_mem_cons.mpr ⟨lw_p108, List.forall_mem_cons.mpr ⟨lw_p109, List.forall_mem_cons.mpr ⟨lw_p110, List.forall_mem_cons.mpr ⟨lw_p111, fun _ h => absurd h List.not_mem_nil⟩⟩⟩⟩⟩⟩⟩⟩⟩⟩⟩⟩⟩⟩⟩⟩
theorem lw_p112 : lw_okq (⟨"SlabWalkModel", "stands", "(I)I"⟩, 89) := ⟨⟨by decide +kernel, by decide +kernel⟩, List.mem_of_getElem? (i := 1193) (by decide +kernel), List.mem_of_getElem? (i := 1880) (by decide +kernel), List.mem_of_getElem? (i := 1881) (by decide +kernel)⟩
theorem lw_p113 : lw_okq (⟨"SlabWalkModel", "isRule", "(I)Z"⟩, 89) := ⟨⟨by decide +kernel, by decide +kernel⟩, List.mem_of_getElem? (i := 1193) (by decide +kernel), List.mem_of_getElem? (i := 1892) (by decide +kernel), List.mem_of_getElem? (i := 1893) (by decide +kernel)⟩
theorem lw_p114 : lw_okq (⟨"SlabWalkModel", "exchange", "(I)V"⟩, 89) := ⟨⟨by decide +kernel, by decide +kernel⟩, List.mem_of_getElem? (i := 1193) (by decide +kernel), List.mem_of_getElem? (i := 1908) (by decide +kernel), List.mem_of_getElem? (i := 1909) (by decide +kernel)⟩
theorem lw_p115 : lw_okq (⟨"SlabWalkModel", "counts", "(II)Z"⟩, 89) := ⟨⟨by decide +kernel, by decide +kernel⟩, List.mem_of_getElem? (i := 1193) (by decide +kernel), List.mem_of_getElem? (i := 1940) (by decide +kernel), List.mem_of_getElem? (i := 1941) (by decide +kernel)⟩
def lw_privs_8 : List (MethodName × Nat) := [(⟨"SlabWalkModel", "stands", "(I)I"⟩, 89), (⟨"SlabWalkModel", "isRule", "(I)Z"⟩, 89), (⟨"SlabWalkModel", "exchange", "(I)V"⟩, 89), (⟨"SlabWalkModel", "counts", "(II)Z"⟩, 89)]
theorem lw_r8 : ∀ q ∈ lw_privs_8, lw_okq q := List.forall_mem_cons.mpr ⟨lw_p112, List.forall_mem_cons.mpr ⟨lw_p113, List.forall_mem_cons.mpr ⟨lw_p114, List.forall_mem_cons.mpr ⟨lw_p115, fun _ h => absurd h List.not_mem_nil⟩⟩⟩⟩
def lw_privs : List (MethodName × Nat) := lw_privs_1 ++ (lw_privs_2 ++ (lw_privs_3 ++ (lw_privs_4 ++ (lw_privs_5 ++ (lw_privs_6 ++ (lw_privs_7 ++ (lw_privs_8)))))))
def lw_tbl : List Cond := k2_sels lw_privs ++ tables_1
theorem lw_privs_ok : ∀ q ∈ lw_privs, lw_okq q := by
  show ∀ q ∈ lw_privs_1 ++ (lw_privs_2 ++ (lw_privs_3 ++ (lw_privs_4 ++ (lw_privs_5 ++ (lw_privs_6 ++ (lw_privs_7 ++ (lw_privs_8))))))), lw_okq q
  exact List.forall_mem_append.mpr ⟨lw_r1, List.forall_mem_append.mpr ⟨lw_r2, List.forall_mem_append.mpr ⟨lw_r3, List.forall_mem_append.mpr ⟨lw_r4, List.forall_mem_append.mpr ⟨lw_r5, List.forall_mem_append.mpr ⟨lw_r6, List.forall_mem_append.mpr ⟨lw_r7, lw_r8⟩⟩⟩⟩⟩⟩⟩
end
section
def RX0 : String := "SlabWalk$Course"
def TX0 : u_T := fun k => match k with
  | 0 => ("SlabWalk$Course", "lawful", "[Z", true)
  | 1 => ("SlabWalk$Course", "length", "I", false)
  | 2 => ("SlabWalk$Course", "foot", "I", false)
  | 3 => ("SlabWalk$Course", "least", "I", false)
  | 4 => ("SlabWalk$Course", "most", "I", false)
  | 5 => ("SlabWalk$Course", "leap", "I", false)
  | 6 => ("SlabWalk$Course", "last", "I", false)
  | _ => ("SlabWalk$Course", "end", "I", false)
def tyX0 : Nat → FieldType := fun k => match k with
  | 0 => .array .boolean
  | 1 => .int
  | 2 => .int
  | 3 => .int
  | 4 => .int
  | 5 => .int
  | 6 => .int
  | _ => .int
abbrev wsX00 : List Cond := u_ws RX0 TX0 8
theorem nmX0 : ∀ a, a < 8 → ∀ b, b < 8 → a ≠ b → (TX0 a).2.1 ≠ (TX0 b).2.1 := by decide +kernel
theorem tyX0_ok : ∀ k, k < 8 → parseFieldDescriptor (TX0 k).2.2.1 = some (tyX0 k) := by decide +kernel
abbrev cX0_init : ByteArray := prog_2_method_1_code
def yX0_init : MethodName := ⟨RX0, "<init>", "()V"⟩
abbrev cX0_lookAt : ByteArray := prog_2_method_2_code
def yX0_lookAt : MethodName := ⟨RX0, "lookAt", "(LSlabWalk$Paving;II)V"⟩
abbrev cX0_findLawful : ByteArray := prog_2_method_3_code
def yX0_findLawful : MethodName := ⟨RX0, "findLawful", "(LSlabWalk$Lines;II)V"⟩
abbrev cX0_lastFirst : ByteArray := prog_2_method_4_code
def yX0_lastFirst : MethodName := ⟨RX0, "lastFirst", "()I"⟩
def RX1 : String := "SlabWalk$Earnest"
def TX1 : u_T := fun k => match k with
  | 0 => ("SlabWalk$Earnest", "now", "[I", true)
  | 1 => ("SlabWalk$Earnest", "kept", "[I", true)
  | 2 => ("SlabWalk$Earnest", "boxes", "[I", true)
  | 3 => ("SlabWalk$Earnest", "full", "I", false)
  | 4 => ("SlabWalk$Earnest", "done", "I", false)
  | _ => ("SlabWalk$Earnest", "undone", "I", false)
def tyX1 : Nat → FieldType := fun k => match k with
  | 0 => .array .int
  | 1 => .array .int
  | 2 => .array .int
  | 3 => .int
  | 4 => .int
  | _ => .int
abbrev wsX10 : List Cond := u_ws RX1 TX1 6
theorem nmX1 : ∀ a, a < 6 → ∀ b, b < 6 → a ≠ b → (TX1 a).2.1 ≠ (TX1 b).2.1 := by decide +kernel
theorem tyX1_ok : ∀ k, k < 6 → parseFieldDescriptor (TX1 k).2.2.1 = some (tyX1 k) := by decide +kernel
abbrev cX1_init : ByteArray := prog_3_method_1_code
def yX1_init : MethodName := ⟨RX1, "<init>", "()V"⟩
abbrev cX1_startAnew : ByteArray := prog_3_method_2_code
def yX1_startAnew : MethodName := ⟨RX1, "startAnew", "(I)V"⟩
abbrev cX1_forgetActs : ByteArray := prog_3_method_3_code
def yX1_forgetActs : MethodName := ⟨RX1, "forgetActs", "()V"⟩
abbrev cX1_setOut : ByteArray := prog_3_method_4_code
def yX1_setOut : MethodName := ⟨RX1, "setOut", "(III)V"⟩
abbrev cX1_drawSeed : ByteArray := prog_3_method_5_code
def yX1_drawSeed : MethodName := ⟨RX1, "drawSeed", "()V"⟩
abbrev cX1_keepAct : ByteArray := prog_3_method_6_code
def yX1_keepAct : MethodName := ⟨RX1, "keepAct", "()V"⟩
abbrev cX1_takeBack : ByteArray := prog_3_method_7_code
def yX1_takeBack : MethodName := ⟨RX1, "takeBack", "()Z"⟩
abbrev cX1_doAgain : ByteArray := prog_3_method_8_code
def yX1_doAgain : MethodName := ⟨RX1, "doAgain", "()Z"⟩
abbrev cX1_keepIn : ByteArray := prog_3_method_9_code
def yX1_keepIn : MethodName := ⟨RX1, "keepIn", "(I)Z"⟩
abbrev cX1_bringFrom : ByteArray := prog_3_method_10_code
def yX1_bringFrom : MethodName := ⟨RX1, "bringFrom", "(I)Z"⟩
def RX2 : String := "SlabWalk$Formulas"
def TX2 : u_T := fun k => match k with
  | 0 => ("SlabWalk$Formulas", "tokens", "LSlabWalk$Tokens;", true)
  | 1 => ("SlabWalk$Formulas", "paving", "LSlabWalk$Paving;", false)
  | _ => ("SlabWalk$Formulas", "units", "I", false)
def tyX2 : Nat → FieldType := fun k => match k with
  | 0 => .object "SlabWalk$Tokens"
  | 1 => .object "SlabWalk$Paving"
  | _ => .int
abbrev wsX20 : List Cond := u_ws RX2 TX2 3
theorem nmX2 : ∀ a, a < 3 → ∀ b, b < 3 → a ≠ b → (TX2 a).2.1 ≠ (TX2 b).2.1 := by decide +kernel
theorem tyX2_ok : ∀ k, k < 3 → parseFieldDescriptor (TX2 k).2.2.1 = some (tyX2 k) := by decide +kernel
abbrev cX2_init : ByteArray := prog_4_method_1_code
def yX2_init : MethodName := ⟨RX2, "<init>", "(LSlabWalk$Tokens;LSlabWalk$Paving;)V"⟩
abbrev cX2_read : ByteArray := prog_4_method_2_code
def yX2_read : MethodName := ⟨RX2, "read", "(LSlabWalk$Paving;)Z"⟩
abbrev cX2_passEither : ByteArray := prog_4_method_3_code
def yX2_passEither : MethodName := ⟨RX2, "passEither", "(I)Z"⟩
abbrev cX2_passBoth : ByteArray := prog_4_method_4_code
def yX2_passBoth : MethodName := ⟨RX2, "passBoth", "(I)Z"⟩
abbrev cX2_passOne : ByteArray := prog_4_method_5_code
def yX2_passOne : MethodName := ⟨RX2, "passOne", "(I)Z"⟩
abbrev cX2_passRelation : ByteArray := prog_4_method_6_code
def yX2_passRelation : MethodName := ⟨RX2, "passRelation", "(I)Z"⟩
abbrev cX2_passSum : ByteArray := prog_4_method_7_code
def yX2_passSum : MethodName := ⟨RX2, "passSum", "(I)Z"⟩
abbrev cX2_passTerm : ByteArray := prog_4_method_8_code
def yX2_passTerm : MethodName := ⟨RX2, "passTerm", "(I)Z"⟩
abbrev cX2_isTimes : ByteArray := prog_4_method_9_code
def yX2_isTimes : MethodName := ⟨RX2, "isTimes", "(I)Z"⟩
abbrev cX2_passUnit : ByteArray := prog_4_method_10_code
def yX2_passUnit : MethodName := ⟨RX2, "passUnit", "(I)Z"⟩
abbrev cX2_passBracket : ByteArray := prog_4_method_11_code
def yX2_passBracket : MethodName := ⟨RX2, "passBracket", "(I)Z"⟩
def RX3 : String := "SlabWalk$Lines"
def TX3 : u_T := fun k => match k with
  | 0 => ("SlabWalk$Lines", "found", "[I", true)
  | 1 => ("SlabWalk$Lines", "foundOn", "[I", true)
  | 2 => ("SlabWalk$Lines", "values", "[I", true)
  | 3 => ("SlabWalk$Lines", "top", "I", false)
  | _ => ("SlabWalk$Lines", "paving", "LSlabWalk$Paving;", false)
def tyX3 : Nat → FieldType := fun k => match k with
  | 0 => .array .int
  | 1 => .array .int
  | 2 => .array .int
  | 3 => .int
  | _ => .object "SlabWalk$Paving"
abbrev wsX30 : List Cond := u_ws RX3 TX3 5
theorem nmX3 : ∀ a, a < 5 → ∀ b, b < 5 → a ≠ b → (TX3 a).2.1 ≠ (TX3 b).2.1 := by decide +kernel
theorem tyX3_ok : ∀ k, k < 5 → parseFieldDescriptor (TX3 k).2.2.1 = some (tyX3 k) := by decide +kernel
abbrev cX3_init : ByteArray := prog_5_method_1_code
def yX3_init : MethodName := ⟨RX3, "<init>", "(LSlabWalk$Paving;)V"⟩
abbrev cX3_lookAt : ByteArray := prog_5_method_2_code
def yX3_lookAt : MethodName := ⟨RX3, "lookAt", "(LSlabWalk$Paving;)V"⟩
abbrev cX3_findFor : ByteArray := prog_5_method_3_code
def yX3_findFor : MethodName := ⟨RX3, "findFor", "(II)V"⟩
abbrev cX3_isLine : ByteArray := prog_5_method_4_code
def yX3_isLine : MethodName := ⟨RX3, "isLine", "(III)Z"⟩
abbrev cX3_isLawful : ByteArray := prog_5_method_5_code
def yX3_isLawful : MethodName := ⟨RX3, "isLawful", "(IIII)Z"⟩
abbrev cX3_valueOf : ByteArray := prog_5_method_6_code
def yX3_valueOf : MethodName := ⟨RX3, "valueOf", "(III)I"⟩
abbrev cX3_push : ByteArray := prog_5_method_7_code
def yX3_push : MethodName := ⟨RX3, "push", "(I)V"⟩
abbrev cX3_pop : ByteArray := prog_5_method_8_code
def yX3_pop : MethodName := ⟨RX3, "pop", "()I"⟩
abbrev cX3_ownOf : ByteArray := prog_5_method_9_code
def yX3_ownOf : MethodName := ⟨RX3, "ownOf", "(III)I"⟩
abbrev cX3_join : ByteArray := prog_5_method_10_code
def yX3_join : MethodName := ⟨RX3, "join", "(III)I"⟩
def RX4 : String := "SlabWalk$Minima"
def TX4 : u_T := fun k => match k with
  | 0 => ("SlabWalk$Minima", "keys", "[I", true)
  | 1 => ("SlabWalk$Minima", "values", "[I", true)
  | 2 => ("SlabWalk$Minima", "head", "I", false)
  | _ => ("SlabWalk$Minima", "tail", "I", false)
def tyX4 : Nat → FieldType := fun k => match k with
  | 0 => .array .int
  | 1 => .array .int
  | 2 => .int
  | _ => .int
abbrev wsX40 : List Cond := u_ws RX4 TX4 4
theorem nmX4 : ∀ a, a < 4 → ∀ b, b < 4 → a ≠ b → (TX4 a).2.1 ≠ (TX4 b).2.1 := by decide +kernel
theorem tyX4_ok : ∀ k, k < 4 → parseFieldDescriptor (TX4 k).2.2.1 = some (tyX4 k) := by decide +kernel
abbrev cX4_init : ByteArray := prog_6_method_1_code
def yX4_init : MethodName := ⟨RX4, "<init>", "()V"⟩
abbrev cX4_empty : ByteArray := prog_6_method_2_code
def yX4_empty : MethodName := ⟨RX4, "empty", "()V"⟩
abbrev cX4_add : ByteArray := prog_6_method_3_code
def yX4_add : MethodName := ⟨RX4, "add", "(II)V"⟩
abbrev cX4_leastFrom : ByteArray := prog_6_method_4_code
def yX4_leastFrom : MethodName := ⟨RX4, "leastFrom", "(I)I"⟩
def RX5 : String := "SlabWalk$Odds"
def TX5 : u_T := fun k => match k with
  | 0 => ("SlabWalk$Odds", "stepped", "[J", true)
  | 1 => ("SlabWalk$Odds", "leapt", "[J", true)
  | 2 => ("SlabWalk$Odds", "sums", "[J", true)
  | 3 => ("SlabWalk$Odds", "steppedSums", "[J", true)
  | 4 => ("SlabWalk$Odds", "odds", "[J", true)
  | 5 => ("SlabWalk$Odds", "aims", "[J", true)
  | _ => ("SlabWalk$Odds", "boldest", "I", false)
def tyX5 : Nat → FieldType := fun k => match k with
  | 0 => .array .long
  | 1 => .array .long
  | 2 => .array .long
  | 3 => .array .long
  | 4 => .array .long
  | 5 => .array .long
  | _ => .int
abbrev wsX50 : List Cond := u_ws RX5 TX5 7
theorem nmX5 : ∀ a, a < 7 → ∀ b, b < 7 → a ≠ b → (TX5 a).2.1 ≠ (TX5 b).2.1 := by decide +kernel
theorem tyX5_ok : ∀ k, k < 7 → parseFieldDescriptor (TX5 k).2.2.1 = some (tyX5 k) := by decide +kernel
abbrev cX5_init : ByteArray := prog_7_method_1_code
def yX5_init : MethodName := ⟨RX5, "<init>", "()V"⟩
abbrev cX5_countWays : ByteArray := prog_7_method_2_code
def yX5_countWays : MethodName := ⟨RX5, "countWays", "(LSlabWalk$Course;I)J"⟩
abbrev cX5_setNextFeet : ByteArray := prog_7_method_3_code
def yX5_setNextFeet : MethodName := ⟨RX5, "setNextFeet", "(LSlabWalk$Course;)V"⟩
abbrev cX5_sumOf : ByteArray := prog_7_method_4_code
def yX5_sumOf : MethodName := ⟨RX5, "sumOf", "([JIII)J"⟩
abbrev cX5_bravest : ByteArray := prog_7_method_5_code
def yX5_bravest : MethodName := ⟨RX5, "bravest", "(LSlabWalk$Course;[III)J"⟩
abbrev cX5_aimFrom : ByteArray := prog_7_method_6_code
def yX5_aimFrom : MethodName := ⟨RX5, "aimFrom", "(LSlabWalk$Course;II)J"⟩
abbrev cX5_bestStep : ByteArray := prog_7_method_7_code
def yX5_bestStep : MethodName := ⟨RX5, "bestStep", "(LSlabWalk$Course;I)I"⟩
abbrev cX5_boldestStep : ByteArray := prog_7_method_8_code
def yX5_boldestStep : MethodName := ⟨RX5, "boldestStep", "()I"⟩
def RX6 : String := "SlabWalk$Paving"
def TX6 : u_T := fun k => match k with
  | 0 => ("SlabWalk$Paving", "length", "[I", true)
  | 1 => ("SlabWalk$Paving", "inches", "[I", true)
  | 2 => ("SlabWalk$Paving", "foot", "[I", true)
  | 3 => ("SlabWalk$Paving", "least", "[I", true)
  | 4 => ("SlabWalk$Paving", "most", "[I", true)
  | 5 => ("SlabWalk$Paving", "leap", "[I", true)
  | 6 => ("SlabWalk$Paving", "slip", "[I", true)
  | 7 => ("SlabWalk$Paving", "code", "[I", true)
  | 8 => ("SlabWalk$Paving", "codeEnd", "[I", true)
  | 9 => ("SlabWalk$Paving", "streets", "I", false)
  | 10 => ("SlabWalk$Paving", "walkers", "I", false)
  | 11 => ("SlabWalk$Paving", "rules", "I", false)
  | 12 => ("SlabWalk$Paving", "units", "I", false)
  | 13 => ("SlabWalk$Paving", "coded", "I", false)
  | 14 => ("SlabWalk$Paving", "hand", "I", false)
  | 15 => ("SlabWalk$Paving", "slack", "I", false)
  | _ => ("SlabWalk$Paving", "draw", "I", false)
def tyX6 : Nat → FieldType := fun k => match k with
  | 0 => .array .int
  | 1 => .array .int
  | 2 => .array .int
  | 3 => .array .int
  | 4 => .array .int
  | 5 => .array .int
  | 6 => .array .int
  | 7 => .array .int
  | 8 => .array .int
  | 9 => .int
  | 10 => .int
  | 11 => .int
  | 12 => .int
  | 13 => .int
  | 14 => .int
  | 15 => .int
  | _ => .int
abbrev wsX60 : List Cond := u_ws RX6 TX6 17
theorem nmX6 : ∀ a, a < 17 → ∀ b, b < 17 → a ≠ b → (TX6 a).2.1 ≠ (TX6 b).2.1 := by decide +kernel
theorem tyX6_ok : ∀ k, k < 17 → parseFieldDescriptor (TX6 k).2.2.1 = some (tyX6 k) := by decide +kernel
abbrev cX6_init : ByteArray := prog_8_method_1_code
def yX6_init : MethodName := ⟨RX6, "<init>", "()V"⟩
abbrev cX6_empty : ByteArray := prog_8_method_2_code
def yX6_empty : MethodName := ⟨RX6, "empty", "()V"⟩
abbrev cX6_inchAt : ByteArray := prog_8_method_3_code
def yX6_inchAt : MethodName := ⟨RX6, "inchAt", "(II)I"⟩
abbrev cX6_part : ByteArray := prog_8_method_4_code
def yX6_part : MethodName := ⟨RX6, "part", "(II)I"⟩
abbrev cX6_lay : ByteArray := prog_8_method_5_code
def yX6_lay : MethodName := ⟨RX6, "lay", "(IIII)V"⟩
abbrev cX6_emit : ByteArray := prog_8_method_6_code
def yX6_emit : MethodName := ⟨RX6, "emit", "(II)V"⟩
abbrev cX6_hasStreet : ByteArray := prog_8_method_7_code
def yX6_hasStreet : MethodName := ⟨RX6, "hasStreet", "(I)Z"⟩
abbrev cX6_hasWalker : ByteArray := prog_8_method_8_code
def yX6_hasWalker : MethodName := ⟨RX6, "hasWalker", "(I)Z"⟩
abbrev cX6_hasRule : ByteArray := prog_8_method_9_code
def yX6_hasRule : MethodName := ⟨RX6, "hasRule", "(I)Z"⟩
abbrev cX6_hasSet : ByteArray := prog_8_method_10_code
def yX6_hasSet : MethodName := ⟨RX6, "hasSet", "(I)Z"⟩
abbrev cX6_hasInch : ByteArray := prog_8_method_11_code
def yX6_hasInch : MethodName := ⟨RX6, "hasInch", "(II)Z"⟩
abbrev cX6_stands : ByteArray := prog_8_method_12_code
def yX6_stands : MethodName := ⟨RX6, "stands", "(III)Z"⟩
abbrev cX6_allSlips : ByteArray := prog_8_method_13_code
def yX6_allSlips : MethodName := ⟨RX6, "allSlips", "()I"⟩
abbrev cX6_slipBy : ByteArray := prog_8_method_14_code
def yX6_slipBy : MethodName := ⟨RX6, "slipBy", "(I)I"⟩
def RX7 : String := "SlabWalk$Reader"
def TX7 : u_T := fun k => match k with
  | 0 => ("SlabWalk$Reader", "tokens", "LSlabWalk$Tokens;", true)
  | 1 => ("SlabWalk$Reader", "formulas", "LSlabWalk$Formulas;", true)
  | 2 => ("SlabWalk$Reader", "streetNames", "[J", true)
  | 3 => ("SlabWalk$Reader", "walkerNames", "[J", true)
  | 4 => ("SlabWalk$Reader", "ruleNames", "[J", true)
  | 5 => ("SlabWalk$Reader", "paving", "LSlabWalk$Paving;", false)
  | 6 => ("SlabWalk$Reader", "slipTold", "Z", false)
  | 7 => ("SlabWalk$Reader", "handTold", "Z", false)
  | 8 => ("SlabWalk$Reader", "drawTold", "Z", false)
  | _ => ("SlabWalk$Reader", "number", "I", false)
def tyX7 : Nat → FieldType := fun k => match k with
  | 0 => .object "SlabWalk$Tokens"
  | 1 => .object "SlabWalk$Formulas"
  | 2 => .array .long
  | 3 => .array .long
  | 4 => .array .long
  | 5 => .object "SlabWalk$Paving"
  | 6 => .boolean
  | 7 => .boolean
  | 8 => .boolean
  | _ => .int
abbrev wsX70 : List Cond := u_ws RX7 TX7 10
theorem nmX7 : ∀ a, a < 10 → ∀ b, b < 10 → a ≠ b → (TX7 a).2.1 ≠ (TX7 b).2.1 := by decide +kernel
theorem tyX7_ok : ∀ k, k < 10 → parseFieldDescriptor (TX7 k).2.2.1 = some (tyX7 k) := by decide +kernel
abbrev cX7_init : ByteArray := prog_9_method_1_code
def yX7_init : MethodName := ⟨RX7, "<init>", "([BLSlabWalk$Paving;)V"⟩
abbrev cX7_read : ByteArray := prog_9_method_2_code
def yX7_read : MethodName := ⟨RX7, "read", "(ILSlabWalk$Paving;)Z"⟩
abbrev cX7_passFirst : ByteArray := prog_9_method_3_code
def yX7_passFirst : MethodName := ⟨RX7, "passFirst", "(Z)Z"⟩
abbrev cX7_passName : ByteArray := prog_9_method_4_code
def yX7_passName : MethodName := ⟨RX7, "passName", "([JI)Z"⟩
abbrev cX7_isNumber : ByteArray := prog_9_method_5_code
def yX7_isNumber : MethodName := ⟨RX7, "isNumber", "(II)Z"⟩
abbrev cX7_passNumber : ByteArray := prog_9_method_6_code
def yX7_passNumber : MethodName := ⟨RX7, "passNumber", "(II)Z"⟩
abbrev cX7_readStreet : ByteArray := prog_9_method_7_code
def yX7_readStreet : MethodName := ⟨RX7, "readStreet", "()Z"⟩
abbrev cX7_readSlab : ByteArray := prog_9_method_8_code
def yX7_readSlab : MethodName := ⟨RX7, "readSlab", "(II)Z"⟩
abbrev cX7_readWalker : ByteArray := prog_9_method_9_code
def yX7_readWalker : MethodName := ⟨RX7, "readWalker", "()Z"⟩
abbrev cX7_readRule : ByteArray := prog_9_method_10_code
def yX7_readRule : MethodName := ⟨RX7, "readRule", "()Z"⟩
abbrev cX7_readSlip : ByteArray := prog_9_method_11_code
def yX7_readSlip : MethodName := ⟨RX7, "readSlip", "()Z"⟩
abbrev cX7_readHand : ByteArray := prog_9_method_12_code
def yX7_readHand : MethodName := ⟨RX7, "readHand", "()Z"⟩
abbrev cX7_readDraw : ByteArray := prog_9_method_13_code
def yX7_readDraw : MethodName := ⟨RX7, "readDraw", "()Z"⟩
def RX8 : String := "SlabWalk$Sights"
def TX8 : u_T := fun k => match k with
  | 0 => ("SlabWalk$Sights", "walker", "[I", true)
  | 1 => ("SlabWalk$Sights", "street", "[I", true)
  | 2 => ("SlabWalk$Sights", "heel", "[I", true)
  | 3 => ("SlabWalk$Sights", "told", "[I", true)
  | 4 => ("SlabWalk$Sights", "untold", "[I", true)
  | 5 => ("SlabWalk$Sights", "count", "I", false)
  | _ => ("SlabWalk$Sights", "time", "I", false)
def tyX8 : Nat → FieldType := fun k => match k with
  | 0 => .array .int
  | 1 => .array .int
  | 2 => .array .int
  | 3 => .array .int
  | 4 => .array .int
  | 5 => .int
  | _ => .int
abbrev wsX80 : List Cond := u_ws RX8 TX8 7
theorem nmX8 : ∀ a, a < 7 → ∀ b, b < 7 → a ≠ b → (TX8 a).2.1 ≠ (TX8 b).2.1 := by decide +kernel
theorem tyX8_ok : ∀ k, k < 7 → parseFieldDescriptor (TX8 k).2.2.1 = some (tyX8 k) := by decide +kernel
abbrev cX8_init : ByteArray := prog_10_method_1_code
def yX8_init : MethodName := ⟨RX8, "<init>", "()V"⟩
abbrev cX8_tell : ByteArray := prog_10_method_2_code
def yX8_tell : MethodName := ⟨RX8, "tell", "(III)I"⟩
abbrev cX8_takeFrom : ByteArray := prog_10_method_3_code
def yX8_takeFrom : MethodName := ⟨RX8, "takeFrom", "(I)Z"⟩
abbrev cX8_counts : ByteArray := prog_10_method_4_code
def yX8_counts : MethodName := ⟨RX8, "counts", "(II)Z"⟩
def RX9 : String := "SlabWalk$Tokens"
def TX9 : u_T := fun k => match k with
  | 0 => ("SlabWalk$Tokens", "text", "[B", true)
  | 1 => ("SlabWalk$Tokens", "size", "I", false)
  | 2 => ("SlabWalk$Tokens", "at", "I", false)
  | 3 => ("SlabWalk$Tokens", "kind", "I", false)
  | 4 => ("SlabWalk$Tokens", "place", "I", false)
  | 5 => ("SlabWalk$Tokens", "number", "I", false)
  | 6 => ("SlabWalk$Tokens", "word", "J", false)
  | 7 => ("SlabWalk$Tokens", "fault", "I", false)
  | _ => ("SlabWalk$Tokens", "faultPlace", "I", false)
def tyX9 : Nat → FieldType := fun k => match k with
  | 0 => .array .byte
  | 1 => .int
  | 2 => .int
  | 3 => .int
  | 4 => .int
  | 5 => .int
  | 6 => .long
  | 7 => .int
  | _ => .int
abbrev wsX90 : List Cond := u_ws RX9 TX9 9
theorem nmX9 : ∀ a, a < 9 → ∀ b, b < 9 → a ≠ b → (TX9 a).2.1 ≠ (TX9 b).2.1 := by decide +kernel
theorem tyX9_ok : ∀ k, k < 9 → parseFieldDescriptor (TX9 k).2.2.1 = some (tyX9 k) := by decide +kernel
abbrev cX9_init : ByteArray := prog_11_method_1_code
def yX9_init : MethodName := ⟨RX9, "<init>", "([B)V"⟩
abbrev cX9_open : ByteArray := prog_11_method_2_code
def yX9_open : MethodName := ⟨RX9, "open", "(I)V"⟩
abbrev cX9_refuse : ByteArray := prog_11_method_3_code
def yX9_refuse : MethodName := ⟨RX9, "refuse", "(I)Z"⟩
abbrev cX9_pass : ByteArray := prog_11_method_4_code
def yX9_pass : MethodName := ⟨RX9, "pass", "(I)Z"⟩
abbrev cX9_advance : ByteArray := prog_11_method_5_code
def yX9_advance : MethodName := ⟨RX9, "advance", "()Z"⟩
abbrev cX9_isLetter : ByteArray := prog_11_method_6_code
def yX9_isLetter : MethodName := ⟨RX9, "isLetter", "(I)Z"⟩
abbrev cX9_isDigit : ByteArray := prog_11_method_7_code
def yX9_isDigit : MethodName := ⟨RX9, "isDigit", "(I)Z"⟩
abbrev cX9_cutWord : ByteArray := prog_11_method_8_code
def yX9_cutWord : MethodName := ⟨RX9, "cutWord", "()V"⟩
abbrev cX9_kindOfWord : ByteArray := prog_11_method_9_code
def yX9_kindOfWord : MethodName := ⟨RX9, "kindOfWord", "()I"⟩
abbrev cX9_cutNumber : ByteArray := prog_11_method_10_code
def yX9_cutNumber : MethodName := ⟨RX9, "cutNumber", "()V"⟩
def RX10 : String := "SlabWalk$Trails"
def TX10 : u_T := fun k => match k with
  | 0 => ("SlabWalk$Trails", "rows", "[[I", true)
  | 1 => ("SlabWalk$Trails", "steps", "LSlabWalk$Minima;", true)
  | 2 => ("SlabWalk$Trails", "leaps", "LSlabWalk$Minima;", true)
  | 3 => ("SlabWalk$Trails", "winning", "[I", true)
  | _ => ("SlabWalk$Trails", "leaving", "[Z", true)
def tyX10 : Nat → FieldType := fun k => match k with
  | 0 => .array (.array .int)
  | 1 => .object "SlabWalk$Minima"
  | 2 => .object "SlabWalk$Minima"
  | 3 => .array .int
  | _ => .array .boolean
abbrev wsX100 : List Cond := u_ws RX10 TX10 5
theorem nmX10 : ∀ a, a < 5 → ∀ b, b < 5 → a ≠ b → (TX10 a).2.1 ≠ (TX10 b).2.1 := by decide +kernel
theorem tyX10_ok : ∀ k, k < 5 → parseFieldDescriptor (TX10 k).2.2.1 = some (tyX10 k) := by decide +kernel
abbrev cX10_init : ByteArray := prog_12_method_1_code
def yX10_init : MethodName := ⟨RX10, "<init>", "()V"⟩
abbrev cX10_fewestFeet : ByteArray := prog_12_method_2_code
def yX10_fewestFeet : MethodName := ⟨RX10, "fewestFeet", "(LSlabWalk$Course;I)I"⟩
abbrev cX10_findFeetFrom : ByteArray := prog_12_method_3_code
def yX10_findFeetFrom : MethodName := ⟨RX10, "findFeetFrom", "(LSlabWalk$Course;II)V"⟩
abbrev cX10_leastOf : ByteArray := prog_12_method_4_code
def yX10_leastOf : MethodName := ⟨RX10, "leastOf", "([III)I"⟩
abbrev cX10_layHeels : ByteArray := prog_12_method_5_code
def yX10_layHeels : MethodName := ⟨RX10, "layHeels", "(LSlabWalk$Course;I[I)I"⟩
abbrev cX10_rowOf : ByteArray := prog_12_method_6_code
def yX10_rowOf : MethodName := ⟨RX10, "rowOf", "(IZ)I"⟩
abbrev cX10_isThereWay : ByteArray := prog_12_method_7_code
def yX10_isThereWay : MethodName := ⟨RX10, "isThereWay", "(LSlabWalk$Course;)Z"⟩
abbrev cX10_firstHeel : ByteArray := prog_12_method_8_code
def yX10_firstHeel : MethodName := ⟨RX10, "firstHeel", "(LSlabWalk$Course;II)I"⟩
abbrev cX10_comesEvenly : ByteArray := prog_12_method_9_code
def yX10_comesEvenly : MethodName := ⟨RX10, "comesEvenly", "(LSlabWalk$Course;I)Z"⟩
abbrev cX10_mostEven : ByteArray := prog_12_method_10_code
def yX10_mostEven : MethodName := ⟨RX10, "mostEven", "(LSlabWalk$Course;I)I"⟩
abbrev cX10_fewestLeaps : ByteArray := prog_12_method_11_code
def yX10_fewestLeaps : MethodName := ⟨RX10, "fewestLeaps", "(LSlabWalk$Course;II)I"⟩
abbrev cX10_followHand : ByteArray := prog_12_method_12_code
def yX10_followHand : MethodName := ⟨RX10, "followHand", "(LSlabWalk$Course;III)Z"⟩
abbrev cX10_winningFrom : ByteArray := prog_12_method_13_code
def yX10_winningFrom : MethodName := ⟨RX10, "winningFrom", "(II)I"⟩
def RX11 : String := "SlabWalk"
def TX11 : u_T := fun k => match k with
  | 0 => ("SlabWalk", "paving", "LSlabWalk$Paving;", false)
  | 1 => ("SlabWalk", "spare", "LSlabWalk$Paving;", false)
  | 2 => ("SlabWalk", "tape", "[B", true)
  | 3 => ("SlabWalk", "reader", "LSlabWalk$Reader;", true)
  | 4 => ("SlabWalk", "lines", "LSlabWalk$Lines;", true)
  | 5 => ("SlabWalk", "course", "LSlabWalk$Course;", true)
  | 6 => ("SlabWalk", "trails", "LSlabWalk$Trails;", true)
  | 7 => ("SlabWalk", "odds", "LSlabWalk$Odds;", true)
  | 8 => ("SlabWalk", "earnest", "LSlabWalk$Earnest;", true)
  | 9 => ("SlabWalk", "sights", "LSlabWalk$Sights;", true)
  | 10 => ("SlabWalk", "lying", "[I", true)
  | 11 => ("SlabWalk", "taped", "I", false)
  | _ => ("SlabWalk", "lie", "I", false)
def tyX11 : Nat → FieldType := fun k => match k with
  | 0 => .object "SlabWalk$Paving"
  | 1 => .object "SlabWalk$Paving"
  | 2 => .array .byte
  | 3 => .object "SlabWalk$Reader"
  | 4 => .object "SlabWalk$Lines"
  | 5 => .object "SlabWalk$Course"
  | 6 => .object "SlabWalk$Trails"
  | 7 => .object "SlabWalk$Odds"
  | 8 => .object "SlabWalk$Earnest"
  | 9 => .object "SlabWalk$Sights"
  | 10 => .array .int
  | 11 => .int
  | _ => .int
abbrev wsX110 : List Cond := u_ws RX11 TX11 13
theorem nmX11 : ∀ a, a < 13 → ∀ b, b < 13 → a ≠ b → (TX11 a).2.1 ≠ (TX11 b).2.1 := by decide +kernel
theorem tyX11_ok : ∀ k, k < 13 → parseFieldDescriptor (TX11 k).2.2.1 = some (tyX11 k) := by decide +kernel
abbrev cX11_init : ByteArray := prog_1_method_1_code
def yX11_init : MethodName := ⟨RX11, "<init>", "()V"⟩
abbrev cX11_feed : ByteArray := prog_1_method_2_code
def yX11_feed : MethodName := ⟨RX11, "feed", "(IIIII)I"⟩
abbrev cX11_end : ByteArray := prog_1_method_3_code
def yX11_end : MethodName := ⟨RX11, "end", "(I)I"⟩
abbrev cX11_pavement : ByteArray := prog_1_method_4_code
def yX11_pavement : MethodName := ⟨RX11, "pavement", "()I"⟩
abbrev cX11_fault : ByteArray := prog_1_method_5_code
def yX11_fault : MethodName := ⟨RX11, "fault", "(I)I"⟩
abbrev cX11_inch : ByteArray := prog_1_method_6_code
def yX11_inch : MethodName := ⟨RX11, "inch", "(III)I"⟩
abbrev cX11_length : ByteArray := prog_1_method_7_code
def yX11_length : MethodName := ⟨RX11, "length", "(I)I"⟩
abbrev cX11_line : ByteArray := prog_1_method_8_code
def yX11_line : MethodName := ⟨RX11, "line", "(III)I"⟩
abbrev cX11_gap : ByteArray := prog_1_method_9_code
def yX11_gap : MethodName := ⟨RX11, "gap", "(III)I"⟩
abbrev cX11_foot : ByteArray := prog_1_method_10_code
def yX11_foot : MethodName := ⟨RX11, "foot", "(IIII)I"⟩
abbrev cX11_fewest : ByteArray := prog_1_method_11_code
def yX11_fewest : MethodName := ⟨RX11, "fewest", "(IIII)I"⟩
abbrev cX11_ways : ByteArray := prog_1_method_12_code
def yX11_ways : MethodName := ⟨RX11, "ways", "(IIII)J"⟩
abbrev cX11_evenest : ByteArray := prog_1_method_13_code
def yX11_evenest : MethodName := ⟨RX11, "evenest", "(IIII)I"⟩
abbrev cX11_even : ByteArray := prog_1_method_14_code
def yX11_even : MethodName := ⟨RX11, "even", "(IIIII)I"⟩
abbrev cX11_evens : ByteArray := prog_1_method_15_code
def yX11_evens : MethodName := ⟨RX11, "evens", "(III)I"⟩
abbrev cX11_first : ByteArray := prog_1_method_16_code
def yX11_first : MethodName := ⟨RX11, "first", "(IIIII)I"⟩
abbrev cX11_begin : ByteArray := prog_1_method_17_code
def yX11_begin : MethodName := ⟨RX11, "begin", "(IIII)I"⟩
abbrev cX11_suits : ByteArray := prog_1_method_18_code
def yX11_suits : MethodName := ⟨RX11, "suits", "(IIIII)J"⟩
abbrev cX11_keeps : ByteArray := prog_1_method_19_code
def yX11_keeps : MethodName := ⟨RX11, "keeps", "(III)I"⟩
abbrev cX11_brave : ByteArray := prog_1_method_20_code
def yX11_brave : MethodName := ⟨RX11, "brave", "(IIIII)J"⟩
abbrev cX11_boldest : ByteArray := prog_1_method_21_code
def yX11_boldest : MethodName := ⟨RX11, "boldest", "(IIIII)I"⟩
abbrev cX11_wager : ByteArray := prog_1_method_22_code
def yX11_wager : MethodName := ⟨RX11, "wager", "(IIII)I"⟩
abbrev cX11_leave : ByteArray := prog_1_method_23_code
def yX11_leave : MethodName := ⟨RX11, "leave", "(II)I"⟩
abbrev cX11_walk : ByteArray := prog_1_method_24_code
def yX11_walk : MethodName := ⟨RX11, "walk", "(III)I"⟩
abbrev cX11_go : ByteArray := prog_1_method_25_code
def yX11_go : MethodName := ⟨RX11, "go", "(I)I"⟩
abbrev cX11_force : ByteArray := prog_1_method_26_code
def yX11_force : MethodName := ⟨RX11, "force", "(I)I"⟩
abbrev cX11_rain : ByteArray := prog_1_method_27_code
def yX11_rain : MethodName := ⟨RX11, "rain", "()Z"⟩
abbrev cX11_day : ByteArray := prog_1_method_28_code
def yX11_day : MethodName := ⟨RX11, "day", "()I"⟩
abbrev cX11_undo : ByteArray := prog_1_method_29_code
def yX11_undo : MethodName := ⟨RX11, "undo", "()Z"⟩
abbrev cX11_redo : ByteArray := prog_1_method_30_code
def yX11_redo : MethodName := ⟨RX11, "redo", "()Z"⟩
abbrev cX11_walker : ByteArray := prog_1_method_31_code
def yX11_walker : MethodName := ⟨RX11, "walker", "(I)I"⟩
abbrev cX11_lies : ByteArray := prog_1_method_32_code
def yX11_lies : MethodName := ⟨RX11, "lies", "(I)I"⟩
abbrev cX11_sight : ByteArray := prog_1_method_33_code
def yX11_sight : MethodName := ⟨RX11, "sight", "(III)I"⟩
abbrev cX11_untell : ByteArray := prog_1_method_34_code
def yX11_untell : MethodName := ⟨RX11, "untell", "(I)Z"⟩
abbrev cX11_later : ByteArray := prog_1_method_35_code
def yX11_later : MethodName := ⟨RX11, "later", "(I)I"⟩
abbrev cX11_fits : ByteArray := prog_1_method_36_code
def yX11_fits : MethodName := ⟨RX11, "fits", "(I)I"⟩
abbrev cX11_chance : ByteArray := prog_1_method_37_code
def yX11_chance : MethodName := ⟨RX11, "chance", "(III)J"⟩
abbrev cX11_image : ByteArray := prog_1_method_38_code
def yX11_image : MethodName := ⟨RX11, "image", "(I)I"⟩
abbrev cX11_back : ByteArray := prog_1_method_39_code
def yX11_back : MethodName := ⟨RX11, "back", "(I)I"⟩
abbrev cX11_about : ByteArray := prog_1_method_40_code
def yX11_about : MethodName := ⟨RX11, "about", "(I)I"⟩
abbrev cX11_startAnew : ByteArray := prog_1_method_41_code
def yX11_startAnew : MethodName := ⟨RX11, "startAnew", "()V"⟩
abbrev cX11_putOnTape : ByteArray := prog_1_method_42_code
def yX11_putOnTape : MethodName := ⟨RX11, "putOnTape", "(I)V"⟩
abbrev cX11_layDown : ByteArray := prog_1_method_43_code
def yX11_layDown : MethodName := ⟨RX11, "layDown", "(I)V"⟩
abbrev cX11_today : ByteArray := prog_1_method_44_code
def yX11_today : MethodName := ⟨RX11, "today", "()I"⟩
abbrev cX11_canAsk : ByteArray := prog_1_method_45_code
def yX11_canAsk : MethodName := ⟨RX11, "canAsk", "(III)Z"⟩
abbrev cX11_canBeBrave : ByteArray := prog_1_method_46_code
def yX11_canBeBrave : MethodName := ⟨RX11, "canBeBrave", "(IIIII)Z"⟩
abbrev cX11_canGo : ByteArray := prog_1_method_47_code
def yX11_canGo : MethodName := ⟨RX11, "canGo", "(I)Z"⟩
abbrev cX11_isLawfulNow : ByteArray := prog_1_method_48_code
def yX11_isLawfulNow : MethodName := ⟨RX11, "isLawfulNow", "()Z"⟩
abbrev cX11_prepare : ByteArray := prog_1_method_49_code
def yX11_prepare : MethodName := ⟨RX11, "prepare", "(III)V"⟩
abbrev cX11_leavesWay : ByteArray := prog_1_method_50_code
def yX11_leavesWay : MethodName := ⟨RX11, "leavesWay", "(II)Z"⟩
abbrev cX11_winningRule : ByteArray := prog_1_method_51_code
def yX11_winningRule : MethodName := ⟨RX11, "winningRule", "(II)I"⟩
abbrev cX11_fitsAll : ByteArray := prog_1_method_52_code
def yX11_fitsAll : MethodName := ⟨RX11, "fitsAll", "(II)Z"⟩
abbrev cX11_isLawfulSight : ByteArray := prog_1_method_53_code
def yX11_isLawfulSight : MethodName := ⟨RX11, "isLawfulSight", "(III)Z"⟩
abbrev cX11_heelsNear : ByteArray := prog_1_method_54_code
def yX11_heelsNear : MethodName := ⟨RX11, "heelsNear", "(IIZ)I"⟩
abbrev cX11_isEndless : ByteArray := prog_1_method_55_code
def yX11_isEndless : MethodName := ⟨RX11, "isEndless", "(III)Z"⟩
abbrev cX11_beginnings : ByteArray := prog_1_method_56_code
def yX11_beginnings : MethodName := ⟨RX11, "beginnings", "(IIII)I"⟩
abbrev cX11_commonDivisor : ByteArray := prog_1_method_57_code
def yX11_commonDivisor : MethodName := ⟨RX11, "commonDivisor", "(JJ)J"⟩
def RX12 : String := "SlabWalkModel"
def TX12 : u_T := fun k => match k with
  | 0 => ("SlabWalkModel", "tape", "[I", true)
  | 1 => ("SlabWalkModel", "taped", "I", false)
  | 2 => ("SlabWalkModel", "fault", "I", false)
  | 3 => ("SlabWalkModel", "faultPlace", "I", false)
  | 4 => ("SlabWalkModel", "at", "I", false)
  | 5 => ("SlabWalkModel", "size", "I", false)
  | 6 => ("SlabWalkModel", "sort", "I", false)
  | 7 => ("SlabWalkModel", "place", "I", false)
  | 8 => ("SlabWalkModel", "number", "I", false)
  | 9 => ("SlabWalkModel", "word", "J", false)
  | 10 => ("SlabWalkModel", "nName", "[J", true)
  | 11 => ("SlabWalkModel", "nStep", "[I", true)
  | 12 => ("SlabWalkModel", "nArg", "[I", true)
  | 13 => ("SlabWalkModel", "nMany", "[I", true)
  | 14 => ("SlabWalkModel", "step", "[I", true)
  | 15 => ("SlabWalkModel", "arg", "[I", true)
  | 16 => ("SlabWalkModel", "many", "[I", true)
  | 17 => ("SlabWalkModel", "open", "[I", true)
  | 18 => ("SlabWalkModel", "values", "[I", true)
  | 19 => ("SlabWalkModel", "form", "I", false)
  | 20 => ("SlabWalkModel", "opens", "I", false)
  | 21 => ("SlabWalkModel", "nUnits", "I", false)
  | 22 => ("SlabWalkModel", "units", "I", false)
  | 23 => ("SlabWalkModel", "ownUnits", "I", false)
  | 24 => ("SlabWalkModel", "deep", "I", false)
  | 25 => ("SlabWalkModel", "nMarks", "[I", true)
  | 26 => ("SlabWalkModel", "nNths", "[I", true)
  | 27 => ("SlabWalkModel", "nInches", "[I", true)
  | 28 => ("SlabWalkModel", "nLongs", "[I", true)
  | 29 => ("SlabWalkModel", "nLength", "[I", true)
  | 30 => ("SlabWalkModel", "nFoot", "[I", true)
  | 31 => ("SlabWalkModel", "nLeast", "[I", true)
  | 32 => ("SlabWalkModel", "nMost", "[I", true)
  | 33 => ("SlabWalkModel", "nLeap", "[I", true)
  | 34 => ("SlabWalkModel", "nSlips", "[I", true)
  | 35 => ("SlabWalkModel", "marks", "[I", true)
  | 36 => ("SlabWalkModel", "nths", "[I", true)
  | 37 => ("SlabWalkModel", "inches", "[I", true)
  | 38 => ("SlabWalkModel", "longs", "[I", true)
  | 39 => ("SlabWalkModel", "lengths", "[I", true)
  | 40 => ("SlabWalkModel", "foots", "[I", true)
  | 41 => ("SlabWalkModel", "leasts", "[I", true)
  | 42 => ("SlabWalkModel", "mosts", "[I", true)
  | 43 => ("SlabWalkModel", "leaps", "[I", true)
  | 44 => ("SlabWalkModel", "slips", "[I", true)
  | 45 => ("SlabWalkModel", "nStreets", "I", false)
  | 46 => ("SlabWalkModel", "nWalkers", "I", false)
  | 47 => ("SlabWalkModel", "nRules", "I", false)
  | 48 => ("SlabWalkModel", "nHand", "I", false)
  | 49 => ("SlabWalkModel", "nSlack", "I", false)
  | 50 => ("SlabWalkModel", "nDraw", "I", false)
  | 51 => ("SlabWalkModel", "nOnce", "I", false)
  | 52 => ("SlabWalkModel", "streets", "I", false)
  | 53 => ("SlabWalkModel", "walkers", "I", false)
  | 54 => ("SlabWalkModel", "rules", "I", false)
  | 55 => ("SlabWalkModel", "hand", "I", false)
  | 56 => ("SlabWalkModel", "slack", "I", false)
  | 57 => ("SlabWalkModel", "lines", "[Z", true)
  | 58 => ("SlabWalkModel", "lawful", "[Z", true)
  | 59 => ("SlabWalkModel", "inchesOf", "I", false)
  | 60 => ("SlabWalkModel", "foot", "I", false)
  | 61 => ("SlabWalkModel", "least", "I", false)
  | 62 => ("SlabWalkModel", "most", "I", false)
  | 63 => ("SlabWalkModel", "leap", "I", false)
  | 64 => ("SlabWalkModel", "need", "[I", true)
  | 65 => ("SlabWalkModel", "lies", "[I", true)
  | 66 => ("SlabWalkModel", "lain", "I", false)
  | 67 => ("SlabWalkModel", "ways", "[J", true)
  | 68 => ("SlabWalkModel", "next", "[J", true)
  | 69 => ("SlabWalkModel", "comes", "[Z", true)
  | 70 => ("SlabWalkModel", "leapt", "[I", true)
  | 71 => ("SlabWalkModel", "leaptNext", "[I", true)
  | 72 => ("SlabWalkModel", "odds", "[J", true)
  | 73 => ("SlabWalkModel", "hasWays", "[Z", true)
  | 74 => ("SlabWalkModel", "wins", "[Z", true)
  | 75 => ("SlabWalkModel", "winsBy", "[I", true)
  | 76 => ("SlabWalkModel", "now", "[I", true)
  | 77 => ("SlabWalkModel", "were", "[I", true)
  | 78 => ("SlabWalkModel", "acts", "I", false)
  | 79 => ("SlabWalkModel", "undone", "I", false)
  | 80 => ("SlabWalkModel", "sightWho", "[I", true)
  | 81 => ("SlabWalkModel", "sightWhere", "[I", true)
  | 82 => ("SlabWalkModel", "sightHeel", "[I", true)
  | 83 => ("SlabWalkModel", "sightTold", "[I", true)
  | 84 => ("SlabWalkModel", "sightUntold", "[I", true)
  | 85 => ("SlabWalkModel", "sights", "I", false)
  | 86 => ("SlabWalkModel", "time", "I", false)
  | 87 => ("SlabWalkModel", "hasBox", "[Z", true)
  | _ => ("SlabWalkModel", "boxes", "[I", true)
def tyX12 : Nat → FieldType := fun k => match k with
  | 0 => .array .int
  | 1 => .int
  | 2 => .int
  | 3 => .int
  | 4 => .int
  | 5 => .int
  | 6 => .int
  | 7 => .int
  | 8 => .int
  | 9 => .long
  | 10 => .array .long
  | 11 => .array .int
  | 12 => .array .int
  | 13 => .array .int
  | 14 => .array .int
  | 15 => .array .int
  | 16 => .array .int
  | 17 => .array .int
  | 18 => .array .int
  | 19 => .int
  | 20 => .int
  | 21 => .int
  | 22 => .int
  | 23 => .int
  | 24 => .int
  | 25 => .array .int
  | 26 => .array .int
  | 27 => .array .int
  | 28 => .array .int
  | 29 => .array .int
  | 30 => .array .int
  | 31 => .array .int
  | 32 => .array .int
  | 33 => .array .int
  | 34 => .array .int
  | 35 => .array .int
  | 36 => .array .int
  | 37 => .array .int
  | 38 => .array .int
  | 39 => .array .int
  | 40 => .array .int
  | 41 => .array .int
  | 42 => .array .int
  | 43 => .array .int
  | 44 => .array .int
  | 45 => .int
  | 46 => .int
  | 47 => .int
  | 48 => .int
  | 49 => .int
  | 50 => .int
  | 51 => .int
  | 52 => .int
  | 53 => .int
  | 54 => .int
  | 55 => .int
  | 56 => .int
  | 57 => .array .boolean
  | 58 => .array .boolean
  | 59 => .int
  | 60 => .int
  | 61 => .int
  | 62 => .int
  | 63 => .int
  | 64 => .array .int
  | 65 => .array .int
  | 66 => .int
  | 67 => .array .long
  | 68 => .array .long
  | 69 => .array .boolean
  | 70 => .array .int
  | 71 => .array .int
  | 72 => .array .long
  | 73 => .array .boolean
  | 74 => .array .boolean
  | 75 => .array .int
  | 76 => .array .int
  | 77 => .array .int
  | 78 => .int
  | 79 => .int
  | 80 => .array .int
  | 81 => .array .int
  | 82 => .array .int
  | 83 => .array .int
  | 84 => .array .int
  | 85 => .int
  | 86 => .int
  | 87 => .array .boolean
  | _ => .array .int
abbrev wsX120 : List Cond := u_ws RX12 TX12 89
theorem nmX12 : ∀ a, a < 89 → ∀ b, b < 89 → a ≠ b → (TX12 a).2.1 ≠ (TX12 b).2.1 := by decide +kernel
theorem tyX12_ok : ∀ k, k < 89 → parseFieldDescriptor (TX12 k).2.2.1 = some (tyX12 k) := by decide +kernel
abbrev cX12_init : ByteArray := prog_14_method_1_code
def yX12_init : MethodName := ⟨RX12, "<init>", "()V"⟩
abbrev cX12_feed : ByteArray := prog_14_method_2_code
def yX12_feed : MethodName := ⟨RX12, "feed", "(IIIII)I"⟩
abbrev cX12_four : ByteArray := prog_14_method_3_code
def yX12_four : MethodName := ⟨RX12, "four", "(I)V"⟩
abbrev cX12_end : ByteArray := prog_14_method_4_code
def yX12_end : MethodName := ⟨RX12, "end", "(I)I"⟩
abbrev cX12_here : ByteArray := prog_14_method_5_code
def yX12_here : MethodName := ⟨RX12, "here", "(I)I"⟩
abbrev cX12_isLetter : ByteArray := prog_14_method_6_code
def yX12_isLetter : MethodName := ⟨RX12, "isLetter", "(I)Z"⟩
abbrev cX12_isDigit : ByteArray := prog_14_method_7_code
def yX12_isDigit : MethodName := ⟨RX12, "isDigit", "(I)Z"⟩
abbrev cX12_isSign : ByteArray := prog_14_method_8_code
def yX12_isSign : MethodName := ⟨RX12, "isSign", "(I)Z"⟩
abbrev cX12_token : ByteArray := prog_14_method_9_code
def yX12_token : MethodName := ⟨RX12, "token", "()V"⟩
abbrev cX12_wrong : ByteArray := prog_14_method_10_code
def yX12_wrong : MethodName := ⟨RX12, "wrong", "(I)V"⟩
abbrev cX12_wrongAt : ByteArray := prog_14_method_11_code
def yX12_wrongAt : MethodName := ⟨RX12, "wrongAt", "(II)V"⟩
abbrev cX12_isWord : ByteArray := prog_14_method_12_code
def yX12_isWord : MethodName := ⟨RX12, "isWord", "(J)Z"⟩
abbrev cX12_isOwn : ByteArray := prog_14_method_13_code
def yX12_isOwn : MethodName := ⟨RX12, "isOwn", "()Z"⟩
abbrev cX12_mark : ByteArray := prog_14_method_14_code
def yX12_mark : MethodName := ⟨RX12, "mark", "()I"⟩
abbrev cX12_isName : ByteArray := prog_14_method_15_code
def yX12_isName : MethodName := ⟨RX12, "isName", "()Z"⟩
abbrev cX12_takes : ByteArray := prog_14_method_16_code
def yX12_takes : MethodName := ⟨RX12, "takes", "(J)Z"⟩
abbrev cX12_want : ByteArray := prog_14_method_17_code
def yX12_want : MethodName := ⟨RX12, "want", "(J)V"⟩
abbrev cX12_toldNumber : ByteArray := prog_14_method_18_code
def yX12_toldNumber : MethodName := ⟨RX12, "toldNumber", "(II)I"⟩
abbrev cX12_told : ByteArray := prog_14_method_19_code
def yX12_told : MethodName := ⟨RX12, "told", "(JII)I"⟩
abbrev cX12_newName : ByteArray := prog_14_method_20_code
def yX12_newName : MethodName := ⟨RX12, "newName", "(II)V"⟩
abbrev cX12_add : ByteArray := prog_14_method_21_code
def yX12_add : MethodName := ⟨RX12, "add", "(II)V"⟩
abbrev cX12_tight : ByteArray := prog_14_method_22_code
def yX12_tight : MethodName := ⟨RX12, "tight", "(I)I"⟩
abbrev cX12_close : ByteArray := prog_14_method_23_code
def yX12_close : MethodName := ⟨RX12, "close", "(I)V"⟩
abbrev cX12_hasRelation : ByteArray := prog_14_method_24_code
def yX12_hasRelation : MethodName := ⟨RX12, "hasRelation", "()Z"⟩
abbrev cX12_mayNot : ByteArray := prog_14_method_25_code
def yX12_mayNot : MethodName := ⟨RX12, "mayNot", "()Z"⟩
abbrev cX12_asked : ByteArray := prog_14_method_26_code
def yX12_asked : MethodName := ⟨RX12, "asked", "()I"⟩
abbrev cX12_isFull : ByteArray := prog_14_method_27_code
def yX12_isFull : MethodName := ⟨RX12, "isFull", "()Z"⟩
abbrev cX12_countUnit : ByteArray := prog_14_method_28_code
def yX12_countUnit : MethodName := ⟨RX12, "countUnit", "()V"⟩
abbrev cX12_openUp : ByteArray := prog_14_method_29_code
def yX12_openUp : MethodName := ⟨RX12, "openUp", "(I)V"⟩
abbrev cX12_unit : ByteArray := prog_14_method_30_code
def yX12_unit : MethodName := ⟨RX12, "unit", "()V"⟩
abbrev cX12_sign : ByteArray := prog_14_method_31_code
def yX12_sign : MethodName := ⟨RX12, "sign", "()I"⟩
abbrev cX12_hasBracket : ByteArray := prog_14_method_32_code
def yX12_hasBracket : MethodName := ⟨RX12, "hasBracket", "()Z"⟩
abbrev cX12_formula : ByteArray := prog_14_method_33_code
def yX12_formula : MethodName := ⟨RX12, "formula", "(I)V"⟩
abbrev cX12_truth : ByteArray := prog_14_method_34_code
def yX12_truth : MethodName := ⟨RX12, "truth", "(Z)I"⟩
abbrev cX12_done : ByteArray := prog_14_method_35_code
def yX12_done : MethodName := ⟨RX12, "done", "(III)I"⟩
abbrev cX12_askOf : ByteArray := prog_14_method_36_code
def yX12_askOf : MethodName := ⟨RX12, "askOf", "(II)I"⟩
abbrev cX12_worked : ByteArray := prog_14_method_37_code
def yX12_worked : MethodName := ⟨RX12, "worked", "(II)I"⟩
abbrev cX12_pave : ByteArray := prog_14_method_38_code
def yX12_pave : MethodName := ⟨RX12, "pave", "(III)V"⟩
abbrev cX12_readSlab : ByteArray := prog_14_method_39_code
def yX12_readSlab : MethodName := ⟨RX12, "readSlab", "(II)V"⟩
abbrev cX12_readStreet : ByteArray := prog_14_method_40_code
def yX12_readStreet : MethodName := ⟨RX12, "readStreet", "()V"⟩
abbrev cX12_readWalker : ByteArray := prog_14_method_41_code
def yX12_readWalker : MethodName := ⟨RX12, "readWalker", "()V"⟩
abbrev cX12_readRule : ByteArray := prog_14_method_42_code
def yX12_readRule : MethodName := ⟨RX12, "readRule", "()V"⟩
abbrev cX12_readSlip : ByteArray := prog_14_method_43_code
def yX12_readSlip : MethodName := ⟨RX12, "readSlip", "()V"⟩
abbrev cX12_isOnce : ByteArray := prog_14_method_44_code
def yX12_isOnce : MethodName := ⟨RX12, "isOnce", "(JI)Z"⟩
abbrev cX12_readLine : ByteArray := prog_14_method_45_code
def yX12_readLine : MethodName := ⟨RX12, "readLine", "()V"⟩
abbrev cX12_readAll : ByteArray := prog_14_method_46_code
def yX12_readAll : MethodName := ⟨RX12, "readAll", "()V"⟩
abbrev cX12_pavement : ByteArray := prog_14_method_47_code
def yX12_pavement : MethodName := ⟨RX12, "pavement", "()I"⟩
abbrev cX12_fault : ByteArray := prog_14_method_48_code
def yX12_fault : MethodName := ⟨RX12, "fault", "(I)I"⟩
abbrev cX12_isIn : ByteArray := prog_14_method_49_code
def yX12_isIn : MethodName := ⟨RX12, "isIn", "(III)Z"⟩
abbrev cX12_isStreet : ByteArray := prog_14_method_50_code
def yX12_isStreet : MethodName := ⟨RX12, "isStreet", "(I)Z"⟩
abbrev cX12_isWalker : ByteArray := prog_14_method_51_code
def yX12_isWalker : MethodName := ⟨RX12, "isWalker", "(I)Z"⟩
abbrev cX12_isRule : ByteArray := prog_14_method_52_code
def yX12_isRule : MethodName := ⟨RX12, "isRule", "(I)Z"⟩
abbrev cX12_areRules : ByteArray := prog_14_method_53_code
def yX12_areRules : MethodName := ⟨RX12, "areRules", "(I)Z"⟩
abbrev cX12_isInch : ByteArray := prog_14_method_54_code
def yX12_isInch : MethodName := ⟨RX12, "isInch", "(II)Z"⟩
abbrev cX12_inch : ByteArray := prog_14_method_55_code
def yX12_inch : MethodName := ⟨RX12, "inch", "(III)I"⟩
abbrev cX12_length : ByteArray := prog_14_method_56_code
def yX12_length : MethodName := ⟨RX12, "length", "(I)I"⟩
abbrev cX12_isLine : ByteArray := prog_14_method_57_code
def yX12_isLine : MethodName := ⟨RX12, "isLine", "(III)Z"⟩
abbrev cX12_line : ByteArray := prog_14_method_58_code
def yX12_line : MethodName := ⟨RX12, "line", "(III)I"⟩
abbrev cX12_gap : ByteArray := prog_14_method_59_code
def yX12_gap : MethodName := ⟨RX12, "gap", "(III)I"⟩
abbrev cX12_layStreet : ByteArray := prog_14_method_60_code
def yX12_layStreet : MethodName := ⟨RX12, "layStreet", "(III)V"⟩
abbrev cX12_doesStand : ByteArray := prog_14_method_61_code
def yX12_doesStand : MethodName := ⟨RX12, "doesStand", "(I)Z"⟩
abbrev cX12_isEnd : ByteArray := prog_14_method_62_code
def yX12_isEnd : MethodName := ⟨RX12, "isEnd", "(I)Z"⟩
abbrev cX12_isAsked : ByteArray := prog_14_method_63_code
def yX12_isAsked : MethodName := ⟨RX12, "isAsked", "(III)Z"⟩
abbrev cX12_foot : ByteArray := prog_14_method_64_code
def yX12_foot : MethodName := ⟨RX12, "foot", "(IIII)I"⟩
abbrev cX12_needOf : ByteArray := prog_14_method_65_code
def yX12_needOf : MethodName := ⟨RX12, "needOf", "(III)I"⟩
abbrev cX12_layNeeds : ByteArray := prog_14_method_66_code
def yX12_layNeeds : MethodName := ⟨RX12, "layNeeds", "()V"⟩
abbrev cX12_layNeed : ByteArray := prog_14_method_67_code
def yX12_layNeed : MethodName := ⟨RX12, "layNeed", "(II)V"⟩
abbrev cX12_lesser : ByteArray := prog_14_method_68_code
def yX12_lesser : MethodName := ⟨RX12, "lesser", "(II)I"⟩
abbrev cX12_lay : ByteArray := prog_14_method_69_code
def yX12_lay : MethodName := ⟨RX12, "lay", "(I)V"⟩
abbrev cX12_hasWay : ByteArray := prog_14_method_70_code
def yX12_hasWay : MethodName := ⟨RX12, "hasWay", "(III)Z"⟩
abbrev cX12_fewest : ByteArray := prog_14_method_71_code
def yX12_fewest : MethodName := ⟨RX12, "fewest", "(IIII)I"⟩
abbrev cX12_capped : ByteArray := prog_14_method_72_code
def yX12_capped : MethodName := ⟨RX12, "capped", "(J)J"⟩
abbrev cX12_ways : ByteArray := prog_14_method_73_code
def yX12_ways : MethodName := ⟨RX12, "ways", "(IIII)J"⟩
abbrev cX12_goOn : ByteArray := prog_14_method_74_code
def yX12_goOn : MethodName := ⟨RX12, "goOn", "(I)V"⟩
abbrev cX12_isEven : ByteArray := prog_14_method_75_code
def yX12_isEven : MethodName := ⟨RX12, "isEven", "(II)Z"⟩
abbrev cX12_evenest : ByteArray := prog_14_method_76_code
def yX12_evenest : MethodName := ⟨RX12, "evenest", "(IIII)I"⟩
abbrev cX12_even : ByteArray := prog_14_method_77_code
def yX12_even : MethodName := ⟨RX12, "even", "(IIIII)I"⟩
abbrev cX12_comesToEnd : ByteArray := prog_14_method_78_code
def yX12_comesToEnd : MethodName := ⟨RX12, "comesToEnd", "(II)Z"⟩
abbrev cX12_evens : ByteArray := prog_14_method_79_code
def yX12_evens : MethodName := ⟨RX12, "evens", "(III)I"⟩
abbrev cX12_isPlain : ByteArray := prog_14_method_80_code
def yX12_isPlain : MethodName := ⟨RX12, "isPlain", "(IIII)Z"⟩
abbrev cX12_areSlabs : ByteArray := prog_14_method_81_code
def yX12_areSlabs : MethodName := ⟨RX12, "areSlabs", "(III)Z"⟩
abbrev cX12_firstOf : ByteArray := prog_14_method_82_code
def yX12_firstOf : MethodName := ⟨RX12, "firstOf", "(IIIII)I"⟩
abbrev cX12_first : ByteArray := prog_14_method_83_code
def yX12_first : MethodName := ⟨RX12, "first", "(IIIII)I"⟩
abbrev cX12_beginOf : ByteArray := prog_14_method_84_code
def yX12_beginOf : MethodName := ⟨RX12, "beginOf", "(IIII)I"⟩
abbrev cX12_begin : ByteArray := prog_14_method_85_code
def yX12_begin : MethodName := ⟨RX12, "begin", "(IIII)I"⟩
abbrev cX12_suits : ByteArray := prog_14_method_86_code
def yX12_suits : MethodName := ⟨RX12, "suits", "(IIIII)J"⟩
abbrev cX12_isHeld : ByteArray := prog_14_method_87_code
def yX12_isHeld : MethodName := ⟨RX12, "isHeld", "(II)Z"⟩
abbrev cX12_keeps : ByteArray := prog_14_method_88_code
def yX12_keeps : MethodName := ⟨RX12, "keeps", "(III)I"⟩
abbrev cX12_keepOn : ByteArray := prog_14_method_89_code
def yX12_keepOn : MethodName := ⟨RX12, "keepOn", "(II)V"⟩
abbrev cX12_allSlips : ByteArray := prog_14_method_90_code
def yX12_allSlips : MethodName := ⟨RX12, "allSlips", "()I"⟩
abbrev cX12_oddsBy : ByteArray := prog_14_method_91_code
def yX12_oddsBy : MethodName := ⟨RX12, "oddsBy", "(IIIJ)J"⟩
abbrev cX12_rest : ByteArray := prog_14_method_92_code
def yX12_rest : MethodName := ⟨RX12, "rest", "(I)J"⟩
abbrev cX12_bestOdds : ByteArray := prog_14_method_93_code
def yX12_bestOdds : MethodName := ⟨RX12, "bestOdds", "(II)J"⟩
abbrev cX12_layBold : ByteArray := prog_14_method_94_code
def yX12_layBold : MethodName := ⟨RX12, "layBold", "(IIIII)Z"⟩
abbrev cX12_brave : ByteArray := prog_14_method_95_code
def yX12_brave : MethodName := ⟨RX12, "brave", "(IIIII)J"⟩
abbrev cX12_boldest : ByteArray := prog_14_method_96_code
def yX12_boldest : MethodName := ⟨RX12, "boldest", "(IIIII)I"⟩
abbrev cX12_layWins : ByteArray := prog_14_method_97_code
def yX12_layWins : MethodName := ⟨RX12, "layWins", "(I)V"⟩
abbrev cX12_layWays : ByteArray := prog_14_method_98_code
def yX12_layWays : MethodName := ⟨RX12, "layWays", "(II)V"⟩
abbrev cX12_wager : ByteArray := prog_14_method_99_code
def yX12_wager : MethodName := ⟨RX12, "wager", "(IIII)I"⟩
abbrev cX12_leave : ByteArray := prog_14_method_100_code
def yX12_leave : MethodName := ⟨RX12, "leave", "(II)I"⟩
abbrev cX12_act : ByteArray := prog_14_method_101_code
def yX12_act : MethodName := ⟨RX12, "act", "()V"⟩
abbrev cX12_exchange : ByteArray := prog_14_method_102_code
def yX12_exchange : MethodName := ⟨RX12, "exchange", "(I)V"⟩
abbrev cX12_stands : ByteArray := prog_14_method_103_code
def yX12_stands : MethodName := ⟨RX12, "stands", "(I)I"⟩
abbrev cX12_walk : ByteArray := prog_14_method_104_code
def yX12_walk : MethodName := ⟨RX12, "walk", "(III)I"⟩
abbrev cX12_go : ByteArray := prog_14_method_105_code
def yX12_go : MethodName := ⟨RX12, "go", "(I)I"⟩
abbrev cX12_force : ByteArray := prog_14_method_106_code
def yX12_force : MethodName := ⟨RX12, "force", "(I)I"⟩
abbrev cX12_rain : ByteArray := prog_14_method_107_code
def yX12_rain : MethodName := ⟨RX12, "rain", "()Z"⟩
abbrev cX12_day : ByteArray := prog_14_method_108_code
def yX12_day : MethodName := ⟨RX12, "day", "()I"⟩
abbrev cX12_undo : ByteArray := prog_14_method_109_code
def yX12_undo : MethodName := ⟨RX12, "undo", "()Z"⟩
abbrev cX12_redo : ByteArray := prog_14_method_110_code
def yX12_redo : MethodName := ⟨RX12, "redo", "()Z"⟩
abbrev cX12_walker : ByteArray := prog_14_method_111_code
def yX12_walker : MethodName := ⟨RX12, "walker", "(I)I"⟩
abbrev cX12_lies : ByteArray := prog_14_method_112_code
def yX12_lies : MethodName := ⟨RX12, "lies", "(I)I"⟩
abbrev cX12_sight : ByteArray := prog_14_method_113_code
def yX12_sight : MethodName := ⟨RX12, "sight", "(III)I"⟩
abbrev cX12_untell : ByteArray := prog_14_method_114_code
def yX12_untell : MethodName := ⟨RX12, "untell", "(I)Z"⟩
abbrev cX12_later : ByteArray := prog_14_method_115_code
def yX12_later : MethodName := ⟨RX12, "later", "(I)I"⟩
abbrev cX12_counts : ByteArray := prog_14_method_116_code
def yX12_counts : MethodName := ⟨RX12, "counts", "(II)Z"⟩
abbrev cX12_fits : ByteArray := prog_14_method_117_code
def yX12_fits : MethodName := ⟨RX12, "fits", "(I)I"⟩
abbrev cX12_common : ByteArray := prog_14_method_118_code
def yX12_common : MethodName := ⟨RX12, "common", "(JJ)J"⟩
abbrev cX12_chance : ByteArray := prog_14_method_119_code
def yX12_chance : MethodName := ⟨RX12, "chance", "(III)J"⟩
abbrev cX12_isBox : ByteArray := prog_14_method_120_code
def yX12_isBox : MethodName := ⟨RX12, "isBox", "(I)Z"⟩
abbrev cX12_image : ByteArray := prog_14_method_121_code
def yX12_image : MethodName := ⟨RX12, "image", "(I)I"⟩
abbrev cX12_back : ByteArray := prog_14_method_122_code
def yX12_back : MethodName := ⟨RX12, "back", "(I)I"⟩
abbrev cX12_about : ByteArray := prog_14_method_123_code
def yX12_about : MethodName := ⟨RX12, "about", "(I)I"⟩
def RJx145de : String := "java/io/Serializable"
def TJx145de : u_T := fun k => match k with
  | _ => ("", "", "", false)
def tyJx145de : Nat → FieldType := fun k => match k with
  | _ => .int
abbrev wsJx145de0 : List Cond := u_ws RJx145de TJx145de 0
theorem nmJx145de : ∀ a, a < 0 → ∀ b, b < 0 → a ≠ b → (TJx145de a).2.1 ≠ (TJx145de b).2.1 := by decide +kernel
theorem tyJx145de_ok : ∀ k, k < 0 → parseFieldDescriptor (TJx145de k).2.2.1 = some (tyJx145de k) := by decide +kernel
def RJx9f9b0 : String := "java/lang/CharSequence"
def TJx9f9b0 : u_T := fun k => match k with
  | _ => ("", "", "", false)
def tyJx9f9b0 : Nat → FieldType := fun k => match k with
  | _ => .int
abbrev wsJx9f9b00 : List Cond := u_ws RJx9f9b0 TJx9f9b0 0
theorem nmJx9f9b0 : ∀ a, a < 0 → ∀ b, b < 0 → a ≠ b → (TJx9f9b0 a).2.1 ≠ (TJx9f9b0 b).2.1 := by decide +kernel
theorem tyJx9f9b0_ok : ∀ k, k < 0 → parseFieldDescriptor (TJx9f9b0 k).2.2.1 = some (tyJx9f9b0 k) := by decide +kernel
def RJ11 : String := "java/lang/Character"
def TJ11 : u_T := fun k => match k with
  | _ => ("", "", "", false)
def tyJ11 : Nat → FieldType := fun k => match k with
  | _ => .int
abbrev wsJ110 : List Cond := u_ws RJ11 TJ11 0
theorem nmJ11 : ∀ a, a < 0 → ∀ b, b < 0 → a ≠ b → (TJ11 a).2.1 ≠ (TJ11 b).2.1 := by decide +kernel
theorem tyJ11_ok : ∀ k, k < 0 → parseFieldDescriptor (TJ11 k).2.2.1 = some (tyJ11 k) := by decide +kernel
abbrev cJ11_isValidCodePoint_9a6ad : ByteArray := prog_15_method_11_code
def yJ11_isValidCodePoint_9a6ad : MethodName := ⟨RJ11, "isValidCodePoint", "(I)Z"⟩
abbrev cJ11_highSurrogate_5068e : ByteArray := prog_15_method_28_code
def yJ11_highSurrogate_5068e : MethodName := ⟨RJ11, "highSurrogate", "(I)C"⟩
abbrev cJ11_lowSurrogate_5068e : ByteArray := prog_15_method_29_code
def yJ11_lowSurrogate_5068e : MethodName := ⟨RJ11, "lowSurrogate", "(I)C"⟩
def RJxb160c : String := "java/lang/Comparable"
def TJxb160c : u_T := fun k => match k with
  | _ => ("", "", "", false)
def tyJxb160c : Nat → FieldType := fun k => match k with
  | _ => .int
abbrev wsJxb160c0 : List Cond := u_ws RJxb160c TJxb160c 0
theorem nmJxb160c : ∀ a, a < 0 → ∀ b, b < 0 → a ≠ b → (TJxb160c a).2.1 ≠ (TJxb160c b).2.1 := by decide +kernel
theorem tyJxb160c_ok : ∀ k, k < 0 → parseFieldDescriptor (TJxb160c k).2.2.1 = some (tyJxb160c k) := by decide +kernel
def RJ9 : String := "java/lang/Math"
def TJ9 : u_T := fun k => match k with
  | _ => ("", "", "", false)
def tyJ9 : Nat → FieldType := fun k => match k with
  | _ => .int
abbrev wsJ90 : List Cond := u_ws RJ9 TJ9 0
theorem nmJ9 : ∀ a, a < 0 → ∀ b, b < 0 → a ≠ b → (TJ9 a).2.1 ≠ (TJ9 b).2.1 := by decide +kernel
theorem tyJ9_ok : ∀ k, k < 0 → parseFieldDescriptor (TJ9 k).2.2.1 = some (tyJ9 k) := by decide +kernel
abbrev cJ9_max_7cf53 : ByteArray := prog_16_method_65_code
def yJ9_max_7cf53 : MethodName := ⟨RJ9, "max", "(II)I"⟩
abbrev cJ9_min_7cf53 : ByteArray := prog_16_method_69_code
def yJ9_min_7cf53 : MethodName := ⟨RJ9, "min", "(II)I"⟩
abbrev cJ9_min_f86c9 : ByteArray := prog_16_method_70_code
def yJ9_min_f86c9 : MethodName := ⟨RJ9, "min", "(JJ)J"⟩
def RJ0 : String := "java/lang/String"
def TJ0 : u_T := fun k => match k with
  | _ => ("", "", "", false)
def tyJ0 : Nat → FieldType := fun k => match k with
  | _ => .int
abbrev wsJ00 : List Cond := u_ws RJ0 TJ0 0
theorem nmJ0 : ∀ a, a < 0 → ∀ b, b < 0 → a ≠ b → (TJ0 a).2.1 ≠ (TJ0 b).2.1 := by decide +kernel
theorem tyJ0_ok : ∀ k, k < 0 → parseFieldDescriptor (TJ0 k).2.2.1 = some (tyJ0 k) := by decide +kernel
abbrev cJ0_length_8abf5 : ByteArray := prog_17_method_54_code
def yJ0_length_8abf5 : MethodName := ⟨RJ0, "length", "()I"⟩
abbrev cJ0_charAt_5068e : ByteArray := prog_17_method_56_code
def yJ0_charAt_5068e : MethodName := ⟨RJ0, "charAt", "(I)C"⟩
abbrev cJ0_indexOf_0f7a4 : ByteArray := prog_17_method_79_code
def yJ0_indexOf_0f7a4 : MethodName := ⟨RJ0, "indexOf", "(I)I"⟩
abbrev cJ0_indexOf_7cf53 : ByteArray := prog_17_method_80_code
def yJ0_indexOf_7cf53 : MethodName := ⟨RJ0, "indexOf", "(II)I"⟩
abbrev cJ0_coder_7d493 : ByteArray := prog_17_method_152_code
def yJ0_coder_7d493 : MethodName := ⟨RJ0, "coder", "()B"⟩
abbrev cJ0_isLatin1_aae02 : ByteArray := prog_17_method_154_code
def yJ0_isLatin1_aae02 : MethodName := ⟨RJ0, "isLatin1", "()Z"⟩
abbrev cJ0_checkIndex_df160 : ByteArray := prog_17_method_155_code
def yJ0_checkIndex_df160 : MethodName := ⟨RJ0, "checkIndex", "(II)V"⟩
abbrev cJ0_checkBoundsBeginEnd_23922 : ByteArray := prog_17_method_158_code
def yJ0_checkBoundsBeginEnd_23922 : MethodName := ⟨RJ0, "checkBoundsBeginEnd", "(III)V"⟩
def RJ1 : String := "java/lang/StringLatin1"
def TJ1 : u_T := fun k => match k with
  | _ => ("", "", "", false)
def tyJ1 : Nat → FieldType := fun k => match k with
  | _ => .int
abbrev wsJ10 : List Cond := u_ws RJ1 TJ1 0
theorem nmJ1 : ∀ a, a < 0 → ∀ b, b < 0 → a ≠ b → (TJ1 a).2.1 ≠ (TJ1 b).2.1 := by decide +kernel
theorem tyJ1_ok : ∀ k, k < 0 → parseFieldDescriptor (TJ1 k).2.2.1 = some (tyJ1 k) := by decide +kernel
abbrev cJ1_charAt_3b067 : ByteArray := prog_18_method_2_code
def yJ1_charAt_3b067 : MethodName := ⟨RJ1, "charAt", "([BI)C"⟩
abbrev cJ1_canEncode_9a6ad : ByteArray := prog_18_method_4_code
def yJ1_canEncode_9a6ad : MethodName := ⟨RJ1, "canEncode", "(I)Z"⟩
abbrev cJ1_indexOf_4cfef : ByteArray := prog_18_method_22_code
def yJ1_indexOf_4cfef : MethodName := ⟨RJ1, "indexOf", "([BIII)I"⟩
abbrev cJ1_indexOfChar_4cfef : ByteArray := prog_18_method_23_code
def yJ1_indexOfChar_4cfef : MethodName := ⟨RJ1, "indexOfChar", "([BIII)I"⟩
def RJ2 : String := "java/lang/StringUTF16"
def TJ2 : u_T := fun k => match k with
  | _ => ("", "", "", false)
def tyJ2 : Nat → FieldType := fun k => match k with
  | _ => .int
abbrev wsJ20 : List Cond := u_ws RJ2 TJ2 0
theorem nmJ2 : ∀ a, a < 0 → ∀ b, b < 0 → a ≠ b → (TJ2 a).2.1 ≠ (TJ2 b).2.1 := by decide +kernel
theorem tyJ2_ok : ∀ k, k < 0 → parseFieldDescriptor (TJ2 k).2.2.1 = some (tyJ2 k) := by decide +kernel
abbrev cJ2_getChar_3b067 : ByteArray := prog_19_method_5_code
def yJ2_getChar_3b067 : MethodName := ⟨RJ2, "getChar", "([BI)C"⟩
abbrev cJ2_length_9d52b : ByteArray := prog_19_method_6_code
def yJ2_length_9d52b : MethodName := ⟨RJ2, "length", "([B)I"⟩
abbrev cJ2_indexOf_4cfef : ByteArray := prog_19_method_40_code
def yJ2_indexOf_4cfef : MethodName := ⟨RJ2, "indexOf", "([BIII)I"⟩
abbrev cJ2_indexOfChar_4cfef : ByteArray := prog_19_method_47_code
def yJ2_indexOfChar_4cfef : MethodName := ⟨RJ2, "indexOfChar", "([BIII)I"⟩
abbrev cJ2_indexOfCharUnsafe_4cfef : ByteArray := prog_19_method_48_code
def yJ2_indexOfCharUnsafe_4cfef : MethodName := ⟨RJ2, "indexOfCharUnsafe", "([BIII)I"⟩
abbrev cJ2_indexOfSupplementary_4cfef : ByteArray := prog_19_method_49_code
def yJ2_indexOfSupplementary_4cfef : MethodName := ⟨RJ2, "indexOfSupplementary", "([BIII)I"⟩
abbrev cJ2_charAt_3b067 : ByteArray := prog_19_method_83_code
def yJ2_charAt_3b067 : MethodName := ⟨RJ2, "charAt", "([BI)C"⟩
abbrev cJ2_checkIndex_2214a : ByteArray := prog_19_method_91_code
def yJ2_checkIndex_2214a : MethodName := ⟨RJ2, "checkIndex", "(I[B)V"⟩
abbrev cJ2_checkBoundsBeginEnd_d044e : ByteArray := prog_19_method_93_code
def yJ2_checkBoundsBeginEnd_d044e : MethodName := ⟨RJ2, "checkBoundsBeginEnd", "(II[B)V"⟩
def RJ10 : String := "java/lang/System"
def TJ10 : u_T := fun k => match k with
  | _ => ("", "", "", false)
def tyJ10 : Nat → FieldType := fun k => match k with
  | _ => .int
abbrev wsJ100 : List Cond := u_ws RJ10 TJ10 0
theorem nmJ10 : ∀ a, a < 0 → ∀ b, b < 0 → a ≠ b → (TJ10 a).2.1 ≠ (TJ10 b).2.1 := by decide +kernel
theorem tyJ10_ok : ∀ k, k < 0 → parseFieldDescriptor (TJ10 k).2.2.1 = some (tyJ10 k) := by decide +kernel
def RJxfd54e : String := "java/lang/constant/Constable"
def TJxfd54e : u_T := fun k => match k with
  | _ => ("", "", "", false)
def tyJxfd54e : Nat → FieldType := fun k => match k with
  | _ => .int
abbrev wsJxfd54e0 : List Cond := u_ws RJxfd54e TJxfd54e 0
theorem nmJxfd54e : ∀ a, a < 0 → ∀ b, b < 0 → a ≠ b → (TJxfd54e a).2.1 ≠ (TJxfd54e b).2.1 := by decide +kernel
theorem tyJxfd54e_ok : ∀ k, k < 0 → parseFieldDescriptor (TJxfd54e k).2.2.1 = some (tyJxfd54e k) := by decide +kernel
def RJx3cf43 : String := "java/lang/constant/ConstantDesc"
def TJx3cf43 : u_T := fun k => match k with
  | _ => ("", "", "", false)
def tyJx3cf43 : Nat → FieldType := fun k => match k with
  | _ => .int
abbrev wsJx3cf430 : List Cond := u_ws RJx3cf43 TJx3cf43 0
theorem nmJx3cf43 : ∀ a, a < 0 → ∀ b, b < 0 → a ≠ b → (TJx3cf43 a).2.1 ≠ (TJx3cf43 b).2.1 := by decide +kernel
theorem tyJx3cf43_ok : ∀ k, k < 0 → parseFieldDescriptor (TJx3cf43 k).2.2.1 = some (tyJx3cf43 k) := by decide +kernel
def RJ7 : String := "java/util/Arrays"
def TJ7 : u_T := fun k => match k with
  | _ => ("", "", "", false)
def tyJ7 : Nat → FieldType := fun k => match k with
  | _ => .int
abbrev wsJ70 : List Cond := u_ws RJ7 TJ7 0
theorem nmJ7 : ∀ a, a < 0 → ∀ b, b < 0 → a ≠ b → (TJ7 a).2.1 ≠ (TJ7 b).2.1 := by decide +kernel
theorem tyJ7_ok : ∀ k, k < 0 → parseFieldDescriptor (TJ7 k).2.2.1 = some (tyJ7 k) := by decide +kernel
abbrev cJ7_fill_53178 : ByteArray := prog_21_method_103_code
def yJ7_fill_53178 : MethodName := ⟨RJ7, "fill", "([II)V"⟩
def RJ3 : String := "jdk/internal/util/Preconditions"
def TJ3 : u_T := fun k => match k with
  | _ => ("", "", "", false)
def tyJ3 : Nat → FieldType := fun k => match k with
  | _ => .int
abbrev wsJ30 : List Cond := u_ws RJ3 TJ3 0
theorem nmJ3 : ∀ a, a < 0 → ∀ b, b < 0 → a ≠ b → (TJ3 a).2.1 ≠ (TJ3 b).2.1 := by decide +kernel
theorem tyJ3_ok : ∀ k, k < 0 → parseFieldDescriptor (TJ3 k).2.2.1 = some (tyJ3 k) := by decide +kernel
abbrev cJ3_checkIndex_8e157 : ByteArray := prog_22_method_11_code
def yJ3_checkIndex_8e157 : MethodName := ⟨RJ3, "checkIndex", "(IILjava/util/function/BiFunction;)I"⟩
abbrev cJ3_checkFromToIndex_8c36e : ByteArray := prog_22_method_12_code
def yJ3_checkFromToIndex_8c36e : MethodName := ⟨RJ3, "checkFromToIndex", "(IIILjava/util/function/BiFunction;)I"⟩
def RL : String := "SlabWalkLaw"
abbrev cL_law : ByteArray := code
def yL_law : MethodName := ⟨RL, "law", "([I)Z"⟩
end
section
abbrev classes : List vw_C := [(RX0, TX0, 8), (RX1, TX1, 6), (RX2, TX2, 3), (RX3, TX3, 5), (RX4, TX4, 4), (RX5, TX5, 7), (RX6, TX6, 17), (RX7, TX7, 10), (RX8, TX8, 7), (RX9, TX9, 9), (RX10, TX10, 5), (RX11, TX11, 13), (RX12, TX12, 89)]
/-- the good words of the tables: every method's contract takes all of them -/
def gd : List Cond := lw_tbl.filter goodWord
theorem gd_mem {w : Cond} (i : Nat) (h : lw_tbl[i]? = some w) (g : goodWord w = true) : w ∈ gd := List.mem_filter.mpr ⟨List.mem_of_getElem? h, g⟩
theorem gd_r (ws : List Cond) (ps : List Nat) (hp : ws = ps.filterMap (fun i => lw_tbl[i]?)) (h : ws.all goodWord = true) : ∀ w ∈ ws, w ∈ gd := by
  intro w hw
  have h1 := List.all_eq_true.mp h w hw
  rw [hp] at hw
  obtain ⟨i, -, hi⟩ := List.mem_filterMap.mp hw
  exact gd_mem i hi h1
theorem gd_good {w : Cond} (h : w ∈ gd) : (w.onTables && w.keeps) = true ∨ ∃ ty, w = .arrayClass ty := good_of_word (List.mem_filter.mp h).2
abbrev WS (y : MethodName) (c : ByteArray) (n : Nat) (r : Option FieldType) : List Cond := .code y c n r :: gd
theorem gd_in {big ws : List Cond} (hb : ∀ w ∈ gd, w ∈ big) (h : ∀ w ∈ ws, w ∈ gd) : GoodIn big ws := fun w hw => ⟨hb w (h w hw), gd_good (h w hw)⟩
theorem gd_WS {y : MethodName} {c : ByteArray} {n : Nat} {r : Option FieldType} (hc : Cond.code y c n r ∈ gd) : ∀ w ∈ WS y c n r, w ∈ gd := fun w h => (List.mem_cons.mp h).elim (fun e => e ▸ hc) id
theorem gd_V {big : List Cond} {own C : String} {idx : Nat} {y : MethodName} {c : ByteArray} {n : Nat} {r : Option FieldType} (hb : ∀ w ∈ gd, w ∈ big) (h1 : Cond.methodLink own idx y ∈ gd) (h2 : Cond.instanceMethod y ∈ gd) (h3 : Cond.selects C y y ∈ gd) (h4 : Cond.initialized C ∈ gd) (hc : Cond.code y c n r ∈ gd) : GoodIn big (wsV own idx C y (WS y c n r)) :=
  gd_in hb (fun w hw => by
    unfold wsV at hw
    rcases List.mem_append.mp hw with h | h
    · simp only [List.mem_cons, List.not_mem_nil, or_false] at h
      rcases h with rfl | rfl | rfl | rfl
      · exact h1
      · exact h2
      · exact h3
      · exact h4
    · exact gd_WS hc w h)
theorem gd_S {big : List Cond} {own : String} {idx : Nat} {y : MethodName} {c : ByteArray} {n : Nat} {r : Option FieldType} (hb : ∀ w ∈ gd, w ∈ big) (h1 : Cond.methodLink own idx y ∈ gd) (h2 : Cond.static y ∈ gd) (h4 : Cond.initialized y.cls ∈ gd) (hc : Cond.code y c n r ∈ gd) : GoodIn big (va_wsS own idx y (WS y c n r)) :=
  gd_in hb (fun w hw => by
    unfold va_wsS at hw
    rcases List.mem_append.mp hw with h | h
    · simp only [List.mem_cons, List.not_mem_nil, or_false] at h
      rcases h with rfl | rfl | rfl
      · exact h1
      · exact h2
      · exact h4
    · exact gd_WS hc w h)
/-- words that aren't kept by themselves: the nest's private constructors, the class of int[][] -/
def va_AOA (t : FieldType) (U : State) : Prop := (Cond.arrayOver (.array t)).before #[] U = true
def cX (U : State) : Prop := va_AOA .int U ∧ va_Nw (.methodLinkNest RX11 43 yX0_init RX11) U ∧ va_Nw (.methodLinkNest RX11 50 yX10_init RX11) U ∧ va_Nw (.methodLinkNest RX10 18 yX4_init RX11) U ∧ va_Nw (.methodLinkNest RX11 57 yX5_init RX11) U ∧ va_Nw (.methodLinkNest RX11 64 yX1_init RX11) U ∧ va_Nw (.methodLinkNest RX11 71 yX8_init RX11) U
theorem cX.warm {s U : State} (hW : s.WarmedH U.vm) (h : cX s) : cX U := by
  obtain ⟨h0, h1, h2, h3, h4, h5, h6⟩ := h
  exact ⟨over_moved hW.alike h0, va_Nw.warmM hW h1, va_Nw.warmM hW h2, va_Nw.warmM hW h3, va_Nw.warmM hW h4, va_Nw.warmM hW h5, va_Nw.warmM hW h6⟩
theorem cX.calling {U : State} {g : JFrame} {mk : MethodId} {a : Array Value} (h : cX U) : cX (U.calling g mk a) := by
  obtain ⟨h0, h1, h2, h3, h4, h5, h6⟩ := h
  exact ⟨over_moved (Vm.Alike.refl U.vm) h0, va_Nw.same rfl rfl h1, va_Nw.same rfl rfl h2, va_Nw.same rfl rfl h3, va_Nw.same rfl rfl h4, va_Nw.same rfl rfl h5, va_Nw.same rfl rfl h6⟩
abbrev TY (k : ClassId × ClassId × ClassId × ClassId) : List (ClassId × FieldType) := [(k.1, .byte), (k.2.1, .int), (k.2.2.1, .long), (k.2.2.2, .boolean)]
/-- where a contract starts: the cells ws, all classes known, the heap of size sz -/
def cP (D : va_G) (k : ClassId × ClassId × ClassId × ClassId) (ws : va_W) (sz : Nat) (U : State) : Prop := U.heap.size = sz ∧ va_P D classes ws U.heap ∧ (va_K D classes (TY k) U ∧ cX U) ∧ va_D (fun _ => True) ws
/-- the cells where a contract ends -/
def cB (D : va_G) (A : Nat → Prop) (ws : va_W) (t : State) : Prop := va_P D classes ws t.heap ∧ va_D A ws
theorem cP_blind {D : va_G} {k : ClassId × ClassId × ClassId × ClassId} {ws : va_W} {sz : Nat} {av : List Value} : FrameBlind (va_Pc av (cP D k ws sz)) := fun a U g mk q => by
  obtain ⟨q0, q1, qP, ⟨qK, qX⟩, qD⟩ := q
  exact ⟨q0, q1, qP, ⟨va_K.moved (u := U) (U := U.calling g mk a) (Vm.Alike.refl U.vm) qK, qX.calling⟩, qD⟩
theorem cP_S {D : va_G} {k : ClassId × ClassId × ClassId × ClassId} {ws : va_W} {A : Nat → Prop} {As : List Value} {s : State} {H : Heap} (hP : va_P D classes ws H) (hK : va_K D classes (TY k) s ∧ cX s) (hD : va_D A ws) : PreS s H (va_Pc As (cP D k ws H.size)) As :=
  ⟨cP_blind, fun U hU hW => ⟨rfl, by rw [hU], by rw [hU]; exact hP, ⟨va_K.moved hW.alike hK.1, hK.2.warm hW⟩, hD.weaken (fun _ _ _ _ => trivial)⟩⟩
theorem cP_V {D : va_G} {k : ClassId × ClassId × ClassId × ClassId} {ws : va_W} {A : Nat → Prop} {As : List Value} {s : State} {H : Heap} {b q0 ci : Nat} {q : vw_C} {fs : List Value} (hP : va_P D classes ws H) (hK : va_K D classes (TY k) s ∧ cX s) (hD : va_D A ws) (hc : classes[ci]? = some q) (he : ws[q0]? = some (b, .inr (ci, fs))) : PreV s H q.1 b (va_Pc (.ref b :: As) (cP D k ws H.size)) As :=
  ⟨cP_blind, va_recv hK.1 hP hc he, fun U hU hW => ⟨rfl, by rw [hU], by rw [hU]; exact hP, ⟨va_K.moved hW.alike hK.1, hK.2.warm hW⟩, hD.weaken (fun _ _ _ _ => trivial)⟩⟩
theorem cB_of {D : va_G} {A : Nat → Prop} {ws : va_W} {t : State} {H : Heap} (ht : t.heap = H) (hP : va_P D classes ws H) (hD : va_D A ws) : cB D A ws t := ⟨by rw [ht]; exact hP, hD⟩
/-- put over known fields -/
theorem fs_ne {fs : List Value} {k j : Nat} {v w : Value} (h : fs[j]? = some w) (hk : k ≠ j) : (fs.set k v)[j]? = some w := by rw [List.getElem?_set_ne hk]; exact h
theorem fs_eq {fs : List Value} {k : Nat} {v w : Value} (h : fs[k]? = some w) : (fs.set k v)[k]? = some v := by rw [List.getElem?_set_self (List.getElem?_eq_some_iff.mp h).1]
theorem fs_lt {fs : List Value} {k : Nat} {w : Value} (h : fs[k]? = some w) : k < fs.length := (List.getElem?_eq_some_iff.mp h).1
section NEWT
variable {p : Program} {l : Launch} {e : Env} {R : Room} {s : State} {m : MethodId} {args : Array Value} {below : List Frame} {meth : Method} {c : Code} {H : Heap} {locs : List Loc} {cells slots : Nat} {Q : State → Prop}
variable {cc : ByteArray} {pc : Nat} {ls : Array Slot} {rest : List Value} {D : va_G} {cl : List vw_C} {A : Nat → Prop} {tys : List (ClassId × FieldType)} {ws : va_W} {H0 : Heap}
/-- a new array of a primitive type whose class is known -/
theorem va_newaT (hexec : p.tables.exec = Jvm.exec) (hb : c.code = cc) {atype : ArrayType} (harr : (Cond.arrayClass (newarray.typeOf atype)).before args s = true) {ty : FieldType} (hty : newarray.typeOf atype = ty) (hra : ∀ (U : State) (c1 c2 : ClassId), va_RA U c1 ty → va_RA U c2 ty → c1 = c2) (hK : va_K D cl tys s) (hP : va_P D cl ws H) (hD : va_D A ws) (hS : va_S A H0 H locs) (hA : ∀ q, H0.size ≤ q → A q) (t0 : Nat) {cA : ClassId} (ht : tys[t0]? = some (cA, ty))
    {n : Int32} {N' : Nat} {a0 : vp_A} (ha : ∀ cA : ClassId, vp_cell cA a0 = arrV cA N' (fun _ => defaultValue ty)) (hn : ¬ n < 0) (hN : n.toNatClampNeg = N') (hbytes : N' * componentBytes ty ≤ 536870912) (hcells : cells + 1 ≤ R.cells) (hslots : slots + N' ≤ R.slots) (hdg : decode cc pc = .ok (.newarray atype, 2))
    (kk : ∀ (q : Nat) (H1 : Heap), va_P D cl (ws ++ [(q, .inl (cA, a0))]) H1 → va_D A (ws ++ [(q, .inl (cA, a0))]) → va_S A H0 H1 locs →
      W p l e R s m args below meth c H1 locs (cells + 1) (slots + N') Q (F0 m (pc + 2) ls (.ref q :: rest))) : W p l e R s m args below meth c H locs cells slots Q (F0 m pc ls (.int n :: rest)) := by
  refine va_newa hexec hb harr hty hK hP hD hS hA ha hn hN hbytes hcells hslots hdg (fun q c2 H1 hK2 hP2 hD2 hS2 => ?_)
  have e1 := (hK.2 t0 _ ht).2
  have e2 := (hK2.2 tys.length (c2, ty) (by rw [List.getElem?_append_right (Nat.le_refl _), Nat.sub_self]; rfl)).2
  have e : c2 = cA := hra s c2 cA e2 e1
  subst e
  exact kk q H1 hP2 hD2 hS2
end NEWT
theorem ra_int (U : State) (c1 c2 : ClassId) (h1 : va_RA U c1 .int) (h2 : va_RA U c2 .int) : c1 = c2 := Option.some.inj (Eq.trans (Eq.symm h1) h2)
theorem ra_byte (U : State) (c1 c2 : ClassId) (h1 : va_RA U c1 .byte) (h2 : va_RA U c2 .byte) : c1 = c2 := Option.some.inj (Eq.trans (Eq.symm h1) h2)
theorem ra_long (U : State) (c1 c2 : ClassId) (h1 : va_RA U c1 .long) (h2 : va_RA U c2 .long) : c1 = c2 := Option.some.inj (Eq.trans (Eq.symm h1) h2)
theorem ra_boolean (U : State) (c1 c2 : ClassId) (h1 : va_RA U c1 .boolean) (h2 : va_RA U c2 .boolean) : c1 = c2 := Option.some.inj (Eq.trans (Eq.symm h1) h2)
section MNA
variable {p : Program} {l : Launch} {e : Env} {R : Room} {s : State} {m : MethodId} {args : Array Value} {below : List Frame} {meth : Method} {c : Code} {H : Heap} {locs : List Loc} {cells slots : Nat} {Q : State → Prop}
variable {cc : ByteArray} {pc : Nat} {ls : Array Slot} {rest : List Value} {D : va_G} {cl : List vw_C} {A : Nat → Prop} {tys : List (ClassId × FieldType)} {ws : va_W} {H0 : Heap}
/-- new T[n][k] whose cells nobody asks for again -/
theorem va_mna0 (hexec : p.tables.exec = Jvm.exec) (hb : c.code = cc) {own : String} {index : Nat} {ty : FieldType} (hown : s.vm.findClass own = some m.cls) (hclink : (Cond.classLink own index ("[" ++ (FieldType.array ty).toString)).before args s = true) (hover : va_AOA ty s) (harr : (Cond.arrayClass ty).before args s = true)
    (hP : va_P D cl ws H) (hS : va_S A H0 H locs) {n k : Int32} {N' K' : Nat} (hn : ¬ n < 0) (hk : ¬ k < 0) (hN : n.toNatClampNeg = N') (hM : k.toNatClampNeg = K')
    (hb1 : N' * 4 ≤ 536870912) (hb2 : K' * componentBytes ty ≤ 536870912) (hb3 : K' ≤ 536870912) (hdf : fits ty (defaultValue ty) = true) (hdd : (defaultValue ty).isDefault = true) (hcells : cells + (1 + N') ≤ R.cells) (hslots : slots + (N' + N' * K') ≤ R.slots) (hdg : decode cc pc = .ok (.multianewarray index 2, 4))
    (kk : ∀ (q : Nat) (H1 : Heap), va_P D cl ws H1 → va_S A H0 H1 locs → W p l e R s m args below meth c H1 locs (cells + 1 + N') (slots + N' + N' * K') Q (F0 m (pc + 4) ls (.ref q :: rest))) : W p l e R s m args below meth c H locs cells slots Q (F0 m pc ls (.int k :: .int n :: rest)) := by
  subst hN
  subst hM
  intro T hT Xs
  obtain ⟨vm₁, cA, comp, -, fA, fC, hO, -, X', step⟩ := Jvm.Stand.multianewarray2F Xs hexec hown hclink (show (Cond.arrayOver (.array ty)).before args s = true from hover) harr (g := F0 m pc ls (.int k :: .int n :: rest)) rfl (by rw [hb]; exact hdg) rfl hn hk hb1 hb2 hb3 hdf hdd hcells hslots
  generalize hF : Jvm.Free.Multi.fill (T.setVm vm₁) cA comp n.toNatClampNeg k.toNatClampNeg (defaultValue ty) n.toNatClampNeg = F at X' step
  have hTh : (T.setVm vm₁).heap = H := hT
  obtain ⟨f1, f2, -, -⟩ := Jvm.Free.Multi.fill_facts (T.setVm vm₁) cA comp n.toNatClampNeg k.toNatClampNeg (defaultValue ty) n.toNatClampNeg
  rw [hF, hTh] at f1 f2
  have hold : ∀ x : Nat, x < H.size → F.heap[x]? = H[x]? := fun x hx => by
    have := Jvm.Free.Multi.fill_old (T.setVm vm₁) cA comp n.toNatClampNeg k.toNatClampNeg (defaultValue ty) (a := x) (by rw [hTh]; exact hx) n.toNatClampNeg
    rw [hF, hTh] at this
    exact this
  have hP0 : va_P D cl ws F.heap := hP.kept (fun k9 x hx => hold x.1 ((hP k9 x hx).lt))
  obtain ⟨t, a1, b1⟩ := kk H.size F.heap hP0 ⟨by rw [f1]; exact Nat.le_trans hS.1 (by omega), fun x h1 h2 => (hold x (Nat.lt_of_lt_of_le h1 hS.1)).trans (hS.2.1 x h1 h2), hS.2.2⟩ F rfl X'
  refine ⟨t, step t ?_, b1⟩
  have e : T.heap.size = H.size := by rw [hT]
  rw [e]
  exact a1
end MNA
set_option maxRecDepth 20000 in
theorem iX0 : ∀ w ∈ u_ws RX0 TX0 8, w ∈ gd := gd_r _ [395, 397, 399, 401, 403, 405, 407, 409] (by decide +kernel) (by decide +kernel)
set_option maxRecDepth 20000 in
theorem iX1 : ∀ w ∈ u_ws RX1 TX1 6, w ∈ gd := gd_r _ [501, 503, 505, 507, 509, 511] (by decide +kernel) (by decide +kernel)
set_option maxRecDepth 20000 in
theorem iX2 : ∀ w ∈ u_ws RX2 TX2 3, w ∈ gd := gd_r _ [304, 306, 308] (by decide +kernel) (by decide +kernel)
set_option maxRecDepth 20000 in
theorem iX3 : ∀ w ∈ u_ws RX3 TX3 5, w ∈ gd := gd_r _ [354, 356, 358, 360, 362] (by decide +kernel) (by decide +kernel)
set_option maxRecDepth 20000 in
theorem iX4 : ∀ w ∈ u_ws RX4 TX4 4, w ∈ gd := gd_r _ [431, 433, 435, 437] (by decide +kernel) (by decide +kernel)
set_option maxRecDepth 20000 in
theorem iX5 : ∀ w ∈ u_ws RX5 TX5 7, w ∈ gd := gd_r _ [471, 473, 475, 477, 479, 481, 483] (by decide +kernel) (by decide +kernel)
set_option maxRecDepth 20000 in
theorem iX6 : ∀ w ∈ u_ws RX6 TX6 17, w ∈ gd := gd_r _ [210, 212, 214, 216, 218, 220, 222, 224, 226, 228, 230, 232, 234, 236, 238, 240, 242] (by decide +kernel) (by decide +kernel)
set_option maxRecDepth 20000 in
theorem iX7 : ∀ w ∈ u_ws RX7 TX7 10, w ∈ gd := gd_r _ [322, 324, 326, 328, 330, 332, 334, 336, 338, 340] (by decide +kernel) (by decide +kernel)
set_option maxRecDepth 20000 in
theorem iX8 : ∀ w ∈ u_ws RX8 TX8 7, w ∈ gd := gd_r _ [532, 534, 536, 538, 540, 542, 544] (by decide +kernel) (by decide +kernel)
set_option maxRecDepth 20000 in
theorem iX9 : ∀ w ∈ u_ws RX9 TX9 9, w ∈ gd := gd_r _ [274, 276, 278, 280, 282, 284, 286, 288, 290] (by decide +kernel) (by decide +kernel)
set_option maxRecDepth 20000 in
theorem iX10 : ∀ w ∈ u_ws RX10 TX10 5, w ∈ gd := gd_r _ [447, 449, 451, 453, 455] (by decide +kernel) (by decide +kernel)
set_option maxRecDepth 20000 in
theorem iX11 : ∀ w ∈ u_ws RX11 TX11 13, w ∈ gd := gd_r _ [583, 585, 587, 589, 591, 593, 595, 597, 599, 601, 603, 605, 607] (by decide +kernel) (by decide +kernel)
set_option maxRecDepth 20000 in
theorem iX12 : ∀ w ∈ u_ws RX12 TX12 89, w ∈ gd := gd_r _ [1403, 1405, 1407, 1409, 1411, 1413, 1415, 1417, 1419, 1421, 1423, 1425, 1427, 1429, 1431, 1433, 1435, 1437, 1439, 1441, 1443, 1445, 1447, 1449, 1451, 1453, 1455, 1457, 1459, 1461, 1463, 1465, 1467, 1469, 1471, 1473, 1475, 1477, 1479, 1481, 1483, 1485, 1487, 1489, 1491, 1493, 1495, 1497, 1499, 1501, 1503, 1505, 1507, 1509, 1511, 1513, 1515, 1517, 1519, 1521, 1523, 1525, 1527, 1529, 1531, 1533, 1535, 1537, 1539, 1541, 1543, 1545, 1547, 1549, 1551, 1553, 1555, 1557, 1559, 1561, 1563, 1565, 1567, 1569, 1571, 1573, 1575, 1577, 1579] (by decide +kernel) (by decide +kernel)
end
section
set_option maxRecDepth 20000 in
theorem m0 : Cond.selects RX11 yX11_startAnew yX11_startAnew ∈ gd := gd_mem 0 (by decide +kernel) (by decide +kernel)
set_option maxRecDepth 20000 in
theorem m1 : Cond.selects RX1 yX1_forgetActs yX1_forgetActs ∈ gd := gd_mem 1 (by decide +kernel) (by decide +kernel)
set_option maxRecDepth 20000 in
theorem m117 : Cond.initialized RX11 ∈ gd := gd_mem 117 (by decide +kernel) (by decide +kernel)
set_option maxRecDepth 20000 in
theorem m118 : Cond.initialized RX6 ∈ gd := gd_mem 118 (by decide +kernel) (by decide +kernel)
set_option maxRecDepth 20000 in
theorem m119 : Cond.initialized RX7 ∈ gd := gd_mem 119 (by decide +kernel) (by decide +kernel)
set_option maxRecDepth 20000 in
theorem m120 : Cond.initialized RX9 ∈ gd := gd_mem 120 (by decide +kernel) (by decide +kernel)
set_option maxRecDepth 20000 in
theorem m121 : Cond.initialized RX2 ∈ gd := gd_mem 121 (by decide +kernel) (by decide +kernel)
set_option maxRecDepth 20000 in
theorem m122 : Cond.initialized RX3 ∈ gd := gd_mem 122 (by decide +kernel) (by decide +kernel)
set_option maxRecDepth 20000 in
theorem m123 : Cond.initialized RX0 ∈ gd := gd_mem 123 (by decide +kernel) (by decide +kernel)
set_option maxRecDepth 20000 in
theorem m124 : Cond.initialized RX10 ∈ gd := gd_mem 124 (by decide +kernel) (by decide +kernel)
set_option maxRecDepth 20000 in
theorem m125 : Cond.initialized RX4 ∈ gd := gd_mem 125 (by decide +kernel) (by decide +kernel)
set_option maxRecDepth 20000 in
theorem m126 : Cond.initialized RX5 ∈ gd := gd_mem 126 (by decide +kernel) (by decide +kernel)
set_option maxRecDepth 20000 in
theorem m127 : Cond.initialized RX1 ∈ gd := gd_mem 127 (by decide +kernel) (by decide +kernel)
set_option maxRecDepth 20000 in
theorem m128 : Cond.initialized RX8 ∈ gd := gd_mem 128 (by decide +kernel) (by decide +kernel)
set_option maxRecDepth 20000 in
theorem m129 : Cond.initialized RJ7 ∈ gd := gd_mem 129 (by decide +kernel) (by decide +kernel)
set_option maxRecDepth 20000 in
theorem m130 : Cond.initialized "java/lang/System" ∈ gd := gd_mem 130 (by decide +kernel) (by decide +kernel)
set_option maxRecDepth 20000 in
theorem m143 : Cond.methodLink RX11 1 objectInit ∈ gd := gd_mem 143 (by decide +kernel) (by decide +kernel)
set_option maxRecDepth 20000 in
theorem m144 : Cond.instanceMethod objectInit ∈ gd := gd_mem 144 (by decide +kernel) (by decide +kernel)
set_option maxRecDepth 20000 in
theorem m145 : Cond.code objectInit ⟨#[0xb1]⟩ 1 none ∈ gd := gd_mem 145 (by decide +kernel) (by decide +kernel)
set_option maxRecDepth 20000 in
theorem m146 : Cond.classLink RX11 7 RX6 ∈ gd := gd_mem 146 (by decide +kernel) (by decide +kernel)
set_option maxRecDepth 20000 in
theorem m147 : Cond.instantiable RX6 17 ∈ gd := gd_mem 147 (by decide +kernel) (by decide +kernel)
set_option maxRecDepth 20000 in
theorem m148 : Cond.methodLink RX11 9 yX6_init ∈ gd := gd_mem 148 (by decide +kernel) (by decide +kernel)
set_option maxRecDepth 20000 in
theorem m149 : Cond.instanceMethod yX6_init ∈ gd := gd_mem 149 (by decide +kernel) (by decide +kernel)
set_option maxRecDepth 20000 in
theorem m150 : Cond.code yX6_init cX6_init 1 none ∈ gd := gd_mem 150 (by decide +kernel) (by decide +kernel)
set_option maxRecDepth 20000 in
theorem m151 : Cond.methodLink RX6 3 objectInit ∈ gd := gd_mem 151 (by decide +kernel) (by decide +kernel)
set_option maxRecDepth 20000 in
theorem m152 : Cond.methodLink RX6 39 yX6_empty ∈ gd := gd_mem 152 (by decide +kernel) (by decide +kernel)
set_option maxRecDepth 20000 in
theorem m153 : Cond.instanceMethod yX6_empty ∈ gd := gd_mem 153 (by decide +kernel) (by decide +kernel)
set_option maxRecDepth 20000 in
theorem m154 : Cond.selects RX6 yX6_empty yX6_empty ∈ gd := gd_mem 154 (by decide +kernel) (by decide +kernel)
set_option maxRecDepth 20000 in
theorem m155 : Cond.code yX6_empty cX6_empty 1 none ∈ gd := gd_mem 155 (by decide +kernel) (by decide +kernel)
set_option maxRecDepth 20000 in
theorem m156 : Cond.fieldLink RX6 9 "SlabWalk$Paving" "length" "[I" ∈ gd := gd_mem 156 (by decide +kernel) (by decide +kernel)
set_option maxRecDepth 20000 in
theorem m161 : Cond.fieldLink RX6 15 "SlabWalk$Paving" "inches" "[I" ∈ gd := gd_mem 161 (by decide +kernel) (by decide +kernel)
set_option maxRecDepth 20000 in
theorem m162 : Cond.fieldLink RX6 18 "SlabWalk$Paving" "foot" "[I" ∈ gd := gd_mem 162 (by decide +kernel) (by decide +kernel)
set_option maxRecDepth 20000 in
theorem m166 : Cond.fieldLink RX6 21 "SlabWalk$Paving" "least" "[I" ∈ gd := gd_mem 166 (by decide +kernel) (by decide +kernel)
set_option maxRecDepth 20000 in
theorem m170 : Cond.fieldLink RX6 24 "SlabWalk$Paving" "most" "[I" ∈ gd := gd_mem 170 (by decide +kernel) (by decide +kernel)
set_option maxRecDepth 20000 in
theorem m174 : Cond.fieldLink RX6 27 "SlabWalk$Paving" "leap" "[I" ∈ gd := gd_mem 174 (by decide +kernel) (by decide +kernel)
set_option maxRecDepth 20000 in
theorem m178 : Cond.fieldLink RX6 30 "SlabWalk$Paving" "slip" "[I" ∈ gd := gd_mem 178 (by decide +kernel) (by decide +kernel)
set_option maxRecDepth 20000 in
theorem m181 : Cond.fieldLink RX6 33 "SlabWalk$Paving" "code" "[I" ∈ gd := gd_mem 181 (by decide +kernel) (by decide +kernel)
set_option maxRecDepth 20000 in
theorem m183 : Cond.fieldLink RX6 36 "SlabWalk$Paving" "codeEnd" "[I" ∈ gd := gd_mem 183 (by decide +kernel) (by decide +kernel)
set_option maxRecDepth 20000 in
theorem m186 : Cond.fieldLink RX6 42 "SlabWalk$Paving" "streets" "I" ∈ gd := gd_mem 186 (by decide +kernel) (by decide +kernel)
set_option maxRecDepth 20000 in
theorem m189 : Cond.fieldLink RX6 46 "SlabWalk$Paving" "walkers" "I" ∈ gd := gd_mem 189 (by decide +kernel) (by decide +kernel)
set_option maxRecDepth 20000 in
theorem m192 : Cond.fieldLink RX6 49 "SlabWalk$Paving" "rules" "I" ∈ gd := gd_mem 192 (by decide +kernel) (by decide +kernel)
set_option maxRecDepth 20000 in
theorem m196 : Cond.fieldLink RX6 52 "SlabWalk$Paving" "units" "I" ∈ gd := gd_mem 196 (by decide +kernel) (by decide +kernel)
set_option maxRecDepth 20000 in
theorem m199 : Cond.fieldLink RX6 55 "SlabWalk$Paving" "coded" "I" ∈ gd := gd_mem 199 (by decide +kernel) (by decide +kernel)
set_option maxRecDepth 20000 in
theorem m201 : Cond.fieldLink RX6 58 "SlabWalk$Paving" "hand" "I" ∈ gd := gd_mem 201 (by decide +kernel) (by decide +kernel)
set_option maxRecDepth 20000 in
theorem m204 : Cond.fieldLink RX6 61 "SlabWalk$Paving" "slack" "I" ∈ gd := gd_mem 204 (by decide +kernel) (by decide +kernel)
set_option maxRecDepth 20000 in
theorem m207 : Cond.fieldLink RX6 64 "SlabWalk$Paving" "draw" "I" ∈ gd := gd_mem 207 (by decide +kernel) (by decide +kernel)
set_option maxRecDepth 20000 in
theorem m209 : Cond.fieldLink RX11 323 "SlabWalk$Paving" "draw" "I" ∈ gd := gd_mem 209 (by decide +kernel) (by decide +kernel)
set_option maxRecDepth 20000 in
theorem m245 : Cond.arrayClass .int ∈ gd := gd_mem 245 (by decide +kernel) (by decide +kernel)
set_option maxRecDepth 20000 in
theorem m246 : Cond.classLink RX11 23 RX7 ∈ gd := gd_mem 246 (by decide +kernel) (by decide +kernel)
set_option maxRecDepth 20000 in
theorem m247 : Cond.instantiable RX7 10 ∈ gd := gd_mem 247 (by decide +kernel) (by decide +kernel)
set_option maxRecDepth 20000 in
theorem m248 : Cond.methodLink RX11 25 yX7_init ∈ gd := gd_mem 248 (by decide +kernel) (by decide +kernel)
set_option maxRecDepth 20000 in
theorem m249 : Cond.instanceMethod yX7_init ∈ gd := gd_mem 249 (by decide +kernel) (by decide +kernel)
set_option maxRecDepth 20000 in
theorem m250 : Cond.code yX7_init cX7_init 3 none ∈ gd := gd_mem 250 (by decide +kernel) (by decide +kernel)
set_option maxRecDepth 20000 in
theorem m251 : Cond.methodLink RX7 3 objectInit ∈ gd := gd_mem 251 (by decide +kernel) (by decide +kernel)
set_option maxRecDepth 20000 in
theorem m252 : Cond.classLink RX7 21 RX9 ∈ gd := gd_mem 252 (by decide +kernel) (by decide +kernel)
set_option maxRecDepth 20000 in
theorem m253 : Cond.instantiable RX9 9 ∈ gd := gd_mem 253 (by decide +kernel) (by decide +kernel)
set_option maxRecDepth 20000 in
theorem m254 : Cond.methodLink RX7 23 yX9_init ∈ gd := gd_mem 254 (by decide +kernel) (by decide +kernel)
set_option maxRecDepth 20000 in
theorem m255 : Cond.instanceMethod yX9_init ∈ gd := gd_mem 255 (by decide +kernel) (by decide +kernel)
set_option maxRecDepth 20000 in
theorem m256 : Cond.code yX9_init cX9_init 2 none ∈ gd := gd_mem 256 (by decide +kernel) (by decide +kernel)
set_option maxRecDepth 20000 in
theorem m257 : Cond.methodLink RX9 3 objectInit ∈ gd := gd_mem 257 (by decide +kernel) (by decide +kernel)
set_option maxRecDepth 20000 in
theorem m258 : Cond.fieldLink RX9 15 "SlabWalk$Tokens" "text" "[B" ∈ gd := gd_mem 258 (by decide +kernel) (by decide +kernel)
set_option maxRecDepth 20000 in
theorem m272 : Cond.fieldLink RX9 9 "SlabWalk$Tokens" "faultPlace" "I" ∈ gd := gd_mem 272 (by decide +kernel) (by decide +kernel)
set_option maxRecDepth 20000 in
theorem m293 : Cond.arrayClass .byte ∈ gd := gd_mem 293 (by decide +kernel) (by decide +kernel)
set_option maxRecDepth 20000 in
theorem m294 : Cond.arrayClass .long ∈ gd := gd_mem 294 (by decide +kernel) (by decide +kernel)
set_option maxRecDepth 20000 in
theorem m295 : Cond.classLink RX7 30 RX2 ∈ gd := gd_mem 295 (by decide +kernel) (by decide +kernel)
set_option maxRecDepth 20000 in
theorem m296 : Cond.instantiable RX2 3 ∈ gd := gd_mem 296 (by decide +kernel) (by decide +kernel)
set_option maxRecDepth 20000 in
theorem m297 : Cond.methodLink RX7 32 yX2_init ∈ gd := gd_mem 297 (by decide +kernel) (by decide +kernel)
set_option maxRecDepth 20000 in
theorem m298 : Cond.instanceMethod yX2_init ∈ gd := gd_mem 298 (by decide +kernel) (by decide +kernel)
set_option maxRecDepth 20000 in
theorem m299 : Cond.code yX2_init cX2_init 3 none ∈ gd := gd_mem 299 (by decide +kernel) (by decide +kernel)
set_option maxRecDepth 20000 in
theorem m300 : Cond.methodLink RX2 3 objectInit ∈ gd := gd_mem 300 (by decide +kernel) (by decide +kernel)
set_option maxRecDepth 20000 in
theorem m301 : Cond.fieldLink RX2 9 "SlabWalk$Formulas" "tokens" "LSlabWalk$Tokens;" ∈ gd := gd_mem 301 (by decide +kernel) (by decide +kernel)
set_option maxRecDepth 20000 in
theorem m302 : Cond.fieldLink RX2 15 "SlabWalk$Formulas" "paving" "LSlabWalk$Paving;" ∈ gd := gd_mem 302 (by decide +kernel) (by decide +kernel)
set_option maxRecDepth 20000 in
theorem m311 : Cond.fieldLink RX7 26 "SlabWalk$Reader" "tokens" "LSlabWalk$Tokens;" ∈ gd := gd_mem 311 (by decide +kernel) (by decide +kernel)
set_option maxRecDepth 20000 in
theorem m313 : Cond.fieldLink RX7 35 "SlabWalk$Reader" "formulas" "LSlabWalk$Formulas;" ∈ gd := gd_mem 313 (by decide +kernel) (by decide +kernel)
set_option maxRecDepth 20000 in
theorem m314 : Cond.fieldLink RX7 9 "SlabWalk$Reader" "streetNames" "[J" ∈ gd := gd_mem 314 (by decide +kernel) (by decide +kernel)
set_option maxRecDepth 20000 in
theorem m315 : Cond.fieldLink RX7 15 "SlabWalk$Reader" "walkerNames" "[J" ∈ gd := gd_mem 315 (by decide +kernel) (by decide +kernel)
set_option maxRecDepth 20000 in
theorem m316 : Cond.fieldLink RX7 18 "SlabWalk$Reader" "ruleNames" "[J" ∈ gd := gd_mem 316 (by decide +kernel) (by decide +kernel)
set_option maxRecDepth 20000 in
theorem m317 : Cond.fieldLink RX7 39 "SlabWalk$Reader" "paving" "LSlabWalk$Paving;" ∈ gd := gd_mem 317 (by decide +kernel) (by decide +kernel)
set_option maxRecDepth 20000 in
theorem m343 : Cond.classLink RX11 32 RX3 ∈ gd := gd_mem 343 (by decide +kernel) (by decide +kernel)
set_option maxRecDepth 20000 in
theorem m344 : Cond.instantiable RX3 5 ∈ gd := gd_mem 344 (by decide +kernel) (by decide +kernel)
set_option maxRecDepth 20000 in
theorem m345 : Cond.methodLink RX11 34 yX3_init ∈ gd := gd_mem 345 (by decide +kernel) (by decide +kernel)
set_option maxRecDepth 20000 in
theorem m346 : Cond.instanceMethod yX3_init ∈ gd := gd_mem 346 (by decide +kernel) (by decide +kernel)
set_option maxRecDepth 20000 in
theorem m347 : Cond.code yX3_init cX3_init 2 none ∈ gd := gd_mem 347 (by decide +kernel) (by decide +kernel)
set_option maxRecDepth 20000 in
theorem m348 : Cond.methodLink RX3 3 objectInit ∈ gd := gd_mem 348 (by decide +kernel) (by decide +kernel)
set_option maxRecDepth 20000 in
theorem m349 : Cond.fieldLink RX3 9 "SlabWalk$Lines" "found" "[I" ∈ gd := gd_mem 349 (by decide +kernel) (by decide +kernel)
set_option maxRecDepth 20000 in
theorem m350 : Cond.fieldLink RX3 15 "SlabWalk$Lines" "foundOn" "[I" ∈ gd := gd_mem 350 (by decide +kernel) (by decide +kernel)
set_option maxRecDepth 20000 in
theorem m351 : Cond.fieldLink RX3 18 "SlabWalk$Lines" "values" "[I" ∈ gd := gd_mem 351 (by decide +kernel) (by decide +kernel)
set_option maxRecDepth 20000 in
theorem m353 : Cond.fieldLink RX3 21 "SlabWalk$Lines" "paving" "LSlabWalk$Paving;" ∈ gd := gd_mem 353 (by decide +kernel) (by decide +kernel)
set_option maxRecDepth 20000 in
theorem m365 : Cond.classLink RX11 41 RX0 ∈ gd := gd_mem 365 (by decide +kernel) (by decide +kernel)
set_option maxRecDepth 20000 in
theorem m366 : Cond.instantiable RX0 8 ∈ gd := gd_mem 366 (by decide +kernel) (by decide +kernel)
set_option maxRecDepth 20000 in
theorem m368 : Cond.instanceMethod yX0_init ∈ gd := gd_mem 368 (by decide +kernel) (by decide +kernel)
set_option maxRecDepth 20000 in
theorem m369 : Cond.code yX0_init cX0_init 1 none ∈ gd := gd_mem 369 (by decide +kernel) (by decide +kernel)
set_option maxRecDepth 20000 in
theorem m370 : Cond.methodLink RX0 3 objectInit ∈ gd := gd_mem 370 (by decide +kernel) (by decide +kernel)
set_option maxRecDepth 20000 in
theorem m371 : Cond.fieldLink RX0 9 "SlabWalk$Course" "lawful" "[Z" ∈ gd := gd_mem 371 (by decide +kernel) (by decide +kernel)
set_option maxRecDepth 20000 in
theorem m412 : Cond.arrayClass .boolean ∈ gd := gd_mem 412 (by decide +kernel) (by decide +kernel)
set_option maxRecDepth 20000 in
theorem m413 : Cond.classLink RX11 48 RX10 ∈ gd := gd_mem 413 (by decide +kernel) (by decide +kernel)
set_option maxRecDepth 20000 in
theorem m414 : Cond.instantiable RX10 5 ∈ gd := gd_mem 414 (by decide +kernel) (by decide +kernel)
set_option maxRecDepth 20000 in
theorem m416 : Cond.instanceMethod yX10_init ∈ gd := gd_mem 416 (by decide +kernel) (by decide +kernel)
set_option maxRecDepth 20000 in
theorem m417 : Cond.code yX10_init cX10_init 1 none ∈ gd := gd_mem 417 (by decide +kernel) (by decide +kernel)
set_option maxRecDepth 20000 in
theorem m418 : Cond.methodLink RX10 3 objectInit ∈ gd := gd_mem 418 (by decide +kernel) (by decide +kernel)
set_option maxRecDepth 20000 in
theorem m419 : Cond.classLink RX10 11 "[[I" ∈ gd := gd_mem 419 (by decide +kernel) (by decide +kernel)
set_option maxRecDepth 20000 in
theorem m421 : Cond.classLink RX10 16 RX4 ∈ gd := gd_mem 421 (by decide +kernel) (by decide +kernel)
set_option maxRecDepth 20000 in
theorem m422 : Cond.instantiable RX4 4 ∈ gd := gd_mem 422 (by decide +kernel) (by decide +kernel)
set_option maxRecDepth 20000 in
theorem m424 : Cond.instanceMethod yX4_init ∈ gd := gd_mem 424 (by decide +kernel) (by decide +kernel)
set_option maxRecDepth 20000 in
theorem m425 : Cond.code yX4_init cX4_init 1 none ∈ gd := gd_mem 425 (by decide +kernel) (by decide +kernel)
set_option maxRecDepth 20000 in
theorem m426 : Cond.methodLink RX4 3 objectInit ∈ gd := gd_mem 426 (by decide +kernel) (by decide +kernel)
set_option maxRecDepth 20000 in
theorem m427 : Cond.fieldLink RX4 9 "SlabWalk$Minima" "keys" "[I" ∈ gd := gd_mem 427 (by decide +kernel) (by decide +kernel)
set_option maxRecDepth 20000 in
theorem m428 : Cond.fieldLink RX4 15 "SlabWalk$Minima" "values" "[I" ∈ gd := gd_mem 428 (by decide +kernel) (by decide +kernel)
set_option maxRecDepth 20000 in
theorem m440 : Cond.fieldLink RX10 13 "SlabWalk$Trails" "rows" "[[I" ∈ gd := gd_mem 440 (by decide +kernel) (by decide +kernel)
set_option maxRecDepth 20000 in
theorem m441 : Cond.fieldLink RX10 19 "SlabWalk$Trails" "steps" "LSlabWalk$Minima;" ∈ gd := gd_mem 441 (by decide +kernel) (by decide +kernel)
set_option maxRecDepth 20000 in
theorem m442 : Cond.fieldLink RX10 23 "SlabWalk$Trails" "leaps" "LSlabWalk$Minima;" ∈ gd := gd_mem 442 (by decide +kernel) (by decide +kernel)
set_option maxRecDepth 20000 in
theorem m443 : Cond.fieldLink RX10 26 "SlabWalk$Trails" "winning" "[I" ∈ gd := gd_mem 443 (by decide +kernel) (by decide +kernel)
set_option maxRecDepth 20000 in
theorem m445 : Cond.fieldLink RX10 30 "SlabWalk$Trails" "leaving" "[Z" ∈ gd := gd_mem 445 (by decide +kernel) (by decide +kernel)
set_option maxRecDepth 20000 in
theorem m458 : Cond.classLink RX11 55 RX5 ∈ gd := gd_mem 458 (by decide +kernel) (by decide +kernel)
set_option maxRecDepth 20000 in
theorem m459 : Cond.instantiable RX5 7 ∈ gd := gd_mem 459 (by decide +kernel) (by decide +kernel)
set_option maxRecDepth 20000 in
theorem m461 : Cond.instanceMethod yX5_init ∈ gd := gd_mem 461 (by decide +kernel) (by decide +kernel)
set_option maxRecDepth 20000 in
theorem m462 : Cond.code yX5_init cX5_init 1 none ∈ gd := gd_mem 462 (by decide +kernel) (by decide +kernel)
set_option maxRecDepth 20000 in
theorem m463 : Cond.methodLink RX5 3 objectInit ∈ gd := gd_mem 463 (by decide +kernel) (by decide +kernel)
set_option maxRecDepth 20000 in
theorem m464 : Cond.fieldLink RX5 11 "SlabWalk$Odds" "stepped" "[J" ∈ gd := gd_mem 464 (by decide +kernel) (by decide +kernel)
set_option maxRecDepth 20000 in
theorem m465 : Cond.fieldLink RX5 15 "SlabWalk$Odds" "leapt" "[J" ∈ gd := gd_mem 465 (by decide +kernel) (by decide +kernel)
set_option maxRecDepth 20000 in
theorem m466 : Cond.fieldLink RX5 18 "SlabWalk$Odds" "sums" "[J" ∈ gd := gd_mem 466 (by decide +kernel) (by decide +kernel)
set_option maxRecDepth 20000 in
theorem m467 : Cond.fieldLink RX5 21 "SlabWalk$Odds" "steppedSums" "[J" ∈ gd := gd_mem 467 (by decide +kernel) (by decide +kernel)
set_option maxRecDepth 20000 in
theorem m468 : Cond.fieldLink RX5 24 "SlabWalk$Odds" "odds" "[J" ∈ gd := gd_mem 468 (by decide +kernel) (by decide +kernel)
set_option maxRecDepth 20000 in
theorem m469 : Cond.fieldLink RX5 27 "SlabWalk$Odds" "aims" "[J" ∈ gd := gd_mem 469 (by decide +kernel) (by decide +kernel)
set_option maxRecDepth 20000 in
theorem m486 : Cond.classLink RX11 62 RX1 ∈ gd := gd_mem 486 (by decide +kernel) (by decide +kernel)
set_option maxRecDepth 20000 in
theorem m487 : Cond.instantiable RX1 6 ∈ gd := gd_mem 487 (by decide +kernel) (by decide +kernel)
set_option maxRecDepth 20000 in
theorem m489 : Cond.instanceMethod yX1_init ∈ gd := gd_mem 489 (by decide +kernel) (by decide +kernel)
set_option maxRecDepth 20000 in
theorem m490 : Cond.code yX1_init cX1_init 1 none ∈ gd := gd_mem 490 (by decide +kernel) (by decide +kernel)
set_option maxRecDepth 20000 in
theorem m491 : Cond.methodLink RX1 3 objectInit ∈ gd := gd_mem 491 (by decide +kernel) (by decide +kernel)
set_option maxRecDepth 20000 in
theorem m492 : Cond.fieldLink RX1 11 "SlabWalk$Earnest" "now" "[I" ∈ gd := gd_mem 492 (by decide +kernel) (by decide +kernel)
set_option maxRecDepth 20000 in
theorem m494 : Cond.fieldLink RX1 15 "SlabWalk$Earnest" "kept" "[I" ∈ gd := gd_mem 494 (by decide +kernel) (by decide +kernel)
set_option maxRecDepth 20000 in
theorem m495 : Cond.fieldLink RX1 18 "SlabWalk$Earnest" "boxes" "[I" ∈ gd := gd_mem 495 (by decide +kernel) (by decide +kernel)
set_option maxRecDepth 20000 in
theorem m496 : Cond.fieldLink RX1 27 "SlabWalk$Earnest" "full" "I" ∈ gd := gd_mem 496 (by decide +kernel) (by decide +kernel)
set_option maxRecDepth 20000 in
theorem m497 : Cond.fieldLink RX1 34 "SlabWalk$Earnest" "done" "I" ∈ gd := gd_mem 497 (by decide +kernel) (by decide +kernel)
set_option maxRecDepth 20000 in
theorem m499 : Cond.fieldLink RX1 37 "SlabWalk$Earnest" "undone" "I" ∈ gd := gd_mem 499 (by decide +kernel) (by decide +kernel)
set_option maxRecDepth 20000 in
theorem m514 : Cond.classLink RX11 69 RX8 ∈ gd := gd_mem 514 (by decide +kernel) (by decide +kernel)
set_option maxRecDepth 20000 in
theorem m515 : Cond.instantiable RX8 7 ∈ gd := gd_mem 515 (by decide +kernel) (by decide +kernel)
set_option maxRecDepth 20000 in
theorem m517 : Cond.instanceMethod yX8_init ∈ gd := gd_mem 517 (by decide +kernel) (by decide +kernel)
set_option maxRecDepth 20000 in
theorem m518 : Cond.code yX8_init cX8_init 1 none ∈ gd := gd_mem 518 (by decide +kernel) (by decide +kernel)
set_option maxRecDepth 20000 in
theorem m519 : Cond.methodLink RX8 3 objectInit ∈ gd := gd_mem 519 (by decide +kernel) (by decide +kernel)
set_option maxRecDepth 20000 in
theorem m520 : Cond.fieldLink RX8 11 "SlabWalk$Sights" "walker" "[I" ∈ gd := gd_mem 520 (by decide +kernel) (by decide +kernel)
set_option maxRecDepth 20000 in
theorem m522 : Cond.fieldLink RX8 15 "SlabWalk$Sights" "street" "[I" ∈ gd := gd_mem 522 (by decide +kernel) (by decide +kernel)
set_option maxRecDepth 20000 in
theorem m524 : Cond.fieldLink RX8 18 "SlabWalk$Sights" "heel" "[I" ∈ gd := gd_mem 524 (by decide +kernel) (by decide +kernel)
set_option maxRecDepth 20000 in
theorem m526 : Cond.fieldLink RX8 21 "SlabWalk$Sights" "told" "[I" ∈ gd := gd_mem 526 (by decide +kernel) (by decide +kernel)
set_option maxRecDepth 20000 in
theorem m527 : Cond.fieldLink RX8 24 "SlabWalk$Sights" "untold" "[I" ∈ gd := gd_mem 527 (by decide +kernel) (by decide +kernel)
set_option maxRecDepth 20000 in
theorem m529 : Cond.fieldLink RX11 285 "SlabWalk$Sights" "count" "I" ∈ gd := gd_mem 529 (by decide +kernel) (by decide +kernel)
set_option maxRecDepth 20000 in
theorem m547 : Cond.methodLink RX11 80 yX11_startAnew ∈ gd := gd_mem 547 (by decide +kernel) (by decide +kernel)
set_option maxRecDepth 20000 in
theorem m549 : Cond.instanceMethod yX11_startAnew ∈ gd := gd_mem 549 (by decide +kernel) (by decide +kernel)
set_option maxRecDepth 20000 in
theorem m550 : Cond.code yX11_startAnew cX11_startAnew 1 none ∈ gd := gd_mem 550 (by decide +kernel) (by decide +kernel)
set_option maxRecDepth 20000 in
theorem m551 : Cond.methodLink RX11 320 yX3_lookAt ∈ gd := gd_mem 551 (by decide +kernel) (by decide +kernel)
set_option maxRecDepth 20000 in
theorem m552 : Cond.instanceMethod yX3_lookAt ∈ gd := gd_mem 552 (by decide +kernel) (by decide +kernel)
set_option maxRecDepth 20000 in
theorem m553 : Cond.selects RX3 yX3_lookAt yX3_lookAt ∈ gd := gd_mem 553 (by decide +kernel) (by decide +kernel)
set_option maxRecDepth 20000 in
theorem m554 : Cond.code yX3_lookAt cX3_lookAt 2 none ∈ gd := gd_mem 554 (by decide +kernel) (by decide +kernel)
set_option maxRecDepth 20000 in
theorem m555 : Cond.methodLink RX3 25 yJ7_fill_53178 ∈ gd := gd_mem 555 (by decide +kernel) (by decide +kernel)
set_option maxRecDepth 20000 in
theorem m556 : Cond.static yJ7_fill_53178 ∈ gd := gd_mem 556 (by decide +kernel) (by decide +kernel)
set_option maxRecDepth 20000 in
theorem m557 : Cond.code yJ7_fill_53178 cJ7_fill_53178 4 none ∈ gd := gd_mem 557 (by decide +kernel) (by decide +kernel)
set_option maxRecDepth 20000 in
theorem m558 : Cond.methodLink RX11 326 yX1_startAnew ∈ gd := gd_mem 558 (by decide +kernel) (by decide +kernel)
set_option maxRecDepth 20000 in
theorem m559 : Cond.instanceMethod yX1_startAnew ∈ gd := gd_mem 559 (by decide +kernel) (by decide +kernel)
set_option maxRecDepth 20000 in
theorem m560 : Cond.selects RX1 yX1_startAnew yX1_startAnew ∈ gd := gd_mem 560 (by decide +kernel) (by decide +kernel)
set_option maxRecDepth 20000 in
theorem m561 : Cond.code yX1_startAnew cX1_startAnew 2 none ∈ gd := gd_mem 561 (by decide +kernel) (by decide +kernel)
set_option maxRecDepth 20000 in
theorem m562 : Cond.methodLink RX1 21 yJ7_fill_53178 ∈ gd := gd_mem 562 (by decide +kernel) (by decide +kernel)
set_option maxRecDepth 20000 in
theorem m563 : Cond.methodLink RX1 31 yX1_forgetActs ∈ gd := gd_mem 563 (by decide +kernel) (by decide +kernel)
set_option maxRecDepth 20000 in
theorem m565 : Cond.instanceMethod yX1_forgetActs ∈ gd := gd_mem 565 (by decide +kernel) (by decide +kernel)
set_option maxRecDepth 20000 in
theorem m566 : Cond.code yX1_forgetActs cX1_forgetActs 1 none ∈ gd := gd_mem 566 (by decide +kernel) (by decide +kernel)
set_option maxRecDepth 20000 in
theorem m567 : Cond.methodLink RX1 40 arraycopyName ∈ gd := gd_mem 567 (by decide +kernel) (by decide +kernel)
set_option maxRecDepth 20000 in
theorem m568 : Cond.static arraycopyName ∈ gd := gd_mem 568 (by decide +kernel) (by decide +kernel)
set_option maxRecDepth 20000 in
theorem m569 : Cond.native arraycopyName ∈ gd := gd_mem 569 (by decide +kernel) (by decide +kernel)
set_option maxRecDepth 20000 in
theorem m570 : Cond.fieldLink RX11 10 "SlabWalk" "paving" "LSlabWalk$Paving;" ∈ gd := gd_mem 570 (by decide +kernel) (by decide +kernel)
set_option maxRecDepth 20000 in
theorem m571 : Cond.fieldLink RX11 16 "SlabWalk" "spare" "LSlabWalk$Paving;" ∈ gd := gd_mem 571 (by decide +kernel) (by decide +kernel)
set_option maxRecDepth 20000 in
theorem m572 : Cond.fieldLink RX11 19 "SlabWalk" "tape" "[B" ∈ gd := gd_mem 572 (by decide +kernel) (by decide +kernel)
set_option maxRecDepth 20000 in
theorem m573 : Cond.fieldLink RX11 28 "SlabWalk" "reader" "LSlabWalk$Reader;" ∈ gd := gd_mem 573 (by decide +kernel) (by decide +kernel)
set_option maxRecDepth 20000 in
theorem m574 : Cond.fieldLink RX11 37 "SlabWalk" "lines" "LSlabWalk$Lines;" ∈ gd := gd_mem 574 (by decide +kernel) (by decide +kernel)
set_option maxRecDepth 20000 in
theorem m575 : Cond.fieldLink RX11 44 "SlabWalk" "course" "LSlabWalk$Course;" ∈ gd := gd_mem 575 (by decide +kernel) (by decide +kernel)
set_option maxRecDepth 20000 in
theorem m576 : Cond.fieldLink RX11 51 "SlabWalk" "trails" "LSlabWalk$Trails;" ∈ gd := gd_mem 576 (by decide +kernel) (by decide +kernel)
set_option maxRecDepth 20000 in
theorem m577 : Cond.fieldLink RX11 58 "SlabWalk" "odds" "LSlabWalk$Odds;" ∈ gd := gd_mem 577 (by decide +kernel) (by decide +kernel)
set_option maxRecDepth 20000 in
theorem m578 : Cond.fieldLink RX11 65 "SlabWalk" "earnest" "LSlabWalk$Earnest;" ∈ gd := gd_mem 578 (by decide +kernel) (by decide +kernel)
set_option maxRecDepth 20000 in
theorem m579 : Cond.fieldLink RX11 72 "SlabWalk" "sights" "LSlabWalk$Sights;" ∈ gd := gd_mem 579 (by decide +kernel) (by decide +kernel)
set_option maxRecDepth 20000 in
theorem m580 : Cond.fieldLink RX11 76 "SlabWalk" "lying" "[I" ∈ gd := gd_mem 580 (by decide +kernel) (by decide +kernel)
set_option maxRecDepth 20000 in
theorem m582 : Cond.fieldLink RX11 150 "SlabWalk" "lie" "I" ∈ gd := gd_mem 582 (by decide +kernel) (by decide +kernel)
set_option maxRecDepth 20000 in
theorem m886 : Cond.methodLink RX6 77 yX6_hasStreet ∈ gd := gd_mem 886 (by decide +kernel) (by decide +kernel)
set_option maxRecDepth 20000 in
theorem m887 : Cond.instanceMethod yX6_hasStreet ∈ gd := gd_mem 887 (by decide +kernel) (by decide +kernel)
set_option maxRecDepth 20000 in
theorem m888 : Cond.selects RX6 yX6_hasStreet yX6_hasStreet ∈ gd := gd_mem 888 (by decide +kernel) (by decide +kernel)
set_option maxRecDepth 20000 in
theorem m889 : Cond.code yX6_hasStreet cX6_hasStreet 2 (some .boolean) ∈ gd := gd_mem 889 (by decide +kernel) (by decide +kernel)
set_option maxRecDepth 20000 in
theorem m958 : Cond.instanceMethod yX6_hasWalker ∈ gd := gd_mem 958 (by decide +kernel) (by decide +kernel)
set_option maxRecDepth 20000 in
theorem m959 : Cond.selects RX6 yX6_hasWalker yX6_hasWalker ∈ gd := gd_mem 959 (by decide +kernel) (by decide +kernel)
set_option maxRecDepth 20000 in
theorem m960 : Cond.code yX6_hasWalker cX6_hasWalker 2 (some .boolean) ∈ gd := gd_mem 960 (by decide +kernel) (by decide +kernel)
set_option maxRecDepth 20000 in
theorem m969 : Cond.methodLink RX6 81 yX6_hasWalker ∈ gd := gd_mem 969 (by decide +kernel) (by decide +kernel)
end
section
theorem dJ7_fill_53178_0 : decode cJ7_fill_53178 0 = .ok (.iconst 0, 1) := by decide +kernel
theorem dJ7_fill_53178_1 : decode cJ7_fill_53178 1 = .ok (.istore_n 2, 1) := by decide +kernel
theorem dJ7_fill_53178_2 : decode cJ7_fill_53178 2 = .ok (.aload_n 0, 1) := by decide +kernel
theorem dJ7_fill_53178_3 : decode cJ7_fill_53178 3 = .ok (.arraylength, 1) := by decide +kernel
theorem dJ7_fill_53178_4 : decode cJ7_fill_53178 4 = .ok (.istore_n 3, 1) := by decide +kernel
theorem dJ7_fill_53178_5 : decode cJ7_fill_53178 5 = .ok (.iload_n 2, 1) := by decide +kernel
theorem dJ7_fill_53178_6 : decode cJ7_fill_53178 6 = .ok (.iload_n 3, 1) := by decide +kernel
theorem dJ7_fill_53178_7 : decode cJ7_fill_53178 7 = .ok (.if_icmp .ge 13, 3) := by decide +kernel
theorem dJ7_fill_53178_10 : decode cJ7_fill_53178 10 = .ok (.aload_n 0, 1) := by decide +kernel
theorem dJ7_fill_53178_11 : decode cJ7_fill_53178 11 = .ok (.iload_n 2, 1) := by decide +kernel
theorem dJ7_fill_53178_12 : decode cJ7_fill_53178 12 = .ok (.iload_n 1, 1) := by decide +kernel
theorem dJ7_fill_53178_13 : decode cJ7_fill_53178 13 = .ok (.iastore, 1) := by decide +kernel
theorem dJ7_fill_53178_14 : decode cJ7_fill_53178 14 = .ok (.iinc 2 1, 3) := by decide +kernel
theorem dJ7_fill_53178_17 : decode cJ7_fill_53178 17 = .ok (.goto (-12), 3) := by decide +kernel
theorem dJ7_fill_53178_20 : decode cJ7_fill_53178 20 = .ok (.return_, 1) := by decide +kernel
theorem dX0_init_0 : decode cX0_init 0 = .ok (.aload_n 0, 1) := by decide +kernel
theorem dX0_init_1 : decode cX0_init 1 = .ok (.invokespecial 3, 3) := by decide +kernel
theorem dX0_init_4 : decode cX0_init 4 = .ok (.aload_n 0, 1) := by decide +kernel
theorem dX0_init_5 : decode cX0_init 5 = .ok (.sipush 400, 3) := by decide +kernel
theorem dX0_init_8 : decode cX0_init 8 = .ok (.newarray .boolean, 2) := by decide +kernel
theorem dX0_init_10 : decode cX0_init 10 = .ok (.putfield 9, 3) := by decide +kernel
theorem dX0_init_13 : decode cX0_init 13 = .ok (.return_, 1) := by decide +kernel
theorem dX10_init_0 : decode cX10_init 0 = .ok (.aload_n 0, 1) := by decide +kernel
theorem dX10_init_1 : decode cX10_init 1 = .ok (.invokespecial 3, 3) := by decide +kernel
theorem dX10_init_4 : decode cX10_init 4 = .ok (.aload_n 0, 1) := by decide +kernel
theorem dX10_init_5 : decode cX10_init 5 = .ok (.iconst 4, 1) := by decide +kernel
theorem dX10_init_6 : decode cX10_init 6 = .ok (.sipush 402, 3) := by decide +kernel
theorem dX10_init_9 : decode cX10_init 9 = .ok (.multianewarray 11 2, 4) := by decide +kernel
theorem dX10_init_13 : decode cX10_init 13 = .ok (.putfield 13, 3) := by decide +kernel
theorem dX10_init_16 : decode cX10_init 16 = .ok (.aload_n 0, 1) := by decide +kernel
theorem dX10_init_17 : decode cX10_init 17 = .ok (.new 16, 3) := by decide +kernel
theorem dX10_init_20 : decode cX10_init 20 = .ok (.dup, 1) := by decide +kernel
theorem dX10_init_21 : decode cX10_init 21 = .ok (.invokespecial 18, 3) := by decide +kernel
theorem dX10_init_24 : decode cX10_init 24 = .ok (.putfield 19, 3) := by decide +kernel
theorem dX10_init_27 : decode cX10_init 27 = .ok (.aload_n 0, 1) := by decide +kernel
theorem dX10_init_28 : decode cX10_init 28 = .ok (.new 16, 3) := by decide +kernel
theorem dX10_init_31 : decode cX10_init 31 = .ok (.dup, 1) := by decide +kernel
theorem dX10_init_32 : decode cX10_init 32 = .ok (.invokespecial 18, 3) := by decide +kernel
theorem dX10_init_35 : decode cX10_init 35 = .ok (.putfield 23, 3) := by decide +kernel
theorem dX10_init_38 : decode cX10_init 38 = .ok (.aload_n 0, 1) := by decide +kernel
theorem dX10_init_39 : decode cX10_init 39 = .ok (.bipush 64, 2) := by decide +kernel
theorem dX10_init_41 : decode cX10_init 41 = .ok (.newarray .int, 2) := by decide +kernel
theorem dX10_init_43 : decode cX10_init 43 = .ok (.putfield 26, 3) := by decide +kernel
theorem dX10_init_46 : decode cX10_init 46 = .ok (.aload_n 0, 1) := by decide +kernel
theorem dX10_init_47 : decode cX10_init 47 = .ok (.bipush 64, 2) := by decide +kernel
theorem dX10_init_49 : decode cX10_init 49 = .ok (.newarray .boolean, 2) := by decide +kernel
theorem dX10_init_51 : decode cX10_init 51 = .ok (.putfield 30, 3) := by decide +kernel
theorem dX10_init_54 : decode cX10_init 54 = .ok (.return_, 1) := by decide +kernel
theorem dX11_init_0 : decode cX11_init 0 = .ok (.aload_n 0, 1) := by decide +kernel
theorem dX11_init_1 : decode cX11_init 1 = .ok (.invokespecial 1, 3) := by decide +kernel
theorem dX11_init_4 : decode cX11_init 4 = .ok (.aload_n 0, 1) := by decide +kernel
theorem dX11_init_5 : decode cX11_init 5 = .ok (.new 7, 3) := by decide +kernel
theorem dX11_init_8 : decode cX11_init 8 = .ok (.dup, 1) := by decide +kernel
theorem dX11_init_9 : decode cX11_init 9 = .ok (.invokespecial 9, 3) := by decide +kernel
theorem dX11_init_12 : decode cX11_init 12 = .ok (.putfield 10, 3) := by decide +kernel
theorem dX11_init_15 : decode cX11_init 15 = .ok (.aload_n 0, 1) := by decide +kernel
theorem dX11_init_16 : decode cX11_init 16 = .ok (.new 7, 3) := by decide +kernel
theorem dX11_init_19 : decode cX11_init 19 = .ok (.dup, 1) := by decide +kernel
theorem dX11_init_20 : decode cX11_init 20 = .ok (.invokespecial 9, 3) := by decide +kernel
theorem dX11_init_23 : decode cX11_init 23 = .ok (.putfield 16, 3) := by decide +kernel
theorem dX11_init_26 : decode cX11_init 26 = .ok (.aload_n 0, 1) := by decide +kernel
theorem dX11_init_27 : decode cX11_init 27 = .ok (.sipush 1600, 3) := by decide +kernel
theorem dX11_init_30 : decode cX11_init 30 = .ok (.newarray .byte, 2) := by decide +kernel
theorem dX11_init_32 : decode cX11_init 32 = .ok (.putfield 19, 3) := by decide +kernel
theorem dX11_init_35 : decode cX11_init 35 = .ok (.aload_n 0, 1) := by decide +kernel
theorem dX11_init_36 : decode cX11_init 36 = .ok (.new 23, 3) := by decide +kernel
theorem dX11_init_39 : decode cX11_init 39 = .ok (.dup, 1) := by decide +kernel
theorem dX11_init_40 : decode cX11_init 40 = .ok (.aload_n 0, 1) := by decide +kernel
theorem dX11_init_41 : decode cX11_init 41 = .ok (.getfield 19, 3) := by decide +kernel
theorem dX11_init_44 : decode cX11_init 44 = .ok (.aload_n 0, 1) := by decide +kernel
theorem dX11_init_45 : decode cX11_init 45 = .ok (.getfield 16, 3) := by decide +kernel
theorem dX11_init_48 : decode cX11_init 48 = .ok (.invokespecial 25, 3) := by decide +kernel
theorem dX11_init_51 : decode cX11_init 51 = .ok (.putfield 28, 3) := by decide +kernel
theorem dX11_init_54 : decode cX11_init 54 = .ok (.aload_n 0, 1) := by decide +kernel
theorem dX11_init_55 : decode cX11_init 55 = .ok (.new 32, 3) := by decide +kernel
theorem dX11_init_58 : decode cX11_init 58 = .ok (.dup, 1) := by decide +kernel
theorem dX11_init_59 : decode cX11_init 59 = .ok (.aload_n 0, 1) := by decide +kernel
theorem dX11_init_60 : decode cX11_init 60 = .ok (.getfield 10, 3) := by decide +kernel
theorem dX11_init_63 : decode cX11_init 63 = .ok (.invokespecial 34, 3) := by decide +kernel
theorem dX11_init_66 : decode cX11_init 66 = .ok (.putfield 37, 3) := by decide +kernel
theorem dX11_init_69 : decode cX11_init 69 = .ok (.aload_n 0, 1) := by decide +kernel
theorem dX11_init_70 : decode cX11_init 70 = .ok (.new 41, 3) := by decide +kernel
theorem dX11_init_73 : decode cX11_init 73 = .ok (.dup, 1) := by decide +kernel
theorem dX11_init_74 : decode cX11_init 74 = .ok (.invokespecial 43, 3) := by decide +kernel
theorem dX11_init_77 : decode cX11_init 77 = .ok (.putfield 44, 3) := by decide +kernel
theorem dX11_init_80 : decode cX11_init 80 = .ok (.aload_n 0, 1) := by decide +kernel
theorem dX11_init_81 : decode cX11_init 81 = .ok (.new 48, 3) := by decide +kernel
theorem dX11_init_84 : decode cX11_init 84 = .ok (.dup, 1) := by decide +kernel
theorem dX11_init_85 : decode cX11_init 85 = .ok (.invokespecial 50, 3) := by decide +kernel
theorem dX11_init_88 : decode cX11_init 88 = .ok (.putfield 51, 3) := by decide +kernel
theorem dX11_init_91 : decode cX11_init 91 = .ok (.aload_n 0, 1) := by decide +kernel
theorem dX11_init_92 : decode cX11_init 92 = .ok (.new 55, 3) := by decide +kernel
theorem dX11_init_95 : decode cX11_init 95 = .ok (.dup, 1) := by decide +kernel
theorem dX11_init_96 : decode cX11_init 96 = .ok (.invokespecial 57, 3) := by decide +kernel
theorem dX11_init_99 : decode cX11_init 99 = .ok (.putfield 58, 3) := by decide +kernel
theorem dX11_init_102 : decode cX11_init 102 = .ok (.aload_n 0, 1) := by decide +kernel
theorem dX11_init_103 : decode cX11_init 103 = .ok (.new 62, 3) := by decide +kernel
theorem dX11_init_106 : decode cX11_init 106 = .ok (.dup, 1) := by decide +kernel
theorem dX11_init_107 : decode cX11_init 107 = .ok (.invokespecial 64, 3) := by decide +kernel
theorem dX11_init_110 : decode cX11_init 110 = .ok (.putfield 65, 3) := by decide +kernel
theorem dX11_init_113 : decode cX11_init 113 = .ok (.aload_n 0, 1) := by decide +kernel
theorem dX11_init_114 : decode cX11_init 114 = .ok (.new 69, 3) := by decide +kernel
theorem dX11_init_117 : decode cX11_init 117 = .ok (.dup, 1) := by decide +kernel
theorem dX11_init_118 : decode cX11_init 118 = .ok (.invokespecial 71, 3) := by decide +kernel
theorem dX11_init_121 : decode cX11_init 121 = .ok (.putfield 72, 3) := by decide +kernel
theorem dX11_init_124 : decode cX11_init 124 = .ok (.aload_n 0, 1) := by decide +kernel
theorem dX11_init_125 : decode cX11_init 125 = .ok (.sipush 400, 3) := by decide +kernel
theorem dX11_init_128 : decode cX11_init 128 = .ok (.newarray .int, 2) := by decide +kernel
theorem dX11_init_130 : decode cX11_init 130 = .ok (.putfield 76, 3) := by decide +kernel
theorem dX11_init_133 : decode cX11_init 133 = .ok (.aload_n 0, 1) := by decide +kernel
theorem dX11_init_134 : decode cX11_init 134 = .ok (.invokevirtual 80, 3) := by decide +kernel
theorem dX11_init_137 : decode cX11_init 137 = .ok (.return_, 1) := by decide +kernel
theorem dX11_startAnew_0 : decode cX11_startAnew 0 = .ok (.aload_n 0, 1) := by decide +kernel
theorem dX11_startAnew_1 : decode cX11_startAnew 1 = .ok (.getfield 37, 3) := by decide +kernel
theorem dX11_startAnew_4 : decode cX11_startAnew 4 = .ok (.aload_n 0, 1) := by decide +kernel
theorem dX11_startAnew_5 : decode cX11_startAnew 5 = .ok (.getfield 10, 3) := by decide +kernel
theorem dX11_startAnew_8 : decode cX11_startAnew 8 = .ok (.invokevirtual 320, 3) := by decide +kernel
theorem dX11_startAnew_11 : decode cX11_startAnew 11 = .ok (.aload_n 0, 1) := by decide +kernel
theorem dX11_startAnew_12 : decode cX11_startAnew 12 = .ok (.getfield 65, 3) := by decide +kernel
theorem dX11_startAnew_15 : decode cX11_startAnew 15 = .ok (.aload_n 0, 1) := by decide +kernel
theorem dX11_startAnew_16 : decode cX11_startAnew 16 = .ok (.getfield 10, 3) := by decide +kernel
theorem dX11_startAnew_19 : decode cX11_startAnew 19 = .ok (.getfield 323, 3) := by decide +kernel
theorem dX11_startAnew_22 : decode cX11_startAnew 22 = .ok (.invokevirtual 326, 3) := by decide +kernel
theorem dX11_startAnew_25 : decode cX11_startAnew 25 = .ok (.aload_n 0, 1) := by decide +kernel
theorem dX11_startAnew_26 : decode cX11_startAnew 26 = .ok (.getfield 72, 3) := by decide +kernel
theorem dX11_startAnew_29 : decode cX11_startAnew 29 = .ok (.iconst 0, 1) := by decide +kernel
theorem dX11_startAnew_30 : decode cX11_startAnew 30 = .ok (.putfield 285, 3) := by decide +kernel
theorem dX11_startAnew_33 : decode cX11_startAnew 33 = .ok (.aload_n 0, 1) := by decide +kernel
theorem dX11_startAnew_34 : decode cX11_startAnew 34 = .ok (.iconst 0, 1) := by decide +kernel
theorem dX11_startAnew_35 : decode cX11_startAnew 35 = .ok (.putfield 150, 3) := by decide +kernel
theorem dX11_startAnew_38 : decode cX11_startAnew 38 = .ok (.return_, 1) := by decide +kernel
theorem dX1_forgetActs_0 : decode cX1_forgetActs 0 = .ok (.aload_n 0, 1) := by decide +kernel
theorem dX1_forgetActs_1 : decode cX1_forgetActs 1 = .ok (.iconst 0, 1) := by decide +kernel
theorem dX1_forgetActs_2 : decode cX1_forgetActs 2 = .ok (.putfield 34, 3) := by decide +kernel
theorem dX1_forgetActs_5 : decode cX1_forgetActs 5 = .ok (.aload_n 0, 1) := by decide +kernel
theorem dX1_forgetActs_6 : decode cX1_forgetActs 6 = .ok (.iconst 0, 1) := by decide +kernel
theorem dX1_forgetActs_7 : decode cX1_forgetActs 7 = .ok (.putfield 37, 3) := by decide +kernel
theorem dX1_forgetActs_10 : decode cX1_forgetActs 10 = .ok (.aload_n 0, 1) := by decide +kernel
theorem dX1_forgetActs_11 : decode cX1_forgetActs 11 = .ok (.getfield 11, 3) := by decide +kernel
theorem dX1_forgetActs_14 : decode cX1_forgetActs 14 = .ok (.iconst 0, 1) := by decide +kernel
theorem dX1_forgetActs_15 : decode cX1_forgetActs 15 = .ok (.aload_n 0, 1) := by decide +kernel
theorem dX1_forgetActs_16 : decode cX1_forgetActs 16 = .ok (.getfield 15, 3) := by decide +kernel
theorem dX1_forgetActs_19 : decode cX1_forgetActs 19 = .ok (.iconst 0, 1) := by decide +kernel
theorem dX1_forgetActs_20 : decode cX1_forgetActs 20 = .ok (.bipush 10, 2) := by decide +kernel
theorem dX1_forgetActs_22 : decode cX1_forgetActs 22 = .ok (.invokestatic 40, 3) := by decide +kernel
theorem dX1_forgetActs_25 : decode cX1_forgetActs 25 = .ok (.return_, 1) := by decide +kernel
theorem dX1_init_0 : decode cX1_init 0 = .ok (.aload_n 0, 1) := by decide +kernel
theorem dX1_init_1 : decode cX1_init 1 = .ok (.invokespecial 3, 3) := by decide +kernel
theorem dX1_init_4 : decode cX1_init 4 = .ok (.aload_n 0, 1) := by decide +kernel
theorem dX1_init_5 : decode cX1_init 5 = .ok (.bipush 10, 2) := by decide +kernel
theorem dX1_init_7 : decode cX1_init 7 = .ok (.newarray .int, 2) := by decide +kernel
theorem dX1_init_9 : decode cX1_init 9 = .ok (.putfield 11, 3) := by decide +kernel
theorem dX1_init_12 : decode cX1_init 12 = .ok (.aload_n 0, 1) := by decide +kernel
theorem dX1_init_13 : decode cX1_init 13 = .ok (.sipush 410, 3) := by decide +kernel
theorem dX1_init_16 : decode cX1_init 16 = .ok (.newarray .int, 2) := by decide +kernel
theorem dX1_init_18 : decode cX1_init 18 = .ok (.putfield 15, 3) := by decide +kernel
theorem dX1_init_21 : decode cX1_init 21 = .ok (.aload_n 0, 1) := by decide +kernel
theorem dX1_init_22 : decode cX1_init 22 = .ok (.bipush 30, 2) := by decide +kernel
theorem dX1_init_24 : decode cX1_init 24 = .ok (.newarray .int, 2) := by decide +kernel
theorem dX1_init_26 : decode cX1_init 26 = .ok (.putfield 18, 3) := by decide +kernel
theorem dX1_init_29 : decode cX1_init 29 = .ok (.return_, 1) := by decide +kernel
theorem dX1_startAnew_0 : decode cX1_startAnew 0 = .ok (.aload_n 0, 1) := by decide +kernel
theorem dX1_startAnew_1 : decode cX1_startAnew 1 = .ok (.getfield 11, 3) := by decide +kernel
theorem dX1_startAnew_4 : decode cX1_startAnew 4 = .ok (.iconst 0, 1) := by decide +kernel
theorem dX1_startAnew_5 : decode cX1_startAnew 5 = .ok (.invokestatic 21, 3) := by decide +kernel
theorem dX1_startAnew_8 : decode cX1_startAnew 8 = .ok (.aload_n 0, 1) := by decide +kernel
theorem dX1_startAnew_9 : decode cX1_startAnew 9 = .ok (.getfield 11, 3) := by decide +kernel
theorem dX1_startAnew_12 : decode cX1_startAnew 12 = .ok (.iconst 0, 1) := by decide +kernel
theorem dX1_startAnew_13 : decode cX1_startAnew 13 = .ok (.iconst (-1), 1) := by decide +kernel
theorem dX1_startAnew_14 : decode cX1_startAnew 14 = .ok (.iastore, 1) := by decide +kernel
theorem dX1_startAnew_15 : decode cX1_startAnew 15 = .ok (.aload_n 0, 1) := by decide +kernel
theorem dX1_startAnew_16 : decode cX1_startAnew 16 = .ok (.getfield 11, 3) := by decide +kernel
theorem dX1_startAnew_19 : decode cX1_startAnew 19 = .ok (.bipush 7, 2) := by decide +kernel
theorem dX1_startAnew_21 : decode cX1_startAnew 21 = .ok (.iload_n 1, 1) := by decide +kernel
theorem dX1_startAnew_22 : decode cX1_startAnew 22 = .ok (.iastore, 1) := by decide +kernel
theorem dX1_startAnew_23 : decode cX1_startAnew 23 = .ok (.aload_n 0, 1) := by decide +kernel
theorem dX1_startAnew_24 : decode cX1_startAnew 24 = .ok (.iconst 0, 1) := by decide +kernel
theorem dX1_startAnew_25 : decode cX1_startAnew 25 = .ok (.putfield 27, 3) := by decide +kernel
theorem dX1_startAnew_28 : decode cX1_startAnew 28 = .ok (.aload_n 0, 1) := by decide +kernel
theorem dX1_startAnew_29 : decode cX1_startAnew 29 = .ok (.invokevirtual 31, 3) := by decide +kernel
theorem dX1_startAnew_32 : decode cX1_startAnew 32 = .ok (.return_, 1) := by decide +kernel
theorem dX2_init_0 : decode cX2_init 0 = .ok (.aload_n 0, 1) := by decide +kernel
theorem dX2_init_1 : decode cX2_init 1 = .ok (.invokespecial 3, 3) := by decide +kernel
theorem dX2_init_4 : decode cX2_init 4 = .ok (.aload_n 0, 1) := by decide +kernel
theorem dX2_init_5 : decode cX2_init 5 = .ok (.aload_n 1, 1) := by decide +kernel
theorem dX2_init_6 : decode cX2_init 6 = .ok (.putfield 9, 3) := by decide +kernel
theorem dX2_init_9 : decode cX2_init 9 = .ok (.aload_n 0, 1) := by decide +kernel
theorem dX2_init_10 : decode cX2_init 10 = .ok (.aload_n 2, 1) := by decide +kernel
theorem dX2_init_11 : decode cX2_init 11 = .ok (.putfield 15, 3) := by decide +kernel
theorem dX2_init_14 : decode cX2_init 14 = .ok (.return_, 1) := by decide +kernel
theorem dX3_init_0 : decode cX3_init 0 = .ok (.aload_n 0, 1) := by decide +kernel
theorem dX3_init_1 : decode cX3_init 1 = .ok (.invokespecial 3, 3) := by decide +kernel
theorem dX3_init_4 : decode cX3_init 4 = .ok (.aload_n 0, 1) := by decide +kernel
theorem dX3_init_5 : decode cX3_init 5 = .ok (.sipush 1200, 3) := by decide +kernel
theorem dX3_init_8 : decode cX3_init 8 = .ok (.newarray .int, 2) := by decide +kernel
theorem dX3_init_10 : decode cX3_init 10 = .ok (.putfield 9, 3) := by decide +kernel
theorem dX3_init_13 : decode cX3_init 13 = .ok (.aload_n 0, 1) := by decide +kernel
theorem dX3_init_14 : decode cX3_init 14 = .ok (.iconst 3, 1) := by decide +kernel
theorem dX3_init_15 : decode cX3_init 15 = .ok (.newarray .int, 2) := by decide +kernel
theorem dX3_init_17 : decode cX3_init 17 = .ok (.putfield 15, 3) := by decide +kernel
theorem dX3_init_20 : decode cX3_init 20 = .ok (.aload_n 0, 1) := by decide +kernel
theorem dX3_init_21 : decode cX3_init 21 = .ok (.bipush 100, 2) := by decide +kernel
theorem dX3_init_23 : decode cX3_init 23 = .ok (.newarray .int, 2) := by decide +kernel
theorem dX3_init_25 : decode cX3_init 25 = .ok (.putfield 18, 3) := by decide +kernel
theorem dX3_init_28 : decode cX3_init 28 = .ok (.aload_n 0, 1) := by decide +kernel
theorem dX3_init_29 : decode cX3_init 29 = .ok (.aload_n 1, 1) := by decide +kernel
theorem dX3_init_30 : decode cX3_init 30 = .ok (.putfield 21, 3) := by decide +kernel
theorem dX3_init_33 : decode cX3_init 33 = .ok (.return_, 1) := by decide +kernel
theorem dX3_lookAt_0 : decode cX3_lookAt 0 = .ok (.aload_n 0, 1) := by decide +kernel
theorem dX3_lookAt_1 : decode cX3_lookAt 1 = .ok (.aload_n 1, 1) := by decide +kernel
theorem dX3_lookAt_2 : decode cX3_lookAt 2 = .ok (.putfield 21, 3) := by decide +kernel
theorem dX3_lookAt_5 : decode cX3_lookAt 5 = .ok (.aload_n 0, 1) := by decide +kernel
theorem dX3_lookAt_6 : decode cX3_lookAt 6 = .ok (.getfield 15, 3) := by decide +kernel
theorem dX3_lookAt_9 : decode cX3_lookAt 9 = .ok (.iconst (-1), 1) := by decide +kernel
theorem dX3_lookAt_10 : decode cX3_lookAt 10 = .ok (.invokestatic 25, 3) := by decide +kernel
theorem dX3_lookAt_13 : decode cX3_lookAt 13 = .ok (.return_, 1) := by decide +kernel
theorem dX4_init_0 : decode cX4_init 0 = .ok (.aload_n 0, 1) := by decide +kernel
theorem dX4_init_1 : decode cX4_init 1 = .ok (.invokespecial 3, 3) := by decide +kernel
theorem dX4_init_4 : decode cX4_init 4 = .ok (.aload_n 0, 1) := by decide +kernel
theorem dX4_init_5 : decode cX4_init 5 = .ok (.sipush 400, 3) := by decide +kernel
theorem dX4_init_8 : decode cX4_init 8 = .ok (.newarray .int, 2) := by decide +kernel
theorem dX4_init_10 : decode cX4_init 10 = .ok (.putfield 9, 3) := by decide +kernel
theorem dX4_init_13 : decode cX4_init 13 = .ok (.aload_n 0, 1) := by decide +kernel
theorem dX4_init_14 : decode cX4_init 14 = .ok (.sipush 400, 3) := by decide +kernel
theorem dX4_init_17 : decode cX4_init 17 = .ok (.newarray .int, 2) := by decide +kernel
theorem dX4_init_19 : decode cX4_init 19 = .ok (.putfield 15, 3) := by decide +kernel
theorem dX4_init_22 : decode cX4_init 22 = .ok (.return_, 1) := by decide +kernel
theorem dX5_init_0 : decode cX5_init 0 = .ok (.aload_n 0, 1) := by decide +kernel
theorem dX5_init_1 : decode cX5_init 1 = .ok (.invokespecial 3, 3) := by decide +kernel
theorem dX5_init_4 : decode cX5_init 4 = .ok (.aload_n 0, 1) := by decide +kernel
theorem dX5_init_5 : decode cX5_init 5 = .ok (.sipush 404, 3) := by decide +kernel
theorem dX5_init_8 : decode cX5_init 8 = .ok (.newarray .long, 2) := by decide +kernel
theorem dX5_init_10 : decode cX5_init 10 = .ok (.putfield 11, 3) := by decide +kernel
theorem dX5_init_13 : decode cX5_init 13 = .ok (.aload_n 0, 1) := by decide +kernel
theorem dX5_init_14 : decode cX5_init 14 = .ok (.sipush 404, 3) := by decide +kernel
theorem dX5_init_17 : decode cX5_init 17 = .ok (.newarray .long, 2) := by decide +kernel
theorem dX5_init_19 : decode cX5_init 19 = .ok (.putfield 15, 3) := by decide +kernel
theorem dX5_init_22 : decode cX5_init 22 = .ok (.aload_n 0, 1) := by decide +kernel
theorem dX5_init_23 : decode cX5_init 23 = .ok (.sipush 404, 3) := by decide +kernel
theorem dX5_init_26 : decode cX5_init 26 = .ok (.newarray .long, 2) := by decide +kernel
theorem dX5_init_28 : decode cX5_init 28 = .ok (.putfield 18, 3) := by decide +kernel
theorem dX5_init_31 : decode cX5_init 31 = .ok (.aload_n 0, 1) := by decide +kernel
theorem dX5_init_32 : decode cX5_init 32 = .ok (.sipush 404, 3) := by decide +kernel
theorem dX5_init_35 : decode cX5_init 35 = .ok (.newarray .long, 2) := by decide +kernel
theorem dX5_init_37 : decode cX5_init 37 = .ok (.putfield 21, 3) := by decide +kernel
theorem dX5_init_40 : decode cX5_init 40 = .ok (.aload_n 0, 1) := by decide +kernel
theorem dX5_init_41 : decode cX5_init 41 = .ok (.sipush 404, 3) := by decide +kernel
theorem dX5_init_44 : decode cX5_init 44 = .ok (.newarray .long, 2) := by decide +kernel
theorem dX5_init_46 : decode cX5_init 46 = .ok (.putfield 24, 3) := by decide +kernel
theorem dX5_init_49 : decode cX5_init 49 = .ok (.aload_n 0, 1) := by decide +kernel
theorem dX5_init_50 : decode cX5_init 50 = .ok (.sipush 404, 3) := by decide +kernel
theorem dX5_init_53 : decode cX5_init 53 = .ok (.newarray .long, 2) := by decide +kernel
theorem dX5_init_55 : decode cX5_init 55 = .ok (.putfield 27, 3) := by decide +kernel
theorem dX5_init_58 : decode cX5_init 58 = .ok (.return_, 1) := by decide +kernel
theorem dX6_empty_0 : decode cX6_empty 0 = .ok (.aload_n 0, 1) := by decide +kernel
theorem dX6_empty_1 : decode cX6_empty 1 = .ok (.iconst 0, 1) := by decide +kernel
theorem dX6_empty_2 : decode cX6_empty 2 = .ok (.putfield 42, 3) := by decide +kernel
theorem dX6_empty_5 : decode cX6_empty 5 = .ok (.aload_n 0, 1) := by decide +kernel
theorem dX6_empty_6 : decode cX6_empty 6 = .ok (.iconst 0, 1) := by decide +kernel
theorem dX6_empty_7 : decode cX6_empty 7 = .ok (.putfield 46, 3) := by decide +kernel
theorem dX6_empty_10 : decode cX6_empty 10 = .ok (.aload_n 0, 1) := by decide +kernel
theorem dX6_empty_11 : decode cX6_empty 11 = .ok (.iconst 0, 1) := by decide +kernel
theorem dX6_empty_12 : decode cX6_empty 12 = .ok (.putfield 49, 3) := by decide +kernel
theorem dX6_empty_15 : decode cX6_empty 15 = .ok (.aload_n 0, 1) := by decide +kernel
theorem dX6_empty_16 : decode cX6_empty 16 = .ok (.iconst 0, 1) := by decide +kernel
theorem dX6_empty_17 : decode cX6_empty 17 = .ok (.putfield 52, 3) := by decide +kernel
theorem dX6_empty_20 : decode cX6_empty 20 = .ok (.aload_n 0, 1) := by decide +kernel
theorem dX6_empty_21 : decode cX6_empty 21 = .ok (.iconst 0, 1) := by decide +kernel
theorem dX6_empty_22 : decode cX6_empty 22 = .ok (.putfield 55, 3) := by decide +kernel
theorem dX6_empty_25 : decode cX6_empty 25 = .ok (.aload_n 0, 1) := by decide +kernel
theorem dX6_empty_26 : decode cX6_empty 26 = .ok (.bipush 30, 2) := by decide +kernel
theorem dX6_empty_28 : decode cX6_empty 28 = .ok (.putfield 58, 3) := by decide +kernel
theorem dX6_empty_31 : decode cX6_empty 31 = .ok (.aload_n 0, 1) := by decide +kernel
theorem dX6_empty_32 : decode cX6_empty 32 = .ok (.bipush 10, 2) := by decide +kernel
theorem dX6_empty_34 : decode cX6_empty 34 = .ok (.putfield 61, 3) := by decide +kernel
theorem dX6_empty_37 : decode cX6_empty 37 = .ok (.aload_n 0, 1) := by decide +kernel
theorem dX6_empty_38 : decode cX6_empty 38 = .ok (.iconst 0, 1) := by decide +kernel
theorem dX6_empty_39 : decode cX6_empty 39 = .ok (.putfield 64, 3) := by decide +kernel
theorem dX6_empty_42 : decode cX6_empty 42 = .ok (.aload_n 0, 1) := by decide +kernel
theorem dX6_empty_43 : decode cX6_empty 43 = .ok (.getfield 30, 3) := by decide +kernel
theorem dX6_empty_46 : decode cX6_empty 46 = .ok (.iconst 0, 1) := by decide +kernel
theorem dX6_empty_47 : decode cX6_empty 47 = .ok (.iconst 0, 1) := by decide +kernel
theorem dX6_empty_48 : decode cX6_empty 48 = .ok (.iastore, 1) := by decide +kernel
theorem dX6_empty_49 : decode cX6_empty 49 = .ok (.aload_n 0, 1) := by decide +kernel
theorem dX6_empty_50 : decode cX6_empty 50 = .ok (.getfield 30, 3) := by decide +kernel
theorem dX6_empty_53 : decode cX6_empty 53 = .ok (.iconst 1, 1) := by decide +kernel
theorem dX6_empty_54 : decode cX6_empty 54 = .ok (.iconst 1, 1) := by decide +kernel
theorem dX6_empty_55 : decode cX6_empty 55 = .ok (.iastore, 1) := by decide +kernel
theorem dX6_empty_56 : decode cX6_empty 56 = .ok (.aload_n 0, 1) := by decide +kernel
theorem dX6_empty_57 : decode cX6_empty 57 = .ok (.getfield 30, 3) := by decide +kernel
theorem dX6_empty_60 : decode cX6_empty 60 = .ok (.iconst 2, 1) := by decide +kernel
theorem dX6_empty_61 : decode cX6_empty 61 = .ok (.iconst 0, 1) := by decide +kernel
theorem dX6_empty_62 : decode cX6_empty 62 = .ok (.iastore, 1) := by decide +kernel
theorem dX6_empty_63 : decode cX6_empty 63 = .ok (.return_, 1) := by decide +kernel
theorem dX6_hasInch_0 : decode cX6_hasInch 0 = .ok (.aload_n 0, 1) := by decide +kernel
theorem dX6_hasInch_1 : decode cX6_hasInch 1 = .ok (.iload_n 1, 1) := by decide +kernel
theorem dX6_hasInch_2 : decode cX6_hasInch 2 = .ok (.invokevirtual 77, 3) := by decide +kernel
theorem dX6_hasInch_5 : decode cX6_hasInch 5 = .ok (.ifCond .eq 21, 3) := by decide +kernel
theorem dX6_hasInch_26 : decode cX6_hasInch 26 = .ok (.iconst 0, 1) := by decide +kernel
theorem dX6_hasInch_27 : decode cX6_hasInch 27 = .ok (.ireturn, 1) := by decide +kernel
theorem dX6_hasRule_0 : decode cX6_hasRule 0 = .ok (.iload_n 1, 1) := by decide +kernel
theorem dX6_hasRule_1 : decode cX6_hasRule 1 = .ok (.ifCond .lt 21, 3) := by decide +kernel
theorem dX6_hasRule_4 : decode cX6_hasRule 4 = .ok (.iload_n 1, 1) := by decide +kernel
theorem dX6_hasRule_5 : decode cX6_hasRule 5 = .ok (.aload_n 0, 1) := by decide +kernel
theorem dX6_hasRule_6 : decode cX6_hasRule 6 = .ok (.getfield 49, 3) := by decide +kernel
theorem dX6_hasRule_9 : decode cX6_hasRule 9 = .ok (.if_icmp .ge 13, 3) := by decide +kernel
theorem dX6_hasRule_22 : decode cX6_hasRule 22 = .ok (.iconst 0, 1) := by decide +kernel
theorem dX6_hasRule_23 : decode cX6_hasRule 23 = .ok (.ireturn, 1) := by decide +kernel
theorem dX6_hasStreet_0 : decode cX6_hasStreet 0 = .ok (.iload_n 1, 1) := by decide +kernel
theorem dX6_hasStreet_1 : decode cX6_hasStreet 1 = .ok (.ifCond .lt 20, 3) := by decide +kernel
theorem dX6_hasStreet_4 : decode cX6_hasStreet 4 = .ok (.iload_n 1, 1) := by decide +kernel
theorem dX6_hasStreet_5 : decode cX6_hasStreet 5 = .ok (.aload_n 0, 1) := by decide +kernel
theorem dX6_hasStreet_6 : decode cX6_hasStreet 6 = .ok (.getfield 42, 3) := by decide +kernel
theorem dX6_hasStreet_9 : decode cX6_hasStreet 9 = .ok (.if_icmp .ge 12, 3) := by decide +kernel
theorem dX6_hasStreet_21 : decode cX6_hasStreet 21 = .ok (.iconst 0, 1) := by decide +kernel
theorem dX6_hasStreet_22 : decode cX6_hasStreet 22 = .ok (.ireturn, 1) := by decide +kernel
theorem dX6_hasWalker_0 : decode cX6_hasWalker 0 = .ok (.iload_n 1, 1) := by decide +kernel
theorem dX6_hasWalker_1 : decode cX6_hasWalker 1 = .ok (.ifCond .lt 20, 3) := by decide +kernel
theorem dX6_hasWalker_4 : decode cX6_hasWalker 4 = .ok (.iload_n 1, 1) := by decide +kernel
theorem dX6_hasWalker_5 : decode cX6_hasWalker 5 = .ok (.aload_n 0, 1) := by decide +kernel
theorem dX6_hasWalker_6 : decode cX6_hasWalker 6 = .ok (.getfield 46, 3) := by decide +kernel
theorem dX6_hasWalker_9 : decode cX6_hasWalker 9 = .ok (.if_icmp .ge 12, 3) := by decide +kernel
theorem dX6_hasWalker_21 : decode cX6_hasWalker 21 = .ok (.iconst 0, 1) := by decide +kernel
theorem dX6_hasWalker_22 : decode cX6_hasWalker 22 = .ok (.ireturn, 1) := by decide +kernel
theorem dX6_init_0 : decode cX6_init 0 = .ok (.aload_n 0, 1) := by decide +kernel
theorem dX6_init_1 : decode cX6_init 1 = .ok (.invokespecial 3, 3) := by decide +kernel
theorem dX6_init_4 : decode cX6_init 4 = .ok (.aload_n 0, 1) := by decide +kernel
theorem dX6_init_5 : decode cX6_init 5 = .ok (.iconst 3, 1) := by decide +kernel
theorem dX6_init_6 : decode cX6_init 6 = .ok (.newarray .int, 2) := by decide +kernel
theorem dX6_init_8 : decode cX6_init 8 = .ok (.putfield 9, 3) := by decide +kernel
theorem dX6_init_11 : decode cX6_init 11 = .ok (.aload_n 0, 1) := by decide +kernel
theorem dX6_init_12 : decode cX6_init 12 = .ok (.sipush 1200, 3) := by decide +kernel
theorem dX6_init_15 : decode cX6_init 15 = .ok (.newarray .int, 2) := by decide +kernel
theorem dX6_init_17 : decode cX6_init 17 = .ok (.putfield 15, 3) := by decide +kernel
theorem dX6_init_20 : decode cX6_init 20 = .ok (.aload_n 0, 1) := by decide +kernel
theorem dX6_init_21 : decode cX6_init 21 = .ok (.iconst 4, 1) := by decide +kernel
theorem dX6_init_22 : decode cX6_init 22 = .ok (.newarray .int, 2) := by decide +kernel
theorem dX6_init_24 : decode cX6_init 24 = .ok (.putfield 18, 3) := by decide +kernel
theorem dX6_init_27 : decode cX6_init 27 = .ok (.aload_n 0, 1) := by decide +kernel
theorem dX6_init_28 : decode cX6_init 28 = .ok (.iconst 4, 1) := by decide +kernel
theorem dX6_init_29 : decode cX6_init 29 = .ok (.newarray .int, 2) := by decide +kernel
theorem dX6_init_31 : decode cX6_init 31 = .ok (.putfield 21, 3) := by decide +kernel
theorem dX6_init_34 : decode cX6_init 34 = .ok (.aload_n 0, 1) := by decide +kernel
theorem dX6_init_35 : decode cX6_init 35 = .ok (.iconst 4, 1) := by decide +kernel
theorem dX6_init_36 : decode cX6_init 36 = .ok (.newarray .int, 2) := by decide +kernel
theorem dX6_init_38 : decode cX6_init 38 = .ok (.putfield 24, 3) := by decide +kernel
theorem dX6_init_41 : decode cX6_init 41 = .ok (.aload_n 0, 1) := by decide +kernel
theorem dX6_init_42 : decode cX6_init 42 = .ok (.iconst 4, 1) := by decide +kernel
theorem dX6_init_43 : decode cX6_init 43 = .ok (.newarray .int, 2) := by decide +kernel
theorem dX6_init_45 : decode cX6_init 45 = .ok (.putfield 27, 3) := by decide +kernel
theorem dX6_init_48 : decode cX6_init 48 = .ok (.aload_n 0, 1) := by decide +kernel
theorem dX6_init_49 : decode cX6_init 49 = .ok (.iconst 3, 1) := by decide +kernel
theorem dX6_init_50 : decode cX6_init 50 = .ok (.newarray .int, 2) := by decide +kernel
theorem dX6_init_52 : decode cX6_init 52 = .ok (.putfield 30, 3) := by decide +kernel
theorem dX6_init_55 : decode cX6_init 55 = .ok (.aload_n 0, 1) := by decide +kernel
theorem dX6_init_56 : decode cX6_init 56 = .ok (.sipush 580, 3) := by decide +kernel
theorem dX6_init_59 : decode cX6_init 59 = .ok (.newarray .int, 2) := by decide +kernel
theorem dX6_init_61 : decode cX6_init 61 = .ok (.putfield 33, 3) := by decide +kernel
theorem dX6_init_64 : decode cX6_init 64 = .ok (.aload_n 0, 1) := by decide +kernel
theorem dX6_init_65 : decode cX6_init 65 = .ok (.bipush 7, 2) := by decide +kernel
theorem dX6_init_67 : decode cX6_init 67 = .ok (.newarray .int, 2) := by decide +kernel
theorem dX6_init_69 : decode cX6_init 69 = .ok (.putfield 36, 3) := by decide +kernel
theorem dX6_init_72 : decode cX6_init 72 = .ok (.aload_n 0, 1) := by decide +kernel
theorem dX6_init_73 : decode cX6_init 73 = .ok (.invokevirtual 39, 3) := by decide +kernel
theorem dX6_init_76 : decode cX6_init 76 = .ok (.return_, 1) := by decide +kernel
theorem dX6_stands_0 : decode cX6_stands 0 = .ok (.aload_n 0, 1) := by decide +kernel
theorem dX6_stands_1 : decode cX6_stands 1 = .ok (.iload_n 1, 1) := by decide +kernel
theorem dX6_stands_2 : decode cX6_stands 2 = .ok (.invokevirtual 81, 3) := by decide +kernel
theorem dX6_stands_5 : decode cX6_stands 5 = .ok (.ifCond .eq 36, 3) := by decide +kernel
theorem dX6_stands_41 : decode cX6_stands 41 = .ok (.iconst 0, 1) := by decide +kernel
theorem dX6_stands_42 : decode cX6_stands 42 = .ok (.ireturn, 1) := by decide +kernel
theorem dX7_init_0 : decode cX7_init 0 = .ok (.aload_n 0, 1) := by decide +kernel
theorem dX7_init_1 : decode cX7_init 1 = .ok (.invokespecial 3, 3) := by decide +kernel
theorem dX7_init_4 : decode cX7_init 4 = .ok (.aload_n 0, 1) := by decide +kernel
theorem dX7_init_5 : decode cX7_init 5 = .ok (.iconst 3, 1) := by decide +kernel
theorem dX7_init_6 : decode cX7_init 6 = .ok (.newarray .long, 2) := by decide +kernel
theorem dX7_init_8 : decode cX7_init 8 = .ok (.putfield 9, 3) := by decide +kernel
theorem dX7_init_11 : decode cX7_init 11 = .ok (.aload_n 0, 1) := by decide +kernel
theorem dX7_init_12 : decode cX7_init 12 = .ok (.iconst 4, 1) := by decide +kernel
theorem dX7_init_13 : decode cX7_init 13 = .ok (.newarray .long, 2) := by decide +kernel
theorem dX7_init_15 : decode cX7_init 15 = .ok (.putfield 15, 3) := by decide +kernel
theorem dX7_init_18 : decode cX7_init 18 = .ok (.aload_n 0, 1) := by decide +kernel
theorem dX7_init_19 : decode cX7_init 19 = .ok (.bipush 6, 2) := by decide +kernel
theorem dX7_init_21 : decode cX7_init 21 = .ok (.newarray .long, 2) := by decide +kernel
theorem dX7_init_23 : decode cX7_init 23 = .ok (.putfield 18, 3) := by decide +kernel
theorem dX7_init_26 : decode cX7_init 26 = .ok (.aload_n 0, 1) := by decide +kernel
theorem dX7_init_27 : decode cX7_init 27 = .ok (.new 21, 3) := by decide +kernel
theorem dX7_init_30 : decode cX7_init 30 = .ok (.dup, 1) := by decide +kernel
theorem dX7_init_31 : decode cX7_init 31 = .ok (.aload_n 1, 1) := by decide +kernel
theorem dX7_init_32 : decode cX7_init 32 = .ok (.invokespecial 23, 3) := by decide +kernel
theorem dX7_init_35 : decode cX7_init 35 = .ok (.putfield 26, 3) := by decide +kernel
theorem dX7_init_38 : decode cX7_init 38 = .ok (.aload_n 0, 1) := by decide +kernel
theorem dX7_init_39 : decode cX7_init 39 = .ok (.new 30, 3) := by decide +kernel
theorem dX7_init_42 : decode cX7_init 42 = .ok (.dup, 1) := by decide +kernel
theorem dX7_init_43 : decode cX7_init 43 = .ok (.aload_n 0, 1) := by decide +kernel
theorem dX7_init_44 : decode cX7_init 44 = .ok (.getfield 26, 3) := by decide +kernel
theorem dX7_init_47 : decode cX7_init 47 = .ok (.aload_n 2, 1) := by decide +kernel
theorem dX7_init_48 : decode cX7_init 48 = .ok (.invokespecial 32, 3) := by decide +kernel
theorem dX7_init_51 : decode cX7_init 51 = .ok (.putfield 35, 3) := by decide +kernel
theorem dX7_init_54 : decode cX7_init 54 = .ok (.aload_n 0, 1) := by decide +kernel
theorem dX7_init_55 : decode cX7_init 55 = .ok (.aload_n 2, 1) := by decide +kernel
theorem dX7_init_56 : decode cX7_init 56 = .ok (.putfield 39, 3) := by decide +kernel
theorem dX7_init_59 : decode cX7_init 59 = .ok (.return_, 1) := by decide +kernel
theorem dX8_init_0 : decode cX8_init 0 = .ok (.aload_n 0, 1) := by decide +kernel
theorem dX8_init_1 : decode cX8_init 1 = .ok (.invokespecial 3, 3) := by decide +kernel
theorem dX8_init_4 : decode cX8_init 4 = .ok (.aload_n 0, 1) := by decide +kernel
theorem dX8_init_5 : decode cX8_init 5 = .ok (.bipush 20, 2) := by decide +kernel
theorem dX8_init_7 : decode cX8_init 7 = .ok (.newarray .int, 2) := by decide +kernel
theorem dX8_init_9 : decode cX8_init 9 = .ok (.putfield 11, 3) := by decide +kernel
theorem dX8_init_12 : decode cX8_init 12 = .ok (.aload_n 0, 1) := by decide +kernel
theorem dX8_init_13 : decode cX8_init 13 = .ok (.bipush 20, 2) := by decide +kernel
theorem dX8_init_15 : decode cX8_init 15 = .ok (.newarray .int, 2) := by decide +kernel
theorem dX8_init_17 : decode cX8_init 17 = .ok (.putfield 15, 3) := by decide +kernel
theorem dX8_init_20 : decode cX8_init 20 = .ok (.aload_n 0, 1) := by decide +kernel
theorem dX8_init_21 : decode cX8_init 21 = .ok (.bipush 20, 2) := by decide +kernel
theorem dX8_init_23 : decode cX8_init 23 = .ok (.newarray .int, 2) := by decide +kernel
theorem dX8_init_25 : decode cX8_init 25 = .ok (.putfield 18, 3) := by decide +kernel
theorem dX8_init_28 : decode cX8_init 28 = .ok (.aload_n 0, 1) := by decide +kernel
theorem dX8_init_29 : decode cX8_init 29 = .ok (.bipush 20, 2) := by decide +kernel
theorem dX8_init_31 : decode cX8_init 31 = .ok (.newarray .int, 2) := by decide +kernel
theorem dX8_init_33 : decode cX8_init 33 = .ok (.putfield 21, 3) := by decide +kernel
theorem dX8_init_36 : decode cX8_init 36 = .ok (.aload_n 0, 1) := by decide +kernel
theorem dX8_init_37 : decode cX8_init 37 = .ok (.bipush 20, 2) := by decide +kernel
theorem dX8_init_39 : decode cX8_init 39 = .ok (.newarray .int, 2) := by decide +kernel
theorem dX8_init_41 : decode cX8_init 41 = .ok (.putfield 24, 3) := by decide +kernel
theorem dX8_init_44 : decode cX8_init 44 = .ok (.return_, 1) := by decide +kernel
theorem dX9_init_0 : decode cX9_init 0 = .ok (.aload_n 0, 1) := by decide +kernel
theorem dX9_init_1 : decode cX9_init 1 = .ok (.invokespecial 3, 3) := by decide +kernel
theorem dX9_init_4 : decode cX9_init 4 = .ok (.aload_n 0, 1) := by decide +kernel
theorem dX9_init_5 : decode cX9_init 5 = .ok (.iconst (-1), 1) := by decide +kernel
theorem dX9_init_6 : decode cX9_init 6 = .ok (.putfield 9, 3) := by decide +kernel
theorem dX9_init_9 : decode cX9_init 9 = .ok (.aload_n 0, 1) := by decide +kernel
theorem dX9_init_10 : decode cX9_init 10 = .ok (.aload_n 1, 1) := by decide +kernel
theorem dX9_init_11 : decode cX9_init 11 = .ok (.putfield 15, 3) := by decide +kernel
theorem dX9_init_14 : decode cX9_init 14 = .ok (.return_, 1) := by decide +kernel
end
section
set_option maxHeartbeats 4000000 in
set_option maxRecDepth 100000 in
theorem c_hasStreet (l : Launch) (D : va_G) (k : ClassId × ClassId × ClassId × ClassId) (sz : Nat) (h0 : Nat) (P : List Value) (p0 : Int32) (g_P_streets : P[9]? = some (.int 0)) : Met l yX6_hasStreet (WS yX6_hasStreet cX6_hasStreet 2 (some .boolean)) ({ frames := 0, cells := 0, slots := 0, locals := 0 }) (va_Pc [.ref h0, .int p0] (cP D k [(h0, .inr (6, P))] sz)) (va_Qi (fun (r : Int32) (_ : Unit) => r = 0) (fun (_ : Unit) t => cB D (va_A [(h0, .inr (6, P))] sz) [(h0, .inr (6, P))] t) (va_A [(h0, .inr (6, P))] sz)) 0 0 (va_A [(h0, .inr (6, P))] sz) := by
  refine Met.ofW (cc := cX6_hasStreet) (maxL := 2) (ret := (some .boolean)) (by decide) rfl ?_
  intro p e s m args below meth c s₁ B hml hv
  obtain ⟨rfl, hsz, hP, hKX, hD0⟩ := hv
  have hK := hKX.1
  have hx := B.exec
  have hb := B.bytes
  have hr := B.returns
  have hts := atoms_spec (ws := WS yX6_hasStreet cX6_hasStreet 2 (some .boolean)) B.pre
  have hgd : ∀ w ∈ gd, w ∈ WS yX6_hasStreet cX6_hasStreet 2 (some .boolean) := fun w h => List.mem_cons_of_mem _ h
  have hg : ∀ w ∈ gd, w.before _ s = true := fun w h => hts w (hgd w h)
  have hown : s.vm.findClass RX6 = some m.cls := findClass_of_methodNamed B.named
  have hlocks := B.notSynchronized
  subst hsz
  have hD := hD0.self (sz := s.heap.size)
  generalize hAe : va_A [(h0, .inr (6, P))] s.heap.size = A at hD ⊢
  have hA : ∀ q : Nat, s.heap.size ≤ q → A q := fun q h => by rw [← hAe]; exact Or.inr h
  have hS : va_S A s.heap s.heap [] := va_S.rf
  have hP : va_P D classes [(h0, .inr (6, P))] s.heap := hP
  have hl := lv_entry ([.ref h0, .int p0]) (n := 2) (Nat.le_of_ble_eq_true rfl)
  rw [lg_entry_eq]
  generalize (lg_sl ([.ref h0, .int p0]) ++ List.replicate (2 - (lg_sl ([.ref h0, .int p0])).length) Slot.unset).toArray = ls at hl ⊢
  have hl : lv_has ls 2 [(0, .ref h0), (1, .int p0)] := hl
  refine lv_iload_n hx hb dX6_hasStreet_0 rfl (lv_at hl 1 rfl) ?_
  refine lv_if_lt (tgt := 21) hx hb dX6_hasStreet_1 (by decide) (fun c_1 => ?_) (fun c_1 => ?_)
  · have c_1 : (p0 : Int32) < 0 := c_1
    refine lv_iconst (v := 0) hx hb dX6_hasStreet_21 (by decide) ?_
    have hP9 := hP.sub (ws' := [(h0, .inr (6, P))]) [0] rfl
    have hD9 := hD.sub (ws' := [(h0, .inr (6, P))]) [0] (by decide) rfl
    exact W.zret (v := 0) hx hb hr (by decide) (fun t ht hW => ⟨⟨0, (), rfl, rfl, cB_of ht hP9 hD9⟩, hS.F ht⟩) hS.2.2 dX6_hasStreet_22
  · have c_1 : ¬ ((p0 : Int32) < 0) := c_1
    refine lv_iload_n hx hb dX6_hasStreet_4 rfl (lv_at hl 1 rfl) ?_
    refine lv_aload_n hx hb dX6_hasStreet_5 rfl (lv_at hl 0 rfl) ?_
    refine va_get (D := D) (ci := 6) (v := .int 0) (C := RX6) (T := TX6) (N := 17) hx hb hg iX6 hown hK hP 0 rfl rfl 9 (by decide) (hg (Cond.fieldLink RX6 42 "SlabWalk$Paving" "streets" "I") m186) (fun _ h9 => h9) g_P_streets dX6_hasStreet_6 ?_
    refine lv_icmp_ge (tgt := 21) hx hb dX6_hasStreet_9 (by decide) (fun c_2 => ?_) (fun c_2 => ?_)
    · have c_2 : (0 : Int32) ≤ p0 := c_2
      refine lv_iconst (v := 0) hx hb dX6_hasStreet_21 (by decide) ?_
      have hP9 := hP.sub (ws' := [(h0, .inr (6, P))]) [0] rfl
      have hD9 := hD.sub (ws' := [(h0, .inr (6, P))]) [0] (by decide) rfl
      exact W.zret (v := 0) hx hb hr (by decide) (fun t ht hW => ⟨⟨0, (), rfl, rfl, cB_of ht hP9 hD9⟩, hS.F ht⟩) hS.2.2 dX6_hasStreet_22
    · exact absurd (Int32.not_lt.mp c_1) c_2

set_option maxHeartbeats 4000000 in
set_option maxRecDepth 100000 in
theorem c_hasWalker (l : Launch) (D : va_G) (k : ClassId × ClassId × ClassId × ClassId) (sz : Nat) (h0 : Nat) (P : List Value) (p0 : Int32) (g_P_walkers : P[10]? = some (.int 0)) : Met l yX6_hasWalker (WS yX6_hasWalker cX6_hasWalker 2 (some .boolean)) ({ frames := 0, cells := 0, slots := 0, locals := 0 }) (va_Pc [.ref h0, .int p0] (cP D k [(h0, .inr (6, P))] sz)) (va_Qi (fun (r : Int32) (_ : Unit) => r = 0) (fun (_ : Unit) t => cB D (va_A [(h0, .inr (6, P))] sz) [(h0, .inr (6, P))] t) (va_A [(h0, .inr (6, P))] sz)) 0 0 (va_A [(h0, .inr (6, P))] sz) := by
  refine Met.ofW (cc := cX6_hasWalker) (maxL := 2) (ret := (some .boolean)) (by decide) rfl ?_
  intro p e s m args below meth c s₁ B hml hv
  obtain ⟨rfl, hsz, hP, hKX, hD0⟩ := hv
  have hK := hKX.1
  have hx := B.exec
  have hb := B.bytes
  have hr := B.returns
  have hts := atoms_spec (ws := WS yX6_hasWalker cX6_hasWalker 2 (some .boolean)) B.pre
  have hgd : ∀ w ∈ gd, w ∈ WS yX6_hasWalker cX6_hasWalker 2 (some .boolean) := fun w h => List.mem_cons_of_mem _ h
  have hg : ∀ w ∈ gd, w.before _ s = true := fun w h => hts w (hgd w h)
  have hown : s.vm.findClass RX6 = some m.cls := findClass_of_methodNamed B.named
  have hlocks := B.notSynchronized
  subst hsz
  have hD := hD0.self (sz := s.heap.size)
  generalize hAe : va_A [(h0, .inr (6, P))] s.heap.size = A at hD ⊢
  have hA : ∀ q : Nat, s.heap.size ≤ q → A q := fun q h => by rw [← hAe]; exact Or.inr h
  have hS : va_S A s.heap s.heap [] := va_S.rf
  have hP : va_P D classes [(h0, .inr (6, P))] s.heap := hP
  have hl := lv_entry ([.ref h0, .int p0]) (n := 2) (Nat.le_of_ble_eq_true rfl)
  rw [lg_entry_eq]
  generalize (lg_sl ([.ref h0, .int p0]) ++ List.replicate (2 - (lg_sl ([.ref h0, .int p0])).length) Slot.unset).toArray = ls at hl ⊢
  have hl : lv_has ls 2 [(0, .ref h0), (1, .int p0)] := hl
  refine lv_iload_n hx hb dX6_hasWalker_0 rfl (lv_at hl 1 rfl) ?_
  refine lv_if_lt (tgt := 21) hx hb dX6_hasWalker_1 (by decide) (fun c_1 => ?_) (fun c_1 => ?_)
  · have c_1 : (p0 : Int32) < 0 := c_1
    refine lv_iconst (v := 0) hx hb dX6_hasWalker_21 (by decide) ?_
    have hP9 := hP.sub (ws' := [(h0, .inr (6, P))]) [0] rfl
    have hD9 := hD.sub (ws' := [(h0, .inr (6, P))]) [0] (by decide) rfl
    exact W.zret (v := 0) hx hb hr (by decide) (fun t ht hW => ⟨⟨0, (), rfl, rfl, cB_of ht hP9 hD9⟩, hS.F ht⟩) hS.2.2 dX6_hasWalker_22
  · have c_1 : ¬ ((p0 : Int32) < 0) := c_1
    refine lv_iload_n hx hb dX6_hasWalker_4 rfl (lv_at hl 1 rfl) ?_
    refine lv_aload_n hx hb dX6_hasWalker_5 rfl (lv_at hl 0 rfl) ?_
    refine va_get (D := D) (ci := 6) (v := .int 0) (C := RX6) (T := TX6) (N := 17) hx hb hg iX6 hown hK hP 0 rfl rfl 10 (by decide) (hg (Cond.fieldLink RX6 46 "SlabWalk$Paving" "walkers" "I") m189) (fun _ h9 => h9) g_P_walkers dX6_hasWalker_6 ?_
    refine lv_icmp_ge (tgt := 21) hx hb dX6_hasWalker_9 (by decide) (fun c_2 => ?_) (fun c_2 => ?_)
    · have c_2 : (0 : Int32) ≤ p0 := c_2
      refine lv_iconst (v := 0) hx hb dX6_hasWalker_21 (by decide) ?_
      have hP9 := hP.sub (ws' := [(h0, .inr (6, P))]) [0] rfl
      have hD9 := hD.sub (ws' := [(h0, .inr (6, P))]) [0] (by decide) rfl
      exact W.zret (v := 0) hx hb hr (by decide) (fun t ht hW => ⟨⟨0, (), rfl, rfl, cB_of ht hP9 hD9⟩, hS.F ht⟩) hS.2.2 dX6_hasWalker_22
    · exact absurd (Int32.not_lt.mp c_1) c_2

set_option maxHeartbeats 4000000 in
set_option maxRecDepth 100000 in
theorem c_hasRule (l : Launch) (D : va_G) (k : ClassId × ClassId × ClassId × ClassId) (sz : Nat) (h0 : Nat) (P : List Value) (p0 : Int32) (g_P_rules : P[11]? = some (.int 0)) : Met l yX6_hasRule (WS yX6_hasRule cX6_hasRule 2 (some .boolean)) ({ frames := 0, cells := 0, slots := 0, locals := 0 }) (va_Pc [.ref h0, .int p0] (cP D k [(h0, .inr (6, P))] sz)) (va_Qi (fun (r : Int32) (_ : Unit) => r = 0) (fun (_ : Unit) t => cB D (va_A [(h0, .inr (6, P))] sz) [(h0, .inr (6, P))] t) (va_A [(h0, .inr (6, P))] sz)) 0 0 (va_A [(h0, .inr (6, P))] sz) := by
  refine Met.ofW (cc := cX6_hasRule) (maxL := 2) (ret := (some .boolean)) (by decide) rfl ?_
  intro p e s m args below meth c s₁ B hml hv
  obtain ⟨rfl, hsz, hP, hKX, hD0⟩ := hv
  have hK := hKX.1
  have hx := B.exec
  have hb := B.bytes
  have hr := B.returns
  have hts := atoms_spec (ws := WS yX6_hasRule cX6_hasRule 2 (some .boolean)) B.pre
  have hgd : ∀ w ∈ gd, w ∈ WS yX6_hasRule cX6_hasRule 2 (some .boolean) := fun w h => List.mem_cons_of_mem _ h
  have hg : ∀ w ∈ gd, w.before _ s = true := fun w h => hts w (hgd w h)
  have hown : s.vm.findClass RX6 = some m.cls := findClass_of_methodNamed B.named
  have hlocks := B.notSynchronized
  subst hsz
  have hD := hD0.self (sz := s.heap.size)
  generalize hAe : va_A [(h0, .inr (6, P))] s.heap.size = A at hD ⊢
  have hA : ∀ q : Nat, s.heap.size ≤ q → A q := fun q h => by rw [← hAe]; exact Or.inr h
  have hS : va_S A s.heap s.heap [] := va_S.rf
  have hP : va_P D classes [(h0, .inr (6, P))] s.heap := hP
  have hl := lv_entry ([.ref h0, .int p0]) (n := 2) (Nat.le_of_ble_eq_true rfl)
  rw [lg_entry_eq]
  generalize (lg_sl ([.ref h0, .int p0]) ++ List.replicate (2 - (lg_sl ([.ref h0, .int p0])).length) Slot.unset).toArray = ls at hl ⊢
  have hl : lv_has ls 2 [(0, .ref h0), (1, .int p0)] := hl
  refine lv_iload_n hx hb dX6_hasRule_0 rfl (lv_at hl 1 rfl) ?_
  refine lv_if_lt (tgt := 22) hx hb dX6_hasRule_1 (by decide) (fun c_1 => ?_) (fun c_1 => ?_)
  · have c_1 : (p0 : Int32) < 0 := c_1
    refine lv_iconst (v := 0) hx hb dX6_hasRule_22 (by decide) ?_
    have hP9 := hP.sub (ws' := [(h0, .inr (6, P))]) [0] rfl
    have hD9 := hD.sub (ws' := [(h0, .inr (6, P))]) [0] (by decide) rfl
    exact W.zret (v := 0) hx hb hr (by decide) (fun t ht hW => ⟨⟨0, (), rfl, rfl, cB_of ht hP9 hD9⟩, hS.F ht⟩) hS.2.2 dX6_hasRule_23
  · have c_1 : ¬ ((p0 : Int32) < 0) := c_1
    refine lv_iload_n hx hb dX6_hasRule_4 rfl (lv_at hl 1 rfl) ?_
    refine lv_aload_n hx hb dX6_hasRule_5 rfl (lv_at hl 0 rfl) ?_
    refine va_get (D := D) (ci := 6) (v := .int 0) (C := RX6) (T := TX6) (N := 17) hx hb hg iX6 hown hK hP 0 rfl rfl 11 (by decide) (hg (Cond.fieldLink RX6 49 "SlabWalk$Paving" "rules" "I") m192) (fun _ h9 => h9) g_P_rules dX6_hasRule_6 ?_
    refine lv_icmp_ge (tgt := 22) hx hb dX6_hasRule_9 (by decide) (fun c_2 => ?_) (fun c_2 => ?_)
    · have c_2 : (0 : Int32) ≤ p0 := c_2
      refine lv_iconst (v := 0) hx hb dX6_hasRule_22 (by decide) ?_
      have hP9 := hP.sub (ws' := [(h0, .inr (6, P))]) [0] rfl
      have hD9 := hD.sub (ws' := [(h0, .inr (6, P))]) [0] (by decide) rfl
      exact W.zret (v := 0) hx hb hr (by decide) (fun t ht hW => ⟨⟨0, (), rfl, rfl, cB_of ht hP9 hD9⟩, hS.F ht⟩) hS.2.2 dX6_hasRule_23
    · exact absurd (Int32.not_lt.mp c_1) c_2

set_option maxHeartbeats 4000000 in
set_option maxRecDepth 100000 in
theorem c_hasInch (l : Launch) (D : va_G) (k : ClassId × ClassId × ClassId × ClassId) (sz : Nat) (h0 : Nat) (P : List Value) (p0 p1 : Int32) (g_P_streets : P[9]? = some (.int 0)) : Met l yX6_hasInch (WS yX6_hasInch cX6_hasInch 3 (some .boolean)) ({ frames := 1, cells := 0, slots := 0, locals := 21 }) (va_Pc [.ref h0, .int p0, .int p1] (cP D k [(h0, .inr (6, P))] sz)) (va_Qi (fun (r : Int32) (_ : Unit) => r = 0) (fun (_ : Unit) t => cB D (va_A [(h0, .inr (6, P))] sz) [(h0, .inr (6, P))] t) (va_A [(h0, .inr (6, P))] sz)) 0 0 (va_A [(h0, .inr (6, P))] sz) := by
  refine Met.ofW (cc := cX6_hasInch) (maxL := 3) (ret := (some .boolean)) (by decide) rfl ?_
  intro p e s m args below meth c s₁ B hml hv
  obtain ⟨rfl, hsz, hP, hKX, hD0⟩ := hv
  have hK := hKX.1
  have hx := B.exec
  have hb := B.bytes
  have hr := B.returns
  have hts := atoms_spec (ws := WS yX6_hasInch cX6_hasInch 3 (some .boolean)) B.pre
  have hgd : ∀ w ∈ gd, w ∈ WS yX6_hasInch cX6_hasInch 3 (some .boolean) := fun w h => List.mem_cons_of_mem _ h
  have hg : ∀ w ∈ gd, w.before _ s = true := fun w h => hts w (hgd w h)
  have hown : s.vm.findClass RX6 = some m.cls := findClass_of_methodNamed B.named
  have hlocks := B.notSynchronized
  subst hsz
  have hD := hD0.self (sz := s.heap.size)
  generalize hAe : va_A [(h0, .inr (6, P))] s.heap.size = A at hD ⊢
  have hA : ∀ q : Nat, s.heap.size ≤ q → A q := fun q h => by rw [← hAe]; exact Or.inr h
  have hS : va_S A s.heap s.heap [] := va_S.rf
  have hP : va_P D classes [(h0, .inr (6, P))] s.heap := hP
  have hl := lv_entry ([.ref h0, .int p0, .int p1]) (n := 3) (Nat.le_of_ble_eq_true rfl)
  rw [lg_entry_eq]
  generalize (lg_sl ([.ref h0, .int p0, .int p1]) ++ List.replicate (3 - (lg_sl ([.ref h0, .int p0, .int p1])).length) Slot.unset).toArray = ls at hl ⊢
  have hl : lv_has ls 3 [(0, .ref h0), (1, .int p0), (2, .int p1)] := hl
  refine lv_aload_n hx hb dX6_hasInch_0 rfl (lv_at hl 0 rfl) ?_
  refine lv_iload_n hx hb dX6_hasInch_1 rfl (lv_at hl 1 rfl) ?_
  have hPc := hP.sub (ws' := [(h0, .inr (6, P))]) [0] rfl
  have hDc := hD.sub (ws' := [(h0, .inr (6, P))]) [0] (by decide) rfl
  have hFc := va_free (wc := [(h0, .inr (6, P))]) hD hS hA [0] rfl
  refine va_calli (va_runV (As := [.int p0]) (rest := []) ⟨hx, hb, hml, hown, hts⟩ (c_hasStreet l D k s.heap.size h0 P p0 g_P_streets) (cwV 1 hts (gd_V hgd m886 m887 m888 m118 m889) rfl rfl rfl (by decide +kernel) ⟨Nat.le_of_ble_eq_true rfl, Nat.le_of_ble_eq_true rfl⟩) (cP_V hPc hKX hDc (ci := 6) (q0 := 0) rfl rfl) rfl rfl hl.1 rfl (lv_room (Nat.le_of_ble_eq_true rfl)) dX6_hasInch_2 ⟨Nat.le_of_ble_eq_true rfl, Nat.le_of_ble_eq_true rfl⟩) hS (fun q _ h => hFc q h) hFc (fun r_1 u t H1 locs ht hvm hw hB hz1 hk1 hS => ?_)
  obtain ⟨hP1, hD1⟩ := hB
  rw [ht] at hP1
  obtain ⟨hP, hD⟩ := va_join (wr := []) (w1 := [(h0, .inr (6, P))]) hP hD [0] [] rfl rfl (by decide) (by decide) hk1 hFc hP1 hD1
  generalize H1 = H at hP hS ⊢
  have hP : va_P D classes [(h0, .inr (6, P))] H := hP
  have hD : va_D A [(h0, .inr (6, P))] := hD
  refine W.widen (k := 0) (n := 0) (Nat.le_of_ble_eq_true rfl) (Nat.le_of_ble_eq_true rfl) ?_
  subst hw
  refine lv_if_eq (tgt := 26) hx hb dX6_hasInch_5 (by decide) (fun c_2 => ?_) (fun c_2 => ?_)
  · have c_2 : (0 : Int32) = 0 := c_2
    refine lv_iconst (v := 0) hx hb dX6_hasInch_26 (by decide) ?_
    have hP9 := hP.sub (ws' := [(h0, .inr (6, P))]) [0] rfl
    have hD9 := hD.sub (ws' := [(h0, .inr (6, P))]) [0] (by decide) rfl
    exact W.zret (v := 0) hx hb hr (by decide) (fun t ht hW => ⟨⟨0, (), rfl, rfl, cB_of ht hP9 hD9⟩, hS.F ht⟩) hS.2.2 dX6_hasInch_27
  · exact absurd (by decide) c_2

set_option maxHeartbeats 4000000 in
set_option maxRecDepth 100000 in
theorem c_stands (l : Launch) (D : va_G) (k : ClassId × ClassId × ClassId × ClassId) (sz : Nat) (h0 : Nat) (P : List Value) (p0 p1 p2 : Int32) (g_P_walkers : P[10]? = some (.int 0)) : Met l yX6_stands (WS yX6_stands cX6_stands 4 (some .boolean)) ({ frames := 1, cells := 0, slots := 0, locals := 21 }) (va_Pc [.ref h0, .int p0, .int p1, .int p2] (cP D k [(h0, .inr (6, P))] sz)) (va_Qi (fun (r : Int32) (_ : Unit) => r = 0) (fun (_ : Unit) t => cB D (va_A [(h0, .inr (6, P))] sz) [(h0, .inr (6, P))] t) (va_A [(h0, .inr (6, P))] sz)) 0 0 (va_A [(h0, .inr (6, P))] sz) := by
  refine Met.ofW (cc := cX6_stands) (maxL := 4) (ret := (some .boolean)) (by decide) rfl ?_
  intro p e s m args below meth c s₁ B hml hv
  obtain ⟨rfl, hsz, hP, hKX, hD0⟩ := hv
  have hK := hKX.1
  have hx := B.exec
  have hb := B.bytes
  have hr := B.returns
  have hts := atoms_spec (ws := WS yX6_stands cX6_stands 4 (some .boolean)) B.pre
  have hgd : ∀ w ∈ gd, w ∈ WS yX6_stands cX6_stands 4 (some .boolean) := fun w h => List.mem_cons_of_mem _ h
  have hg : ∀ w ∈ gd, w.before _ s = true := fun w h => hts w (hgd w h)
  have hown : s.vm.findClass RX6 = some m.cls := findClass_of_methodNamed B.named
  have hlocks := B.notSynchronized
  subst hsz
  have hD := hD0.self (sz := s.heap.size)
  generalize hAe : va_A [(h0, .inr (6, P))] s.heap.size = A at hD ⊢
  have hA : ∀ q : Nat, s.heap.size ≤ q → A q := fun q h => by rw [← hAe]; exact Or.inr h
  have hS : va_S A s.heap s.heap [] := va_S.rf
  have hP : va_P D classes [(h0, .inr (6, P))] s.heap := hP
  have hl := lv_entry ([.ref h0, .int p0, .int p1, .int p2]) (n := 4) (Nat.le_of_ble_eq_true rfl)
  rw [lg_entry_eq]
  generalize (lg_sl ([.ref h0, .int p0, .int p1, .int p2]) ++ List.replicate (4 - (lg_sl ([.ref h0, .int p0, .int p1, .int p2])).length) Slot.unset).toArray = ls at hl ⊢
  have hl : lv_has ls 4 [(0, .ref h0), (1, .int p0), (2, .int p1), (3, .int p2)] := hl
  refine lv_aload_n hx hb dX6_stands_0 rfl (lv_at hl 0 rfl) ?_
  refine lv_iload_n hx hb dX6_stands_1 rfl (lv_at hl 1 rfl) ?_
  have hPc := hP.sub (ws' := [(h0, .inr (6, P))]) [0] rfl
  have hDc := hD.sub (ws' := [(h0, .inr (6, P))]) [0] (by decide) rfl
  have hFc := va_free (wc := [(h0, .inr (6, P))]) hD hS hA [0] rfl
  refine va_calli (va_runV (As := [.int p0]) (rest := []) ⟨hx, hb, hml, hown, hts⟩ (c_hasWalker l D k s.heap.size h0 P p0 g_P_walkers) (cwV 1 hts (gd_V hgd m969 m958 m959 m118 m960) rfl rfl rfl (by decide +kernel) ⟨Nat.le_of_ble_eq_true rfl, Nat.le_of_ble_eq_true rfl⟩) (cP_V hPc hKX hDc (ci := 6) (q0 := 0) rfl rfl) rfl rfl hl.1 rfl (lv_room (Nat.le_of_ble_eq_true rfl)) dX6_stands_2 ⟨Nat.le_of_ble_eq_true rfl, Nat.le_of_ble_eq_true rfl⟩) hS (fun q _ h => hFc q h) hFc (fun r_1 u t H1 locs ht hvm hw hB hz1 hk1 hS => ?_)
  obtain ⟨hP1, hD1⟩ := hB
  rw [ht] at hP1
  obtain ⟨hP, hD⟩ := va_join (wr := []) (w1 := [(h0, .inr (6, P))]) hP hD [0] [] rfl rfl (by decide) (by decide) hk1 hFc hP1 hD1
  generalize H1 = H at hP hS ⊢
  have hP : va_P D classes [(h0, .inr (6, P))] H := hP
  have hD : va_D A [(h0, .inr (6, P))] := hD
  refine W.widen (k := 0) (n := 0) (Nat.le_of_ble_eq_true rfl) (Nat.le_of_ble_eq_true rfl) ?_
  subst hw
  refine lv_if_eq (tgt := 41) hx hb dX6_stands_5 (by decide) (fun c_2 => ?_) (fun c_2 => ?_)
  · have c_2 : (0 : Int32) = 0 := c_2
    refine lv_iconst (v := 0) hx hb dX6_stands_41 (by decide) ?_
    have hP9 := hP.sub (ws' := [(h0, .inr (6, P))]) [0] rfl
    have hD9 := hD.sub (ws' := [(h0, .inr (6, P))]) [0] (by decide) rfl
    exact W.zret (v := 0) hx hb hr (by decide) (fun t ht hW => ⟨⟨0, (), rfl, rfl, cB_of ht hP9 hD9⟩, hS.F ht⟩) hS.2.2 dX6_stands_42
  · exact absurd (by decide) c_2
end
section
set_option maxHeartbeats 4000000 in
set_option maxRecDepth 100000 in
theorem c_fill3 (l : Launch) (D : va_G) (k : ClassId × ClassId × ClassId × ClassId) (sz : Nat) (h0 : Nat) (f : Nat → Int32) (p0 : Int32)  : Met l yJ7_fill_53178 (WS yJ7_fill_53178 cJ7_fill_53178 4 none) ({ frames := 0, cells := 0, slots := 0, locals := 0 }) (va_Pc [.ref h0, .int p0] (cP D k [(h0, .inl (k.2.1, 3, .inl f))] sz)) (va_Qv (fun _ : Unit => True) (fun (_ : Unit) t => ∃ (g : Nat → Int32), g 0 = p0 ∧ g 1 = p0 ∧ g 2 = p0 ∧ cB D (va_A [(h0, .inl (k.2.1, 3, .inl f))] sz) [(h0, .inl (k.2.1, 3, .inl g))] t) (va_A [(h0, .inl (k.2.1, 3, .inl f))] sz)) 0 0 (va_A [(h0, .inl (k.2.1, 3, .inl f))] sz) := by
  refine Met.ofW (cc := cJ7_fill_53178) (maxL := 4) (ret := none) (by decide) rfl ?_
  intro p e s m args below meth c s₁ B hml hv
  obtain ⟨rfl, hsz, hP, hKX, hD0⟩ := hv
  have hK := hKX.1
  have hx := B.exec
  have hb := B.bytes
  have hr := B.returns
  have hts := atoms_spec (ws := WS yJ7_fill_53178 cJ7_fill_53178 4 none) B.pre
  have hgd : ∀ w ∈ gd, w ∈ WS yJ7_fill_53178 cJ7_fill_53178 4 none := fun w h => List.mem_cons_of_mem _ h
  have hg : ∀ w ∈ gd, w.before _ s = true := fun w h => hts w (hgd w h)
  have hown : s.vm.findClass RJ7 = some m.cls := findClass_of_methodNamed B.named
  have hlocks := B.notSynchronized
  subst hsz
  have hD := hD0.self (sz := s.heap.size)
  generalize hAe : va_A [(h0, .inl (k.2.1, 3, .inl f))] s.heap.size = A at hD ⊢
  have hA : ∀ q : Nat, s.heap.size ≤ q → A q := fun q h => by rw [← hAe]; exact Or.inr h
  have hS : va_S A s.heap s.heap [] := va_S.rf
  have hP : va_P D classes [(h0, .inl (k.2.1, 3, .inl f))] s.heap := hP
  have hl := lv_entry ([.ref h0, .int p0]) (n := 4) (Nat.le_of_ble_eq_true rfl)
  rw [lg_entry_eq]
  generalize (lg_sl ([.ref h0, .int p0]) ++ List.replicate (4 - (lg_sl ([.ref h0, .int p0])).length) Slot.unset).toArray = ls at hl ⊢
  have hl : lv_has ls 4 [(0, .ref h0), (1, .int p0)] := hl
  refine lv_iconst (v := 0) hx hb dJ7_fill_53178_0 (by decide) ?_
  refine lv_istore_n (lv' := [(2, .int 0), (0, .ref h0), (1, .int p0)]) hx hb dJ7_fill_53178_1 rfl hl (by decide) rfl (fun ls hl => ?_)
  refine lv_aload_n hx hb dJ7_fill_53178_2 rfl (lv_at hl 1 rfl) ?_
  refine va_alen (v := 3) hx hb hK hP 0 1 rfl rfl rfl dJ7_fill_53178_3 ?_
  refine lv_istore_n (lv' := [(3, .int 3), (2, .int 0), (0, .ref h0), (1, .int p0)]) hx hb dJ7_fill_53178_4 rfl hl (by decide) rfl (fun ls hl => ?_)
  refine lv_iload_n hx hb dJ7_fill_53178_5 rfl (lv_at hl 1 rfl) ?_
  refine lv_iload_n hx hb dJ7_fill_53178_6 rfl (lv_at hl 0 rfl) ?_
  refine lv_icmp_ge (tgt := 20) hx hb dJ7_fill_53178_7 (by decide) (fun c_1 => ?_) (fun c_1 => ?_)
  · exact absurd c_1 (by decide)
  · have c_1 : ¬ ((3 : Int32) ≤ 0) := c_1
    refine lv_aload_n hx hb dJ7_fill_53178_10 rfl (lv_at hl 2 rfl) ?_
    refine lv_iload_n hx hb dJ7_fill_53178_11 rfl (lv_at hl 1 rfl) ?_
    refine lv_iload_n hx hb dJ7_fill_53178_12 rfl (lv_at hl 3 rfl) ?_
    refine va_iast hx hb hK hP hD hS 0 1 rfl rfl (show ¬ ((0 : Int32) < 0 ∨ 3 ≤ (0 : Int32).toNatClampNeg) from by decide +kernel) dJ7_fill_53178_13 (fun H locs hP hD hS => ?_)
    have hP : va_P D classes [(h0, .inl (k.2.1, 3, .inl (upd f 0 p0)))] H := hP
    have hD : va_D A [(h0, .inl (k.2.1, 3, .inl (upd f 0 p0)))] := hD
    have g_3 : (upd f 0 p0) 0 = p0 := rfl
    generalize (upd f 0 p0) = f_2 at hP hD g_3
    refine lv_iinc (v := 1) (lv' := [(2, .int 1), (3, .int 3), (0, .ref h0), (1, .int p0)]) hx hb dJ7_fill_53178_14 hl (k := 1) rfl (by decide) (by decide) rfl (fun ls hl => ?_)
    refine lv_goto (tgt := 5) hx hb dJ7_fill_53178_17 (by decide) ?_
    refine lv_iload_n hx hb dJ7_fill_53178_5 rfl (lv_at hl 0 rfl) ?_
    refine lv_iload_n hx hb dJ7_fill_53178_6 rfl (lv_at hl 1 rfl) ?_
    refine lv_icmp_ge (tgt := 20) hx hb dJ7_fill_53178_7 (by decide) (fun c_4 => ?_) (fun c_4 => ?_)
    · exact absurd c_4 (by decide)
    · have c_4 : ¬ ((3 : Int32) ≤ 1) := c_4
      refine lv_aload_n hx hb dJ7_fill_53178_10 rfl (lv_at hl 2 rfl) ?_
      refine lv_iload_n hx hb dJ7_fill_53178_11 rfl (lv_at hl 0 rfl) ?_
      refine lv_iload_n hx hb dJ7_fill_53178_12 rfl (lv_at hl 3 rfl) ?_
      refine va_iast hx hb hK hP hD hS 0 1 rfl rfl (show ¬ ((1 : Int32) < 0 ∨ 3 ≤ (1 : Int32).toNatClampNeg) from by decide +kernel) dJ7_fill_53178_13 (fun H locs hP hD hS => ?_)
      have hP : va_P D classes [(h0, .inl (k.2.1, 3, .inl (upd f_2 1 p0)))] H := hP
      have hD : va_D A [(h0, .inl (k.2.1, 3, .inl (upd f_2 1 p0)))] := hD
      have g_6 : (upd f_2 1 p0) 0 = p0 := g_3
      have g_7 : (upd f_2 1 p0) 1 = p0 := rfl
      generalize (upd f_2 1 p0) = f_5 at hP hD g_6 g_7
      refine lv_iinc (v := 2) (lv' := [(2, .int 2), (3, .int 3), (0, .ref h0), (1, .int p0)]) hx hb dJ7_fill_53178_14 hl (k := 0) rfl (by decide) (by decide) rfl (fun ls hl => ?_)
      refine lv_goto (tgt := 5) hx hb dJ7_fill_53178_17 (by decide) ?_
      refine lv_iload_n hx hb dJ7_fill_53178_5 rfl (lv_at hl 0 rfl) ?_
      refine lv_iload_n hx hb dJ7_fill_53178_6 rfl (lv_at hl 1 rfl) ?_
      refine lv_icmp_ge (tgt := 20) hx hb dJ7_fill_53178_7 (by decide) (fun c_8 => ?_) (fun c_8 => ?_)
      · exact absurd c_8 (by decide)
      · have c_8 : ¬ ((3 : Int32) ≤ 2) := c_8
        refine lv_aload_n hx hb dJ7_fill_53178_10 rfl (lv_at hl 2 rfl) ?_
        refine lv_iload_n hx hb dJ7_fill_53178_11 rfl (lv_at hl 0 rfl) ?_
        refine lv_iload_n hx hb dJ7_fill_53178_12 rfl (lv_at hl 3 rfl) ?_
        refine va_iast hx hb hK hP hD hS 0 1 rfl rfl (show ¬ ((2 : Int32) < 0 ∨ 3 ≤ (2 : Int32).toNatClampNeg) from by decide +kernel) dJ7_fill_53178_13 (fun H locs hP hD hS => ?_)
        have hP : va_P D classes [(h0, .inl (k.2.1, 3, .inl (upd f_5 2 p0)))] H := hP
        have hD : va_D A [(h0, .inl (k.2.1, 3, .inl (upd f_5 2 p0)))] := hD
        have g_10 : (upd f_5 2 p0) 0 = p0 := g_6
        have g_11 : (upd f_5 2 p0) 1 = p0 := g_7
        have g_12 : (upd f_5 2 p0) 2 = p0 := rfl
        generalize (upd f_5 2 p0) = f_9 at hP hD g_10 g_11 g_12
        refine lv_iinc (v := 3) (lv' := [(2, .int 3), (3, .int 3), (0, .ref h0), (1, .int p0)]) hx hb dJ7_fill_53178_14 hl (k := 0) rfl (by decide) (by decide) rfl (fun ls hl => ?_)
        refine lv_goto (tgt := 5) hx hb dJ7_fill_53178_17 (by decide) ?_
        refine lv_iload_n hx hb dJ7_fill_53178_5 rfl (lv_at hl 0 rfl) ?_
        refine lv_iload_n hx hb dJ7_fill_53178_6 rfl (lv_at hl 1 rfl) ?_
        refine lv_icmp_ge (tgt := 20) hx hb dJ7_fill_53178_7 (by decide) (fun c_13 => ?_) (fun c_13 => ?_)
        · have c_13 : (3 : Int32) ≤ 3 := c_13
          have hP9 := hP.sub (ws' := [(h0, .inl (k.2.1, 3, .inl f_9))]) [0] rfl
          have hD9 := hD.sub (ws' := [(h0, .inl (k.2.1, 3, .inl f_9))]) [0] (by decide) rfl
          exact W.vret hx hb hr (fun t ht hW => ⟨⟨(), rfl, trivial, ⟨f_9, g_10, g_11, g_12, cB_of ht hP9 hD9⟩⟩, hS.F ht⟩) hS.2.2 dJ7_fill_53178_20
        · exact absurd (by decide) c_13

set_option maxHeartbeats 4000000 in
set_option maxRecDepth 100000 in
theorem c_fill10 (l : Launch) (D : va_G) (k : ClassId × ClassId × ClassId × ClassId) (sz : Nat) (h0 : Nat) (f : Nat → Int32) (p0 : Int32)  : Met l yJ7_fill_53178 (WS yJ7_fill_53178 cJ7_fill_53178 4 none) ({ frames := 0, cells := 0, slots := 0, locals := 0 }) (va_Pc [.ref h0, .int p0] (cP D k [(h0, .inl (k.2.1, 10, .inl f))] sz)) (va_Qv (fun _ : Unit => True) (fun (_ : Unit) t => ∃ (g : Nat → Int32), g 0 = p0 ∧ g 1 = p0 ∧ g 2 = p0 ∧ g 3 = p0 ∧ g 4 = p0 ∧ g 5 = p0 ∧ g 6 = p0 ∧ g 7 = p0 ∧ g 8 = p0 ∧ g 9 = p0 ∧ cB D (va_A [(h0, .inl (k.2.1, 10, .inl f))] sz) [(h0, .inl (k.2.1, 10, .inl g))] t) (va_A [(h0, .inl (k.2.1, 10, .inl f))] sz)) 0 0 (va_A [(h0, .inl (k.2.1, 10, .inl f))] sz) := by
  refine Met.ofW (cc := cJ7_fill_53178) (maxL := 4) (ret := none) (by decide) rfl ?_
  intro p e s m args below meth c s₁ B hml hv
  obtain ⟨rfl, hsz, hP, hKX, hD0⟩ := hv
  have hK := hKX.1
  have hx := B.exec
  have hb := B.bytes
  have hr := B.returns
  have hts := atoms_spec (ws := WS yJ7_fill_53178 cJ7_fill_53178 4 none) B.pre
  have hgd : ∀ w ∈ gd, w ∈ WS yJ7_fill_53178 cJ7_fill_53178 4 none := fun w h => List.mem_cons_of_mem _ h
  have hg : ∀ w ∈ gd, w.before _ s = true := fun w h => hts w (hgd w h)
  have hown : s.vm.findClass RJ7 = some m.cls := findClass_of_methodNamed B.named
  have hlocks := B.notSynchronized
  subst hsz
  have hD := hD0.self (sz := s.heap.size)
  generalize hAe : va_A [(h0, .inl (k.2.1, 10, .inl f))] s.heap.size = A at hD ⊢
  have hA : ∀ q : Nat, s.heap.size ≤ q → A q := fun q h => by rw [← hAe]; exact Or.inr h
  have hS : va_S A s.heap s.heap [] := va_S.rf
  have hP : va_P D classes [(h0, .inl (k.2.1, 10, .inl f))] s.heap := hP
  have hl := lv_entry ([.ref h0, .int p0]) (n := 4) (Nat.le_of_ble_eq_true rfl)
  rw [lg_entry_eq]
  generalize (lg_sl ([.ref h0, .int p0]) ++ List.replicate (4 - (lg_sl ([.ref h0, .int p0])).length) Slot.unset).toArray = ls at hl ⊢
  have hl : lv_has ls 4 [(0, .ref h0), (1, .int p0)] := hl
  refine lv_iconst (v := 0) hx hb dJ7_fill_53178_0 (by decide) ?_
  refine lv_istore_n (lv' := [(2, .int 0), (0, .ref h0), (1, .int p0)]) hx hb dJ7_fill_53178_1 rfl hl (by decide) rfl (fun ls hl => ?_)
  refine lv_aload_n hx hb dJ7_fill_53178_2 rfl (lv_at hl 1 rfl) ?_
  refine va_alen (v := 10) hx hb hK hP 0 1 rfl rfl rfl dJ7_fill_53178_3 ?_
  refine lv_istore_n (lv' := [(3, .int 10), (2, .int 0), (0, .ref h0), (1, .int p0)]) hx hb dJ7_fill_53178_4 rfl hl (by decide) rfl (fun ls hl => ?_)
  refine lv_iload_n hx hb dJ7_fill_53178_5 rfl (lv_at hl 1 rfl) ?_
  refine lv_iload_n hx hb dJ7_fill_53178_6 rfl (lv_at hl 0 rfl) ?_
  refine lv_icmp_ge (tgt := 20) hx hb dJ7_fill_53178_7 (by decide) (fun c_1 => ?_) (fun c_1 => ?_)
  · exact absurd c_1 (by decide)
  · have c_1 : ¬ ((10 : Int32) ≤ 0) := c_1
    refine lv_aload_n hx hb dJ7_fill_53178_10 rfl (lv_at hl 2 rfl) ?_
    refine lv_iload_n hx hb dJ7_fill_53178_11 rfl (lv_at hl 1 rfl) ?_
    refine lv_iload_n hx hb dJ7_fill_53178_12 rfl (lv_at hl 3 rfl) ?_
    refine va_iast hx hb hK hP hD hS 0 1 rfl rfl (show ¬ ((0 : Int32) < 0 ∨ 10 ≤ (0 : Int32).toNatClampNeg) from by decide +kernel) dJ7_fill_53178_13 (fun H locs hP hD hS => ?_)
    have hP : va_P D classes [(h0, .inl (k.2.1, 10, .inl (upd f 0 p0)))] H := hP
    have hD : va_D A [(h0, .inl (k.2.1, 10, .inl (upd f 0 p0)))] := hD
    have g_3 : (upd f 0 p0) 0 = p0 := rfl
    generalize (upd f 0 p0) = f_2 at hP hD g_3
    refine lv_iinc (v := 1) (lv' := [(2, .int 1), (3, .int 10), (0, .ref h0), (1, .int p0)]) hx hb dJ7_fill_53178_14 hl (k := 1) rfl (by decide) (by decide) rfl (fun ls hl => ?_)
    refine lv_goto (tgt := 5) hx hb dJ7_fill_53178_17 (by decide) ?_
    refine lv_iload_n hx hb dJ7_fill_53178_5 rfl (lv_at hl 0 rfl) ?_
    refine lv_iload_n hx hb dJ7_fill_53178_6 rfl (lv_at hl 1 rfl) ?_
    refine lv_icmp_ge (tgt := 20) hx hb dJ7_fill_53178_7 (by decide) (fun c_4 => ?_) (fun c_4 => ?_)
    · exact absurd c_4 (by decide)
    · have c_4 : ¬ ((10 : Int32) ≤ 1) := c_4
      refine lv_aload_n hx hb dJ7_fill_53178_10 rfl (lv_at hl 2 rfl) ?_
      refine lv_iload_n hx hb dJ7_fill_53178_11 rfl (lv_at hl 0 rfl) ?_
      refine lv_iload_n hx hb dJ7_fill_53178_12 rfl (lv_at hl 3 rfl) ?_
      refine va_iast hx hb hK hP hD hS 0 1 rfl rfl (show ¬ ((1 : Int32) < 0 ∨ 10 ≤ (1 : Int32).toNatClampNeg) from by decide +kernel) dJ7_fill_53178_13 (fun H locs hP hD hS => ?_)
      have hP : va_P D classes [(h0, .inl (k.2.1, 10, .inl (upd f_2 1 p0)))] H := hP
      have hD : va_D A [(h0, .inl (k.2.1, 10, .inl (upd f_2 1 p0)))] := hD
      have g_6 : (upd f_2 1 p0) 0 = p0 := g_3
      have g_7 : (upd f_2 1 p0) 1 = p0 := rfl
      generalize (upd f_2 1 p0) = f_5 at hP hD g_6 g_7
      refine lv_iinc (v := 2) (lv' := [(2, .int 2), (3, .int 10), (0, .ref h0), (1, .int p0)]) hx hb dJ7_fill_53178_14 hl (k := 0) rfl (by decide) (by decide) rfl (fun ls hl => ?_)
      refine lv_goto (tgt := 5) hx hb dJ7_fill_53178_17 (by decide) ?_
      refine lv_iload_n hx hb dJ7_fill_53178_5 rfl (lv_at hl 0 rfl) ?_
      refine lv_iload_n hx hb dJ7_fill_53178_6 rfl (lv_at hl 1 rfl) ?_
      refine lv_icmp_ge (tgt := 20) hx hb dJ7_fill_53178_7 (by decide) (fun c_8 => ?_) (fun c_8 => ?_)
      · exact absurd c_8 (by decide)
      · have c_8 : ¬ ((10 : Int32) ≤ 2) := c_8
        refine lv_aload_n hx hb dJ7_fill_53178_10 rfl (lv_at hl 2 rfl) ?_
        refine lv_iload_n hx hb dJ7_fill_53178_11 rfl (lv_at hl 0 rfl) ?_
        refine lv_iload_n hx hb dJ7_fill_53178_12 rfl (lv_at hl 3 rfl) ?_
        refine va_iast hx hb hK hP hD hS 0 1 rfl rfl (show ¬ ((2 : Int32) < 0 ∨ 10 ≤ (2 : Int32).toNatClampNeg) from by decide +kernel) dJ7_fill_53178_13 (fun H locs hP hD hS => ?_)
        have hP : va_P D classes [(h0, .inl (k.2.1, 10, .inl (upd f_5 2 p0)))] H := hP
        have hD : va_D A [(h0, .inl (k.2.1, 10, .inl (upd f_5 2 p0)))] := hD
        have g_10 : (upd f_5 2 p0) 0 = p0 := g_6
        have g_11 : (upd f_5 2 p0) 1 = p0 := g_7
        have g_12 : (upd f_5 2 p0) 2 = p0 := rfl
        generalize (upd f_5 2 p0) = f_9 at hP hD g_10 g_11 g_12
        refine lv_iinc (v := 3) (lv' := [(2, .int 3), (3, .int 10), (0, .ref h0), (1, .int p0)]) hx hb dJ7_fill_53178_14 hl (k := 0) rfl (by decide) (by decide) rfl (fun ls hl => ?_)
        refine lv_goto (tgt := 5) hx hb dJ7_fill_53178_17 (by decide) ?_
        refine lv_iload_n hx hb dJ7_fill_53178_5 rfl (lv_at hl 0 rfl) ?_
        refine lv_iload_n hx hb dJ7_fill_53178_6 rfl (lv_at hl 1 rfl) ?_
        refine lv_icmp_ge (tgt := 20) hx hb dJ7_fill_53178_7 (by decide) (fun c_13 => ?_) (fun c_13 => ?_)
        · exact absurd c_13 (by decide)
        · have c_13 : ¬ ((10 : Int32) ≤ 3) := c_13
          refine lv_aload_n hx hb dJ7_fill_53178_10 rfl (lv_at hl 2 rfl) ?_
          refine lv_iload_n hx hb dJ7_fill_53178_11 rfl (lv_at hl 0 rfl) ?_
          refine lv_iload_n hx hb dJ7_fill_53178_12 rfl (lv_at hl 3 rfl) ?_
          refine va_iast hx hb hK hP hD hS 0 1 rfl rfl (show ¬ ((3 : Int32) < 0 ∨ 10 ≤ (3 : Int32).toNatClampNeg) from by decide +kernel) dJ7_fill_53178_13 (fun H locs hP hD hS => ?_)
          have hP : va_P D classes [(h0, .inl (k.2.1, 10, .inl (upd f_9 3 p0)))] H := hP
          have hD : va_D A [(h0, .inl (k.2.1, 10, .inl (upd f_9 3 p0)))] := hD
          have g_15 : (upd f_9 3 p0) 0 = p0 := g_10
          have g_16 : (upd f_9 3 p0) 1 = p0 := g_11
          have g_17 : (upd f_9 3 p0) 2 = p0 := g_12
          have g_18 : (upd f_9 3 p0) 3 = p0 := rfl
          generalize (upd f_9 3 p0) = f_14 at hP hD g_15 g_16 g_17 g_18
          refine lv_iinc (v := 4) (lv' := [(2, .int 4), (3, .int 10), (0, .ref h0), (1, .int p0)]) hx hb dJ7_fill_53178_14 hl (k := 0) rfl (by decide) (by decide) rfl (fun ls hl => ?_)
          refine lv_goto (tgt := 5) hx hb dJ7_fill_53178_17 (by decide) ?_
          refine lv_iload_n hx hb dJ7_fill_53178_5 rfl (lv_at hl 0 rfl) ?_
          refine lv_iload_n hx hb dJ7_fill_53178_6 rfl (lv_at hl 1 rfl) ?_
          refine lv_icmp_ge (tgt := 20) hx hb dJ7_fill_53178_7 (by decide) (fun c_19 => ?_) (fun c_19 => ?_)
          · exact absurd c_19 (by decide)
          · have c_19 : ¬ ((10 : Int32) ≤ 4) := c_19
            refine lv_aload_n hx hb dJ7_fill_53178_10 rfl (lv_at hl 2 rfl) ?_
            refine lv_iload_n hx hb dJ7_fill_53178_11 rfl (lv_at hl 0 rfl) ?_
            refine lv_iload_n hx hb dJ7_fill_53178_12 rfl (lv_at hl 3 rfl) ?_
            refine va_iast hx hb hK hP hD hS 0 1 rfl rfl (show ¬ ((4 : Int32) < 0 ∨ 10 ≤ (4 : Int32).toNatClampNeg) from by decide +kernel) dJ7_fill_53178_13 (fun H locs hP hD hS => ?_)
            have hP : va_P D classes [(h0, .inl (k.2.1, 10, .inl (upd f_14 4 p0)))] H := hP
            have hD : va_D A [(h0, .inl (k.2.1, 10, .inl (upd f_14 4 p0)))] := hD
            have g_21 : (upd f_14 4 p0) 0 = p0 := g_15
            have g_22 : (upd f_14 4 p0) 1 = p0 := g_16
            have g_23 : (upd f_14 4 p0) 2 = p0 := g_17
            have g_24 : (upd f_14 4 p0) 3 = p0 := g_18
            have g_25 : (upd f_14 4 p0) 4 = p0 := rfl
            generalize (upd f_14 4 p0) = f_20 at hP hD g_21 g_22 g_23 g_24 g_25
            refine lv_iinc (v := 5) (lv' := [(2, .int 5), (3, .int 10), (0, .ref h0), (1, .int p0)]) hx hb dJ7_fill_53178_14 hl (k := 0) rfl (by decide) (by decide) rfl (fun ls hl => ?_)
            refine lv_goto (tgt := 5) hx hb dJ7_fill_53178_17 (by decide) ?_
            refine lv_iload_n hx hb dJ7_fill_53178_5 rfl (lv_at hl 0 rfl) ?_
            refine lv_iload_n hx hb dJ7_fill_53178_6 rfl (lv_at hl 1 rfl) ?_
            refine lv_icmp_ge (tgt := 20) hx hb dJ7_fill_53178_7 (by decide) (fun c_26 => ?_) (fun c_26 => ?_)
            · exact absurd c_26 (by decide)
            · have c_26 : ¬ ((10 : Int32) ≤ 5) := c_26
              refine lv_aload_n hx hb dJ7_fill_53178_10 rfl (lv_at hl 2 rfl) ?_
              refine lv_iload_n hx hb dJ7_fill_53178_11 rfl (lv_at hl 0 rfl) ?_
              refine lv_iload_n hx hb dJ7_fill_53178_12 rfl (lv_at hl 3 rfl) ?_
              refine va_iast hx hb hK hP hD hS 0 1 rfl rfl (show ¬ ((5 : Int32) < 0 ∨ 10 ≤ (5 : Int32).toNatClampNeg) from by decide +kernel) dJ7_fill_53178_13 (fun H locs hP hD hS => ?_)
              have hP : va_P D classes [(h0, .inl (k.2.1, 10, .inl (upd f_20 5 p0)))] H := hP
              have hD : va_D A [(h0, .inl (k.2.1, 10, .inl (upd f_20 5 p0)))] := hD
              have g_28 : (upd f_20 5 p0) 0 = p0 := g_21
              have g_29 : (upd f_20 5 p0) 1 = p0 := g_22
              have g_30 : (upd f_20 5 p0) 2 = p0 := g_23
              have g_31 : (upd f_20 5 p0) 3 = p0 := g_24
              have g_32 : (upd f_20 5 p0) 4 = p0 := g_25
              have g_33 : (upd f_20 5 p0) 5 = p0 := rfl
              generalize (upd f_20 5 p0) = f_27 at hP hD g_28 g_29 g_30 g_31 g_32 g_33
              refine lv_iinc (v := 6) (lv' := [(2, .int 6), (3, .int 10), (0, .ref h0), (1, .int p0)]) hx hb dJ7_fill_53178_14 hl (k := 0) rfl (by decide) (by decide) rfl (fun ls hl => ?_)
              refine lv_goto (tgt := 5) hx hb dJ7_fill_53178_17 (by decide) ?_
              refine lv_iload_n hx hb dJ7_fill_53178_5 rfl (lv_at hl 0 rfl) ?_
              refine lv_iload_n hx hb dJ7_fill_53178_6 rfl (lv_at hl 1 rfl) ?_
              refine lv_icmp_ge (tgt := 20) hx hb dJ7_fill_53178_7 (by decide) (fun c_34 => ?_) (fun c_34 => ?_)
              · exact absurd c_34 (by decide)
              · have c_34 : ¬ ((10 : Int32) ≤ 6) := c_34
                refine lv_aload_n hx hb dJ7_fill_53178_10 rfl (lv_at hl 2 rfl) ?_
                refine lv_iload_n hx hb dJ7_fill_53178_11 rfl (lv_at hl 0 rfl) ?_
                refine lv_iload_n hx hb dJ7_fill_53178_12 rfl (lv_at hl 3 rfl) ?_
                refine va_iast hx hb hK hP hD hS 0 1 rfl rfl (show ¬ ((6 : Int32) < 0 ∨ 10 ≤ (6 : Int32).toNatClampNeg) from by decide +kernel) dJ7_fill_53178_13 (fun H locs hP hD hS => ?_)
                have hP : va_P D classes [(h0, .inl (k.2.1, 10, .inl (upd f_27 6 p0)))] H := hP
                have hD : va_D A [(h0, .inl (k.2.1, 10, .inl (upd f_27 6 p0)))] := hD
                have g_36 : (upd f_27 6 p0) 0 = p0 := g_28
                have g_37 : (upd f_27 6 p0) 1 = p0 := g_29
                have g_38 : (upd f_27 6 p0) 2 = p0 := g_30
                have g_39 : (upd f_27 6 p0) 3 = p0 := g_31
                have g_40 : (upd f_27 6 p0) 4 = p0 := g_32
                have g_41 : (upd f_27 6 p0) 5 = p0 := g_33
                have g_42 : (upd f_27 6 p0) 6 = p0 := rfl
                generalize (upd f_27 6 p0) = f_35 at hP hD g_36 g_37 g_38 g_39 g_40 g_41 g_42
                refine lv_iinc (v := 7) (lv' := [(2, .int 7), (3, .int 10), (0, .ref h0), (1, .int p0)]) hx hb dJ7_fill_53178_14 hl (k := 0) rfl (by decide) (by decide) rfl (fun ls hl => ?_)
                refine lv_goto (tgt := 5) hx hb dJ7_fill_53178_17 (by decide) ?_
                refine lv_iload_n hx hb dJ7_fill_53178_5 rfl (lv_at hl 0 rfl) ?_
                refine lv_iload_n hx hb dJ7_fill_53178_6 rfl (lv_at hl 1 rfl) ?_
                refine lv_icmp_ge (tgt := 20) hx hb dJ7_fill_53178_7 (by decide) (fun c_43 => ?_) (fun c_43 => ?_)
                · exact absurd c_43 (by decide)
                · have c_43 : ¬ ((10 : Int32) ≤ 7) := c_43
                  refine lv_aload_n hx hb dJ7_fill_53178_10 rfl (lv_at hl 2 rfl) ?_
                  refine lv_iload_n hx hb dJ7_fill_53178_11 rfl (lv_at hl 0 rfl) ?_
                  refine lv_iload_n hx hb dJ7_fill_53178_12 rfl (lv_at hl 3 rfl) ?_
                  refine va_iast hx hb hK hP hD hS 0 1 rfl rfl (show ¬ ((7 : Int32) < 0 ∨ 10 ≤ (7 : Int32).toNatClampNeg) from by decide +kernel) dJ7_fill_53178_13 (fun H locs hP hD hS => ?_)
                  have hP : va_P D classes [(h0, .inl (k.2.1, 10, .inl (upd f_35 7 p0)))] H := hP
                  have hD : va_D A [(h0, .inl (k.2.1, 10, .inl (upd f_35 7 p0)))] := hD
                  have g_45 : (upd f_35 7 p0) 0 = p0 := g_36
                  have g_46 : (upd f_35 7 p0) 1 = p0 := g_37
                  have g_47 : (upd f_35 7 p0) 2 = p0 := g_38
                  have g_48 : (upd f_35 7 p0) 3 = p0 := g_39
                  have g_49 : (upd f_35 7 p0) 4 = p0 := g_40
                  have g_50 : (upd f_35 7 p0) 5 = p0 := g_41
                  have g_51 : (upd f_35 7 p0) 6 = p0 := g_42
                  have g_52 : (upd f_35 7 p0) 7 = p0 := rfl
                  generalize (upd f_35 7 p0) = f_44 at hP hD g_45 g_46 g_47 g_48 g_49 g_50 g_51 g_52
                  refine lv_iinc (v := 8) (lv' := [(2, .int 8), (3, .int 10), (0, .ref h0), (1, .int p0)]) hx hb dJ7_fill_53178_14 hl (k := 0) rfl (by decide) (by decide) rfl (fun ls hl => ?_)
                  refine lv_goto (tgt := 5) hx hb dJ7_fill_53178_17 (by decide) ?_
                  refine lv_iload_n hx hb dJ7_fill_53178_5 rfl (lv_at hl 0 rfl) ?_
                  refine lv_iload_n hx hb dJ7_fill_53178_6 rfl (lv_at hl 1 rfl) ?_
                  refine lv_icmp_ge (tgt := 20) hx hb dJ7_fill_53178_7 (by decide) (fun c_53 => ?_) (fun c_53 => ?_)
                  · exact absurd c_53 (by decide)
                  · have c_53 : ¬ ((10 : Int32) ≤ 8) := c_53
                    refine lv_aload_n hx hb dJ7_fill_53178_10 rfl (lv_at hl 2 rfl) ?_
                    refine lv_iload_n hx hb dJ7_fill_53178_11 rfl (lv_at hl 0 rfl) ?_
                    refine lv_iload_n hx hb dJ7_fill_53178_12 rfl (lv_at hl 3 rfl) ?_
                    refine va_iast hx hb hK hP hD hS 0 1 rfl rfl (show ¬ ((8 : Int32) < 0 ∨ 10 ≤ (8 : Int32).toNatClampNeg) from by decide +kernel) dJ7_fill_53178_13 (fun H locs hP hD hS => ?_)
                    have hP : va_P D classes [(h0, .inl (k.2.1, 10, .inl (upd f_44 8 p0)))] H := hP
                    have hD : va_D A [(h0, .inl (k.2.1, 10, .inl (upd f_44 8 p0)))] := hD
                    have g_55 : (upd f_44 8 p0) 0 = p0 := g_45
                    have g_56 : (upd f_44 8 p0) 1 = p0 := g_46
                    have g_57 : (upd f_44 8 p0) 2 = p0 := g_47
                    have g_58 : (upd f_44 8 p0) 3 = p0 := g_48
                    have g_59 : (upd f_44 8 p0) 4 = p0 := g_49
                    have g_60 : (upd f_44 8 p0) 5 = p0 := g_50
                    have g_61 : (upd f_44 8 p0) 6 = p0 := g_51
                    have g_62 : (upd f_44 8 p0) 7 = p0 := g_52
                    have g_63 : (upd f_44 8 p0) 8 = p0 := rfl
                    generalize (upd f_44 8 p0) = f_54 at hP hD g_55 g_56 g_57 g_58 g_59 g_60 g_61 g_62 g_63
                    refine lv_iinc (v := 9) (lv' := [(2, .int 9), (3, .int 10), (0, .ref h0), (1, .int p0)]) hx hb dJ7_fill_53178_14 hl (k := 0) rfl (by decide) (by decide) rfl (fun ls hl => ?_)
                    refine lv_goto (tgt := 5) hx hb dJ7_fill_53178_17 (by decide) ?_
                    refine lv_iload_n hx hb dJ7_fill_53178_5 rfl (lv_at hl 0 rfl) ?_
                    refine lv_iload_n hx hb dJ7_fill_53178_6 rfl (lv_at hl 1 rfl) ?_
                    refine lv_icmp_ge (tgt := 20) hx hb dJ7_fill_53178_7 (by decide) (fun c_64 => ?_) (fun c_64 => ?_)
                    · exact absurd c_64 (by decide)
                    · have c_64 : ¬ ((10 : Int32) ≤ 9) := c_64
                      refine lv_aload_n hx hb dJ7_fill_53178_10 rfl (lv_at hl 2 rfl) ?_
                      refine lv_iload_n hx hb dJ7_fill_53178_11 rfl (lv_at hl 0 rfl) ?_
                      refine lv_iload_n hx hb dJ7_fill_53178_12 rfl (lv_at hl 3 rfl) ?_
                      refine va_iast hx hb hK hP hD hS 0 1 rfl rfl (show ¬ ((9 : Int32) < 0 ∨ 10 ≤ (9 : Int32).toNatClampNeg) from by decide +kernel) dJ7_fill_53178_13 (fun H locs hP hD hS => ?_)
                      have hP : va_P D classes [(h0, .inl (k.2.1, 10, .inl (upd f_54 9 p0)))] H := hP
                      have hD : va_D A [(h0, .inl (k.2.1, 10, .inl (upd f_54 9 p0)))] := hD
                      have g_66 : (upd f_54 9 p0) 0 = p0 := g_55
                      have g_67 : (upd f_54 9 p0) 1 = p0 := g_56
                      have g_68 : (upd f_54 9 p0) 2 = p0 := g_57
                      have g_69 : (upd f_54 9 p0) 3 = p0 := g_58
                      have g_70 : (upd f_54 9 p0) 4 = p0 := g_59
                      have g_71 : (upd f_54 9 p0) 5 = p0 := g_60
                      have g_72 : (upd f_54 9 p0) 6 = p0 := g_61
                      have g_73 : (upd f_54 9 p0) 7 = p0 := g_62
                      have g_74 : (upd f_54 9 p0) 8 = p0 := g_63
                      have g_75 : (upd f_54 9 p0) 9 = p0 := rfl
                      generalize (upd f_54 9 p0) = f_65 at hP hD g_66 g_67 g_68 g_69 g_70 g_71 g_72 g_73 g_74 g_75
                      refine lv_iinc (v := 10) (lv' := [(2, .int 10), (3, .int 10), (0, .ref h0), (1, .int p0)]) hx hb dJ7_fill_53178_14 hl (k := 0) rfl (by decide) (by decide) rfl (fun ls hl => ?_)
                      refine lv_goto (tgt := 5) hx hb dJ7_fill_53178_17 (by decide) ?_
                      refine lv_iload_n hx hb dJ7_fill_53178_5 rfl (lv_at hl 0 rfl) ?_
                      refine lv_iload_n hx hb dJ7_fill_53178_6 rfl (lv_at hl 1 rfl) ?_
                      refine lv_icmp_ge (tgt := 20) hx hb dJ7_fill_53178_7 (by decide) (fun c_76 => ?_) (fun c_76 => ?_)
                      · have c_76 : (10 : Int32) ≤ 10 := c_76
                        have hP9 := hP.sub (ws' := [(h0, .inl (k.2.1, 10, .inl f_65))]) [0] rfl
                        have hD9 := hD.sub (ws' := [(h0, .inl (k.2.1, 10, .inl f_65))]) [0] (by decide) rfl
                        exact W.vret hx hb hr (fun t ht hW => ⟨⟨(), rfl, trivial, ⟨f_65, g_66, g_67, g_68, g_69, g_70, g_71, g_72, g_73, g_74, g_75, cB_of ht hP9 hD9⟩⟩, hS.F ht⟩) hS.2.2 dJ7_fill_53178_20
                      · exact absurd (by decide) c_76
end
section
set_option maxHeartbeats 4000000 in
set_option maxRecDepth 100000 in
theorem c_X6_empty (l : Launch) (D : va_G) (k : ClassId × ClassId × ClassId × ClassId) (sz : Nat) (h0 sl : Nat) (P : List Value) (g : Nat → Int32) (a1 a2 a3 a4 a5 a6 a7 a8 : Int32) (g_P_walkers : P[10]? = some (.int a2)) (g_P_rules : P[11]? = some (.int a3)) (g_P_units : P[12]? = some (.int a4)) (g_P_coded : P[13]? = some (.int a5)) (g_P_hand : P[14]? = some (.int a6)) (g_P_slack : P[15]? = some (.int a7)) (g_P_draw : P[16]? = some (.int a8)) (g_P_slip : P[6]? = some (.ref sl)) (g_P_streets : P[9]? = some (.int a1)) : Met l yX6_empty (WS yX6_empty cX6_empty 1 none) ({ frames := 0, cells := 0, slots := 0, locals := 0 }) (va_Pc [.ref h0] (cP D k [(h0, .inr (6, P)), (sl, .inl (k.2.1, 3, .inl g))] sz)) (va_Qv (fun _ : Unit => True) (fun (_ : Unit) t => ∃ (P2 : List Value), ∃ (g2 : Nat → Int32), P2[10]? = some (.int 0) ∧ P2[11]? = some (.int 0) ∧ P2[12]? = some (.int 0) ∧ P2[13]? = some (.int 0) ∧ P2[14]? = some (.int 30) ∧ P2[15]? = some (.int 10) ∧ P2[16]? = some (.int 0) ∧ P2[6]? = some (.ref sl) ∧ P2[9]? = some (.int 0) ∧ g2 0 = 0 ∧ g2 1 = 1 ∧ g2 2 = 0 ∧ cB D (va_A [(h0, .inr (6, P)), (sl, .inl (k.2.1, 3, .inl g))] sz) [(h0, .inr (6, P2)), (sl, .inl (k.2.1, 3, .inl g2))] t) (va_A [(h0, .inr (6, P)), (sl, .inl (k.2.1, 3, .inl g))] sz)) 0 0 (va_A [(h0, .inr (6, P)), (sl, .inl (k.2.1, 3, .inl g))] sz) := by
  refine Met.ofW (cc := cX6_empty) (maxL := 1) (ret := none) (by decide) rfl ?_
  intro p e s m args below meth c s₁ B hml hv
  obtain ⟨rfl, hsz, hP, hKX, hD0⟩ := hv
  have hK := hKX.1
  have hx := B.exec
  have hb := B.bytes
  have hr := B.returns
  have hts := atoms_spec (ws := WS yX6_empty cX6_empty 1 none) B.pre
  have hgd : ∀ w ∈ gd, w ∈ WS yX6_empty cX6_empty 1 none := fun w h => List.mem_cons_of_mem _ h
  have hg : ∀ w ∈ gd, w.before _ s = true := fun w h => hts w (hgd w h)
  have hown : s.vm.findClass RX6 = some m.cls := findClass_of_methodNamed B.named
  have hlocks := B.notSynchronized
  subst hsz
  have hD := hD0.self (sz := s.heap.size)
  generalize hAe : va_A [(h0, .inr (6, P)), (sl, .inl (k.2.1, 3, .inl g))] s.heap.size = A at hD ⊢
  have hA : ∀ q : Nat, s.heap.size ≤ q → A q := fun q h => by rw [← hAe]; exact Or.inr h
  have hS : va_S A s.heap s.heap [] := va_S.rf
  have hP : va_P D classes [(h0, .inr (6, P)), (sl, .inl (k.2.1, 3, .inl g))] s.heap := hP
  have hl := lv_entry ([.ref h0]) (n := 1) (Nat.le_of_ble_eq_true rfl)
  rw [lg_entry_eq]
  generalize (lg_sl ([.ref h0]) ++ List.replicate (1 - (lg_sl ([.ref h0])).length) Slot.unset).toArray = ls at hl ⊢
  have hl : lv_has ls 1 [(0, .ref h0)] := hl
  refine lv_aload_n hx hb dX6_empty_0 rfl (lv_at hl 0 rfl) ?_
  refine lv_iconst (v := 0) hx hb dX6_empty_1 (by decide) ?_
  refine va_put (D := D) (ci := 6) (v := .int 0) (ty := .int) (C := RX6) (T := TX6) (N := 17) hx hb hg iX6 tyX6 tyX6_ok nmX6 hown hK hP hD hS 0 rfl rfl 9 (by decide) (hg (Cond.fieldLink RX6 42 "SlabWalk$Paving" "streets" "I") m186) (fun _ h9 => h9) rfl (by decide +kernel) rfl rfl (fs_lt g_P_streets) dX6_empty_2 (fun H locs hP hD hS => ?_)
  have hP : va_P D classes [(h0, .inr (6, (P.set 9 (.int 0)))), (sl, .inl (k.2.1, 3, .inl g))] H := hP
  have hD : va_D A [(h0, .inr (6, (P.set 9 (.int 0)))), (sl, .inl (k.2.1, 3, .inl g))] := hD
  refine lv_aload_n hx hb dX6_empty_5 rfl (lv_at hl 0 rfl) ?_
  refine lv_iconst (v := 0) hx hb dX6_empty_6 (by decide) ?_
  refine va_put (D := D) (ci := 6) (v := .int 0) (ty := .int) (C := RX6) (T := TX6) (N := 17) hx hb hg iX6 tyX6 tyX6_ok nmX6 hown hK hP hD hS 0 rfl rfl 10 (by decide) (hg (Cond.fieldLink RX6 46 "SlabWalk$Paving" "walkers" "I") m189) (fun _ h9 => h9) rfl (by decide +kernel) rfl rfl (fs_lt (fs_ne g_P_walkers (by decide))) dX6_empty_7 (fun H locs hP hD hS => ?_)
  have hP : va_P D classes [(h0, .inr (6, ((P.set 9 (.int 0)).set 10 (.int 0)))), (sl, .inl (k.2.1, 3, .inl g))] H := hP
  have hD : va_D A [(h0, .inr (6, ((P.set 9 (.int 0)).set 10 (.int 0)))), (sl, .inl (k.2.1, 3, .inl g))] := hD
  refine lv_aload_n hx hb dX6_empty_10 rfl (lv_at hl 0 rfl) ?_
  refine lv_iconst (v := 0) hx hb dX6_empty_11 (by decide) ?_
  refine va_put (D := D) (ci := 6) (v := .int 0) (ty := .int) (C := RX6) (T := TX6) (N := 17) hx hb hg iX6 tyX6 tyX6_ok nmX6 hown hK hP hD hS 0 rfl rfl 11 (by decide) (hg (Cond.fieldLink RX6 49 "SlabWalk$Paving" "rules" "I") m192) (fun _ h9 => h9) rfl (by decide +kernel) rfl rfl (fs_lt (fs_ne (fs_ne g_P_rules (by decide)) (by decide))) dX6_empty_12 (fun H locs hP hD hS => ?_)
  have hP : va_P D classes [(h0, .inr (6, (((P.set 9 (.int 0)).set 10 (.int 0)).set 11 (.int 0)))), (sl, .inl (k.2.1, 3, .inl g))] H := hP
  have hD : va_D A [(h0, .inr (6, (((P.set 9 (.int 0)).set 10 (.int 0)).set 11 (.int 0)))), (sl, .inl (k.2.1, 3, .inl g))] := hD
  refine lv_aload_n hx hb dX6_empty_15 rfl (lv_at hl 0 rfl) ?_
  refine lv_iconst (v := 0) hx hb dX6_empty_16 (by decide) ?_
  refine va_put (D := D) (ci := 6) (v := .int 0) (ty := .int) (C := RX6) (T := TX6) (N := 17) hx hb hg iX6 tyX6 tyX6_ok nmX6 hown hK hP hD hS 0 rfl rfl 12 (by decide) (hg (Cond.fieldLink RX6 52 "SlabWalk$Paving" "units" "I") m196) (fun _ h9 => h9) rfl (by decide +kernel) rfl rfl (fs_lt (fs_ne (fs_ne (fs_ne g_P_units (by decide)) (by decide)) (by decide))) dX6_empty_17 (fun H locs hP hD hS => ?_)
  have hP : va_P D classes [(h0, .inr (6, ((((P.set 9 (.int 0)).set 10 (.int 0)).set 11 (.int 0)).set 12 (.int 0)))), (sl, .inl (k.2.1, 3, .inl g))] H := hP
  have hD : va_D A [(h0, .inr (6, ((((P.set 9 (.int 0)).set 10 (.int 0)).set 11 (.int 0)).set 12 (.int 0)))), (sl, .inl (k.2.1, 3, .inl g))] := hD
  refine lv_aload_n hx hb dX6_empty_20 rfl (lv_at hl 0 rfl) ?_
  refine lv_iconst (v := 0) hx hb dX6_empty_21 (by decide) ?_
  refine va_put (D := D) (ci := 6) (v := .int 0) (ty := .int) (C := RX6) (T := TX6) (N := 17) hx hb hg iX6 tyX6 tyX6_ok nmX6 hown hK hP hD hS 0 rfl rfl 13 (by decide) (hg (Cond.fieldLink RX6 55 "SlabWalk$Paving" "coded" "I") m199) (fun _ h9 => h9) rfl (by decide +kernel) rfl rfl (fs_lt (fs_ne (fs_ne (fs_ne (fs_ne g_P_coded (by decide)) (by decide)) (by decide)) (by decide))) dX6_empty_22 (fun H locs hP hD hS => ?_)
  have hP : va_P D classes [(h0, .inr (6, (((((P.set 9 (.int 0)).set 10 (.int 0)).set 11 (.int 0)).set 12 (.int 0)).set 13 (.int 0)))), (sl, .inl (k.2.1, 3, .inl g))] H := hP
  have hD : va_D A [(h0, .inr (6, (((((P.set 9 (.int 0)).set 10 (.int 0)).set 11 (.int 0)).set 12 (.int 0)).set 13 (.int 0)))), (sl, .inl (k.2.1, 3, .inl g))] := hD
  refine lv_aload_n hx hb dX6_empty_25 rfl (lv_at hl 0 rfl) ?_
  refine lv_bipush (v := 30) hx hb dX6_empty_26 (by decide) ?_
  refine va_put (D := D) (ci := 6) (v := .int 30) (ty := .int) (C := RX6) (T := TX6) (N := 17) hx hb hg iX6 tyX6 tyX6_ok nmX6 hown hK hP hD hS 0 rfl rfl 14 (by decide) (hg (Cond.fieldLink RX6 58 "SlabWalk$Paving" "hand" "I") m201) (fun _ h9 => h9) rfl (by decide +kernel) rfl rfl (fs_lt (fs_ne (fs_ne (fs_ne (fs_ne (fs_ne g_P_hand (by decide)) (by decide)) (by decide)) (by decide)) (by decide))) dX6_empty_28 (fun H locs hP hD hS => ?_)
  have hP : va_P D classes [(h0, .inr (6, ((((((P.set 9 (.int 0)).set 10 (.int 0)).set 11 (.int 0)).set 12 (.int 0)).set 13 (.int 0)).set 14 (.int 30)))), (sl, .inl (k.2.1, 3, .inl g))] H := hP
  have hD : va_D A [(h0, .inr (6, ((((((P.set 9 (.int 0)).set 10 (.int 0)).set 11 (.int 0)).set 12 (.int 0)).set 13 (.int 0)).set 14 (.int 30)))), (sl, .inl (k.2.1, 3, .inl g))] := hD
  refine lv_aload_n hx hb dX6_empty_31 rfl (lv_at hl 0 rfl) ?_
  refine lv_bipush (v := 10) hx hb dX6_empty_32 (by decide) ?_
  refine va_put (D := D) (ci := 6) (v := .int 10) (ty := .int) (C := RX6) (T := TX6) (N := 17) hx hb hg iX6 tyX6 tyX6_ok nmX6 hown hK hP hD hS 0 rfl rfl 15 (by decide) (hg (Cond.fieldLink RX6 61 "SlabWalk$Paving" "slack" "I") m204) (fun _ h9 => h9) rfl (by decide +kernel) rfl rfl (fs_lt (fs_ne (fs_ne (fs_ne (fs_ne (fs_ne (fs_ne g_P_slack (by decide)) (by decide)) (by decide)) (by decide)) (by decide)) (by decide))) dX6_empty_34 (fun H locs hP hD hS => ?_)
  have hP : va_P D classes [(h0, .inr (6, (((((((P.set 9 (.int 0)).set 10 (.int 0)).set 11 (.int 0)).set 12 (.int 0)).set 13 (.int 0)).set 14 (.int 30)).set 15 (.int 10)))), (sl, .inl (k.2.1, 3, .inl g))] H := hP
  have hD : va_D A [(h0, .inr (6, (((((((P.set 9 (.int 0)).set 10 (.int 0)).set 11 (.int 0)).set 12 (.int 0)).set 13 (.int 0)).set 14 (.int 30)).set 15 (.int 10)))), (sl, .inl (k.2.1, 3, .inl g))] := hD
  refine lv_aload_n hx hb dX6_empty_37 rfl (lv_at hl 0 rfl) ?_
  refine lv_iconst (v := 0) hx hb dX6_empty_38 (by decide) ?_
  refine va_put (D := D) (ci := 6) (v := .int 0) (ty := .int) (C := RX6) (T := TX6) (N := 17) hx hb hg iX6 tyX6 tyX6_ok nmX6 hown hK hP hD hS 0 rfl rfl 16 (by decide) (hg (Cond.fieldLink RX6 64 "SlabWalk$Paving" "draw" "I") m207) (fun _ h9 => h9) rfl (by decide +kernel) rfl rfl (fs_lt (fs_ne (fs_ne (fs_ne (fs_ne (fs_ne (fs_ne (fs_ne g_P_draw (by decide)) (by decide)) (by decide)) (by decide)) (by decide)) (by decide)) (by decide))) dX6_empty_39 (fun H locs hP hD hS => ?_)
  have hP : va_P D classes [(h0, .inr (6, ((((((((P.set 9 (.int 0)).set 10 (.int 0)).set 11 (.int 0)).set 12 (.int 0)).set 13 (.int 0)).set 14 (.int 30)).set 15 (.int 10)).set 16 (.int 0)))), (sl, .inl (k.2.1, 3, .inl g))] H := hP
  have hD : va_D A [(h0, .inr (6, ((((((((P.set 9 (.int 0)).set 10 (.int 0)).set 11 (.int 0)).set 12 (.int 0)).set 13 (.int 0)).set 14 (.int 30)).set 15 (.int 10)).set 16 (.int 0)))), (sl, .inl (k.2.1, 3, .inl g))] := hD
  refine lv_aload_n hx hb dX6_empty_42 rfl (lv_at hl 0 rfl) ?_
  refine va_get (D := D) (ci := 6) (v := .ref sl) (C := RX6) (T := TX6) (N := 17) hx hb hg iX6 hown hK hP 0 rfl rfl 6 (by decide) (hg (Cond.fieldLink RX6 30 "SlabWalk$Paving" "slip" "[I") m178) (fun _ h9 => h9) (fs_ne (fs_ne (fs_ne (fs_ne (fs_ne (fs_ne (fs_ne (fs_ne g_P_slip (by decide)) (by decide)) (by decide)) (by decide)) (by decide)) (by decide)) (by decide)) (by decide)) dX6_empty_43 ?_
  refine lv_iconst (v := 0) hx hb dX6_empty_46 (by decide) ?_
  refine lv_iconst (v := 0) hx hb dX6_empty_47 (by decide) ?_
  refine va_iast hx hb hK hP hD hS 1 1 rfl rfl (show ¬ ((0 : Int32) < 0 ∨ 3 ≤ (0 : Int32).toNatClampNeg) from by decide +kernel) dX6_empty_48 (fun H locs hP hD hS => ?_)
  have hP : va_P D classes [(h0, .inr (6, ((((((((P.set 9 (.int 0)).set 10 (.int 0)).set 11 (.int 0)).set 12 (.int 0)).set 13 (.int 0)).set 14 (.int 30)).set 15 (.int 10)).set 16 (.int 0)))), (sl, .inl (k.2.1, 3, .inl (upd g 0 0)))] H := hP
  have hD : va_D A [(h0, .inr (6, ((((((((P.set 9 (.int 0)).set 10 (.int 0)).set 11 (.int 0)).set 12 (.int 0)).set 13 (.int 0)).set 14 (.int 30)).set 15 (.int 10)).set 16 (.int 0)))), (sl, .inl (k.2.1, 3, .inl (upd g 0 0)))] := hD
  have g_2 : (upd g 0 0) 0 = 0 := rfl
  generalize (upd g 0 0) = f_1 at hP hD g_2
  refine lv_aload_n hx hb dX6_empty_49 rfl (lv_at hl 0 rfl) ?_
  refine va_get (D := D) (ci := 6) (v := .ref sl) (C := RX6) (T := TX6) (N := 17) hx hb hg iX6 hown hK hP 0 rfl rfl 6 (by decide) (hg (Cond.fieldLink RX6 30 "SlabWalk$Paving" "slip" "[I") m178) (fun _ h9 => h9) (fs_ne (fs_ne (fs_ne (fs_ne (fs_ne (fs_ne (fs_ne (fs_ne g_P_slip (by decide)) (by decide)) (by decide)) (by decide)) (by decide)) (by decide)) (by decide)) (by decide)) dX6_empty_50 ?_
  refine lv_iconst (v := 1) hx hb dX6_empty_53 (by decide) ?_
  refine lv_iconst (v := 1) hx hb dX6_empty_54 (by decide) ?_
  refine va_iast hx hb hK hP hD hS 1 1 rfl rfl (show ¬ ((1 : Int32) < 0 ∨ 3 ≤ (1 : Int32).toNatClampNeg) from by decide +kernel) dX6_empty_55 (fun H locs hP hD hS => ?_)
  have hP : va_P D classes [(h0, .inr (6, ((((((((P.set 9 (.int 0)).set 10 (.int 0)).set 11 (.int 0)).set 12 (.int 0)).set 13 (.int 0)).set 14 (.int 30)).set 15 (.int 10)).set 16 (.int 0)))), (sl, .inl (k.2.1, 3, .inl (upd f_1 1 1)))] H := hP
  have hD : va_D A [(h0, .inr (6, ((((((((P.set 9 (.int 0)).set 10 (.int 0)).set 11 (.int 0)).set 12 (.int 0)).set 13 (.int 0)).set 14 (.int 30)).set 15 (.int 10)).set 16 (.int 0)))), (sl, .inl (k.2.1, 3, .inl (upd f_1 1 1)))] := hD
  have g_4 : (upd f_1 1 1) 0 = 0 := g_2
  have g_5 : (upd f_1 1 1) 1 = 1 := rfl
  generalize (upd f_1 1 1) = f_3 at hP hD g_4 g_5
  refine lv_aload_n hx hb dX6_empty_56 rfl (lv_at hl 0 rfl) ?_
  refine va_get (D := D) (ci := 6) (v := .ref sl) (C := RX6) (T := TX6) (N := 17) hx hb hg iX6 hown hK hP 0 rfl rfl 6 (by decide) (hg (Cond.fieldLink RX6 30 "SlabWalk$Paving" "slip" "[I") m178) (fun _ h9 => h9) (fs_ne (fs_ne (fs_ne (fs_ne (fs_ne (fs_ne (fs_ne (fs_ne g_P_slip (by decide)) (by decide)) (by decide)) (by decide)) (by decide)) (by decide)) (by decide)) (by decide)) dX6_empty_57 ?_
  refine lv_iconst (v := 2) hx hb dX6_empty_60 (by decide) ?_
  refine lv_iconst (v := 0) hx hb dX6_empty_61 (by decide) ?_
  refine va_iast hx hb hK hP hD hS 1 1 rfl rfl (show ¬ ((2 : Int32) < 0 ∨ 3 ≤ (2 : Int32).toNatClampNeg) from by decide +kernel) dX6_empty_62 (fun H locs hP hD hS => ?_)
  have hP : va_P D classes [(h0, .inr (6, ((((((((P.set 9 (.int 0)).set 10 (.int 0)).set 11 (.int 0)).set 12 (.int 0)).set 13 (.int 0)).set 14 (.int 30)).set 15 (.int 10)).set 16 (.int 0)))), (sl, .inl (k.2.1, 3, .inl (upd f_3 2 0)))] H := hP
  have hD : va_D A [(h0, .inr (6, ((((((((P.set 9 (.int 0)).set 10 (.int 0)).set 11 (.int 0)).set 12 (.int 0)).set 13 (.int 0)).set 14 (.int 30)).set 15 (.int 10)).set 16 (.int 0)))), (sl, .inl (k.2.1, 3, .inl (upd f_3 2 0)))] := hD
  have g_7 : (upd f_3 2 0) 0 = 0 := g_4
  have g_8 : (upd f_3 2 0) 1 = 1 := g_5
  have g_9 : (upd f_3 2 0) 2 = 0 := rfl
  generalize (upd f_3 2 0) = f_6 at hP hD g_7 g_8 g_9
  have hP9 := hP.sub (ws' := [(h0, .inr (6, ((((((((P.set 9 (.int 0)).set 10 (.int 0)).set 11 (.int 0)).set 12 (.int 0)).set 13 (.int 0)).set 14 (.int 30)).set 15 (.int 10)).set 16 (.int 0)))), (sl, .inl (k.2.1, 3, .inl f_6))]) [0, 1] rfl
  have hD9 := hD.sub (ws' := [(h0, .inr (6, ((((((((P.set 9 (.int 0)).set 10 (.int 0)).set 11 (.int 0)).set 12 (.int 0)).set 13 (.int 0)).set 14 (.int 30)).set 15 (.int 10)).set 16 (.int 0)))), (sl, .inl (k.2.1, 3, .inl f_6))]) [0, 1] (by decide) rfl
  exact W.vret hx hb hr (fun t ht hW => ⟨⟨(), rfl, trivial, ⟨((((((((P.set 9 (.int 0)).set 10 (.int 0)).set 11 (.int 0)).set 12 (.int 0)).set 13 (.int 0)).set 14 (.int 30)).set 15 (.int 10)).set 16 (.int 0)), f_6, (fs_ne (fs_ne (fs_ne (fs_ne (fs_ne (fs_ne (fs_eq (fs_ne g_P_walkers (by decide))) (by decide)) (by decide)) (by decide)) (by decide)) (by decide)) (by decide)), (fs_ne (fs_ne (fs_ne (fs_ne (fs_ne (fs_eq (fs_ne (fs_ne g_P_rules (by decide)) (by decide))) (by decide)) (by decide)) (by decide)) (by decide)) (by decide)), (fs_ne (fs_ne (fs_ne (fs_ne (fs_eq (fs_ne (fs_ne (fs_ne g_P_units (by decide)) (by decide)) (by decide))) (by decide)) (by decide)) (by decide)) (by decide)), (fs_ne (fs_ne (fs_ne (fs_eq (fs_ne (fs_ne (fs_ne (fs_ne g_P_coded (by decide)) (by decide)) (by decide)) (by decide))) (by decide)) (by decide)) (by decide)), (fs_ne (fs_ne (fs_eq (fs_ne (fs_ne (fs_ne (fs_ne (fs_ne g_P_hand (by decide)) (by decide)) (by decide)) (by decide)) (by decide))) (by decide)) (by decide)), (fs_ne (fs_eq (fs_ne (fs_ne (fs_ne (fs_ne (fs_ne (fs_ne g_P_slack (by decide)) (by decide)) (by decide)) (by decide)) (by decide)) (by decide))) (by decide)), (fs_eq (fs_ne (fs_ne (fs_ne (fs_ne (fs_ne (fs_ne (fs_ne g_P_draw (by decide)) (by decide)) (by decide)) (by decide)) (by decide)) (by decide)) (by decide))), (fs_ne (fs_ne (fs_ne (fs_ne (fs_ne (fs_ne (fs_ne (fs_ne g_P_slip (by decide)) (by decide)) (by decide)) (by decide)) (by decide)) (by decide)) (by decide)) (by decide)), (fs_ne (fs_ne (fs_ne (fs_ne (fs_ne (fs_ne (fs_ne (fs_eq g_P_streets) (by decide)) (by decide)) (by decide)) (by decide)) (by decide)) (by decide)) (by decide)), g_7, g_8, g_9, cB_of ht hP9 hD9⟩⟩, hS.F ht⟩) hS.2.2 dX6_empty_63

set_option maxHeartbeats 4000000 in
set_option maxRecDepth 100000 in
theorem c_X6_init (l : Launch) (D : va_G) (k : ClassId × ClassId × ClassId × ClassId) (sz : Nat) (h0 : Nat)  : Met l yX6_init (WS yX6_init cX6_init 1 none) ({ frames := 1, cells := 9, slots := 1809, locals := 20 }) (va_Pc [.ref h0] (cP D k [(h0, .inr (6, [.null, .null, .null, .null, .null, .null, .null, .null, .null, .int 0, .int 0, .int 0, .int 0, .int 0, .int 0, .int 0, .int 0]))] sz)) (va_Qv (fun _ : Unit => True) (fun (_ : Unit) t => ∃ (P : List Value), ∃ (sl : Nat), ∃ (g : Nat → Int32), P[10]? = some (.int 0) ∧ P[11]? = some (.int 0) ∧ P[12]? = some (.int 0) ∧ P[13]? = some (.int 0) ∧ P[14]? = some (.int 30) ∧ P[15]? = some (.int 10) ∧ P[16]? = some (.int 0) ∧ P[6]? = some (.ref sl) ∧ P[9]? = some (.int 0) ∧ g 0 = 0 ∧ g 1 = 1 ∧ g 2 = 0 ∧ cB D (va_A [(h0, .inr (6, [.null, .null, .null, .null, .null, .null, .null, .null, .null, .int 0, .int 0, .int 0, .int 0, .int 0, .int 0, .int 0, .int 0]))] sz) [(h0, .inr (6, P)), (sl, .inl (k.2.1, 3, .inl g))] t) (va_A [(h0, .inr (6, [.null, .null, .null, .null, .null, .null, .null, .null, .null, .int 0, .int 0, .int 0, .int 0, .int 0, .int 0, .int 0, .int 0]))] sz)) 9 1809 (va_A [(h0, .inr (6, [.null, .null, .null, .null, .null, .null, .null, .null, .null, .int 0, .int 0, .int 0, .int 0, .int 0, .int 0, .int 0, .int 0]))] sz) := by
  refine Met.ofW (cc := cX6_init) (maxL := 1) (ret := none) (by decide) rfl ?_
  intro p e s m args below meth c s₁ B hml hv
  obtain ⟨rfl, hsz, hP, hKX, hD0⟩ := hv
  have hK := hKX.1
  have hx := B.exec
  have hb := B.bytes
  have hr := B.returns
  have hts := atoms_spec (ws := WS yX6_init cX6_init 1 none) B.pre
  have hgd : ∀ w ∈ gd, w ∈ WS yX6_init cX6_init 1 none := fun w h => List.mem_cons_of_mem _ h
  have hg : ∀ w ∈ gd, w.before _ s = true := fun w h => hts w (hgd w h)
  have hown : s.vm.findClass RX6 = some m.cls := findClass_of_methodNamed B.named
  have hlocks := B.notSynchronized
  have hin : meth.name = "<init>" := (name_of_methodNamed B.named B.method).1
  subst hsz
  have hD := hD0.self (sz := s.heap.size)
  generalize hAe : va_A [(h0, .inr (6, [.null, .null, .null, .null, .null, .null, .null, .null, .null, .int 0, .int 0, .int 0, .int 0, .int 0, .int 0, .int 0, .int 0]))] s.heap.size = A at hD ⊢
  have hA : ∀ q : Nat, s.heap.size ≤ q → A q := fun q h => by rw [← hAe]; exact Or.inr h
  have hS : va_S A s.heap s.heap [] := va_S.rf
  have hP : va_P D classes [(h0, .inr (6, [.null, .null, .null, .null, .null, .null, .null, .null, .null, .int 0, .int 0, .int 0, .int 0, .int 0, .int 0, .int 0, .int 0]))] s.heap := hP
  have hl := lv_entry ([.ref h0]) (n := 1) (Nat.le_of_ble_eq_true rfl)
  rw [lg_entry_eq]
  generalize (lg_sl ([.ref h0]) ++ List.replicate (1 - (lg_sl ([.ref h0])).length) Slot.unset).toArray = ls at hl ⊢
  have hl : lv_has ls 1 [(0, .ref h0)] := hl
  refine lv_aload_n hx hb dX6_init_0 rfl (lv_at hl 0 rfl) ?_
  refine W.objInit hx hb hown (hg (Cond.methodLink RX6 3 objectInit) m151) (hg (Cond.instanceMethod objectInit) m144) (hg (Cond.code objectInit ⟨#[0xb1]⟩ 1 none) m145) rfl (by rw [hml]; exact hl.1) rfl dX6_init_1 (Nat.le_of_ble_eq_true rfl) (Nat.le_of_ble_eq_true rfl) ?_
  refine W.eq (g2 := F0 m 4 ls []) rfl ?_
  refine lv_aload_n hx hb dX6_init_4 rfl (lv_at hl 0 rfl) ?_
  refine lv_iconst (v := 3) hx hb dX6_init_5 (by decide) ?_
  refine va_newaT (atype := .int) (ty := .int) (a0 := (3, .inl (fun _ => 0))) hx hb (hg (Cond.arrayClass .int) m245) rfl ra_int hK hP hD hS hA 1 rfl (fun _ => rfl) (by decide) (by decide) (Nat.le_of_ble_eq_true rfl) (Nat.le_of_ble_eq_true rfl) (Nat.le_of_ble_eq_true rfl) dX6_init_6 (fun q_1 H hP hD hS => ?_)
  have hP : va_P D classes [(h0, .inr (6, [.null, .null, .null, .null, .null, .null, .null, .null, .null, .int 0, .int 0, .int 0, .int 0, .int 0, .int 0, .int 0, .int 0])), (q_1, .inl (k.2.1, 3, .inl (fun _ => 0)))] H := hP
  have hD : va_D A [(h0, .inr (6, [.null, .null, .null, .null, .null, .null, .null, .null, .null, .int 0, .int 0, .int 0, .int 0, .int 0, .int 0, .int 0, .int 0])), (q_1, .inl (k.2.1, 3, .inl (fun _ => 0)))] := hD
  refine W.widen (k := 1) (n := 3) (Nat.le_of_ble_eq_true rfl) (Nat.le_of_ble_eq_true rfl) ?_
  refine va_putF (D := D) (ci := 6) (v := .ref q_1) (ty := (.array .int)) (C := RX6) (T := TX6) (N := 17) hx hb hg iX6 tyX6 tyX6_ok nmX6 hown hK hP hD hS 0 rfl rfl 0 (by decide) (hg (Cond.fieldLink RX6 9 "SlabWalk$Paving" "length" "[I") m156) (fun _ h9 => h9) rfl hin rfl (by decide +kernel) rfl rfl (Nat.le_of_ble_eq_true rfl) dX6_init_8 (fun H locs hP hD hS => ?_)
  have hP : va_P D classes [(h0, .inr (6, [.ref q_1, .null, .null, .null, .null, .null, .null, .null, .null, .int 0, .int 0, .int 0, .int 0, .int 0, .int 0, .int 0, .int 0])), (q_1, .inl (k.2.1, 3, .inl (fun _ => 0)))] H := hP
  have hD : va_D A [(h0, .inr (6, [.ref q_1, .null, .null, .null, .null, .null, .null, .null, .null, .int 0, .int 0, .int 0, .int 0, .int 0, .int 0, .int 0, .int 0])), (q_1, .inl (k.2.1, 3, .inl (fun _ => 0)))] := hD
  have hP := hP.sub (ws' := [(h0, .inr (6, [.ref q_1, .null, .null, .null, .null, .null, .null, .null, .null, .int 0, .int 0, .int 0, .int 0, .int 0, .int 0, .int 0, .int 0]))]) [0] rfl
  have hD := hD.sub (ws' := [(h0, .inr (6, [.ref q_1, .null, .null, .null, .null, .null, .null, .null, .null, .int 0, .int 0, .int 0, .int 0, .int 0, .int 0, .int 0, .int 0]))]) [0] (by decide) rfl
  refine lv_aload_n hx hb dX6_init_11 rfl (lv_at hl 0 rfl) ?_
  refine lv_sipush (v := 1200) hx hb dX6_init_12 (by decide) ?_
  refine va_newaT (atype := .int) (ty := .int) (a0 := (1200, .inl (fun _ => 0))) hx hb (hg (Cond.arrayClass .int) m245) rfl ra_int hK hP hD hS hA 1 rfl (fun _ => rfl) (by decide) (by decide) (Nat.le_of_ble_eq_true rfl) (Nat.le_of_ble_eq_true rfl) (Nat.le_of_ble_eq_true rfl) dX6_init_15 (fun q_2 H hP hD hS => ?_)
  have hP : va_P D classes [(h0, .inr (6, [.ref q_1, .null, .null, .null, .null, .null, .null, .null, .null, .int 0, .int 0, .int 0, .int 0, .int 0, .int 0, .int 0, .int 0])), (q_2, .inl (k.2.1, 1200, .inl (fun _ => 0)))] H := hP
  have hD : va_D A [(h0, .inr (6, [.ref q_1, .null, .null, .null, .null, .null, .null, .null, .null, .int 0, .int 0, .int 0, .int 0, .int 0, .int 0, .int 0, .int 0])), (q_2, .inl (k.2.1, 1200, .inl (fun _ => 0)))] := hD
  refine W.widen (k := 2) (n := 1203) (Nat.le_of_ble_eq_true rfl) (Nat.le_of_ble_eq_true rfl) ?_
  refine va_putF (D := D) (ci := 6) (v := .ref q_2) (ty := (.array .int)) (C := RX6) (T := TX6) (N := 17) hx hb hg iX6 tyX6 tyX6_ok nmX6 hown hK hP hD hS 0 rfl rfl 1 (by decide) (hg (Cond.fieldLink RX6 15 "SlabWalk$Paving" "inches" "[I") m161) (fun _ h9 => h9) rfl hin rfl (by decide +kernel) rfl rfl (Nat.le_of_ble_eq_true rfl) dX6_init_17 (fun H locs hP hD hS => ?_)
  have hP : va_P D classes [(h0, .inr (6, [.ref q_1, .ref q_2, .null, .null, .null, .null, .null, .null, .null, .int 0, .int 0, .int 0, .int 0, .int 0, .int 0, .int 0, .int 0])), (q_2, .inl (k.2.1, 1200, .inl (fun _ => 0)))] H := hP
  have hD : va_D A [(h0, .inr (6, [.ref q_1, .ref q_2, .null, .null, .null, .null, .null, .null, .null, .int 0, .int 0, .int 0, .int 0, .int 0, .int 0, .int 0, .int 0])), (q_2, .inl (k.2.1, 1200, .inl (fun _ => 0)))] := hD
  have hP := hP.sub (ws' := [(h0, .inr (6, [.ref q_1, .ref q_2, .null, .null, .null, .null, .null, .null, .null, .int 0, .int 0, .int 0, .int 0, .int 0, .int 0, .int 0, .int 0]))]) [0] rfl
  have hD := hD.sub (ws' := [(h0, .inr (6, [.ref q_1, .ref q_2, .null, .null, .null, .null, .null, .null, .null, .int 0, .int 0, .int 0, .int 0, .int 0, .int 0, .int 0, .int 0]))]) [0] (by decide) rfl
  refine lv_aload_n hx hb dX6_init_20 rfl (lv_at hl 0 rfl) ?_
  refine lv_iconst (v := 4) hx hb dX6_init_21 (by decide) ?_
  refine va_newaT (atype := .int) (ty := .int) (a0 := (4, .inl (fun _ => 0))) hx hb (hg (Cond.arrayClass .int) m245) rfl ra_int hK hP hD hS hA 1 rfl (fun _ => rfl) (by decide) (by decide) (Nat.le_of_ble_eq_true rfl) (Nat.le_of_ble_eq_true rfl) (Nat.le_of_ble_eq_true rfl) dX6_init_22 (fun q_3 H hP hD hS => ?_)
  have hP : va_P D classes [(h0, .inr (6, [.ref q_1, .ref q_2, .null, .null, .null, .null, .null, .null, .null, .int 0, .int 0, .int 0, .int 0, .int 0, .int 0, .int 0, .int 0])), (q_3, .inl (k.2.1, 4, .inl (fun _ => 0)))] H := hP
  have hD : va_D A [(h0, .inr (6, [.ref q_1, .ref q_2, .null, .null, .null, .null, .null, .null, .null, .int 0, .int 0, .int 0, .int 0, .int 0, .int 0, .int 0, .int 0])), (q_3, .inl (k.2.1, 4, .inl (fun _ => 0)))] := hD
  refine W.widen (k := 3) (n := 1207) (Nat.le_of_ble_eq_true rfl) (Nat.le_of_ble_eq_true rfl) ?_
  refine va_putF (D := D) (ci := 6) (v := .ref q_3) (ty := (.array .int)) (C := RX6) (T := TX6) (N := 17) hx hb hg iX6 tyX6 tyX6_ok nmX6 hown hK hP hD hS 0 rfl rfl 2 (by decide) (hg (Cond.fieldLink RX6 18 "SlabWalk$Paving" "foot" "[I") m162) (fun _ h9 => h9) rfl hin rfl (by decide +kernel) rfl rfl (Nat.le_of_ble_eq_true rfl) dX6_init_24 (fun H locs hP hD hS => ?_)
  have hP : va_P D classes [(h0, .inr (6, [.ref q_1, .ref q_2, .ref q_3, .null, .null, .null, .null, .null, .null, .int 0, .int 0, .int 0, .int 0, .int 0, .int 0, .int 0, .int 0])), (q_3, .inl (k.2.1, 4, .inl (fun _ => 0)))] H := hP
  have hD : va_D A [(h0, .inr (6, [.ref q_1, .ref q_2, .ref q_3, .null, .null, .null, .null, .null, .null, .int 0, .int 0, .int 0, .int 0, .int 0, .int 0, .int 0, .int 0])), (q_3, .inl (k.2.1, 4, .inl (fun _ => 0)))] := hD
  have hP := hP.sub (ws' := [(h0, .inr (6, [.ref q_1, .ref q_2, .ref q_3, .null, .null, .null, .null, .null, .null, .int 0, .int 0, .int 0, .int 0, .int 0, .int 0, .int 0, .int 0]))]) [0] rfl
  have hD := hD.sub (ws' := [(h0, .inr (6, [.ref q_1, .ref q_2, .ref q_3, .null, .null, .null, .null, .null, .null, .int 0, .int 0, .int 0, .int 0, .int 0, .int 0, .int 0, .int 0]))]) [0] (by decide) rfl
  refine lv_aload_n hx hb dX6_init_27 rfl (lv_at hl 0 rfl) ?_
  refine lv_iconst (v := 4) hx hb dX6_init_28 (by decide) ?_
  refine va_newaT (atype := .int) (ty := .int) (a0 := (4, .inl (fun _ => 0))) hx hb (hg (Cond.arrayClass .int) m245) rfl ra_int hK hP hD hS hA 1 rfl (fun _ => rfl) (by decide) (by decide) (Nat.le_of_ble_eq_true rfl) (Nat.le_of_ble_eq_true rfl) (Nat.le_of_ble_eq_true rfl) dX6_init_29 (fun q_4 H hP hD hS => ?_)
  have hP : va_P D classes [(h0, .inr (6, [.ref q_1, .ref q_2, .ref q_3, .null, .null, .null, .null, .null, .null, .int 0, .int 0, .int 0, .int 0, .int 0, .int 0, .int 0, .int 0])), (q_4, .inl (k.2.1, 4, .inl (fun _ => 0)))] H := hP
  have hD : va_D A [(h0, .inr (6, [.ref q_1, .ref q_2, .ref q_3, .null, .null, .null, .null, .null, .null, .int 0, .int 0, .int 0, .int 0, .int 0, .int 0, .int 0, .int 0])), (q_4, .inl (k.2.1, 4, .inl (fun _ => 0)))] := hD
  refine W.widen (k := 4) (n := 1211) (Nat.le_of_ble_eq_true rfl) (Nat.le_of_ble_eq_true rfl) ?_
  refine va_putF (D := D) (ci := 6) (v := .ref q_4) (ty := (.array .int)) (C := RX6) (T := TX6) (N := 17) hx hb hg iX6 tyX6 tyX6_ok nmX6 hown hK hP hD hS 0 rfl rfl 3 (by decide) (hg (Cond.fieldLink RX6 21 "SlabWalk$Paving" "least" "[I") m166) (fun _ h9 => h9) rfl hin rfl (by decide +kernel) rfl rfl (Nat.le_of_ble_eq_true rfl) dX6_init_31 (fun H locs hP hD hS => ?_)
  have hP : va_P D classes [(h0, .inr (6, [.ref q_1, .ref q_2, .ref q_3, .ref q_4, .null, .null, .null, .null, .null, .int 0, .int 0, .int 0, .int 0, .int 0, .int 0, .int 0, .int 0])), (q_4, .inl (k.2.1, 4, .inl (fun _ => 0)))] H := hP
  have hD : va_D A [(h0, .inr (6, [.ref q_1, .ref q_2, .ref q_3, .ref q_4, .null, .null, .null, .null, .null, .int 0, .int 0, .int 0, .int 0, .int 0, .int 0, .int 0, .int 0])), (q_4, .inl (k.2.1, 4, .inl (fun _ => 0)))] := hD
  have hP := hP.sub (ws' := [(h0, .inr (6, [.ref q_1, .ref q_2, .ref q_3, .ref q_4, .null, .null, .null, .null, .null, .int 0, .int 0, .int 0, .int 0, .int 0, .int 0, .int 0, .int 0]))]) [0] rfl
  have hD := hD.sub (ws' := [(h0, .inr (6, [.ref q_1, .ref q_2, .ref q_3, .ref q_4, .null, .null, .null, .null, .null, .int 0, .int 0, .int 0, .int 0, .int 0, .int 0, .int 0, .int 0]))]) [0] (by decide) rfl
  refine lv_aload_n hx hb dX6_init_34 rfl (lv_at hl 0 rfl) ?_
  refine lv_iconst (v := 4) hx hb dX6_init_35 (by decide) ?_
  refine va_newaT (atype := .int) (ty := .int) (a0 := (4, .inl (fun _ => 0))) hx hb (hg (Cond.arrayClass .int) m245) rfl ra_int hK hP hD hS hA 1 rfl (fun _ => rfl) (by decide) (by decide) (Nat.le_of_ble_eq_true rfl) (Nat.le_of_ble_eq_true rfl) (Nat.le_of_ble_eq_true rfl) dX6_init_36 (fun q_5 H hP hD hS => ?_)
  have hP : va_P D classes [(h0, .inr (6, [.ref q_1, .ref q_2, .ref q_3, .ref q_4, .null, .null, .null, .null, .null, .int 0, .int 0, .int 0, .int 0, .int 0, .int 0, .int 0, .int 0])), (q_5, .inl (k.2.1, 4, .inl (fun _ => 0)))] H := hP
  have hD : va_D A [(h0, .inr (6, [.ref q_1, .ref q_2, .ref q_3, .ref q_4, .null, .null, .null, .null, .null, .int 0, .int 0, .int 0, .int 0, .int 0, .int 0, .int 0, .int 0])), (q_5, .inl (k.2.1, 4, .inl (fun _ => 0)))] := hD
  refine W.widen (k := 5) (n := 1215) (Nat.le_of_ble_eq_true rfl) (Nat.le_of_ble_eq_true rfl) ?_
  refine va_putF (D := D) (ci := 6) (v := .ref q_5) (ty := (.array .int)) (C := RX6) (T := TX6) (N := 17) hx hb hg iX6 tyX6 tyX6_ok nmX6 hown hK hP hD hS 0 rfl rfl 4 (by decide) (hg (Cond.fieldLink RX6 24 "SlabWalk$Paving" "most" "[I") m170) (fun _ h9 => h9) rfl hin rfl (by decide +kernel) rfl rfl (Nat.le_of_ble_eq_true rfl) dX6_init_38 (fun H locs hP hD hS => ?_)
  have hP : va_P D classes [(h0, .inr (6, [.ref q_1, .ref q_2, .ref q_3, .ref q_4, .ref q_5, .null, .null, .null, .null, .int 0, .int 0, .int 0, .int 0, .int 0, .int 0, .int 0, .int 0])), (q_5, .inl (k.2.1, 4, .inl (fun _ => 0)))] H := hP
  have hD : va_D A [(h0, .inr (6, [.ref q_1, .ref q_2, .ref q_3, .ref q_4, .ref q_5, .null, .null, .null, .null, .int 0, .int 0, .int 0, .int 0, .int 0, .int 0, .int 0, .int 0])), (q_5, .inl (k.2.1, 4, .inl (fun _ => 0)))] := hD
  have hP := hP.sub (ws' := [(h0, .inr (6, [.ref q_1, .ref q_2, .ref q_3, .ref q_4, .ref q_5, .null, .null, .null, .null, .int 0, .int 0, .int 0, .int 0, .int 0, .int 0, .int 0, .int 0]))]) [0] rfl
  have hD := hD.sub (ws' := [(h0, .inr (6, [.ref q_1, .ref q_2, .ref q_3, .ref q_4, .ref q_5, .null, .null, .null, .null, .int 0, .int 0, .int 0, .int 0, .int 0, .int 0, .int 0, .int 0]))]) [0] (by decide) rfl
  refine lv_aload_n hx hb dX6_init_41 rfl (lv_at hl 0 rfl) ?_
  refine lv_iconst (v := 4) hx hb dX6_init_42 (by decide) ?_
  refine va_newaT (atype := .int) (ty := .int) (a0 := (4, .inl (fun _ => 0))) hx hb (hg (Cond.arrayClass .int) m245) rfl ra_int hK hP hD hS hA 1 rfl (fun _ => rfl) (by decide) (by decide) (Nat.le_of_ble_eq_true rfl) (Nat.le_of_ble_eq_true rfl) (Nat.le_of_ble_eq_true rfl) dX6_init_43 (fun q_6 H hP hD hS => ?_)
  have hP : va_P D classes [(h0, .inr (6, [.ref q_1, .ref q_2, .ref q_3, .ref q_4, .ref q_5, .null, .null, .null, .null, .int 0, .int 0, .int 0, .int 0, .int 0, .int 0, .int 0, .int 0])), (q_6, .inl (k.2.1, 4, .inl (fun _ => 0)))] H := hP
  have hD : va_D A [(h0, .inr (6, [.ref q_1, .ref q_2, .ref q_3, .ref q_4, .ref q_5, .null, .null, .null, .null, .int 0, .int 0, .int 0, .int 0, .int 0, .int 0, .int 0, .int 0])), (q_6, .inl (k.2.1, 4, .inl (fun _ => 0)))] := hD
  refine W.widen (k := 6) (n := 1219) (Nat.le_of_ble_eq_true rfl) (Nat.le_of_ble_eq_true rfl) ?_
  refine va_putF (D := D) (ci := 6) (v := .ref q_6) (ty := (.array .int)) (C := RX6) (T := TX6) (N := 17) hx hb hg iX6 tyX6 tyX6_ok nmX6 hown hK hP hD hS 0 rfl rfl 5 (by decide) (hg (Cond.fieldLink RX6 27 "SlabWalk$Paving" "leap" "[I") m174) (fun _ h9 => h9) rfl hin rfl (by decide +kernel) rfl rfl (Nat.le_of_ble_eq_true rfl) dX6_init_45 (fun H locs hP hD hS => ?_)
  have hP : va_P D classes [(h0, .inr (6, [.ref q_1, .ref q_2, .ref q_3, .ref q_4, .ref q_5, .ref q_6, .null, .null, .null, .int 0, .int 0, .int 0, .int 0, .int 0, .int 0, .int 0, .int 0])), (q_6, .inl (k.2.1, 4, .inl (fun _ => 0)))] H := hP
  have hD : va_D A [(h0, .inr (6, [.ref q_1, .ref q_2, .ref q_3, .ref q_4, .ref q_5, .ref q_6, .null, .null, .null, .int 0, .int 0, .int 0, .int 0, .int 0, .int 0, .int 0, .int 0])), (q_6, .inl (k.2.1, 4, .inl (fun _ => 0)))] := hD
  have hP := hP.sub (ws' := [(h0, .inr (6, [.ref q_1, .ref q_2, .ref q_3, .ref q_4, .ref q_5, .ref q_6, .null, .null, .null, .int 0, .int 0, .int 0, .int 0, .int 0, .int 0, .int 0, .int 0]))]) [0] rfl
  have hD := hD.sub (ws' := [(h0, .inr (6, [.ref q_1, .ref q_2, .ref q_3, .ref q_4, .ref q_5, .ref q_6, .null, .null, .null, .int 0, .int 0, .int 0, .int 0, .int 0, .int 0, .int 0, .int 0]))]) [0] (by decide) rfl
  refine lv_aload_n hx hb dX6_init_48 rfl (lv_at hl 0 rfl) ?_
  refine lv_iconst (v := 3) hx hb dX6_init_49 (by decide) ?_
  refine va_newaT (atype := .int) (ty := .int) (a0 := (3, .inl (fun _ => 0))) hx hb (hg (Cond.arrayClass .int) m245) rfl ra_int hK hP hD hS hA 1 rfl (fun _ => rfl) (by decide) (by decide) (Nat.le_of_ble_eq_true rfl) (Nat.le_of_ble_eq_true rfl) (Nat.le_of_ble_eq_true rfl) dX6_init_50 (fun q_7 H hP hD hS => ?_)
  have hP : va_P D classes [(h0, .inr (6, [.ref q_1, .ref q_2, .ref q_3, .ref q_4, .ref q_5, .ref q_6, .null, .null, .null, .int 0, .int 0, .int 0, .int 0, .int 0, .int 0, .int 0, .int 0])), (q_7, .inl (k.2.1, 3, .inl (fun _ => 0)))] H := hP
  have hD : va_D A [(h0, .inr (6, [.ref q_1, .ref q_2, .ref q_3, .ref q_4, .ref q_5, .ref q_6, .null, .null, .null, .int 0, .int 0, .int 0, .int 0, .int 0, .int 0, .int 0, .int 0])), (q_7, .inl (k.2.1, 3, .inl (fun _ => 0)))] := hD
  refine W.widen (k := 7) (n := 1222) (Nat.le_of_ble_eq_true rfl) (Nat.le_of_ble_eq_true rfl) ?_
  refine va_putF (D := D) (ci := 6) (v := .ref q_7) (ty := (.array .int)) (C := RX6) (T := TX6) (N := 17) hx hb hg iX6 tyX6 tyX6_ok nmX6 hown hK hP hD hS 0 rfl rfl 6 (by decide) (hg (Cond.fieldLink RX6 30 "SlabWalk$Paving" "slip" "[I") m178) (fun _ h9 => h9) rfl hin rfl (by decide +kernel) rfl rfl (Nat.le_of_ble_eq_true rfl) dX6_init_52 (fun H locs hP hD hS => ?_)
  have hP : va_P D classes [(h0, .inr (6, [.ref q_1, .ref q_2, .ref q_3, .ref q_4, .ref q_5, .ref q_6, .ref q_7, .null, .null, .int 0, .int 0, .int 0, .int 0, .int 0, .int 0, .int 0, .int 0])), (q_7, .inl (k.2.1, 3, .inl (fun _ => 0)))] H := hP
  have hD : va_D A [(h0, .inr (6, [.ref q_1, .ref q_2, .ref q_3, .ref q_4, .ref q_5, .ref q_6, .ref q_7, .null, .null, .int 0, .int 0, .int 0, .int 0, .int 0, .int 0, .int 0, .int 0])), (q_7, .inl (k.2.1, 3, .inl (fun _ => 0)))] := hD
  refine lv_aload_n hx hb dX6_init_55 rfl (lv_at hl 0 rfl) ?_
  refine lv_sipush (v := 580) hx hb dX6_init_56 (by decide) ?_
  refine va_newaT (atype := .int) (ty := .int) (a0 := (580, .inl (fun _ => 0))) hx hb (hg (Cond.arrayClass .int) m245) rfl ra_int hK hP hD hS hA 1 rfl (fun _ => rfl) (by decide) (by decide) (Nat.le_of_ble_eq_true rfl) (Nat.le_of_ble_eq_true rfl) (Nat.le_of_ble_eq_true rfl) dX6_init_59 (fun q_8 H hP hD hS => ?_)
  have hP : va_P D classes [(h0, .inr (6, [.ref q_1, .ref q_2, .ref q_3, .ref q_4, .ref q_5, .ref q_6, .ref q_7, .null, .null, .int 0, .int 0, .int 0, .int 0, .int 0, .int 0, .int 0, .int 0])), (q_7, .inl (k.2.1, 3, .inl (fun _ => 0))), (q_8, .inl (k.2.1, 580, .inl (fun _ => 0)))] H := hP
  have hD : va_D A [(h0, .inr (6, [.ref q_1, .ref q_2, .ref q_3, .ref q_4, .ref q_5, .ref q_6, .ref q_7, .null, .null, .int 0, .int 0, .int 0, .int 0, .int 0, .int 0, .int 0, .int 0])), (q_7, .inl (k.2.1, 3, .inl (fun _ => 0))), (q_8, .inl (k.2.1, 580, .inl (fun _ => 0)))] := hD
  refine W.widen (k := 8) (n := 1802) (Nat.le_of_ble_eq_true rfl) (Nat.le_of_ble_eq_true rfl) ?_
  refine va_putF (D := D) (ci := 6) (v := .ref q_8) (ty := (.array .int)) (C := RX6) (T := TX6) (N := 17) hx hb hg iX6 tyX6 tyX6_ok nmX6 hown hK hP hD hS 0 rfl rfl 7 (by decide) (hg (Cond.fieldLink RX6 33 "SlabWalk$Paving" "code" "[I") m181) (fun _ h9 => h9) rfl hin rfl (by decide +kernel) rfl rfl (Nat.le_of_ble_eq_true rfl) dX6_init_61 (fun H locs hP hD hS => ?_)
  have hP : va_P D classes [(h0, .inr (6, [.ref q_1, .ref q_2, .ref q_3, .ref q_4, .ref q_5, .ref q_6, .ref q_7, .ref q_8, .null, .int 0, .int 0, .int 0, .int 0, .int 0, .int 0, .int 0, .int 0])), (q_7, .inl (k.2.1, 3, .inl (fun _ => 0))), (q_8, .inl (k.2.1, 580, .inl (fun _ => 0)))] H := hP
  have hD : va_D A [(h0, .inr (6, [.ref q_1, .ref q_2, .ref q_3, .ref q_4, .ref q_5, .ref q_6, .ref q_7, .ref q_8, .null, .int 0, .int 0, .int 0, .int 0, .int 0, .int 0, .int 0, .int 0])), (q_7, .inl (k.2.1, 3, .inl (fun _ => 0))), (q_8, .inl (k.2.1, 580, .inl (fun _ => 0)))] := hD
  have hP := hP.sub (ws' := [(h0, .inr (6, [.ref q_1, .ref q_2, .ref q_3, .ref q_4, .ref q_5, .ref q_6, .ref q_7, .ref q_8, .null, .int 0, .int 0, .int 0, .int 0, .int 0, .int 0, .int 0, .int 0])), (q_7, .inl (k.2.1, 3, .inl (fun _ => 0)))]) [0, 1] rfl
  have hD := hD.sub (ws' := [(h0, .inr (6, [.ref q_1, .ref q_2, .ref q_3, .ref q_4, .ref q_5, .ref q_6, .ref q_7, .ref q_8, .null, .int 0, .int 0, .int 0, .int 0, .int 0, .int 0, .int 0, .int 0])), (q_7, .inl (k.2.1, 3, .inl (fun _ => 0)))]) [0, 1] (by decide) rfl
  refine lv_aload_n hx hb dX6_init_64 rfl (lv_at hl 0 rfl) ?_
  refine lv_bipush (v := 7) hx hb dX6_init_65 (by decide) ?_
  refine va_newaT (atype := .int) (ty := .int) (a0 := (7, .inl (fun _ => 0))) hx hb (hg (Cond.arrayClass .int) m245) rfl ra_int hK hP hD hS hA 1 rfl (fun _ => rfl) (by decide) (by decide) (Nat.le_of_ble_eq_true rfl) (Nat.le_of_ble_eq_true rfl) (Nat.le_of_ble_eq_true rfl) dX6_init_67 (fun q_9 H hP hD hS => ?_)
  have hP : va_P D classes [(h0, .inr (6, [.ref q_1, .ref q_2, .ref q_3, .ref q_4, .ref q_5, .ref q_6, .ref q_7, .ref q_8, .null, .int 0, .int 0, .int 0, .int 0, .int 0, .int 0, .int 0, .int 0])), (q_7, .inl (k.2.1, 3, .inl (fun _ => 0))), (q_9, .inl (k.2.1, 7, .inl (fun _ => 0)))] H := hP
  have hD : va_D A [(h0, .inr (6, [.ref q_1, .ref q_2, .ref q_3, .ref q_4, .ref q_5, .ref q_6, .ref q_7, .ref q_8, .null, .int 0, .int 0, .int 0, .int 0, .int 0, .int 0, .int 0, .int 0])), (q_7, .inl (k.2.1, 3, .inl (fun _ => 0))), (q_9, .inl (k.2.1, 7, .inl (fun _ => 0)))] := hD
  refine W.widen (k := 9) (n := 1809) (Nat.le_of_ble_eq_true rfl) (Nat.le_of_ble_eq_true rfl) ?_
  refine va_putF (D := D) (ci := 6) (v := .ref q_9) (ty := (.array .int)) (C := RX6) (T := TX6) (N := 17) hx hb hg iX6 tyX6 tyX6_ok nmX6 hown hK hP hD hS 0 rfl rfl 8 (by decide) (hg (Cond.fieldLink RX6 36 "SlabWalk$Paving" "codeEnd" "[I") m183) (fun _ h9 => h9) rfl hin rfl (by decide +kernel) rfl rfl (Nat.le_of_ble_eq_true rfl) dX6_init_69 (fun H locs hP hD hS => ?_)
  have hP : va_P D classes [(h0, .inr (6, [.ref q_1, .ref q_2, .ref q_3, .ref q_4, .ref q_5, .ref q_6, .ref q_7, .ref q_8, .ref q_9, .int 0, .int 0, .int 0, .int 0, .int 0, .int 0, .int 0, .int 0])), (q_7, .inl (k.2.1, 3, .inl (fun _ => 0))), (q_9, .inl (k.2.1, 7, .inl (fun _ => 0)))] H := hP
  have hD : va_D A [(h0, .inr (6, [.ref q_1, .ref q_2, .ref q_3, .ref q_4, .ref q_5, .ref q_6, .ref q_7, .ref q_8, .ref q_9, .int 0, .int 0, .int 0, .int 0, .int 0, .int 0, .int 0, .int 0])), (q_7, .inl (k.2.1, 3, .inl (fun _ => 0))), (q_9, .inl (k.2.1, 7, .inl (fun _ => 0)))] := hD
  have hP := hP.sub (ws' := [(h0, .inr (6, [.ref q_1, .ref q_2, .ref q_3, .ref q_4, .ref q_5, .ref q_6, .ref q_7, .ref q_8, .ref q_9, .int 0, .int 0, .int 0, .int 0, .int 0, .int 0, .int 0, .int 0])), (q_7, .inl (k.2.1, 3, .inl (fun _ => 0)))]) [0, 1] rfl
  have hD := hD.sub (ws' := [(h0, .inr (6, [.ref q_1, .ref q_2, .ref q_3, .ref q_4, .ref q_5, .ref q_6, .ref q_7, .ref q_8, .ref q_9, .int 0, .int 0, .int 0, .int 0, .int 0, .int 0, .int 0, .int 0])), (q_7, .inl (k.2.1, 3, .inl (fun _ => 0)))]) [0, 1] (by decide) rfl
  refine lv_aload_n hx hb dX6_init_72 rfl (lv_at hl 0 rfl) ?_
  have hPc := hP.sub (ws' := [(h0, .inr (6, [.ref q_1, .ref q_2, .ref q_3, .ref q_4, .ref q_5, .ref q_6, .ref q_7, .ref q_8, .ref q_9, .int 0, .int 0, .int 0, .int 0, .int 0, .int 0, .int 0, .int 0])), (q_7, .inl (k.2.1, 3, .inl (fun _ => 0)))]) [0, 1] rfl
  have hDc := hD.sub (ws' := [(h0, .inr (6, [.ref q_1, .ref q_2, .ref q_3, .ref q_4, .ref q_5, .ref q_6, .ref q_7, .ref q_8, .ref q_9, .int 0, .int 0, .int 0, .int 0, .int 0, .int 0, .int 0, .int 0])), (q_7, .inl (k.2.1, 3, .inl (fun _ => 0)))]) [0, 1] (by decide) rfl
  have hFc := va_free (wc := [(h0, .inr (6, [.ref q_1, .ref q_2, .ref q_3, .ref q_4, .ref q_5, .ref q_6, .ref q_7, .ref q_8, .ref q_9, .int 0, .int 0, .int 0, .int 0, .int 0, .int 0, .int 0, .int 0])), (q_7, .inl (k.2.1, 3, .inl (fun _ => 0)))]) hD hS hA [0, 1] rfl
  refine va_callv (va_runV (As := []) (rest := []) ⟨hx, hb, hml, hown, hts⟩ (c_X6_empty l D k H.size h0 q_7 ([.ref q_1, .ref q_2, .ref q_3, .ref q_4, .ref q_5, .ref q_6, .ref q_7, .ref q_8, .ref q_9, .int 0, .int 0, .int 0, .int 0, .int 0, .int 0, .int 0, .int 0]) (fun _ => 0) 0 0 0 0 0 0 0 0 rfl rfl rfl rfl rfl rfl rfl rfl rfl) (cwV 0 hts (gd_V hgd m152 m153 m154 m118 m155) rfl rfl rfl (by decide +kernel) ⟨Nat.le_of_ble_eq_true rfl, Nat.le_of_ble_eq_true rfl⟩) (cP_V hPc hKX hDc (ci := 6) (q0 := 0) rfl rfl) rfl rfl hl.1 rfl (lv_room (Nat.le_of_ble_eq_true rfl)) dX6_init_73 ⟨Nat.le_of_ble_eq_true rfl, Nat.le_of_ble_eq_true rfl⟩) hS (fun q _ h => hFc q h) hFc (fun u t H1 locs ht hvm hw hB hz1 hk1 hS => ?_)
  obtain ⟨z_11, z_12, g_13, g_14, g_15, g_16, g_17, g_18, g_19, g_20, g_21, g_22, g_23, g_24, hP1, hD1⟩ := hB
  rw [ht] at hP1
  obtain ⟨hP, hD⟩ := va_join (wr := []) (w1 := [(h0, .inr (6, z_11)), (q_7, .inl (k.2.1, 3, .inl z_12))]) hP hD [0, 1] [] rfl rfl (by decide) (by decide) hk1 hFc hP1 hD1
  generalize H1 = H at hP hS ⊢
  have hP : va_P D classes [(h0, .inr (6, z_11)), (q_7, .inl (k.2.1, 3, .inl z_12))] H := hP
  have hD : va_D A [(h0, .inr (6, z_11)), (q_7, .inl (k.2.1, 3, .inl z_12))] := hD
  refine W.widen (k := 9) (n := 1809) (Nat.le_of_ble_eq_true rfl) (Nat.le_of_ble_eq_true rfl) ?_
  have hP9 := hP.sub (ws' := [(h0, .inr (6, z_11)), (q_7, .inl (k.2.1, 3, .inl z_12))]) [0, 1] rfl
  have hD9 := hD.sub (ws' := [(h0, .inr (6, z_11)), (q_7, .inl (k.2.1, 3, .inl z_12))]) [0, 1] (by decide) rfl
  exact W.vret hx hb hr (fun t ht hW => ⟨⟨(), rfl, trivial, ⟨z_11, q_7, z_12, g_13, g_14, g_15, g_16, g_17, g_18, g_19, g_20, g_21, g_22, g_23, g_24, cB_of ht hP9 hD9⟩⟩, hS.F ht⟩) hS.2.2 dX6_init_76

set_option maxHeartbeats 4000000 in
set_option maxRecDepth 100000 in
theorem c_X9_init (l : Launch) (D : va_G) (k : ClassId × ClassId × ClassId × ClassId) (sz : Nat) (h0 h1 : Nat)  : Met l yX9_init (WS yX9_init cX9_init 2 none) ({ frames := 1, cells := 0, slots := 0, locals := 12 }) (va_Pc [.ref h0, .ref h1] (cP D k [(h0, .inr (9, [.null, .int 0, .int 0, .int 0, .int 0, .int 0, .long 0, .int 0, .int 0]))] sz)) (va_Qv (fun _ : Unit => True) (fun (_ : Unit) t => ∃ (K : List Value), K[0]? = some (.ref h1) ∧ K[1]? = some (.int 0) ∧ K[2]? = some (.int 0) ∧ K[3]? = some (.int 0) ∧ K[4]? = some (.int 0) ∧ K[7]? = some (.int 0) ∧ K[8]? = some (.int (-1)) ∧ cB D (va_A [(h0, .inr (9, [.null, .int 0, .int 0, .int 0, .int 0, .int 0, .long 0, .int 0, .int 0]))] sz) [(h0, .inr (9, K))] t) (va_A [(h0, .inr (9, [.null, .int 0, .int 0, .int 0, .int 0, .int 0, .long 0, .int 0, .int 0]))] sz)) 0 0 (va_A [(h0, .inr (9, [.null, .int 0, .int 0, .int 0, .int 0, .int 0, .long 0, .int 0, .int 0]))] sz) := by
  refine Met.ofW (cc := cX9_init) (maxL := 2) (ret := none) (by decide) rfl ?_
  intro p e s m args below meth c s₁ B hml hv
  obtain ⟨rfl, hsz, hP, hKX, hD0⟩ := hv
  have hK := hKX.1
  have hx := B.exec
  have hb := B.bytes
  have hr := B.returns
  have hts := atoms_spec (ws := WS yX9_init cX9_init 2 none) B.pre
  have hgd : ∀ w ∈ gd, w ∈ WS yX9_init cX9_init 2 none := fun w h => List.mem_cons_of_mem _ h
  have hg : ∀ w ∈ gd, w.before _ s = true := fun w h => hts w (hgd w h)
  have hown : s.vm.findClass RX9 = some m.cls := findClass_of_methodNamed B.named
  have hlocks := B.notSynchronized
  have hin : meth.name = "<init>" := (name_of_methodNamed B.named B.method).1
  subst hsz
  have hD := hD0.self (sz := s.heap.size)
  generalize hAe : va_A [(h0, .inr (9, [.null, .int 0, .int 0, .int 0, .int 0, .int 0, .long 0, .int 0, .int 0]))] s.heap.size = A at hD ⊢
  have hA : ∀ q : Nat, s.heap.size ≤ q → A q := fun q h => by rw [← hAe]; exact Or.inr h
  have hS : va_S A s.heap s.heap [] := va_S.rf
  have hP : va_P D classes [(h0, .inr (9, [.null, .int 0, .int 0, .int 0, .int 0, .int 0, .long 0, .int 0, .int 0]))] s.heap := hP
  have hl := lv_entry ([.ref h0, .ref h1]) (n := 2) (Nat.le_of_ble_eq_true rfl)
  rw [lg_entry_eq]
  generalize (lg_sl ([.ref h0, .ref h1]) ++ List.replicate (2 - (lg_sl ([.ref h0, .ref h1])).length) Slot.unset).toArray = ls at hl ⊢
  have hl : lv_has ls 2 [(0, .ref h0), (1, .ref h1)] := hl
  refine lv_aload_n hx hb dX9_init_0 rfl (lv_at hl 0 rfl) ?_
  refine W.objInit hx hb hown (hg (Cond.methodLink RX9 3 objectInit) m257) (hg (Cond.instanceMethod objectInit) m144) (hg (Cond.code objectInit ⟨#[0xb1]⟩ 1 none) m145) rfl (by rw [hml]; exact hl.1) rfl dX9_init_1 (Nat.le_of_ble_eq_true rfl) (Nat.le_of_ble_eq_true rfl) ?_
  refine W.eq (g2 := F0 m 4 ls []) rfl ?_
  refine lv_aload_n hx hb dX9_init_4 rfl (lv_at hl 0 rfl) ?_
  refine lv_iconst (v := (-1)) hx hb dX9_init_5 (by decide) ?_
  refine va_put (D := D) (ci := 9) (v := .int (-1)) (ty := .int) (C := RX9) (T := TX9) (N := 9) hx hb hg iX9 tyX9 tyX9_ok nmX9 hown hK hP hD hS 0 rfl rfl 8 (by decide) (hg (Cond.fieldLink RX9 9 "SlabWalk$Tokens" "faultPlace" "I") m272) (fun _ h9 => h9) rfl (by decide +kernel) rfl rfl (Nat.le_of_ble_eq_true rfl) dX9_init_6 (fun H locs hP hD hS => ?_)
  have hP : va_P D classes [(h0, .inr (9, [.null, .int 0, .int 0, .int 0, .int 0, .int 0, .long 0, .int 0, .int (-1)]))] H := hP
  have hD : va_D A [(h0, .inr (9, [.null, .int 0, .int 0, .int 0, .int 0, .int 0, .long 0, .int 0, .int (-1)]))] := hD
  refine lv_aload_n hx hb dX9_init_9 rfl (lv_at hl 0 rfl) ?_
  refine lv_aload_n hx hb dX9_init_10 rfl (lv_at hl 1 rfl) ?_
  refine va_putF (D := D) (ci := 9) (v := .ref h1) (ty := (.array .byte)) (C := RX9) (T := TX9) (N := 9) hx hb hg iX9 tyX9 tyX9_ok nmX9 hown hK hP hD hS 0 rfl rfl 0 (by decide) (hg (Cond.fieldLink RX9 15 "SlabWalk$Tokens" "text" "[B") m258) (fun _ h9 => h9) rfl hin rfl (by decide +kernel) rfl rfl (Nat.le_of_ble_eq_true rfl) dX9_init_11 (fun H locs hP hD hS => ?_)
  have hP : va_P D classes [(h0, .inr (9, [.ref h1, .int 0, .int 0, .int 0, .int 0, .int 0, .long 0, .int 0, .int (-1)]))] H := hP
  have hD : va_D A [(h0, .inr (9, [.ref h1, .int 0, .int 0, .int 0, .int 0, .int 0, .long 0, .int 0, .int (-1)]))] := hD
  have hP9 := hP.sub (ws' := [(h0, .inr (9, [.ref h1, .int 0, .int 0, .int 0, .int 0, .int 0, .long 0, .int 0, .int (-1)]))]) [0] rfl
  have hD9 := hD.sub (ws' := [(h0, .inr (9, [.ref h1, .int 0, .int 0, .int 0, .int 0, .int 0, .long 0, .int 0, .int (-1)]))]) [0] (by decide) rfl
  exact W.vret hx hb hr (fun t ht hW => ⟨⟨(), rfl, trivial, ⟨[.ref h1, .int 0, .int 0, .int 0, .int 0, .int 0, .long 0, .int 0, .int (-1)], rfl, rfl, rfl, rfl, rfl, rfl, rfl, cB_of ht hP9 hD9⟩⟩, hS.F ht⟩) hS.2.2 dX9_init_14

set_option maxHeartbeats 4000000 in
set_option maxRecDepth 100000 in
theorem c_X2_init (l : Launch) (D : va_G) (k : ClassId × ClassId × ClassId × ClassId) (sz : Nat) (h0 h1 h2 : Nat)  : Met l yX2_init (WS yX2_init cX2_init 3 none) ({ frames := 1, cells := 0, slots := 0, locals := 12 }) (va_Pc [.ref h0, .ref h1, .ref h2] (cP D k [(h0, .inr (2, [.null, .null, .int 0]))] sz)) (va_Qv (fun _ : Unit => True) (fun (_ : Unit) t => cB D (va_A [(h0, .inr (2, [.null, .null, .int 0]))] sz) [] t) (va_A [(h0, .inr (2, [.null, .null, .int 0]))] sz)) 0 0 (va_A [(h0, .inr (2, [.null, .null, .int 0]))] sz) := by
  refine Met.ofW (cc := cX2_init) (maxL := 3) (ret := none) (by decide) rfl ?_
  intro p e s m args below meth c s₁ B hml hv
  obtain ⟨rfl, hsz, hP, hKX, hD0⟩ := hv
  have hK := hKX.1
  have hx := B.exec
  have hb := B.bytes
  have hr := B.returns
  have hts := atoms_spec (ws := WS yX2_init cX2_init 3 none) B.pre
  have hgd : ∀ w ∈ gd, w ∈ WS yX2_init cX2_init 3 none := fun w h => List.mem_cons_of_mem _ h
  have hg : ∀ w ∈ gd, w.before _ s = true := fun w h => hts w (hgd w h)
  have hown : s.vm.findClass RX2 = some m.cls := findClass_of_methodNamed B.named
  have hlocks := B.notSynchronized
  have hin : meth.name = "<init>" := (name_of_methodNamed B.named B.method).1
  subst hsz
  have hD := hD0.self (sz := s.heap.size)
  generalize hAe : va_A [(h0, .inr (2, [.null, .null, .int 0]))] s.heap.size = A at hD ⊢
  have hA : ∀ q : Nat, s.heap.size ≤ q → A q := fun q h => by rw [← hAe]; exact Or.inr h
  have hS : va_S A s.heap s.heap [] := va_S.rf
  have hP : va_P D classes [(h0, .inr (2, [.null, .null, .int 0]))] s.heap := hP
  have hl := lv_entry ([.ref h0, .ref h1, .ref h2]) (n := 3) (Nat.le_of_ble_eq_true rfl)
  rw [lg_entry_eq]
  generalize (lg_sl ([.ref h0, .ref h1, .ref h2]) ++ List.replicate (3 - (lg_sl ([.ref h0, .ref h1, .ref h2])).length) Slot.unset).toArray = ls at hl ⊢
  have hl : lv_has ls 3 [(0, .ref h0), (1, .ref h1), (2, .ref h2)] := hl
  refine lv_aload_n hx hb dX2_init_0 rfl (lv_at hl 0 rfl) ?_
  refine W.objInit hx hb hown (hg (Cond.methodLink RX2 3 objectInit) m300) (hg (Cond.instanceMethod objectInit) m144) (hg (Cond.code objectInit ⟨#[0xb1]⟩ 1 none) m145) rfl (by rw [hml]; exact hl.1) rfl dX2_init_1 (Nat.le_of_ble_eq_true rfl) (Nat.le_of_ble_eq_true rfl) ?_
  refine W.eq (g2 := F0 m 4 ls []) rfl ?_
  refine lv_aload_n hx hb dX2_init_4 rfl (lv_at hl 0 rfl) ?_
  refine lv_aload_n hx hb dX2_init_5 rfl (lv_at hl 1 rfl) ?_
  refine va_putF (D := D) (ci := 2) (v := .ref h1) (ty := (.object "SlabWalk$Tokens")) (C := RX2) (T := TX2) (N := 3) hx hb hg iX2 tyX2 tyX2_ok nmX2 hown hK hP hD hS 0 rfl rfl 0 (by decide) (hg (Cond.fieldLink RX2 9 "SlabWalk$Formulas" "tokens" "LSlabWalk$Tokens;") m301) (fun _ h9 => h9) rfl hin rfl (by decide +kernel) rfl rfl (Nat.le_of_ble_eq_true rfl) dX2_init_6 (fun H locs hP hD hS => ?_)
  have hP : va_P D classes [(h0, .inr (2, [.ref h1, .null, .int 0]))] H := hP
  have hD : va_D A [(h0, .inr (2, [.ref h1, .null, .int 0]))] := hD
  refine lv_aload_n hx hb dX2_init_9 rfl (lv_at hl 0 rfl) ?_
  refine lv_aload_n hx hb dX2_init_10 rfl (lv_at hl 2 rfl) ?_
  refine va_put (D := D) (ci := 2) (v := .ref h2) (ty := (.object "SlabWalk$Paving")) (C := RX2) (T := TX2) (N := 3) hx hb hg iX2 tyX2 tyX2_ok nmX2 hown hK hP hD hS 0 rfl rfl 1 (by decide) (hg (Cond.fieldLink RX2 15 "SlabWalk$Formulas" "paving" "LSlabWalk$Paving;") m302) (fun _ h9 => h9) rfl (by decide +kernel) rfl rfl (Nat.le_of_ble_eq_true rfl) dX2_init_11 (fun H locs hP hD hS => ?_)
  have hP : va_P D classes [(h0, .inr (2, [.ref h1, .ref h2, .int 0]))] H := hP
  have hD : va_D A [(h0, .inr (2, [.ref h1, .ref h2, .int 0]))] := hD
  have hP9 := hP.sub (ws' := []) [] rfl
  have hD9 := hD.sub (ws' := []) [] (by decide) rfl
  exact W.vret hx hb hr (fun t ht hW => ⟨⟨(), rfl, trivial, cB_of ht hP9 hD9⟩, hS.F ht⟩) hS.2.2 dX2_init_14

set_option maxHeartbeats 4000000 in
set_option maxRecDepth 100000 in
theorem c_X7_init (l : Launch) (D : va_G) (k : ClassId × ClassId × ClassId × ClassId) (sz : Nat) (h0 h1 h2 : Nat)  : Met l yX7_init (WS yX7_init cX7_init 3 none) ({ frames := 2, cells := 5, slots := 25, locals := 34 }) (va_Pc [.ref h0, .ref h1, .ref h2] (cP D k [(h0, .inr (7, [.null, .null, .null, .null, .null, .null, .int 0, .int 0, .int 0, .int 0]))] sz)) (va_Qv (fun _ : Unit => True) (fun (_ : Unit) t => ∃ (E : List Value), ∃ (tk : Nat), ∃ (K : List Value), E[0]? = some (.ref tk) ∧ E[5]? = some (.ref h2) ∧ E[6]? = some (.int 0) ∧ E[7]? = some (.int 0) ∧ E[8]? = some (.int 0) ∧ K[0]? = some (.ref h1) ∧ K[1]? = some (.int 0) ∧ K[2]? = some (.int 0) ∧ K[3]? = some (.int 0) ∧ K[4]? = some (.int 0) ∧ K[7]? = some (.int 0) ∧ K[8]? = some (.int (-1)) ∧ cB D (va_A [(h0, .inr (7, [.null, .null, .null, .null, .null, .null, .int 0, .int 0, .int 0, .int 0]))] sz) [(h0, .inr (7, E)), (tk, .inr (9, K))] t) (va_A [(h0, .inr (7, [.null, .null, .null, .null, .null, .null, .int 0, .int 0, .int 0, .int 0]))] sz)) 5 25 (va_A [(h0, .inr (7, [.null, .null, .null, .null, .null, .null, .int 0, .int 0, .int 0, .int 0]))] sz) := by
  refine Met.ofW (cc := cX7_init) (maxL := 3) (ret := none) (by decide) rfl ?_
  intro p e s m args below meth c s₁ B hml hv
  obtain ⟨rfl, hsz, hP, hKX, hD0⟩ := hv
  have hK := hKX.1
  have hx := B.exec
  have hb := B.bytes
  have hr := B.returns
  have hts := atoms_spec (ws := WS yX7_init cX7_init 3 none) B.pre
  have hgd : ∀ w ∈ gd, w ∈ WS yX7_init cX7_init 3 none := fun w h => List.mem_cons_of_mem _ h
  have hg : ∀ w ∈ gd, w.before _ s = true := fun w h => hts w (hgd w h)
  have hown : s.vm.findClass RX7 = some m.cls := findClass_of_methodNamed B.named
  have hlocks := B.notSynchronized
  have hin : meth.name = "<init>" := (name_of_methodNamed B.named B.method).1
  subst hsz
  have hD := hD0.self (sz := s.heap.size)
  generalize hAe : va_A [(h0, .inr (7, [.null, .null, .null, .null, .null, .null, .int 0, .int 0, .int 0, .int 0]))] s.heap.size = A at hD ⊢
  have hA : ∀ q : Nat, s.heap.size ≤ q → A q := fun q h => by rw [← hAe]; exact Or.inr h
  have hS : va_S A s.heap s.heap [] := va_S.rf
  have hP : va_P D classes [(h0, .inr (7, [.null, .null, .null, .null, .null, .null, .int 0, .int 0, .int 0, .int 0]))] s.heap := hP
  have hl := lv_entry ([.ref h0, .ref h1, .ref h2]) (n := 3) (Nat.le_of_ble_eq_true rfl)
  rw [lg_entry_eq]
  generalize (lg_sl ([.ref h0, .ref h1, .ref h2]) ++ List.replicate (3 - (lg_sl ([.ref h0, .ref h1, .ref h2])).length) Slot.unset).toArray = ls at hl ⊢
  have hl : lv_has ls 3 [(0, .ref h0), (1, .ref h1), (2, .ref h2)] := hl
  refine lv_aload_n hx hb dX7_init_0 rfl (lv_at hl 0 rfl) ?_
  refine W.objInit hx hb hown (hg (Cond.methodLink RX7 3 objectInit) m251) (hg (Cond.instanceMethod objectInit) m144) (hg (Cond.code objectInit ⟨#[0xb1]⟩ 1 none) m145) rfl (by rw [hml]; exact hl.1) rfl dX7_init_1 (Nat.le_of_ble_eq_true rfl) (Nat.le_of_ble_eq_true rfl) ?_
  refine W.eq (g2 := F0 m 4 ls []) rfl ?_
  refine lv_aload_n hx hb dX7_init_4 rfl (lv_at hl 0 rfl) ?_
  refine lv_iconst (v := 3) hx hb dX7_init_5 (by decide) ?_
  refine va_newaT (atype := .long) (ty := .long) (a0 := (3, .inr (.inl (fun _ => 0)))) hx hb (hg (Cond.arrayClass .long) m294) rfl ra_long hK hP hD hS hA 2 rfl (fun _ => rfl) (by decide) (by decide) (Nat.le_of_ble_eq_true rfl) (Nat.le_of_ble_eq_true rfl) (Nat.le_of_ble_eq_true rfl) dX7_init_6 (fun q_1 H hP hD hS => ?_)
  have hP : va_P D classes [(h0, .inr (7, [.null, .null, .null, .null, .null, .null, .int 0, .int 0, .int 0, .int 0])), (q_1, .inl (k.2.2.1, 3, .inr (.inl (fun _ => 0))))] H := hP
  have hD : va_D A [(h0, .inr (7, [.null, .null, .null, .null, .null, .null, .int 0, .int 0, .int 0, .int 0])), (q_1, .inl (k.2.2.1, 3, .inr (.inl (fun _ => 0))))] := hD
  refine W.widen (k := 1) (n := 3) (Nat.le_of_ble_eq_true rfl) (Nat.le_of_ble_eq_true rfl) ?_
  refine va_putF (D := D) (ci := 7) (v := .ref q_1) (ty := (.array .long)) (C := RX7) (T := TX7) (N := 10) hx hb hg iX7 tyX7 tyX7_ok nmX7 hown hK hP hD hS 0 rfl rfl 2 (by decide) (hg (Cond.fieldLink RX7 9 "SlabWalk$Reader" "streetNames" "[J") m314) (fun _ h9 => h9) rfl hin rfl (by decide +kernel) rfl rfl (Nat.le_of_ble_eq_true rfl) dX7_init_8 (fun H locs hP hD hS => ?_)
  have hP : va_P D classes [(h0, .inr (7, [.null, .null, .ref q_1, .null, .null, .null, .int 0, .int 0, .int 0, .int 0])), (q_1, .inl (k.2.2.1, 3, .inr (.inl (fun _ => 0))))] H := hP
  have hD : va_D A [(h0, .inr (7, [.null, .null, .ref q_1, .null, .null, .null, .int 0, .int 0, .int 0, .int 0])), (q_1, .inl (k.2.2.1, 3, .inr (.inl (fun _ => 0))))] := hD
  have hP := hP.sub (ws' := [(h0, .inr (7, [.null, .null, .ref q_1, .null, .null, .null, .int 0, .int 0, .int 0, .int 0]))]) [0] rfl
  have hD := hD.sub (ws' := [(h0, .inr (7, [.null, .null, .ref q_1, .null, .null, .null, .int 0, .int 0, .int 0, .int 0]))]) [0] (by decide) rfl
  refine lv_aload_n hx hb dX7_init_11 rfl (lv_at hl 0 rfl) ?_
  refine lv_iconst (v := 4) hx hb dX7_init_12 (by decide) ?_
  refine va_newaT (atype := .long) (ty := .long) (a0 := (4, .inr (.inl (fun _ => 0)))) hx hb (hg (Cond.arrayClass .long) m294) rfl ra_long hK hP hD hS hA 2 rfl (fun _ => rfl) (by decide) (by decide) (Nat.le_of_ble_eq_true rfl) (Nat.le_of_ble_eq_true rfl) (Nat.le_of_ble_eq_true rfl) dX7_init_13 (fun q_2 H hP hD hS => ?_)
  have hP : va_P D classes [(h0, .inr (7, [.null, .null, .ref q_1, .null, .null, .null, .int 0, .int 0, .int 0, .int 0])), (q_2, .inl (k.2.2.1, 4, .inr (.inl (fun _ => 0))))] H := hP
  have hD : va_D A [(h0, .inr (7, [.null, .null, .ref q_1, .null, .null, .null, .int 0, .int 0, .int 0, .int 0])), (q_2, .inl (k.2.2.1, 4, .inr (.inl (fun _ => 0))))] := hD
  refine W.widen (k := 2) (n := 7) (Nat.le_of_ble_eq_true rfl) (Nat.le_of_ble_eq_true rfl) ?_
  refine va_putF (D := D) (ci := 7) (v := .ref q_2) (ty := (.array .long)) (C := RX7) (T := TX7) (N := 10) hx hb hg iX7 tyX7 tyX7_ok nmX7 hown hK hP hD hS 0 rfl rfl 3 (by decide) (hg (Cond.fieldLink RX7 15 "SlabWalk$Reader" "walkerNames" "[J") m315) (fun _ h9 => h9) rfl hin rfl (by decide +kernel) rfl rfl (Nat.le_of_ble_eq_true rfl) dX7_init_15 (fun H locs hP hD hS => ?_)
  have hP : va_P D classes [(h0, .inr (7, [.null, .null, .ref q_1, .ref q_2, .null, .null, .int 0, .int 0, .int 0, .int 0])), (q_2, .inl (k.2.2.1, 4, .inr (.inl (fun _ => 0))))] H := hP
  have hD : va_D A [(h0, .inr (7, [.null, .null, .ref q_1, .ref q_2, .null, .null, .int 0, .int 0, .int 0, .int 0])), (q_2, .inl (k.2.2.1, 4, .inr (.inl (fun _ => 0))))] := hD
  have hP := hP.sub (ws' := [(h0, .inr (7, [.null, .null, .ref q_1, .ref q_2, .null, .null, .int 0, .int 0, .int 0, .int 0]))]) [0] rfl
  have hD := hD.sub (ws' := [(h0, .inr (7, [.null, .null, .ref q_1, .ref q_2, .null, .null, .int 0, .int 0, .int 0, .int 0]))]) [0] (by decide) rfl
  refine lv_aload_n hx hb dX7_init_18 rfl (lv_at hl 0 rfl) ?_
  refine lv_bipush (v := 6) hx hb dX7_init_19 (by decide) ?_
  refine va_newaT (atype := .long) (ty := .long) (a0 := (6, .inr (.inl (fun _ => 0)))) hx hb (hg (Cond.arrayClass .long) m294) rfl ra_long hK hP hD hS hA 2 rfl (fun _ => rfl) (by decide) (by decide) (Nat.le_of_ble_eq_true rfl) (Nat.le_of_ble_eq_true rfl) (Nat.le_of_ble_eq_true rfl) dX7_init_21 (fun q_3 H hP hD hS => ?_)
  have hP : va_P D classes [(h0, .inr (7, [.null, .null, .ref q_1, .ref q_2, .null, .null, .int 0, .int 0, .int 0, .int 0])), (q_3, .inl (k.2.2.1, 6, .inr (.inl (fun _ => 0))))] H := hP
  have hD : va_D A [(h0, .inr (7, [.null, .null, .ref q_1, .ref q_2, .null, .null, .int 0, .int 0, .int 0, .int 0])), (q_3, .inl (k.2.2.1, 6, .inr (.inl (fun _ => 0))))] := hD
  refine W.widen (k := 3) (n := 13) (Nat.le_of_ble_eq_true rfl) (Nat.le_of_ble_eq_true rfl) ?_
  refine va_putF (D := D) (ci := 7) (v := .ref q_3) (ty := (.array .long)) (C := RX7) (T := TX7) (N := 10) hx hb hg iX7 tyX7 tyX7_ok nmX7 hown hK hP hD hS 0 rfl rfl 4 (by decide) (hg (Cond.fieldLink RX7 18 "SlabWalk$Reader" "ruleNames" "[J") m316) (fun _ h9 => h9) rfl hin rfl (by decide +kernel) rfl rfl (Nat.le_of_ble_eq_true rfl) dX7_init_23 (fun H locs hP hD hS => ?_)
  have hP : va_P D classes [(h0, .inr (7, [.null, .null, .ref q_1, .ref q_2, .ref q_3, .null, .int 0, .int 0, .int 0, .int 0])), (q_3, .inl (k.2.2.1, 6, .inr (.inl (fun _ => 0))))] H := hP
  have hD : va_D A [(h0, .inr (7, [.null, .null, .ref q_1, .ref q_2, .ref q_3, .null, .int 0, .int 0, .int 0, .int 0])), (q_3, .inl (k.2.2.1, 6, .inr (.inl (fun _ => 0))))] := hD
  have hP := hP.sub (ws' := [(h0, .inr (7, [.null, .null, .ref q_1, .ref q_2, .ref q_3, .null, .int 0, .int 0, .int 0, .int 0]))]) [0] rfl
  have hD := hD.sub (ws' := [(h0, .inr (7, [.null, .null, .ref q_1, .ref q_2, .ref q_3, .null, .int 0, .int 0, .int 0, .int 0]))]) [0] (by decide) rfl
  refine lv_aload_n hx hb dX7_init_26 rfl (lv_at hl 0 rfl) ?_
  refine va_new (ci := 9) (fs := [.null, .int 0, .int 0, .int 0, .int 0, .int 0, .long 0, .int 0, .int 0]) (C := RX9) (T := TX9) (N := 9) hx hb hg iX9 tyX9 tyX9_ok hown (hg (Cond.classLink RX7 21 RX9) m252) (hg (Cond.instantiable RX9 9) m253) (hg (Cond.initialized RX9) m120) hK hP hD hS hA rfl (by decide) (Nat.le_of_ble_eq_true rfl) (Nat.le_of_ble_eq_true rfl) dX7_init_27 (fun q_4 H hP hD hS => ?_)
  have hP : va_P D classes [(h0, .inr (7, [.null, .null, .ref q_1, .ref q_2, .ref q_3, .null, .int 0, .int 0, .int 0, .int 0])), (q_4, .inr (9, [.null, .int 0, .int 0, .int 0, .int 0, .int 0, .long 0, .int 0, .int 0]))] H := hP
  have hD : va_D A [(h0, .inr (7, [.null, .null, .ref q_1, .ref q_2, .ref q_3, .null, .int 0, .int 0, .int 0, .int 0])), (q_4, .inr (9, [.null, .int 0, .int 0, .int 0, .int 0, .int 0, .long 0, .int 0, .int 0]))] := hD
  refine W.widen (k := 4) (n := 22) (Nat.le_of_ble_eq_true rfl) (Nat.le_of_ble_eq_true rfl) ?_
  refine lv_dup hx hb dX7_init_30 rfl ?_
  refine lv_aload_n hx hb dX7_init_31 rfl (lv_at hl 1 rfl) ?_
  have hPc := hP.sub (ws' := [(q_4, .inr (9, [.null, .int 0, .int 0, .int 0, .int 0, .int 0, .long 0, .int 0, .int 0]))]) [1] rfl
  have hDc := hD.sub (ws' := [(q_4, .inr (9, [.null, .int 0, .int 0, .int 0, .int 0, .int 0, .long 0, .int 0, .int 0]))]) [1] (by decide) rfl
  have hFc := va_free (wc := [(q_4, .inr (9, [.null, .int 0, .int 0, .int 0, .int 0, .int 0, .long 0, .int 0, .int 0]))]) hD hS hA [1] rfl
  refine va_callv (va_runI (As := [.ref h1]) (rest := [.ref q_4, .ref h0]) ⟨hx, hb, hml, hown, hts⟩ (c_X9_init l D k H.size q_4 h1 ) (cwI 1 hts (gd_in hgd (gd_WS m256)) rfl rfl rfl (hg (Cond.initialized RX9) m120) (hg (Cond.methodLink RX7 23 yX9_init) m254) (hg (Cond.instanceMethod yX9_init) m255) rfl (by decide +kernel) ⟨Nat.le_of_ble_eq_true rfl, Nat.le_of_ble_eq_true rfl⟩) (cP_S hPc hKX hDc) rfl rfl hl.1 rfl (lv_room (Nat.le_of_ble_eq_true rfl)) dX7_init_32 ⟨Nat.le_of_ble_eq_true rfl, Nat.le_of_ble_eq_true rfl⟩) hS (fun q _ h => hFc q h) hFc (fun u t H1 locs ht hvm hw hB hz1 hk1 hS => ?_)
  obtain ⟨z_6, g_7, g_8, g_9, g_10, g_11, g_12, g_13, hP1, hD1⟩ := hB
  rw [ht] at hP1
  obtain ⟨hP, hD⟩ := va_join (wr := [(h0, .inr (7, [.null, .null, .ref q_1, .ref q_2, .ref q_3, .null, .int 0, .int 0, .int 0, .int 0]))]) (w1 := [(q_4, .inr (9, z_6))]) hP hD [1] [0] rfl rfl (by decide) (by decide) hk1 hFc hP1 hD1
  generalize H1 = H at hP hS ⊢
  have hP : va_P D classes [(h0, .inr (7, [.null, .null, .ref q_1, .ref q_2, .ref q_3, .null, .int 0, .int 0, .int 0, .int 0])), (q_4, .inr (9, z_6))] H := hP
  have hD : va_D A [(h0, .inr (7, [.null, .null, .ref q_1, .ref q_2, .ref q_3, .null, .int 0, .int 0, .int 0, .int 0])), (q_4, .inr (9, z_6))] := hD
  refine W.widen (k := 4) (n := 22) (Nat.le_of_ble_eq_true rfl) (Nat.le_of_ble_eq_true rfl) ?_
  refine va_putF (D := D) (ci := 7) (v := .ref q_4) (ty := (.object "SlabWalk$Tokens")) (C := RX7) (T := TX7) (N := 10) hx hb hg iX7 tyX7 tyX7_ok nmX7 hown hK hP hD hS 0 rfl rfl 0 (by decide) (hg (Cond.fieldLink RX7 26 "SlabWalk$Reader" "tokens" "LSlabWalk$Tokens;") m311) (fun _ h9 => h9) rfl hin rfl (by decide +kernel) rfl rfl (Nat.le_of_ble_eq_true rfl) dX7_init_35 (fun H locs hP hD hS => ?_)
  have hP : va_P D classes [(h0, .inr (7, [.ref q_4, .null, .ref q_1, .ref q_2, .ref q_3, .null, .int 0, .int 0, .int 0, .int 0])), (q_4, .inr (9, z_6))] H := hP
  have hD : va_D A [(h0, .inr (7, [.ref q_4, .null, .ref q_1, .ref q_2, .ref q_3, .null, .int 0, .int 0, .int 0, .int 0])), (q_4, .inr (9, z_6))] := hD
  refine lv_aload_n hx hb dX7_init_38 rfl (lv_at hl 0 rfl) ?_
  refine va_new (ci := 2) (fs := [.null, .null, .int 0]) (C := RX2) (T := TX2) (N := 3) hx hb hg iX2 tyX2 tyX2_ok hown (hg (Cond.classLink RX7 30 RX2) m295) (hg (Cond.instantiable RX2 3) m296) (hg (Cond.initialized RX2) m121) hK hP hD hS hA rfl (by decide) (Nat.le_of_ble_eq_true rfl) (Nat.le_of_ble_eq_true rfl) dX7_init_39 (fun q_14 H hP hD hS => ?_)
  have hP : va_P D classes [(h0, .inr (7, [.ref q_4, .null, .ref q_1, .ref q_2, .ref q_3, .null, .int 0, .int 0, .int 0, .int 0])), (q_4, .inr (9, z_6)), (q_14, .inr (2, [.null, .null, .int 0]))] H := hP
  have hD : va_D A [(h0, .inr (7, [.ref q_4, .null, .ref q_1, .ref q_2, .ref q_3, .null, .int 0, .int 0, .int 0, .int 0])), (q_4, .inr (9, z_6)), (q_14, .inr (2, [.null, .null, .int 0]))] := hD
  refine W.widen (k := 5) (n := 25) (Nat.le_of_ble_eq_true rfl) (Nat.le_of_ble_eq_true rfl) ?_
  refine lv_dup hx hb dX7_init_42 rfl ?_
  refine lv_aload_n hx hb dX7_init_43 rfl (lv_at hl 0 rfl) ?_
  refine va_get (D := D) (ci := 7) (v := .ref q_4) (C := RX7) (T := TX7) (N := 10) hx hb hg iX7 hown hK hP 0 rfl rfl 0 (by decide) (hg (Cond.fieldLink RX7 26 "SlabWalk$Reader" "tokens" "LSlabWalk$Tokens;") m311) (fun _ h9 => h9) rfl dX7_init_44 ?_
  refine lv_aload_n hx hb dX7_init_47 rfl (lv_at hl 2 rfl) ?_
  have hPc := hP.sub (ws' := [(q_14, .inr (2, [.null, .null, .int 0]))]) [2] rfl
  have hDc := hD.sub (ws' := [(q_14, .inr (2, [.null, .null, .int 0]))]) [2] (by decide) rfl
  have hFc := va_free (wc := [(q_14, .inr (2, [.null, .null, .int 0]))]) hD hS hA [2] rfl
  refine va_callv (va_runI (As := [.ref q_4, .ref h2]) (rest := [.ref q_14, .ref h0]) ⟨hx, hb, hml, hown, hts⟩ (c_X2_init l D k H.size q_14 q_4 h2 ) (cwI 2 hts (gd_in hgd (gd_WS m299)) rfl rfl rfl (hg (Cond.initialized RX2) m121) (hg (Cond.methodLink RX7 32 yX2_init) m297) (hg (Cond.instanceMethod yX2_init) m298) rfl (by decide +kernel) ⟨Nat.le_of_ble_eq_true rfl, Nat.le_of_ble_eq_true rfl⟩) (cP_S hPc hKX hDc) rfl rfl hl.1 rfl (lv_room (Nat.le_of_ble_eq_true rfl)) dX7_init_48 ⟨Nat.le_of_ble_eq_true rfl, Nat.le_of_ble_eq_true rfl⟩) hS (fun q _ h => hFc q h) hFc (fun u t H1 locs ht hvm hw hB hz1 hk1 hS => ?_)
  obtain ⟨hP1, hD1⟩ := hB
  rw [ht] at hP1
  obtain ⟨hP, hD⟩ := va_join (wr := [(h0, .inr (7, [.ref q_4, .null, .ref q_1, .ref q_2, .ref q_3, .null, .int 0, .int 0, .int 0, .int 0])), (q_4, .inr (9, z_6))]) (w1 := []) hP hD [2] [0, 1] rfl rfl (by decide) (by decide) hk1 hFc hP1 hD1
  generalize H1 = H at hP hS ⊢
  have hP : va_P D classes [(h0, .inr (7, [.ref q_4, .null, .ref q_1, .ref q_2, .ref q_3, .null, .int 0, .int 0, .int 0, .int 0])), (q_4, .inr (9, z_6))] H := hP
  have hD : va_D A [(h0, .inr (7, [.ref q_4, .null, .ref q_1, .ref q_2, .ref q_3, .null, .int 0, .int 0, .int 0, .int 0])), (q_4, .inr (9, z_6))] := hD
  refine W.widen (k := 5) (n := 25) (Nat.le_of_ble_eq_true rfl) (Nat.le_of_ble_eq_true rfl) ?_
  refine va_putF (D := D) (ci := 7) (v := .ref q_14) (ty := (.object "SlabWalk$Formulas")) (C := RX7) (T := TX7) (N := 10) hx hb hg iX7 tyX7 tyX7_ok nmX7 hown hK hP hD hS 0 rfl rfl 1 (by decide) (hg (Cond.fieldLink RX7 35 "SlabWalk$Reader" "formulas" "LSlabWalk$Formulas;") m313) (fun _ h9 => h9) rfl hin rfl (by decide +kernel) rfl rfl (Nat.le_of_ble_eq_true rfl) dX7_init_51 (fun H locs hP hD hS => ?_)
  have hP : va_P D classes [(h0, .inr (7, [.ref q_4, .ref q_14, .ref q_1, .ref q_2, .ref q_3, .null, .int 0, .int 0, .int 0, .int 0])), (q_4, .inr (9, z_6))] H := hP
  have hD : va_D A [(h0, .inr (7, [.ref q_4, .ref q_14, .ref q_1, .ref q_2, .ref q_3, .null, .int 0, .int 0, .int 0, .int 0])), (q_4, .inr (9, z_6))] := hD
  refine lv_aload_n hx hb dX7_init_54 rfl (lv_at hl 0 rfl) ?_
  refine lv_aload_n hx hb dX7_init_55 rfl (lv_at hl 2 rfl) ?_
  refine va_put (D := D) (ci := 7) (v := .ref h2) (ty := (.object "SlabWalk$Paving")) (C := RX7) (T := TX7) (N := 10) hx hb hg iX7 tyX7 tyX7_ok nmX7 hown hK hP hD hS 0 rfl rfl 5 (by decide) (hg (Cond.fieldLink RX7 39 "SlabWalk$Reader" "paving" "LSlabWalk$Paving;") m317) (fun _ h9 => h9) rfl (by decide +kernel) rfl rfl (Nat.le_of_ble_eq_true rfl) dX7_init_56 (fun H locs hP hD hS => ?_)
  have hP : va_P D classes [(h0, .inr (7, [.ref q_4, .ref q_14, .ref q_1, .ref q_2, .ref q_3, .ref h2, .int 0, .int 0, .int 0, .int 0])), (q_4, .inr (9, z_6))] H := hP
  have hD : va_D A [(h0, .inr (7, [.ref q_4, .ref q_14, .ref q_1, .ref q_2, .ref q_3, .ref h2, .int 0, .int 0, .int 0, .int 0])), (q_4, .inr (9, z_6))] := hD
  have hP9 := hP.sub (ws' := [(h0, .inr (7, [.ref q_4, .ref q_14, .ref q_1, .ref q_2, .ref q_3, .ref h2, .int 0, .int 0, .int 0, .int 0])), (q_4, .inr (9, z_6))]) [0, 1] rfl
  have hD9 := hD.sub (ws' := [(h0, .inr (7, [.ref q_4, .ref q_14, .ref q_1, .ref q_2, .ref q_3, .ref h2, .int 0, .int 0, .int 0, .int 0])), (q_4, .inr (9, z_6))]) [0, 1] (by decide) rfl
  exact W.vret hx hb hr (fun t ht hW => ⟨⟨(), rfl, trivial, ⟨[.ref q_4, .ref q_14, .ref q_1, .ref q_2, .ref q_3, .ref h2, .int 0, .int 0, .int 0, .int 0], q_4, z_6, rfl, rfl, rfl, rfl, rfl, g_7, g_8, g_9, g_10, g_11, g_12, g_13, cB_of ht hP9 hD9⟩⟩, hS.F ht⟩) hS.2.2 dX7_init_59

set_option maxHeartbeats 4000000 in
set_option maxRecDepth 100000 in
theorem c_X3_init (l : Launch) (D : va_G) (k : ClassId × ClassId × ClassId × ClassId) (sz : Nat) (h0 h1 : Nat)  : Met l yX3_init (WS yX3_init cX3_init 2 none) ({ frames := 1, cells := 3, slots := 1303, locals := 12 }) (va_Pc [.ref h0, .ref h1] (cP D k [(h0, .inr (3, [.null, .null, .null, .int 0, .null]))] sz)) (va_Qv (fun _ : Unit => True) (fun (_ : Unit) t => ∃ (E : List Value), ∃ (fo : Nat), ∃ (g : Nat → Int32), E[1]? = some (.ref fo) ∧ E[4]? = some (.ref h1) ∧ cB D (va_A [(h0, .inr (3, [.null, .null, .null, .int 0, .null]))] sz) [(h0, .inr (3, E)), (fo, .inl (k.2.1, 3, .inl g))] t) (va_A [(h0, .inr (3, [.null, .null, .null, .int 0, .null]))] sz)) 3 1303 (va_A [(h0, .inr (3, [.null, .null, .null, .int 0, .null]))] sz) := by
  refine Met.ofW (cc := cX3_init) (maxL := 2) (ret := none) (by decide) rfl ?_
  intro p e s m args below meth c s₁ B hml hv
  obtain ⟨rfl, hsz, hP, hKX, hD0⟩ := hv
  have hK := hKX.1
  have hx := B.exec
  have hb := B.bytes
  have hr := B.returns
  have hts := atoms_spec (ws := WS yX3_init cX3_init 2 none) B.pre
  have hgd : ∀ w ∈ gd, w ∈ WS yX3_init cX3_init 2 none := fun w h => List.mem_cons_of_mem _ h
  have hg : ∀ w ∈ gd, w.before _ s = true := fun w h => hts w (hgd w h)
  have hown : s.vm.findClass RX3 = some m.cls := findClass_of_methodNamed B.named
  have hlocks := B.notSynchronized
  have hin : meth.name = "<init>" := (name_of_methodNamed B.named B.method).1
  subst hsz
  have hD := hD0.self (sz := s.heap.size)
  generalize hAe : va_A [(h0, .inr (3, [.null, .null, .null, .int 0, .null]))] s.heap.size = A at hD ⊢
  have hA : ∀ q : Nat, s.heap.size ≤ q → A q := fun q h => by rw [← hAe]; exact Or.inr h
  have hS : va_S A s.heap s.heap [] := va_S.rf
  have hP : va_P D classes [(h0, .inr (3, [.null, .null, .null, .int 0, .null]))] s.heap := hP
  have hl := lv_entry ([.ref h0, .ref h1]) (n := 2) (Nat.le_of_ble_eq_true rfl)
  rw [lg_entry_eq]
  generalize (lg_sl ([.ref h0, .ref h1]) ++ List.replicate (2 - (lg_sl ([.ref h0, .ref h1])).length) Slot.unset).toArray = ls at hl ⊢
  have hl : lv_has ls 2 [(0, .ref h0), (1, .ref h1)] := hl
  refine lv_aload_n hx hb dX3_init_0 rfl (lv_at hl 0 rfl) ?_
  refine W.objInit hx hb hown (hg (Cond.methodLink RX3 3 objectInit) m348) (hg (Cond.instanceMethod objectInit) m144) (hg (Cond.code objectInit ⟨#[0xb1]⟩ 1 none) m145) rfl (by rw [hml]; exact hl.1) rfl dX3_init_1 (Nat.le_of_ble_eq_true rfl) (Nat.le_of_ble_eq_true rfl) ?_
  refine W.eq (g2 := F0 m 4 ls []) rfl ?_
  refine lv_aload_n hx hb dX3_init_4 rfl (lv_at hl 0 rfl) ?_
  refine lv_sipush (v := 1200) hx hb dX3_init_5 (by decide) ?_
  refine va_newaT (atype := .int) (ty := .int) (a0 := (1200, .inl (fun _ => 0))) hx hb (hg (Cond.arrayClass .int) m245) rfl ra_int hK hP hD hS hA 1 rfl (fun _ => rfl) (by decide) (by decide) (Nat.le_of_ble_eq_true rfl) (Nat.le_of_ble_eq_true rfl) (Nat.le_of_ble_eq_true rfl) dX3_init_8 (fun q_1 H hP hD hS => ?_)
  have hP : va_P D classes [(h0, .inr (3, [.null, .null, .null, .int 0, .null])), (q_1, .inl (k.2.1, 1200, .inl (fun _ => 0)))] H := hP
  have hD : va_D A [(h0, .inr (3, [.null, .null, .null, .int 0, .null])), (q_1, .inl (k.2.1, 1200, .inl (fun _ => 0)))] := hD
  refine W.widen (k := 1) (n := 1200) (Nat.le_of_ble_eq_true rfl) (Nat.le_of_ble_eq_true rfl) ?_
  refine va_putF (D := D) (ci := 3) (v := .ref q_1) (ty := (.array .int)) (C := RX3) (T := TX3) (N := 5) hx hb hg iX3 tyX3 tyX3_ok nmX3 hown hK hP hD hS 0 rfl rfl 0 (by decide) (hg (Cond.fieldLink RX3 9 "SlabWalk$Lines" "found" "[I") m349) (fun _ h9 => h9) rfl hin rfl (by decide +kernel) rfl rfl (Nat.le_of_ble_eq_true rfl) dX3_init_10 (fun H locs hP hD hS => ?_)
  have hP : va_P D classes [(h0, .inr (3, [.ref q_1, .null, .null, .int 0, .null])), (q_1, .inl (k.2.1, 1200, .inl (fun _ => 0)))] H := hP
  have hD : va_D A [(h0, .inr (3, [.ref q_1, .null, .null, .int 0, .null])), (q_1, .inl (k.2.1, 1200, .inl (fun _ => 0)))] := hD
  have hP := hP.sub (ws' := [(h0, .inr (3, [.ref q_1, .null, .null, .int 0, .null]))]) [0] rfl
  have hD := hD.sub (ws' := [(h0, .inr (3, [.ref q_1, .null, .null, .int 0, .null]))]) [0] (by decide) rfl
  refine lv_aload_n hx hb dX3_init_13 rfl (lv_at hl 0 rfl) ?_
  refine lv_iconst (v := 3) hx hb dX3_init_14 (by decide) ?_
  refine va_newaT (atype := .int) (ty := .int) (a0 := (3, .inl (fun _ => 0))) hx hb (hg (Cond.arrayClass .int) m245) rfl ra_int hK hP hD hS hA 1 rfl (fun _ => rfl) (by decide) (by decide) (Nat.le_of_ble_eq_true rfl) (Nat.le_of_ble_eq_true rfl) (Nat.le_of_ble_eq_true rfl) dX3_init_15 (fun q_2 H hP hD hS => ?_)
  have hP : va_P D classes [(h0, .inr (3, [.ref q_1, .null, .null, .int 0, .null])), (q_2, .inl (k.2.1, 3, .inl (fun _ => 0)))] H := hP
  have hD : va_D A [(h0, .inr (3, [.ref q_1, .null, .null, .int 0, .null])), (q_2, .inl (k.2.1, 3, .inl (fun _ => 0)))] := hD
  refine W.widen (k := 2) (n := 1203) (Nat.le_of_ble_eq_true rfl) (Nat.le_of_ble_eq_true rfl) ?_
  refine va_putF (D := D) (ci := 3) (v := .ref q_2) (ty := (.array .int)) (C := RX3) (T := TX3) (N := 5) hx hb hg iX3 tyX3 tyX3_ok nmX3 hown hK hP hD hS 0 rfl rfl 1 (by decide) (hg (Cond.fieldLink RX3 15 "SlabWalk$Lines" "foundOn" "[I") m350) (fun _ h9 => h9) rfl hin rfl (by decide +kernel) rfl rfl (Nat.le_of_ble_eq_true rfl) dX3_init_17 (fun H locs hP hD hS => ?_)
  have hP : va_P D classes [(h0, .inr (3, [.ref q_1, .ref q_2, .null, .int 0, .null])), (q_2, .inl (k.2.1, 3, .inl (fun _ => 0)))] H := hP
  have hD : va_D A [(h0, .inr (3, [.ref q_1, .ref q_2, .null, .int 0, .null])), (q_2, .inl (k.2.1, 3, .inl (fun _ => 0)))] := hD
  refine lv_aload_n hx hb dX3_init_20 rfl (lv_at hl 0 rfl) ?_
  refine lv_bipush (v := 100) hx hb dX3_init_21 (by decide) ?_
  refine va_newaT (atype := .int) (ty := .int) (a0 := (100, .inl (fun _ => 0))) hx hb (hg (Cond.arrayClass .int) m245) rfl ra_int hK hP hD hS hA 1 rfl (fun _ => rfl) (by decide) (by decide) (Nat.le_of_ble_eq_true rfl) (Nat.le_of_ble_eq_true rfl) (Nat.le_of_ble_eq_true rfl) dX3_init_23 (fun q_3 H hP hD hS => ?_)
  have hP : va_P D classes [(h0, .inr (3, [.ref q_1, .ref q_2, .null, .int 0, .null])), (q_2, .inl (k.2.1, 3, .inl (fun _ => 0))), (q_3, .inl (k.2.1, 100, .inl (fun _ => 0)))] H := hP
  have hD : va_D A [(h0, .inr (3, [.ref q_1, .ref q_2, .null, .int 0, .null])), (q_2, .inl (k.2.1, 3, .inl (fun _ => 0))), (q_3, .inl (k.2.1, 100, .inl (fun _ => 0)))] := hD
  refine W.widen (k := 3) (n := 1303) (Nat.le_of_ble_eq_true rfl) (Nat.le_of_ble_eq_true rfl) ?_
  refine va_putF (D := D) (ci := 3) (v := .ref q_3) (ty := (.array .int)) (C := RX3) (T := TX3) (N := 5) hx hb hg iX3 tyX3 tyX3_ok nmX3 hown hK hP hD hS 0 rfl rfl 2 (by decide) (hg (Cond.fieldLink RX3 18 "SlabWalk$Lines" "values" "[I") m351) (fun _ h9 => h9) rfl hin rfl (by decide +kernel) rfl rfl (Nat.le_of_ble_eq_true rfl) dX3_init_25 (fun H locs hP hD hS => ?_)
  have hP : va_P D classes [(h0, .inr (3, [.ref q_1, .ref q_2, .ref q_3, .int 0, .null])), (q_2, .inl (k.2.1, 3, .inl (fun _ => 0))), (q_3, .inl (k.2.1, 100, .inl (fun _ => 0)))] H := hP
  have hD : va_D A [(h0, .inr (3, [.ref q_1, .ref q_2, .ref q_3, .int 0, .null])), (q_2, .inl (k.2.1, 3, .inl (fun _ => 0))), (q_3, .inl (k.2.1, 100, .inl (fun _ => 0)))] := hD
  have hP := hP.sub (ws' := [(h0, .inr (3, [.ref q_1, .ref q_2, .ref q_3, .int 0, .null])), (q_2, .inl (k.2.1, 3, .inl (fun _ => 0)))]) [0, 1] rfl
  have hD := hD.sub (ws' := [(h0, .inr (3, [.ref q_1, .ref q_2, .ref q_3, .int 0, .null])), (q_2, .inl (k.2.1, 3, .inl (fun _ => 0)))]) [0, 1] (by decide) rfl
  refine lv_aload_n hx hb dX3_init_28 rfl (lv_at hl 0 rfl) ?_
  refine lv_aload_n hx hb dX3_init_29 rfl (lv_at hl 1 rfl) ?_
  refine va_put (D := D) (ci := 3) (v := .ref h1) (ty := (.object "SlabWalk$Paving")) (C := RX3) (T := TX3) (N := 5) hx hb hg iX3 tyX3 tyX3_ok nmX3 hown hK hP hD hS 0 rfl rfl 4 (by decide) (hg (Cond.fieldLink RX3 21 "SlabWalk$Lines" "paving" "LSlabWalk$Paving;") m353) (fun _ h9 => h9) rfl (by decide +kernel) rfl rfl (Nat.le_of_ble_eq_true rfl) dX3_init_30 (fun H locs hP hD hS => ?_)
  have hP : va_P D classes [(h0, .inr (3, [.ref q_1, .ref q_2, .ref q_3, .int 0, .ref h1])), (q_2, .inl (k.2.1, 3, .inl (fun _ => 0)))] H := hP
  have hD : va_D A [(h0, .inr (3, [.ref q_1, .ref q_2, .ref q_3, .int 0, .ref h1])), (q_2, .inl (k.2.1, 3, .inl (fun _ => 0)))] := hD
  have hP9 := hP.sub (ws' := [(h0, .inr (3, [.ref q_1, .ref q_2, .ref q_3, .int 0, .ref h1])), (q_2, .inl (k.2.1, 3, .inl (fun _ => 0)))]) [0, 1] rfl
  have hD9 := hD.sub (ws' := [(h0, .inr (3, [.ref q_1, .ref q_2, .ref q_3, .int 0, .ref h1])), (q_2, .inl (k.2.1, 3, .inl (fun _ => 0)))]) [0, 1] (by decide) rfl
  exact W.vret hx hb hr (fun t ht hW => ⟨⟨(), rfl, trivial, ⟨[.ref q_1, .ref q_2, .ref q_3, .int 0, .ref h1], q_2, (fun _ => 0), rfl, rfl, cB_of ht hP9 hD9⟩⟩, hS.F ht⟩) hS.2.2 dX3_init_33

set_option maxHeartbeats 4000000 in
set_option maxRecDepth 100000 in
theorem c_X0_init (l : Launch) (D : va_G) (k : ClassId × ClassId × ClassId × ClassId) (sz : Nat) (h0 : Nat)  : Met l yX0_init (WS yX0_init cX0_init 1 none) ({ frames := 1, cells := 1, slots := 400, locals := 12 }) (va_Pc [.ref h0] (cP D k [(h0, .inr (0, [.null, .int 0, .int 0, .int 0, .int 0, .int 0, .int 0, .int 0]))] sz)) (va_Qv (fun _ : Unit => True) (fun (_ : Unit) t => cB D (va_A [(h0, .inr (0, [.null, .int 0, .int 0, .int 0, .int 0, .int 0, .int 0, .int 0]))] sz) [] t) (va_A [(h0, .inr (0, [.null, .int 0, .int 0, .int 0, .int 0, .int 0, .int 0, .int 0]))] sz)) 1 400 (va_A [(h0, .inr (0, [.null, .int 0, .int 0, .int 0, .int 0, .int 0, .int 0, .int 0]))] sz) := by
  refine Met.ofW (cc := cX0_init) (maxL := 1) (ret := none) (by decide) rfl ?_
  intro p e s m args below meth c s₁ B hml hv
  obtain ⟨rfl, hsz, hP, hKX, hD0⟩ := hv
  have hK := hKX.1
  have hx := B.exec
  have hb := B.bytes
  have hr := B.returns
  have hts := atoms_spec (ws := WS yX0_init cX0_init 1 none) B.pre
  have hgd : ∀ w ∈ gd, w ∈ WS yX0_init cX0_init 1 none := fun w h => List.mem_cons_of_mem _ h
  have hg : ∀ w ∈ gd, w.before _ s = true := fun w h => hts w (hgd w h)
  have hown : s.vm.findClass RX0 = some m.cls := findClass_of_methodNamed B.named
  have hlocks := B.notSynchronized
  have hin : meth.name = "<init>" := (name_of_methodNamed B.named B.method).1
  subst hsz
  have hD := hD0.self (sz := s.heap.size)
  generalize hAe : va_A [(h0, .inr (0, [.null, .int 0, .int 0, .int 0, .int 0, .int 0, .int 0, .int 0]))] s.heap.size = A at hD ⊢
  have hA : ∀ q : Nat, s.heap.size ≤ q → A q := fun q h => by rw [← hAe]; exact Or.inr h
  have hS : va_S A s.heap s.heap [] := va_S.rf
  have hP : va_P D classes [(h0, .inr (0, [.null, .int 0, .int 0, .int 0, .int 0, .int 0, .int 0, .int 0]))] s.heap := hP
  have hl := lv_entry ([.ref h0]) (n := 1) (Nat.le_of_ble_eq_true rfl)
  rw [lg_entry_eq]
  generalize (lg_sl ([.ref h0]) ++ List.replicate (1 - (lg_sl ([.ref h0])).length) Slot.unset).toArray = ls at hl ⊢
  have hl : lv_has ls 1 [(0, .ref h0)] := hl
  refine lv_aload_n hx hb dX0_init_0 rfl (lv_at hl 0 rfl) ?_
  refine W.objInit hx hb hown (hg (Cond.methodLink RX0 3 objectInit) m370) (hg (Cond.instanceMethod objectInit) m144) (hg (Cond.code objectInit ⟨#[0xb1]⟩ 1 none) m145) rfl (by rw [hml]; exact hl.1) rfl dX0_init_1 (Nat.le_of_ble_eq_true rfl) (Nat.le_of_ble_eq_true rfl) ?_
  refine W.eq (g2 := F0 m 4 ls []) rfl ?_
  refine lv_aload_n hx hb dX0_init_4 rfl (lv_at hl 0 rfl) ?_
  refine lv_sipush (v := 400) hx hb dX0_init_5 (by decide) ?_
  refine va_newaT (atype := .boolean) (ty := .boolean) (a0 := (400, .inl (fun _ => 0))) hx hb (hg (Cond.arrayClass .boolean) m412) rfl ra_boolean hK hP hD hS hA 3 rfl (fun _ => rfl) (by decide) (by decide) (Nat.le_of_ble_eq_true rfl) (Nat.le_of_ble_eq_true rfl) (Nat.le_of_ble_eq_true rfl) dX0_init_8 (fun q_1 H hP hD hS => ?_)
  have hP : va_P D classes [(h0, .inr (0, [.null, .int 0, .int 0, .int 0, .int 0, .int 0, .int 0, .int 0])), (q_1, .inl (k.2.2.2, 400, .inl (fun _ => 0)))] H := hP
  have hD : va_D A [(h0, .inr (0, [.null, .int 0, .int 0, .int 0, .int 0, .int 0, .int 0, .int 0])), (q_1, .inl (k.2.2.2, 400, .inl (fun _ => 0)))] := hD
  refine W.widen (k := 1) (n := 400) (Nat.le_of_ble_eq_true rfl) (Nat.le_of_ble_eq_true rfl) ?_
  refine va_putF (D := D) (ci := 0) (v := .ref q_1) (ty := (.array .boolean)) (C := RX0) (T := TX0) (N := 8) hx hb hg iX0 tyX0 tyX0_ok nmX0 hown hK hP hD hS 0 rfl rfl 0 (by decide) (hg (Cond.fieldLink RX0 9 "SlabWalk$Course" "lawful" "[Z") m371) (fun _ h9 => h9) rfl hin rfl (by decide +kernel) rfl rfl (Nat.le_of_ble_eq_true rfl) dX0_init_10 (fun H locs hP hD hS => ?_)
  have hP : va_P D classes [(h0, .inr (0, [.ref q_1, .int 0, .int 0, .int 0, .int 0, .int 0, .int 0, .int 0])), (q_1, .inl (k.2.2.2, 400, .inl (fun _ => 0)))] H := hP
  have hD : va_D A [(h0, .inr (0, [.ref q_1, .int 0, .int 0, .int 0, .int 0, .int 0, .int 0, .int 0])), (q_1, .inl (k.2.2.2, 400, .inl (fun _ => 0)))] := hD
  have hP := hP.sub (ws' := [(h0, .inr (0, [.ref q_1, .int 0, .int 0, .int 0, .int 0, .int 0, .int 0, .int 0]))]) [0] rfl
  have hD := hD.sub (ws' := [(h0, .inr (0, [.ref q_1, .int 0, .int 0, .int 0, .int 0, .int 0, .int 0, .int 0]))]) [0] (by decide) rfl
  have hP9 := hP.sub (ws' := []) [] rfl
  have hD9 := hD.sub (ws' := []) [] (by decide) rfl
  exact W.vret hx hb hr (fun t ht hW => ⟨⟨(), rfl, trivial, cB_of ht hP9 hD9⟩, hS.F ht⟩) hS.2.2 dX0_init_13

set_option maxHeartbeats 4000000 in
set_option maxRecDepth 100000 in
theorem c_X4_init (l : Launch) (D : va_G) (k : ClassId × ClassId × ClassId × ClassId) (sz : Nat) (h0 : Nat)  : Met l yX4_init (WS yX4_init cX4_init 1 none) ({ frames := 1, cells := 2, slots := 800, locals := 12 }) (va_Pc [.ref h0] (cP D k [(h0, .inr (4, [.null, .null, .int 0, .int 0]))] sz)) (va_Qv (fun _ : Unit => True) (fun (_ : Unit) t => cB D (va_A [(h0, .inr (4, [.null, .null, .int 0, .int 0]))] sz) [] t) (va_A [(h0, .inr (4, [.null, .null, .int 0, .int 0]))] sz)) 2 800 (va_A [(h0, .inr (4, [.null, .null, .int 0, .int 0]))] sz) := by
  refine Met.ofW (cc := cX4_init) (maxL := 1) (ret := none) (by decide) rfl ?_
  intro p e s m args below meth c s₁ B hml hv
  obtain ⟨rfl, hsz, hP, hKX, hD0⟩ := hv
  have hK := hKX.1
  have hx := B.exec
  have hb := B.bytes
  have hr := B.returns
  have hts := atoms_spec (ws := WS yX4_init cX4_init 1 none) B.pre
  have hgd : ∀ w ∈ gd, w ∈ WS yX4_init cX4_init 1 none := fun w h => List.mem_cons_of_mem _ h
  have hg : ∀ w ∈ gd, w.before _ s = true := fun w h => hts w (hgd w h)
  have hown : s.vm.findClass RX4 = some m.cls := findClass_of_methodNamed B.named
  have hlocks := B.notSynchronized
  have hin : meth.name = "<init>" := (name_of_methodNamed B.named B.method).1
  subst hsz
  have hD := hD0.self (sz := s.heap.size)
  generalize hAe : va_A [(h0, .inr (4, [.null, .null, .int 0, .int 0]))] s.heap.size = A at hD ⊢
  have hA : ∀ q : Nat, s.heap.size ≤ q → A q := fun q h => by rw [← hAe]; exact Or.inr h
  have hS : va_S A s.heap s.heap [] := va_S.rf
  have hP : va_P D classes [(h0, .inr (4, [.null, .null, .int 0, .int 0]))] s.heap := hP
  have hl := lv_entry ([.ref h0]) (n := 1) (Nat.le_of_ble_eq_true rfl)
  rw [lg_entry_eq]
  generalize (lg_sl ([.ref h0]) ++ List.replicate (1 - (lg_sl ([.ref h0])).length) Slot.unset).toArray = ls at hl ⊢
  have hl : lv_has ls 1 [(0, .ref h0)] := hl
  refine lv_aload_n hx hb dX4_init_0 rfl (lv_at hl 0 rfl) ?_
  refine W.objInit hx hb hown (hg (Cond.methodLink RX4 3 objectInit) m426) (hg (Cond.instanceMethod objectInit) m144) (hg (Cond.code objectInit ⟨#[0xb1]⟩ 1 none) m145) rfl (by rw [hml]; exact hl.1) rfl dX4_init_1 (Nat.le_of_ble_eq_true rfl) (Nat.le_of_ble_eq_true rfl) ?_
  refine W.eq (g2 := F0 m 4 ls []) rfl ?_
  refine lv_aload_n hx hb dX4_init_4 rfl (lv_at hl 0 rfl) ?_
  refine lv_sipush (v := 400) hx hb dX4_init_5 (by decide) ?_
  refine va_newaT (atype := .int) (ty := .int) (a0 := (400, .inl (fun _ => 0))) hx hb (hg (Cond.arrayClass .int) m245) rfl ra_int hK hP hD hS hA 1 rfl (fun _ => rfl) (by decide) (by decide) (Nat.le_of_ble_eq_true rfl) (Nat.le_of_ble_eq_true rfl) (Nat.le_of_ble_eq_true rfl) dX4_init_8 (fun q_1 H hP hD hS => ?_)
  have hP : va_P D classes [(h0, .inr (4, [.null, .null, .int 0, .int 0])), (q_1, .inl (k.2.1, 400, .inl (fun _ => 0)))] H := hP
  have hD : va_D A [(h0, .inr (4, [.null, .null, .int 0, .int 0])), (q_1, .inl (k.2.1, 400, .inl (fun _ => 0)))] := hD
  refine W.widen (k := 1) (n := 400) (Nat.le_of_ble_eq_true rfl) (Nat.le_of_ble_eq_true rfl) ?_
  refine va_putF (D := D) (ci := 4) (v := .ref q_1) (ty := (.array .int)) (C := RX4) (T := TX4) (N := 4) hx hb hg iX4 tyX4 tyX4_ok nmX4 hown hK hP hD hS 0 rfl rfl 0 (by decide) (hg (Cond.fieldLink RX4 9 "SlabWalk$Minima" "keys" "[I") m427) (fun _ h9 => h9) rfl hin rfl (by decide +kernel) rfl rfl (Nat.le_of_ble_eq_true rfl) dX4_init_10 (fun H locs hP hD hS => ?_)
  have hP : va_P D classes [(h0, .inr (4, [.ref q_1, .null, .int 0, .int 0])), (q_1, .inl (k.2.1, 400, .inl (fun _ => 0)))] H := hP
  have hD : va_D A [(h0, .inr (4, [.ref q_1, .null, .int 0, .int 0])), (q_1, .inl (k.2.1, 400, .inl (fun _ => 0)))] := hD
  have hP := hP.sub (ws' := [(h0, .inr (4, [.ref q_1, .null, .int 0, .int 0]))]) [0] rfl
  have hD := hD.sub (ws' := [(h0, .inr (4, [.ref q_1, .null, .int 0, .int 0]))]) [0] (by decide) rfl
  refine lv_aload_n hx hb dX4_init_13 rfl (lv_at hl 0 rfl) ?_
  refine lv_sipush (v := 400) hx hb dX4_init_14 (by decide) ?_
  refine va_newaT (atype := .int) (ty := .int) (a0 := (400, .inl (fun _ => 0))) hx hb (hg (Cond.arrayClass .int) m245) rfl ra_int hK hP hD hS hA 1 rfl (fun _ => rfl) (by decide) (by decide) (Nat.le_of_ble_eq_true rfl) (Nat.le_of_ble_eq_true rfl) (Nat.le_of_ble_eq_true rfl) dX4_init_17 (fun q_2 H hP hD hS => ?_)
  have hP : va_P D classes [(h0, .inr (4, [.ref q_1, .null, .int 0, .int 0])), (q_2, .inl (k.2.1, 400, .inl (fun _ => 0)))] H := hP
  have hD : va_D A [(h0, .inr (4, [.ref q_1, .null, .int 0, .int 0])), (q_2, .inl (k.2.1, 400, .inl (fun _ => 0)))] := hD
  refine W.widen (k := 2) (n := 800) (Nat.le_of_ble_eq_true rfl) (Nat.le_of_ble_eq_true rfl) ?_
  refine va_putF (D := D) (ci := 4) (v := .ref q_2) (ty := (.array .int)) (C := RX4) (T := TX4) (N := 4) hx hb hg iX4 tyX4 tyX4_ok nmX4 hown hK hP hD hS 0 rfl rfl 1 (by decide) (hg (Cond.fieldLink RX4 15 "SlabWalk$Minima" "values" "[I") m428) (fun _ h9 => h9) rfl hin rfl (by decide +kernel) rfl rfl (Nat.le_of_ble_eq_true rfl) dX4_init_19 (fun H locs hP hD hS => ?_)
  have hP : va_P D classes [(h0, .inr (4, [.ref q_1, .ref q_2, .int 0, .int 0])), (q_2, .inl (k.2.1, 400, .inl (fun _ => 0)))] H := hP
  have hD : va_D A [(h0, .inr (4, [.ref q_1, .ref q_2, .int 0, .int 0])), (q_2, .inl (k.2.1, 400, .inl (fun _ => 0)))] := hD
  have hP := hP.sub (ws' := [(h0, .inr (4, [.ref q_1, .ref q_2, .int 0, .int 0]))]) [0] rfl
  have hD := hD.sub (ws' := [(h0, .inr (4, [.ref q_1, .ref q_2, .int 0, .int 0]))]) [0] (by decide) rfl
  have hP9 := hP.sub (ws' := []) [] rfl
  have hD9 := hD.sub (ws' := []) [] (by decide) rfl
  exact W.vret hx hb hr (fun t ht hW => ⟨⟨(), rfl, trivial, cB_of ht hP9 hD9⟩, hS.F ht⟩) hS.2.2 dX4_init_22

set_option maxHeartbeats 4000000 in
set_option maxRecDepth 100000 in
theorem c_X10_init (l : Launch) (D : va_G) (k : ClassId × ClassId × ClassId × ClassId) (sz : Nat) (h0 : Nat)  : Met l yX10_init (WS yX10_init cX10_init 1 none) ({ frames := 2, cells := 13, slots := 3348, locals := 32 }) (va_Pc [.ref h0] (cP D k [(h0, .inr (10, [.null, .null, .null, .null, .null]))] sz)) (va_Qv (fun _ : Unit => True) (fun (_ : Unit) t => cB D (va_A [(h0, .inr (10, [.null, .null, .null, .null, .null]))] sz) [] t) (va_A [(h0, .inr (10, [.null, .null, .null, .null, .null]))] sz)) 13 3348 (va_A [(h0, .inr (10, [.null, .null, .null, .null, .null]))] sz) := by
  refine Met.ofW (cc := cX10_init) (maxL := 1) (ret := none) (by decide) rfl ?_
  intro p e s m args below meth c s₁ B hml hv
  obtain ⟨rfl, hsz, hP, hKX, hD0⟩ := hv
  have hK := hKX.1
  have hx := B.exec
  have hb := B.bytes
  have hr := B.returns
  have hts := atoms_spec (ws := WS yX10_init cX10_init 1 none) B.pre
  have hgd : ∀ w ∈ gd, w ∈ WS yX10_init cX10_init 1 none := fun w h => List.mem_cons_of_mem _ h
  have hg : ∀ w ∈ gd, w.before _ s = true := fun w h => hts w (hgd w h)
  have hown : s.vm.findClass RX10 = some m.cls := findClass_of_methodNamed B.named
  have hlocks := B.notSynchronized
  have hin : meth.name = "<init>" := (name_of_methodNamed B.named B.method).1
  subst hsz
  have hD := hD0.self (sz := s.heap.size)
  generalize hAe : va_A [(h0, .inr (10, [.null, .null, .null, .null, .null]))] s.heap.size = A at hD ⊢
  have hA : ∀ q : Nat, s.heap.size ≤ q → A q := fun q h => by rw [← hAe]; exact Or.inr h
  have hS : va_S A s.heap s.heap [] := va_S.rf
  have hP : va_P D classes [(h0, .inr (10, [.null, .null, .null, .null, .null]))] s.heap := hP
  have hl := lv_entry ([.ref h0]) (n := 1) (Nat.le_of_ble_eq_true rfl)
  rw [lg_entry_eq]
  generalize (lg_sl ([.ref h0]) ++ List.replicate (1 - (lg_sl ([.ref h0])).length) Slot.unset).toArray = ls at hl ⊢
  have hl : lv_has ls 1 [(0, .ref h0)] := hl
  refine lv_aload_n hx hb dX10_init_0 rfl (lv_at hl 0 rfl) ?_
  refine W.objInit hx hb hown (hg (Cond.methodLink RX10 3 objectInit) m418) (hg (Cond.instanceMethod objectInit) m144) (hg (Cond.code objectInit ⟨#[0xb1]⟩ 1 none) m145) rfl (by rw [hml]; exact hl.1) rfl dX10_init_1 (Nat.le_of_ble_eq_true rfl) (Nat.le_of_ble_eq_true rfl) ?_
  refine W.eq (g2 := F0 m 4 ls []) rfl ?_
  refine lv_aload_n hx hb dX10_init_4 rfl (lv_at hl 0 rfl) ?_
  refine lv_iconst (v := 4) hx hb dX10_init_5 (by decide) ?_
  refine lv_sipush (v := 402) hx hb dX10_init_6 (by decide) ?_
  refine va_mna0 (ty := .int) (N' := 4) (K' := 402) hx hb hown (hg (Cond.classLink RX10 11 "[[I") m419) hKX.2.1 (hg (Cond.arrayClass .int) m245) hP hS (by decide) (by decide) (by decide) (by decide) (Nat.le_of_ble_eq_true rfl) (Nat.le_of_ble_eq_true rfl) (Nat.le_of_ble_eq_true rfl) (by decide) (by decide) (Nat.le_of_ble_eq_true rfl) (Nat.le_of_ble_eq_true rfl) dX10_init_9 (fun q_1 H hP hS => ?_)
  refine W.widen (k := 5) (n := 1612) (Nat.le_of_ble_eq_true rfl) (Nat.le_of_ble_eq_true rfl) ?_
  refine va_putF (D := D) (ci := 10) (v := .ref q_1) (ty := (.array (.array .int))) (C := RX10) (T := TX10) (N := 5) hx hb hg iX10 tyX10 tyX10_ok nmX10 hown hK hP hD hS 0 rfl rfl 0 (by decide) (hg (Cond.fieldLink RX10 13 "SlabWalk$Trails" "rows" "[[I") m440) (fun _ h9 => h9) rfl hin rfl (by decide +kernel) rfl rfl (Nat.le_of_ble_eq_true rfl) dX10_init_13 (fun H locs hP hD hS => ?_)
  have hP : va_P D classes [(h0, .inr (10, [.ref q_1, .null, .null, .null, .null]))] H := hP
  have hD : va_D A [(h0, .inr (10, [.ref q_1, .null, .null, .null, .null]))] := hD
  refine lv_aload_n hx hb dX10_init_16 rfl (lv_at hl 0 rfl) ?_
  refine va_new (ci := 4) (fs := [.null, .null, .int 0, .int 0]) (C := RX4) (T := TX4) (N := 4) hx hb hg iX4 tyX4 tyX4_ok hown (hg (Cond.classLink RX10 16 RX4) m421) (hg (Cond.instantiable RX4 4) m422) (hg (Cond.initialized RX4) m125) hK hP hD hS hA rfl (by decide) (Nat.le_of_ble_eq_true rfl) (Nat.le_of_ble_eq_true rfl) dX10_init_17 (fun q_2 H hP hD hS => ?_)
  have hP : va_P D classes [(h0, .inr (10, [.ref q_1, .null, .null, .null, .null])), (q_2, .inr (4, [.null, .null, .int 0, .int 0]))] H := hP
  have hD : va_D A [(h0, .inr (10, [.ref q_1, .null, .null, .null, .null])), (q_2, .inr (4, [.null, .null, .int 0, .int 0]))] := hD
  refine W.widen (k := 6) (n := 1616) (Nat.le_of_ble_eq_true rfl) (Nat.le_of_ble_eq_true rfl) ?_
  refine lv_dup hx hb dX10_init_20 rfl ?_
  have hPc := hP.sub (ws' := [(q_2, .inr (4, [.null, .null, .int 0, .int 0]))]) [1] rfl
  have hDc := hD.sub (ws' := [(q_2, .inr (4, [.null, .null, .int 0, .int 0]))]) [1] (by decide) rfl
  have hFc := va_free (wc := [(q_2, .inr (4, [.null, .null, .int 0, .int 0]))]) hD hS hA [1] rfl
  refine va_callv (va_runIN (As := []) (rest := [.ref q_2, .ref h0]) ⟨hx, hb, hml, hown, hts⟩ (c_X4_init l D k H.size q_2 ) ⟨va_cnB 0 hts (gd_in hgd (gd_WS m425)) rfl rfl rfl hKX.2.2.2.2.1 (hg (Cond.initialized RX4) m125) (by decide +kernel) ⟨Nat.le_of_ble_eq_true rfl, Nat.le_of_ble_eq_true rfl⟩, rfl, (hg (Cond.instanceMethod yX4_init) m424)⟩ (cP_S hPc hKX hDc) rfl rfl hl.1 rfl (lv_room (Nat.le_of_ble_eq_true rfl)) dX10_init_21 ⟨Nat.le_of_ble_eq_true rfl, Nat.le_of_ble_eq_true rfl⟩) hS (fun q _ h => hFc q h) hFc (fun u t H1 locs ht hvm hw hB hz1 hk1 hS => ?_)
  obtain ⟨hP1, hD1⟩ := hB
  rw [ht] at hP1
  obtain ⟨hP, hD⟩ := va_join (wr := [(h0, .inr (10, [.ref q_1, .null, .null, .null, .null]))]) (w1 := []) hP hD [1] [0] rfl rfl (by decide) (by decide) hk1 hFc hP1 hD1
  generalize H1 = H at hP hS ⊢
  have hP : va_P D classes [(h0, .inr (10, [.ref q_1, .null, .null, .null, .null]))] H := hP
  have hD : va_D A [(h0, .inr (10, [.ref q_1, .null, .null, .null, .null]))] := hD
  refine W.widen (k := 8) (n := 2416) (Nat.le_of_ble_eq_true rfl) (Nat.le_of_ble_eq_true rfl) ?_
  refine va_putF (D := D) (ci := 10) (v := .ref q_2) (ty := (.object "SlabWalk$Minima")) (C := RX10) (T := TX10) (N := 5) hx hb hg iX10 tyX10 tyX10_ok nmX10 hown hK hP hD hS 0 rfl rfl 1 (by decide) (hg (Cond.fieldLink RX10 19 "SlabWalk$Trails" "steps" "LSlabWalk$Minima;") m441) (fun _ h9 => h9) rfl hin rfl (by decide +kernel) rfl rfl (Nat.le_of_ble_eq_true rfl) dX10_init_24 (fun H locs hP hD hS => ?_)
  have hP : va_P D classes [(h0, .inr (10, [.ref q_1, .ref q_2, .null, .null, .null]))] H := hP
  have hD : va_D A [(h0, .inr (10, [.ref q_1, .ref q_2, .null, .null, .null]))] := hD
  refine lv_aload_n hx hb dX10_init_27 rfl (lv_at hl 0 rfl) ?_
  refine va_new (ci := 4) (fs := [.null, .null, .int 0, .int 0]) (C := RX4) (T := TX4) (N := 4) hx hb hg iX4 tyX4 tyX4_ok hown (hg (Cond.classLink RX10 16 RX4) m421) (hg (Cond.instantiable RX4 4) m422) (hg (Cond.initialized RX4) m125) hK hP hD hS hA rfl (by decide) (Nat.le_of_ble_eq_true rfl) (Nat.le_of_ble_eq_true rfl) dX10_init_28 (fun q_4 H hP hD hS => ?_)
  have hP : va_P D classes [(h0, .inr (10, [.ref q_1, .ref q_2, .null, .null, .null])), (q_4, .inr (4, [.null, .null, .int 0, .int 0]))] H := hP
  have hD : va_D A [(h0, .inr (10, [.ref q_1, .ref q_2, .null, .null, .null])), (q_4, .inr (4, [.null, .null, .int 0, .int 0]))] := hD
  refine W.widen (k := 9) (n := 2420) (Nat.le_of_ble_eq_true rfl) (Nat.le_of_ble_eq_true rfl) ?_
  refine lv_dup hx hb dX10_init_31 rfl ?_
  have hPc := hP.sub (ws' := [(q_4, .inr (4, [.null, .null, .int 0, .int 0]))]) [1] rfl
  have hDc := hD.sub (ws' := [(q_4, .inr (4, [.null, .null, .int 0, .int 0]))]) [1] (by decide) rfl
  have hFc := va_free (wc := [(q_4, .inr (4, [.null, .null, .int 0, .int 0]))]) hD hS hA [1] rfl
  refine va_callv (va_runIN (As := []) (rest := [.ref q_4, .ref h0]) ⟨hx, hb, hml, hown, hts⟩ (c_X4_init l D k H.size q_4 ) ⟨va_cnB 0 hts (gd_in hgd (gd_WS m425)) rfl rfl rfl hKX.2.2.2.2.1 (hg (Cond.initialized RX4) m125) (by decide +kernel) ⟨Nat.le_of_ble_eq_true rfl, Nat.le_of_ble_eq_true rfl⟩, rfl, (hg (Cond.instanceMethod yX4_init) m424)⟩ (cP_S hPc hKX hDc) rfl rfl hl.1 rfl (lv_room (Nat.le_of_ble_eq_true rfl)) dX10_init_32 ⟨Nat.le_of_ble_eq_true rfl, Nat.le_of_ble_eq_true rfl⟩) hS (fun q _ h => hFc q h) hFc (fun u t H1 locs ht hvm hw hB hz1 hk1 hS => ?_)
  obtain ⟨hP1, hD1⟩ := hB
  rw [ht] at hP1
  obtain ⟨hP, hD⟩ := va_join (wr := [(h0, .inr (10, [.ref q_1, .ref q_2, .null, .null, .null]))]) (w1 := []) hP hD [1] [0] rfl rfl (by decide) (by decide) hk1 hFc hP1 hD1
  generalize H1 = H at hP hS ⊢
  have hP : va_P D classes [(h0, .inr (10, [.ref q_1, .ref q_2, .null, .null, .null]))] H := hP
  have hD : va_D A [(h0, .inr (10, [.ref q_1, .ref q_2, .null, .null, .null]))] := hD
  refine W.widen (k := 11) (n := 3220) (Nat.le_of_ble_eq_true rfl) (Nat.le_of_ble_eq_true rfl) ?_
  refine va_putF (D := D) (ci := 10) (v := .ref q_4) (ty := (.object "SlabWalk$Minima")) (C := RX10) (T := TX10) (N := 5) hx hb hg iX10 tyX10 tyX10_ok nmX10 hown hK hP hD hS 0 rfl rfl 2 (by decide) (hg (Cond.fieldLink RX10 23 "SlabWalk$Trails" "leaps" "LSlabWalk$Minima;") m442) (fun _ h9 => h9) rfl hin rfl (by decide +kernel) rfl rfl (Nat.le_of_ble_eq_true rfl) dX10_init_35 (fun H locs hP hD hS => ?_)
  have hP : va_P D classes [(h0, .inr (10, [.ref q_1, .ref q_2, .ref q_4, .null, .null]))] H := hP
  have hD : va_D A [(h0, .inr (10, [.ref q_1, .ref q_2, .ref q_4, .null, .null]))] := hD
  refine lv_aload_n hx hb dX10_init_38 rfl (lv_at hl 0 rfl) ?_
  refine lv_bipush (v := 64) hx hb dX10_init_39 (by decide) ?_
  refine va_newaT (atype := .int) (ty := .int) (a0 := (64, .inl (fun _ => 0))) hx hb (hg (Cond.arrayClass .int) m245) rfl ra_int hK hP hD hS hA 1 rfl (fun _ => rfl) (by decide) (by decide) (Nat.le_of_ble_eq_true rfl) (Nat.le_of_ble_eq_true rfl) (Nat.le_of_ble_eq_true rfl) dX10_init_41 (fun q_6 H hP hD hS => ?_)
  have hP : va_P D classes [(h0, .inr (10, [.ref q_1, .ref q_2, .ref q_4, .null, .null])), (q_6, .inl (k.2.1, 64, .inl (fun _ => 0)))] H := hP
  have hD : va_D A [(h0, .inr (10, [.ref q_1, .ref q_2, .ref q_4, .null, .null])), (q_6, .inl (k.2.1, 64, .inl (fun _ => 0)))] := hD
  refine W.widen (k := 12) (n := 3284) (Nat.le_of_ble_eq_true rfl) (Nat.le_of_ble_eq_true rfl) ?_
  refine va_putF (D := D) (ci := 10) (v := .ref q_6) (ty := (.array .int)) (C := RX10) (T := TX10) (N := 5) hx hb hg iX10 tyX10 tyX10_ok nmX10 hown hK hP hD hS 0 rfl rfl 3 (by decide) (hg (Cond.fieldLink RX10 26 "SlabWalk$Trails" "winning" "[I") m443) (fun _ h9 => h9) rfl hin rfl (by decide +kernel) rfl rfl (Nat.le_of_ble_eq_true rfl) dX10_init_43 (fun H locs hP hD hS => ?_)
  have hP : va_P D classes [(h0, .inr (10, [.ref q_1, .ref q_2, .ref q_4, .ref q_6, .null])), (q_6, .inl (k.2.1, 64, .inl (fun _ => 0)))] H := hP
  have hD : va_D A [(h0, .inr (10, [.ref q_1, .ref q_2, .ref q_4, .ref q_6, .null])), (q_6, .inl (k.2.1, 64, .inl (fun _ => 0)))] := hD
  have hP := hP.sub (ws' := [(h0, .inr (10, [.ref q_1, .ref q_2, .ref q_4, .ref q_6, .null]))]) [0] rfl
  have hD := hD.sub (ws' := [(h0, .inr (10, [.ref q_1, .ref q_2, .ref q_4, .ref q_6, .null]))]) [0] (by decide) rfl
  refine lv_aload_n hx hb dX10_init_46 rfl (lv_at hl 0 rfl) ?_
  refine lv_bipush (v := 64) hx hb dX10_init_47 (by decide) ?_
  refine va_newaT (atype := .boolean) (ty := .boolean) (a0 := (64, .inl (fun _ => 0))) hx hb (hg (Cond.arrayClass .boolean) m412) rfl ra_boolean hK hP hD hS hA 3 rfl (fun _ => rfl) (by decide) (by decide) (Nat.le_of_ble_eq_true rfl) (Nat.le_of_ble_eq_true rfl) (Nat.le_of_ble_eq_true rfl) dX10_init_49 (fun q_7 H hP hD hS => ?_)
  have hP : va_P D classes [(h0, .inr (10, [.ref q_1, .ref q_2, .ref q_4, .ref q_6, .null])), (q_7, .inl (k.2.2.2, 64, .inl (fun _ => 0)))] H := hP
  have hD : va_D A [(h0, .inr (10, [.ref q_1, .ref q_2, .ref q_4, .ref q_6, .null])), (q_7, .inl (k.2.2.2, 64, .inl (fun _ => 0)))] := hD
  refine W.widen (k := 13) (n := 3348) (Nat.le_of_ble_eq_true rfl) (Nat.le_of_ble_eq_true rfl) ?_
  refine va_putF (D := D) (ci := 10) (v := .ref q_7) (ty := (.array .boolean)) (C := RX10) (T := TX10) (N := 5) hx hb hg iX10 tyX10 tyX10_ok nmX10 hown hK hP hD hS 0 rfl rfl 4 (by decide) (hg (Cond.fieldLink RX10 30 "SlabWalk$Trails" "leaving" "[Z") m445) (fun _ h9 => h9) rfl hin rfl (by decide +kernel) rfl rfl (Nat.le_of_ble_eq_true rfl) dX10_init_51 (fun H locs hP hD hS => ?_)
  have hP : va_P D classes [(h0, .inr (10, [.ref q_1, .ref q_2, .ref q_4, .ref q_6, .ref q_7])), (q_7, .inl (k.2.2.2, 64, .inl (fun _ => 0)))] H := hP
  have hD : va_D A [(h0, .inr (10, [.ref q_1, .ref q_2, .ref q_4, .ref q_6, .ref q_7])), (q_7, .inl (k.2.2.2, 64, .inl (fun _ => 0)))] := hD
  have hP := hP.sub (ws' := [(h0, .inr (10, [.ref q_1, .ref q_2, .ref q_4, .ref q_6, .ref q_7]))]) [0] rfl
  have hD := hD.sub (ws' := [(h0, .inr (10, [.ref q_1, .ref q_2, .ref q_4, .ref q_6, .ref q_7]))]) [0] (by decide) rfl
  have hP9 := hP.sub (ws' := []) [] rfl
  have hD9 := hD.sub (ws' := []) [] (by decide) rfl
  exact W.vret hx hb hr (fun t ht hW => ⟨⟨(), rfl, trivial, cB_of ht hP9 hD9⟩, hS.F ht⟩) hS.2.2 dX10_init_54

set_option maxHeartbeats 4000000 in
set_option maxRecDepth 100000 in
theorem c_X5_init (l : Launch) (D : va_G) (k : ClassId × ClassId × ClassId × ClassId) (sz : Nat) (h0 : Nat)  : Met l yX5_init (WS yX5_init cX5_init 1 none) ({ frames := 1, cells := 6, slots := 2424, locals := 12 }) (va_Pc [.ref h0] (cP D k [(h0, .inr (5, [.null, .null, .null, .null, .null, .null, .int 0]))] sz)) (va_Qv (fun _ : Unit => True) (fun (_ : Unit) t => cB D (va_A [(h0, .inr (5, [.null, .null, .null, .null, .null, .null, .int 0]))] sz) [] t) (va_A [(h0, .inr (5, [.null, .null, .null, .null, .null, .null, .int 0]))] sz)) 6 2424 (va_A [(h0, .inr (5, [.null, .null, .null, .null, .null, .null, .int 0]))] sz) := by
  refine Met.ofW (cc := cX5_init) (maxL := 1) (ret := none) (by decide) rfl ?_
  intro p e s m args below meth c s₁ B hml hv
  obtain ⟨rfl, hsz, hP, hKX, hD0⟩ := hv
  have hK := hKX.1
  have hx := B.exec
  have hb := B.bytes
  have hr := B.returns
  have hts := atoms_spec (ws := WS yX5_init cX5_init 1 none) B.pre
  have hgd : ∀ w ∈ gd, w ∈ WS yX5_init cX5_init 1 none := fun w h => List.mem_cons_of_mem _ h
  have hg : ∀ w ∈ gd, w.before _ s = true := fun w h => hts w (hgd w h)
  have hown : s.vm.findClass RX5 = some m.cls := findClass_of_methodNamed B.named
  have hlocks := B.notSynchronized
  have hin : meth.name = "<init>" := (name_of_methodNamed B.named B.method).1
  subst hsz
  have hD := hD0.self (sz := s.heap.size)
  generalize hAe : va_A [(h0, .inr (5, [.null, .null, .null, .null, .null, .null, .int 0]))] s.heap.size = A at hD ⊢
  have hA : ∀ q : Nat, s.heap.size ≤ q → A q := fun q h => by rw [← hAe]; exact Or.inr h
  have hS : va_S A s.heap s.heap [] := va_S.rf
  have hP : va_P D classes [(h0, .inr (5, [.null, .null, .null, .null, .null, .null, .int 0]))] s.heap := hP
  have hl := lv_entry ([.ref h0]) (n := 1) (Nat.le_of_ble_eq_true rfl)
  rw [lg_entry_eq]
  generalize (lg_sl ([.ref h0]) ++ List.replicate (1 - (lg_sl ([.ref h0])).length) Slot.unset).toArray = ls at hl ⊢
  have hl : lv_has ls 1 [(0, .ref h0)] := hl
  refine lv_aload_n hx hb dX5_init_0 rfl (lv_at hl 0 rfl) ?_
  refine W.objInit hx hb hown (hg (Cond.methodLink RX5 3 objectInit) m463) (hg (Cond.instanceMethod objectInit) m144) (hg (Cond.code objectInit ⟨#[0xb1]⟩ 1 none) m145) rfl (by rw [hml]; exact hl.1) rfl dX5_init_1 (Nat.le_of_ble_eq_true rfl) (Nat.le_of_ble_eq_true rfl) ?_
  refine W.eq (g2 := F0 m 4 ls []) rfl ?_
  refine lv_aload_n hx hb dX5_init_4 rfl (lv_at hl 0 rfl) ?_
  refine lv_sipush (v := 404) hx hb dX5_init_5 (by decide) ?_
  refine va_newaT (atype := .long) (ty := .long) (a0 := (404, .inr (.inl (fun _ => 0)))) hx hb (hg (Cond.arrayClass .long) m294) rfl ra_long hK hP hD hS hA 2 rfl (fun _ => rfl) (by decide) (by decide) (Nat.le_of_ble_eq_true rfl) (Nat.le_of_ble_eq_true rfl) (Nat.le_of_ble_eq_true rfl) dX5_init_8 (fun q_1 H hP hD hS => ?_)
  have hP : va_P D classes [(h0, .inr (5, [.null, .null, .null, .null, .null, .null, .int 0])), (q_1, .inl (k.2.2.1, 404, .inr (.inl (fun _ => 0))))] H := hP
  have hD : va_D A [(h0, .inr (5, [.null, .null, .null, .null, .null, .null, .int 0])), (q_1, .inl (k.2.2.1, 404, .inr (.inl (fun _ => 0))))] := hD
  refine W.widen (k := 1) (n := 404) (Nat.le_of_ble_eq_true rfl) (Nat.le_of_ble_eq_true rfl) ?_
  refine va_putF (D := D) (ci := 5) (v := .ref q_1) (ty := (.array .long)) (C := RX5) (T := TX5) (N := 7) hx hb hg iX5 tyX5 tyX5_ok nmX5 hown hK hP hD hS 0 rfl rfl 0 (by decide) (hg (Cond.fieldLink RX5 11 "SlabWalk$Odds" "stepped" "[J") m464) (fun _ h9 => h9) rfl hin rfl (by decide +kernel) rfl rfl (Nat.le_of_ble_eq_true rfl) dX5_init_10 (fun H locs hP hD hS => ?_)
  have hP : va_P D classes [(h0, .inr (5, [.ref q_1, .null, .null, .null, .null, .null, .int 0])), (q_1, .inl (k.2.2.1, 404, .inr (.inl (fun _ => 0))))] H := hP
  have hD : va_D A [(h0, .inr (5, [.ref q_1, .null, .null, .null, .null, .null, .int 0])), (q_1, .inl (k.2.2.1, 404, .inr (.inl (fun _ => 0))))] := hD
  have hP := hP.sub (ws' := [(h0, .inr (5, [.ref q_1, .null, .null, .null, .null, .null, .int 0]))]) [0] rfl
  have hD := hD.sub (ws' := [(h0, .inr (5, [.ref q_1, .null, .null, .null, .null, .null, .int 0]))]) [0] (by decide) rfl
  refine lv_aload_n hx hb dX5_init_13 rfl (lv_at hl 0 rfl) ?_
  refine lv_sipush (v := 404) hx hb dX5_init_14 (by decide) ?_
  refine va_newaT (atype := .long) (ty := .long) (a0 := (404, .inr (.inl (fun _ => 0)))) hx hb (hg (Cond.arrayClass .long) m294) rfl ra_long hK hP hD hS hA 2 rfl (fun _ => rfl) (by decide) (by decide) (Nat.le_of_ble_eq_true rfl) (Nat.le_of_ble_eq_true rfl) (Nat.le_of_ble_eq_true rfl) dX5_init_17 (fun q_2 H hP hD hS => ?_)
  have hP : va_P D classes [(h0, .inr (5, [.ref q_1, .null, .null, .null, .null, .null, .int 0])), (q_2, .inl (k.2.2.1, 404, .inr (.inl (fun _ => 0))))] H := hP
  have hD : va_D A [(h0, .inr (5, [.ref q_1, .null, .null, .null, .null, .null, .int 0])), (q_2, .inl (k.2.2.1, 404, .inr (.inl (fun _ => 0))))] := hD
  refine W.widen (k := 2) (n := 808) (Nat.le_of_ble_eq_true rfl) (Nat.le_of_ble_eq_true rfl) ?_
  refine va_putF (D := D) (ci := 5) (v := .ref q_2) (ty := (.array .long)) (C := RX5) (T := TX5) (N := 7) hx hb hg iX5 tyX5 tyX5_ok nmX5 hown hK hP hD hS 0 rfl rfl 1 (by decide) (hg (Cond.fieldLink RX5 15 "SlabWalk$Odds" "leapt" "[J") m465) (fun _ h9 => h9) rfl hin rfl (by decide +kernel) rfl rfl (Nat.le_of_ble_eq_true rfl) dX5_init_19 (fun H locs hP hD hS => ?_)
  have hP : va_P D classes [(h0, .inr (5, [.ref q_1, .ref q_2, .null, .null, .null, .null, .int 0])), (q_2, .inl (k.2.2.1, 404, .inr (.inl (fun _ => 0))))] H := hP
  have hD : va_D A [(h0, .inr (5, [.ref q_1, .ref q_2, .null, .null, .null, .null, .int 0])), (q_2, .inl (k.2.2.1, 404, .inr (.inl (fun _ => 0))))] := hD
  have hP := hP.sub (ws' := [(h0, .inr (5, [.ref q_1, .ref q_2, .null, .null, .null, .null, .int 0]))]) [0] rfl
  have hD := hD.sub (ws' := [(h0, .inr (5, [.ref q_1, .ref q_2, .null, .null, .null, .null, .int 0]))]) [0] (by decide) rfl
  refine lv_aload_n hx hb dX5_init_22 rfl (lv_at hl 0 rfl) ?_
  refine lv_sipush (v := 404) hx hb dX5_init_23 (by decide) ?_
  refine va_newaT (atype := .long) (ty := .long) (a0 := (404, .inr (.inl (fun _ => 0)))) hx hb (hg (Cond.arrayClass .long) m294) rfl ra_long hK hP hD hS hA 2 rfl (fun _ => rfl) (by decide) (by decide) (Nat.le_of_ble_eq_true rfl) (Nat.le_of_ble_eq_true rfl) (Nat.le_of_ble_eq_true rfl) dX5_init_26 (fun q_3 H hP hD hS => ?_)
  have hP : va_P D classes [(h0, .inr (5, [.ref q_1, .ref q_2, .null, .null, .null, .null, .int 0])), (q_3, .inl (k.2.2.1, 404, .inr (.inl (fun _ => 0))))] H := hP
  have hD : va_D A [(h0, .inr (5, [.ref q_1, .ref q_2, .null, .null, .null, .null, .int 0])), (q_3, .inl (k.2.2.1, 404, .inr (.inl (fun _ => 0))))] := hD
  refine W.widen (k := 3) (n := 1212) (Nat.le_of_ble_eq_true rfl) (Nat.le_of_ble_eq_true rfl) ?_
  refine va_putF (D := D) (ci := 5) (v := .ref q_3) (ty := (.array .long)) (C := RX5) (T := TX5) (N := 7) hx hb hg iX5 tyX5 tyX5_ok nmX5 hown hK hP hD hS 0 rfl rfl 2 (by decide) (hg (Cond.fieldLink RX5 18 "SlabWalk$Odds" "sums" "[J") m466) (fun _ h9 => h9) rfl hin rfl (by decide +kernel) rfl rfl (Nat.le_of_ble_eq_true rfl) dX5_init_28 (fun H locs hP hD hS => ?_)
  have hP : va_P D classes [(h0, .inr (5, [.ref q_1, .ref q_2, .ref q_3, .null, .null, .null, .int 0])), (q_3, .inl (k.2.2.1, 404, .inr (.inl (fun _ => 0))))] H := hP
  have hD : va_D A [(h0, .inr (5, [.ref q_1, .ref q_2, .ref q_3, .null, .null, .null, .int 0])), (q_3, .inl (k.2.2.1, 404, .inr (.inl (fun _ => 0))))] := hD
  have hP := hP.sub (ws' := [(h0, .inr (5, [.ref q_1, .ref q_2, .ref q_3, .null, .null, .null, .int 0]))]) [0] rfl
  have hD := hD.sub (ws' := [(h0, .inr (5, [.ref q_1, .ref q_2, .ref q_3, .null, .null, .null, .int 0]))]) [0] (by decide) rfl
  refine lv_aload_n hx hb dX5_init_31 rfl (lv_at hl 0 rfl) ?_
  refine lv_sipush (v := 404) hx hb dX5_init_32 (by decide) ?_
  refine va_newaT (atype := .long) (ty := .long) (a0 := (404, .inr (.inl (fun _ => 0)))) hx hb (hg (Cond.arrayClass .long) m294) rfl ra_long hK hP hD hS hA 2 rfl (fun _ => rfl) (by decide) (by decide) (Nat.le_of_ble_eq_true rfl) (Nat.le_of_ble_eq_true rfl) (Nat.le_of_ble_eq_true rfl) dX5_init_35 (fun q_4 H hP hD hS => ?_)
  have hP : va_P D classes [(h0, .inr (5, [.ref q_1, .ref q_2, .ref q_3, .null, .null, .null, .int 0])), (q_4, .inl (k.2.2.1, 404, .inr (.inl (fun _ => 0))))] H := hP
  have hD : va_D A [(h0, .inr (5, [.ref q_1, .ref q_2, .ref q_3, .null, .null, .null, .int 0])), (q_4, .inl (k.2.2.1, 404, .inr (.inl (fun _ => 0))))] := hD
  refine W.widen (k := 4) (n := 1616) (Nat.le_of_ble_eq_true rfl) (Nat.le_of_ble_eq_true rfl) ?_
  refine va_putF (D := D) (ci := 5) (v := .ref q_4) (ty := (.array .long)) (C := RX5) (T := TX5) (N := 7) hx hb hg iX5 tyX5 tyX5_ok nmX5 hown hK hP hD hS 0 rfl rfl 3 (by decide) (hg (Cond.fieldLink RX5 21 "SlabWalk$Odds" "steppedSums" "[J") m467) (fun _ h9 => h9) rfl hin rfl (by decide +kernel) rfl rfl (Nat.le_of_ble_eq_true rfl) dX5_init_37 (fun H locs hP hD hS => ?_)
  have hP : va_P D classes [(h0, .inr (5, [.ref q_1, .ref q_2, .ref q_3, .ref q_4, .null, .null, .int 0])), (q_4, .inl (k.2.2.1, 404, .inr (.inl (fun _ => 0))))] H := hP
  have hD : va_D A [(h0, .inr (5, [.ref q_1, .ref q_2, .ref q_3, .ref q_4, .null, .null, .int 0])), (q_4, .inl (k.2.2.1, 404, .inr (.inl (fun _ => 0))))] := hD
  have hP := hP.sub (ws' := [(h0, .inr (5, [.ref q_1, .ref q_2, .ref q_3, .ref q_4, .null, .null, .int 0]))]) [0] rfl
  have hD := hD.sub (ws' := [(h0, .inr (5, [.ref q_1, .ref q_2, .ref q_3, .ref q_4, .null, .null, .int 0]))]) [0] (by decide) rfl
  refine lv_aload_n hx hb dX5_init_40 rfl (lv_at hl 0 rfl) ?_
  refine lv_sipush (v := 404) hx hb dX5_init_41 (by decide) ?_
  refine va_newaT (atype := .long) (ty := .long) (a0 := (404, .inr (.inl (fun _ => 0)))) hx hb (hg (Cond.arrayClass .long) m294) rfl ra_long hK hP hD hS hA 2 rfl (fun _ => rfl) (by decide) (by decide) (Nat.le_of_ble_eq_true rfl) (Nat.le_of_ble_eq_true rfl) (Nat.le_of_ble_eq_true rfl) dX5_init_44 (fun q_5 H hP hD hS => ?_)
  have hP : va_P D classes [(h0, .inr (5, [.ref q_1, .ref q_2, .ref q_3, .ref q_4, .null, .null, .int 0])), (q_5, .inl (k.2.2.1, 404, .inr (.inl (fun _ => 0))))] H := hP
  have hD : va_D A [(h0, .inr (5, [.ref q_1, .ref q_2, .ref q_3, .ref q_4, .null, .null, .int 0])), (q_5, .inl (k.2.2.1, 404, .inr (.inl (fun _ => 0))))] := hD
  refine W.widen (k := 5) (n := 2020) (Nat.le_of_ble_eq_true rfl) (Nat.le_of_ble_eq_true rfl) ?_
  refine va_putF (D := D) (ci := 5) (v := .ref q_5) (ty := (.array .long)) (C := RX5) (T := TX5) (N := 7) hx hb hg iX5 tyX5 tyX5_ok nmX5 hown hK hP hD hS 0 rfl rfl 4 (by decide) (hg (Cond.fieldLink RX5 24 "SlabWalk$Odds" "odds" "[J") m468) (fun _ h9 => h9) rfl hin rfl (by decide +kernel) rfl rfl (Nat.le_of_ble_eq_true rfl) dX5_init_46 (fun H locs hP hD hS => ?_)
  have hP : va_P D classes [(h0, .inr (5, [.ref q_1, .ref q_2, .ref q_3, .ref q_4, .ref q_5, .null, .int 0])), (q_5, .inl (k.2.2.1, 404, .inr (.inl (fun _ => 0))))] H := hP
  have hD : va_D A [(h0, .inr (5, [.ref q_1, .ref q_2, .ref q_3, .ref q_4, .ref q_5, .null, .int 0])), (q_5, .inl (k.2.2.1, 404, .inr (.inl (fun _ => 0))))] := hD
  have hP := hP.sub (ws' := [(h0, .inr (5, [.ref q_1, .ref q_2, .ref q_3, .ref q_4, .ref q_5, .null, .int 0]))]) [0] rfl
  have hD := hD.sub (ws' := [(h0, .inr (5, [.ref q_1, .ref q_2, .ref q_3, .ref q_4, .ref q_5, .null, .int 0]))]) [0] (by decide) rfl
  refine lv_aload_n hx hb dX5_init_49 rfl (lv_at hl 0 rfl) ?_
  refine lv_sipush (v := 404) hx hb dX5_init_50 (by decide) ?_
  refine va_newaT (atype := .long) (ty := .long) (a0 := (404, .inr (.inl (fun _ => 0)))) hx hb (hg (Cond.arrayClass .long) m294) rfl ra_long hK hP hD hS hA 2 rfl (fun _ => rfl) (by decide) (by decide) (Nat.le_of_ble_eq_true rfl) (Nat.le_of_ble_eq_true rfl) (Nat.le_of_ble_eq_true rfl) dX5_init_53 (fun q_6 H hP hD hS => ?_)
  have hP : va_P D classes [(h0, .inr (5, [.ref q_1, .ref q_2, .ref q_3, .ref q_4, .ref q_5, .null, .int 0])), (q_6, .inl (k.2.2.1, 404, .inr (.inl (fun _ => 0))))] H := hP
  have hD : va_D A [(h0, .inr (5, [.ref q_1, .ref q_2, .ref q_3, .ref q_4, .ref q_5, .null, .int 0])), (q_6, .inl (k.2.2.1, 404, .inr (.inl (fun _ => 0))))] := hD
  refine W.widen (k := 6) (n := 2424) (Nat.le_of_ble_eq_true rfl) (Nat.le_of_ble_eq_true rfl) ?_
  refine va_putF (D := D) (ci := 5) (v := .ref q_6) (ty := (.array .long)) (C := RX5) (T := TX5) (N := 7) hx hb hg iX5 tyX5 tyX5_ok nmX5 hown hK hP hD hS 0 rfl rfl 5 (by decide) (hg (Cond.fieldLink RX5 27 "SlabWalk$Odds" "aims" "[J") m469) (fun _ h9 => h9) rfl hin rfl (by decide +kernel) rfl rfl (Nat.le_of_ble_eq_true rfl) dX5_init_55 (fun H locs hP hD hS => ?_)
  have hP : va_P D classes [(h0, .inr (5, [.ref q_1, .ref q_2, .ref q_3, .ref q_4, .ref q_5, .ref q_6, .int 0])), (q_6, .inl (k.2.2.1, 404, .inr (.inl (fun _ => 0))))] H := hP
  have hD : va_D A [(h0, .inr (5, [.ref q_1, .ref q_2, .ref q_3, .ref q_4, .ref q_5, .ref q_6, .int 0])), (q_6, .inl (k.2.2.1, 404, .inr (.inl (fun _ => 0))))] := hD
  have hP := hP.sub (ws' := [(h0, .inr (5, [.ref q_1, .ref q_2, .ref q_3, .ref q_4, .ref q_5, .ref q_6, .int 0]))]) [0] rfl
  have hD := hD.sub (ws' := [(h0, .inr (5, [.ref q_1, .ref q_2, .ref q_3, .ref q_4, .ref q_5, .ref q_6, .int 0]))]) [0] (by decide) rfl
  have hP9 := hP.sub (ws' := []) [] rfl
  have hD9 := hD.sub (ws' := []) [] (by decide) rfl
  exact W.vret hx hb hr (fun t ht hW => ⟨⟨(), rfl, trivial, cB_of ht hP9 hD9⟩, hS.F ht⟩) hS.2.2 dX5_init_58

set_option maxHeartbeats 4000000 in
set_option maxRecDepth 100000 in
theorem c_X1_init (l : Launch) (D : va_G) (k : ClassId × ClassId × ClassId × ClassId) (sz : Nat) (h0 : Nat)  : Met l yX1_init (WS yX1_init cX1_init 1 none) ({ frames := 1, cells := 3, slots := 450, locals := 12 }) (va_Pc [.ref h0] (cP D k [(h0, .inr (1, [.null, .null, .null, .int 0, .int 0, .int 0]))] sz)) (va_Qv (fun _ : Unit => True) (fun (_ : Unit) t => ∃ (E : List Value), ∃ (nw : Nat), ∃ (kp : Nat), ∃ (bx : Nat), ∃ (f1 : Nat → Int32), ∃ (f2 : Nat → Int32), ∃ (f3 : Nat → Int32), E[0]? = some (.ref nw) ∧ E[1]? = some (.ref kp) ∧ E[2]? = some (.ref bx) ∧ E[3]? = some (.int 0) ∧ E[4]? = some (.int 0) ∧ E[5]? = some (.int 0) ∧ cB D (va_A [(h0, .inr (1, [.null, .null, .null, .int 0, .int 0, .int 0]))] sz) [(h0, .inr (1, E)), (nw, .inl (k.2.1, 10, .inl f1)), (kp, .inl (k.2.1, 410, .inl f2)), (bx, .inl (k.2.1, 30, .inl f3))] t) (va_A [(h0, .inr (1, [.null, .null, .null, .int 0, .int 0, .int 0]))] sz)) 3 450 (va_A [(h0, .inr (1, [.null, .null, .null, .int 0, .int 0, .int 0]))] sz) := by
  refine Met.ofW (cc := cX1_init) (maxL := 1) (ret := none) (by decide) rfl ?_
  intro p e s m args below meth c s₁ B hml hv
  obtain ⟨rfl, hsz, hP, hKX, hD0⟩ := hv
  have hK := hKX.1
  have hx := B.exec
  have hb := B.bytes
  have hr := B.returns
  have hts := atoms_spec (ws := WS yX1_init cX1_init 1 none) B.pre
  have hgd : ∀ w ∈ gd, w ∈ WS yX1_init cX1_init 1 none := fun w h => List.mem_cons_of_mem _ h
  have hg : ∀ w ∈ gd, w.before _ s = true := fun w h => hts w (hgd w h)
  have hown : s.vm.findClass RX1 = some m.cls := findClass_of_methodNamed B.named
  have hlocks := B.notSynchronized
  have hin : meth.name = "<init>" := (name_of_methodNamed B.named B.method).1
  subst hsz
  have hD := hD0.self (sz := s.heap.size)
  generalize hAe : va_A [(h0, .inr (1, [.null, .null, .null, .int 0, .int 0, .int 0]))] s.heap.size = A at hD ⊢
  have hA : ∀ q : Nat, s.heap.size ≤ q → A q := fun q h => by rw [← hAe]; exact Or.inr h
  have hS : va_S A s.heap s.heap [] := va_S.rf
  have hP : va_P D classes [(h0, .inr (1, [.null, .null, .null, .int 0, .int 0, .int 0]))] s.heap := hP
  have hl := lv_entry ([.ref h0]) (n := 1) (Nat.le_of_ble_eq_true rfl)
  rw [lg_entry_eq]
  generalize (lg_sl ([.ref h0]) ++ List.replicate (1 - (lg_sl ([.ref h0])).length) Slot.unset).toArray = ls at hl ⊢
  have hl : lv_has ls 1 [(0, .ref h0)] := hl
  refine lv_aload_n hx hb dX1_init_0 rfl (lv_at hl 0 rfl) ?_
  refine W.objInit hx hb hown (hg (Cond.methodLink RX1 3 objectInit) m491) (hg (Cond.instanceMethod objectInit) m144) (hg (Cond.code objectInit ⟨#[0xb1]⟩ 1 none) m145) rfl (by rw [hml]; exact hl.1) rfl dX1_init_1 (Nat.le_of_ble_eq_true rfl) (Nat.le_of_ble_eq_true rfl) ?_
  refine W.eq (g2 := F0 m 4 ls []) rfl ?_
  refine lv_aload_n hx hb dX1_init_4 rfl (lv_at hl 0 rfl) ?_
  refine lv_bipush (v := 10) hx hb dX1_init_5 (by decide) ?_
  refine va_newaT (atype := .int) (ty := .int) (a0 := (10, .inl (fun _ => 0))) hx hb (hg (Cond.arrayClass .int) m245) rfl ra_int hK hP hD hS hA 1 rfl (fun _ => rfl) (by decide) (by decide) (Nat.le_of_ble_eq_true rfl) (Nat.le_of_ble_eq_true rfl) (Nat.le_of_ble_eq_true rfl) dX1_init_7 (fun q_1 H hP hD hS => ?_)
  have hP : va_P D classes [(h0, .inr (1, [.null, .null, .null, .int 0, .int 0, .int 0])), (q_1, .inl (k.2.1, 10, .inl (fun _ => 0)))] H := hP
  have hD : va_D A [(h0, .inr (1, [.null, .null, .null, .int 0, .int 0, .int 0])), (q_1, .inl (k.2.1, 10, .inl (fun _ => 0)))] := hD
  refine W.widen (k := 1) (n := 10) (Nat.le_of_ble_eq_true rfl) (Nat.le_of_ble_eq_true rfl) ?_
  refine va_putF (D := D) (ci := 1) (v := .ref q_1) (ty := (.array .int)) (C := RX1) (T := TX1) (N := 6) hx hb hg iX1 tyX1 tyX1_ok nmX1 hown hK hP hD hS 0 rfl rfl 0 (by decide) (hg (Cond.fieldLink RX1 11 "SlabWalk$Earnest" "now" "[I") m492) (fun _ h9 => h9) rfl hin rfl (by decide +kernel) rfl rfl (Nat.le_of_ble_eq_true rfl) dX1_init_9 (fun H locs hP hD hS => ?_)
  have hP : va_P D classes [(h0, .inr (1, [.ref q_1, .null, .null, .int 0, .int 0, .int 0])), (q_1, .inl (k.2.1, 10, .inl (fun _ => 0)))] H := hP
  have hD : va_D A [(h0, .inr (1, [.ref q_1, .null, .null, .int 0, .int 0, .int 0])), (q_1, .inl (k.2.1, 10, .inl (fun _ => 0)))] := hD
  refine lv_aload_n hx hb dX1_init_12 rfl (lv_at hl 0 rfl) ?_
  refine lv_sipush (v := 410) hx hb dX1_init_13 (by decide) ?_
  refine va_newaT (atype := .int) (ty := .int) (a0 := (410, .inl (fun _ => 0))) hx hb (hg (Cond.arrayClass .int) m245) rfl ra_int hK hP hD hS hA 1 rfl (fun _ => rfl) (by decide) (by decide) (Nat.le_of_ble_eq_true rfl) (Nat.le_of_ble_eq_true rfl) (Nat.le_of_ble_eq_true rfl) dX1_init_16 (fun q_2 H hP hD hS => ?_)
  have hP : va_P D classes [(h0, .inr (1, [.ref q_1, .null, .null, .int 0, .int 0, .int 0])), (q_1, .inl (k.2.1, 10, .inl (fun _ => 0))), (q_2, .inl (k.2.1, 410, .inl (fun _ => 0)))] H := hP
  have hD : va_D A [(h0, .inr (1, [.ref q_1, .null, .null, .int 0, .int 0, .int 0])), (q_1, .inl (k.2.1, 10, .inl (fun _ => 0))), (q_2, .inl (k.2.1, 410, .inl (fun _ => 0)))] := hD
  refine W.widen (k := 2) (n := 420) (Nat.le_of_ble_eq_true rfl) (Nat.le_of_ble_eq_true rfl) ?_
  refine va_putF (D := D) (ci := 1) (v := .ref q_2) (ty := (.array .int)) (C := RX1) (T := TX1) (N := 6) hx hb hg iX1 tyX1 tyX1_ok nmX1 hown hK hP hD hS 0 rfl rfl 1 (by decide) (hg (Cond.fieldLink RX1 15 "SlabWalk$Earnest" "kept" "[I") m494) (fun _ h9 => h9) rfl hin rfl (by decide +kernel) rfl rfl (Nat.le_of_ble_eq_true rfl) dX1_init_18 (fun H locs hP hD hS => ?_)
  have hP : va_P D classes [(h0, .inr (1, [.ref q_1, .ref q_2, .null, .int 0, .int 0, .int 0])), (q_1, .inl (k.2.1, 10, .inl (fun _ => 0))), (q_2, .inl (k.2.1, 410, .inl (fun _ => 0)))] H := hP
  have hD : va_D A [(h0, .inr (1, [.ref q_1, .ref q_2, .null, .int 0, .int 0, .int 0])), (q_1, .inl (k.2.1, 10, .inl (fun _ => 0))), (q_2, .inl (k.2.1, 410, .inl (fun _ => 0)))] := hD
  refine lv_aload_n hx hb dX1_init_21 rfl (lv_at hl 0 rfl) ?_
  refine lv_bipush (v := 30) hx hb dX1_init_22 (by decide) ?_
  refine va_newaT (atype := .int) (ty := .int) (a0 := (30, .inl (fun _ => 0))) hx hb (hg (Cond.arrayClass .int) m245) rfl ra_int hK hP hD hS hA 1 rfl (fun _ => rfl) (by decide) (by decide) (Nat.le_of_ble_eq_true rfl) (Nat.le_of_ble_eq_true rfl) (Nat.le_of_ble_eq_true rfl) dX1_init_24 (fun q_3 H hP hD hS => ?_)
  have hP : va_P D classes [(h0, .inr (1, [.ref q_1, .ref q_2, .null, .int 0, .int 0, .int 0])), (q_1, .inl (k.2.1, 10, .inl (fun _ => 0))), (q_2, .inl (k.2.1, 410, .inl (fun _ => 0))), (q_3, .inl (k.2.1, 30, .inl (fun _ => 0)))] H := hP
  have hD : va_D A [(h0, .inr (1, [.ref q_1, .ref q_2, .null, .int 0, .int 0, .int 0])), (q_1, .inl (k.2.1, 10, .inl (fun _ => 0))), (q_2, .inl (k.2.1, 410, .inl (fun _ => 0))), (q_3, .inl (k.2.1, 30, .inl (fun _ => 0)))] := hD
  refine W.widen (k := 3) (n := 450) (Nat.le_of_ble_eq_true rfl) (Nat.le_of_ble_eq_true rfl) ?_
  refine va_putF (D := D) (ci := 1) (v := .ref q_3) (ty := (.array .int)) (C := RX1) (T := TX1) (N := 6) hx hb hg iX1 tyX1 tyX1_ok nmX1 hown hK hP hD hS 0 rfl rfl 2 (by decide) (hg (Cond.fieldLink RX1 18 "SlabWalk$Earnest" "boxes" "[I") m495) (fun _ h9 => h9) rfl hin rfl (by decide +kernel) rfl rfl (Nat.le_of_ble_eq_true rfl) dX1_init_26 (fun H locs hP hD hS => ?_)
  have hP : va_P D classes [(h0, .inr (1, [.ref q_1, .ref q_2, .ref q_3, .int 0, .int 0, .int 0])), (q_1, .inl (k.2.1, 10, .inl (fun _ => 0))), (q_2, .inl (k.2.1, 410, .inl (fun _ => 0))), (q_3, .inl (k.2.1, 30, .inl (fun _ => 0)))] H := hP
  have hD : va_D A [(h0, .inr (1, [.ref q_1, .ref q_2, .ref q_3, .int 0, .int 0, .int 0])), (q_1, .inl (k.2.1, 10, .inl (fun _ => 0))), (q_2, .inl (k.2.1, 410, .inl (fun _ => 0))), (q_3, .inl (k.2.1, 30, .inl (fun _ => 0)))] := hD
  have hP9 := hP.sub (ws' := [(h0, .inr (1, [.ref q_1, .ref q_2, .ref q_3, .int 0, .int 0, .int 0])), (q_1, .inl (k.2.1, 10, .inl (fun _ => 0))), (q_2, .inl (k.2.1, 410, .inl (fun _ => 0))), (q_3, .inl (k.2.1, 30, .inl (fun _ => 0)))]) [0, 1, 2, 3] rfl
  have hD9 := hD.sub (ws' := [(h0, .inr (1, [.ref q_1, .ref q_2, .ref q_3, .int 0, .int 0, .int 0])), (q_1, .inl (k.2.1, 10, .inl (fun _ => 0))), (q_2, .inl (k.2.1, 410, .inl (fun _ => 0))), (q_3, .inl (k.2.1, 30, .inl (fun _ => 0)))]) [0, 1, 2, 3] (by decide) rfl
  exact W.vret hx hb hr (fun t ht hW => ⟨⟨(), rfl, trivial, ⟨[.ref q_1, .ref q_2, .ref q_3, .int 0, .int 0, .int 0], q_1, q_2, q_3, (fun _ => 0), (fun _ => 0), (fun _ => 0), rfl, rfl, rfl, rfl, rfl, rfl, cB_of ht hP9 hD9⟩⟩, hS.F ht⟩) hS.2.2 dX1_init_29

set_option maxHeartbeats 4000000 in
set_option maxRecDepth 100000 in
theorem c_X8_init (l : Launch) (D : va_G) (k : ClassId × ClassId × ClassId × ClassId) (sz : Nat) (h0 : Nat)  : Met l yX8_init (WS yX8_init cX8_init 1 none) ({ frames := 1, cells := 5, slots := 100, locals := 12 }) (va_Pc [.ref h0] (cP D k [(h0, .inr (8, [.null, .null, .null, .null, .null, .int 0, .int 0]))] sz)) (va_Qv (fun _ : Unit => True) (fun (_ : Unit) t => ∃ (E : List Value), E[5]? = some (.int 0) ∧ E[6]? = some (.int 0) ∧ cB D (va_A [(h0, .inr (8, [.null, .null, .null, .null, .null, .int 0, .int 0]))] sz) [(h0, .inr (8, E))] t) (va_A [(h0, .inr (8, [.null, .null, .null, .null, .null, .int 0, .int 0]))] sz)) 5 100 (va_A [(h0, .inr (8, [.null, .null, .null, .null, .null, .int 0, .int 0]))] sz) := by
  refine Met.ofW (cc := cX8_init) (maxL := 1) (ret := none) (by decide) rfl ?_
  intro p e s m args below meth c s₁ B hml hv
  obtain ⟨rfl, hsz, hP, hKX, hD0⟩ := hv
  have hK := hKX.1
  have hx := B.exec
  have hb := B.bytes
  have hr := B.returns
  have hts := atoms_spec (ws := WS yX8_init cX8_init 1 none) B.pre
  have hgd : ∀ w ∈ gd, w ∈ WS yX8_init cX8_init 1 none := fun w h => List.mem_cons_of_mem _ h
  have hg : ∀ w ∈ gd, w.before _ s = true := fun w h => hts w (hgd w h)
  have hown : s.vm.findClass RX8 = some m.cls := findClass_of_methodNamed B.named
  have hlocks := B.notSynchronized
  have hin : meth.name = "<init>" := (name_of_methodNamed B.named B.method).1
  subst hsz
  have hD := hD0.self (sz := s.heap.size)
  generalize hAe : va_A [(h0, .inr (8, [.null, .null, .null, .null, .null, .int 0, .int 0]))] s.heap.size = A at hD ⊢
  have hA : ∀ q : Nat, s.heap.size ≤ q → A q := fun q h => by rw [← hAe]; exact Or.inr h
  have hS : va_S A s.heap s.heap [] := va_S.rf
  have hP : va_P D classes [(h0, .inr (8, [.null, .null, .null, .null, .null, .int 0, .int 0]))] s.heap := hP
  have hl := lv_entry ([.ref h0]) (n := 1) (Nat.le_of_ble_eq_true rfl)
  rw [lg_entry_eq]
  generalize (lg_sl ([.ref h0]) ++ List.replicate (1 - (lg_sl ([.ref h0])).length) Slot.unset).toArray = ls at hl ⊢
  have hl : lv_has ls 1 [(0, .ref h0)] := hl
  refine lv_aload_n hx hb dX8_init_0 rfl (lv_at hl 0 rfl) ?_
  refine W.objInit hx hb hown (hg (Cond.methodLink RX8 3 objectInit) m519) (hg (Cond.instanceMethod objectInit) m144) (hg (Cond.code objectInit ⟨#[0xb1]⟩ 1 none) m145) rfl (by rw [hml]; exact hl.1) rfl dX8_init_1 (Nat.le_of_ble_eq_true rfl) (Nat.le_of_ble_eq_true rfl) ?_
  refine W.eq (g2 := F0 m 4 ls []) rfl ?_
  refine lv_aload_n hx hb dX8_init_4 rfl (lv_at hl 0 rfl) ?_
  refine lv_bipush (v := 20) hx hb dX8_init_5 (by decide) ?_
  refine va_newaT (atype := .int) (ty := .int) (a0 := (20, .inl (fun _ => 0))) hx hb (hg (Cond.arrayClass .int) m245) rfl ra_int hK hP hD hS hA 1 rfl (fun _ => rfl) (by decide) (by decide) (Nat.le_of_ble_eq_true rfl) (Nat.le_of_ble_eq_true rfl) (Nat.le_of_ble_eq_true rfl) dX8_init_7 (fun q_1 H hP hD hS => ?_)
  have hP : va_P D classes [(h0, .inr (8, [.null, .null, .null, .null, .null, .int 0, .int 0])), (q_1, .inl (k.2.1, 20, .inl (fun _ => 0)))] H := hP
  have hD : va_D A [(h0, .inr (8, [.null, .null, .null, .null, .null, .int 0, .int 0])), (q_1, .inl (k.2.1, 20, .inl (fun _ => 0)))] := hD
  refine W.widen (k := 1) (n := 20) (Nat.le_of_ble_eq_true rfl) (Nat.le_of_ble_eq_true rfl) ?_
  refine va_putF (D := D) (ci := 8) (v := .ref q_1) (ty := (.array .int)) (C := RX8) (T := TX8) (N := 7) hx hb hg iX8 tyX8 tyX8_ok nmX8 hown hK hP hD hS 0 rfl rfl 0 (by decide) (hg (Cond.fieldLink RX8 11 "SlabWalk$Sights" "walker" "[I") m520) (fun _ h9 => h9) rfl hin rfl (by decide +kernel) rfl rfl (Nat.le_of_ble_eq_true rfl) dX8_init_9 (fun H locs hP hD hS => ?_)
  have hP : va_P D classes [(h0, .inr (8, [.ref q_1, .null, .null, .null, .null, .int 0, .int 0])), (q_1, .inl (k.2.1, 20, .inl (fun _ => 0)))] H := hP
  have hD : va_D A [(h0, .inr (8, [.ref q_1, .null, .null, .null, .null, .int 0, .int 0])), (q_1, .inl (k.2.1, 20, .inl (fun _ => 0)))] := hD
  have hP := hP.sub (ws' := [(h0, .inr (8, [.ref q_1, .null, .null, .null, .null, .int 0, .int 0]))]) [0] rfl
  have hD := hD.sub (ws' := [(h0, .inr (8, [.ref q_1, .null, .null, .null, .null, .int 0, .int 0]))]) [0] (by decide) rfl
  refine lv_aload_n hx hb dX8_init_12 rfl (lv_at hl 0 rfl) ?_
  refine lv_bipush (v := 20) hx hb dX8_init_13 (by decide) ?_
  refine va_newaT (atype := .int) (ty := .int) (a0 := (20, .inl (fun _ => 0))) hx hb (hg (Cond.arrayClass .int) m245) rfl ra_int hK hP hD hS hA 1 rfl (fun _ => rfl) (by decide) (by decide) (Nat.le_of_ble_eq_true rfl) (Nat.le_of_ble_eq_true rfl) (Nat.le_of_ble_eq_true rfl) dX8_init_15 (fun q_2 H hP hD hS => ?_)
  have hP : va_P D classes [(h0, .inr (8, [.ref q_1, .null, .null, .null, .null, .int 0, .int 0])), (q_2, .inl (k.2.1, 20, .inl (fun _ => 0)))] H := hP
  have hD : va_D A [(h0, .inr (8, [.ref q_1, .null, .null, .null, .null, .int 0, .int 0])), (q_2, .inl (k.2.1, 20, .inl (fun _ => 0)))] := hD
  refine W.widen (k := 2) (n := 40) (Nat.le_of_ble_eq_true rfl) (Nat.le_of_ble_eq_true rfl) ?_
  refine va_putF (D := D) (ci := 8) (v := .ref q_2) (ty := (.array .int)) (C := RX8) (T := TX8) (N := 7) hx hb hg iX8 tyX8 tyX8_ok nmX8 hown hK hP hD hS 0 rfl rfl 1 (by decide) (hg (Cond.fieldLink RX8 15 "SlabWalk$Sights" "street" "[I") m522) (fun _ h9 => h9) rfl hin rfl (by decide +kernel) rfl rfl (Nat.le_of_ble_eq_true rfl) dX8_init_17 (fun H locs hP hD hS => ?_)
  have hP : va_P D classes [(h0, .inr (8, [.ref q_1, .ref q_2, .null, .null, .null, .int 0, .int 0])), (q_2, .inl (k.2.1, 20, .inl (fun _ => 0)))] H := hP
  have hD : va_D A [(h0, .inr (8, [.ref q_1, .ref q_2, .null, .null, .null, .int 0, .int 0])), (q_2, .inl (k.2.1, 20, .inl (fun _ => 0)))] := hD
  have hP := hP.sub (ws' := [(h0, .inr (8, [.ref q_1, .ref q_2, .null, .null, .null, .int 0, .int 0]))]) [0] rfl
  have hD := hD.sub (ws' := [(h0, .inr (8, [.ref q_1, .ref q_2, .null, .null, .null, .int 0, .int 0]))]) [0] (by decide) rfl
  refine lv_aload_n hx hb dX8_init_20 rfl (lv_at hl 0 rfl) ?_
  refine lv_bipush (v := 20) hx hb dX8_init_21 (by decide) ?_
  refine va_newaT (atype := .int) (ty := .int) (a0 := (20, .inl (fun _ => 0))) hx hb (hg (Cond.arrayClass .int) m245) rfl ra_int hK hP hD hS hA 1 rfl (fun _ => rfl) (by decide) (by decide) (Nat.le_of_ble_eq_true rfl) (Nat.le_of_ble_eq_true rfl) (Nat.le_of_ble_eq_true rfl) dX8_init_23 (fun q_3 H hP hD hS => ?_)
  have hP : va_P D classes [(h0, .inr (8, [.ref q_1, .ref q_2, .null, .null, .null, .int 0, .int 0])), (q_3, .inl (k.2.1, 20, .inl (fun _ => 0)))] H := hP
  have hD : va_D A [(h0, .inr (8, [.ref q_1, .ref q_2, .null, .null, .null, .int 0, .int 0])), (q_3, .inl (k.2.1, 20, .inl (fun _ => 0)))] := hD
  refine W.widen (k := 3) (n := 60) (Nat.le_of_ble_eq_true rfl) (Nat.le_of_ble_eq_true rfl) ?_
  refine va_putF (D := D) (ci := 8) (v := .ref q_3) (ty := (.array .int)) (C := RX8) (T := TX8) (N := 7) hx hb hg iX8 tyX8 tyX8_ok nmX8 hown hK hP hD hS 0 rfl rfl 2 (by decide) (hg (Cond.fieldLink RX8 18 "SlabWalk$Sights" "heel" "[I") m524) (fun _ h9 => h9) rfl hin rfl (by decide +kernel) rfl rfl (Nat.le_of_ble_eq_true rfl) dX8_init_25 (fun H locs hP hD hS => ?_)
  have hP : va_P D classes [(h0, .inr (8, [.ref q_1, .ref q_2, .ref q_3, .null, .null, .int 0, .int 0])), (q_3, .inl (k.2.1, 20, .inl (fun _ => 0)))] H := hP
  have hD : va_D A [(h0, .inr (8, [.ref q_1, .ref q_2, .ref q_3, .null, .null, .int 0, .int 0])), (q_3, .inl (k.2.1, 20, .inl (fun _ => 0)))] := hD
  have hP := hP.sub (ws' := [(h0, .inr (8, [.ref q_1, .ref q_2, .ref q_3, .null, .null, .int 0, .int 0]))]) [0] rfl
  have hD := hD.sub (ws' := [(h0, .inr (8, [.ref q_1, .ref q_2, .ref q_3, .null, .null, .int 0, .int 0]))]) [0] (by decide) rfl
  refine lv_aload_n hx hb dX8_init_28 rfl (lv_at hl 0 rfl) ?_
  refine lv_bipush (v := 20) hx hb dX8_init_29 (by decide) ?_
  refine va_newaT (atype := .int) (ty := .int) (a0 := (20, .inl (fun _ => 0))) hx hb (hg (Cond.arrayClass .int) m245) rfl ra_int hK hP hD hS hA 1 rfl (fun _ => rfl) (by decide) (by decide) (Nat.le_of_ble_eq_true rfl) (Nat.le_of_ble_eq_true rfl) (Nat.le_of_ble_eq_true rfl) dX8_init_31 (fun q_4 H hP hD hS => ?_)
  have hP : va_P D classes [(h0, .inr (8, [.ref q_1, .ref q_2, .ref q_3, .null, .null, .int 0, .int 0])), (q_4, .inl (k.2.1, 20, .inl (fun _ => 0)))] H := hP
  have hD : va_D A [(h0, .inr (8, [.ref q_1, .ref q_2, .ref q_3, .null, .null, .int 0, .int 0])), (q_4, .inl (k.2.1, 20, .inl (fun _ => 0)))] := hD
  refine W.widen (k := 4) (n := 80) (Nat.le_of_ble_eq_true rfl) (Nat.le_of_ble_eq_true rfl) ?_
  refine va_putF (D := D) (ci := 8) (v := .ref q_4) (ty := (.array .int)) (C := RX8) (T := TX8) (N := 7) hx hb hg iX8 tyX8 tyX8_ok nmX8 hown hK hP hD hS 0 rfl rfl 3 (by decide) (hg (Cond.fieldLink RX8 21 "SlabWalk$Sights" "told" "[I") m526) (fun _ h9 => h9) rfl hin rfl (by decide +kernel) rfl rfl (Nat.le_of_ble_eq_true rfl) dX8_init_33 (fun H locs hP hD hS => ?_)
  have hP : va_P D classes [(h0, .inr (8, [.ref q_1, .ref q_2, .ref q_3, .ref q_4, .null, .int 0, .int 0])), (q_4, .inl (k.2.1, 20, .inl (fun _ => 0)))] H := hP
  have hD : va_D A [(h0, .inr (8, [.ref q_1, .ref q_2, .ref q_3, .ref q_4, .null, .int 0, .int 0])), (q_4, .inl (k.2.1, 20, .inl (fun _ => 0)))] := hD
  have hP := hP.sub (ws' := [(h0, .inr (8, [.ref q_1, .ref q_2, .ref q_3, .ref q_4, .null, .int 0, .int 0]))]) [0] rfl
  have hD := hD.sub (ws' := [(h0, .inr (8, [.ref q_1, .ref q_2, .ref q_3, .ref q_4, .null, .int 0, .int 0]))]) [0] (by decide) rfl
  refine lv_aload_n hx hb dX8_init_36 rfl (lv_at hl 0 rfl) ?_
  refine lv_bipush (v := 20) hx hb dX8_init_37 (by decide) ?_
  refine va_newaT (atype := .int) (ty := .int) (a0 := (20, .inl (fun _ => 0))) hx hb (hg (Cond.arrayClass .int) m245) rfl ra_int hK hP hD hS hA 1 rfl (fun _ => rfl) (by decide) (by decide) (Nat.le_of_ble_eq_true rfl) (Nat.le_of_ble_eq_true rfl) (Nat.le_of_ble_eq_true rfl) dX8_init_39 (fun q_5 H hP hD hS => ?_)
  have hP : va_P D classes [(h0, .inr (8, [.ref q_1, .ref q_2, .ref q_3, .ref q_4, .null, .int 0, .int 0])), (q_5, .inl (k.2.1, 20, .inl (fun _ => 0)))] H := hP
  have hD : va_D A [(h0, .inr (8, [.ref q_1, .ref q_2, .ref q_3, .ref q_4, .null, .int 0, .int 0])), (q_5, .inl (k.2.1, 20, .inl (fun _ => 0)))] := hD
  refine W.widen (k := 5) (n := 100) (Nat.le_of_ble_eq_true rfl) (Nat.le_of_ble_eq_true rfl) ?_
  refine va_putF (D := D) (ci := 8) (v := .ref q_5) (ty := (.array .int)) (C := RX8) (T := TX8) (N := 7) hx hb hg iX8 tyX8 tyX8_ok nmX8 hown hK hP hD hS 0 rfl rfl 4 (by decide) (hg (Cond.fieldLink RX8 24 "SlabWalk$Sights" "untold" "[I") m527) (fun _ h9 => h9) rfl hin rfl (by decide +kernel) rfl rfl (Nat.le_of_ble_eq_true rfl) dX8_init_41 (fun H locs hP hD hS => ?_)
  have hP : va_P D classes [(h0, .inr (8, [.ref q_1, .ref q_2, .ref q_3, .ref q_4, .ref q_5, .int 0, .int 0])), (q_5, .inl (k.2.1, 20, .inl (fun _ => 0)))] H := hP
  have hD : va_D A [(h0, .inr (8, [.ref q_1, .ref q_2, .ref q_3, .ref q_4, .ref q_5, .int 0, .int 0])), (q_5, .inl (k.2.1, 20, .inl (fun _ => 0)))] := hD
  have hP := hP.sub (ws' := [(h0, .inr (8, [.ref q_1, .ref q_2, .ref q_3, .ref q_4, .ref q_5, .int 0, .int 0]))]) [0] rfl
  have hD := hD.sub (ws' := [(h0, .inr (8, [.ref q_1, .ref q_2, .ref q_3, .ref q_4, .ref q_5, .int 0, .int 0]))]) [0] (by decide) rfl
  have hP9 := hP.sub (ws' := [(h0, .inr (8, [.ref q_1, .ref q_2, .ref q_3, .ref q_4, .ref q_5, .int 0, .int 0]))]) [0] rfl
  have hD9 := hD.sub (ws' := [(h0, .inr (8, [.ref q_1, .ref q_2, .ref q_3, .ref q_4, .ref q_5, .int 0, .int 0]))]) [0] (by decide) rfl
  exact W.vret hx hb hr (fun t ht hW => ⟨⟨(), rfl, trivial, ⟨[.ref q_1, .ref q_2, .ref q_3, .ref q_4, .ref q_5, .int 0, .int 0], rfl, rfl, cB_of ht hP9 hD9⟩⟩, hS.F ht⟩) hS.2.2 dX8_init_44
end
section
set_option maxHeartbeats 4000000 in
set_option maxRecDepth 100000 in
theorem c_X1_forgetActs (l : Launch) (D : va_G) (k : ClassId × ClassId × ClassId × ClassId) (sz : Nat) (h0 nw kp bx : Nat) (E : List Value) (f1 : Nat → Int32) (f2 : Nat → Int32) (a1 a2 a3 : Int32) (g_E_now : E[0]? = some (.ref nw)) (g_E_kept : E[1]? = some (.ref kp)) (g_E_boxes : E[2]? = some (.ref bx)) (g_E_full : E[3]? = some (.int a1)) (g_E_done : E[4]? = some (.int a2)) (g_E_undone : E[5]? = some (.int a3)) : Met l yX1_forgetActs (WS yX1_forgetActs cX1_forgetActs 1 none) ({ frames := 1, cells := 0, slots := 0, locals := 40 }) (va_Pc [.ref h0] (cP D k [(h0, .inr (1, E)), (nw, .inl (k.2.1, 10, .inl f1)), (kp, .inl (k.2.1, 410, .inl f2))] sz)) (va_Qv (fun _ : Unit => True) (fun (_ : Unit) t => ∃ (E2 : List Value), ∃ (f3 : Nat → Int32), E2[0]? = some (.ref nw) ∧ E2[1]? = some (.ref kp) ∧ E2[2]? = some (.ref bx) ∧ E2[3]? = some (.int a1) ∧ E2[4]? = some (.int 0) ∧ E2[5]? = some (.int 0) ∧ cB D (va_A [(h0, .inr (1, E)), (nw, .inl (k.2.1, 10, .inl f1)), (kp, .inl (k.2.1, 410, .inl f2))] sz) [(h0, .inr (1, E2)), (nw, .inl (k.2.1, 10, .inl f1)), (kp, .inl (k.2.1, 410, .inl f3))] t) (va_A [(h0, .inr (1, E)), (nw, .inl (k.2.1, 10, .inl f1)), (kp, .inl (k.2.1, 410, .inl f2))] sz)) 0 0 (va_A [(h0, .inr (1, E)), (nw, .inl (k.2.1, 10, .inl f1)), (kp, .inl (k.2.1, 410, .inl f2))] sz) := by
  refine Met.ofW (cc := cX1_forgetActs) (maxL := 1) (ret := none) (by decide) rfl ?_
  intro p e s m args below meth c s₁ B hml hv
  obtain ⟨rfl, hsz, hP, hKX, hD0⟩ := hv
  have hK := hKX.1
  have hx := B.exec
  have hb := B.bytes
  have hr := B.returns
  have hts := atoms_spec (ws := WS yX1_forgetActs cX1_forgetActs 1 none) B.pre
  have hgd : ∀ w ∈ gd, w ∈ WS yX1_forgetActs cX1_forgetActs 1 none := fun w h => List.mem_cons_of_mem _ h
  have hg : ∀ w ∈ gd, w.before _ s = true := fun w h => hts w (hgd w h)
  have hown : s.vm.findClass RX1 = some m.cls := findClass_of_methodNamed B.named
  have hlocks := B.notSynchronized
  subst hsz
  have hD := hD0.self (sz := s.heap.size)
  generalize hAe : va_A [(h0, .inr (1, E)), (nw, .inl (k.2.1, 10, .inl f1)), (kp, .inl (k.2.1, 410, .inl f2))] s.heap.size = A at hD ⊢
  have hA : ∀ q : Nat, s.heap.size ≤ q → A q := fun q h => by rw [← hAe]; exact Or.inr h
  have hS : va_S A s.heap s.heap [] := va_S.rf
  have hP : va_P D classes [(h0, .inr (1, E)), (nw, .inl (k.2.1, 10, .inl f1)), (kp, .inl (k.2.1, 410, .inl f2))] s.heap := hP
  have hl := lv_entry ([.ref h0]) (n := 1) (Nat.le_of_ble_eq_true rfl)
  rw [lg_entry_eq]
  generalize (lg_sl ([.ref h0]) ++ List.replicate (1 - (lg_sl ([.ref h0])).length) Slot.unset).toArray = ls at hl ⊢
  have hl : lv_has ls 1 [(0, .ref h0)] := hl
  refine lv_aload_n hx hb dX1_forgetActs_0 rfl (lv_at hl 0 rfl) ?_
  refine lv_iconst (v := 0) hx hb dX1_forgetActs_1 (by decide) ?_
  refine va_put (D := D) (ci := 1) (v := .int 0) (ty := .int) (C := RX1) (T := TX1) (N := 6) hx hb hg iX1 tyX1 tyX1_ok nmX1 hown hK hP hD hS 0 rfl rfl 4 (by decide) (hg (Cond.fieldLink RX1 34 "SlabWalk$Earnest" "done" "I") m497) (fun _ h9 => h9) rfl (by decide +kernel) rfl rfl (fs_lt g_E_done) dX1_forgetActs_2 (fun H locs hP hD hS => ?_)
  have hP : va_P D classes [(h0, .inr (1, (E.set 4 (.int 0)))), (nw, .inl (k.2.1, 10, .inl f1)), (kp, .inl (k.2.1, 410, .inl f2))] H := hP
  have hD : va_D A [(h0, .inr (1, (E.set 4 (.int 0)))), (nw, .inl (k.2.1, 10, .inl f1)), (kp, .inl (k.2.1, 410, .inl f2))] := hD
  refine lv_aload_n hx hb dX1_forgetActs_5 rfl (lv_at hl 0 rfl) ?_
  refine lv_iconst (v := 0) hx hb dX1_forgetActs_6 (by decide) ?_
  refine va_put (D := D) (ci := 1) (v := .int 0) (ty := .int) (C := RX1) (T := TX1) (N := 6) hx hb hg iX1 tyX1 tyX1_ok nmX1 hown hK hP hD hS 0 rfl rfl 5 (by decide) (hg (Cond.fieldLink RX1 37 "SlabWalk$Earnest" "undone" "I") m499) (fun _ h9 => h9) rfl (by decide +kernel) rfl rfl (fs_lt (fs_ne g_E_undone (by decide))) dX1_forgetActs_7 (fun H locs hP hD hS => ?_)
  have hP : va_P D classes [(h0, .inr (1, ((E.set 4 (.int 0)).set 5 (.int 0)))), (nw, .inl (k.2.1, 10, .inl f1)), (kp, .inl (k.2.1, 410, .inl f2))] H := hP
  have hD : va_D A [(h0, .inr (1, ((E.set 4 (.int 0)).set 5 (.int 0)))), (nw, .inl (k.2.1, 10, .inl f1)), (kp, .inl (k.2.1, 410, .inl f2))] := hD
  refine lv_aload_n hx hb dX1_forgetActs_10 rfl (lv_at hl 0 rfl) ?_
  refine va_get (D := D) (ci := 1) (v := .ref nw) (C := RX1) (T := TX1) (N := 6) hx hb hg iX1 hown hK hP 0 rfl rfl 0 (by decide) (hg (Cond.fieldLink RX1 11 "SlabWalk$Earnest" "now" "[I") m492) (fun _ h9 => h9) (fs_ne (fs_ne g_E_now (by decide)) (by decide)) dX1_forgetActs_11 ?_
  refine lv_iconst (v := 0) hx hb dX1_forgetActs_14 (by decide) ?_
  refine lv_aload_n hx hb dX1_forgetActs_15 rfl (lv_at hl 0 rfl) ?_
  refine va_get (D := D) (ci := 1) (v := .ref kp) (C := RX1) (T := TX1) (N := 6) hx hb hg iX1 hown hK hP 0 rfl rfl 1 (by decide) (hg (Cond.fieldLink RX1 15 "SlabWalk$Earnest" "kept" "[I") m494) (fun _ h9 => h9) (fs_ne (fs_ne g_E_kept (by decide)) (by decide)) dX1_forgetActs_16 ?_
  refine lv_iconst (v := 0) hx hb dX1_forgetActs_19 (by decide) ?_
  refine lv_bipush (v := 10) hx hb dX1_forgetActs_20 (by decide) ?_
  refine va_copyi hx hb (by rw [hml]; exact hl.1.symm) hown (hg (Cond.methodLink RX1 40 arraycopyName) m567) (hg (Cond.native arraycopyName) m569) (hg (Cond.static arraycopyName) m568) (hg (Cond.initialized "java/lang/System") m130) hK hP hD hS 1 2 1 1 rfl rfl rfl rfl rfl (by decide) (by decide) (by decide) (by decide) (by decide) (fun _ _ => rfl) (Nat.le_of_ble_eq_true rfl) (by decide +kernel) dX1_forgetActs_22 (fun H locs hP hD hS => ?_)
  have hP : va_P D classes [(h0, .inr (1, ((E.set 4 (.int 0)).set 5 (.int 0)))), (nw, .inl (k.2.1, 10, .inl f1)), (kp, .inl (k.2.1, 410, .inl (va_cpy f1 f2 (0 : Int32).toNatClampNeg (0 : Int32).toNatClampNeg (10 : Int32).toNatClampNeg)))] H := hP
  have hD : va_D A [(h0, .inr (1, ((E.set 4 (.int 0)).set 5 (.int 0)))), (nw, .inl (k.2.1, 10, .inl f1)), (kp, .inl (k.2.1, 410, .inl (va_cpy f1 f2 (0 : Int32).toNatClampNeg (0 : Int32).toNatClampNeg (10 : Int32).toNatClampNeg)))] := hD
  generalize (va_cpy f1 f2 (0 : Int32).toNatClampNeg (0 : Int32).toNatClampNeg (10 : Int32).toNatClampNeg) = f_1 at hP hD
  have hP9 := hP.sub (ws' := [(h0, .inr (1, ((E.set 4 (.int 0)).set 5 (.int 0)))), (nw, .inl (k.2.1, 10, .inl f1)), (kp, .inl (k.2.1, 410, .inl f_1))]) [0, 1, 2] rfl
  have hD9 := hD.sub (ws' := [(h0, .inr (1, ((E.set 4 (.int 0)).set 5 (.int 0)))), (nw, .inl (k.2.1, 10, .inl f1)), (kp, .inl (k.2.1, 410, .inl f_1))]) [0, 1, 2] (by decide) rfl
  exact W.vret hx hb hr (fun t ht hW => ⟨⟨(), rfl, trivial, ⟨((E.set 4 (.int 0)).set 5 (.int 0)), f_1, (fs_ne (fs_ne g_E_now (by decide)) (by decide)), (fs_ne (fs_ne g_E_kept (by decide)) (by decide)), (fs_ne (fs_ne g_E_boxes (by decide)) (by decide)), (fs_ne (fs_ne g_E_full (by decide)) (by decide)), (fs_ne (fs_eq g_E_done) (by decide)), (fs_eq (fs_ne g_E_undone (by decide))), cB_of ht hP9 hD9⟩⟩, hS.F ht⟩) hS.2.2 dX1_forgetActs_25

set_option maxHeartbeats 4000000 in
set_option maxRecDepth 100000 in
theorem c_X1_startAnew (l : Launch) (D : va_G) (k : ClassId × ClassId × ClassId × ClassId) (sz : Nat) (h0 nw kp bx : Nat) (E : List Value) (f1 : Nat → Int32) (f2 : Nat → Int32) (a1 a2 a3 : Int32) (g_E_now : E[0]? = some (.ref nw)) (g_E_kept : E[1]? = some (.ref kp)) (g_E_boxes : E[2]? = some (.ref bx)) (g_E_full : E[3]? = some (.int a1)) (g_E_done : E[4]? = some (.int a2)) (g_E_undone : E[5]? = some (.int a3)) : Met l yX1_startAnew (WS yX1_startAnew cX1_startAnew 2 none) ({ frames := 2, cells := 0, slots := 0, locals := 60 }) (va_Pc [.ref h0, .int 0] (cP D k [(h0, .inr (1, E)), (nw, .inl (k.2.1, 10, .inl f1)), (kp, .inl (k.2.1, 410, .inl f2))] sz)) (va_Qv (fun _ : Unit => True) (fun (_ : Unit) t => ∃ (E2 : List Value), ∃ (f4 : Nat → Int32), ∃ (f3 : Nat → Int32), E2[0]? = some (.ref nw) ∧ E2[1]? = some (.ref kp) ∧ E2[2]? = some (.ref bx) ∧ E2[3]? = some (.int 0) ∧ E2[4]? = some (.int 0) ∧ E2[5]? = some (.int 0) ∧ f4 0 = (-1) ∧ f4 4 = 0 ∧ f4 5 = 0 ∧ f4 6 = 0 ∧ f4 7 = 0 ∧ f4 8 = 0 ∧ f4 9 = 0 ∧ cB D (va_A [(h0, .inr (1, E)), (nw, .inl (k.2.1, 10, .inl f1)), (kp, .inl (k.2.1, 410, .inl f2))] sz) [(h0, .inr (1, E2)), (nw, .inl (k.2.1, 10, .inl f4)), (kp, .inl (k.2.1, 410, .inl f3))] t) (va_A [(h0, .inr (1, E)), (nw, .inl (k.2.1, 10, .inl f1)), (kp, .inl (k.2.1, 410, .inl f2))] sz)) 0 0 (va_A [(h0, .inr (1, E)), (nw, .inl (k.2.1, 10, .inl f1)), (kp, .inl (k.2.1, 410, .inl f2))] sz) := by
  refine Met.ofW (cc := cX1_startAnew) (maxL := 2) (ret := none) (by decide) rfl ?_
  intro p e s m args below meth c s₁ B hml hv
  obtain ⟨rfl, hsz, hP, hKX, hD0⟩ := hv
  have hK := hKX.1
  have hx := B.exec
  have hb := B.bytes
  have hr := B.returns
  have hts := atoms_spec (ws := WS yX1_startAnew cX1_startAnew 2 none) B.pre
  have hgd : ∀ w ∈ gd, w ∈ WS yX1_startAnew cX1_startAnew 2 none := fun w h => List.mem_cons_of_mem _ h
  have hg : ∀ w ∈ gd, w.before _ s = true := fun w h => hts w (hgd w h)
  have hown : s.vm.findClass RX1 = some m.cls := findClass_of_methodNamed B.named
  have hlocks := B.notSynchronized
  subst hsz
  have hD := hD0.self (sz := s.heap.size)
  generalize hAe : va_A [(h0, .inr (1, E)), (nw, .inl (k.2.1, 10, .inl f1)), (kp, .inl (k.2.1, 410, .inl f2))] s.heap.size = A at hD ⊢
  have hA : ∀ q : Nat, s.heap.size ≤ q → A q := fun q h => by rw [← hAe]; exact Or.inr h
  have hS : va_S A s.heap s.heap [] := va_S.rf
  have hP : va_P D classes [(h0, .inr (1, E)), (nw, .inl (k.2.1, 10, .inl f1)), (kp, .inl (k.2.1, 410, .inl f2))] s.heap := hP
  have hl := lv_entry ([.ref h0, .int 0]) (n := 2) (Nat.le_of_ble_eq_true rfl)
  rw [lg_entry_eq]
  generalize (lg_sl ([.ref h0, .int 0]) ++ List.replicate (2 - (lg_sl ([.ref h0, .int 0])).length) Slot.unset).toArray = ls at hl ⊢
  have hl : lv_has ls 2 [(0, .ref h0), (1, .int 0)] := hl
  refine lv_aload_n hx hb dX1_startAnew_0 rfl (lv_at hl 0 rfl) ?_
  refine va_get (D := D) (ci := 1) (v := .ref nw) (C := RX1) (T := TX1) (N := 6) hx hb hg iX1 hown hK hP 0 rfl rfl 0 (by decide) (hg (Cond.fieldLink RX1 11 "SlabWalk$Earnest" "now" "[I") m492) (fun _ h9 => h9) g_E_now dX1_startAnew_1 ?_
  refine lv_iconst (v := 0) hx hb dX1_startAnew_4 (by decide) ?_
  have hPc := hP.sub (ws' := [(nw, .inl (k.2.1, 10, .inl f1))]) [1] rfl
  have hDc := hD.sub (ws' := [(nw, .inl (k.2.1, 10, .inl f1))]) [1] (by decide) rfl
  have hFc := va_free (wc := [(nw, .inl (k.2.1, 10, .inl f1))]) hD hS hA [1] rfl
  refine va_callv (va_runS (As := [.ref nw, .int 0]) (rest := []) ⟨hx, hb, hml, hown, hts⟩ (c_fill10 l D k s.heap.size nw f1 0 ) (va_cwS 2 hts (gd_S hgd m562 m556 m129 m557) rfl rfl rfl (by decide +kernel) ⟨Nat.le_of_ble_eq_true rfl, Nat.le_of_ble_eq_true rfl⟩) (cP_S hPc hKX hDc) rfl rfl hl.1 rfl (lv_room (Nat.le_of_ble_eq_true rfl)) dX1_startAnew_5 ⟨Nat.le_of_ble_eq_true rfl, Nat.le_of_ble_eq_true rfl⟩) hS (fun q _ h => hFc q h) hFc (fun u t H1 locs ht hvm hw hB hz1 hk1 hS => ?_)
  obtain ⟨z_2, g_3, g_4, g_5, g_6, g_7, g_8, g_9, g_10, g_11, g_12, hP1, hD1⟩ := hB
  rw [ht] at hP1
  obtain ⟨hP, hD⟩ := va_join (wr := [(h0, .inr (1, E)), (kp, .inl (k.2.1, 410, .inl f2))]) (w1 := [(nw, .inl (k.2.1, 10, .inl z_2))]) hP hD [1] [0, 2] rfl rfl (by decide) (by decide) hk1 hFc hP1 hD1
  generalize H1 = H at hP hS ⊢
  have hP : va_P D classes [(h0, .inr (1, E)), (kp, .inl (k.2.1, 410, .inl f2)), (nw, .inl (k.2.1, 10, .inl z_2))] H := hP
  have hD : va_D A [(h0, .inr (1, E)), (kp, .inl (k.2.1, 410, .inl f2)), (nw, .inl (k.2.1, 10, .inl z_2))] := hD
  refine W.widen (k := 0) (n := 0) (Nat.le_of_ble_eq_true rfl) (Nat.le_of_ble_eq_true rfl) ?_
  refine lv_aload_n hx hb dX1_startAnew_8 rfl (lv_at hl 0 rfl) ?_
  refine va_get (D := D) (ci := 1) (v := .ref nw) (C := RX1) (T := TX1) (N := 6) hx hb hg iX1 hown hK hP 0 rfl rfl 0 (by decide) (hg (Cond.fieldLink RX1 11 "SlabWalk$Earnest" "now" "[I") m492) (fun _ h9 => h9) g_E_now dX1_startAnew_9 ?_
  refine lv_iconst (v := 0) hx hb dX1_startAnew_12 (by decide) ?_
  refine lv_iconst (v := (-1)) hx hb dX1_startAnew_13 (by decide) ?_
  refine va_iast hx hb hK hP hD hS 2 1 rfl rfl (show ¬ ((0 : Int32) < 0 ∨ 10 ≤ (0 : Int32).toNatClampNeg) from by decide +kernel) dX1_startAnew_14 (fun H locs hP hD hS => ?_)
  have hP : va_P D classes [(h0, .inr (1, E)), (kp, .inl (k.2.1, 410, .inl f2)), (nw, .inl (k.2.1, 10, .inl (upd z_2 0 (-1))))] H := hP
  have hD : va_D A [(h0, .inr (1, E)), (kp, .inl (k.2.1, 410, .inl f2)), (nw, .inl (k.2.1, 10, .inl (upd z_2 0 (-1))))] := hD
  have g_14 : (upd z_2 0 (-1)) 1 = 0 := g_4
  have g_15 : (upd z_2 0 (-1)) 2 = 0 := g_5
  have g_16 : (upd z_2 0 (-1)) 3 = 0 := g_6
  have g_17 : (upd z_2 0 (-1)) 4 = 0 := g_7
  have g_18 : (upd z_2 0 (-1)) 5 = 0 := g_8
  have g_19 : (upd z_2 0 (-1)) 6 = 0 := g_9
  have g_20 : (upd z_2 0 (-1)) 7 = 0 := g_10
  have g_21 : (upd z_2 0 (-1)) 8 = 0 := g_11
  have g_22 : (upd z_2 0 (-1)) 9 = 0 := g_12
  have g_23 : (upd z_2 0 (-1)) 0 = (-1) := rfl
  generalize (upd z_2 0 (-1)) = f_13 at hP hD g_14 g_15 g_16 g_17 g_18 g_19 g_20 g_21 g_22 g_23
  refine lv_aload_n hx hb dX1_startAnew_15 rfl (lv_at hl 0 rfl) ?_
  refine va_get (D := D) (ci := 1) (v := .ref nw) (C := RX1) (T := TX1) (N := 6) hx hb hg iX1 hown hK hP 0 rfl rfl 0 (by decide) (hg (Cond.fieldLink RX1 11 "SlabWalk$Earnest" "now" "[I") m492) (fun _ h9 => h9) g_E_now dX1_startAnew_16 ?_
  refine lv_bipush (v := 7) hx hb dX1_startAnew_19 (by decide) ?_
  refine lv_iload_n hx hb dX1_startAnew_21 rfl (lv_at hl 1 rfl) ?_
  refine va_iast hx hb hK hP hD hS 2 1 rfl rfl (show ¬ ((7 : Int32) < 0 ∨ 10 ≤ (7 : Int32).toNatClampNeg) from by decide +kernel) dX1_startAnew_22 (fun H locs hP hD hS => ?_)
  have hP : va_P D classes [(h0, .inr (1, E)), (kp, .inl (k.2.1, 410, .inl f2)), (nw, .inl (k.2.1, 10, .inl (upd f_13 7 0)))] H := hP
  have hD : va_D A [(h0, .inr (1, E)), (kp, .inl (k.2.1, 410, .inl f2)), (nw, .inl (k.2.1, 10, .inl (upd f_13 7 0)))] := hD
  have g_25 : (upd f_13 7 0) 1 = 0 := g_14
  have g_26 : (upd f_13 7 0) 2 = 0 := g_15
  have g_27 : (upd f_13 7 0) 3 = 0 := g_16
  have g_28 : (upd f_13 7 0) 4 = 0 := g_17
  have g_29 : (upd f_13 7 0) 5 = 0 := g_18
  have g_30 : (upd f_13 7 0) 6 = 0 := g_19
  have g_31 : (upd f_13 7 0) 8 = 0 := g_21
  have g_32 : (upd f_13 7 0) 9 = 0 := g_22
  have g_33 : (upd f_13 7 0) 0 = (-1) := g_23
  have g_34 : (upd f_13 7 0) 7 = 0 := rfl
  generalize (upd f_13 7 0) = f_24 at hP hD g_25 g_26 g_27 g_28 g_29 g_30 g_31 g_32 g_33 g_34
  refine lv_aload_n hx hb dX1_startAnew_23 rfl (lv_at hl 0 rfl) ?_
  refine lv_iconst (v := 0) hx hb dX1_startAnew_24 (by decide) ?_
  refine va_put (D := D) (ci := 1) (v := .int 0) (ty := .int) (C := RX1) (T := TX1) (N := 6) hx hb hg iX1 tyX1 tyX1_ok nmX1 hown hK hP hD hS 0 rfl rfl 3 (by decide) (hg (Cond.fieldLink RX1 27 "SlabWalk$Earnest" "full" "I") m496) (fun _ h9 => h9) rfl (by decide +kernel) rfl rfl (fs_lt g_E_full) dX1_startAnew_25 (fun H locs hP hD hS => ?_)
  have hP : va_P D classes [(h0, .inr (1, (E.set 3 (.int 0)))), (kp, .inl (k.2.1, 410, .inl f2)), (nw, .inl (k.2.1, 10, .inl f_24))] H := hP
  have hD : va_D A [(h0, .inr (1, (E.set 3 (.int 0)))), (kp, .inl (k.2.1, 410, .inl f2)), (nw, .inl (k.2.1, 10, .inl f_24))] := hD
  refine lv_aload_n hx hb dX1_startAnew_28 rfl (lv_at hl 0 rfl) ?_
  have hPc := hP.sub (ws' := [(h0, .inr (1, (E.set 3 (.int 0)))), (nw, .inl (k.2.1, 10, .inl f_24)), (kp, .inl (k.2.1, 410, .inl f2))]) [0, 2, 1] rfl
  have hDc := hD.sub (ws' := [(h0, .inr (1, (E.set 3 (.int 0)))), (nw, .inl (k.2.1, 10, .inl f_24)), (kp, .inl (k.2.1, 410, .inl f2))]) [0, 2, 1] (by decide) rfl
  have hFc := va_free (wc := [(h0, .inr (1, (E.set 3 (.int 0)))), (nw, .inl (k.2.1, 10, .inl f_24)), (kp, .inl (k.2.1, 410, .inl f2))]) hD hS hA [0, 2, 1] rfl
  refine va_callv (va_runV (As := []) (rest := []) ⟨hx, hb, hml, hown, hts⟩ (c_X1_forgetActs l D k H.size h0 nw kp bx (E.set 3 (.int 0)) f_24 f2 0 a2 a3 (fs_ne g_E_now (by decide)) (fs_ne g_E_kept (by decide)) (fs_ne g_E_boxes (by decide)) (fs_eq g_E_full) (fs_ne g_E_done (by decide)) (fs_ne g_E_undone (by decide))) (cwV 0 hts (gd_V hgd m563 m565 m1 m127 m566) rfl rfl rfl (by decide +kernel) ⟨Nat.le_of_ble_eq_true rfl, Nat.le_of_ble_eq_true rfl⟩) (cP_V hPc hKX hDc (ci := 1) (q0 := 0) rfl rfl) rfl rfl hl.1 rfl (lv_room (Nat.le_of_ble_eq_true rfl)) dX1_startAnew_29 ⟨Nat.le_of_ble_eq_true rfl, Nat.le_of_ble_eq_true rfl⟩) hS (fun q _ h => hFc q h) hFc (fun u t H1 locs ht hvm hw hB hz1 hk1 hS => ?_)
  obtain ⟨z_36, z_37, g_38, g_39, g_40, g_41, g_42, g_43, hP1, hD1⟩ := hB
  rw [ht] at hP1
  obtain ⟨hP, hD⟩ := va_join (wr := []) (w1 := [(h0, .inr (1, z_36)), (nw, .inl (k.2.1, 10, .inl f_24)), (kp, .inl (k.2.1, 410, .inl z_37))]) hP hD [0, 2, 1] [] rfl rfl (by decide) (by decide) hk1 hFc hP1 hD1
  generalize H1 = H at hP hS ⊢
  have hP : va_P D classes [(h0, .inr (1, z_36)), (nw, .inl (k.2.1, 10, .inl f_24)), (kp, .inl (k.2.1, 410, .inl z_37))] H := hP
  have hD : va_D A [(h0, .inr (1, z_36)), (nw, .inl (k.2.1, 10, .inl f_24)), (kp, .inl (k.2.1, 410, .inl z_37))] := hD
  refine W.widen (k := 0) (n := 0) (Nat.le_of_ble_eq_true rfl) (Nat.le_of_ble_eq_true rfl) ?_
  have hP9 := hP.sub (ws' := [(h0, .inr (1, z_36)), (nw, .inl (k.2.1, 10, .inl f_24)), (kp, .inl (k.2.1, 410, .inl z_37))]) [0, 1, 2] rfl
  have hD9 := hD.sub (ws' := [(h0, .inr (1, z_36)), (nw, .inl (k.2.1, 10, .inl f_24)), (kp, .inl (k.2.1, 410, .inl z_37))]) [0, 1, 2] (by decide) rfl
  exact W.vret hx hb hr (fun t ht hW => ⟨⟨(), rfl, trivial, ⟨z_36, f_24, z_37, g_38, g_39, g_40, g_41, g_42, g_43, g_33, g_28, g_29, g_30, g_34, g_31, g_32, cB_of ht hP9 hD9⟩⟩, hS.F ht⟩) hS.2.2 dX1_startAnew_32

set_option maxHeartbeats 4000000 in
set_option maxRecDepth 100000 in
theorem c_X3_lookAt (l : Launch) (D : va_G) (k : ClassId × ClassId × ClassId × ClassId) (sz : Nat) (h0 h1 fo h2 : Nat) (E : List Value) (g : Nat → Int32) (g_E_foundOn : E[1]? = some (.ref fo)) (g_E_paving : E[4]? = some (.ref h2)) : Met l yX3_lookAt (WS yX3_lookAt cX3_lookAt 2 none) ({ frames := 1, cells := 0, slots := 0, locals := 23 }) (va_Pc [.ref h0, .ref h1] (cP D k [(h0, .inr (3, E)), (fo, .inl (k.2.1, 3, .inl g))] sz)) (va_Qv (fun _ : Unit => True) (fun (_ : Unit) t => ∃ (E2 : List Value), ∃ (g2 : Nat → Int32), E2[1]? = some (.ref fo) ∧ E2[4]? = some (.ref h1) ∧ cB D (va_A [(h0, .inr (3, E)), (fo, .inl (k.2.1, 3, .inl g))] sz) [(h0, .inr (3, E2)), (fo, .inl (k.2.1, 3, .inl g2))] t) (va_A [(h0, .inr (3, E)), (fo, .inl (k.2.1, 3, .inl g))] sz)) 0 0 (va_A [(h0, .inr (3, E)), (fo, .inl (k.2.1, 3, .inl g))] sz) := by
  refine Met.ofW (cc := cX3_lookAt) (maxL := 2) (ret := none) (by decide) rfl ?_
  intro p e s m args below meth c s₁ B hml hv
  obtain ⟨rfl, hsz, hP, hKX, hD0⟩ := hv
  have hK := hKX.1
  have hx := B.exec
  have hb := B.bytes
  have hr := B.returns
  have hts := atoms_spec (ws := WS yX3_lookAt cX3_lookAt 2 none) B.pre
  have hgd : ∀ w ∈ gd, w ∈ WS yX3_lookAt cX3_lookAt 2 none := fun w h => List.mem_cons_of_mem _ h
  have hg : ∀ w ∈ gd, w.before _ s = true := fun w h => hts w (hgd w h)
  have hown : s.vm.findClass RX3 = some m.cls := findClass_of_methodNamed B.named
  have hlocks := B.notSynchronized
  subst hsz
  have hD := hD0.self (sz := s.heap.size)
  generalize hAe : va_A [(h0, .inr (3, E)), (fo, .inl (k.2.1, 3, .inl g))] s.heap.size = A at hD ⊢
  have hA : ∀ q : Nat, s.heap.size ≤ q → A q := fun q h => by rw [← hAe]; exact Or.inr h
  have hS : va_S A s.heap s.heap [] := va_S.rf
  have hP : va_P D classes [(h0, .inr (3, E)), (fo, .inl (k.2.1, 3, .inl g))] s.heap := hP
  have hl := lv_entry ([.ref h0, .ref h1]) (n := 2) (Nat.le_of_ble_eq_true rfl)
  rw [lg_entry_eq]
  generalize (lg_sl ([.ref h0, .ref h1]) ++ List.replicate (2 - (lg_sl ([.ref h0, .ref h1])).length) Slot.unset).toArray = ls at hl ⊢
  have hl : lv_has ls 2 [(0, .ref h0), (1, .ref h1)] := hl
  refine lv_aload_n hx hb dX3_lookAt_0 rfl (lv_at hl 0 rfl) ?_
  refine lv_aload_n hx hb dX3_lookAt_1 rfl (lv_at hl 1 rfl) ?_
  refine va_put (D := D) (ci := 3) (v := .ref h1) (ty := (.object "SlabWalk$Paving")) (C := RX3) (T := TX3) (N := 5) hx hb hg iX3 tyX3 tyX3_ok nmX3 hown hK hP hD hS 0 rfl rfl 4 (by decide) (hg (Cond.fieldLink RX3 21 "SlabWalk$Lines" "paving" "LSlabWalk$Paving;") m353) (fun _ h9 => h9) rfl (by decide +kernel) rfl rfl (fs_lt g_E_paving) dX3_lookAt_2 (fun H locs hP hD hS => ?_)
  have hP : va_P D classes [(h0, .inr (3, (E.set 4 (.ref h1)))), (fo, .inl (k.2.1, 3, .inl g))] H := hP
  have hD : va_D A [(h0, .inr (3, (E.set 4 (.ref h1)))), (fo, .inl (k.2.1, 3, .inl g))] := hD
  refine lv_aload_n hx hb dX3_lookAt_5 rfl (lv_at hl 0 rfl) ?_
  refine va_get (D := D) (ci := 3) (v := .ref fo) (C := RX3) (T := TX3) (N := 5) hx hb hg iX3 hown hK hP 0 rfl rfl 1 (by decide) (hg (Cond.fieldLink RX3 15 "SlabWalk$Lines" "foundOn" "[I") m350) (fun _ h9 => h9) (fs_ne g_E_foundOn (by decide)) dX3_lookAt_6 ?_
  refine lv_iconst (v := (-1)) hx hb dX3_lookAt_9 (by decide) ?_
  have hPc := hP.sub (ws' := [(fo, .inl (k.2.1, 3, .inl g))]) [1] rfl
  have hDc := hD.sub (ws' := [(fo, .inl (k.2.1, 3, .inl g))]) [1] (by decide) rfl
  have hFc := va_free (wc := [(fo, .inl (k.2.1, 3, .inl g))]) hD hS hA [1] rfl
  refine va_callv (va_runS (As := [.ref fo, .int (-1)]) (rest := []) ⟨hx, hb, hml, hown, hts⟩ (c_fill3 l D k H.size fo g (-1) ) (va_cwS 2 hts (gd_S hgd m555 m556 m129 m557) rfl rfl rfl (by decide +kernel) ⟨Nat.le_of_ble_eq_true rfl, Nat.le_of_ble_eq_true rfl⟩) (cP_S hPc hKX hDc) rfl rfl hl.1 rfl (lv_room (Nat.le_of_ble_eq_true rfl)) dX3_lookAt_10 ⟨Nat.le_of_ble_eq_true rfl, Nat.le_of_ble_eq_true rfl⟩) hS (fun q _ h => hFc q h) hFc (fun u t H1 locs ht hvm hw hB hz1 hk1 hS => ?_)
  obtain ⟨z_2, g_3, g_4, g_5, hP1, hD1⟩ := hB
  rw [ht] at hP1
  obtain ⟨hP, hD⟩ := va_join (wr := [(h0, .inr (3, (E.set 4 (.ref h1))))]) (w1 := [(fo, .inl (k.2.1, 3, .inl z_2))]) hP hD [1] [0] rfl rfl (by decide) (by decide) hk1 hFc hP1 hD1
  generalize H1 = H at hP hS ⊢
  have hP : va_P D classes [(h0, .inr (3, (E.set 4 (.ref h1)))), (fo, .inl (k.2.1, 3, .inl z_2))] H := hP
  have hD : va_D A [(h0, .inr (3, (E.set 4 (.ref h1)))), (fo, .inl (k.2.1, 3, .inl z_2))] := hD
  refine W.widen (k := 0) (n := 0) (Nat.le_of_ble_eq_true rfl) (Nat.le_of_ble_eq_true rfl) ?_
  have hP9 := hP.sub (ws' := [(h0, .inr (3, (E.set 4 (.ref h1)))), (fo, .inl (k.2.1, 3, .inl z_2))]) [0, 1] rfl
  have hD9 := hD.sub (ws' := [(h0, .inr (3, (E.set 4 (.ref h1)))), (fo, .inl (k.2.1, 3, .inl z_2))]) [0, 1] (by decide) rfl
  exact W.vret hx hb hr (fun t ht hW => ⟨⟨(), rfl, trivial, ⟨(E.set 4 (.ref h1)), z_2, (fs_ne g_E_foundOn (by decide)), (fs_eq g_E_paving), cB_of ht hP9 hD9⟩⟩, hS.F ht⟩) hS.2.2 dX3_lookAt_13

set_option maxHeartbeats 4000000 in
set_option maxRecDepth 100000 in
theorem c_X11_startAnew (l : Launch) (D : va_G) (k : ClassId × ClassId × ClassId × ClassId) (sz : Nat) (h0 pv sp tp rd ln ea si fo h2 nw kp bx : Nat) (F P N E Z : List Value) (g : Nat → Int32) (f1 : Nat → Int32) (f2 : Nat → Int32) (a9 a8 a1 a2 a3 a4 a5 : Int32) (g_F_paving : F[0]? = some (.ref pv)) (g_F_spare : F[1]? = some (.ref sp)) (g_F_taped : F[11]? = some (.int a8)) (g_F_lie : F[12]? = some (.int a9)) (g_F_tape : F[2]? = some (.ref tp)) (g_F_reader : F[3]? = some (.ref rd)) (g_F_lines : F[4]? = some (.ref ln)) (g_F_earnest : F[8]? = some (.ref ea)) (g_F_sights : F[9]? = some (.ref si)) (g_P_draw : P[16]? = some (.int 0)) (g_N_foundOn : N[1]? = some (.ref fo)) (g_N_paving : N[4]? = some (.ref h2)) (g_E_now : E[0]? = some (.ref nw)) (g_E_kept : E[1]? = some (.ref kp)) (g_E_boxes : E[2]? = some (.ref bx)) (g_E_full : E[3]? = some (.int a1)) (g_E_done : E[4]? = some (.int a2)) (g_E_undone : E[5]? = some (.int a3)) (g_Z_count : Z[5]? = some (.int a4)) (g_Z_time : Z[6]? = some (.int a5)) : Met l yX11_startAnew (WS yX11_startAnew cX11_startAnew 1 none) ({ frames := 3, cells := 0, slots := 0, locals := 81 }) (va_Pc [.ref h0] (cP D k [(h0, .inr (11, F)), (pv, .inr (6, P)), (ln, .inr (3, N)), (fo, .inl (k.2.1, 3, .inl g)), (ea, .inr (1, E)), (nw, .inl (k.2.1, 10, .inl f1)), (kp, .inl (k.2.1, 410, .inl f2)), (si, .inr (8, Z))] sz)) (va_Qv (fun _ : Unit => True) (fun (_ : Unit) t => ∃ (F2 : List Value), ∃ (N2 : List Value), ∃ (g2 : Nat → Int32), ∃ (E2 : List Value), ∃ (f4 : Nat → Int32), ∃ (f3 : Nat → Int32), ∃ (Z2 : List Value), F2[0]? = some (.ref pv) ∧ F2[1]? = some (.ref sp) ∧ F2[11]? = some (.int a8) ∧ F2[12]? = some (.int 0) ∧ F2[2]? = some (.ref tp) ∧ F2[3]? = some (.ref rd) ∧ F2[4]? = some (.ref ln) ∧ F2[8]? = some (.ref ea) ∧ F2[9]? = some (.ref si) ∧ N2[1]? = some (.ref fo) ∧ N2[4]? = some (.ref pv) ∧ E2[0]? = some (.ref nw) ∧ E2[1]? = some (.ref kp) ∧ E2[2]? = some (.ref bx) ∧ E2[3]? = some (.int 0) ∧ E2[4]? = some (.int 0) ∧ E2[5]? = some (.int 0) ∧ f4 0 = (-1) ∧ f4 4 = 0 ∧ f4 5 = 0 ∧ f4 6 = 0 ∧ f4 7 = 0 ∧ f4 8 = 0 ∧ f4 9 = 0 ∧ Z2[5]? = some (.int 0) ∧ Z2[6]? = some (.int a5) ∧ cB D (va_A [(h0, .inr (11, F)), (pv, .inr (6, P)), (ln, .inr (3, N)), (fo, .inl (k.2.1, 3, .inl g)), (ea, .inr (1, E)), (nw, .inl (k.2.1, 10, .inl f1)), (kp, .inl (k.2.1, 410, .inl f2)), (si, .inr (8, Z))] sz) [(h0, .inr (11, F2)), (pv, .inr (6, P)), (ln, .inr (3, N2)), (fo, .inl (k.2.1, 3, .inl g2)), (ea, .inr (1, E2)), (nw, .inl (k.2.1, 10, .inl f4)), (kp, .inl (k.2.1, 410, .inl f3)), (si, .inr (8, Z2))] t) (va_A [(h0, .inr (11, F)), (pv, .inr (6, P)), (ln, .inr (3, N)), (fo, .inl (k.2.1, 3, .inl g)), (ea, .inr (1, E)), (nw, .inl (k.2.1, 10, .inl f1)), (kp, .inl (k.2.1, 410, .inl f2)), (si, .inr (8, Z))] sz)) 0 0 (va_A [(h0, .inr (11, F)), (pv, .inr (6, P)), (ln, .inr (3, N)), (fo, .inl (k.2.1, 3, .inl g)), (ea, .inr (1, E)), (nw, .inl (k.2.1, 10, .inl f1)), (kp, .inl (k.2.1, 410, .inl f2)), (si, .inr (8, Z))] sz) := by
  refine Met.ofW (cc := cX11_startAnew) (maxL := 1) (ret := none) (by decide) rfl ?_
  intro p e s m args below meth c s₁ B hml hv
  obtain ⟨rfl, hsz, hP, hKX, hD0⟩ := hv
  have hK := hKX.1
  have hx := B.exec
  have hb := B.bytes
  have hr := B.returns
  have hts := atoms_spec (ws := WS yX11_startAnew cX11_startAnew 1 none) B.pre
  have hgd : ∀ w ∈ gd, w ∈ WS yX11_startAnew cX11_startAnew 1 none := fun w h => List.mem_cons_of_mem _ h
  have hg : ∀ w ∈ gd, w.before _ s = true := fun w h => hts w (hgd w h)
  have hown : s.vm.findClass RX11 = some m.cls := findClass_of_methodNamed B.named
  have hlocks := B.notSynchronized
  subst hsz
  have hD := hD0.self (sz := s.heap.size)
  generalize hAe : va_A [(h0, .inr (11, F)), (pv, .inr (6, P)), (ln, .inr (3, N)), (fo, .inl (k.2.1, 3, .inl g)), (ea, .inr (1, E)), (nw, .inl (k.2.1, 10, .inl f1)), (kp, .inl (k.2.1, 410, .inl f2)), (si, .inr (8, Z))] s.heap.size = A at hD ⊢
  have hA : ∀ q : Nat, s.heap.size ≤ q → A q := fun q h => by rw [← hAe]; exact Or.inr h
  have hS : va_S A s.heap s.heap [] := va_S.rf
  have hP : va_P D classes [(h0, .inr (11, F)), (pv, .inr (6, P)), (ln, .inr (3, N)), (fo, .inl (k.2.1, 3, .inl g)), (ea, .inr (1, E)), (nw, .inl (k.2.1, 10, .inl f1)), (kp, .inl (k.2.1, 410, .inl f2)), (si, .inr (8, Z))] s.heap := hP
  have hl := lv_entry ([.ref h0]) (n := 1) (Nat.le_of_ble_eq_true rfl)
  rw [lg_entry_eq]
  generalize (lg_sl ([.ref h0]) ++ List.replicate (1 - (lg_sl ([.ref h0])).length) Slot.unset).toArray = ls at hl ⊢
  have hl : lv_has ls 1 [(0, .ref h0)] := hl
  refine lv_aload_n hx hb dX11_startAnew_0 rfl (lv_at hl 0 rfl) ?_
  refine va_get (D := D) (ci := 11) (v := .ref ln) (C := RX11) (T := TX11) (N := 13) hx hb hg iX11 hown hK hP 0 rfl rfl 4 (by decide) (hg (Cond.fieldLink RX11 37 "SlabWalk" "lines" "LSlabWalk$Lines;") m574) (fun _ h9 => h9) g_F_lines dX11_startAnew_1 ?_
  refine lv_aload_n hx hb dX11_startAnew_4 rfl (lv_at hl 0 rfl) ?_
  refine va_get (D := D) (ci := 11) (v := .ref pv) (C := RX11) (T := TX11) (N := 13) hx hb hg iX11 hown hK hP 0 rfl rfl 0 (by decide) (hg (Cond.fieldLink RX11 10 "SlabWalk" "paving" "LSlabWalk$Paving;") m570) (fun _ h9 => h9) g_F_paving dX11_startAnew_5 ?_
  have hPc := hP.sub (ws' := [(ln, .inr (3, N)), (fo, .inl (k.2.1, 3, .inl g))]) [2, 3] rfl
  have hDc := hD.sub (ws' := [(ln, .inr (3, N)), (fo, .inl (k.2.1, 3, .inl g))]) [2, 3] (by decide) rfl
  have hFc := va_free (wc := [(ln, .inr (3, N)), (fo, .inl (k.2.1, 3, .inl g))]) hD hS hA [2, 3] rfl
  refine va_callv (va_runV (As := [.ref pv]) (rest := []) ⟨hx, hb, hml, hown, hts⟩ (c_X3_lookAt l D k s.heap.size ln pv fo h2 N g g_N_foundOn g_N_paving) (cwV 1 hts (gd_V hgd m551 m552 m553 m122 m554) rfl rfl rfl (by decide +kernel) ⟨Nat.le_of_ble_eq_true rfl, Nat.le_of_ble_eq_true rfl⟩) (cP_V hPc hKX hDc (ci := 3) (q0 := 0) rfl rfl) rfl rfl hl.1 rfl (lv_room (Nat.le_of_ble_eq_true rfl)) dX11_startAnew_8 ⟨Nat.le_of_ble_eq_true rfl, Nat.le_of_ble_eq_true rfl⟩) hS (fun q _ h => hFc q h) hFc (fun u t H1 locs ht hvm hw hB hz1 hk1 hS => ?_)
  obtain ⟨z_2, z_3, g_4, g_5, hP1, hD1⟩ := hB
  rw [ht] at hP1
  obtain ⟨hP, hD⟩ := va_join (wr := [(h0, .inr (11, F)), (pv, .inr (6, P)), (ea, .inr (1, E)), (nw, .inl (k.2.1, 10, .inl f1)), (kp, .inl (k.2.1, 410, .inl f2)), (si, .inr (8, Z))]) (w1 := [(ln, .inr (3, z_2)), (fo, .inl (k.2.1, 3, .inl z_3))]) hP hD [2, 3] [0, 1, 4, 5, 6, 7] rfl rfl (by decide) (by decide) hk1 hFc hP1 hD1
  generalize H1 = H at hP hS ⊢
  have hP : va_P D classes [(h0, .inr (11, F)), (pv, .inr (6, P)), (ea, .inr (1, E)), (nw, .inl (k.2.1, 10, .inl f1)), (kp, .inl (k.2.1, 410, .inl f2)), (si, .inr (8, Z)), (ln, .inr (3, z_2)), (fo, .inl (k.2.1, 3, .inl z_3))] H := hP
  have hD : va_D A [(h0, .inr (11, F)), (pv, .inr (6, P)), (ea, .inr (1, E)), (nw, .inl (k.2.1, 10, .inl f1)), (kp, .inl (k.2.1, 410, .inl f2)), (si, .inr (8, Z)), (ln, .inr (3, z_2)), (fo, .inl (k.2.1, 3, .inl z_3))] := hD
  refine W.widen (k := 0) (n := 0) (Nat.le_of_ble_eq_true rfl) (Nat.le_of_ble_eq_true rfl) ?_
  refine lv_aload_n hx hb dX11_startAnew_11 rfl (lv_at hl 0 rfl) ?_
  refine va_get (D := D) (ci := 11) (v := .ref ea) (C := RX11) (T := TX11) (N := 13) hx hb hg iX11 hown hK hP 0 rfl rfl 8 (by decide) (hg (Cond.fieldLink RX11 65 "SlabWalk" "earnest" "LSlabWalk$Earnest;") m578) (fun _ h9 => h9) g_F_earnest dX11_startAnew_12 ?_
  refine lv_aload_n hx hb dX11_startAnew_15 rfl (lv_at hl 0 rfl) ?_
  refine va_get (D := D) (ci := 11) (v := .ref pv) (C := RX11) (T := TX11) (N := 13) hx hb hg iX11 hown hK hP 0 rfl rfl 0 (by decide) (hg (Cond.fieldLink RX11 10 "SlabWalk" "paving" "LSlabWalk$Paving;") m570) (fun _ h9 => h9) g_F_paving dX11_startAnew_16 ?_
  refine va_get (D := D) (ci := 6) (v := .int 0) (C := RX6) (T := TX6) (N := 17) hx hb hg iX6 hown hK hP 1 rfl rfl 16 (by decide) (hg (Cond.fieldLink RX11 323 "SlabWalk$Paving" "draw" "I") m209) (fun _ h9 => h9) g_P_draw dX11_startAnew_19 ?_
  have hPc := hP.sub (ws' := [(ea, .inr (1, E)), (nw, .inl (k.2.1, 10, .inl f1)), (kp, .inl (k.2.1, 410, .inl f2))]) [2, 3, 4] rfl
  have hDc := hD.sub (ws' := [(ea, .inr (1, E)), (nw, .inl (k.2.1, 10, .inl f1)), (kp, .inl (k.2.1, 410, .inl f2))]) [2, 3, 4] (by decide) rfl
  have hFc := va_free (wc := [(ea, .inr (1, E)), (nw, .inl (k.2.1, 10, .inl f1)), (kp, .inl (k.2.1, 410, .inl f2))]) hD hS hA [2, 3, 4] rfl
  refine va_callv (va_runV (As := [.int 0]) (rest := []) ⟨hx, hb, hml, hown, hts⟩ (c_X1_startAnew l D k H.size ea nw kp bx E f1 f2 a1 a2 a3 g_E_now g_E_kept g_E_boxes g_E_full g_E_done g_E_undone) (cwV 1 hts (gd_V hgd m558 m559 m560 m127 m561) rfl rfl rfl (by decide +kernel) ⟨Nat.le_of_ble_eq_true rfl, Nat.le_of_ble_eq_true rfl⟩) (cP_V hPc hKX hDc (ci := 1) (q0 := 0) rfl rfl) rfl rfl hl.1 rfl (lv_room (Nat.le_of_ble_eq_true rfl)) dX11_startAnew_22 ⟨Nat.le_of_ble_eq_true rfl, Nat.le_of_ble_eq_true rfl⟩) hS (fun q _ h => hFc q h) hFc (fun u t H1 locs ht hvm hw hB hz1 hk1 hS => ?_)
  obtain ⟨z_7, z_8, z_9, g_10, g_11, g_12, g_13, g_14, g_15, g_16, g_17, g_18, g_19, g_20, g_21, g_22, hP1, hD1⟩ := hB
  rw [ht] at hP1
  obtain ⟨hP, hD⟩ := va_join (wr := [(h0, .inr (11, F)), (pv, .inr (6, P)), (si, .inr (8, Z)), (ln, .inr (3, z_2)), (fo, .inl (k.2.1, 3, .inl z_3))]) (w1 := [(ea, .inr (1, z_7)), (nw, .inl (k.2.1, 10, .inl z_8)), (kp, .inl (k.2.1, 410, .inl z_9))]) hP hD [2, 3, 4] [0, 1, 5, 6, 7] rfl rfl (by decide) (by decide) hk1 hFc hP1 hD1
  generalize H1 = H at hP hS ⊢
  have hP : va_P D classes [(h0, .inr (11, F)), (pv, .inr (6, P)), (si, .inr (8, Z)), (ln, .inr (3, z_2)), (fo, .inl (k.2.1, 3, .inl z_3)), (ea, .inr (1, z_7)), (nw, .inl (k.2.1, 10, .inl z_8)), (kp, .inl (k.2.1, 410, .inl z_9))] H := hP
  have hD : va_D A [(h0, .inr (11, F)), (pv, .inr (6, P)), (si, .inr (8, Z)), (ln, .inr (3, z_2)), (fo, .inl (k.2.1, 3, .inl z_3)), (ea, .inr (1, z_7)), (nw, .inl (k.2.1, 10, .inl z_8)), (kp, .inl (k.2.1, 410, .inl z_9))] := hD
  refine W.widen (k := 0) (n := 0) (Nat.le_of_ble_eq_true rfl) (Nat.le_of_ble_eq_true rfl) ?_
  refine lv_aload_n hx hb dX11_startAnew_25 rfl (lv_at hl 0 rfl) ?_
  refine va_get (D := D) (ci := 11) (v := .ref si) (C := RX11) (T := TX11) (N := 13) hx hb hg iX11 hown hK hP 0 rfl rfl 9 (by decide) (hg (Cond.fieldLink RX11 72 "SlabWalk" "sights" "LSlabWalk$Sights;") m579) (fun _ h9 => h9) g_F_sights dX11_startAnew_26 ?_
  refine lv_iconst (v := 0) hx hb dX11_startAnew_29 (by decide) ?_
  refine va_put (D := D) (ci := 8) (v := .int 0) (ty := .int) (C := RX8) (T := TX8) (N := 7) hx hb hg iX8 tyX8 tyX8_ok nmX8 hown hK hP hD hS 2 rfl rfl 5 (by decide) (hg (Cond.fieldLink RX11 285 "SlabWalk$Sights" "count" "I") m529) (fun _ h9 => h9) rfl (by decide +kernel) rfl rfl (fs_lt g_Z_count) dX11_startAnew_30 (fun H locs hP hD hS => ?_)
  have hP : va_P D classes [(h0, .inr (11, F)), (pv, .inr (6, P)), (si, .inr (8, (Z.set 5 (.int 0)))), (ln, .inr (3, z_2)), (fo, .inl (k.2.1, 3, .inl z_3)), (ea, .inr (1, z_7)), (nw, .inl (k.2.1, 10, .inl z_8)), (kp, .inl (k.2.1, 410, .inl z_9))] H := hP
  have hD : va_D A [(h0, .inr (11, F)), (pv, .inr (6, P)), (si, .inr (8, (Z.set 5 (.int 0)))), (ln, .inr (3, z_2)), (fo, .inl (k.2.1, 3, .inl z_3)), (ea, .inr (1, z_7)), (nw, .inl (k.2.1, 10, .inl z_8)), (kp, .inl (k.2.1, 410, .inl z_9))] := hD
  refine lv_aload_n hx hb dX11_startAnew_33 rfl (lv_at hl 0 rfl) ?_
  refine lv_iconst (v := 0) hx hb dX11_startAnew_34 (by decide) ?_
  refine va_put (D := D) (ci := 11) (v := .int 0) (ty := .int) (C := RX11) (T := TX11) (N := 13) hx hb hg iX11 tyX11 tyX11_ok nmX11 hown hK hP hD hS 0 rfl rfl 12 (by decide) (hg (Cond.fieldLink RX11 150 "SlabWalk" "lie" "I") m582) (fun _ h9 => h9) rfl (by decide +kernel) rfl rfl (fs_lt g_F_lie) dX11_startAnew_35 (fun H locs hP hD hS => ?_)
  have hP : va_P D classes [(h0, .inr (11, (F.set 12 (.int 0)))), (pv, .inr (6, P)), (si, .inr (8, (Z.set 5 (.int 0)))), (ln, .inr (3, z_2)), (fo, .inl (k.2.1, 3, .inl z_3)), (ea, .inr (1, z_7)), (nw, .inl (k.2.1, 10, .inl z_8)), (kp, .inl (k.2.1, 410, .inl z_9))] H := hP
  have hD : va_D A [(h0, .inr (11, (F.set 12 (.int 0)))), (pv, .inr (6, P)), (si, .inr (8, (Z.set 5 (.int 0)))), (ln, .inr (3, z_2)), (fo, .inl (k.2.1, 3, .inl z_3)), (ea, .inr (1, z_7)), (nw, .inl (k.2.1, 10, .inl z_8)), (kp, .inl (k.2.1, 410, .inl z_9))] := hD
  have hP9 := hP.sub (ws' := [(h0, .inr (11, (F.set 12 (.int 0)))), (pv, .inr (6, P)), (ln, .inr (3, z_2)), (fo, .inl (k.2.1, 3, .inl z_3)), (ea, .inr (1, z_7)), (nw, .inl (k.2.1, 10, .inl z_8)), (kp, .inl (k.2.1, 410, .inl z_9)), (si, .inr (8, (Z.set 5 (.int 0))))]) [0, 1, 3, 4, 5, 6, 7, 2] rfl
  have hD9 := hD.sub (ws' := [(h0, .inr (11, (F.set 12 (.int 0)))), (pv, .inr (6, P)), (ln, .inr (3, z_2)), (fo, .inl (k.2.1, 3, .inl z_3)), (ea, .inr (1, z_7)), (nw, .inl (k.2.1, 10, .inl z_8)), (kp, .inl (k.2.1, 410, .inl z_9)), (si, .inr (8, (Z.set 5 (.int 0))))]) [0, 1, 3, 4, 5, 6, 7, 2] (by decide) rfl
  exact W.vret hx hb hr (fun t ht hW => ⟨⟨(), rfl, trivial, ⟨(F.set 12 (.int 0)), z_2, z_3, z_7, z_8, z_9, (Z.set 5 (.int 0)), (fs_ne g_F_paving (by decide)), (fs_ne g_F_spare (by decide)), (fs_ne g_F_taped (by decide)), (fs_eq g_F_lie), (fs_ne g_F_tape (by decide)), (fs_ne g_F_reader (by decide)), (fs_ne g_F_lines (by decide)), (fs_ne g_F_earnest (by decide)), (fs_ne g_F_sights (by decide)), g_4, g_5, g_10, g_11, g_12, g_13, g_14, g_15, g_16, g_17, g_18, g_19, g_20, g_21, g_22, (fs_eq g_Z_count), (fs_ne g_Z_time (by decide)), cB_of ht hP9 hD9⟩⟩, hS.F ht⟩) hS.2.2 dX11_startAnew_38
end
section
set_option maxHeartbeats 4000000 in
set_option maxRecDepth 100000 in
theorem c_X11_init (l : Launch) (D : va_G) (k : ClassId × ClassId × ClassId × ClassId) (sz : Nat) (h0 : Nat)  : Met l yX11_init (WS yX11_init cX11_init 1 none) ({ frames := 4, cells := 65, slots := 13750, locals := 101 }) (va_Pc [.ref h0] (cP D k [(h0, .inr (11, [.null, .null, .null, .null, .null, .null, .null, .null, .null, .null, .null, .int 0, .int 0]))] sz)) (va_Qv (fun _ : Unit => True) (fun (_ : Unit) t => ∃ (F : List Value), ∃ (pv : Nat), ∃ (P : List Value), ∃ (sl : Nat), ∃ (g1 : Nat → Int32), ∃ (sp : Nat), ∃ (P2 : List Value), ∃ (sl2 : Nat), ∃ (g2 : Nat → Int32), ∃ (tp : Nat), ∃ (g3 : Nat → Int32), ∃ (rd : Nat), ∃ (Rd : List Value), ∃ (tk : Nat), ∃ (K : List Value), ∃ (ln : Nat), ∃ (N : List Value), ∃ (fo : Nat), ∃ (g4 : Nat → Int32), ∃ (ea : Nat), ∃ (E : List Value), ∃ (nw : Nat), ∃ (f1 : Nat → Int32), ∃ (kp : Nat), ∃ (f2 : Nat → Int32), ∃ (bx : Nat), ∃ (f3 : Nat → Int32), ∃ (si : Nat), ∃ (Z : List Value), F[0]? = some (.ref pv) ∧ F[1]? = some (.ref sp) ∧ F[11]? = some (.int 0) ∧ F[12]? = some (.int 0) ∧ F[2]? = some (.ref tp) ∧ F[3]? = some (.ref rd) ∧ F[4]? = some (.ref ln) ∧ F[8]? = some (.ref ea) ∧ F[9]? = some (.ref si) ∧ P[10]? = some (.int 0) ∧ P[11]? = some (.int 0) ∧ P[12]? = some (.int 0) ∧ P[13]? = some (.int 0) ∧ P[14]? = some (.int 30) ∧ P[15]? = some (.int 10) ∧ P[16]? = some (.int 0) ∧ P[6]? = some (.ref sl) ∧ P[9]? = some (.int 0) ∧ g1 0 = 0 ∧ g1 1 = 1 ∧ g1 2 = 0 ∧ P2[10]? = some (.int 0) ∧ P2[11]? = some (.int 0) ∧ P2[12]? = some (.int 0) ∧ P2[13]? = some (.int 0) ∧ P2[14]? = some (.int 30) ∧ P2[15]? = some (.int 10) ∧ P2[16]? = some (.int 0) ∧ P2[6]? = some (.ref sl2) ∧ P2[9]? = some (.int 0) ∧ g2 0 = 0 ∧ g2 1 = 1 ∧ g2 2 = 0 ∧ Rd[0]? = some (.ref tk) ∧ Rd[5]? = some (.ref sp) ∧ Rd[6]? = some (.int 0) ∧ Rd[7]? = some (.int 0) ∧ Rd[8]? = some (.int 0) ∧ K[0]? = some (.ref tp) ∧ K[1]? = some (.int 0) ∧ K[2]? = some (.int 0) ∧ K[3]? = some (.int 0) ∧ K[4]? = some (.int 0) ∧ K[7]? = some (.int 0) ∧ K[8]? = some (.int (-1)) ∧ N[1]? = some (.ref fo) ∧ N[4]? = some (.ref pv) ∧ E[0]? = some (.ref nw) ∧ E[1]? = some (.ref kp) ∧ E[2]? = some (.ref bx) ∧ E[3]? = some (.int 0) ∧ E[4]? = some (.int 0) ∧ E[5]? = some (.int 0) ∧ f1 0 = (-1) ∧ f1 4 = 0 ∧ f1 5 = 0 ∧ f1 6 = 0 ∧ f1 7 = 0 ∧ f1 8 = 0 ∧ f1 9 = 0 ∧ Z[5]? = some (.int 0) ∧ Z[6]? = some (.int 0) ∧ cB D (va_A [(h0, .inr (11, [.null, .null, .null, .null, .null, .null, .null, .null, .null, .null, .null, .int 0, .int 0]))] sz) [(h0, .inr (11, F)), (pv, .inr (6, P)), (sl, .inl (k.2.1, 3, .inl g1)), (sp, .inr (6, P2)), (sl2, .inl (k.2.1, 3, .inl g2)), (tp, .inl (k.1, 1600, .inl g3)), (rd, .inr (7, Rd)), (tk, .inr (9, K)), (ln, .inr (3, N)), (fo, .inl (k.2.1, 3, .inl g4)), (ea, .inr (1, E)), (nw, .inl (k.2.1, 10, .inl f1)), (kp, .inl (k.2.1, 410, .inl f2)), (bx, .inl (k.2.1, 30, .inl f3)), (si, .inr (8, Z))] t) (va_A [(h0, .inr (11, [.null, .null, .null, .null, .null, .null, .null, .null, .null, .null, .null, .int 0, .int 0]))] sz)) 65 13750 (va_A [(h0, .inr (11, [.null, .null, .null, .null, .null, .null, .null, .null, .null, .null, .null, .int 0, .int 0]))] sz) := by
  refine Met.ofW (cc := cX11_init) (maxL := 1) (ret := none) (by decide) rfl ?_
  intro p e s m args below meth c s₁ B hml hv
  obtain ⟨rfl, hsz, hP, hKX, hD0⟩ := hv
  have hK := hKX.1
  have hx := B.exec
  have hb := B.bytes
  have hr := B.returns
  have hts := atoms_spec (ws := WS yX11_init cX11_init 1 none) B.pre
  have hgd : ∀ w ∈ gd, w ∈ WS yX11_init cX11_init 1 none := fun w h => List.mem_cons_of_mem _ h
  have hg : ∀ w ∈ gd, w.before _ s = true := fun w h => hts w (hgd w h)
  have hown : s.vm.findClass RX11 = some m.cls := findClass_of_methodNamed B.named
  have hlocks := B.notSynchronized
  have hin : meth.name = "<init>" := (name_of_methodNamed B.named B.method).1
  subst hsz
  have hD := hD0.self (sz := s.heap.size)
  generalize hAe : va_A [(h0, .inr (11, [.null, .null, .null, .null, .null, .null, .null, .null, .null, .null, .null, .int 0, .int 0]))] s.heap.size = A at hD ⊢
  have hA : ∀ q : Nat, s.heap.size ≤ q → A q := fun q h => by rw [← hAe]; exact Or.inr h
  have hS : va_S A s.heap s.heap [] := va_S.rf
  have hP : va_P D classes [(h0, .inr (11, [.null, .null, .null, .null, .null, .null, .null, .null, .null, .null, .null, .int 0, .int 0]))] s.heap := hP
  have hl := lv_entry ([.ref h0]) (n := 1) (Nat.le_of_ble_eq_true rfl)
  rw [lg_entry_eq]
  generalize (lg_sl ([.ref h0]) ++ List.replicate (1 - (lg_sl ([.ref h0])).length) Slot.unset).toArray = ls at hl ⊢
  have hl : lv_has ls 1 [(0, .ref h0)] := hl
  refine lv_aload_n hx hb dX11_init_0 rfl (lv_at hl 0 rfl) ?_
  refine W.objInit hx hb hown (hg (Cond.methodLink RX11 1 objectInit) m143) (hg (Cond.instanceMethod objectInit) m144) (hg (Cond.code objectInit ⟨#[0xb1]⟩ 1 none) m145) rfl (by rw [hml]; exact hl.1) rfl dX11_init_1 (Nat.le_of_ble_eq_true rfl) (Nat.le_of_ble_eq_true rfl) ?_
  refine W.eq (g2 := F0 m 4 ls []) rfl ?_
  refine lv_aload_n hx hb dX11_init_4 rfl (lv_at hl 0 rfl) ?_
  refine va_new (ci := 6) (fs := [.null, .null, .null, .null, .null, .null, .null, .null, .null, .int 0, .int 0, .int 0, .int 0, .int 0, .int 0, .int 0, .int 0]) (C := RX6) (T := TX6) (N := 17) hx hb hg iX6 tyX6 tyX6_ok hown (hg (Cond.classLink RX11 7 RX6) m146) (hg (Cond.instantiable RX6 17) m147) (hg (Cond.initialized RX6) m118) hK hP hD hS hA rfl (by decide) (Nat.le_of_ble_eq_true rfl) (Nat.le_of_ble_eq_true rfl) dX11_init_5 (fun q_1 H hP hD hS => ?_)
  have hP : va_P D classes [(h0, .inr (11, [.null, .null, .null, .null, .null, .null, .null, .null, .null, .null, .null, .int 0, .int 0])), (q_1, .inr (6, [.null, .null, .null, .null, .null, .null, .null, .null, .null, .int 0, .int 0, .int 0, .int 0, .int 0, .int 0, .int 0, .int 0]))] H := hP
  have hD : va_D A [(h0, .inr (11, [.null, .null, .null, .null, .null, .null, .null, .null, .null, .null, .null, .int 0, .int 0])), (q_1, .inr (6, [.null, .null, .null, .null, .null, .null, .null, .null, .null, .int 0, .int 0, .int 0, .int 0, .int 0, .int 0, .int 0, .int 0]))] := hD
  refine W.widen (k := 1) (n := 17) (Nat.le_of_ble_eq_true rfl) (Nat.le_of_ble_eq_true rfl) ?_
  refine lv_dup hx hb dX11_init_8 rfl ?_
  have hPc := hP.sub (ws' := [(q_1, .inr (6, [.null, .null, .null, .null, .null, .null, .null, .null, .null, .int 0, .int 0, .int 0, .int 0, .int 0, .int 0, .int 0, .int 0]))]) [1] rfl
  have hDc := hD.sub (ws' := [(q_1, .inr (6, [.null, .null, .null, .null, .null, .null, .null, .null, .null, .int 0, .int 0, .int 0, .int 0, .int 0, .int 0, .int 0, .int 0]))]) [1] (by decide) rfl
  have hFc := va_free (wc := [(q_1, .inr (6, [.null, .null, .null, .null, .null, .null, .null, .null, .null, .int 0, .int 0, .int 0, .int 0, .int 0, .int 0, .int 0, .int 0]))]) hD hS hA [1] rfl
  refine va_callv (va_runI (As := []) (rest := [.ref q_1, .ref h0]) ⟨hx, hb, hml, hown, hts⟩ (c_X6_init l D k H.size q_1 ) (cwI 0 hts (gd_in hgd (gd_WS m150)) rfl rfl rfl (hg (Cond.initialized RX6) m118) (hg (Cond.methodLink RX11 9 yX6_init) m148) (hg (Cond.instanceMethod yX6_init) m149) rfl (by decide +kernel) ⟨Nat.le_of_ble_eq_true rfl, Nat.le_of_ble_eq_true rfl⟩) (cP_S hPc hKX hDc) rfl rfl hl.1 rfl (lv_room (Nat.le_of_ble_eq_true rfl)) dX11_init_9 ⟨Nat.le_of_ble_eq_true rfl, Nat.le_of_ble_eq_true rfl⟩) hS (fun q _ h => hFc q h) hFc (fun u t H1 locs ht hvm hw hB hz1 hk1 hS => ?_)
  obtain ⟨z_3, z_4, z_5, g_6, g_7, g_8, g_9, g_10, g_11, g_12, g_13, g_14, g_15, g_16, g_17, hP1, hD1⟩ := hB
  rw [ht] at hP1
  obtain ⟨hP, hD⟩ := va_join (wr := [(h0, .inr (11, [.null, .null, .null, .null, .null, .null, .null, .null, .null, .null, .null, .int 0, .int 0]))]) (w1 := [(q_1, .inr (6, z_3)), (z_4, .inl (k.2.1, 3, .inl z_5))]) hP hD [1] [0] rfl rfl (by decide) (by decide) hk1 hFc hP1 hD1
  generalize H1 = H at hP hS ⊢
  have hP : va_P D classes [(h0, .inr (11, [.null, .null, .null, .null, .null, .null, .null, .null, .null, .null, .null, .int 0, .int 0])), (q_1, .inr (6, z_3)), (z_4, .inl (k.2.1, 3, .inl z_5))] H := hP
  have hD : va_D A [(h0, .inr (11, [.null, .null, .null, .null, .null, .null, .null, .null, .null, .null, .null, .int 0, .int 0])), (q_1, .inr (6, z_3)), (z_4, .inl (k.2.1, 3, .inl z_5))] := hD
  refine W.widen (k := 10) (n := 1826) (Nat.le_of_ble_eq_true rfl) (Nat.le_of_ble_eq_true rfl) ?_
  refine va_put (D := D) (ci := 11) (v := .ref q_1) (ty := (.object "SlabWalk$Paving")) (C := RX11) (T := TX11) (N := 13) hx hb hg iX11 tyX11 tyX11_ok nmX11 hown hK hP hD hS 0 rfl rfl 0 (by decide) (hg (Cond.fieldLink RX11 10 "SlabWalk" "paving" "LSlabWalk$Paving;") m570) (fun _ h9 => h9) rfl (by decide +kernel) rfl rfl (Nat.le_of_ble_eq_true rfl) dX11_init_12 (fun H locs hP hD hS => ?_)
  have hP : va_P D classes [(h0, .inr (11, [.ref q_1, .null, .null, .null, .null, .null, .null, .null, .null, .null, .null, .int 0, .int 0])), (q_1, .inr (6, z_3)), (z_4, .inl (k.2.1, 3, .inl z_5))] H := hP
  have hD : va_D A [(h0, .inr (11, [.ref q_1, .null, .null, .null, .null, .null, .null, .null, .null, .null, .null, .int 0, .int 0])), (q_1, .inr (6, z_3)), (z_4, .inl (k.2.1, 3, .inl z_5))] := hD
  refine lv_aload_n hx hb dX11_init_15 rfl (lv_at hl 0 rfl) ?_
  refine va_new (ci := 6) (fs := [.null, .null, .null, .null, .null, .null, .null, .null, .null, .int 0, .int 0, .int 0, .int 0, .int 0, .int 0, .int 0, .int 0]) (C := RX6) (T := TX6) (N := 17) hx hb hg iX6 tyX6 tyX6_ok hown (hg (Cond.classLink RX11 7 RX6) m146) (hg (Cond.instantiable RX6 17) m147) (hg (Cond.initialized RX6) m118) hK hP hD hS hA rfl (by decide) (Nat.le_of_ble_eq_true rfl) (Nat.le_of_ble_eq_true rfl) dX11_init_16 (fun q_18 H hP hD hS => ?_)
  have hP : va_P D classes [(h0, .inr (11, [.ref q_1, .null, .null, .null, .null, .null, .null, .null, .null, .null, .null, .int 0, .int 0])), (q_1, .inr (6, z_3)), (z_4, .inl (k.2.1, 3, .inl z_5)), (q_18, .inr (6, [.null, .null, .null, .null, .null, .null, .null, .null, .null, .int 0, .int 0, .int 0, .int 0, .int 0, .int 0, .int 0, .int 0]))] H := hP
  have hD : va_D A [(h0, .inr (11, [.ref q_1, .null, .null, .null, .null, .null, .null, .null, .null, .null, .null, .int 0, .int 0])), (q_1, .inr (6, z_3)), (z_4, .inl (k.2.1, 3, .inl z_5)), (q_18, .inr (6, [.null, .null, .null, .null, .null, .null, .null, .null, .null, .int 0, .int 0, .int 0, .int 0, .int 0, .int 0, .int 0, .int 0]))] := hD
  refine W.widen (k := 11) (n := 1843) (Nat.le_of_ble_eq_true rfl) (Nat.le_of_ble_eq_true rfl) ?_
  refine lv_dup hx hb dX11_init_19 rfl ?_
  have hPc := hP.sub (ws' := [(q_18, .inr (6, [.null, .null, .null, .null, .null, .null, .null, .null, .null, .int 0, .int 0, .int 0, .int 0, .int 0, .int 0, .int 0, .int 0]))]) [3] rfl
  have hDc := hD.sub (ws' := [(q_18, .inr (6, [.null, .null, .null, .null, .null, .null, .null, .null, .null, .int 0, .int 0, .int 0, .int 0, .int 0, .int 0, .int 0, .int 0]))]) [3] (by decide) rfl
  have hFc := va_free (wc := [(q_18, .inr (6, [.null, .null, .null, .null, .null, .null, .null, .null, .null, .int 0, .int 0, .int 0, .int 0, .int 0, .int 0, .int 0, .int 0]))]) hD hS hA [3] rfl
  refine va_callv (va_runI (As := []) (rest := [.ref q_18, .ref h0]) ⟨hx, hb, hml, hown, hts⟩ (c_X6_init l D k H.size q_18 ) (cwI 0 hts (gd_in hgd (gd_WS m150)) rfl rfl rfl (hg (Cond.initialized RX6) m118) (hg (Cond.methodLink RX11 9 yX6_init) m148) (hg (Cond.instanceMethod yX6_init) m149) rfl (by decide +kernel) ⟨Nat.le_of_ble_eq_true rfl, Nat.le_of_ble_eq_true rfl⟩) (cP_S hPc hKX hDc) rfl rfl hl.1 rfl (lv_room (Nat.le_of_ble_eq_true rfl)) dX11_init_20 ⟨Nat.le_of_ble_eq_true rfl, Nat.le_of_ble_eq_true rfl⟩) hS (fun q _ h => hFc q h) hFc (fun u t H1 locs ht hvm hw hB hz1 hk1 hS => ?_)
  obtain ⟨z_20, z_21, z_22, g_23, g_24, g_25, g_26, g_27, g_28, g_29, g_30, g_31, g_32, g_33, g_34, hP1, hD1⟩ := hB
  rw [ht] at hP1
  obtain ⟨hP, hD⟩ := va_join (wr := [(h0, .inr (11, [.ref q_1, .null, .null, .null, .null, .null, .null, .null, .null, .null, .null, .int 0, .int 0])), (q_1, .inr (6, z_3)), (z_4, .inl (k.2.1, 3, .inl z_5))]) (w1 := [(q_18, .inr (6, z_20)), (z_21, .inl (k.2.1, 3, .inl z_22))]) hP hD [3] [0, 1, 2] rfl rfl (by decide) (by decide) hk1 hFc hP1 hD1
  generalize H1 = H at hP hS ⊢
  have hP : va_P D classes [(h0, .inr (11, [.ref q_1, .null, .null, .null, .null, .null, .null, .null, .null, .null, .null, .int 0, .int 0])), (q_1, .inr (6, z_3)), (z_4, .inl (k.2.1, 3, .inl z_5)), (q_18, .inr (6, z_20)), (z_21, .inl (k.2.1, 3, .inl z_22))] H := hP
  have hD : va_D A [(h0, .inr (11, [.ref q_1, .null, .null, .null, .null, .null, .null, .null, .null, .null, .null, .int 0, .int 0])), (q_1, .inr (6, z_3)), (z_4, .inl (k.2.1, 3, .inl z_5)), (q_18, .inr (6, z_20)), (z_21, .inl (k.2.1, 3, .inl z_22))] := hD
  refine W.widen (k := 20) (n := 3652) (Nat.le_of_ble_eq_true rfl) (Nat.le_of_ble_eq_true rfl) ?_
  refine va_put (D := D) (ci := 11) (v := .ref q_18) (ty := (.object "SlabWalk$Paving")) (C := RX11) (T := TX11) (N := 13) hx hb hg iX11 tyX11 tyX11_ok nmX11 hown hK hP hD hS 0 rfl rfl 1 (by decide) (hg (Cond.fieldLink RX11 16 "SlabWalk" "spare" "LSlabWalk$Paving;") m571) (fun _ h9 => h9) rfl (by decide +kernel) rfl rfl (Nat.le_of_ble_eq_true rfl) dX11_init_23 (fun H locs hP hD hS => ?_)
  have hP : va_P D classes [(h0, .inr (11, [.ref q_1, .ref q_18, .null, .null, .null, .null, .null, .null, .null, .null, .null, .int 0, .int 0])), (q_1, .inr (6, z_3)), (z_4, .inl (k.2.1, 3, .inl z_5)), (q_18, .inr (6, z_20)), (z_21, .inl (k.2.1, 3, .inl z_22))] H := hP
  have hD : va_D A [(h0, .inr (11, [.ref q_1, .ref q_18, .null, .null, .null, .null, .null, .null, .null, .null, .null, .int 0, .int 0])), (q_1, .inr (6, z_3)), (z_4, .inl (k.2.1, 3, .inl z_5)), (q_18, .inr (6, z_20)), (z_21, .inl (k.2.1, 3, .inl z_22))] := hD
  refine lv_aload_n hx hb dX11_init_26 rfl (lv_at hl 0 rfl) ?_
  refine lv_sipush (v := 1600) hx hb dX11_init_27 (by decide) ?_
  refine va_newaT (atype := .byte) (ty := .byte) (a0 := (1600, .inl (fun _ => 0))) hx hb (hg (Cond.arrayClass .byte) m293) rfl ra_byte hK hP hD hS hA 0 rfl (fun _ => rfl) (by decide) (by decide) (Nat.le_of_ble_eq_true rfl) (Nat.le_of_ble_eq_true rfl) (Nat.le_of_ble_eq_true rfl) dX11_init_30 (fun q_35 H hP hD hS => ?_)
  have hP : va_P D classes [(h0, .inr (11, [.ref q_1, .ref q_18, .null, .null, .null, .null, .null, .null, .null, .null, .null, .int 0, .int 0])), (q_1, .inr (6, z_3)), (z_4, .inl (k.2.1, 3, .inl z_5)), (q_18, .inr (6, z_20)), (z_21, .inl (k.2.1, 3, .inl z_22)), (q_35, .inl (k.1, 1600, .inl (fun _ => 0)))] H := hP
  have hD : va_D A [(h0, .inr (11, [.ref q_1, .ref q_18, .null, .null, .null, .null, .null, .null, .null, .null, .null, .int 0, .int 0])), (q_1, .inr (6, z_3)), (z_4, .inl (k.2.1, 3, .inl z_5)), (q_18, .inr (6, z_20)), (z_21, .inl (k.2.1, 3, .inl z_22)), (q_35, .inl (k.1, 1600, .inl (fun _ => 0)))] := hD
  refine W.widen (k := 21) (n := 5252) (Nat.le_of_ble_eq_true rfl) (Nat.le_of_ble_eq_true rfl) ?_
  refine va_putF (D := D) (ci := 11) (v := .ref q_35) (ty := (.array .byte)) (C := RX11) (T := TX11) (N := 13) hx hb hg iX11 tyX11 tyX11_ok nmX11 hown hK hP hD hS 0 rfl rfl 2 (by decide) (hg (Cond.fieldLink RX11 19 "SlabWalk" "tape" "[B") m572) (fun _ h9 => h9) rfl hin rfl (by decide +kernel) rfl rfl (Nat.le_of_ble_eq_true rfl) dX11_init_32 (fun H locs hP hD hS => ?_)
  have hP : va_P D classes [(h0, .inr (11, [.ref q_1, .ref q_18, .ref q_35, .null, .null, .null, .null, .null, .null, .null, .null, .int 0, .int 0])), (q_1, .inr (6, z_3)), (z_4, .inl (k.2.1, 3, .inl z_5)), (q_18, .inr (6, z_20)), (z_21, .inl (k.2.1, 3, .inl z_22)), (q_35, .inl (k.1, 1600, .inl (fun _ => 0)))] H := hP
  have hD : va_D A [(h0, .inr (11, [.ref q_1, .ref q_18, .ref q_35, .null, .null, .null, .null, .null, .null, .null, .null, .int 0, .int 0])), (q_1, .inr (6, z_3)), (z_4, .inl (k.2.1, 3, .inl z_5)), (q_18, .inr (6, z_20)), (z_21, .inl (k.2.1, 3, .inl z_22)), (q_35, .inl (k.1, 1600, .inl (fun _ => 0)))] := hD
  refine lv_aload_n hx hb dX11_init_35 rfl (lv_at hl 0 rfl) ?_
  refine va_new (ci := 7) (fs := [.null, .null, .null, .null, .null, .null, .int 0, .int 0, .int 0, .int 0]) (C := RX7) (T := TX7) (N := 10) hx hb hg iX7 tyX7 tyX7_ok hown (hg (Cond.classLink RX11 23 RX7) m246) (hg (Cond.instantiable RX7 10) m247) (hg (Cond.initialized RX7) m119) hK hP hD hS hA rfl (by decide) (Nat.le_of_ble_eq_true rfl) (Nat.le_of_ble_eq_true rfl) dX11_init_36 (fun q_36 H hP hD hS => ?_)
  have hP : va_P D classes [(h0, .inr (11, [.ref q_1, .ref q_18, .ref q_35, .null, .null, .null, .null, .null, .null, .null, .null, .int 0, .int 0])), (q_1, .inr (6, z_3)), (z_4, .inl (k.2.1, 3, .inl z_5)), (q_18, .inr (6, z_20)), (z_21, .inl (k.2.1, 3, .inl z_22)), (q_35, .inl (k.1, 1600, .inl (fun _ => 0))), (q_36, .inr (7, [.null, .null, .null, .null, .null, .null, .int 0, .int 0, .int 0, .int 0]))] H := hP
  have hD : va_D A [(h0, .inr (11, [.ref q_1, .ref q_18, .ref q_35, .null, .null, .null, .null, .null, .null, .null, .null, .int 0, .int 0])), (q_1, .inr (6, z_3)), (z_4, .inl (k.2.1, 3, .inl z_5)), (q_18, .inr (6, z_20)), (z_21, .inl (k.2.1, 3, .inl z_22)), (q_35, .inl (k.1, 1600, .inl (fun _ => 0))), (q_36, .inr (7, [.null, .null, .null, .null, .null, .null, .int 0, .int 0, .int 0, .int 0]))] := hD
  refine W.widen (k := 22) (n := 5262) (Nat.le_of_ble_eq_true rfl) (Nat.le_of_ble_eq_true rfl) ?_
  refine lv_dup hx hb dX11_init_39 rfl ?_
  refine lv_aload_n hx hb dX11_init_40 rfl (lv_at hl 0 rfl) ?_
  refine va_get (D := D) (ci := 11) (v := .ref q_35) (C := RX11) (T := TX11) (N := 13) hx hb hg iX11 hown hK hP 0 rfl rfl 2 (by decide) (hg (Cond.fieldLink RX11 19 "SlabWalk" "tape" "[B") m572) (fun _ h9 => h9) rfl dX11_init_41 ?_
  refine lv_aload_n hx hb dX11_init_44 rfl (lv_at hl 0 rfl) ?_
  refine va_get (D := D) (ci := 11) (v := .ref q_18) (C := RX11) (T := TX11) (N := 13) hx hb hg iX11 hown hK hP 0 rfl rfl 1 (by decide) (hg (Cond.fieldLink RX11 16 "SlabWalk" "spare" "LSlabWalk$Paving;") m571) (fun _ h9 => h9) rfl dX11_init_45 ?_
  have hPc := hP.sub (ws' := [(q_36, .inr (7, [.null, .null, .null, .null, .null, .null, .int 0, .int 0, .int 0, .int 0]))]) [6] rfl
  have hDc := hD.sub (ws' := [(q_36, .inr (7, [.null, .null, .null, .null, .null, .null, .int 0, .int 0, .int 0, .int 0]))]) [6] (by decide) rfl
  have hFc := va_free (wc := [(q_36, .inr (7, [.null, .null, .null, .null, .null, .null, .int 0, .int 0, .int 0, .int 0]))]) hD hS hA [6] rfl
  refine va_callv (va_runI (As := [.ref q_35, .ref q_18]) (rest := [.ref q_36, .ref h0]) ⟨hx, hb, hml, hown, hts⟩ (c_X7_init l D k H.size q_36 q_35 q_18 ) (cwI 2 hts (gd_in hgd (gd_WS m250)) rfl rfl rfl (hg (Cond.initialized RX7) m119) (hg (Cond.methodLink RX11 25 yX7_init) m248) (hg (Cond.instanceMethod yX7_init) m249) rfl (by decide +kernel) ⟨Nat.le_of_ble_eq_true rfl, Nat.le_of_ble_eq_true rfl⟩) (cP_S hPc hKX hDc) rfl rfl hl.1 rfl (lv_room (Nat.le_of_ble_eq_true rfl)) dX11_init_48 ⟨Nat.le_of_ble_eq_true rfl, Nat.le_of_ble_eq_true rfl⟩) hS (fun q _ h => hFc q h) hFc (fun u t H1 locs ht hvm hw hB hz1 hk1 hS => ?_)
  obtain ⟨z_38, z_39, z_40, g_41, g_42, g_43, g_44, g_45, g_46, g_47, g_48, g_49, g_50, g_51, g_52, hP1, hD1⟩ := hB
  rw [ht] at hP1
  obtain ⟨hP, hD⟩ := va_join (wr := [(h0, .inr (11, [.ref q_1, .ref q_18, .ref q_35, .null, .null, .null, .null, .null, .null, .null, .null, .int 0, .int 0])), (q_1, .inr (6, z_3)), (z_4, .inl (k.2.1, 3, .inl z_5)), (q_18, .inr (6, z_20)), (z_21, .inl (k.2.1, 3, .inl z_22)), (q_35, .inl (k.1, 1600, .inl (fun _ => 0)))]) (w1 := [(q_36, .inr (7, z_38)), (z_39, .inr (9, z_40))]) hP hD [6] [0, 1, 2, 3, 4, 5] rfl rfl (by decide) (by decide) hk1 hFc hP1 hD1
  generalize H1 = H at hP hS ⊢
  have hP : va_P D classes [(h0, .inr (11, [.ref q_1, .ref q_18, .ref q_35, .null, .null, .null, .null, .null, .null, .null, .null, .int 0, .int 0])), (q_1, .inr (6, z_3)), (z_4, .inl (k.2.1, 3, .inl z_5)), (q_18, .inr (6, z_20)), (z_21, .inl (k.2.1, 3, .inl z_22)), (q_35, .inl (k.1, 1600, .inl (fun _ => 0))), (q_36, .inr (7, z_38)), (z_39, .inr (9, z_40))] H := hP
  have hD : va_D A [(h0, .inr (11, [.ref q_1, .ref q_18, .ref q_35, .null, .null, .null, .null, .null, .null, .null, .null, .int 0, .int 0])), (q_1, .inr (6, z_3)), (z_4, .inl (k.2.1, 3, .inl z_5)), (q_18, .inr (6, z_20)), (z_21, .inl (k.2.1, 3, .inl z_22)), (q_35, .inl (k.1, 1600, .inl (fun _ => 0))), (q_36, .inr (7, z_38)), (z_39, .inr (9, z_40))] := hD
  refine W.widen (k := 27) (n := 5287) (Nat.le_of_ble_eq_true rfl) (Nat.le_of_ble_eq_true rfl) ?_
  refine va_putF (D := D) (ci := 11) (v := .ref q_36) (ty := (.object "SlabWalk$Reader")) (C := RX11) (T := TX11) (N := 13) hx hb hg iX11 tyX11 tyX11_ok nmX11 hown hK hP hD hS 0 rfl rfl 3 (by decide) (hg (Cond.fieldLink RX11 28 "SlabWalk" "reader" "LSlabWalk$Reader;") m573) (fun _ h9 => h9) rfl hin rfl (by decide +kernel) rfl rfl (Nat.le_of_ble_eq_true rfl) dX11_init_51 (fun H locs hP hD hS => ?_)
  have hP : va_P D classes [(h0, .inr (11, [.ref q_1, .ref q_18, .ref q_35, .ref q_36, .null, .null, .null, .null, .null, .null, .null, .int 0, .int 0])), (q_1, .inr (6, z_3)), (z_4, .inl (k.2.1, 3, .inl z_5)), (q_18, .inr (6, z_20)), (z_21, .inl (k.2.1, 3, .inl z_22)), (q_35, .inl (k.1, 1600, .inl (fun _ => 0))), (q_36, .inr (7, z_38)), (z_39, .inr (9, z_40))] H := hP
  have hD : va_D A [(h0, .inr (11, [.ref q_1, .ref q_18, .ref q_35, .ref q_36, .null, .null, .null, .null, .null, .null, .null, .int 0, .int 0])), (q_1, .inr (6, z_3)), (z_4, .inl (k.2.1, 3, .inl z_5)), (q_18, .inr (6, z_20)), (z_21, .inl (k.2.1, 3, .inl z_22)), (q_35, .inl (k.1, 1600, .inl (fun _ => 0))), (q_36, .inr (7, z_38)), (z_39, .inr (9, z_40))] := hD
  refine lv_aload_n hx hb dX11_init_54 rfl (lv_at hl 0 rfl) ?_
  refine va_new (ci := 3) (fs := [.null, .null, .null, .int 0, .null]) (C := RX3) (T := TX3) (N := 5) hx hb hg iX3 tyX3 tyX3_ok hown (hg (Cond.classLink RX11 32 RX3) m343) (hg (Cond.instantiable RX3 5) m344) (hg (Cond.initialized RX3) m122) hK hP hD hS hA rfl (by decide) (Nat.le_of_ble_eq_true rfl) (Nat.le_of_ble_eq_true rfl) dX11_init_55 (fun q_53 H hP hD hS => ?_)
  have hP : va_P D classes [(h0, .inr (11, [.ref q_1, .ref q_18, .ref q_35, .ref q_36, .null, .null, .null, .null, .null, .null, .null, .int 0, .int 0])), (q_1, .inr (6, z_3)), (z_4, .inl (k.2.1, 3, .inl z_5)), (q_18, .inr (6, z_20)), (z_21, .inl (k.2.1, 3, .inl z_22)), (q_35, .inl (k.1, 1600, .inl (fun _ => 0))), (q_36, .inr (7, z_38)), (z_39, .inr (9, z_40)), (q_53, .inr (3, [.null, .null, .null, .int 0, .null]))] H := hP
  have hD : va_D A [(h0, .inr (11, [.ref q_1, .ref q_18, .ref q_35, .ref q_36, .null, .null, .null, .null, .null, .null, .null, .int 0, .int 0])), (q_1, .inr (6, z_3)), (z_4, .inl (k.2.1, 3, .inl z_5)), (q_18, .inr (6, z_20)), (z_21, .inl (k.2.1, 3, .inl z_22)), (q_35, .inl (k.1, 1600, .inl (fun _ => 0))), (q_36, .inr (7, z_38)), (z_39, .inr (9, z_40)), (q_53, .inr (3, [.null, .null, .null, .int 0, .null]))] := hD
  refine W.widen (k := 28) (n := 5292) (Nat.le_of_ble_eq_true rfl) (Nat.le_of_ble_eq_true rfl) ?_
  refine lv_dup hx hb dX11_init_58 rfl ?_
  refine lv_aload_n hx hb dX11_init_59 rfl (lv_at hl 0 rfl) ?_
  refine va_get (D := D) (ci := 11) (v := .ref q_1) (C := RX11) (T := TX11) (N := 13) hx hb hg iX11 hown hK hP 0 rfl rfl 0 (by decide) (hg (Cond.fieldLink RX11 10 "SlabWalk" "paving" "LSlabWalk$Paving;") m570) (fun _ h9 => h9) rfl dX11_init_60 ?_
  have hPc := hP.sub (ws' := [(q_53, .inr (3, [.null, .null, .null, .int 0, .null]))]) [8] rfl
  have hDc := hD.sub (ws' := [(q_53, .inr (3, [.null, .null, .null, .int 0, .null]))]) [8] (by decide) rfl
  have hFc := va_free (wc := [(q_53, .inr (3, [.null, .null, .null, .int 0, .null]))]) hD hS hA [8] rfl
  refine va_callv (va_runI (As := [.ref q_1]) (rest := [.ref q_53, .ref h0]) ⟨hx, hb, hml, hown, hts⟩ (c_X3_init l D k H.size q_53 q_1 ) (cwI 1 hts (gd_in hgd (gd_WS m347)) rfl rfl rfl (hg (Cond.initialized RX3) m122) (hg (Cond.methodLink RX11 34 yX3_init) m345) (hg (Cond.instanceMethod yX3_init) m346) rfl (by decide +kernel) ⟨Nat.le_of_ble_eq_true rfl, Nat.le_of_ble_eq_true rfl⟩) (cP_S hPc hKX hDc) rfl rfl hl.1 rfl (lv_room (Nat.le_of_ble_eq_true rfl)) dX11_init_63 ⟨Nat.le_of_ble_eq_true rfl, Nat.le_of_ble_eq_true rfl⟩) hS (fun q _ h => hFc q h) hFc (fun u t H1 locs ht hvm hw hB hz1 hk1 hS => ?_)
  obtain ⟨z_55, z_56, z_57, g_58, g_59, hP1, hD1⟩ := hB
  rw [ht] at hP1
  obtain ⟨hP, hD⟩ := va_join (wr := [(h0, .inr (11, [.ref q_1, .ref q_18, .ref q_35, .ref q_36, .null, .null, .null, .null, .null, .null, .null, .int 0, .int 0])), (q_1, .inr (6, z_3)), (z_4, .inl (k.2.1, 3, .inl z_5)), (q_18, .inr (6, z_20)), (z_21, .inl (k.2.1, 3, .inl z_22)), (q_35, .inl (k.1, 1600, .inl (fun _ => 0))), (q_36, .inr (7, z_38)), (z_39, .inr (9, z_40))]) (w1 := [(q_53, .inr (3, z_55)), (z_56, .inl (k.2.1, 3, .inl z_57))]) hP hD [8] [0, 1, 2, 3, 4, 5, 6, 7] rfl rfl (by decide) (by decide) hk1 hFc hP1 hD1
  generalize H1 = H at hP hS ⊢
  have hP : va_P D classes [(h0, .inr (11, [.ref q_1, .ref q_18, .ref q_35, .ref q_36, .null, .null, .null, .null, .null, .null, .null, .int 0, .int 0])), (q_1, .inr (6, z_3)), (z_4, .inl (k.2.1, 3, .inl z_5)), (q_18, .inr (6, z_20)), (z_21, .inl (k.2.1, 3, .inl z_22)), (q_35, .inl (k.1, 1600, .inl (fun _ => 0))), (q_36, .inr (7, z_38)), (z_39, .inr (9, z_40)), (q_53, .inr (3, z_55)), (z_56, .inl (k.2.1, 3, .inl z_57))] H := hP
  have hD : va_D A [(h0, .inr (11, [.ref q_1, .ref q_18, .ref q_35, .ref q_36, .null, .null, .null, .null, .null, .null, .null, .int 0, .int 0])), (q_1, .inr (6, z_3)), (z_4, .inl (k.2.1, 3, .inl z_5)), (q_18, .inr (6, z_20)), (z_21, .inl (k.2.1, 3, .inl z_22)), (q_35, .inl (k.1, 1600, .inl (fun _ => 0))), (q_36, .inr (7, z_38)), (z_39, .inr (9, z_40)), (q_53, .inr (3, z_55)), (z_56, .inl (k.2.1, 3, .inl z_57))] := hD
  refine W.widen (k := 31) (n := 6595) (Nat.le_of_ble_eq_true rfl) (Nat.le_of_ble_eq_true rfl) ?_
  refine va_putF (D := D) (ci := 11) (v := .ref q_53) (ty := (.object "SlabWalk$Lines")) (C := RX11) (T := TX11) (N := 13) hx hb hg iX11 tyX11 tyX11_ok nmX11 hown hK hP hD hS 0 rfl rfl 4 (by decide) (hg (Cond.fieldLink RX11 37 "SlabWalk" "lines" "LSlabWalk$Lines;") m574) (fun _ h9 => h9) rfl hin rfl (by decide +kernel) rfl rfl (Nat.le_of_ble_eq_true rfl) dX11_init_66 (fun H locs hP hD hS => ?_)
  have hP : va_P D classes [(h0, .inr (11, [.ref q_1, .ref q_18, .ref q_35, .ref q_36, .ref q_53, .null, .null, .null, .null, .null, .null, .int 0, .int 0])), (q_1, .inr (6, z_3)), (z_4, .inl (k.2.1, 3, .inl z_5)), (q_18, .inr (6, z_20)), (z_21, .inl (k.2.1, 3, .inl z_22)), (q_35, .inl (k.1, 1600, .inl (fun _ => 0))), (q_36, .inr (7, z_38)), (z_39, .inr (9, z_40)), (q_53, .inr (3, z_55)), (z_56, .inl (k.2.1, 3, .inl z_57))] H := hP
  have hD : va_D A [(h0, .inr (11, [.ref q_1, .ref q_18, .ref q_35, .ref q_36, .ref q_53, .null, .null, .null, .null, .null, .null, .int 0, .int 0])), (q_1, .inr (6, z_3)), (z_4, .inl (k.2.1, 3, .inl z_5)), (q_18, .inr (6, z_20)), (z_21, .inl (k.2.1, 3, .inl z_22)), (q_35, .inl (k.1, 1600, .inl (fun _ => 0))), (q_36, .inr (7, z_38)), (z_39, .inr (9, z_40)), (q_53, .inr (3, z_55)), (z_56, .inl (k.2.1, 3, .inl z_57))] := hD
  refine lv_aload_n hx hb dX11_init_69 rfl (lv_at hl 0 rfl) ?_
  refine va_new (ci := 0) (fs := [.null, .int 0, .int 0, .int 0, .int 0, .int 0, .int 0, .int 0]) (C := RX0) (T := TX0) (N := 8) hx hb hg iX0 tyX0 tyX0_ok hown (hg (Cond.classLink RX11 41 RX0) m365) (hg (Cond.instantiable RX0 8) m366) (hg (Cond.initialized RX0) m123) hK hP hD hS hA rfl (by decide) (Nat.le_of_ble_eq_true rfl) (Nat.le_of_ble_eq_true rfl) dX11_init_70 (fun q_60 H hP hD hS => ?_)
  have hP : va_P D classes [(h0, .inr (11, [.ref q_1, .ref q_18, .ref q_35, .ref q_36, .ref q_53, .null, .null, .null, .null, .null, .null, .int 0, .int 0])), (q_1, .inr (6, z_3)), (z_4, .inl (k.2.1, 3, .inl z_5)), (q_18, .inr (6, z_20)), (z_21, .inl (k.2.1, 3, .inl z_22)), (q_35, .inl (k.1, 1600, .inl (fun _ => 0))), (q_36, .inr (7, z_38)), (z_39, .inr (9, z_40)), (q_53, .inr (3, z_55)), (z_56, .inl (k.2.1, 3, .inl z_57)), (q_60, .inr (0, [.null, .int 0, .int 0, .int 0, .int 0, .int 0, .int 0, .int 0]))] H := hP
  have hD : va_D A [(h0, .inr (11, [.ref q_1, .ref q_18, .ref q_35, .ref q_36, .ref q_53, .null, .null, .null, .null, .null, .null, .int 0, .int 0])), (q_1, .inr (6, z_3)), (z_4, .inl (k.2.1, 3, .inl z_5)), (q_18, .inr (6, z_20)), (z_21, .inl (k.2.1, 3, .inl z_22)), (q_35, .inl (k.1, 1600, .inl (fun _ => 0))), (q_36, .inr (7, z_38)), (z_39, .inr (9, z_40)), (q_53, .inr (3, z_55)), (z_56, .inl (k.2.1, 3, .inl z_57)), (q_60, .inr (0, [.null, .int 0, .int 0, .int 0, .int 0, .int 0, .int 0, .int 0]))] := hD
  refine W.widen (k := 32) (n := 6603) (Nat.le_of_ble_eq_true rfl) (Nat.le_of_ble_eq_true rfl) ?_
  refine lv_dup hx hb dX11_init_73 rfl ?_
  have hPc := hP.sub (ws' := [(q_60, .inr (0, [.null, .int 0, .int 0, .int 0, .int 0, .int 0, .int 0, .int 0]))]) [10] rfl
  have hDc := hD.sub (ws' := [(q_60, .inr (0, [.null, .int 0, .int 0, .int 0, .int 0, .int 0, .int 0, .int 0]))]) [10] (by decide) rfl
  have hFc := va_free (wc := [(q_60, .inr (0, [.null, .int 0, .int 0, .int 0, .int 0, .int 0, .int 0, .int 0]))]) hD hS hA [10] rfl
  refine va_callv (va_runIN (As := []) (rest := [.ref q_60, .ref h0]) ⟨hx, hb, hml, hown, hts⟩ (c_X0_init l D k H.size q_60 ) ⟨va_cnB 0 hts (gd_in hgd (gd_WS m369)) rfl rfl rfl hKX.2.2.1 (hg (Cond.initialized RX0) m123) (by decide +kernel) ⟨Nat.le_of_ble_eq_true rfl, Nat.le_of_ble_eq_true rfl⟩, rfl, (hg (Cond.instanceMethod yX0_init) m368)⟩ (cP_S hPc hKX hDc) rfl rfl hl.1 rfl (lv_room (Nat.le_of_ble_eq_true rfl)) dX11_init_74 ⟨Nat.le_of_ble_eq_true rfl, Nat.le_of_ble_eq_true rfl⟩) hS (fun q _ h => hFc q h) hFc (fun u t H1 locs ht hvm hw hB hz1 hk1 hS => ?_)
  obtain ⟨hP1, hD1⟩ := hB
  rw [ht] at hP1
  obtain ⟨hP, hD⟩ := va_join (wr := [(h0, .inr (11, [.ref q_1, .ref q_18, .ref q_35, .ref q_36, .ref q_53, .null, .null, .null, .null, .null, .null, .int 0, .int 0])), (q_1, .inr (6, z_3)), (z_4, .inl (k.2.1, 3, .inl z_5)), (q_18, .inr (6, z_20)), (z_21, .inl (k.2.1, 3, .inl z_22)), (q_35, .inl (k.1, 1600, .inl (fun _ => 0))), (q_36, .inr (7, z_38)), (z_39, .inr (9, z_40)), (q_53, .inr (3, z_55)), (z_56, .inl (k.2.1, 3, .inl z_57))]) (w1 := []) hP hD [10] [0, 1, 2, 3, 4, 5, 6, 7, 8, 9] rfl rfl (by decide) (by decide) hk1 hFc hP1 hD1
  generalize H1 = H at hP hS ⊢
  have hP : va_P D classes [(h0, .inr (11, [.ref q_1, .ref q_18, .ref q_35, .ref q_36, .ref q_53, .null, .null, .null, .null, .null, .null, .int 0, .int 0])), (q_1, .inr (6, z_3)), (z_4, .inl (k.2.1, 3, .inl z_5)), (q_18, .inr (6, z_20)), (z_21, .inl (k.2.1, 3, .inl z_22)), (q_35, .inl (k.1, 1600, .inl (fun _ => 0))), (q_36, .inr (7, z_38)), (z_39, .inr (9, z_40)), (q_53, .inr (3, z_55)), (z_56, .inl (k.2.1, 3, .inl z_57))] H := hP
  have hD : va_D A [(h0, .inr (11, [.ref q_1, .ref q_18, .ref q_35, .ref q_36, .ref q_53, .null, .null, .null, .null, .null, .null, .int 0, .int 0])), (q_1, .inr (6, z_3)), (z_4, .inl (k.2.1, 3, .inl z_5)), (q_18, .inr (6, z_20)), (z_21, .inl (k.2.1, 3, .inl z_22)), (q_35, .inl (k.1, 1600, .inl (fun _ => 0))), (q_36, .inr (7, z_38)), (z_39, .inr (9, z_40)), (q_53, .inr (3, z_55)), (z_56, .inl (k.2.1, 3, .inl z_57))] := hD
  refine W.widen (k := 33) (n := 7003) (Nat.le_of_ble_eq_true rfl) (Nat.le_of_ble_eq_true rfl) ?_
  refine va_putF (D := D) (ci := 11) (v := .ref q_60) (ty := (.object "SlabWalk$Course")) (C := RX11) (T := TX11) (N := 13) hx hb hg iX11 tyX11 tyX11_ok nmX11 hown hK hP hD hS 0 rfl rfl 5 (by decide) (hg (Cond.fieldLink RX11 44 "SlabWalk" "course" "LSlabWalk$Course;") m575) (fun _ h9 => h9) rfl hin rfl (by decide +kernel) rfl rfl (Nat.le_of_ble_eq_true rfl) dX11_init_77 (fun H locs hP hD hS => ?_)
  have hP : va_P D classes [(h0, .inr (11, [.ref q_1, .ref q_18, .ref q_35, .ref q_36, .ref q_53, .ref q_60, .null, .null, .null, .null, .null, .int 0, .int 0])), (q_1, .inr (6, z_3)), (z_4, .inl (k.2.1, 3, .inl z_5)), (q_18, .inr (6, z_20)), (z_21, .inl (k.2.1, 3, .inl z_22)), (q_35, .inl (k.1, 1600, .inl (fun _ => 0))), (q_36, .inr (7, z_38)), (z_39, .inr (9, z_40)), (q_53, .inr (3, z_55)), (z_56, .inl (k.2.1, 3, .inl z_57))] H := hP
  have hD : va_D A [(h0, .inr (11, [.ref q_1, .ref q_18, .ref q_35, .ref q_36, .ref q_53, .ref q_60, .null, .null, .null, .null, .null, .int 0, .int 0])), (q_1, .inr (6, z_3)), (z_4, .inl (k.2.1, 3, .inl z_5)), (q_18, .inr (6, z_20)), (z_21, .inl (k.2.1, 3, .inl z_22)), (q_35, .inl (k.1, 1600, .inl (fun _ => 0))), (q_36, .inr (7, z_38)), (z_39, .inr (9, z_40)), (q_53, .inr (3, z_55)), (z_56, .inl (k.2.1, 3, .inl z_57))] := hD
  refine lv_aload_n hx hb dX11_init_80 rfl (lv_at hl 0 rfl) ?_
  refine va_new (ci := 10) (fs := [.null, .null, .null, .null, .null]) (C := RX10) (T := TX10) (N := 5) hx hb hg iX10 tyX10 tyX10_ok hown (hg (Cond.classLink RX11 48 RX10) m413) (hg (Cond.instantiable RX10 5) m414) (hg (Cond.initialized RX10) m124) hK hP hD hS hA rfl (by decide) (Nat.le_of_ble_eq_true rfl) (Nat.le_of_ble_eq_true rfl) dX11_init_81 (fun q_62 H hP hD hS => ?_)
  have hP : va_P D classes [(h0, .inr (11, [.ref q_1, .ref q_18, .ref q_35, .ref q_36, .ref q_53, .ref q_60, .null, .null, .null, .null, .null, .int 0, .int 0])), (q_1, .inr (6, z_3)), (z_4, .inl (k.2.1, 3, .inl z_5)), (q_18, .inr (6, z_20)), (z_21, .inl (k.2.1, 3, .inl z_22)), (q_35, .inl (k.1, 1600, .inl (fun _ => 0))), (q_36, .inr (7, z_38)), (z_39, .inr (9, z_40)), (q_53, .inr (3, z_55)), (z_56, .inl (k.2.1, 3, .inl z_57)), (q_62, .inr (10, [.null, .null, .null, .null, .null]))] H := hP
  have hD : va_D A [(h0, .inr (11, [.ref q_1, .ref q_18, .ref q_35, .ref q_36, .ref q_53, .ref q_60, .null, .null, .null, .null, .null, .int 0, .int 0])), (q_1, .inr (6, z_3)), (z_4, .inl (k.2.1, 3, .inl z_5)), (q_18, .inr (6, z_20)), (z_21, .inl (k.2.1, 3, .inl z_22)), (q_35, .inl (k.1, 1600, .inl (fun _ => 0))), (q_36, .inr (7, z_38)), (z_39, .inr (9, z_40)), (q_53, .inr (3, z_55)), (z_56, .inl (k.2.1, 3, .inl z_57)), (q_62, .inr (10, [.null, .null, .null, .null, .null]))] := hD
  refine W.widen (k := 34) (n := 7008) (Nat.le_of_ble_eq_true rfl) (Nat.le_of_ble_eq_true rfl) ?_
  refine lv_dup hx hb dX11_init_84 rfl ?_
  have hPc := hP.sub (ws' := [(q_62, .inr (10, [.null, .null, .null, .null, .null]))]) [10] rfl
  have hDc := hD.sub (ws' := [(q_62, .inr (10, [.null, .null, .null, .null, .null]))]) [10] (by decide) rfl
  have hFc := va_free (wc := [(q_62, .inr (10, [.null, .null, .null, .null, .null]))]) hD hS hA [10] rfl
  refine va_callv (va_runIN (As := []) (rest := [.ref q_62, .ref h0]) ⟨hx, hb, hml, hown, hts⟩ (c_X10_init l D k H.size q_62 ) ⟨va_cnB 0 hts (gd_in hgd (gd_WS m417)) rfl rfl rfl hKX.2.2.2.1 (hg (Cond.initialized RX10) m124) (by decide +kernel) ⟨Nat.le_of_ble_eq_true rfl, Nat.le_of_ble_eq_true rfl⟩, rfl, (hg (Cond.instanceMethod yX10_init) m416)⟩ (cP_S hPc hKX hDc) rfl rfl hl.1 rfl (lv_room (Nat.le_of_ble_eq_true rfl)) dX11_init_85 ⟨Nat.le_of_ble_eq_true rfl, Nat.le_of_ble_eq_true rfl⟩) hS (fun q _ h => hFc q h) hFc (fun u t H1 locs ht hvm hw hB hz1 hk1 hS => ?_)
  obtain ⟨hP1, hD1⟩ := hB
  rw [ht] at hP1
  obtain ⟨hP, hD⟩ := va_join (wr := [(h0, .inr (11, [.ref q_1, .ref q_18, .ref q_35, .ref q_36, .ref q_53, .ref q_60, .null, .null, .null, .null, .null, .int 0, .int 0])), (q_1, .inr (6, z_3)), (z_4, .inl (k.2.1, 3, .inl z_5)), (q_18, .inr (6, z_20)), (z_21, .inl (k.2.1, 3, .inl z_22)), (q_35, .inl (k.1, 1600, .inl (fun _ => 0))), (q_36, .inr (7, z_38)), (z_39, .inr (9, z_40)), (q_53, .inr (3, z_55)), (z_56, .inl (k.2.1, 3, .inl z_57))]) (w1 := []) hP hD [10] [0, 1, 2, 3, 4, 5, 6, 7, 8, 9] rfl rfl (by decide) (by decide) hk1 hFc hP1 hD1
  generalize H1 = H at hP hS ⊢
  have hP : va_P D classes [(h0, .inr (11, [.ref q_1, .ref q_18, .ref q_35, .ref q_36, .ref q_53, .ref q_60, .null, .null, .null, .null, .null, .int 0, .int 0])), (q_1, .inr (6, z_3)), (z_4, .inl (k.2.1, 3, .inl z_5)), (q_18, .inr (6, z_20)), (z_21, .inl (k.2.1, 3, .inl z_22)), (q_35, .inl (k.1, 1600, .inl (fun _ => 0))), (q_36, .inr (7, z_38)), (z_39, .inr (9, z_40)), (q_53, .inr (3, z_55)), (z_56, .inl (k.2.1, 3, .inl z_57))] H := hP
  have hD : va_D A [(h0, .inr (11, [.ref q_1, .ref q_18, .ref q_35, .ref q_36, .ref q_53, .ref q_60, .null, .null, .null, .null, .null, .int 0, .int 0])), (q_1, .inr (6, z_3)), (z_4, .inl (k.2.1, 3, .inl z_5)), (q_18, .inr (6, z_20)), (z_21, .inl (k.2.1, 3, .inl z_22)), (q_35, .inl (k.1, 1600, .inl (fun _ => 0))), (q_36, .inr (7, z_38)), (z_39, .inr (9, z_40)), (q_53, .inr (3, z_55)), (z_56, .inl (k.2.1, 3, .inl z_57))] := hD
  refine W.widen (k := 47) (n := 10356) (Nat.le_of_ble_eq_true rfl) (Nat.le_of_ble_eq_true rfl) ?_
  refine va_putF (D := D) (ci := 11) (v := .ref q_62) (ty := (.object "SlabWalk$Trails")) (C := RX11) (T := TX11) (N := 13) hx hb hg iX11 tyX11 tyX11_ok nmX11 hown hK hP hD hS 0 rfl rfl 6 (by decide) (hg (Cond.fieldLink RX11 51 "SlabWalk" "trails" "LSlabWalk$Trails;") m576) (fun _ h9 => h9) rfl hin rfl (by decide +kernel) rfl rfl (Nat.le_of_ble_eq_true rfl) dX11_init_88 (fun H locs hP hD hS => ?_)
  have hP : va_P D classes [(h0, .inr (11, [.ref q_1, .ref q_18, .ref q_35, .ref q_36, .ref q_53, .ref q_60, .ref q_62, .null, .null, .null, .null, .int 0, .int 0])), (q_1, .inr (6, z_3)), (z_4, .inl (k.2.1, 3, .inl z_5)), (q_18, .inr (6, z_20)), (z_21, .inl (k.2.1, 3, .inl z_22)), (q_35, .inl (k.1, 1600, .inl (fun _ => 0))), (q_36, .inr (7, z_38)), (z_39, .inr (9, z_40)), (q_53, .inr (3, z_55)), (z_56, .inl (k.2.1, 3, .inl z_57))] H := hP
  have hD : va_D A [(h0, .inr (11, [.ref q_1, .ref q_18, .ref q_35, .ref q_36, .ref q_53, .ref q_60, .ref q_62, .null, .null, .null, .null, .int 0, .int 0])), (q_1, .inr (6, z_3)), (z_4, .inl (k.2.1, 3, .inl z_5)), (q_18, .inr (6, z_20)), (z_21, .inl (k.2.1, 3, .inl z_22)), (q_35, .inl (k.1, 1600, .inl (fun _ => 0))), (q_36, .inr (7, z_38)), (z_39, .inr (9, z_40)), (q_53, .inr (3, z_55)), (z_56, .inl (k.2.1, 3, .inl z_57))] := hD
  refine lv_aload_n hx hb dX11_init_91 rfl (lv_at hl 0 rfl) ?_
  refine va_new (ci := 5) (fs := [.null, .null, .null, .null, .null, .null, .int 0]) (C := RX5) (T := TX5) (N := 7) hx hb hg iX5 tyX5 tyX5_ok hown (hg (Cond.classLink RX11 55 RX5) m458) (hg (Cond.instantiable RX5 7) m459) (hg (Cond.initialized RX5) m126) hK hP hD hS hA rfl (by decide) (Nat.le_of_ble_eq_true rfl) (Nat.le_of_ble_eq_true rfl) dX11_init_92 (fun q_64 H hP hD hS => ?_)
  have hP : va_P D classes [(h0, .inr (11, [.ref q_1, .ref q_18, .ref q_35, .ref q_36, .ref q_53, .ref q_60, .ref q_62, .null, .null, .null, .null, .int 0, .int 0])), (q_1, .inr (6, z_3)), (z_4, .inl (k.2.1, 3, .inl z_5)), (q_18, .inr (6, z_20)), (z_21, .inl (k.2.1, 3, .inl z_22)), (q_35, .inl (k.1, 1600, .inl (fun _ => 0))), (q_36, .inr (7, z_38)), (z_39, .inr (9, z_40)), (q_53, .inr (3, z_55)), (z_56, .inl (k.2.1, 3, .inl z_57)), (q_64, .inr (5, [.null, .null, .null, .null, .null, .null, .int 0]))] H := hP
  have hD : va_D A [(h0, .inr (11, [.ref q_1, .ref q_18, .ref q_35, .ref q_36, .ref q_53, .ref q_60, .ref q_62, .null, .null, .null, .null, .int 0, .int 0])), (q_1, .inr (6, z_3)), (z_4, .inl (k.2.1, 3, .inl z_5)), (q_18, .inr (6, z_20)), (z_21, .inl (k.2.1, 3, .inl z_22)), (q_35, .inl (k.1, 1600, .inl (fun _ => 0))), (q_36, .inr (7, z_38)), (z_39, .inr (9, z_40)), (q_53, .inr (3, z_55)), (z_56, .inl (k.2.1, 3, .inl z_57)), (q_64, .inr (5, [.null, .null, .null, .null, .null, .null, .int 0]))] := hD
  refine W.widen (k := 48) (n := 10363) (Nat.le_of_ble_eq_true rfl) (Nat.le_of_ble_eq_true rfl) ?_
  refine lv_dup hx hb dX11_init_95 rfl ?_
  have hPc := hP.sub (ws' := [(q_64, .inr (5, [.null, .null, .null, .null, .null, .null, .int 0]))]) [10] rfl
  have hDc := hD.sub (ws' := [(q_64, .inr (5, [.null, .null, .null, .null, .null, .null, .int 0]))]) [10] (by decide) rfl
  have hFc := va_free (wc := [(q_64, .inr (5, [.null, .null, .null, .null, .null, .null, .int 0]))]) hD hS hA [10] rfl
  refine va_callv (va_runIN (As := []) (rest := [.ref q_64, .ref h0]) ⟨hx, hb, hml, hown, hts⟩ (c_X5_init l D k H.size q_64 ) ⟨va_cnB 0 hts (gd_in hgd (gd_WS m462)) rfl rfl rfl hKX.2.2.2.2.2.1 (hg (Cond.initialized RX5) m126) (by decide +kernel) ⟨Nat.le_of_ble_eq_true rfl, Nat.le_of_ble_eq_true rfl⟩, rfl, (hg (Cond.instanceMethod yX5_init) m461)⟩ (cP_S hPc hKX hDc) rfl rfl hl.1 rfl (lv_room (Nat.le_of_ble_eq_true rfl)) dX11_init_96 ⟨Nat.le_of_ble_eq_true rfl, Nat.le_of_ble_eq_true rfl⟩) hS (fun q _ h => hFc q h) hFc (fun u t H1 locs ht hvm hw hB hz1 hk1 hS => ?_)
  obtain ⟨hP1, hD1⟩ := hB
  rw [ht] at hP1
  obtain ⟨hP, hD⟩ := va_join (wr := [(h0, .inr (11, [.ref q_1, .ref q_18, .ref q_35, .ref q_36, .ref q_53, .ref q_60, .ref q_62, .null, .null, .null, .null, .int 0, .int 0])), (q_1, .inr (6, z_3)), (z_4, .inl (k.2.1, 3, .inl z_5)), (q_18, .inr (6, z_20)), (z_21, .inl (k.2.1, 3, .inl z_22)), (q_35, .inl (k.1, 1600, .inl (fun _ => 0))), (q_36, .inr (7, z_38)), (z_39, .inr (9, z_40)), (q_53, .inr (3, z_55)), (z_56, .inl (k.2.1, 3, .inl z_57))]) (w1 := []) hP hD [10] [0, 1, 2, 3, 4, 5, 6, 7, 8, 9] rfl rfl (by decide) (by decide) hk1 hFc hP1 hD1
  generalize H1 = H at hP hS ⊢
  have hP : va_P D classes [(h0, .inr (11, [.ref q_1, .ref q_18, .ref q_35, .ref q_36, .ref q_53, .ref q_60, .ref q_62, .null, .null, .null, .null, .int 0, .int 0])), (q_1, .inr (6, z_3)), (z_4, .inl (k.2.1, 3, .inl z_5)), (q_18, .inr (6, z_20)), (z_21, .inl (k.2.1, 3, .inl z_22)), (q_35, .inl (k.1, 1600, .inl (fun _ => 0))), (q_36, .inr (7, z_38)), (z_39, .inr (9, z_40)), (q_53, .inr (3, z_55)), (z_56, .inl (k.2.1, 3, .inl z_57))] H := hP
  have hD : va_D A [(h0, .inr (11, [.ref q_1, .ref q_18, .ref q_35, .ref q_36, .ref q_53, .ref q_60, .ref q_62, .null, .null, .null, .null, .int 0, .int 0])), (q_1, .inr (6, z_3)), (z_4, .inl (k.2.1, 3, .inl z_5)), (q_18, .inr (6, z_20)), (z_21, .inl (k.2.1, 3, .inl z_22)), (q_35, .inl (k.1, 1600, .inl (fun _ => 0))), (q_36, .inr (7, z_38)), (z_39, .inr (9, z_40)), (q_53, .inr (3, z_55)), (z_56, .inl (k.2.1, 3, .inl z_57))] := hD
  refine W.widen (k := 54) (n := 12787) (Nat.le_of_ble_eq_true rfl) (Nat.le_of_ble_eq_true rfl) ?_
  refine va_putF (D := D) (ci := 11) (v := .ref q_64) (ty := (.object "SlabWalk$Odds")) (C := RX11) (T := TX11) (N := 13) hx hb hg iX11 tyX11 tyX11_ok nmX11 hown hK hP hD hS 0 rfl rfl 7 (by decide) (hg (Cond.fieldLink RX11 58 "SlabWalk" "odds" "LSlabWalk$Odds;") m577) (fun _ h9 => h9) rfl hin rfl (by decide +kernel) rfl rfl (Nat.le_of_ble_eq_true rfl) dX11_init_99 (fun H locs hP hD hS => ?_)
  have hP : va_P D classes [(h0, .inr (11, [.ref q_1, .ref q_18, .ref q_35, .ref q_36, .ref q_53, .ref q_60, .ref q_62, .ref q_64, .null, .null, .null, .int 0, .int 0])), (q_1, .inr (6, z_3)), (z_4, .inl (k.2.1, 3, .inl z_5)), (q_18, .inr (6, z_20)), (z_21, .inl (k.2.1, 3, .inl z_22)), (q_35, .inl (k.1, 1600, .inl (fun _ => 0))), (q_36, .inr (7, z_38)), (z_39, .inr (9, z_40)), (q_53, .inr (3, z_55)), (z_56, .inl (k.2.1, 3, .inl z_57))] H := hP
  have hD : va_D A [(h0, .inr (11, [.ref q_1, .ref q_18, .ref q_35, .ref q_36, .ref q_53, .ref q_60, .ref q_62, .ref q_64, .null, .null, .null, .int 0, .int 0])), (q_1, .inr (6, z_3)), (z_4, .inl (k.2.1, 3, .inl z_5)), (q_18, .inr (6, z_20)), (z_21, .inl (k.2.1, 3, .inl z_22)), (q_35, .inl (k.1, 1600, .inl (fun _ => 0))), (q_36, .inr (7, z_38)), (z_39, .inr (9, z_40)), (q_53, .inr (3, z_55)), (z_56, .inl (k.2.1, 3, .inl z_57))] := hD
  refine lv_aload_n hx hb dX11_init_102 rfl (lv_at hl 0 rfl) ?_
  refine va_new (ci := 1) (fs := [.null, .null, .null, .int 0, .int 0, .int 0]) (C := RX1) (T := TX1) (N := 6) hx hb hg iX1 tyX1 tyX1_ok hown (hg (Cond.classLink RX11 62 RX1) m486) (hg (Cond.instantiable RX1 6) m487) (hg (Cond.initialized RX1) m127) hK hP hD hS hA rfl (by decide) (Nat.le_of_ble_eq_true rfl) (Nat.le_of_ble_eq_true rfl) dX11_init_103 (fun q_66 H hP hD hS => ?_)
  have hP : va_P D classes [(h0, .inr (11, [.ref q_1, .ref q_18, .ref q_35, .ref q_36, .ref q_53, .ref q_60, .ref q_62, .ref q_64, .null, .null, .null, .int 0, .int 0])), (q_1, .inr (6, z_3)), (z_4, .inl (k.2.1, 3, .inl z_5)), (q_18, .inr (6, z_20)), (z_21, .inl (k.2.1, 3, .inl z_22)), (q_35, .inl (k.1, 1600, .inl (fun _ => 0))), (q_36, .inr (7, z_38)), (z_39, .inr (9, z_40)), (q_53, .inr (3, z_55)), (z_56, .inl (k.2.1, 3, .inl z_57)), (q_66, .inr (1, [.null, .null, .null, .int 0, .int 0, .int 0]))] H := hP
  have hD : va_D A [(h0, .inr (11, [.ref q_1, .ref q_18, .ref q_35, .ref q_36, .ref q_53, .ref q_60, .ref q_62, .ref q_64, .null, .null, .null, .int 0, .int 0])), (q_1, .inr (6, z_3)), (z_4, .inl (k.2.1, 3, .inl z_5)), (q_18, .inr (6, z_20)), (z_21, .inl (k.2.1, 3, .inl z_22)), (q_35, .inl (k.1, 1600, .inl (fun _ => 0))), (q_36, .inr (7, z_38)), (z_39, .inr (9, z_40)), (q_53, .inr (3, z_55)), (z_56, .inl (k.2.1, 3, .inl z_57)), (q_66, .inr (1, [.null, .null, .null, .int 0, .int 0, .int 0]))] := hD
  refine W.widen (k := 55) (n := 12793) (Nat.le_of_ble_eq_true rfl) (Nat.le_of_ble_eq_true rfl) ?_
  refine lv_dup hx hb dX11_init_106 rfl ?_
  have hPc := hP.sub (ws' := [(q_66, .inr (1, [.null, .null, .null, .int 0, .int 0, .int 0]))]) [10] rfl
  have hDc := hD.sub (ws' := [(q_66, .inr (1, [.null, .null, .null, .int 0, .int 0, .int 0]))]) [10] (by decide) rfl
  have hFc := va_free (wc := [(q_66, .inr (1, [.null, .null, .null, .int 0, .int 0, .int 0]))]) hD hS hA [10] rfl
  refine va_callv (va_runIN (As := []) (rest := [.ref q_66, .ref h0]) ⟨hx, hb, hml, hown, hts⟩ (c_X1_init l D k H.size q_66 ) ⟨va_cnB 0 hts (gd_in hgd (gd_WS m490)) rfl rfl rfl hKX.2.2.2.2.2.2.1 (hg (Cond.initialized RX1) m127) (by decide +kernel) ⟨Nat.le_of_ble_eq_true rfl, Nat.le_of_ble_eq_true rfl⟩, rfl, (hg (Cond.instanceMethod yX1_init) m489)⟩ (cP_S hPc hKX hDc) rfl rfl hl.1 rfl (lv_room (Nat.le_of_ble_eq_true rfl)) dX11_init_107 ⟨Nat.le_of_ble_eq_true rfl, Nat.le_of_ble_eq_true rfl⟩) hS (fun q _ h => hFc q h) hFc (fun u t H1 locs ht hvm hw hB hz1 hk1 hS => ?_)
  obtain ⟨z_68, z_69, z_70, z_71, z_72, z_73, z_74, g_75, g_76, g_77, g_78, g_79, g_80, hP1, hD1⟩ := hB
  rw [ht] at hP1
  obtain ⟨hP, hD⟩ := va_join (wr := [(h0, .inr (11, [.ref q_1, .ref q_18, .ref q_35, .ref q_36, .ref q_53, .ref q_60, .ref q_62, .ref q_64, .null, .null, .null, .int 0, .int 0])), (q_1, .inr (6, z_3)), (z_4, .inl (k.2.1, 3, .inl z_5)), (q_18, .inr (6, z_20)), (z_21, .inl (k.2.1, 3, .inl z_22)), (q_35, .inl (k.1, 1600, .inl (fun _ => 0))), (q_36, .inr (7, z_38)), (z_39, .inr (9, z_40)), (q_53, .inr (3, z_55)), (z_56, .inl (k.2.1, 3, .inl z_57))]) (w1 := [(q_66, .inr (1, z_68)), (z_69, .inl (k.2.1, 10, .inl z_72)), (z_70, .inl (k.2.1, 410, .inl z_73)), (z_71, .inl (k.2.1, 30, .inl z_74))]) hP hD [10] [0, 1, 2, 3, 4, 5, 6, 7, 8, 9] rfl rfl (by decide) (by decide) hk1 hFc hP1 hD1
  generalize H1 = H at hP hS ⊢
  have hP : va_P D classes [(h0, .inr (11, [.ref q_1, .ref q_18, .ref q_35, .ref q_36, .ref q_53, .ref q_60, .ref q_62, .ref q_64, .null, .null, .null, .int 0, .int 0])), (q_1, .inr (6, z_3)), (z_4, .inl (k.2.1, 3, .inl z_5)), (q_18, .inr (6, z_20)), (z_21, .inl (k.2.1, 3, .inl z_22)), (q_35, .inl (k.1, 1600, .inl (fun _ => 0))), (q_36, .inr (7, z_38)), (z_39, .inr (9, z_40)), (q_53, .inr (3, z_55)), (z_56, .inl (k.2.1, 3, .inl z_57)), (q_66, .inr (1, z_68)), (z_69, .inl (k.2.1, 10, .inl z_72)), (z_70, .inl (k.2.1, 410, .inl z_73)), (z_71, .inl (k.2.1, 30, .inl z_74))] H := hP
  have hD : va_D A [(h0, .inr (11, [.ref q_1, .ref q_18, .ref q_35, .ref q_36, .ref q_53, .ref q_60, .ref q_62, .ref q_64, .null, .null, .null, .int 0, .int 0])), (q_1, .inr (6, z_3)), (z_4, .inl (k.2.1, 3, .inl z_5)), (q_18, .inr (6, z_20)), (z_21, .inl (k.2.1, 3, .inl z_22)), (q_35, .inl (k.1, 1600, .inl (fun _ => 0))), (q_36, .inr (7, z_38)), (z_39, .inr (9, z_40)), (q_53, .inr (3, z_55)), (z_56, .inl (k.2.1, 3, .inl z_57)), (q_66, .inr (1, z_68)), (z_69, .inl (k.2.1, 10, .inl z_72)), (z_70, .inl (k.2.1, 410, .inl z_73)), (z_71, .inl (k.2.1, 30, .inl z_74))] := hD
  refine W.widen (k := 58) (n := 13243) (Nat.le_of_ble_eq_true rfl) (Nat.le_of_ble_eq_true rfl) ?_
  refine va_putF (D := D) (ci := 11) (v := .ref q_66) (ty := (.object "SlabWalk$Earnest")) (C := RX11) (T := TX11) (N := 13) hx hb hg iX11 tyX11 tyX11_ok nmX11 hown hK hP hD hS 0 rfl rfl 8 (by decide) (hg (Cond.fieldLink RX11 65 "SlabWalk" "earnest" "LSlabWalk$Earnest;") m578) (fun _ h9 => h9) rfl hin rfl (by decide +kernel) rfl rfl (Nat.le_of_ble_eq_true rfl) dX11_init_110 (fun H locs hP hD hS => ?_)
  have hP : va_P D classes [(h0, .inr (11, [.ref q_1, .ref q_18, .ref q_35, .ref q_36, .ref q_53, .ref q_60, .ref q_62, .ref q_64, .ref q_66, .null, .null, .int 0, .int 0])), (q_1, .inr (6, z_3)), (z_4, .inl (k.2.1, 3, .inl z_5)), (q_18, .inr (6, z_20)), (z_21, .inl (k.2.1, 3, .inl z_22)), (q_35, .inl (k.1, 1600, .inl (fun _ => 0))), (q_36, .inr (7, z_38)), (z_39, .inr (9, z_40)), (q_53, .inr (3, z_55)), (z_56, .inl (k.2.1, 3, .inl z_57)), (q_66, .inr (1, z_68)), (z_69, .inl (k.2.1, 10, .inl z_72)), (z_70, .inl (k.2.1, 410, .inl z_73)), (z_71, .inl (k.2.1, 30, .inl z_74))] H := hP
  have hD : va_D A [(h0, .inr (11, [.ref q_1, .ref q_18, .ref q_35, .ref q_36, .ref q_53, .ref q_60, .ref q_62, .ref q_64, .ref q_66, .null, .null, .int 0, .int 0])), (q_1, .inr (6, z_3)), (z_4, .inl (k.2.1, 3, .inl z_5)), (q_18, .inr (6, z_20)), (z_21, .inl (k.2.1, 3, .inl z_22)), (q_35, .inl (k.1, 1600, .inl (fun _ => 0))), (q_36, .inr (7, z_38)), (z_39, .inr (9, z_40)), (q_53, .inr (3, z_55)), (z_56, .inl (k.2.1, 3, .inl z_57)), (q_66, .inr (1, z_68)), (z_69, .inl (k.2.1, 10, .inl z_72)), (z_70, .inl (k.2.1, 410, .inl z_73)), (z_71, .inl (k.2.1, 30, .inl z_74))] := hD
  refine lv_aload_n hx hb dX11_init_113 rfl (lv_at hl 0 rfl) ?_
  refine va_new (ci := 8) (fs := [.null, .null, .null, .null, .null, .int 0, .int 0]) (C := RX8) (T := TX8) (N := 7) hx hb hg iX8 tyX8 tyX8_ok hown (hg (Cond.classLink RX11 69 RX8) m514) (hg (Cond.instantiable RX8 7) m515) (hg (Cond.initialized RX8) m128) hK hP hD hS hA rfl (by decide) (Nat.le_of_ble_eq_true rfl) (Nat.le_of_ble_eq_true rfl) dX11_init_114 (fun q_81 H hP hD hS => ?_)
  have hP : va_P D classes [(h0, .inr (11, [.ref q_1, .ref q_18, .ref q_35, .ref q_36, .ref q_53, .ref q_60, .ref q_62, .ref q_64, .ref q_66, .null, .null, .int 0, .int 0])), (q_1, .inr (6, z_3)), (z_4, .inl (k.2.1, 3, .inl z_5)), (q_18, .inr (6, z_20)), (z_21, .inl (k.2.1, 3, .inl z_22)), (q_35, .inl (k.1, 1600, .inl (fun _ => 0))), (q_36, .inr (7, z_38)), (z_39, .inr (9, z_40)), (q_53, .inr (3, z_55)), (z_56, .inl (k.2.1, 3, .inl z_57)), (q_66, .inr (1, z_68)), (z_69, .inl (k.2.1, 10, .inl z_72)), (z_70, .inl (k.2.1, 410, .inl z_73)), (z_71, .inl (k.2.1, 30, .inl z_74)), (q_81, .inr (8, [.null, .null, .null, .null, .null, .int 0, .int 0]))] H := hP
  have hD : va_D A [(h0, .inr (11, [.ref q_1, .ref q_18, .ref q_35, .ref q_36, .ref q_53, .ref q_60, .ref q_62, .ref q_64, .ref q_66, .null, .null, .int 0, .int 0])), (q_1, .inr (6, z_3)), (z_4, .inl (k.2.1, 3, .inl z_5)), (q_18, .inr (6, z_20)), (z_21, .inl (k.2.1, 3, .inl z_22)), (q_35, .inl (k.1, 1600, .inl (fun _ => 0))), (q_36, .inr (7, z_38)), (z_39, .inr (9, z_40)), (q_53, .inr (3, z_55)), (z_56, .inl (k.2.1, 3, .inl z_57)), (q_66, .inr (1, z_68)), (z_69, .inl (k.2.1, 10, .inl z_72)), (z_70, .inl (k.2.1, 410, .inl z_73)), (z_71, .inl (k.2.1, 30, .inl z_74)), (q_81, .inr (8, [.null, .null, .null, .null, .null, .int 0, .int 0]))] := hD
  refine W.widen (k := 59) (n := 13250) (Nat.le_of_ble_eq_true rfl) (Nat.le_of_ble_eq_true rfl) ?_
  refine lv_dup hx hb dX11_init_117 rfl ?_
  have hPc := hP.sub (ws' := [(q_81, .inr (8, [.null, .null, .null, .null, .null, .int 0, .int 0]))]) [14] rfl
  have hDc := hD.sub (ws' := [(q_81, .inr (8, [.null, .null, .null, .null, .null, .int 0, .int 0]))]) [14] (by decide) rfl
  have hFc := va_free (wc := [(q_81, .inr (8, [.null, .null, .null, .null, .null, .int 0, .int 0]))]) hD hS hA [14] rfl
  refine va_callv (va_runIN (As := []) (rest := [.ref q_81, .ref h0]) ⟨hx, hb, hml, hown, hts⟩ (c_X8_init l D k H.size q_81 ) ⟨va_cnB 0 hts (gd_in hgd (gd_WS m518)) rfl rfl rfl hKX.2.2.2.2.2.2.2 (hg (Cond.initialized RX8) m128) (by decide +kernel) ⟨Nat.le_of_ble_eq_true rfl, Nat.le_of_ble_eq_true rfl⟩, rfl, (hg (Cond.instanceMethod yX8_init) m517)⟩ (cP_S hPc hKX hDc) rfl rfl hl.1 rfl (lv_room (Nat.le_of_ble_eq_true rfl)) dX11_init_118 ⟨Nat.le_of_ble_eq_true rfl, Nat.le_of_ble_eq_true rfl⟩) hS (fun q _ h => hFc q h) hFc (fun u t H1 locs ht hvm hw hB hz1 hk1 hS => ?_)
  obtain ⟨z_83, g_84, g_85, hP1, hD1⟩ := hB
  rw [ht] at hP1
  obtain ⟨hP, hD⟩ := va_join (wr := [(h0, .inr (11, [.ref q_1, .ref q_18, .ref q_35, .ref q_36, .ref q_53, .ref q_60, .ref q_62, .ref q_64, .ref q_66, .null, .null, .int 0, .int 0])), (q_1, .inr (6, z_3)), (z_4, .inl (k.2.1, 3, .inl z_5)), (q_18, .inr (6, z_20)), (z_21, .inl (k.2.1, 3, .inl z_22)), (q_35, .inl (k.1, 1600, .inl (fun _ => 0))), (q_36, .inr (7, z_38)), (z_39, .inr (9, z_40)), (q_53, .inr (3, z_55)), (z_56, .inl (k.2.1, 3, .inl z_57)), (q_66, .inr (1, z_68)), (z_69, .inl (k.2.1, 10, .inl z_72)), (z_70, .inl (k.2.1, 410, .inl z_73)), (z_71, .inl (k.2.1, 30, .inl z_74))]) (w1 := [(q_81, .inr (8, z_83))]) hP hD [14] [0, 1, 2, 3, 4, 5, 6, 7, 8, 9, 10, 11, 12, 13] rfl rfl (by decide) (by decide) hk1 hFc hP1 hD1
  generalize H1 = H at hP hS ⊢
  have hP : va_P D classes [(h0, .inr (11, [.ref q_1, .ref q_18, .ref q_35, .ref q_36, .ref q_53, .ref q_60, .ref q_62, .ref q_64, .ref q_66, .null, .null, .int 0, .int 0])), (q_1, .inr (6, z_3)), (z_4, .inl (k.2.1, 3, .inl z_5)), (q_18, .inr (6, z_20)), (z_21, .inl (k.2.1, 3, .inl z_22)), (q_35, .inl (k.1, 1600, .inl (fun _ => 0))), (q_36, .inr (7, z_38)), (z_39, .inr (9, z_40)), (q_53, .inr (3, z_55)), (z_56, .inl (k.2.1, 3, .inl z_57)), (q_66, .inr (1, z_68)), (z_69, .inl (k.2.1, 10, .inl z_72)), (z_70, .inl (k.2.1, 410, .inl z_73)), (z_71, .inl (k.2.1, 30, .inl z_74)), (q_81, .inr (8, z_83))] H := hP
  have hD : va_D A [(h0, .inr (11, [.ref q_1, .ref q_18, .ref q_35, .ref q_36, .ref q_53, .ref q_60, .ref q_62, .ref q_64, .ref q_66, .null, .null, .int 0, .int 0])), (q_1, .inr (6, z_3)), (z_4, .inl (k.2.1, 3, .inl z_5)), (q_18, .inr (6, z_20)), (z_21, .inl (k.2.1, 3, .inl z_22)), (q_35, .inl (k.1, 1600, .inl (fun _ => 0))), (q_36, .inr (7, z_38)), (z_39, .inr (9, z_40)), (q_53, .inr (3, z_55)), (z_56, .inl (k.2.1, 3, .inl z_57)), (q_66, .inr (1, z_68)), (z_69, .inl (k.2.1, 10, .inl z_72)), (z_70, .inl (k.2.1, 410, .inl z_73)), (z_71, .inl (k.2.1, 30, .inl z_74)), (q_81, .inr (8, z_83))] := hD
  refine W.widen (k := 64) (n := 13350) (Nat.le_of_ble_eq_true rfl) (Nat.le_of_ble_eq_true rfl) ?_
  refine va_putF (D := D) (ci := 11) (v := .ref q_81) (ty := (.object "SlabWalk$Sights")) (C := RX11) (T := TX11) (N := 13) hx hb hg iX11 tyX11 tyX11_ok nmX11 hown hK hP hD hS 0 rfl rfl 9 (by decide) (hg (Cond.fieldLink RX11 72 "SlabWalk" "sights" "LSlabWalk$Sights;") m579) (fun _ h9 => h9) rfl hin rfl (by decide +kernel) rfl rfl (Nat.le_of_ble_eq_true rfl) dX11_init_121 (fun H locs hP hD hS => ?_)
  have hP : va_P D classes [(h0, .inr (11, [.ref q_1, .ref q_18, .ref q_35, .ref q_36, .ref q_53, .ref q_60, .ref q_62, .ref q_64, .ref q_66, .ref q_81, .null, .int 0, .int 0])), (q_1, .inr (6, z_3)), (z_4, .inl (k.2.1, 3, .inl z_5)), (q_18, .inr (6, z_20)), (z_21, .inl (k.2.1, 3, .inl z_22)), (q_35, .inl (k.1, 1600, .inl (fun _ => 0))), (q_36, .inr (7, z_38)), (z_39, .inr (9, z_40)), (q_53, .inr (3, z_55)), (z_56, .inl (k.2.1, 3, .inl z_57)), (q_66, .inr (1, z_68)), (z_69, .inl (k.2.1, 10, .inl z_72)), (z_70, .inl (k.2.1, 410, .inl z_73)), (z_71, .inl (k.2.1, 30, .inl z_74)), (q_81, .inr (8, z_83))] H := hP
  have hD : va_D A [(h0, .inr (11, [.ref q_1, .ref q_18, .ref q_35, .ref q_36, .ref q_53, .ref q_60, .ref q_62, .ref q_64, .ref q_66, .ref q_81, .null, .int 0, .int 0])), (q_1, .inr (6, z_3)), (z_4, .inl (k.2.1, 3, .inl z_5)), (q_18, .inr (6, z_20)), (z_21, .inl (k.2.1, 3, .inl z_22)), (q_35, .inl (k.1, 1600, .inl (fun _ => 0))), (q_36, .inr (7, z_38)), (z_39, .inr (9, z_40)), (q_53, .inr (3, z_55)), (z_56, .inl (k.2.1, 3, .inl z_57)), (q_66, .inr (1, z_68)), (z_69, .inl (k.2.1, 10, .inl z_72)), (z_70, .inl (k.2.1, 410, .inl z_73)), (z_71, .inl (k.2.1, 30, .inl z_74)), (q_81, .inr (8, z_83))] := hD
  refine lv_aload_n hx hb dX11_init_124 rfl (lv_at hl 0 rfl) ?_
  refine lv_sipush (v := 400) hx hb dX11_init_125 (by decide) ?_
  refine va_newaT (atype := .int) (ty := .int) (a0 := (400, .inl (fun _ => 0))) hx hb (hg (Cond.arrayClass .int) m245) rfl ra_int hK hP hD hS hA 1 rfl (fun _ => rfl) (by decide) (by decide) (Nat.le_of_ble_eq_true rfl) (Nat.le_of_ble_eq_true rfl) (Nat.le_of_ble_eq_true rfl) dX11_init_128 (fun q_86 H hP hD hS => ?_)
  have hP : va_P D classes [(h0, .inr (11, [.ref q_1, .ref q_18, .ref q_35, .ref q_36, .ref q_53, .ref q_60, .ref q_62, .ref q_64, .ref q_66, .ref q_81, .null, .int 0, .int 0])), (q_1, .inr (6, z_3)), (z_4, .inl (k.2.1, 3, .inl z_5)), (q_18, .inr (6, z_20)), (z_21, .inl (k.2.1, 3, .inl z_22)), (q_35, .inl (k.1, 1600, .inl (fun _ => 0))), (q_36, .inr (7, z_38)), (z_39, .inr (9, z_40)), (q_53, .inr (3, z_55)), (z_56, .inl (k.2.1, 3, .inl z_57)), (q_66, .inr (1, z_68)), (z_69, .inl (k.2.1, 10, .inl z_72)), (z_70, .inl (k.2.1, 410, .inl z_73)), (z_71, .inl (k.2.1, 30, .inl z_74)), (q_81, .inr (8, z_83)), (q_86, .inl (k.2.1, 400, .inl (fun _ => 0)))] H := hP
  have hD : va_D A [(h0, .inr (11, [.ref q_1, .ref q_18, .ref q_35, .ref q_36, .ref q_53, .ref q_60, .ref q_62, .ref q_64, .ref q_66, .ref q_81, .null, .int 0, .int 0])), (q_1, .inr (6, z_3)), (z_4, .inl (k.2.1, 3, .inl z_5)), (q_18, .inr (6, z_20)), (z_21, .inl (k.2.1, 3, .inl z_22)), (q_35, .inl (k.1, 1600, .inl (fun _ => 0))), (q_36, .inr (7, z_38)), (z_39, .inr (9, z_40)), (q_53, .inr (3, z_55)), (z_56, .inl (k.2.1, 3, .inl z_57)), (q_66, .inr (1, z_68)), (z_69, .inl (k.2.1, 10, .inl z_72)), (z_70, .inl (k.2.1, 410, .inl z_73)), (z_71, .inl (k.2.1, 30, .inl z_74)), (q_81, .inr (8, z_83)), (q_86, .inl (k.2.1, 400, .inl (fun _ => 0)))] := hD
  refine W.widen (k := 65) (n := 13750) (Nat.le_of_ble_eq_true rfl) (Nat.le_of_ble_eq_true rfl) ?_
  refine va_putF (D := D) (ci := 11) (v := .ref q_86) (ty := (.array .int)) (C := RX11) (T := TX11) (N := 13) hx hb hg iX11 tyX11 tyX11_ok nmX11 hown hK hP hD hS 0 rfl rfl 10 (by decide) (hg (Cond.fieldLink RX11 76 "SlabWalk" "lying" "[I") m580) (fun _ h9 => h9) rfl hin rfl (by decide +kernel) rfl rfl (Nat.le_of_ble_eq_true rfl) dX11_init_130 (fun H locs hP hD hS => ?_)
  have hP : va_P D classes [(h0, .inr (11, [.ref q_1, .ref q_18, .ref q_35, .ref q_36, .ref q_53, .ref q_60, .ref q_62, .ref q_64, .ref q_66, .ref q_81, .ref q_86, .int 0, .int 0])), (q_1, .inr (6, z_3)), (z_4, .inl (k.2.1, 3, .inl z_5)), (q_18, .inr (6, z_20)), (z_21, .inl (k.2.1, 3, .inl z_22)), (q_35, .inl (k.1, 1600, .inl (fun _ => 0))), (q_36, .inr (7, z_38)), (z_39, .inr (9, z_40)), (q_53, .inr (3, z_55)), (z_56, .inl (k.2.1, 3, .inl z_57)), (q_66, .inr (1, z_68)), (z_69, .inl (k.2.1, 10, .inl z_72)), (z_70, .inl (k.2.1, 410, .inl z_73)), (z_71, .inl (k.2.1, 30, .inl z_74)), (q_81, .inr (8, z_83)), (q_86, .inl (k.2.1, 400, .inl (fun _ => 0)))] H := hP
  have hD : va_D A [(h0, .inr (11, [.ref q_1, .ref q_18, .ref q_35, .ref q_36, .ref q_53, .ref q_60, .ref q_62, .ref q_64, .ref q_66, .ref q_81, .ref q_86, .int 0, .int 0])), (q_1, .inr (6, z_3)), (z_4, .inl (k.2.1, 3, .inl z_5)), (q_18, .inr (6, z_20)), (z_21, .inl (k.2.1, 3, .inl z_22)), (q_35, .inl (k.1, 1600, .inl (fun _ => 0))), (q_36, .inr (7, z_38)), (z_39, .inr (9, z_40)), (q_53, .inr (3, z_55)), (z_56, .inl (k.2.1, 3, .inl z_57)), (q_66, .inr (1, z_68)), (z_69, .inl (k.2.1, 10, .inl z_72)), (z_70, .inl (k.2.1, 410, .inl z_73)), (z_71, .inl (k.2.1, 30, .inl z_74)), (q_81, .inr (8, z_83)), (q_86, .inl (k.2.1, 400, .inl (fun _ => 0)))] := hD
  have hP := hP.sub (ws' := [(h0, .inr (11, [.ref q_1, .ref q_18, .ref q_35, .ref q_36, .ref q_53, .ref q_60, .ref q_62, .ref q_64, .ref q_66, .ref q_81, .ref q_86, .int 0, .int 0])), (q_1, .inr (6, z_3)), (z_4, .inl (k.2.1, 3, .inl z_5)), (q_18, .inr (6, z_20)), (z_21, .inl (k.2.1, 3, .inl z_22)), (q_35, .inl (k.1, 1600, .inl (fun _ => 0))), (q_36, .inr (7, z_38)), (z_39, .inr (9, z_40)), (q_53, .inr (3, z_55)), (z_56, .inl (k.2.1, 3, .inl z_57)), (q_66, .inr (1, z_68)), (z_69, .inl (k.2.1, 10, .inl z_72)), (z_70, .inl (k.2.1, 410, .inl z_73)), (z_71, .inl (k.2.1, 30, .inl z_74)), (q_81, .inr (8, z_83))]) [0, 1, 2, 3, 4, 5, 6, 7, 8, 9, 10, 11, 12, 13, 14] rfl
  have hD := hD.sub (ws' := [(h0, .inr (11, [.ref q_1, .ref q_18, .ref q_35, .ref q_36, .ref q_53, .ref q_60, .ref q_62, .ref q_64, .ref q_66, .ref q_81, .ref q_86, .int 0, .int 0])), (q_1, .inr (6, z_3)), (z_4, .inl (k.2.1, 3, .inl z_5)), (q_18, .inr (6, z_20)), (z_21, .inl (k.2.1, 3, .inl z_22)), (q_35, .inl (k.1, 1600, .inl (fun _ => 0))), (q_36, .inr (7, z_38)), (z_39, .inr (9, z_40)), (q_53, .inr (3, z_55)), (z_56, .inl (k.2.1, 3, .inl z_57)), (q_66, .inr (1, z_68)), (z_69, .inl (k.2.1, 10, .inl z_72)), (z_70, .inl (k.2.1, 410, .inl z_73)), (z_71, .inl (k.2.1, 30, .inl z_74)), (q_81, .inr (8, z_83))]) [0, 1, 2, 3, 4, 5, 6, 7, 8, 9, 10, 11, 12, 13, 14] (by decide) rfl
  refine lv_aload_n hx hb dX11_init_133 rfl (lv_at hl 0 rfl) ?_
  have hPc := hP.sub (ws' := [(h0, .inr (11, [.ref q_1, .ref q_18, .ref q_35, .ref q_36, .ref q_53, .ref q_60, .ref q_62, .ref q_64, .ref q_66, .ref q_81, .ref q_86, .int 0, .int 0])), (q_1, .inr (6, z_3)), (q_53, .inr (3, z_55)), (z_56, .inl (k.2.1, 3, .inl z_57)), (q_66, .inr (1, z_68)), (z_69, .inl (k.2.1, 10, .inl z_72)), (z_70, .inl (k.2.1, 410, .inl z_73)), (q_81, .inr (8, z_83))]) [0, 1, 8, 9, 10, 11, 12, 14] rfl
  have hDc := hD.sub (ws' := [(h0, .inr (11, [.ref q_1, .ref q_18, .ref q_35, .ref q_36, .ref q_53, .ref q_60, .ref q_62, .ref q_64, .ref q_66, .ref q_81, .ref q_86, .int 0, .int 0])), (q_1, .inr (6, z_3)), (q_53, .inr (3, z_55)), (z_56, .inl (k.2.1, 3, .inl z_57)), (q_66, .inr (1, z_68)), (z_69, .inl (k.2.1, 10, .inl z_72)), (z_70, .inl (k.2.1, 410, .inl z_73)), (q_81, .inr (8, z_83))]) [0, 1, 8, 9, 10, 11, 12, 14] (by decide) rfl
  have hFc := va_free (wc := [(h0, .inr (11, [.ref q_1, .ref q_18, .ref q_35, .ref q_36, .ref q_53, .ref q_60, .ref q_62, .ref q_64, .ref q_66, .ref q_81, .ref q_86, .int 0, .int 0])), (q_1, .inr (6, z_3)), (q_53, .inr (3, z_55)), (z_56, .inl (k.2.1, 3, .inl z_57)), (q_66, .inr (1, z_68)), (z_69, .inl (k.2.1, 10, .inl z_72)), (z_70, .inl (k.2.1, 410, .inl z_73)), (q_81, .inr (8, z_83))]) hD hS hA [0, 1, 8, 9, 10, 11, 12, 14] rfl
  refine va_callv (va_runV (As := []) (rest := []) ⟨hx, hb, hml, hown, hts⟩ (c_X11_startAnew l D k H.size h0 q_1 q_18 q_35 q_36 q_53 q_66 q_81 z_56 q_1 z_69 z_70 z_71 ([.ref q_1, .ref q_18, .ref q_35, .ref q_36, .ref q_53, .ref q_60, .ref q_62, .ref q_64, .ref q_66, .ref q_81, .ref q_86, .int 0, .int 0]) z_3 z_55 z_68 z_83 z_57 z_72 z_73 0 0 0 0 0 0 0 rfl rfl rfl rfl rfl rfl rfl rfl rfl g_12 g_58 g_59 g_75 g_76 g_77 g_78 g_79 g_80 g_84 g_85) (cwV 0 hts (gd_V hgd m547 m549 m0 m117 m550) rfl rfl rfl (by decide +kernel) ⟨Nat.le_of_ble_eq_true rfl, Nat.le_of_ble_eq_true rfl⟩) (cP_V hPc hKX hDc (ci := 11) (q0 := 0) rfl rfl) rfl rfl hl.1 rfl (lv_room (Nat.le_of_ble_eq_true rfl)) dX11_init_134 ⟨Nat.le_of_ble_eq_true rfl, Nat.le_of_ble_eq_true rfl⟩) hS (fun q _ h => hFc q h) hFc (fun u t H1 locs ht hvm hw hB hz1 hk1 hS => ?_)
  obtain ⟨z_88, z_89, z_90, z_91, z_92, z_93, z_94, g_95, g_96, g_97, g_98, g_99, g_100, g_101, g_102, g_103, g_104, g_105, g_106, g_107, g_108, g_109, g_110, g_111, g_112, g_113, g_114, g_115, g_116, g_117, g_118, g_119, g_120, hP1, hD1⟩ := hB
  rw [ht] at hP1
  obtain ⟨hP, hD⟩ := va_join (wr := [(z_4, .inl (k.2.1, 3, .inl z_5)), (q_18, .inr (6, z_20)), (z_21, .inl (k.2.1, 3, .inl z_22)), (q_35, .inl (k.1, 1600, .inl (fun _ => 0))), (q_36, .inr (7, z_38)), (z_39, .inr (9, z_40)), (z_71, .inl (k.2.1, 30, .inl z_74))]) (w1 := [(h0, .inr (11, z_88)), (q_1, .inr (6, z_3)), (q_53, .inr (3, z_89)), (z_56, .inl (k.2.1, 3, .inl z_90)), (q_66, .inr (1, z_91)), (z_69, .inl (k.2.1, 10, .inl z_92)), (z_70, .inl (k.2.1, 410, .inl z_93)), (q_81, .inr (8, z_94))]) hP hD [0, 1, 8, 9, 10, 11, 12, 14] [2, 3, 4, 5, 6, 7, 13] rfl rfl (by decide) (by decide) hk1 hFc hP1 hD1
  generalize H1 = H at hP hS ⊢
  have hP : va_P D classes [(z_4, .inl (k.2.1, 3, .inl z_5)), (q_18, .inr (6, z_20)), (z_21, .inl (k.2.1, 3, .inl z_22)), (q_35, .inl (k.1, 1600, .inl (fun _ => 0))), (q_36, .inr (7, z_38)), (z_39, .inr (9, z_40)), (z_71, .inl (k.2.1, 30, .inl z_74)), (h0, .inr (11, z_88)), (q_1, .inr (6, z_3)), (q_53, .inr (3, z_89)), (z_56, .inl (k.2.1, 3, .inl z_90)), (q_66, .inr (1, z_91)), (z_69, .inl (k.2.1, 10, .inl z_92)), (z_70, .inl (k.2.1, 410, .inl z_93)), (q_81, .inr (8, z_94))] H := hP
  have hD : va_D A [(z_4, .inl (k.2.1, 3, .inl z_5)), (q_18, .inr (6, z_20)), (z_21, .inl (k.2.1, 3, .inl z_22)), (q_35, .inl (k.1, 1600, .inl (fun _ => 0))), (q_36, .inr (7, z_38)), (z_39, .inr (9, z_40)), (z_71, .inl (k.2.1, 30, .inl z_74)), (h0, .inr (11, z_88)), (q_1, .inr (6, z_3)), (q_53, .inr (3, z_89)), (z_56, .inl (k.2.1, 3, .inl z_90)), (q_66, .inr (1, z_91)), (z_69, .inl (k.2.1, 10, .inl z_92)), (z_70, .inl (k.2.1, 410, .inl z_93)), (q_81, .inr (8, z_94))] := hD
  refine W.widen (k := 65) (n := 13750) (Nat.le_of_ble_eq_true rfl) (Nat.le_of_ble_eq_true rfl) ?_
  have hP9 := hP.sub (ws' := [(h0, .inr (11, z_88)), (q_1, .inr (6, z_3)), (z_4, .inl (k.2.1, 3, .inl z_5)), (q_18, .inr (6, z_20)), (z_21, .inl (k.2.1, 3, .inl z_22)), (q_35, .inl (k.1, 1600, .inl (fun _ => 0))), (q_36, .inr (7, z_38)), (z_39, .inr (9, z_40)), (q_53, .inr (3, z_89)), (z_56, .inl (k.2.1, 3, .inl z_90)), (q_66, .inr (1, z_91)), (z_69, .inl (k.2.1, 10, .inl z_92)), (z_70, .inl (k.2.1, 410, .inl z_93)), (z_71, .inl (k.2.1, 30, .inl z_74)), (q_81, .inr (8, z_94))]) [7, 8, 0, 1, 2, 3, 4, 5, 9, 10, 11, 12, 13, 6, 14] rfl
  have hD9 := hD.sub (ws' := [(h0, .inr (11, z_88)), (q_1, .inr (6, z_3)), (z_4, .inl (k.2.1, 3, .inl z_5)), (q_18, .inr (6, z_20)), (z_21, .inl (k.2.1, 3, .inl z_22)), (q_35, .inl (k.1, 1600, .inl (fun _ => 0))), (q_36, .inr (7, z_38)), (z_39, .inr (9, z_40)), (q_53, .inr (3, z_89)), (z_56, .inl (k.2.1, 3, .inl z_90)), (q_66, .inr (1, z_91)), (z_69, .inl (k.2.1, 10, .inl z_92)), (z_70, .inl (k.2.1, 410, .inl z_93)), (z_71, .inl (k.2.1, 30, .inl z_74)), (q_81, .inr (8, z_94))]) [7, 8, 0, 1, 2, 3, 4, 5, 9, 10, 11, 12, 13, 6, 14] (by decide) rfl
  exact W.vret hx hb hr (fun t ht hW => ⟨⟨(), rfl, trivial, ⟨z_88, q_1, z_3, z_4, z_5, q_18, z_20, z_21, z_22, q_35, (fun _ => 0), q_36, z_38, z_39, z_40, q_53, z_89, z_56, z_90, q_66, z_91, z_69, z_92, z_70, z_93, z_71, z_74, q_81, z_94, g_95, g_96, g_97, g_98, g_99, g_100, g_101, g_102, g_103, g_6, g_7, g_8, g_9, g_10, g_11, g_12, g_13, g_14, g_15, g_16, g_17, g_23, g_24, g_25, g_26, g_27, g_28, g_29, g_30, g_31, g_32, g_33, g_34, g_41, g_42, g_43, g_44, g_45, g_46, g_47, g_48, g_49, g_50, g_51, g_52, g_104, g_105, g_106, g_107, g_108, g_109, g_110, g_111, g_112, g_113, g_114, g_115, g_116, g_117, g_118, g_119, g_120, cB_of ht hP9 hD9⟩⟩, hS.F ht⟩) hS.2.2 dX11_init_137
end
section
theorem tb_out14 (x : Int32) (h0 : ¬ x = 0) (h1 : ¬ x = 1) (h2 : ¬ x = 2) (h3 : ¬ x = 3) (h4 : ¬ x = 4) (h5 : ¬ x = 5) (h6 : ¬ x = 6) (h7 : ¬ x = 7) (h8 : ¬ x = 8) (h9 : ¬ x = 9) (h10 : ¬ x = 10) (h11 : ¬ x = 11) (h12 : ¬ x = 12) (h13 : ¬ x = 13) (h14 : ¬ x = 14) : x.toInt < 0 ∨ 14 < x.toInt := by
  have q0 := lv_neT h0 (a := 0) rfl
  have q1 := lv_neT h1 (a := 1) rfl
  have q2 := lv_neT h2 (a := 2) rfl
  have q3 := lv_neT h3 (a := 3) rfl
  have q4 := lv_neT h4 (a := 4) rfl
  have q5 := lv_neT h5 (a := 5) rfl
  have q6 := lv_neT h6 (a := 6) rfl
  have q7 := lv_neT h7 (a := 7) rfl
  have q8 := lv_neT h8 (a := 8) rfl
  have q9 := lv_neT h9 (a := 9) rfl
  have q10 := lv_neT h10 (a := 10) rfl
  have q11 := lv_neT h11 (a := 11) rfl
  have q12 := lv_neT h12 (a := 12) rfl
  have q13 := lv_neT h13 (a := 13) rfl
  have q14 := lv_neT h14 (a := 14) rfl
  omega
def s_fault (n : Int32) : Int32 := if n = 0 then 0 else -1
def s_about (n : Int32) : Int32 := if n = 0 then 0 else if n = 1 then 0 else if n = 2 then 0 else if n = 3 then 0 else if n = 4 then 0 else if n = 5 then 0 else if n = 6 then 0 else if n = 7 then 0 else if n = 8 then 0 else if n = 9 then 0 else if n = 10 then 0 else if n = 11 then 0 else if n = 12 then 0 else if n = 13 then 0 else if n = 14 then 1 else -1
theorem sh_zero (x : Int32) : (((0 : Int32) >>> (x &&& 31)) &&& 1) = 0 := by
  have h : ((0 : Int32) >>> (x &&& 31)) = 0 := by
    apply Int32.toBitVec_inj.mp
    simp [Int32.toBitVec_shiftRight]
  rw [h]
  decide
theorem bx_j {b : Int32} (h : ¬ b < 0) (h2 : ¬ 3 ≤ b) : b = 0 ∨ b = 1 ∨ b = 2 := by
  obtain ⟨j, hj, rfl⟩ := nI_of h
  have h3 : j < 3 := by
    rcases Nat.lt_or_ge j 3 with q | q
    · exact q
    · exact absurd (nI_le (a := 3) q hj) h2
  rcases (show j = 0 ∨ j = 1 ∨ j = 2 by omega) with rfl | rfl | rfl
  · exact Or.inl rfl
  · exact Or.inr (Or.inl rfl)
  · exact Or.inr (Or.inr rfl)
theorem bx_n {b : Int32} (h : ¬ b < 0) (h2 : ¬ 3 ≤ b) : ¬ b * 10 < 0 := by
  rcases bx_j h h2 with rfl | rfl | rfl <;> decide
theorem bx_r {b : Int32} (h : ¬ b < 0) (h2 : ¬ 3 ≤ b) : (b * 10).toNatClampNeg + (10 : Int32).toNatClampNeg ≤ 30 := by
  rcases bx_j h h2 with rfl | rfl | rfl <;> decide
end
section
set_option maxRecDepth 20000 in
theorem m2 : Cond.selects RX11 yX11_putOnTape yX11_putOnTape ∈ gd := gd_mem 2 (by decide +kernel) (by decide +kernel)
set_option maxRecDepth 20000 in
theorem m27 : Cond.selects RX11 yX11_today yX11_today ∈ gd := gd_mem 27 (by decide +kernel) (by decide +kernel)
set_option maxRecDepth 20000 in
theorem m31 : Cond.selects RX11 yX11_canAsk yX11_canAsk ∈ gd := gd_mem 31 (by decide +kernel) (by decide +kernel)
set_option maxRecDepth 20000 in
theorem m38 : Cond.selects RX11 yX11_canBeBrave yX11_canBeBrave ∈ gd := gd_mem 38 (by decide +kernel) (by decide +kernel)
set_option maxRecDepth 20000 in
theorem m44 : Cond.selects RX11 yX11_canGo yX11_canGo ∈ gd := gd_mem 44 (by decide +kernel) (by decide +kernel)
set_option maxRecDepth 20000 in
theorem m132 : Cond.initialized "java/lang/Math" ∈ gd := gd_mem 132 (by decide +kernel) (by decide +kernel)
set_option maxRecDepth 20000 in
theorem m187 : Cond.fieldLink RX11 95 "SlabWalk$Paving" "streets" "I" ∈ gd := gd_mem 187 (by decide +kernel) (by decide +kernel)
set_option maxRecDepth 20000 in
theorem m191 : Cond.fieldLink RX11 305 "SlabWalk$Paving" "walkers" "I" ∈ gd := gd_mem 191 (by decide +kernel) (by decide +kernel)
set_option maxRecDepth 20000 in
theorem m195 : Cond.fieldLink RX11 228 "SlabWalk$Paving" "rules" "I" ∈ gd := gd_mem 195 (by decide +kernel) (by decide +kernel)
set_option maxRecDepth 20000 in
theorem m198 : Cond.fieldLink RX11 314 "SlabWalk$Paving" "units" "I" ∈ gd := gd_mem 198 (by decide +kernel) (by decide +kernel)
set_option maxRecDepth 20000 in
theorem m259 : Cond.fieldLink RX9 25 "SlabWalk$Tokens" "size" "I" ∈ gd := gd_mem 259 (by decide +kernel) (by decide +kernel)
set_option maxRecDepth 20000 in
theorem m260 : Cond.fieldLink RX9 28 "SlabWalk$Tokens" "at" "I" ∈ gd := gd_mem 260 (by decide +kernel) (by decide +kernel)
set_option maxRecDepth 20000 in
theorem m261 : Cond.fieldLink RX7 62 "SlabWalk$Tokens" "kind" "I" ∈ gd := gd_mem 261 (by decide +kernel) (by decide +kernel)
set_option maxRecDepth 20000 in
theorem m262 : Cond.fieldLink RX9 38 "SlabWalk$Tokens" "kind" "I" ∈ gd := gd_mem 262 (by decide +kernel) (by decide +kernel)
set_option maxRecDepth 20000 in
theorem m264 : Cond.fieldLink RX9 41 "SlabWalk$Tokens" "place" "I" ∈ gd := gd_mem 264 (by decide +kernel) (by decide +kernel)
set_option maxRecDepth 20000 in
theorem m270 : Cond.fieldLink RX9 31 "SlabWalk$Tokens" "fault" "I" ∈ gd := gd_mem 270 (by decide +kernel) (by decide +kernel)
set_option maxRecDepth 20000 in
theorem m271 : Cond.fieldLink RX11 102 "SlabWalk$Tokens" "fault" "I" ∈ gd := gd_mem 271 (by decide +kernel) (by decide +kernel)
set_option maxRecDepth 20000 in
theorem m273 : Cond.fieldLink RX11 107 "SlabWalk$Tokens" "faultPlace" "I" ∈ gd := gd_mem 273 (by decide +kernel) (by decide +kernel)
set_option maxRecDepth 20000 in
theorem m312 : Cond.fieldLink RX11 98 "SlabWalk$Reader" "tokens" "LSlabWalk$Tokens;" ∈ gd := gd_mem 312 (by decide +kernel) (by decide +kernel)
set_option maxRecDepth 20000 in
theorem m318 : Cond.fieldLink RX7 48 "SlabWalk$Reader" "slipTold" "Z" ∈ gd := gd_mem 318 (by decide +kernel) (by decide +kernel)
set_option maxRecDepth 20000 in
theorem m319 : Cond.fieldLink RX7 52 "SlabWalk$Reader" "handTold" "Z" ∈ gd := gd_mem 319 (by decide +kernel) (by decide +kernel)
set_option maxRecDepth 20000 in
theorem m320 : Cond.fieldLink RX7 55 "SlabWalk$Reader" "drawTold" "Z" ∈ gd := gd_mem 320 (by decide +kernel) (by decide +kernel)
set_option maxRecDepth 20000 in
theorem m493 : Cond.fieldLink RX11 246 "SlabWalk$Earnest" "now" "[I" ∈ gd := gd_mem 493 (by decide +kernel) (by decide +kernel)
set_option maxRecDepth 20000 in
theorem m498 : Cond.fieldLink RX11 308 "SlabWalk$Earnest" "done" "I" ∈ gd := gd_mem 498 (by decide +kernel) (by decide +kernel)
set_option maxRecDepth 20000 in
theorem m500 : Cond.fieldLink RX11 311 "SlabWalk$Earnest" "undone" "I" ∈ gd := gd_mem 500 (by decide +kernel) (by decide +kernel)
set_option maxRecDepth 20000 in
theorem m528 : Cond.fieldLink RX8 27 "SlabWalk$Sights" "count" "I" ∈ gd := gd_mem 528 (by decide +kernel) (by decide +kernel)
set_option maxRecDepth 20000 in
theorem m531 : Cond.fieldLink RX11 278 "SlabWalk$Sights" "time" "I" ∈ gd := gd_mem 531 (by decide +kernel) (by decide +kernel)
set_option maxRecDepth 20000 in
theorem m581 : Cond.fieldLink RX11 83 "SlabWalk" "taped" "I" ∈ gd := gd_mem 581 (by decide +kernel) (by decide +kernel)
set_option maxRecDepth 20000 in
theorem m614 : Cond.methodLink RX11 87 yX11_putOnTape ∈ gd := gd_mem 614 (by decide +kernel) (by decide +kernel)
set_option maxRecDepth 20000 in
theorem m616 : Cond.instanceMethod yX11_putOnTape ∈ gd := gd_mem 616 (by decide +kernel) (by decide +kernel)
set_option maxRecDepth 20000 in
theorem m617 : Cond.code yX11_putOnTape cX11_putOnTape 3 none ∈ gd := gd_mem 617 (by decide +kernel) (by decide +kernel)
set_option maxRecDepth 20000 in
theorem m626 : Cond.methodLink RX11 91 yX7_read ∈ gd := gd_mem 626 (by decide +kernel) (by decide +kernel)
set_option maxRecDepth 20000 in
theorem m627 : Cond.instanceMethod yX7_read ∈ gd := gd_mem 627 (by decide +kernel) (by decide +kernel)
set_option maxRecDepth 20000 in
theorem m628 : Cond.selects RX7 yX7_read yX7_read ∈ gd := gd_mem 628 (by decide +kernel) (by decide +kernel)
set_option maxRecDepth 20000 in
theorem m629 : Cond.code yX7_read cX7_read 5 (some .boolean) ∈ gd := gd_mem 629 (by decide +kernel) (by decide +kernel)
set_option maxRecDepth 20000 in
theorem m630 : Cond.methodLink RX7 43 yX6_empty ∈ gd := gd_mem 630 (by decide +kernel) (by decide +kernel)
set_option maxRecDepth 20000 in
theorem m631 : Cond.methodLink RX7 58 yX9_open ∈ gd := gd_mem 631 (by decide +kernel) (by decide +kernel)
set_option maxRecDepth 20000 in
theorem m632 : Cond.instanceMethod yX9_open ∈ gd := gd_mem 632 (by decide +kernel) (by decide +kernel)
set_option maxRecDepth 20000 in
theorem m633 : Cond.selects RX9 yX9_open yX9_open ∈ gd := gd_mem 633 (by decide +kernel) (by decide +kernel)
set_option maxRecDepth 20000 in
theorem m634 : Cond.code yX9_open cX9_open 2 none ∈ gd := gd_mem 634 (by decide +kernel) (by decide +kernel)
set_option maxRecDepth 20000 in
theorem m635 : Cond.methodLink RX9 19 Lib.Math.min.name ∈ gd := gd_mem 635 (by decide +kernel) (by decide +kernel)
set_option maxRecDepth 20000 in
theorem m636 : Cond.static Lib.Math.min.name ∈ gd := gd_mem 636 (by decide +kernel) (by decide +kernel)
set_option maxRecDepth 20000 in
theorem m637 : Cond.code Lib.Math.min.name Lib.Math.min.code 2 (some .int) ∈ gd := gd_mem 637 (by decide +kernel) (by decide +kernel)
set_option maxRecDepth 20000 in
theorem m638 : Cond.methodLink RX9 34 yX9_advance ∈ gd := gd_mem 638 (by decide +kernel) (by decide +kernel)
set_option maxRecDepth 20000 in
theorem m639 : Cond.instanceMethod yX9_advance ∈ gd := gd_mem 639 (by decide +kernel) (by decide +kernel)
set_option maxRecDepth 20000 in
theorem m640 : Cond.selects RX9 yX9_advance yX9_advance ∈ gd := gd_mem 640 (by decide +kernel) (by decide +kernel)
set_option maxRecDepth 20000 in
theorem m641 : Cond.code yX9_advance cX9_advance 2 (some .boolean) ∈ gd := gd_mem 641 (by decide +kernel) (by decide +kernel)
set_option maxRecDepth 20000 in
theorem m882 : Cond.methodLink RX11 110 yX6_hasInch ∈ gd := gd_mem 882 (by decide +kernel) (by decide +kernel)
set_option maxRecDepth 20000 in
theorem m883 : Cond.instanceMethod yX6_hasInch ∈ gd := gd_mem 883 (by decide +kernel) (by decide +kernel)
set_option maxRecDepth 20000 in
theorem m884 : Cond.selects RX6 yX6_hasInch yX6_hasInch ∈ gd := gd_mem 884 (by decide +kernel) (by decide +kernel)
set_option maxRecDepth 20000 in
theorem m885 : Cond.code yX6_hasInch cX6_hasInch 3 (some .boolean) ∈ gd := gd_mem 885 (by decide +kernel) (by decide +kernel)
set_option maxRecDepth 20000 in
theorem m902 : Cond.methodLink RX11 121 yX6_hasStreet ∈ gd := gd_mem 902 (by decide +kernel) (by decide +kernel)
set_option maxRecDepth 20000 in
theorem m911 : Cond.methodLink RX11 131 yX11_today ∈ gd := gd_mem 911 (by decide +kernel) (by decide +kernel)
set_option maxRecDepth 20000 in
theorem m913 : Cond.instanceMethod yX11_today ∈ gd := gd_mem 913 (by decide +kernel) (by decide +kernel)
set_option maxRecDepth 20000 in
theorem m914 : Cond.code yX11_today cX11_today 1 (some .int) ∈ gd := gd_mem 914 (by decide +kernel) (by decide +kernel)
set_option maxRecDepth 20000 in
theorem m953 : Cond.methodLink RX11 143 yX11_canAsk ∈ gd := gd_mem 953 (by decide +kernel) (by decide +kernel)
set_option maxRecDepth 20000 in
theorem m955 : Cond.instanceMethod yX11_canAsk ∈ gd := gd_mem 955 (by decide +kernel) (by decide +kernel)
set_option maxRecDepth 20000 in
theorem m956 : Cond.code yX11_canAsk cX11_canAsk 4 (some .boolean) ∈ gd := gd_mem 956 (by decide +kernel) (by decide +kernel)
set_option maxRecDepth 20000 in
theorem m957 : Cond.methodLink RX11 328 yX6_hasWalker ∈ gd := gd_mem 957 (by decide +kernel) (by decide +kernel)
set_option maxRecDepth 20000 in
theorem m966 : Cond.instanceMethod yX6_stands ∈ gd := gd_mem 966 (by decide +kernel) (by decide +kernel)
set_option maxRecDepth 20000 in
theorem m967 : Cond.selects RX6 yX6_stands yX6_stands ∈ gd := gd_mem 967 (by decide +kernel) (by decide +kernel)
set_option maxRecDepth 20000 in
theorem m968 : Cond.code yX6_stands cX6_stands 4 (some .boolean) ∈ gd := gd_mem 968 (by decide +kernel) (by decide +kernel)
set_option maxRecDepth 20000 in
theorem m1018 : Cond.constantLong RX11 165 (-1) ∈ gd := gd_mem 1018 (by decide +kernel) (by decide +kernel)
set_option maxRecDepth 20000 in
theorem m1117 : Cond.methodLink RX11 211 yX11_canBeBrave ∈ gd := gd_mem 1117 (by decide +kernel) (by decide +kernel)
set_option maxRecDepth 20000 in
theorem m1119 : Cond.instanceMethod yX11_canBeBrave ∈ gd := gd_mem 1119 (by decide +kernel) (by decide +kernel)
set_option maxRecDepth 20000 in
theorem m1120 : Cond.code yX11_canBeBrave cX11_canBeBrave 6 (some .boolean) ∈ gd := gd_mem 1120 (by decide +kernel) (by decide +kernel)
set_option maxRecDepth 20000 in
theorem m1121 : Cond.methodLink RX11 234 yX6_stands ∈ gd := gd_mem 1121 (by decide +kernel) (by decide +kernel)
set_option maxRecDepth 20000 in
theorem m1178 : Cond.methodLink RX11 249 yX1_keepAct ∈ gd := gd_mem 1178 (by decide +kernel) (by decide +kernel)
set_option maxRecDepth 20000 in
theorem m1179 : Cond.instanceMethod yX1_keepAct ∈ gd := gd_mem 1179 (by decide +kernel) (by decide +kernel)
set_option maxRecDepth 20000 in
theorem m1180 : Cond.selects RX1 yX1_keepAct yX1_keepAct ∈ gd := gd_mem 1180 (by decide +kernel) (by decide +kernel)
set_option maxRecDepth 20000 in
theorem m1181 : Cond.code yX1_keepAct cX1_keepAct 1 none ∈ gd := gd_mem 1181 (by decide +kernel) (by decide +kernel)
set_option maxRecDepth 20000 in
theorem m1186 : Cond.methodLink RX11 252 yX11_canGo ∈ gd := gd_mem 1186 (by decide +kernel) (by decide +kernel)
set_option maxRecDepth 20000 in
theorem m1188 : Cond.instanceMethod yX11_canGo ∈ gd := gd_mem 1188 (by decide +kernel) (by decide +kernel)
set_option maxRecDepth 20000 in
theorem m1189 : Cond.code yX11_canGo cX11_canGo 4 (some .boolean) ∈ gd := gd_mem 1189 (by decide +kernel) (by decide +kernel)
set_option maxRecDepth 20000 in
theorem m1199 : Cond.instanceMethod yX6_allSlips ∈ gd := gd_mem 1199 (by decide +kernel) (by decide +kernel)
set_option maxRecDepth 20000 in
theorem m1200 : Cond.selects RX6 yX6_allSlips yX6_allSlips ∈ gd := gd_mem 1200 (by decide +kernel) (by decide +kernel)
set_option maxRecDepth 20000 in
theorem m1201 : Cond.code yX6_allSlips cX6_allSlips 1 (some .int) ∈ gd := gd_mem 1201 (by decide +kernel) (by decide +kernel)
set_option maxRecDepth 20000 in
theorem m1206 : Cond.methodLink RX11 262 yX6_hasRule ∈ gd := gd_mem 1206 (by decide +kernel) (by decide +kernel)
set_option maxRecDepth 20000 in
theorem m1207 : Cond.instanceMethod yX6_hasRule ∈ gd := gd_mem 1207 (by decide +kernel) (by decide +kernel)
set_option maxRecDepth 20000 in
theorem m1208 : Cond.selects RX6 yX6_hasRule yX6_hasRule ∈ gd := gd_mem 1208 (by decide +kernel) (by decide +kernel)
set_option maxRecDepth 20000 in
theorem m1209 : Cond.code yX6_hasRule cX6_hasRule 2 (some .boolean) ∈ gd := gd_mem 1209 (by decide +kernel) (by decide +kernel)
set_option maxRecDepth 20000 in
theorem m1222 : Cond.methodLink RX11 265 yX1_takeBack ∈ gd := gd_mem 1222 (by decide +kernel) (by decide +kernel)
set_option maxRecDepth 20000 in
theorem m1223 : Cond.instanceMethod yX1_takeBack ∈ gd := gd_mem 1223 (by decide +kernel) (by decide +kernel)
set_option maxRecDepth 20000 in
theorem m1224 : Cond.selects RX1 yX1_takeBack yX1_takeBack ∈ gd := gd_mem 1224 (by decide +kernel) (by decide +kernel)
set_option maxRecDepth 20000 in
theorem m1225 : Cond.code yX1_takeBack cX1_takeBack 1 (some .boolean) ∈ gd := gd_mem 1225 (by decide +kernel) (by decide +kernel)
set_option maxRecDepth 20000 in
theorem m1230 : Cond.methodLink RX11 268 yX1_doAgain ∈ gd := gd_mem 1230 (by decide +kernel) (by decide +kernel)
set_option maxRecDepth 20000 in
theorem m1231 : Cond.instanceMethod yX1_doAgain ∈ gd := gd_mem 1231 (by decide +kernel) (by decide +kernel)
set_option maxRecDepth 20000 in
theorem m1232 : Cond.selects RX1 yX1_doAgain yX1_doAgain ∈ gd := gd_mem 1232 (by decide +kernel) (by decide +kernel)
set_option maxRecDepth 20000 in
theorem m1233 : Cond.code yX1_doAgain cX1_doAgain 1 (some .boolean) ∈ gd := gd_mem 1233 (by decide +kernel) (by decide +kernel)
set_option maxRecDepth 20000 in
theorem m1254 : Cond.methodLink RX11 275 yX8_takeFrom ∈ gd := gd_mem 1254 (by decide +kernel) (by decide +kernel)
set_option maxRecDepth 20000 in
theorem m1255 : Cond.instanceMethod yX8_takeFrom ∈ gd := gd_mem 1255 (by decide +kernel) (by decide +kernel)
set_option maxRecDepth 20000 in
theorem m1256 : Cond.selects RX8 yX8_takeFrom yX8_takeFrom ∈ gd := gd_mem 1256 (by decide +kernel) (by decide +kernel)
set_option maxRecDepth 20000 in
theorem m1257 : Cond.code yX8_takeFrom cX8_takeFrom 2 (some .boolean) ∈ gd := gd_mem 1257 (by decide +kernel) (by decide +kernel)
set_option maxRecDepth 20000 in
theorem m1262 : Cond.constant RX11 281 100000 ∈ gd := gd_mem 1262 (by decide +kernel) (by decide +kernel)
set_option maxRecDepth 20000 in
theorem m1291 : Cond.methodLink RX11 299 yX1_keepIn ∈ gd := gd_mem 1291 (by decide +kernel) (by decide +kernel)
set_option maxRecDepth 20000 in
theorem m1292 : Cond.instanceMethod yX1_keepIn ∈ gd := gd_mem 1292 (by decide +kernel) (by decide +kernel)
set_option maxRecDepth 20000 in
theorem m1293 : Cond.selects RX1 yX1_keepIn yX1_keepIn ∈ gd := gd_mem 1293 (by decide +kernel) (by decide +kernel)
set_option maxRecDepth 20000 in
theorem m1294 : Cond.code yX1_keepIn cX1_keepIn 2 (some .boolean) ∈ gd := gd_mem 1294 (by decide +kernel) (by decide +kernel)
set_option maxRecDepth 20000 in
theorem m1299 : Cond.methodLink RX11 302 yX1_bringFrom ∈ gd := gd_mem 1299 (by decide +kernel) (by decide +kernel)
set_option maxRecDepth 20000 in
theorem m1300 : Cond.instanceMethod yX1_bringFrom ∈ gd := gd_mem 1300 (by decide +kernel) (by decide +kernel)
set_option maxRecDepth 20000 in
theorem m1301 : Cond.selects RX1 yX1_bringFrom yX1_bringFrom ∈ gd := gd_mem 1301 (by decide +kernel) (by decide +kernel)
set_option maxRecDepth 20000 in
theorem m1302 : Cond.code yX1_bringFrom cX1_bringFrom 2 (some .boolean) ∈ gd := gd_mem 1302 (by decide +kernel) (by decide +kernel)
set_option maxRecDepth 20000 in
theorem m1307 : Cond.methodLink RX11 317 yX6_allSlips ∈ gd := gd_mem 1307 (by decide +kernel) (by decide +kernel)
end
section
theorem dX11_about_0 : decode cX11_about 0 = .ok (.iload_n 1, 1) := by decide +kernel
theorem dX11_about_1 : decode cX11_about 1 = .ok (.tableswitch 195 0 14 #[75, 83, 91, 99, 104, 115, 126, 137, 145, 153, 161, 169, 174, 182, 187], 75) := by decide +kernel
theorem dX11_about_76 : decode cX11_about 76 = .ok (.aload_n 0, 1) := by decide +kernel
theorem dX11_about_77 : decode cX11_about 77 = .ok (.getfield 10, 3) := by decide +kernel
theorem dX11_about_80 : decode cX11_about 80 = .ok (.getfield 95, 3) := by decide +kernel
theorem dX11_about_83 : decode cX11_about 83 = .ok (.ireturn, 1) := by decide +kernel
theorem dX11_about_84 : decode cX11_about 84 = .ok (.aload_n 0, 1) := by decide +kernel
theorem dX11_about_85 : decode cX11_about 85 = .ok (.getfield 10, 3) := by decide +kernel
theorem dX11_about_88 : decode cX11_about 88 = .ok (.getfield 305, 3) := by decide +kernel
theorem dX11_about_91 : decode cX11_about 91 = .ok (.ireturn, 1) := by decide +kernel
theorem dX11_about_92 : decode cX11_about 92 = .ok (.aload_n 0, 1) := by decide +kernel
theorem dX11_about_93 : decode cX11_about 93 = .ok (.getfield 10, 3) := by decide +kernel
theorem dX11_about_96 : decode cX11_about 96 = .ok (.getfield 228, 3) := by decide +kernel
theorem dX11_about_99 : decode cX11_about 99 = .ok (.ireturn, 1) := by decide +kernel
theorem dX11_about_100 : decode cX11_about 100 = .ok (.aload_n 0, 1) := by decide +kernel
theorem dX11_about_101 : decode cX11_about 101 = .ok (.invokevirtual 131, 3) := by decide +kernel
theorem dX11_about_104 : decode cX11_about 104 = .ok (.ireturn, 1) := by decide +kernel
theorem dX11_about_105 : decode cX11_about 105 = .ok (.aload_n 0, 1) := by decide +kernel
theorem dX11_about_106 : decode cX11_about 106 = .ok (.getfield 65, 3) := by decide +kernel
theorem dX11_about_109 : decode cX11_about 109 = .ok (.getfield 246, 3) := by decide +kernel
theorem dX11_about_112 : decode cX11_about 112 = .ok (.bipush 7, 2) := by decide +kernel
theorem dX11_about_114 : decode cX11_about 114 = .ok (.iaload, 1) := by decide +kernel
theorem dX11_about_115 : decode cX11_about 115 = .ok (.ireturn, 1) := by decide +kernel
theorem dX11_about_116 : decode cX11_about 116 = .ok (.aload_n 0, 1) := by decide +kernel
theorem dX11_about_117 : decode cX11_about 117 = .ok (.getfield 65, 3) := by decide +kernel
theorem dX11_about_120 : decode cX11_about 120 = .ok (.getfield 246, 3) := by decide +kernel
theorem dX11_about_123 : decode cX11_about 123 = .ok (.bipush 8, 2) := by decide +kernel
theorem dX11_about_125 : decode cX11_about 125 = .ok (.iaload, 1) := by decide +kernel
theorem dX11_about_126 : decode cX11_about 126 = .ok (.ireturn, 1) := by decide +kernel
theorem dX11_about_127 : decode cX11_about 127 = .ok (.aload_n 0, 1) := by decide +kernel
theorem dX11_about_128 : decode cX11_about 128 = .ok (.getfield 65, 3) := by decide +kernel
theorem dX11_about_131 : decode cX11_about 131 = .ok (.getfield 246, 3) := by decide +kernel
theorem dX11_about_134 : decode cX11_about 134 = .ok (.bipush 9, 2) := by decide +kernel
theorem dX11_about_136 : decode cX11_about 136 = .ok (.iaload, 1) := by decide +kernel
theorem dX11_about_137 : decode cX11_about 137 = .ok (.ireturn, 1) := by decide +kernel
theorem dX11_about_138 : decode cX11_about 138 = .ok (.aload_n 0, 1) := by decide +kernel
theorem dX11_about_139 : decode cX11_about 139 = .ok (.getfield 65, 3) := by decide +kernel
theorem dX11_about_142 : decode cX11_about 142 = .ok (.getfield 308, 3) := by decide +kernel
theorem dX11_about_145 : decode cX11_about 145 = .ok (.ireturn, 1) := by decide +kernel
theorem dX11_about_146 : decode cX11_about 146 = .ok (.aload_n 0, 1) := by decide +kernel
theorem dX11_about_147 : decode cX11_about 147 = .ok (.getfield 65, 3) := by decide +kernel
theorem dX11_about_150 : decode cX11_about 150 = .ok (.getfield 311, 3) := by decide +kernel
theorem dX11_about_153 : decode cX11_about 153 = .ok (.ireturn, 1) := by decide +kernel
theorem dX11_about_154 : decode cX11_about 154 = .ok (.aload_n 0, 1) := by decide +kernel
theorem dX11_about_155 : decode cX11_about 155 = .ok (.getfield 72, 3) := by decide +kernel
theorem dX11_about_158 : decode cX11_about 158 = .ok (.getfield 285, 3) := by decide +kernel
theorem dX11_about_161 : decode cX11_about 161 = .ok (.ireturn, 1) := by decide +kernel
theorem dX11_about_162 : decode cX11_about 162 = .ok (.aload_n 0, 1) := by decide +kernel
theorem dX11_about_163 : decode cX11_about 163 = .ok (.getfield 72, 3) := by decide +kernel
theorem dX11_about_166 : decode cX11_about 166 = .ok (.getfield 278, 3) := by decide +kernel
theorem dX11_about_169 : decode cX11_about 169 = .ok (.ireturn, 1) := by decide +kernel
theorem dX11_about_170 : decode cX11_about 170 = .ok (.aload_n 0, 1) := by decide +kernel
theorem dX11_about_171 : decode cX11_about 171 = .ok (.getfield 83, 3) := by decide +kernel
theorem dX11_about_174 : decode cX11_about 174 = .ok (.ireturn, 1) := by decide +kernel
theorem dX11_about_175 : decode cX11_about 175 = .ok (.aload_n 0, 1) := by decide +kernel
theorem dX11_about_176 : decode cX11_about 176 = .ok (.getfield 10, 3) := by decide +kernel
theorem dX11_about_179 : decode cX11_about 179 = .ok (.getfield 314, 3) := by decide +kernel
theorem dX11_about_182 : decode cX11_about 182 = .ok (.ireturn, 1) := by decide +kernel
theorem dX11_about_183 : decode cX11_about 183 = .ok (.aload_n 0, 1) := by decide +kernel
theorem dX11_about_184 : decode cX11_about 184 = .ok (.getfield 150, 3) := by decide +kernel
theorem dX11_about_187 : decode cX11_about 187 = .ok (.ireturn, 1) := by decide +kernel
theorem dX11_about_188 : decode cX11_about 188 = .ok (.aload_n 0, 1) := by decide +kernel
theorem dX11_about_189 : decode cX11_about 189 = .ok (.getfield 10, 3) := by decide +kernel
theorem dX11_about_192 : decode cX11_about 192 = .ok (.invokevirtual 317, 3) := by decide +kernel
theorem dX11_about_195 : decode cX11_about 195 = .ok (.ireturn, 1) := by decide +kernel
theorem dX11_about_196 : decode cX11_about 196 = .ok (.iconst (-1), 1) := by decide +kernel
theorem dX11_about_197 : decode cX11_about 197 = .ok (.ireturn, 1) := by decide +kernel
theorem dX11_back_0 : decode cX11_back 0 = .ok (.aload_n 0, 1) := by decide +kernel
theorem dX11_back_1 : decode cX11_back 1 = .ok (.getfield 65, 3) := by decide +kernel
theorem dX11_back_4 : decode cX11_back 4 = .ok (.iload_n 1, 1) := by decide +kernel
theorem dX11_back_5 : decode cX11_back 5 = .ok (.invokevirtual 302, 3) := by decide +kernel
theorem dX11_back_8 : decode cX11_back 8 = .ok (.ifCond .eq 10, 3) := by decide +kernel
theorem dX11_back_18 : decode cX11_back 18 = .ok (.iconst (-1), 1) := by decide +kernel
theorem dX11_back_19 : decode cX11_back 19 = .ok (.ireturn, 1) := by decide +kernel
theorem dX11_boldest_0 : decode cX11_boldest 0 = .ok (.aload_n 0, 1) := by decide +kernel
theorem dX11_boldest_1 : decode cX11_boldest 1 = .ok (.iload_n 1, 1) := by decide +kernel
theorem dX11_boldest_2 : decode cX11_boldest 2 = .ok (.iload_n 2, 1) := by decide +kernel
theorem dX11_boldest_3 : decode cX11_boldest 3 = .ok (.iload_n 3, 1) := by decide +kernel
theorem dX11_boldest_4 : decode cX11_boldest 4 = .ok (.iload 4, 2) := by decide +kernel
theorem dX11_boldest_6 : decode cX11_boldest 6 = .ok (.iload 5, 2) := by decide +kernel
theorem dX11_boldest_8 : decode cX11_boldest 8 = .ok (.invokevirtual 211, 3) := by decide +kernel
theorem dX11_boldest_11 : decode cX11_boldest 11 = .ok (.ifCond .ne 5, 3) := by decide +kernel
theorem dX11_boldest_14 : decode cX11_boldest 14 = .ok (.iconst (-1), 1) := by decide +kernel
theorem dX11_boldest_15 : decode cX11_boldest 15 = .ok (.ireturn, 1) := by decide +kernel
theorem dX11_brave_0 : decode cX11_brave 0 = .ok (.aload_n 0, 1) := by decide +kernel
theorem dX11_brave_1 : decode cX11_brave 1 = .ok (.iload_n 1, 1) := by decide +kernel
theorem dX11_brave_2 : decode cX11_brave 2 = .ok (.iload_n 2, 1) := by decide +kernel
theorem dX11_brave_3 : decode cX11_brave 3 = .ok (.iload_n 3, 1) := by decide +kernel
theorem dX11_brave_4 : decode cX11_brave 4 = .ok (.iload 4, 2) := by decide +kernel
theorem dX11_brave_6 : decode cX11_brave 6 = .ok (.iload 5, 2) := by decide +kernel
theorem dX11_brave_8 : decode cX11_brave 8 = .ok (.invokevirtual 211, 3) := by decide +kernel
theorem dX11_brave_11 : decode cX11_brave 11 = .ok (.ifCond .ne 7, 3) := by decide +kernel
theorem dX11_brave_14 : decode cX11_brave 14 = .ok (.ldc2_w 165, 3) := by decide +kernel
theorem dX11_brave_17 : decode cX11_brave 17 = .ok (.lreturn, 1) := by decide +kernel
theorem dX11_canAsk_0 : decode cX11_canAsk 0 = .ok (.aload_n 0, 1) := by decide +kernel
theorem dX11_canAsk_1 : decode cX11_canAsk 1 = .ok (.getfield 10, 3) := by decide +kernel
theorem dX11_canAsk_4 : decode cX11_canAsk 4 = .ok (.iload_n 1, 1) := by decide +kernel
theorem dX11_canAsk_5 : decode cX11_canAsk 5 = .ok (.invokevirtual 328, 3) := by decide +kernel
theorem dX11_canAsk_8 : decode cX11_canAsk 8 = .ok (.ifCond .eq 29, 3) := by decide +kernel
theorem dX11_canAsk_37 : decode cX11_canAsk 37 = .ok (.iconst 0, 1) := by decide +kernel
theorem dX11_canAsk_38 : decode cX11_canAsk 38 = .ok (.ireturn, 1) := by decide +kernel
theorem dX11_canBeBrave_0 : decode cX11_canBeBrave 0 = .ok (.aload_n 0, 1) := by decide +kernel
theorem dX11_canBeBrave_1 : decode cX11_canBeBrave 1 = .ok (.iload_n 1, 1) := by decide +kernel
theorem dX11_canBeBrave_2 : decode cX11_canBeBrave 2 = .ok (.iload_n 2, 1) := by decide +kernel
theorem dX11_canBeBrave_3 : decode cX11_canBeBrave 3 = .ok (.iload_n 3, 1) := by decide +kernel
theorem dX11_canBeBrave_4 : decode cX11_canBeBrave 4 = .ok (.invokevirtual 143, 3) := by decide +kernel
theorem dX11_canBeBrave_7 : decode cX11_canBeBrave 7 = .ok (.ifCond .eq 34, 3) := by decide +kernel
theorem dX11_canBeBrave_41 : decode cX11_canBeBrave 41 = .ok (.iconst 0, 1) := by decide +kernel
theorem dX11_canBeBrave_42 : decode cX11_canBeBrave 42 = .ok (.ireturn, 1) := by decide +kernel
theorem dX11_canGo_0 : decode cX11_canGo 0 = .ok (.aload_n 0, 1) := by decide +kernel
theorem dX11_canGo_1 : decode cX11_canGo 1 = .ok (.getfield 65, 3) := by decide +kernel
theorem dX11_canGo_4 : decode cX11_canGo 4 = .ok (.getfield 246, 3) := by decide +kernel
theorem dX11_canGo_7 : decode cX11_canGo 7 = .ok (.iconst 0, 1) := by decide +kernel
theorem dX11_canGo_8 : decode cX11_canGo 8 = .ok (.iaload, 1) := by decide +kernel
theorem dX11_canGo_9 : decode cX11_canGo 9 = .ok (.istore_n 2, 1) := by decide +kernel
theorem dX11_canGo_10 : decode cX11_canGo 10 = .ok (.aload_n 0, 1) := by decide +kernel
theorem dX11_canGo_11 : decode cX11_canGo 11 = .ok (.getfield 10, 3) := by decide +kernel
theorem dX11_canGo_14 : decode cX11_canGo 14 = .ok (.iload_n 2, 1) := by decide +kernel
theorem dX11_canGo_15 : decode cX11_canGo 15 = .ok (.invokevirtual 328, 3) := by decide +kernel
theorem dX11_canGo_18 : decode cX11_canGo 18 = .ok (.ifCond .eq 29, 3) := by decide +kernel
theorem dX11_canGo_47 : decode cX11_canGo 47 = .ok (.iconst 0, 1) := by decide +kernel
theorem dX11_canGo_48 : decode cX11_canGo 48 = .ok (.ireturn, 1) := by decide +kernel
theorem dX11_chance_0 : decode cX11_chance 0 = .ok (.aload_n 0, 1) := by decide +kernel
theorem dX11_chance_1 : decode cX11_chance 1 = .ok (.getfield 10, 3) := by decide +kernel
theorem dX11_chance_4 : decode cX11_chance 4 = .ok (.iload_n 1, 1) := by decide +kernel
theorem dX11_chance_5 : decode cX11_chance 5 = .ok (.invokevirtual 262, 3) := by decide +kernel
theorem dX11_chance_8 : decode cX11_chance 8 = .ok (.ifCond .eq 12, 3) := by decide +kernel
theorem dX11_chance_20 : decode cX11_chance 20 = .ok (.ldc2_w 165, 3) := by decide +kernel
theorem dX11_chance_23 : decode cX11_chance 23 = .ok (.lreturn, 1) := by decide +kernel
theorem dX11_day_0 : decode cX11_day 0 = .ok (.aload_n 0, 1) := by decide +kernel
theorem dX11_day_1 : decode cX11_day 1 = .ok (.invokevirtual 131, 3) := by decide +kernel
theorem dX11_day_4 : decode cX11_day 4 = .ok (.sipush 1000, 3) := by decide +kernel
theorem dX11_day_7 : decode cX11_day 7 = .ok (.if_icmp .lt 5, 3) := by decide +kernel
theorem dX11_day_12 : decode cX11_day 12 = .ok (.aload_n 0, 1) := by decide +kernel
theorem dX11_day_13 : decode cX11_day 13 = .ok (.getfield 65, 3) := by decide +kernel
theorem dX11_day_16 : decode cX11_day 16 = .ok (.getfield 246, 3) := by decide +kernel
theorem dX11_day_19 : decode cX11_day 19 = .ok (.bipush 6, 2) := by decide +kernel
theorem dX11_day_21 : decode cX11_day 21 = .ok (.dup2, 1) := by decide +kernel
theorem dX11_day_22 : decode cX11_day 22 = .ok (.iaload, 1) := by decide +kernel
theorem dX11_day_23 : decode cX11_day 23 = .ok (.iconst 1, 1) := by decide +kernel
theorem dX11_day_24 : decode cX11_day 24 = .ok (.iadd, 1) := by decide +kernel
theorem dX11_day_25 : decode cX11_day 25 = .ok (.iastore, 1) := by decide +kernel
theorem dX11_day_26 : decode cX11_day 26 = .ok (.aload_n 0, 1) := by decide +kernel
theorem dX11_day_27 : decode cX11_day 27 = .ok (.getfield 65, 3) := by decide +kernel
theorem dX11_day_30 : decode cX11_day 30 = .ok (.invokevirtual 249, 3) := by decide +kernel
theorem dX11_day_33 : decode cX11_day 33 = .ok (.aload_n 0, 1) := by decide +kernel
theorem dX11_day_34 : decode cX11_day 34 = .ok (.invokevirtual 131, 3) := by decide +kernel
theorem dX11_day_37 : decode cX11_day 37 = .ok (.ireturn, 1) := by decide +kernel
theorem dX11_end_0 : decode cX11_end 0 = .ok (.iload_n 1, 1) := by decide +kernel
theorem dX11_end_1 : decode cX11_end 1 = .ok (.ifCond .lt 11, 3) := by decide +kernel
theorem dX11_end_4 : decode cX11_end 4 = .ok (.iload_n 1, 1) := by decide +kernel
theorem dX11_end_5 : decode cX11_end 5 = .ok (.aload_n 0, 1) := by decide +kernel
theorem dX11_end_6 : decode cX11_end 6 = .ok (.getfield 83, 3) := by decide +kernel
theorem dX11_end_9 : decode cX11_end 9 = .ok (.if_icmp .le 5, 3) := by decide +kernel
theorem dX11_end_12 : decode cX11_end 12 = .ok (.iconst (-1), 1) := by decide +kernel
theorem dX11_end_13 : decode cX11_end 13 = .ok (.ireturn, 1) := by decide +kernel
theorem dX11_end_14 : decode cX11_end 14 = .ok (.aload_n 0, 1) := by decide +kernel
theorem dX11_end_15 : decode cX11_end 15 = .ok (.iload_n 1, 1) := by decide +kernel
theorem dX11_end_16 : decode cX11_end 16 = .ok (.putfield 83, 3) := by decide +kernel
theorem dX11_end_19 : decode cX11_end 19 = .ok (.iload_n 1, 1) := by decide +kernel
theorem dX11_end_20 : decode cX11_end 20 = .ok (.ireturn, 1) := by decide +kernel
theorem dX11_even_0 : decode cX11_even 0 = .ok (.aload_n 0, 1) := by decide +kernel
theorem dX11_even_1 : decode cX11_even 1 = .ok (.iload_n 1, 1) := by decide +kernel
theorem dX11_even_2 : decode cX11_even 2 = .ok (.iload_n 2, 1) := by decide +kernel
theorem dX11_even_3 : decode cX11_even 3 = .ok (.iload_n 3, 1) := by decide +kernel
theorem dX11_even_4 : decode cX11_even 4 = .ok (.invokevirtual 143, 3) := by decide +kernel
theorem dX11_even_7 : decode cX11_even 7 = .ok (.ifCond .eq 29, 3) := by decide +kernel
theorem dX11_even_36 : decode cX11_even 36 = .ok (.iconst (-1), 1) := by decide +kernel
theorem dX11_even_37 : decode cX11_even 37 = .ok (.ireturn, 1) := by decide +kernel
theorem dX11_evenest_0 : decode cX11_evenest 0 = .ok (.aload_n 0, 1) := by decide +kernel
theorem dX11_evenest_1 : decode cX11_evenest 1 = .ok (.iload_n 1, 1) := by decide +kernel
theorem dX11_evenest_2 : decode cX11_evenest 2 = .ok (.iload_n 2, 1) := by decide +kernel
theorem dX11_evenest_3 : decode cX11_evenest 3 = .ok (.iload_n 3, 1) := by decide +kernel
theorem dX11_evenest_4 : decode cX11_evenest 4 = .ok (.invokevirtual 143, 3) := by decide +kernel
theorem dX11_evenest_7 : decode cX11_evenest 7 = .ok (.ifCond .eq 14, 3) := by decide +kernel
theorem dX11_evenest_21 : decode cX11_evenest 21 = .ok (.iconst (-1), 1) := by decide +kernel
theorem dX11_evenest_22 : decode cX11_evenest 22 = .ok (.ireturn, 1) := by decide +kernel
theorem dX11_evens_0 : decode cX11_evens 0 = .ok (.aload_n 0, 1) := by decide +kernel
theorem dX11_evens_1 : decode cX11_evens 1 = .ok (.iconst 0, 1) := by decide +kernel
theorem dX11_evens_2 : decode cX11_evens 2 = .ok (.putfield 150, 3) := by decide +kernel
theorem dX11_evens_5 : decode cX11_evens 5 = .ok (.aload_n 0, 1) := by decide +kernel
theorem dX11_evens_6 : decode cX11_evens 6 = .ok (.iload_n 1, 1) := by decide +kernel
theorem dX11_evens_7 : decode cX11_evens 7 = .ok (.iload_n 2, 1) := by decide +kernel
theorem dX11_evens_8 : decode cX11_evens 8 = .ok (.iload_n 3, 1) := by decide +kernel
theorem dX11_evens_9 : decode cX11_evens 9 = .ok (.invokevirtual 143, 3) := by decide +kernel
theorem dX11_evens_12 : decode cX11_evens 12 = .ok (.ifCond .ne 5, 3) := by decide +kernel
theorem dX11_evens_15 : decode cX11_evens 15 = .ok (.iconst (-1), 1) := by decide +kernel
theorem dX11_evens_16 : decode cX11_evens 16 = .ok (.ireturn, 1) := by decide +kernel
theorem dX11_fault_0 : decode cX11_fault 0 = .ok (.iload_n 1, 1) := by decide +kernel
theorem dX11_fault_1 : decode cX11_fault 1 = .ok (.ifCond .ne 16, 3) := by decide +kernel
theorem dX11_fault_4 : decode cX11_fault 4 = .ok (.aload_n 0, 1) := by decide +kernel
theorem dX11_fault_5 : decode cX11_fault 5 = .ok (.getfield 28, 3) := by decide +kernel
theorem dX11_fault_8 : decode cX11_fault 8 = .ok (.getfield 98, 3) := by decide +kernel
theorem dX11_fault_11 : decode cX11_fault 11 = .ok (.getfield 102, 3) := by decide +kernel
theorem dX11_fault_14 : decode cX11_fault 14 = .ok (.goto 22, 3) := by decide +kernel
theorem dX11_fault_17 : decode cX11_fault 17 = .ok (.iload_n 1, 1) := by decide +kernel
theorem dX11_fault_18 : decode cX11_fault 18 = .ok (.iconst 1, 1) := by decide +kernel
theorem dX11_fault_19 : decode cX11_fault 19 = .ok (.if_icmp .ne 16, 3) := by decide +kernel
theorem dX11_fault_22 : decode cX11_fault 22 = .ok (.aload_n 0, 1) := by decide +kernel
theorem dX11_fault_23 : decode cX11_fault 23 = .ok (.getfield 28, 3) := by decide +kernel
theorem dX11_fault_26 : decode cX11_fault 26 = .ok (.getfield 98, 3) := by decide +kernel
theorem dX11_fault_29 : decode cX11_fault 29 = .ok (.getfield 107, 3) := by decide +kernel
theorem dX11_fault_32 : decode cX11_fault 32 = .ok (.goto 4, 3) := by decide +kernel
theorem dX11_fault_35 : decode cX11_fault 35 = .ok (.iconst (-1), 1) := by decide +kernel
theorem dX11_fault_36 : decode cX11_fault 36 = .ok (.ireturn, 1) := by decide +kernel
theorem dX11_feed_0 : decode cX11_feed 0 = .ok (.aload_n 0, 1) := by decide +kernel
theorem dX11_feed_1 : decode cX11_feed 1 = .ok (.getfield 83, 3) := by decide +kernel
theorem dX11_feed_4 : decode cX11_feed 4 = .ok (.bipush 20, 2) := by decide +kernel
theorem dX11_feed_6 : decode cX11_feed 6 = .ok (.iadd, 1) := by decide +kernel
theorem dX11_feed_7 : decode cX11_feed 7 = .ok (.sipush 1600, 3) := by decide +kernel
theorem dX11_feed_10 : decode cX11_feed 10 = .ok (.if_icmp .le 5, 3) := by decide +kernel
theorem dX11_feed_15 : decode cX11_feed 15 = .ok (.aload_n 0, 1) := by decide +kernel
theorem dX11_feed_16 : decode cX11_feed 16 = .ok (.iload_n 1, 1) := by decide +kernel
theorem dX11_feed_17 : decode cX11_feed 17 = .ok (.invokevirtual 87, 3) := by decide +kernel
theorem dX11_feed_20 : decode cX11_feed 20 = .ok (.aload_n 0, 1) := by decide +kernel
theorem dX11_feed_21 : decode cX11_feed 21 = .ok (.iload_n 2, 1) := by decide +kernel
theorem dX11_feed_22 : decode cX11_feed 22 = .ok (.invokevirtual 87, 3) := by decide +kernel
theorem dX11_feed_25 : decode cX11_feed 25 = .ok (.aload_n 0, 1) := by decide +kernel
theorem dX11_feed_26 : decode cX11_feed 26 = .ok (.iload_n 3, 1) := by decide +kernel
theorem dX11_feed_27 : decode cX11_feed 27 = .ok (.invokevirtual 87, 3) := by decide +kernel
theorem dX11_feed_30 : decode cX11_feed 30 = .ok (.aload_n 0, 1) := by decide +kernel
theorem dX11_feed_31 : decode cX11_feed 31 = .ok (.iload 4, 2) := by decide +kernel
theorem dX11_feed_33 : decode cX11_feed 33 = .ok (.invokevirtual 87, 3) := by decide +kernel
theorem dX11_feed_36 : decode cX11_feed 36 = .ok (.aload_n 0, 1) := by decide +kernel
theorem dX11_feed_37 : decode cX11_feed 37 = .ok (.iload 5, 2) := by decide +kernel
theorem dX11_feed_39 : decode cX11_feed 39 = .ok (.invokevirtual 87, 3) := by decide +kernel
theorem dX11_feed_42 : decode cX11_feed 42 = .ok (.aload_n 0, 1) := by decide +kernel
theorem dX11_feed_43 : decode cX11_feed 43 = .ok (.getfield 83, 3) := by decide +kernel
theorem dX11_feed_46 : decode cX11_feed 46 = .ok (.ireturn, 1) := by decide +kernel
theorem dX11_fewest_0 : decode cX11_fewest 0 = .ok (.aload_n 0, 1) := by decide +kernel
theorem dX11_fewest_1 : decode cX11_fewest 1 = .ok (.iconst 0, 1) := by decide +kernel
theorem dX11_fewest_2 : decode cX11_fewest 2 = .ok (.putfield 150, 3) := by decide +kernel
theorem dX11_fewest_5 : decode cX11_fewest 5 = .ok (.aload_n 0, 1) := by decide +kernel
theorem dX11_fewest_6 : decode cX11_fewest 6 = .ok (.iload_n 1, 1) := by decide +kernel
theorem dX11_fewest_7 : decode cX11_fewest 7 = .ok (.iload_n 2, 1) := by decide +kernel
theorem dX11_fewest_8 : decode cX11_fewest 8 = .ok (.iload_n 3, 1) := by decide +kernel
theorem dX11_fewest_9 : decode cX11_fewest 9 = .ok (.invokevirtual 143, 3) := by decide +kernel
theorem dX11_fewest_12 : decode cX11_fewest 12 = .ok (.ifCond .eq 14, 3) := by decide +kernel
theorem dX11_fewest_26 : decode cX11_fewest 26 = .ok (.iconst (-1), 1) := by decide +kernel
theorem dX11_fewest_27 : decode cX11_fewest 27 = .ok (.ireturn, 1) := by decide +kernel
theorem dX11_fits_0 : decode cX11_fits 0 = .ok (.iconst 0, 1) := by decide +kernel
theorem dX11_fits_1 : decode cX11_fits 1 = .ok (.istore_n 2, 1) := by decide +kernel
theorem dX11_fits_2 : decode cX11_fits 2 = .ok (.iconst 0, 1) := by decide +kernel
theorem dX11_fits_3 : decode cX11_fits 3 = .ok (.istore_n 3, 1) := by decide +kernel
theorem dX11_fits_4 : decode cX11_fits 4 = .ok (.iload_n 3, 1) := by decide +kernel
theorem dX11_fits_5 : decode cX11_fits 5 = .ok (.aload_n 0, 1) := by decide +kernel
theorem dX11_fits_6 : decode cX11_fits 6 = .ok (.getfield 10, 3) := by decide +kernel
theorem dX11_fits_9 : decode cX11_fits 9 = .ok (.getfield 228, 3) := by decide +kernel
theorem dX11_fits_12 : decode cX11_fits 12 = .ok (.if_icmp .ge 28, 3) := by decide +kernel
theorem dX11_fits_40 : decode cX11_fits 40 = .ok (.iload_n 2, 1) := by decide +kernel
theorem dX11_fits_41 : decode cX11_fits 41 = .ok (.ireturn, 1) := by decide +kernel
theorem dX11_foot_0 : decode cX11_foot 0 = .ok (.aload_n 0, 1) := by decide +kernel
theorem dX11_foot_1 : decode cX11_foot 1 = .ok (.iload_n 1, 1) := by decide +kernel
theorem dX11_foot_2 : decode cX11_foot 2 = .ok (.iload_n 2, 1) := by decide +kernel
theorem dX11_foot_3 : decode cX11_foot 3 = .ok (.iload_n 3, 1) := by decide +kernel
theorem dX11_foot_4 : decode cX11_foot 4 = .ok (.invokevirtual 143, 3) := by decide +kernel
theorem dX11_foot_7 : decode cX11_foot 7 = .ok (.ifCond .eq 16, 3) := by decide +kernel
theorem dX11_foot_23 : decode cX11_foot 23 = .ok (.iconst (-1), 1) := by decide +kernel
theorem dX11_foot_24 : decode cX11_foot 24 = .ok (.ireturn, 1) := by decide +kernel
theorem dX11_force_0 : decode cX11_force 0 = .ok (.aload_n 0, 1) := by decide +kernel
theorem dX11_force_1 : decode cX11_force 1 = .ok (.getfield 10, 3) := by decide +kernel
theorem dX11_force_4 : decode cX11_force 4 = .ok (.iload_n 1, 1) := by decide +kernel
theorem dX11_force_5 : decode cX11_force 5 = .ok (.invokevirtual 262, 3) := by decide +kernel
theorem dX11_force_8 : decode cX11_force 8 = .ok (.ifCond .ne 5, 3) := by decide +kernel
theorem dX11_force_11 : decode cX11_force 11 = .ok (.iconst (-1), 1) := by decide +kernel
theorem dX11_force_12 : decode cX11_force 12 = .ok (.ireturn, 1) := by decide +kernel
theorem dX11_gap_0 : decode cX11_gap 0 = .ok (.aload_n 0, 1) := by decide +kernel
theorem dX11_gap_1 : decode cX11_gap 1 = .ok (.getfield 10, 3) := by decide +kernel
theorem dX11_gap_4 : decode cX11_gap 4 = .ok (.iload_n 1, 1) := by decide +kernel
theorem dX11_gap_5 : decode cX11_gap 5 = .ok (.invokevirtual 121, 3) := by decide +kernel
theorem dX11_gap_8 : decode cX11_gap 8 = .ok (.ifCond .eq 14, 3) := by decide +kernel
theorem dX11_gap_22 : decode cX11_gap 22 = .ok (.iconst (-1), 1) := by decide +kernel
theorem dX11_gap_23 : decode cX11_gap 23 = .ok (.ireturn, 1) := by decide +kernel
theorem dX11_go_0 : decode cX11_go 0 = .ok (.aload_n 0, 1) := by decide +kernel
theorem dX11_go_1 : decode cX11_go 1 = .ok (.iload_n 1, 1) := by decide +kernel
theorem dX11_go_2 : decode cX11_go 2 = .ok (.invokevirtual 252, 3) := by decide +kernel
theorem dX11_go_5 : decode cX11_go 5 = .ok (.ifCond .ne 5, 3) := by decide +kernel
theorem dX11_go_8 : decode cX11_go 8 = .ok (.iconst (-1), 1) := by decide +kernel
theorem dX11_go_9 : decode cX11_go 9 = .ok (.ireturn, 1) := by decide +kernel
theorem dX11_image_0 : decode cX11_image 0 = .ok (.aload_n 0, 1) := by decide +kernel
theorem dX11_image_1 : decode cX11_image 1 = .ok (.getfield 65, 3) := by decide +kernel
theorem dX11_image_4 : decode cX11_image 4 = .ok (.iload_n 1, 1) := by decide +kernel
theorem dX11_image_5 : decode cX11_image 5 = .ok (.invokevirtual 299, 3) := by decide +kernel
theorem dX11_image_8 : decode cX11_image 8 = .ok (.ifCond .eq 10, 3) := by decide +kernel
theorem dX11_image_11 : decode cX11_image 11 = .ok (.aload_n 0, 1) := by decide +kernel
theorem dX11_image_12 : decode cX11_image 12 = .ok (.invokevirtual 131, 3) := by decide +kernel
theorem dX11_image_15 : decode cX11_image 15 = .ok (.goto 4, 3) := by decide +kernel
theorem dX11_image_18 : decode cX11_image 18 = .ok (.iconst (-1), 1) := by decide +kernel
theorem dX11_image_19 : decode cX11_image 19 = .ok (.ireturn, 1) := by decide +kernel
theorem dX11_inch_0 : decode cX11_inch 0 = .ok (.aload_n 0, 1) := by decide +kernel
theorem dX11_inch_1 : decode cX11_inch 1 = .ok (.getfield 10, 3) := by decide +kernel
theorem dX11_inch_4 : decode cX11_inch 4 = .ok (.iload_n 1, 1) := by decide +kernel
theorem dX11_inch_5 : decode cX11_inch 5 = .ok (.iload_n 2, 1) := by decide +kernel
theorem dX11_inch_6 : decode cX11_inch 6 = .ok (.invokevirtual 110, 3) := by decide +kernel
theorem dX11_inch_9 : decode cX11_inch 9 = .ok (.ifCond .eq 12, 3) := by decide +kernel
theorem dX11_inch_21 : decode cX11_inch 21 = .ok (.iconst (-1), 1) := by decide +kernel
theorem dX11_inch_22 : decode cX11_inch 22 = .ok (.ireturn, 1) := by decide +kernel
theorem dX11_keeps_0 : decode cX11_keeps 0 = .ok (.aload_n 0, 1) := by decide +kernel
theorem dX11_keeps_1 : decode cX11_keeps 1 = .ok (.iload_n 1, 1) := by decide +kernel
theorem dX11_keeps_2 : decode cX11_keeps 2 = .ok (.iload_n 2, 1) := by decide +kernel
theorem dX11_keeps_3 : decode cX11_keeps 3 = .ok (.iload_n 3, 1) := by decide +kernel
theorem dX11_keeps_4 : decode cX11_keeps 4 = .ok (.invokevirtual 143, 3) := by decide +kernel
theorem dX11_keeps_7 : decode cX11_keeps 7 = .ok (.ifCond .ne 5, 3) := by decide +kernel
theorem dX11_keeps_10 : decode cX11_keeps 10 = .ok (.iconst (-1), 1) := by decide +kernel
theorem dX11_keeps_11 : decode cX11_keeps 11 = .ok (.ireturn, 1) := by decide +kernel
theorem dX11_later_0 : decode cX11_later 0 = .ok (.iload_n 1, 1) := by decide +kernel
theorem dX11_later_1 : decode cX11_later 1 = .ok (.ifCond .lt 25, 3) := by decide +kernel
theorem dX11_later_4 : decode cX11_later 4 = .ok (.iload_n 1, 1) := by decide +kernel
theorem dX11_later_5 : decode cX11_later 5 = .ok (.sipush 1000, 3) := by decide +kernel
theorem dX11_later_8 : decode cX11_later 8 = .ok (.if_icmp .gt 18, 3) := by decide +kernel
theorem dX11_later_11 : decode cX11_later 11 = .ok (.aload_n 0, 1) := by decide +kernel
theorem dX11_later_12 : decode cX11_later 12 = .ok (.getfield 72, 3) := by decide +kernel
theorem dX11_later_15 : decode cX11_later 15 = .ok (.getfield 278, 3) := by decide +kernel
theorem dX11_later_18 : decode cX11_later 18 = .ok (.iload_n 1, 1) := by decide +kernel
theorem dX11_later_19 : decode cX11_later 19 = .ok (.iadd, 1) := by decide +kernel
theorem dX11_later_20 : decode cX11_later 20 = .ok (.ldc_w 281, 3) := by decide +kernel
theorem dX11_later_23 : decode cX11_later 23 = .ok (.if_icmp .le 5, 3) := by decide +kernel
theorem dX11_later_26 : decode cX11_later 26 = .ok (.iconst (-1), 1) := by decide +kernel
theorem dX11_later_27 : decode cX11_later 27 = .ok (.ireturn, 1) := by decide +kernel
theorem dX11_later_28 : decode cX11_later 28 = .ok (.aload_n 0, 1) := by decide +kernel
theorem dX11_later_29 : decode cX11_later 29 = .ok (.getfield 72, 3) := by decide +kernel
theorem dX11_later_32 : decode cX11_later 32 = .ok (.dup, 1) := by decide +kernel
theorem dX11_later_33 : decode cX11_later 33 = .ok (.getfield 278, 3) := by decide +kernel
theorem dX11_later_36 : decode cX11_later 36 = .ok (.iload_n 1, 1) := by decide +kernel
theorem dX11_later_37 : decode cX11_later 37 = .ok (.iadd, 1) := by decide +kernel
theorem dX11_later_38 : decode cX11_later 38 = .ok (.putfield 278, 3) := by decide +kernel
theorem dX11_later_41 : decode cX11_later 41 = .ok (.aload_n 0, 1) := by decide +kernel
theorem dX11_later_42 : decode cX11_later 42 = .ok (.getfield 72, 3) := by decide +kernel
theorem dX11_later_45 : decode cX11_later 45 = .ok (.getfield 278, 3) := by decide +kernel
theorem dX11_later_48 : decode cX11_later 48 = .ok (.ireturn, 1) := by decide +kernel
theorem dX11_leave_0 : decode cX11_leave 0 = .ok (.aload_n 0, 1) := by decide +kernel
theorem dX11_leave_1 : decode cX11_leave 1 = .ok (.iload_n 1, 1) := by decide +kernel
theorem dX11_leave_2 : decode cX11_leave 2 = .ok (.iload_n 2, 1) := by decide +kernel
theorem dX11_leave_3 : decode cX11_leave 3 = .ok (.iconst 0, 1) := by decide +kernel
theorem dX11_leave_4 : decode cX11_leave 4 = .ok (.invokevirtual 143, 3) := by decide +kernel
theorem dX11_leave_7 : decode cX11_leave 7 = .ok (.ifCond .ne 5, 3) := by decide +kernel
theorem dX11_leave_10 : decode cX11_leave 10 = .ok (.iconst (-1), 1) := by decide +kernel
theorem dX11_leave_11 : decode cX11_leave 11 = .ok (.ireturn, 1) := by decide +kernel
theorem dX11_length_0 : decode cX11_length 0 = .ok (.aload_n 0, 1) := by decide +kernel
theorem dX11_length_1 : decode cX11_length 1 = .ok (.getfield 10, 3) := by decide +kernel
theorem dX11_length_4 : decode cX11_length 4 = .ok (.iload_n 1, 1) := by decide +kernel
theorem dX11_length_5 : decode cX11_length 5 = .ok (.invokevirtual 121, 3) := by decide +kernel
theorem dX11_length_8 : decode cX11_length 8 = .ok (.ifCond .eq 15, 3) := by decide +kernel
theorem dX11_length_23 : decode cX11_length 23 = .ok (.iconst (-1), 1) := by decide +kernel
theorem dX11_length_24 : decode cX11_length 24 = .ok (.ireturn, 1) := by decide +kernel
theorem dX11_lies_0 : decode cX11_lies 0 = .ok (.iload_n 1, 1) := by decide +kernel
theorem dX11_lies_1 : decode cX11_lies 1 = .ok (.ifCond .lt 20, 3) := by decide +kernel
theorem dX11_lies_4 : decode cX11_lies 4 = .ok (.iload_n 1, 1) := by decide +kernel
theorem dX11_lies_5 : decode cX11_lies 5 = .ok (.aload_n 0, 1) := by decide +kernel
theorem dX11_lies_6 : decode cX11_lies 6 = .ok (.getfield 150, 3) := by decide +kernel
theorem dX11_lies_9 : decode cX11_lies 9 = .ok (.if_icmp .ge 12, 3) := by decide +kernel
theorem dX11_lies_21 : decode cX11_lies 21 = .ok (.iconst (-1), 1) := by decide +kernel
theorem dX11_lies_22 : decode cX11_lies 22 = .ok (.ireturn, 1) := by decide +kernel
theorem dX11_line_0 : decode cX11_line 0 = .ok (.aload_n 0, 1) := by decide +kernel
theorem dX11_line_1 : decode cX11_line 1 = .ok (.getfield 10, 3) := by decide +kernel
theorem dX11_line_4 : decode cX11_line 4 = .ok (.iload_n 1, 1) := by decide +kernel
theorem dX11_line_5 : decode cX11_line 5 = .ok (.iload_n 3, 1) := by decide +kernel
theorem dX11_line_6 : decode cX11_line 6 = .ok (.invokevirtual 110, 3) := by decide +kernel
theorem dX11_line_9 : decode cX11_line 9 = .ok (.ifCond .eq 14, 3) := by decide +kernel
theorem dX11_line_23 : decode cX11_line 23 = .ok (.iconst (-1), 1) := by decide +kernel
theorem dX11_line_24 : decode cX11_line 24 = .ok (.ireturn, 1) := by decide +kernel
theorem dX11_pavement_0 : decode cX11_pavement 0 = .ok (.aload_n 0, 1) := by decide +kernel
theorem dX11_pavement_1 : decode cX11_pavement 1 = .ok (.getfield 28, 3) := by decide +kernel
theorem dX11_pavement_4 : decode cX11_pavement 4 = .ok (.aload_n 0, 1) := by decide +kernel
theorem dX11_pavement_5 : decode cX11_pavement 5 = .ok (.getfield 83, 3) := by decide +kernel
theorem dX11_pavement_8 : decode cX11_pavement 8 = .ok (.aload_n 0, 1) := by decide +kernel
theorem dX11_pavement_9 : decode cX11_pavement 9 = .ok (.getfield 16, 3) := by decide +kernel
theorem dX11_pavement_12 : decode cX11_pavement 12 = .ok (.invokevirtual 91, 3) := by decide +kernel
theorem dX11_pavement_15 : decode cX11_pavement 15 = .ok (.istore_n 1, 1) := by decide +kernel
theorem dX11_pavement_16 : decode cX11_pavement 16 = .ok (.aload_n 0, 1) := by decide +kernel
theorem dX11_pavement_17 : decode cX11_pavement 17 = .ok (.iconst 0, 1) := by decide +kernel
theorem dX11_pavement_18 : decode cX11_pavement 18 = .ok (.putfield 83, 3) := by decide +kernel
theorem dX11_pavement_21 : decode cX11_pavement 21 = .ok (.iload_n 1, 1) := by decide +kernel
theorem dX11_pavement_22 : decode cX11_pavement 22 = .ok (.ifCond .ne 5, 3) := by decide +kernel
theorem dX11_pavement_27 : decode cX11_pavement 27 = .ok (.aload_n 0, 1) := by decide +kernel
theorem dX11_pavement_28 : decode cX11_pavement 28 = .ok (.getfield 16, 3) := by decide +kernel
theorem dX11_pavement_31 : decode cX11_pavement 31 = .ok (.astore_n 2, 1) := by decide +kernel
theorem dX11_pavement_32 : decode cX11_pavement 32 = .ok (.aload_n 0, 1) := by decide +kernel
theorem dX11_pavement_33 : decode cX11_pavement 33 = .ok (.aload_n 0, 1) := by decide +kernel
theorem dX11_pavement_34 : decode cX11_pavement 34 = .ok (.getfield 10, 3) := by decide +kernel
theorem dX11_pavement_37 : decode cX11_pavement 37 = .ok (.putfield 16, 3) := by decide +kernel
theorem dX11_pavement_40 : decode cX11_pavement 40 = .ok (.aload_n 0, 1) := by decide +kernel
theorem dX11_pavement_41 : decode cX11_pavement 41 = .ok (.aload_n 2, 1) := by decide +kernel
theorem dX11_pavement_42 : decode cX11_pavement 42 = .ok (.putfield 10, 3) := by decide +kernel
theorem dX11_pavement_45 : decode cX11_pavement 45 = .ok (.aload_n 0, 1) := by decide +kernel
theorem dX11_pavement_46 : decode cX11_pavement 46 = .ok (.invokevirtual 80, 3) := by decide +kernel
theorem dX11_pavement_49 : decode cX11_pavement 49 = .ok (.aload_n 0, 1) := by decide +kernel
theorem dX11_pavement_50 : decode cX11_pavement 50 = .ok (.getfield 10, 3) := by decide +kernel
theorem dX11_pavement_53 : decode cX11_pavement 53 = .ok (.getfield 95, 3) := by decide +kernel
theorem dX11_pavement_56 : decode cX11_pavement 56 = .ok (.ireturn, 1) := by decide +kernel
theorem dX11_putOnTape_0 : decode cX11_putOnTape 0 = .ok (.bipush 24, 2) := by decide +kernel
theorem dX11_putOnTape_2 : decode cX11_putOnTape 2 = .ok (.istore_n 2, 1) := by decide +kernel
theorem dX11_putOnTape_3 : decode cX11_putOnTape 3 = .ok (.iload_n 2, 1) := by decide +kernel
theorem dX11_putOnTape_4 : decode cX11_putOnTape 4 = .ok (.ifCond .lt 39, 3) := by decide +kernel
theorem dX11_putOnTape_7 : decode cX11_putOnTape 7 = .ok (.aload_n 0, 1) := by decide +kernel
theorem dX11_putOnTape_8 : decode cX11_putOnTape 8 = .ok (.getfield 83, 3) := by decide +kernel
theorem dX11_putOnTape_11 : decode cX11_putOnTape 11 = .ok (.sipush 1600, 3) := by decide +kernel
theorem dX11_putOnTape_14 : decode cX11_putOnTape 14 = .ok (.if_icmp .ge 23, 3) := by decide +kernel
theorem dX11_putOnTape_17 : decode cX11_putOnTape 17 = .ok (.aload_n 0, 1) := by decide +kernel
theorem dX11_putOnTape_18 : decode cX11_putOnTape 18 = .ok (.getfield 19, 3) := by decide +kernel
theorem dX11_putOnTape_21 : decode cX11_putOnTape 21 = .ok (.aload_n 0, 1) := by decide +kernel
theorem dX11_putOnTape_22 : decode cX11_putOnTape 22 = .ok (.dup, 1) := by decide +kernel
theorem dX11_putOnTape_23 : decode cX11_putOnTape 23 = .ok (.getfield 83, 3) := by decide +kernel
theorem dX11_putOnTape_26 : decode cX11_putOnTape 26 = .ok (.dup_x1, 1) := by decide +kernel
theorem dX11_putOnTape_27 : decode cX11_putOnTape 27 = .ok (.iconst 1, 1) := by decide +kernel
theorem dX11_putOnTape_28 : decode cX11_putOnTape 28 = .ok (.iadd, 1) := by decide +kernel
theorem dX11_putOnTape_29 : decode cX11_putOnTape 29 = .ok (.putfield 83, 3) := by decide +kernel
theorem dX11_putOnTape_32 : decode cX11_putOnTape 32 = .ok (.iload_n 1, 1) := by decide +kernel
theorem dX11_putOnTape_33 : decode cX11_putOnTape 33 = .ok (.iload_n 2, 1) := by decide +kernel
theorem dX11_putOnTape_34 : decode cX11_putOnTape 34 = .ok (.ishr, 1) := by decide +kernel
theorem dX11_putOnTape_35 : decode cX11_putOnTape 35 = .ok (.i2b, 1) := by decide +kernel
theorem dX11_putOnTape_36 : decode cX11_putOnTape 36 = .ok (.bastore, 1) := by decide +kernel
theorem dX11_putOnTape_37 : decode cX11_putOnTape 37 = .ok (.iinc 2 (-8), 3) := by decide +kernel
theorem dX11_putOnTape_40 : decode cX11_putOnTape 40 = .ok (.goto (-37), 3) := by decide +kernel
theorem dX11_putOnTape_43 : decode cX11_putOnTape 43 = .ok (.return_, 1) := by decide +kernel
theorem dX11_rain_0 : decode cX11_rain 0 = .ok (.aload_n 0, 1) := by decide +kernel
theorem dX11_rain_1 : decode cX11_rain 1 = .ok (.getfield 65, 3) := by decide +kernel
theorem dX11_rain_4 : decode cX11_rain 4 = .ok (.getfield 246, 3) := by decide +kernel
theorem dX11_rain_7 : decode cX11_rain 7 = .ok (.bipush 9, 2) := by decide +kernel
theorem dX11_rain_9 : decode cX11_rain 9 = .ok (.dup2, 1) := by decide +kernel
theorem dX11_rain_10 : decode cX11_rain 10 = .ok (.iaload, 1) := by decide +kernel
theorem dX11_rain_11 : decode cX11_rain 11 = .ok (.iconst 1, 1) := by decide +kernel
theorem dX11_rain_12 : decode cX11_rain 12 = .ok (.ixor, 1) := by decide +kernel
theorem dX11_rain_13 : decode cX11_rain 13 = .ok (.iastore, 1) := by decide +kernel
theorem dX11_rain_14 : decode cX11_rain 14 = .ok (.aload_n 0, 1) := by decide +kernel
theorem dX11_rain_15 : decode cX11_rain 15 = .ok (.getfield 65, 3) := by decide +kernel
theorem dX11_rain_18 : decode cX11_rain 18 = .ok (.invokevirtual 249, 3) := by decide +kernel
theorem dX11_rain_21 : decode cX11_rain 21 = .ok (.aload_n 0, 1) := by decide +kernel
theorem dX11_rain_22 : decode cX11_rain 22 = .ok (.getfield 65, 3) := by decide +kernel
theorem dX11_rain_25 : decode cX11_rain 25 = .ok (.getfield 246, 3) := by decide +kernel
theorem dX11_rain_28 : decode cX11_rain 28 = .ok (.bipush 9, 2) := by decide +kernel
theorem dX11_rain_30 : decode cX11_rain 30 = .ok (.iaload, 1) := by decide +kernel
theorem dX11_rain_31 : decode cX11_rain 31 = .ok (.iconst 1, 1) := by decide +kernel
theorem dX11_rain_32 : decode cX11_rain 32 = .ok (.if_icmp .ne 7, 3) := by decide +kernel
theorem dX11_rain_35 : decode cX11_rain 35 = .ok (.iconst 1, 1) := by decide +kernel
theorem dX11_rain_36 : decode cX11_rain 36 = .ok (.goto 4, 3) := by decide +kernel
theorem dX11_rain_40 : decode cX11_rain 40 = .ok (.ireturn, 1) := by decide +kernel
theorem dX11_redo_0 : decode cX11_redo 0 = .ok (.aload_n 0, 1) := by decide +kernel
theorem dX11_redo_1 : decode cX11_redo 1 = .ok (.getfield 65, 3) := by decide +kernel
theorem dX11_redo_4 : decode cX11_redo 4 = .ok (.invokevirtual 268, 3) := by decide +kernel
theorem dX11_redo_7 : decode cX11_redo 7 = .ok (.ireturn, 1) := by decide +kernel
theorem dX11_sight_0 : decode cX11_sight 0 = .ok (.aload_n 0, 1) := by decide +kernel
theorem dX11_sight_1 : decode cX11_sight 1 = .ok (.getfield 10, 3) := by decide +kernel
theorem dX11_sight_4 : decode cX11_sight 4 = .ok (.iload_n 1, 1) := by decide +kernel
theorem dX11_sight_5 : decode cX11_sight 5 = .ok (.iload_n 2, 1) := by decide +kernel
theorem dX11_sight_6 : decode cX11_sight 6 = .ok (.iload_n 3, 1) := by decide +kernel
theorem dX11_sight_7 : decode cX11_sight 7 = .ok (.invokevirtual 234, 3) := by decide +kernel
theorem dX11_sight_10 : decode cX11_sight 10 = .ok (.ifCond .eq 16, 3) := by decide +kernel
theorem dX11_sight_26 : decode cX11_sight 26 = .ok (.iconst (-1), 1) := by decide +kernel
theorem dX11_sight_27 : decode cX11_sight 27 = .ok (.ireturn, 1) := by decide +kernel
theorem dX11_today_0 : decode cX11_today 0 = .ok (.aload_n 0, 1) := by decide +kernel
theorem dX11_today_1 : decode cX11_today 1 = .ok (.getfield 65, 3) := by decide +kernel
theorem dX11_today_4 : decode cX11_today 4 = .ok (.getfield 246, 3) := by decide +kernel
theorem dX11_today_7 : decode cX11_today 7 = .ok (.bipush 6, 2) := by decide +kernel
theorem dX11_today_9 : decode cX11_today 9 = .ok (.iaload, 1) := by decide +kernel
theorem dX11_today_10 : decode cX11_today 10 = .ok (.ireturn, 1) := by decide +kernel
theorem dX11_undo_0 : decode cX11_undo 0 = .ok (.aload_n 0, 1) := by decide +kernel
theorem dX11_undo_1 : decode cX11_undo 1 = .ok (.getfield 65, 3) := by decide +kernel
theorem dX11_undo_4 : decode cX11_undo 4 = .ok (.invokevirtual 265, 3) := by decide +kernel
theorem dX11_undo_7 : decode cX11_undo 7 = .ok (.ireturn, 1) := by decide +kernel
theorem dX11_untell_0 : decode cX11_untell 0 = .ok (.aload_n 0, 1) := by decide +kernel
theorem dX11_untell_1 : decode cX11_untell 1 = .ok (.getfield 72, 3) := by decide +kernel
theorem dX11_untell_4 : decode cX11_untell 4 = .ok (.iload_n 1, 1) := by decide +kernel
theorem dX11_untell_5 : decode cX11_untell 5 = .ok (.invokevirtual 275, 3) := by decide +kernel
theorem dX11_untell_8 : decode cX11_untell 8 = .ok (.ireturn, 1) := by decide +kernel
theorem dX11_wager_0 : decode cX11_wager 0 = .ok (.aload_n 0, 1) := by decide +kernel
theorem dX11_wager_1 : decode cX11_wager 1 = .ok (.iload_n 1, 1) := by decide +kernel
theorem dX11_wager_2 : decode cX11_wager 2 = .ok (.iload_n 2, 1) := by decide +kernel
theorem dX11_wager_3 : decode cX11_wager 3 = .ok (.iload_n 3, 1) := by decide +kernel
theorem dX11_wager_4 : decode cX11_wager 4 = .ok (.invokevirtual 143, 3) := by decide +kernel
theorem dX11_wager_7 : decode cX11_wager 7 = .ok (.ifCond .eq 14, 3) := by decide +kernel
theorem dX11_wager_21 : decode cX11_wager 21 = .ok (.iconst (-1), 1) := by decide +kernel
theorem dX11_wager_22 : decode cX11_wager 22 = .ok (.ireturn, 1) := by decide +kernel
theorem dX11_walk_0 : decode cX11_walk 0 = .ok (.aload_n 0, 1) := by decide +kernel
theorem dX11_walk_1 : decode cX11_walk 1 = .ok (.getfield 10, 3) := by decide +kernel
theorem dX11_walk_4 : decode cX11_walk 4 = .ok (.iload_n 1, 1) := by decide +kernel
theorem dX11_walk_5 : decode cX11_walk 5 = .ok (.iload_n 2, 1) := by decide +kernel
theorem dX11_walk_6 : decode cX11_walk 6 = .ok (.iload_n 3, 1) := by decide +kernel
theorem dX11_walk_7 : decode cX11_walk 7 = .ok (.invokevirtual 234, 3) := by decide +kernel
theorem dX11_walk_10 : decode cX11_walk 10 = .ok (.ifCond .eq 16, 3) := by decide +kernel
theorem dX11_walk_26 : decode cX11_walk 26 = .ok (.iconst (-1), 1) := by decide +kernel
theorem dX11_walk_27 : decode cX11_walk 27 = .ok (.ireturn, 1) := by decide +kernel
theorem dX11_walker_0 : decode cX11_walker 0 = .ok (.aload_n 0, 1) := by decide +kernel
theorem dX11_walker_1 : decode cX11_walker 1 = .ok (.getfield 65, 3) := by decide +kernel
theorem dX11_walker_4 : decode cX11_walker 4 = .ok (.getfield 246, 3) := by decide +kernel
theorem dX11_walker_7 : decode cX11_walker 7 = .ok (.iconst 0, 1) := by decide +kernel
theorem dX11_walker_8 : decode cX11_walker 8 = .ok (.iaload, 1) := by decide +kernel
theorem dX11_walker_9 : decode cX11_walker 9 = .ok (.iconst (-1), 1) := by decide +kernel
theorem dX11_walker_10 : decode cX11_walker 10 = .ok (.if_icmp .eq 12, 3) := by decide +kernel
theorem dX11_walker_22 : decode cX11_walker 22 = .ok (.iconst (-1), 1) := by decide +kernel
theorem dX11_walker_23 : decode cX11_walker 23 = .ok (.ireturn, 1) := by decide +kernel
theorem dX11_ways_0 : decode cX11_ways 0 = .ok (.aload_n 0, 1) := by decide +kernel
theorem dX11_ways_1 : decode cX11_ways 1 = .ok (.iload_n 1, 1) := by decide +kernel
theorem dX11_ways_2 : decode cX11_ways 2 = .ok (.iload_n 2, 1) := by decide +kernel
theorem dX11_ways_3 : decode cX11_ways 3 = .ok (.iload_n 3, 1) := by decide +kernel
theorem dX11_ways_4 : decode cX11_ways 4 = .ok (.invokevirtual 143, 3) := by decide +kernel
theorem dX11_ways_7 : decode cX11_ways 7 = .ok (.ifCond .eq 16, 3) := by decide +kernel
theorem dX11_ways_23 : decode cX11_ways 23 = .ok (.ldc2_w 165, 3) := by decide +kernel
theorem dX11_ways_26 : decode cX11_ways 26 = .ok (.lreturn, 1) := by decide +kernel
theorem dX1_bringFrom_0 : decode cX1_bringFrom 0 = .ok (.iload_n 1, 1) := by decide +kernel
theorem dX1_bringFrom_1 : decode cX1_bringFrom 1 = .ok (.ifCond .lt 19, 3) := by decide +kernel
theorem dX1_bringFrom_4 : decode cX1_bringFrom 4 = .ok (.iload_n 1, 1) := by decide +kernel
theorem dX1_bringFrom_5 : decode cX1_bringFrom 5 = .ok (.iconst 3, 1) := by decide +kernel
theorem dX1_bringFrom_6 : decode cX1_bringFrom 6 = .ok (.if_icmp .ge 14, 3) := by decide +kernel
theorem dX1_bringFrom_9 : decode cX1_bringFrom 9 = .ok (.aload_n 0, 1) := by decide +kernel
theorem dX1_bringFrom_10 : decode cX1_bringFrom 10 = .ok (.getfield 27, 3) := by decide +kernel
theorem dX1_bringFrom_13 : decode cX1_bringFrom 13 = .ok (.iload_n 1, 1) := by decide +kernel
theorem dX1_bringFrom_14 : decode cX1_bringFrom 14 = .ok (.ishr, 1) := by decide +kernel
theorem dX1_bringFrom_15 : decode cX1_bringFrom 15 = .ok (.iconst 1, 1) := by decide +kernel
theorem dX1_bringFrom_16 : decode cX1_bringFrom 16 = .ok (.iand, 1) := by decide +kernel
theorem dX1_bringFrom_17 : decode cX1_bringFrom 17 = .ok (.ifCond .ne 5, 3) := by decide +kernel
theorem dX1_bringFrom_20 : decode cX1_bringFrom 20 = .ok (.iconst 0, 1) := by decide +kernel
theorem dX1_bringFrom_21 : decode cX1_bringFrom 21 = .ok (.ireturn, 1) := by decide +kernel
theorem dX1_doAgain_0 : decode cX1_doAgain 0 = .ok (.aload_n 0, 1) := by decide +kernel
theorem dX1_doAgain_1 : decode cX1_doAgain 1 = .ok (.getfield 37, 3) := by decide +kernel
theorem dX1_doAgain_4 : decode cX1_doAgain 4 = .ok (.ifCond .gt 5, 3) := by decide +kernel
theorem dX1_doAgain_7 : decode cX1_doAgain 7 = .ok (.iconst 0, 1) := by decide +kernel
theorem dX1_doAgain_8 : decode cX1_doAgain 8 = .ok (.ireturn, 1) := by decide +kernel
theorem dX1_keepAct_0 : decode cX1_keepAct 0 = .ok (.aload_n 0, 1) := by decide +kernel
theorem dX1_keepAct_1 : decode cX1_keepAct 1 = .ok (.getfield 34, 3) := by decide +kernel
theorem dX1_keepAct_4 : decode cX1_keepAct 4 = .ok (.bipush 40, 2) := by decide +kernel
theorem dX1_keepAct_6 : decode cX1_keepAct 6 = .ok (.if_icmp .lt 26, 3) := by decide +kernel
theorem dX1_keepAct_32 : decode cX1_keepAct 32 = .ok (.aload_n 0, 1) := by decide +kernel
theorem dX1_keepAct_33 : decode cX1_keepAct 33 = .ok (.dup, 1) := by decide +kernel
theorem dX1_keepAct_34 : decode cX1_keepAct 34 = .ok (.getfield 34, 3) := by decide +kernel
theorem dX1_keepAct_37 : decode cX1_keepAct 37 = .ok (.iconst 1, 1) := by decide +kernel
theorem dX1_keepAct_38 : decode cX1_keepAct 38 = .ok (.iadd, 1) := by decide +kernel
theorem dX1_keepAct_39 : decode cX1_keepAct 39 = .ok (.putfield 34, 3) := by decide +kernel
theorem dX1_keepAct_42 : decode cX1_keepAct 42 = .ok (.aload_n 0, 1) := by decide +kernel
theorem dX1_keepAct_43 : decode cX1_keepAct 43 = .ok (.iconst 0, 1) := by decide +kernel
theorem dX1_keepAct_44 : decode cX1_keepAct 44 = .ok (.putfield 37, 3) := by decide +kernel
theorem dX1_keepAct_47 : decode cX1_keepAct 47 = .ok (.aload_n 0, 1) := by decide +kernel
theorem dX1_keepAct_48 : decode cX1_keepAct 48 = .ok (.getfield 11, 3) := by decide +kernel
theorem dX1_keepAct_51 : decode cX1_keepAct 51 = .ok (.iconst 0, 1) := by decide +kernel
theorem dX1_keepAct_52 : decode cX1_keepAct 52 = .ok (.aload_n 0, 1) := by decide +kernel
theorem dX1_keepAct_53 : decode cX1_keepAct 53 = .ok (.getfield 15, 3) := by decide +kernel
theorem dX1_keepAct_56 : decode cX1_keepAct 56 = .ok (.aload_n 0, 1) := by decide +kernel
theorem dX1_keepAct_57 : decode cX1_keepAct 57 = .ok (.getfield 34, 3) := by decide +kernel
theorem dX1_keepAct_60 : decode cX1_keepAct 60 = .ok (.bipush 10, 2) := by decide +kernel
theorem dX1_keepAct_62 : decode cX1_keepAct 62 = .ok (.imul, 1) := by decide +kernel
theorem dX1_keepAct_63 : decode cX1_keepAct 63 = .ok (.bipush 10, 2) := by decide +kernel
theorem dX1_keepAct_65 : decode cX1_keepAct 65 = .ok (.invokestatic 40, 3) := by decide +kernel
theorem dX1_keepAct_68 : decode cX1_keepAct 68 = .ok (.return_, 1) := by decide +kernel
theorem dX1_keepIn_0 : decode cX1_keepIn 0 = .ok (.iload_n 1, 1) := by decide +kernel
theorem dX1_keepIn_1 : decode cX1_keepIn 1 = .ok (.ifCond .lt 8, 3) := by decide +kernel
theorem dX1_keepIn_4 : decode cX1_keepIn 4 = .ok (.iload_n 1, 1) := by decide +kernel
theorem dX1_keepIn_5 : decode cX1_keepIn 5 = .ok (.iconst 3, 1) := by decide +kernel
theorem dX1_keepIn_6 : decode cX1_keepIn 6 = .ok (.if_icmp .lt 5, 3) := by decide +kernel
theorem dX1_keepIn_9 : decode cX1_keepIn 9 = .ok (.iconst 0, 1) := by decide +kernel
theorem dX1_keepIn_10 : decode cX1_keepIn 10 = .ok (.ireturn, 1) := by decide +kernel
theorem dX1_keepIn_11 : decode cX1_keepIn 11 = .ok (.aload_n 0, 1) := by decide +kernel
theorem dX1_keepIn_12 : decode cX1_keepIn 12 = .ok (.getfield 11, 3) := by decide +kernel
theorem dX1_keepIn_15 : decode cX1_keepIn 15 = .ok (.iconst 0, 1) := by decide +kernel
theorem dX1_keepIn_16 : decode cX1_keepIn 16 = .ok (.aload_n 0, 1) := by decide +kernel
theorem dX1_keepIn_17 : decode cX1_keepIn 17 = .ok (.getfield 18, 3) := by decide +kernel
theorem dX1_keepIn_20 : decode cX1_keepIn 20 = .ok (.iload_n 1, 1) := by decide +kernel
theorem dX1_keepIn_21 : decode cX1_keepIn 21 = .ok (.bipush 10, 2) := by decide +kernel
theorem dX1_keepIn_23 : decode cX1_keepIn 23 = .ok (.imul, 1) := by decide +kernel
theorem dX1_keepIn_24 : decode cX1_keepIn 24 = .ok (.bipush 10, 2) := by decide +kernel
theorem dX1_keepIn_26 : decode cX1_keepIn 26 = .ok (.invokestatic 40, 3) := by decide +kernel
theorem dX1_keepIn_29 : decode cX1_keepIn 29 = .ok (.aload_n 0, 1) := by decide +kernel
theorem dX1_keepIn_30 : decode cX1_keepIn 30 = .ok (.dup, 1) := by decide +kernel
theorem dX1_keepIn_31 : decode cX1_keepIn 31 = .ok (.getfield 27, 3) := by decide +kernel
theorem dX1_keepIn_34 : decode cX1_keepIn 34 = .ok (.iconst 1, 1) := by decide +kernel
theorem dX1_keepIn_35 : decode cX1_keepIn 35 = .ok (.iload_n 1, 1) := by decide +kernel
theorem dX1_keepIn_36 : decode cX1_keepIn 36 = .ok (.ishl, 1) := by decide +kernel
theorem dX1_keepIn_37 : decode cX1_keepIn 37 = .ok (.ior, 1) := by decide +kernel
theorem dX1_keepIn_38 : decode cX1_keepIn 38 = .ok (.putfield 27, 3) := by decide +kernel
theorem dX1_keepIn_41 : decode cX1_keepIn 41 = .ok (.iconst 1, 1) := by decide +kernel
theorem dX1_keepIn_42 : decode cX1_keepIn 42 = .ok (.ireturn, 1) := by decide +kernel
theorem dX1_takeBack_0 : decode cX1_takeBack 0 = .ok (.aload_n 0, 1) := by decide +kernel
theorem dX1_takeBack_1 : decode cX1_takeBack 1 = .ok (.getfield 34, 3) := by decide +kernel
theorem dX1_takeBack_4 : decode cX1_takeBack 4 = .ok (.ifCond .gt 5, 3) := by decide +kernel
theorem dX1_takeBack_7 : decode cX1_takeBack 7 = .ok (.iconst 0, 1) := by decide +kernel
theorem dX1_takeBack_8 : decode cX1_takeBack 8 = .ok (.ireturn, 1) := by decide +kernel
theorem dX6_allSlips_0 : decode cX6_allSlips 0 = .ok (.aload_n 0, 1) := by decide +kernel
theorem dX6_allSlips_1 : decode cX6_allSlips 1 = .ok (.getfield 30, 3) := by decide +kernel
theorem dX6_allSlips_4 : decode cX6_allSlips 4 = .ok (.iconst 0, 1) := by decide +kernel
theorem dX6_allSlips_5 : decode cX6_allSlips 5 = .ok (.iaload, 1) := by decide +kernel
theorem dX6_allSlips_6 : decode cX6_allSlips 6 = .ok (.aload_n 0, 1) := by decide +kernel
theorem dX6_allSlips_7 : decode cX6_allSlips 7 = .ok (.getfield 30, 3) := by decide +kernel
theorem dX6_allSlips_10 : decode cX6_allSlips 10 = .ok (.iconst 1, 1) := by decide +kernel
theorem dX6_allSlips_11 : decode cX6_allSlips 11 = .ok (.iaload, 1) := by decide +kernel
theorem dX6_allSlips_12 : decode cX6_allSlips 12 = .ok (.iadd, 1) := by decide +kernel
theorem dX6_allSlips_13 : decode cX6_allSlips 13 = .ok (.aload_n 0, 1) := by decide +kernel
theorem dX6_allSlips_14 : decode cX6_allSlips 14 = .ok (.getfield 30, 3) := by decide +kernel
theorem dX6_allSlips_17 : decode cX6_allSlips 17 = .ok (.iconst 2, 1) := by decide +kernel
theorem dX6_allSlips_18 : decode cX6_allSlips 18 = .ok (.iaload, 1) := by decide +kernel
theorem dX6_allSlips_19 : decode cX6_allSlips 19 = .ok (.iadd, 1) := by decide +kernel
theorem dX6_allSlips_20 : decode cX6_allSlips 20 = .ok (.ireturn, 1) := by decide +kernel
theorem dX7_read_0 : decode cX7_read 0 = .ok (.aload_n 0, 1) := by decide +kernel
theorem dX7_read_1 : decode cX7_read 1 = .ok (.aload_n 2, 1) := by decide +kernel
theorem dX7_read_2 : decode cX7_read 2 = .ok (.putfield 39, 3) := by decide +kernel
theorem dX7_read_5 : decode cX7_read 5 = .ok (.aload_n 0, 1) := by decide +kernel
theorem dX7_read_6 : decode cX7_read 6 = .ok (.getfield 39, 3) := by decide +kernel
theorem dX7_read_9 : decode cX7_read 9 = .ok (.invokevirtual 43, 3) := by decide +kernel
theorem dX7_read_12 : decode cX7_read 12 = .ok (.aload_n 0, 1) := by decide +kernel
theorem dX7_read_13 : decode cX7_read 13 = .ok (.iconst 0, 1) := by decide +kernel
theorem dX7_read_14 : decode cX7_read 14 = .ok (.putfield 48, 3) := by decide +kernel
theorem dX7_read_17 : decode cX7_read 17 = .ok (.aload_n 0, 1) := by decide +kernel
theorem dX7_read_18 : decode cX7_read 18 = .ok (.iconst 0, 1) := by decide +kernel
theorem dX7_read_19 : decode cX7_read 19 = .ok (.putfield 52, 3) := by decide +kernel
theorem dX7_read_22 : decode cX7_read 22 = .ok (.aload_n 0, 1) := by decide +kernel
theorem dX7_read_23 : decode cX7_read 23 = .ok (.iconst 0, 1) := by decide +kernel
theorem dX7_read_24 : decode cX7_read 24 = .ok (.putfield 55, 3) := by decide +kernel
theorem dX7_read_27 : decode cX7_read 27 = .ok (.aload_n 0, 1) := by decide +kernel
theorem dX7_read_28 : decode cX7_read 28 = .ok (.getfield 26, 3) := by decide +kernel
theorem dX7_read_31 : decode cX7_read 31 = .ok (.iload_n 1, 1) := by decide +kernel
theorem dX7_read_32 : decode cX7_read 32 = .ok (.invokevirtual 58, 3) := by decide +kernel
theorem dX7_read_35 : decode cX7_read 35 = .ok (.iconst 1, 1) := by decide +kernel
theorem dX7_read_36 : decode cX7_read 36 = .ok (.istore_n 3, 1) := by decide +kernel
theorem dX7_read_37 : decode cX7_read 37 = .ok (.iconst 0, 1) := by decide +kernel
theorem dX7_read_38 : decode cX7_read 38 = .ok (.istore 4, 2) := by decide +kernel
theorem dX7_read_40 : decode cX7_read 40 = .ok (.iload_n 3, 1) := by decide +kernel
theorem dX7_read_41 : decode cX7_read 41 = .ok (.ifCond .eq 154, 3) := by decide +kernel
theorem dX7_read_44 : decode cX7_read 44 = .ok (.iload 4, 2) := by decide +kernel
theorem dX7_read_46 : decode cX7_read 46 = .ok (.sipush 1600, 3) := by decide +kernel
theorem dX7_read_49 : decode cX7_read 49 = .ok (.if_icmp .ge 146, 3) := by decide +kernel
theorem dX7_read_52 : decode cX7_read 52 = .ok (.aload_n 0, 1) := by decide +kernel
theorem dX7_read_53 : decode cX7_read 53 = .ok (.getfield 26, 3) := by decide +kernel
theorem dX7_read_56 : decode cX7_read 56 = .ok (.getfield 62, 3) := by decide +kernel
theorem dX7_read_59 : decode cX7_read 59 = .ok (.sipush 203, 3) := by decide +kernel
theorem dX7_read_62 : decode cX7_read 62 = .ok (.if_icmp .eq 133, 3) := by decide +kernel
theorem dX7_read_195 : decode cX7_read 195 = .ok (.iload_n 3, 1) := by decide +kernel
theorem dX7_read_196 : decode cX7_read 196 = .ok (.ireturn, 1) := by decide +kernel
theorem dX8_takeFrom_0 : decode cX8_takeFrom 0 = .ok (.iload_n 1, 1) := by decide +kernel
theorem dX8_takeFrom_1 : decode cX8_takeFrom 1 = .ok (.ifCond .lt 21, 3) := by decide +kernel
theorem dX8_takeFrom_4 : decode cX8_takeFrom 4 = .ok (.iload_n 1, 1) := by decide +kernel
theorem dX8_takeFrom_5 : decode cX8_takeFrom 5 = .ok (.aload_n 0, 1) := by decide +kernel
theorem dX8_takeFrom_6 : decode cX8_takeFrom 6 = .ok (.getfield 27, 3) := by decide +kernel
theorem dX8_takeFrom_9 : decode cX8_takeFrom 9 = .ok (.if_icmp .ge 13, 3) := by decide +kernel
theorem dX8_takeFrom_22 : decode cX8_takeFrom 22 = .ok (.iconst 0, 1) := by decide +kernel
theorem dX8_takeFrom_23 : decode cX8_takeFrom 23 = .ok (.ireturn, 1) := by decide +kernel
theorem dX9_advance_0 : decode cX9_advance 0 = .ok (.aload_n 0, 1) := by decide +kernel
theorem dX9_advance_1 : decode cX9_advance 1 = .ok (.getfield 28, 3) := by decide +kernel
theorem dX9_advance_4 : decode cX9_advance 4 = .ok (.aload_n 0, 1) := by decide +kernel
theorem dX9_advance_5 : decode cX9_advance 5 = .ok (.getfield 25, 3) := by decide +kernel
theorem dX9_advance_8 : decode cX9_advance 8 = .ok (.if_icmp .ge 44, 3) := by decide +kernel
theorem dX9_advance_52 : decode cX9_advance 52 = .ok (.aload_n 0, 1) := by decide +kernel
theorem dX9_advance_53 : decode cX9_advance 53 = .ok (.aload_n 0, 1) := by decide +kernel
theorem dX9_advance_54 : decode cX9_advance 54 = .ok (.getfield 28, 3) := by decide +kernel
theorem dX9_advance_57 : decode cX9_advance 57 = .ok (.putfield 41, 3) := by decide +kernel
theorem dX9_advance_60 : decode cX9_advance 60 = .ok (.aload_n 0, 1) := by decide +kernel
theorem dX9_advance_61 : decode cX9_advance 61 = .ok (.getfield 28, 3) := by decide +kernel
theorem dX9_advance_64 : decode cX9_advance 64 = .ok (.aload_n 0, 1) := by decide +kernel
theorem dX9_advance_65 : decode cX9_advance 65 = .ok (.getfield 25, 3) := by decide +kernel
theorem dX9_advance_68 : decode cX9_advance 68 = .ok (.if_icmp .lt 13, 3) := by decide +kernel
theorem dX9_advance_71 : decode cX9_advance 71 = .ok (.aload_n 0, 1) := by decide +kernel
theorem dX9_advance_72 : decode cX9_advance 72 = .ok (.sipush 203, 3) := by decide +kernel
theorem dX9_advance_75 : decode cX9_advance 75 = .ok (.putfield 38, 3) := by decide +kernel
theorem dX9_advance_78 : decode cX9_advance 78 = .ok (.goto 81, 3) := by decide +kernel
theorem dX9_advance_159 : decode cX9_advance 159 = .ok (.iconst 1, 1) := by decide +kernel
theorem dX9_advance_160 : decode cX9_advance 160 = .ok (.ireturn, 1) := by decide +kernel
theorem dX9_open_0 : decode cX9_open 0 = .ok (.aload_n 0, 1) := by decide +kernel
theorem dX9_open_1 : decode cX9_open 1 = .ok (.iload_n 1, 1) := by decide +kernel
theorem dX9_open_2 : decode cX9_open 2 = .ok (.aload_n 0, 1) := by decide +kernel
theorem dX9_open_3 : decode cX9_open 3 = .ok (.getfield 15, 3) := by decide +kernel
theorem dX9_open_6 : decode cX9_open 6 = .ok (.arraylength, 1) := by decide +kernel
theorem dX9_open_7 : decode cX9_open 7 = .ok (.invokestatic 19, 3) := by decide +kernel
theorem dX9_open_10 : decode cX9_open 10 = .ok (.putfield 25, 3) := by decide +kernel
theorem dX9_open_13 : decode cX9_open 13 = .ok (.aload_n 0, 1) := by decide +kernel
theorem dX9_open_14 : decode cX9_open 14 = .ok (.iconst 0, 1) := by decide +kernel
theorem dX9_open_15 : decode cX9_open 15 = .ok (.putfield 28, 3) := by decide +kernel
theorem dX9_open_18 : decode cX9_open 18 = .ok (.aload_n 0, 1) := by decide +kernel
theorem dX9_open_19 : decode cX9_open 19 = .ok (.iconst 0, 1) := by decide +kernel
theorem dX9_open_20 : decode cX9_open 20 = .ok (.putfield 31, 3) := by decide +kernel
theorem dX9_open_23 : decode cX9_open 23 = .ok (.aload_n 0, 1) := by decide +kernel
theorem dX9_open_24 : decode cX9_open 24 = .ok (.iconst (-1), 1) := by decide +kernel
theorem dX9_open_25 : decode cX9_open 25 = .ok (.putfield 9, 3) := by decide +kernel
theorem dX9_open_28 : decode cX9_open 28 = .ok (.aload_n 0, 1) := by decide +kernel
theorem dX9_open_29 : decode cX9_open 29 = .ok (.invokevirtual 34, 3) := by decide +kernel
theorem dX9_open_32 : decode cX9_open 32 = .ok (.pop, 1) := by decide +kernel
theorem dX9_open_33 : decode cX9_open 33 = .ok (.return_, 1) := by decide +kernel
end
section
set_option maxHeartbeats 4000000 in
set_option maxRecDepth 100000 in
theorem c_X11_canAsk (l : Launch) (D : va_G) (k : ClassId × ClassId × ClassId × ClassId) (sz : Nat) (h0 h1 : Nat) (F P : List Value) (p0 p1 p2 : Int32) (g_F_paving : F[0]? = some (.ref h1)) (g_P_walkers : P[10]? = some (.int 0)) : Met l yX11_canAsk (WS yX11_canAsk cX11_canAsk 4 (some .boolean)) ({ frames := 1, cells := 0, slots := 0, locals := 21 }) (va_Pc [.ref h0, .int p0, .int p1, .int p2] (cP D k [(h0, .inr (11, F)), (h1, .inr (6, P))] sz)) (va_Qi (fun (r : Int32) (_ : Unit) => r = 0) (fun (_ : Unit) t => cB D (va_A [(h0, .inr (11, F)), (h1, .inr (6, P))] sz) [(h0, .inr (11, F)), (h1, .inr (6, P))] t) (va_A [(h0, .inr (11, F)), (h1, .inr (6, P))] sz)) 0 0 (va_A [(h0, .inr (11, F)), (h1, .inr (6, P))] sz) := by
  refine Met.ofW (cc := cX11_canAsk) (maxL := 4) (ret := (some .boolean)) (by decide) rfl ?_
  intro p e s m args below meth c s₁ B hml hv
  obtain ⟨rfl, hsz, hP, hKX, hD0⟩ := hv
  have hK := hKX.1
  have hx := B.exec
  have hb := B.bytes
  have hr := B.returns
  have hts := atoms_spec (ws := WS yX11_canAsk cX11_canAsk 4 (some .boolean)) B.pre
  have hgd : ∀ w ∈ gd, w ∈ WS yX11_canAsk cX11_canAsk 4 (some .boolean) := fun w h => List.mem_cons_of_mem _ h
  have hg : ∀ w ∈ gd, w.before _ s = true := fun w h => hts w (hgd w h)
  have hown : s.vm.findClass RX11 = some m.cls := findClass_of_methodNamed B.named
  have hlocks := B.notSynchronized
  subst hsz
  have hD := hD0.self (sz := s.heap.size)
  generalize hAe : va_A [(h0, .inr (11, F)), (h1, .inr (6, P))] s.heap.size = A at hD ⊢
  have hA : ∀ q : Nat, s.heap.size ≤ q → A q := fun q h => by rw [← hAe]; exact Or.inr h
  have hS : va_S A s.heap s.heap [] := va_S.rf
  have hP : va_P D classes [(h0, .inr (11, F)), (h1, .inr (6, P))] s.heap := hP
  have hl := lv_entry ([.ref h0, .int p0, .int p1, .int p2]) (n := 4) (Nat.le_of_ble_eq_true rfl)
  rw [lg_entry_eq]
  generalize (lg_sl ([.ref h0, .int p0, .int p1, .int p2]) ++ List.replicate (4 - (lg_sl ([.ref h0, .int p0, .int p1, .int p2])).length) Slot.unset).toArray = ls at hl ⊢
  have hl : lv_has ls 4 [(0, .ref h0), (1, .int p0), (2, .int p1), (3, .int p2)] := hl
  refine lv_aload_n hx hb dX11_canAsk_0 rfl (lv_at hl 0 rfl) ?_
  refine va_get (D := D) (ci := 11) (v := .ref h1) (C := RX11) (T := TX11) (N := 13) hx hb hg iX11 hown hK hP 0 rfl rfl 0 (by decide) (hg (Cond.fieldLink RX11 10 "SlabWalk" "paving" "LSlabWalk$Paving;") m570) (fun _ h9 => h9) g_F_paving dX11_canAsk_1 ?_
  refine lv_iload_n hx hb dX11_canAsk_4 rfl (lv_at hl 1 rfl) ?_
  have hPc := hP.sub (ws' := [(h1, .inr (6, P))]) [1] rfl
  have hDc := hD.sub (ws' := [(h1, .inr (6, P))]) [1] (by decide) rfl
  have hFc := va_free (wc := [(h1, .inr (6, P))]) hD hS hA [1] rfl
  refine va_calli (va_runV (As := [.int p0]) (rest := []) ⟨hx, hb, hml, hown, hts⟩ (c_hasWalker l D k s.heap.size h1 P p0 g_P_walkers) (cwV 1 hts (gd_V hgd m957 m958 m959 m118 m960) rfl rfl rfl (by decide +kernel) ⟨Nat.le_of_ble_eq_true rfl, Nat.le_of_ble_eq_true rfl⟩) (cP_V hPc hKX hDc (ci := 6) (q0 := 0) rfl rfl) rfl rfl hl.1 rfl (lv_room (Nat.le_of_ble_eq_true rfl)) dX11_canAsk_5 ⟨Nat.le_of_ble_eq_true rfl, Nat.le_of_ble_eq_true rfl⟩) hS (fun q _ h => hFc q h) hFc (fun r_1 u t H1 locs ht hvm hw hB hz1 hk1 hS => ?_)
  obtain ⟨hP1, hD1⟩ := hB
  rw [ht] at hP1
  obtain ⟨hP, hD⟩ := va_join (wr := [(h0, .inr (11, F))]) (w1 := [(h1, .inr (6, P))]) hP hD [1] [0] rfl rfl (by decide) (by decide) hk1 hFc hP1 hD1
  generalize H1 = H at hP hS ⊢
  have hP : va_P D classes [(h0, .inr (11, F)), (h1, .inr (6, P))] H := hP
  have hD : va_D A [(h0, .inr (11, F)), (h1, .inr (6, P))] := hD
  refine W.widen (k := 0) (n := 0) (Nat.le_of_ble_eq_true rfl) (Nat.le_of_ble_eq_true rfl) ?_
  subst hw
  refine lv_if_eq (tgt := 37) hx hb dX11_canAsk_8 (by decide) (fun c_2 => ?_) (fun c_2 => ?_)
  · have c_2 : (0 : Int32) = 0 := c_2
    refine lv_iconst (v := 0) hx hb dX11_canAsk_37 (by decide) ?_
    have hP9 := hP.sub (ws' := [(h0, .inr (11, F)), (h1, .inr (6, P))]) [0, 1] rfl
    have hD9 := hD.sub (ws' := [(h0, .inr (11, F)), (h1, .inr (6, P))]) [0, 1] (by decide) rfl
    exact W.zret (v := 0) hx hb hr (by decide) (fun t ht hW => ⟨⟨0, (), rfl, rfl, cB_of ht hP9 hD9⟩, hS.F ht⟩) hS.2.2 dX11_canAsk_38
  · exact absurd (by decide) c_2

set_option maxHeartbeats 4000000 in
set_option maxRecDepth 100000 in
theorem c_X11_canBeBrave (l : Launch) (D : va_G) (k : ClassId × ClassId × ClassId × ClassId) (sz : Nat) (h0 h1 : Nat) (F P : List Value) (p0 p1 p2 p3 p4 : Int32) (g_F_paving : F[0]? = some (.ref h1)) (g_P_walkers : P[10]? = some (.int 0)) : Met l yX11_canBeBrave (WS yX11_canBeBrave cX11_canBeBrave 6 (some .boolean)) ({ frames := 2, cells := 0, slots := 0, locals := 44 }) (va_Pc [.ref h0, .int p0, .int p1, .int p2, .int p3, .int p4] (cP D k [(h0, .inr (11, F)), (h1, .inr (6, P))] sz)) (va_Qi (fun (r : Int32) (_ : Unit) => r = 0) (fun (_ : Unit) t => cB D (va_A [(h0, .inr (11, F)), (h1, .inr (6, P))] sz) [(h0, .inr (11, F)), (h1, .inr (6, P))] t) (va_A [(h0, .inr (11, F)), (h1, .inr (6, P))] sz)) 0 0 (va_A [(h0, .inr (11, F)), (h1, .inr (6, P))] sz) := by
  refine Met.ofW (cc := cX11_canBeBrave) (maxL := 6) (ret := (some .boolean)) (by decide) rfl ?_
  intro p e s m args below meth c s₁ B hml hv
  obtain ⟨rfl, hsz, hP, hKX, hD0⟩ := hv
  have hK := hKX.1
  have hx := B.exec
  have hb := B.bytes
  have hr := B.returns
  have hts := atoms_spec (ws := WS yX11_canBeBrave cX11_canBeBrave 6 (some .boolean)) B.pre
  have hgd : ∀ w ∈ gd, w ∈ WS yX11_canBeBrave cX11_canBeBrave 6 (some .boolean) := fun w h => List.mem_cons_of_mem _ h
  have hg : ∀ w ∈ gd, w.before _ s = true := fun w h => hts w (hgd w h)
  have hown : s.vm.findClass RX11 = some m.cls := findClass_of_methodNamed B.named
  have hlocks := B.notSynchronized
  subst hsz
  have hD := hD0.self (sz := s.heap.size)
  generalize hAe : va_A [(h0, .inr (11, F)), (h1, .inr (6, P))] s.heap.size = A at hD ⊢
  have hA : ∀ q : Nat, s.heap.size ≤ q → A q := fun q h => by rw [← hAe]; exact Or.inr h
  have hS : va_S A s.heap s.heap [] := va_S.rf
  have hP : va_P D classes [(h0, .inr (11, F)), (h1, .inr (6, P))] s.heap := hP
  have hl := lv_entry ([.ref h0, .int p0, .int p1, .int p2, .int p3, .int p4]) (n := 6) (Nat.le_of_ble_eq_true rfl)
  rw [lg_entry_eq]
  generalize (lg_sl ([.ref h0, .int p0, .int p1, .int p2, .int p3, .int p4]) ++ List.replicate (6 - (lg_sl ([.ref h0, .int p0, .int p1, .int p2, .int p3, .int p4])).length) Slot.unset).toArray = ls at hl ⊢
  have hl : lv_has ls 6 [(0, .ref h0), (1, .int p0), (2, .int p1), (3, .int p2), (4, .int p3), (5, .int p4)] := hl
  refine lv_aload_n hx hb dX11_canBeBrave_0 rfl (lv_at hl 0 rfl) ?_
  refine lv_iload_n hx hb dX11_canBeBrave_1 rfl (lv_at hl 1 rfl) ?_
  refine lv_iload_n hx hb dX11_canBeBrave_2 rfl (lv_at hl 2 rfl) ?_
  refine lv_iload_n hx hb dX11_canBeBrave_3 rfl (lv_at hl 3 rfl) ?_
  have hPc := hP.sub (ws' := [(h0, .inr (11, F)), (h1, .inr (6, P))]) [0, 1] rfl
  have hDc := hD.sub (ws' := [(h0, .inr (11, F)), (h1, .inr (6, P))]) [0, 1] (by decide) rfl
  have hFc := va_free (wc := [(h0, .inr (11, F)), (h1, .inr (6, P))]) hD hS hA [0, 1] rfl
  refine va_calli (va_runV (As := [.int p0, .int p1, .int p2]) (rest := []) ⟨hx, hb, hml, hown, hts⟩ (c_X11_canAsk l D k s.heap.size h0 h1 F P p0 p1 p2 g_F_paving g_P_walkers) (cwV 3 hts (gd_V hgd m953 m955 m31 m117 m956) rfl rfl rfl (by decide +kernel) ⟨Nat.le_of_ble_eq_true rfl, Nat.le_of_ble_eq_true rfl⟩) (cP_V hPc hKX hDc (ci := 11) (q0 := 0) rfl rfl) rfl rfl hl.1 rfl (lv_room (Nat.le_of_ble_eq_true rfl)) dX11_canBeBrave_4 ⟨Nat.le_of_ble_eq_true rfl, Nat.le_of_ble_eq_true rfl⟩) hS (fun q _ h => hFc q h) hFc (fun r_1 u t H1 locs ht hvm hw hB hz1 hk1 hS => ?_)
  obtain ⟨hP1, hD1⟩ := hB
  rw [ht] at hP1
  obtain ⟨hP, hD⟩ := va_join (wr := []) (w1 := [(h0, .inr (11, F)), (h1, .inr (6, P))]) hP hD [0, 1] [] rfl rfl (by decide) (by decide) hk1 hFc hP1 hD1
  generalize H1 = H at hP hS ⊢
  have hP : va_P D classes [(h0, .inr (11, F)), (h1, .inr (6, P))] H := hP
  have hD : va_D A [(h0, .inr (11, F)), (h1, .inr (6, P))] := hD
  refine W.widen (k := 0) (n := 0) (Nat.le_of_ble_eq_true rfl) (Nat.le_of_ble_eq_true rfl) ?_
  subst hw
  refine lv_if_eq (tgt := 41) hx hb dX11_canBeBrave_7 (by decide) (fun c_2 => ?_) (fun c_2 => ?_)
  · have c_2 : (0 : Int32) = 0 := c_2
    refine lv_iconst (v := 0) hx hb dX11_canBeBrave_41 (by decide) ?_
    have hP9 := hP.sub (ws' := [(h0, .inr (11, F)), (h1, .inr (6, P))]) [0, 1] rfl
    have hD9 := hD.sub (ws' := [(h0, .inr (11, F)), (h1, .inr (6, P))]) [0, 1] (by decide) rfl
    exact W.zret (v := 0) hx hb hr (by decide) (fun t ht hW => ⟨⟨0, (), rfl, rfl, cB_of ht hP9 hD9⟩, hS.F ht⟩) hS.2.2 dX11_canBeBrave_42
  · exact absurd (by decide) c_2

set_option maxHeartbeats 4000000 in
set_option maxRecDepth 100000 in
theorem c_X11_inch (l : Launch) (D : va_G) (k : ClassId × ClassId × ClassId × ClassId) (sz : Nat) (h0 h1 : Nat) (F P : List Value) (p0 p1 p2 : Int32) (g_F_paving : F[0]? = some (.ref h1)) (g_P_streets : P[9]? = some (.int 0)) : Met l yX11_inch (WS yX11_inch cX11_inch 4 (some .int)) ({ frames := 2, cells := 0, slots := 0, locals := 43 }) (va_Pc [.ref h0, .int p0, .int p1, .int p2] (cP D k [(h0, .inr (11, F)), (h1, .inr (6, P))] sz)) (va_Qi (fun (r : Int32) (_ : Unit) => r = (-1)) (fun (_ : Unit) t => cB D (va_A [(h0, .inr (11, F)), (h1, .inr (6, P))] sz) [] t) (va_A [(h0, .inr (11, F)), (h1, .inr (6, P))] sz)) 0 0 (va_A [(h0, .inr (11, F)), (h1, .inr (6, P))] sz) := by
  refine Met.ofW (cc := cX11_inch) (maxL := 4) (ret := (some .int)) (by decide) rfl ?_
  intro p e s m args below meth c s₁ B hml hv
  obtain ⟨rfl, hsz, hP, hKX, hD0⟩ := hv
  have hK := hKX.1
  have hx := B.exec
  have hb := B.bytes
  have hr := B.returns
  have hts := atoms_spec (ws := WS yX11_inch cX11_inch 4 (some .int)) B.pre
  have hgd : ∀ w ∈ gd, w ∈ WS yX11_inch cX11_inch 4 (some .int) := fun w h => List.mem_cons_of_mem _ h
  have hg : ∀ w ∈ gd, w.before _ s = true := fun w h => hts w (hgd w h)
  have hown : s.vm.findClass RX11 = some m.cls := findClass_of_methodNamed B.named
  have hlocks := B.notSynchronized
  subst hsz
  have hD := hD0.self (sz := s.heap.size)
  generalize hAe : va_A [(h0, .inr (11, F)), (h1, .inr (6, P))] s.heap.size = A at hD ⊢
  have hA : ∀ q : Nat, s.heap.size ≤ q → A q := fun q h => by rw [← hAe]; exact Or.inr h
  have hS : va_S A s.heap s.heap [] := va_S.rf
  have hP : va_P D classes [(h0, .inr (11, F)), (h1, .inr (6, P))] s.heap := hP
  have hl := lv_entry ([.ref h0, .int p0, .int p1, .int p2]) (n := 4) (Nat.le_of_ble_eq_true rfl)
  rw [lg_entry_eq]
  generalize (lg_sl ([.ref h0, .int p0, .int p1, .int p2]) ++ List.replicate (4 - (lg_sl ([.ref h0, .int p0, .int p1, .int p2])).length) Slot.unset).toArray = ls at hl ⊢
  have hl : lv_has ls 4 [(0, .ref h0), (1, .int p0), (2, .int p1), (3, .int p2)] := hl
  refine lv_aload_n hx hb dX11_inch_0 rfl (lv_at hl 0 rfl) ?_
  refine va_get (D := D) (ci := 11) (v := .ref h1) (C := RX11) (T := TX11) (N := 13) hx hb hg iX11 hown hK hP 0 rfl rfl 0 (by decide) (hg (Cond.fieldLink RX11 10 "SlabWalk" "paving" "LSlabWalk$Paving;") m570) (fun _ h9 => h9) g_F_paving dX11_inch_1 ?_
  refine lv_iload_n hx hb dX11_inch_4 rfl (lv_at hl 1 rfl) ?_
  refine lv_iload_n hx hb dX11_inch_5 rfl (lv_at hl 2 rfl) ?_
  have hPc := hP.sub (ws' := [(h1, .inr (6, P))]) [1] rfl
  have hDc := hD.sub (ws' := [(h1, .inr (6, P))]) [1] (by decide) rfl
  have hFc := va_free (wc := [(h1, .inr (6, P))]) hD hS hA [1] rfl
  refine va_calli (va_runV (As := [.int p0, .int p1]) (rest := []) ⟨hx, hb, hml, hown, hts⟩ (c_hasInch l D k s.heap.size h1 P p0 p1 g_P_streets) (cwV 2 hts (gd_V hgd m882 m883 m884 m118 m885) rfl rfl rfl (by decide +kernel) ⟨Nat.le_of_ble_eq_true rfl, Nat.le_of_ble_eq_true rfl⟩) (cP_V hPc hKX hDc (ci := 6) (q0 := 0) rfl rfl) rfl rfl hl.1 rfl (lv_room (Nat.le_of_ble_eq_true rfl)) dX11_inch_6 ⟨Nat.le_of_ble_eq_true rfl, Nat.le_of_ble_eq_true rfl⟩) hS (fun q _ h => hFc q h) hFc (fun r_1 u t H1 locs ht hvm hw hB hz1 hk1 hS => ?_)
  obtain ⟨hP1, hD1⟩ := hB
  rw [ht] at hP1
  obtain ⟨hP, hD⟩ := va_join (wr := [(h0, .inr (11, F))]) (w1 := [(h1, .inr (6, P))]) hP hD [1] [0] rfl rfl (by decide) (by decide) hk1 hFc hP1 hD1
  generalize H1 = H at hP hS ⊢
  have hP : va_P D classes [(h0, .inr (11, F)), (h1, .inr (6, P))] H := hP
  have hD : va_D A [(h0, .inr (11, F)), (h1, .inr (6, P))] := hD
  refine W.widen (k := 0) (n := 0) (Nat.le_of_ble_eq_true rfl) (Nat.le_of_ble_eq_true rfl) ?_
  subst hw
  refine lv_if_eq (tgt := 21) hx hb dX11_inch_9 (by decide) (fun c_2 => ?_) (fun c_2 => ?_)
  · have c_2 : (0 : Int32) = 0 := c_2
    refine lv_iconst (v := (-1)) hx hb dX11_inch_21 (by decide) ?_
    have hP9 := hP.sub (ws' := []) [] rfl
    have hD9 := hD.sub (ws' := []) [] (by decide) rfl
    exact W.iret (v := (-1)) hx hb hr (fun t ht hW => ⟨⟨(-1), (), rfl, rfl, cB_of ht hP9 hD9⟩, hS.F ht⟩) hS.2.2 dX11_inch_22
  · exact absurd (by decide) c_2

set_option maxHeartbeats 4000000 in
set_option maxRecDepth 100000 in
theorem c_X11_length (l : Launch) (D : va_G) (k : ClassId × ClassId × ClassId × ClassId) (sz : Nat) (h0 h1 : Nat) (F P : List Value) (p0 : Int32) (g_F_paving : F[0]? = some (.ref h1)) (g_P_streets : P[9]? = some (.int 0)) : Met l yX11_length (WS yX11_length cX11_length 2 (some .int)) ({ frames := 1, cells := 0, slots := 0, locals := 21 }) (va_Pc [.ref h0, .int p0] (cP D k [(h0, .inr (11, F)), (h1, .inr (6, P))] sz)) (va_Qi (fun (r : Int32) (_ : Unit) => r = (-1)) (fun (_ : Unit) t => cB D (va_A [(h0, .inr (11, F)), (h1, .inr (6, P))] sz) [] t) (va_A [(h0, .inr (11, F)), (h1, .inr (6, P))] sz)) 0 0 (va_A [(h0, .inr (11, F)), (h1, .inr (6, P))] sz) := by
  refine Met.ofW (cc := cX11_length) (maxL := 2) (ret := (some .int)) (by decide) rfl ?_
  intro p e s m args below meth c s₁ B hml hv
  obtain ⟨rfl, hsz, hP, hKX, hD0⟩ := hv
  have hK := hKX.1
  have hx := B.exec
  have hb := B.bytes
  have hr := B.returns
  have hts := atoms_spec (ws := WS yX11_length cX11_length 2 (some .int)) B.pre
  have hgd : ∀ w ∈ gd, w ∈ WS yX11_length cX11_length 2 (some .int) := fun w h => List.mem_cons_of_mem _ h
  have hg : ∀ w ∈ gd, w.before _ s = true := fun w h => hts w (hgd w h)
  have hown : s.vm.findClass RX11 = some m.cls := findClass_of_methodNamed B.named
  have hlocks := B.notSynchronized
  subst hsz
  have hD := hD0.self (sz := s.heap.size)
  generalize hAe : va_A [(h0, .inr (11, F)), (h1, .inr (6, P))] s.heap.size = A at hD ⊢
  have hA : ∀ q : Nat, s.heap.size ≤ q → A q := fun q h => by rw [← hAe]; exact Or.inr h
  have hS : va_S A s.heap s.heap [] := va_S.rf
  have hP : va_P D classes [(h0, .inr (11, F)), (h1, .inr (6, P))] s.heap := hP
  have hl := lv_entry ([.ref h0, .int p0]) (n := 2) (Nat.le_of_ble_eq_true rfl)
  rw [lg_entry_eq]
  generalize (lg_sl ([.ref h0, .int p0]) ++ List.replicate (2 - (lg_sl ([.ref h0, .int p0])).length) Slot.unset).toArray = ls at hl ⊢
  have hl : lv_has ls 2 [(0, .ref h0), (1, .int p0)] := hl
  refine lv_aload_n hx hb dX11_length_0 rfl (lv_at hl 0 rfl) ?_
  refine va_get (D := D) (ci := 11) (v := .ref h1) (C := RX11) (T := TX11) (N := 13) hx hb hg iX11 hown hK hP 0 rfl rfl 0 (by decide) (hg (Cond.fieldLink RX11 10 "SlabWalk" "paving" "LSlabWalk$Paving;") m570) (fun _ h9 => h9) g_F_paving dX11_length_1 ?_
  refine lv_iload_n hx hb dX11_length_4 rfl (lv_at hl 1 rfl) ?_
  have hPc := hP.sub (ws' := [(h1, .inr (6, P))]) [1] rfl
  have hDc := hD.sub (ws' := [(h1, .inr (6, P))]) [1] (by decide) rfl
  have hFc := va_free (wc := [(h1, .inr (6, P))]) hD hS hA [1] rfl
  refine va_calli (va_runV (As := [.int p0]) (rest := []) ⟨hx, hb, hml, hown, hts⟩ (c_hasStreet l D k s.heap.size h1 P p0 g_P_streets) (cwV 1 hts (gd_V hgd m902 m887 m888 m118 m889) rfl rfl rfl (by decide +kernel) ⟨Nat.le_of_ble_eq_true rfl, Nat.le_of_ble_eq_true rfl⟩) (cP_V hPc hKX hDc (ci := 6) (q0 := 0) rfl rfl) rfl rfl hl.1 rfl (lv_room (Nat.le_of_ble_eq_true rfl)) dX11_length_5 ⟨Nat.le_of_ble_eq_true rfl, Nat.le_of_ble_eq_true rfl⟩) hS (fun q _ h => hFc q h) hFc (fun r_1 u t H1 locs ht hvm hw hB hz1 hk1 hS => ?_)
  obtain ⟨hP1, hD1⟩ := hB
  rw [ht] at hP1
  obtain ⟨hP, hD⟩ := va_join (wr := [(h0, .inr (11, F))]) (w1 := [(h1, .inr (6, P))]) hP hD [1] [0] rfl rfl (by decide) (by decide) hk1 hFc hP1 hD1
  generalize H1 = H at hP hS ⊢
  have hP : va_P D classes [(h0, .inr (11, F)), (h1, .inr (6, P))] H := hP
  have hD : va_D A [(h0, .inr (11, F)), (h1, .inr (6, P))] := hD
  refine W.widen (k := 0) (n := 0) (Nat.le_of_ble_eq_true rfl) (Nat.le_of_ble_eq_true rfl) ?_
  subst hw
  refine lv_if_eq (tgt := 23) hx hb dX11_length_8 (by decide) (fun c_2 => ?_) (fun c_2 => ?_)
  · have c_2 : (0 : Int32) = 0 := c_2
    refine lv_iconst (v := (-1)) hx hb dX11_length_23 (by decide) ?_
    have hP9 := hP.sub (ws' := []) [] rfl
    have hD9 := hD.sub (ws' := []) [] (by decide) rfl
    exact W.iret (v := (-1)) hx hb hr (fun t ht hW => ⟨⟨(-1), (), rfl, rfl, cB_of ht hP9 hD9⟩, hS.F ht⟩) hS.2.2 dX11_length_24
  · exact absurd (by decide) c_2

set_option maxHeartbeats 4000000 in
set_option maxRecDepth 100000 in
theorem c_X11_line (l : Launch) (D : va_G) (k : ClassId × ClassId × ClassId × ClassId) (sz : Nat) (h0 h1 : Nat) (F P : List Value) (p0 p1 p2 : Int32) (g_F_paving : F[0]? = some (.ref h1)) (g_P_streets : P[9]? = some (.int 0)) : Met l yX11_line (WS yX11_line cX11_line 4 (some .int)) ({ frames := 2, cells := 0, slots := 0, locals := 43 }) (va_Pc [.ref h0, .int p0, .int p1, .int p2] (cP D k [(h0, .inr (11, F)), (h1, .inr (6, P))] sz)) (va_Qi (fun (r : Int32) (_ : Unit) => r = (-1)) (fun (_ : Unit) t => cB D (va_A [(h0, .inr (11, F)), (h1, .inr (6, P))] sz) [] t) (va_A [(h0, .inr (11, F)), (h1, .inr (6, P))] sz)) 0 0 (va_A [(h0, .inr (11, F)), (h1, .inr (6, P))] sz) := by
  refine Met.ofW (cc := cX11_line) (maxL := 4) (ret := (some .int)) (by decide) rfl ?_
  intro p e s m args below meth c s₁ B hml hv
  obtain ⟨rfl, hsz, hP, hKX, hD0⟩ := hv
  have hK := hKX.1
  have hx := B.exec
  have hb := B.bytes
  have hr := B.returns
  have hts := atoms_spec (ws := WS yX11_line cX11_line 4 (some .int)) B.pre
  have hgd : ∀ w ∈ gd, w ∈ WS yX11_line cX11_line 4 (some .int) := fun w h => List.mem_cons_of_mem _ h
  have hg : ∀ w ∈ gd, w.before _ s = true := fun w h => hts w (hgd w h)
  have hown : s.vm.findClass RX11 = some m.cls := findClass_of_methodNamed B.named
  have hlocks := B.notSynchronized
  subst hsz
  have hD := hD0.self (sz := s.heap.size)
  generalize hAe : va_A [(h0, .inr (11, F)), (h1, .inr (6, P))] s.heap.size = A at hD ⊢
  have hA : ∀ q : Nat, s.heap.size ≤ q → A q := fun q h => by rw [← hAe]; exact Or.inr h
  have hS : va_S A s.heap s.heap [] := va_S.rf
  have hP : va_P D classes [(h0, .inr (11, F)), (h1, .inr (6, P))] s.heap := hP
  have hl := lv_entry ([.ref h0, .int p0, .int p1, .int p2]) (n := 4) (Nat.le_of_ble_eq_true rfl)
  rw [lg_entry_eq]
  generalize (lg_sl ([.ref h0, .int p0, .int p1, .int p2]) ++ List.replicate (4 - (lg_sl ([.ref h0, .int p0, .int p1, .int p2])).length) Slot.unset).toArray = ls at hl ⊢
  have hl : lv_has ls 4 [(0, .ref h0), (1, .int p0), (2, .int p1), (3, .int p2)] := hl
  refine lv_aload_n hx hb dX11_line_0 rfl (lv_at hl 0 rfl) ?_
  refine va_get (D := D) (ci := 11) (v := .ref h1) (C := RX11) (T := TX11) (N := 13) hx hb hg iX11 hown hK hP 0 rfl rfl 0 (by decide) (hg (Cond.fieldLink RX11 10 "SlabWalk" "paving" "LSlabWalk$Paving;") m570) (fun _ h9 => h9) g_F_paving dX11_line_1 ?_
  refine lv_iload_n hx hb dX11_line_4 rfl (lv_at hl 1 rfl) ?_
  refine lv_iload_n hx hb dX11_line_5 rfl (lv_at hl 3 rfl) ?_
  have hPc := hP.sub (ws' := [(h1, .inr (6, P))]) [1] rfl
  have hDc := hD.sub (ws' := [(h1, .inr (6, P))]) [1] (by decide) rfl
  have hFc := va_free (wc := [(h1, .inr (6, P))]) hD hS hA [1] rfl
  refine va_calli (va_runV (As := [.int p0, .int p2]) (rest := []) ⟨hx, hb, hml, hown, hts⟩ (c_hasInch l D k s.heap.size h1 P p0 p2 g_P_streets) (cwV 2 hts (gd_V hgd m882 m883 m884 m118 m885) rfl rfl rfl (by decide +kernel) ⟨Nat.le_of_ble_eq_true rfl, Nat.le_of_ble_eq_true rfl⟩) (cP_V hPc hKX hDc (ci := 6) (q0 := 0) rfl rfl) rfl rfl hl.1 rfl (lv_room (Nat.le_of_ble_eq_true rfl)) dX11_line_6 ⟨Nat.le_of_ble_eq_true rfl, Nat.le_of_ble_eq_true rfl⟩) hS (fun q _ h => hFc q h) hFc (fun r_1 u t H1 locs ht hvm hw hB hz1 hk1 hS => ?_)
  obtain ⟨hP1, hD1⟩ := hB
  rw [ht] at hP1
  obtain ⟨hP, hD⟩ := va_join (wr := [(h0, .inr (11, F))]) (w1 := [(h1, .inr (6, P))]) hP hD [1] [0] rfl rfl (by decide) (by decide) hk1 hFc hP1 hD1
  generalize H1 = H at hP hS ⊢
  have hP : va_P D classes [(h0, .inr (11, F)), (h1, .inr (6, P))] H := hP
  have hD : va_D A [(h0, .inr (11, F)), (h1, .inr (6, P))] := hD
  refine W.widen (k := 0) (n := 0) (Nat.le_of_ble_eq_true rfl) (Nat.le_of_ble_eq_true rfl) ?_
  subst hw
  refine lv_if_eq (tgt := 23) hx hb dX11_line_9 (by decide) (fun c_2 => ?_) (fun c_2 => ?_)
  · have c_2 : (0 : Int32) = 0 := c_2
    refine lv_iconst (v := (-1)) hx hb dX11_line_23 (by decide) ?_
    have hP9 := hP.sub (ws' := []) [] rfl
    have hD9 := hD.sub (ws' := []) [] (by decide) rfl
    exact W.iret (v := (-1)) hx hb hr (fun t ht hW => ⟨⟨(-1), (), rfl, rfl, cB_of ht hP9 hD9⟩, hS.F ht⟩) hS.2.2 dX11_line_24
  · exact absurd (by decide) c_2

set_option maxHeartbeats 4000000 in
set_option maxRecDepth 100000 in
theorem c_X11_gap (l : Launch) (D : va_G) (k : ClassId × ClassId × ClassId × ClassId) (sz : Nat) (h0 h1 : Nat) (F P : List Value) (p0 p1 p2 : Int32) (g_F_paving : F[0]? = some (.ref h1)) (g_P_streets : P[9]? = some (.int 0)) : Met l yX11_gap (WS yX11_gap cX11_gap 10 (some .int)) ({ frames := 1, cells := 0, slots := 0, locals := 21 }) (va_Pc [.ref h0, .int p0, .int p1, .int p2] (cP D k [(h0, .inr (11, F)), (h1, .inr (6, P))] sz)) (va_Qi (fun (r : Int32) (_ : Unit) => r = (-1)) (fun (_ : Unit) t => cB D (va_A [(h0, .inr (11, F)), (h1, .inr (6, P))] sz) [] t) (va_A [(h0, .inr (11, F)), (h1, .inr (6, P))] sz)) 0 0 (va_A [(h0, .inr (11, F)), (h1, .inr (6, P))] sz) := by
  refine Met.ofW (cc := cX11_gap) (maxL := 10) (ret := (some .int)) (by decide) rfl ?_
  intro p e s m args below meth c s₁ B hml hv
  obtain ⟨rfl, hsz, hP, hKX, hD0⟩ := hv
  have hK := hKX.1
  have hx := B.exec
  have hb := B.bytes
  have hr := B.returns
  have hts := atoms_spec (ws := WS yX11_gap cX11_gap 10 (some .int)) B.pre
  have hgd : ∀ w ∈ gd, w ∈ WS yX11_gap cX11_gap 10 (some .int) := fun w h => List.mem_cons_of_mem _ h
  have hg : ∀ w ∈ gd, w.before _ s = true := fun w h => hts w (hgd w h)
  have hown : s.vm.findClass RX11 = some m.cls := findClass_of_methodNamed B.named
  have hlocks := B.notSynchronized
  subst hsz
  have hD := hD0.self (sz := s.heap.size)
  generalize hAe : va_A [(h0, .inr (11, F)), (h1, .inr (6, P))] s.heap.size = A at hD ⊢
  have hA : ∀ q : Nat, s.heap.size ≤ q → A q := fun q h => by rw [← hAe]; exact Or.inr h
  have hS : va_S A s.heap s.heap [] := va_S.rf
  have hP : va_P D classes [(h0, .inr (11, F)), (h1, .inr (6, P))] s.heap := hP
  have hl := lv_entry ([.ref h0, .int p0, .int p1, .int p2]) (n := 10) (Nat.le_of_ble_eq_true rfl)
  rw [lg_entry_eq]
  generalize (lg_sl ([.ref h0, .int p0, .int p1, .int p2]) ++ List.replicate (10 - (lg_sl ([.ref h0, .int p0, .int p1, .int p2])).length) Slot.unset).toArray = ls at hl ⊢
  have hl : lv_has ls 10 [(0, .ref h0), (1, .int p0), (2, .int p1), (3, .int p2)] := hl
  refine lv_aload_n hx hb dX11_gap_0 rfl (lv_at hl 0 rfl) ?_
  refine va_get (D := D) (ci := 11) (v := .ref h1) (C := RX11) (T := TX11) (N := 13) hx hb hg iX11 hown hK hP 0 rfl rfl 0 (by decide) (hg (Cond.fieldLink RX11 10 "SlabWalk" "paving" "LSlabWalk$Paving;") m570) (fun _ h9 => h9) g_F_paving dX11_gap_1 ?_
  refine lv_iload_n hx hb dX11_gap_4 rfl (lv_at hl 1 rfl) ?_
  have hPc := hP.sub (ws' := [(h1, .inr (6, P))]) [1] rfl
  have hDc := hD.sub (ws' := [(h1, .inr (6, P))]) [1] (by decide) rfl
  have hFc := va_free (wc := [(h1, .inr (6, P))]) hD hS hA [1] rfl
  refine va_calli (va_runV (As := [.int p0]) (rest := []) ⟨hx, hb, hml, hown, hts⟩ (c_hasStreet l D k s.heap.size h1 P p0 g_P_streets) (cwV 1 hts (gd_V hgd m902 m887 m888 m118 m889) rfl rfl rfl (by decide +kernel) ⟨Nat.le_of_ble_eq_true rfl, Nat.le_of_ble_eq_true rfl⟩) (cP_V hPc hKX hDc (ci := 6) (q0 := 0) rfl rfl) rfl rfl hl.1 rfl (lv_room (Nat.le_of_ble_eq_true rfl)) dX11_gap_5 ⟨Nat.le_of_ble_eq_true rfl, Nat.le_of_ble_eq_true rfl⟩) hS (fun q _ h => hFc q h) hFc (fun r_1 u t H1 locs ht hvm hw hB hz1 hk1 hS => ?_)
  obtain ⟨hP1, hD1⟩ := hB
  rw [ht] at hP1
  obtain ⟨hP, hD⟩ := va_join (wr := [(h0, .inr (11, F))]) (w1 := [(h1, .inr (6, P))]) hP hD [1] [0] rfl rfl (by decide) (by decide) hk1 hFc hP1 hD1
  generalize H1 = H at hP hS ⊢
  have hP : va_P D classes [(h0, .inr (11, F)), (h1, .inr (6, P))] H := hP
  have hD : va_D A [(h0, .inr (11, F)), (h1, .inr (6, P))] := hD
  refine W.widen (k := 0) (n := 0) (Nat.le_of_ble_eq_true rfl) (Nat.le_of_ble_eq_true rfl) ?_
  subst hw
  refine lv_if_eq (tgt := 22) hx hb dX11_gap_8 (by decide) (fun c_2 => ?_) (fun c_2 => ?_)
  · have c_2 : (0 : Int32) = 0 := c_2
    refine lv_iconst (v := (-1)) hx hb dX11_gap_22 (by decide) ?_
    have hP9 := hP.sub (ws' := []) [] rfl
    have hD9 := hD.sub (ws' := []) [] (by decide) rfl
    exact W.iret (v := (-1)) hx hb hr (fun t ht hW => ⟨⟨(-1), (), rfl, rfl, cB_of ht hP9 hD9⟩, hS.F ht⟩) hS.2.2 dX11_gap_23
  · exact absurd (by decide) c_2

set_option maxHeartbeats 4000000 in
set_option maxRecDepth 100000 in
theorem c_X11_foot (l : Launch) (D : va_G) (k : ClassId × ClassId × ClassId × ClassId) (sz : Nat) (h0 h1 : Nat) (F P : List Value) (p0 p1 p2 p3 : Int32) (g_F_paving : F[0]? = some (.ref h1)) (g_P_walkers : P[10]? = some (.int 0)) : Met l yX11_foot (WS yX11_foot cX11_foot 5 (some .int)) ({ frames := 2, cells := 0, slots := 0, locals := 44 }) (va_Pc [.ref h0, .int p0, .int p1, .int p2, .int p3] (cP D k [(h0, .inr (11, F)), (h1, .inr (6, P))] sz)) (va_Qi (fun (r : Int32) (_ : Unit) => r = (-1)) (fun (_ : Unit) t => cB D (va_A [(h0, .inr (11, F)), (h1, .inr (6, P))] sz) [] t) (va_A [(h0, .inr (11, F)), (h1, .inr (6, P))] sz)) 0 0 (va_A [(h0, .inr (11, F)), (h1, .inr (6, P))] sz) := by
  refine Met.ofW (cc := cX11_foot) (maxL := 5) (ret := (some .int)) (by decide) rfl ?_
  intro p e s m args below meth c s₁ B hml hv
  obtain ⟨rfl, hsz, hP, hKX, hD0⟩ := hv
  have hK := hKX.1
  have hx := B.exec
  have hb := B.bytes
  have hr := B.returns
  have hts := atoms_spec (ws := WS yX11_foot cX11_foot 5 (some .int)) B.pre
  have hgd : ∀ w ∈ gd, w ∈ WS yX11_foot cX11_foot 5 (some .int) := fun w h => List.mem_cons_of_mem _ h
  have hg : ∀ w ∈ gd, w.before _ s = true := fun w h => hts w (hgd w h)
  have hown : s.vm.findClass RX11 = some m.cls := findClass_of_methodNamed B.named
  have hlocks := B.notSynchronized
  subst hsz
  have hD := hD0.self (sz := s.heap.size)
  generalize hAe : va_A [(h0, .inr (11, F)), (h1, .inr (6, P))] s.heap.size = A at hD ⊢
  have hA : ∀ q : Nat, s.heap.size ≤ q → A q := fun q h => by rw [← hAe]; exact Or.inr h
  have hS : va_S A s.heap s.heap [] := va_S.rf
  have hP : va_P D classes [(h0, .inr (11, F)), (h1, .inr (6, P))] s.heap := hP
  have hl := lv_entry ([.ref h0, .int p0, .int p1, .int p2, .int p3]) (n := 5) (Nat.le_of_ble_eq_true rfl)
  rw [lg_entry_eq]
  generalize (lg_sl ([.ref h0, .int p0, .int p1, .int p2, .int p3]) ++ List.replicate (5 - (lg_sl ([.ref h0, .int p0, .int p1, .int p2, .int p3])).length) Slot.unset).toArray = ls at hl ⊢
  have hl : lv_has ls 5 [(0, .ref h0), (1, .int p0), (2, .int p1), (3, .int p2), (4, .int p3)] := hl
  refine lv_aload_n hx hb dX11_foot_0 rfl (lv_at hl 0 rfl) ?_
  refine lv_iload_n hx hb dX11_foot_1 rfl (lv_at hl 1 rfl) ?_
  refine lv_iload_n hx hb dX11_foot_2 rfl (lv_at hl 2 rfl) ?_
  refine lv_iload_n hx hb dX11_foot_3 rfl (lv_at hl 3 rfl) ?_
  have hPc := hP.sub (ws' := [(h0, .inr (11, F)), (h1, .inr (6, P))]) [0, 1] rfl
  have hDc := hD.sub (ws' := [(h0, .inr (11, F)), (h1, .inr (6, P))]) [0, 1] (by decide) rfl
  have hFc := va_free (wc := [(h0, .inr (11, F)), (h1, .inr (6, P))]) hD hS hA [0, 1] rfl
  refine va_calli (va_runV (As := [.int p0, .int p1, .int p2]) (rest := []) ⟨hx, hb, hml, hown, hts⟩ (c_X11_canAsk l D k s.heap.size h0 h1 F P p0 p1 p2 g_F_paving g_P_walkers) (cwV 3 hts (gd_V hgd m953 m955 m31 m117 m956) rfl rfl rfl (by decide +kernel) ⟨Nat.le_of_ble_eq_true rfl, Nat.le_of_ble_eq_true rfl⟩) (cP_V hPc hKX hDc (ci := 11) (q0 := 0) rfl rfl) rfl rfl hl.1 rfl (lv_room (Nat.le_of_ble_eq_true rfl)) dX11_foot_4 ⟨Nat.le_of_ble_eq_true rfl, Nat.le_of_ble_eq_true rfl⟩) hS (fun q _ h => hFc q h) hFc (fun r_1 u t H1 locs ht hvm hw hB hz1 hk1 hS => ?_)
  obtain ⟨hP1, hD1⟩ := hB
  rw [ht] at hP1
  obtain ⟨hP, hD⟩ := va_join (wr := []) (w1 := [(h0, .inr (11, F)), (h1, .inr (6, P))]) hP hD [0, 1] [] rfl rfl (by decide) (by decide) hk1 hFc hP1 hD1
  generalize H1 = H at hP hS ⊢
  have hP : va_P D classes [(h0, .inr (11, F)), (h1, .inr (6, P))] H := hP
  have hD : va_D A [(h0, .inr (11, F)), (h1, .inr (6, P))] := hD
  refine W.widen (k := 0) (n := 0) (Nat.le_of_ble_eq_true rfl) (Nat.le_of_ble_eq_true rfl) ?_
  subst hw
  refine lv_if_eq (tgt := 23) hx hb dX11_foot_7 (by decide) (fun c_2 => ?_) (fun c_2 => ?_)
  · have c_2 : (0 : Int32) = 0 := c_2
    refine lv_iconst (v := (-1)) hx hb dX11_foot_23 (by decide) ?_
    have hP9 := hP.sub (ws' := []) [] rfl
    have hD9 := hD.sub (ws' := []) [] (by decide) rfl
    exact W.iret (v := (-1)) hx hb hr (fun t ht hW => ⟨⟨(-1), (), rfl, rfl, cB_of ht hP9 hD9⟩, hS.F ht⟩) hS.2.2 dX11_foot_24
  · exact absurd (by decide) c_2

set_option maxHeartbeats 4000000 in
set_option maxRecDepth 100000 in
theorem c_X11_fewest (l : Launch) (D : va_G) (k : ClassId × ClassId × ClassId × ClassId) (sz : Nat) (h0 h1 : Nat) (F P : List Value) (p0 p1 p2 p3 : Int32) (g_F_paving : F[0]? = some (.ref h1)) (g_F_lie : F[12]? = some (.int 0)) (g_P_walkers : P[10]? = some (.int 0)) : Met l yX11_fewest (WS yX11_fewest cX11_fewest 6 (some .int)) ({ frames := 2, cells := 0, slots := 0, locals := 44 }) (va_Pc [.ref h0, .int p0, .int p1, .int p2, .int p3] (cP D k [(h0, .inr (11, F)), (h1, .inr (6, P))] sz)) (va_Qi (fun (r : Int32) (_ : Unit) => r = (-1)) (fun (_ : Unit) t => cB D (va_A [(h0, .inr (11, F)), (h1, .inr (6, P))] sz) [] t) (va_A [(h0, .inr (11, F)), (h1, .inr (6, P))] sz)) 0 0 (va_A [(h0, .inr (11, F)), (h1, .inr (6, P))] sz) := by
  refine Met.ofW (cc := cX11_fewest) (maxL := 6) (ret := (some .int)) (by decide) rfl ?_
  intro p e s m args below meth c s₁ B hml hv
  obtain ⟨rfl, hsz, hP, hKX, hD0⟩ := hv
  have hK := hKX.1
  have hx := B.exec
  have hb := B.bytes
  have hr := B.returns
  have hts := atoms_spec (ws := WS yX11_fewest cX11_fewest 6 (some .int)) B.pre
  have hgd : ∀ w ∈ gd, w ∈ WS yX11_fewest cX11_fewest 6 (some .int) := fun w h => List.mem_cons_of_mem _ h
  have hg : ∀ w ∈ gd, w.before _ s = true := fun w h => hts w (hgd w h)
  have hown : s.vm.findClass RX11 = some m.cls := findClass_of_methodNamed B.named
  have hlocks := B.notSynchronized
  subst hsz
  have hD := hD0.self (sz := s.heap.size)
  generalize hAe : va_A [(h0, .inr (11, F)), (h1, .inr (6, P))] s.heap.size = A at hD ⊢
  have hA : ∀ q : Nat, s.heap.size ≤ q → A q := fun q h => by rw [← hAe]; exact Or.inr h
  have hS : va_S A s.heap s.heap [] := va_S.rf
  have hP : va_P D classes [(h0, .inr (11, F)), (h1, .inr (6, P))] s.heap := hP
  have hl := lv_entry ([.ref h0, .int p0, .int p1, .int p2, .int p3]) (n := 6) (Nat.le_of_ble_eq_true rfl)
  rw [lg_entry_eq]
  generalize (lg_sl ([.ref h0, .int p0, .int p1, .int p2, .int p3]) ++ List.replicate (6 - (lg_sl ([.ref h0, .int p0, .int p1, .int p2, .int p3])).length) Slot.unset).toArray = ls at hl ⊢
  have hl : lv_has ls 6 [(0, .ref h0), (1, .int p0), (2, .int p1), (3, .int p2), (4, .int p3)] := hl
  refine lv_aload_n hx hb dX11_fewest_0 rfl (lv_at hl 0 rfl) ?_
  refine lv_iconst (v := 0) hx hb dX11_fewest_1 (by decide) ?_
  refine va_put (D := D) (ci := 11) (v := .int 0) (ty := .int) (C := RX11) (T := TX11) (N := 13) hx hb hg iX11 tyX11 tyX11_ok nmX11 hown hK hP hD hS 0 rfl rfl 12 (by decide) (hg (Cond.fieldLink RX11 150 "SlabWalk" "lie" "I") m582) (fun _ h9 => h9) rfl (by decide +kernel) rfl rfl (fs_lt g_F_lie) dX11_fewest_2 (fun H locs hP hD hS => ?_)
  have hP : va_P D classes [(h0, .inr (11, (F.set 12 (.int 0)))), (h1, .inr (6, P))] H := hP
  have hD : va_D A [(h0, .inr (11, (F.set 12 (.int 0)))), (h1, .inr (6, P))] := hD
  refine lv_aload_n hx hb dX11_fewest_5 rfl (lv_at hl 0 rfl) ?_
  refine lv_iload_n hx hb dX11_fewest_6 rfl (lv_at hl 1 rfl) ?_
  refine lv_iload_n hx hb dX11_fewest_7 rfl (lv_at hl 2 rfl) ?_
  refine lv_iload_n hx hb dX11_fewest_8 rfl (lv_at hl 3 rfl) ?_
  have hPc := hP.sub (ws' := [(h0, .inr (11, (F.set 12 (.int 0)))), (h1, .inr (6, P))]) [0, 1] rfl
  have hDc := hD.sub (ws' := [(h0, .inr (11, (F.set 12 (.int 0)))), (h1, .inr (6, P))]) [0, 1] (by decide) rfl
  have hFc := va_free (wc := [(h0, .inr (11, (F.set 12 (.int 0)))), (h1, .inr (6, P))]) hD hS hA [0, 1] rfl
  refine va_calli (va_runV (As := [.int p0, .int p1, .int p2]) (rest := []) ⟨hx, hb, hml, hown, hts⟩ (c_X11_canAsk l D k H.size h0 h1 (F.set 12 (.int 0)) P p0 p1 p2 (fs_ne g_F_paving (by decide)) g_P_walkers) (cwV 3 hts (gd_V hgd m953 m955 m31 m117 m956) rfl rfl rfl (by decide +kernel) ⟨Nat.le_of_ble_eq_true rfl, Nat.le_of_ble_eq_true rfl⟩) (cP_V hPc hKX hDc (ci := 11) (q0 := 0) rfl rfl) rfl rfl hl.1 rfl (lv_room (Nat.le_of_ble_eq_true rfl)) dX11_fewest_9 ⟨Nat.le_of_ble_eq_true rfl, Nat.le_of_ble_eq_true rfl⟩) hS (fun q _ h => hFc q h) hFc (fun r_1 u t H1 locs ht hvm hw hB hz1 hk1 hS => ?_)
  obtain ⟨hP1, hD1⟩ := hB
  rw [ht] at hP1
  obtain ⟨hP, hD⟩ := va_join (wr := []) (w1 := [(h0, .inr (11, (F.set 12 (.int 0)))), (h1, .inr (6, P))]) hP hD [0, 1] [] rfl rfl (by decide) (by decide) hk1 hFc hP1 hD1
  generalize H1 = H at hP hS ⊢
  have hP : va_P D classes [(h0, .inr (11, (F.set 12 (.int 0)))), (h1, .inr (6, P))] H := hP
  have hD : va_D A [(h0, .inr (11, (F.set 12 (.int 0)))), (h1, .inr (6, P))] := hD
  refine W.widen (k := 0) (n := 0) (Nat.le_of_ble_eq_true rfl) (Nat.le_of_ble_eq_true rfl) ?_
  subst hw
  refine lv_if_eq (tgt := 26) hx hb dX11_fewest_12 (by decide) (fun c_2 => ?_) (fun c_2 => ?_)
  · have c_2 : (0 : Int32) = 0 := c_2
    refine lv_iconst (v := (-1)) hx hb dX11_fewest_26 (by decide) ?_
    have hP9 := hP.sub (ws' := []) [] rfl
    have hD9 := hD.sub (ws' := []) [] (by decide) rfl
    exact W.iret (v := (-1)) hx hb hr (fun t ht hW => ⟨⟨(-1), (), rfl, rfl, cB_of ht hP9 hD9⟩, hS.F ht⟩) hS.2.2 dX11_fewest_27
  · exact absurd (by decide) c_2

set_option maxHeartbeats 4000000 in
set_option maxRecDepth 100000 in
theorem c_X11_ways (l : Launch) (D : va_G) (k : ClassId × ClassId × ClassId × ClassId) (sz : Nat) (h0 h1 : Nat) (F P : List Value) (p0 p1 p2 p3 : Int32) (g_F_paving : F[0]? = some (.ref h1)) (g_P_walkers : P[10]? = some (.int 0)) : Met l yX11_ways (WS yX11_ways cX11_ways 5 (some .long)) ({ frames := 2, cells := 0, slots := 0, locals := 44 }) (va_Pc [.ref h0, .int p0, .int p1, .int p2, .int p3] (cP D k [(h0, .inr (11, F)), (h1, .inr (6, P))] sz)) (va_Ql (fun (r : Int64) (_ : Unit) => r = (-1)) (fun (_ : Unit) t => cB D (va_A [(h0, .inr (11, F)), (h1, .inr (6, P))] sz) [] t) (va_A [(h0, .inr (11, F)), (h1, .inr (6, P))] sz)) 0 0 (va_A [(h0, .inr (11, F)), (h1, .inr (6, P))] sz) := by
  refine Met.ofW (cc := cX11_ways) (maxL := 5) (ret := (some .long)) (by decide) rfl ?_
  intro p e s m args below meth c s₁ B hml hv
  obtain ⟨rfl, hsz, hP, hKX, hD0⟩ := hv
  have hK := hKX.1
  have hx := B.exec
  have hb := B.bytes
  have hr := B.returns
  have hts := atoms_spec (ws := WS yX11_ways cX11_ways 5 (some .long)) B.pre
  have hgd : ∀ w ∈ gd, w ∈ WS yX11_ways cX11_ways 5 (some .long) := fun w h => List.mem_cons_of_mem _ h
  have hg : ∀ w ∈ gd, w.before _ s = true := fun w h => hts w (hgd w h)
  have hown : s.vm.findClass RX11 = some m.cls := findClass_of_methodNamed B.named
  have hlocks := B.notSynchronized
  subst hsz
  have hD := hD0.self (sz := s.heap.size)
  generalize hAe : va_A [(h0, .inr (11, F)), (h1, .inr (6, P))] s.heap.size = A at hD ⊢
  have hA : ∀ q : Nat, s.heap.size ≤ q → A q := fun q h => by rw [← hAe]; exact Or.inr h
  have hS : va_S A s.heap s.heap [] := va_S.rf
  have hP : va_P D classes [(h0, .inr (11, F)), (h1, .inr (6, P))] s.heap := hP
  have hl := lv_entry ([.ref h0, .int p0, .int p1, .int p2, .int p3]) (n := 5) (Nat.le_of_ble_eq_true rfl)
  rw [lg_entry_eq]
  generalize (lg_sl ([.ref h0, .int p0, .int p1, .int p2, .int p3]) ++ List.replicate (5 - (lg_sl ([.ref h0, .int p0, .int p1, .int p2, .int p3])).length) Slot.unset).toArray = ls at hl ⊢
  have hl : lv_has ls 5 [(0, .ref h0), (1, .int p0), (2, .int p1), (3, .int p2), (4, .int p3)] := hl
  refine lv_aload_n hx hb dX11_ways_0 rfl (lv_at hl 0 rfl) ?_
  refine lv_iload_n hx hb dX11_ways_1 rfl (lv_at hl 1 rfl) ?_
  refine lv_iload_n hx hb dX11_ways_2 rfl (lv_at hl 2 rfl) ?_
  refine lv_iload_n hx hb dX11_ways_3 rfl (lv_at hl 3 rfl) ?_
  have hPc := hP.sub (ws' := [(h0, .inr (11, F)), (h1, .inr (6, P))]) [0, 1] rfl
  have hDc := hD.sub (ws' := [(h0, .inr (11, F)), (h1, .inr (6, P))]) [0, 1] (by decide) rfl
  have hFc := va_free (wc := [(h0, .inr (11, F)), (h1, .inr (6, P))]) hD hS hA [0, 1] rfl
  refine va_calli (va_runV (As := [.int p0, .int p1, .int p2]) (rest := []) ⟨hx, hb, hml, hown, hts⟩ (c_X11_canAsk l D k s.heap.size h0 h1 F P p0 p1 p2 g_F_paving g_P_walkers) (cwV 3 hts (gd_V hgd m953 m955 m31 m117 m956) rfl rfl rfl (by decide +kernel) ⟨Nat.le_of_ble_eq_true rfl, Nat.le_of_ble_eq_true rfl⟩) (cP_V hPc hKX hDc (ci := 11) (q0 := 0) rfl rfl) rfl rfl hl.1 rfl (lv_room (Nat.le_of_ble_eq_true rfl)) dX11_ways_4 ⟨Nat.le_of_ble_eq_true rfl, Nat.le_of_ble_eq_true rfl⟩) hS (fun q _ h => hFc q h) hFc (fun r_1 u t H1 locs ht hvm hw hB hz1 hk1 hS => ?_)
  obtain ⟨hP1, hD1⟩ := hB
  rw [ht] at hP1
  obtain ⟨hP, hD⟩ := va_join (wr := []) (w1 := [(h0, .inr (11, F)), (h1, .inr (6, P))]) hP hD [0, 1] [] rfl rfl (by decide) (by decide) hk1 hFc hP1 hD1
  generalize H1 = H at hP hS ⊢
  have hP : va_P D classes [(h0, .inr (11, F)), (h1, .inr (6, P))] H := hP
  have hD : va_D A [(h0, .inr (11, F)), (h1, .inr (6, P))] := hD
  refine W.widen (k := 0) (n := 0) (Nat.le_of_ble_eq_true rfl) (Nat.le_of_ble_eq_true rfl) ?_
  subst hw
  refine lv_if_eq (tgt := 23) hx hb dX11_ways_7 (by decide) (fun c_2 => ?_) (fun c_2 => ?_)
  · have c_2 : (0 : Int32) = 0 := c_2
    refine lv_ldc2 (v := (-1)) hx hb hown (hg (Cond.constantLong RX11 165 (-1)) m1018) dX11_ways_23 ?_
    have hP9 := hP.sub (ws' := []) [] rfl
    have hD9 := hD.sub (ws' := []) [] (by decide) rfl
    exact W.lret (v := (-1)) hx hb hr (fun t ht hW => ⟨⟨(-1), (), rfl, rfl, cB_of ht hP9 hD9⟩, hS.F ht⟩) hS.2.2 dX11_ways_26
  · exact absurd (by decide) c_2

set_option maxHeartbeats 4000000 in
set_option maxRecDepth 100000 in
theorem c_X11_evenest (l : Launch) (D : va_G) (k : ClassId × ClassId × ClassId × ClassId) (sz : Nat) (h0 h1 : Nat) (F P : List Value) (p0 p1 p2 p3 : Int32) (g_F_paving : F[0]? = some (.ref h1)) (g_P_walkers : P[10]? = some (.int 0)) : Met l yX11_evenest (WS yX11_evenest cX11_evenest 5 (some .int)) ({ frames := 2, cells := 0, slots := 0, locals := 44 }) (va_Pc [.ref h0, .int p0, .int p1, .int p2, .int p3] (cP D k [(h0, .inr (11, F)), (h1, .inr (6, P))] sz)) (va_Qi (fun (r : Int32) (_ : Unit) => r = (-1)) (fun (_ : Unit) t => cB D (va_A [(h0, .inr (11, F)), (h1, .inr (6, P))] sz) [] t) (va_A [(h0, .inr (11, F)), (h1, .inr (6, P))] sz)) 0 0 (va_A [(h0, .inr (11, F)), (h1, .inr (6, P))] sz) := by
  refine Met.ofW (cc := cX11_evenest) (maxL := 5) (ret := (some .int)) (by decide) rfl ?_
  intro p e s m args below meth c s₁ B hml hv
  obtain ⟨rfl, hsz, hP, hKX, hD0⟩ := hv
  have hK := hKX.1
  have hx := B.exec
  have hb := B.bytes
  have hr := B.returns
  have hts := atoms_spec (ws := WS yX11_evenest cX11_evenest 5 (some .int)) B.pre
  have hgd : ∀ w ∈ gd, w ∈ WS yX11_evenest cX11_evenest 5 (some .int) := fun w h => List.mem_cons_of_mem _ h
  have hg : ∀ w ∈ gd, w.before _ s = true := fun w h => hts w (hgd w h)
  have hown : s.vm.findClass RX11 = some m.cls := findClass_of_methodNamed B.named
  have hlocks := B.notSynchronized
  subst hsz
  have hD := hD0.self (sz := s.heap.size)
  generalize hAe : va_A [(h0, .inr (11, F)), (h1, .inr (6, P))] s.heap.size = A at hD ⊢
  have hA : ∀ q : Nat, s.heap.size ≤ q → A q := fun q h => by rw [← hAe]; exact Or.inr h
  have hS : va_S A s.heap s.heap [] := va_S.rf
  have hP : va_P D classes [(h0, .inr (11, F)), (h1, .inr (6, P))] s.heap := hP
  have hl := lv_entry ([.ref h0, .int p0, .int p1, .int p2, .int p3]) (n := 5) (Nat.le_of_ble_eq_true rfl)
  rw [lg_entry_eq]
  generalize (lg_sl ([.ref h0, .int p0, .int p1, .int p2, .int p3]) ++ List.replicate (5 - (lg_sl ([.ref h0, .int p0, .int p1, .int p2, .int p3])).length) Slot.unset).toArray = ls at hl ⊢
  have hl : lv_has ls 5 [(0, .ref h0), (1, .int p0), (2, .int p1), (3, .int p2), (4, .int p3)] := hl
  refine lv_aload_n hx hb dX11_evenest_0 rfl (lv_at hl 0 rfl) ?_
  refine lv_iload_n hx hb dX11_evenest_1 rfl (lv_at hl 1 rfl) ?_
  refine lv_iload_n hx hb dX11_evenest_2 rfl (lv_at hl 2 rfl) ?_
  refine lv_iload_n hx hb dX11_evenest_3 rfl (lv_at hl 3 rfl) ?_
  have hPc := hP.sub (ws' := [(h0, .inr (11, F)), (h1, .inr (6, P))]) [0, 1] rfl
  have hDc := hD.sub (ws' := [(h0, .inr (11, F)), (h1, .inr (6, P))]) [0, 1] (by decide) rfl
  have hFc := va_free (wc := [(h0, .inr (11, F)), (h1, .inr (6, P))]) hD hS hA [0, 1] rfl
  refine va_calli (va_runV (As := [.int p0, .int p1, .int p2]) (rest := []) ⟨hx, hb, hml, hown, hts⟩ (c_X11_canAsk l D k s.heap.size h0 h1 F P p0 p1 p2 g_F_paving g_P_walkers) (cwV 3 hts (gd_V hgd m953 m955 m31 m117 m956) rfl rfl rfl (by decide +kernel) ⟨Nat.le_of_ble_eq_true rfl, Nat.le_of_ble_eq_true rfl⟩) (cP_V hPc hKX hDc (ci := 11) (q0 := 0) rfl rfl) rfl rfl hl.1 rfl (lv_room (Nat.le_of_ble_eq_true rfl)) dX11_evenest_4 ⟨Nat.le_of_ble_eq_true rfl, Nat.le_of_ble_eq_true rfl⟩) hS (fun q _ h => hFc q h) hFc (fun r_1 u t H1 locs ht hvm hw hB hz1 hk1 hS => ?_)
  obtain ⟨hP1, hD1⟩ := hB
  rw [ht] at hP1
  obtain ⟨hP, hD⟩ := va_join (wr := []) (w1 := [(h0, .inr (11, F)), (h1, .inr (6, P))]) hP hD [0, 1] [] rfl rfl (by decide) (by decide) hk1 hFc hP1 hD1
  generalize H1 = H at hP hS ⊢
  have hP : va_P D classes [(h0, .inr (11, F)), (h1, .inr (6, P))] H := hP
  have hD : va_D A [(h0, .inr (11, F)), (h1, .inr (6, P))] := hD
  refine W.widen (k := 0) (n := 0) (Nat.le_of_ble_eq_true rfl) (Nat.le_of_ble_eq_true rfl) ?_
  subst hw
  refine lv_if_eq (tgt := 21) hx hb dX11_evenest_7 (by decide) (fun c_2 => ?_) (fun c_2 => ?_)
  · have c_2 : (0 : Int32) = 0 := c_2
    refine lv_iconst (v := (-1)) hx hb dX11_evenest_21 (by decide) ?_
    have hP9 := hP.sub (ws' := []) [] rfl
    have hD9 := hD.sub (ws' := []) [] (by decide) rfl
    exact W.iret (v := (-1)) hx hb hr (fun t ht hW => ⟨⟨(-1), (), rfl, rfl, cB_of ht hP9 hD9⟩, hS.F ht⟩) hS.2.2 dX11_evenest_22
  · exact absurd (by decide) c_2

set_option maxHeartbeats 4000000 in
set_option maxRecDepth 100000 in
theorem c_X11_even (l : Launch) (D : va_G) (k : ClassId × ClassId × ClassId × ClassId) (sz : Nat) (h0 h1 : Nat) (F P : List Value) (p0 p1 p2 p3 p4 : Int32) (g_F_paving : F[0]? = some (.ref h1)) (g_P_walkers : P[10]? = some (.int 0)) : Met l yX11_even (WS yX11_even cX11_even 8 (some .int)) ({ frames := 2, cells := 0, slots := 0, locals := 44 }) (va_Pc [.ref h0, .int p0, .int p1, .int p2, .int p3, .int p4] (cP D k [(h0, .inr (11, F)), (h1, .inr (6, P))] sz)) (va_Qi (fun (r : Int32) (_ : Unit) => r = (-1)) (fun (_ : Unit) t => cB D (va_A [(h0, .inr (11, F)), (h1, .inr (6, P))] sz) [] t) (va_A [(h0, .inr (11, F)), (h1, .inr (6, P))] sz)) 0 0 (va_A [(h0, .inr (11, F)), (h1, .inr (6, P))] sz) := by
  refine Met.ofW (cc := cX11_even) (maxL := 8) (ret := (some .int)) (by decide) rfl ?_
  intro p e s m args below meth c s₁ B hml hv
  obtain ⟨rfl, hsz, hP, hKX, hD0⟩ := hv
  have hK := hKX.1
  have hx := B.exec
  have hb := B.bytes
  have hr := B.returns
  have hts := atoms_spec (ws := WS yX11_even cX11_even 8 (some .int)) B.pre
  have hgd : ∀ w ∈ gd, w ∈ WS yX11_even cX11_even 8 (some .int) := fun w h => List.mem_cons_of_mem _ h
  have hg : ∀ w ∈ gd, w.before _ s = true := fun w h => hts w (hgd w h)
  have hown : s.vm.findClass RX11 = some m.cls := findClass_of_methodNamed B.named
  have hlocks := B.notSynchronized
  subst hsz
  have hD := hD0.self (sz := s.heap.size)
  generalize hAe : va_A [(h0, .inr (11, F)), (h1, .inr (6, P))] s.heap.size = A at hD ⊢
  have hA : ∀ q : Nat, s.heap.size ≤ q → A q := fun q h => by rw [← hAe]; exact Or.inr h
  have hS : va_S A s.heap s.heap [] := va_S.rf
  have hP : va_P D classes [(h0, .inr (11, F)), (h1, .inr (6, P))] s.heap := hP
  have hl := lv_entry ([.ref h0, .int p0, .int p1, .int p2, .int p3, .int p4]) (n := 8) (Nat.le_of_ble_eq_true rfl)
  rw [lg_entry_eq]
  generalize (lg_sl ([.ref h0, .int p0, .int p1, .int p2, .int p3, .int p4]) ++ List.replicate (8 - (lg_sl ([.ref h0, .int p0, .int p1, .int p2, .int p3, .int p4])).length) Slot.unset).toArray = ls at hl ⊢
  have hl : lv_has ls 8 [(0, .ref h0), (1, .int p0), (2, .int p1), (3, .int p2), (4, .int p3), (5, .int p4)] := hl
  refine lv_aload_n hx hb dX11_even_0 rfl (lv_at hl 0 rfl) ?_
  refine lv_iload_n hx hb dX11_even_1 rfl (lv_at hl 1 rfl) ?_
  refine lv_iload_n hx hb dX11_even_2 rfl (lv_at hl 2 rfl) ?_
  refine lv_iload_n hx hb dX11_even_3 rfl (lv_at hl 3 rfl) ?_
  have hPc := hP.sub (ws' := [(h0, .inr (11, F)), (h1, .inr (6, P))]) [0, 1] rfl
  have hDc := hD.sub (ws' := [(h0, .inr (11, F)), (h1, .inr (6, P))]) [0, 1] (by decide) rfl
  have hFc := va_free (wc := [(h0, .inr (11, F)), (h1, .inr (6, P))]) hD hS hA [0, 1] rfl
  refine va_calli (va_runV (As := [.int p0, .int p1, .int p2]) (rest := []) ⟨hx, hb, hml, hown, hts⟩ (c_X11_canAsk l D k s.heap.size h0 h1 F P p0 p1 p2 g_F_paving g_P_walkers) (cwV 3 hts (gd_V hgd m953 m955 m31 m117 m956) rfl rfl rfl (by decide +kernel) ⟨Nat.le_of_ble_eq_true rfl, Nat.le_of_ble_eq_true rfl⟩) (cP_V hPc hKX hDc (ci := 11) (q0 := 0) rfl rfl) rfl rfl hl.1 rfl (lv_room (Nat.le_of_ble_eq_true rfl)) dX11_even_4 ⟨Nat.le_of_ble_eq_true rfl, Nat.le_of_ble_eq_true rfl⟩) hS (fun q _ h => hFc q h) hFc (fun r_1 u t H1 locs ht hvm hw hB hz1 hk1 hS => ?_)
  obtain ⟨hP1, hD1⟩ := hB
  rw [ht] at hP1
  obtain ⟨hP, hD⟩ := va_join (wr := []) (w1 := [(h0, .inr (11, F)), (h1, .inr (6, P))]) hP hD [0, 1] [] rfl rfl (by decide) (by decide) hk1 hFc hP1 hD1
  generalize H1 = H at hP hS ⊢
  have hP : va_P D classes [(h0, .inr (11, F)), (h1, .inr (6, P))] H := hP
  have hD : va_D A [(h0, .inr (11, F)), (h1, .inr (6, P))] := hD
  refine W.widen (k := 0) (n := 0) (Nat.le_of_ble_eq_true rfl) (Nat.le_of_ble_eq_true rfl) ?_
  subst hw
  refine lv_if_eq (tgt := 36) hx hb dX11_even_7 (by decide) (fun c_2 => ?_) (fun c_2 => ?_)
  · have c_2 : (0 : Int32) = 0 := c_2
    refine lv_iconst (v := (-1)) hx hb dX11_even_36 (by decide) ?_
    have hP9 := hP.sub (ws' := []) [] rfl
    have hD9 := hD.sub (ws' := []) [] (by decide) rfl
    exact W.iret (v := (-1)) hx hb hr (fun t ht hW => ⟨⟨(-1), (), rfl, rfl, cB_of ht hP9 hD9⟩, hS.F ht⟩) hS.2.2 dX11_even_37
  · exact absurd (by decide) c_2

set_option maxHeartbeats 4000000 in
set_option maxRecDepth 100000 in
theorem c_X11_evens (l : Launch) (D : va_G) (k : ClassId × ClassId × ClassId × ClassId) (sz : Nat) (h0 h1 : Nat) (F P : List Value) (p0 p1 p2 : Int32) (g_F_paving : F[0]? = some (.ref h1)) (g_F_lie : F[12]? = some (.int 0)) (g_P_walkers : P[10]? = some (.int 0)) : Met l yX11_evens (WS yX11_evens cX11_evens 5 (some .int)) ({ frames := 2, cells := 0, slots := 0, locals := 44 }) (va_Pc [.ref h0, .int p0, .int p1, .int p2] (cP D k [(h0, .inr (11, F)), (h1, .inr (6, P))] sz)) (va_Qi (fun (r : Int32) (_ : Unit) => r = (-1)) (fun (_ : Unit) t => cB D (va_A [(h0, .inr (11, F)), (h1, .inr (6, P))] sz) [] t) (va_A [(h0, .inr (11, F)), (h1, .inr (6, P))] sz)) 0 0 (va_A [(h0, .inr (11, F)), (h1, .inr (6, P))] sz) := by
  refine Met.ofW (cc := cX11_evens) (maxL := 5) (ret := (some .int)) (by decide) rfl ?_
  intro p e s m args below meth c s₁ B hml hv
  obtain ⟨rfl, hsz, hP, hKX, hD0⟩ := hv
  have hK := hKX.1
  have hx := B.exec
  have hb := B.bytes
  have hr := B.returns
  have hts := atoms_spec (ws := WS yX11_evens cX11_evens 5 (some .int)) B.pre
  have hgd : ∀ w ∈ gd, w ∈ WS yX11_evens cX11_evens 5 (some .int) := fun w h => List.mem_cons_of_mem _ h
  have hg : ∀ w ∈ gd, w.before _ s = true := fun w h => hts w (hgd w h)
  have hown : s.vm.findClass RX11 = some m.cls := findClass_of_methodNamed B.named
  have hlocks := B.notSynchronized
  subst hsz
  have hD := hD0.self (sz := s.heap.size)
  generalize hAe : va_A [(h0, .inr (11, F)), (h1, .inr (6, P))] s.heap.size = A at hD ⊢
  have hA : ∀ q : Nat, s.heap.size ≤ q → A q := fun q h => by rw [← hAe]; exact Or.inr h
  have hS : va_S A s.heap s.heap [] := va_S.rf
  have hP : va_P D classes [(h0, .inr (11, F)), (h1, .inr (6, P))] s.heap := hP
  have hl := lv_entry ([.ref h0, .int p0, .int p1, .int p2]) (n := 5) (Nat.le_of_ble_eq_true rfl)
  rw [lg_entry_eq]
  generalize (lg_sl ([.ref h0, .int p0, .int p1, .int p2]) ++ List.replicate (5 - (lg_sl ([.ref h0, .int p0, .int p1, .int p2])).length) Slot.unset).toArray = ls at hl ⊢
  have hl : lv_has ls 5 [(0, .ref h0), (1, .int p0), (2, .int p1), (3, .int p2)] := hl
  refine lv_aload_n hx hb dX11_evens_0 rfl (lv_at hl 0 rfl) ?_
  refine lv_iconst (v := 0) hx hb dX11_evens_1 (by decide) ?_
  refine va_put (D := D) (ci := 11) (v := .int 0) (ty := .int) (C := RX11) (T := TX11) (N := 13) hx hb hg iX11 tyX11 tyX11_ok nmX11 hown hK hP hD hS 0 rfl rfl 12 (by decide) (hg (Cond.fieldLink RX11 150 "SlabWalk" "lie" "I") m582) (fun _ h9 => h9) rfl (by decide +kernel) rfl rfl (fs_lt g_F_lie) dX11_evens_2 (fun H locs hP hD hS => ?_)
  have hP : va_P D classes [(h0, .inr (11, (F.set 12 (.int 0)))), (h1, .inr (6, P))] H := hP
  have hD : va_D A [(h0, .inr (11, (F.set 12 (.int 0)))), (h1, .inr (6, P))] := hD
  refine lv_aload_n hx hb dX11_evens_5 rfl (lv_at hl 0 rfl) ?_
  refine lv_iload_n hx hb dX11_evens_6 rfl (lv_at hl 1 rfl) ?_
  refine lv_iload_n hx hb dX11_evens_7 rfl (lv_at hl 2 rfl) ?_
  refine lv_iload_n hx hb dX11_evens_8 rfl (lv_at hl 3 rfl) ?_
  have hPc := hP.sub (ws' := [(h0, .inr (11, (F.set 12 (.int 0)))), (h1, .inr (6, P))]) [0, 1] rfl
  have hDc := hD.sub (ws' := [(h0, .inr (11, (F.set 12 (.int 0)))), (h1, .inr (6, P))]) [0, 1] (by decide) rfl
  have hFc := va_free (wc := [(h0, .inr (11, (F.set 12 (.int 0)))), (h1, .inr (6, P))]) hD hS hA [0, 1] rfl
  refine va_calli (va_runV (As := [.int p0, .int p1, .int p2]) (rest := []) ⟨hx, hb, hml, hown, hts⟩ (c_X11_canAsk l D k H.size h0 h1 (F.set 12 (.int 0)) P p0 p1 p2 (fs_ne g_F_paving (by decide)) g_P_walkers) (cwV 3 hts (gd_V hgd m953 m955 m31 m117 m956) rfl rfl rfl (by decide +kernel) ⟨Nat.le_of_ble_eq_true rfl, Nat.le_of_ble_eq_true rfl⟩) (cP_V hPc hKX hDc (ci := 11) (q0 := 0) rfl rfl) rfl rfl hl.1 rfl (lv_room (Nat.le_of_ble_eq_true rfl)) dX11_evens_9 ⟨Nat.le_of_ble_eq_true rfl, Nat.le_of_ble_eq_true rfl⟩) hS (fun q _ h => hFc q h) hFc (fun r_1 u t H1 locs ht hvm hw hB hz1 hk1 hS => ?_)
  obtain ⟨hP1, hD1⟩ := hB
  rw [ht] at hP1
  obtain ⟨hP, hD⟩ := va_join (wr := []) (w1 := [(h0, .inr (11, (F.set 12 (.int 0)))), (h1, .inr (6, P))]) hP hD [0, 1] [] rfl rfl (by decide) (by decide) hk1 hFc hP1 hD1
  generalize H1 = H at hP hS ⊢
  have hP : va_P D classes [(h0, .inr (11, (F.set 12 (.int 0)))), (h1, .inr (6, P))] H := hP
  have hD : va_D A [(h0, .inr (11, (F.set 12 (.int 0)))), (h1, .inr (6, P))] := hD
  refine W.widen (k := 0) (n := 0) (Nat.le_of_ble_eq_true rfl) (Nat.le_of_ble_eq_true rfl) ?_
  subst hw
  refine lv_if_ne (tgt := 17) hx hb dX11_evens_12 (by decide) (fun c_2 => ?_) (fun c_2 => ?_)
  · exact absurd (by decide) c_2
  · have c_2 : (0 : Int32) = 0 := c_2
    refine lv_iconst (v := (-1)) hx hb dX11_evens_15 (by decide) ?_
    have hP9 := hP.sub (ws' := []) [] rfl
    have hD9 := hD.sub (ws' := []) [] (by decide) rfl
    exact W.iret (v := (-1)) hx hb hr (fun t ht hW => ⟨⟨(-1), (), rfl, rfl, cB_of ht hP9 hD9⟩, hS.F ht⟩) hS.2.2 dX11_evens_16

set_option maxHeartbeats 4000000 in
set_option maxRecDepth 100000 in
theorem c_X11_keeps (l : Launch) (D : va_G) (k : ClassId × ClassId × ClassId × ClassId) (sz : Nat) (h0 h1 : Nat) (F P : List Value) (p0 p1 p2 : Int32) (g_F_paving : F[0]? = some (.ref h1)) (g_P_walkers : P[10]? = some (.int 0)) : Met l yX11_keeps (WS yX11_keeps cX11_keeps 4 (some .int)) ({ frames := 2, cells := 0, slots := 0, locals := 44 }) (va_Pc [.ref h0, .int p0, .int p1, .int p2] (cP D k [(h0, .inr (11, F)), (h1, .inr (6, P))] sz)) (va_Qi (fun (r : Int32) (_ : Unit) => r = (-1)) (fun (_ : Unit) t => cB D (va_A [(h0, .inr (11, F)), (h1, .inr (6, P))] sz) [] t) (va_A [(h0, .inr (11, F)), (h1, .inr (6, P))] sz)) 0 0 (va_A [(h0, .inr (11, F)), (h1, .inr (6, P))] sz) := by
  refine Met.ofW (cc := cX11_keeps) (maxL := 4) (ret := (some .int)) (by decide) rfl ?_
  intro p e s m args below meth c s₁ B hml hv
  obtain ⟨rfl, hsz, hP, hKX, hD0⟩ := hv
  have hK := hKX.1
  have hx := B.exec
  have hb := B.bytes
  have hr := B.returns
  have hts := atoms_spec (ws := WS yX11_keeps cX11_keeps 4 (some .int)) B.pre
  have hgd : ∀ w ∈ gd, w ∈ WS yX11_keeps cX11_keeps 4 (some .int) := fun w h => List.mem_cons_of_mem _ h
  have hg : ∀ w ∈ gd, w.before _ s = true := fun w h => hts w (hgd w h)
  have hown : s.vm.findClass RX11 = some m.cls := findClass_of_methodNamed B.named
  have hlocks := B.notSynchronized
  subst hsz
  have hD := hD0.self (sz := s.heap.size)
  generalize hAe : va_A [(h0, .inr (11, F)), (h1, .inr (6, P))] s.heap.size = A at hD ⊢
  have hA : ∀ q : Nat, s.heap.size ≤ q → A q := fun q h => by rw [← hAe]; exact Or.inr h
  have hS : va_S A s.heap s.heap [] := va_S.rf
  have hP : va_P D classes [(h0, .inr (11, F)), (h1, .inr (6, P))] s.heap := hP
  have hl := lv_entry ([.ref h0, .int p0, .int p1, .int p2]) (n := 4) (Nat.le_of_ble_eq_true rfl)
  rw [lg_entry_eq]
  generalize (lg_sl ([.ref h0, .int p0, .int p1, .int p2]) ++ List.replicate (4 - (lg_sl ([.ref h0, .int p0, .int p1, .int p2])).length) Slot.unset).toArray = ls at hl ⊢
  have hl : lv_has ls 4 [(0, .ref h0), (1, .int p0), (2, .int p1), (3, .int p2)] := hl
  refine lv_aload_n hx hb dX11_keeps_0 rfl (lv_at hl 0 rfl) ?_
  refine lv_iload_n hx hb dX11_keeps_1 rfl (lv_at hl 1 rfl) ?_
  refine lv_iload_n hx hb dX11_keeps_2 rfl (lv_at hl 2 rfl) ?_
  refine lv_iload_n hx hb dX11_keeps_3 rfl (lv_at hl 3 rfl) ?_
  have hPc := hP.sub (ws' := [(h0, .inr (11, F)), (h1, .inr (6, P))]) [0, 1] rfl
  have hDc := hD.sub (ws' := [(h0, .inr (11, F)), (h1, .inr (6, P))]) [0, 1] (by decide) rfl
  have hFc := va_free (wc := [(h0, .inr (11, F)), (h1, .inr (6, P))]) hD hS hA [0, 1] rfl
  refine va_calli (va_runV (As := [.int p0, .int p1, .int p2]) (rest := []) ⟨hx, hb, hml, hown, hts⟩ (c_X11_canAsk l D k s.heap.size h0 h1 F P p0 p1 p2 g_F_paving g_P_walkers) (cwV 3 hts (gd_V hgd m953 m955 m31 m117 m956) rfl rfl rfl (by decide +kernel) ⟨Nat.le_of_ble_eq_true rfl, Nat.le_of_ble_eq_true rfl⟩) (cP_V hPc hKX hDc (ci := 11) (q0 := 0) rfl rfl) rfl rfl hl.1 rfl (lv_room (Nat.le_of_ble_eq_true rfl)) dX11_keeps_4 ⟨Nat.le_of_ble_eq_true rfl, Nat.le_of_ble_eq_true rfl⟩) hS (fun q _ h => hFc q h) hFc (fun r_1 u t H1 locs ht hvm hw hB hz1 hk1 hS => ?_)
  obtain ⟨hP1, hD1⟩ := hB
  rw [ht] at hP1
  obtain ⟨hP, hD⟩ := va_join (wr := []) (w1 := [(h0, .inr (11, F)), (h1, .inr (6, P))]) hP hD [0, 1] [] rfl rfl (by decide) (by decide) hk1 hFc hP1 hD1
  generalize H1 = H at hP hS ⊢
  have hP : va_P D classes [(h0, .inr (11, F)), (h1, .inr (6, P))] H := hP
  have hD : va_D A [(h0, .inr (11, F)), (h1, .inr (6, P))] := hD
  refine W.widen (k := 0) (n := 0) (Nat.le_of_ble_eq_true rfl) (Nat.le_of_ble_eq_true rfl) ?_
  subst hw
  refine lv_if_ne (tgt := 12) hx hb dX11_keeps_7 (by decide) (fun c_2 => ?_) (fun c_2 => ?_)
  · exact absurd (by decide) c_2
  · have c_2 : (0 : Int32) = 0 := c_2
    refine lv_iconst (v := (-1)) hx hb dX11_keeps_10 (by decide) ?_
    have hP9 := hP.sub (ws' := []) [] rfl
    have hD9 := hD.sub (ws' := []) [] (by decide) rfl
    exact W.iret (v := (-1)) hx hb hr (fun t ht hW => ⟨⟨(-1), (), rfl, rfl, cB_of ht hP9 hD9⟩, hS.F ht⟩) hS.2.2 dX11_keeps_11

set_option maxHeartbeats 4000000 in
set_option maxRecDepth 100000 in
theorem c_X11_brave (l : Launch) (D : va_G) (k : ClassId × ClassId × ClassId × ClassId) (sz : Nat) (h0 h1 : Nat) (F P : List Value) (p0 p1 p2 p3 p4 : Int32) (g_F_paving : F[0]? = some (.ref h1)) (g_P_walkers : P[10]? = some (.int 0)) : Met l yX11_brave (WS yX11_brave cX11_brave 6 (some .long)) ({ frames := 3, cells := 0, slots := 0, locals := 69 }) (va_Pc [.ref h0, .int p0, .int p1, .int p2, .int p3, .int p4] (cP D k [(h0, .inr (11, F)), (h1, .inr (6, P))] sz)) (va_Ql (fun (r : Int64) (_ : Unit) => r = (-1)) (fun (_ : Unit) t => cB D (va_A [(h0, .inr (11, F)), (h1, .inr (6, P))] sz) [] t) (va_A [(h0, .inr (11, F)), (h1, .inr (6, P))] sz)) 0 0 (va_A [(h0, .inr (11, F)), (h1, .inr (6, P))] sz) := by
  refine Met.ofW (cc := cX11_brave) (maxL := 6) (ret := (some .long)) (by decide) rfl ?_
  intro p e s m args below meth c s₁ B hml hv
  obtain ⟨rfl, hsz, hP, hKX, hD0⟩ := hv
  have hK := hKX.1
  have hx := B.exec
  have hb := B.bytes
  have hr := B.returns
  have hts := atoms_spec (ws := WS yX11_brave cX11_brave 6 (some .long)) B.pre
  have hgd : ∀ w ∈ gd, w ∈ WS yX11_brave cX11_brave 6 (some .long) := fun w h => List.mem_cons_of_mem _ h
  have hg : ∀ w ∈ gd, w.before _ s = true := fun w h => hts w (hgd w h)
  have hown : s.vm.findClass RX11 = some m.cls := findClass_of_methodNamed B.named
  have hlocks := B.notSynchronized
  subst hsz
  have hD := hD0.self (sz := s.heap.size)
  generalize hAe : va_A [(h0, .inr (11, F)), (h1, .inr (6, P))] s.heap.size = A at hD ⊢
  have hA : ∀ q : Nat, s.heap.size ≤ q → A q := fun q h => by rw [← hAe]; exact Or.inr h
  have hS : va_S A s.heap s.heap [] := va_S.rf
  have hP : va_P D classes [(h0, .inr (11, F)), (h1, .inr (6, P))] s.heap := hP
  have hl := lv_entry ([.ref h0, .int p0, .int p1, .int p2, .int p3, .int p4]) (n := 6) (Nat.le_of_ble_eq_true rfl)
  rw [lg_entry_eq]
  generalize (lg_sl ([.ref h0, .int p0, .int p1, .int p2, .int p3, .int p4]) ++ List.replicate (6 - (lg_sl ([.ref h0, .int p0, .int p1, .int p2, .int p3, .int p4])).length) Slot.unset).toArray = ls at hl ⊢
  have hl : lv_has ls 6 [(0, .ref h0), (1, .int p0), (2, .int p1), (3, .int p2), (4, .int p3), (5, .int p4)] := hl
  refine lv_aload_n hx hb dX11_brave_0 rfl (lv_at hl 0 rfl) ?_
  refine lv_iload_n hx hb dX11_brave_1 rfl (lv_at hl 1 rfl) ?_
  refine lv_iload_n hx hb dX11_brave_2 rfl (lv_at hl 2 rfl) ?_
  refine lv_iload_n hx hb dX11_brave_3 rfl (lv_at hl 3 rfl) ?_
  refine lv_iload hx hb dX11_brave_4 (lv_at hl 4 rfl) ?_
  refine lv_iload hx hb dX11_brave_6 (lv_at hl 5 rfl) ?_
  have hPc := hP.sub (ws' := [(h0, .inr (11, F)), (h1, .inr (6, P))]) [0, 1] rfl
  have hDc := hD.sub (ws' := [(h0, .inr (11, F)), (h1, .inr (6, P))]) [0, 1] (by decide) rfl
  have hFc := va_free (wc := [(h0, .inr (11, F)), (h1, .inr (6, P))]) hD hS hA [0, 1] rfl
  refine va_calli (va_runV (As := [.int p0, .int p1, .int p2, .int p3, .int p4]) (rest := []) ⟨hx, hb, hml, hown, hts⟩ (c_X11_canBeBrave l D k s.heap.size h0 h1 F P p0 p1 p2 p3 p4 g_F_paving g_P_walkers) (cwV 5 hts (gd_V hgd m1117 m1119 m38 m117 m1120) rfl rfl rfl (by decide +kernel) ⟨Nat.le_of_ble_eq_true rfl, Nat.le_of_ble_eq_true rfl⟩) (cP_V hPc hKX hDc (ci := 11) (q0 := 0) rfl rfl) rfl rfl hl.1 rfl (lv_room (Nat.le_of_ble_eq_true rfl)) dX11_brave_8 ⟨Nat.le_of_ble_eq_true rfl, Nat.le_of_ble_eq_true rfl⟩) hS (fun q _ h => hFc q h) hFc (fun r_1 u t H1 locs ht hvm hw hB hz1 hk1 hS => ?_)
  obtain ⟨hP1, hD1⟩ := hB
  rw [ht] at hP1
  obtain ⟨hP, hD⟩ := va_join (wr := []) (w1 := [(h0, .inr (11, F)), (h1, .inr (6, P))]) hP hD [0, 1] [] rfl rfl (by decide) (by decide) hk1 hFc hP1 hD1
  generalize H1 = H at hP hS ⊢
  have hP : va_P D classes [(h0, .inr (11, F)), (h1, .inr (6, P))] H := hP
  have hD : va_D A [(h0, .inr (11, F)), (h1, .inr (6, P))] := hD
  refine W.widen (k := 0) (n := 0) (Nat.le_of_ble_eq_true rfl) (Nat.le_of_ble_eq_true rfl) ?_
  subst hw
  refine lv_if_ne (tgt := 18) hx hb dX11_brave_11 (by decide) (fun c_2 => ?_) (fun c_2 => ?_)
  · exact absurd (by decide) c_2
  · have c_2 : (0 : Int32) = 0 := c_2
    refine lv_ldc2 (v := (-1)) hx hb hown (hg (Cond.constantLong RX11 165 (-1)) m1018) dX11_brave_14 ?_
    have hP9 := hP.sub (ws' := []) [] rfl
    have hD9 := hD.sub (ws' := []) [] (by decide) rfl
    exact W.lret (v := (-1)) hx hb hr (fun t ht hW => ⟨⟨(-1), (), rfl, rfl, cB_of ht hP9 hD9⟩, hS.F ht⟩) hS.2.2 dX11_brave_17

set_option maxHeartbeats 4000000 in
set_option maxRecDepth 100000 in
theorem c_X11_boldest (l : Launch) (D : va_G) (k : ClassId × ClassId × ClassId × ClassId) (sz : Nat) (h0 h1 : Nat) (F P : List Value) (p0 p1 p2 p3 p4 : Int32) (g_F_paving : F[0]? = some (.ref h1)) (g_P_walkers : P[10]? = some (.int 0)) : Met l yX11_boldest (WS yX11_boldest cX11_boldest 6 (some .int)) ({ frames := 3, cells := 0, slots := 0, locals := 69 }) (va_Pc [.ref h0, .int p0, .int p1, .int p2, .int p3, .int p4] (cP D k [(h0, .inr (11, F)), (h1, .inr (6, P))] sz)) (va_Qi (fun (r : Int32) (_ : Unit) => r = (-1)) (fun (_ : Unit) t => cB D (va_A [(h0, .inr (11, F)), (h1, .inr (6, P))] sz) [] t) (va_A [(h0, .inr (11, F)), (h1, .inr (6, P))] sz)) 0 0 (va_A [(h0, .inr (11, F)), (h1, .inr (6, P))] sz) := by
  refine Met.ofW (cc := cX11_boldest) (maxL := 6) (ret := (some .int)) (by decide) rfl ?_
  intro p e s m args below meth c s₁ B hml hv
  obtain ⟨rfl, hsz, hP, hKX, hD0⟩ := hv
  have hK := hKX.1
  have hx := B.exec
  have hb := B.bytes
  have hr := B.returns
  have hts := atoms_spec (ws := WS yX11_boldest cX11_boldest 6 (some .int)) B.pre
  have hgd : ∀ w ∈ gd, w ∈ WS yX11_boldest cX11_boldest 6 (some .int) := fun w h => List.mem_cons_of_mem _ h
  have hg : ∀ w ∈ gd, w.before _ s = true := fun w h => hts w (hgd w h)
  have hown : s.vm.findClass RX11 = some m.cls := findClass_of_methodNamed B.named
  have hlocks := B.notSynchronized
  subst hsz
  have hD := hD0.self (sz := s.heap.size)
  generalize hAe : va_A [(h0, .inr (11, F)), (h1, .inr (6, P))] s.heap.size = A at hD ⊢
  have hA : ∀ q : Nat, s.heap.size ≤ q → A q := fun q h => by rw [← hAe]; exact Or.inr h
  have hS : va_S A s.heap s.heap [] := va_S.rf
  have hP : va_P D classes [(h0, .inr (11, F)), (h1, .inr (6, P))] s.heap := hP
  have hl := lv_entry ([.ref h0, .int p0, .int p1, .int p2, .int p3, .int p4]) (n := 6) (Nat.le_of_ble_eq_true rfl)
  rw [lg_entry_eq]
  generalize (lg_sl ([.ref h0, .int p0, .int p1, .int p2, .int p3, .int p4]) ++ List.replicate (6 - (lg_sl ([.ref h0, .int p0, .int p1, .int p2, .int p3, .int p4])).length) Slot.unset).toArray = ls at hl ⊢
  have hl : lv_has ls 6 [(0, .ref h0), (1, .int p0), (2, .int p1), (3, .int p2), (4, .int p3), (5, .int p4)] := hl
  refine lv_aload_n hx hb dX11_boldest_0 rfl (lv_at hl 0 rfl) ?_
  refine lv_iload_n hx hb dX11_boldest_1 rfl (lv_at hl 1 rfl) ?_
  refine lv_iload_n hx hb dX11_boldest_2 rfl (lv_at hl 2 rfl) ?_
  refine lv_iload_n hx hb dX11_boldest_3 rfl (lv_at hl 3 rfl) ?_
  refine lv_iload hx hb dX11_boldest_4 (lv_at hl 4 rfl) ?_
  refine lv_iload hx hb dX11_boldest_6 (lv_at hl 5 rfl) ?_
  have hPc := hP.sub (ws' := [(h0, .inr (11, F)), (h1, .inr (6, P))]) [0, 1] rfl
  have hDc := hD.sub (ws' := [(h0, .inr (11, F)), (h1, .inr (6, P))]) [0, 1] (by decide) rfl
  have hFc := va_free (wc := [(h0, .inr (11, F)), (h1, .inr (6, P))]) hD hS hA [0, 1] rfl
  refine va_calli (va_runV (As := [.int p0, .int p1, .int p2, .int p3, .int p4]) (rest := []) ⟨hx, hb, hml, hown, hts⟩ (c_X11_canBeBrave l D k s.heap.size h0 h1 F P p0 p1 p2 p3 p4 g_F_paving g_P_walkers) (cwV 5 hts (gd_V hgd m1117 m1119 m38 m117 m1120) rfl rfl rfl (by decide +kernel) ⟨Nat.le_of_ble_eq_true rfl, Nat.le_of_ble_eq_true rfl⟩) (cP_V hPc hKX hDc (ci := 11) (q0 := 0) rfl rfl) rfl rfl hl.1 rfl (lv_room (Nat.le_of_ble_eq_true rfl)) dX11_boldest_8 ⟨Nat.le_of_ble_eq_true rfl, Nat.le_of_ble_eq_true rfl⟩) hS (fun q _ h => hFc q h) hFc (fun r_1 u t H1 locs ht hvm hw hB hz1 hk1 hS => ?_)
  obtain ⟨hP1, hD1⟩ := hB
  rw [ht] at hP1
  obtain ⟨hP, hD⟩ := va_join (wr := []) (w1 := [(h0, .inr (11, F)), (h1, .inr (6, P))]) hP hD [0, 1] [] rfl rfl (by decide) (by decide) hk1 hFc hP1 hD1
  generalize H1 = H at hP hS ⊢
  have hP : va_P D classes [(h0, .inr (11, F)), (h1, .inr (6, P))] H := hP
  have hD : va_D A [(h0, .inr (11, F)), (h1, .inr (6, P))] := hD
  refine W.widen (k := 0) (n := 0) (Nat.le_of_ble_eq_true rfl) (Nat.le_of_ble_eq_true rfl) ?_
  subst hw
  refine lv_if_ne (tgt := 16) hx hb dX11_boldest_11 (by decide) (fun c_2 => ?_) (fun c_2 => ?_)
  · exact absurd (by decide) c_2
  · have c_2 : (0 : Int32) = 0 := c_2
    refine lv_iconst (v := (-1)) hx hb dX11_boldest_14 (by decide) ?_
    have hP9 := hP.sub (ws' := []) [] rfl
    have hD9 := hD.sub (ws' := []) [] (by decide) rfl
    exact W.iret (v := (-1)) hx hb hr (fun t ht hW => ⟨⟨(-1), (), rfl, rfl, cB_of ht hP9 hD9⟩, hS.F ht⟩) hS.2.2 dX11_boldest_15

set_option maxHeartbeats 4000000 in
set_option maxRecDepth 100000 in
theorem c_X11_wager (l : Launch) (D : va_G) (k : ClassId × ClassId × ClassId × ClassId) (sz : Nat) (h0 h1 : Nat) (F P : List Value) (p0 p1 p2 p3 : Int32) (g_F_paving : F[0]? = some (.ref h1)) (g_P_walkers : P[10]? = some (.int 0)) : Met l yX11_wager (WS yX11_wager cX11_wager 6 (some .int)) ({ frames := 2, cells := 0, slots := 0, locals := 44 }) (va_Pc [.ref h0, .int p0, .int p1, .int p2, .int p3] (cP D k [(h0, .inr (11, F)), (h1, .inr (6, P))] sz)) (va_Qi (fun (r : Int32) (_ : Unit) => r = (-1)) (fun (_ : Unit) t => cB D (va_A [(h0, .inr (11, F)), (h1, .inr (6, P))] sz) [] t) (va_A [(h0, .inr (11, F)), (h1, .inr (6, P))] sz)) 0 0 (va_A [(h0, .inr (11, F)), (h1, .inr (6, P))] sz) := by
  refine Met.ofW (cc := cX11_wager) (maxL := 6) (ret := (some .int)) (by decide) rfl ?_
  intro p e s m args below meth c s₁ B hml hv
  obtain ⟨rfl, hsz, hP, hKX, hD0⟩ := hv
  have hK := hKX.1
  have hx := B.exec
  have hb := B.bytes
  have hr := B.returns
  have hts := atoms_spec (ws := WS yX11_wager cX11_wager 6 (some .int)) B.pre
  have hgd : ∀ w ∈ gd, w ∈ WS yX11_wager cX11_wager 6 (some .int) := fun w h => List.mem_cons_of_mem _ h
  have hg : ∀ w ∈ gd, w.before _ s = true := fun w h => hts w (hgd w h)
  have hown : s.vm.findClass RX11 = some m.cls := findClass_of_methodNamed B.named
  have hlocks := B.notSynchronized
  subst hsz
  have hD := hD0.self (sz := s.heap.size)
  generalize hAe : va_A [(h0, .inr (11, F)), (h1, .inr (6, P))] s.heap.size = A at hD ⊢
  have hA : ∀ q : Nat, s.heap.size ≤ q → A q := fun q h => by rw [← hAe]; exact Or.inr h
  have hS : va_S A s.heap s.heap [] := va_S.rf
  have hP : va_P D classes [(h0, .inr (11, F)), (h1, .inr (6, P))] s.heap := hP
  have hl := lv_entry ([.ref h0, .int p0, .int p1, .int p2, .int p3]) (n := 6) (Nat.le_of_ble_eq_true rfl)
  rw [lg_entry_eq]
  generalize (lg_sl ([.ref h0, .int p0, .int p1, .int p2, .int p3]) ++ List.replicate (6 - (lg_sl ([.ref h0, .int p0, .int p1, .int p2, .int p3])).length) Slot.unset).toArray = ls at hl ⊢
  have hl : lv_has ls 6 [(0, .ref h0), (1, .int p0), (2, .int p1), (3, .int p2), (4, .int p3)] := hl
  refine lv_aload_n hx hb dX11_wager_0 rfl (lv_at hl 0 rfl) ?_
  refine lv_iload_n hx hb dX11_wager_1 rfl (lv_at hl 1 rfl) ?_
  refine lv_iload_n hx hb dX11_wager_2 rfl (lv_at hl 2 rfl) ?_
  refine lv_iload_n hx hb dX11_wager_3 rfl (lv_at hl 3 rfl) ?_
  have hPc := hP.sub (ws' := [(h0, .inr (11, F)), (h1, .inr (6, P))]) [0, 1] rfl
  have hDc := hD.sub (ws' := [(h0, .inr (11, F)), (h1, .inr (6, P))]) [0, 1] (by decide) rfl
  have hFc := va_free (wc := [(h0, .inr (11, F)), (h1, .inr (6, P))]) hD hS hA [0, 1] rfl
  refine va_calli (va_runV (As := [.int p0, .int p1, .int p2]) (rest := []) ⟨hx, hb, hml, hown, hts⟩ (c_X11_canAsk l D k s.heap.size h0 h1 F P p0 p1 p2 g_F_paving g_P_walkers) (cwV 3 hts (gd_V hgd m953 m955 m31 m117 m956) rfl rfl rfl (by decide +kernel) ⟨Nat.le_of_ble_eq_true rfl, Nat.le_of_ble_eq_true rfl⟩) (cP_V hPc hKX hDc (ci := 11) (q0 := 0) rfl rfl) rfl rfl hl.1 rfl (lv_room (Nat.le_of_ble_eq_true rfl)) dX11_wager_4 ⟨Nat.le_of_ble_eq_true rfl, Nat.le_of_ble_eq_true rfl⟩) hS (fun q _ h => hFc q h) hFc (fun r_1 u t H1 locs ht hvm hw hB hz1 hk1 hS => ?_)
  obtain ⟨hP1, hD1⟩ := hB
  rw [ht] at hP1
  obtain ⟨hP, hD⟩ := va_join (wr := []) (w1 := [(h0, .inr (11, F)), (h1, .inr (6, P))]) hP hD [0, 1] [] rfl rfl (by decide) (by decide) hk1 hFc hP1 hD1
  generalize H1 = H at hP hS ⊢
  have hP : va_P D classes [(h0, .inr (11, F)), (h1, .inr (6, P))] H := hP
  have hD : va_D A [(h0, .inr (11, F)), (h1, .inr (6, P))] := hD
  refine W.widen (k := 0) (n := 0) (Nat.le_of_ble_eq_true rfl) (Nat.le_of_ble_eq_true rfl) ?_
  subst hw
  refine lv_if_eq (tgt := 21) hx hb dX11_wager_7 (by decide) (fun c_2 => ?_) (fun c_2 => ?_)
  · have c_2 : (0 : Int32) = 0 := c_2
    refine lv_iconst (v := (-1)) hx hb dX11_wager_21 (by decide) ?_
    have hP9 := hP.sub (ws' := []) [] rfl
    have hD9 := hD.sub (ws' := []) [] (by decide) rfl
    exact W.iret (v := (-1)) hx hb hr (fun t ht hW => ⟨⟨(-1), (), rfl, rfl, cB_of ht hP9 hD9⟩, hS.F ht⟩) hS.2.2 dX11_wager_22
  · exact absurd (by decide) c_2

set_option maxHeartbeats 4000000 in
set_option maxRecDepth 100000 in
theorem c_X11_leave (l : Launch) (D : va_G) (k : ClassId × ClassId × ClassId × ClassId) (sz : Nat) (h0 h1 : Nat) (F P : List Value) (p0 p1 : Int32) (g_F_paving : F[0]? = some (.ref h1)) (g_P_walkers : P[10]? = some (.int 0)) : Met l yX11_leave (WS yX11_leave cX11_leave 5 (some .int)) ({ frames := 2, cells := 0, slots := 0, locals := 44 }) (va_Pc [.ref h0, .int p0, .int p1] (cP D k [(h0, .inr (11, F)), (h1, .inr (6, P))] sz)) (va_Qi (fun (r : Int32) (_ : Unit) => r = (-1)) (fun (_ : Unit) t => cB D (va_A [(h0, .inr (11, F)), (h1, .inr (6, P))] sz) [] t) (va_A [(h0, .inr (11, F)), (h1, .inr (6, P))] sz)) 0 0 (va_A [(h0, .inr (11, F)), (h1, .inr (6, P))] sz) := by
  refine Met.ofW (cc := cX11_leave) (maxL := 5) (ret := (some .int)) (by decide) rfl ?_
  intro p e s m args below meth c s₁ B hml hv
  obtain ⟨rfl, hsz, hP, hKX, hD0⟩ := hv
  have hK := hKX.1
  have hx := B.exec
  have hb := B.bytes
  have hr := B.returns
  have hts := atoms_spec (ws := WS yX11_leave cX11_leave 5 (some .int)) B.pre
  have hgd : ∀ w ∈ gd, w ∈ WS yX11_leave cX11_leave 5 (some .int) := fun w h => List.mem_cons_of_mem _ h
  have hg : ∀ w ∈ gd, w.before _ s = true := fun w h => hts w (hgd w h)
  have hown : s.vm.findClass RX11 = some m.cls := findClass_of_methodNamed B.named
  have hlocks := B.notSynchronized
  subst hsz
  have hD := hD0.self (sz := s.heap.size)
  generalize hAe : va_A [(h0, .inr (11, F)), (h1, .inr (6, P))] s.heap.size = A at hD ⊢
  have hA : ∀ q : Nat, s.heap.size ≤ q → A q := fun q h => by rw [← hAe]; exact Or.inr h
  have hS : va_S A s.heap s.heap [] := va_S.rf
  have hP : va_P D classes [(h0, .inr (11, F)), (h1, .inr (6, P))] s.heap := hP
  have hl := lv_entry ([.ref h0, .int p0, .int p1]) (n := 5) (Nat.le_of_ble_eq_true rfl)
  rw [lg_entry_eq]
  generalize (lg_sl ([.ref h0, .int p0, .int p1]) ++ List.replicate (5 - (lg_sl ([.ref h0, .int p0, .int p1])).length) Slot.unset).toArray = ls at hl ⊢
  have hl : lv_has ls 5 [(0, .ref h0), (1, .int p0), (2, .int p1)] := hl
  refine lv_aload_n hx hb dX11_leave_0 rfl (lv_at hl 0 rfl) ?_
  refine lv_iload_n hx hb dX11_leave_1 rfl (lv_at hl 1 rfl) ?_
  refine lv_iload_n hx hb dX11_leave_2 rfl (lv_at hl 2 rfl) ?_
  refine lv_iconst (v := 0) hx hb dX11_leave_3 (by decide) ?_
  have hPc := hP.sub (ws' := [(h0, .inr (11, F)), (h1, .inr (6, P))]) [0, 1] rfl
  have hDc := hD.sub (ws' := [(h0, .inr (11, F)), (h1, .inr (6, P))]) [0, 1] (by decide) rfl
  have hFc := va_free (wc := [(h0, .inr (11, F)), (h1, .inr (6, P))]) hD hS hA [0, 1] rfl
  refine va_calli (va_runV (As := [.int p0, .int p1, .int 0]) (rest := []) ⟨hx, hb, hml, hown, hts⟩ (c_X11_canAsk l D k s.heap.size h0 h1 F P p0 p1 0 g_F_paving g_P_walkers) (cwV 3 hts (gd_V hgd m953 m955 m31 m117 m956) rfl rfl rfl (by decide +kernel) ⟨Nat.le_of_ble_eq_true rfl, Nat.le_of_ble_eq_true rfl⟩) (cP_V hPc hKX hDc (ci := 11) (q0 := 0) rfl rfl) rfl rfl hl.1 rfl (lv_room (Nat.le_of_ble_eq_true rfl)) dX11_leave_4 ⟨Nat.le_of_ble_eq_true rfl, Nat.le_of_ble_eq_true rfl⟩) hS (fun q _ h => hFc q h) hFc (fun r_1 u t H1 locs ht hvm hw hB hz1 hk1 hS => ?_)
  obtain ⟨hP1, hD1⟩ := hB
  rw [ht] at hP1
  obtain ⟨hP, hD⟩ := va_join (wr := []) (w1 := [(h0, .inr (11, F)), (h1, .inr (6, P))]) hP hD [0, 1] [] rfl rfl (by decide) (by decide) hk1 hFc hP1 hD1
  generalize H1 = H at hP hS ⊢
  have hP : va_P D classes [(h0, .inr (11, F)), (h1, .inr (6, P))] H := hP
  have hD : va_D A [(h0, .inr (11, F)), (h1, .inr (6, P))] := hD
  refine W.widen (k := 0) (n := 0) (Nat.le_of_ble_eq_true rfl) (Nat.le_of_ble_eq_true rfl) ?_
  subst hw
  refine lv_if_ne (tgt := 12) hx hb dX11_leave_7 (by decide) (fun c_2 => ?_) (fun c_2 => ?_)
  · exact absurd (by decide) c_2
  · have c_2 : (0 : Int32) = 0 := c_2
    refine lv_iconst (v := (-1)) hx hb dX11_leave_10 (by decide) ?_
    have hP9 := hP.sub (ws' := []) [] rfl
    have hD9 := hD.sub (ws' := []) [] (by decide) rfl
    exact W.iret (v := (-1)) hx hb hr (fun t ht hW => ⟨⟨(-1), (), rfl, rfl, cB_of ht hP9 hD9⟩, hS.F ht⟩) hS.2.2 dX11_leave_11

set_option maxHeartbeats 4000000 in
set_option maxRecDepth 100000 in
theorem c_X11_walk (l : Launch) (D : va_G) (k : ClassId × ClassId × ClassId × ClassId) (sz : Nat) (h0 h1 : Nat) (F P : List Value) (p0 p1 p2 : Int32) (g_F_paving : F[0]? = some (.ref h1)) (g_P_walkers : P[10]? = some (.int 0)) : Met l yX11_walk (WS yX11_walk cX11_walk 4 (some .int)) ({ frames := 2, cells := 0, slots := 0, locals := 44 }) (va_Pc [.ref h0, .int p0, .int p1, .int p2] (cP D k [(h0, .inr (11, F)), (h1, .inr (6, P))] sz)) (va_Qi (fun (r : Int32) (_ : Unit) => r = (-1)) (fun (_ : Unit) t => cB D (va_A [(h0, .inr (11, F)), (h1, .inr (6, P))] sz) [] t) (va_A [(h0, .inr (11, F)), (h1, .inr (6, P))] sz)) 0 0 (va_A [(h0, .inr (11, F)), (h1, .inr (6, P))] sz) := by
  refine Met.ofW (cc := cX11_walk) (maxL := 4) (ret := (some .int)) (by decide) rfl ?_
  intro p e s m args below meth c s₁ B hml hv
  obtain ⟨rfl, hsz, hP, hKX, hD0⟩ := hv
  have hK := hKX.1
  have hx := B.exec
  have hb := B.bytes
  have hr := B.returns
  have hts := atoms_spec (ws := WS yX11_walk cX11_walk 4 (some .int)) B.pre
  have hgd : ∀ w ∈ gd, w ∈ WS yX11_walk cX11_walk 4 (some .int) := fun w h => List.mem_cons_of_mem _ h
  have hg : ∀ w ∈ gd, w.before _ s = true := fun w h => hts w (hgd w h)
  have hown : s.vm.findClass RX11 = some m.cls := findClass_of_methodNamed B.named
  have hlocks := B.notSynchronized
  subst hsz
  have hD := hD0.self (sz := s.heap.size)
  generalize hAe : va_A [(h0, .inr (11, F)), (h1, .inr (6, P))] s.heap.size = A at hD ⊢
  have hA : ∀ q : Nat, s.heap.size ≤ q → A q := fun q h => by rw [← hAe]; exact Or.inr h
  have hS : va_S A s.heap s.heap [] := va_S.rf
  have hP : va_P D classes [(h0, .inr (11, F)), (h1, .inr (6, P))] s.heap := hP
  have hl := lv_entry ([.ref h0, .int p0, .int p1, .int p2]) (n := 4) (Nat.le_of_ble_eq_true rfl)
  rw [lg_entry_eq]
  generalize (lg_sl ([.ref h0, .int p0, .int p1, .int p2]) ++ List.replicate (4 - (lg_sl ([.ref h0, .int p0, .int p1, .int p2])).length) Slot.unset).toArray = ls at hl ⊢
  have hl : lv_has ls 4 [(0, .ref h0), (1, .int p0), (2, .int p1), (3, .int p2)] := hl
  refine lv_aload_n hx hb dX11_walk_0 rfl (lv_at hl 0 rfl) ?_
  refine va_get (D := D) (ci := 11) (v := .ref h1) (C := RX11) (T := TX11) (N := 13) hx hb hg iX11 hown hK hP 0 rfl rfl 0 (by decide) (hg (Cond.fieldLink RX11 10 "SlabWalk" "paving" "LSlabWalk$Paving;") m570) (fun _ h9 => h9) g_F_paving dX11_walk_1 ?_
  refine lv_iload_n hx hb dX11_walk_4 rfl (lv_at hl 1 rfl) ?_
  refine lv_iload_n hx hb dX11_walk_5 rfl (lv_at hl 2 rfl) ?_
  refine lv_iload_n hx hb dX11_walk_6 rfl (lv_at hl 3 rfl) ?_
  have hPc := hP.sub (ws' := [(h1, .inr (6, P))]) [1] rfl
  have hDc := hD.sub (ws' := [(h1, .inr (6, P))]) [1] (by decide) rfl
  have hFc := va_free (wc := [(h1, .inr (6, P))]) hD hS hA [1] rfl
  refine va_calli (va_runV (As := [.int p0, .int p1, .int p2]) (rest := []) ⟨hx, hb, hml, hown, hts⟩ (c_stands l D k s.heap.size h1 P p0 p1 p2 g_P_walkers) (cwV 3 hts (gd_V hgd m1121 m966 m967 m118 m968) rfl rfl rfl (by decide +kernel) ⟨Nat.le_of_ble_eq_true rfl, Nat.le_of_ble_eq_true rfl⟩) (cP_V hPc hKX hDc (ci := 6) (q0 := 0) rfl rfl) rfl rfl hl.1 rfl (lv_room (Nat.le_of_ble_eq_true rfl)) dX11_walk_7 ⟨Nat.le_of_ble_eq_true rfl, Nat.le_of_ble_eq_true rfl⟩) hS (fun q _ h => hFc q h) hFc (fun r_1 u t H1 locs ht hvm hw hB hz1 hk1 hS => ?_)
  obtain ⟨hP1, hD1⟩ := hB
  rw [ht] at hP1
  obtain ⟨hP, hD⟩ := va_join (wr := [(h0, .inr (11, F))]) (w1 := [(h1, .inr (6, P))]) hP hD [1] [0] rfl rfl (by decide) (by decide) hk1 hFc hP1 hD1
  generalize H1 = H at hP hS ⊢
  have hP : va_P D classes [(h0, .inr (11, F)), (h1, .inr (6, P))] H := hP
  have hD : va_D A [(h0, .inr (11, F)), (h1, .inr (6, P))] := hD
  refine W.widen (k := 0) (n := 0) (Nat.le_of_ble_eq_true rfl) (Nat.le_of_ble_eq_true rfl) ?_
  subst hw
  refine lv_if_eq (tgt := 26) hx hb dX11_walk_10 (by decide) (fun c_2 => ?_) (fun c_2 => ?_)
  · have c_2 : (0 : Int32) = 0 := c_2
    refine lv_iconst (v := (-1)) hx hb dX11_walk_26 (by decide) ?_
    have hP9 := hP.sub (ws' := []) [] rfl
    have hD9 := hD.sub (ws' := []) [] (by decide) rfl
    exact W.iret (v := (-1)) hx hb hr (fun t ht hW => ⟨⟨(-1), (), rfl, rfl, cB_of ht hP9 hD9⟩, hS.F ht⟩) hS.2.2 dX11_walk_27
  · exact absurd (by decide) c_2

set_option maxHeartbeats 4000000 in
set_option maxRecDepth 100000 in
theorem c_X11_sight (l : Launch) (D : va_G) (k : ClassId × ClassId × ClassId × ClassId) (sz : Nat) (h0 h1 : Nat) (F P : List Value) (p0 p1 p2 : Int32) (g_F_paving : F[0]? = some (.ref h1)) (g_P_walkers : P[10]? = some (.int 0)) : Met l yX11_sight (WS yX11_sight cX11_sight 4 (some .int)) ({ frames := 2, cells := 0, slots := 0, locals := 44 }) (va_Pc [.ref h0, .int p0, .int p1, .int p2] (cP D k [(h0, .inr (11, F)), (h1, .inr (6, P))] sz)) (va_Qi (fun (r : Int32) (_ : Unit) => r = (-1)) (fun (_ : Unit) t => cB D (va_A [(h0, .inr (11, F)), (h1, .inr (6, P))] sz) [] t) (va_A [(h0, .inr (11, F)), (h1, .inr (6, P))] sz)) 0 0 (va_A [(h0, .inr (11, F)), (h1, .inr (6, P))] sz) := by
  refine Met.ofW (cc := cX11_sight) (maxL := 4) (ret := (some .int)) (by decide) rfl ?_
  intro p e s m args below meth c s₁ B hml hv
  obtain ⟨rfl, hsz, hP, hKX, hD0⟩ := hv
  have hK := hKX.1
  have hx := B.exec
  have hb := B.bytes
  have hr := B.returns
  have hts := atoms_spec (ws := WS yX11_sight cX11_sight 4 (some .int)) B.pre
  have hgd : ∀ w ∈ gd, w ∈ WS yX11_sight cX11_sight 4 (some .int) := fun w h => List.mem_cons_of_mem _ h
  have hg : ∀ w ∈ gd, w.before _ s = true := fun w h => hts w (hgd w h)
  have hown : s.vm.findClass RX11 = some m.cls := findClass_of_methodNamed B.named
  have hlocks := B.notSynchronized
  subst hsz
  have hD := hD0.self (sz := s.heap.size)
  generalize hAe : va_A [(h0, .inr (11, F)), (h1, .inr (6, P))] s.heap.size = A at hD ⊢
  have hA : ∀ q : Nat, s.heap.size ≤ q → A q := fun q h => by rw [← hAe]; exact Or.inr h
  have hS : va_S A s.heap s.heap [] := va_S.rf
  have hP : va_P D classes [(h0, .inr (11, F)), (h1, .inr (6, P))] s.heap := hP
  have hl := lv_entry ([.ref h0, .int p0, .int p1, .int p2]) (n := 4) (Nat.le_of_ble_eq_true rfl)
  rw [lg_entry_eq]
  generalize (lg_sl ([.ref h0, .int p0, .int p1, .int p2]) ++ List.replicate (4 - (lg_sl ([.ref h0, .int p0, .int p1, .int p2])).length) Slot.unset).toArray = ls at hl ⊢
  have hl : lv_has ls 4 [(0, .ref h0), (1, .int p0), (2, .int p1), (3, .int p2)] := hl
  refine lv_aload_n hx hb dX11_sight_0 rfl (lv_at hl 0 rfl) ?_
  refine va_get (D := D) (ci := 11) (v := .ref h1) (C := RX11) (T := TX11) (N := 13) hx hb hg iX11 hown hK hP 0 rfl rfl 0 (by decide) (hg (Cond.fieldLink RX11 10 "SlabWalk" "paving" "LSlabWalk$Paving;") m570) (fun _ h9 => h9) g_F_paving dX11_sight_1 ?_
  refine lv_iload_n hx hb dX11_sight_4 rfl (lv_at hl 1 rfl) ?_
  refine lv_iload_n hx hb dX11_sight_5 rfl (lv_at hl 2 rfl) ?_
  refine lv_iload_n hx hb dX11_sight_6 rfl (lv_at hl 3 rfl) ?_
  have hPc := hP.sub (ws' := [(h1, .inr (6, P))]) [1] rfl
  have hDc := hD.sub (ws' := [(h1, .inr (6, P))]) [1] (by decide) rfl
  have hFc := va_free (wc := [(h1, .inr (6, P))]) hD hS hA [1] rfl
  refine va_calli (va_runV (As := [.int p0, .int p1, .int p2]) (rest := []) ⟨hx, hb, hml, hown, hts⟩ (c_stands l D k s.heap.size h1 P p0 p1 p2 g_P_walkers) (cwV 3 hts (gd_V hgd m1121 m966 m967 m118 m968) rfl rfl rfl (by decide +kernel) ⟨Nat.le_of_ble_eq_true rfl, Nat.le_of_ble_eq_true rfl⟩) (cP_V hPc hKX hDc (ci := 6) (q0 := 0) rfl rfl) rfl rfl hl.1 rfl (lv_room (Nat.le_of_ble_eq_true rfl)) dX11_sight_7 ⟨Nat.le_of_ble_eq_true rfl, Nat.le_of_ble_eq_true rfl⟩) hS (fun q _ h => hFc q h) hFc (fun r_1 u t H1 locs ht hvm hw hB hz1 hk1 hS => ?_)
  obtain ⟨hP1, hD1⟩ := hB
  rw [ht] at hP1
  obtain ⟨hP, hD⟩ := va_join (wr := [(h0, .inr (11, F))]) (w1 := [(h1, .inr (6, P))]) hP hD [1] [0] rfl rfl (by decide) (by decide) hk1 hFc hP1 hD1
  generalize H1 = H at hP hS ⊢
  have hP : va_P D classes [(h0, .inr (11, F)), (h1, .inr (6, P))] H := hP
  have hD : va_D A [(h0, .inr (11, F)), (h1, .inr (6, P))] := hD
  refine W.widen (k := 0) (n := 0) (Nat.le_of_ble_eq_true rfl) (Nat.le_of_ble_eq_true rfl) ?_
  subst hw
  refine lv_if_eq (tgt := 26) hx hb dX11_sight_10 (by decide) (fun c_2 => ?_) (fun c_2 => ?_)
  · have c_2 : (0 : Int32) = 0 := c_2
    refine lv_iconst (v := (-1)) hx hb dX11_sight_26 (by decide) ?_
    have hP9 := hP.sub (ws' := []) [] rfl
    have hD9 := hD.sub (ws' := []) [] (by decide) rfl
    exact W.iret (v := (-1)) hx hb hr (fun t ht hW => ⟨⟨(-1), (), rfl, rfl, cB_of ht hP9 hD9⟩, hS.F ht⟩) hS.2.2 dX11_sight_27
  · exact absurd (by decide) c_2

set_option maxHeartbeats 4000000 in
set_option maxRecDepth 100000 in
theorem c_X11_force (l : Launch) (D : va_G) (k : ClassId × ClassId × ClassId × ClassId) (sz : Nat) (h0 h1 : Nat) (F P : List Value) (p0 : Int32) (g_F_paving : F[0]? = some (.ref h1)) (g_P_rules : P[11]? = some (.int 0)) : Met l yX11_force (WS yX11_force cX11_force 2 (some .int)) ({ frames := 1, cells := 0, slots := 0, locals := 21 }) (va_Pc [.ref h0, .int p0] (cP D k [(h0, .inr (11, F)), (h1, .inr (6, P))] sz)) (va_Qi (fun (r : Int32) (_ : Unit) => r = (-1)) (fun (_ : Unit) t => cB D (va_A [(h0, .inr (11, F)), (h1, .inr (6, P))] sz) [] t) (va_A [(h0, .inr (11, F)), (h1, .inr (6, P))] sz)) 0 0 (va_A [(h0, .inr (11, F)), (h1, .inr (6, P))] sz) := by
  refine Met.ofW (cc := cX11_force) (maxL := 2) (ret := (some .int)) (by decide) rfl ?_
  intro p e s m args below meth c s₁ B hml hv
  obtain ⟨rfl, hsz, hP, hKX, hD0⟩ := hv
  have hK := hKX.1
  have hx := B.exec
  have hb := B.bytes
  have hr := B.returns
  have hts := atoms_spec (ws := WS yX11_force cX11_force 2 (some .int)) B.pre
  have hgd : ∀ w ∈ gd, w ∈ WS yX11_force cX11_force 2 (some .int) := fun w h => List.mem_cons_of_mem _ h
  have hg : ∀ w ∈ gd, w.before _ s = true := fun w h => hts w (hgd w h)
  have hown : s.vm.findClass RX11 = some m.cls := findClass_of_methodNamed B.named
  have hlocks := B.notSynchronized
  subst hsz
  have hD := hD0.self (sz := s.heap.size)
  generalize hAe : va_A [(h0, .inr (11, F)), (h1, .inr (6, P))] s.heap.size = A at hD ⊢
  have hA : ∀ q : Nat, s.heap.size ≤ q → A q := fun q h => by rw [← hAe]; exact Or.inr h
  have hS : va_S A s.heap s.heap [] := va_S.rf
  have hP : va_P D classes [(h0, .inr (11, F)), (h1, .inr (6, P))] s.heap := hP
  have hl := lv_entry ([.ref h0, .int p0]) (n := 2) (Nat.le_of_ble_eq_true rfl)
  rw [lg_entry_eq]
  generalize (lg_sl ([.ref h0, .int p0]) ++ List.replicate (2 - (lg_sl ([.ref h0, .int p0])).length) Slot.unset).toArray = ls at hl ⊢
  have hl : lv_has ls 2 [(0, .ref h0), (1, .int p0)] := hl
  refine lv_aload_n hx hb dX11_force_0 rfl (lv_at hl 0 rfl) ?_
  refine va_get (D := D) (ci := 11) (v := .ref h1) (C := RX11) (T := TX11) (N := 13) hx hb hg iX11 hown hK hP 0 rfl rfl 0 (by decide) (hg (Cond.fieldLink RX11 10 "SlabWalk" "paving" "LSlabWalk$Paving;") m570) (fun _ h9 => h9) g_F_paving dX11_force_1 ?_
  refine lv_iload_n hx hb dX11_force_4 rfl (lv_at hl 1 rfl) ?_
  have hPc := hP.sub (ws' := [(h1, .inr (6, P))]) [1] rfl
  have hDc := hD.sub (ws' := [(h1, .inr (6, P))]) [1] (by decide) rfl
  have hFc := va_free (wc := [(h1, .inr (6, P))]) hD hS hA [1] rfl
  refine va_calli (va_runV (As := [.int p0]) (rest := []) ⟨hx, hb, hml, hown, hts⟩ (c_hasRule l D k s.heap.size h1 P p0 g_P_rules) (cwV 1 hts (gd_V hgd m1206 m1207 m1208 m118 m1209) rfl rfl rfl (by decide +kernel) ⟨Nat.le_of_ble_eq_true rfl, Nat.le_of_ble_eq_true rfl⟩) (cP_V hPc hKX hDc (ci := 6) (q0 := 0) rfl rfl) rfl rfl hl.1 rfl (lv_room (Nat.le_of_ble_eq_true rfl)) dX11_force_5 ⟨Nat.le_of_ble_eq_true rfl, Nat.le_of_ble_eq_true rfl⟩) hS (fun q _ h => hFc q h) hFc (fun r_1 u t H1 locs ht hvm hw hB hz1 hk1 hS => ?_)
  obtain ⟨hP1, hD1⟩ := hB
  rw [ht] at hP1
  obtain ⟨hP, hD⟩ := va_join (wr := [(h0, .inr (11, F))]) (w1 := [(h1, .inr (6, P))]) hP hD [1] [0] rfl rfl (by decide) (by decide) hk1 hFc hP1 hD1
  generalize H1 = H at hP hS ⊢
  have hP : va_P D classes [(h0, .inr (11, F)), (h1, .inr (6, P))] H := hP
  have hD : va_D A [(h0, .inr (11, F)), (h1, .inr (6, P))] := hD
  refine W.widen (k := 0) (n := 0) (Nat.le_of_ble_eq_true rfl) (Nat.le_of_ble_eq_true rfl) ?_
  subst hw
  refine lv_if_ne (tgt := 13) hx hb dX11_force_8 (by decide) (fun c_2 => ?_) (fun c_2 => ?_)
  · exact absurd (by decide) c_2
  · have c_2 : (0 : Int32) = 0 := c_2
    refine lv_iconst (v := (-1)) hx hb dX11_force_11 (by decide) ?_
    have hP9 := hP.sub (ws' := []) [] rfl
    have hD9 := hD.sub (ws' := []) [] (by decide) rfl
    exact W.iret (v := (-1)) hx hb hr (fun t ht hW => ⟨⟨(-1), (), rfl, rfl, cB_of ht hP9 hD9⟩, hS.F ht⟩) hS.2.2 dX11_force_12

set_option maxHeartbeats 4000000 in
set_option maxRecDepth 100000 in
theorem c_X11_chance (l : Launch) (D : va_G) (k : ClassId × ClassId × ClassId × ClassId) (sz : Nat) (h0 h1 : Nat) (F P : List Value) (p0 p1 p2 : Int32) (g_F_paving : F[0]? = some (.ref h1)) (g_P_rules : P[11]? = some (.int 0)) : Met l yX11_chance (WS yX11_chance cX11_chance 10 (some .long)) ({ frames := 1, cells := 0, slots := 0, locals := 21 }) (va_Pc [.ref h0, .int p0, .int p1, .int p2] (cP D k [(h0, .inr (11, F)), (h1, .inr (6, P))] sz)) (va_Ql (fun (r : Int64) (_ : Unit) => r = (-1)) (fun (_ : Unit) t => cB D (va_A [(h0, .inr (11, F)), (h1, .inr (6, P))] sz) [] t) (va_A [(h0, .inr (11, F)), (h1, .inr (6, P))] sz)) 0 0 (va_A [(h0, .inr (11, F)), (h1, .inr (6, P))] sz) := by
  refine Met.ofW (cc := cX11_chance) (maxL := 10) (ret := (some .long)) (by decide) rfl ?_
  intro p e s m args below meth c s₁ B hml hv
  obtain ⟨rfl, hsz, hP, hKX, hD0⟩ := hv
  have hK := hKX.1
  have hx := B.exec
  have hb := B.bytes
  have hr := B.returns
  have hts := atoms_spec (ws := WS yX11_chance cX11_chance 10 (some .long)) B.pre
  have hgd : ∀ w ∈ gd, w ∈ WS yX11_chance cX11_chance 10 (some .long) := fun w h => List.mem_cons_of_mem _ h
  have hg : ∀ w ∈ gd, w.before _ s = true := fun w h => hts w (hgd w h)
  have hown : s.vm.findClass RX11 = some m.cls := findClass_of_methodNamed B.named
  have hlocks := B.notSynchronized
  subst hsz
  have hD := hD0.self (sz := s.heap.size)
  generalize hAe : va_A [(h0, .inr (11, F)), (h1, .inr (6, P))] s.heap.size = A at hD ⊢
  have hA : ∀ q : Nat, s.heap.size ≤ q → A q := fun q h => by rw [← hAe]; exact Or.inr h
  have hS : va_S A s.heap s.heap [] := va_S.rf
  have hP : va_P D classes [(h0, .inr (11, F)), (h1, .inr (6, P))] s.heap := hP
  have hl := lv_entry ([.ref h0, .int p0, .int p1, .int p2]) (n := 10) (Nat.le_of_ble_eq_true rfl)
  rw [lg_entry_eq]
  generalize (lg_sl ([.ref h0, .int p0, .int p1, .int p2]) ++ List.replicate (10 - (lg_sl ([.ref h0, .int p0, .int p1, .int p2])).length) Slot.unset).toArray = ls at hl ⊢
  have hl : lv_has ls 10 [(0, .ref h0), (1, .int p0), (2, .int p1), (3, .int p2)] := hl
  refine lv_aload_n hx hb dX11_chance_0 rfl (lv_at hl 0 rfl) ?_
  refine va_get (D := D) (ci := 11) (v := .ref h1) (C := RX11) (T := TX11) (N := 13) hx hb hg iX11 hown hK hP 0 rfl rfl 0 (by decide) (hg (Cond.fieldLink RX11 10 "SlabWalk" "paving" "LSlabWalk$Paving;") m570) (fun _ h9 => h9) g_F_paving dX11_chance_1 ?_
  refine lv_iload_n hx hb dX11_chance_4 rfl (lv_at hl 1 rfl) ?_
  have hPc := hP.sub (ws' := [(h1, .inr (6, P))]) [1] rfl
  have hDc := hD.sub (ws' := [(h1, .inr (6, P))]) [1] (by decide) rfl
  have hFc := va_free (wc := [(h1, .inr (6, P))]) hD hS hA [1] rfl
  refine va_calli (va_runV (As := [.int p0]) (rest := []) ⟨hx, hb, hml, hown, hts⟩ (c_hasRule l D k s.heap.size h1 P p0 g_P_rules) (cwV 1 hts (gd_V hgd m1206 m1207 m1208 m118 m1209) rfl rfl rfl (by decide +kernel) ⟨Nat.le_of_ble_eq_true rfl, Nat.le_of_ble_eq_true rfl⟩) (cP_V hPc hKX hDc (ci := 6) (q0 := 0) rfl rfl) rfl rfl hl.1 rfl (lv_room (Nat.le_of_ble_eq_true rfl)) dX11_chance_5 ⟨Nat.le_of_ble_eq_true rfl, Nat.le_of_ble_eq_true rfl⟩) hS (fun q _ h => hFc q h) hFc (fun r_1 u t H1 locs ht hvm hw hB hz1 hk1 hS => ?_)
  obtain ⟨hP1, hD1⟩ := hB
  rw [ht] at hP1
  obtain ⟨hP, hD⟩ := va_join (wr := [(h0, .inr (11, F))]) (w1 := [(h1, .inr (6, P))]) hP hD [1] [0] rfl rfl (by decide) (by decide) hk1 hFc hP1 hD1
  generalize H1 = H at hP hS ⊢
  have hP : va_P D classes [(h0, .inr (11, F)), (h1, .inr (6, P))] H := hP
  have hD : va_D A [(h0, .inr (11, F)), (h1, .inr (6, P))] := hD
  refine W.widen (k := 0) (n := 0) (Nat.le_of_ble_eq_true rfl) (Nat.le_of_ble_eq_true rfl) ?_
  subst hw
  refine lv_if_eq (tgt := 20) hx hb dX11_chance_8 (by decide) (fun c_2 => ?_) (fun c_2 => ?_)
  · have c_2 : (0 : Int32) = 0 := c_2
    refine lv_ldc2 (v := (-1)) hx hb hown (hg (Cond.constantLong RX11 165 (-1)) m1018) dX11_chance_20 ?_
    have hP9 := hP.sub (ws' := []) [] rfl
    have hD9 := hD.sub (ws' := []) [] (by decide) rfl
    exact W.lret (v := (-1)) hx hb hr (fun t ht hW => ⟨⟨(-1), (), rfl, rfl, cB_of ht hP9 hD9⟩, hS.F ht⟩) hS.2.2 dX11_chance_23
  · exact absurd (by decide) c_2
end
section
set_option maxHeartbeats 4000000 in
set_option maxRecDepth 100000 in
theorem c_X11_fits (l : Launch) (D : va_G) (k : ClassId × ClassId × ClassId × ClassId) (sz : Nat) (h0 h1 : Nat) (F P : List Value) (p0 : Int32) (g_F_paving : F[0]? = some (.ref h1)) (g_P_rules : P[11]? = some (.int 0)) : Met l yX11_fits (WS yX11_fits cX11_fits 4 (some .int)) ({ frames := 0, cells := 0, slots := 0, locals := 0 }) (va_Pc [.ref h0, .int p0] (cP D k [(h0, .inr (11, F)), (h1, .inr (6, P))] sz)) (va_Qi (fun (r : Int32) (_ : Unit) => r = 0) (fun (_ : Unit) t => cB D (va_A [(h0, .inr (11, F)), (h1, .inr (6, P))] sz) [] t) (va_A [(h0, .inr (11, F)), (h1, .inr (6, P))] sz)) 0 0 (va_A [(h0, .inr (11, F)), (h1, .inr (6, P))] sz) := by
  refine Met.ofW (cc := cX11_fits) (maxL := 4) (ret := (some .int)) (by decide) rfl ?_
  intro p e s m args below meth c s₁ B hml hv
  obtain ⟨rfl, hsz, hP, hKX, hD0⟩ := hv
  have hK := hKX.1
  have hx := B.exec
  have hb := B.bytes
  have hr := B.returns
  have hts := atoms_spec (ws := WS yX11_fits cX11_fits 4 (some .int)) B.pre
  have hgd : ∀ w ∈ gd, w ∈ WS yX11_fits cX11_fits 4 (some .int) := fun w h => List.mem_cons_of_mem _ h
  have hg : ∀ w ∈ gd, w.before _ s = true := fun w h => hts w (hgd w h)
  have hown : s.vm.findClass RX11 = some m.cls := findClass_of_methodNamed B.named
  have hlocks := B.notSynchronized
  subst hsz
  have hD := hD0.self (sz := s.heap.size)
  generalize hAe : va_A [(h0, .inr (11, F)), (h1, .inr (6, P))] s.heap.size = A at hD ⊢
  have hA : ∀ q : Nat, s.heap.size ≤ q → A q := fun q h => by rw [← hAe]; exact Or.inr h
  have hS : va_S A s.heap s.heap [] := va_S.rf
  have hP : va_P D classes [(h0, .inr (11, F)), (h1, .inr (6, P))] s.heap := hP
  have hl := lv_entry ([.ref h0, .int p0]) (n := 4) (Nat.le_of_ble_eq_true rfl)
  rw [lg_entry_eq]
  generalize (lg_sl ([.ref h0, .int p0]) ++ List.replicate (4 - (lg_sl ([.ref h0, .int p0])).length) Slot.unset).toArray = ls at hl ⊢
  have hl : lv_has ls 4 [(0, .ref h0), (1, .int p0)] := hl
  refine lv_iconst (v := 0) hx hb dX11_fits_0 (by decide) ?_
  refine lv_istore_n (lv' := [(2, .int 0), (0, .ref h0), (1, .int p0)]) hx hb dX11_fits_1 rfl hl (by decide) rfl (fun ls hl => ?_)
  refine lv_iconst (v := 0) hx hb dX11_fits_2 (by decide) ?_
  refine lv_istore_n (lv' := [(3, .int 0), (2, .int 0), (0, .ref h0), (1, .int p0)]) hx hb dX11_fits_3 rfl hl (by decide) rfl (fun ls hl => ?_)
  refine lv_iload_n hx hb dX11_fits_4 rfl (lv_at hl 0 rfl) ?_
  refine lv_aload_n hx hb dX11_fits_5 rfl (lv_at hl 2 rfl) ?_
  refine va_get (D := D) (ci := 11) (v := .ref h1) (C := RX11) (T := TX11) (N := 13) hx hb hg iX11 hown hK hP 0 rfl rfl 0 (by decide) (hg (Cond.fieldLink RX11 10 "SlabWalk" "paving" "LSlabWalk$Paving;") m570) (fun _ h9 => h9) g_F_paving dX11_fits_6 ?_
  refine va_get (D := D) (ci := 6) (v := .int 0) (C := RX6) (T := TX6) (N := 17) hx hb hg iX6 hown hK hP 1 rfl rfl 11 (by decide) (hg (Cond.fieldLink RX11 228 "SlabWalk$Paving" "rules" "I") m195) (fun _ h9 => h9) g_P_rules dX11_fits_9 ?_
  refine lv_icmp_ge (tgt := 40) hx hb dX11_fits_12 (by decide) (fun c_1 => ?_) (fun c_1 => ?_)
  · have c_1 : (0 : Int32) ≤ 0 := c_1
    refine lv_iload_n hx hb dX11_fits_40 rfl (lv_at hl 1 rfl) ?_
    have hP9 := hP.sub (ws' := []) [] rfl
    have hD9 := hD.sub (ws' := []) [] (by decide) rfl
    exact W.iret (v := 0) hx hb hr (fun t ht hW => ⟨⟨0, (), rfl, rfl, cB_of ht hP9 hD9⟩, hS.F ht⟩) hS.2.2 dX11_fits_41
  · exact absurd (by decide) c_1

set_option maxHeartbeats 4000000 in
set_option maxRecDepth 100000 in
theorem c_X11_canGo (l : Launch) (D : va_G) (k : ClassId × ClassId × ClassId × ClassId) (sz : Nat) (h0 h1 ea nw : Nat) (F P E : List Value) (f1 : Nat → Int32) (p0 : Int32) (g_F_paving : F[0]? = some (.ref h1)) (g_F_earnest : F[8]? = some (.ref ea)) (g_P_walkers : P[10]? = some (.int 0)) (g_E_now : E[0]? = some (.ref nw)) (g_f1__0 : f1 0 = (-1)) : Met l yX11_canGo (WS yX11_canGo cX11_canGo 4 (some .boolean)) ({ frames := 1, cells := 0, slots := 0, locals := 21 }) (va_Pc [.ref h0, .int p0] (cP D k [(h0, .inr (11, F)), (h1, .inr (6, P)), (ea, .inr (1, E)), (nw, .inl (k.2.1, 10, .inl f1))] sz)) (va_Qi (fun (r : Int32) (_ : Unit) => r = 0) (fun (_ : Unit) t => cB D (va_A [(h0, .inr (11, F)), (h1, .inr (6, P)), (ea, .inr (1, E)), (nw, .inl (k.2.1, 10, .inl f1))] sz) [(h0, .inr (11, F)), (h1, .inr (6, P)), (ea, .inr (1, E)), (nw, .inl (k.2.1, 10, .inl f1))] t) (va_A [(h0, .inr (11, F)), (h1, .inr (6, P)), (ea, .inr (1, E)), (nw, .inl (k.2.1, 10, .inl f1))] sz)) 0 0 (va_A [(h0, .inr (11, F)), (h1, .inr (6, P)), (ea, .inr (1, E)), (nw, .inl (k.2.1, 10, .inl f1))] sz) := by
  refine Met.ofW (cc := cX11_canGo) (maxL := 4) (ret := (some .boolean)) (by decide) rfl ?_
  intro p e s m args below meth c s₁ B hml hv
  obtain ⟨rfl, hsz, hP, hKX, hD0⟩ := hv
  have hK := hKX.1
  have hx := B.exec
  have hb := B.bytes
  have hr := B.returns
  have hts := atoms_spec (ws := WS yX11_canGo cX11_canGo 4 (some .boolean)) B.pre
  have hgd : ∀ w ∈ gd, w ∈ WS yX11_canGo cX11_canGo 4 (some .boolean) := fun w h => List.mem_cons_of_mem _ h
  have hg : ∀ w ∈ gd, w.before _ s = true := fun w h => hts w (hgd w h)
  have hown : s.vm.findClass RX11 = some m.cls := findClass_of_methodNamed B.named
  have hlocks := B.notSynchronized
  subst hsz
  have hD := hD0.self (sz := s.heap.size)
  generalize hAe : va_A [(h0, .inr (11, F)), (h1, .inr (6, P)), (ea, .inr (1, E)), (nw, .inl (k.2.1, 10, .inl f1))] s.heap.size = A at hD ⊢
  have hA : ∀ q : Nat, s.heap.size ≤ q → A q := fun q h => by rw [← hAe]; exact Or.inr h
  have hS : va_S A s.heap s.heap [] := va_S.rf
  have hP : va_P D classes [(h0, .inr (11, F)), (h1, .inr (6, P)), (ea, .inr (1, E)), (nw, .inl (k.2.1, 10, .inl f1))] s.heap := hP
  have hl := lv_entry ([.ref h0, .int p0]) (n := 4) (Nat.le_of_ble_eq_true rfl)
  rw [lg_entry_eq]
  generalize (lg_sl ([.ref h0, .int p0]) ++ List.replicate (4 - (lg_sl ([.ref h0, .int p0])).length) Slot.unset).toArray = ls at hl ⊢
  have hl : lv_has ls 4 [(0, .ref h0), (1, .int p0)] := hl
  refine lv_aload_n hx hb dX11_canGo_0 rfl (lv_at hl 0 rfl) ?_
  refine va_get (D := D) (ci := 11) (v := .ref ea) (C := RX11) (T := TX11) (N := 13) hx hb hg iX11 hown hK hP 0 rfl rfl 8 (by decide) (hg (Cond.fieldLink RX11 65 "SlabWalk" "earnest" "LSlabWalk$Earnest;") m578) (fun _ h9 => h9) g_F_earnest dX11_canGo_1 ?_
  refine va_get (D := D) (ci := 1) (v := .ref nw) (C := RX1) (T := TX1) (N := 6) hx hb hg iX1 hown hK hP 2 rfl rfl 0 (by decide) (hg (Cond.fieldLink RX11 246 "SlabWalk$Earnest" "now" "[I") m493) (fun _ h9 => h9) g_E_now dX11_canGo_4 ?_
  refine lv_iconst (v := 0) hx hb dX11_canGo_7 (by decide) ?_
  refine va_iald hx hb hK hP 3 1 rfl rfl (show ¬ ((0 : Int32) < 0 ∨ 10 ≤ (0 : Int32).toNatClampNeg) from by decide +kernel) dX11_canGo_8 ?_
  refine lv_topi (fun y_1 ey_1 => ?_)
  obtain rfl : y_1 = (-1) := ey_1.trans (g_f1__0)
  refine lv_istore_n (lv' := [(2, .int (-1)), (0, .ref h0), (1, .int p0)]) hx hb dX11_canGo_9 rfl hl (by decide) rfl (fun ls hl => ?_)
  refine lv_aload_n hx hb dX11_canGo_10 rfl (lv_at hl 1 rfl) ?_
  refine va_get (D := D) (ci := 11) (v := .ref h1) (C := RX11) (T := TX11) (N := 13) hx hb hg iX11 hown hK hP 0 rfl rfl 0 (by decide) (hg (Cond.fieldLink RX11 10 "SlabWalk" "paving" "LSlabWalk$Paving;") m570) (fun _ h9 => h9) g_F_paving dX11_canGo_11 ?_
  refine lv_iload_n hx hb dX11_canGo_14 rfl (lv_at hl 0 rfl) ?_
  have hPc := hP.sub (ws' := [(h1, .inr (6, P))]) [1] rfl
  have hDc := hD.sub (ws' := [(h1, .inr (6, P))]) [1] (by decide) rfl
  have hFc := va_free (wc := [(h1, .inr (6, P))]) hD hS hA [1] rfl
  refine va_calli (va_runV (As := [.int (-1)]) (rest := []) ⟨hx, hb, hml, hown, hts⟩ (c_hasWalker l D k s.heap.size h1 P (-1) g_P_walkers) (cwV 1 hts (gd_V hgd m957 m958 m959 m118 m960) rfl rfl rfl (by decide +kernel) ⟨Nat.le_of_ble_eq_true rfl, Nat.le_of_ble_eq_true rfl⟩) (cP_V hPc hKX hDc (ci := 6) (q0 := 0) rfl rfl) rfl rfl hl.1 rfl (lv_room (Nat.le_of_ble_eq_true rfl)) dX11_canGo_15 ⟨Nat.le_of_ble_eq_true rfl, Nat.le_of_ble_eq_true rfl⟩) hS (fun q _ h => hFc q h) hFc (fun r_2 u t H1 locs ht hvm hw hB hz1 hk1 hS => ?_)
  obtain ⟨hP1, hD1⟩ := hB
  rw [ht] at hP1
  obtain ⟨hP, hD⟩ := va_join (wr := [(h0, .inr (11, F)), (ea, .inr (1, E)), (nw, .inl (k.2.1, 10, .inl f1))]) (w1 := [(h1, .inr (6, P))]) hP hD [1] [0, 2, 3] rfl rfl (by decide) (by decide) hk1 hFc hP1 hD1
  generalize H1 = H at hP hS ⊢
  have hP : va_P D classes [(h0, .inr (11, F)), (ea, .inr (1, E)), (nw, .inl (k.2.1, 10, .inl f1)), (h1, .inr (6, P))] H := hP
  have hD : va_D A [(h0, .inr (11, F)), (ea, .inr (1, E)), (nw, .inl (k.2.1, 10, .inl f1)), (h1, .inr (6, P))] := hD
  refine W.widen (k := 0) (n := 0) (Nat.le_of_ble_eq_true rfl) (Nat.le_of_ble_eq_true rfl) ?_
  subst hw
  refine lv_if_eq (tgt := 47) hx hb dX11_canGo_18 (by decide) (fun c_3 => ?_) (fun c_3 => ?_)
  · have c_3 : (0 : Int32) = 0 := c_3
    refine lv_iconst (v := 0) hx hb dX11_canGo_47 (by decide) ?_
    have hP9 := hP.sub (ws' := [(h0, .inr (11, F)), (h1, .inr (6, P)), (ea, .inr (1, E)), (nw, .inl (k.2.1, 10, .inl f1))]) [0, 3, 1, 2] rfl
    have hD9 := hD.sub (ws' := [(h0, .inr (11, F)), (h1, .inr (6, P)), (ea, .inr (1, E)), (nw, .inl (k.2.1, 10, .inl f1))]) [0, 3, 1, 2] (by decide) rfl
    exact W.zret (v := 0) hx hb hr (by decide) (fun t ht hW => ⟨⟨0, (), rfl, rfl, cB_of ht hP9 hD9⟩, hS.F ht⟩) hS.2.2 dX11_canGo_48
  · exact absurd (by decide) c_3

set_option maxHeartbeats 4000000 in
set_option maxRecDepth 100000 in
theorem c_X11_go (l : Launch) (D : va_G) (k : ClassId × ClassId × ClassId × ClassId) (sz : Nat) (h0 h1 ea nw : Nat) (F P E : List Value) (f1 : Nat → Int32) (p0 : Int32) (g_F_paving : F[0]? = some (.ref h1)) (g_F_earnest : F[8]? = some (.ref ea)) (g_P_walkers : P[10]? = some (.int 0)) (g_E_now : E[0]? = some (.ref nw)) (g_f1__0 : f1 0 = (-1)) : Met l yX11_go (WS yX11_go cX11_go 5 (some .int)) ({ frames := 2, cells := 0, slots := 0, locals := 44 }) (va_Pc [.ref h0, .int p0] (cP D k [(h0, .inr (11, F)), (h1, .inr (6, P)), (ea, .inr (1, E)), (nw, .inl (k.2.1, 10, .inl f1))] sz)) (va_Qi (fun (r : Int32) (_ : Unit) => r = (-1)) (fun (_ : Unit) t => cB D (va_A [(h0, .inr (11, F)), (h1, .inr (6, P)), (ea, .inr (1, E)), (nw, .inl (k.2.1, 10, .inl f1))] sz) [] t) (va_A [(h0, .inr (11, F)), (h1, .inr (6, P)), (ea, .inr (1, E)), (nw, .inl (k.2.1, 10, .inl f1))] sz)) 0 0 (va_A [(h0, .inr (11, F)), (h1, .inr (6, P)), (ea, .inr (1, E)), (nw, .inl (k.2.1, 10, .inl f1))] sz) := by
  refine Met.ofW (cc := cX11_go) (maxL := 5) (ret := (some .int)) (by decide) rfl ?_
  intro p e s m args below meth c s₁ B hml hv
  obtain ⟨rfl, hsz, hP, hKX, hD0⟩ := hv
  have hK := hKX.1
  have hx := B.exec
  have hb := B.bytes
  have hr := B.returns
  have hts := atoms_spec (ws := WS yX11_go cX11_go 5 (some .int)) B.pre
  have hgd : ∀ w ∈ gd, w ∈ WS yX11_go cX11_go 5 (some .int) := fun w h => List.mem_cons_of_mem _ h
  have hg : ∀ w ∈ gd, w.before _ s = true := fun w h => hts w (hgd w h)
  have hown : s.vm.findClass RX11 = some m.cls := findClass_of_methodNamed B.named
  have hlocks := B.notSynchronized
  subst hsz
  have hD := hD0.self (sz := s.heap.size)
  generalize hAe : va_A [(h0, .inr (11, F)), (h1, .inr (6, P)), (ea, .inr (1, E)), (nw, .inl (k.2.1, 10, .inl f1))] s.heap.size = A at hD ⊢
  have hA : ∀ q : Nat, s.heap.size ≤ q → A q := fun q h => by rw [← hAe]; exact Or.inr h
  have hS : va_S A s.heap s.heap [] := va_S.rf
  have hP : va_P D classes [(h0, .inr (11, F)), (h1, .inr (6, P)), (ea, .inr (1, E)), (nw, .inl (k.2.1, 10, .inl f1))] s.heap := hP
  have hl := lv_entry ([.ref h0, .int p0]) (n := 5) (Nat.le_of_ble_eq_true rfl)
  rw [lg_entry_eq]
  generalize (lg_sl ([.ref h0, .int p0]) ++ List.replicate (5 - (lg_sl ([.ref h0, .int p0])).length) Slot.unset).toArray = ls at hl ⊢
  have hl : lv_has ls 5 [(0, .ref h0), (1, .int p0)] := hl
  refine lv_aload_n hx hb dX11_go_0 rfl (lv_at hl 0 rfl) ?_
  refine lv_iload_n hx hb dX11_go_1 rfl (lv_at hl 1 rfl) ?_
  have hPc := hP.sub (ws' := [(h0, .inr (11, F)), (h1, .inr (6, P)), (ea, .inr (1, E)), (nw, .inl (k.2.1, 10, .inl f1))]) [0, 1, 2, 3] rfl
  have hDc := hD.sub (ws' := [(h0, .inr (11, F)), (h1, .inr (6, P)), (ea, .inr (1, E)), (nw, .inl (k.2.1, 10, .inl f1))]) [0, 1, 2, 3] (by decide) rfl
  have hFc := va_free (wc := [(h0, .inr (11, F)), (h1, .inr (6, P)), (ea, .inr (1, E)), (nw, .inl (k.2.1, 10, .inl f1))]) hD hS hA [0, 1, 2, 3] rfl
  refine va_calli (va_runV (As := [.int p0]) (rest := []) ⟨hx, hb, hml, hown, hts⟩ (c_X11_canGo l D k s.heap.size h0 h1 ea nw F P E f1 p0 g_F_paving g_F_earnest g_P_walkers g_E_now g_f1__0) (cwV 1 hts (gd_V hgd m1186 m1188 m44 m117 m1189) rfl rfl rfl (by decide +kernel) ⟨Nat.le_of_ble_eq_true rfl, Nat.le_of_ble_eq_true rfl⟩) (cP_V hPc hKX hDc (ci := 11) (q0 := 0) rfl rfl) rfl rfl hl.1 rfl (lv_room (Nat.le_of_ble_eq_true rfl)) dX11_go_2 ⟨Nat.le_of_ble_eq_true rfl, Nat.le_of_ble_eq_true rfl⟩) hS (fun q _ h => hFc q h) hFc (fun r_1 u t H1 locs ht hvm hw hB hz1 hk1 hS => ?_)
  obtain ⟨hP1, hD1⟩ := hB
  rw [ht] at hP1
  obtain ⟨hP, hD⟩ := va_join (wr := []) (w1 := [(h0, .inr (11, F)), (h1, .inr (6, P)), (ea, .inr (1, E)), (nw, .inl (k.2.1, 10, .inl f1))]) hP hD [0, 1, 2, 3] [] rfl rfl (by decide) (by decide) hk1 hFc hP1 hD1
  generalize H1 = H at hP hS ⊢
  have hP : va_P D classes [(h0, .inr (11, F)), (h1, .inr (6, P)), (ea, .inr (1, E)), (nw, .inl (k.2.1, 10, .inl f1))] H := hP
  have hD : va_D A [(h0, .inr (11, F)), (h1, .inr (6, P)), (ea, .inr (1, E)), (nw, .inl (k.2.1, 10, .inl f1))] := hD
  refine W.widen (k := 0) (n := 0) (Nat.le_of_ble_eq_true rfl) (Nat.le_of_ble_eq_true rfl) ?_
  subst hw
  refine lv_if_ne (tgt := 10) hx hb dX11_go_5 (by decide) (fun c_2 => ?_) (fun c_2 => ?_)
  · exact absurd (by decide) c_2
  · have c_2 : (0 : Int32) = 0 := c_2
    refine lv_iconst (v := (-1)) hx hb dX11_go_8 (by decide) ?_
    have hP9 := hP.sub (ws' := []) [] rfl
    have hD9 := hD.sub (ws' := []) [] (by decide) rfl
    exact W.iret (v := (-1)) hx hb hr (fun t ht hW => ⟨⟨(-1), (), rfl, rfl, cB_of ht hP9 hD9⟩, hS.F ht⟩) hS.2.2 dX11_go_9

set_option maxHeartbeats 4000000 in
set_option maxRecDepth 100000 in
theorem c_X1_takeBack (l : Launch) (D : va_G) (k : ClassId × ClassId × ClassId × ClassId) (sz : Nat) (h0 : Nat) (E : List Value) (g_E_done : E[4]? = some (.int 0)) : Met l yX1_takeBack (WS yX1_takeBack cX1_takeBack 1 (some .boolean)) ({ frames := 0, cells := 0, slots := 0, locals := 0 }) (va_Pc [.ref h0] (cP D k [(h0, .inr (1, E))] sz)) (va_Qi (fun (r : Int32) (_ : Unit) => r = 0) (fun (_ : Unit) t => cB D (va_A [(h0, .inr (1, E))] sz) [] t) (va_A [(h0, .inr (1, E))] sz)) 0 0 (va_A [(h0, .inr (1, E))] sz) := by
  refine Met.ofW (cc := cX1_takeBack) (maxL := 1) (ret := (some .boolean)) (by decide) rfl ?_
  intro p e s m args below meth c s₁ B hml hv
  obtain ⟨rfl, hsz, hP, hKX, hD0⟩ := hv
  have hK := hKX.1
  have hx := B.exec
  have hb := B.bytes
  have hr := B.returns
  have hts := atoms_spec (ws := WS yX1_takeBack cX1_takeBack 1 (some .boolean)) B.pre
  have hgd : ∀ w ∈ gd, w ∈ WS yX1_takeBack cX1_takeBack 1 (some .boolean) := fun w h => List.mem_cons_of_mem _ h
  have hg : ∀ w ∈ gd, w.before _ s = true := fun w h => hts w (hgd w h)
  have hown : s.vm.findClass RX1 = some m.cls := findClass_of_methodNamed B.named
  have hlocks := B.notSynchronized
  subst hsz
  have hD := hD0.self (sz := s.heap.size)
  generalize hAe : va_A [(h0, .inr (1, E))] s.heap.size = A at hD ⊢
  have hA : ∀ q : Nat, s.heap.size ≤ q → A q := fun q h => by rw [← hAe]; exact Or.inr h
  have hS : va_S A s.heap s.heap [] := va_S.rf
  have hP : va_P D classes [(h0, .inr (1, E))] s.heap := hP
  have hl := lv_entry ([.ref h0]) (n := 1) (Nat.le_of_ble_eq_true rfl)
  rw [lg_entry_eq]
  generalize (lg_sl ([.ref h0]) ++ List.replicate (1 - (lg_sl ([.ref h0])).length) Slot.unset).toArray = ls at hl ⊢
  have hl : lv_has ls 1 [(0, .ref h0)] := hl
  refine lv_aload_n hx hb dX1_takeBack_0 rfl (lv_at hl 0 rfl) ?_
  refine va_get (D := D) (ci := 1) (v := .int 0) (C := RX1) (T := TX1) (N := 6) hx hb hg iX1 hown hK hP 0 rfl rfl 4 (by decide) (hg (Cond.fieldLink RX1 34 "SlabWalk$Earnest" "done" "I") m497) (fun _ h9 => h9) g_E_done dX1_takeBack_1 ?_
  refine lv_if_gt (tgt := 9) hx hb dX1_takeBack_4 (by decide) (fun c_1 => ?_) (fun c_1 => ?_)
  · exact absurd c_1 (by decide)
  · have c_1 : ¬ ((0 : Int32) < 0) := c_1
    refine lv_iconst (v := 0) hx hb dX1_takeBack_7 (by decide) ?_
    have hP9 := hP.sub (ws' := []) [] rfl
    have hD9 := hD.sub (ws' := []) [] (by decide) rfl
    exact W.zret (v := 0) hx hb hr (by decide) (fun t ht hW => ⟨⟨0, (), rfl, rfl, cB_of ht hP9 hD9⟩, hS.F ht⟩) hS.2.2 dX1_takeBack_8

set_option maxHeartbeats 4000000 in
set_option maxRecDepth 100000 in
theorem c_X1_doAgain (l : Launch) (D : va_G) (k : ClassId × ClassId × ClassId × ClassId) (sz : Nat) (h0 : Nat) (E : List Value) (g_E_undone : E[5]? = some (.int 0)) : Met l yX1_doAgain (WS yX1_doAgain cX1_doAgain 1 (some .boolean)) ({ frames := 0, cells := 0, slots := 0, locals := 0 }) (va_Pc [.ref h0] (cP D k [(h0, .inr (1, E))] sz)) (va_Qi (fun (r : Int32) (_ : Unit) => r = 0) (fun (_ : Unit) t => cB D (va_A [(h0, .inr (1, E))] sz) [] t) (va_A [(h0, .inr (1, E))] sz)) 0 0 (va_A [(h0, .inr (1, E))] sz) := by
  refine Met.ofW (cc := cX1_doAgain) (maxL := 1) (ret := (some .boolean)) (by decide) rfl ?_
  intro p e s m args below meth c s₁ B hml hv
  obtain ⟨rfl, hsz, hP, hKX, hD0⟩ := hv
  have hK := hKX.1
  have hx := B.exec
  have hb := B.bytes
  have hr := B.returns
  have hts := atoms_spec (ws := WS yX1_doAgain cX1_doAgain 1 (some .boolean)) B.pre
  have hgd : ∀ w ∈ gd, w ∈ WS yX1_doAgain cX1_doAgain 1 (some .boolean) := fun w h => List.mem_cons_of_mem _ h
  have hg : ∀ w ∈ gd, w.before _ s = true := fun w h => hts w (hgd w h)
  have hown : s.vm.findClass RX1 = some m.cls := findClass_of_methodNamed B.named
  have hlocks := B.notSynchronized
  subst hsz
  have hD := hD0.self (sz := s.heap.size)
  generalize hAe : va_A [(h0, .inr (1, E))] s.heap.size = A at hD ⊢
  have hA : ∀ q : Nat, s.heap.size ≤ q → A q := fun q h => by rw [← hAe]; exact Or.inr h
  have hS : va_S A s.heap s.heap [] := va_S.rf
  have hP : va_P D classes [(h0, .inr (1, E))] s.heap := hP
  have hl := lv_entry ([.ref h0]) (n := 1) (Nat.le_of_ble_eq_true rfl)
  rw [lg_entry_eq]
  generalize (lg_sl ([.ref h0]) ++ List.replicate (1 - (lg_sl ([.ref h0])).length) Slot.unset).toArray = ls at hl ⊢
  have hl : lv_has ls 1 [(0, .ref h0)] := hl
  refine lv_aload_n hx hb dX1_doAgain_0 rfl (lv_at hl 0 rfl) ?_
  refine va_get (D := D) (ci := 1) (v := .int 0) (C := RX1) (T := TX1) (N := 6) hx hb hg iX1 hown hK hP 0 rfl rfl 5 (by decide) (hg (Cond.fieldLink RX1 37 "SlabWalk$Earnest" "undone" "I") m499) (fun _ h9 => h9) g_E_undone dX1_doAgain_1 ?_
  refine lv_if_gt (tgt := 9) hx hb dX1_doAgain_4 (by decide) (fun c_1 => ?_) (fun c_1 => ?_)
  · exact absurd c_1 (by decide)
  · have c_1 : ¬ ((0 : Int32) < 0) := c_1
    refine lv_iconst (v := 0) hx hb dX1_doAgain_7 (by decide) ?_
    have hP9 := hP.sub (ws' := []) [] rfl
    have hD9 := hD.sub (ws' := []) [] (by decide) rfl
    exact W.zret (v := 0) hx hb hr (by decide) (fun t ht hW => ⟨⟨0, (), rfl, rfl, cB_of ht hP9 hD9⟩, hS.F ht⟩) hS.2.2 dX1_doAgain_8

set_option maxHeartbeats 4000000 in
set_option maxRecDepth 100000 in
theorem c_X11_undo (l : Launch) (D : va_G) (k : ClassId × ClassId × ClassId × ClassId) (sz : Nat) (h0 ea : Nat) (F E : List Value) (g_F_earnest : F[8]? = some (.ref ea)) (g_E_done : E[4]? = some (.int 0)) : Met l yX11_undo (WS yX11_undo cX11_undo 1 (some .boolean)) ({ frames := 1, cells := 0, slots := 0, locals := 20 }) (va_Pc [.ref h0] (cP D k [(h0, .inr (11, F)), (ea, .inr (1, E))] sz)) (va_Qi (fun (r : Int32) (_ : Unit) => r = 0) (fun (_ : Unit) t => cB D (va_A [(h0, .inr (11, F)), (ea, .inr (1, E))] sz) [] t) (va_A [(h0, .inr (11, F)), (ea, .inr (1, E))] sz)) 0 0 (va_A [(h0, .inr (11, F)), (ea, .inr (1, E))] sz) := by
  refine Met.ofW (cc := cX11_undo) (maxL := 1) (ret := (some .boolean)) (by decide) rfl ?_
  intro p e s m args below meth c s₁ B hml hv
  obtain ⟨rfl, hsz, hP, hKX, hD0⟩ := hv
  have hK := hKX.1
  have hx := B.exec
  have hb := B.bytes
  have hr := B.returns
  have hts := atoms_spec (ws := WS yX11_undo cX11_undo 1 (some .boolean)) B.pre
  have hgd : ∀ w ∈ gd, w ∈ WS yX11_undo cX11_undo 1 (some .boolean) := fun w h => List.mem_cons_of_mem _ h
  have hg : ∀ w ∈ gd, w.before _ s = true := fun w h => hts w (hgd w h)
  have hown : s.vm.findClass RX11 = some m.cls := findClass_of_methodNamed B.named
  have hlocks := B.notSynchronized
  subst hsz
  have hD := hD0.self (sz := s.heap.size)
  generalize hAe : va_A [(h0, .inr (11, F)), (ea, .inr (1, E))] s.heap.size = A at hD ⊢
  have hA : ∀ q : Nat, s.heap.size ≤ q → A q := fun q h => by rw [← hAe]; exact Or.inr h
  have hS : va_S A s.heap s.heap [] := va_S.rf
  have hP : va_P D classes [(h0, .inr (11, F)), (ea, .inr (1, E))] s.heap := hP
  have hl := lv_entry ([.ref h0]) (n := 1) (Nat.le_of_ble_eq_true rfl)
  rw [lg_entry_eq]
  generalize (lg_sl ([.ref h0]) ++ List.replicate (1 - (lg_sl ([.ref h0])).length) Slot.unset).toArray = ls at hl ⊢
  have hl : lv_has ls 1 [(0, .ref h0)] := hl
  refine lv_aload_n hx hb dX11_undo_0 rfl (lv_at hl 0 rfl) ?_
  refine va_get (D := D) (ci := 11) (v := .ref ea) (C := RX11) (T := TX11) (N := 13) hx hb hg iX11 hown hK hP 0 rfl rfl 8 (by decide) (hg (Cond.fieldLink RX11 65 "SlabWalk" "earnest" "LSlabWalk$Earnest;") m578) (fun _ h9 => h9) g_F_earnest dX11_undo_1 ?_
  have hPc := hP.sub (ws' := [(ea, .inr (1, E))]) [1] rfl
  have hDc := hD.sub (ws' := [(ea, .inr (1, E))]) [1] (by decide) rfl
  have hFc := va_free (wc := [(ea, .inr (1, E))]) hD hS hA [1] rfl
  refine va_calli (va_runV (As := []) (rest := []) ⟨hx, hb, hml, hown, hts⟩ (c_X1_takeBack l D k s.heap.size ea E g_E_done) (cwV 0 hts (gd_V hgd m1222 m1223 m1224 m127 m1225) rfl rfl rfl (by decide +kernel) ⟨Nat.le_of_ble_eq_true rfl, Nat.le_of_ble_eq_true rfl⟩) (cP_V hPc hKX hDc (ci := 1) (q0 := 0) rfl rfl) rfl rfl hl.1 rfl (lv_room (Nat.le_of_ble_eq_true rfl)) dX11_undo_4 ⟨Nat.le_of_ble_eq_true rfl, Nat.le_of_ble_eq_true rfl⟩) hS (fun q _ h => hFc q h) hFc (fun r_1 u t H1 locs ht hvm hw hB hz1 hk1 hS => ?_)
  obtain ⟨hP1, hD1⟩ := hB
  rw [ht] at hP1
  obtain ⟨hP, hD⟩ := va_join (wr := [(h0, .inr (11, F))]) (w1 := []) hP hD [1] [0] rfl rfl (by decide) (by decide) hk1 hFc hP1 hD1
  generalize H1 = H at hP hS ⊢
  have hP : va_P D classes [(h0, .inr (11, F))] H := hP
  have hD : va_D A [(h0, .inr (11, F))] := hD
  refine W.widen (k := 0) (n := 0) (Nat.le_of_ble_eq_true rfl) (Nat.le_of_ble_eq_true rfl) ?_
  subst hw
  have hP9 := hP.sub (ws' := []) [] rfl
  have hD9 := hD.sub (ws' := []) [] (by decide) rfl
  exact W.zret (v := 0) hx hb hr (by decide) (fun t ht hW => ⟨⟨0, (), rfl, rfl, cB_of ht hP9 hD9⟩, hS.F ht⟩) hS.2.2 dX11_undo_7

set_option maxHeartbeats 4000000 in
set_option maxRecDepth 100000 in
theorem c_X11_redo (l : Launch) (D : va_G) (k : ClassId × ClassId × ClassId × ClassId) (sz : Nat) (h0 ea : Nat) (F E : List Value) (g_F_earnest : F[8]? = some (.ref ea)) (g_E_undone : E[5]? = some (.int 0)) : Met l yX11_redo (WS yX11_redo cX11_redo 1 (some .boolean)) ({ frames := 1, cells := 0, slots := 0, locals := 20 }) (va_Pc [.ref h0] (cP D k [(h0, .inr (11, F)), (ea, .inr (1, E))] sz)) (va_Qi (fun (r : Int32) (_ : Unit) => r = 0) (fun (_ : Unit) t => cB D (va_A [(h0, .inr (11, F)), (ea, .inr (1, E))] sz) [] t) (va_A [(h0, .inr (11, F)), (ea, .inr (1, E))] sz)) 0 0 (va_A [(h0, .inr (11, F)), (ea, .inr (1, E))] sz) := by
  refine Met.ofW (cc := cX11_redo) (maxL := 1) (ret := (some .boolean)) (by decide) rfl ?_
  intro p e s m args below meth c s₁ B hml hv
  obtain ⟨rfl, hsz, hP, hKX, hD0⟩ := hv
  have hK := hKX.1
  have hx := B.exec
  have hb := B.bytes
  have hr := B.returns
  have hts := atoms_spec (ws := WS yX11_redo cX11_redo 1 (some .boolean)) B.pre
  have hgd : ∀ w ∈ gd, w ∈ WS yX11_redo cX11_redo 1 (some .boolean) := fun w h => List.mem_cons_of_mem _ h
  have hg : ∀ w ∈ gd, w.before _ s = true := fun w h => hts w (hgd w h)
  have hown : s.vm.findClass RX11 = some m.cls := findClass_of_methodNamed B.named
  have hlocks := B.notSynchronized
  subst hsz
  have hD := hD0.self (sz := s.heap.size)
  generalize hAe : va_A [(h0, .inr (11, F)), (ea, .inr (1, E))] s.heap.size = A at hD ⊢
  have hA : ∀ q : Nat, s.heap.size ≤ q → A q := fun q h => by rw [← hAe]; exact Or.inr h
  have hS : va_S A s.heap s.heap [] := va_S.rf
  have hP : va_P D classes [(h0, .inr (11, F)), (ea, .inr (1, E))] s.heap := hP
  have hl := lv_entry ([.ref h0]) (n := 1) (Nat.le_of_ble_eq_true rfl)
  rw [lg_entry_eq]
  generalize (lg_sl ([.ref h0]) ++ List.replicate (1 - (lg_sl ([.ref h0])).length) Slot.unset).toArray = ls at hl ⊢
  have hl : lv_has ls 1 [(0, .ref h0)] := hl
  refine lv_aload_n hx hb dX11_redo_0 rfl (lv_at hl 0 rfl) ?_
  refine va_get (D := D) (ci := 11) (v := .ref ea) (C := RX11) (T := TX11) (N := 13) hx hb hg iX11 hown hK hP 0 rfl rfl 8 (by decide) (hg (Cond.fieldLink RX11 65 "SlabWalk" "earnest" "LSlabWalk$Earnest;") m578) (fun _ h9 => h9) g_F_earnest dX11_redo_1 ?_
  have hPc := hP.sub (ws' := [(ea, .inr (1, E))]) [1] rfl
  have hDc := hD.sub (ws' := [(ea, .inr (1, E))]) [1] (by decide) rfl
  have hFc := va_free (wc := [(ea, .inr (1, E))]) hD hS hA [1] rfl
  refine va_calli (va_runV (As := []) (rest := []) ⟨hx, hb, hml, hown, hts⟩ (c_X1_doAgain l D k s.heap.size ea E g_E_undone) (cwV 0 hts (gd_V hgd m1230 m1231 m1232 m127 m1233) rfl rfl rfl (by decide +kernel) ⟨Nat.le_of_ble_eq_true rfl, Nat.le_of_ble_eq_true rfl⟩) (cP_V hPc hKX hDc (ci := 1) (q0 := 0) rfl rfl) rfl rfl hl.1 rfl (lv_room (Nat.le_of_ble_eq_true rfl)) dX11_redo_4 ⟨Nat.le_of_ble_eq_true rfl, Nat.le_of_ble_eq_true rfl⟩) hS (fun q _ h => hFc q h) hFc (fun r_1 u t H1 locs ht hvm hw hB hz1 hk1 hS => ?_)
  obtain ⟨hP1, hD1⟩ := hB
  rw [ht] at hP1
  obtain ⟨hP, hD⟩ := va_join (wr := [(h0, .inr (11, F))]) (w1 := []) hP hD [1] [0] rfl rfl (by decide) (by decide) hk1 hFc hP1 hD1
  generalize H1 = H at hP hS ⊢
  have hP : va_P D classes [(h0, .inr (11, F))] H := hP
  have hD : va_D A [(h0, .inr (11, F))] := hD
  refine W.widen (k := 0) (n := 0) (Nat.le_of_ble_eq_true rfl) (Nat.le_of_ble_eq_true rfl) ?_
  subst hw
  have hP9 := hP.sub (ws' := []) [] rfl
  have hD9 := hD.sub (ws' := []) [] (by decide) rfl
  exact W.zret (v := 0) hx hb hr (by decide) (fun t ht hW => ⟨⟨0, (), rfl, rfl, cB_of ht hP9 hD9⟩, hS.F ht⟩) hS.2.2 dX11_redo_7

set_option maxHeartbeats 4000000 in
set_option maxRecDepth 100000 in
theorem c_X11_walker (l : Launch) (D : va_G) (k : ClassId × ClassId × ClassId × ClassId) (sz : Nat) (h0 ea nw : Nat) (F E : List Value) (f1 : Nat → Int32) (p0 : Int32) (g_F_earnest : F[8]? = some (.ref ea)) (g_E_now : E[0]? = some (.ref nw)) (g_f1__0 : f1 0 = (-1)) : Met l yX11_walker (WS yX11_walker cX11_walker 2 (some .int)) ({ frames := 0, cells := 0, slots := 0, locals := 0 }) (va_Pc [.ref h0, .int p0] (cP D k [(h0, .inr (11, F)), (ea, .inr (1, E)), (nw, .inl (k.2.1, 10, .inl f1))] sz)) (va_Qi (fun (r : Int32) (_ : Unit) => r = (-1)) (fun (_ : Unit) t => cB D (va_A [(h0, .inr (11, F)), (ea, .inr (1, E)), (nw, .inl (k.2.1, 10, .inl f1))] sz) [] t) (va_A [(h0, .inr (11, F)), (ea, .inr (1, E)), (nw, .inl (k.2.1, 10, .inl f1))] sz)) 0 0 (va_A [(h0, .inr (11, F)), (ea, .inr (1, E)), (nw, .inl (k.2.1, 10, .inl f1))] sz) := by
  refine Met.ofW (cc := cX11_walker) (maxL := 2) (ret := (some .int)) (by decide) rfl ?_
  intro p e s m args below meth c s₁ B hml hv
  obtain ⟨rfl, hsz, hP, hKX, hD0⟩ := hv
  have hK := hKX.1
  have hx := B.exec
  have hb := B.bytes
  have hr := B.returns
  have hts := atoms_spec (ws := WS yX11_walker cX11_walker 2 (some .int)) B.pre
  have hgd : ∀ w ∈ gd, w ∈ WS yX11_walker cX11_walker 2 (some .int) := fun w h => List.mem_cons_of_mem _ h
  have hg : ∀ w ∈ gd, w.before _ s = true := fun w h => hts w (hgd w h)
  have hown : s.vm.findClass RX11 = some m.cls := findClass_of_methodNamed B.named
  have hlocks := B.notSynchronized
  subst hsz
  have hD := hD0.self (sz := s.heap.size)
  generalize hAe : va_A [(h0, .inr (11, F)), (ea, .inr (1, E)), (nw, .inl (k.2.1, 10, .inl f1))] s.heap.size = A at hD ⊢
  have hA : ∀ q : Nat, s.heap.size ≤ q → A q := fun q h => by rw [← hAe]; exact Or.inr h
  have hS : va_S A s.heap s.heap [] := va_S.rf
  have hP : va_P D classes [(h0, .inr (11, F)), (ea, .inr (1, E)), (nw, .inl (k.2.1, 10, .inl f1))] s.heap := hP
  have hl := lv_entry ([.ref h0, .int p0]) (n := 2) (Nat.le_of_ble_eq_true rfl)
  rw [lg_entry_eq]
  generalize (lg_sl ([.ref h0, .int p0]) ++ List.replicate (2 - (lg_sl ([.ref h0, .int p0])).length) Slot.unset).toArray = ls at hl ⊢
  have hl : lv_has ls 2 [(0, .ref h0), (1, .int p0)] := hl
  refine lv_aload_n hx hb dX11_walker_0 rfl (lv_at hl 0 rfl) ?_
  refine va_get (D := D) (ci := 11) (v := .ref ea) (C := RX11) (T := TX11) (N := 13) hx hb hg iX11 hown hK hP 0 rfl rfl 8 (by decide) (hg (Cond.fieldLink RX11 65 "SlabWalk" "earnest" "LSlabWalk$Earnest;") m578) (fun _ h9 => h9) g_F_earnest dX11_walker_1 ?_
  refine va_get (D := D) (ci := 1) (v := .ref nw) (C := RX1) (T := TX1) (N := 6) hx hb hg iX1 hown hK hP 1 rfl rfl 0 (by decide) (hg (Cond.fieldLink RX11 246 "SlabWalk$Earnest" "now" "[I") m493) (fun _ h9 => h9) g_E_now dX11_walker_4 ?_
  refine lv_iconst (v := 0) hx hb dX11_walker_7 (by decide) ?_
  refine va_iald hx hb hK hP 2 1 rfl rfl (show ¬ ((0 : Int32) < 0 ∨ 10 ≤ (0 : Int32).toNatClampNeg) from by decide +kernel) dX11_walker_8 ?_
  refine lv_topi (fun y_1 ey_1 => ?_)
  obtain rfl : y_1 = (-1) := ey_1.trans (g_f1__0)
  refine lv_iconst (v := (-1)) hx hb dX11_walker_9 (by decide) ?_
  refine lv_icmp_eq (tgt := 22) hx hb dX11_walker_10 (by decide) (fun c_2 => ?_) (fun c_2 => ?_)
  · have c_2 : ((-1) : Int32) = (-1) := c_2
    refine lv_iconst (v := (-1)) hx hb dX11_walker_22 (by decide) ?_
    have hP9 := hP.sub (ws' := []) [] rfl
    have hD9 := hD.sub (ws' := []) [] (by decide) rfl
    exact W.iret (v := (-1)) hx hb hr (fun t ht hW => ⟨⟨(-1), (), rfl, rfl, cB_of ht hP9 hD9⟩, hS.F ht⟩) hS.2.2 dX11_walker_23
  · exact absurd (by decide) c_2

set_option maxHeartbeats 4000000 in
set_option maxRecDepth 100000 in
theorem c_X11_lies (l : Launch) (D : va_G) (k : ClassId × ClassId × ClassId × ClassId) (sz : Nat) (h0 : Nat) (F : List Value) (p0 : Int32) (g_F_lie : F[12]? = some (.int 0)) : Met l yX11_lies (WS yX11_lies cX11_lies 2 (some .int)) ({ frames := 0, cells := 0, slots := 0, locals := 0 }) (va_Pc [.ref h0, .int p0] (cP D k [(h0, .inr (11, F))] sz)) (va_Qi (fun (r : Int32) (_ : Unit) => r = (-1)) (fun (_ : Unit) t => cB D (va_A [(h0, .inr (11, F))] sz) [] t) (va_A [(h0, .inr (11, F))] sz)) 0 0 (va_A [(h0, .inr (11, F))] sz) := by
  refine Met.ofW (cc := cX11_lies) (maxL := 2) (ret := (some .int)) (by decide) rfl ?_
  intro p e s m args below meth c s₁ B hml hv
  obtain ⟨rfl, hsz, hP, hKX, hD0⟩ := hv
  have hK := hKX.1
  have hx := B.exec
  have hb := B.bytes
  have hr := B.returns
  have hts := atoms_spec (ws := WS yX11_lies cX11_lies 2 (some .int)) B.pre
  have hgd : ∀ w ∈ gd, w ∈ WS yX11_lies cX11_lies 2 (some .int) := fun w h => List.mem_cons_of_mem _ h
  have hg : ∀ w ∈ gd, w.before _ s = true := fun w h => hts w (hgd w h)
  have hown : s.vm.findClass RX11 = some m.cls := findClass_of_methodNamed B.named
  have hlocks := B.notSynchronized
  subst hsz
  have hD := hD0.self (sz := s.heap.size)
  generalize hAe : va_A [(h0, .inr (11, F))] s.heap.size = A at hD ⊢
  have hA : ∀ q : Nat, s.heap.size ≤ q → A q := fun q h => by rw [← hAe]; exact Or.inr h
  have hS : va_S A s.heap s.heap [] := va_S.rf
  have hP : va_P D classes [(h0, .inr (11, F))] s.heap := hP
  have hl := lv_entry ([.ref h0, .int p0]) (n := 2) (Nat.le_of_ble_eq_true rfl)
  rw [lg_entry_eq]
  generalize (lg_sl ([.ref h0, .int p0]) ++ List.replicate (2 - (lg_sl ([.ref h0, .int p0])).length) Slot.unset).toArray = ls at hl ⊢
  have hl : lv_has ls 2 [(0, .ref h0), (1, .int p0)] := hl
  refine lv_iload_n hx hb dX11_lies_0 rfl (lv_at hl 1 rfl) ?_
  refine lv_if_lt (tgt := 21) hx hb dX11_lies_1 (by decide) (fun c_1 => ?_) (fun c_1 => ?_)
  · have c_1 : (p0 : Int32) < 0 := c_1
    refine lv_iconst (v := (-1)) hx hb dX11_lies_21 (by decide) ?_
    have hP9 := hP.sub (ws' := []) [] rfl
    have hD9 := hD.sub (ws' := []) [] (by decide) rfl
    exact W.iret (v := (-1)) hx hb hr (fun t ht hW => ⟨⟨(-1), (), rfl, rfl, cB_of ht hP9 hD9⟩, hS.F ht⟩) hS.2.2 dX11_lies_22
  · have c_1 : ¬ ((p0 : Int32) < 0) := c_1
    refine lv_iload_n hx hb dX11_lies_4 rfl (lv_at hl 1 rfl) ?_
    refine lv_aload_n hx hb dX11_lies_5 rfl (lv_at hl 0 rfl) ?_
    refine va_get (D := D) (ci := 11) (v := .int 0) (C := RX11) (T := TX11) (N := 13) hx hb hg iX11 hown hK hP 0 rfl rfl 12 (by decide) (hg (Cond.fieldLink RX11 150 "SlabWalk" "lie" "I") m582) (fun _ h9 => h9) g_F_lie dX11_lies_6 ?_
    refine lv_icmp_ge (tgt := 21) hx hb dX11_lies_9 (by decide) (fun c_2 => ?_) (fun c_2 => ?_)
    · have c_2 : (0 : Int32) ≤ p0 := c_2
      refine lv_iconst (v := (-1)) hx hb dX11_lies_21 (by decide) ?_
      have hP9 := hP.sub (ws' := []) [] rfl
      have hD9 := hD.sub (ws' := []) [] (by decide) rfl
      exact W.iret (v := (-1)) hx hb hr (fun t ht hW => ⟨⟨(-1), (), rfl, rfl, cB_of ht hP9 hD9⟩, hS.F ht⟩) hS.2.2 dX11_lies_22
    · exact absurd (Int32.not_lt.mp c_1) c_2

set_option maxHeartbeats 4000000 in
set_option maxRecDepth 100000 in
theorem c_X8_takeFrom (l : Launch) (D : va_G) (k : ClassId × ClassId × ClassId × ClassId) (sz : Nat) (h0 : Nat) (Z : List Value) (p0 : Int32) (g_Z_count : Z[5]? = some (.int 0)) : Met l yX8_takeFrom (WS yX8_takeFrom cX8_takeFrom 2 (some .boolean)) ({ frames := 0, cells := 0, slots := 0, locals := 0 }) (va_Pc [.ref h0, .int p0] (cP D k [(h0, .inr (8, Z))] sz)) (va_Qi (fun (r : Int32) (_ : Unit) => r = 0) (fun (_ : Unit) t => cB D (va_A [(h0, .inr (8, Z))] sz) [] t) (va_A [(h0, .inr (8, Z))] sz)) 0 0 (va_A [(h0, .inr (8, Z))] sz) := by
  refine Met.ofW (cc := cX8_takeFrom) (maxL := 2) (ret := (some .boolean)) (by decide) rfl ?_
  intro p e s m args below meth c s₁ B hml hv
  obtain ⟨rfl, hsz, hP, hKX, hD0⟩ := hv
  have hK := hKX.1
  have hx := B.exec
  have hb := B.bytes
  have hr := B.returns
  have hts := atoms_spec (ws := WS yX8_takeFrom cX8_takeFrom 2 (some .boolean)) B.pre
  have hgd : ∀ w ∈ gd, w ∈ WS yX8_takeFrom cX8_takeFrom 2 (some .boolean) := fun w h => List.mem_cons_of_mem _ h
  have hg : ∀ w ∈ gd, w.before _ s = true := fun w h => hts w (hgd w h)
  have hown : s.vm.findClass RX8 = some m.cls := findClass_of_methodNamed B.named
  have hlocks := B.notSynchronized
  subst hsz
  have hD := hD0.self (sz := s.heap.size)
  generalize hAe : va_A [(h0, .inr (8, Z))] s.heap.size = A at hD ⊢
  have hA : ∀ q : Nat, s.heap.size ≤ q → A q := fun q h => by rw [← hAe]; exact Or.inr h
  have hS : va_S A s.heap s.heap [] := va_S.rf
  have hP : va_P D classes [(h0, .inr (8, Z))] s.heap := hP
  have hl := lv_entry ([.ref h0, .int p0]) (n := 2) (Nat.le_of_ble_eq_true rfl)
  rw [lg_entry_eq]
  generalize (lg_sl ([.ref h0, .int p0]) ++ List.replicate (2 - (lg_sl ([.ref h0, .int p0])).length) Slot.unset).toArray = ls at hl ⊢
  have hl : lv_has ls 2 [(0, .ref h0), (1, .int p0)] := hl
  refine lv_iload_n hx hb dX8_takeFrom_0 rfl (lv_at hl 1 rfl) ?_
  refine lv_if_lt (tgt := 22) hx hb dX8_takeFrom_1 (by decide) (fun c_1 => ?_) (fun c_1 => ?_)
  · have c_1 : (p0 : Int32) < 0 := c_1
    refine lv_iconst (v := 0) hx hb dX8_takeFrom_22 (by decide) ?_
    have hP9 := hP.sub (ws' := []) [] rfl
    have hD9 := hD.sub (ws' := []) [] (by decide) rfl
    exact W.zret (v := 0) hx hb hr (by decide) (fun t ht hW => ⟨⟨0, (), rfl, rfl, cB_of ht hP9 hD9⟩, hS.F ht⟩) hS.2.2 dX8_takeFrom_23
  · have c_1 : ¬ ((p0 : Int32) < 0) := c_1
    refine lv_iload_n hx hb dX8_takeFrom_4 rfl (lv_at hl 1 rfl) ?_
    refine lv_aload_n hx hb dX8_takeFrom_5 rfl (lv_at hl 0 rfl) ?_
    refine va_get (D := D) (ci := 8) (v := .int 0) (C := RX8) (T := TX8) (N := 7) hx hb hg iX8 hown hK hP 0 rfl rfl 5 (by decide) (hg (Cond.fieldLink RX8 27 "SlabWalk$Sights" "count" "I") m528) (fun _ h9 => h9) g_Z_count dX8_takeFrom_6 ?_
    refine lv_icmp_ge (tgt := 22) hx hb dX8_takeFrom_9 (by decide) (fun c_2 => ?_) (fun c_2 => ?_)
    · have c_2 : (0 : Int32) ≤ p0 := c_2
      refine lv_iconst (v := 0) hx hb dX8_takeFrom_22 (by decide) ?_
      have hP9 := hP.sub (ws' := []) [] rfl
      have hD9 := hD.sub (ws' := []) [] (by decide) rfl
      exact W.zret (v := 0) hx hb hr (by decide) (fun t ht hW => ⟨⟨0, (), rfl, rfl, cB_of ht hP9 hD9⟩, hS.F ht⟩) hS.2.2 dX8_takeFrom_23
    · exact absurd (Int32.not_lt.mp c_1) c_2

set_option maxHeartbeats 4000000 in
set_option maxRecDepth 100000 in
theorem c_X11_untell (l : Launch) (D : va_G) (k : ClassId × ClassId × ClassId × ClassId) (sz : Nat) (h0 si : Nat) (F Z : List Value) (p0 : Int32) (g_F_sights : F[9]? = some (.ref si)) (g_Z_count : Z[5]? = some (.int 0)) : Met l yX11_untell (WS yX11_untell cX11_untell 2 (some .boolean)) ({ frames := 1, cells := 0, slots := 0, locals := 21 }) (va_Pc [.ref h0, .int p0] (cP D k [(h0, .inr (11, F)), (si, .inr (8, Z))] sz)) (va_Qi (fun (r : Int32) (_ : Unit) => r = 0) (fun (_ : Unit) t => cB D (va_A [(h0, .inr (11, F)), (si, .inr (8, Z))] sz) [] t) (va_A [(h0, .inr (11, F)), (si, .inr (8, Z))] sz)) 0 0 (va_A [(h0, .inr (11, F)), (si, .inr (8, Z))] sz) := by
  refine Met.ofW (cc := cX11_untell) (maxL := 2) (ret := (some .boolean)) (by decide) rfl ?_
  intro p e s m args below meth c s₁ B hml hv
  obtain ⟨rfl, hsz, hP, hKX, hD0⟩ := hv
  have hK := hKX.1
  have hx := B.exec
  have hb := B.bytes
  have hr := B.returns
  have hts := atoms_spec (ws := WS yX11_untell cX11_untell 2 (some .boolean)) B.pre
  have hgd : ∀ w ∈ gd, w ∈ WS yX11_untell cX11_untell 2 (some .boolean) := fun w h => List.mem_cons_of_mem _ h
  have hg : ∀ w ∈ gd, w.before _ s = true := fun w h => hts w (hgd w h)
  have hown : s.vm.findClass RX11 = some m.cls := findClass_of_methodNamed B.named
  have hlocks := B.notSynchronized
  subst hsz
  have hD := hD0.self (sz := s.heap.size)
  generalize hAe : va_A [(h0, .inr (11, F)), (si, .inr (8, Z))] s.heap.size = A at hD ⊢
  have hA : ∀ q : Nat, s.heap.size ≤ q → A q := fun q h => by rw [← hAe]; exact Or.inr h
  have hS : va_S A s.heap s.heap [] := va_S.rf
  have hP : va_P D classes [(h0, .inr (11, F)), (si, .inr (8, Z))] s.heap := hP
  have hl := lv_entry ([.ref h0, .int p0]) (n := 2) (Nat.le_of_ble_eq_true rfl)
  rw [lg_entry_eq]
  generalize (lg_sl ([.ref h0, .int p0]) ++ List.replicate (2 - (lg_sl ([.ref h0, .int p0])).length) Slot.unset).toArray = ls at hl ⊢
  have hl : lv_has ls 2 [(0, .ref h0), (1, .int p0)] := hl
  refine lv_aload_n hx hb dX11_untell_0 rfl (lv_at hl 0 rfl) ?_
  refine va_get (D := D) (ci := 11) (v := .ref si) (C := RX11) (T := TX11) (N := 13) hx hb hg iX11 hown hK hP 0 rfl rfl 9 (by decide) (hg (Cond.fieldLink RX11 72 "SlabWalk" "sights" "LSlabWalk$Sights;") m579) (fun _ h9 => h9) g_F_sights dX11_untell_1 ?_
  refine lv_iload_n hx hb dX11_untell_4 rfl (lv_at hl 1 rfl) ?_
  have hPc := hP.sub (ws' := [(si, .inr (8, Z))]) [1] rfl
  have hDc := hD.sub (ws' := [(si, .inr (8, Z))]) [1] (by decide) rfl
  have hFc := va_free (wc := [(si, .inr (8, Z))]) hD hS hA [1] rfl
  refine va_calli (va_runV (As := [.int p0]) (rest := []) ⟨hx, hb, hml, hown, hts⟩ (c_X8_takeFrom l D k s.heap.size si Z p0 g_Z_count) (cwV 1 hts (gd_V hgd m1254 m1255 m1256 m128 m1257) rfl rfl rfl (by decide +kernel) ⟨Nat.le_of_ble_eq_true rfl, Nat.le_of_ble_eq_true rfl⟩) (cP_V hPc hKX hDc (ci := 8) (q0 := 0) rfl rfl) rfl rfl hl.1 rfl (lv_room (Nat.le_of_ble_eq_true rfl)) dX11_untell_5 ⟨Nat.le_of_ble_eq_true rfl, Nat.le_of_ble_eq_true rfl⟩) hS (fun q _ h => hFc q h) hFc (fun r_1 u t H1 locs ht hvm hw hB hz1 hk1 hS => ?_)
  obtain ⟨hP1, hD1⟩ := hB
  rw [ht] at hP1
  obtain ⟨hP, hD⟩ := va_join (wr := [(h0, .inr (11, F))]) (w1 := []) hP hD [1] [0] rfl rfl (by decide) (by decide) hk1 hFc hP1 hD1
  generalize H1 = H at hP hS ⊢
  have hP : va_P D classes [(h0, .inr (11, F))] H := hP
  have hD : va_D A [(h0, .inr (11, F))] := hD
  refine W.widen (k := 0) (n := 0) (Nat.le_of_ble_eq_true rfl) (Nat.le_of_ble_eq_true rfl) ?_
  subst hw
  have hP9 := hP.sub (ws' := []) [] rfl
  have hD9 := hD.sub (ws' := []) [] (by decide) rfl
  exact W.zret (v := 0) hx hb hr (by decide) (fun t ht hW => ⟨⟨0, (), rfl, rfl, cB_of ht hP9 hD9⟩, hS.F ht⟩) hS.2.2 dX11_untell_8

set_option maxHeartbeats 4000000 in
set_option maxRecDepth 100000 in
theorem c_X11_later_a (l : Launch) (D : va_G) (k : ClassId × ClassId × ClassId × ClassId) (sz : Nat) (h0 si : Nat) (F Z : List Value) (p0 : Int32) (g_F_sights : F[9]? = some (.ref si)) (g_Z_time : Z[6]? = some (.int 0)) (h_lt0 : p0 < 0) : Met l yX11_later (WS yX11_later cX11_later 2 (some .int)) ({ frames := 0, cells := 0, slots := 0, locals := 0 }) (va_Pc [.ref h0, .int p0] (cP D k [(h0, .inr (11, F)), (si, .inr (8, Z))] sz)) (va_Qi (fun (r : Int32) (_ : Unit) => r = (-1)) (fun (_ : Unit) t => cB D (va_A [(h0, .inr (11, F)), (si, .inr (8, Z))] sz) [] t) (va_A [(h0, .inr (11, F)), (si, .inr (8, Z))] sz)) 0 0 (va_A [(h0, .inr (11, F)), (si, .inr (8, Z))] sz) := by
  refine Met.ofW (cc := cX11_later) (maxL := 2) (ret := (some .int)) (by decide) rfl ?_
  intro p e s m args below meth c s₁ B hml hv
  obtain ⟨rfl, hsz, hP, hKX, hD0⟩ := hv
  have hK := hKX.1
  have hx := B.exec
  have hb := B.bytes
  have hr := B.returns
  have hts := atoms_spec (ws := WS yX11_later cX11_later 2 (some .int)) B.pre
  have hgd : ∀ w ∈ gd, w ∈ WS yX11_later cX11_later 2 (some .int) := fun w h => List.mem_cons_of_mem _ h
  have hg : ∀ w ∈ gd, w.before _ s = true := fun w h => hts w (hgd w h)
  have hown : s.vm.findClass RX11 = some m.cls := findClass_of_methodNamed B.named
  have hlocks := B.notSynchronized
  subst hsz
  have hD := hD0.self (sz := s.heap.size)
  generalize hAe : va_A [(h0, .inr (11, F)), (si, .inr (8, Z))] s.heap.size = A at hD ⊢
  have hA : ∀ q : Nat, s.heap.size ≤ q → A q := fun q h => by rw [← hAe]; exact Or.inr h
  have hS : va_S A s.heap s.heap [] := va_S.rf
  have hP : va_P D classes [(h0, .inr (11, F)), (si, .inr (8, Z))] s.heap := hP
  have hl := lv_entry ([.ref h0, .int p0]) (n := 2) (Nat.le_of_ble_eq_true rfl)
  rw [lg_entry_eq]
  generalize (lg_sl ([.ref h0, .int p0]) ++ List.replicate (2 - (lg_sl ([.ref h0, .int p0])).length) Slot.unset).toArray = ls at hl ⊢
  have hl : lv_has ls 2 [(0, .ref h0), (1, .int p0)] := hl
  refine lv_iload_n hx hb dX11_later_0 rfl (lv_at hl 1 rfl) ?_
  refine lv_if_lt (tgt := 26) hx hb dX11_later_1 (by decide) (fun c_1 => ?_) (fun c_1 => ?_)
  · have c_1 : (p0 : Int32) < 0 := c_1
    refine lv_iconst (v := (-1)) hx hb dX11_later_26 (by decide) ?_
    have hP9 := hP.sub (ws' := []) [] rfl
    have hD9 := hD.sub (ws' := []) [] (by decide) rfl
    exact W.iret (v := (-1)) hx hb hr (fun t ht hW => ⟨⟨(-1), (), rfl, rfl, cB_of ht hP9 hD9⟩, hS.F ht⟩) hS.2.2 dX11_later_27
  · exact absurd h_lt0 c_1

set_option maxHeartbeats 4000000 in
set_option maxRecDepth 100000 in
theorem c_X11_later_b (l : Launch) (D : va_G) (k : ClassId × ClassId × ClassId × ClassId) (sz : Nat) (h0 si : Nat) (F Z : List Value) (p0 : Int32) (g_F_sights : F[9]? = some (.ref si)) (g_Z_time : Z[6]? = some (.int 0)) (h_nlt0 : ¬ (p0 < 0)) (h_gt1000 : 1000 < p0) : Met l yX11_later (WS yX11_later cX11_later 2 (some .int)) ({ frames := 0, cells := 0, slots := 0, locals := 0 }) (va_Pc [.ref h0, .int p0] (cP D k [(h0, .inr (11, F)), (si, .inr (8, Z))] sz)) (va_Qi (fun (r : Int32) (_ : Unit) => r = (-1)) (fun (_ : Unit) t => cB D (va_A [(h0, .inr (11, F)), (si, .inr (8, Z))] sz) [] t) (va_A [(h0, .inr (11, F)), (si, .inr (8, Z))] sz)) 0 0 (va_A [(h0, .inr (11, F)), (si, .inr (8, Z))] sz) := by
  refine Met.ofW (cc := cX11_later) (maxL := 2) (ret := (some .int)) (by decide) rfl ?_
  intro p e s m args below meth c s₁ B hml hv
  obtain ⟨rfl, hsz, hP, hKX, hD0⟩ := hv
  have hK := hKX.1
  have hx := B.exec
  have hb := B.bytes
  have hr := B.returns
  have hts := atoms_spec (ws := WS yX11_later cX11_later 2 (some .int)) B.pre
  have hgd : ∀ w ∈ gd, w ∈ WS yX11_later cX11_later 2 (some .int) := fun w h => List.mem_cons_of_mem _ h
  have hg : ∀ w ∈ gd, w.before _ s = true := fun w h => hts w (hgd w h)
  have hown : s.vm.findClass RX11 = some m.cls := findClass_of_methodNamed B.named
  have hlocks := B.notSynchronized
  subst hsz
  have hD := hD0.self (sz := s.heap.size)
  generalize hAe : va_A [(h0, .inr (11, F)), (si, .inr (8, Z))] s.heap.size = A at hD ⊢
  have hA : ∀ q : Nat, s.heap.size ≤ q → A q := fun q h => by rw [← hAe]; exact Or.inr h
  have hS : va_S A s.heap s.heap [] := va_S.rf
  have hP : va_P D classes [(h0, .inr (11, F)), (si, .inr (8, Z))] s.heap := hP
  have hl := lv_entry ([.ref h0, .int p0]) (n := 2) (Nat.le_of_ble_eq_true rfl)
  rw [lg_entry_eq]
  generalize (lg_sl ([.ref h0, .int p0]) ++ List.replicate (2 - (lg_sl ([.ref h0, .int p0])).length) Slot.unset).toArray = ls at hl ⊢
  have hl : lv_has ls 2 [(0, .ref h0), (1, .int p0)] := hl
  refine lv_iload_n hx hb dX11_later_0 rfl (lv_at hl 1 rfl) ?_
  refine lv_if_lt (tgt := 26) hx hb dX11_later_1 (by decide) (fun c_1 => ?_) (fun c_1 => ?_)
  · exact absurd c_1 h_nlt0
  · have c_1 : ¬ ((p0 : Int32) < 0) := c_1
    refine lv_iload_n hx hb dX11_later_4 rfl (lv_at hl 1 rfl) ?_
    refine lv_sipush (v := 1000) hx hb dX11_later_5 (by decide) ?_
    refine lv_icmp_gt (tgt := 26) hx hb dX11_later_8 (by decide) (fun c_2 => ?_) (fun c_2 => ?_)
    · have c_2 : (1000 : Int32) < p0 := c_2
      refine lv_iconst (v := (-1)) hx hb dX11_later_26 (by decide) ?_
      have hP9 := hP.sub (ws' := []) [] rfl
      have hD9 := hD.sub (ws' := []) [] (by decide) rfl
      exact W.iret (v := (-1)) hx hb hr (fun t ht hW => ⟨⟨(-1), (), rfl, rfl, cB_of ht hP9 hD9⟩, hS.F ht⟩) hS.2.2 dX11_later_27
    · exact absurd h_gt1000 c_2

set_option maxHeartbeats 4000000 in
set_option maxRecDepth 100000 in
theorem c_X11_later_c (l : Launch) (D : va_G) (k : ClassId × ClassId × ClassId × ClassId) (sz : Nat) (h0 si : Nat) (F Z : List Value) (p0 : Int32) (g_F_sights : F[9]? = some (.ref si)) (g_Z_time : Z[6]? = some (.int 0)) (h_nlt0 : ¬ (p0 < 0)) (h_ngt1000 : ¬ (1000 < p0)) (h_nbig : ¬ (100000 < 0 + p0)) : Met l yX11_later (WS yX11_later cX11_later 2 (some .int)) ({ frames := 0, cells := 0, slots := 0, locals := 0 }) (va_Pc [.ref h0, .int p0] (cP D k [(h0, .inr (11, F)), (si, .inr (8, Z))] sz)) (va_Qi (fun (r : Int32) (_ : Unit) => r = (0 + p0)) (fun (_ : Unit) t => cB D (va_A [(h0, .inr (11, F)), (si, .inr (8, Z))] sz) [] t) (va_A [(h0, .inr (11, F)), (si, .inr (8, Z))] sz)) 0 0 (va_A [(h0, .inr (11, F)), (si, .inr (8, Z))] sz) := by
  refine Met.ofW (cc := cX11_later) (maxL := 2) (ret := (some .int)) (by decide) rfl ?_
  intro p e s m args below meth c s₁ B hml hv
  obtain ⟨rfl, hsz, hP, hKX, hD0⟩ := hv
  have hK := hKX.1
  have hx := B.exec
  have hb := B.bytes
  have hr := B.returns
  have hts := atoms_spec (ws := WS yX11_later cX11_later 2 (some .int)) B.pre
  have hgd : ∀ w ∈ gd, w ∈ WS yX11_later cX11_later 2 (some .int) := fun w h => List.mem_cons_of_mem _ h
  have hg : ∀ w ∈ gd, w.before _ s = true := fun w h => hts w (hgd w h)
  have hown : s.vm.findClass RX11 = some m.cls := findClass_of_methodNamed B.named
  have hlocks := B.notSynchronized
  subst hsz
  have hD := hD0.self (sz := s.heap.size)
  generalize hAe : va_A [(h0, .inr (11, F)), (si, .inr (8, Z))] s.heap.size = A at hD ⊢
  have hA : ∀ q : Nat, s.heap.size ≤ q → A q := fun q h => by rw [← hAe]; exact Or.inr h
  have hS : va_S A s.heap s.heap [] := va_S.rf
  have hP : va_P D classes [(h0, .inr (11, F)), (si, .inr (8, Z))] s.heap := hP
  have hl := lv_entry ([.ref h0, .int p0]) (n := 2) (Nat.le_of_ble_eq_true rfl)
  rw [lg_entry_eq]
  generalize (lg_sl ([.ref h0, .int p0]) ++ List.replicate (2 - (lg_sl ([.ref h0, .int p0])).length) Slot.unset).toArray = ls at hl ⊢
  have hl : lv_has ls 2 [(0, .ref h0), (1, .int p0)] := hl
  refine lv_iload_n hx hb dX11_later_0 rfl (lv_at hl 1 rfl) ?_
  refine lv_if_lt (tgt := 26) hx hb dX11_later_1 (by decide) (fun c_1 => ?_) (fun c_1 => ?_)
  · exact absurd c_1 h_nlt0
  · have c_1 : ¬ ((p0 : Int32) < 0) := c_1
    refine lv_iload_n hx hb dX11_later_4 rfl (lv_at hl 1 rfl) ?_
    refine lv_sipush (v := 1000) hx hb dX11_later_5 (by decide) ?_
    refine lv_icmp_gt (tgt := 26) hx hb dX11_later_8 (by decide) (fun c_2 => ?_) (fun c_2 => ?_)
    · exact absurd c_2 h_ngt1000
    · have c_2 : ¬ ((1000 : Int32) < p0) := c_2
      refine lv_aload_n hx hb dX11_later_11 rfl (lv_at hl 0 rfl) ?_
      refine va_get (D := D) (ci := 11) (v := .ref si) (C := RX11) (T := TX11) (N := 13) hx hb hg iX11 hown hK hP 0 rfl rfl 9 (by decide) (hg (Cond.fieldLink RX11 72 "SlabWalk" "sights" "LSlabWalk$Sights;") m579) (fun _ h9 => h9) g_F_sights dX11_later_12 ?_
      refine va_get (D := D) (ci := 8) (v := .int 0) (C := RX8) (T := TX8) (N := 7) hx hb hg iX8 hown hK hP 1 rfl rfl 6 (by decide) (hg (Cond.fieldLink RX11 278 "SlabWalk$Sights" "time" "I") m531) (fun _ h9 => h9) g_Z_time dX11_later_15 ?_
      refine lv_iload_n hx hb dX11_later_18 rfl (lv_at hl 1 rfl) ?_
      refine lv_iadd hx hb dX11_later_19 ?_
      refine lv_ldcw (v := 100000) hx hb hown (hg (Cond.constant RX11 281 100000) m1262) dX11_later_20 ?_
      refine lv_icmp_le (tgt := 28) hx hb dX11_later_23 (by decide) (fun c_3 => ?_) (fun c_3 => ?_)
      · have c_3 : ((0 + p0) : Int32) ≤ 100000 := c_3
        refine lv_aload_n hx hb dX11_later_28 rfl (lv_at hl 0 rfl) ?_
        refine va_get (D := D) (ci := 11) (v := .ref si) (C := RX11) (T := TX11) (N := 13) hx hb hg iX11 hown hK hP 0 rfl rfl 9 (by decide) (hg (Cond.fieldLink RX11 72 "SlabWalk" "sights" "LSlabWalk$Sights;") m579) (fun _ h9 => h9) g_F_sights dX11_later_29 ?_
        refine lv_dup hx hb dX11_later_32 rfl ?_
        refine va_get (D := D) (ci := 8) (v := .int 0) (C := RX8) (T := TX8) (N := 7) hx hb hg iX8 hown hK hP 1 rfl rfl 6 (by decide) (hg (Cond.fieldLink RX11 278 "SlabWalk$Sights" "time" "I") m531) (fun _ h9 => h9) g_Z_time dX11_later_33 ?_
        refine lv_iload_n hx hb dX11_later_36 rfl (lv_at hl 1 rfl) ?_
        refine lv_iadd hx hb dX11_later_37 ?_
        refine va_put (D := D) (ci := 8) (v := .int (0 + p0)) (ty := .int) (C := RX8) (T := TX8) (N := 7) hx hb hg iX8 tyX8 tyX8_ok nmX8 hown hK hP hD hS 1 rfl rfl 6 (by decide) (hg (Cond.fieldLink RX11 278 "SlabWalk$Sights" "time" "I") m531) (fun _ h9 => h9) rfl (by decide +kernel) rfl rfl (fs_lt g_Z_time) dX11_later_38 (fun H locs hP hD hS => ?_)
        have hP : va_P D classes [(h0, .inr (11, F)), (si, .inr (8, (Z.set 6 (.int (0 + p0)))))] H := hP
        have hD : va_D A [(h0, .inr (11, F)), (si, .inr (8, (Z.set 6 (.int (0 + p0)))))] := hD
        refine lv_aload_n hx hb dX11_later_41 rfl (lv_at hl 0 rfl) ?_
        refine va_get (D := D) (ci := 11) (v := .ref si) (C := RX11) (T := TX11) (N := 13) hx hb hg iX11 hown hK hP 0 rfl rfl 9 (by decide) (hg (Cond.fieldLink RX11 72 "SlabWalk" "sights" "LSlabWalk$Sights;") m579) (fun _ h9 => h9) g_F_sights dX11_later_42 ?_
        refine va_get (D := D) (ci := 8) (v := .int (0 + p0)) (C := RX8) (T := TX8) (N := 7) hx hb hg iX8 hown hK hP 1 rfl rfl 6 (by decide) (hg (Cond.fieldLink RX11 278 "SlabWalk$Sights" "time" "I") m531) (fun _ h9 => h9) (fs_eq g_Z_time) dX11_later_45 ?_
        have hP9 := hP.sub (ws' := []) [] rfl
        have hD9 := hD.sub (ws' := []) [] (by decide) rfl
        exact W.iret (v := (0 + p0)) hx hb hr (fun t ht hW => ⟨⟨(0 + p0), (), rfl, rfl, cB_of ht hP9 hD9⟩, hS.F ht⟩) hS.2.2 dX11_later_48
      · exact absurd (Int32.not_lt.mp h_nbig) c_3

set_option maxHeartbeats 4000000 in
set_option maxRecDepth 100000 in
theorem c_X11_end_a (l : Launch) (D : va_G) (k : ClassId × ClassId × ClassId × ClassId) (sz : Nat) (h0 : Nat) (F : List Value) (p0 : Int32) (g_F_taped : F[11]? = some (.int 0)) (h_lt0 : p0 < 0) : Met l yX11_end (WS yX11_end cX11_end 2 (some .int)) ({ frames := 0, cells := 0, slots := 0, locals := 0 }) (va_Pc [.ref h0, .int p0] (cP D k [(h0, .inr (11, F))] sz)) (va_Qi (fun (r : Int32) (_ : Unit) => r = (-1)) (fun (_ : Unit) t => cB D (va_A [(h0, .inr (11, F))] sz) [] t) (va_A [(h0, .inr (11, F))] sz)) 0 0 (va_A [(h0, .inr (11, F))] sz) := by
  refine Met.ofW (cc := cX11_end) (maxL := 2) (ret := (some .int)) (by decide) rfl ?_
  intro p e s m args below meth c s₁ B hml hv
  obtain ⟨rfl, hsz, hP, hKX, hD0⟩ := hv
  have hK := hKX.1
  have hx := B.exec
  have hb := B.bytes
  have hr := B.returns
  have hts := atoms_spec (ws := WS yX11_end cX11_end 2 (some .int)) B.pre
  have hgd : ∀ w ∈ gd, w ∈ WS yX11_end cX11_end 2 (some .int) := fun w h => List.mem_cons_of_mem _ h
  have hg : ∀ w ∈ gd, w.before _ s = true := fun w h => hts w (hgd w h)
  have hown : s.vm.findClass RX11 = some m.cls := findClass_of_methodNamed B.named
  have hlocks := B.notSynchronized
  subst hsz
  have hD := hD0.self (sz := s.heap.size)
  generalize hAe : va_A [(h0, .inr (11, F))] s.heap.size = A at hD ⊢
  have hA : ∀ q : Nat, s.heap.size ≤ q → A q := fun q h => by rw [← hAe]; exact Or.inr h
  have hS : va_S A s.heap s.heap [] := va_S.rf
  have hP : va_P D classes [(h0, .inr (11, F))] s.heap := hP
  have hl := lv_entry ([.ref h0, .int p0]) (n := 2) (Nat.le_of_ble_eq_true rfl)
  rw [lg_entry_eq]
  generalize (lg_sl ([.ref h0, .int p0]) ++ List.replicate (2 - (lg_sl ([.ref h0, .int p0])).length) Slot.unset).toArray = ls at hl ⊢
  have hl : lv_has ls 2 [(0, .ref h0), (1, .int p0)] := hl
  refine lv_iload_n hx hb dX11_end_0 rfl (lv_at hl 1 rfl) ?_
  refine lv_if_lt (tgt := 12) hx hb dX11_end_1 (by decide) (fun c_1 => ?_) (fun c_1 => ?_)
  · have c_1 : (p0 : Int32) < 0 := c_1
    refine lv_iconst (v := (-1)) hx hb dX11_end_12 (by decide) ?_
    have hP9 := hP.sub (ws' := []) [] rfl
    have hD9 := hD.sub (ws' := []) [] (by decide) rfl
    exact W.iret (v := (-1)) hx hb hr (fun t ht hW => ⟨⟨(-1), (), rfl, rfl, cB_of ht hP9 hD9⟩, hS.F ht⟩) hS.2.2 dX11_end_13
  · exact absurd h_lt0 c_1

set_option maxHeartbeats 4000000 in
set_option maxRecDepth 100000 in
theorem c_X11_end_b (l : Launch) (D : va_G) (k : ClassId × ClassId × ClassId × ClassId) (sz : Nat) (h0 : Nat) (F : List Value) (p0 : Int32) (g_F_taped : F[11]? = some (.int 0)) (h_nlt0 : ¬ (p0 < 0)) (h_gt0 : 0 < p0) : Met l yX11_end (WS yX11_end cX11_end 2 (some .int)) ({ frames := 0, cells := 0, slots := 0, locals := 0 }) (va_Pc [.ref h0, .int p0] (cP D k [(h0, .inr (11, F))] sz)) (va_Qi (fun (r : Int32) (_ : Unit) => r = (-1)) (fun (_ : Unit) t => cB D (va_A [(h0, .inr (11, F))] sz) [] t) (va_A [(h0, .inr (11, F))] sz)) 0 0 (va_A [(h0, .inr (11, F))] sz) := by
  refine Met.ofW (cc := cX11_end) (maxL := 2) (ret := (some .int)) (by decide) rfl ?_
  intro p e s m args below meth c s₁ B hml hv
  obtain ⟨rfl, hsz, hP, hKX, hD0⟩ := hv
  have hK := hKX.1
  have hx := B.exec
  have hb := B.bytes
  have hr := B.returns
  have hts := atoms_spec (ws := WS yX11_end cX11_end 2 (some .int)) B.pre
  have hgd : ∀ w ∈ gd, w ∈ WS yX11_end cX11_end 2 (some .int) := fun w h => List.mem_cons_of_mem _ h
  have hg : ∀ w ∈ gd, w.before _ s = true := fun w h => hts w (hgd w h)
  have hown : s.vm.findClass RX11 = some m.cls := findClass_of_methodNamed B.named
  have hlocks := B.notSynchronized
  subst hsz
  have hD := hD0.self (sz := s.heap.size)
  generalize hAe : va_A [(h0, .inr (11, F))] s.heap.size = A at hD ⊢
  have hA : ∀ q : Nat, s.heap.size ≤ q → A q := fun q h => by rw [← hAe]; exact Or.inr h
  have hS : va_S A s.heap s.heap [] := va_S.rf
  have hP : va_P D classes [(h0, .inr (11, F))] s.heap := hP
  have hl := lv_entry ([.ref h0, .int p0]) (n := 2) (Nat.le_of_ble_eq_true rfl)
  rw [lg_entry_eq]
  generalize (lg_sl ([.ref h0, .int p0]) ++ List.replicate (2 - (lg_sl ([.ref h0, .int p0])).length) Slot.unset).toArray = ls at hl ⊢
  have hl : lv_has ls 2 [(0, .ref h0), (1, .int p0)] := hl
  refine lv_iload_n hx hb dX11_end_0 rfl (lv_at hl 1 rfl) ?_
  refine lv_if_lt (tgt := 12) hx hb dX11_end_1 (by decide) (fun c_1 => ?_) (fun c_1 => ?_)
  · exact absurd c_1 h_nlt0
  · have c_1 : ¬ ((p0 : Int32) < 0) := c_1
    refine lv_iload_n hx hb dX11_end_4 rfl (lv_at hl 1 rfl) ?_
    refine lv_aload_n hx hb dX11_end_5 rfl (lv_at hl 0 rfl) ?_
    refine va_get (D := D) (ci := 11) (v := .int 0) (C := RX11) (T := TX11) (N := 13) hx hb hg iX11 hown hK hP 0 rfl rfl 11 (by decide) (hg (Cond.fieldLink RX11 83 "SlabWalk" "taped" "I") m581) (fun _ h9 => h9) g_F_taped dX11_end_6 ?_
    refine lv_icmp_le (tgt := 14) hx hb dX11_end_9 (by decide) (fun c_2 => ?_) (fun c_2 => ?_)
    · exact absurd c_2 (Int32.not_le.mpr h_gt0)
    · have c_2 : ¬ ((p0 : Int32) ≤ 0) := c_2
      refine lv_iconst (v := (-1)) hx hb dX11_end_12 (by decide) ?_
      have hP9 := hP.sub (ws' := []) [] rfl
      have hD9 := hD.sub (ws' := []) [] (by decide) rfl
      exact W.iret (v := (-1)) hx hb hr (fun t ht hW => ⟨⟨(-1), (), rfl, rfl, cB_of ht hP9 hD9⟩, hS.F ht⟩) hS.2.2 dX11_end_13

set_option maxHeartbeats 4000000 in
set_option maxRecDepth 100000 in
theorem c_X11_end_c (l : Launch) (D : va_G) (k : ClassId × ClassId × ClassId × ClassId) (sz : Nat) (h0 : Nat) (F : List Value) (p0 : Int32) (g_F_taped : F[11]? = some (.int 0)) (h_nlt0 : ¬ (p0 < 0)) (h_ngt0 : ¬ (0 < p0)) : Met l yX11_end (WS yX11_end cX11_end 2 (some .int)) ({ frames := 0, cells := 0, slots := 0, locals := 0 }) (va_Pc [.ref h0, .int p0] (cP D k [(h0, .inr (11, F))] sz)) (va_Qi (fun (r : Int32) (_ : Unit) => r = p0) (fun (_ : Unit) t => cB D (va_A [(h0, .inr (11, F))] sz) [] t) (va_A [(h0, .inr (11, F))] sz)) 0 0 (va_A [(h0, .inr (11, F))] sz) := by
  refine Met.ofW (cc := cX11_end) (maxL := 2) (ret := (some .int)) (by decide) rfl ?_
  intro p e s m args below meth c s₁ B hml hv
  obtain ⟨rfl, hsz, hP, hKX, hD0⟩ := hv
  have hK := hKX.1
  have hx := B.exec
  have hb := B.bytes
  have hr := B.returns
  have hts := atoms_spec (ws := WS yX11_end cX11_end 2 (some .int)) B.pre
  have hgd : ∀ w ∈ gd, w ∈ WS yX11_end cX11_end 2 (some .int) := fun w h => List.mem_cons_of_mem _ h
  have hg : ∀ w ∈ gd, w.before _ s = true := fun w h => hts w (hgd w h)
  have hown : s.vm.findClass RX11 = some m.cls := findClass_of_methodNamed B.named
  have hlocks := B.notSynchronized
  subst hsz
  have hD := hD0.self (sz := s.heap.size)
  generalize hAe : va_A [(h0, .inr (11, F))] s.heap.size = A at hD ⊢
  have hA : ∀ q : Nat, s.heap.size ≤ q → A q := fun q h => by rw [← hAe]; exact Or.inr h
  have hS : va_S A s.heap s.heap [] := va_S.rf
  have hP : va_P D classes [(h0, .inr (11, F))] s.heap := hP
  have hl := lv_entry ([.ref h0, .int p0]) (n := 2) (Nat.le_of_ble_eq_true rfl)
  rw [lg_entry_eq]
  generalize (lg_sl ([.ref h0, .int p0]) ++ List.replicate (2 - (lg_sl ([.ref h0, .int p0])).length) Slot.unset).toArray = ls at hl ⊢
  have hl : lv_has ls 2 [(0, .ref h0), (1, .int p0)] := hl
  refine lv_iload_n hx hb dX11_end_0 rfl (lv_at hl 1 rfl) ?_
  refine lv_if_lt (tgt := 12) hx hb dX11_end_1 (by decide) (fun c_1 => ?_) (fun c_1 => ?_)
  · exact absurd c_1 h_nlt0
  · have c_1 : ¬ ((p0 : Int32) < 0) := c_1
    refine lv_iload_n hx hb dX11_end_4 rfl (lv_at hl 1 rfl) ?_
    refine lv_aload_n hx hb dX11_end_5 rfl (lv_at hl 0 rfl) ?_
    refine va_get (D := D) (ci := 11) (v := .int 0) (C := RX11) (T := TX11) (N := 13) hx hb hg iX11 hown hK hP 0 rfl rfl 11 (by decide) (hg (Cond.fieldLink RX11 83 "SlabWalk" "taped" "I") m581) (fun _ h9 => h9) g_F_taped dX11_end_6 ?_
    refine lv_icmp_le (tgt := 14) hx hb dX11_end_9 (by decide) (fun c_2 => ?_) (fun c_2 => ?_)
    · have c_2 : (p0 : Int32) ≤ 0 := c_2
      refine lv_aload_n hx hb dX11_end_14 rfl (lv_at hl 0 rfl) ?_
      refine lv_iload_n hx hb dX11_end_15 rfl (lv_at hl 1 rfl) ?_
      refine va_put (D := D) (ci := 11) (v := .int p0) (ty := .int) (C := RX11) (T := TX11) (N := 13) hx hb hg iX11 tyX11 tyX11_ok nmX11 hown hK hP hD hS 0 rfl rfl 11 (by decide) (hg (Cond.fieldLink RX11 83 "SlabWalk" "taped" "I") m581) (fun _ h9 => h9) rfl (by decide +kernel) rfl rfl (fs_lt g_F_taped) dX11_end_16 (fun H locs hP hD hS => ?_)
      have hP : va_P D classes [(h0, .inr (11, (F.set 11 (.int p0))))] H := hP
      have hD : va_D A [(h0, .inr (11, (F.set 11 (.int p0))))] := hD
      refine lv_iload_n hx hb dX11_end_19 rfl (lv_at hl 1 rfl) ?_
      have hP9 := hP.sub (ws' := []) [] rfl
      have hD9 := hD.sub (ws' := []) [] (by decide) rfl
      exact W.iret (v := p0) hx hb hr (fun t ht hW => ⟨⟨p0, (), rfl, rfl, cB_of ht hP9 hD9⟩, hS.F ht⟩) hS.2.2 dX11_end_20
    · exact absurd (Int32.not_lt.mp h_ngt0) c_2

set_option maxHeartbeats 4000000 in
set_option maxRecDepth 100000 in
theorem c_X11_fault (l : Launch) (D : va_G) (k : ClassId × ClassId × ClassId × ClassId) (sz : Nat) (h0 rd tk : Nat) (F Rd K : List Value) (p0 : Int32) (g_F_reader : F[3]? = some (.ref rd)) (g_Rd_tokens : Rd[0]? = some (.ref tk)) (g_K_fault : K[7]? = some (.int 0)) (g_K_faultPlace : K[8]? = some (.int (-1))) : Met l yX11_fault (WS yX11_fault cX11_fault 2 (some .int)) ({ frames := 0, cells := 0, slots := 0, locals := 0 }) (va_Pc [.ref h0, .int p0] (cP D k [(h0, .inr (11, F)), (rd, .inr (7, Rd)), (tk, .inr (9, K))] sz)) (va_Qi (fun (r : Int32) (_ : Unit) => r = s_fault p0) (fun (_ : Unit) t => cB D (va_A [(h0, .inr (11, F)), (rd, .inr (7, Rd)), (tk, .inr (9, K))] sz) [] t) (va_A [(h0, .inr (11, F)), (rd, .inr (7, Rd)), (tk, .inr (9, K))] sz)) 0 0 (va_A [(h0, .inr (11, F)), (rd, .inr (7, Rd)), (tk, .inr (9, K))] sz) := by
  refine Met.ofW (cc := cX11_fault) (maxL := 2) (ret := (some .int)) (by decide) rfl ?_
  intro p e s m args below meth c s₁ B hml hv
  obtain ⟨rfl, hsz, hP, hKX, hD0⟩ := hv
  have hK := hKX.1
  have hx := B.exec
  have hb := B.bytes
  have hr := B.returns
  have hts := atoms_spec (ws := WS yX11_fault cX11_fault 2 (some .int)) B.pre
  have hgd : ∀ w ∈ gd, w ∈ WS yX11_fault cX11_fault 2 (some .int) := fun w h => List.mem_cons_of_mem _ h
  have hg : ∀ w ∈ gd, w.before _ s = true := fun w h => hts w (hgd w h)
  have hown : s.vm.findClass RX11 = some m.cls := findClass_of_methodNamed B.named
  have hlocks := B.notSynchronized
  subst hsz
  have hD := hD0.self (sz := s.heap.size)
  generalize hAe : va_A [(h0, .inr (11, F)), (rd, .inr (7, Rd)), (tk, .inr (9, K))] s.heap.size = A at hD ⊢
  have hA : ∀ q : Nat, s.heap.size ≤ q → A q := fun q h => by rw [← hAe]; exact Or.inr h
  have hS : va_S A s.heap s.heap [] := va_S.rf
  have hP : va_P D classes [(h0, .inr (11, F)), (rd, .inr (7, Rd)), (tk, .inr (9, K))] s.heap := hP
  have hl := lv_entry ([.ref h0, .int p0]) (n := 2) (Nat.le_of_ble_eq_true rfl)
  rw [lg_entry_eq]
  generalize (lg_sl ([.ref h0, .int p0]) ++ List.replicate (2 - (lg_sl ([.ref h0, .int p0])).length) Slot.unset).toArray = ls at hl ⊢
  have hl : lv_has ls 2 [(0, .ref h0), (1, .int p0)] := hl
  refine lv_iload_n hx hb dX11_fault_0 rfl (lv_at hl 1 rfl) ?_
  refine lv_if_ne (tgt := 17) hx hb dX11_fault_1 (by decide) (fun c_1 => ?_) (fun c_1 => ?_)
  · have c_1 : ¬ ((p0 : Int32) = 0) := c_1
    refine lv_iload_n hx hb dX11_fault_17 rfl (lv_at hl 1 rfl) ?_
    refine lv_iconst (v := 1) hx hb dX11_fault_18 (by decide) ?_
    refine lv_icmp_ne (tgt := 35) hx hb dX11_fault_19 (by decide) (fun c_2 => ?_) (fun c_2 => ?_)
    · have c_2 : ¬ ((p0 : Int32) = 1) := c_2
      refine lv_iconst (v := (-1)) hx hb dX11_fault_35 (by decide) ?_
      have hP9 := hP.sub (ws' := []) [] rfl
      have hD9 := hD.sub (ws' := []) [] (by decide) rfl
      exact W.iret (v := (-1)) hx hb hr (fun t ht hW => ⟨⟨(-1), (), rfl, by simp [s_fault, c_1, c_2], cB_of ht hP9 hD9⟩, hS.F ht⟩) hS.2.2 dX11_fault_36
    · have c_2 : (p0 : Int32) = 1 := c_2
      refine lv_aload_n hx hb dX11_fault_22 rfl (lv_at hl 0 rfl) ?_
      refine va_get (D := D) (ci := 11) (v := .ref rd) (C := RX11) (T := TX11) (N := 13) hx hb hg iX11 hown hK hP 0 rfl rfl 3 (by decide) (hg (Cond.fieldLink RX11 28 "SlabWalk" "reader" "LSlabWalk$Reader;") m573) (fun _ h9 => h9) g_F_reader dX11_fault_23 ?_
      refine va_get (D := D) (ci := 7) (v := .ref tk) (C := RX7) (T := TX7) (N := 10) hx hb hg iX7 hown hK hP 1 rfl rfl 0 (by decide) (hg (Cond.fieldLink RX11 98 "SlabWalk$Reader" "tokens" "LSlabWalk$Tokens;") m312) (fun _ h9 => h9) g_Rd_tokens dX11_fault_26 ?_
      refine va_get (D := D) (ci := 9) (v := .int (-1)) (C := RX9) (T := TX9) (N := 9) hx hb hg iX9 hown hK hP 2 rfl rfl 8 (by decide) (hg (Cond.fieldLink RX11 107 "SlabWalk$Tokens" "faultPlace" "I") m273) (fun _ h9 => h9) g_K_faultPlace dX11_fault_29 ?_
      refine lv_goto (tgt := 36) hx hb dX11_fault_32 (by decide) ?_
      have hP9 := hP.sub (ws' := []) [] rfl
      have hD9 := hD.sub (ws' := []) [] (by decide) rfl
      exact W.iret (v := (-1)) hx hb hr (fun t ht hW => ⟨⟨(-1), (), rfl, by simp [s_fault, c_1, c_2], cB_of ht hP9 hD9⟩, hS.F ht⟩) hS.2.2 dX11_fault_36
  · have c_1 : (p0 : Int32) = 0 := c_1
    refine lv_aload_n hx hb dX11_fault_4 rfl (lv_at hl 0 rfl) ?_
    refine va_get (D := D) (ci := 11) (v := .ref rd) (C := RX11) (T := TX11) (N := 13) hx hb hg iX11 hown hK hP 0 rfl rfl 3 (by decide) (hg (Cond.fieldLink RX11 28 "SlabWalk" "reader" "LSlabWalk$Reader;") m573) (fun _ h9 => h9) g_F_reader dX11_fault_5 ?_
    refine va_get (D := D) (ci := 7) (v := .ref tk) (C := RX7) (T := TX7) (N := 10) hx hb hg iX7 hown hK hP 1 rfl rfl 0 (by decide) (hg (Cond.fieldLink RX11 98 "SlabWalk$Reader" "tokens" "LSlabWalk$Tokens;") m312) (fun _ h9 => h9) g_Rd_tokens dX11_fault_8 ?_
    refine va_get (D := D) (ci := 9) (v := .int 0) (C := RX9) (T := TX9) (N := 9) hx hb hg iX9 hown hK hP 2 rfl rfl 7 (by decide) (hg (Cond.fieldLink RX11 102 "SlabWalk$Tokens" "fault" "I") m271) (fun _ h9 => h9) g_K_fault dX11_fault_11 ?_
    refine lv_goto (tgt := 36) hx hb dX11_fault_14 (by decide) ?_
    have hP9 := hP.sub (ws' := []) [] rfl
    have hD9 := hD.sub (ws' := []) [] (by decide) rfl
    exact W.iret (v := 0) hx hb hr (fun t ht hW => ⟨⟨0, (), rfl, by simp [s_fault, c_1], cB_of ht hP9 hD9⟩, hS.F ht⟩) hS.2.2 dX11_fault_36

set_option maxHeartbeats 4000000 in
set_option maxRecDepth 100000 in
theorem c_X11_today (l : Launch) (D : va_G) (k : ClassId × ClassId × ClassId × ClassId) (sz : Nat) (h0 ea nw : Nat) (F E : List Value) (f1 : Nat → Int32) (v : Int32) (g_F_earnest : F[8]? = some (.ref ea)) (g_E_now : E[0]? = some (.ref nw)) (g_f1__6 : f1 6 = v) : Met l yX11_today (WS yX11_today cX11_today 1 (some .int)) ({ frames := 0, cells := 0, slots := 0, locals := 0 }) (va_Pc [.ref h0] (cP D k [(h0, .inr (11, F)), (ea, .inr (1, E)), (nw, .inl (k.2.1, 10, .inl f1))] sz)) (va_Qi (fun (r : Int32) (_ : Unit) => r = v) (fun (_ : Unit) t => cB D (va_A [(h0, .inr (11, F)), (ea, .inr (1, E)), (nw, .inl (k.2.1, 10, .inl f1))] sz) [(h0, .inr (11, F)), (ea, .inr (1, E)), (nw, .inl (k.2.1, 10, .inl f1))] t) (va_A [(h0, .inr (11, F)), (ea, .inr (1, E)), (nw, .inl (k.2.1, 10, .inl f1))] sz)) 0 0 (va_A [(h0, .inr (11, F)), (ea, .inr (1, E)), (nw, .inl (k.2.1, 10, .inl f1))] sz) := by
  refine Met.ofW (cc := cX11_today) (maxL := 1) (ret := (some .int)) (by decide) rfl ?_
  intro p e s m args below meth c s₁ B hml hv
  obtain ⟨rfl, hsz, hP, hKX, hD0⟩ := hv
  have hK := hKX.1
  have hx := B.exec
  have hb := B.bytes
  have hr := B.returns
  have hts := atoms_spec (ws := WS yX11_today cX11_today 1 (some .int)) B.pre
  have hgd : ∀ w ∈ gd, w ∈ WS yX11_today cX11_today 1 (some .int) := fun w h => List.mem_cons_of_mem _ h
  have hg : ∀ w ∈ gd, w.before _ s = true := fun w h => hts w (hgd w h)
  have hown : s.vm.findClass RX11 = some m.cls := findClass_of_methodNamed B.named
  have hlocks := B.notSynchronized
  subst hsz
  have hD := hD0.self (sz := s.heap.size)
  generalize hAe : va_A [(h0, .inr (11, F)), (ea, .inr (1, E)), (nw, .inl (k.2.1, 10, .inl f1))] s.heap.size = A at hD ⊢
  have hA : ∀ q : Nat, s.heap.size ≤ q → A q := fun q h => by rw [← hAe]; exact Or.inr h
  have hS : va_S A s.heap s.heap [] := va_S.rf
  have hP : va_P D classes [(h0, .inr (11, F)), (ea, .inr (1, E)), (nw, .inl (k.2.1, 10, .inl f1))] s.heap := hP
  have hl := lv_entry ([.ref h0]) (n := 1) (Nat.le_of_ble_eq_true rfl)
  rw [lg_entry_eq]
  generalize (lg_sl ([.ref h0]) ++ List.replicate (1 - (lg_sl ([.ref h0])).length) Slot.unset).toArray = ls at hl ⊢
  have hl : lv_has ls 1 [(0, .ref h0)] := hl
  refine lv_aload_n hx hb dX11_today_0 rfl (lv_at hl 0 rfl) ?_
  refine va_get (D := D) (ci := 11) (v := .ref ea) (C := RX11) (T := TX11) (N := 13) hx hb hg iX11 hown hK hP 0 rfl rfl 8 (by decide) (hg (Cond.fieldLink RX11 65 "SlabWalk" "earnest" "LSlabWalk$Earnest;") m578) (fun _ h9 => h9) g_F_earnest dX11_today_1 ?_
  refine va_get (D := D) (ci := 1) (v := .ref nw) (C := RX1) (T := TX1) (N := 6) hx hb hg iX1 hown hK hP 1 rfl rfl 0 (by decide) (hg (Cond.fieldLink RX11 246 "SlabWalk$Earnest" "now" "[I") m493) (fun _ h9 => h9) g_E_now dX11_today_4 ?_
  refine lv_bipush (v := 6) hx hb dX11_today_7 (by decide) ?_
  refine va_iald hx hb hK hP 2 1 rfl rfl (show ¬ ((6 : Int32) < 0 ∨ 10 ≤ (6 : Int32).toNatClampNeg) from by decide +kernel) dX11_today_9 ?_
  refine lv_topi (fun y_1 ey_1 => ?_)
  obtain rfl : y_1 = v := ey_1.trans (g_f1__6)
  have hP9 := hP.sub (ws' := [(h0, .inr (11, F)), (ea, .inr (1, E)), (nw, .inl (k.2.1, 10, .inl f1))]) [0, 1, 2] rfl
  have hD9 := hD.sub (ws' := [(h0, .inr (11, F)), (ea, .inr (1, E)), (nw, .inl (k.2.1, 10, .inl f1))]) [0, 1, 2] (by decide) rfl
  exact W.iret (v := v) hx hb hr (fun t ht hW => ⟨⟨v, (), rfl, rfl, cB_of ht hP9 hD9⟩, hS.F ht⟩) hS.2.2 dX11_today_10

set_option maxHeartbeats 4000000 in
set_option maxRecDepth 100000 in
theorem c_X1_keepAct (l : Launch) (D : va_G) (k : ClassId × ClassId × ClassId × ClassId) (sz : Nat) (h0 nw kp bx : Nat) (E : List Value) (f1 : Nat → Int32) (f2 : Nat → Int32) (g_E_now : E[0]? = some (.ref nw)) (g_E_kept : E[1]? = some (.ref kp)) (g_E_boxes : E[2]? = some (.ref bx)) (g_E_done : E[4]? = some (.int 0)) (g_E_undone : E[5]? = some (.int 0)) : Met l yX1_keepAct (WS yX1_keepAct cX1_keepAct 1 none) ({ frames := 1, cells := 0, slots := 0, locals := 40 }) (va_Pc [.ref h0] (cP D k [(h0, .inr (1, E)), (nw, .inl (k.2.1, 10, .inl f1)), (kp, .inl (k.2.1, 410, .inl f2))] sz)) (va_Qv (fun _ : Unit => True) (fun (_ : Unit) t => ∃ (E2 : List Value), E2[0]? = some (.ref nw) ∧ cB D (va_A [(h0, .inr (1, E)), (nw, .inl (k.2.1, 10, .inl f1)), (kp, .inl (k.2.1, 410, .inl f2))] sz) [(h0, .inr (1, E2)), (nw, .inl (k.2.1, 10, .inl f1))] t) (va_A [(h0, .inr (1, E)), (nw, .inl (k.2.1, 10, .inl f1)), (kp, .inl (k.2.1, 410, .inl f2))] sz)) 0 0 (va_A [(h0, .inr (1, E)), (nw, .inl (k.2.1, 10, .inl f1)), (kp, .inl (k.2.1, 410, .inl f2))] sz) := by
  refine Met.ofW (cc := cX1_keepAct) (maxL := 1) (ret := none) (by decide) rfl ?_
  intro p e s m args below meth c s₁ B hml hv
  obtain ⟨rfl, hsz, hP, hKX, hD0⟩ := hv
  have hK := hKX.1
  have hx := B.exec
  have hb := B.bytes
  have hr := B.returns
  have hts := atoms_spec (ws := WS yX1_keepAct cX1_keepAct 1 none) B.pre
  have hgd : ∀ w ∈ gd, w ∈ WS yX1_keepAct cX1_keepAct 1 none := fun w h => List.mem_cons_of_mem _ h
  have hg : ∀ w ∈ gd, w.before _ s = true := fun w h => hts w (hgd w h)
  have hown : s.vm.findClass RX1 = some m.cls := findClass_of_methodNamed B.named
  have hlocks := B.notSynchronized
  subst hsz
  have hD := hD0.self (sz := s.heap.size)
  generalize hAe : va_A [(h0, .inr (1, E)), (nw, .inl (k.2.1, 10, .inl f1)), (kp, .inl (k.2.1, 410, .inl f2))] s.heap.size = A at hD ⊢
  have hA : ∀ q : Nat, s.heap.size ≤ q → A q := fun q h => by rw [← hAe]; exact Or.inr h
  have hS : va_S A s.heap s.heap [] := va_S.rf
  have hP : va_P D classes [(h0, .inr (1, E)), (nw, .inl (k.2.1, 10, .inl f1)), (kp, .inl (k.2.1, 410, .inl f2))] s.heap := hP
  have hl := lv_entry ([.ref h0]) (n := 1) (Nat.le_of_ble_eq_true rfl)
  rw [lg_entry_eq]
  generalize (lg_sl ([.ref h0]) ++ List.replicate (1 - (lg_sl ([.ref h0])).length) Slot.unset).toArray = ls at hl ⊢
  have hl : lv_has ls 1 [(0, .ref h0)] := hl
  refine lv_aload_n hx hb dX1_keepAct_0 rfl (lv_at hl 0 rfl) ?_
  refine va_get (D := D) (ci := 1) (v := .int 0) (C := RX1) (T := TX1) (N := 6) hx hb hg iX1 hown hK hP 0 rfl rfl 4 (by decide) (hg (Cond.fieldLink RX1 34 "SlabWalk$Earnest" "done" "I") m497) (fun _ h9 => h9) g_E_done dX1_keepAct_1 ?_
  refine lv_bipush (v := 40) hx hb dX1_keepAct_4 (by decide) ?_
  refine lv_icmp_lt (tgt := 32) hx hb dX1_keepAct_6 (by decide) (fun c_1 => ?_) (fun c_1 => ?_)
  · have c_1 : (0 : Int32) < 40 := c_1
    refine lv_aload_n hx hb dX1_keepAct_32 rfl (lv_at hl 0 rfl) ?_
    refine lv_dup hx hb dX1_keepAct_33 rfl ?_
    refine va_get (D := D) (ci := 1) (v := .int 0) (C := RX1) (T := TX1) (N := 6) hx hb hg iX1 hown hK hP 0 rfl rfl 4 (by decide) (hg (Cond.fieldLink RX1 34 "SlabWalk$Earnest" "done" "I") m497) (fun _ h9 => h9) g_E_done dX1_keepAct_34 ?_
    refine lv_iconst (v := 1) hx hb dX1_keepAct_37 (by decide) ?_
    refine lv_iadd hx hb dX1_keepAct_38 ?_
    refine lv_topi (fun y_2 ey_2 => ?_)
    obtain rfl : y_2 = 1 := ey_2.trans (by decide)
    refine va_put (D := D) (ci := 1) (v := .int 1) (ty := .int) (C := RX1) (T := TX1) (N := 6) hx hb hg iX1 tyX1 tyX1_ok nmX1 hown hK hP hD hS 0 rfl rfl 4 (by decide) (hg (Cond.fieldLink RX1 34 "SlabWalk$Earnest" "done" "I") m497) (fun _ h9 => h9) rfl (by decide +kernel) rfl rfl (fs_lt g_E_done) dX1_keepAct_39 (fun H locs hP hD hS => ?_)
    have hP : va_P D classes [(h0, .inr (1, (E.set 4 (.int 1)))), (nw, .inl (k.2.1, 10, .inl f1)), (kp, .inl (k.2.1, 410, .inl f2))] H := hP
    have hD : va_D A [(h0, .inr (1, (E.set 4 (.int 1)))), (nw, .inl (k.2.1, 10, .inl f1)), (kp, .inl (k.2.1, 410, .inl f2))] := hD
    refine lv_aload_n hx hb dX1_keepAct_42 rfl (lv_at hl 0 rfl) ?_
    refine lv_iconst (v := 0) hx hb dX1_keepAct_43 (by decide) ?_
    refine va_put (D := D) (ci := 1) (v := .int 0) (ty := .int) (C := RX1) (T := TX1) (N := 6) hx hb hg iX1 tyX1 tyX1_ok nmX1 hown hK hP hD hS 0 rfl rfl 5 (by decide) (hg (Cond.fieldLink RX1 37 "SlabWalk$Earnest" "undone" "I") m499) (fun _ h9 => h9) rfl (by decide +kernel) rfl rfl (fs_lt (fs_ne g_E_undone (by decide))) dX1_keepAct_44 (fun H locs hP hD hS => ?_)
    have hP : va_P D classes [(h0, .inr (1, ((E.set 4 (.int 1)).set 5 (.int 0)))), (nw, .inl (k.2.1, 10, .inl f1)), (kp, .inl (k.2.1, 410, .inl f2))] H := hP
    have hD : va_D A [(h0, .inr (1, ((E.set 4 (.int 1)).set 5 (.int 0)))), (nw, .inl (k.2.1, 10, .inl f1)), (kp, .inl (k.2.1, 410, .inl f2))] := hD
    refine lv_aload_n hx hb dX1_keepAct_47 rfl (lv_at hl 0 rfl) ?_
    refine va_get (D := D) (ci := 1) (v := .ref nw) (C := RX1) (T := TX1) (N := 6) hx hb hg iX1 hown hK hP 0 rfl rfl 0 (by decide) (hg (Cond.fieldLink RX1 11 "SlabWalk$Earnest" "now" "[I") m492) (fun _ h9 => h9) (fs_ne (fs_ne g_E_now (by decide)) (by decide)) dX1_keepAct_48 ?_
    refine lv_iconst (v := 0) hx hb dX1_keepAct_51 (by decide) ?_
    refine lv_aload_n hx hb dX1_keepAct_52 rfl (lv_at hl 0 rfl) ?_
    refine va_get (D := D) (ci := 1) (v := .ref kp) (C := RX1) (T := TX1) (N := 6) hx hb hg iX1 hown hK hP 0 rfl rfl 1 (by decide) (hg (Cond.fieldLink RX1 15 "SlabWalk$Earnest" "kept" "[I") m494) (fun _ h9 => h9) (fs_ne (fs_ne g_E_kept (by decide)) (by decide)) dX1_keepAct_53 ?_
    refine lv_aload_n hx hb dX1_keepAct_56 rfl (lv_at hl 0 rfl) ?_
    refine va_get (D := D) (ci := 1) (v := .int 1) (C := RX1) (T := TX1) (N := 6) hx hb hg iX1 hown hK hP 0 rfl rfl 4 (by decide) (hg (Cond.fieldLink RX1 34 "SlabWalk$Earnest" "done" "I") m497) (fun _ h9 => h9) (fs_ne (fs_eq g_E_done) (by decide)) dX1_keepAct_57 ?_
    refine lv_bipush (v := 10) hx hb dX1_keepAct_60 (by decide) ?_
    refine lv_imul hx hb dX1_keepAct_62 ?_
    refine lv_topi (fun y_3 ey_3 => ?_)
    obtain rfl : y_3 = 10 := ey_3.trans (by decide)
    refine lv_bipush (v := 10) hx hb dX1_keepAct_63 (by decide) ?_
    refine va_copyi hx hb (by rw [hml]; exact hl.1.symm) hown (hg (Cond.methodLink RX1 40 arraycopyName) m567) (hg (Cond.native arraycopyName) m569) (hg (Cond.static arraycopyName) m568) (hg (Cond.initialized "java/lang/System") m130) hK hP hD hS 1 2 1 1 rfl rfl rfl rfl rfl (by decide) (by decide) (by decide) (by decide) (by decide) (fun _ _ => rfl) (Nat.le_of_ble_eq_true rfl) (by decide +kernel) dX1_keepAct_65 (fun H locs hP hD hS => ?_)
    have hP : va_P D classes [(h0, .inr (1, ((E.set 4 (.int 1)).set 5 (.int 0)))), (nw, .inl (k.2.1, 10, .inl f1)), (kp, .inl (k.2.1, 410, .inl (va_cpy f1 f2 (0 : Int32).toNatClampNeg (10 : Int32).toNatClampNeg (10 : Int32).toNatClampNeg)))] H := hP
    have hD : va_D A [(h0, .inr (1, ((E.set 4 (.int 1)).set 5 (.int 0)))), (nw, .inl (k.2.1, 10, .inl f1)), (kp, .inl (k.2.1, 410, .inl (va_cpy f1 f2 (0 : Int32).toNatClampNeg (10 : Int32).toNatClampNeg (10 : Int32).toNatClampNeg)))] := hD
    generalize (va_cpy f1 f2 (0 : Int32).toNatClampNeg (10 : Int32).toNatClampNeg (10 : Int32).toNatClampNeg) = f_4 at hP hD
    have hP9 := hP.sub (ws' := [(h0, .inr (1, ((E.set 4 (.int 1)).set 5 (.int 0)))), (nw, .inl (k.2.1, 10, .inl f1))]) [0, 1] rfl
    have hD9 := hD.sub (ws' := [(h0, .inr (1, ((E.set 4 (.int 1)).set 5 (.int 0)))), (nw, .inl (k.2.1, 10, .inl f1))]) [0, 1] (by decide) rfl
    exact W.vret hx hb hr (fun t ht hW => ⟨⟨(), rfl, trivial, ⟨((E.set 4 (.int 1)).set 5 (.int 0)), (fs_ne (fs_ne g_E_now (by decide)) (by decide)), cB_of ht hP9 hD9⟩⟩, hS.F ht⟩) hS.2.2 dX1_keepAct_68
  · exact absurd (by decide) c_1

set_option maxHeartbeats 4000000 in
set_option maxRecDepth 100000 in
theorem c_X11_rain (l : Launch) (D : va_G) (k : ClassId × ClassId × ClassId × ClassId) (sz : Nat) (h0 ea nw kp bx : Nat) (F E : List Value) (f1 : Nat → Int32) (f2 : Nat → Int32) (g_F_earnest : F[8]? = some (.ref ea)) (g_E_now : E[0]? = some (.ref nw)) (g_E_kept : E[1]? = some (.ref kp)) (g_E_boxes : E[2]? = some (.ref bx)) (g_E_done : E[4]? = some (.int 0)) (g_E_undone : E[5]? = some (.int 0)) (g_f1__0 : f1 0 = (-1)) (g_f1__4 : f1 4 = 0) (g_f1__5 : f1 5 = 0) (g_f1__6 : f1 6 = 0) (g_f1__7 : f1 7 = 0) (g_f1__8 : f1 8 = 0) (g_f1__9 : f1 9 = 0) : Met l yX11_rain (WS yX11_rain cX11_rain 1 (some .boolean)) ({ frames := 2, cells := 0, slots := 0, locals := 60 }) (va_Pc [.ref h0] (cP D k [(h0, .inr (11, F)), (ea, .inr (1, E)), (nw, .inl (k.2.1, 10, .inl f1)), (kp, .inl (k.2.1, 410, .inl f2))] sz)) (va_Qi (fun (r : Int32) (_ : Unit) => r = 1) (fun (_ : Unit) t => cB D (va_A [(h0, .inr (11, F)), (ea, .inr (1, E)), (nw, .inl (k.2.1, 10, .inl f1)), (kp, .inl (k.2.1, 410, .inl f2))] sz) [] t) (va_A [(h0, .inr (11, F)), (ea, .inr (1, E)), (nw, .inl (k.2.1, 10, .inl f1)), (kp, .inl (k.2.1, 410, .inl f2))] sz)) 0 0 (va_A [(h0, .inr (11, F)), (ea, .inr (1, E)), (nw, .inl (k.2.1, 10, .inl f1)), (kp, .inl (k.2.1, 410, .inl f2))] sz) := by
  refine Met.ofW (cc := cX11_rain) (maxL := 1) (ret := (some .boolean)) (by decide) rfl ?_
  intro p e s m args below meth c s₁ B hml hv
  obtain ⟨rfl, hsz, hP, hKX, hD0⟩ := hv
  have hK := hKX.1
  have hx := B.exec
  have hb := B.bytes
  have hr := B.returns
  have hts := atoms_spec (ws := WS yX11_rain cX11_rain 1 (some .boolean)) B.pre
  have hgd : ∀ w ∈ gd, w ∈ WS yX11_rain cX11_rain 1 (some .boolean) := fun w h => List.mem_cons_of_mem _ h
  have hg : ∀ w ∈ gd, w.before _ s = true := fun w h => hts w (hgd w h)
  have hown : s.vm.findClass RX11 = some m.cls := findClass_of_methodNamed B.named
  have hlocks := B.notSynchronized
  subst hsz
  have hD := hD0.self (sz := s.heap.size)
  generalize hAe : va_A [(h0, .inr (11, F)), (ea, .inr (1, E)), (nw, .inl (k.2.1, 10, .inl f1)), (kp, .inl (k.2.1, 410, .inl f2))] s.heap.size = A at hD ⊢
  have hA : ∀ q : Nat, s.heap.size ≤ q → A q := fun q h => by rw [← hAe]; exact Or.inr h
  have hS : va_S A s.heap s.heap [] := va_S.rf
  have hP : va_P D classes [(h0, .inr (11, F)), (ea, .inr (1, E)), (nw, .inl (k.2.1, 10, .inl f1)), (kp, .inl (k.2.1, 410, .inl f2))] s.heap := hP
  have hl := lv_entry ([.ref h0]) (n := 1) (Nat.le_of_ble_eq_true rfl)
  rw [lg_entry_eq]
  generalize (lg_sl ([.ref h0]) ++ List.replicate (1 - (lg_sl ([.ref h0])).length) Slot.unset).toArray = ls at hl ⊢
  have hl : lv_has ls 1 [(0, .ref h0)] := hl
  refine lv_aload_n hx hb dX11_rain_0 rfl (lv_at hl 0 rfl) ?_
  refine va_get (D := D) (ci := 11) (v := .ref ea) (C := RX11) (T := TX11) (N := 13) hx hb hg iX11 hown hK hP 0 rfl rfl 8 (by decide) (hg (Cond.fieldLink RX11 65 "SlabWalk" "earnest" "LSlabWalk$Earnest;") m578) (fun _ h9 => h9) g_F_earnest dX11_rain_1 ?_
  refine va_get (D := D) (ci := 1) (v := .ref nw) (C := RX1) (T := TX1) (N := 6) hx hb hg iX1 hown hK hP 1 rfl rfl 0 (by decide) (hg (Cond.fieldLink RX11 246 "SlabWalk$Earnest" "now" "[I") m493) (fun _ h9 => h9) g_E_now dX11_rain_4 ?_
  refine lv_bipush (v := 9) hx hb dX11_rain_7 (by decide) ?_
  refine lv_dup2_11 hx hb dX11_rain_9 rfl rfl ?_
  refine va_iald hx hb hK hP 2 1 rfl rfl (show ¬ ((9 : Int32) < 0 ∨ 10 ≤ (9 : Int32).toNatClampNeg) from by decide +kernel) dX11_rain_10 ?_
  refine lv_topi (fun y_1 ey_1 => ?_)
  obtain rfl : y_1 = 0 := ey_1.trans (g_f1__9)
  refine lv_iconst (v := 1) hx hb dX11_rain_11 (by decide) ?_
  refine lv_ixor hx hb dX11_rain_12 ?_
  refine lv_topi (fun y_2 ey_2 => ?_)
  obtain rfl : y_2 = 1 := ey_2.trans (by decide)
  refine va_iast hx hb hK hP hD hS 2 1 rfl rfl (show ¬ ((9 : Int32) < 0 ∨ 10 ≤ (9 : Int32).toNatClampNeg) from by decide +kernel) dX11_rain_13 (fun H locs hP hD hS => ?_)
  have hP : va_P D classes [(h0, .inr (11, F)), (ea, .inr (1, E)), (nw, .inl (k.2.1, 10, .inl (upd f1 9 1))), (kp, .inl (k.2.1, 410, .inl f2))] H := hP
  have hD : va_D A [(h0, .inr (11, F)), (ea, .inr (1, E)), (nw, .inl (k.2.1, 10, .inl (upd f1 9 1))), (kp, .inl (k.2.1, 410, .inl f2))] := hD
  have g_4 : (upd f1 9 1) 0 = (-1) := g_f1__0
  have g_5 : (upd f1 9 1) 4 = 0 := g_f1__4
  have g_6 : (upd f1 9 1) 5 = 0 := g_f1__5
  have g_7 : (upd f1 9 1) 6 = 0 := g_f1__6
  have g_8 : (upd f1 9 1) 7 = 0 := g_f1__7
  have g_9 : (upd f1 9 1) 8 = 0 := g_f1__8
  have g_10 : (upd f1 9 1) 9 = 1 := rfl
  generalize (upd f1 9 1) = f_3 at hP hD g_4 g_5 g_6 g_7 g_8 g_9 g_10
  refine lv_aload_n hx hb dX11_rain_14 rfl (lv_at hl 0 rfl) ?_
  refine va_get (D := D) (ci := 11) (v := .ref ea) (C := RX11) (T := TX11) (N := 13) hx hb hg iX11 hown hK hP 0 rfl rfl 8 (by decide) (hg (Cond.fieldLink RX11 65 "SlabWalk" "earnest" "LSlabWalk$Earnest;") m578) (fun _ h9 => h9) g_F_earnest dX11_rain_15 ?_
  have hPc := hP.sub (ws' := [(ea, .inr (1, E)), (nw, .inl (k.2.1, 10, .inl f_3)), (kp, .inl (k.2.1, 410, .inl f2))]) [1, 2, 3] rfl
  have hDc := hD.sub (ws' := [(ea, .inr (1, E)), (nw, .inl (k.2.1, 10, .inl f_3)), (kp, .inl (k.2.1, 410, .inl f2))]) [1, 2, 3] (by decide) rfl
  have hFc := va_free (wc := [(ea, .inr (1, E)), (nw, .inl (k.2.1, 10, .inl f_3)), (kp, .inl (k.2.1, 410, .inl f2))]) hD hS hA [1, 2, 3] rfl
  refine va_callv (va_runV (As := []) (rest := []) ⟨hx, hb, hml, hown, hts⟩ (c_X1_keepAct l D k H.size ea nw kp bx E f_3 f2 g_E_now g_E_kept g_E_boxes g_E_done g_E_undone) (cwV 0 hts (gd_V hgd m1178 m1179 m1180 m127 m1181) rfl rfl rfl (by decide +kernel) ⟨Nat.le_of_ble_eq_true rfl, Nat.le_of_ble_eq_true rfl⟩) (cP_V hPc hKX hDc (ci := 1) (q0 := 0) rfl rfl) rfl rfl hl.1 rfl (lv_room (Nat.le_of_ble_eq_true rfl)) dX11_rain_18 ⟨Nat.le_of_ble_eq_true rfl, Nat.le_of_ble_eq_true rfl⟩) hS (fun q _ h => hFc q h) hFc (fun u t H1 locs ht hvm hw hB hz1 hk1 hS => ?_)
  obtain ⟨z_12, g_13, hP1, hD1⟩ := hB
  rw [ht] at hP1
  obtain ⟨hP, hD⟩ := va_join (wr := [(h0, .inr (11, F))]) (w1 := [(ea, .inr (1, z_12)), (nw, .inl (k.2.1, 10, .inl f_3))]) hP hD [1, 2, 3] [0] rfl rfl (by decide) (by decide) hk1 hFc hP1 hD1
  generalize H1 = H at hP hS ⊢
  have hP : va_P D classes [(h0, .inr (11, F)), (ea, .inr (1, z_12)), (nw, .inl (k.2.1, 10, .inl f_3))] H := hP
  have hD : va_D A [(h0, .inr (11, F)), (ea, .inr (1, z_12)), (nw, .inl (k.2.1, 10, .inl f_3))] := hD
  refine W.widen (k := 0) (n := 0) (Nat.le_of_ble_eq_true rfl) (Nat.le_of_ble_eq_true rfl) ?_
  refine lv_aload_n hx hb dX11_rain_21 rfl (lv_at hl 0 rfl) ?_
  refine va_get (D := D) (ci := 11) (v := .ref ea) (C := RX11) (T := TX11) (N := 13) hx hb hg iX11 hown hK hP 0 rfl rfl 8 (by decide) (hg (Cond.fieldLink RX11 65 "SlabWalk" "earnest" "LSlabWalk$Earnest;") m578) (fun _ h9 => h9) g_F_earnest dX11_rain_22 ?_
  refine va_get (D := D) (ci := 1) (v := .ref nw) (C := RX1) (T := TX1) (N := 6) hx hb hg iX1 hown hK hP 1 rfl rfl 0 (by decide) (hg (Cond.fieldLink RX11 246 "SlabWalk$Earnest" "now" "[I") m493) (fun _ h9 => h9) g_13 dX11_rain_25 ?_
  refine lv_bipush (v := 9) hx hb dX11_rain_28 (by decide) ?_
  refine va_iald hx hb hK hP 2 1 rfl rfl (show ¬ ((9 : Int32) < 0 ∨ 10 ≤ (9 : Int32).toNatClampNeg) from by decide +kernel) dX11_rain_30 ?_
  refine lv_topi (fun y_14 ey_14 => ?_)
  obtain rfl : y_14 = 1 := ey_14.trans (g_10)
  refine lv_iconst (v := 1) hx hb dX11_rain_31 (by decide) ?_
  refine lv_icmp_ne (tgt := 39) hx hb dX11_rain_32 (by decide) (fun c_15 => ?_) (fun c_15 => ?_)
  · exact absurd (by decide) c_15
  · have c_15 : (1 : Int32) = 1 := c_15
    refine lv_iconst (v := 1) hx hb dX11_rain_35 (by decide) ?_
    refine lv_goto (tgt := 40) hx hb dX11_rain_36 (by decide) ?_
    have hP9 := hP.sub (ws' := []) [] rfl
    have hD9 := hD.sub (ws' := []) [] (by decide) rfl
    exact W.zret (v := 1) hx hb hr (by decide) (fun t ht hW => ⟨⟨1, (), rfl, rfl, cB_of ht hP9 hD9⟩, hS.F ht⟩) hS.2.2 dX11_rain_40

set_option maxHeartbeats 4000000 in
set_option maxRecDepth 100000 in
theorem c_X11_day (l : Launch) (D : va_G) (k : ClassId × ClassId × ClassId × ClassId) (sz : Nat) (h0 ea nw kp bx : Nat) (F E : List Value) (f1 : Nat → Int32) (f2 : Nat → Int32) (g_F_earnest : F[8]? = some (.ref ea)) (g_E_now : E[0]? = some (.ref nw)) (g_E_kept : E[1]? = some (.ref kp)) (g_E_boxes : E[2]? = some (.ref bx)) (g_E_done : E[4]? = some (.int 0)) (g_E_undone : E[5]? = some (.int 0)) (g_f1__0 : f1 0 = (-1)) (g_f1__4 : f1 4 = 0) (g_f1__5 : f1 5 = 0) (g_f1__6 : f1 6 = 0) (g_f1__7 : f1 7 = 0) (g_f1__8 : f1 8 = 0) (g_f1__9 : f1 9 = 0) : Met l yX11_day (WS yX11_day cX11_day 1 (some .int)) ({ frames := 2, cells := 0, slots := 0, locals := 60 }) (va_Pc [.ref h0] (cP D k [(h0, .inr (11, F)), (ea, .inr (1, E)), (nw, .inl (k.2.1, 10, .inl f1)), (kp, .inl (k.2.1, 410, .inl f2))] sz)) (va_Qi (fun (r : Int32) (_ : Unit) => r = 1) (fun (_ : Unit) t => cB D (va_A [(h0, .inr (11, F)), (ea, .inr (1, E)), (nw, .inl (k.2.1, 10, .inl f1)), (kp, .inl (k.2.1, 410, .inl f2))] sz) [] t) (va_A [(h0, .inr (11, F)), (ea, .inr (1, E)), (nw, .inl (k.2.1, 10, .inl f1)), (kp, .inl (k.2.1, 410, .inl f2))] sz)) 0 0 (va_A [(h0, .inr (11, F)), (ea, .inr (1, E)), (nw, .inl (k.2.1, 10, .inl f1)), (kp, .inl (k.2.1, 410, .inl f2))] sz) := by
  refine Met.ofW (cc := cX11_day) (maxL := 1) (ret := (some .int)) (by decide) rfl ?_
  intro p e s m args below meth c s₁ B hml hv
  obtain ⟨rfl, hsz, hP, hKX, hD0⟩ := hv
  have hK := hKX.1
  have hx := B.exec
  have hb := B.bytes
  have hr := B.returns
  have hts := atoms_spec (ws := WS yX11_day cX11_day 1 (some .int)) B.pre
  have hgd : ∀ w ∈ gd, w ∈ WS yX11_day cX11_day 1 (some .int) := fun w h => List.mem_cons_of_mem _ h
  have hg : ∀ w ∈ gd, w.before _ s = true := fun w h => hts w (hgd w h)
  have hown : s.vm.findClass RX11 = some m.cls := findClass_of_methodNamed B.named
  have hlocks := B.notSynchronized
  subst hsz
  have hD := hD0.self (sz := s.heap.size)
  generalize hAe : va_A [(h0, .inr (11, F)), (ea, .inr (1, E)), (nw, .inl (k.2.1, 10, .inl f1)), (kp, .inl (k.2.1, 410, .inl f2))] s.heap.size = A at hD ⊢
  have hA : ∀ q : Nat, s.heap.size ≤ q → A q := fun q h => by rw [← hAe]; exact Or.inr h
  have hS : va_S A s.heap s.heap [] := va_S.rf
  have hP : va_P D classes [(h0, .inr (11, F)), (ea, .inr (1, E)), (nw, .inl (k.2.1, 10, .inl f1)), (kp, .inl (k.2.1, 410, .inl f2))] s.heap := hP
  have hl := lv_entry ([.ref h0]) (n := 1) (Nat.le_of_ble_eq_true rfl)
  rw [lg_entry_eq]
  generalize (lg_sl ([.ref h0]) ++ List.replicate (1 - (lg_sl ([.ref h0])).length) Slot.unset).toArray = ls at hl ⊢
  have hl : lv_has ls 1 [(0, .ref h0)] := hl
  refine lv_aload_n hx hb dX11_day_0 rfl (lv_at hl 0 rfl) ?_
  have hPc := hP.sub (ws' := [(h0, .inr (11, F)), (ea, .inr (1, E)), (nw, .inl (k.2.1, 10, .inl f1))]) [0, 1, 2] rfl
  have hDc := hD.sub (ws' := [(h0, .inr (11, F)), (ea, .inr (1, E)), (nw, .inl (k.2.1, 10, .inl f1))]) [0, 1, 2] (by decide) rfl
  have hFc := va_free (wc := [(h0, .inr (11, F)), (ea, .inr (1, E)), (nw, .inl (k.2.1, 10, .inl f1))]) hD hS hA [0, 1, 2] rfl
  refine va_calli (va_runV (As := []) (rest := []) ⟨hx, hb, hml, hown, hts⟩ (c_X11_today l D k s.heap.size h0 ea nw F E f1 0 g_F_earnest g_E_now g_f1__6) (cwV 0 hts (gd_V hgd m911 m913 m27 m117 m914) rfl rfl rfl (by decide +kernel) ⟨Nat.le_of_ble_eq_true rfl, Nat.le_of_ble_eq_true rfl⟩) (cP_V hPc hKX hDc (ci := 11) (q0 := 0) rfl rfl) rfl rfl hl.1 rfl (lv_room (Nat.le_of_ble_eq_true rfl)) dX11_day_1 ⟨Nat.le_of_ble_eq_true rfl, Nat.le_of_ble_eq_true rfl⟩) hS (fun q _ h => hFc q h) hFc (fun r_1 u t H1 locs ht hvm hw hB hz1 hk1 hS => ?_)
  obtain ⟨hP1, hD1⟩ := hB
  rw [ht] at hP1
  obtain ⟨hP, hD⟩ := va_join (wr := [(kp, .inl (k.2.1, 410, .inl f2))]) (w1 := [(h0, .inr (11, F)), (ea, .inr (1, E)), (nw, .inl (k.2.1, 10, .inl f1))]) hP hD [0, 1, 2] [3] rfl rfl (by decide) (by decide) hk1 hFc hP1 hD1
  generalize H1 = H at hP hS ⊢
  have hP : va_P D classes [(kp, .inl (k.2.1, 410, .inl f2)), (h0, .inr (11, F)), (ea, .inr (1, E)), (nw, .inl (k.2.1, 10, .inl f1))] H := hP
  have hD : va_D A [(kp, .inl (k.2.1, 410, .inl f2)), (h0, .inr (11, F)), (ea, .inr (1, E)), (nw, .inl (k.2.1, 10, .inl f1))] := hD
  refine W.widen (k := 0) (n := 0) (Nat.le_of_ble_eq_true rfl) (Nat.le_of_ble_eq_true rfl) ?_
  subst hw
  refine lv_sipush (v := 1000) hx hb dX11_day_4 (by decide) ?_
  refine lv_icmp_lt (tgt := 12) hx hb dX11_day_7 (by decide) (fun c_2 => ?_) (fun c_2 => ?_)
  · have c_2 : (0 : Int32) < 1000 := c_2
    refine lv_aload_n hx hb dX11_day_12 rfl (lv_at hl 0 rfl) ?_
    refine va_get (D := D) (ci := 11) (v := .ref ea) (C := RX11) (T := TX11) (N := 13) hx hb hg iX11 hown hK hP 1 rfl rfl 8 (by decide) (hg (Cond.fieldLink RX11 65 "SlabWalk" "earnest" "LSlabWalk$Earnest;") m578) (fun _ h9 => h9) g_F_earnest dX11_day_13 ?_
    refine va_get (D := D) (ci := 1) (v := .ref nw) (C := RX1) (T := TX1) (N := 6) hx hb hg iX1 hown hK hP 2 rfl rfl 0 (by decide) (hg (Cond.fieldLink RX11 246 "SlabWalk$Earnest" "now" "[I") m493) (fun _ h9 => h9) g_E_now dX11_day_16 ?_
    refine lv_bipush (v := 6) hx hb dX11_day_19 (by decide) ?_
    refine lv_dup2_11 hx hb dX11_day_21 rfl rfl ?_
    refine va_iald hx hb hK hP 3 1 rfl rfl (show ¬ ((6 : Int32) < 0 ∨ 10 ≤ (6 : Int32).toNatClampNeg) from by decide +kernel) dX11_day_22 ?_
    refine lv_topi (fun y_3 ey_3 => ?_)
    obtain rfl : y_3 = 0 := ey_3.trans (g_f1__6)
    refine lv_iconst (v := 1) hx hb dX11_day_23 (by decide) ?_
    refine lv_iadd hx hb dX11_day_24 ?_
    refine lv_topi (fun y_4 ey_4 => ?_)
    obtain rfl : y_4 = 1 := ey_4.trans (by decide)
    refine va_iast hx hb hK hP hD hS 3 1 rfl rfl (show ¬ ((6 : Int32) < 0 ∨ 10 ≤ (6 : Int32).toNatClampNeg) from by decide +kernel) dX11_day_25 (fun H locs hP hD hS => ?_)
    have hP : va_P D classes [(kp, .inl (k.2.1, 410, .inl f2)), (h0, .inr (11, F)), (ea, .inr (1, E)), (nw, .inl (k.2.1, 10, .inl (upd f1 6 1)))] H := hP
    have hD : va_D A [(kp, .inl (k.2.1, 410, .inl f2)), (h0, .inr (11, F)), (ea, .inr (1, E)), (nw, .inl (k.2.1, 10, .inl (upd f1 6 1)))] := hD
    have g_6 : (upd f1 6 1) 0 = (-1) := g_f1__0
    have g_7 : (upd f1 6 1) 4 = 0 := g_f1__4
    have g_8 : (upd f1 6 1) 5 = 0 := g_f1__5
    have g_9 : (upd f1 6 1) 7 = 0 := g_f1__7
    have g_10 : (upd f1 6 1) 8 = 0 := g_f1__8
    have g_11 : (upd f1 6 1) 9 = 0 := g_f1__9
    have g_12 : (upd f1 6 1) 6 = 1 := rfl
    generalize (upd f1 6 1) = f_5 at hP hD g_6 g_7 g_8 g_9 g_10 g_11 g_12
    refine lv_aload_n hx hb dX11_day_26 rfl (lv_at hl 0 rfl) ?_
    refine va_get (D := D) (ci := 11) (v := .ref ea) (C := RX11) (T := TX11) (N := 13) hx hb hg iX11 hown hK hP 1 rfl rfl 8 (by decide) (hg (Cond.fieldLink RX11 65 "SlabWalk" "earnest" "LSlabWalk$Earnest;") m578) (fun _ h9 => h9) g_F_earnest dX11_day_27 ?_
    have hPc := hP.sub (ws' := [(ea, .inr (1, E)), (nw, .inl (k.2.1, 10, .inl f_5)), (kp, .inl (k.2.1, 410, .inl f2))]) [2, 3, 0] rfl
    have hDc := hD.sub (ws' := [(ea, .inr (1, E)), (nw, .inl (k.2.1, 10, .inl f_5)), (kp, .inl (k.2.1, 410, .inl f2))]) [2, 3, 0] (by decide) rfl
    have hFc := va_free (wc := [(ea, .inr (1, E)), (nw, .inl (k.2.1, 10, .inl f_5)), (kp, .inl (k.2.1, 410, .inl f2))]) hD hS hA [2, 3, 0] rfl
    refine va_callv (va_runV (As := []) (rest := []) ⟨hx, hb, hml, hown, hts⟩ (c_X1_keepAct l D k H.size ea nw kp bx E f_5 f2 g_E_now g_E_kept g_E_boxes g_E_done g_E_undone) (cwV 0 hts (gd_V hgd m1178 m1179 m1180 m127 m1181) rfl rfl rfl (by decide +kernel) ⟨Nat.le_of_ble_eq_true rfl, Nat.le_of_ble_eq_true rfl⟩) (cP_V hPc hKX hDc (ci := 1) (q0 := 0) rfl rfl) rfl rfl hl.1 rfl (lv_room (Nat.le_of_ble_eq_true rfl)) dX11_day_30 ⟨Nat.le_of_ble_eq_true rfl, Nat.le_of_ble_eq_true rfl⟩) hS (fun q _ h => hFc q h) hFc (fun u t H1 locs ht hvm hw hB hz1 hk1 hS => ?_)
    obtain ⟨z_14, g_15, hP1, hD1⟩ := hB
    rw [ht] at hP1
    obtain ⟨hP, hD⟩ := va_join (wr := [(h0, .inr (11, F))]) (w1 := [(ea, .inr (1, z_14)), (nw, .inl (k.2.1, 10, .inl f_5))]) hP hD [2, 3, 0] [1] rfl rfl (by decide) (by decide) hk1 hFc hP1 hD1
    generalize H1 = H at hP hS ⊢
    have hP : va_P D classes [(h0, .inr (11, F)), (ea, .inr (1, z_14)), (nw, .inl (k.2.1, 10, .inl f_5))] H := hP
    have hD : va_D A [(h0, .inr (11, F)), (ea, .inr (1, z_14)), (nw, .inl (k.2.1, 10, .inl f_5))] := hD
    refine W.widen (k := 0) (n := 0) (Nat.le_of_ble_eq_true rfl) (Nat.le_of_ble_eq_true rfl) ?_
    refine lv_aload_n hx hb dX11_day_33 rfl (lv_at hl 0 rfl) ?_
    have hPc := hP.sub (ws' := [(h0, .inr (11, F)), (ea, .inr (1, z_14)), (nw, .inl (k.2.1, 10, .inl f_5))]) [0, 1, 2] rfl
    have hDc := hD.sub (ws' := [(h0, .inr (11, F)), (ea, .inr (1, z_14)), (nw, .inl (k.2.1, 10, .inl f_5))]) [0, 1, 2] (by decide) rfl
    have hFc := va_free (wc := [(h0, .inr (11, F)), (ea, .inr (1, z_14)), (nw, .inl (k.2.1, 10, .inl f_5))]) hD hS hA [0, 1, 2] rfl
    refine va_calli (va_runV (As := []) (rest := []) ⟨hx, hb, hml, hown, hts⟩ (c_X11_today l D k H.size h0 ea nw F z_14 f_5 1 g_F_earnest g_15 g_12) (cwV 0 hts (gd_V hgd m911 m913 m27 m117 m914) rfl rfl rfl (by decide +kernel) ⟨Nat.le_of_ble_eq_true rfl, Nat.le_of_ble_eq_true rfl⟩) (cP_V hPc hKX hDc (ci := 11) (q0 := 0) rfl rfl) rfl rfl hl.1 rfl (lv_room (Nat.le_of_ble_eq_true rfl)) dX11_day_34 ⟨Nat.le_of_ble_eq_true rfl, Nat.le_of_ble_eq_true rfl⟩) hS (fun q _ h => hFc q h) hFc (fun r_16 u t H1 locs ht hvm hw hB hz1 hk1 hS => ?_)
    obtain ⟨hP1, hD1⟩ := hB
    rw [ht] at hP1
    obtain ⟨hP, hD⟩ := va_join (wr := []) (w1 := [(h0, .inr (11, F)), (ea, .inr (1, z_14)), (nw, .inl (k.2.1, 10, .inl f_5))]) hP hD [0, 1, 2] [] rfl rfl (by decide) (by decide) hk1 hFc hP1 hD1
    generalize H1 = H at hP hS ⊢
    have hP : va_P D classes [(h0, .inr (11, F)), (ea, .inr (1, z_14)), (nw, .inl (k.2.1, 10, .inl f_5))] H := hP
    have hD : va_D A [(h0, .inr (11, F)), (ea, .inr (1, z_14)), (nw, .inl (k.2.1, 10, .inl f_5))] := hD
    refine W.widen (k := 0) (n := 0) (Nat.le_of_ble_eq_true rfl) (Nat.le_of_ble_eq_true rfl) ?_
    subst hw
    have hP9 := hP.sub (ws' := []) [] rfl
    have hD9 := hD.sub (ws' := []) [] (by decide) rfl
    exact W.iret (v := 1) hx hb hr (fun t ht hW => ⟨⟨1, (), rfl, rfl, cB_of ht hP9 hD9⟩, hS.F ht⟩) hS.2.2 dX11_day_37
  · exact absurd (by decide) c_2

set_option maxHeartbeats 4000000 in
set_option maxRecDepth 100000 in
theorem c_X1_keepIn_a (l : Launch) (D : va_G) (k : ClassId × ClassId × ClassId × ClassId) (sz : Nat) (h0 nw bx : Nat) (E : List Value) (f1 : Nat → Int32) (f3 : Nat → Int32) (p0 : Int32) (g_E_now : E[0]? = some (.ref nw)) (g_E_boxes : E[2]? = some (.ref bx)) (g_E_full : E[3]? = some (.int 0)) (h_lt0 : p0 < 0) : Met l yX1_keepIn (WS yX1_keepIn cX1_keepIn 2 (some .boolean)) ({ frames := 0, cells := 0, slots := 0, locals := 0 }) (va_Pc [.ref h0, .int p0] (cP D k [(h0, .inr (1, E)), (nw, .inl (k.2.1, 10, .inl f1)), (bx, .inl (k.2.1, 30, .inl f3))] sz)) (va_Qi (fun (r : Int32) (_ : Unit) => r = 0) (fun (_ : Unit) t => ∃ (E2 : List Value), E2[0]? = some (.ref nw) ∧ cB D (va_A [(h0, .inr (1, E)), (nw, .inl (k.2.1, 10, .inl f1)), (bx, .inl (k.2.1, 30, .inl f3))] sz) [(h0, .inr (1, E2)), (nw, .inl (k.2.1, 10, .inl f1))] t) (va_A [(h0, .inr (1, E)), (nw, .inl (k.2.1, 10, .inl f1)), (bx, .inl (k.2.1, 30, .inl f3))] sz)) 0 0 (va_A [(h0, .inr (1, E)), (nw, .inl (k.2.1, 10, .inl f1)), (bx, .inl (k.2.1, 30, .inl f3))] sz) := by
  refine Met.ofW (cc := cX1_keepIn) (maxL := 2) (ret := (some .boolean)) (by decide) rfl ?_
  intro p e s m args below meth c s₁ B hml hv
  obtain ⟨rfl, hsz, hP, hKX, hD0⟩ := hv
  have hK := hKX.1
  have hx := B.exec
  have hb := B.bytes
  have hr := B.returns
  have hts := atoms_spec (ws := WS yX1_keepIn cX1_keepIn 2 (some .boolean)) B.pre
  have hgd : ∀ w ∈ gd, w ∈ WS yX1_keepIn cX1_keepIn 2 (some .boolean) := fun w h => List.mem_cons_of_mem _ h
  have hg : ∀ w ∈ gd, w.before _ s = true := fun w h => hts w (hgd w h)
  have hown : s.vm.findClass RX1 = some m.cls := findClass_of_methodNamed B.named
  have hlocks := B.notSynchronized
  subst hsz
  have hD := hD0.self (sz := s.heap.size)
  generalize hAe : va_A [(h0, .inr (1, E)), (nw, .inl (k.2.1, 10, .inl f1)), (bx, .inl (k.2.1, 30, .inl f3))] s.heap.size = A at hD ⊢
  have hA : ∀ q : Nat, s.heap.size ≤ q → A q := fun q h => by rw [← hAe]; exact Or.inr h
  have hS : va_S A s.heap s.heap [] := va_S.rf
  have hP : va_P D classes [(h0, .inr (1, E)), (nw, .inl (k.2.1, 10, .inl f1)), (bx, .inl (k.2.1, 30, .inl f3))] s.heap := hP
  have hl := lv_entry ([.ref h0, .int p0]) (n := 2) (Nat.le_of_ble_eq_true rfl)
  rw [lg_entry_eq]
  generalize (lg_sl ([.ref h0, .int p0]) ++ List.replicate (2 - (lg_sl ([.ref h0, .int p0])).length) Slot.unset).toArray = ls at hl ⊢
  have hl : lv_has ls 2 [(0, .ref h0), (1, .int p0)] := hl
  refine lv_iload_n hx hb dX1_keepIn_0 rfl (lv_at hl 1 rfl) ?_
  refine lv_if_lt (tgt := 9) hx hb dX1_keepIn_1 (by decide) (fun c_1 => ?_) (fun c_1 => ?_)
  · have c_1 : (p0 : Int32) < 0 := c_1
    refine lv_iconst (v := 0) hx hb dX1_keepIn_9 (by decide) ?_
    have hP9 := hP.sub (ws' := [(h0, .inr (1, E)), (nw, .inl (k.2.1, 10, .inl f1))]) [0, 1] rfl
    have hD9 := hD.sub (ws' := [(h0, .inr (1, E)), (nw, .inl (k.2.1, 10, .inl f1))]) [0, 1] (by decide) rfl
    exact W.zret (v := 0) hx hb hr (by decide) (fun t ht hW => ⟨⟨0, (), rfl, rfl, ⟨E, g_E_now, cB_of ht hP9 hD9⟩⟩, hS.F ht⟩) hS.2.2 dX1_keepIn_10
  · exact absurd h_lt0 c_1

set_option maxHeartbeats 4000000 in
set_option maxRecDepth 100000 in
theorem c_X1_keepIn_b (l : Launch) (D : va_G) (k : ClassId × ClassId × ClassId × ClassId) (sz : Nat) (h0 nw bx : Nat) (E : List Value) (f1 : Nat → Int32) (f3 : Nat → Int32) (p0 : Int32) (g_E_now : E[0]? = some (.ref nw)) (g_E_boxes : E[2]? = some (.ref bx)) (g_E_full : E[3]? = some (.int 0)) (h_nlt0 : ¬ (p0 < 0)) (h_ge3 : 3 ≤ p0) : Met l yX1_keepIn (WS yX1_keepIn cX1_keepIn 2 (some .boolean)) ({ frames := 0, cells := 0, slots := 0, locals := 0 }) (va_Pc [.ref h0, .int p0] (cP D k [(h0, .inr (1, E)), (nw, .inl (k.2.1, 10, .inl f1)), (bx, .inl (k.2.1, 30, .inl f3))] sz)) (va_Qi (fun (r : Int32) (_ : Unit) => r = 0) (fun (_ : Unit) t => ∃ (E2 : List Value), E2[0]? = some (.ref nw) ∧ cB D (va_A [(h0, .inr (1, E)), (nw, .inl (k.2.1, 10, .inl f1)), (bx, .inl (k.2.1, 30, .inl f3))] sz) [(h0, .inr (1, E2)), (nw, .inl (k.2.1, 10, .inl f1))] t) (va_A [(h0, .inr (1, E)), (nw, .inl (k.2.1, 10, .inl f1)), (bx, .inl (k.2.1, 30, .inl f3))] sz)) 0 0 (va_A [(h0, .inr (1, E)), (nw, .inl (k.2.1, 10, .inl f1)), (bx, .inl (k.2.1, 30, .inl f3))] sz) := by
  refine Met.ofW (cc := cX1_keepIn) (maxL := 2) (ret := (some .boolean)) (by decide) rfl ?_
  intro p e s m args below meth c s₁ B hml hv
  obtain ⟨rfl, hsz, hP, hKX, hD0⟩ := hv
  have hK := hKX.1
  have hx := B.exec
  have hb := B.bytes
  have hr := B.returns
  have hts := atoms_spec (ws := WS yX1_keepIn cX1_keepIn 2 (some .boolean)) B.pre
  have hgd : ∀ w ∈ gd, w ∈ WS yX1_keepIn cX1_keepIn 2 (some .boolean) := fun w h => List.mem_cons_of_mem _ h
  have hg : ∀ w ∈ gd, w.before _ s = true := fun w h => hts w (hgd w h)
  have hown : s.vm.findClass RX1 = some m.cls := findClass_of_methodNamed B.named
  have hlocks := B.notSynchronized
  subst hsz
  have hD := hD0.self (sz := s.heap.size)
  generalize hAe : va_A [(h0, .inr (1, E)), (nw, .inl (k.2.1, 10, .inl f1)), (bx, .inl (k.2.1, 30, .inl f3))] s.heap.size = A at hD ⊢
  have hA : ∀ q : Nat, s.heap.size ≤ q → A q := fun q h => by rw [← hAe]; exact Or.inr h
  have hS : va_S A s.heap s.heap [] := va_S.rf
  have hP : va_P D classes [(h0, .inr (1, E)), (nw, .inl (k.2.1, 10, .inl f1)), (bx, .inl (k.2.1, 30, .inl f3))] s.heap := hP
  have hl := lv_entry ([.ref h0, .int p0]) (n := 2) (Nat.le_of_ble_eq_true rfl)
  rw [lg_entry_eq]
  generalize (lg_sl ([.ref h0, .int p0]) ++ List.replicate (2 - (lg_sl ([.ref h0, .int p0])).length) Slot.unset).toArray = ls at hl ⊢
  have hl : lv_has ls 2 [(0, .ref h0), (1, .int p0)] := hl
  refine lv_iload_n hx hb dX1_keepIn_0 rfl (lv_at hl 1 rfl) ?_
  refine lv_if_lt (tgt := 9) hx hb dX1_keepIn_1 (by decide) (fun c_1 => ?_) (fun c_1 => ?_)
  · exact absurd c_1 h_nlt0
  · have c_1 : ¬ ((p0 : Int32) < 0) := c_1
    refine lv_iload_n hx hb dX1_keepIn_4 rfl (lv_at hl 1 rfl) ?_
    refine lv_iconst (v := 3) hx hb dX1_keepIn_5 (by decide) ?_
    refine lv_icmp_lt (tgt := 11) hx hb dX1_keepIn_6 (by decide) (fun c_2 => ?_) (fun c_2 => ?_)
    · exact absurd c_2 (Int32.not_lt.mpr h_ge3)
    · have c_2 : ¬ ((p0 : Int32) < 3) := c_2
      refine lv_iconst (v := 0) hx hb dX1_keepIn_9 (by decide) ?_
      have hP9 := hP.sub (ws' := [(h0, .inr (1, E)), (nw, .inl (k.2.1, 10, .inl f1))]) [0, 1] rfl
      have hD9 := hD.sub (ws' := [(h0, .inr (1, E)), (nw, .inl (k.2.1, 10, .inl f1))]) [0, 1] (by decide) rfl
      exact W.zret (v := 0) hx hb hr (by decide) (fun t ht hW => ⟨⟨0, (), rfl, rfl, ⟨E, g_E_now, cB_of ht hP9 hD9⟩⟩, hS.F ht⟩) hS.2.2 dX1_keepIn_10

set_option maxHeartbeats 4000000 in
set_option maxRecDepth 100000 in
theorem c_X1_keepIn_c (l : Launch) (D : va_G) (k : ClassId × ClassId × ClassId × ClassId) (sz : Nat) (h0 nw bx : Nat) (E : List Value) (f1 : Nat → Int32) (f3 : Nat → Int32) (p0 : Int32) (g_E_now : E[0]? = some (.ref nw)) (g_E_boxes : E[2]? = some (.ref bx)) (g_E_full : E[3]? = some (.int 0)) (h_nlt0 : ¬ (p0 < 0)) (h_nge3 : ¬ (3 ≤ p0)) : Met l yX1_keepIn (WS yX1_keepIn cX1_keepIn 2 (some .boolean)) ({ frames := 1, cells := 0, slots := 0, locals := 40 }) (va_Pc [.ref h0, .int p0] (cP D k [(h0, .inr (1, E)), (nw, .inl (k.2.1, 10, .inl f1)), (bx, .inl (k.2.1, 30, .inl f3))] sz)) (va_Qi (fun (r : Int32) (_ : Unit) => r = 1) (fun (_ : Unit) t => ∃ (E2 : List Value), E2[0]? = some (.ref nw) ∧ cB D (va_A [(h0, .inr (1, E)), (nw, .inl (k.2.1, 10, .inl f1)), (bx, .inl (k.2.1, 30, .inl f3))] sz) [(h0, .inr (1, E2)), (nw, .inl (k.2.1, 10, .inl f1))] t) (va_A [(h0, .inr (1, E)), (nw, .inl (k.2.1, 10, .inl f1)), (bx, .inl (k.2.1, 30, .inl f3))] sz)) 0 0 (va_A [(h0, .inr (1, E)), (nw, .inl (k.2.1, 10, .inl f1)), (bx, .inl (k.2.1, 30, .inl f3))] sz) := by
  refine Met.ofW (cc := cX1_keepIn) (maxL := 2) (ret := (some .boolean)) (by decide) rfl ?_
  intro p e s m args below meth c s₁ B hml hv
  obtain ⟨rfl, hsz, hP, hKX, hD0⟩ := hv
  have hK := hKX.1
  have hx := B.exec
  have hb := B.bytes
  have hr := B.returns
  have hts := atoms_spec (ws := WS yX1_keepIn cX1_keepIn 2 (some .boolean)) B.pre
  have hgd : ∀ w ∈ gd, w ∈ WS yX1_keepIn cX1_keepIn 2 (some .boolean) := fun w h => List.mem_cons_of_mem _ h
  have hg : ∀ w ∈ gd, w.before _ s = true := fun w h => hts w (hgd w h)
  have hown : s.vm.findClass RX1 = some m.cls := findClass_of_methodNamed B.named
  have hlocks := B.notSynchronized
  subst hsz
  have hD := hD0.self (sz := s.heap.size)
  generalize hAe : va_A [(h0, .inr (1, E)), (nw, .inl (k.2.1, 10, .inl f1)), (bx, .inl (k.2.1, 30, .inl f3))] s.heap.size = A at hD ⊢
  have hA : ∀ q : Nat, s.heap.size ≤ q → A q := fun q h => by rw [← hAe]; exact Or.inr h
  have hS : va_S A s.heap s.heap [] := va_S.rf
  have hP : va_P D classes [(h0, .inr (1, E)), (nw, .inl (k.2.1, 10, .inl f1)), (bx, .inl (k.2.1, 30, .inl f3))] s.heap := hP
  have hl := lv_entry ([.ref h0, .int p0]) (n := 2) (Nat.le_of_ble_eq_true rfl)
  rw [lg_entry_eq]
  generalize (lg_sl ([.ref h0, .int p0]) ++ List.replicate (2 - (lg_sl ([.ref h0, .int p0])).length) Slot.unset).toArray = ls at hl ⊢
  have hl : lv_has ls 2 [(0, .ref h0), (1, .int p0)] := hl
  refine lv_iload_n hx hb dX1_keepIn_0 rfl (lv_at hl 1 rfl) ?_
  refine lv_if_lt (tgt := 9) hx hb dX1_keepIn_1 (by decide) (fun c_1 => ?_) (fun c_1 => ?_)
  · exact absurd c_1 h_nlt0
  · have c_1 : ¬ ((p0 : Int32) < 0) := c_1
    refine lv_iload_n hx hb dX1_keepIn_4 rfl (lv_at hl 1 rfl) ?_
    refine lv_iconst (v := 3) hx hb dX1_keepIn_5 (by decide) ?_
    refine lv_icmp_lt (tgt := 11) hx hb dX1_keepIn_6 (by decide) (fun c_2 => ?_) (fun c_2 => ?_)
    · have c_2 : (p0 : Int32) < 3 := c_2
      refine lv_aload_n hx hb dX1_keepIn_11 rfl (lv_at hl 0 rfl) ?_
      refine va_get (D := D) (ci := 1) (v := .ref nw) (C := RX1) (T := TX1) (N := 6) hx hb hg iX1 hown hK hP 0 rfl rfl 0 (by decide) (hg (Cond.fieldLink RX1 11 "SlabWalk$Earnest" "now" "[I") m492) (fun _ h9 => h9) g_E_now dX1_keepIn_12 ?_
      refine lv_iconst (v := 0) hx hb dX1_keepIn_15 (by decide) ?_
      refine lv_aload_n hx hb dX1_keepIn_16 rfl (lv_at hl 0 rfl) ?_
      refine va_get (D := D) (ci := 1) (v := .ref bx) (C := RX1) (T := TX1) (N := 6) hx hb hg iX1 hown hK hP 0 rfl rfl 2 (by decide) (hg (Cond.fieldLink RX1 18 "SlabWalk$Earnest" "boxes" "[I") m495) (fun _ h9 => h9) g_E_boxes dX1_keepIn_17 ?_
      refine lv_iload_n hx hb dX1_keepIn_20 rfl (lv_at hl 1 rfl) ?_
      refine lv_bipush (v := 10) hx hb dX1_keepIn_21 (by decide) ?_
      refine lv_imul hx hb dX1_keepIn_23 ?_
      refine lv_bipush (v := 10) hx hb dX1_keepIn_24 (by decide) ?_
      refine va_copyi hx hb (by rw [hml]; exact hl.1.symm) hown (hg (Cond.methodLink RX1 40 arraycopyName) m567) (hg (Cond.native arraycopyName) m569) (hg (Cond.static arraycopyName) m568) (hg (Cond.initialized "java/lang/System") m130) hK hP hD hS 1 2 1 1 rfl rfl rfl rfl rfl (by decide) (by decide) (by decide) (by decide) (by decide) (fun _ _ => rfl) (Nat.le_of_ble_eq_true rfl) (by decide +kernel) dX1_keepIn_26 (fun H locs hP hD hS => ?_)
      have hP : va_P D classes [(h0, .inr (1, E)), (nw, .inl (k.2.1, 10, .inl f1)), (bx, .inl (k.2.1, 30, .inl (va_cpy f1 f3 (0 : Int32).toNatClampNeg ((p0 * 10) : Int32).toNatClampNeg (10 : Int32).toNatClampNeg)))] H := hP
      have hD : va_D A [(h0, .inr (1, E)), (nw, .inl (k.2.1, 10, .inl f1)), (bx, .inl (k.2.1, 30, .inl (va_cpy f1 f3 (0 : Int32).toNatClampNeg ((p0 * 10) : Int32).toNatClampNeg (10 : Int32).toNatClampNeg)))] := hD
      generalize (va_cpy f1 f3 (0 : Int32).toNatClampNeg ((p0 * 10) : Int32).toNatClampNeg (10 : Int32).toNatClampNeg) = f_3 at hP hD
      refine lv_aload_n hx hb dX1_keepIn_29 rfl (lv_at hl 0 rfl) ?_
      refine lv_dup hx hb dX1_keepIn_30 rfl ?_
      refine va_get (D := D) (ci := 1) (v := .int 0) (C := RX1) (T := TX1) (N := 6) hx hb hg iX1 hown hK hP 0 rfl rfl 3 (by decide) (hg (Cond.fieldLink RX1 27 "SlabWalk$Earnest" "full" "I") m496) (fun _ h9 => h9) g_E_full dX1_keepIn_31 ?_
      refine lv_iconst (v := 1) hx hb dX1_keepIn_34 (by decide) ?_
      refine lv_iload_n hx hb dX1_keepIn_35 rfl (lv_at hl 1 rfl) ?_
      refine lv_ishl hx hb dX1_keepIn_36 ?_
      refine lv_ior hx hb dX1_keepIn_37 ?_
      refine va_put (D := D) (ci := 1) (v := .int (0 ||| (1 <<< (p0 &&& 31)))) (ty := .int) (C := RX1) (T := TX1) (N := 6) hx hb hg iX1 tyX1 tyX1_ok nmX1 hown hK hP hD hS 0 rfl rfl 3 (by decide) (hg (Cond.fieldLink RX1 27 "SlabWalk$Earnest" "full" "I") m496) (fun _ h9 => h9) rfl (by decide +kernel) rfl rfl (fs_lt g_E_full) dX1_keepIn_38 (fun H locs hP hD hS => ?_)
      have hP : va_P D classes [(h0, .inr (1, (E.set 3 (.int (0 ||| (1 <<< (p0 &&& 31))))))), (nw, .inl (k.2.1, 10, .inl f1)), (bx, .inl (k.2.1, 30, .inl f_3))] H := hP
      have hD : va_D A [(h0, .inr (1, (E.set 3 (.int (0 ||| (1 <<< (p0 &&& 31))))))), (nw, .inl (k.2.1, 10, .inl f1)), (bx, .inl (k.2.1, 30, .inl f_3))] := hD
      refine lv_iconst (v := 1) hx hb dX1_keepIn_41 (by decide) ?_
      have hP9 := hP.sub (ws' := [(h0, .inr (1, (E.set 3 (.int (0 ||| (1 <<< (p0 &&& 31))))))), (nw, .inl (k.2.1, 10, .inl f1))]) [0, 1] rfl
      have hD9 := hD.sub (ws' := [(h0, .inr (1, (E.set 3 (.int (0 ||| (1 <<< (p0 &&& 31))))))), (nw, .inl (k.2.1, 10, .inl f1))]) [0, 1] (by decide) rfl
      exact W.zret (v := 1) hx hb hr (by decide) (fun t ht hW => ⟨⟨1, (), rfl, rfl, ⟨(E.set 3 (.int (0 ||| (1 <<< (p0 &&& 31))))), (fs_ne g_E_now (by decide)), cB_of ht hP9 hD9⟩⟩, hS.F ht⟩) hS.2.2 dX1_keepIn_42
    · exact absurd (Int32.not_le.mp h_nge3) c_2

set_option maxHeartbeats 4000000 in
set_option maxRecDepth 100000 in
theorem c_X11_image_a (l : Launch) (D : va_G) (k : ClassId × ClassId × ClassId × ClassId) (sz : Nat) (h0 ea nw bx : Nat) (F E : List Value) (f1 : Nat → Int32) (f3 : Nat → Int32) (p0 : Int32) (g_F_earnest : F[8]? = some (.ref ea)) (g_E_now : E[0]? = some (.ref nw)) (g_E_boxes : E[2]? = some (.ref bx)) (g_E_full : E[3]? = some (.int 0)) (g_f1__6 : f1 6 = 0) (h_lt0 : p0 < 0) : Met l yX11_image (WS yX11_image cX11_image 2 (some .int)) ({ frames := 1, cells := 0, slots := 0, locals := 21 }) (va_Pc [.ref h0, .int p0] (cP D k [(h0, .inr (11, F)), (ea, .inr (1, E)), (nw, .inl (k.2.1, 10, .inl f1)), (bx, .inl (k.2.1, 30, .inl f3))] sz)) (va_Qi (fun (r : Int32) (_ : Unit) => r = (-1)) (fun (_ : Unit) t => cB D (va_A [(h0, .inr (11, F)), (ea, .inr (1, E)), (nw, .inl (k.2.1, 10, .inl f1)), (bx, .inl (k.2.1, 30, .inl f3))] sz) [] t) (va_A [(h0, .inr (11, F)), (ea, .inr (1, E)), (nw, .inl (k.2.1, 10, .inl f1)), (bx, .inl (k.2.1, 30, .inl f3))] sz)) 0 0 (va_A [(h0, .inr (11, F)), (ea, .inr (1, E)), (nw, .inl (k.2.1, 10, .inl f1)), (bx, .inl (k.2.1, 30, .inl f3))] sz) := by
  refine Met.ofW (cc := cX11_image) (maxL := 2) (ret := (some .int)) (by decide) rfl ?_
  intro p e s m args below meth c s₁ B hml hv
  obtain ⟨rfl, hsz, hP, hKX, hD0⟩ := hv
  have hK := hKX.1
  have hx := B.exec
  have hb := B.bytes
  have hr := B.returns
  have hts := atoms_spec (ws := WS yX11_image cX11_image 2 (some .int)) B.pre
  have hgd : ∀ w ∈ gd, w ∈ WS yX11_image cX11_image 2 (some .int) := fun w h => List.mem_cons_of_mem _ h
  have hg : ∀ w ∈ gd, w.before _ s = true := fun w h => hts w (hgd w h)
  have hown : s.vm.findClass RX11 = some m.cls := findClass_of_methodNamed B.named
  have hlocks := B.notSynchronized
  subst hsz
  have hD := hD0.self (sz := s.heap.size)
  generalize hAe : va_A [(h0, .inr (11, F)), (ea, .inr (1, E)), (nw, .inl (k.2.1, 10, .inl f1)), (bx, .inl (k.2.1, 30, .inl f3))] s.heap.size = A at hD ⊢
  have hA : ∀ q : Nat, s.heap.size ≤ q → A q := fun q h => by rw [← hAe]; exact Or.inr h
  have hS : va_S A s.heap s.heap [] := va_S.rf
  have hP : va_P D classes [(h0, .inr (11, F)), (ea, .inr (1, E)), (nw, .inl (k.2.1, 10, .inl f1)), (bx, .inl (k.2.1, 30, .inl f3))] s.heap := hP
  have hl := lv_entry ([.ref h0, .int p0]) (n := 2) (Nat.le_of_ble_eq_true rfl)
  rw [lg_entry_eq]
  generalize (lg_sl ([.ref h0, .int p0]) ++ List.replicate (2 - (lg_sl ([.ref h0, .int p0])).length) Slot.unset).toArray = ls at hl ⊢
  have hl : lv_has ls 2 [(0, .ref h0), (1, .int p0)] := hl
  refine lv_aload_n hx hb dX11_image_0 rfl (lv_at hl 0 rfl) ?_
  refine va_get (D := D) (ci := 11) (v := .ref ea) (C := RX11) (T := TX11) (N := 13) hx hb hg iX11 hown hK hP 0 rfl rfl 8 (by decide) (hg (Cond.fieldLink RX11 65 "SlabWalk" "earnest" "LSlabWalk$Earnest;") m578) (fun _ h9 => h9) g_F_earnest dX11_image_1 ?_
  refine lv_iload_n hx hb dX11_image_4 rfl (lv_at hl 1 rfl) ?_
  have hPc := hP.sub (ws' := [(ea, .inr (1, E)), (nw, .inl (k.2.1, 10, .inl f1)), (bx, .inl (k.2.1, 30, .inl f3))]) [1, 2, 3] rfl
  have hDc := hD.sub (ws' := [(ea, .inr (1, E)), (nw, .inl (k.2.1, 10, .inl f1)), (bx, .inl (k.2.1, 30, .inl f3))]) [1, 2, 3] (by decide) rfl
  have hFc := va_free (wc := [(ea, .inr (1, E)), (nw, .inl (k.2.1, 10, .inl f1)), (bx, .inl (k.2.1, 30, .inl f3))]) hD hS hA [1, 2, 3] rfl
  refine va_calli (va_runV (As := [.int p0]) (rest := []) ⟨hx, hb, hml, hown, hts⟩ (c_X1_keepIn_a l D k s.heap.size ea nw bx E f1 f3 p0 g_E_now g_E_boxes g_E_full h_lt0) (cwV 1 hts (gd_V hgd m1291 m1292 m1293 m127 m1294) rfl rfl rfl (by decide +kernel) ⟨Nat.le_of_ble_eq_true rfl, Nat.le_of_ble_eq_true rfl⟩) (cP_V hPc hKX hDc (ci := 1) (q0 := 0) rfl rfl) rfl rfl hl.1 rfl (lv_room (Nat.le_of_ble_eq_true rfl)) dX11_image_5 ⟨Nat.le_of_ble_eq_true rfl, Nat.le_of_ble_eq_true rfl⟩) hS (fun q _ h => hFc q h) hFc (fun r_1 u t H1 locs ht hvm hw hB hz1 hk1 hS => ?_)
  obtain ⟨z_2, g_3, hP1, hD1⟩ := hB
  rw [ht] at hP1
  obtain ⟨hP, hD⟩ := va_join (wr := [(h0, .inr (11, F))]) (w1 := [(ea, .inr (1, z_2)), (nw, .inl (k.2.1, 10, .inl f1))]) hP hD [1, 2, 3] [0] rfl rfl (by decide) (by decide) hk1 hFc hP1 hD1
  generalize H1 = H at hP hS ⊢
  have hP : va_P D classes [(h0, .inr (11, F)), (ea, .inr (1, z_2)), (nw, .inl (k.2.1, 10, .inl f1))] H := hP
  have hD : va_D A [(h0, .inr (11, F)), (ea, .inr (1, z_2)), (nw, .inl (k.2.1, 10, .inl f1))] := hD
  refine W.widen (k := 0) (n := 0) (Nat.le_of_ble_eq_true rfl) (Nat.le_of_ble_eq_true rfl) ?_
  subst hw
  refine lv_if_eq (tgt := 18) hx hb dX11_image_8 (by decide) (fun c_4 => ?_) (fun c_4 => ?_)
  · have c_4 : (0 : Int32) = 0 := c_4
    refine lv_iconst (v := (-1)) hx hb dX11_image_18 (by decide) ?_
    have hP9 := hP.sub (ws' := []) [] rfl
    have hD9 := hD.sub (ws' := []) [] (by decide) rfl
    exact W.iret (v := (-1)) hx hb hr (fun t ht hW => ⟨⟨(-1), (), rfl, rfl, cB_of ht hP9 hD9⟩, hS.F ht⟩) hS.2.2 dX11_image_19
  · exact absurd (by decide) c_4

set_option maxHeartbeats 4000000 in
set_option maxRecDepth 100000 in
theorem c_X11_image_b (l : Launch) (D : va_G) (k : ClassId × ClassId × ClassId × ClassId) (sz : Nat) (h0 ea nw bx : Nat) (F E : List Value) (f1 : Nat → Int32) (f3 : Nat → Int32) (p0 : Int32) (g_F_earnest : F[8]? = some (.ref ea)) (g_E_now : E[0]? = some (.ref nw)) (g_E_boxes : E[2]? = some (.ref bx)) (g_E_full : E[3]? = some (.int 0)) (g_f1__6 : f1 6 = 0) (h_nlt0 : ¬ (p0 < 0)) (h_ge3 : 3 ≤ p0) : Met l yX11_image (WS yX11_image cX11_image 2 (some .int)) ({ frames := 1, cells := 0, slots := 0, locals := 21 }) (va_Pc [.ref h0, .int p0] (cP D k [(h0, .inr (11, F)), (ea, .inr (1, E)), (nw, .inl (k.2.1, 10, .inl f1)), (bx, .inl (k.2.1, 30, .inl f3))] sz)) (va_Qi (fun (r : Int32) (_ : Unit) => r = (-1)) (fun (_ : Unit) t => cB D (va_A [(h0, .inr (11, F)), (ea, .inr (1, E)), (nw, .inl (k.2.1, 10, .inl f1)), (bx, .inl (k.2.1, 30, .inl f3))] sz) [] t) (va_A [(h0, .inr (11, F)), (ea, .inr (1, E)), (nw, .inl (k.2.1, 10, .inl f1)), (bx, .inl (k.2.1, 30, .inl f3))] sz)) 0 0 (va_A [(h0, .inr (11, F)), (ea, .inr (1, E)), (nw, .inl (k.2.1, 10, .inl f1)), (bx, .inl (k.2.1, 30, .inl f3))] sz) := by
  refine Met.ofW (cc := cX11_image) (maxL := 2) (ret := (some .int)) (by decide) rfl ?_
  intro p e s m args below meth c s₁ B hml hv
  obtain ⟨rfl, hsz, hP, hKX, hD0⟩ := hv
  have hK := hKX.1
  have hx := B.exec
  have hb := B.bytes
  have hr := B.returns
  have hts := atoms_spec (ws := WS yX11_image cX11_image 2 (some .int)) B.pre
  have hgd : ∀ w ∈ gd, w ∈ WS yX11_image cX11_image 2 (some .int) := fun w h => List.mem_cons_of_mem _ h
  have hg : ∀ w ∈ gd, w.before _ s = true := fun w h => hts w (hgd w h)
  have hown : s.vm.findClass RX11 = some m.cls := findClass_of_methodNamed B.named
  have hlocks := B.notSynchronized
  subst hsz
  have hD := hD0.self (sz := s.heap.size)
  generalize hAe : va_A [(h0, .inr (11, F)), (ea, .inr (1, E)), (nw, .inl (k.2.1, 10, .inl f1)), (bx, .inl (k.2.1, 30, .inl f3))] s.heap.size = A at hD ⊢
  have hA : ∀ q : Nat, s.heap.size ≤ q → A q := fun q h => by rw [← hAe]; exact Or.inr h
  have hS : va_S A s.heap s.heap [] := va_S.rf
  have hP : va_P D classes [(h0, .inr (11, F)), (ea, .inr (1, E)), (nw, .inl (k.2.1, 10, .inl f1)), (bx, .inl (k.2.1, 30, .inl f3))] s.heap := hP
  have hl := lv_entry ([.ref h0, .int p0]) (n := 2) (Nat.le_of_ble_eq_true rfl)
  rw [lg_entry_eq]
  generalize (lg_sl ([.ref h0, .int p0]) ++ List.replicate (2 - (lg_sl ([.ref h0, .int p0])).length) Slot.unset).toArray = ls at hl ⊢
  have hl : lv_has ls 2 [(0, .ref h0), (1, .int p0)] := hl
  refine lv_aload_n hx hb dX11_image_0 rfl (lv_at hl 0 rfl) ?_
  refine va_get (D := D) (ci := 11) (v := .ref ea) (C := RX11) (T := TX11) (N := 13) hx hb hg iX11 hown hK hP 0 rfl rfl 8 (by decide) (hg (Cond.fieldLink RX11 65 "SlabWalk" "earnest" "LSlabWalk$Earnest;") m578) (fun _ h9 => h9) g_F_earnest dX11_image_1 ?_
  refine lv_iload_n hx hb dX11_image_4 rfl (lv_at hl 1 rfl) ?_
  have hPc := hP.sub (ws' := [(ea, .inr (1, E)), (nw, .inl (k.2.1, 10, .inl f1)), (bx, .inl (k.2.1, 30, .inl f3))]) [1, 2, 3] rfl
  have hDc := hD.sub (ws' := [(ea, .inr (1, E)), (nw, .inl (k.2.1, 10, .inl f1)), (bx, .inl (k.2.1, 30, .inl f3))]) [1, 2, 3] (by decide) rfl
  have hFc := va_free (wc := [(ea, .inr (1, E)), (nw, .inl (k.2.1, 10, .inl f1)), (bx, .inl (k.2.1, 30, .inl f3))]) hD hS hA [1, 2, 3] rfl
  refine va_calli (va_runV (As := [.int p0]) (rest := []) ⟨hx, hb, hml, hown, hts⟩ (c_X1_keepIn_b l D k s.heap.size ea nw bx E f1 f3 p0 g_E_now g_E_boxes g_E_full h_nlt0 h_ge3) (cwV 1 hts (gd_V hgd m1291 m1292 m1293 m127 m1294) rfl rfl rfl (by decide +kernel) ⟨Nat.le_of_ble_eq_true rfl, Nat.le_of_ble_eq_true rfl⟩) (cP_V hPc hKX hDc (ci := 1) (q0 := 0) rfl rfl) rfl rfl hl.1 rfl (lv_room (Nat.le_of_ble_eq_true rfl)) dX11_image_5 ⟨Nat.le_of_ble_eq_true rfl, Nat.le_of_ble_eq_true rfl⟩) hS (fun q _ h => hFc q h) hFc (fun r_1 u t H1 locs ht hvm hw hB hz1 hk1 hS => ?_)
  obtain ⟨z_2, g_3, hP1, hD1⟩ := hB
  rw [ht] at hP1
  obtain ⟨hP, hD⟩ := va_join (wr := [(h0, .inr (11, F))]) (w1 := [(ea, .inr (1, z_2)), (nw, .inl (k.2.1, 10, .inl f1))]) hP hD [1, 2, 3] [0] rfl rfl (by decide) (by decide) hk1 hFc hP1 hD1
  generalize H1 = H at hP hS ⊢
  have hP : va_P D classes [(h0, .inr (11, F)), (ea, .inr (1, z_2)), (nw, .inl (k.2.1, 10, .inl f1))] H := hP
  have hD : va_D A [(h0, .inr (11, F)), (ea, .inr (1, z_2)), (nw, .inl (k.2.1, 10, .inl f1))] := hD
  refine W.widen (k := 0) (n := 0) (Nat.le_of_ble_eq_true rfl) (Nat.le_of_ble_eq_true rfl) ?_
  subst hw
  refine lv_if_eq (tgt := 18) hx hb dX11_image_8 (by decide) (fun c_4 => ?_) (fun c_4 => ?_)
  · have c_4 : (0 : Int32) = 0 := c_4
    refine lv_iconst (v := (-1)) hx hb dX11_image_18 (by decide) ?_
    have hP9 := hP.sub (ws' := []) [] rfl
    have hD9 := hD.sub (ws' := []) [] (by decide) rfl
    exact W.iret (v := (-1)) hx hb hr (fun t ht hW => ⟨⟨(-1), (), rfl, rfl, cB_of ht hP9 hD9⟩, hS.F ht⟩) hS.2.2 dX11_image_19
  · exact absurd (by decide) c_4

set_option maxHeartbeats 4000000 in
set_option maxRecDepth 100000 in
theorem c_X11_image_c (l : Launch) (D : va_G) (k : ClassId × ClassId × ClassId × ClassId) (sz : Nat) (h0 ea nw bx : Nat) (F E : List Value) (f1 : Nat → Int32) (f3 : Nat → Int32) (p0 : Int32) (g_F_earnest : F[8]? = some (.ref ea)) (g_E_now : E[0]? = some (.ref nw)) (g_E_boxes : E[2]? = some (.ref bx)) (g_E_full : E[3]? = some (.int 0)) (g_f1__6 : f1 6 = 0) (h_nlt0 : ¬ (p0 < 0)) (h_nge3 : ¬ (3 ≤ p0)) : Met l yX11_image (WS yX11_image cX11_image 2 (some .int)) ({ frames := 2, cells := 0, slots := 0, locals := 61 }) (va_Pc [.ref h0, .int p0] (cP D k [(h0, .inr (11, F)), (ea, .inr (1, E)), (nw, .inl (k.2.1, 10, .inl f1)), (bx, .inl (k.2.1, 30, .inl f3))] sz)) (va_Qi (fun (r : Int32) (_ : Unit) => r = 0) (fun (_ : Unit) t => cB D (va_A [(h0, .inr (11, F)), (ea, .inr (1, E)), (nw, .inl (k.2.1, 10, .inl f1)), (bx, .inl (k.2.1, 30, .inl f3))] sz) [] t) (va_A [(h0, .inr (11, F)), (ea, .inr (1, E)), (nw, .inl (k.2.1, 10, .inl f1)), (bx, .inl (k.2.1, 30, .inl f3))] sz)) 0 0 (va_A [(h0, .inr (11, F)), (ea, .inr (1, E)), (nw, .inl (k.2.1, 10, .inl f1)), (bx, .inl (k.2.1, 30, .inl f3))] sz) := by
  refine Met.ofW (cc := cX11_image) (maxL := 2) (ret := (some .int)) (by decide) rfl ?_
  intro p e s m args below meth c s₁ B hml hv
  obtain ⟨rfl, hsz, hP, hKX, hD0⟩ := hv
  have hK := hKX.1
  have hx := B.exec
  have hb := B.bytes
  have hr := B.returns
  have hts := atoms_spec (ws := WS yX11_image cX11_image 2 (some .int)) B.pre
  have hgd : ∀ w ∈ gd, w ∈ WS yX11_image cX11_image 2 (some .int) := fun w h => List.mem_cons_of_mem _ h
  have hg : ∀ w ∈ gd, w.before _ s = true := fun w h => hts w (hgd w h)
  have hown : s.vm.findClass RX11 = some m.cls := findClass_of_methodNamed B.named
  have hlocks := B.notSynchronized
  subst hsz
  have hD := hD0.self (sz := s.heap.size)
  generalize hAe : va_A [(h0, .inr (11, F)), (ea, .inr (1, E)), (nw, .inl (k.2.1, 10, .inl f1)), (bx, .inl (k.2.1, 30, .inl f3))] s.heap.size = A at hD ⊢
  have hA : ∀ q : Nat, s.heap.size ≤ q → A q := fun q h => by rw [← hAe]; exact Or.inr h
  have hS : va_S A s.heap s.heap [] := va_S.rf
  have hP : va_P D classes [(h0, .inr (11, F)), (ea, .inr (1, E)), (nw, .inl (k.2.1, 10, .inl f1)), (bx, .inl (k.2.1, 30, .inl f3))] s.heap := hP
  have hl := lv_entry ([.ref h0, .int p0]) (n := 2) (Nat.le_of_ble_eq_true rfl)
  rw [lg_entry_eq]
  generalize (lg_sl ([.ref h0, .int p0]) ++ List.replicate (2 - (lg_sl ([.ref h0, .int p0])).length) Slot.unset).toArray = ls at hl ⊢
  have hl : lv_has ls 2 [(0, .ref h0), (1, .int p0)] := hl
  refine lv_aload_n hx hb dX11_image_0 rfl (lv_at hl 0 rfl) ?_
  refine va_get (D := D) (ci := 11) (v := .ref ea) (C := RX11) (T := TX11) (N := 13) hx hb hg iX11 hown hK hP 0 rfl rfl 8 (by decide) (hg (Cond.fieldLink RX11 65 "SlabWalk" "earnest" "LSlabWalk$Earnest;") m578) (fun _ h9 => h9) g_F_earnest dX11_image_1 ?_
  refine lv_iload_n hx hb dX11_image_4 rfl (lv_at hl 1 rfl) ?_
  have hPc := hP.sub (ws' := [(ea, .inr (1, E)), (nw, .inl (k.2.1, 10, .inl f1)), (bx, .inl (k.2.1, 30, .inl f3))]) [1, 2, 3] rfl
  have hDc := hD.sub (ws' := [(ea, .inr (1, E)), (nw, .inl (k.2.1, 10, .inl f1)), (bx, .inl (k.2.1, 30, .inl f3))]) [1, 2, 3] (by decide) rfl
  have hFc := va_free (wc := [(ea, .inr (1, E)), (nw, .inl (k.2.1, 10, .inl f1)), (bx, .inl (k.2.1, 30, .inl f3))]) hD hS hA [1, 2, 3] rfl
  refine va_calli (va_runV (As := [.int p0]) (rest := []) ⟨hx, hb, hml, hown, hts⟩ (c_X1_keepIn_c l D k s.heap.size ea nw bx E f1 f3 p0 g_E_now g_E_boxes g_E_full h_nlt0 h_nge3) (cwV 1 hts (gd_V hgd m1291 m1292 m1293 m127 m1294) rfl rfl rfl (by decide +kernel) ⟨Nat.le_of_ble_eq_true rfl, Nat.le_of_ble_eq_true rfl⟩) (cP_V hPc hKX hDc (ci := 1) (q0 := 0) rfl rfl) rfl rfl hl.1 rfl (lv_room (Nat.le_of_ble_eq_true rfl)) dX11_image_5 ⟨Nat.le_of_ble_eq_true rfl, Nat.le_of_ble_eq_true rfl⟩) hS (fun q _ h => hFc q h) hFc (fun r_1 u t H1 locs ht hvm hw hB hz1 hk1 hS => ?_)
  obtain ⟨z_2, g_3, hP1, hD1⟩ := hB
  rw [ht] at hP1
  obtain ⟨hP, hD⟩ := va_join (wr := [(h0, .inr (11, F))]) (w1 := [(ea, .inr (1, z_2)), (nw, .inl (k.2.1, 10, .inl f1))]) hP hD [1, 2, 3] [0] rfl rfl (by decide) (by decide) hk1 hFc hP1 hD1
  generalize H1 = H at hP hS ⊢
  have hP : va_P D classes [(h0, .inr (11, F)), (ea, .inr (1, z_2)), (nw, .inl (k.2.1, 10, .inl f1))] H := hP
  have hD : va_D A [(h0, .inr (11, F)), (ea, .inr (1, z_2)), (nw, .inl (k.2.1, 10, .inl f1))] := hD
  refine W.widen (k := 0) (n := 0) (Nat.le_of_ble_eq_true rfl) (Nat.le_of_ble_eq_true rfl) ?_
  subst hw
  refine lv_if_eq (tgt := 18) hx hb dX11_image_8 (by decide) (fun c_4 => ?_) (fun c_4 => ?_)
  · exact absurd c_4 (by decide)
  · have c_4 : ¬ ((1 : Int32) = 0) := c_4
    refine lv_aload_n hx hb dX11_image_11 rfl (lv_at hl 0 rfl) ?_
    have hPc := hP.sub (ws' := [(h0, .inr (11, F)), (ea, .inr (1, z_2)), (nw, .inl (k.2.1, 10, .inl f1))]) [0, 1, 2] rfl
    have hDc := hD.sub (ws' := [(h0, .inr (11, F)), (ea, .inr (1, z_2)), (nw, .inl (k.2.1, 10, .inl f1))]) [0, 1, 2] (by decide) rfl
    have hFc := va_free (wc := [(h0, .inr (11, F)), (ea, .inr (1, z_2)), (nw, .inl (k.2.1, 10, .inl f1))]) hD hS hA [0, 1, 2] rfl
    refine va_calli (va_runV (As := []) (rest := []) ⟨hx, hb, hml, hown, hts⟩ (c_X11_today l D k H.size h0 ea nw F z_2 f1 0 g_F_earnest g_3 g_f1__6) (cwV 0 hts (gd_V hgd m911 m913 m27 m117 m914) rfl rfl rfl (by decide +kernel) ⟨Nat.le_of_ble_eq_true rfl, Nat.le_of_ble_eq_true rfl⟩) (cP_V hPc hKX hDc (ci := 11) (q0 := 0) rfl rfl) rfl rfl hl.1 rfl (lv_room (Nat.le_of_ble_eq_true rfl)) dX11_image_12 ⟨Nat.le_of_ble_eq_true rfl, Nat.le_of_ble_eq_true rfl⟩) hS (fun q _ h => hFc q h) hFc (fun r_5 u t H1 locs ht hvm hw hB hz1 hk1 hS => ?_)
    obtain ⟨hP1, hD1⟩ := hB
    rw [ht] at hP1
    obtain ⟨hP, hD⟩ := va_join (wr := []) (w1 := [(h0, .inr (11, F)), (ea, .inr (1, z_2)), (nw, .inl (k.2.1, 10, .inl f1))]) hP hD [0, 1, 2] [] rfl rfl (by decide) (by decide) hk1 hFc hP1 hD1
    generalize H1 = H at hP hS ⊢
    have hP : va_P D classes [(h0, .inr (11, F)), (ea, .inr (1, z_2)), (nw, .inl (k.2.1, 10, .inl f1))] H := hP
    have hD : va_D A [(h0, .inr (11, F)), (ea, .inr (1, z_2)), (nw, .inl (k.2.1, 10, .inl f1))] := hD
    refine W.widen (k := 0) (n := 0) (Nat.le_of_ble_eq_true rfl) (Nat.le_of_ble_eq_true rfl) ?_
    subst hw
    refine lv_goto (tgt := 19) hx hb dX11_image_15 (by decide) ?_
    have hP9 := hP.sub (ws' := []) [] rfl
    have hD9 := hD.sub (ws' := []) [] (by decide) rfl
    exact W.iret (v := 0) hx hb hr (fun t ht hW => ⟨⟨0, (), rfl, rfl, cB_of ht hP9 hD9⟩, hS.F ht⟩) hS.2.2 dX11_image_19

set_option maxHeartbeats 4000000 in
set_option maxRecDepth 100000 in
theorem c_X1_bringFrom_a (l : Launch) (D : va_G) (k : ClassId × ClassId × ClassId × ClassId) (sz : Nat) (h0 : Nat) (E : List Value) (p0 : Int32) (g_E_full : E[3]? = some (.int 0)) (h_lt0 : p0 < 0) : Met l yX1_bringFrom (WS yX1_bringFrom cX1_bringFrom 2 (some .boolean)) ({ frames := 0, cells := 0, slots := 0, locals := 0 }) (va_Pc [.ref h0, .int p0] (cP D k [(h0, .inr (1, E))] sz)) (va_Qi (fun (r : Int32) (_ : Unit) => r = 0) (fun (_ : Unit) t => cB D (va_A [(h0, .inr (1, E))] sz) [] t) (va_A [(h0, .inr (1, E))] sz)) 0 0 (va_A [(h0, .inr (1, E))] sz) := by
  refine Met.ofW (cc := cX1_bringFrom) (maxL := 2) (ret := (some .boolean)) (by decide) rfl ?_
  intro p e s m args below meth c s₁ B hml hv
  obtain ⟨rfl, hsz, hP, hKX, hD0⟩ := hv
  have hK := hKX.1
  have hx := B.exec
  have hb := B.bytes
  have hr := B.returns
  have hts := atoms_spec (ws := WS yX1_bringFrom cX1_bringFrom 2 (some .boolean)) B.pre
  have hgd : ∀ w ∈ gd, w ∈ WS yX1_bringFrom cX1_bringFrom 2 (some .boolean) := fun w h => List.mem_cons_of_mem _ h
  have hg : ∀ w ∈ gd, w.before _ s = true := fun w h => hts w (hgd w h)
  have hown : s.vm.findClass RX1 = some m.cls := findClass_of_methodNamed B.named
  have hlocks := B.notSynchronized
  subst hsz
  have hD := hD0.self (sz := s.heap.size)
  generalize hAe : va_A [(h0, .inr (1, E))] s.heap.size = A at hD ⊢
  have hA : ∀ q : Nat, s.heap.size ≤ q → A q := fun q h => by rw [← hAe]; exact Or.inr h
  have hS : va_S A s.heap s.heap [] := va_S.rf
  have hP : va_P D classes [(h0, .inr (1, E))] s.heap := hP
  have hl := lv_entry ([.ref h0, .int p0]) (n := 2) (Nat.le_of_ble_eq_true rfl)
  rw [lg_entry_eq]
  generalize (lg_sl ([.ref h0, .int p0]) ++ List.replicate (2 - (lg_sl ([.ref h0, .int p0])).length) Slot.unset).toArray = ls at hl ⊢
  have hl : lv_has ls 2 [(0, .ref h0), (1, .int p0)] := hl
  refine lv_iload_n hx hb dX1_bringFrom_0 rfl (lv_at hl 1 rfl) ?_
  refine lv_if_lt (tgt := 20) hx hb dX1_bringFrom_1 (by decide) (fun c_1 => ?_) (fun c_1 => ?_)
  · have c_1 : (p0 : Int32) < 0 := c_1
    refine lv_iconst (v := 0) hx hb dX1_bringFrom_20 (by decide) ?_
    have hP9 := hP.sub (ws' := []) [] rfl
    have hD9 := hD.sub (ws' := []) [] (by decide) rfl
    exact W.zret (v := 0) hx hb hr (by decide) (fun t ht hW => ⟨⟨0, (), rfl, rfl, cB_of ht hP9 hD9⟩, hS.F ht⟩) hS.2.2 dX1_bringFrom_21
  · exact absurd h_lt0 c_1

set_option maxHeartbeats 4000000 in
set_option maxRecDepth 100000 in
theorem c_X1_bringFrom_b (l : Launch) (D : va_G) (k : ClassId × ClassId × ClassId × ClassId) (sz : Nat) (h0 : Nat) (E : List Value) (p0 : Int32) (g_E_full : E[3]? = some (.int 0)) (h_nlt0 : ¬ (p0 < 0)) (h_ge3 : 3 ≤ p0) : Met l yX1_bringFrom (WS yX1_bringFrom cX1_bringFrom 2 (some .boolean)) ({ frames := 0, cells := 0, slots := 0, locals := 0 }) (va_Pc [.ref h0, .int p0] (cP D k [(h0, .inr (1, E))] sz)) (va_Qi (fun (r : Int32) (_ : Unit) => r = 0) (fun (_ : Unit) t => cB D (va_A [(h0, .inr (1, E))] sz) [] t) (va_A [(h0, .inr (1, E))] sz)) 0 0 (va_A [(h0, .inr (1, E))] sz) := by
  refine Met.ofW (cc := cX1_bringFrom) (maxL := 2) (ret := (some .boolean)) (by decide) rfl ?_
  intro p e s m args below meth c s₁ B hml hv
  obtain ⟨rfl, hsz, hP, hKX, hD0⟩ := hv
  have hK := hKX.1
  have hx := B.exec
  have hb := B.bytes
  have hr := B.returns
  have hts := atoms_spec (ws := WS yX1_bringFrom cX1_bringFrom 2 (some .boolean)) B.pre
  have hgd : ∀ w ∈ gd, w ∈ WS yX1_bringFrom cX1_bringFrom 2 (some .boolean) := fun w h => List.mem_cons_of_mem _ h
  have hg : ∀ w ∈ gd, w.before _ s = true := fun w h => hts w (hgd w h)
  have hown : s.vm.findClass RX1 = some m.cls := findClass_of_methodNamed B.named
  have hlocks := B.notSynchronized
  subst hsz
  have hD := hD0.self (sz := s.heap.size)
  generalize hAe : va_A [(h0, .inr (1, E))] s.heap.size = A at hD ⊢
  have hA : ∀ q : Nat, s.heap.size ≤ q → A q := fun q h => by rw [← hAe]; exact Or.inr h
  have hS : va_S A s.heap s.heap [] := va_S.rf
  have hP : va_P D classes [(h0, .inr (1, E))] s.heap := hP
  have hl := lv_entry ([.ref h0, .int p0]) (n := 2) (Nat.le_of_ble_eq_true rfl)
  rw [lg_entry_eq]
  generalize (lg_sl ([.ref h0, .int p0]) ++ List.replicate (2 - (lg_sl ([.ref h0, .int p0])).length) Slot.unset).toArray = ls at hl ⊢
  have hl : lv_has ls 2 [(0, .ref h0), (1, .int p0)] := hl
  refine lv_iload_n hx hb dX1_bringFrom_0 rfl (lv_at hl 1 rfl) ?_
  refine lv_if_lt (tgt := 20) hx hb dX1_bringFrom_1 (by decide) (fun c_1 => ?_) (fun c_1 => ?_)
  · exact absurd c_1 h_nlt0
  · have c_1 : ¬ ((p0 : Int32) < 0) := c_1
    refine lv_iload_n hx hb dX1_bringFrom_4 rfl (lv_at hl 1 rfl) ?_
    refine lv_iconst (v := 3) hx hb dX1_bringFrom_5 (by decide) ?_
    refine lv_icmp_ge (tgt := 20) hx hb dX1_bringFrom_6 (by decide) (fun c_2 => ?_) (fun c_2 => ?_)
    · have c_2 : (3 : Int32) ≤ p0 := c_2
      refine lv_iconst (v := 0) hx hb dX1_bringFrom_20 (by decide) ?_
      have hP9 := hP.sub (ws' := []) [] rfl
      have hD9 := hD.sub (ws' := []) [] (by decide) rfl
      exact W.zret (v := 0) hx hb hr (by decide) (fun t ht hW => ⟨⟨0, (), rfl, rfl, cB_of ht hP9 hD9⟩, hS.F ht⟩) hS.2.2 dX1_bringFrom_21
    · exact absurd h_ge3 c_2

set_option maxHeartbeats 4000000 in
set_option maxRecDepth 100000 in
theorem c_X1_bringFrom_c (l : Launch) (D : va_G) (k : ClassId × ClassId × ClassId × ClassId) (sz : Nat) (h0 : Nat) (E : List Value) (p0 : Int32) (g_E_full : E[3]? = some (.int 0)) (h_nlt0 : ¬ (p0 < 0)) (h_nge3 : ¬ (3 ≤ p0)) : Met l yX1_bringFrom (WS yX1_bringFrom cX1_bringFrom 2 (some .boolean)) ({ frames := 0, cells := 0, slots := 0, locals := 0 }) (va_Pc [.ref h0, .int p0] (cP D k [(h0, .inr (1, E))] sz)) (va_Qi (fun (r : Int32) (_ : Unit) => r = 0) (fun (_ : Unit) t => cB D (va_A [(h0, .inr (1, E))] sz) [] t) (va_A [(h0, .inr (1, E))] sz)) 0 0 (va_A [(h0, .inr (1, E))] sz) := by
  refine Met.ofW (cc := cX1_bringFrom) (maxL := 2) (ret := (some .boolean)) (by decide) rfl ?_
  intro p e s m args below meth c s₁ B hml hv
  obtain ⟨rfl, hsz, hP, hKX, hD0⟩ := hv
  have hK := hKX.1
  have hx := B.exec
  have hb := B.bytes
  have hr := B.returns
  have hts := atoms_spec (ws := WS yX1_bringFrom cX1_bringFrom 2 (some .boolean)) B.pre
  have hgd : ∀ w ∈ gd, w ∈ WS yX1_bringFrom cX1_bringFrom 2 (some .boolean) := fun w h => List.mem_cons_of_mem _ h
  have hg : ∀ w ∈ gd, w.before _ s = true := fun w h => hts w (hgd w h)
  have hown : s.vm.findClass RX1 = some m.cls := findClass_of_methodNamed B.named
  have hlocks := B.notSynchronized
  subst hsz
  have hD := hD0.self (sz := s.heap.size)
  generalize hAe : va_A [(h0, .inr (1, E))] s.heap.size = A at hD ⊢
  have hA : ∀ q : Nat, s.heap.size ≤ q → A q := fun q h => by rw [← hAe]; exact Or.inr h
  have hS : va_S A s.heap s.heap [] := va_S.rf
  have hP : va_P D classes [(h0, .inr (1, E))] s.heap := hP
  have hl := lv_entry ([.ref h0, .int p0]) (n := 2) (Nat.le_of_ble_eq_true rfl)
  rw [lg_entry_eq]
  generalize (lg_sl ([.ref h0, .int p0]) ++ List.replicate (2 - (lg_sl ([.ref h0, .int p0])).length) Slot.unset).toArray = ls at hl ⊢
  have hl : lv_has ls 2 [(0, .ref h0), (1, .int p0)] := hl
  refine lv_iload_n hx hb dX1_bringFrom_0 rfl (lv_at hl 1 rfl) ?_
  refine lv_if_lt (tgt := 20) hx hb dX1_bringFrom_1 (by decide) (fun c_1 => ?_) (fun c_1 => ?_)
  · exact absurd c_1 h_nlt0
  · have c_1 : ¬ ((p0 : Int32) < 0) := c_1
    refine lv_iload_n hx hb dX1_bringFrom_4 rfl (lv_at hl 1 rfl) ?_
    refine lv_iconst (v := 3) hx hb dX1_bringFrom_5 (by decide) ?_
    refine lv_icmp_ge (tgt := 20) hx hb dX1_bringFrom_6 (by decide) (fun c_2 => ?_) (fun c_2 => ?_)
    · exact absurd c_2 h_nge3
    · have c_2 : ¬ ((3 : Int32) ≤ p0) := c_2
      refine lv_aload_n hx hb dX1_bringFrom_9 rfl (lv_at hl 0 rfl) ?_
      refine va_get (D := D) (ci := 1) (v := .int 0) (C := RX1) (T := TX1) (N := 6) hx hb hg iX1 hown hK hP 0 rfl rfl 3 (by decide) (hg (Cond.fieldLink RX1 27 "SlabWalk$Earnest" "full" "I") m496) (fun _ h9 => h9) g_E_full dX1_bringFrom_10 ?_
      refine lv_iload_n hx hb dX1_bringFrom_13 rfl (lv_at hl 1 rfl) ?_
      refine lv_ishr hx hb dX1_bringFrom_14 ?_
      refine lv_iconst (v := 1) hx hb dX1_bringFrom_15 (by decide) ?_
      refine lv_iand hx hb dX1_bringFrom_16 ?_
      refine lv_if_ne (tgt := 22) hx hb dX1_bringFrom_17 (by decide) (fun c_3 => ?_) (fun c_3 => ?_)
      · exact absurd (sh_zero p0) c_3
      · have c_3 : (((0 >>> (p0 &&& 31)) &&& 1) : Int32) = 0 := c_3
        refine lv_iconst (v := 0) hx hb dX1_bringFrom_20 (by decide) ?_
        have hP9 := hP.sub (ws' := []) [] rfl
        have hD9 := hD.sub (ws' := []) [] (by decide) rfl
        exact W.zret (v := 0) hx hb hr (by decide) (fun t ht hW => ⟨⟨0, (), rfl, rfl, cB_of ht hP9 hD9⟩, hS.F ht⟩) hS.2.2 dX1_bringFrom_21

set_option maxHeartbeats 4000000 in
set_option maxRecDepth 100000 in
theorem c_X11_back_a (l : Launch) (D : va_G) (k : ClassId × ClassId × ClassId × ClassId) (sz : Nat) (h0 ea : Nat) (F E : List Value) (p0 : Int32) (g_F_earnest : F[8]? = some (.ref ea)) (g_E_full : E[3]? = some (.int 0)) (h_lt0 : p0 < 0) : Met l yX11_back (WS yX11_back cX11_back 2 (some .int)) ({ frames := 1, cells := 0, slots := 0, locals := 21 }) (va_Pc [.ref h0, .int p0] (cP D k [(h0, .inr (11, F)), (ea, .inr (1, E))] sz)) (va_Qi (fun (r : Int32) (_ : Unit) => r = (-1)) (fun (_ : Unit) t => cB D (va_A [(h0, .inr (11, F)), (ea, .inr (1, E))] sz) [] t) (va_A [(h0, .inr (11, F)), (ea, .inr (1, E))] sz)) 0 0 (va_A [(h0, .inr (11, F)), (ea, .inr (1, E))] sz) := by
  refine Met.ofW (cc := cX11_back) (maxL := 2) (ret := (some .int)) (by decide) rfl ?_
  intro p e s m args below meth c s₁ B hml hv
  obtain ⟨rfl, hsz, hP, hKX, hD0⟩ := hv
  have hK := hKX.1
  have hx := B.exec
  have hb := B.bytes
  have hr := B.returns
  have hts := atoms_spec (ws := WS yX11_back cX11_back 2 (some .int)) B.pre
  have hgd : ∀ w ∈ gd, w ∈ WS yX11_back cX11_back 2 (some .int) := fun w h => List.mem_cons_of_mem _ h
  have hg : ∀ w ∈ gd, w.before _ s = true := fun w h => hts w (hgd w h)
  have hown : s.vm.findClass RX11 = some m.cls := findClass_of_methodNamed B.named
  have hlocks := B.notSynchronized
  subst hsz
  have hD := hD0.self (sz := s.heap.size)
  generalize hAe : va_A [(h0, .inr (11, F)), (ea, .inr (1, E))] s.heap.size = A at hD ⊢
  have hA : ∀ q : Nat, s.heap.size ≤ q → A q := fun q h => by rw [← hAe]; exact Or.inr h
  have hS : va_S A s.heap s.heap [] := va_S.rf
  have hP : va_P D classes [(h0, .inr (11, F)), (ea, .inr (1, E))] s.heap := hP
  have hl := lv_entry ([.ref h0, .int p0]) (n := 2) (Nat.le_of_ble_eq_true rfl)
  rw [lg_entry_eq]
  generalize (lg_sl ([.ref h0, .int p0]) ++ List.replicate (2 - (lg_sl ([.ref h0, .int p0])).length) Slot.unset).toArray = ls at hl ⊢
  have hl : lv_has ls 2 [(0, .ref h0), (1, .int p0)] := hl
  refine lv_aload_n hx hb dX11_back_0 rfl (lv_at hl 0 rfl) ?_
  refine va_get (D := D) (ci := 11) (v := .ref ea) (C := RX11) (T := TX11) (N := 13) hx hb hg iX11 hown hK hP 0 rfl rfl 8 (by decide) (hg (Cond.fieldLink RX11 65 "SlabWalk" "earnest" "LSlabWalk$Earnest;") m578) (fun _ h9 => h9) g_F_earnest dX11_back_1 ?_
  refine lv_iload_n hx hb dX11_back_4 rfl (lv_at hl 1 rfl) ?_
  have hPc := hP.sub (ws' := [(ea, .inr (1, E))]) [1] rfl
  have hDc := hD.sub (ws' := [(ea, .inr (1, E))]) [1] (by decide) rfl
  have hFc := va_free (wc := [(ea, .inr (1, E))]) hD hS hA [1] rfl
  refine va_calli (va_runV (As := [.int p0]) (rest := []) ⟨hx, hb, hml, hown, hts⟩ (c_X1_bringFrom_c l D k s.heap.size ea E p0 g_E_full h_nlt0 h_nge3) (cwV 1 hts (gd_V hgd m1299 m1300 m1301 m127 m1302) rfl rfl rfl (by decide +kernel) ⟨Nat.le_of_ble_eq_true rfl, Nat.le_of_ble_eq_true rfl⟩) (cP_V hPc hKX hDc (ci := 1) (q0 := 0) rfl rfl) rfl rfl hl.1 rfl (lv_room (Nat.le_of_ble_eq_true rfl)) dX11_back_5 ⟨Nat.le_of_ble_eq_true rfl, Nat.le_of_ble_eq_true rfl⟩) hS (fun q _ h => hFc q h) hFc (fun r_1 u t H1 locs ht hvm hw hB hz1 hk1 hS => ?_)
  obtain ⟨hP1, hD1⟩ := hB
  rw [ht] at hP1
  obtain ⟨hP, hD⟩ := va_join (wr := [(h0, .inr (11, F))]) (w1 := []) hP hD [1] [0] rfl rfl (by decide) (by decide) hk1 hFc hP1 hD1
  generalize H1 = H at hP hS ⊢
  have hP : va_P D classes [(h0, .inr (11, F))] H := hP
  have hD : va_D A [(h0, .inr (11, F))] := hD
  refine W.widen (k := 0) (n := 0) (Nat.le_of_ble_eq_true rfl) (Nat.le_of_ble_eq_true rfl) ?_
  subst hw
  refine lv_if_eq (tgt := 18) hx hb dX11_back_8 (by decide) (fun c_2 => ?_) (fun c_2 => ?_)
  · have c_2 : (0 : Int32) = 0 := c_2
    refine lv_iconst (v := (-1)) hx hb dX11_back_18 (by decide) ?_
    have hP9 := hP.sub (ws' := []) [] rfl
    have hD9 := hD.sub (ws' := []) [] (by decide) rfl
    exact W.iret (v := (-1)) hx hb hr (fun t ht hW => ⟨⟨(-1), (), rfl, rfl, cB_of ht hP9 hD9⟩, hS.F ht⟩) hS.2.2 dX11_back_19
  · exact absurd (by decide) c_2

set_option maxHeartbeats 4000000 in
set_option maxRecDepth 100000 in
theorem c_X11_back_b (l : Launch) (D : va_G) (k : ClassId × ClassId × ClassId × ClassId) (sz : Nat) (h0 ea : Nat) (F E : List Value) (p0 : Int32) (g_F_earnest : F[8]? = some (.ref ea)) (g_E_full : E[3]? = some (.int 0)) (h_nlt0 : ¬ (p0 < 0)) (h_ge3 : 3 ≤ p0) : Met l yX11_back (WS yX11_back cX11_back 2 (some .int)) ({ frames := 1, cells := 0, slots := 0, locals := 21 }) (va_Pc [.ref h0, .int p0] (cP D k [(h0, .inr (11, F)), (ea, .inr (1, E))] sz)) (va_Qi (fun (r : Int32) (_ : Unit) => r = (-1)) (fun (_ : Unit) t => cB D (va_A [(h0, .inr (11, F)), (ea, .inr (1, E))] sz) [] t) (va_A [(h0, .inr (11, F)), (ea, .inr (1, E))] sz)) 0 0 (va_A [(h0, .inr (11, F)), (ea, .inr (1, E))] sz) := by
  refine Met.ofW (cc := cX11_back) (maxL := 2) (ret := (some .int)) (by decide) rfl ?_
  intro p e s m args below meth c s₁ B hml hv
  obtain ⟨rfl, hsz, hP, hKX, hD0⟩ := hv
  have hK := hKX.1
  have hx := B.exec
  have hb := B.bytes
  have hr := B.returns
  have hts := atoms_spec (ws := WS yX11_back cX11_back 2 (some .int)) B.pre
  have hgd : ∀ w ∈ gd, w ∈ WS yX11_back cX11_back 2 (some .int) := fun w h => List.mem_cons_of_mem _ h
  have hg : ∀ w ∈ gd, w.before _ s = true := fun w h => hts w (hgd w h)
  have hown : s.vm.findClass RX11 = some m.cls := findClass_of_methodNamed B.named
  have hlocks := B.notSynchronized
  subst hsz
  have hD := hD0.self (sz := s.heap.size)
  generalize hAe : va_A [(h0, .inr (11, F)), (ea, .inr (1, E))] s.heap.size = A at hD ⊢
  have hA : ∀ q : Nat, s.heap.size ≤ q → A q := fun q h => by rw [← hAe]; exact Or.inr h
  have hS : va_S A s.heap s.heap [] := va_S.rf
  have hP : va_P D classes [(h0, .inr (11, F)), (ea, .inr (1, E))] s.heap := hP
  have hl := lv_entry ([.ref h0, .int p0]) (n := 2) (Nat.le_of_ble_eq_true rfl)
  rw [lg_entry_eq]
  generalize (lg_sl ([.ref h0, .int p0]) ++ List.replicate (2 - (lg_sl ([.ref h0, .int p0])).length) Slot.unset).toArray = ls at hl ⊢
  have hl : lv_has ls 2 [(0, .ref h0), (1, .int p0)] := hl
  refine lv_aload_n hx hb dX11_back_0 rfl (lv_at hl 0 rfl) ?_
  refine va_get (D := D) (ci := 11) (v := .ref ea) (C := RX11) (T := TX11) (N := 13) hx hb hg iX11 hown hK hP 0 rfl rfl 8 (by decide) (hg (Cond.fieldLink RX11 65 "SlabWalk" "earnest" "LSlabWalk$Earnest;") m578) (fun _ h9 => h9) g_F_earnest dX11_back_1 ?_
  refine lv_iload_n hx hb dX11_back_4 rfl (lv_at hl 1 rfl) ?_
  have hPc := hP.sub (ws' := [(ea, .inr (1, E))]) [1] rfl
  have hDc := hD.sub (ws' := [(ea, .inr (1, E))]) [1] (by decide) rfl
  have hFc := va_free (wc := [(ea, .inr (1, E))]) hD hS hA [1] rfl
  refine va_calli (va_runV (As := [.int p0]) (rest := []) ⟨hx, hb, hml, hown, hts⟩ (c_X1_bringFrom_c l D k s.heap.size ea E p0 g_E_full h_nlt0 h_nge3) (cwV 1 hts (gd_V hgd m1299 m1300 m1301 m127 m1302) rfl rfl rfl (by decide +kernel) ⟨Nat.le_of_ble_eq_true rfl, Nat.le_of_ble_eq_true rfl⟩) (cP_V hPc hKX hDc (ci := 1) (q0 := 0) rfl rfl) rfl rfl hl.1 rfl (lv_room (Nat.le_of_ble_eq_true rfl)) dX11_back_5 ⟨Nat.le_of_ble_eq_true rfl, Nat.le_of_ble_eq_true rfl⟩) hS (fun q _ h => hFc q h) hFc (fun r_1 u t H1 locs ht hvm hw hB hz1 hk1 hS => ?_)
  obtain ⟨hP1, hD1⟩ := hB
  rw [ht] at hP1
  obtain ⟨hP, hD⟩ := va_join (wr := [(h0, .inr (11, F))]) (w1 := []) hP hD [1] [0] rfl rfl (by decide) (by decide) hk1 hFc hP1 hD1
  generalize H1 = H at hP hS ⊢
  have hP : va_P D classes [(h0, .inr (11, F))] H := hP
  have hD : va_D A [(h0, .inr (11, F))] := hD
  refine W.widen (k := 0) (n := 0) (Nat.le_of_ble_eq_true rfl) (Nat.le_of_ble_eq_true rfl) ?_
  subst hw
  refine lv_if_eq (tgt := 18) hx hb dX11_back_8 (by decide) (fun c_2 => ?_) (fun c_2 => ?_)
  · have c_2 : (0 : Int32) = 0 := c_2
    refine lv_iconst (v := (-1)) hx hb dX11_back_18 (by decide) ?_
    have hP9 := hP.sub (ws' := []) [] rfl
    have hD9 := hD.sub (ws' := []) [] (by decide) rfl
    exact W.iret (v := (-1)) hx hb hr (fun t ht hW => ⟨⟨(-1), (), rfl, rfl, cB_of ht hP9 hD9⟩, hS.F ht⟩) hS.2.2 dX11_back_19
  · exact absurd (by decide) c_2

set_option maxHeartbeats 4000000 in
set_option maxRecDepth 100000 in
theorem c_X11_back_c (l : Launch) (D : va_G) (k : ClassId × ClassId × ClassId × ClassId) (sz : Nat) (h0 ea : Nat) (F E : List Value) (p0 : Int32) (g_F_earnest : F[8]? = some (.ref ea)) (g_E_full : E[3]? = some (.int 0)) (h_nlt0 : ¬ (p0 < 0)) (h_nge3 : ¬ (3 ≤ p0)) : Met l yX11_back (WS yX11_back cX11_back 2 (some .int)) ({ frames := 1, cells := 0, slots := 0, locals := 21 }) (va_Pc [.ref h0, .int p0] (cP D k [(h0, .inr (11, F)), (ea, .inr (1, E))] sz)) (va_Qi (fun (r : Int32) (_ : Unit) => r = (-1)) (fun (_ : Unit) t => cB D (va_A [(h0, .inr (11, F)), (ea, .inr (1, E))] sz) [] t) (va_A [(h0, .inr (11, F)), (ea, .inr (1, E))] sz)) 0 0 (va_A [(h0, .inr (11, F)), (ea, .inr (1, E))] sz) := by
  refine Met.ofW (cc := cX11_back) (maxL := 2) (ret := (some .int)) (by decide) rfl ?_
  intro p e s m args below meth c s₁ B hml hv
  obtain ⟨rfl, hsz, hP, hKX, hD0⟩ := hv
  have hK := hKX.1
  have hx := B.exec
  have hb := B.bytes
  have hr := B.returns
  have hts := atoms_spec (ws := WS yX11_back cX11_back 2 (some .int)) B.pre
  have hgd : ∀ w ∈ gd, w ∈ WS yX11_back cX11_back 2 (some .int) := fun w h => List.mem_cons_of_mem _ h
  have hg : ∀ w ∈ gd, w.before _ s = true := fun w h => hts w (hgd w h)
  have hown : s.vm.findClass RX11 = some m.cls := findClass_of_methodNamed B.named
  have hlocks := B.notSynchronized
  subst hsz
  have hD := hD0.self (sz := s.heap.size)
  generalize hAe : va_A [(h0, .inr (11, F)), (ea, .inr (1, E))] s.heap.size = A at hD ⊢
  have hA : ∀ q : Nat, s.heap.size ≤ q → A q := fun q h => by rw [← hAe]; exact Or.inr h
  have hS : va_S A s.heap s.heap [] := va_S.rf
  have hP : va_P D classes [(h0, .inr (11, F)), (ea, .inr (1, E))] s.heap := hP
  have hl := lv_entry ([.ref h0, .int p0]) (n := 2) (Nat.le_of_ble_eq_true rfl)
  rw [lg_entry_eq]
  generalize (lg_sl ([.ref h0, .int p0]) ++ List.replicate (2 - (lg_sl ([.ref h0, .int p0])).length) Slot.unset).toArray = ls at hl ⊢
  have hl : lv_has ls 2 [(0, .ref h0), (1, .int p0)] := hl
  refine lv_aload_n hx hb dX11_back_0 rfl (lv_at hl 0 rfl) ?_
  refine va_get (D := D) (ci := 11) (v := .ref ea) (C := RX11) (T := TX11) (N := 13) hx hb hg iX11 hown hK hP 0 rfl rfl 8 (by decide) (hg (Cond.fieldLink RX11 65 "SlabWalk" "earnest" "LSlabWalk$Earnest;") m578) (fun _ h9 => h9) g_F_earnest dX11_back_1 ?_
  refine lv_iload_n hx hb dX11_back_4 rfl (lv_at hl 1 rfl) ?_
  have hPc := hP.sub (ws' := [(ea, .inr (1, E))]) [1] rfl
  have hDc := hD.sub (ws' := [(ea, .inr (1, E))]) [1] (by decide) rfl
  have hFc := va_free (wc := [(ea, .inr (1, E))]) hD hS hA [1] rfl
  refine va_calli (va_runV (As := [.int p0]) (rest := []) ⟨hx, hb, hml, hown, hts⟩ (c_X1_bringFrom_c l D k s.heap.size ea E p0 g_E_full h_nlt0 h_nge3) (cwV 1 hts (gd_V hgd m1299 m1300 m1301 m127 m1302) rfl rfl rfl (by decide +kernel) ⟨Nat.le_of_ble_eq_true rfl, Nat.le_of_ble_eq_true rfl⟩) (cP_V hPc hKX hDc (ci := 1) (q0 := 0) rfl rfl) rfl rfl hl.1 rfl (lv_room (Nat.le_of_ble_eq_true rfl)) dX11_back_5 ⟨Nat.le_of_ble_eq_true rfl, Nat.le_of_ble_eq_true rfl⟩) hS (fun q _ h => hFc q h) hFc (fun r_1 u t H1 locs ht hvm hw hB hz1 hk1 hS => ?_)
  obtain ⟨hP1, hD1⟩ := hB
  rw [ht] at hP1
  obtain ⟨hP, hD⟩ := va_join (wr := [(h0, .inr (11, F))]) (w1 := []) hP hD [1] [0] rfl rfl (by decide) (by decide) hk1 hFc hP1 hD1
  generalize H1 = H at hP hS ⊢
  have hP : va_P D classes [(h0, .inr (11, F))] H := hP
  have hD : va_D A [(h0, .inr (11, F))] := hD
  refine W.widen (k := 0) (n := 0) (Nat.le_of_ble_eq_true rfl) (Nat.le_of_ble_eq_true rfl) ?_
  subst hw
  refine lv_if_eq (tgt := 18) hx hb dX11_back_8 (by decide) (fun c_2 => ?_) (fun c_2 => ?_)
  · have c_2 : (0 : Int32) = 0 := c_2
    refine lv_iconst (v := (-1)) hx hb dX11_back_18 (by decide) ?_
    have hP9 := hP.sub (ws' := []) [] rfl
    have hD9 := hD.sub (ws' := []) [] (by decide) rfl
    exact W.iret (v := (-1)) hx hb hr (fun t ht hW => ⟨⟨(-1), (), rfl, rfl, cB_of ht hP9 hD9⟩, hS.F ht⟩) hS.2.2 dX11_back_19
  · exact absurd (by decide) c_2
end
section
set_option maxHeartbeats 4000000 in
set_option maxRecDepth 100000 in
theorem c_X6_allSlips (l : Launch) (D : va_G) (k : ClassId × ClassId × ClassId × ClassId) (sz : Nat) (h0 sl : Nat) (P : List Value) (g : Nat → Int32) (g_P_slip : P[6]? = some (.ref sl)) (g_g__0 : g 0 = 0) (g_g__1 : g 1 = 1) (g_g__2 : g 2 = 0) : Met l yX6_allSlips (WS yX6_allSlips cX6_allSlips 1 (some .int)) ({ frames := 0, cells := 0, slots := 0, locals := 0 }) (va_Pc [.ref h0] (cP D k [(h0, .inr (6, P)), (sl, .inl (k.2.1, 3, .inl g))] sz)) (va_Qi (fun (r : Int32) (_ : Unit) => r = 1) (fun (_ : Unit) t => cB D (va_A [(h0, .inr (6, P)), (sl, .inl (k.2.1, 3, .inl g))] sz) [] t) (va_A [(h0, .inr (6, P)), (sl, .inl (k.2.1, 3, .inl g))] sz)) 0 0 (va_A [(h0, .inr (6, P)), (sl, .inl (k.2.1, 3, .inl g))] sz) := by
  refine Met.ofW (cc := cX6_allSlips) (maxL := 1) (ret := (some .int)) (by decide) rfl ?_
  intro p e s m args below meth c s₁ B hml hv
  obtain ⟨rfl, hsz, hP, hKX, hD0⟩ := hv
  have hK := hKX.1
  have hx := B.exec
  have hb := B.bytes
  have hr := B.returns
  have hts := atoms_spec (ws := WS yX6_allSlips cX6_allSlips 1 (some .int)) B.pre
  have hgd : ∀ w ∈ gd, w ∈ WS yX6_allSlips cX6_allSlips 1 (some .int) := fun w h => List.mem_cons_of_mem _ h
  have hg : ∀ w ∈ gd, w.before _ s = true := fun w h => hts w (hgd w h)
  have hown : s.vm.findClass RX6 = some m.cls := findClass_of_methodNamed B.named
  have hlocks := B.notSynchronized
  subst hsz
  have hD := hD0.self (sz := s.heap.size)
  generalize hAe : va_A [(h0, .inr (6, P)), (sl, .inl (k.2.1, 3, .inl g))] s.heap.size = A at hD ⊢
  have hA : ∀ q : Nat, s.heap.size ≤ q → A q := fun q h => by rw [← hAe]; exact Or.inr h
  have hS : va_S A s.heap s.heap [] := va_S.rf
  have hP : va_P D classes [(h0, .inr (6, P)), (sl, .inl (k.2.1, 3, .inl g))] s.heap := hP
  have hl := lv_entry ([.ref h0]) (n := 1) (Nat.le_of_ble_eq_true rfl)
  rw [lg_entry_eq]
  generalize (lg_sl ([.ref h0]) ++ List.replicate (1 - (lg_sl ([.ref h0])).length) Slot.unset).toArray = ls at hl ⊢
  have hl : lv_has ls 1 [(0, .ref h0)] := hl
  refine lv_aload_n hx hb dX6_allSlips_0 rfl (lv_at hl 0 rfl) ?_
  refine va_get (D := D) (ci := 6) (v := .ref sl) (C := RX6) (T := TX6) (N := 17) hx hb hg iX6 hown hK hP 0 rfl rfl 6 (by decide) (hg (Cond.fieldLink RX6 30 "SlabWalk$Paving" "slip" "[I") m178) (fun _ h9 => h9) g_P_slip dX6_allSlips_1 ?_
  refine lv_iconst (v := 0) hx hb dX6_allSlips_4 (by decide) ?_
  refine va_iald hx hb hK hP 1 1 rfl rfl (show ¬ ((0 : Int32) < 0 ∨ 3 ≤ (0 : Int32).toNatClampNeg) from by decide +kernel) dX6_allSlips_5 ?_
  refine lv_topi (fun y_1 ey_1 => ?_)
  obtain rfl : y_1 = 0 := ey_1.trans (g_g__0)
  refine lv_aload_n hx hb dX6_allSlips_6 rfl (lv_at hl 0 rfl) ?_
  refine va_get (D := D) (ci := 6) (v := .ref sl) (C := RX6) (T := TX6) (N := 17) hx hb hg iX6 hown hK hP 0 rfl rfl 6 (by decide) (hg (Cond.fieldLink RX6 30 "SlabWalk$Paving" "slip" "[I") m178) (fun _ h9 => h9) g_P_slip dX6_allSlips_7 ?_
  refine lv_iconst (v := 1) hx hb dX6_allSlips_10 (by decide) ?_
  refine va_iald hx hb hK hP 1 1 rfl rfl (show ¬ ((1 : Int32) < 0 ∨ 3 ≤ (1 : Int32).toNatClampNeg) from by decide +kernel) dX6_allSlips_11 ?_
  refine lv_topi (fun y_2 ey_2 => ?_)
  obtain rfl : y_2 = 1 := ey_2.trans (g_g__1)
  refine lv_iadd hx hb dX6_allSlips_12 ?_
  refine lv_topi (fun y_3 ey_3 => ?_)
  obtain rfl : y_3 = 1 := ey_3.trans (by decide)
  refine lv_aload_n hx hb dX6_allSlips_13 rfl (lv_at hl 0 rfl) ?_
  refine va_get (D := D) (ci := 6) (v := .ref sl) (C := RX6) (T := TX6) (N := 17) hx hb hg iX6 hown hK hP 0 rfl rfl 6 (by decide) (hg (Cond.fieldLink RX6 30 "SlabWalk$Paving" "slip" "[I") m178) (fun _ h9 => h9) g_P_slip dX6_allSlips_14 ?_
  refine lv_iconst (v := 2) hx hb dX6_allSlips_17 (by decide) ?_
  refine va_iald hx hb hK hP 1 1 rfl rfl (show ¬ ((2 : Int32) < 0 ∨ 3 ≤ (2 : Int32).toNatClampNeg) from by decide +kernel) dX6_allSlips_18 ?_
  refine lv_topi (fun y_4 ey_4 => ?_)
  obtain rfl : y_4 = 0 := ey_4.trans (g_g__2)
  refine lv_iadd hx hb dX6_allSlips_19 ?_
  refine lv_topi (fun y_5 ey_5 => ?_)
  obtain rfl : y_5 = 1 := ey_5.trans (by decide)
  have hP9 := hP.sub (ws' := []) [] rfl
  have hD9 := hD.sub (ws' := []) [] (by decide) rfl
  exact W.iret (v := 1) hx hb hr (fun t ht hW => ⟨⟨1, (), rfl, rfl, cB_of ht hP9 hD9⟩, hS.F ht⟩) hS.2.2 dX6_allSlips_20

set_option maxHeartbeats 4000000 in
set_option maxRecDepth 100000 in
theorem c_X11_about (l : Launch) (D : va_G) (k : ClassId × ClassId × ClassId × ClassId) (sz : Nat) (h0 h1 ea si sl nw : Nat) (F P E Z : List Value) (g : Nat → Int32) (f1 : Nat → Int32) (p0 : Int32) (g_F_paving : F[0]? = some (.ref h1)) (g_F_taped : F[11]? = some (.int 0)) (g_F_lie : F[12]? = some (.int 0)) (g_F_earnest : F[8]? = some (.ref ea)) (g_F_sights : F[9]? = some (.ref si)) (g_P_walkers : P[10]? = some (.int 0)) (g_P_rules : P[11]? = some (.int 0)) (g_P_units : P[12]? = some (.int 0)) (g_P_slip : P[6]? = some (.ref sl)) (g_P_streets : P[9]? = some (.int 0)) (g_g__0 : g 0 = 0) (g_g__1 : g 1 = 1) (g_g__2 : g 2 = 0) (g_E_now : E[0]? = some (.ref nw)) (g_E_done : E[4]? = some (.int 0)) (g_E_undone : E[5]? = some (.int 0)) (g_f1__0 : f1 0 = (-1)) (g_f1__4 : f1 4 = 0) (g_f1__5 : f1 5 = 0) (g_f1__6 : f1 6 = 0) (g_f1__7 : f1 7 = 0) (g_f1__8 : f1 8 = 0) (g_f1__9 : f1 9 = 0) (g_Z_count : Z[5]? = some (.int 0)) (g_Z_time : Z[6]? = some (.int 0)) : Met l yX11_about (WS yX11_about cX11_about 2 (some .int)) ({ frames := 1, cells := 0, slots := 0, locals := 20 }) (va_Pc [.ref h0, .int p0] (cP D k [(h0, .inr (11, F)), (h1, .inr (6, P)), (sl, .inl (k.2.1, 3, .inl g)), (ea, .inr (1, E)), (nw, .inl (k.2.1, 10, .inl f1)), (si, .inr (8, Z))] sz)) (va_Qi (fun (r : Int32) (_ : Unit) => r = s_about p0) (fun (_ : Unit) t => cB D (va_A [(h0, .inr (11, F)), (h1, .inr (6, P)), (sl, .inl (k.2.1, 3, .inl g)), (ea, .inr (1, E)), (nw, .inl (k.2.1, 10, .inl f1)), (si, .inr (8, Z))] sz) [] t) (va_A [(h0, .inr (11, F)), (h1, .inr (6, P)), (sl, .inl (k.2.1, 3, .inl g)), (ea, .inr (1, E)), (nw, .inl (k.2.1, 10, .inl f1)), (si, .inr (8, Z))] sz)) 0 0 (va_A [(h0, .inr (11, F)), (h1, .inr (6, P)), (sl, .inl (k.2.1, 3, .inl g)), (ea, .inr (1, E)), (nw, .inl (k.2.1, 10, .inl f1)), (si, .inr (8, Z))] sz) := by
  refine Met.ofW (cc := cX11_about) (maxL := 2) (ret := (some .int)) (by decide) rfl ?_
  intro p e s m args below meth c s₁ B hml hv
  obtain ⟨rfl, hsz, hP, hKX, hD0⟩ := hv
  have hK := hKX.1
  have hx := B.exec
  have hb := B.bytes
  have hr := B.returns
  have hts := atoms_spec (ws := WS yX11_about cX11_about 2 (some .int)) B.pre
  have hgd : ∀ w ∈ gd, w ∈ WS yX11_about cX11_about 2 (some .int) := fun w h => List.mem_cons_of_mem _ h
  have hg : ∀ w ∈ gd, w.before _ s = true := fun w h => hts w (hgd w h)
  have hown : s.vm.findClass RX11 = some m.cls := findClass_of_methodNamed B.named
  have hlocks := B.notSynchronized
  subst hsz
  have hD := hD0.self (sz := s.heap.size)
  generalize hAe : va_A [(h0, .inr (11, F)), (h1, .inr (6, P)), (sl, .inl (k.2.1, 3, .inl g)), (ea, .inr (1, E)), (nw, .inl (k.2.1, 10, .inl f1)), (si, .inr (8, Z))] s.heap.size = A at hD ⊢
  have hA : ∀ q : Nat, s.heap.size ≤ q → A q := fun q h => by rw [← hAe]; exact Or.inr h
  have hS : va_S A s.heap s.heap [] := va_S.rf
  have hP : va_P D classes [(h0, .inr (11, F)), (h1, .inr (6, P)), (sl, .inl (k.2.1, 3, .inl g)), (ea, .inr (1, E)), (nw, .inl (k.2.1, 10, .inl f1)), (si, .inr (8, Z))] s.heap := hP
  have hl := lv_entry ([.ref h0, .int p0]) (n := 2) (Nat.le_of_ble_eq_true rfl)
  rw [lg_entry_eq]
  generalize (lg_sl ([.ref h0, .int p0]) ++ List.replicate (2 - (lg_sl ([.ref h0, .int p0])).length) Slot.unset).toArray = ls at hl ⊢
  have hl : lv_has ls 2 [(0, .ref h0), (1, .int p0)] := hl
  refine lv_iload_n hx hb dX11_about_0 rfl (lv_at hl 1 rfl) ?_
  by_cases c_1 : p0 = 0
  · refine lv_tableIn (tgt := 76) hx hb dX11_about_1 (by rw [c_1]; decide) (by rw [c_1]; decide) (off := 75) (by rw [c_1]; decide) (by decide) ?_
    refine lv_aload_n hx hb dX11_about_76 rfl (lv_at hl 0 rfl) ?_
    refine va_get (D := D) (ci := 11) (v := .ref h1) (C := RX11) (T := TX11) (N := 13) hx hb hg iX11 hown hK hP 0 rfl rfl 0 (by decide) (hg (Cond.fieldLink RX11 10 "SlabWalk" "paving" "LSlabWalk$Paving;") m570) (fun _ h9 => h9) g_F_paving dX11_about_77 ?_
    refine va_get (D := D) (ci := 6) (v := .int 0) (C := RX6) (T := TX6) (N := 17) hx hb hg iX6 hown hK hP 1 rfl rfl 9 (by decide) (hg (Cond.fieldLink RX11 95 "SlabWalk$Paving" "streets" "I") m187) (fun _ h9 => h9) g_P_streets dX11_about_80 ?_
    have hP9 := hP.sub (ws' := []) [] rfl
    have hD9 := hD.sub (ws' := []) [] (by decide) rfl
    exact W.iret (v := 0) hx hb hr (fun t ht hW => ⟨⟨0, (), rfl, by simp [s_about, c_1], cB_of ht hP9 hD9⟩, hS.F ht⟩) hS.2.2 dX11_about_83
  by_cases c_2 : p0 = 1
  · refine lv_tableIn (tgt := 84) hx hb dX11_about_1 (by rw [c_2]; decide) (by rw [c_2]; decide) (off := 83) (by rw [c_2]; decide) (by decide) ?_
    refine lv_aload_n hx hb dX11_about_84 rfl (lv_at hl 0 rfl) ?_
    refine va_get (D := D) (ci := 11) (v := .ref h1) (C := RX11) (T := TX11) (N := 13) hx hb hg iX11 hown hK hP 0 rfl rfl 0 (by decide) (hg (Cond.fieldLink RX11 10 "SlabWalk" "paving" "LSlabWalk$Paving;") m570) (fun _ h9 => h9) g_F_paving dX11_about_85 ?_
    refine va_get (D := D) (ci := 6) (v := .int 0) (C := RX6) (T := TX6) (N := 17) hx hb hg iX6 hown hK hP 1 rfl rfl 10 (by decide) (hg (Cond.fieldLink RX11 305 "SlabWalk$Paving" "walkers" "I") m191) (fun _ h9 => h9) g_P_walkers dX11_about_88 ?_
    have hP9 := hP.sub (ws' := []) [] rfl
    have hD9 := hD.sub (ws' := []) [] (by decide) rfl
    exact W.iret (v := 0) hx hb hr (fun t ht hW => ⟨⟨0, (), rfl, by simp [s_about, c_2], cB_of ht hP9 hD9⟩, hS.F ht⟩) hS.2.2 dX11_about_91
  by_cases c_3 : p0 = 2
  · refine lv_tableIn (tgt := 92) hx hb dX11_about_1 (by rw [c_3]; decide) (by rw [c_3]; decide) (off := 91) (by rw [c_3]; decide) (by decide) ?_
    refine lv_aload_n hx hb dX11_about_92 rfl (lv_at hl 0 rfl) ?_
    refine va_get (D := D) (ci := 11) (v := .ref h1) (C := RX11) (T := TX11) (N := 13) hx hb hg iX11 hown hK hP 0 rfl rfl 0 (by decide) (hg (Cond.fieldLink RX11 10 "SlabWalk" "paving" "LSlabWalk$Paving;") m570) (fun _ h9 => h9) g_F_paving dX11_about_93 ?_
    refine va_get (D := D) (ci := 6) (v := .int 0) (C := RX6) (T := TX6) (N := 17) hx hb hg iX6 hown hK hP 1 rfl rfl 11 (by decide) (hg (Cond.fieldLink RX11 228 "SlabWalk$Paving" "rules" "I") m195) (fun _ h9 => h9) g_P_rules dX11_about_96 ?_
    have hP9 := hP.sub (ws' := []) [] rfl
    have hD9 := hD.sub (ws' := []) [] (by decide) rfl
    exact W.iret (v := 0) hx hb hr (fun t ht hW => ⟨⟨0, (), rfl, by simp [s_about, c_3], cB_of ht hP9 hD9⟩, hS.F ht⟩) hS.2.2 dX11_about_99
  by_cases c_4 : p0 = 3
  · refine lv_tableIn (tgt := 100) hx hb dX11_about_1 (by rw [c_4]; decide) (by rw [c_4]; decide) (off := 99) (by rw [c_4]; decide) (by decide) ?_
    refine lv_aload_n hx hb dX11_about_100 rfl (lv_at hl 0 rfl) ?_
    have hPc := hP.sub (ws' := [(h0, .inr (11, F)), (ea, .inr (1, E)), (nw, .inl (k.2.1, 10, .inl f1))]) [0, 3, 4] rfl
    have hDc := hD.sub (ws' := [(h0, .inr (11, F)), (ea, .inr (1, E)), (nw, .inl (k.2.1, 10, .inl f1))]) [0, 3, 4] (by decide) rfl
    have hFc := va_free (wc := [(h0, .inr (11, F)), (ea, .inr (1, E)), (nw, .inl (k.2.1, 10, .inl f1))]) hD hS hA [0, 3, 4] rfl
    refine va_calli (va_runV (As := []) (rest := []) ⟨hx, hb, hml, hown, hts⟩ (c_X11_today l D k s.heap.size h0 ea nw F E f1 0 g_F_earnest g_E_now g_f1__6) (cwV 0 hts (gd_V hgd m911 m913 m27 m117 m914) rfl rfl rfl (by decide +kernel) ⟨Nat.le_of_ble_eq_true rfl, Nat.le_of_ble_eq_true rfl⟩) (cP_V hPc hKX hDc (ci := 11) (q0 := 0) rfl rfl) rfl rfl hl.1 rfl (lv_room (Nat.le_of_ble_eq_true rfl)) dX11_about_101 ⟨Nat.le_of_ble_eq_true rfl, Nat.le_of_ble_eq_true rfl⟩) hS (fun q _ h => hFc q h) hFc (fun r_5 u t H1 locs ht hvm hw hB hz1 hk1 hS => ?_)
    obtain ⟨hP1, hD1⟩ := hB
    rw [ht] at hP1
    obtain ⟨hP, hD⟩ := va_join (wr := [(h1, .inr (6, P)), (sl, .inl (k.2.1, 3, .inl g)), (si, .inr (8, Z))]) (w1 := [(h0, .inr (11, F)), (ea, .inr (1, E)), (nw, .inl (k.2.1, 10, .inl f1))]) hP hD [0, 3, 4] [1, 2, 5] rfl rfl (by decide) (by decide) hk1 hFc hP1 hD1
    generalize H1 = H at hP hS ⊢
    have hP : va_P D classes [(h1, .inr (6, P)), (sl, .inl (k.2.1, 3, .inl g)), (si, .inr (8, Z)), (h0, .inr (11, F)), (ea, .inr (1, E)), (nw, .inl (k.2.1, 10, .inl f1))] H := hP
    have hD : va_D A [(h1, .inr (6, P)), (sl, .inl (k.2.1, 3, .inl g)), (si, .inr (8, Z)), (h0, .inr (11, F)), (ea, .inr (1, E)), (nw, .inl (k.2.1, 10, .inl f1))] := hD
    refine W.widen (k := 0) (n := 0) (Nat.le_of_ble_eq_true rfl) (Nat.le_of_ble_eq_true rfl) ?_
    subst hw
    have hP9 := hP.sub (ws' := []) [] rfl
    have hD9 := hD.sub (ws' := []) [] (by decide) rfl
    exact W.iret (v := 0) hx hb hr (fun t ht hW => ⟨⟨0, (), rfl, by simp [s_about, c_4], cB_of ht hP9 hD9⟩, hS.F ht⟩) hS.2.2 dX11_about_104
  by_cases c_6 : p0 = 4
  · refine lv_tableIn (tgt := 105) hx hb dX11_about_1 (by rw [c_6]; decide) (by rw [c_6]; decide) (off := 104) (by rw [c_6]; decide) (by decide) ?_
    refine lv_aload_n hx hb dX11_about_105 rfl (lv_at hl 0 rfl) ?_
    refine va_get (D := D) (ci := 11) (v := .ref ea) (C := RX11) (T := TX11) (N := 13) hx hb hg iX11 hown hK hP 0 rfl rfl 8 (by decide) (hg (Cond.fieldLink RX11 65 "SlabWalk" "earnest" "LSlabWalk$Earnest;") m578) (fun _ h9 => h9) g_F_earnest dX11_about_106 ?_
    refine va_get (D := D) (ci := 1) (v := .ref nw) (C := RX1) (T := TX1) (N := 6) hx hb hg iX1 hown hK hP 3 rfl rfl 0 (by decide) (hg (Cond.fieldLink RX11 246 "SlabWalk$Earnest" "now" "[I") m493) (fun _ h9 => h9) g_E_now dX11_about_109 ?_
    refine lv_bipush (v := 7) hx hb dX11_about_112 (by decide) ?_
    refine va_iald hx hb hK hP 4 1 rfl rfl (show ¬ ((7 : Int32) < 0 ∨ 10 ≤ (7 : Int32).toNatClampNeg) from by decide +kernel) dX11_about_114 ?_
    refine lv_topi (fun y_7 ey_7 => ?_)
    obtain rfl : y_7 = 0 := ey_7.trans (g_f1__7)
    have hP9 := hP.sub (ws' := []) [] rfl
    have hD9 := hD.sub (ws' := []) [] (by decide) rfl
    exact W.iret (v := 0) hx hb hr (fun t ht hW => ⟨⟨0, (), rfl, by simp [s_about, c_6], cB_of ht hP9 hD9⟩, hS.F ht⟩) hS.2.2 dX11_about_115
  by_cases c_8 : p0 = 5
  · refine lv_tableIn (tgt := 116) hx hb dX11_about_1 (by rw [c_8]; decide) (by rw [c_8]; decide) (off := 115) (by rw [c_8]; decide) (by decide) ?_
    refine lv_aload_n hx hb dX11_about_116 rfl (lv_at hl 0 rfl) ?_
    refine va_get (D := D) (ci := 11) (v := .ref ea) (C := RX11) (T := TX11) (N := 13) hx hb hg iX11 hown hK hP 0 rfl rfl 8 (by decide) (hg (Cond.fieldLink RX11 65 "SlabWalk" "earnest" "LSlabWalk$Earnest;") m578) (fun _ h9 => h9) g_F_earnest dX11_about_117 ?_
    refine va_get (D := D) (ci := 1) (v := .ref nw) (C := RX1) (T := TX1) (N := 6) hx hb hg iX1 hown hK hP 3 rfl rfl 0 (by decide) (hg (Cond.fieldLink RX11 246 "SlabWalk$Earnest" "now" "[I") m493) (fun _ h9 => h9) g_E_now dX11_about_120 ?_
    refine lv_bipush (v := 8) hx hb dX11_about_123 (by decide) ?_
    refine va_iald hx hb hK hP 4 1 rfl rfl (show ¬ ((8 : Int32) < 0 ∨ 10 ≤ (8 : Int32).toNatClampNeg) from by decide +kernel) dX11_about_125 ?_
    refine lv_topi (fun y_9 ey_9 => ?_)
    obtain rfl : y_9 = 0 := ey_9.trans (g_f1__8)
    have hP9 := hP.sub (ws' := []) [] rfl
    have hD9 := hD.sub (ws' := []) [] (by decide) rfl
    exact W.iret (v := 0) hx hb hr (fun t ht hW => ⟨⟨0, (), rfl, by simp [s_about, c_8], cB_of ht hP9 hD9⟩, hS.F ht⟩) hS.2.2 dX11_about_126
  by_cases c_10 : p0 = 6
  · refine lv_tableIn (tgt := 127) hx hb dX11_about_1 (by rw [c_10]; decide) (by rw [c_10]; decide) (off := 126) (by rw [c_10]; decide) (by decide) ?_
    refine lv_aload_n hx hb dX11_about_127 rfl (lv_at hl 0 rfl) ?_
    refine va_get (D := D) (ci := 11) (v := .ref ea) (C := RX11) (T := TX11) (N := 13) hx hb hg iX11 hown hK hP 0 rfl rfl 8 (by decide) (hg (Cond.fieldLink RX11 65 "SlabWalk" "earnest" "LSlabWalk$Earnest;") m578) (fun _ h9 => h9) g_F_earnest dX11_about_128 ?_
    refine va_get (D := D) (ci := 1) (v := .ref nw) (C := RX1) (T := TX1) (N := 6) hx hb hg iX1 hown hK hP 3 rfl rfl 0 (by decide) (hg (Cond.fieldLink RX11 246 "SlabWalk$Earnest" "now" "[I") m493) (fun _ h9 => h9) g_E_now dX11_about_131 ?_
    refine lv_bipush (v := 9) hx hb dX11_about_134 (by decide) ?_
    refine va_iald hx hb hK hP 4 1 rfl rfl (show ¬ ((9 : Int32) < 0 ∨ 10 ≤ (9 : Int32).toNatClampNeg) from by decide +kernel) dX11_about_136 ?_
    refine lv_topi (fun y_11 ey_11 => ?_)
    obtain rfl : y_11 = 0 := ey_11.trans (g_f1__9)
    have hP9 := hP.sub (ws' := []) [] rfl
    have hD9 := hD.sub (ws' := []) [] (by decide) rfl
    exact W.iret (v := 0) hx hb hr (fun t ht hW => ⟨⟨0, (), rfl, by simp [s_about, c_10], cB_of ht hP9 hD9⟩, hS.F ht⟩) hS.2.2 dX11_about_137
  by_cases c_12 : p0 = 7
  · refine lv_tableIn (tgt := 138) hx hb dX11_about_1 (by rw [c_12]; decide) (by rw [c_12]; decide) (off := 137) (by rw [c_12]; decide) (by decide) ?_
    refine lv_aload_n hx hb dX11_about_138 rfl (lv_at hl 0 rfl) ?_
    refine va_get (D := D) (ci := 11) (v := .ref ea) (C := RX11) (T := TX11) (N := 13) hx hb hg iX11 hown hK hP 0 rfl rfl 8 (by decide) (hg (Cond.fieldLink RX11 65 "SlabWalk" "earnest" "LSlabWalk$Earnest;") m578) (fun _ h9 => h9) g_F_earnest dX11_about_139 ?_
    refine va_get (D := D) (ci := 1) (v := .int 0) (C := RX1) (T := TX1) (N := 6) hx hb hg iX1 hown hK hP 3 rfl rfl 4 (by decide) (hg (Cond.fieldLink RX11 308 "SlabWalk$Earnest" "done" "I") m498) (fun _ h9 => h9) g_E_done dX11_about_142 ?_
    have hP9 := hP.sub (ws' := []) [] rfl
    have hD9 := hD.sub (ws' := []) [] (by decide) rfl
    exact W.iret (v := 0) hx hb hr (fun t ht hW => ⟨⟨0, (), rfl, by simp [s_about, c_12], cB_of ht hP9 hD9⟩, hS.F ht⟩) hS.2.2 dX11_about_145
  by_cases c_13 : p0 = 8
  · refine lv_tableIn (tgt := 146) hx hb dX11_about_1 (by rw [c_13]; decide) (by rw [c_13]; decide) (off := 145) (by rw [c_13]; decide) (by decide) ?_
    refine lv_aload_n hx hb dX11_about_146 rfl (lv_at hl 0 rfl) ?_
    refine va_get (D := D) (ci := 11) (v := .ref ea) (C := RX11) (T := TX11) (N := 13) hx hb hg iX11 hown hK hP 0 rfl rfl 8 (by decide) (hg (Cond.fieldLink RX11 65 "SlabWalk" "earnest" "LSlabWalk$Earnest;") m578) (fun _ h9 => h9) g_F_earnest dX11_about_147 ?_
    refine va_get (D := D) (ci := 1) (v := .int 0) (C := RX1) (T := TX1) (N := 6) hx hb hg iX1 hown hK hP 3 rfl rfl 5 (by decide) (hg (Cond.fieldLink RX11 311 "SlabWalk$Earnest" "undone" "I") m500) (fun _ h9 => h9) g_E_undone dX11_about_150 ?_
    have hP9 := hP.sub (ws' := []) [] rfl
    have hD9 := hD.sub (ws' := []) [] (by decide) rfl
    exact W.iret (v := 0) hx hb hr (fun t ht hW => ⟨⟨0, (), rfl, by simp [s_about, c_13], cB_of ht hP9 hD9⟩, hS.F ht⟩) hS.2.2 dX11_about_153
  by_cases c_14 : p0 = 9
  · refine lv_tableIn (tgt := 154) hx hb dX11_about_1 (by rw [c_14]; decide) (by rw [c_14]; decide) (off := 153) (by rw [c_14]; decide) (by decide) ?_
    refine lv_aload_n hx hb dX11_about_154 rfl (lv_at hl 0 rfl) ?_
    refine va_get (D := D) (ci := 11) (v := .ref si) (C := RX11) (T := TX11) (N := 13) hx hb hg iX11 hown hK hP 0 rfl rfl 9 (by decide) (hg (Cond.fieldLink RX11 72 "SlabWalk" "sights" "LSlabWalk$Sights;") m579) (fun _ h9 => h9) g_F_sights dX11_about_155 ?_
    refine va_get (D := D) (ci := 8) (v := .int 0) (C := RX8) (T := TX8) (N := 7) hx hb hg iX8 hown hK hP 5 rfl rfl 5 (by decide) (hg (Cond.fieldLink RX11 285 "SlabWalk$Sights" "count" "I") m529) (fun _ h9 => h9) g_Z_count dX11_about_158 ?_
    have hP9 := hP.sub (ws' := []) [] rfl
    have hD9 := hD.sub (ws' := []) [] (by decide) rfl
    exact W.iret (v := 0) hx hb hr (fun t ht hW => ⟨⟨0, (), rfl, by simp [s_about, c_14], cB_of ht hP9 hD9⟩, hS.F ht⟩) hS.2.2 dX11_about_161
  by_cases c_15 : p0 = 10
  · refine lv_tableIn (tgt := 162) hx hb dX11_about_1 (by rw [c_15]; decide) (by rw [c_15]; decide) (off := 161) (by rw [c_15]; decide) (by decide) ?_
    refine lv_aload_n hx hb dX11_about_162 rfl (lv_at hl 0 rfl) ?_
    refine va_get (D := D) (ci := 11) (v := .ref si) (C := RX11) (T := TX11) (N := 13) hx hb hg iX11 hown hK hP 0 rfl rfl 9 (by decide) (hg (Cond.fieldLink RX11 72 "SlabWalk" "sights" "LSlabWalk$Sights;") m579) (fun _ h9 => h9) g_F_sights dX11_about_163 ?_
    refine va_get (D := D) (ci := 8) (v := .int 0) (C := RX8) (T := TX8) (N := 7) hx hb hg iX8 hown hK hP 5 rfl rfl 6 (by decide) (hg (Cond.fieldLink RX11 278 "SlabWalk$Sights" "time" "I") m531) (fun _ h9 => h9) g_Z_time dX11_about_166 ?_
    have hP9 := hP.sub (ws' := []) [] rfl
    have hD9 := hD.sub (ws' := []) [] (by decide) rfl
    exact W.iret (v := 0) hx hb hr (fun t ht hW => ⟨⟨0, (), rfl, by simp [s_about, c_15], cB_of ht hP9 hD9⟩, hS.F ht⟩) hS.2.2 dX11_about_169
  by_cases c_16 : p0 = 11
  · refine lv_tableIn (tgt := 170) hx hb dX11_about_1 (by rw [c_16]; decide) (by rw [c_16]; decide) (off := 169) (by rw [c_16]; decide) (by decide) ?_
    refine lv_aload_n hx hb dX11_about_170 rfl (lv_at hl 0 rfl) ?_
    refine va_get (D := D) (ci := 11) (v := .int 0) (C := RX11) (T := TX11) (N := 13) hx hb hg iX11 hown hK hP 0 rfl rfl 11 (by decide) (hg (Cond.fieldLink RX11 83 "SlabWalk" "taped" "I") m581) (fun _ h9 => h9) g_F_taped dX11_about_171 ?_
    have hP9 := hP.sub (ws' := []) [] rfl
    have hD9 := hD.sub (ws' := []) [] (by decide) rfl
    exact W.iret (v := 0) hx hb hr (fun t ht hW => ⟨⟨0, (), rfl, by simp [s_about, c_16], cB_of ht hP9 hD9⟩, hS.F ht⟩) hS.2.2 dX11_about_174
  by_cases c_17 : p0 = 12
  · refine lv_tableIn (tgt := 175) hx hb dX11_about_1 (by rw [c_17]; decide) (by rw [c_17]; decide) (off := 174) (by rw [c_17]; decide) (by decide) ?_
    refine lv_aload_n hx hb dX11_about_175 rfl (lv_at hl 0 rfl) ?_
    refine va_get (D := D) (ci := 11) (v := .ref h1) (C := RX11) (T := TX11) (N := 13) hx hb hg iX11 hown hK hP 0 rfl rfl 0 (by decide) (hg (Cond.fieldLink RX11 10 "SlabWalk" "paving" "LSlabWalk$Paving;") m570) (fun _ h9 => h9) g_F_paving dX11_about_176 ?_
    refine va_get (D := D) (ci := 6) (v := .int 0) (C := RX6) (T := TX6) (N := 17) hx hb hg iX6 hown hK hP 1 rfl rfl 12 (by decide) (hg (Cond.fieldLink RX11 314 "SlabWalk$Paving" "units" "I") m198) (fun _ h9 => h9) g_P_units dX11_about_179 ?_
    have hP9 := hP.sub (ws' := []) [] rfl
    have hD9 := hD.sub (ws' := []) [] (by decide) rfl
    exact W.iret (v := 0) hx hb hr (fun t ht hW => ⟨⟨0, (), rfl, by simp [s_about, c_17], cB_of ht hP9 hD9⟩, hS.F ht⟩) hS.2.2 dX11_about_182
  by_cases c_18 : p0 = 13
  · refine lv_tableIn (tgt := 183) hx hb dX11_about_1 (by rw [c_18]; decide) (by rw [c_18]; decide) (off := 182) (by rw [c_18]; decide) (by decide) ?_
    refine lv_aload_n hx hb dX11_about_183 rfl (lv_at hl 0 rfl) ?_
    refine va_get (D := D) (ci := 11) (v := .int 0) (C := RX11) (T := TX11) (N := 13) hx hb hg iX11 hown hK hP 0 rfl rfl 12 (by decide) (hg (Cond.fieldLink RX11 150 "SlabWalk" "lie" "I") m582) (fun _ h9 => h9) g_F_lie dX11_about_184 ?_
    have hP9 := hP.sub (ws' := []) [] rfl
    have hD9 := hD.sub (ws' := []) [] (by decide) rfl
    exact W.iret (v := 0) hx hb hr (fun t ht hW => ⟨⟨0, (), rfl, by simp [s_about, c_18], cB_of ht hP9 hD9⟩, hS.F ht⟩) hS.2.2 dX11_about_187
  by_cases c_19 : p0 = 14
  · refine lv_tableIn (tgt := 188) hx hb dX11_about_1 (by rw [c_19]; decide) (by rw [c_19]; decide) (off := 187) (by rw [c_19]; decide) (by decide) ?_
    refine lv_aload_n hx hb dX11_about_188 rfl (lv_at hl 0 rfl) ?_
    refine va_get (D := D) (ci := 11) (v := .ref h1) (C := RX11) (T := TX11) (N := 13) hx hb hg iX11 hown hK hP 0 rfl rfl 0 (by decide) (hg (Cond.fieldLink RX11 10 "SlabWalk" "paving" "LSlabWalk$Paving;") m570) (fun _ h9 => h9) g_F_paving dX11_about_189 ?_
    have hPc := hP.sub (ws' := [(h1, .inr (6, P)), (sl, .inl (k.2.1, 3, .inl g))]) [1, 2] rfl
    have hDc := hD.sub (ws' := [(h1, .inr (6, P)), (sl, .inl (k.2.1, 3, .inl g))]) [1, 2] (by decide) rfl
    have hFc := va_free (wc := [(h1, .inr (6, P)), (sl, .inl (k.2.1, 3, .inl g))]) hD hS hA [1, 2] rfl
    refine va_calli (va_runV (As := []) (rest := []) ⟨hx, hb, hml, hown, hts⟩ (c_X6_allSlips l D k H.size h1 sl P g g_P_slip g_g__0 g_g__1 g_g__2) (cwV 0 hts (gd_V hgd m1307 m1199 m1200 m118 m1201) rfl rfl rfl (by decide +kernel) ⟨Nat.le_of_ble_eq_true rfl, Nat.le_of_ble_eq_true rfl⟩) (cP_V hPc hKX hDc (ci := 6) (q0 := 0) rfl rfl) rfl rfl hl.1 rfl (lv_room (Nat.le_of_ble_eq_true rfl)) dX11_about_192 ⟨Nat.le_of_ble_eq_true rfl, Nat.le_of_ble_eq_true rfl⟩) hS (fun q _ h => hFc q h) hFc (fun r_20 u t H1 locs ht hvm hw hB hz1 hk1 hS => ?_)
    obtain ⟨hP1, hD1⟩ := hB
    rw [ht] at hP1
    obtain ⟨hP, hD⟩ := va_join (wr := [(h0, .inr (11, F)), (ea, .inr (1, E)), (nw, .inl (k.2.1, 10, .inl f1)), (si, .inr (8, Z))]) (w1 := []) hP hD [1, 2] [0, 3, 4, 5] rfl rfl (by decide) (by decide) hk1 hFc hP1 hD1
    generalize H1 = H at hP hS ⊢
    have hP : va_P D classes [(h0, .inr (11, F)), (ea, .inr (1, E)), (nw, .inl (k.2.1, 10, .inl f1)), (si, .inr (8, Z))] H := hP
    have hD : va_D A [(h0, .inr (11, F)), (ea, .inr (1, E)), (nw, .inl (k.2.1, 10, .inl f1)), (si, .inr (8, Z))] := hD
    refine W.widen (k := 0) (n := 0) (Nat.le_of_ble_eq_true rfl) (Nat.le_of_ble_eq_true rfl) ?_
    subst hw
    have hP9 := hP.sub (ws' := []) [] rfl
    have hD9 := hD.sub (ws' := []) [] (by decide) rfl
    exact W.iret (v := 1) hx hb hr (fun t ht hW => ⟨⟨1, (), rfl, by simp [s_about, c_19], cB_of ht hP9 hD9⟩, hS.F ht⟩) hS.2.2 dX11_about_195
  refine lv_tableOut (tgt := 196) hx hb dX11_about_1 (tb_out14 p0 c_1 c_2 c_3 c_4 c_6 c_8 c_10 c_12 c_13 c_14 c_15 c_16 c_17 c_18 c_19) (by decide) ?_
  refine lv_iconst (v := (-1)) hx hb dX11_about_196 (by decide) ?_
  have hP9 := hP.sub (ws' := []) [] rfl
  have hD9 := hD.sub (ws' := []) [] (by decide) rfl
  exact W.iret (v := (-1)) hx hb hr (fun t ht hW => ⟨⟨(-1), (), rfl, by simp [s_about, c_1, c_2, c_3, c_4, c_6, c_8, c_10, c_12, c_13, c_14, c_15, c_16, c_17, c_18, c_19], cB_of ht hP9 hD9⟩, hS.F ht⟩) hS.2.2 dX11_about_197
end
section
set_option maxHeartbeats 4000000 in
set_option maxRecDepth 100000 in
theorem c_put0 (l : Launch) (D : va_G) (k : ClassId × ClassId × ClassId × ClassId) (sz : Nat) (h0 tp : Nat) (F : List Value) (f : Nat → Int32) (p0 : Int32) (g_F_taped : F[11]? = some (.int 0)) (g_F_tape : F[2]? = some (.ref tp)) : Met l yX11_putOnTape (WS yX11_putOnTape cX11_putOnTape 3 none) ({ frames := 0, cells := 0, slots := 0, locals := 0 }) (va_Pc [.ref h0, .int p0] (cP D k [(h0, .inr (11, F)), (tp, .inl (k.1, 1600, .inl f))] sz)) (va_Qv (fun _ : Unit => True) (fun (_ : Unit) t => ∃ (F2 : List Value), ∃ (g : Nat → Int32), F2[11]? = some (.int 4) ∧ F2[2]? = some (.ref tp) ∧ cB D (va_A [(h0, .inr (11, F)), (tp, .inl (k.1, 1600, .inl f))] sz) [(h0, .inr (11, F2)), (tp, .inl (k.1, 1600, .inl g))] t) (va_A [(h0, .inr (11, F)), (tp, .inl (k.1, 1600, .inl f))] sz)) 0 0 (va_A [(h0, .inr (11, F)), (tp, .inl (k.1, 1600, .inl f))] sz) := by
  refine Met.ofW (cc := cX11_putOnTape) (maxL := 3) (ret := none) (by decide) rfl ?_
  intro p e s m args below meth c s₁ B hml hv
  obtain ⟨rfl, hsz, hP, hKX, hD0⟩ := hv
  have hK := hKX.1
  have hx := B.exec
  have hb := B.bytes
  have hr := B.returns
  have hts := atoms_spec (ws := WS yX11_putOnTape cX11_putOnTape 3 none) B.pre
  have hgd : ∀ w ∈ gd, w ∈ WS yX11_putOnTape cX11_putOnTape 3 none := fun w h => List.mem_cons_of_mem _ h
  have hg : ∀ w ∈ gd, w.before _ s = true := fun w h => hts w (hgd w h)
  have hown : s.vm.findClass RX11 = some m.cls := findClass_of_methodNamed B.named
  have hlocks := B.notSynchronized
  subst hsz
  have hD := hD0.self (sz := s.heap.size)
  generalize hAe : va_A [(h0, .inr (11, F)), (tp, .inl (k.1, 1600, .inl f))] s.heap.size = A at hD ⊢
  have hA : ∀ q : Nat, s.heap.size ≤ q → A q := fun q h => by rw [← hAe]; exact Or.inr h
  have hS : va_S A s.heap s.heap [] := va_S.rf
  have hP : va_P D classes [(h0, .inr (11, F)), (tp, .inl (k.1, 1600, .inl f))] s.heap := hP
  have hl := lv_entry ([.ref h0, .int p0]) (n := 3) (Nat.le_of_ble_eq_true rfl)
  rw [lg_entry_eq]
  generalize (lg_sl ([.ref h0, .int p0]) ++ List.replicate (3 - (lg_sl ([.ref h0, .int p0])).length) Slot.unset).toArray = ls at hl ⊢
  have hl : lv_has ls 3 [(0, .ref h0), (1, .int p0)] := hl
  refine lv_bipush (v := 24) hx hb dX11_putOnTape_0 (by decide) ?_
  refine lv_istore_n (lv' := [(2, .int 24), (0, .ref h0), (1, .int p0)]) hx hb dX11_putOnTape_2 rfl hl (by decide) rfl (fun ls hl => ?_)
  refine lv_iload_n hx hb dX11_putOnTape_3 rfl (lv_at hl 0 rfl) ?_
  refine lv_if_lt (tgt := 43) hx hb dX11_putOnTape_4 (by decide) (fun c_1 => ?_) (fun c_1 => ?_)
  · exact absurd c_1 (by decide)
  · have c_1 : ¬ ((24 : Int32) < 0) := c_1
    refine lv_aload_n hx hb dX11_putOnTape_7 rfl (lv_at hl 1 rfl) ?_
    refine va_get (D := D) (ci := 11) (v := .int 0) (C := RX11) (T := TX11) (N := 13) hx hb hg iX11 hown hK hP 0 rfl rfl 11 (by decide) (hg (Cond.fieldLink RX11 83 "SlabWalk" "taped" "I") m581) (fun _ h9 => h9) g_F_taped dX11_putOnTape_8 ?_
    refine lv_sipush (v := 1600) hx hb dX11_putOnTape_11 (by decide) ?_
    refine lv_icmp_ge (tgt := 37) hx hb dX11_putOnTape_14 (by decide) (fun c_2 => ?_) (fun c_2 => ?_)
    · exact absurd c_2 (by decide)
    · have c_2 : ¬ ((1600 : Int32) ≤ 0) := c_2
      refine lv_aload_n hx hb dX11_putOnTape_17 rfl (lv_at hl 1 rfl) ?_
      refine va_get (D := D) (ci := 11) (v := .ref tp) (C := RX11) (T := TX11) (N := 13) hx hb hg iX11 hown hK hP 0 rfl rfl 2 (by decide) (hg (Cond.fieldLink RX11 19 "SlabWalk" "tape" "[B") m572) (fun _ h9 => h9) g_F_tape dX11_putOnTape_18 ?_
      refine lv_aload_n hx hb dX11_putOnTape_21 rfl (lv_at hl 1 rfl) ?_
      refine lv_dup hx hb dX11_putOnTape_22 rfl ?_
      refine va_get (D := D) (ci := 11) (v := .int 0) (C := RX11) (T := TX11) (N := 13) hx hb hg iX11 hown hK hP 0 rfl rfl 11 (by decide) (hg (Cond.fieldLink RX11 83 "SlabWalk" "taped" "I") m581) (fun _ h9 => h9) g_F_taped dX11_putOnTape_23 ?_
      refine lv_dup_x1 hx hb dX11_putOnTape_26 rfl rfl ?_
      refine lv_iconst (v := 1) hx hb dX11_putOnTape_27 (by decide) ?_
      refine lv_iadd hx hb dX11_putOnTape_28 ?_
      refine lv_topi (fun y_3 ey_3 => ?_)
      obtain rfl : y_3 = 1 := ey_3.trans (by decide)
      refine va_put (D := D) (ci := 11) (v := .int 1) (ty := .int) (C := RX11) (T := TX11) (N := 13) hx hb hg iX11 tyX11 tyX11_ok nmX11 hown hK hP hD hS 0 rfl rfl 11 (by decide) (hg (Cond.fieldLink RX11 83 "SlabWalk" "taped" "I") m581) (fun _ h9 => h9) rfl (by decide +kernel) rfl rfl (fs_lt g_F_taped) dX11_putOnTape_29 (fun H locs hP hD hS => ?_)
      have hP : va_P D classes [(h0, .inr (11, (F.set 11 (.int 1)))), (tp, .inl (k.1, 1600, .inl f))] H := hP
      have hD : va_D A [(h0, .inr (11, (F.set 11 (.int 1)))), (tp, .inl (k.1, 1600, .inl f))] := hD
      refine lv_iload_n hx hb dX11_putOnTape_32 rfl (lv_at hl 2 rfl) ?_
      refine lv_iload_n hx hb dX11_putOnTape_33 rfl (lv_at hl 0 rfl) ?_
      refine lv_ishr hx hb dX11_putOnTape_34 ?_
      refine lv_i2b (v := ((p0 >>> (24 &&& 31)).toInt8.toInt32)) hx hb dX11_putOnTape_35 rfl ?_
      refine va_bast hx hb hK hP hD hS 1 0 rfl rfl (show ¬ ((0 : Int32) < 0 ∨ 1600 ≤ (0 : Int32).toNatClampNeg) from by decide +kernel) dX11_putOnTape_36 (fun H locs hP hD hS => ?_)
      have hP : va_P D classes [(h0, .inr (11, (F.set 11 (.int 1)))), (tp, .inl (k.1, 1600, .inl (upd f 0 (vp_nar .byte ((p0 >>> (24 &&& 31)).toInt8.toInt32)))))] H := hP
      have hD : va_D A [(h0, .inr (11, (F.set 11 (.int 1)))), (tp, .inl (k.1, 1600, .inl (upd f 0 (vp_nar .byte ((p0 >>> (24 &&& 31)).toInt8.toInt32)))))] := hD
      generalize (upd f 0 (vp_nar .byte ((p0 >>> (24 &&& 31)).toInt8.toInt32))) = f_4 at hP hD
      refine lv_iinc (v := 16) (lv' := [(2, .int 16), (0, .ref h0), (1, .int p0)]) hx hb dX11_putOnTape_37 hl (k := 0) rfl (by decide) (by decide) rfl (fun ls hl => ?_)
      refine lv_goto (tgt := 3) hx hb dX11_putOnTape_40 (by decide) ?_
      refine lv_iload_n hx hb dX11_putOnTape_3 rfl (lv_at hl 0 rfl) ?_
      refine lv_if_lt (tgt := 43) hx hb dX11_putOnTape_4 (by decide) (fun c_5 => ?_) (fun c_5 => ?_)
      · exact absurd c_5 (by decide)
      · have c_5 : ¬ ((16 : Int32) < 0) := c_5
        refine lv_aload_n hx hb dX11_putOnTape_7 rfl (lv_at hl 1 rfl) ?_
        refine va_get (D := D) (ci := 11) (v := .int 1) (C := RX11) (T := TX11) (N := 13) hx hb hg iX11 hown hK hP 0 rfl rfl 11 (by decide) (hg (Cond.fieldLink RX11 83 "SlabWalk" "taped" "I") m581) (fun _ h9 => h9) (fs_eq g_F_taped) dX11_putOnTape_8 ?_
        refine lv_sipush (v := 1600) hx hb dX11_putOnTape_11 (by decide) ?_
        refine lv_icmp_ge (tgt := 37) hx hb dX11_putOnTape_14 (by decide) (fun c_6 => ?_) (fun c_6 => ?_)
        · exact absurd c_6 (by decide)
        · have c_6 : ¬ ((1600 : Int32) ≤ 1) := c_6
          refine lv_aload_n hx hb dX11_putOnTape_17 rfl (lv_at hl 1 rfl) ?_
          refine va_get (D := D) (ci := 11) (v := .ref tp) (C := RX11) (T := TX11) (N := 13) hx hb hg iX11 hown hK hP 0 rfl rfl 2 (by decide) (hg (Cond.fieldLink RX11 19 "SlabWalk" "tape" "[B") m572) (fun _ h9 => h9) (fs_ne g_F_tape (by decide)) dX11_putOnTape_18 ?_
          refine lv_aload_n hx hb dX11_putOnTape_21 rfl (lv_at hl 1 rfl) ?_
          refine lv_dup hx hb dX11_putOnTape_22 rfl ?_
          refine va_get (D := D) (ci := 11) (v := .int 1) (C := RX11) (T := TX11) (N := 13) hx hb hg iX11 hown hK hP 0 rfl rfl 11 (by decide) (hg (Cond.fieldLink RX11 83 "SlabWalk" "taped" "I") m581) (fun _ h9 => h9) (fs_eq g_F_taped) dX11_putOnTape_23 ?_
          refine lv_dup_x1 hx hb dX11_putOnTape_26 rfl rfl ?_
          refine lv_iconst (v := 1) hx hb dX11_putOnTape_27 (by decide) ?_
          refine lv_iadd hx hb dX11_putOnTape_28 ?_
          refine lv_topi (fun y_7 ey_7 => ?_)
          obtain rfl : y_7 = 2 := ey_7.trans (by decide)
          refine va_put (D := D) (ci := 11) (v := .int 2) (ty := .int) (C := RX11) (T := TX11) (N := 13) hx hb hg iX11 tyX11 tyX11_ok nmX11 hown hK hP hD hS 0 rfl rfl 11 (by decide) (hg (Cond.fieldLink RX11 83 "SlabWalk" "taped" "I") m581) (fun _ h9 => h9) rfl (by decide +kernel) rfl rfl (fs_lt (fs_eq g_F_taped)) dX11_putOnTape_29 (fun H locs hP hD hS => ?_)
          have hP : va_P D classes [(h0, .inr (11, ((F.set 11 (.int 1)).set 11 (.int 2)))), (tp, .inl (k.1, 1600, .inl f_4))] H := hP
          have hD : va_D A [(h0, .inr (11, ((F.set 11 (.int 1)).set 11 (.int 2)))), (tp, .inl (k.1, 1600, .inl f_4))] := hD
          refine lv_iload_n hx hb dX11_putOnTape_32 rfl (lv_at hl 2 rfl) ?_
          refine lv_iload_n hx hb dX11_putOnTape_33 rfl (lv_at hl 0 rfl) ?_
          refine lv_ishr hx hb dX11_putOnTape_34 ?_
          refine lv_i2b (v := ((p0 >>> (16 &&& 31)).toInt8.toInt32)) hx hb dX11_putOnTape_35 rfl ?_
          refine va_bast hx hb hK hP hD hS 1 0 rfl rfl (show ¬ ((1 : Int32) < 0 ∨ 1600 ≤ (1 : Int32).toNatClampNeg) from by decide +kernel) dX11_putOnTape_36 (fun H locs hP hD hS => ?_)
          have hP : va_P D classes [(h0, .inr (11, ((F.set 11 (.int 1)).set 11 (.int 2)))), (tp, .inl (k.1, 1600, .inl (upd f_4 1 (vp_nar .byte ((p0 >>> (16 &&& 31)).toInt8.toInt32)))))] H := hP
          have hD : va_D A [(h0, .inr (11, ((F.set 11 (.int 1)).set 11 (.int 2)))), (tp, .inl (k.1, 1600, .inl (upd f_4 1 (vp_nar .byte ((p0 >>> (16 &&& 31)).toInt8.toInt32)))))] := hD
          generalize (upd f_4 1 (vp_nar .byte ((p0 >>> (16 &&& 31)).toInt8.toInt32))) = f_8 at hP hD
          refine lv_iinc (v := 8) (lv' := [(2, .int 8), (0, .ref h0), (1, .int p0)]) hx hb dX11_putOnTape_37 hl (k := 0) rfl (by decide) (by decide) rfl (fun ls hl => ?_)
          refine lv_goto (tgt := 3) hx hb dX11_putOnTape_40 (by decide) ?_
          refine lv_iload_n hx hb dX11_putOnTape_3 rfl (lv_at hl 0 rfl) ?_
          refine lv_if_lt (tgt := 43) hx hb dX11_putOnTape_4 (by decide) (fun c_9 => ?_) (fun c_9 => ?_)
          · exact absurd c_9 (by decide)
          · have c_9 : ¬ ((8 : Int32) < 0) := c_9
            refine lv_aload_n hx hb dX11_putOnTape_7 rfl (lv_at hl 1 rfl) ?_
            refine va_get (D := D) (ci := 11) (v := .int 2) (C := RX11) (T := TX11) (N := 13) hx hb hg iX11 hown hK hP 0 rfl rfl 11 (by decide) (hg (Cond.fieldLink RX11 83 "SlabWalk" "taped" "I") m581) (fun _ h9 => h9) (fs_eq (fs_eq g_F_taped)) dX11_putOnTape_8 ?_
            refine lv_sipush (v := 1600) hx hb dX11_putOnTape_11 (by decide) ?_
            refine lv_icmp_ge (tgt := 37) hx hb dX11_putOnTape_14 (by decide) (fun c_10 => ?_) (fun c_10 => ?_)
            · exact absurd c_10 (by decide)
            · have c_10 : ¬ ((1600 : Int32) ≤ 2) := c_10
              refine lv_aload_n hx hb dX11_putOnTape_17 rfl (lv_at hl 1 rfl) ?_
              refine va_get (D := D) (ci := 11) (v := .ref tp) (C := RX11) (T := TX11) (N := 13) hx hb hg iX11 hown hK hP 0 rfl rfl 2 (by decide) (hg (Cond.fieldLink RX11 19 "SlabWalk" "tape" "[B") m572) (fun _ h9 => h9) (fs_ne (fs_ne g_F_tape (by decide)) (by decide)) dX11_putOnTape_18 ?_
              refine lv_aload_n hx hb dX11_putOnTape_21 rfl (lv_at hl 1 rfl) ?_
              refine lv_dup hx hb dX11_putOnTape_22 rfl ?_
              refine va_get (D := D) (ci := 11) (v := .int 2) (C := RX11) (T := TX11) (N := 13) hx hb hg iX11 hown hK hP 0 rfl rfl 11 (by decide) (hg (Cond.fieldLink RX11 83 "SlabWalk" "taped" "I") m581) (fun _ h9 => h9) (fs_eq (fs_eq g_F_taped)) dX11_putOnTape_23 ?_
              refine lv_dup_x1 hx hb dX11_putOnTape_26 rfl rfl ?_
              refine lv_iconst (v := 1) hx hb dX11_putOnTape_27 (by decide) ?_
              refine lv_iadd hx hb dX11_putOnTape_28 ?_
              refine lv_topi (fun y_11 ey_11 => ?_)
              obtain rfl : y_11 = 3 := ey_11.trans (by decide)
              refine va_put (D := D) (ci := 11) (v := .int 3) (ty := .int) (C := RX11) (T := TX11) (N := 13) hx hb hg iX11 tyX11 tyX11_ok nmX11 hown hK hP hD hS 0 rfl rfl 11 (by decide) (hg (Cond.fieldLink RX11 83 "SlabWalk" "taped" "I") m581) (fun _ h9 => h9) rfl (by decide +kernel) rfl rfl (fs_lt (fs_eq (fs_eq g_F_taped))) dX11_putOnTape_29 (fun H locs hP hD hS => ?_)
              have hP : va_P D classes [(h0, .inr (11, (((F.set 11 (.int 1)).set 11 (.int 2)).set 11 (.int 3)))), (tp, .inl (k.1, 1600, .inl f_8))] H := hP
              have hD : va_D A [(h0, .inr (11, (((F.set 11 (.int 1)).set 11 (.int 2)).set 11 (.int 3)))), (tp, .inl (k.1, 1600, .inl f_8))] := hD
              refine lv_iload_n hx hb dX11_putOnTape_32 rfl (lv_at hl 2 rfl) ?_
              refine lv_iload_n hx hb dX11_putOnTape_33 rfl (lv_at hl 0 rfl) ?_
              refine lv_ishr hx hb dX11_putOnTape_34 ?_
              refine lv_i2b (v := ((p0 >>> (8 &&& 31)).toInt8.toInt32)) hx hb dX11_putOnTape_35 rfl ?_
              refine va_bast hx hb hK hP hD hS 1 0 rfl rfl (show ¬ ((2 : Int32) < 0 ∨ 1600 ≤ (2 : Int32).toNatClampNeg) from by decide +kernel) dX11_putOnTape_36 (fun H locs hP hD hS => ?_)
              have hP : va_P D classes [(h0, .inr (11, (((F.set 11 (.int 1)).set 11 (.int 2)).set 11 (.int 3)))), (tp, .inl (k.1, 1600, .inl (upd f_8 2 (vp_nar .byte ((p0 >>> (8 &&& 31)).toInt8.toInt32)))))] H := hP
              have hD : va_D A [(h0, .inr (11, (((F.set 11 (.int 1)).set 11 (.int 2)).set 11 (.int 3)))), (tp, .inl (k.1, 1600, .inl (upd f_8 2 (vp_nar .byte ((p0 >>> (8 &&& 31)).toInt8.toInt32)))))] := hD
              generalize (upd f_8 2 (vp_nar .byte ((p0 >>> (8 &&& 31)).toInt8.toInt32))) = f_12 at hP hD
              refine lv_iinc (v := 0) (lv' := [(2, .int 0), (0, .ref h0), (1, .int p0)]) hx hb dX11_putOnTape_37 hl (k := 0) rfl (by decide) (by decide) rfl (fun ls hl => ?_)
              refine lv_goto (tgt := 3) hx hb dX11_putOnTape_40 (by decide) ?_
              refine lv_iload_n hx hb dX11_putOnTape_3 rfl (lv_at hl 0 rfl) ?_
              refine lv_if_lt (tgt := 43) hx hb dX11_putOnTape_4 (by decide) (fun c_13 => ?_) (fun c_13 => ?_)
              · exact absurd c_13 (by decide)
              · have c_13 : ¬ ((0 : Int32) < 0) := c_13
                refine lv_aload_n hx hb dX11_putOnTape_7 rfl (lv_at hl 1 rfl) ?_
                refine va_get (D := D) (ci := 11) (v := .int 3) (C := RX11) (T := TX11) (N := 13) hx hb hg iX11 hown hK hP 0 rfl rfl 11 (by decide) (hg (Cond.fieldLink RX11 83 "SlabWalk" "taped" "I") m581) (fun _ h9 => h9) (fs_eq (fs_eq (fs_eq g_F_taped))) dX11_putOnTape_8 ?_
                refine lv_sipush (v := 1600) hx hb dX11_putOnTape_11 (by decide) ?_
                refine lv_icmp_ge (tgt := 37) hx hb dX11_putOnTape_14 (by decide) (fun c_14 => ?_) (fun c_14 => ?_)
                · exact absurd c_14 (by decide)
                · have c_14 : ¬ ((1600 : Int32) ≤ 3) := c_14
                  refine lv_aload_n hx hb dX11_putOnTape_17 rfl (lv_at hl 1 rfl) ?_
                  refine va_get (D := D) (ci := 11) (v := .ref tp) (C := RX11) (T := TX11) (N := 13) hx hb hg iX11 hown hK hP 0 rfl rfl 2 (by decide) (hg (Cond.fieldLink RX11 19 "SlabWalk" "tape" "[B") m572) (fun _ h9 => h9) (fs_ne (fs_ne (fs_ne g_F_tape (by decide)) (by decide)) (by decide)) dX11_putOnTape_18 ?_
                  refine lv_aload_n hx hb dX11_putOnTape_21 rfl (lv_at hl 1 rfl) ?_
                  refine lv_dup hx hb dX11_putOnTape_22 rfl ?_
                  refine va_get (D := D) (ci := 11) (v := .int 3) (C := RX11) (T := TX11) (N := 13) hx hb hg iX11 hown hK hP 0 rfl rfl 11 (by decide) (hg (Cond.fieldLink RX11 83 "SlabWalk" "taped" "I") m581) (fun _ h9 => h9) (fs_eq (fs_eq (fs_eq g_F_taped))) dX11_putOnTape_23 ?_
                  refine lv_dup_x1 hx hb dX11_putOnTape_26 rfl rfl ?_
                  refine lv_iconst (v := 1) hx hb dX11_putOnTape_27 (by decide) ?_
                  refine lv_iadd hx hb dX11_putOnTape_28 ?_
                  refine lv_topi (fun y_15 ey_15 => ?_)
                  obtain rfl : y_15 = 4 := ey_15.trans (by decide)
                  refine va_put (D := D) (ci := 11) (v := .int 4) (ty := .int) (C := RX11) (T := TX11) (N := 13) hx hb hg iX11 tyX11 tyX11_ok nmX11 hown hK hP hD hS 0 rfl rfl 11 (by decide) (hg (Cond.fieldLink RX11 83 "SlabWalk" "taped" "I") m581) (fun _ h9 => h9) rfl (by decide +kernel) rfl rfl (fs_lt (fs_eq (fs_eq (fs_eq g_F_taped)))) dX11_putOnTape_29 (fun H locs hP hD hS => ?_)
                  have hP : va_P D classes [(h0, .inr (11, ((((F.set 11 (.int 1)).set 11 (.int 2)).set 11 (.int 3)).set 11 (.int 4)))), (tp, .inl (k.1, 1600, .inl f_12))] H := hP
                  have hD : va_D A [(h0, .inr (11, ((((F.set 11 (.int 1)).set 11 (.int 2)).set 11 (.int 3)).set 11 (.int 4)))), (tp, .inl (k.1, 1600, .inl f_12))] := hD
                  refine lv_iload_n hx hb dX11_putOnTape_32 rfl (lv_at hl 2 rfl) ?_
                  refine lv_iload_n hx hb dX11_putOnTape_33 rfl (lv_at hl 0 rfl) ?_
                  refine lv_ishr hx hb dX11_putOnTape_34 ?_
                  refine lv_i2b (v := ((p0 >>> (0 &&& 31)).toInt8.toInt32)) hx hb dX11_putOnTape_35 rfl ?_
                  refine va_bast hx hb hK hP hD hS 1 0 rfl rfl (show ¬ ((3 : Int32) < 0 ∨ 1600 ≤ (3 : Int32).toNatClampNeg) from by decide +kernel) dX11_putOnTape_36 (fun H locs hP hD hS => ?_)
                  have hP : va_P D classes [(h0, .inr (11, ((((F.set 11 (.int 1)).set 11 (.int 2)).set 11 (.int 3)).set 11 (.int 4)))), (tp, .inl (k.1, 1600, .inl (upd f_12 3 (vp_nar .byte ((p0 >>> (0 &&& 31)).toInt8.toInt32)))))] H := hP
                  have hD : va_D A [(h0, .inr (11, ((((F.set 11 (.int 1)).set 11 (.int 2)).set 11 (.int 3)).set 11 (.int 4)))), (tp, .inl (k.1, 1600, .inl (upd f_12 3 (vp_nar .byte ((p0 >>> (0 &&& 31)).toInt8.toInt32)))))] := hD
                  generalize (upd f_12 3 (vp_nar .byte ((p0 >>> (0 &&& 31)).toInt8.toInt32))) = f_16 at hP hD
                  refine lv_iinc (v := (-8)) (lv' := [(2, .int (-8)), (0, .ref h0), (1, .int p0)]) hx hb dX11_putOnTape_37 hl (k := 0) rfl (by decide) (by decide) rfl (fun ls hl => ?_)
                  refine lv_goto (tgt := 3) hx hb dX11_putOnTape_40 (by decide) ?_
                  refine lv_iload_n hx hb dX11_putOnTape_3 rfl (lv_at hl 0 rfl) ?_
                  refine lv_if_lt (tgt := 43) hx hb dX11_putOnTape_4 (by decide) (fun c_17 => ?_) (fun c_17 => ?_)
                  · have c_17 : ((-8) : Int32) < 0 := c_17
                    have hP9 := hP.sub (ws' := [(h0, .inr (11, ((((F.set 11 (.int 1)).set 11 (.int 2)).set 11 (.int 3)).set 11 (.int 4)))), (tp, .inl (k.1, 1600, .inl f_16))]) [0, 1] rfl
                    have hD9 := hD.sub (ws' := [(h0, .inr (11, ((((F.set 11 (.int 1)).set 11 (.int 2)).set 11 (.int 3)).set 11 (.int 4)))), (tp, .inl (k.1, 1600, .inl f_16))]) [0, 1] (by decide) rfl
                    exact W.vret hx hb hr (fun t ht hW => ⟨⟨(), rfl, trivial, ⟨((((F.set 11 (.int 1)).set 11 (.int 2)).set 11 (.int 3)).set 11 (.int 4)), f_16, (fs_eq (fs_eq (fs_eq (fs_eq g_F_taped)))), (fs_ne (fs_ne (fs_ne (fs_ne g_F_tape (by decide)) (by decide)) (by decide)) (by decide)), cB_of ht hP9 hD9⟩⟩, hS.F ht⟩) hS.2.2 dX11_putOnTape_43
                  · exact absurd (by decide) c_17

set_option maxHeartbeats 4000000 in
set_option maxRecDepth 100000 in
theorem c_put4 (l : Launch) (D : va_G) (k : ClassId × ClassId × ClassId × ClassId) (sz : Nat) (h0 tp : Nat) (F : List Value) (f : Nat → Int32) (p0 : Int32) (g_F_taped : F[11]? = some (.int 4)) (g_F_tape : F[2]? = some (.ref tp)) : Met l yX11_putOnTape (WS yX11_putOnTape cX11_putOnTape 3 none) ({ frames := 0, cells := 0, slots := 0, locals := 0 }) (va_Pc [.ref h0, .int p0] (cP D k [(h0, .inr (11, F)), (tp, .inl (k.1, 1600, .inl f))] sz)) (va_Qv (fun _ : Unit => True) (fun (_ : Unit) t => ∃ (F2 : List Value), ∃ (g : Nat → Int32), F2[11]? = some (.int 8) ∧ F2[2]? = some (.ref tp) ∧ cB D (va_A [(h0, .inr (11, F)), (tp, .inl (k.1, 1600, .inl f))] sz) [(h0, .inr (11, F2)), (tp, .inl (k.1, 1600, .inl g))] t) (va_A [(h0, .inr (11, F)), (tp, .inl (k.1, 1600, .inl f))] sz)) 0 0 (va_A [(h0, .inr (11, F)), (tp, .inl (k.1, 1600, .inl f))] sz) := by
  refine Met.ofW (cc := cX11_putOnTape) (maxL := 3) (ret := none) (by decide) rfl ?_
  intro p e s m args below meth c s₁ B hml hv
  obtain ⟨rfl, hsz, hP, hKX, hD0⟩ := hv
  have hK := hKX.1
  have hx := B.exec
  have hb := B.bytes
  have hr := B.returns
  have hts := atoms_spec (ws := WS yX11_putOnTape cX11_putOnTape 3 none) B.pre
  have hgd : ∀ w ∈ gd, w ∈ WS yX11_putOnTape cX11_putOnTape 3 none := fun w h => List.mem_cons_of_mem _ h
  have hg : ∀ w ∈ gd, w.before _ s = true := fun w h => hts w (hgd w h)
  have hown : s.vm.findClass RX11 = some m.cls := findClass_of_methodNamed B.named
  have hlocks := B.notSynchronized
  subst hsz
  have hD := hD0.self (sz := s.heap.size)
  generalize hAe : va_A [(h0, .inr (11, F)), (tp, .inl (k.1, 1600, .inl f))] s.heap.size = A at hD ⊢
  have hA : ∀ q : Nat, s.heap.size ≤ q → A q := fun q h => by rw [← hAe]; exact Or.inr h
  have hS : va_S A s.heap s.heap [] := va_S.rf
  have hP : va_P D classes [(h0, .inr (11, F)), (tp, .inl (k.1, 1600, .inl f))] s.heap := hP
  have hl := lv_entry ([.ref h0, .int p0]) (n := 3) (Nat.le_of_ble_eq_true rfl)
  rw [lg_entry_eq]
  generalize (lg_sl ([.ref h0, .int p0]) ++ List.replicate (3 - (lg_sl ([.ref h0, .int p0])).length) Slot.unset).toArray = ls at hl ⊢
  have hl : lv_has ls 3 [(0, .ref h0), (1, .int p0)] := hl
  refine lv_bipush (v := 24) hx hb dX11_putOnTape_0 (by decide) ?_
  refine lv_istore_n (lv' := [(2, .int 24), (0, .ref h0), (1, .int p0)]) hx hb dX11_putOnTape_2 rfl hl (by decide) rfl (fun ls hl => ?_)
  refine lv_iload_n hx hb dX11_putOnTape_3 rfl (lv_at hl 0 rfl) ?_
  refine lv_if_lt (tgt := 43) hx hb dX11_putOnTape_4 (by decide) (fun c_1 => ?_) (fun c_1 => ?_)
  · exact absurd c_1 (by decide)
  · have c_1 : ¬ ((24 : Int32) < 0) := c_1
    refine lv_aload_n hx hb dX11_putOnTape_7 rfl (lv_at hl 1 rfl) ?_
    refine va_get (D := D) (ci := 11) (v := .int 4) (C := RX11) (T := TX11) (N := 13) hx hb hg iX11 hown hK hP 0 rfl rfl 11 (by decide) (hg (Cond.fieldLink RX11 83 "SlabWalk" "taped" "I") m581) (fun _ h9 => h9) g_F_taped dX11_putOnTape_8 ?_
    refine lv_sipush (v := 1600) hx hb dX11_putOnTape_11 (by decide) ?_
    refine lv_icmp_ge (tgt := 37) hx hb dX11_putOnTape_14 (by decide) (fun c_2 => ?_) (fun c_2 => ?_)
    · exact absurd c_2 (by decide)
    · have c_2 : ¬ ((1600 : Int32) ≤ 4) := c_2
      refine lv_aload_n hx hb dX11_putOnTape_17 rfl (lv_at hl 1 rfl) ?_
      refine va_get (D := D) (ci := 11) (v := .ref tp) (C := RX11) (T := TX11) (N := 13) hx hb hg iX11 hown hK hP 0 rfl rfl 2 (by decide) (hg (Cond.fieldLink RX11 19 "SlabWalk" "tape" "[B") m572) (fun _ h9 => h9) g_F_tape dX11_putOnTape_18 ?_
      refine lv_aload_n hx hb dX11_putOnTape_21 rfl (lv_at hl 1 rfl) ?_
      refine lv_dup hx hb dX11_putOnTape_22 rfl ?_
      refine va_get (D := D) (ci := 11) (v := .int 4) (C := RX11) (T := TX11) (N := 13) hx hb hg iX11 hown hK hP 0 rfl rfl 11 (by decide) (hg (Cond.fieldLink RX11 83 "SlabWalk" "taped" "I") m581) (fun _ h9 => h9) g_F_taped dX11_putOnTape_23 ?_
      refine lv_dup_x1 hx hb dX11_putOnTape_26 rfl rfl ?_
      refine lv_iconst (v := 1) hx hb dX11_putOnTape_27 (by decide) ?_
      refine lv_iadd hx hb dX11_putOnTape_28 ?_
      refine lv_topi (fun y_3 ey_3 => ?_)
      obtain rfl : y_3 = 5 := ey_3.trans (by decide)
      refine va_put (D := D) (ci := 11) (v := .int 5) (ty := .int) (C := RX11) (T := TX11) (N := 13) hx hb hg iX11 tyX11 tyX11_ok nmX11 hown hK hP hD hS 0 rfl rfl 11 (by decide) (hg (Cond.fieldLink RX11 83 "SlabWalk" "taped" "I") m581) (fun _ h9 => h9) rfl (by decide +kernel) rfl rfl (fs_lt g_F_taped) dX11_putOnTape_29 (fun H locs hP hD hS => ?_)
      have hP : va_P D classes [(h0, .inr (11, (F.set 11 (.int 5)))), (tp, .inl (k.1, 1600, .inl f))] H := hP
      have hD : va_D A [(h0, .inr (11, (F.set 11 (.int 5)))), (tp, .inl (k.1, 1600, .inl f))] := hD
      refine lv_iload_n hx hb dX11_putOnTape_32 rfl (lv_at hl 2 rfl) ?_
      refine lv_iload_n hx hb dX11_putOnTape_33 rfl (lv_at hl 0 rfl) ?_
      refine lv_ishr hx hb dX11_putOnTape_34 ?_
      refine lv_i2b (v := ((p0 >>> (24 &&& 31)).toInt8.toInt32)) hx hb dX11_putOnTape_35 rfl ?_
      refine va_bast hx hb hK hP hD hS 1 0 rfl rfl (show ¬ ((4 : Int32) < 0 ∨ 1600 ≤ (4 : Int32).toNatClampNeg) from by decide +kernel) dX11_putOnTape_36 (fun H locs hP hD hS => ?_)
      have hP : va_P D classes [(h0, .inr (11, (F.set 11 (.int 5)))), (tp, .inl (k.1, 1600, .inl (upd f 4 (vp_nar .byte ((p0 >>> (24 &&& 31)).toInt8.toInt32)))))] H := hP
      have hD : va_D A [(h0, .inr (11, (F.set 11 (.int 5)))), (tp, .inl (k.1, 1600, .inl (upd f 4 (vp_nar .byte ((p0 >>> (24 &&& 31)).toInt8.toInt32)))))] := hD
      generalize (upd f 4 (vp_nar .byte ((p0 >>> (24 &&& 31)).toInt8.toInt32))) = f_4 at hP hD
      refine lv_iinc (v := 16) (lv' := [(2, .int 16), (0, .ref h0), (1, .int p0)]) hx hb dX11_putOnTape_37 hl (k := 0) rfl (by decide) (by decide) rfl (fun ls hl => ?_)
      refine lv_goto (tgt := 3) hx hb dX11_putOnTape_40 (by decide) ?_
      refine lv_iload_n hx hb dX11_putOnTape_3 rfl (lv_at hl 0 rfl) ?_
      refine lv_if_lt (tgt := 43) hx hb dX11_putOnTape_4 (by decide) (fun c_5 => ?_) (fun c_5 => ?_)
      · exact absurd c_5 (by decide)
      · have c_5 : ¬ ((16 : Int32) < 0) := c_5
        refine lv_aload_n hx hb dX11_putOnTape_7 rfl (lv_at hl 1 rfl) ?_
        refine va_get (D := D) (ci := 11) (v := .int 5) (C := RX11) (T := TX11) (N := 13) hx hb hg iX11 hown hK hP 0 rfl rfl 11 (by decide) (hg (Cond.fieldLink RX11 83 "SlabWalk" "taped" "I") m581) (fun _ h9 => h9) (fs_eq g_F_taped) dX11_putOnTape_8 ?_
        refine lv_sipush (v := 1600) hx hb dX11_putOnTape_11 (by decide) ?_
        refine lv_icmp_ge (tgt := 37) hx hb dX11_putOnTape_14 (by decide) (fun c_6 => ?_) (fun c_6 => ?_)
        · exact absurd c_6 (by decide)
        · have c_6 : ¬ ((1600 : Int32) ≤ 5) := c_6
          refine lv_aload_n hx hb dX11_putOnTape_17 rfl (lv_at hl 1 rfl) ?_
          refine va_get (D := D) (ci := 11) (v := .ref tp) (C := RX11) (T := TX11) (N := 13) hx hb hg iX11 hown hK hP 0 rfl rfl 2 (by decide) (hg (Cond.fieldLink RX11 19 "SlabWalk" "tape" "[B") m572) (fun _ h9 => h9) (fs_ne g_F_tape (by decide)) dX11_putOnTape_18 ?_
          refine lv_aload_n hx hb dX11_putOnTape_21 rfl (lv_at hl 1 rfl) ?_
          refine lv_dup hx hb dX11_putOnTape_22 rfl ?_
          refine va_get (D := D) (ci := 11) (v := .int 5) (C := RX11) (T := TX11) (N := 13) hx hb hg iX11 hown hK hP 0 rfl rfl 11 (by decide) (hg (Cond.fieldLink RX11 83 "SlabWalk" "taped" "I") m581) (fun _ h9 => h9) (fs_eq g_F_taped) dX11_putOnTape_23 ?_
          refine lv_dup_x1 hx hb dX11_putOnTape_26 rfl rfl ?_
          refine lv_iconst (v := 1) hx hb dX11_putOnTape_27 (by decide) ?_
          refine lv_iadd hx hb dX11_putOnTape_28 ?_
          refine lv_topi (fun y_7 ey_7 => ?_)
          obtain rfl : y_7 = 6 := ey_7.trans (by decide)
          refine va_put (D := D) (ci := 11) (v := .int 6) (ty := .int) (C := RX11) (T := TX11) (N := 13) hx hb hg iX11 tyX11 tyX11_ok nmX11 hown hK hP hD hS 0 rfl rfl 11 (by decide) (hg (Cond.fieldLink RX11 83 "SlabWalk" "taped" "I") m581) (fun _ h9 => h9) rfl (by decide +kernel) rfl rfl (fs_lt (fs_eq g_F_taped)) dX11_putOnTape_29 (fun H locs hP hD hS => ?_)
          have hP : va_P D classes [(h0, .inr (11, ((F.set 11 (.int 5)).set 11 (.int 6)))), (tp, .inl (k.1, 1600, .inl f_4))] H := hP
          have hD : va_D A [(h0, .inr (11, ((F.set 11 (.int 5)).set 11 (.int 6)))), (tp, .inl (k.1, 1600, .inl f_4))] := hD
          refine lv_iload_n hx hb dX11_putOnTape_32 rfl (lv_at hl 2 rfl) ?_
          refine lv_iload_n hx hb dX11_putOnTape_33 rfl (lv_at hl 0 rfl) ?_
          refine lv_ishr hx hb dX11_putOnTape_34 ?_
          refine lv_i2b (v := ((p0 >>> (16 &&& 31)).toInt8.toInt32)) hx hb dX11_putOnTape_35 rfl ?_
          refine va_bast hx hb hK hP hD hS 1 0 rfl rfl (show ¬ ((5 : Int32) < 0 ∨ 1600 ≤ (5 : Int32).toNatClampNeg) from by decide +kernel) dX11_putOnTape_36 (fun H locs hP hD hS => ?_)
          have hP : va_P D classes [(h0, .inr (11, ((F.set 11 (.int 5)).set 11 (.int 6)))), (tp, .inl (k.1, 1600, .inl (upd f_4 5 (vp_nar .byte ((p0 >>> (16 &&& 31)).toInt8.toInt32)))))] H := hP
          have hD : va_D A [(h0, .inr (11, ((F.set 11 (.int 5)).set 11 (.int 6)))), (tp, .inl (k.1, 1600, .inl (upd f_4 5 (vp_nar .byte ((p0 >>> (16 &&& 31)).toInt8.toInt32)))))] := hD
          generalize (upd f_4 5 (vp_nar .byte ((p0 >>> (16 &&& 31)).toInt8.toInt32))) = f_8 at hP hD
          refine lv_iinc (v := 8) (lv' := [(2, .int 8), (0, .ref h0), (1, .int p0)]) hx hb dX11_putOnTape_37 hl (k := 0) rfl (by decide) (by decide) rfl (fun ls hl => ?_)
          refine lv_goto (tgt := 3) hx hb dX11_putOnTape_40 (by decide) ?_
          refine lv_iload_n hx hb dX11_putOnTape_3 rfl (lv_at hl 0 rfl) ?_
          refine lv_if_lt (tgt := 43) hx hb dX11_putOnTape_4 (by decide) (fun c_9 => ?_) (fun c_9 => ?_)
          · exact absurd c_9 (by decide)
          · have c_9 : ¬ ((8 : Int32) < 0) := c_9
            refine lv_aload_n hx hb dX11_putOnTape_7 rfl (lv_at hl 1 rfl) ?_
            refine va_get (D := D) (ci := 11) (v := .int 6) (C := RX11) (T := TX11) (N := 13) hx hb hg iX11 hown hK hP 0 rfl rfl 11 (by decide) (hg (Cond.fieldLink RX11 83 "SlabWalk" "taped" "I") m581) (fun _ h9 => h9) (fs_eq (fs_eq g_F_taped)) dX11_putOnTape_8 ?_
            refine lv_sipush (v := 1600) hx hb dX11_putOnTape_11 (by decide) ?_
            refine lv_icmp_ge (tgt := 37) hx hb dX11_putOnTape_14 (by decide) (fun c_10 => ?_) (fun c_10 => ?_)
            · exact absurd c_10 (by decide)
            · have c_10 : ¬ ((1600 : Int32) ≤ 6) := c_10
              refine lv_aload_n hx hb dX11_putOnTape_17 rfl (lv_at hl 1 rfl) ?_
              refine va_get (D := D) (ci := 11) (v := .ref tp) (C := RX11) (T := TX11) (N := 13) hx hb hg iX11 hown hK hP 0 rfl rfl 2 (by decide) (hg (Cond.fieldLink RX11 19 "SlabWalk" "tape" "[B") m572) (fun _ h9 => h9) (fs_ne (fs_ne g_F_tape (by decide)) (by decide)) dX11_putOnTape_18 ?_
              refine lv_aload_n hx hb dX11_putOnTape_21 rfl (lv_at hl 1 rfl) ?_
              refine lv_dup hx hb dX11_putOnTape_22 rfl ?_
              refine va_get (D := D) (ci := 11) (v := .int 6) (C := RX11) (T := TX11) (N := 13) hx hb hg iX11 hown hK hP 0 rfl rfl 11 (by decide) (hg (Cond.fieldLink RX11 83 "SlabWalk" "taped" "I") m581) (fun _ h9 => h9) (fs_eq (fs_eq g_F_taped)) dX11_putOnTape_23 ?_
              refine lv_dup_x1 hx hb dX11_putOnTape_26 rfl rfl ?_
              refine lv_iconst (v := 1) hx hb dX11_putOnTape_27 (by decide) ?_
              refine lv_iadd hx hb dX11_putOnTape_28 ?_
              refine lv_topi (fun y_11 ey_11 => ?_)
              obtain rfl : y_11 = 7 := ey_11.trans (by decide)
              refine va_put (D := D) (ci := 11) (v := .int 7) (ty := .int) (C := RX11) (T := TX11) (N := 13) hx hb hg iX11 tyX11 tyX11_ok nmX11 hown hK hP hD hS 0 rfl rfl 11 (by decide) (hg (Cond.fieldLink RX11 83 "SlabWalk" "taped" "I") m581) (fun _ h9 => h9) rfl (by decide +kernel) rfl rfl (fs_lt (fs_eq (fs_eq g_F_taped))) dX11_putOnTape_29 (fun H locs hP hD hS => ?_)
              have hP : va_P D classes [(h0, .inr (11, (((F.set 11 (.int 5)).set 11 (.int 6)).set 11 (.int 7)))), (tp, .inl (k.1, 1600, .inl f_8))] H := hP
              have hD : va_D A [(h0, .inr (11, (((F.set 11 (.int 5)).set 11 (.int 6)).set 11 (.int 7)))), (tp, .inl (k.1, 1600, .inl f_8))] := hD
              refine lv_iload_n hx hb dX11_putOnTape_32 rfl (lv_at hl 2 rfl) ?_
              refine lv_iload_n hx hb dX11_putOnTape_33 rfl (lv_at hl 0 rfl) ?_
              refine lv_ishr hx hb dX11_putOnTape_34 ?_
              refine lv_i2b (v := ((p0 >>> (8 &&& 31)).toInt8.toInt32)) hx hb dX11_putOnTape_35 rfl ?_
              refine va_bast hx hb hK hP hD hS 1 0 rfl rfl (show ¬ ((6 : Int32) < 0 ∨ 1600 ≤ (6 : Int32).toNatClampNeg) from by decide +kernel) dX11_putOnTape_36 (fun H locs hP hD hS => ?_)
              have hP : va_P D classes [(h0, .inr (11, (((F.set 11 (.int 5)).set 11 (.int 6)).set 11 (.int 7)))), (tp, .inl (k.1, 1600, .inl (upd f_8 6 (vp_nar .byte ((p0 >>> (8 &&& 31)).toInt8.toInt32)))))] H := hP
              have hD : va_D A [(h0, .inr (11, (((F.set 11 (.int 5)).set 11 (.int 6)).set 11 (.int 7)))), (tp, .inl (k.1, 1600, .inl (upd f_8 6 (vp_nar .byte ((p0 >>> (8 &&& 31)).toInt8.toInt32)))))] := hD
              generalize (upd f_8 6 (vp_nar .byte ((p0 >>> (8 &&& 31)).toInt8.toInt32))) = f_12 at hP hD
              refine lv_iinc (v := 0) (lv' := [(2, .int 0), (0, .ref h0), (1, .int p0)]) hx hb dX11_putOnTape_37 hl (k := 0) rfl (by decide) (by decide) rfl (fun ls hl => ?_)
              refine lv_goto (tgt := 3) hx hb dX11_putOnTape_40 (by decide) ?_
              refine lv_iload_n hx hb dX11_putOnTape_3 rfl (lv_at hl 0 rfl) ?_
              refine lv_if_lt (tgt := 43) hx hb dX11_putOnTape_4 (by decide) (fun c_13 => ?_) (fun c_13 => ?_)
              · exact absurd c_13 (by decide)
              · have c_13 : ¬ ((0 : Int32) < 0) := c_13
                refine lv_aload_n hx hb dX11_putOnTape_7 rfl (lv_at hl 1 rfl) ?_
                refine va_get (D := D) (ci := 11) (v := .int 7) (C := RX11) (T := TX11) (N := 13) hx hb hg iX11 hown hK hP 0 rfl rfl 11 (by decide) (hg (Cond.fieldLink RX11 83 "SlabWalk" "taped" "I") m581) (fun _ h9 => h9) (fs_eq (fs_eq (fs_eq g_F_taped))) dX11_putOnTape_8 ?_
                refine lv_sipush (v := 1600) hx hb dX11_putOnTape_11 (by decide) ?_
                refine lv_icmp_ge (tgt := 37) hx hb dX11_putOnTape_14 (by decide) (fun c_14 => ?_) (fun c_14 => ?_)
                · exact absurd c_14 (by decide)
                · have c_14 : ¬ ((1600 : Int32) ≤ 7) := c_14
                  refine lv_aload_n hx hb dX11_putOnTape_17 rfl (lv_at hl 1 rfl) ?_
                  refine va_get (D := D) (ci := 11) (v := .ref tp) (C := RX11) (T := TX11) (N := 13) hx hb hg iX11 hown hK hP 0 rfl rfl 2 (by decide) (hg (Cond.fieldLink RX11 19 "SlabWalk" "tape" "[B") m572) (fun _ h9 => h9) (fs_ne (fs_ne (fs_ne g_F_tape (by decide)) (by decide)) (by decide)) dX11_putOnTape_18 ?_
                  refine lv_aload_n hx hb dX11_putOnTape_21 rfl (lv_at hl 1 rfl) ?_
                  refine lv_dup hx hb dX11_putOnTape_22 rfl ?_
                  refine va_get (D := D) (ci := 11) (v := .int 7) (C := RX11) (T := TX11) (N := 13) hx hb hg iX11 hown hK hP 0 rfl rfl 11 (by decide) (hg (Cond.fieldLink RX11 83 "SlabWalk" "taped" "I") m581) (fun _ h9 => h9) (fs_eq (fs_eq (fs_eq g_F_taped))) dX11_putOnTape_23 ?_
                  refine lv_dup_x1 hx hb dX11_putOnTape_26 rfl rfl ?_
                  refine lv_iconst (v := 1) hx hb dX11_putOnTape_27 (by decide) ?_
                  refine lv_iadd hx hb dX11_putOnTape_28 ?_
                  refine lv_topi (fun y_15 ey_15 => ?_)
                  obtain rfl : y_15 = 8 := ey_15.trans (by decide)
                  refine va_put (D := D) (ci := 11) (v := .int 8) (ty := .int) (C := RX11) (T := TX11) (N := 13) hx hb hg iX11 tyX11 tyX11_ok nmX11 hown hK hP hD hS 0 rfl rfl 11 (by decide) (hg (Cond.fieldLink RX11 83 "SlabWalk" "taped" "I") m581) (fun _ h9 => h9) rfl (by decide +kernel) rfl rfl (fs_lt (fs_eq (fs_eq (fs_eq g_F_taped)))) dX11_putOnTape_29 (fun H locs hP hD hS => ?_)
                  have hP : va_P D classes [(h0, .inr (11, ((((F.set 11 (.int 5)).set 11 (.int 6)).set 11 (.int 7)).set 11 (.int 8)))), (tp, .inl (k.1, 1600, .inl f_12))] H := hP
                  have hD : va_D A [(h0, .inr (11, ((((F.set 11 (.int 5)).set 11 (.int 6)).set 11 (.int 7)).set 11 (.int 8)))), (tp, .inl (k.1, 1600, .inl f_12))] := hD
                  refine lv_iload_n hx hb dX11_putOnTape_32 rfl (lv_at hl 2 rfl) ?_
                  refine lv_iload_n hx hb dX11_putOnTape_33 rfl (lv_at hl 0 rfl) ?_
                  refine lv_ishr hx hb dX11_putOnTape_34 ?_
                  refine lv_i2b (v := ((p0 >>> (0 &&& 31)).toInt8.toInt32)) hx hb dX11_putOnTape_35 rfl ?_
                  refine va_bast hx hb hK hP hD hS 1 0 rfl rfl (show ¬ ((7 : Int32) < 0 ∨ 1600 ≤ (7 : Int32).toNatClampNeg) from by decide +kernel) dX11_putOnTape_36 (fun H locs hP hD hS => ?_)
                  have hP : va_P D classes [(h0, .inr (11, ((((F.set 11 (.int 5)).set 11 (.int 6)).set 11 (.int 7)).set 11 (.int 8)))), (tp, .inl (k.1, 1600, .inl (upd f_12 7 (vp_nar .byte ((p0 >>> (0 &&& 31)).toInt8.toInt32)))))] H := hP
                  have hD : va_D A [(h0, .inr (11, ((((F.set 11 (.int 5)).set 11 (.int 6)).set 11 (.int 7)).set 11 (.int 8)))), (tp, .inl (k.1, 1600, .inl (upd f_12 7 (vp_nar .byte ((p0 >>> (0 &&& 31)).toInt8.toInt32)))))] := hD
                  generalize (upd f_12 7 (vp_nar .byte ((p0 >>> (0 &&& 31)).toInt8.toInt32))) = f_16 at hP hD
                  refine lv_iinc (v := (-8)) (lv' := [(2, .int (-8)), (0, .ref h0), (1, .int p0)]) hx hb dX11_putOnTape_37 hl (k := 0) rfl (by decide) (by decide) rfl (fun ls hl => ?_)
                  refine lv_goto (tgt := 3) hx hb dX11_putOnTape_40 (by decide) ?_
                  refine lv_iload_n hx hb dX11_putOnTape_3 rfl (lv_at hl 0 rfl) ?_
                  refine lv_if_lt (tgt := 43) hx hb dX11_putOnTape_4 (by decide) (fun c_17 => ?_) (fun c_17 => ?_)
                  · have c_17 : ((-8) : Int32) < 0 := c_17
                    have hP9 := hP.sub (ws' := [(h0, .inr (11, ((((F.set 11 (.int 5)).set 11 (.int 6)).set 11 (.int 7)).set 11 (.int 8)))), (tp, .inl (k.1, 1600, .inl f_16))]) [0, 1] rfl
                    have hD9 := hD.sub (ws' := [(h0, .inr (11, ((((F.set 11 (.int 5)).set 11 (.int 6)).set 11 (.int 7)).set 11 (.int 8)))), (tp, .inl (k.1, 1600, .inl f_16))]) [0, 1] (by decide) rfl
                    exact W.vret hx hb hr (fun t ht hW => ⟨⟨(), rfl, trivial, ⟨((((F.set 11 (.int 5)).set 11 (.int 6)).set 11 (.int 7)).set 11 (.int 8)), f_16, (fs_eq (fs_eq (fs_eq (fs_eq g_F_taped)))), (fs_ne (fs_ne (fs_ne (fs_ne g_F_tape (by decide)) (by decide)) (by decide)) (by decide)), cB_of ht hP9 hD9⟩⟩, hS.F ht⟩) hS.2.2 dX11_putOnTape_43
                  · exact absurd (by decide) c_17

set_option maxHeartbeats 4000000 in
set_option maxRecDepth 100000 in
theorem c_put8 (l : Launch) (D : va_G) (k : ClassId × ClassId × ClassId × ClassId) (sz : Nat) (h0 tp : Nat) (F : List Value) (f : Nat → Int32) (p0 : Int32) (g_F_taped : F[11]? = some (.int 8)) (g_F_tape : F[2]? = some (.ref tp)) : Met l yX11_putOnTape (WS yX11_putOnTape cX11_putOnTape 3 none) ({ frames := 0, cells := 0, slots := 0, locals := 0 }) (va_Pc [.ref h0, .int p0] (cP D k [(h0, .inr (11, F)), (tp, .inl (k.1, 1600, .inl f))] sz)) (va_Qv (fun _ : Unit => True) (fun (_ : Unit) t => ∃ (F2 : List Value), ∃ (g : Nat → Int32), F2[11]? = some (.int 12) ∧ F2[2]? = some (.ref tp) ∧ cB D (va_A [(h0, .inr (11, F)), (tp, .inl (k.1, 1600, .inl f))] sz) [(h0, .inr (11, F2)), (tp, .inl (k.1, 1600, .inl g))] t) (va_A [(h0, .inr (11, F)), (tp, .inl (k.1, 1600, .inl f))] sz)) 0 0 (va_A [(h0, .inr (11, F)), (tp, .inl (k.1, 1600, .inl f))] sz) := by
  refine Met.ofW (cc := cX11_putOnTape) (maxL := 3) (ret := none) (by decide) rfl ?_
  intro p e s m args below meth c s₁ B hml hv
  obtain ⟨rfl, hsz, hP, hKX, hD0⟩ := hv
  have hK := hKX.1
  have hx := B.exec
  have hb := B.bytes
  have hr := B.returns
  have hts := atoms_spec (ws := WS yX11_putOnTape cX11_putOnTape 3 none) B.pre
  have hgd : ∀ w ∈ gd, w ∈ WS yX11_putOnTape cX11_putOnTape 3 none := fun w h => List.mem_cons_of_mem _ h
  have hg : ∀ w ∈ gd, w.before _ s = true := fun w h => hts w (hgd w h)
  have hown : s.vm.findClass RX11 = some m.cls := findClass_of_methodNamed B.named
  have hlocks := B.notSynchronized
  subst hsz
  have hD := hD0.self (sz := s.heap.size)
  generalize hAe : va_A [(h0, .inr (11, F)), (tp, .inl (k.1, 1600, .inl f))] s.heap.size = A at hD ⊢
  have hA : ∀ q : Nat, s.heap.size ≤ q → A q := fun q h => by rw [← hAe]; exact Or.inr h
  have hS : va_S A s.heap s.heap [] := va_S.rf
  have hP : va_P D classes [(h0, .inr (11, F)), (tp, .inl (k.1, 1600, .inl f))] s.heap := hP
  have hl := lv_entry ([.ref h0, .int p0]) (n := 3) (Nat.le_of_ble_eq_true rfl)
  rw [lg_entry_eq]
  generalize (lg_sl ([.ref h0, .int p0]) ++ List.replicate (3 - (lg_sl ([.ref h0, .int p0])).length) Slot.unset).toArray = ls at hl ⊢
  have hl : lv_has ls 3 [(0, .ref h0), (1, .int p0)] := hl
  refine lv_bipush (v := 24) hx hb dX11_putOnTape_0 (by decide) ?_
  refine lv_istore_n (lv' := [(2, .int 24), (0, .ref h0), (1, .int p0)]) hx hb dX11_putOnTape_2 rfl hl (by decide) rfl (fun ls hl => ?_)
  refine lv_iload_n hx hb dX11_putOnTape_3 rfl (lv_at hl 0 rfl) ?_
  refine lv_if_lt (tgt := 43) hx hb dX11_putOnTape_4 (by decide) (fun c_1 => ?_) (fun c_1 => ?_)
  · exact absurd c_1 (by decide)
  · have c_1 : ¬ ((24 : Int32) < 0) := c_1
    refine lv_aload_n hx hb dX11_putOnTape_7 rfl (lv_at hl 1 rfl) ?_
    refine va_get (D := D) (ci := 11) (v := .int 8) (C := RX11) (T := TX11) (N := 13) hx hb hg iX11 hown hK hP 0 rfl rfl 11 (by decide) (hg (Cond.fieldLink RX11 83 "SlabWalk" "taped" "I") m581) (fun _ h9 => h9) g_F_taped dX11_putOnTape_8 ?_
    refine lv_sipush (v := 1600) hx hb dX11_putOnTape_11 (by decide) ?_
    refine lv_icmp_ge (tgt := 37) hx hb dX11_putOnTape_14 (by decide) (fun c_2 => ?_) (fun c_2 => ?_)
    · exact absurd c_2 (by decide)
    · have c_2 : ¬ ((1600 : Int32) ≤ 8) := c_2
      refine lv_aload_n hx hb dX11_putOnTape_17 rfl (lv_at hl 1 rfl) ?_
      refine va_get (D := D) (ci := 11) (v := .ref tp) (C := RX11) (T := TX11) (N := 13) hx hb hg iX11 hown hK hP 0 rfl rfl 2 (by decide) (hg (Cond.fieldLink RX11 19 "SlabWalk" "tape" "[B") m572) (fun _ h9 => h9) g_F_tape dX11_putOnTape_18 ?_
      refine lv_aload_n hx hb dX11_putOnTape_21 rfl (lv_at hl 1 rfl) ?_
      refine lv_dup hx hb dX11_putOnTape_22 rfl ?_
      refine va_get (D := D) (ci := 11) (v := .int 8) (C := RX11) (T := TX11) (N := 13) hx hb hg iX11 hown hK hP 0 rfl rfl 11 (by decide) (hg (Cond.fieldLink RX11 83 "SlabWalk" "taped" "I") m581) (fun _ h9 => h9) g_F_taped dX11_putOnTape_23 ?_
      refine lv_dup_x1 hx hb dX11_putOnTape_26 rfl rfl ?_
      refine lv_iconst (v := 1) hx hb dX11_putOnTape_27 (by decide) ?_
      refine lv_iadd hx hb dX11_putOnTape_28 ?_
      refine lv_topi (fun y_3 ey_3 => ?_)
      obtain rfl : y_3 = 9 := ey_3.trans (by decide)
      refine va_put (D := D) (ci := 11) (v := .int 9) (ty := .int) (C := RX11) (T := TX11) (N := 13) hx hb hg iX11 tyX11 tyX11_ok nmX11 hown hK hP hD hS 0 rfl rfl 11 (by decide) (hg (Cond.fieldLink RX11 83 "SlabWalk" "taped" "I") m581) (fun _ h9 => h9) rfl (by decide +kernel) rfl rfl (fs_lt g_F_taped) dX11_putOnTape_29 (fun H locs hP hD hS => ?_)
      have hP : va_P D classes [(h0, .inr (11, (F.set 11 (.int 9)))), (tp, .inl (k.1, 1600, .inl f))] H := hP
      have hD : va_D A [(h0, .inr (11, (F.set 11 (.int 9)))), (tp, .inl (k.1, 1600, .inl f))] := hD
      refine lv_iload_n hx hb dX11_putOnTape_32 rfl (lv_at hl 2 rfl) ?_
      refine lv_iload_n hx hb dX11_putOnTape_33 rfl (lv_at hl 0 rfl) ?_
      refine lv_ishr hx hb dX11_putOnTape_34 ?_
      refine lv_i2b (v := ((p0 >>> (24 &&& 31)).toInt8.toInt32)) hx hb dX11_putOnTape_35 rfl ?_
      refine va_bast hx hb hK hP hD hS 1 0 rfl rfl (show ¬ ((8 : Int32) < 0 ∨ 1600 ≤ (8 : Int32).toNatClampNeg) from by decide +kernel) dX11_putOnTape_36 (fun H locs hP hD hS => ?_)
      have hP : va_P D classes [(h0, .inr (11, (F.set 11 (.int 9)))), (tp, .inl (k.1, 1600, .inl (upd f 8 (vp_nar .byte ((p0 >>> (24 &&& 31)).toInt8.toInt32)))))] H := hP
      have hD : va_D A [(h0, .inr (11, (F.set 11 (.int 9)))), (tp, .inl (k.1, 1600, .inl (upd f 8 (vp_nar .byte ((p0 >>> (24 &&& 31)).toInt8.toInt32)))))] := hD
      generalize (upd f 8 (vp_nar .byte ((p0 >>> (24 &&& 31)).toInt8.toInt32))) = f_4 at hP hD
      refine lv_iinc (v := 16) (lv' := [(2, .int 16), (0, .ref h0), (1, .int p0)]) hx hb dX11_putOnTape_37 hl (k := 0) rfl (by decide) (by decide) rfl (fun ls hl => ?_)
      refine lv_goto (tgt := 3) hx hb dX11_putOnTape_40 (by decide) ?_
      refine lv_iload_n hx hb dX11_putOnTape_3 rfl (lv_at hl 0 rfl) ?_
      refine lv_if_lt (tgt := 43) hx hb dX11_putOnTape_4 (by decide) (fun c_5 => ?_) (fun c_5 => ?_)
      · exact absurd c_5 (by decide)
      · have c_5 : ¬ ((16 : Int32) < 0) := c_5
        refine lv_aload_n hx hb dX11_putOnTape_7 rfl (lv_at hl 1 rfl) ?_
        refine va_get (D := D) (ci := 11) (v := .int 9) (C := RX11) (T := TX11) (N := 13) hx hb hg iX11 hown hK hP 0 rfl rfl 11 (by decide) (hg (Cond.fieldLink RX11 83 "SlabWalk" "taped" "I") m581) (fun _ h9 => h9) (fs_eq g_F_taped) dX11_putOnTape_8 ?_
        refine lv_sipush (v := 1600) hx hb dX11_putOnTape_11 (by decide) ?_
        refine lv_icmp_ge (tgt := 37) hx hb dX11_putOnTape_14 (by decide) (fun c_6 => ?_) (fun c_6 => ?_)
        · exact absurd c_6 (by decide)
        · have c_6 : ¬ ((1600 : Int32) ≤ 9) := c_6
          refine lv_aload_n hx hb dX11_putOnTape_17 rfl (lv_at hl 1 rfl) ?_
          refine va_get (D := D) (ci := 11) (v := .ref tp) (C := RX11) (T := TX11) (N := 13) hx hb hg iX11 hown hK hP 0 rfl rfl 2 (by decide) (hg (Cond.fieldLink RX11 19 "SlabWalk" "tape" "[B") m572) (fun _ h9 => h9) (fs_ne g_F_tape (by decide)) dX11_putOnTape_18 ?_
          refine lv_aload_n hx hb dX11_putOnTape_21 rfl (lv_at hl 1 rfl) ?_
          refine lv_dup hx hb dX11_putOnTape_22 rfl ?_
          refine va_get (D := D) (ci := 11) (v := .int 9) (C := RX11) (T := TX11) (N := 13) hx hb hg iX11 hown hK hP 0 rfl rfl 11 (by decide) (hg (Cond.fieldLink RX11 83 "SlabWalk" "taped" "I") m581) (fun _ h9 => h9) (fs_eq g_F_taped) dX11_putOnTape_23 ?_
          refine lv_dup_x1 hx hb dX11_putOnTape_26 rfl rfl ?_
          refine lv_iconst (v := 1) hx hb dX11_putOnTape_27 (by decide) ?_
          refine lv_iadd hx hb dX11_putOnTape_28 ?_
          refine lv_topi (fun y_7 ey_7 => ?_)
          obtain rfl : y_7 = 10 := ey_7.trans (by decide)
          refine va_put (D := D) (ci := 11) (v := .int 10) (ty := .int) (C := RX11) (T := TX11) (N := 13) hx hb hg iX11 tyX11 tyX11_ok nmX11 hown hK hP hD hS 0 rfl rfl 11 (by decide) (hg (Cond.fieldLink RX11 83 "SlabWalk" "taped" "I") m581) (fun _ h9 => h9) rfl (by decide +kernel) rfl rfl (fs_lt (fs_eq g_F_taped)) dX11_putOnTape_29 (fun H locs hP hD hS => ?_)
          have hP : va_P D classes [(h0, .inr (11, ((F.set 11 (.int 9)).set 11 (.int 10)))), (tp, .inl (k.1, 1600, .inl f_4))] H := hP
          have hD : va_D A [(h0, .inr (11, ((F.set 11 (.int 9)).set 11 (.int 10)))), (tp, .inl (k.1, 1600, .inl f_4))] := hD
          refine lv_iload_n hx hb dX11_putOnTape_32 rfl (lv_at hl 2 rfl) ?_
          refine lv_iload_n hx hb dX11_putOnTape_33 rfl (lv_at hl 0 rfl) ?_
          refine lv_ishr hx hb dX11_putOnTape_34 ?_
          refine lv_i2b (v := ((p0 >>> (16 &&& 31)).toInt8.toInt32)) hx hb dX11_putOnTape_35 rfl ?_
          refine va_bast hx hb hK hP hD hS 1 0 rfl rfl (show ¬ ((9 : Int32) < 0 ∨ 1600 ≤ (9 : Int32).toNatClampNeg) from by decide +kernel) dX11_putOnTape_36 (fun H locs hP hD hS => ?_)
          have hP : va_P D classes [(h0, .inr (11, ((F.set 11 (.int 9)).set 11 (.int 10)))), (tp, .inl (k.1, 1600, .inl (upd f_4 9 (vp_nar .byte ((p0 >>> (16 &&& 31)).toInt8.toInt32)))))] H := hP
          have hD : va_D A [(h0, .inr (11, ((F.set 11 (.int 9)).set 11 (.int 10)))), (tp, .inl (k.1, 1600, .inl (upd f_4 9 (vp_nar .byte ((p0 >>> (16 &&& 31)).toInt8.toInt32)))))] := hD
          generalize (upd f_4 9 (vp_nar .byte ((p0 >>> (16 &&& 31)).toInt8.toInt32))) = f_8 at hP hD
          refine lv_iinc (v := 8) (lv' := [(2, .int 8), (0, .ref h0), (1, .int p0)]) hx hb dX11_putOnTape_37 hl (k := 0) rfl (by decide) (by decide) rfl (fun ls hl => ?_)
          refine lv_goto (tgt := 3) hx hb dX11_putOnTape_40 (by decide) ?_
          refine lv_iload_n hx hb dX11_putOnTape_3 rfl (lv_at hl 0 rfl) ?_
          refine lv_if_lt (tgt := 43) hx hb dX11_putOnTape_4 (by decide) (fun c_9 => ?_) (fun c_9 => ?_)
          · exact absurd c_9 (by decide)
          · have c_9 : ¬ ((8 : Int32) < 0) := c_9
            refine lv_aload_n hx hb dX11_putOnTape_7 rfl (lv_at hl 1 rfl) ?_
            refine va_get (D := D) (ci := 11) (v := .int 10) (C := RX11) (T := TX11) (N := 13) hx hb hg iX11 hown hK hP 0 rfl rfl 11 (by decide) (hg (Cond.fieldLink RX11 83 "SlabWalk" "taped" "I") m581) (fun _ h9 => h9) (fs_eq (fs_eq g_F_taped)) dX11_putOnTape_8 ?_
            refine lv_sipush (v := 1600) hx hb dX11_putOnTape_11 (by decide) ?_
            refine lv_icmp_ge (tgt := 37) hx hb dX11_putOnTape_14 (by decide) (fun c_10 => ?_) (fun c_10 => ?_)
            · exact absurd c_10 (by decide)
            · have c_10 : ¬ ((1600 : Int32) ≤ 10) := c_10
              refine lv_aload_n hx hb dX11_putOnTape_17 rfl (lv_at hl 1 rfl) ?_
              refine va_get (D := D) (ci := 11) (v := .ref tp) (C := RX11) (T := TX11) (N := 13) hx hb hg iX11 hown hK hP 0 rfl rfl 2 (by decide) (hg (Cond.fieldLink RX11 19 "SlabWalk" "tape" "[B") m572) (fun _ h9 => h9) (fs_ne (fs_ne g_F_tape (by decide)) (by decide)) dX11_putOnTape_18 ?_
              refine lv_aload_n hx hb dX11_putOnTape_21 rfl (lv_at hl 1 rfl) ?_
              refine lv_dup hx hb dX11_putOnTape_22 rfl ?_
              refine va_get (D := D) (ci := 11) (v := .int 10) (C := RX11) (T := TX11) (N := 13) hx hb hg iX11 hown hK hP 0 rfl rfl 11 (by decide) (hg (Cond.fieldLink RX11 83 "SlabWalk" "taped" "I") m581) (fun _ h9 => h9) (fs_eq (fs_eq g_F_taped)) dX11_putOnTape_23 ?_
              refine lv_dup_x1 hx hb dX11_putOnTape_26 rfl rfl ?_
              refine lv_iconst (v := 1) hx hb dX11_putOnTape_27 (by decide) ?_
              refine lv_iadd hx hb dX11_putOnTape_28 ?_
              refine lv_topi (fun y_11 ey_11 => ?_)
              obtain rfl : y_11 = 11 := ey_11.trans (by decide)
              refine va_put (D := D) (ci := 11) (v := .int 11) (ty := .int) (C := RX11) (T := TX11) (N := 13) hx hb hg iX11 tyX11 tyX11_ok nmX11 hown hK hP hD hS 0 rfl rfl 11 (by decide) (hg (Cond.fieldLink RX11 83 "SlabWalk" "taped" "I") m581) (fun _ h9 => h9) rfl (by decide +kernel) rfl rfl (fs_lt (fs_eq (fs_eq g_F_taped))) dX11_putOnTape_29 (fun H locs hP hD hS => ?_)
              have hP : va_P D classes [(h0, .inr (11, (((F.set 11 (.int 9)).set 11 (.int 10)).set 11 (.int 11)))), (tp, .inl (k.1, 1600, .inl f_8))] H := hP
              have hD : va_D A [(h0, .inr (11, (((F.set 11 (.int 9)).set 11 (.int 10)).set 11 (.int 11)))), (tp, .inl (k.1, 1600, .inl f_8))] := hD
              refine lv_iload_n hx hb dX11_putOnTape_32 rfl (lv_at hl 2 rfl) ?_
              refine lv_iload_n hx hb dX11_putOnTape_33 rfl (lv_at hl 0 rfl) ?_
              refine lv_ishr hx hb dX11_putOnTape_34 ?_
              refine lv_i2b (v := ((p0 >>> (8 &&& 31)).toInt8.toInt32)) hx hb dX11_putOnTape_35 rfl ?_
              refine va_bast hx hb hK hP hD hS 1 0 rfl rfl (show ¬ ((10 : Int32) < 0 ∨ 1600 ≤ (10 : Int32).toNatClampNeg) from by decide +kernel) dX11_putOnTape_36 (fun H locs hP hD hS => ?_)
              have hP : va_P D classes [(h0, .inr (11, (((F.set 11 (.int 9)).set 11 (.int 10)).set 11 (.int 11)))), (tp, .inl (k.1, 1600, .inl (upd f_8 10 (vp_nar .byte ((p0 >>> (8 &&& 31)).toInt8.toInt32)))))] H := hP
              have hD : va_D A [(h0, .inr (11, (((F.set 11 (.int 9)).set 11 (.int 10)).set 11 (.int 11)))), (tp, .inl (k.1, 1600, .inl (upd f_8 10 (vp_nar .byte ((p0 >>> (8 &&& 31)).toInt8.toInt32)))))] := hD
              generalize (upd f_8 10 (vp_nar .byte ((p0 >>> (8 &&& 31)).toInt8.toInt32))) = f_12 at hP hD
              refine lv_iinc (v := 0) (lv' := [(2, .int 0), (0, .ref h0), (1, .int p0)]) hx hb dX11_putOnTape_37 hl (k := 0) rfl (by decide) (by decide) rfl (fun ls hl => ?_)
              refine lv_goto (tgt := 3) hx hb dX11_putOnTape_40 (by decide) ?_
              refine lv_iload_n hx hb dX11_putOnTape_3 rfl (lv_at hl 0 rfl) ?_
              refine lv_if_lt (tgt := 43) hx hb dX11_putOnTape_4 (by decide) (fun c_13 => ?_) (fun c_13 => ?_)
              · exact absurd c_13 (by decide)
              · have c_13 : ¬ ((0 : Int32) < 0) := c_13
                refine lv_aload_n hx hb dX11_putOnTape_7 rfl (lv_at hl 1 rfl) ?_
                refine va_get (D := D) (ci := 11) (v := .int 11) (C := RX11) (T := TX11) (N := 13) hx hb hg iX11 hown hK hP 0 rfl rfl 11 (by decide) (hg (Cond.fieldLink RX11 83 "SlabWalk" "taped" "I") m581) (fun _ h9 => h9) (fs_eq (fs_eq (fs_eq g_F_taped))) dX11_putOnTape_8 ?_
                refine lv_sipush (v := 1600) hx hb dX11_putOnTape_11 (by decide) ?_
                refine lv_icmp_ge (tgt := 37) hx hb dX11_putOnTape_14 (by decide) (fun c_14 => ?_) (fun c_14 => ?_)
                · exact absurd c_14 (by decide)
                · have c_14 : ¬ ((1600 : Int32) ≤ 11) := c_14
                  refine lv_aload_n hx hb dX11_putOnTape_17 rfl (lv_at hl 1 rfl) ?_
                  refine va_get (D := D) (ci := 11) (v := .ref tp) (C := RX11) (T := TX11) (N := 13) hx hb hg iX11 hown hK hP 0 rfl rfl 2 (by decide) (hg (Cond.fieldLink RX11 19 "SlabWalk" "tape" "[B") m572) (fun _ h9 => h9) (fs_ne (fs_ne (fs_ne g_F_tape (by decide)) (by decide)) (by decide)) dX11_putOnTape_18 ?_
                  refine lv_aload_n hx hb dX11_putOnTape_21 rfl (lv_at hl 1 rfl) ?_
                  refine lv_dup hx hb dX11_putOnTape_22 rfl ?_
                  refine va_get (D := D) (ci := 11) (v := .int 11) (C := RX11) (T := TX11) (N := 13) hx hb hg iX11 hown hK hP 0 rfl rfl 11 (by decide) (hg (Cond.fieldLink RX11 83 "SlabWalk" "taped" "I") m581) (fun _ h9 => h9) (fs_eq (fs_eq (fs_eq g_F_taped))) dX11_putOnTape_23 ?_
                  refine lv_dup_x1 hx hb dX11_putOnTape_26 rfl rfl ?_
                  refine lv_iconst (v := 1) hx hb dX11_putOnTape_27 (by decide) ?_
                  refine lv_iadd hx hb dX11_putOnTape_28 ?_
                  refine lv_topi (fun y_15 ey_15 => ?_)
                  obtain rfl : y_15 = 12 := ey_15.trans (by decide)
                  refine va_put (D := D) (ci := 11) (v := .int 12) (ty := .int) (C := RX11) (T := TX11) (N := 13) hx hb hg iX11 tyX11 tyX11_ok nmX11 hown hK hP hD hS 0 rfl rfl 11 (by decide) (hg (Cond.fieldLink RX11 83 "SlabWalk" "taped" "I") m581) (fun _ h9 => h9) rfl (by decide +kernel) rfl rfl (fs_lt (fs_eq (fs_eq (fs_eq g_F_taped)))) dX11_putOnTape_29 (fun H locs hP hD hS => ?_)
                  have hP : va_P D classes [(h0, .inr (11, ((((F.set 11 (.int 9)).set 11 (.int 10)).set 11 (.int 11)).set 11 (.int 12)))), (tp, .inl (k.1, 1600, .inl f_12))] H := hP
                  have hD : va_D A [(h0, .inr (11, ((((F.set 11 (.int 9)).set 11 (.int 10)).set 11 (.int 11)).set 11 (.int 12)))), (tp, .inl (k.1, 1600, .inl f_12))] := hD
                  refine lv_iload_n hx hb dX11_putOnTape_32 rfl (lv_at hl 2 rfl) ?_
                  refine lv_iload_n hx hb dX11_putOnTape_33 rfl (lv_at hl 0 rfl) ?_
                  refine lv_ishr hx hb dX11_putOnTape_34 ?_
                  refine lv_i2b (v := ((p0 >>> (0 &&& 31)).toInt8.toInt32)) hx hb dX11_putOnTape_35 rfl ?_
                  refine va_bast hx hb hK hP hD hS 1 0 rfl rfl (show ¬ ((11 : Int32) < 0 ∨ 1600 ≤ (11 : Int32).toNatClampNeg) from by decide +kernel) dX11_putOnTape_36 (fun H locs hP hD hS => ?_)
                  have hP : va_P D classes [(h0, .inr (11, ((((F.set 11 (.int 9)).set 11 (.int 10)).set 11 (.int 11)).set 11 (.int 12)))), (tp, .inl (k.1, 1600, .inl (upd f_12 11 (vp_nar .byte ((p0 >>> (0 &&& 31)).toInt8.toInt32)))))] H := hP
                  have hD : va_D A [(h0, .inr (11, ((((F.set 11 (.int 9)).set 11 (.int 10)).set 11 (.int 11)).set 11 (.int 12)))), (tp, .inl (k.1, 1600, .inl (upd f_12 11 (vp_nar .byte ((p0 >>> (0 &&& 31)).toInt8.toInt32)))))] := hD
                  generalize (upd f_12 11 (vp_nar .byte ((p0 >>> (0 &&& 31)).toInt8.toInt32))) = f_16 at hP hD
                  refine lv_iinc (v := (-8)) (lv' := [(2, .int (-8)), (0, .ref h0), (1, .int p0)]) hx hb dX11_putOnTape_37 hl (k := 0) rfl (by decide) (by decide) rfl (fun ls hl => ?_)
                  refine lv_goto (tgt := 3) hx hb dX11_putOnTape_40 (by decide) ?_
                  refine lv_iload_n hx hb dX11_putOnTape_3 rfl (lv_at hl 0 rfl) ?_
                  refine lv_if_lt (tgt := 43) hx hb dX11_putOnTape_4 (by decide) (fun c_17 => ?_) (fun c_17 => ?_)
                  · have c_17 : ((-8) : Int32) < 0 := c_17
                    have hP9 := hP.sub (ws' := [(h0, .inr (11, ((((F.set 11 (.int 9)).set 11 (.int 10)).set 11 (.int 11)).set 11 (.int 12)))), (tp, .inl (k.1, 1600, .inl f_16))]) [0, 1] rfl
                    have hD9 := hD.sub (ws' := [(h0, .inr (11, ((((F.set 11 (.int 9)).set 11 (.int 10)).set 11 (.int 11)).set 11 (.int 12)))), (tp, .inl (k.1, 1600, .inl f_16))]) [0, 1] (by decide) rfl
                    exact W.vret hx hb hr (fun t ht hW => ⟨⟨(), rfl, trivial, ⟨((((F.set 11 (.int 9)).set 11 (.int 10)).set 11 (.int 11)).set 11 (.int 12)), f_16, (fs_eq (fs_eq (fs_eq (fs_eq g_F_taped)))), (fs_ne (fs_ne (fs_ne (fs_ne g_F_tape (by decide)) (by decide)) (by decide)) (by decide)), cB_of ht hP9 hD9⟩⟩, hS.F ht⟩) hS.2.2 dX11_putOnTape_43
                  · exact absurd (by decide) c_17

set_option maxHeartbeats 4000000 in
set_option maxRecDepth 100000 in
theorem c_put12 (l : Launch) (D : va_G) (k : ClassId × ClassId × ClassId × ClassId) (sz : Nat) (h0 tp : Nat) (F : List Value) (f : Nat → Int32) (p0 : Int32) (g_F_taped : F[11]? = some (.int 12)) (g_F_tape : F[2]? = some (.ref tp)) : Met l yX11_putOnTape (WS yX11_putOnTape cX11_putOnTape 3 none) ({ frames := 0, cells := 0, slots := 0, locals := 0 }) (va_Pc [.ref h0, .int p0] (cP D k [(h0, .inr (11, F)), (tp, .inl (k.1, 1600, .inl f))] sz)) (va_Qv (fun _ : Unit => True) (fun (_ : Unit) t => ∃ (F2 : List Value), ∃ (g : Nat → Int32), F2[11]? = some (.int 16) ∧ F2[2]? = some (.ref tp) ∧ cB D (va_A [(h0, .inr (11, F)), (tp, .inl (k.1, 1600, .inl f))] sz) [(h0, .inr (11, F2)), (tp, .inl (k.1, 1600, .inl g))] t) (va_A [(h0, .inr (11, F)), (tp, .inl (k.1, 1600, .inl f))] sz)) 0 0 (va_A [(h0, .inr (11, F)), (tp, .inl (k.1, 1600, .inl f))] sz) := by
  refine Met.ofW (cc := cX11_putOnTape) (maxL := 3) (ret := none) (by decide) rfl ?_
  intro p e s m args below meth c s₁ B hml hv
  obtain ⟨rfl, hsz, hP, hKX, hD0⟩ := hv
  have hK := hKX.1
  have hx := B.exec
  have hb := B.bytes
  have hr := B.returns
  have hts := atoms_spec (ws := WS yX11_putOnTape cX11_putOnTape 3 none) B.pre
  have hgd : ∀ w ∈ gd, w ∈ WS yX11_putOnTape cX11_putOnTape 3 none := fun w h => List.mem_cons_of_mem _ h
  have hg : ∀ w ∈ gd, w.before _ s = true := fun w h => hts w (hgd w h)
  have hown : s.vm.findClass RX11 = some m.cls := findClass_of_methodNamed B.named
  have hlocks := B.notSynchronized
  subst hsz
  have hD := hD0.self (sz := s.heap.size)
  generalize hAe : va_A [(h0, .inr (11, F)), (tp, .inl (k.1, 1600, .inl f))] s.heap.size = A at hD ⊢
  have hA : ∀ q : Nat, s.heap.size ≤ q → A q := fun q h => by rw [← hAe]; exact Or.inr h
  have hS : va_S A s.heap s.heap [] := va_S.rf
  have hP : va_P D classes [(h0, .inr (11, F)), (tp, .inl (k.1, 1600, .inl f))] s.heap := hP
  have hl := lv_entry ([.ref h0, .int p0]) (n := 3) (Nat.le_of_ble_eq_true rfl)
  rw [lg_entry_eq]
  generalize (lg_sl ([.ref h0, .int p0]) ++ List.replicate (3 - (lg_sl ([.ref h0, .int p0])).length) Slot.unset).toArray = ls at hl ⊢
  have hl : lv_has ls 3 [(0, .ref h0), (1, .int p0)] := hl
  refine lv_bipush (v := 24) hx hb dX11_putOnTape_0 (by decide) ?_
  refine lv_istore_n (lv' := [(2, .int 24), (0, .ref h0), (1, .int p0)]) hx hb dX11_putOnTape_2 rfl hl (by decide) rfl (fun ls hl => ?_)
  refine lv_iload_n hx hb dX11_putOnTape_3 rfl (lv_at hl 0 rfl) ?_
  refine lv_if_lt (tgt := 43) hx hb dX11_putOnTape_4 (by decide) (fun c_1 => ?_) (fun c_1 => ?_)
  · exact absurd c_1 (by decide)
  · have c_1 : ¬ ((24 : Int32) < 0) := c_1
    refine lv_aload_n hx hb dX11_putOnTape_7 rfl (lv_at hl 1 rfl) ?_
    refine va_get (D := D) (ci := 11) (v := .int 12) (C := RX11) (T := TX11) (N := 13) hx hb hg iX11 hown hK hP 0 rfl rfl 11 (by decide) (hg (Cond.fieldLink RX11 83 "SlabWalk" "taped" "I") m581) (fun _ h9 => h9) g_F_taped dX11_putOnTape_8 ?_
    refine lv_sipush (v := 1600) hx hb dX11_putOnTape_11 (by decide) ?_
    refine lv_icmp_ge (tgt := 37) hx hb dX11_putOnTape_14 (by decide) (fun c_2 => ?_) (fun c_2 => ?_)
    · exact absurd c_2 (by decide)
    · have c_2 : ¬ ((1600 : Int32) ≤ 12) := c_2
      refine lv_aload_n hx hb dX11_putOnTape_17 rfl (lv_at hl 1 rfl) ?_
      refine va_get (D := D) (ci := 11) (v := .ref tp) (C := RX11) (T := TX11) (N := 13) hx hb hg iX11 hown hK hP 0 rfl rfl 2 (by decide) (hg (Cond.fieldLink RX11 19 "SlabWalk" "tape" "[B") m572) (fun _ h9 => h9) g_F_tape dX11_putOnTape_18 ?_
      refine lv_aload_n hx hb dX11_putOnTape_21 rfl (lv_at hl 1 rfl) ?_
      refine lv_dup hx hb dX11_putOnTape_22 rfl ?_
      refine va_get (D := D) (ci := 11) (v := .int 12) (C := RX11) (T := TX11) (N := 13) hx hb hg iX11 hown hK hP 0 rfl rfl 11 (by decide) (hg (Cond.fieldLink RX11 83 "SlabWalk" "taped" "I") m581) (fun _ h9 => h9) g_F_taped dX11_putOnTape_23 ?_
      refine lv_dup_x1 hx hb dX11_putOnTape_26 rfl rfl ?_
      refine lv_iconst (v := 1) hx hb dX11_putOnTape_27 (by decide) ?_
      refine lv_iadd hx hb dX11_putOnTape_28 ?_
      refine lv_topi (fun y_3 ey_3 => ?_)
      obtain rfl : y_3 = 13 := ey_3.trans (by decide)
      refine va_put (D := D) (ci := 11) (v := .int 13) (ty := .int) (C := RX11) (T := TX11) (N := 13) hx hb hg iX11 tyX11 tyX11_ok nmX11 hown hK hP hD hS 0 rfl rfl 11 (by decide) (hg (Cond.fieldLink RX11 83 "SlabWalk" "taped" "I") m581) (fun _ h9 => h9) rfl (by decide +kernel) rfl rfl (fs_lt g_F_taped) dX11_putOnTape_29 (fun H locs hP hD hS => ?_)
      have hP : va_P D classes [(h0, .inr (11, (F.set 11 (.int 13)))), (tp, .inl (k.1, 1600, .inl f))] H := hP
      have hD : va_D A [(h0, .inr (11, (F.set 11 (.int 13)))), (tp, .inl (k.1, 1600, .inl f))] := hD
      refine lv_iload_n hx hb dX11_putOnTape_32 rfl (lv_at hl 2 rfl) ?_
      refine lv_iload_n hx hb dX11_putOnTape_33 rfl (lv_at hl 0 rfl) ?_
      refine lv_ishr hx hb dX11_putOnTape_34 ?_
      refine lv_i2b (v := ((p0 >>> (24 &&& 31)).toInt8.toInt32)) hx hb dX11_putOnTape_35 rfl ?_
      refine va_bast hx hb hK hP hD hS 1 0 rfl rfl (show ¬ ((12 : Int32) < 0 ∨ 1600 ≤ (12 : Int32).toNatClampNeg) from by decide +kernel) dX11_putOnTape_36 (fun H locs hP hD hS => ?_)
      have hP : va_P D classes [(h0, .inr (11, (F.set 11 (.int 13)))), (tp, .inl (k.1, 1600, .inl (upd f 12 (vp_nar .byte ((p0 >>> (24 &&& 31)).toInt8.toInt32)))))] H := hP
      have hD : va_D A [(h0, .inr (11, (F.set 11 (.int 13)))), (tp, .inl (k.1, 1600, .inl (upd f 12 (vp_nar .byte ((p0 >>> (24 &&& 31)).toInt8.toInt32)))))] := hD
      generalize (upd f 12 (vp_nar .byte ((p0 >>> (24 &&& 31)).toInt8.toInt32))) = f_4 at hP hD
      refine lv_iinc (v := 16) (lv' := [(2, .int 16), (0, .ref h0), (1, .int p0)]) hx hb dX11_putOnTape_37 hl (k := 0) rfl (by decide) (by decide) rfl (fun ls hl => ?_)
      refine lv_goto (tgt := 3) hx hb dX11_putOnTape_40 (by decide) ?_
      refine lv_iload_n hx hb dX11_putOnTape_3 rfl (lv_at hl 0 rfl) ?_
      refine lv_if_lt (tgt := 43) hx hb dX11_putOnTape_4 (by decide) (fun c_5 => ?_) (fun c_5 => ?_)
      · exact absurd c_5 (by decide)
      · have c_5 : ¬ ((16 : Int32) < 0) := c_5
        refine lv_aload_n hx hb dX11_putOnTape_7 rfl (lv_at hl 1 rfl) ?_
        refine va_get (D := D) (ci := 11) (v := .int 13) (C := RX11) (T := TX11) (N := 13) hx hb hg iX11 hown hK hP 0 rfl rfl 11 (by decide) (hg (Cond.fieldLink RX11 83 "SlabWalk" "taped" "I") m581) (fun _ h9 => h9) (fs_eq g_F_taped) dX11_putOnTape_8 ?_
        refine lv_sipush (v := 1600) hx hb dX11_putOnTape_11 (by decide) ?_
        refine lv_icmp_ge (tgt := 37) hx hb dX11_putOnTape_14 (by decide) (fun c_6 => ?_) (fun c_6 => ?_)
        · exact absurd c_6 (by decide)
        · have c_6 : ¬ ((1600 : Int32) ≤ 13) := c_6
          refine lv_aload_n hx hb dX11_putOnTape_17 rfl (lv_at hl 1 rfl) ?_
          refine va_get (D := D) (ci := 11) (v := .ref tp) (C := RX11) (T := TX11) (N := 13) hx hb hg iX11 hown hK hP 0 rfl rfl 2 (by decide) (hg (Cond.fieldLink RX11 19 "SlabWalk" "tape" "[B") m572) (fun _ h9 => h9) (fs_ne g_F_tape (by decide)) dX11_putOnTape_18 ?_
          refine lv_aload_n hx hb dX11_putOnTape_21 rfl (lv_at hl 1 rfl) ?_
          refine lv_dup hx hb dX11_putOnTape_22 rfl ?_
          refine va_get (D := D) (ci := 11) (v := .int 13) (C := RX11) (T := TX11) (N := 13) hx hb hg iX11 hown hK hP 0 rfl rfl 11 (by decide) (hg (Cond.fieldLink RX11 83 "SlabWalk" "taped" "I") m581) (fun _ h9 => h9) (fs_eq g_F_taped) dX11_putOnTape_23 ?_
          refine lv_dup_x1 hx hb dX11_putOnTape_26 rfl rfl ?_
          refine lv_iconst (v := 1) hx hb dX11_putOnTape_27 (by decide) ?_
          refine lv_iadd hx hb dX11_putOnTape_28 ?_
          refine lv_topi (fun y_7 ey_7 => ?_)
          obtain rfl : y_7 = 14 := ey_7.trans (by decide)
          refine va_put (D := D) (ci := 11) (v := .int 14) (ty := .int) (C := RX11) (T := TX11) (N := 13) hx hb hg iX11 tyX11 tyX11_ok nmX11 hown hK hP hD hS 0 rfl rfl 11 (by decide) (hg (Cond.fieldLink RX11 83 "SlabWalk" "taped" "I") m581) (fun _ h9 => h9) rfl (by decide +kernel) rfl rfl (fs_lt (fs_eq g_F_taped)) dX11_putOnTape_29 (fun H locs hP hD hS => ?_)
          have hP : va_P D classes [(h0, .inr (11, ((F.set 11 (.int 13)).set 11 (.int 14)))), (tp, .inl (k.1, 1600, .inl f_4))] H := hP
          have hD : va_D A [(h0, .inr (11, ((F.set 11 (.int 13)).set 11 (.int 14)))), (tp, .inl (k.1, 1600, .inl f_4))] := hD
          refine lv_iload_n hx hb dX11_putOnTape_32 rfl (lv_at hl 2 rfl) ?_
          refine lv_iload_n hx hb dX11_putOnTape_33 rfl (lv_at hl 0 rfl) ?_
          refine lv_ishr hx hb dX11_putOnTape_34 ?_
          refine lv_i2b (v := ((p0 >>> (16 &&& 31)).toInt8.toInt32)) hx hb dX11_putOnTape_35 rfl ?_
          refine va_bast hx hb hK hP hD hS 1 0 rfl rfl (show ¬ ((13 : Int32) < 0 ∨ 1600 ≤ (13 : Int32).toNatClampNeg) from by decide +kernel) dX11_putOnTape_36 (fun H locs hP hD hS => ?_)
          have hP : va_P D classes [(h0, .inr (11, ((F.set 11 (.int 13)).set 11 (.int 14)))), (tp, .inl (k.1, 1600, .inl (upd f_4 13 (vp_nar .byte ((p0 >>> (16 &&& 31)).toInt8.toInt32)))))] H := hP
          have hD : va_D A [(h0, .inr (11, ((F.set 11 (.int 13)).set 11 (.int 14)))), (tp, .inl (k.1, 1600, .inl (upd f_4 13 (vp_nar .byte ((p0 >>> (16 &&& 31)).toInt8.toInt32)))))] := hD
          generalize (upd f_4 13 (vp_nar .byte ((p0 >>> (16 &&& 31)).toInt8.toInt32))) = f_8 at hP hD
          refine lv_iinc (v := 8) (lv' := [(2, .int 8), (0, .ref h0), (1, .int p0)]) hx hb dX11_putOnTape_37 hl (k := 0) rfl (by decide) (by decide) rfl (fun ls hl => ?_)
          refine lv_goto (tgt := 3) hx hb dX11_putOnTape_40 (by decide) ?_
          refine lv_iload_n hx hb dX11_putOnTape_3 rfl (lv_at hl 0 rfl) ?_
          refine lv_if_lt (tgt := 43) hx hb dX11_putOnTape_4 (by decide) (fun c_9 => ?_) (fun c_9 => ?_)
          · exact absurd c_9 (by decide)
          · have c_9 : ¬ ((8 : Int32) < 0) := c_9
            refine lv_aload_n hx hb dX11_putOnTape_7 rfl (lv_at hl 1 rfl) ?_
            refine va_get (D := D) (ci := 11) (v := .int 14) (C := RX11) (T := TX11) (N := 13) hx hb hg iX11 hown hK hP 0 rfl rfl 11 (by decide) (hg (Cond.fieldLink RX11 83 "SlabWalk" "taped" "I") m581) (fun _ h9 => h9) (fs_eq (fs_eq g_F_taped)) dX11_putOnTape_8 ?_
            refine lv_sipush (v := 1600) hx hb dX11_putOnTape_11 (by decide) ?_
            refine lv_icmp_ge (tgt := 37) hx hb dX11_putOnTape_14 (by decide) (fun c_10 => ?_) (fun c_10 => ?_)
            · exact absurd c_10 (by decide)
            · have c_10 : ¬ ((1600 : Int32) ≤ 14) := c_10
              refine lv_aload_n hx hb dX11_putOnTape_17 rfl (lv_at hl 1 rfl) ?_
              refine va_get (D := D) (ci := 11) (v := .ref tp) (C := RX11) (T := TX11) (N := 13) hx hb hg iX11 hown hK hP 0 rfl rfl 2 (by decide) (hg (Cond.fieldLink RX11 19 "SlabWalk" "tape" "[B") m572) (fun _ h9 => h9) (fs_ne (fs_ne g_F_tape (by decide)) (by decide)) dX11_putOnTape_18 ?_
              refine lv_aload_n hx hb dX11_putOnTape_21 rfl (lv_at hl 1 rfl) ?_
              refine lv_dup hx hb dX11_putOnTape_22 rfl ?_
              refine va_get (D := D) (ci := 11) (v := .int 14) (C := RX11) (T := TX11) (N := 13) hx hb hg iX11 hown hK hP 0 rfl rfl 11 (by decide) (hg (Cond.fieldLink RX11 83 "SlabWalk" "taped" "I") m581) (fun _ h9 => h9) (fs_eq (fs_eq g_F_taped)) dX11_putOnTape_23 ?_
              refine lv_dup_x1 hx hb dX11_putOnTape_26 rfl rfl ?_
              refine lv_iconst (v := 1) hx hb dX11_putOnTape_27 (by decide) ?_
              refine lv_iadd hx hb dX11_putOnTape_28 ?_
              refine lv_topi (fun y_11 ey_11 => ?_)
              obtain rfl : y_11 = 15 := ey_11.trans (by decide)
              refine va_put (D := D) (ci := 11) (v := .int 15) (ty := .int) (C := RX11) (T := TX11) (N := 13) hx hb hg iX11 tyX11 tyX11_ok nmX11 hown hK hP hD hS 0 rfl rfl 11 (by decide) (hg (Cond.fieldLink RX11 83 "SlabWalk" "taped" "I") m581) (fun _ h9 => h9) rfl (by decide +kernel) rfl rfl (fs_lt (fs_eq (fs_eq g_F_taped))) dX11_putOnTape_29 (fun H locs hP hD hS => ?_)
              have hP : va_P D classes [(h0, .inr (11, (((F.set 11 (.int 13)).set 11 (.int 14)).set 11 (.int 15)))), (tp, .inl (k.1, 1600, .inl f_8))] H := hP
              have hD : va_D A [(h0, .inr (11, (((F.set 11 (.int 13)).set 11 (.int 14)).set 11 (.int 15)))), (tp, .inl (k.1, 1600, .inl f_8))] := hD
              refine lv_iload_n hx hb dX11_putOnTape_32 rfl (lv_at hl 2 rfl) ?_
              refine lv_iload_n hx hb dX11_putOnTape_33 rfl (lv_at hl 0 rfl) ?_
              refine lv_ishr hx hb dX11_putOnTape_34 ?_
              refine lv_i2b (v := ((p0 >>> (8 &&& 31)).toInt8.toInt32)) hx hb dX11_putOnTape_35 rfl ?_
              refine va_bast hx hb hK hP hD hS 1 0 rfl rfl (show ¬ ((14 : Int32) < 0 ∨ 1600 ≤ (14 : Int32).toNatClampNeg) from by decide +kernel) dX11_putOnTape_36 (fun H locs hP hD hS => ?_)
              have hP : va_P D classes [(h0, .inr (11, (((F.set 11 (.int 13)).set 11 (.int 14)).set 11 (.int 15)))), (tp, .inl (k.1, 1600, .inl (upd f_8 14 (vp_nar .byte ((p0 >>> (8 &&& 31)).toInt8.toInt32)))))] H := hP
              have hD : va_D A [(h0, .inr (11, (((F.set 11 (.int 13)).set 11 (.int 14)).set 11 (.int 15)))), (tp, .inl (k.1, 1600, .inl (upd f_8 14 (vp_nar .byte ((p0 >>> (8 &&& 31)).toInt8.toInt32)))))] := hD
              generalize (upd f_8 14 (vp_nar .byte ((p0 >>> (8 &&& 31)).toInt8.toInt32))) = f_12 at hP hD
              refine lv_iinc (v := 0) (lv' := [(2, .int 0), (0, .ref h0), (1, .int p0)]) hx hb dX11_putOnTape_37 hl (k := 0) rfl (by decide) (by decide) rfl (fun ls hl => ?_)
              refine lv_goto (tgt := 3) hx hb dX11_putOnTape_40 (by decide) ?_
              refine lv_iload_n hx hb dX11_putOnTape_3 rfl (lv_at hl 0 rfl) ?_
              refine lv_if_lt (tgt := 43) hx hb dX11_putOnTape_4 (by decide) (fun c_13 => ?_) (fun c_13 => ?_)
              · exact absurd c_13 (by decide)
              · have c_13 : ¬ ((0 : Int32) < 0) := c_13
                refine lv_aload_n hx hb dX11_putOnTape_7 rfl (lv_at hl 1 rfl) ?_
                refine va_get (D := D) (ci := 11) (v := .int 15) (C := RX11) (T := TX11) (N := 13) hx hb hg iX11 hown hK hP 0 rfl rfl 11 (by decide) (hg (Cond.fieldLink RX11 83 "SlabWalk" "taped" "I") m581) (fun _ h9 => h9) (fs_eq (fs_eq (fs_eq g_F_taped))) dX11_putOnTape_8 ?_
                refine lv_sipush (v := 1600) hx hb dX11_putOnTape_11 (by decide) ?_
                refine lv_icmp_ge (tgt := 37) hx hb dX11_putOnTape_14 (by decide) (fun c_14 => ?_) (fun c_14 => ?_)
                · exact absurd c_14 (by decide)
                · have c_14 : ¬ ((1600 : Int32) ≤ 15) := c_14
                  refine lv_aload_n hx hb dX11_putOnTape_17 rfl (lv_at hl 1 rfl) ?_
                  refine va_get (D := D) (ci := 11) (v := .ref tp) (C := RX11) (T := TX11) (N := 13) hx hb hg iX11 hown hK hP 0 rfl rfl 2 (by decide) (hg (Cond.fieldLink RX11 19 "SlabWalk" "tape" "[B") m572) (fun _ h9 => h9) (fs_ne (fs_ne (fs_ne g_F_tape (by decide)) (by decide)) (by decide)) dX11_putOnTape_18 ?_
                  refine lv_aload_n hx hb dX11_putOnTape_21 rfl (lv_at hl 1 rfl) ?_
                  refine lv_dup hx hb dX11_putOnTape_22 rfl ?_
                  refine va_get (D := D) (ci := 11) (v := .int 15) (C := RX11) (T := TX11) (N := 13) hx hb hg iX11 hown hK hP 0 rfl rfl 11 (by decide) (hg (Cond.fieldLink RX11 83 "SlabWalk" "taped" "I") m581) (fun _ h9 => h9) (fs_eq (fs_eq (fs_eq g_F_taped))) dX11_putOnTape_23 ?_
                  refine lv_dup_x1 hx hb dX11_putOnTape_26 rfl rfl ?_
                  refine lv_iconst (v := 1) hx hb dX11_putOnTape_27 (by decide) ?_
                  refine lv_iadd hx hb dX11_putOnTape_28 ?_
                  refine lv_topi (fun y_15 ey_15 => ?_)
                  obtain rfl : y_15 = 16 := ey_15.trans (by decide)
                  refine va_put (D := D) (ci := 11) (v := .int 16) (ty := .int) (C := RX11) (T := TX11) (N := 13) hx hb hg iX11 tyX11 tyX11_ok nmX11 hown hK hP hD hS 0 rfl rfl 11 (by decide) (hg (Cond.fieldLink RX11 83 "SlabWalk" "taped" "I") m581) (fun _ h9 => h9) rfl (by decide +kernel) rfl rfl (fs_lt (fs_eq (fs_eq (fs_eq g_F_taped)))) dX11_putOnTape_29 (fun H locs hP hD hS => ?_)
                  have hP : va_P D classes [(h0, .inr (11, ((((F.set 11 (.int 13)).set 11 (.int 14)).set 11 (.int 15)).set 11 (.int 16)))), (tp, .inl (k.1, 1600, .inl f_12))] H := hP
                  have hD : va_D A [(h0, .inr (11, ((((F.set 11 (.int 13)).set 11 (.int 14)).set 11 (.int 15)).set 11 (.int 16)))), (tp, .inl (k.1, 1600, .inl f_12))] := hD
                  refine lv_iload_n hx hb dX11_putOnTape_32 rfl (lv_at hl 2 rfl) ?_
                  refine lv_iload_n hx hb dX11_putOnTape_33 rfl (lv_at hl 0 rfl) ?_
                  refine lv_ishr hx hb dX11_putOnTape_34 ?_
                  refine lv_i2b (v := ((p0 >>> (0 &&& 31)).toInt8.toInt32)) hx hb dX11_putOnTape_35 rfl ?_
                  refine va_bast hx hb hK hP hD hS 1 0 rfl rfl (show ¬ ((15 : Int32) < 0 ∨ 1600 ≤ (15 : Int32).toNatClampNeg) from by decide +kernel) dX11_putOnTape_36 (fun H locs hP hD hS => ?_)
                  have hP : va_P D classes [(h0, .inr (11, ((((F.set 11 (.int 13)).set 11 (.int 14)).set 11 (.int 15)).set 11 (.int 16)))), (tp, .inl (k.1, 1600, .inl (upd f_12 15 (vp_nar .byte ((p0 >>> (0 &&& 31)).toInt8.toInt32)))))] H := hP
                  have hD : va_D A [(h0, .inr (11, ((((F.set 11 (.int 13)).set 11 (.int 14)).set 11 (.int 15)).set 11 (.int 16)))), (tp, .inl (k.1, 1600, .inl (upd f_12 15 (vp_nar .byte ((p0 >>> (0 &&& 31)).toInt8.toInt32)))))] := hD
                  generalize (upd f_12 15 (vp_nar .byte ((p0 >>> (0 &&& 31)).toInt8.toInt32))) = f_16 at hP hD
                  refine lv_iinc (v := (-8)) (lv' := [(2, .int (-8)), (0, .ref h0), (1, .int p0)]) hx hb dX11_putOnTape_37 hl (k := 0) rfl (by decide) (by decide) rfl (fun ls hl => ?_)
                  refine lv_goto (tgt := 3) hx hb dX11_putOnTape_40 (by decide) ?_
                  refine lv_iload_n hx hb dX11_putOnTape_3 rfl (lv_at hl 0 rfl) ?_
                  refine lv_if_lt (tgt := 43) hx hb dX11_putOnTape_4 (by decide) (fun c_17 => ?_) (fun c_17 => ?_)
                  · have c_17 : ((-8) : Int32) < 0 := c_17
                    have hP9 := hP.sub (ws' := [(h0, .inr (11, ((((F.set 11 (.int 13)).set 11 (.int 14)).set 11 (.int 15)).set 11 (.int 16)))), (tp, .inl (k.1, 1600, .inl f_16))]) [0, 1] rfl
                    have hD9 := hD.sub (ws' := [(h0, .inr (11, ((((F.set 11 (.int 13)).set 11 (.int 14)).set 11 (.int 15)).set 11 (.int 16)))), (tp, .inl (k.1, 1600, .inl f_16))]) [0, 1] (by decide) rfl
                    exact W.vret hx hb hr (fun t ht hW => ⟨⟨(), rfl, trivial, ⟨((((F.set 11 (.int 13)).set 11 (.int 14)).set 11 (.int 15)).set 11 (.int 16)), f_16, (fs_eq (fs_eq (fs_eq (fs_eq g_F_taped)))), (fs_ne (fs_ne (fs_ne (fs_ne g_F_tape (by decide)) (by decide)) (by decide)) (by decide)), cB_of ht hP9 hD9⟩⟩, hS.F ht⟩) hS.2.2 dX11_putOnTape_43
                  · exact absurd (by decide) c_17

set_option maxHeartbeats 4000000 in
set_option maxRecDepth 100000 in
theorem c_put16 (l : Launch) (D : va_G) (k : ClassId × ClassId × ClassId × ClassId) (sz : Nat) (h0 tp : Nat) (F : List Value) (f : Nat → Int32) (p0 : Int32) (g_F_taped : F[11]? = some (.int 16)) (g_F_tape : F[2]? = some (.ref tp)) : Met l yX11_putOnTape (WS yX11_putOnTape cX11_putOnTape 3 none) ({ frames := 0, cells := 0, slots := 0, locals := 0 }) (va_Pc [.ref h0, .int p0] (cP D k [(h0, .inr (11, F)), (tp, .inl (k.1, 1600, .inl f))] sz)) (va_Qv (fun _ : Unit => True) (fun (_ : Unit) t => ∃ (F2 : List Value), ∃ (g : Nat → Int32), F2[11]? = some (.int 20) ∧ F2[2]? = some (.ref tp) ∧ cB D (va_A [(h0, .inr (11, F)), (tp, .inl (k.1, 1600, .inl f))] sz) [(h0, .inr (11, F2)), (tp, .inl (k.1, 1600, .inl g))] t) (va_A [(h0, .inr (11, F)), (tp, .inl (k.1, 1600, .inl f))] sz)) 0 0 (va_A [(h0, .inr (11, F)), (tp, .inl (k.1, 1600, .inl f))] sz) := by
  refine Met.ofW (cc := cX11_putOnTape) (maxL := 3) (ret := none) (by decide) rfl ?_
  intro p e s m args below meth c s₁ B hml hv
  obtain ⟨rfl, hsz, hP, hKX, hD0⟩ := hv
  have hK := hKX.1
  have hx := B.exec
  have hb := B.bytes
  have hr := B.returns
  have hts := atoms_spec (ws := WS yX11_putOnTape cX11_putOnTape 3 none) B.pre
  have hgd : ∀ w ∈ gd, w ∈ WS yX11_putOnTape cX11_putOnTape 3 none := fun w h => List.mem_cons_of_mem _ h
  have hg : ∀ w ∈ gd, w.before _ s = true := fun w h => hts w (hgd w h)
  have hown : s.vm.findClass RX11 = some m.cls := findClass_of_methodNamed B.named
  have hlocks := B.notSynchronized
  subst hsz
  have hD := hD0.self (sz := s.heap.size)
  generalize hAe : va_A [(h0, .inr (11, F)), (tp, .inl (k.1, 1600, .inl f))] s.heap.size = A at hD ⊢
  have hA : ∀ q : Nat, s.heap.size ≤ q → A q := fun q h => by rw [← hAe]; exact Or.inr h
  have hS : va_S A s.heap s.heap [] := va_S.rf
  have hP : va_P D classes [(h0, .inr (11, F)), (tp, .inl (k.1, 1600, .inl f))] s.heap := hP
  have hl := lv_entry ([.ref h0, .int p0]) (n := 3) (Nat.le_of_ble_eq_true rfl)
  rw [lg_entry_eq]
  generalize (lg_sl ([.ref h0, .int p0]) ++ List.replicate (3 - (lg_sl ([.ref h0, .int p0])).length) Slot.unset).toArray = ls at hl ⊢
  have hl : lv_has ls 3 [(0, .ref h0), (1, .int p0)] := hl
  refine lv_bipush (v := 24) hx hb dX11_putOnTape_0 (by decide) ?_
  refine lv_istore_n (lv' := [(2, .int 24), (0, .ref h0), (1, .int p0)]) hx hb dX11_putOnTape_2 rfl hl (by decide) rfl (fun ls hl => ?_)
  refine lv_iload_n hx hb dX11_putOnTape_3 rfl (lv_at hl 0 rfl) ?_
  refine lv_if_lt (tgt := 43) hx hb dX11_putOnTape_4 (by decide) (fun c_1 => ?_) (fun c_1 => ?_)
  · exact absurd c_1 (by decide)
  · have c_1 : ¬ ((24 : Int32) < 0) := c_1
    refine lv_aload_n hx hb dX11_putOnTape_7 rfl (lv_at hl 1 rfl) ?_
    refine va_get (D := D) (ci := 11) (v := .int 16) (C := RX11) (T := TX11) (N := 13) hx hb hg iX11 hown hK hP 0 rfl rfl 11 (by decide) (hg (Cond.fieldLink RX11 83 "SlabWalk" "taped" "I") m581) (fun _ h9 => h9) g_F_taped dX11_putOnTape_8 ?_
    refine lv_sipush (v := 1600) hx hb dX11_putOnTape_11 (by decide) ?_
    refine lv_icmp_ge (tgt := 37) hx hb dX11_putOnTape_14 (by decide) (fun c_2 => ?_) (fun c_2 => ?_)
    · exact absurd c_2 (by decide)
    · have c_2 : ¬ ((1600 : Int32) ≤ 16) := c_2
      refine lv_aload_n hx hb dX11_putOnTape_17 rfl (lv_at hl 1 rfl) ?_
      refine va_get (D := D) (ci := 11) (v := .ref tp) (C := RX11) (T := TX11) (N := 13) hx hb hg iX11 hown hK hP 0 rfl rfl 2 (by decide) (hg (Cond.fieldLink RX11 19 "SlabWalk" "tape" "[B") m572) (fun _ h9 => h9) g_F_tape dX11_putOnTape_18 ?_
      refine lv_aload_n hx hb dX11_putOnTape_21 rfl (lv_at hl 1 rfl) ?_
      refine lv_dup hx hb dX11_putOnTape_22 rfl ?_
      refine va_get (D := D) (ci := 11) (v := .int 16) (C := RX11) (T := TX11) (N := 13) hx hb hg iX11 hown hK hP 0 rfl rfl 11 (by decide) (hg (Cond.fieldLink RX11 83 "SlabWalk" "taped" "I") m581) (fun _ h9 => h9) g_F_taped dX11_putOnTape_23 ?_
      refine lv_dup_x1 hx hb dX11_putOnTape_26 rfl rfl ?_
      refine lv_iconst (v := 1) hx hb dX11_putOnTape_27 (by decide) ?_
      refine lv_iadd hx hb dX11_putOnTape_28 ?_
      refine lv_topi (fun y_3 ey_3 => ?_)
      obtain rfl : y_3 = 17 := ey_3.trans (by decide)
      refine va_put (D := D) (ci := 11) (v := .int 17) (ty := .int) (C := RX11) (T := TX11) (N := 13) hx hb hg iX11 tyX11 tyX11_ok nmX11 hown hK hP hD hS 0 rfl rfl 11 (by decide) (hg (Cond.fieldLink RX11 83 "SlabWalk" "taped" "I") m581) (fun _ h9 => h9) rfl (by decide +kernel) rfl rfl (fs_lt g_F_taped) dX11_putOnTape_29 (fun H locs hP hD hS => ?_)
      have hP : va_P D classes [(h0, .inr (11, (F.set 11 (.int 17)))), (tp, .inl (k.1, 1600, .inl f))] H := hP
      have hD : va_D A [(h0, .inr (11, (F.set 11 (.int 17)))), (tp, .inl (k.1, 1600, .inl f))] := hD
      refine lv_iload_n hx hb dX11_putOnTape_32 rfl (lv_at hl 2 rfl) ?_
      refine lv_iload_n hx hb dX11_putOnTape_33 rfl (lv_at hl 0 rfl) ?_
      refine lv_ishr hx hb dX11_putOnTape_34 ?_
      refine lv_i2b (v := ((p0 >>> (24 &&& 31)).toInt8.toInt32)) hx hb dX11_putOnTape_35 rfl ?_
      refine va_bast hx hb hK hP hD hS 1 0 rfl rfl (show ¬ ((16 : Int32) < 0 ∨ 1600 ≤ (16 : Int32).toNatClampNeg) from by decide +kernel) dX11_putOnTape_36 (fun H locs hP hD hS => ?_)
      have hP : va_P D classes [(h0, .inr (11, (F.set 11 (.int 17)))), (tp, .inl (k.1, 1600, .inl (upd f 16 (vp_nar .byte ((p0 >>> (24 &&& 31)).toInt8.toInt32)))))] H := hP
      have hD : va_D A [(h0, .inr (11, (F.set 11 (.int 17)))), (tp, .inl (k.1, 1600, .inl (upd f 16 (vp_nar .byte ((p0 >>> (24 &&& 31)).toInt8.toInt32)))))] := hD
      generalize (upd f 16 (vp_nar .byte ((p0 >>> (24 &&& 31)).toInt8.toInt32))) = f_4 at hP hD
      refine lv_iinc (v := 16) (lv' := [(2, .int 16), (0, .ref h0), (1, .int p0)]) hx hb dX11_putOnTape_37 hl (k := 0) rfl (by decide) (by decide) rfl (fun ls hl => ?_)
      refine lv_goto (tgt := 3) hx hb dX11_putOnTape_40 (by decide) ?_
      refine lv_iload_n hx hb dX11_putOnTape_3 rfl (lv_at hl 0 rfl) ?_
      refine lv_if_lt (tgt := 43) hx hb dX11_putOnTape_4 (by decide) (fun c_5 => ?_) (fun c_5 => ?_)
      · exact absurd c_5 (by decide)
      · have c_5 : ¬ ((16 : Int32) < 0) := c_5
        refine lv_aload_n hx hb dX11_putOnTape_7 rfl (lv_at hl 1 rfl) ?_
        refine va_get (D := D) (ci := 11) (v := .int 17) (C := RX11) (T := TX11) (N := 13) hx hb hg iX11 hown hK hP 0 rfl rfl 11 (by decide) (hg (Cond.fieldLink RX11 83 "SlabWalk" "taped" "I") m581) (fun _ h9 => h9) (fs_eq g_F_taped) dX11_putOnTape_8 ?_
        refine lv_sipush (v := 1600) hx hb dX11_putOnTape_11 (by decide) ?_
        refine lv_icmp_ge (tgt := 37) hx hb dX11_putOnTape_14 (by decide) (fun c_6 => ?_) (fun c_6 => ?_)
        · exact absurd c_6 (by decide)
        · have c_6 : ¬ ((1600 : Int32) ≤ 17) := c_6
          refine lv_aload_n hx hb dX11_putOnTape_17 rfl (lv_at hl 1 rfl) ?_
          refine va_get (D := D) (ci := 11) (v := .ref tp) (C := RX11) (T := TX11) (N := 13) hx hb hg iX11 hown hK hP 0 rfl rfl 2 (by decide) (hg (Cond.fieldLink RX11 19 "SlabWalk" "tape" "[B") m572) (fun _ h9 => h9) (fs_ne g_F_tape (by decide)) dX11_putOnTape_18 ?_
          refine lv_aload_n hx hb dX11_putOnTape_21 rfl (lv_at hl 1 rfl) ?_
          refine lv_dup hx hb dX11_putOnTape_22 rfl ?_
          refine va_get (D := D) (ci := 11) (v := .int 17) (C := RX11) (T := TX11) (N := 13) hx hb hg iX11 hown hK hP 0 rfl rfl 11 (by decide) (hg (Cond.fieldLink RX11 83 "SlabWalk" "taped" "I") m581) (fun _ h9 => h9) (fs_eq g_F_taped) dX11_putOnTape_23 ?_
          refine lv_dup_x1 hx hb dX11_putOnTape_26 rfl rfl ?_
          refine lv_iconst (v := 1) hx hb dX11_putOnTape_27 (by decide) ?_
          refine lv_iadd hx hb dX11_putOnTape_28 ?_
          refine lv_topi (fun y_7 ey_7 => ?_)
          obtain rfl : y_7 = 18 := ey_7.trans (by decide)
          refine va_put (D := D) (ci := 11) (v := .int 18) (ty := .int) (C := RX11) (T := TX11) (N := 13) hx hb hg iX11 tyX11 tyX11_ok nmX11 hown hK hP hD hS 0 rfl rfl 11 (by decide) (hg (Cond.fieldLink RX11 83 "SlabWalk" "taped" "I") m581) (fun _ h9 => h9) rfl (by decide +kernel) rfl rfl (fs_lt (fs_eq g_F_taped)) dX11_putOnTape_29 (fun H locs hP hD hS => ?_)
          have hP : va_P D classes [(h0, .inr (11, ((F.set 11 (.int 17)).set 11 (.int 18)))), (tp, .inl (k.1, 1600, .inl f_4))] H := hP
          have hD : va_D A [(h0, .inr (11, ((F.set 11 (.int 17)).set 11 (.int 18)))), (tp, .inl (k.1, 1600, .inl f_4))] := hD
          refine lv_iload_n hx hb dX11_putOnTape_32 rfl (lv_at hl 2 rfl) ?_
          refine lv_iload_n hx hb dX11_putOnTape_33 rfl (lv_at hl 0 rfl) ?_
          refine lv_ishr hx hb dX11_putOnTape_34 ?_
          refine lv_i2b (v := ((p0 >>> (16 &&& 31)).toInt8.toInt32)) hx hb dX11_putOnTape_35 rfl ?_
          refine va_bast hx hb hK hP hD hS 1 0 rfl rfl (show ¬ ((17 : Int32) < 0 ∨ 1600 ≤ (17 : Int32).toNatClampNeg) from by decide +kernel) dX11_putOnTape_36 (fun H locs hP hD hS => ?_)
          have hP : va_P D classes [(h0, .inr (11, ((F.set 11 (.int 17)).set 11 (.int 18)))), (tp, .inl (k.1, 1600, .inl (upd f_4 17 (vp_nar .byte ((p0 >>> (16 &&& 31)).toInt8.toInt32)))))] H := hP
          have hD : va_D A [(h0, .inr (11, ((F.set 11 (.int 17)).set 11 (.int 18)))), (tp, .inl (k.1, 1600, .inl (upd f_4 17 (vp_nar .byte ((p0 >>> (16 &&& 31)).toInt8.toInt32)))))] := hD
          generalize (upd f_4 17 (vp_nar .byte ((p0 >>> (16 &&& 31)).toInt8.toInt32))) = f_8 at hP hD
          refine lv_iinc (v := 8) (lv' := [(2, .int 8), (0, .ref h0), (1, .int p0)]) hx hb dX11_putOnTape_37 hl (k := 0) rfl (by decide) (by decide) rfl (fun ls hl => ?_)
          refine lv_goto (tgt := 3) hx hb dX11_putOnTape_40 (by decide) ?_
          refine lv_iload_n hx hb dX11_putOnTape_3 rfl (lv_at hl 0 rfl) ?_
          refine lv_if_lt (tgt := 43) hx hb dX11_putOnTape_4 (by decide) (fun c_9 => ?_) (fun c_9 => ?_)
          · exact absurd c_9 (by decide)
          · have c_9 : ¬ ((8 : Int32) < 0) := c_9
            refine lv_aload_n hx hb dX11_putOnTape_7 rfl (lv_at hl 1 rfl) ?_
            refine va_get (D := D) (ci := 11) (v := .int 18) (C := RX11) (T := TX11) (N := 13) hx hb hg iX11 hown hK hP 0 rfl rfl 11 (by decide) (hg (Cond.fieldLink RX11 83 "SlabWalk" "taped" "I") m581) (fun _ h9 => h9) (fs_eq (fs_eq g_F_taped)) dX11_putOnTape_8 ?_
            refine lv_sipush (v := 1600) hx hb dX11_putOnTape_11 (by decide) ?_
            refine lv_icmp_ge (tgt := 37) hx hb dX11_putOnTape_14 (by decide) (fun c_10 => ?_) (fun c_10 => ?_)
            · exact absurd c_10 (by decide)
            · have c_10 : ¬ ((1600 : Int32) ≤ 18) := c_10
              refine lv_aload_n hx hb dX11_putOnTape_17 rfl (lv_at hl 1 rfl) ?_
              refine va_get (D := D) (ci := 11) (v := .ref tp) (C := RX11) (T := TX11) (N := 13) hx hb hg iX11 hown hK hP 0 rfl rfl 2 (by decide) (hg (Cond.fieldLink RX11 19 "SlabWalk" "tape" "[B") m572) (fun _ h9 => h9) (fs_ne (fs_ne g_F_tape (by decide)) (by decide)) dX11_putOnTape_18 ?_
              refine lv_aload_n hx hb dX11_putOnTape_21 rfl (lv_at hl 1 rfl) ?_
              refine lv_dup hx hb dX11_putOnTape_22 rfl ?_
              refine va_get (D := D) (ci := 11) (v := .int 18) (C := RX11) (T := TX11) (N := 13) hx hb hg iX11 hown hK hP 0 rfl rfl 11 (by decide) (hg (Cond.fieldLink RX11 83 "SlabWalk" "taped" "I") m581) (fun _ h9 => h9) (fs_eq (fs_eq g_F_taped)) dX11_putOnTape_23 ?_
              refine lv_dup_x1 hx hb dX11_putOnTape_26 rfl rfl ?_
              refine lv_iconst (v := 1) hx hb dX11_putOnTape_27 (by decide) ?_
              refine lv_iadd hx hb dX11_putOnTape_28 ?_
              refine lv_topi (fun y_11 ey_11 => ?_)
              obtain rfl : y_11 = 19 := ey_11.trans (by decide)
              refine va_put (D := D) (ci := 11) (v := .int 19) (ty := .int) (C := RX11) (T := TX11) (N := 13) hx hb hg iX11 tyX11 tyX11_ok nmX11 hown hK hP hD hS 0 rfl rfl 11 (by decide) (hg (Cond.fieldLink RX11 83 "SlabWalk" "taped" "I") m581) (fun _ h9 => h9) rfl (by decide +kernel) rfl rfl (fs_lt (fs_eq (fs_eq g_F_taped))) dX11_putOnTape_29 (fun H locs hP hD hS => ?_)
              have hP : va_P D classes [(h0, .inr (11, (((F.set 11 (.int 17)).set 11 (.int 18)).set 11 (.int 19)))), (tp, .inl (k.1, 1600, .inl f_8))] H := hP
              have hD : va_D A [(h0, .inr (11, (((F.set 11 (.int 17)).set 11 (.int 18)).set 11 (.int 19)))), (tp, .inl (k.1, 1600, .inl f_8))] := hD
              refine lv_iload_n hx hb dX11_putOnTape_32 rfl (lv_at hl 2 rfl) ?_
              refine lv_iload_n hx hb dX11_putOnTape_33 rfl (lv_at hl 0 rfl) ?_
              refine lv_ishr hx hb dX11_putOnTape_34 ?_
              refine lv_i2b (v := ((p0 >>> (8 &&& 31)).toInt8.toInt32)) hx hb dX11_putOnTape_35 rfl ?_
              refine va_bast hx hb hK hP hD hS 1 0 rfl rfl (show ¬ ((18 : Int32) < 0 ∨ 1600 ≤ (18 : Int32).toNatClampNeg) from by decide +kernel) dX11_putOnTape_36 (fun H locs hP hD hS => ?_)
              have hP : va_P D classes [(h0, .inr (11, (((F.set 11 (.int 17)).set 11 (.int 18)).set 11 (.int 19)))), (tp, .inl (k.1, 1600, .inl (upd f_8 18 (vp_nar .byte ((p0 >>> (8 &&& 31)).toInt8.toInt32)))))] H := hP
              have hD : va_D A [(h0, .inr (11, (((F.set 11 (.int 17)).set 11 (.int 18)).set 11 (.int 19)))), (tp, .inl (k.1, 1600, .inl (upd f_8 18 (vp_nar .byte ((p0 >>> (8 &&& 31)).toInt8.toInt32)))))] := hD
              generalize (upd f_8 18 (vp_nar .byte ((p0 >>> (8 &&& 31)).toInt8.toInt32))) = f_12 at hP hD
              refine lv_iinc (v := 0) (lv' := [(2, .int 0), (0, .ref h0), (1, .int p0)]) hx hb dX11_putOnTape_37 hl (k := 0) rfl (by decide) (by decide) rfl (fun ls hl => ?_)
              refine lv_goto (tgt := 3) hx hb dX11_putOnTape_40 (by decide) ?_
              refine lv_iload_n hx hb dX11_putOnTape_3 rfl (lv_at hl 0 rfl) ?_
              refine lv_if_lt (tgt := 43) hx hb dX11_putOnTape_4 (by decide) (fun c_13 => ?_) (fun c_13 => ?_)
              · exact absurd c_13 (by decide)
              · have c_13 : ¬ ((0 : Int32) < 0) := c_13
                refine lv_aload_n hx hb dX11_putOnTape_7 rfl (lv_at hl 1 rfl) ?_
                refine va_get (D := D) (ci := 11) (v := .int 19) (C := RX11) (T := TX11) (N := 13) hx hb hg iX11 hown hK hP 0 rfl rfl 11 (by decide) (hg (Cond.fieldLink RX11 83 "SlabWalk" "taped" "I") m581) (fun _ h9 => h9) (fs_eq (fs_eq (fs_eq g_F_taped))) dX11_putOnTape_8 ?_
                refine lv_sipush (v := 1600) hx hb dX11_putOnTape_11 (by decide) ?_
                refine lv_icmp_ge (tgt := 37) hx hb dX11_putOnTape_14 (by decide) (fun c_14 => ?_) (fun c_14 => ?_)
                · exact absurd c_14 (by decide)
                · have c_14 : ¬ ((1600 : Int32) ≤ 19) := c_14
                  refine lv_aload_n hx hb dX11_putOnTape_17 rfl (lv_at hl 1 rfl) ?_
                  refine va_get (D := D) (ci := 11) (v := .ref tp) (C := RX11) (T := TX11) (N := 13) hx hb hg iX11 hown hK hP 0 rfl rfl 2 (by decide) (hg (Cond.fieldLink RX11 19 "SlabWalk" "tape" "[B") m572) (fun _ h9 => h9) (fs_ne (fs_ne (fs_ne g_F_tape (by decide)) (by decide)) (by decide)) dX11_putOnTape_18 ?_
                  refine lv_aload_n hx hb dX11_putOnTape_21 rfl (lv_at hl 1 rfl) ?_
                  refine lv_dup hx hb dX11_putOnTape_22 rfl ?_
                  refine va_get (D := D) (ci := 11) (v := .int 19) (C := RX11) (T := TX11) (N := 13) hx hb hg iX11 hown hK hP 0 rfl rfl 11 (by decide) (hg (Cond.fieldLink RX11 83 "SlabWalk" "taped" "I") m581) (fun _ h9 => h9) (fs_eq (fs_eq (fs_eq g_F_taped))) dX11_putOnTape_23 ?_
                  refine lv_dup_x1 hx hb dX11_putOnTape_26 rfl rfl ?_
                  refine lv_iconst (v := 1) hx hb dX11_putOnTape_27 (by decide) ?_
                  refine lv_iadd hx hb dX11_putOnTape_28 ?_
                  refine lv_topi (fun y_15 ey_15 => ?_)
                  obtain rfl : y_15 = 20 := ey_15.trans (by decide)
                  refine va_put (D := D) (ci := 11) (v := .int 20) (ty := .int) (C := RX11) (T := TX11) (N := 13) hx hb hg iX11 tyX11 tyX11_ok nmX11 hown hK hP hD hS 0 rfl rfl 11 (by decide) (hg (Cond.fieldLink RX11 83 "SlabWalk" "taped" "I") m581) (fun _ h9 => h9) rfl (by decide +kernel) rfl rfl (fs_lt (fs_eq (fs_eq (fs_eq g_F_taped)))) dX11_putOnTape_29 (fun H locs hP hD hS => ?_)
                  have hP : va_P D classes [(h0, .inr (11, ((((F.set 11 (.int 17)).set 11 (.int 18)).set 11 (.int 19)).set 11 (.int 20)))), (tp, .inl (k.1, 1600, .inl f_12))] H := hP
                  have hD : va_D A [(h0, .inr (11, ((((F.set 11 (.int 17)).set 11 (.int 18)).set 11 (.int 19)).set 11 (.int 20)))), (tp, .inl (k.1, 1600, .inl f_12))] := hD
                  refine lv_iload_n hx hb dX11_putOnTape_32 rfl (lv_at hl 2 rfl) ?_
                  refine lv_iload_n hx hb dX11_putOnTape_33 rfl (lv_at hl 0 rfl) ?_
                  refine lv_ishr hx hb dX11_putOnTape_34 ?_
                  refine lv_i2b (v := ((p0 >>> (0 &&& 31)).toInt8.toInt32)) hx hb dX11_putOnTape_35 rfl ?_
                  refine va_bast hx hb hK hP hD hS 1 0 rfl rfl (show ¬ ((19 : Int32) < 0 ∨ 1600 ≤ (19 : Int32).toNatClampNeg) from by decide +kernel) dX11_putOnTape_36 (fun H locs hP hD hS => ?_)
                  have hP : va_P D classes [(h0, .inr (11, ((((F.set 11 (.int 17)).set 11 (.int 18)).set 11 (.int 19)).set 11 (.int 20)))), (tp, .inl (k.1, 1600, .inl (upd f_12 19 (vp_nar .byte ((p0 >>> (0 &&& 31)).toInt8.toInt32)))))] H := hP
                  have hD : va_D A [(h0, .inr (11, ((((F.set 11 (.int 17)).set 11 (.int 18)).set 11 (.int 19)).set 11 (.int 20)))), (tp, .inl (k.1, 1600, .inl (upd f_12 19 (vp_nar .byte ((p0 >>> (0 &&& 31)).toInt8.toInt32)))))] := hD
                  generalize (upd f_12 19 (vp_nar .byte ((p0 >>> (0 &&& 31)).toInt8.toInt32))) = f_16 at hP hD
                  refine lv_iinc (v := (-8)) (lv' := [(2, .int (-8)), (0, .ref h0), (1, .int p0)]) hx hb dX11_putOnTape_37 hl (k := 0) rfl (by decide) (by decide) rfl (fun ls hl => ?_)
                  refine lv_goto (tgt := 3) hx hb dX11_putOnTape_40 (by decide) ?_
                  refine lv_iload_n hx hb dX11_putOnTape_3 rfl (lv_at hl 0 rfl) ?_
                  refine lv_if_lt (tgt := 43) hx hb dX11_putOnTape_4 (by decide) (fun c_17 => ?_) (fun c_17 => ?_)
                  · have c_17 : ((-8) : Int32) < 0 := c_17
                    have hP9 := hP.sub (ws' := [(h0, .inr (11, ((((F.set 11 (.int 17)).set 11 (.int 18)).set 11 (.int 19)).set 11 (.int 20)))), (tp, .inl (k.1, 1600, .inl f_16))]) [0, 1] rfl
                    have hD9 := hD.sub (ws' := [(h0, .inr (11, ((((F.set 11 (.int 17)).set 11 (.int 18)).set 11 (.int 19)).set 11 (.int 20)))), (tp, .inl (k.1, 1600, .inl f_16))]) [0, 1] (by decide) rfl
                    exact W.vret hx hb hr (fun t ht hW => ⟨⟨(), rfl, trivial, ⟨((((F.set 11 (.int 17)).set 11 (.int 18)).set 11 (.int 19)).set 11 (.int 20)), f_16, (fs_eq (fs_eq (fs_eq (fs_eq g_F_taped)))), (fs_ne (fs_ne (fs_ne (fs_ne g_F_tape (by decide)) (by decide)) (by decide)) (by decide)), cB_of ht hP9 hD9⟩⟩, hS.F ht⟩) hS.2.2 dX11_putOnTape_43
                  · exact absurd (by decide) c_17

set_option maxHeartbeats 4000000 in
set_option maxRecDepth 100000 in
theorem c_X11_feed (l : Launch) (D : va_G) (k : ClassId × ClassId × ClassId × ClassId) (sz : Nat) (h0 tp : Nat) (F : List Value) (f : Nat → Int32) (p0 p1 p2 p3 p4 : Int32) (g_F_taped : F[11]? = some (.int 0)) (g_F_tape : F[2]? = some (.ref tp)) : Met l yX11_feed (WS yX11_feed cX11_feed 6 (some .int)) ({ frames := 1, cells := 0, slots := 0, locals := 22 }) (va_Pc [.ref h0, .int p0, .int p1, .int p2, .int p3, .int p4] (cP D k [(h0, .inr (11, F)), (tp, .inl (k.1, 1600, .inl f))] sz)) (va_Qi (fun (r : Int32) (_ : Unit) => r = 20) (fun (_ : Unit) t => cB D (va_A [(h0, .inr (11, F)), (tp, .inl (k.1, 1600, .inl f))] sz) [] t) (va_A [(h0, .inr (11, F)), (tp, .inl (k.1, 1600, .inl f))] sz)) 0 0 (va_A [(h0, .inr (11, F)), (tp, .inl (k.1, 1600, .inl f))] sz) := by
  refine Met.ofW (cc := cX11_feed) (maxL := 6) (ret := (some .int)) (by decide) rfl ?_
  intro p e s m args below meth c s₁ B hml hv
  obtain ⟨rfl, hsz, hP, hKX, hD0⟩ := hv
  have hK := hKX.1
  have hx := B.exec
  have hb := B.bytes
  have hr := B.returns
  have hts := atoms_spec (ws := WS yX11_feed cX11_feed 6 (some .int)) B.pre
  have hgd : ∀ w ∈ gd, w ∈ WS yX11_feed cX11_feed 6 (some .int) := fun w h => List.mem_cons_of_mem _ h
  have hg : ∀ w ∈ gd, w.before _ s = true := fun w h => hts w (hgd w h)
  have hown : s.vm.findClass RX11 = some m.cls := findClass_of_methodNamed B.named
  have hlocks := B.notSynchronized
  subst hsz
  have hD := hD0.self (sz := s.heap.size)
  generalize hAe : va_A [(h0, .inr (11, F)), (tp, .inl (k.1, 1600, .inl f))] s.heap.size = A at hD ⊢
  have hA : ∀ q : Nat, s.heap.size ≤ q → A q := fun q h => by rw [← hAe]; exact Or.inr h
  have hS : va_S A s.heap s.heap [] := va_S.rf
  have hP : va_P D classes [(h0, .inr (11, F)), (tp, .inl (k.1, 1600, .inl f))] s.heap := hP
  have hl := lv_entry ([.ref h0, .int p0, .int p1, .int p2, .int p3, .int p4]) (n := 6) (Nat.le_of_ble_eq_true rfl)
  rw [lg_entry_eq]
  generalize (lg_sl ([.ref h0, .int p0, .int p1, .int p2, .int p3, .int p4]) ++ List.replicate (6 - (lg_sl ([.ref h0, .int p0, .int p1, .int p2, .int p3, .int p4])).length) Slot.unset).toArray = ls at hl ⊢
  have hl : lv_has ls 6 [(0, .ref h0), (1, .int p0), (2, .int p1), (3, .int p2), (4, .int p3), (5, .int p4)] := hl
  refine lv_aload_n hx hb dX11_feed_0 rfl (lv_at hl 0 rfl) ?_
  refine va_get (D := D) (ci := 11) (v := .int 0) (C := RX11) (T := TX11) (N := 13) hx hb hg iX11 hown hK hP 0 rfl rfl 11 (by decide) (hg (Cond.fieldLink RX11 83 "SlabWalk" "taped" "I") m581) (fun _ h9 => h9) g_F_taped dX11_feed_1 ?_
  refine lv_bipush (v := 20) hx hb dX11_feed_4 (by decide) ?_
  refine lv_iadd hx hb dX11_feed_6 ?_
  refine lv_topi (fun y_1 ey_1 => ?_)
  obtain rfl : y_1 = 20 := ey_1.trans (by decide)
  refine lv_sipush (v := 1600) hx hb dX11_feed_7 (by decide) ?_
  refine lv_icmp_le (tgt := 15) hx hb dX11_feed_10 (by decide) (fun c_2 => ?_) (fun c_2 => ?_)
  · have c_2 : (20 : Int32) ≤ 1600 := c_2
    refine lv_aload_n hx hb dX11_feed_15 rfl (lv_at hl 0 rfl) ?_
    refine lv_iload_n hx hb dX11_feed_16 rfl (lv_at hl 1 rfl) ?_
    have hPc := hP.sub (ws' := [(h0, .inr (11, F)), (tp, .inl (k.1, 1600, .inl f))]) [0, 1] rfl
    have hDc := hD.sub (ws' := [(h0, .inr (11, F)), (tp, .inl (k.1, 1600, .inl f))]) [0, 1] (by decide) rfl
    have hFc := va_free (wc := [(h0, .inr (11, F)), (tp, .inl (k.1, 1600, .inl f))]) hD hS hA [0, 1] rfl
    refine va_callv (va_runV (As := [.int p0]) (rest := []) ⟨hx, hb, hml, hown, hts⟩ (c_put0 l D k s.heap.size h0 tp F f p0 g_F_taped g_F_tape) (cwV 1 hts (gd_V hgd m614 m616 m2 m117 m617) rfl rfl rfl (by decide +kernel) ⟨Nat.le_of_ble_eq_true rfl, Nat.le_of_ble_eq_true rfl⟩) (cP_V hPc hKX hDc (ci := 11) (q0 := 0) rfl rfl) rfl rfl hl.1 rfl (lv_room (Nat.le_of_ble_eq_true rfl)) dX11_feed_17 ⟨Nat.le_of_ble_eq_true rfl, Nat.le_of_ble_eq_true rfl⟩) hS (fun q _ h => hFc q h) hFc (fun u t H1 locs ht hvm hw hB hz1 hk1 hS => ?_)
    obtain ⟨z_4, z_5, g_6, g_7, hP1, hD1⟩ := hB
    rw [ht] at hP1
    obtain ⟨hP, hD⟩ := va_join (wr := []) (w1 := [(h0, .inr (11, z_4)), (tp, .inl (k.1, 1600, .inl z_5))]) hP hD [0, 1] [] rfl rfl (by decide) (by decide) hk1 hFc hP1 hD1
    generalize H1 = H at hP hS ⊢
    have hP : va_P D classes [(h0, .inr (11, z_4)), (tp, .inl (k.1, 1600, .inl z_5))] H := hP
    have hD : va_D A [(h0, .inr (11, z_4)), (tp, .inl (k.1, 1600, .inl z_5))] := hD
    refine W.widen (k := 0) (n := 0) (Nat.le_of_ble_eq_true rfl) (Nat.le_of_ble_eq_true rfl) ?_
    refine lv_aload_n hx hb dX11_feed_20 rfl (lv_at hl 0 rfl) ?_
    refine lv_iload_n hx hb dX11_feed_21 rfl (lv_at hl 2 rfl) ?_
    have hPc := hP.sub (ws' := [(h0, .inr (11, z_4)), (tp, .inl (k.1, 1600, .inl z_5))]) [0, 1] rfl
    have hDc := hD.sub (ws' := [(h0, .inr (11, z_4)), (tp, .inl (k.1, 1600, .inl z_5))]) [0, 1] (by decide) rfl
    have hFc := va_free (wc := [(h0, .inr (11, z_4)), (tp, .inl (k.1, 1600, .inl z_5))]) hD hS hA [0, 1] rfl
    refine va_callv (va_runV (As := [.int p1]) (rest := []) ⟨hx, hb, hml, hown, hts⟩ (c_put4 l D k H.size h0 tp z_4 z_5 p1 g_6 g_7) (cwV 1 hts (gd_V hgd m614 m616 m2 m117 m617) rfl rfl rfl (by decide +kernel) ⟨Nat.le_of_ble_eq_true rfl, Nat.le_of_ble_eq_true rfl⟩) (cP_V hPc hKX hDc (ci := 11) (q0 := 0) rfl rfl) rfl rfl hl.1 rfl (lv_room (Nat.le_of_ble_eq_true rfl)) dX11_feed_22 ⟨Nat.le_of_ble_eq_true rfl, Nat.le_of_ble_eq_true rfl⟩) hS (fun q _ h => hFc q h) hFc (fun u t H1 locs ht hvm hw hB hz1 hk1 hS => ?_)
    obtain ⟨z_9, z_10, g_11, g_12, hP1, hD1⟩ := hB
    rw [ht] at hP1
    obtain ⟨hP, hD⟩ := va_join (wr := []) (w1 := [(h0, .inr (11, z_9)), (tp, .inl (k.1, 1600, .inl z_10))]) hP hD [0, 1] [] rfl rfl (by decide) (by decide) hk1 hFc hP1 hD1
    generalize H1 = H at hP hS ⊢
    have hP : va_P D classes [(h0, .inr (11, z_9)), (tp, .inl (k.1, 1600, .inl z_10))] H := hP
    have hD : va_D A [(h0, .inr (11, z_9)), (tp, .inl (k.1, 1600, .inl z_10))] := hD
    refine W.widen (k := 0) (n := 0) (Nat.le_of_ble_eq_true rfl) (Nat.le_of_ble_eq_true rfl) ?_
    refine lv_aload_n hx hb dX11_feed_25 rfl (lv_at hl 0 rfl) ?_
    refine lv_iload_n hx hb dX11_feed_26 rfl (lv_at hl 3 rfl) ?_
    have hPc := hP.sub (ws' := [(h0, .inr (11, z_9)), (tp, .inl (k.1, 1600, .inl z_10))]) [0, 1] rfl
    have hDc := hD.sub (ws' := [(h0, .inr (11, z_9)), (tp, .inl (k.1, 1600, .inl z_10))]) [0, 1] (by decide) rfl
    have hFc := va_free (wc := [(h0, .inr (11, z_9)), (tp, .inl (k.1, 1600, .inl z_10))]) hD hS hA [0, 1] rfl
    refine va_callv (va_runV (As := [.int p2]) (rest := []) ⟨hx, hb, hml, hown, hts⟩ (c_put8 l D k H.size h0 tp z_9 z_10 p2 g_11 g_12) (cwV 1 hts (gd_V hgd m614 m616 m2 m117 m617) rfl rfl rfl (by decide +kernel) ⟨Nat.le_of_ble_eq_true rfl, Nat.le_of_ble_eq_true rfl⟩) (cP_V hPc hKX hDc (ci := 11) (q0 := 0) rfl rfl) rfl rfl hl.1 rfl (lv_room (Nat.le_of_ble_eq_true rfl)) dX11_feed_27 ⟨Nat.le_of_ble_eq_true rfl, Nat.le_of_ble_eq_true rfl⟩) hS (fun q _ h => hFc q h) hFc (fun u t H1 locs ht hvm hw hB hz1 hk1 hS => ?_)
    obtain ⟨z_14, z_15, g_16, g_17, hP1, hD1⟩ := hB
    rw [ht] at hP1
    obtain ⟨hP, hD⟩ := va_join (wr := []) (w1 := [(h0, .inr (11, z_14)), (tp, .inl (k.1, 1600, .inl z_15))]) hP hD [0, 1] [] rfl rfl (by decide) (by decide) hk1 hFc hP1 hD1
    generalize H1 = H at hP hS ⊢
    have hP : va_P D classes [(h0, .inr (11, z_14)), (tp, .inl (k.1, 1600, .inl z_15))] H := hP
    have hD : va_D A [(h0, .inr (11, z_14)), (tp, .inl (k.1, 1600, .inl z_15))] := hD
    refine W.widen (k := 0) (n := 0) (Nat.le_of_ble_eq_true rfl) (Nat.le_of_ble_eq_true rfl) ?_
    refine lv_aload_n hx hb dX11_feed_30 rfl (lv_at hl 0 rfl) ?_
    refine lv_iload hx hb dX11_feed_31 (lv_at hl 4 rfl) ?_
    have hPc := hP.sub (ws' := [(h0, .inr (11, z_14)), (tp, .inl (k.1, 1600, .inl z_15))]) [0, 1] rfl
    have hDc := hD.sub (ws' := [(h0, .inr (11, z_14)), (tp, .inl (k.1, 1600, .inl z_15))]) [0, 1] (by decide) rfl
    have hFc := va_free (wc := [(h0, .inr (11, z_14)), (tp, .inl (k.1, 1600, .inl z_15))]) hD hS hA [0, 1] rfl
    refine va_callv (va_runV (As := [.int p3]) (rest := []) ⟨hx, hb, hml, hown, hts⟩ (c_put12 l D k H.size h0 tp z_14 z_15 p3 g_16 g_17) (cwV 1 hts (gd_V hgd m614 m616 m2 m117 m617) rfl rfl rfl (by decide +kernel) ⟨Nat.le_of_ble_eq_true rfl, Nat.le_of_ble_eq_true rfl⟩) (cP_V hPc hKX hDc (ci := 11) (q0 := 0) rfl rfl) rfl rfl hl.1 rfl (lv_room (Nat.le_of_ble_eq_true rfl)) dX11_feed_33 ⟨Nat.le_of_ble_eq_true rfl, Nat.le_of_ble_eq_true rfl⟩) hS (fun q _ h => hFc q h) hFc (fun u t H1 locs ht hvm hw hB hz1 hk1 hS => ?_)
    obtain ⟨z_19, z_20, g_21, g_22, hP1, hD1⟩ := hB
    rw [ht] at hP1
    obtain ⟨hP, hD⟩ := va_join (wr := []) (w1 := [(h0, .inr (11, z_19)), (tp, .inl (k.1, 1600, .inl z_20))]) hP hD [0, 1] [] rfl rfl (by decide) (by decide) hk1 hFc hP1 hD1
    generalize H1 = H at hP hS ⊢
    have hP : va_P D classes [(h0, .inr (11, z_19)), (tp, .inl (k.1, 1600, .inl z_20))] H := hP
    have hD : va_D A [(h0, .inr (11, z_19)), (tp, .inl (k.1, 1600, .inl z_20))] := hD
    refine W.widen (k := 0) (n := 0) (Nat.le_of_ble_eq_true rfl) (Nat.le_of_ble_eq_true rfl) ?_
    refine lv_aload_n hx hb dX11_feed_36 rfl (lv_at hl 0 rfl) ?_
    refine lv_iload hx hb dX11_feed_37 (lv_at hl 5 rfl) ?_
    have hPc := hP.sub (ws' := [(h0, .inr (11, z_19)), (tp, .inl (k.1, 1600, .inl z_20))]) [0, 1] rfl
    have hDc := hD.sub (ws' := [(h0, .inr (11, z_19)), (tp, .inl (k.1, 1600, .inl z_20))]) [0, 1] (by decide) rfl
    have hFc := va_free (wc := [(h0, .inr (11, z_19)), (tp, .inl (k.1, 1600, .inl z_20))]) hD hS hA [0, 1] rfl
    refine va_callv (va_runV (As := [.int p4]) (rest := []) ⟨hx, hb, hml, hown, hts⟩ (c_put16 l D k H.size h0 tp z_19 z_20 p4 g_21 g_22) (cwV 1 hts (gd_V hgd m614 m616 m2 m117 m617) rfl rfl rfl (by decide +kernel) ⟨Nat.le_of_ble_eq_true rfl, Nat.le_of_ble_eq_true rfl⟩) (cP_V hPc hKX hDc (ci := 11) (q0 := 0) rfl rfl) rfl rfl hl.1 rfl (lv_room (Nat.le_of_ble_eq_true rfl)) dX11_feed_39 ⟨Nat.le_of_ble_eq_true rfl, Nat.le_of_ble_eq_true rfl⟩) hS (fun q _ h => hFc q h) hFc (fun u t H1 locs ht hvm hw hB hz1 hk1 hS => ?_)
    obtain ⟨z_24, z_25, g_26, g_27, hP1, hD1⟩ := hB
    rw [ht] at hP1
    obtain ⟨hP, hD⟩ := va_join (wr := []) (w1 := [(h0, .inr (11, z_24)), (tp, .inl (k.1, 1600, .inl z_25))]) hP hD [0, 1] [] rfl rfl (by decide) (by decide) hk1 hFc hP1 hD1
    generalize H1 = H at hP hS ⊢
    have hP : va_P D classes [(h0, .inr (11, z_24)), (tp, .inl (k.1, 1600, .inl z_25))] H := hP
    have hD : va_D A [(h0, .inr (11, z_24)), (tp, .inl (k.1, 1600, .inl z_25))] := hD
    refine W.widen (k := 0) (n := 0) (Nat.le_of_ble_eq_true rfl) (Nat.le_of_ble_eq_true rfl) ?_
    refine lv_aload_n hx hb dX11_feed_42 rfl (lv_at hl 0 rfl) ?_
    refine va_get (D := D) (ci := 11) (v := .int 20) (C := RX11) (T := TX11) (N := 13) hx hb hg iX11 hown hK hP 0 rfl rfl 11 (by decide) (hg (Cond.fieldLink RX11 83 "SlabWalk" "taped" "I") m581) (fun _ h9 => h9) g_26 dX11_feed_43 ?_
    have hP9 := hP.sub (ws' := []) [] rfl
    have hD9 := hD.sub (ws' := []) [] (by decide) rfl
    exact W.iret (v := 20) hx hb hr (fun t ht hW => ⟨⟨20, (), rfl, rfl, cB_of ht hP9 hD9⟩, hS.F ht⟩) hS.2.2 dX11_feed_46
  · exact absurd (by decide) c_2
end
section
set_option maxHeartbeats 4000000 in
set_option maxRecDepth 100000 in
theorem c_X9_advance (l : Launch) (D : va_G) (k : ClassId × ClassId × ClassId × ClassId) (sz : Nat) (h0 tp : Nat) (K : List Value) (g_K_text : K[0]? = some (.ref tp)) (g_K_size : K[1]? = some (.int 0)) (g_K_at : K[2]? = some (.int 0)) (g_K_kind : K[3]? = some (.int 0)) (g_K_place : K[4]? = some (.int 0)) (g_K_fault : K[7]? = some (.int 0)) (g_K_faultPlace : K[8]? = some (.int (-1))) : Met l yX9_advance (WS yX9_advance cX9_advance 2 (some .boolean)) ({ frames := 0, cells := 0, slots := 0, locals := 0 }) (va_Pc [.ref h0] (cP D k [(h0, .inr (9, K))] sz)) (va_Qi (fun (r : Int32) (_ : Unit) => r = 1) (fun (_ : Unit) t => ∃ (K2 : List Value), K2[0]? = some (.ref tp) ∧ K2[3]? = some (.int 203) ∧ K2[7]? = some (.int 0) ∧ K2[8]? = some (.int (-1)) ∧ cB D (va_A [(h0, .inr (9, K))] sz) [(h0, .inr (9, K2))] t) (va_A [(h0, .inr (9, K))] sz)) 0 0 (va_A [(h0, .inr (9, K))] sz) := by
  refine Met.ofW (cc := cX9_advance) (maxL := 2) (ret := (some .boolean)) (by decide) rfl ?_
  intro p e s m args below meth c s₁ B hml hv
  obtain ⟨rfl, hsz, hP, hKX, hD0⟩ := hv
  have hK := hKX.1
  have hx := B.exec
  have hb := B.bytes
  have hr := B.returns
  have hts := atoms_spec (ws := WS yX9_advance cX9_advance 2 (some .boolean)) B.pre
  have hgd : ∀ w ∈ gd, w ∈ WS yX9_advance cX9_advance 2 (some .boolean) := fun w h => List.mem_cons_of_mem _ h
  have hg : ∀ w ∈ gd, w.before _ s = true := fun w h => hts w (hgd w h)
  have hown : s.vm.findClass RX9 = some m.cls := findClass_of_methodNamed B.named
  have hlocks := B.notSynchronized
  subst hsz
  have hD := hD0.self (sz := s.heap.size)
  generalize hAe : va_A [(h0, .inr (9, K))] s.heap.size = A at hD ⊢
  have hA : ∀ q : Nat, s.heap.size ≤ q → A q := fun q h => by rw [← hAe]; exact Or.inr h
  have hS : va_S A s.heap s.heap [] := va_S.rf
  have hP : va_P D classes [(h0, .inr (9, K))] s.heap := hP
  have hl := lv_entry ([.ref h0]) (n := 2) (Nat.le_of_ble_eq_true rfl)
  rw [lg_entry_eq]
  generalize (lg_sl ([.ref h0]) ++ List.replicate (2 - (lg_sl ([.ref h0])).length) Slot.unset).toArray = ls at hl ⊢
  have hl : lv_has ls 2 [(0, .ref h0)] := hl
  refine lv_aload_n hx hb dX9_advance_0 rfl (lv_at hl 0 rfl) ?_
  refine va_get (D := D) (ci := 9) (v := .int 0) (C := RX9) (T := TX9) (N := 9) hx hb hg iX9 hown hK hP 0 rfl rfl 2 (by decide) (hg (Cond.fieldLink RX9 28 "SlabWalk$Tokens" "at" "I") m260) (fun _ h9 => h9) g_K_at dX9_advance_1 ?_
  refine lv_aload_n hx hb dX9_advance_4 rfl (lv_at hl 0 rfl) ?_
  refine va_get (D := D) (ci := 9) (v := .int 0) (C := RX9) (T := TX9) (N := 9) hx hb hg iX9 hown hK hP 0 rfl rfl 1 (by decide) (hg (Cond.fieldLink RX9 25 "SlabWalk$Tokens" "size" "I") m259) (fun _ h9 => h9) g_K_size dX9_advance_5 ?_
  refine lv_icmp_ge (tgt := 52) hx hb dX9_advance_8 (by decide) (fun c_1 => ?_) (fun c_1 => ?_)
  · have c_1 : (0 : Int32) ≤ 0 := c_1
    refine lv_aload_n hx hb dX9_advance_52 rfl (lv_at hl 0 rfl) ?_
    refine lv_aload_n hx hb dX9_advance_53 rfl (lv_at hl 0 rfl) ?_
    refine va_get (D := D) (ci := 9) (v := .int 0) (C := RX9) (T := TX9) (N := 9) hx hb hg iX9 hown hK hP 0 rfl rfl 2 (by decide) (hg (Cond.fieldLink RX9 28 "SlabWalk$Tokens" "at" "I") m260) (fun _ h9 => h9) g_K_at dX9_advance_54 ?_
    refine va_put (D := D) (ci := 9) (v := .int 0) (ty := .int) (C := RX9) (T := TX9) (N := 9) hx hb hg iX9 tyX9 tyX9_ok nmX9 hown hK hP hD hS 0 rfl rfl 4 (by decide) (hg (Cond.fieldLink RX9 41 "SlabWalk$Tokens" "place" "I") m264) (fun _ h9 => h9) rfl (by decide +kernel) rfl rfl (fs_lt g_K_place) dX9_advance_57 (fun H locs hP hD hS => ?_)
    have hP : va_P D classes [(h0, .inr (9, (K.set 4 (.int 0))))] H := hP
    have hD : va_D A [(h0, .inr (9, (K.set 4 (.int 0))))] := hD
    refine lv_aload_n hx hb dX9_advance_60 rfl (lv_at hl 0 rfl) ?_
    refine va_get (D := D) (ci := 9) (v := .int 0) (C := RX9) (T := TX9) (N := 9) hx hb hg iX9 hown hK hP 0 rfl rfl 2 (by decide) (hg (Cond.fieldLink RX9 28 "SlabWalk$Tokens" "at" "I") m260) (fun _ h9 => h9) (fs_ne g_K_at (by decide)) dX9_advance_61 ?_
    refine lv_aload_n hx hb dX9_advance_64 rfl (lv_at hl 0 rfl) ?_
    refine va_get (D := D) (ci := 9) (v := .int 0) (C := RX9) (T := TX9) (N := 9) hx hb hg iX9 hown hK hP 0 rfl rfl 1 (by decide) (hg (Cond.fieldLink RX9 25 "SlabWalk$Tokens" "size" "I") m259) (fun _ h9 => h9) (fs_ne g_K_size (by decide)) dX9_advance_65 ?_
    refine lv_icmp_lt (tgt := 81) hx hb dX9_advance_68 (by decide) (fun c_2 => ?_) (fun c_2 => ?_)
    · exact absurd c_2 (by decide)
    · have c_2 : ¬ ((0 : Int32) < 0) := c_2
      refine lv_aload_n hx hb dX9_advance_71 rfl (lv_at hl 0 rfl) ?_
      refine lv_sipush (v := 203) hx hb dX9_advance_72 (by decide) ?_
      refine va_put (D := D) (ci := 9) (v := .int 203) (ty := .int) (C := RX9) (T := TX9) (N := 9) hx hb hg iX9 tyX9 tyX9_ok nmX9 hown hK hP hD hS 0 rfl rfl 3 (by decide) (hg (Cond.fieldLink RX9 38 "SlabWalk$Tokens" "kind" "I") m262) (fun _ h9 => h9) rfl (by decide +kernel) rfl rfl (fs_lt (fs_ne g_K_kind (by decide))) dX9_advance_75 (fun H locs hP hD hS => ?_)
      have hP : va_P D classes [(h0, .inr (9, ((K.set 4 (.int 0)).set 3 (.int 203))))] H := hP
      have hD : va_D A [(h0, .inr (9, ((K.set 4 (.int 0)).set 3 (.int 203))))] := hD
      refine lv_goto (tgt := 159) hx hb dX9_advance_78 (by decide) ?_
      refine lv_iconst (v := 1) hx hb dX9_advance_159 (by decide) ?_
      have hP9 := hP.sub (ws' := [(h0, .inr (9, ((K.set 4 (.int 0)).set 3 (.int 203))))]) [0] rfl
      have hD9 := hD.sub (ws' := [(h0, .inr (9, ((K.set 4 (.int 0)).set 3 (.int 203))))]) [0] (by decide) rfl
      exact W.zret (v := 1) hx hb hr (by decide) (fun t ht hW => ⟨⟨1, (), rfl, rfl, ⟨((K.set 4 (.int 0)).set 3 (.int 203)), (fs_ne (fs_ne g_K_text (by decide)) (by decide)), (fs_eq (fs_ne g_K_kind (by decide))), (fs_ne (fs_ne g_K_fault (by decide)) (by decide)), (fs_ne (fs_ne g_K_faultPlace (by decide)) (by decide)), cB_of ht hP9 hD9⟩⟩, hS.F ht⟩) hS.2.2 dX9_advance_160
  · exact absurd (by decide) c_1

set_option maxHeartbeats 4000000 in
set_option maxRecDepth 100000 in
theorem c_X9_open (l : Launch) (D : va_G) (k : ClassId × ClassId × ClassId × ClassId) (sz : Nat) (h0 tp : Nat) (K : List Value) (f : Nat → Int32) (g_K_text : K[0]? = some (.ref tp)) (g_K_size : K[1]? = some (.int 0)) (g_K_at : K[2]? = some (.int 0)) (g_K_kind : K[3]? = some (.int 0)) (g_K_place : K[4]? = some (.int 0)) (g_K_fault : K[7]? = some (.int 0)) (g_K_faultPlace : K[8]? = some (.int (-1))) : Met l yX9_open (WS yX9_open cX9_open 2 none) ({ frames := 1, cells := 0, slots := 0, locals := 21 }) (va_Pc [.ref h0, .int 0] (cP D k [(h0, .inr (9, K)), (tp, .inl (k.1, 1600, .inl f))] sz)) (va_Qv (fun _ : Unit => True) (fun (_ : Unit) t => ∃ (K2 : List Value), K2[0]? = some (.ref tp) ∧ K2[3]? = some (.int 203) ∧ K2[7]? = some (.int 0) ∧ K2[8]? = some (.int (-1)) ∧ cB D (va_A [(h0, .inr (9, K)), (tp, .inl (k.1, 1600, .inl f))] sz) [(h0, .inr (9, K2))] t) (va_A [(h0, .inr (9, K)), (tp, .inl (k.1, 1600, .inl f))] sz)) 0 0 (va_A [(h0, .inr (9, K)), (tp, .inl (k.1, 1600, .inl f))] sz) := by
  refine Met.ofW (cc := cX9_open) (maxL := 2) (ret := none) (by decide) rfl ?_
  intro p e s m args below meth c s₁ B hml hv
  obtain ⟨rfl, hsz, hP, hKX, hD0⟩ := hv
  have hK := hKX.1
  have hx := B.exec
  have hb := B.bytes
  have hr := B.returns
  have hts := atoms_spec (ws := WS yX9_open cX9_open 2 none) B.pre
  have hgd : ∀ w ∈ gd, w ∈ WS yX9_open cX9_open 2 none := fun w h => List.mem_cons_of_mem _ h
  have hg : ∀ w ∈ gd, w.before _ s = true := fun w h => hts w (hgd w h)
  have hown : s.vm.findClass RX9 = some m.cls := findClass_of_methodNamed B.named
  have hlocks := B.notSynchronized
  subst hsz
  have hD := hD0.self (sz := s.heap.size)
  generalize hAe : va_A [(h0, .inr (9, K)), (tp, .inl (k.1, 1600, .inl f))] s.heap.size = A at hD ⊢
  have hA : ∀ q : Nat, s.heap.size ≤ q → A q := fun q h => by rw [← hAe]; exact Or.inr h
  have hS : va_S A s.heap s.heap [] := va_S.rf
  have hP : va_P D classes [(h0, .inr (9, K)), (tp, .inl (k.1, 1600, .inl f))] s.heap := hP
  have hl := lv_entry ([.ref h0, .int 0]) (n := 2) (Nat.le_of_ble_eq_true rfl)
  rw [lg_entry_eq]
  generalize (lg_sl ([.ref h0, .int 0]) ++ List.replicate (2 - (lg_sl ([.ref h0, .int 0])).length) Slot.unset).toArray = ls at hl ⊢
  have hl : lv_has ls 2 [(0, .ref h0), (1, .int 0)] := hl
  refine lv_aload_n hx hb dX9_open_0 rfl (lv_at hl 0 rfl) ?_
  refine lv_iload_n hx hb dX9_open_1 rfl (lv_at hl 1 rfl) ?_
  refine lv_aload_n hx hb dX9_open_2 rfl (lv_at hl 0 rfl) ?_
  refine va_get (D := D) (ci := 9) (v := .ref tp) (C := RX9) (T := TX9) (N := 9) hx hb hg iX9 hown hK hP 0 rfl rfl 0 (by decide) (hg (Cond.fieldLink RX9 15 "SlabWalk$Tokens" "text" "[B") m258) (fun _ h9 => h9) g_K_text dX9_open_3 ?_
  refine va_alen (v := 1600) hx hb hK hP 1 0 rfl rfl rfl dX9_open_6 ?_
  refine va_mmin hx hb (by rw [hml]; exact hl.1.symm) hown (hg (Cond.methodLink RX9 19 Lib.Math.min.name) m635) (hg (Cond.static Lib.Math.min.name) m636) (hg (Cond.initialized "java/lang/Math") m132) (hg (Cond.code Lib.Math.min.name Lib.Math.min.code 2 (some .int)) m637) (Nat.le_of_ble_eq_true rfl) (Nat.le_of_ble_eq_true rfl) (Nat.le_of_ble_eq_true rfl) (Nat.le_of_ble_eq_true rfl) dX9_open_7 ?_
  refine lv_topi (fun y_1 ey_1 => ?_)
  obtain rfl : y_1 = 0 := ey_1.trans (by decide)
  refine va_put (D := D) (ci := 9) (v := .int 0) (ty := .int) (C := RX9) (T := TX9) (N := 9) hx hb hg iX9 tyX9 tyX9_ok nmX9 hown hK hP hD hS 0 rfl rfl 1 (by decide) (hg (Cond.fieldLink RX9 25 "SlabWalk$Tokens" "size" "I") m259) (fun _ h9 => h9) rfl (by decide +kernel) rfl rfl (fs_lt g_K_size) dX9_open_10 (fun H locs hP hD hS => ?_)
  have hP : va_P D classes [(h0, .inr (9, (K.set 1 (.int 0)))), (tp, .inl (k.1, 1600, .inl f))] H := hP
  have hD : va_D A [(h0, .inr (9, (K.set 1 (.int 0)))), (tp, .inl (k.1, 1600, .inl f))] := hD
  refine lv_aload_n hx hb dX9_open_13 rfl (lv_at hl 0 rfl) ?_
  refine lv_iconst (v := 0) hx hb dX9_open_14 (by decide) ?_
  refine va_put (D := D) (ci := 9) (v := .int 0) (ty := .int) (C := RX9) (T := TX9) (N := 9) hx hb hg iX9 tyX9 tyX9_ok nmX9 hown hK hP hD hS 0 rfl rfl 2 (by decide) (hg (Cond.fieldLink RX9 28 "SlabWalk$Tokens" "at" "I") m260) (fun _ h9 => h9) rfl (by decide +kernel) rfl rfl (fs_lt (fs_ne g_K_at (by decide))) dX9_open_15 (fun H locs hP hD hS => ?_)
  have hP : va_P D classes [(h0, .inr (9, ((K.set 1 (.int 0)).set 2 (.int 0)))), (tp, .inl (k.1, 1600, .inl f))] H := hP
  have hD : va_D A [(h0, .inr (9, ((K.set 1 (.int 0)).set 2 (.int 0)))), (tp, .inl (k.1, 1600, .inl f))] := hD
  refine lv_aload_n hx hb dX9_open_18 rfl (lv_at hl 0 rfl) ?_
  refine lv_iconst (v := 0) hx hb dX9_open_19 (by decide) ?_
  refine va_put (D := D) (ci := 9) (v := .int 0) (ty := .int) (C := RX9) (T := TX9) (N := 9) hx hb hg iX9 tyX9 tyX9_ok nmX9 hown hK hP hD hS 0 rfl rfl 7 (by decide) (hg (Cond.fieldLink RX9 31 "SlabWalk$Tokens" "fault" "I") m270) (fun _ h9 => h9) rfl (by decide +kernel) rfl rfl (fs_lt (fs_ne (fs_ne g_K_fault (by decide)) (by decide))) dX9_open_20 (fun H locs hP hD hS => ?_)
  have hP : va_P D classes [(h0, .inr (9, (((K.set 1 (.int 0)).set 2 (.int 0)).set 7 (.int 0)))), (tp, .inl (k.1, 1600, .inl f))] H := hP
  have hD : va_D A [(h0, .inr (9, (((K.set 1 (.int 0)).set 2 (.int 0)).set 7 (.int 0)))), (tp, .inl (k.1, 1600, .inl f))] := hD
  refine lv_aload_n hx hb dX9_open_23 rfl (lv_at hl 0 rfl) ?_
  refine lv_iconst (v := (-1)) hx hb dX9_open_24 (by decide) ?_
  refine va_put (D := D) (ci := 9) (v := .int (-1)) (ty := .int) (C := RX9) (T := TX9) (N := 9) hx hb hg iX9 tyX9 tyX9_ok nmX9 hown hK hP hD hS 0 rfl rfl 8 (by decide) (hg (Cond.fieldLink RX9 9 "SlabWalk$Tokens" "faultPlace" "I") m272) (fun _ h9 => h9) rfl (by decide +kernel) rfl rfl (fs_lt (fs_ne (fs_ne (fs_ne g_K_faultPlace (by decide)) (by decide)) (by decide))) dX9_open_25 (fun H locs hP hD hS => ?_)
  have hP : va_P D classes [(h0, .inr (9, ((((K.set 1 (.int 0)).set 2 (.int 0)).set 7 (.int 0)).set 8 (.int (-1))))), (tp, .inl (k.1, 1600, .inl f))] H := hP
  have hD : va_D A [(h0, .inr (9, ((((K.set 1 (.int 0)).set 2 (.int 0)).set 7 (.int 0)).set 8 (.int (-1))))), (tp, .inl (k.1, 1600, .inl f))] := hD
  refine lv_aload_n hx hb dX9_open_28 rfl (lv_at hl 0 rfl) ?_
  have hPc := hP.sub (ws' := [(h0, .inr (9, ((((K.set 1 (.int 0)).set 2 (.int 0)).set 7 (.int 0)).set 8 (.int (-1)))))]) [0] rfl
  have hDc := hD.sub (ws' := [(h0, .inr (9, ((((K.set 1 (.int 0)).set 2 (.int 0)).set 7 (.int 0)).set 8 (.int (-1)))))]) [0] (by decide) rfl
  have hFc := va_free (wc := [(h0, .inr (9, ((((K.set 1 (.int 0)).set 2 (.int 0)).set 7 (.int 0)).set 8 (.int (-1)))))]) hD hS hA [0] rfl
  refine va_calli (va_runV (As := []) (rest := []) ⟨hx, hb, hml, hown, hts⟩ (c_X9_advance l D k H.size h0 tp ((((K.set 1 (.int 0)).set 2 (.int 0)).set 7 (.int 0)).set 8 (.int (-1))) (fs_ne (fs_ne (fs_ne (fs_ne g_K_text (by decide)) (by decide)) (by decide)) (by decide)) (fs_ne (fs_ne (fs_ne (fs_eq g_K_size) (by decide)) (by decide)) (by decide)) (fs_ne (fs_ne (fs_eq (fs_ne g_K_at (by decide))) (by decide)) (by decide)) (fs_ne (fs_ne (fs_ne (fs_ne g_K_kind (by decide)) (by decide)) (by decide)) (by decide)) (fs_ne (fs_ne (fs_ne (fs_ne g_K_place (by decide)) (by decide)) (by decide)) (by decide)) (fs_ne (fs_eq (fs_ne (fs_ne g_K_fault (by decide)) (by decide))) (by decide)) (fs_eq (fs_ne (fs_ne (fs_ne g_K_faultPlace (by decide)) (by decide)) (by decide)))) (cwV 0 hts (gd_V hgd m638 m639 m640 m120 m641) rfl rfl rfl (by decide +kernel) ⟨Nat.le_of_ble_eq_true rfl, Nat.le_of_ble_eq_true rfl⟩) (cP_V hPc hKX hDc (ci := 9) (q0 := 0) rfl rfl) rfl rfl hl.1 rfl (lv_room (Nat.le_of_ble_eq_true rfl)) dX9_open_29 ⟨Nat.le_of_ble_eq_true rfl, Nat.le_of_ble_eq_true rfl⟩) hS (fun q _ h => hFc q h) hFc (fun r_2 u t H1 locs ht hvm hw hB hz1 hk1 hS => ?_)
  obtain ⟨z_3, g_4, g_5, g_6, g_7, hP1, hD1⟩ := hB
  rw [ht] at hP1
  obtain ⟨hP, hD⟩ := va_join (wr := [(tp, .inl (k.1, 1600, .inl f))]) (w1 := [(h0, .inr (9, z_3))]) hP hD [0] [1] rfl rfl (by decide) (by decide) hk1 hFc hP1 hD1
  generalize H1 = H at hP hS ⊢
  have hP : va_P D classes [(tp, .inl (k.1, 1600, .inl f)), (h0, .inr (9, z_3))] H := hP
  have hD : va_D A [(tp, .inl (k.1, 1600, .inl f)), (h0, .inr (9, z_3))] := hD
  refine W.widen (k := 0) (n := 0) (Nat.le_of_ble_eq_true rfl) (Nat.le_of_ble_eq_true rfl) ?_
  subst hw
  refine lv_pop hx hb dX9_open_32 rfl ?_
  have hP9 := hP.sub (ws' := [(h0, .inr (9, z_3))]) [1] rfl
  have hD9 := hD.sub (ws' := [(h0, .inr (9, z_3))]) [1] (by decide) rfl
  exact W.vret hx hb hr (fun t ht hW => ⟨⟨(), rfl, trivial, ⟨z_3, g_4, g_5, g_6, g_7, cB_of ht hP9 hD9⟩⟩, hS.F ht⟩) hS.2.2 dX9_open_33

set_option maxHeartbeats 4000000 in
set_option maxRecDepth 100000 in
theorem c_X7_read (l : Launch) (D : va_G) (k : ClassId × ClassId × ClassId × ClassId) (sz : Nat) (h0 sp tk sl2 tp : Nat) (Rd P2 K : List Value) (g2 : Nat → Int32) (f : Nat → Int32) (g_Rd_tokens : Rd[0]? = some (.ref tk)) (g_Rd_paving : Rd[5]? = some (.ref sp)) (g_Rd_slipTold : Rd[6]? = some (.int 0)) (g_Rd_handTold : Rd[7]? = some (.int 0)) (g_Rd_drawTold : Rd[8]? = some (.int 0)) (g_P2_walkers : P2[10]? = some (.int 0)) (g_P2_rules : P2[11]? = some (.int 0)) (g_P2_units : P2[12]? = some (.int 0)) (g_P2_coded : P2[13]? = some (.int 0)) (g_P2_hand : P2[14]? = some (.int 30)) (g_P2_slack : P2[15]? = some (.int 10)) (g_P2_draw : P2[16]? = some (.int 0)) (g_P2_slip : P2[6]? = some (.ref sl2)) (g_P2_streets : P2[9]? = some (.int 0)) (g_K_text : K[0]? = some (.ref tp)) (g_K_size : K[1]? = some (.int 0)) (g_K_at : K[2]? = some (.int 0)) (g_K_kind : K[3]? = some (.int 0)) (g_K_place : K[4]? = some (.int 0)) (g_K_fault : K[7]? = some (.int 0)) (g_K_faultPlace : K[8]? = some (.int (-1))) : Met l yX7_read (WS yX7_read cX7_read 5 (some .boolean)) ({ frames := 2, cells := 0, slots := 0, locals := 42 }) (va_Pc [.ref h0, .int 0, .ref sp] (cP D k [(h0, .inr (7, Rd)), (sp, .inr (6, P2)), (sl2, .inl (k.2.1, 3, .inl g2)), (tk, .inr (9, K)), (tp, .inl (k.1, 1600, .inl f))] sz)) (va_Qi (fun (r : Int32) (_ : Unit) => r = 1) (fun (_ : Unit) t => ∃ (P3 : List Value), P3[16]? = some (.int 0) ∧ P3[9]? = some (.int 0) ∧ cB D (va_A [(h0, .inr (7, Rd)), (sp, .inr (6, P2)), (sl2, .inl (k.2.1, 3, .inl g2)), (tk, .inr (9, K)), (tp, .inl (k.1, 1600, .inl f))] sz) [(sp, .inr (6, P3))] t) (va_A [(h0, .inr (7, Rd)), (sp, .inr (6, P2)), (sl2, .inl (k.2.1, 3, .inl g2)), (tk, .inr (9, K)), (tp, .inl (k.1, 1600, .inl f))] sz)) 0 0 (va_A [(h0, .inr (7, Rd)), (sp, .inr (6, P2)), (sl2, .inl (k.2.1, 3, .inl g2)), (tk, .inr (9, K)), (tp, .inl (k.1, 1600, .inl f))] sz) := by
  refine Met.ofW (cc := cX7_read) (maxL := 5) (ret := (some .boolean)) (by decide) rfl ?_
  intro p e s m args below meth c s₁ B hml hv
  obtain ⟨rfl, hsz, hP, hKX, hD0⟩ := hv
  have hK := hKX.1
  have hx := B.exec
  have hb := B.bytes
  have hr := B.returns
  have hts := atoms_spec (ws := WS yX7_read cX7_read 5 (some .boolean)) B.pre
  have hgd : ∀ w ∈ gd, w ∈ WS yX7_read cX7_read 5 (some .boolean) := fun w h => List.mem_cons_of_mem _ h
  have hg : ∀ w ∈ gd, w.before _ s = true := fun w h => hts w (hgd w h)
  have hown : s.vm.findClass RX7 = some m.cls := findClass_of_methodNamed B.named
  have hlocks := B.notSynchronized
  subst hsz
  have hD := hD0.self (sz := s.heap.size)
  generalize hAe : va_A [(h0, .inr (7, Rd)), (sp, .inr (6, P2)), (sl2, .inl (k.2.1, 3, .inl g2)), (tk, .inr (9, K)), (tp, .inl (k.1, 1600, .inl f))] s.heap.size = A at hD ⊢
  have hA : ∀ q : Nat, s.heap.size ≤ q → A q := fun q h => by rw [← hAe]; exact Or.inr h
  have hS : va_S A s.heap s.heap [] := va_S.rf
  have hP : va_P D classes [(h0, .inr (7, Rd)), (sp, .inr (6, P2)), (sl2, .inl (k.2.1, 3, .inl g2)), (tk, .inr (9, K)), (tp, .inl (k.1, 1600, .inl f))] s.heap := hP
  have hl := lv_entry ([.ref h0, .int 0, .ref sp]) (n := 5) (Nat.le_of_ble_eq_true rfl)
  rw [lg_entry_eq]
  generalize (lg_sl ([.ref h0, .int 0, .ref sp]) ++ List.replicate (5 - (lg_sl ([.ref h0, .int 0, .ref sp])).length) Slot.unset).toArray = ls at hl ⊢
  have hl : lv_has ls 5 [(0, .ref h0), (1, .int 0), (2, .ref sp)] := hl
  refine lv_aload_n hx hb dX7_read_0 rfl (lv_at hl 0 rfl) ?_
  refine lv_aload_n hx hb dX7_read_1 rfl (lv_at hl 2 rfl) ?_
  refine va_put (D := D) (ci := 7) (v := .ref sp) (ty := (.object "SlabWalk$Paving")) (C := RX7) (T := TX7) (N := 10) hx hb hg iX7 tyX7 tyX7_ok nmX7 hown hK hP hD hS 0 rfl rfl 5 (by decide) (hg (Cond.fieldLink RX7 39 "SlabWalk$Reader" "paving" "LSlabWalk$Paving;") m317) (fun _ h9 => h9) rfl (by decide +kernel) rfl rfl (fs_lt g_Rd_paving) dX7_read_2 (fun H locs hP hD hS => ?_)
  have hP : va_P D classes [(h0, .inr (7, (Rd.set 5 (.ref sp)))), (sp, .inr (6, P2)), (sl2, .inl (k.2.1, 3, .inl g2)), (tk, .inr (9, K)), (tp, .inl (k.1, 1600, .inl f))] H := hP
  have hD : va_D A [(h0, .inr (7, (Rd.set 5 (.ref sp)))), (sp, .inr (6, P2)), (sl2, .inl (k.2.1, 3, .inl g2)), (tk, .inr (9, K)), (tp, .inl (k.1, 1600, .inl f))] := hD
  refine lv_aload_n hx hb dX7_read_5 rfl (lv_at hl 0 rfl) ?_
  refine va_get (D := D) (ci := 7) (v := .ref sp) (C := RX7) (T := TX7) (N := 10) hx hb hg iX7 hown hK hP 0 rfl rfl 5 (by decide) (hg (Cond.fieldLink RX7 39 "SlabWalk$Reader" "paving" "LSlabWalk$Paving;") m317) (fun _ h9 => h9) (fs_eq g_Rd_paving) dX7_read_6 ?_
  have hPc := hP.sub (ws' := [(sp, .inr (6, P2)), (sl2, .inl (k.2.1, 3, .inl g2))]) [1, 2] rfl
  have hDc := hD.sub (ws' := [(sp, .inr (6, P2)), (sl2, .inl (k.2.1, 3, .inl g2))]) [1, 2] (by decide) rfl
  have hFc := va_free (wc := [(sp, .inr (6, P2)), (sl2, .inl (k.2.1, 3, .inl g2))]) hD hS hA [1, 2] rfl
  refine va_callv (va_runV (As := []) (rest := []) ⟨hx, hb, hml, hown, hts⟩ (c_X6_empty l D k H.size sp sl2 P2 g2 0 0 0 0 0 30 10 0 g_P2_walkers g_P2_rules g_P2_units g_P2_coded g_P2_hand g_P2_slack g_P2_draw g_P2_slip g_P2_streets) (cwV 0 hts (gd_V hgd m630 m153 m154 m118 m155) rfl rfl rfl (by decide +kernel) ⟨Nat.le_of_ble_eq_true rfl, Nat.le_of_ble_eq_true rfl⟩) (cP_V hPc hKX hDc (ci := 6) (q0 := 0) rfl rfl) rfl rfl hl.1 rfl (lv_room (Nat.le_of_ble_eq_true rfl)) dX7_read_9 ⟨Nat.le_of_ble_eq_true rfl, Nat.le_of_ble_eq_true rfl⟩) hS (fun q _ h => hFc q h) hFc (fun u t H1 locs ht hvm hw hB hz1 hk1 hS => ?_)
  obtain ⟨z_2, z_3, g_4, g_5, g_6, g_7, g_8, g_9, g_10, g_11, g_12, g_13, g_14, g_15, hP1, hD1⟩ := hB
  rw [ht] at hP1
  obtain ⟨hP, hD⟩ := va_join (wr := [(h0, .inr (7, (Rd.set 5 (.ref sp)))), (tk, .inr (9, K)), (tp, .inl (k.1, 1600, .inl f))]) (w1 := [(sp, .inr (6, z_2)), (sl2, .inl (k.2.1, 3, .inl z_3))]) hP hD [1, 2] [0, 3, 4] rfl rfl (by decide) (by decide) hk1 hFc hP1 hD1
  generalize H1 = H at hP hS ⊢
  have hP : va_P D classes [(h0, .inr (7, (Rd.set 5 (.ref sp)))), (tk, .inr (9, K)), (tp, .inl (k.1, 1600, .inl f)), (sp, .inr (6, z_2)), (sl2, .inl (k.2.1, 3, .inl z_3))] H := hP
  have hD : va_D A [(h0, .inr (7, (Rd.set 5 (.ref sp)))), (tk, .inr (9, K)), (tp, .inl (k.1, 1600, .inl f)), (sp, .inr (6, z_2)), (sl2, .inl (k.2.1, 3, .inl z_3))] := hD
  refine W.widen (k := 0) (n := 0) (Nat.le_of_ble_eq_true rfl) (Nat.le_of_ble_eq_true rfl) ?_
  refine lv_aload_n hx hb dX7_read_12 rfl (lv_at hl 0 rfl) ?_
  refine lv_iconst (v := 0) hx hb dX7_read_13 (by decide) ?_
  refine va_put (D := D) (ci := 7) (v := .int 0) (ty := .boolean) (C := RX7) (T := TX7) (N := 10) hx hb hg iX7 tyX7 tyX7_ok nmX7 hown hK hP hD hS 0 rfl rfl 6 (by decide) (hg (Cond.fieldLink RX7 48 "SlabWalk$Reader" "slipTold" "Z") m318) (fun _ h9 => h9) rfl (by decide +kernel) rfl rfl (fs_lt (fs_ne g_Rd_slipTold (by decide))) dX7_read_14 (fun H locs hP hD hS => ?_)
  have hP : va_P D classes [(h0, .inr (7, ((Rd.set 5 (.ref sp)).set 6 (.int 0)))), (tk, .inr (9, K)), (tp, .inl (k.1, 1600, .inl f)), (sp, .inr (6, z_2)), (sl2, .inl (k.2.1, 3, .inl z_3))] H := hP
  have hD : va_D A [(h0, .inr (7, ((Rd.set 5 (.ref sp)).set 6 (.int 0)))), (tk, .inr (9, K)), (tp, .inl (k.1, 1600, .inl f)), (sp, .inr (6, z_2)), (sl2, .inl (k.2.1, 3, .inl z_3))] := hD
  refine lv_aload_n hx hb dX7_read_17 rfl (lv_at hl 0 rfl) ?_
  refine lv_iconst (v := 0) hx hb dX7_read_18 (by decide) ?_
  refine va_put (D := D) (ci := 7) (v := .int 0) (ty := .boolean) (C := RX7) (T := TX7) (N := 10) hx hb hg iX7 tyX7 tyX7_ok nmX7 hown hK hP hD hS 0 rfl rfl 7 (by decide) (hg (Cond.fieldLink RX7 52 "SlabWalk$Reader" "handTold" "Z") m319) (fun _ h9 => h9) rfl (by decide +kernel) rfl rfl (fs_lt (fs_ne (fs_ne g_Rd_handTold (by decide)) (by decide))) dX7_read_19 (fun H locs hP hD hS => ?_)
  have hP : va_P D classes [(h0, .inr (7, (((Rd.set 5 (.ref sp)).set 6 (.int 0)).set 7 (.int 0)))), (tk, .inr (9, K)), (tp, .inl (k.1, 1600, .inl f)), (sp, .inr (6, z_2)), (sl2, .inl (k.2.1, 3, .inl z_3))] H := hP
  have hD : va_D A [(h0, .inr (7, (((Rd.set 5 (.ref sp)).set 6 (.int 0)).set 7 (.int 0)))), (tk, .inr (9, K)), (tp, .inl (k.1, 1600, .inl f)), (sp, .inr (6, z_2)), (sl2, .inl (k.2.1, 3, .inl z_3))] := hD
  refine lv_aload_n hx hb dX7_read_22 rfl (lv_at hl 0 rfl) ?_
  refine lv_iconst (v := 0) hx hb dX7_read_23 (by decide) ?_
  refine va_put (D := D) (ci := 7) (v := .int 0) (ty := .boolean) (C := RX7) (T := TX7) (N := 10) hx hb hg iX7 tyX7 tyX7_ok nmX7 hown hK hP hD hS 0 rfl rfl 8 (by decide) (hg (Cond.fieldLink RX7 55 "SlabWalk$Reader" "drawTold" "Z") m320) (fun _ h9 => h9) rfl (by decide +kernel) rfl rfl (fs_lt (fs_ne (fs_ne (fs_ne g_Rd_drawTold (by decide)) (by decide)) (by decide))) dX7_read_24 (fun H locs hP hD hS => ?_)
  have hP : va_P D classes [(h0, .inr (7, ((((Rd.set 5 (.ref sp)).set 6 (.int 0)).set 7 (.int 0)).set 8 (.int 0)))), (tk, .inr (9, K)), (tp, .inl (k.1, 1600, .inl f)), (sp, .inr (6, z_2)), (sl2, .inl (k.2.1, 3, .inl z_3))] H := hP
  have hD : va_D A [(h0, .inr (7, ((((Rd.set 5 (.ref sp)).set 6 (.int 0)).set 7 (.int 0)).set 8 (.int 0)))), (tk, .inr (9, K)), (tp, .inl (k.1, 1600, .inl f)), (sp, .inr (6, z_2)), (sl2, .inl (k.2.1, 3, .inl z_3))] := hD
  refine lv_aload_n hx hb dX7_read_27 rfl (lv_at hl 0 rfl) ?_
  refine va_get (D := D) (ci := 7) (v := .ref tk) (C := RX7) (T := TX7) (N := 10) hx hb hg iX7 hown hK hP 0 rfl rfl 0 (by decide) (hg (Cond.fieldLink RX7 26 "SlabWalk$Reader" "tokens" "LSlabWalk$Tokens;") m311) (fun _ h9 => h9) (fs_ne (fs_ne (fs_ne (fs_ne g_Rd_tokens (by decide)) (by decide)) (by decide)) (by decide)) dX7_read_28 ?_
  refine lv_iload_n hx hb dX7_read_31 rfl (lv_at hl 1 rfl) ?_
  have hPc := hP.sub (ws' := [(tk, .inr (9, K)), (tp, .inl (k.1, 1600, .inl f))]) [1, 2] rfl
  have hDc := hD.sub (ws' := [(tk, .inr (9, K)), (tp, .inl (k.1, 1600, .inl f))]) [1, 2] (by decide) rfl
  have hFc := va_free (wc := [(tk, .inr (9, K)), (tp, .inl (k.1, 1600, .inl f))]) hD hS hA [1, 2] rfl
  refine va_callv (va_runV (As := [.int 0]) (rest := []) ⟨hx, hb, hml, hown, hts⟩ (c_X9_open l D k H.size tk tp K f g_K_text g_K_size g_K_at g_K_kind g_K_place g_K_fault g_K_faultPlace) (cwV 1 hts (gd_V hgd m631 m632 m633 m120 m634) rfl rfl rfl (by decide +kernel) ⟨Nat.le_of_ble_eq_true rfl, Nat.le_of_ble_eq_true rfl⟩) (cP_V hPc hKX hDc (ci := 9) (q0 := 0) rfl rfl) rfl rfl hl.1 rfl (lv_room (Nat.le_of_ble_eq_true rfl)) dX7_read_32 ⟨Nat.le_of_ble_eq_true rfl, Nat.le_of_ble_eq_true rfl⟩) hS (fun q _ h => hFc q h) hFc (fun u t H1 locs ht hvm hw hB hz1 hk1 hS => ?_)
  obtain ⟨z_17, g_18, g_19, g_20, g_21, hP1, hD1⟩ := hB
  rw [ht] at hP1
  obtain ⟨hP, hD⟩ := va_join (wr := [(h0, .inr (7, ((((Rd.set 5 (.ref sp)).set 6 (.int 0)).set 7 (.int 0)).set 8 (.int 0)))), (sp, .inr (6, z_2)), (sl2, .inl (k.2.1, 3, .inl z_3))]) (w1 := [(tk, .inr (9, z_17))]) hP hD [1, 2] [0, 3, 4] rfl rfl (by decide) (by decide) hk1 hFc hP1 hD1
  generalize H1 = H at hP hS ⊢
  have hP : va_P D classes [(h0, .inr (7, ((((Rd.set 5 (.ref sp)).set 6 (.int 0)).set 7 (.int 0)).set 8 (.int 0)))), (sp, .inr (6, z_2)), (sl2, .inl (k.2.1, 3, .inl z_3)), (tk, .inr (9, z_17))] H := hP
  have hD : va_D A [(h0, .inr (7, ((((Rd.set 5 (.ref sp)).set 6 (.int 0)).set 7 (.int 0)).set 8 (.int 0)))), (sp, .inr (6, z_2)), (sl2, .inl (k.2.1, 3, .inl z_3)), (tk, .inr (9, z_17))] := hD
  refine W.widen (k := 0) (n := 0) (Nat.le_of_ble_eq_true rfl) (Nat.le_of_ble_eq_true rfl) ?_
  refine lv_iconst (v := 1) hx hb dX7_read_35 (by decide) ?_
  refine lv_istore_n (lv' := [(3, .int 1), (0, .ref h0), (1, .int 0), (2, .ref sp)]) hx hb dX7_read_36 rfl hl (by decide) rfl (fun ls hl => ?_)
  refine lv_iconst (v := 0) hx hb dX7_read_37 (by decide) ?_
  refine lv_istore (lv' := [(4, .int 0), (3, .int 1), (0, .ref h0), (1, .int 0), (2, .ref sp)]) hx hb dX7_read_38 hl (by decide) rfl (fun ls hl => ?_)
  refine lv_iload_n hx hb dX7_read_40 rfl (lv_at hl 1 rfl) ?_
  refine lv_if_eq (tgt := 195) hx hb dX7_read_41 (by decide) (fun c_22 => ?_) (fun c_22 => ?_)
  · exact absurd c_22 (by decide)
  · have c_22 : ¬ ((1 : Int32) = 0) := c_22
    refine lv_iload hx hb dX7_read_44 (lv_at hl 0 rfl) ?_
    refine lv_sipush (v := 1600) hx hb dX7_read_46 (by decide) ?_
    refine lv_icmp_ge (tgt := 195) hx hb dX7_read_49 (by decide) (fun c_23 => ?_) (fun c_23 => ?_)
    · exact absurd c_23 (by decide)
    · have c_23 : ¬ ((1600 : Int32) ≤ 0) := c_23
      refine lv_aload_n hx hb dX7_read_52 rfl (lv_at hl 2 rfl) ?_
      refine va_get (D := D) (ci := 7) (v := .ref tk) (C := RX7) (T := TX7) (N := 10) hx hb hg iX7 hown hK hP 0 rfl rfl 0 (by decide) (hg (Cond.fieldLink RX7 26 "SlabWalk$Reader" "tokens" "LSlabWalk$Tokens;") m311) (fun _ h9 => h9) (fs_ne (fs_ne (fs_ne (fs_ne g_Rd_tokens (by decide)) (by decide)) (by decide)) (by decide)) dX7_read_53 ?_
      refine va_get (D := D) (ci := 9) (v := .int 203) (C := RX9) (T := TX9) (N := 9) hx hb hg iX9 hown hK hP 3 rfl rfl 3 (by decide) (hg (Cond.fieldLink RX7 62 "SlabWalk$Tokens" "kind" "I") m261) (fun _ h9 => h9) g_19 dX7_read_56 ?_
      refine lv_sipush (v := 203) hx hb dX7_read_59 (by decide) ?_
      refine lv_icmp_eq (tgt := 195) hx hb dX7_read_62 (by decide) (fun c_24 => ?_) (fun c_24 => ?_)
      · have c_24 : (203 : Int32) = 203 := c_24
        refine lv_iload_n hx hb dX7_read_195 rfl (lv_at hl 1 rfl) ?_
        have hP9 := hP.sub (ws' := [(sp, .inr (6, z_2))]) [1] rfl
        have hD9 := hD.sub (ws' := [(sp, .inr (6, z_2))]) [1] (by decide) rfl
        exact W.zret (v := 1) hx hb hr (by decide) (fun t ht hW => ⟨⟨1, (), rfl, rfl, ⟨z_2, g_10, g_12, cB_of ht hP9 hD9⟩⟩, hS.F ht⟩) hS.2.2 dX7_read_196
      · exact absurd (by decide) c_24

set_option maxHeartbeats 4000000 in
set_option maxRecDepth 100000 in
theorem c_X11_pavement (l : Launch) (D : va_G) (k : ClassId × ClassId × ClassId × ClassId) (sz : Nat) (h0 pv sp tp rd ln ea si tk sl2 fo nw kp bx : Nat) (F Rd P2 K N E Z : List Value) (g2 : Nat → Int32) (g3 : Nat → Int32) (g4 : Nat → Int32) (f1 : Nat → Int32) (f2 : Nat → Int32) (g_F_paving : F[0]? = some (.ref pv)) (g_F_spare : F[1]? = some (.ref sp)) (g_F_taped : F[11]? = some (.int 0)) (g_F_lie : F[12]? = some (.int 0)) (g_F_tape : F[2]? = some (.ref tp)) (g_F_reader : F[3]? = some (.ref rd)) (g_F_lines : F[4]? = some (.ref ln)) (g_F_earnest : F[8]? = some (.ref ea)) (g_F_sights : F[9]? = some (.ref si)) (g_Rd_tokens : Rd[0]? = some (.ref tk)) (g_Rd_paving : Rd[5]? = some (.ref sp)) (g_Rd_slipTold : Rd[6]? = some (.int 0)) (g_Rd_handTold : Rd[7]? = some (.int 0)) (g_Rd_drawTold : Rd[8]? = some (.int 0)) (g_P2_walkers : P2[10]? = some (.int 0)) (g_P2_rules : P2[11]? = some (.int 0)) (g_P2_units : P2[12]? = some (.int 0)) (g_P2_coded : P2[13]? = some (.int 0)) (g_P2_hand : P2[14]? = some (.int 30)) (g_P2_slack : P2[15]? = some (.int 10)) (g_P2_draw : P2[16]? = some (.int 0)) (g_P2_slip : P2[6]? = some (.ref sl2)) (g_P2_streets : P2[9]? = some (.int 0)) (g_K_text : K[0]? = some (.ref tp)) (g_K_size : K[1]? = some (.int 0)) (g_K_at : K[2]? = some (.int 0)) (g_K_kind : K[3]? = some (.int 0)) (g_K_place : K[4]? = some (.int 0)) (g_K_fault : K[7]? = some (.int 0)) (g_K_faultPlace : K[8]? = some (.int (-1))) (g_N_foundOn : N[1]? = some (.ref fo)) (g_N_paving : N[4]? = some (.ref pv)) (g_E_now : E[0]? = some (.ref nw)) (g_E_kept : E[1]? = some (.ref kp)) (g_E_boxes : E[2]? = some (.ref bx)) (g_E_full : E[3]? = some (.int 0)) (g_E_done : E[4]? = some (.int 0)) (g_E_undone : E[5]? = some (.int 0)) (g_Z_count : Z[5]? = some (.int 0)) (g_Z_time : Z[6]? = some (.int 0)) : Met l yX11_pavement (WS yX11_pavement cX11_pavement 3 (some .int)) ({ frames := 4, cells := 0, slots := 0, locals := 101 }) (va_Pc [.ref h0] (cP D k [(h0, .inr (11, F)), (rd, .inr (7, Rd)), (sp, .inr (6, P2)), (sl2, .inl (k.2.1, 3, .inl g2)), (tk, .inr (9, K)), (tp, .inl (k.1, 1600, .inl g3)), (ln, .inr (3, N)), (fo, .inl (k.2.1, 3, .inl g4)), (ea, .inr (1, E)), (nw, .inl (k.2.1, 10, .inl f1)), (kp, .inl (k.2.1, 410, .inl f2)), (si, .inr (8, Z))] sz)) (va_Qi (fun (r : Int32) (_ : Unit) => r = 0) (fun (_ : Unit) t => cB D (va_A [(h0, .inr (11, F)), (rd, .inr (7, Rd)), (sp, .inr (6, P2)), (sl2, .inl (k.2.1, 3, .inl g2)), (tk, .inr (9, K)), (tp, .inl (k.1, 1600, .inl g3)), (ln, .inr (3, N)), (fo, .inl (k.2.1, 3, .inl g4)), (ea, .inr (1, E)), (nw, .inl (k.2.1, 10, .inl f1)), (kp, .inl (k.2.1, 410, .inl f2)), (si, .inr (8, Z))] sz) [] t) (va_A [(h0, .inr (11, F)), (rd, .inr (7, Rd)), (sp, .inr (6, P2)), (sl2, .inl (k.2.1, 3, .inl g2)), (tk, .inr (9, K)), (tp, .inl (k.1, 1600, .inl g3)), (ln, .inr (3, N)), (fo, .inl (k.2.1, 3, .inl g4)), (ea, .inr (1, E)), (nw, .inl (k.2.1, 10, .inl f1)), (kp, .inl (k.2.1, 410, .inl f2)), (si, .inr (8, Z))] sz)) 0 0 (va_A [(h0, .inr (11, F)), (rd, .inr (7, Rd)), (sp, .inr (6, P2)), (sl2, .inl (k.2.1, 3, .inl g2)), (tk, .inr (9, K)), (tp, .inl (k.1, 1600, .inl g3)), (ln, .inr (3, N)), (fo, .inl (k.2.1, 3, .inl g4)), (ea, .inr (1, E)), (nw, .inl (k.2.1, 10, .inl f1)), (kp, .inl (k.2.1, 410, .inl f2)), (si, .inr (8, Z))] sz) := by
  refine Met.ofW (cc := cX11_pavement) (maxL := 3) (ret := (some .int)) (by decide) rfl ?_
  intro p e s m args below meth c s₁ B hml hv
  obtain ⟨rfl, hsz, hP, hKX, hD0⟩ := hv
  have hK := hKX.1
  have hx := B.exec
  have hb := B.bytes
  have hr := B.returns
  have hts := atoms_spec (ws := WS yX11_pavement cX11_pavement 3 (some .int)) B.pre
  have hgd : ∀ w ∈ gd, w ∈ WS yX11_pavement cX11_pavement 3 (some .int) := fun w h => List.mem_cons_of_mem _ h
  have hg : ∀ w ∈ gd, w.before _ s = true := fun w h => hts w (hgd w h)
  have hown : s.vm.findClass RX11 = some m.cls := findClass_of_methodNamed B.named
  have hlocks := B.notSynchronized
  subst hsz
  have hD := hD0.self (sz := s.heap.size)
  generalize hAe : va_A [(h0, .inr (11, F)), (rd, .inr (7, Rd)), (sp, .inr (6, P2)), (sl2, .inl (k.2.1, 3, .inl g2)), (tk, .inr (9, K)), (tp, .inl (k.1, 1600, .inl g3)), (ln, .inr (3, N)), (fo, .inl (k.2.1, 3, .inl g4)), (ea, .inr (1, E)), (nw, .inl (k.2.1, 10, .inl f1)), (kp, .inl (k.2.1, 410, .inl f2)), (si, .inr (8, Z))] s.heap.size = A at hD ⊢
  have hA : ∀ q : Nat, s.heap.size ≤ q → A q := fun q h => by rw [← hAe]; exact Or.inr h
  have hS : va_S A s.heap s.heap [] := va_S.rf
  have hP : va_P D classes [(h0, .inr (11, F)), (rd, .inr (7, Rd)), (sp, .inr (6, P2)), (sl2, .inl (k.2.1, 3, .inl g2)), (tk, .inr (9, K)), (tp, .inl (k.1, 1600, .inl g3)), (ln, .inr (3, N)), (fo, .inl (k.2.1, 3, .inl g4)), (ea, .inr (1, E)), (nw, .inl (k.2.1, 10, .inl f1)), (kp, .inl (k.2.1, 410, .inl f2)), (si, .inr (8, Z))] s.heap := hP
  have hl := lv_entry ([.ref h0]) (n := 3) (Nat.le_of_ble_eq_true rfl)
  rw [lg_entry_eq]
  generalize (lg_sl ([.ref h0]) ++ List.replicate (3 - (lg_sl ([.ref h0])).length) Slot.unset).toArray = ls at hl ⊢
  have hl : lv_has ls 3 [(0, .ref h0)] := hl
  refine lv_aload_n hx hb dX11_pavement_0 rfl (lv_at hl 0 rfl) ?_
  refine va_get (D := D) (ci := 11) (v := .ref rd) (C := RX11) (T := TX11) (N := 13) hx hb hg iX11 hown hK hP 0 rfl rfl 3 (by decide) (hg (Cond.fieldLink RX11 28 "SlabWalk" "reader" "LSlabWalk$Reader;") m573) (fun _ h9 => h9) g_F_reader dX11_pavement_1 ?_
  refine lv_aload_n hx hb dX11_pavement_4 rfl (lv_at hl 0 rfl) ?_
  refine va_get (D := D) (ci := 11) (v := .int 0) (C := RX11) (T := TX11) (N := 13) hx hb hg iX11 hown hK hP 0 rfl rfl 11 (by decide) (hg (Cond.fieldLink RX11 83 "SlabWalk" "taped" "I") m581) (fun _ h9 => h9) g_F_taped dX11_pavement_5 ?_
  refine lv_aload_n hx hb dX11_pavement_8 rfl (lv_at hl 0 rfl) ?_
  refine va_get (D := D) (ci := 11) (v := .ref sp) (C := RX11) (T := TX11) (N := 13) hx hb hg iX11 hown hK hP 0 rfl rfl 1 (by decide) (hg (Cond.fieldLink RX11 16 "SlabWalk" "spare" "LSlabWalk$Paving;") m571) (fun _ h9 => h9) g_F_spare dX11_pavement_9 ?_
  have hPc := hP.sub (ws' := [(rd, .inr (7, Rd)), (sp, .inr (6, P2)), (sl2, .inl (k.2.1, 3, .inl g2)), (tk, .inr (9, K)), (tp, .inl (k.1, 1600, .inl g3))]) [1, 2, 3, 4, 5] rfl
  have hDc := hD.sub (ws' := [(rd, .inr (7, Rd)), (sp, .inr (6, P2)), (sl2, .inl (k.2.1, 3, .inl g2)), (tk, .inr (9, K)), (tp, .inl (k.1, 1600, .inl g3))]) [1, 2, 3, 4, 5] (by decide) rfl
  have hFc := va_free (wc := [(rd, .inr (7, Rd)), (sp, .inr (6, P2)), (sl2, .inl (k.2.1, 3, .inl g2)), (tk, .inr (9, K)), (tp, .inl (k.1, 1600, .inl g3))]) hD hS hA [1, 2, 3, 4, 5] rfl
  refine va_calli (va_runV (As := [.int 0, .ref sp]) (rest := []) ⟨hx, hb, hml, hown, hts⟩ (c_X7_read l D k s.heap.size rd sp tk sl2 tp Rd P2 K g2 g3 g_Rd_tokens g_Rd_paving g_Rd_slipTold g_Rd_handTold g_Rd_drawTold g_P2_walkers g_P2_rules g_P2_units g_P2_coded g_P2_hand g_P2_slack g_P2_draw g_P2_slip g_P2_streets g_K_text g_K_size g_K_at g_K_kind g_K_place g_K_fault g_K_faultPlace) (cwV 2 hts (gd_V hgd m626 m627 m628 m119 m629) rfl rfl rfl (by decide +kernel) ⟨Nat.le_of_ble_eq_true rfl, Nat.le_of_ble_eq_true rfl⟩) (cP_V hPc hKX hDc (ci := 7) (q0 := 0) rfl rfl) rfl rfl hl.1 rfl (lv_room (Nat.le_of_ble_eq_true rfl)) dX11_pavement_12 ⟨Nat.le_of_ble_eq_true rfl, Nat.le_of_ble_eq_true rfl⟩) hS (fun q _ h => hFc q h) hFc (fun r_1 u t H1 locs ht hvm hw hB hz1 hk1 hS => ?_)
  obtain ⟨z_2, g_3, g_4, hP1, hD1⟩ := hB
  rw [ht] at hP1
  obtain ⟨hP, hD⟩ := va_join (wr := [(h0, .inr (11, F)), (ln, .inr (3, N)), (fo, .inl (k.2.1, 3, .inl g4)), (ea, .inr (1, E)), (nw, .inl (k.2.1, 10, .inl f1)), (kp, .inl (k.2.1, 410, .inl f2)), (si, .inr (8, Z))]) (w1 := [(sp, .inr (6, z_2))]) hP hD [1, 2, 3, 4, 5] [0, 6, 7, 8, 9, 10, 11] rfl rfl (by decide) (by decide) hk1 hFc hP1 hD1
  generalize H1 = H at hP hS ⊢
  have hP : va_P D classes [(h0, .inr (11, F)), (ln, .inr (3, N)), (fo, .inl (k.2.1, 3, .inl g4)), (ea, .inr (1, E)), (nw, .inl (k.2.1, 10, .inl f1)), (kp, .inl (k.2.1, 410, .inl f2)), (si, .inr (8, Z)), (sp, .inr (6, z_2))] H := hP
  have hD : va_D A [(h0, .inr (11, F)), (ln, .inr (3, N)), (fo, .inl (k.2.1, 3, .inl g4)), (ea, .inr (1, E)), (nw, .inl (k.2.1, 10, .inl f1)), (kp, .inl (k.2.1, 410, .inl f2)), (si, .inr (8, Z)), (sp, .inr (6, z_2))] := hD
  refine W.widen (k := 0) (n := 0) (Nat.le_of_ble_eq_true rfl) (Nat.le_of_ble_eq_true rfl) ?_
  subst hw
  refine lv_istore_n (lv' := [(1, .int 1), (0, .ref h0)]) hx hb dX11_pavement_15 rfl hl (by decide) rfl (fun ls hl => ?_)
  refine lv_aload_n hx hb dX11_pavement_16 rfl (lv_at hl 1 rfl) ?_
  refine lv_iconst (v := 0) hx hb dX11_pavement_17 (by decide) ?_
  refine va_put (D := D) (ci := 11) (v := .int 0) (ty := .int) (C := RX11) (T := TX11) (N := 13) hx hb hg iX11 tyX11 tyX11_ok nmX11 hown hK hP hD hS 0 rfl rfl 11 (by decide) (hg (Cond.fieldLink RX11 83 "SlabWalk" "taped" "I") m581) (fun _ h9 => h9) rfl (by decide +kernel) rfl rfl (fs_lt g_F_taped) dX11_pavement_18 (fun H locs hP hD hS => ?_)
  have hP : va_P D classes [(h0, .inr (11, (F.set 11 (.int 0)))), (ln, .inr (3, N)), (fo, .inl (k.2.1, 3, .inl g4)), (ea, .inr (1, E)), (nw, .inl (k.2.1, 10, .inl f1)), (kp, .inl (k.2.1, 410, .inl f2)), (si, .inr (8, Z)), (sp, .inr (6, z_2))] H := hP
  have hD : va_D A [(h0, .inr (11, (F.set 11 (.int 0)))), (ln, .inr (3, N)), (fo, .inl (k.2.1, 3, .inl g4)), (ea, .inr (1, E)), (nw, .inl (k.2.1, 10, .inl f1)), (kp, .inl (k.2.1, 410, .inl f2)), (si, .inr (8, Z)), (sp, .inr (6, z_2))] := hD
  refine lv_iload_n hx hb dX11_pavement_21 rfl (lv_at hl 0 rfl) ?_
  refine lv_if_ne (tgt := 27) hx hb dX11_pavement_22 (by decide) (fun c_5 => ?_) (fun c_5 => ?_)
  · have c_5 : ¬ ((1 : Int32) = 0) := c_5
    refine lv_aload_n hx hb dX11_pavement_27 rfl (lv_at hl 1 rfl) ?_
    refine va_get (D := D) (ci := 11) (v := .ref sp) (C := RX11) (T := TX11) (N := 13) hx hb hg iX11 hown hK hP 0 rfl rfl 1 (by decide) (hg (Cond.fieldLink RX11 16 "SlabWalk" "spare" "LSlabWalk$Paving;") m571) (fun _ h9 => h9) (fs_ne g_F_spare (by decide)) dX11_pavement_28 ?_
    refine lv_astore_n (lv' := [(2, .ref sp), (1, .int 1), (0, .ref h0)]) hx hb dX11_pavement_31 rfl hl (by decide) rfl (fun ls hl => ?_)
    refine lv_aload_n hx hb dX11_pavement_32 rfl (lv_at hl 2 rfl) ?_
    refine lv_aload_n hx hb dX11_pavement_33 rfl (lv_at hl 2 rfl) ?_
    refine va_get (D := D) (ci := 11) (v := .ref pv) (C := RX11) (T := TX11) (N := 13) hx hb hg iX11 hown hK hP 0 rfl rfl 0 (by decide) (hg (Cond.fieldLink RX11 10 "SlabWalk" "paving" "LSlabWalk$Paving;") m570) (fun _ h9 => h9) (fs_ne g_F_paving (by decide)) dX11_pavement_34 ?_
    refine va_put (D := D) (ci := 11) (v := .ref pv) (ty := (.object "SlabWalk$Paving")) (C := RX11) (T := TX11) (N := 13) hx hb hg iX11 tyX11 tyX11_ok nmX11 hown hK hP hD hS 0 rfl rfl 1 (by decide) (hg (Cond.fieldLink RX11 16 "SlabWalk" "spare" "LSlabWalk$Paving;") m571) (fun _ h9 => h9) rfl (by decide +kernel) rfl rfl (fs_lt (fs_ne g_F_spare (by decide))) dX11_pavement_37 (fun H locs hP hD hS => ?_)
    have hP : va_P D classes [(h0, .inr (11, ((F.set 11 (.int 0)).set 1 (.ref pv)))), (ln, .inr (3, N)), (fo, .inl (k.2.1, 3, .inl g4)), (ea, .inr (1, E)), (nw, .inl (k.2.1, 10, .inl f1)), (kp, .inl (k.2.1, 410, .inl f2)), (si, .inr (8, Z)), (sp, .inr (6, z_2))] H := hP
    have hD : va_D A [(h0, .inr (11, ((F.set 11 (.int 0)).set 1 (.ref pv)))), (ln, .inr (3, N)), (fo, .inl (k.2.1, 3, .inl g4)), (ea, .inr (1, E)), (nw, .inl (k.2.1, 10, .inl f1)), (kp, .inl (k.2.1, 410, .inl f2)), (si, .inr (8, Z)), (sp, .inr (6, z_2))] := hD
    refine lv_aload_n hx hb dX11_pavement_40 rfl (lv_at hl 2 rfl) ?_
    refine lv_aload_n hx hb dX11_pavement_41 rfl (lv_at hl 0 rfl) ?_
    refine va_put (D := D) (ci := 11) (v := .ref sp) (ty := (.object "SlabWalk$Paving")) (C := RX11) (T := TX11) (N := 13) hx hb hg iX11 tyX11 tyX11_ok nmX11 hown hK hP hD hS 0 rfl rfl 0 (by decide) (hg (Cond.fieldLink RX11 10 "SlabWalk" "paving" "LSlabWalk$Paving;") m570) (fun _ h9 => h9) rfl (by decide +kernel) rfl rfl (fs_lt (fs_ne (fs_ne g_F_paving (by decide)) (by decide))) dX11_pavement_42 (fun H locs hP hD hS => ?_)
    have hP : va_P D classes [(h0, .inr (11, (((F.set 11 (.int 0)).set 1 (.ref pv)).set 0 (.ref sp)))), (ln, .inr (3, N)), (fo, .inl (k.2.1, 3, .inl g4)), (ea, .inr (1, E)), (nw, .inl (k.2.1, 10, .inl f1)), (kp, .inl (k.2.1, 410, .inl f2)), (si, .inr (8, Z)), (sp, .inr (6, z_2))] H := hP
    have hD : va_D A [(h0, .inr (11, (((F.set 11 (.int 0)).set 1 (.ref pv)).set 0 (.ref sp)))), (ln, .inr (3, N)), (fo, .inl (k.2.1, 3, .inl g4)), (ea, .inr (1, E)), (nw, .inl (k.2.1, 10, .inl f1)), (kp, .inl (k.2.1, 410, .inl f2)), (si, .inr (8, Z)), (sp, .inr (6, z_2))] := hD
    refine lv_aload_n hx hb dX11_pavement_45 rfl (lv_at hl 2 rfl) ?_
    have hPc := hP.sub (ws' := [(h0, .inr (11, (((F.set 11 (.int 0)).set 1 (.ref pv)).set 0 (.ref sp)))), (sp, .inr (6, z_2)), (ln, .inr (3, N)), (fo, .inl (k.2.1, 3, .inl g4)), (ea, .inr (1, E)), (nw, .inl (k.2.1, 10, .inl f1)), (kp, .inl (k.2.1, 410, .inl f2)), (si, .inr (8, Z))]) [0, 7, 1, 2, 3, 4, 5, 6] rfl
    have hDc := hD.sub (ws' := [(h0, .inr (11, (((F.set 11 (.int 0)).set 1 (.ref pv)).set 0 (.ref sp)))), (sp, .inr (6, z_2)), (ln, .inr (3, N)), (fo, .inl (k.2.1, 3, .inl g4)), (ea, .inr (1, E)), (nw, .inl (k.2.1, 10, .inl f1)), (kp, .inl (k.2.1, 410, .inl f2)), (si, .inr (8, Z))]) [0, 7, 1, 2, 3, 4, 5, 6] (by decide) rfl
    have hFc := va_free (wc := [(h0, .inr (11, (((F.set 11 (.int 0)).set 1 (.ref pv)).set 0 (.ref sp)))), (sp, .inr (6, z_2)), (ln, .inr (3, N)), (fo, .inl (k.2.1, 3, .inl g4)), (ea, .inr (1, E)), (nw, .inl (k.2.1, 10, .inl f1)), (kp, .inl (k.2.1, 410, .inl f2)), (si, .inr (8, Z))]) hD hS hA [0, 7, 1, 2, 3, 4, 5, 6] rfl
    refine va_callv (va_runV (As := []) (rest := []) ⟨hx, hb, hml, hown, hts⟩ (c_X11_startAnew l D k H.size h0 sp pv tp rd ln ea si fo pv nw kp bx (((F.set 11 (.int 0)).set 1 (.ref pv)).set 0 (.ref sp)) z_2 N E Z g4 f1 f2 0 0 0 0 0 0 0 (fs_eq (fs_ne (fs_ne g_F_paving (by decide)) (by decide))) (fs_ne (fs_eq (fs_ne g_F_spare (by decide))) (by decide)) (fs_ne (fs_ne (fs_eq g_F_taped) (by decide)) (by decide)) (fs_ne (fs_ne (fs_ne g_F_lie (by decide)) (by decide)) (by decide)) (fs_ne (fs_ne (fs_ne g_F_tape (by decide)) (by decide)) (by decide)) (fs_ne (fs_ne (fs_ne g_F_reader (by decide)) (by decide)) (by decide)) (fs_ne (fs_ne (fs_ne g_F_lines (by decide)) (by decide)) (by decide)) (fs_ne (fs_ne (fs_ne g_F_earnest (by decide)) (by decide)) (by decide)) (fs_ne (fs_ne (fs_ne g_F_sights (by decide)) (by decide)) (by decide)) g_3 g_N_foundOn g_N_paving g_E_now g_E_kept g_E_boxes g_E_full g_E_done g_E_undone g_Z_count g_Z_time) (cwV 0 hts (gd_V hgd m547 m549 m0 m117 m550) rfl rfl rfl (by decide +kernel) ⟨Nat.le_of_ble_eq_true rfl, Nat.le_of_ble_eq_true rfl⟩) (cP_V hPc hKX hDc (ci := 11) (q0 := 0) rfl rfl) rfl rfl hl.1 rfl (lv_room (Nat.le_of_ble_eq_true rfl)) dX11_pavement_46 ⟨Nat.le_of_ble_eq_true rfl, Nat.le_of_ble_eq_true rfl⟩) hS (fun q _ h => hFc q h) hFc (fun u t H1 locs ht hvm hw hB hz1 hk1 hS => ?_)
    obtain ⟨z_7, z_8, z_9, z_10, z_11, z_12, z_13, g_14, g_15, g_16, g_17, g_18, g_19, g_20, g_21, g_22, g_23, g_24, g_25, g_26, g_27, g_28, g_29, g_30, g_31, g_32, g_33, g_34, g_35, g_36, g_37, g_38, g_39, hP1, hD1⟩ := hB
    rw [ht] at hP1
    obtain ⟨hP, hD⟩ := va_join (wr := []) (w1 := [(h0, .inr (11, z_7)), (sp, .inr (6, z_2)), (ln, .inr (3, z_8)), (fo, .inl (k.2.1, 3, .inl z_9)), (ea, .inr (1, z_10)), (nw, .inl (k.2.1, 10, .inl z_11)), (kp, .inl (k.2.1, 410, .inl z_12)), (si, .inr (8, z_13))]) hP hD [0, 7, 1, 2, 3, 4, 5, 6] [] rfl rfl (by decide) (by decide) hk1 hFc hP1 hD1
    generalize H1 = H at hP hS ⊢
    have hP : va_P D classes [(h0, .inr (11, z_7)), (sp, .inr (6, z_2)), (ln, .inr (3, z_8)), (fo, .inl (k.2.1, 3, .inl z_9)), (ea, .inr (1, z_10)), (nw, .inl (k.2.1, 10, .inl z_11)), (kp, .inl (k.2.1, 410, .inl z_12)), (si, .inr (8, z_13))] H := hP
    have hD : va_D A [(h0, .inr (11, z_7)), (sp, .inr (6, z_2)), (ln, .inr (3, z_8)), (fo, .inl (k.2.1, 3, .inl z_9)), (ea, .inr (1, z_10)), (nw, .inl (k.2.1, 10, .inl z_11)), (kp, .inl (k.2.1, 410, .inl z_12)), (si, .inr (8, z_13))] := hD
    refine W.widen (k := 0) (n := 0) (Nat.le_of_ble_eq_true rfl) (Nat.le_of_ble_eq_true rfl) ?_
    refine lv_aload_n hx hb dX11_pavement_49 rfl (lv_at hl 2 rfl) ?_
    refine va_get (D := D) (ci := 11) (v := .ref sp) (C := RX11) (T := TX11) (N := 13) hx hb hg iX11 hown hK hP 0 rfl rfl 0 (by decide) (hg (Cond.fieldLink RX11 10 "SlabWalk" "paving" "LSlabWalk$Paving;") m570) (fun _ h9 => h9) g_14 dX11_pavement_50 ?_
    refine va_get (D := D) (ci := 6) (v := .int 0) (C := RX6) (T := TX6) (N := 17) hx hb hg iX6 hown hK hP 1 rfl rfl 9 (by decide) (hg (Cond.fieldLink RX11 95 "SlabWalk$Paving" "streets" "I") m187) (fun _ h9 => h9) g_4 dX11_pavement_53 ?_
    have hP9 := hP.sub (ws' := []) [] rfl
    have hD9 := hD.sub (ws' := []) [] (by decide) rfl
    exact W.iret (v := 0) hx hb hr (fun t ht hW => ⟨⟨0, (), rfl, rfl, cB_of ht hP9 hD9⟩, hS.F ht⟩) hS.2.2 dX11_pavement_56
  · exact absurd c_5 (by decide)
end
