theorem m55 : Cond.selects RX12 yX12_newName yX12_newName ∈ gd := gd_mem 55 (by decide +kernel) (by decide +kernel)
theorem m60 : Cond.selects RX12 yX12_told yX12_told ∈ gd := gd_mem 60 (by decide +kernel) (by decide +kernel)
theorem m63 : Cond.selects RX12 yX12_readSlab yX12_readSlab ∈ gd := gd_mem 63 (by decide +kernel) (by decide +kernel)
theorem m67 : Cond.selects RX12 yX12_takes yX12_takes ∈ gd := gd_mem 67 (by decide +kernel) (by decide +kernel)
theorem m69 : Cond.selects RX12 yX12_formula yX12_formula ∈ gd := gd_mem 69 (by decide +kernel) (by decide +kernel)
theorem m1344 : Cond.fieldLink RX12 60 "SlabWalkModel" "nFoot" "[I" ∈ gd := gd_mem 1344 (by decide +kernel) (by decide +kernel)
theorem m1345 : Cond.fieldLink RX12 63 "SlabWalkModel" "nLeast" "[I" ∈ gd := gd_mem 1345 (by decide +kernel) (by decide +kernel)
theorem m1346 : Cond.fieldLink RX12 66 "SlabWalkModel" "nMost" "[I" ∈ gd := gd_mem 1346 (by decide +kernel) (by decide +kernel)
theorem m1347 : Cond.fieldLink RX12 69 "SlabWalkModel" "nLeap" "[I" ∈ gd := gd_mem 1347 (by decide +kernel) (by decide +kernel)
theorem m1348 : Cond.fieldLink RX12 72 "SlabWalkModel" "nSlips" "[I" ∈ gd := gd_mem 1348 (by decide +kernel) (by decide +kernel)
theorem m1360 : Cond.fieldLink RX12 379 "SlabWalkModel" "nWalkers" "I" ∈ gd := gd_mem 1360 (by decide +kernel) (by decide +kernel)
theorem m1361 : Cond.fieldLink RX12 385 "SlabWalkModel" "nRules" "I" ∈ gd := gd_mem 1361 (by decide +kernel) (by decide +kernel)
theorem m1632 : Cond.methodLink RX12 369 yX12_newName ∈ gd := gd_mem 1632 (by decide +kernel) (by decide +kernel)
theorem m1634 : Cond.instanceMethod yX12_newName ∈ gd := gd_mem 1634 (by decide +kernel) (by decide +kernel)
theorem m1635 : Cond.code yX12_newName cX12_newName 4 none ∈ gd := gd_mem 1635 (by decide +kernel) (by decide +kernel)
theorem m1674 : Cond.methodLink RX12 372 yX12_told ∈ gd := gd_mem 1674 (by decide +kernel) (by decide +kernel)
theorem m1676 : Cond.instanceMethod yX12_told ∈ gd := gd_mem 1676 (by decide +kernel) (by decide +kernel)
theorem m1677 : Cond.code yX12_told cX12_told 5 (some .int) ∈ gd := gd_mem 1677 (by decide +kernel) (by decide +kernel)
theorem m1686 : Cond.methodLink RX12 376 yX12_readSlab ∈ gd := gd_mem 1686 (by decide +kernel) (by decide +kernel)
theorem m1688 : Cond.instanceMethod yX12_readSlab ∈ gd := gd_mem 1688 (by decide +kernel) (by decide +kernel)
theorem m1689 : Cond.code yX12_readSlab cX12_readSlab 8 none ∈ gd := gd_mem 1689 (by decide +kernel) (by decide +kernel)
theorem m1702 : Cond.methodLink RX12 382 yX12_takes ∈ gd := gd_mem 1702 (by decide +kernel) (by decide +kernel)
theorem m1704 : Cond.instanceMethod yX12_takes ∈ gd := gd_mem 1704 (by decide +kernel) (by decide +kernel)
theorem m1705 : Cond.code yX12_takes cX12_takes 4 (some .boolean) ∈ gd := gd_mem 1705 (by decide +kernel) (by decide +kernel)
theorem m1710 : Cond.methodLink RX12 388 yX12_formula ∈ gd := gd_mem 1710 (by decide +kernel) (by decide +kernel)
theorem m1712 : Cond.instanceMethod yX12_formula ∈ gd := gd_mem 1712 (by decide +kernel) (by decide +kernel)
theorem m1713 : Cond.code yX12_formula cX12_formula 4 none ∈ gd := gd_mem 1713 (by decide +kernel) (by decide +kernel)
theorem dX12_readRule_0 : decode cX12_readRule 0 = .ok (.aload_n 0, 1) := by decide +kernel
theorem dX12_readRule_1 : decode cX12_readRule 1 = .ok (.bipush 7, 2) := by decide +kernel
theorem dX12_readRule_3 : decode cX12_readRule 3 = .ok (.aload_n 0, 1) := by decide +kernel
theorem dX12_readRule_4 : decode cX12_readRule 4 = .ok (.getfield 385, 3) := by decide +kernel
theorem dX12_readRule_7 : decode cX12_readRule 7 = .ok (.invokevirtual 369, 3) := by decide +kernel
theorem dX12_readRule_10 : decode cX12_readRule 10 = .ok (.aload_n 0, 1) := by decide +kernel
theorem dX12_readRule_11 : decode cX12_readRule 11 = .ok (.getfield 218, 3) := by decide +kernel
theorem dX12_readRule_14 : decode cX12_readRule 14 = .ok (.ifCond .le 4, 3) := by decide +kernel
theorem dX12_readRule_17 : decode cX12_readRule 17 = .ok (.return_, 1) := by decide +kernel
theorem dX12_readRule_18 : decode cX12_readRule 18 = .ok (.aload_n 0, 1) := by decide +kernel
theorem dX12_readRule_19 : decode cX12_readRule 19 = .ok (.aload_n 0, 1) := by decide +kernel
theorem dX12_readRule_20 : decode cX12_readRule 20 = .ok (.getfield 385, 3) := by decide +kernel
theorem dX12_readRule_23 : decode cX12_readRule 23 = .ok (.invokevirtual 388, 3) := by decide +kernel
theorem dX12_readRule_26 : decode cX12_readRule 26 = .ok (.aload_n 0, 1) := by decide +kernel
theorem dX12_readRule_27 : decode cX12_readRule 27 = .ok (.getfield 218, 3) := by decide +kernel
theorem dX12_readRule_30 : decode cX12_readRule 30 = .ok (.ifCond .ne 13, 3) := by decide +kernel
theorem dX12_readRule_33 : decode cX12_readRule 33 = .ok (.aload_n 0, 1) := by decide +kernel
theorem dX12_readRule_34 : decode cX12_readRule 34 = .ok (.dup, 1) := by decide +kernel
theorem dX12_readRule_35 : decode cX12_readRule 35 = .ok (.getfield 385, 3) := by decide +kernel
theorem dX12_readRule_38 : decode cX12_readRule 38 = .ok (.iconst 1, 1) := by decide +kernel
theorem dX12_readRule_39 : decode cX12_readRule 39 = .ok (.iadd, 1) := by decide +kernel
theorem dX12_readRule_40 : decode cX12_readRule 40 = .ok (.putfield 385, 3) := by decide +kernel
theorem dX12_readRule_43 : decode cX12_readRule 43 = .ok (.return_, 1) := by decide +kernel
theorem dX12_readSlip_0 : decode cX12_readSlip 0 = .ok (.aload_n 0, 1) := by decide +kernel
theorem dX12_readSlip_1 : decode cX12_readSlip 1 = .ok (.invokevirtual 279, 3) := by decide +kernel
theorem dX12_readSlip_4 : decode cX12_readSlip 4 = .ok (.aload_n 0, 1) := by decide +kernel
theorem dX12_readSlip_5 : decode cX12_readSlip 5 = .ok (.getfield 72, 3) := by decide +kernel
theorem dX12_readSlip_8 : decode cX12_readSlip 8 = .ok (.iconst 0, 1) := by decide +kernel
theorem dX12_readSlip_9 : decode cX12_readSlip 9 = .ok (.aload_n 0, 1) := by decide +kernel
theorem dX12_readSlip_10 : decode cX12_readSlip 10 = .ok (.iconst 0, 1) := by decide +kernel
theorem dX12_readSlip_11 : decode cX12_readSlip 11 = .ok (.bipush 9, 2) := by decide +kernel
theorem dX12_readSlip_13 : decode cX12_readSlip 13 = .ok (.invokevirtual 289, 3) := by decide +kernel
theorem dX12_readSlip_16 : decode cX12_readSlip 16 = .ok (.iastore, 1) := by decide +kernel
theorem dX12_readSlip_17 : decode cX12_readSlip 17 = .ok (.aload_n 0, 1) := by decide +kernel
theorem dX12_readSlip_18 : decode cX12_readSlip 18 = .ok (.getfield 72, 3) := by decide +kernel
theorem dX12_readSlip_21 : decode cX12_readSlip 21 = .ok (.iconst 1, 1) := by decide +kernel
theorem dX12_readSlip_22 : decode cX12_readSlip 22 = .ok (.aload_n 0, 1) := by decide +kernel
theorem dX12_readSlip_23 : decode cX12_readSlip 23 = .ok (.iconst 0, 1) := by decide +kernel
theorem dX12_readSlip_24 : decode cX12_readSlip 24 = .ok (.bipush 9, 2) := by decide +kernel
theorem dX12_readSlip_26 : decode cX12_readSlip 26 = .ok (.invokevirtual 289, 3) := by decide +kernel
theorem dX12_readSlip_29 : decode cX12_readSlip 29 = .ok (.iastore, 1) := by decide +kernel
theorem dX12_readSlip_30 : decode cX12_readSlip 30 = .ok (.aload_n 0, 1) := by decide +kernel
theorem dX12_readSlip_31 : decode cX12_readSlip 31 = .ok (.getfield 72, 3) := by decide +kernel
theorem dX12_readSlip_34 : decode cX12_readSlip 34 = .ok (.iconst 2, 1) := by decide +kernel
theorem dX12_readSlip_35 : decode cX12_readSlip 35 = .ok (.aload_n 0, 1) := by decide +kernel
theorem dX12_readSlip_36 : decode cX12_readSlip 36 = .ok (.aload_n 0, 1) := by decide +kernel
theorem dX12_readSlip_37 : decode cX12_readSlip 37 = .ok (.getfield 72, 3) := by decide +kernel
theorem dX12_readSlip_40 : decode cX12_readSlip 40 = .ok (.iconst 0, 1) := by decide +kernel
theorem dX12_readSlip_41 : decode cX12_readSlip 41 = .ok (.iaload, 1) := by decide +kernel
theorem dX12_readSlip_42 : decode cX12_readSlip 42 = .ok (.aload_n 0, 1) := by decide +kernel
theorem dX12_readSlip_43 : decode cX12_readSlip 43 = .ok (.getfield 72, 3) := by decide +kernel
theorem dX12_readSlip_46 : decode cX12_readSlip 46 = .ok (.iconst 1, 1) := by decide +kernel
theorem dX12_readSlip_47 : decode cX12_readSlip 47 = .ok (.iaload, 1) := by decide +kernel
theorem dX12_readSlip_48 : decode cX12_readSlip 48 = .ok (.iadd, 1) := by decide +kernel
theorem dX12_readSlip_49 : decode cX12_readSlip 49 = .ok (.ifCond .ne 7, 3) := by decide +kernel
theorem dX12_readSlip_52 : decode cX12_readSlip 52 = .ok (.iconst 1, 1) := by decide +kernel
theorem dX12_readSlip_53 : decode cX12_readSlip 53 = .ok (.goto 4, 3) := by decide +kernel
theorem dX12_readSlip_56 : decode cX12_readSlip 56 = .ok (.iconst 0, 1) := by decide +kernel
theorem dX12_readSlip_57 : decode cX12_readSlip 57 = .ok (.bipush 9, 2) := by decide +kernel
theorem dX12_readSlip_59 : decode cX12_readSlip 59 = .ok (.invokevirtual 289, 3) := by decide +kernel
theorem dX12_readSlip_62 : decode cX12_readSlip 62 = .ok (.iastore, 1) := by decide +kernel
theorem dX12_readSlip_63 : decode cX12_readSlip 63 = .ok (.return_, 1) := by decide +kernel
theorem dX12_readStreet_0 : decode cX12_readStreet 0 = .ok (.aload_n 0, 1) := by decide +kernel
theorem dX12_readStreet_1 : decode cX12_readStreet 1 = .ok (.iconst 0, 1) := by decide +kernel
theorem dX12_readStreet_2 : decode cX12_readStreet 2 = .ok (.aload_n 0, 1) := by decide +kernel
theorem dX12_readStreet_3 : decode cX12_readStreet 3 = .ok (.getfield 359, 3) := by decide +kernel
theorem dX12_readStreet_6 : decode cX12_readStreet 6 = .ok (.invokevirtual 369, 3) := by decide +kernel
theorem dX12_readStreet_9 : decode cX12_readStreet 9 = .ok (.aload_n 0, 1) := by decide +kernel
theorem dX12_readStreet_10 : decode cX12_readStreet 10 = .ok (.ldc2_w 223, 3) := by decide +kernel
theorem dX12_readStreet_13 : decode cX12_readStreet 13 = .ok (.iconst 0, 1) := by decide +kernel
theorem dX12_readStreet_14 : decode cX12_readStreet 14 = .ok (.bipush 9, 2) := by decide +kernel
theorem dX12_readStreet_16 : decode cX12_readStreet 16 = .ok (.invokevirtual 372, 3) := by decide +kernel
theorem dX12_readStreet_19 : decode cX12_readStreet 19 = .ok (.istore_n 1, 1) := by decide +kernel
theorem dX12_readStreet_20 : decode cX12_readStreet 20 = .ok (.aload_n 0, 1) := by decide +kernel
theorem dX12_readStreet_21 : decode cX12_readStreet 21 = .ok (.getfield 218, 3) := by decide +kernel
theorem dX12_readStreet_24 : decode cX12_readStreet 24 = .ok (.ifCond .le 4, 3) := by decide +kernel
theorem dX12_readStreet_27 : decode cX12_readStreet 27 = .ok (.return_, 1) := by decide +kernel
theorem dX12_readStreet_28 : decode cX12_readStreet 28 = .ok (.aload_n 0, 1) := by decide +kernel
theorem dX12_readStreet_29 : decode cX12_readStreet 29 = .ok (.getfield 57, 3) := by decide +kernel
theorem dX12_readStreet_32 : decode cX12_readStreet 32 = .ok (.aload_n 0, 1) := by decide +kernel
theorem dX12_readStreet_33 : decode cX12_readStreet 33 = .ok (.getfield 359, 3) := by decide +kernel
theorem dX12_readStreet_36 : decode cX12_readStreet 36 = .ok (.iconst 0, 1) := by decide +kernel
theorem dX12_readStreet_37 : decode cX12_readStreet 37 = .ok (.iastore, 1) := by decide +kernel
theorem dX12_readStreet_38 : decode cX12_readStreet 38 = .ok (.iconst 0, 1) := by decide +kernel
theorem dX12_readStreet_39 : decode cX12_readStreet 39 = .ok (.istore_n 2, 1) := by decide +kernel
theorem dX12_readStreet_40 : decode cX12_readStreet 40 = .ok (.aload_n 0, 1) := by decide +kernel
theorem dX12_readStreet_41 : decode cX12_readStreet 41 = .ok (.getfield 218, 3) := by decide +kernel
theorem dX12_readStreet_44 : decode cX12_readStreet 44 = .ok (.ifCond .ne 27, 3) := by decide +kernel
theorem dX12_readStreet_47 : decode cX12_readStreet 47 = .ok (.iload_n 2, 1) := by decide +kernel
theorem dX12_readStreet_48 : decode cX12_readStreet 48 = .ok (.ifCond .eq 11, 3) := by decide +kernel
theorem dX12_readStreet_51 : decode cX12_readStreet 51 = .ok (.aload_n 0, 1) := by decide +kernel
theorem dX12_readStreet_52 : decode cX12_readStreet 52 = .ok (.getfield 205, 3) := by decide +kernel
theorem dX12_readStreet_55 : decode cX12_readStreet 55 = .ok (.iconst 2, 1) := by decide +kernel
theorem dX12_readStreet_56 : decode cX12_readStreet 56 = .ok (.if_icmp .ne 15, 3) := by decide +kernel
theorem dX12_readStreet_59 : decode cX12_readStreet 59 = .ok (.aload_n 0, 1) := by decide +kernel
theorem dX12_readStreet_60 : decode cX12_readStreet 60 = .ok (.iload_n 1, 1) := by decide +kernel
theorem dX12_readStreet_61 : decode cX12_readStreet 61 = .ok (.iload_n 2, 1) := by decide +kernel
theorem dX12_readStreet_62 : decode cX12_readStreet 62 = .ok (.invokevirtual 376, 3) := by decide +kernel
theorem dX12_readStreet_65 : decode cX12_readStreet 65 = .ok (.iinc 2 1, 3) := by decide +kernel
theorem dX12_readStreet_68 : decode cX12_readStreet 68 = .ok (.goto (-28), 3) := by decide +kernel
theorem dX12_readStreet_71 : decode cX12_readStreet 71 = .ok (.aload_n 0, 1) := by decide +kernel
theorem dX12_readStreet_72 : decode cX12_readStreet 72 = .ok (.getfield 218, 3) := by decide +kernel
theorem dX12_readStreet_75 : decode cX12_readStreet 75 = .ok (.ifCond .ne 13, 3) := by decide +kernel
theorem dX12_readStreet_78 : decode cX12_readStreet 78 = .ok (.aload_n 0, 1) := by decide +kernel
theorem dX12_readStreet_79 : decode cX12_readStreet 79 = .ok (.dup, 1) := by decide +kernel
theorem dX12_readStreet_80 : decode cX12_readStreet 80 = .ok (.getfield 359, 3) := by decide +kernel
theorem dX12_readStreet_83 : decode cX12_readStreet 83 = .ok (.iconst 1, 1) := by decide +kernel
theorem dX12_readStreet_84 : decode cX12_readStreet 84 = .ok (.iadd, 1) := by decide +kernel
theorem dX12_readStreet_85 : decode cX12_readStreet 85 = .ok (.putfield 359, 3) := by decide +kernel
theorem dX12_readStreet_88 : decode cX12_readStreet 88 = .ok (.return_, 1) := by decide +kernel
theorem dX12_readWalker_0 : decode cX12_readWalker 0 = .ok (.aload_n 0, 1) := by decide +kernel
theorem dX12_readWalker_1 : decode cX12_readWalker 1 = .ok (.iconst 3, 1) := by decide +kernel
theorem dX12_readWalker_2 : decode cX12_readWalker 2 = .ok (.aload_n 0, 1) := by decide +kernel
theorem dX12_readWalker_3 : decode cX12_readWalker 3 = .ok (.getfield 379, 3) := by decide +kernel
theorem dX12_readWalker_6 : decode cX12_readWalker 6 = .ok (.invokevirtual 369, 3) := by decide +kernel
theorem dX12_readWalker_9 : decode cX12_readWalker 9 = .ok (.aload_n 0, 1) := by decide +kernel
theorem dX12_readWalker_10 : decode cX12_readWalker 10 = .ok (.getfield 379, 3) := by decide +kernel
theorem dX12_readWalker_13 : decode cX12_readWalker 13 = .ok (.istore_n 1, 1) := by decide +kernel
theorem dX12_readWalker_14 : decode cX12_readWalker 14 = .ok (.aload_n 0, 1) := by decide +kernel
theorem dX12_readWalker_15 : decode cX12_readWalker 15 = .ok (.getfield 60, 3) := by decide +kernel
theorem dX12_readWalker_18 : decode cX12_readWalker 18 = .ok (.iload_n 1, 1) := by decide +kernel
theorem dX12_readWalker_19 : decode cX12_readWalker 19 = .ok (.aload_n 0, 1) := by decide +kernel
theorem dX12_readWalker_20 : decode cX12_readWalker 20 = .ok (.ldc2_w 227, 3) := by decide +kernel
theorem dX12_readWalker_23 : decode cX12_readWalker 23 = .ok (.iconst 1, 1) := by decide +kernel
theorem dX12_readWalker_24 : decode cX12_readWalker 24 = .ok (.bipush 12, 2) := by decide +kernel
theorem dX12_readWalker_26 : decode cX12_readWalker 26 = .ok (.invokevirtual 372, 3) := by decide +kernel
theorem dX12_readWalker_29 : decode cX12_readWalker 29 = .ok (.iastore, 1) := by decide +kernel
theorem dX12_readWalker_30 : decode cX12_readWalker 30 = .ok (.aload_n 0, 1) := by decide +kernel
theorem dX12_readWalker_31 : decode cX12_readWalker 31 = .ok (.getfield 63, 3) := by decide +kernel
theorem dX12_readWalker_34 : decode cX12_readWalker 34 = .ok (.iload_n 1, 1) := by decide +kernel
theorem dX12_readWalker_35 : decode cX12_readWalker 35 = .ok (.aload_n 0, 1) := by decide +kernel
theorem dX12_readWalker_36 : decode cX12_readWalker 36 = .ok (.ldc2_w 229, 3) := by decide +kernel
theorem dX12_readWalker_39 : decode cX12_readWalker 39 = .ok (.iconst 1, 1) := by decide +kernel
theorem dX12_readWalker_40 : decode cX12_readWalker 40 = .ok (.bipush 60, 2) := by decide +kernel
theorem dX12_readWalker_42 : decode cX12_readWalker 42 = .ok (.invokevirtual 372, 3) := by decide +kernel
theorem dX12_readWalker_45 : decode cX12_readWalker 45 = .ok (.iastore, 1) := by decide +kernel
theorem dX12_readWalker_46 : decode cX12_readWalker 46 = .ok (.aload_n 0, 1) := by decide +kernel
theorem dX12_readWalker_47 : decode cX12_readWalker 47 = .ok (.getfield 66, 3) := by decide +kernel
theorem dX12_readWalker_50 : decode cX12_readWalker 50 = .ok (.iload_n 1, 1) := by decide +kernel
theorem dX12_readWalker_51 : decode cX12_readWalker 51 = .ok (.aload_n 0, 1) := by decide +kernel
theorem dX12_readWalker_52 : decode cX12_readWalker 52 = .ok (.ldc2_w 231, 3) := by decide +kernel
theorem dX12_readWalker_55 : decode cX12_readWalker 55 = .ok (.aload_n 0, 1) := by decide +kernel
theorem dX12_readWalker_56 : decode cX12_readWalker 56 = .ok (.getfield 63, 3) := by decide +kernel
theorem dX12_readWalker_59 : decode cX12_readWalker 59 = .ok (.iload_n 1, 1) := by decide +kernel
theorem dX12_readWalker_60 : decode cX12_readWalker 60 = .ok (.iaload, 1) := by decide +kernel
theorem dX12_readWalker_61 : decode cX12_readWalker 61 = .ok (.bipush 60, 2) := by decide +kernel
theorem dX12_readWalker_63 : decode cX12_readWalker 63 = .ok (.invokevirtual 372, 3) := by decide +kernel
theorem dX12_readWalker_66 : decode cX12_readWalker 66 = .ok (.iastore, 1) := by decide +kernel
theorem dX12_readWalker_67 : decode cX12_readWalker 67 = .ok (.aload_n 0, 1) := by decide +kernel
theorem dX12_readWalker_68 : decode cX12_readWalker 68 = .ok (.getfield 69, 3) := by decide +kernel
theorem dX12_readWalker_71 : decode cX12_readWalker 71 = .ok (.iload_n 1, 1) := by decide +kernel
theorem dX12_readWalker_72 : decode cX12_readWalker 72 = .ok (.aload_n 0, 1) := by decide +kernel
theorem dX12_readWalker_73 : decode cX12_readWalker 73 = .ok (.getfield 66, 3) := by decide +kernel
theorem dX12_readWalker_76 : decode cX12_readWalker 76 = .ok (.iload_n 1, 1) := by decide +kernel
theorem dX12_readWalker_77 : decode cX12_readWalker 77 = .ok (.iaload, 1) := by decide +kernel
theorem dX12_readWalker_78 : decode cX12_readWalker 78 = .ok (.iastore, 1) := by decide +kernel
theorem dX12_readWalker_79 : decode cX12_readWalker 79 = .ok (.aload_n 0, 1) := by decide +kernel
theorem dX12_readWalker_80 : decode cX12_readWalker 80 = .ok (.ldc2_w 233, 3) := by decide +kernel
theorem dX12_readWalker_83 : decode cX12_readWalker 83 = .ok (.invokevirtual 382, 3) := by decide +kernel
theorem dX12_readWalker_86 : decode cX12_readWalker 86 = .ok (.ifCond .eq 23, 3) := by decide +kernel
theorem dX12_readWalker_89 : decode cX12_readWalker 89 = .ok (.aload_n 0, 1) := by decide +kernel
theorem dX12_readWalker_90 : decode cX12_readWalker 90 = .ok (.getfield 69, 3) := by decide +kernel
theorem dX12_readWalker_93 : decode cX12_readWalker 93 = .ok (.iload_n 1, 1) := by decide +kernel
theorem dX12_readWalker_94 : decode cX12_readWalker 94 = .ok (.aload_n 0, 1) := by decide +kernel
theorem dX12_readWalker_95 : decode cX12_readWalker 95 = .ok (.aload_n 0, 1) := by decide +kernel
theorem dX12_readWalker_96 : decode cX12_readWalker 96 = .ok (.getfield 66, 3) := by decide +kernel
theorem dX12_readWalker_99 : decode cX12_readWalker 99 = .ok (.iload_n 1, 1) := by decide +kernel
theorem dX12_readWalker_100 : decode cX12_readWalker 100 = .ok (.iaload, 1) := by decide +kernel
theorem dX12_readWalker_101 : decode cX12_readWalker 101 = .ok (.iconst 1, 1) := by decide +kernel
theorem dX12_readWalker_102 : decode cX12_readWalker 102 = .ok (.iadd, 1) := by decide +kernel
theorem dX12_readWalker_103 : decode cX12_readWalker 103 = .ok (.bipush 99, 2) := by decide +kernel
theorem dX12_readWalker_105 : decode cX12_readWalker 105 = .ok (.invokevirtual 289, 3) := by decide +kernel
theorem dX12_readWalker_108 : decode cX12_readWalker 108 = .ok (.iastore, 1) := by decide +kernel
theorem dX12_readWalker_109 : decode cX12_readWalker 109 = .ok (.aload_n 0, 1) := by decide +kernel
theorem dX12_readWalker_110 : decode cX12_readWalker 110 = .ok (.getfield 218, 3) := by decide +kernel
theorem dX12_readWalker_113 : decode cX12_readWalker 113 = .ok (.ifCond .ne 13, 3) := by decide +kernel
theorem dX12_readWalker_116 : decode cX12_readWalker 116 = .ok (.aload_n 0, 1) := by decide +kernel
theorem dX12_readWalker_117 : decode cX12_readWalker 117 = .ok (.dup, 1) := by decide +kernel
theorem dX12_readWalker_118 : decode cX12_readWalker 118 = .ok (.getfield 379, 3) := by decide +kernel
theorem dX12_readWalker_121 : decode cX12_readWalker 121 = .ok (.iconst 1, 1) := by decide +kernel
theorem dX12_readWalker_122 : decode cX12_readWalker 122 = .ok (.iadd, 1) := by decide +kernel
theorem dX12_readWalker_123 : decode cX12_readWalker 123 = .ok (.putfield 379, 3) := by decide +kernel
theorem dX12_readWalker_126 : decode cX12_readWalker 126 = .ok (.return_, 1) := by decide +kernel
set_option maxHeartbeats 4000000 in
set_option maxRecDepth 100000 in
theorem n_readStreet (l : Launch) (D : va_G) (k : KT) (A : Nat → Prop) (a : Nat → Nat) (z : SK) (G : GS)  (hnf : (G.1 66 2).toInt = 0) (hs : (G.1 66 45).toInt < 3) : Met l yX12_readStreet (WS yX12_readStreet cX12_readStreet 3 none) ({ frames := 4, cells := 0, slots := 0, locals := 93 }) (va_Pc [.ref (a 66)] (cW D k A a z G)) (va_Qv (fun (G1 : GS) => Bd G1 ∧ Fr [68, 77, 78, 79, 80, 81] [(66, 2), (66, 3), (66, 4), (66, 6), (66, 7), (66, 8), (66, 9), (66, 45)] G G1 ∧ ((G.1 66 4).toInt ≤ (G1.1 66 4).toInt ∧ ((G1.1 66 4).toInt = (G.1 66 4).toInt → (G1.1 66 6).toInt = (G.1 66 6).toInt ∨ (G1.1 66 6).toInt ≤ 3))) (fun (G1 : GS) t => Wd D k A a G1 t.heap) A) 0 0 A := by
  refine Met.ofW (cc := cX12_readStreet) (maxL := 3) (ret := none) (by decide) rfl ?_
  intro p e s m args below meth c s₁ B hml hv
  obtain ⟨rfl, hW, hB_G, hK, hZ⟩ := hv
  have hx := B.exec
  have hb := B.bytes
  have hr := B.returns
  have hts := atoms_spec (ws := WS yX12_readStreet cX12_readStreet 3 none) B.pre
  have hgd : ∀ w ∈ gd, w ∈ WS yX12_readStreet cX12_readStreet 3 none := fun w h => List.mem_cons_of_mem _ h
  have hg : ∀ w ∈ gd, w.before _ s = true := fun w h => hts w (hgd w h)
  have hown : s.vm.findClass RX12 = some m.cls := findClass_of_methodNamed B.named
  have hS : va_S A s.heap s.heap [] := va_S.rf
  have hF : Fr [68, 77, 78, 79, 80, 81] [(66, 2), (66, 3), (66, 4), (66, 6), (66, 7), (66, 8), (66, 9), (66, 45)] G G := Fr.rf
  have hl := lv_entry ([.ref (a 66)]) (n := 3) (Nat.le_of_ble_eq_true rfl)
  rw [lg_entry_eq]
  generalize (lg_sl ([.ref (a 66)]) ++ List.replicate (3 - (lg_sl ([.ref (a 66)])).length) Slot.unset).toArray = ls at hl ⊢
  have hl : lv_has ls 3 [(0, .ref (a 66))] := hl
  refine lv_aload_n hx hb dX12_readStreet_0 rfl (lv_at hl 0 rfl) ?_
  refine lv_iconst (v := 0) hx hb dX12_readStreet_1 (by decide) ?_
  refine lv_aload_n hx hb dX12_readStreet_2 rfl (lv_at hl 0 rfl) ?_
  have b_1 : 0 ≤ (G.1 66 45).toInt ∧ (G.1 66 45).toInt ≤ 3 := hB_G.i 66 45 rfl rfl
  refine S_getI (v := (G.1 66 45)) (C := RX12) (T := TX12) (N := 89) hx hb hg iX12 hown hK hW kd_66 rfl 45 (by decide) (hg (Cond.fieldLink RX12 359 "SlabWalkModel" "nStreets" "I") m1359) (fun _ h9 => h9) rfl rfl dX12_readStreet_3 ?_
  have qc_2 : (0 : Int32).toInt = 0 := rfl
  refine S_callv (va_runV (As := [.int 0, .int (G.1 66 45)]) (rest := []) ⟨hx, hb, hml, hown, hts⟩ (n_newName l D k A a z G 0 (G.1 66 45) ⟨by decide, by decide⟩ ⟨by omega, by omega⟩) (cwV 2 hts (gd_V hgd m1632 m1634 m55 m131 m1635) rfl rfl rfl (by decide +kernel) ⟨Nat.le_of_ble_eq_true rfl, Nat.le_of_ble_eq_true rfl⟩) (pre_V hW hB_G hK hZ hS kd_66 rfl) rfl rfl hl.1 rfl (lv_room (Nat.le_of_ble_eq_true rfl)) dX12_readStreet_6 ⟨Nat.le_of_ble_eq_true rfl, Nat.le_of_ble_eq_true rfl⟩) hS (fun G_4 H locs hpo hW hS => ?_)
  obtain ⟨hB_G_4, hq_5, hp_6⟩ := hpo
  have hF := hF.call hq_5 (by decide) (by decide)
  refine lv_aload_n hx hb dX12_readStreet_9 rfl (lv_at hl 0 rfl) ?_
  refine lv_ldc2 (v := 457135713908) hx hb hown (hg (Cond.constantLong RX12 223 457135713908) m1644) dX12_readStreet_10 ?_
  refine lv_iconst (v := 0) hx hb dX12_readStreet_13 (by decide) ?_
  refine lv_bipush (v := 9) hx hb dX12_readStreet_14 (by decide) ?_
  have qc_7 : (0 : Int32).toInt = 0 := rfl
  have qc_8 : (9 : Int32).toInt = 9 := rfl
  have b_9 : 0 ≤ (G_4.1 66 2).toInt ∧ (G_4.1 66 2).toInt ≤ 4 := hB_G_4.i 66 2 rfl rfl
  have b_10 : 0 ≤ (G_4.1 66 4).toInt ∧ (G_4.1 66 4).toInt ≤ 1600 := hB_G_4.i 66 4 rfl rfl
  refine S_calli (va_runV (As := [.long 457135713908, .int 0, .int 9]) (rest := []) ⟨hx, hb, hml, hown, hts⟩ (n_told2 l D k A a z G_4 457135713908 0 9 ) (cwV 3 hts (gd_V hgd m1674 m1676 m60 m131 m1677) rfl rfl rfl (by decide +kernel) ⟨Nat.le_of_ble_eq_true rfl, Nat.le_of_ble_eq_true rfl⟩) (pre_V hW hB_G_4 hK hZ hS kd_66 rfl) rfl rfl hl.1 rfl (lv_room (Nat.le_of_ble_eq_true rfl)) dX12_readStreet_16 ⟨Nat.le_of_ble_eq_true rfl, Nat.le_of_ble_eq_true rfl⟩) hS (fun r_11 G_12 H locs hpo hW hS => ?_)
  obtain ⟨hB_G_12, hq_13, hp_14⟩ := hpo
  have hF := hF.call hq_13 (by decide) (by decide)
  refine lv_istore_n (lv' := [(1, .int r_11), (0, .ref (a 66))]) hx hb dX12_readStreet_19 rfl hl (by decide) rfl (fun ls hl => ?_)
  refine lv_aload_n hx hb dX12_readStreet_20 rfl (lv_at hl 1 rfl) ?_
  have b_15 : 0 ≤ (G_12.1 66 2).toInt ∧ (G_12.1 66 2).toInt ≤ 4 := hB_G_12.i 66 2 rfl rfl
  refine S_getI (v := (G_12.1 66 2)) (C := RX12) (T := TX12) (N := 89) hx hb hg iX12 hown hK hW kd_66 rfl 2 (by decide) (hg (Cond.fieldLink RX12 218 "SlabWalkModel" "fault" "I") m1316) (fun _ h9 => h9) rfl rfl dX12_readStreet_21 ?_
  refine lv_if_le (tgt := 28) hx hb dX12_readStreet_24 (by decide) (fun c_16 => ?_) (fun c_16 => ?_)
  · have c_16 : (G_12.1 66 2).toInt ≤ 0 := xI_le rfl rfl c_16
    refine lv_aload_n hx hb dX12_readStreet_28 rfl (lv_at hl 1 rfl) ?_
    refine S_getR (n := 81) (C := RX12) (T := TX12) (N := 89) hx hb hg iX12 hown hK hW kd_66 rfl 29 (by decide) (hg (Cond.fieldLink RX12 57 "SlabWalkModel" "nLength" "[I") m1343) (fun _ h9 => h9) rfl dX12_readStreet_29 ?_
    refine lv_aload_n hx hb dX12_readStreet_32 rfl (lv_at hl 1 rfl) ?_
    refine S_getI (v := (G.1 66 45)) (C := RX12) (T := TX12) (N := 89) hx hb hg iX12 hown hK hW kd_66 rfl 45 (by decide) (hg (Cond.fieldLink RX12 359 "SlabWalkModel" "nStreets" "I") m1359) (fun _ h9 => h9) rfl ((hq_13.i 66 45 (by decide) (by decide)).trans ((hq_5.i 66 45 (by decide) (by decide)).trans (rfl))) dX12_readStreet_33 ?_
    refine lv_iconst (v := 0) hx hb dX12_readStreet_36 (by decide) ?_
    refine S_iast hx hb hK hW hS kd_81 (vin (by omega) (by omega)) dX12_readStreet_37 (fun G_17 H locs eG_17 hW hS => ?_)
    have hB_G_17 : Bd G_17 := hB_G_12.put (V := 0) (lo := 0) (hi := 400) eG_17 rfl rfl rfl (by omega) (by omega) (hB_G_12.2.put eG_17 rfl)
    have hF := hF.put eG_17 (Or.inl (by decide))
    refine lv_iconst (v := 0) hx hb dX12_readStreet_38 (by decide) ?_
    refine lv_istore_n (lv' := [(2, .int 0), (1, .int r_11), (0, .ref (a 66))]) hx hb dX12_readStreet_39 rfl hl (by decide) rfl (fun ls hl => ?_)
    have g_23 : (G_17.1 81 (G.1 66 45).toNatClampNeg).toInt = 0 := by rw [show G_17.1 81 (G.1 66 45).toNatClampNeg = 0 from (gp_eq eG_17)]; rfl
    have g_24 : (G_17.1 66 2).toInt = (G_12.1 66 2).toInt := by rw [show G_17.1 66 2 = (G_12.1 66 2) from ((gp_ne eG_17 (fun q => absurd q.1 (by decide))).trans (rfl))]
    have b_25 : 0 ≤ (G_12.1 66 4).toInt ∧ (G_12.1 66 4).toInt ≤ 1600 := hB_G_12.i 66 4 rfl rfl
    have g_26 : (G_17.1 66 4).toInt = (G_12.1 66 4).toInt := by rw [show G_17.1 66 4 = (G_12.1 66 4) from (gp_ne eG_17 (fun q => absurd q.1 (by decide)))]
    have g_27 : (G_17.1 66 6).toInt = (G_12.1 66 6).toInt := by rw [show G_17.1 66 6 = (G_12.1 66 6) from (gp_ne eG_17 (fun q => absurd q.1 (by decide)))]
    have g_28 : (G_17.1 81 (G.1 66 45).toNatClampNeg).toInt = 0 := by rw [show G_17.1 81 (G.1 66 45).toNatClampNeg = 0 from (gp_eq eG_17)]; rfl
    have qc_29 : (0 : Int32).toInt = 0 := rfl
    refine loop_N (Inv := fun n H locs ls => ∃ (G_18 : GS) (x_22 : Int32), (n : Int) = 5 * (400 - (G_18.1 81 (G.1 66 45).toNatClampNeg).toInt) + (4 - (G_18.1 66 2).toInt) ∧ ((G.1 66 4).toInt ≤ (G_18.1 66 4).toInt ∧ ((G_18.1 66 4).toInt = (G.1 66 4).toInt → (G_18.1 66 6).toInt = (G.1 66 6).toInt ∨ (G_18.1 66 6).toInt ≤ 3)) ∧ (0 ≤ (G_18.1 81 (G.1 66 45).toNatClampNeg).toInt ∧ (G_18.1 81 (G.1 66 45).toNatClampNeg).toInt ≤ 400) ∧ Wd D k A a G_18 H ∧ Bd G_18 ∧ Fr [68, 77, 78, 79, 80, 81] [(66, 2), (66, 3), (66, 4), (66, 6), (66, 7), (66, 8), (66, 9), (66, 45)] G G_18 ∧ Fr [77, 78, 79, 80, 81] [(66, 2), (66, 3), (66, 4), (66, 6), (66, 7), (66, 8), (66, 9)] G_17 G_18 ∧ va_S A s.heap H locs ∧ lv_has ls 3 [(2, .int x_22), (1, .int r_11), (0, .ref (a 66))]) (fun n_21 H locs ls ih_20 hI => ?_) (5 * (400 - (G_17.1 81 (G.1 66 45).toNatClampNeg).toInt) + (4 - (G_17.1 66 2).toInt) : Int).toNat ⟨G_17, 0, (Int.toNat_of_nonneg (by omega)), (by omega), (by omega), hW, hB_G_17, hF, Fr.rf, hS, lv_sub hl [0, 1, 2] rfl⟩
    obtain ⟨G_18, x_22, hn_32, f_30, f_31, hW, hB_G_18, hF, hq_19, hS, hl⟩ := hI
    have b_33 : 0 ≤ (G_18.1 66 4).toInt ∧ (G_18.1 66 4).toInt ≤ 1600 := hB_G_18.i 66 4 rfl rfl
    refine lv_aload_n hx hb dX12_readStreet_40 rfl (lv_at hl 2 rfl) ?_
    have b_34 : 0 ≤ (G_18.1 66 2).toInt ∧ (G_18.1 66 2).toInt ≤ 4 := hB_G_18.i 66 2 rfl rfl
    refine S_getI (v := (G_18.1 66 2)) (C := RX12) (T := TX12) (N := 89) hx hb hg iX12 hown hK hW kd_66 rfl 2 (by decide) (hg (Cond.fieldLink RX12 218 "SlabWalkModel" "fault" "I") m1316) (fun _ h9 => h9) rfl rfl dX12_readStreet_41 ?_
    refine lv_if_ne (tgt := 71) hx hb dX12_readStreet_44 (by decide) (fun c_35 => ?_) (fun c_35 => ?_)
    · have c_35 : (G_18.1 66 2).toInt ≠ 0 := xI_ne rfl rfl c_35
      refine lv_aload_n hx hb dX12_readStreet_71 rfl (lv_at hl 2 rfl) ?_
      refine S_getI (v := (G_18.1 66 2)) (C := RX12) (T := TX12) (N := 89) hx hb hg iX12 hown hK hW kd_66 rfl 2 (by decide) (hg (Cond.fieldLink RX12 218 "SlabWalkModel" "fault" "I") m1316) (fun _ h9 => h9) rfl rfl dX12_readStreet_72 ?_
      refine lv_if_ne (tgt := 88) hx hb dX12_readStreet_75 (by decide) (fun c_36 => ?_) (fun c_36 => ?_)
      · have c_36 : (G_18.1 66 2).toInt ≠ 0 := xI_ne rfl rfl c_36
        exact W.vret hx hb hr (fun t ht _ => ⟨⟨G_18, rfl, ⟨hB_G_18, hF, (by omega)⟩, wd_t ht hW⟩, hS.F ht⟩) hS.2.2 dX12_readStreet_88
      · have c_36 : (G_18.1 66 2).toInt = 0 := xI_eq rfl rfl c_36
        exfalso; omega
    · have c_35 : (G_18.1 66 2).toInt = 0 := xI_eq rfl rfl c_35
      refine lv_iload_n hx hb dX12_readStreet_47 rfl (lv_at hl 0 rfl) ?_
      refine lv_if_eq (tgt := 59) hx hb dX12_readStreet_48 (by decide) (fun c_37 => ?_) (fun c_37 => ?_)
      · have c_37 : x_22.toInt = 0 := xI_eq rfl rfl c_37
        refine lv_aload_n hx hb dX12_readStreet_59 rfl (lv_at hl 2 rfl) ?_
        refine lv_iload_n hx hb dX12_readStreet_60 rfl (lv_at hl 1 rfl) ?_
        refine lv_iload_n hx hb dX12_readStreet_61 rfl (lv_at hl 0 rfl) ?_
        have g_38 : (G_18.1 66 45).toInt = (G.1 66 45).toInt := by rw [show G_18.1 66 45 = (G.1 66 45) from ((hq_19.i 66 45 (by decide) (by decide)).trans ((gp_ne eG_17 (fun q => absurd q.1 (by decide))).trans ((hq_13.i 66 45 (by decide) (by decide)).trans ((hq_5.i 66 45 (by decide) (by decide)).trans (rfl)))))]
        refine S_callv (va_runV (As := [.int r_11, .int x_22]) (rest := []) ⟨hx, hb, hml, hown, hts⟩ (n_readSlab l D k A a z G_18 r_11 x_22 ((G.1 66 45).toNatClampNeg) (show (G_18.1 66 45).toNatClampNeg = (G.1 66 45).toNatClampNeg from congrArg Int32.toNatClampNeg (((hq_19.i 66 45 (by decide) (by decide)).trans ((gp_ne eG_17 (fun q => absurd q.1 (by decide))).trans ((hq_13.i 66 45 (by decide) (by decide)).trans ((hq_5.i 66 45 (by decide) (by decide)).trans (rfl))))))) ⟨by omega, by omega⟩ (by omega) (by omega)) (cwV 2 hts (gd_V hgd m1686 m1688 m63 m131 m1689) rfl rfl rfl (by decide +kernel) ⟨Nat.le_of_ble_eq_true rfl, Nat.le_of_ble_eq_true rfl⟩) (pre_V hW hB_G_18 hK hZ hS kd_66 rfl) rfl rfl hl.1 rfl (lv_room (Nat.le_of_ble_eq_true rfl)) dX12_readStreet_62 ⟨Nat.le_of_ble_eq_true rfl, Nat.le_of_ble_eq_true rfl⟩) hS (fun G_40 H locs hpo hW hS => ?_)
        obtain ⟨hB_G_40, hq_41, hp_42⟩ := hpo
        have hF := hF.call hq_41 (by decide) (by decide)
        obtain ⟨y_43, ey_43⟩ : ∃ q, q = x_22 + 1 := ⟨_, rfl⟩
        have ty_43 : y_43.toInt = x_22.toInt + 1 := xI_add rfl rfl ey_43 (by omega) (by omega)
        refine lv_iinc (v := y_43) (lv' := [(2, .int y_43), (1, .int r_11), (0, .ref (a 66))]) hx hb dX12_readStreet_65 hl (k := 0) rfl (by rw [ey_43]; rfl) (by decide) rfl (fun ls hl => ?_)
        refine lv_goto (tgt := 40) hx hb dX12_readStreet_68 (by decide) ?_
        have b_44 : 0 ≤ (G_40.1 66 2).toInt ∧ (G_40.1 66 2).toInt ≤ 4 := hB_G_40.i 66 2 rfl rfl
        have b_45 : 0 ≤ (G_40.1 66 4).toInt ∧ (G_40.1 66 4).toInt ≤ 1600 := hB_G_40.i 66 4 rfl rfl
        exact ih_20 (5 * (400 - (G_40.1 81 (G.1 66 45).toNatClampNeg).toInt) + (4 - (G_40.1 66 2).toInt) : Int).toNat (by omega) _ _ _ ⟨G_40, y_43, (Int.toNat_of_nonneg (by omega)), (by omega), (by omega), hW, hB_G_40, hF, ((Fr.rf.call hq_19 (by decide) (by decide)).call hq_41 (by decide) (by decide)), hS, lv_sub hl [0, 1, 2] rfl⟩
      · have c_37 : x_22.toInt ≠ 0 := xI_ne rfl rfl c_37
        refine lv_aload_n hx hb dX12_readStreet_51 rfl (lv_at hl 2 rfl) ?_
        refine S_getI (v := (G_18.1 66 6)) (C := RX12) (T := TX12) (N := 89) hx hb hg iX12 hown hK hW kd_66 rfl 6 (by decide) (hg (Cond.fieldLink RX12 205 "SlabWalkModel" "sort" "I") m1320) (fun _ h9 => h9) rfl rfl dX12_readStreet_52 ?_
        refine lv_iconst (v := 2) hx hb dX12_readStreet_55 (by decide) ?_
        refine lv_icmp_ne (tgt := 71) hx hb dX12_readStreet_56 (by decide) (fun c_46 => ?_) (fun c_46 => ?_)
        · have c_46 : (G_18.1 66 6).toInt ≠ 2 := xI_ne rfl rfl c_46
          refine lv_aload_n hx hb dX12_readStreet_71 rfl (lv_at hl 2 rfl) ?_
          refine S_getI (v := (G_18.1 66 2)) (C := RX12) (T := TX12) (N := 89) hx hb hg iX12 hown hK hW kd_66 rfl 2 (by decide) (hg (Cond.fieldLink RX12 218 "SlabWalkModel" "fault" "I") m1316) (fun _ h9 => h9) rfl rfl dX12_readStreet_72 ?_
          refine lv_if_ne (tgt := 88) hx hb dX12_readStreet_75 (by decide) (fun c_47 => ?_) (fun c_47 => ?_)
          · have c_47 : (G_18.1 66 2).toInt ≠ 0 := xI_ne rfl rfl c_47
            exfalso; omega
          · have c_47 : (G_18.1 66 2).toInt = 0 := xI_eq rfl rfl c_47
            refine lv_aload_n hx hb dX12_readStreet_78 rfl (lv_at hl 2 rfl) ?_
            refine lv_dup hx hb dX12_readStreet_79 rfl ?_
            refine S_getI (v := (G.1 66 45)) (C := RX12) (T := TX12) (N := 89) hx hb hg iX12 hown hK hW kd_66 rfl 45 (by decide) (hg (Cond.fieldLink RX12 359 "SlabWalkModel" "nStreets" "I") m1359) (fun _ h9 => h9) rfl ((hq_19.i 66 45 (by decide) (by decide)).trans ((gp_ne eG_17 (fun q => absurd q.1 (by decide))).trans ((hq_13.i 66 45 (by decide) (by decide)).trans ((hq_5.i 66 45 (by decide) (by decide)).trans (rfl))))) dX12_readStreet_80 ?_
            refine lv_iconst (v := 1) hx hb dX12_readStreet_83 (by decide) ?_
            refine lv_iadd hx hb dX12_readStreet_84 ?_
            refine lv_topi (fun y_48 ey_48 => ?_)
            have ty_48 : y_48.toInt = (G.1 66 45).toInt + 1 := xI_add rfl rfl ey_48 (by omega) (by omega)
            refine S_putI (ty := .int) (C := RX12) (T := TX12) (N := 89) hx hb hg iX12 tyX12 tyX12_ok nmX12 hown hK hW hS kd_66 rfl 45 (by decide) (hg (Cond.fieldLink RX12 359 "SlabWalkModel" "nStreets" "I") m1359) (fun _ h9 => h9) rfl (by decide +kernel) rfl rfl rfl dX12_readStreet_85 (fun G_49 H locs eG_49 hW hS => ?_)
            have hB_G_49 : Bd G_49 := hB_G_18.put (V := y_48.toInt) (lo := 0) (hi := 3) eG_49 rfl rfl rfl (by omega) (by omega) (hB_G_18.2.put eG_49 rfl)
            have hF := hF.put eG_49 (Or.inr (by decide))
            have g_50 : (G_49.1 66 4).toInt = (G_18.1 66 4).toInt := by rw [show G_49.1 66 4 = (G_18.1 66 4) from ((gp_ne eG_49 (by decide)).trans (rfl))]
            have g_51 : (G_49.1 66 6).toInt = (G_18.1 66 6).toInt := by rw [show G_49.1 66 6 = (G_18.1 66 6) from ((gp_ne eG_49 (by decide)).trans (rfl))]
            exact W.vret hx hb hr (fun t ht _ => ⟨⟨G_49, rfl, ⟨hB_G_49, hF, (by omega)⟩, wd_t ht hW⟩, hS.F ht⟩) hS.2.2 dX12_readStreet_88
        · have c_46 : (G_18.1 66 6).toInt = 2 := xI_eq rfl rfl c_46
          refine lv_aload_n hx hb dX12_readStreet_59 rfl (lv_at hl 2 rfl) ?_
          refine lv_iload_n hx hb dX12_readStreet_60 rfl (lv_at hl 1 rfl) ?_
          refine lv_iload_n hx hb dX12_readStreet_61 rfl (lv_at hl 0 rfl) ?_
          have g_52 : (G_18.1 66 45).toInt = (G.1 66 45).toInt := by rw [show G_18.1 66 45 = (G.1 66 45) from ((hq_19.i 66 45 (by decide) (by decide)).trans ((gp_ne eG_17 (fun q => absurd q.1 (by decide))).trans ((hq_13.i 66 45 (by decide) (by decide)).trans ((hq_5.i 66 45 (by decide) (by decide)).trans (rfl)))))]
          refine S_callv (va_runV (As := [.int r_11, .int x_22]) (rest := []) ⟨hx, hb, hml, hown, hts⟩ (n_readSlab l D k A a z G_18 r_11 x_22 ((G.1 66 45).toNatClampNeg) (show (G_18.1 66 45).toNatClampNeg = (G.1 66 45).toNatClampNeg from congrArg Int32.toNatClampNeg (((hq_19.i 66 45 (by decide) (by decide)).trans ((gp_ne eG_17 (fun q => absurd q.1 (by decide))).trans ((hq_13.i 66 45 (by decide) (by decide)).trans ((hq_5.i 66 45 (by decide) (by decide)).trans (rfl))))))) ⟨by omega, by omega⟩ (by omega) (by omega)) (cwV 2 hts (gd_V hgd m1686 m1688 m63 m131 m1689) rfl rfl rfl (by decide +kernel) ⟨Nat.le_of_ble_eq_true rfl, Nat.le_of_ble_eq_true rfl⟩) (pre_V hW hB_G_18 hK hZ hS kd_66 rfl) rfl rfl hl.1 rfl (lv_room (Nat.le_of_ble_eq_true rfl)) dX12_readStreet_62 ⟨Nat.le_of_ble_eq_true rfl, Nat.le_of_ble_eq_true rfl⟩) hS (fun G_54 H locs hpo hW hS => ?_)
          obtain ⟨hB_G_54, hq_55, hp_56⟩ := hpo
          have hF := hF.call hq_55 (by decide) (by decide)
          obtain ⟨y_57, ey_57⟩ : ∃ q, q = x_22 + 1 := ⟨_, rfl⟩
          refine lv_iinc (v := y_57) (lv' := [(2, .int y_57), (1, .int r_11), (0, .ref (a 66))]) hx hb dX12_readStreet_65 hl (k := 0) rfl (by rw [ey_57]; rfl) (by decide) rfl (fun ls hl => ?_)
          refine lv_goto (tgt := 40) hx hb dX12_readStreet_68 (by decide) ?_
          have b_58 : 0 ≤ (G_54.1 66 2).toInt ∧ (G_54.1 66 2).toInt ≤ 4 := hB_G_54.i 66 2 rfl rfl
          have b_59 : 0 ≤ (G_54.1 66 4).toInt ∧ (G_54.1 66 4).toInt ≤ 1600 := hB_G_54.i 66 4 rfl rfl
          exact ih_20 (5 * (400 - (G_54.1 81 (G.1 66 45).toNatClampNeg).toInt) + (4 - (G_54.1 66 2).toInt) : Int).toNat (by omega) _ _ _ ⟨G_54, y_57, (Int.toNat_of_nonneg (by omega)), (by omega), (by omega), hW, hB_G_54, hF, ((Fr.rf.call hq_19 (by decide) (by decide)).call hq_55 (by decide) (by decide)), hS, lv_sub hl [0, 1, 2] rfl⟩
  · have c_16 : 0 < (G_12.1 66 2).toInt := xI_nle rfl rfl c_16
    have b_60 : 0 ≤ (G_12.1 66 4).toInt ∧ (G_12.1 66 4).toInt ≤ 1600 := hB_G_12.i 66 4 rfl rfl
    exact W.vret hx hb hr (fun t ht _ => ⟨⟨G_12, rfl, ⟨hB_G_12, hF, (by omega)⟩, wd_t ht hW⟩, hS.F ht⟩) hS.2.2 dX12_readStreet_27

set_option maxHeartbeats 4000000 in
set_option maxRecDepth 100000 in
theorem n_readWalker (l : Launch) (D : va_G) (k : KT) (A : Nat → Prop) (a : Nat → Nat) (z : SK) (G : GS)  (hnf : (G.1 66 2).toInt = 0) (hw4 : (G.1 66 46).toInt < 4) (hN9 : gN G = 1) : Met l yX12_readWalker (WS yX12_readWalker cX12_readWalker 2 none) ({ frames := 4, cells := 0, slots := 0, locals := 90 }) (va_Pc [.ref (a 66)] (cW D k A a z G)) (va_Qv (fun (G1 : GS) => Bd G1 ∧ Fr [68, 82, 83, 84, 85] [(66, 2), (66, 3), (66, 4), (66, 6), (66, 7), (66, 8), (66, 9), (66, 46)] G G1 ∧ ((G.1 66 4).toInt ≤ (G1.1 66 4).toInt ∧ ((G1.1 66 4).toInt = (G.1 66 4).toInt → (G1.1 66 6).toInt = (G.1 66 6).toInt ∨ (G1.1 66 6).toInt ≤ 3) ∧ ((G1.1 66 2).toInt = 0 → gN G1 = 1))) (fun (G1 : GS) t => Wd D k A a G1 t.heap) A) 0 0 A := by
  refine Met.ofW (cc := cX12_readWalker) (maxL := 2) (ret := none) (by decide) rfl ?_
  intro p e s m args below meth c s₁ B hml hv
  obtain ⟨rfl, hW, hB_G, hK, hZ⟩ := hv
  have hx := B.exec
  have hb := B.bytes
  have hr := B.returns
  have hts := atoms_spec (ws := WS yX12_readWalker cX12_readWalker 2 none) B.pre
  have hgd : ∀ w ∈ gd, w ∈ WS yX12_readWalker cX12_readWalker 2 none := fun w h => List.mem_cons_of_mem _ h
  have hg : ∀ w ∈ gd, w.before _ s = true := fun w h => hts w (hgd w h)
  have hown : s.vm.findClass RX12 = some m.cls := findClass_of_methodNamed B.named
  have hS : va_S A s.heap s.heap [] := va_S.rf
  have hF : Fr [68, 82, 83, 84, 85] [(66, 2), (66, 3), (66, 4), (66, 6), (66, 7), (66, 8), (66, 9), (66, 46)] G G := Fr.rf
  have hl := lv_entry ([.ref (a 66)]) (n := 2) (Nat.le_of_ble_eq_true rfl)
  rw [lg_entry_eq]
  generalize (lg_sl ([.ref (a 66)]) ++ List.replicate (2 - (lg_sl ([.ref (a 66)])).length) Slot.unset).toArray = ls at hl ⊢
  have hl : lv_has ls 2 [(0, .ref (a 66))] := hl
  refine lv_aload_n hx hb dX12_readWalker_0 rfl (lv_at hl 0 rfl) ?_
  refine lv_iconst (v := 3) hx hb dX12_readWalker_1 (by decide) ?_
  refine lv_aload_n hx hb dX12_readWalker_2 rfl (lv_at hl 0 rfl) ?_
  have b_1 : 0 ≤ (G.1 66 46).toInt ∧ (G.1 66 46).toInt ≤ 4 := hB_G.i 66 46 rfl rfl
  refine S_getI (v := (G.1 66 46)) (C := RX12) (T := TX12) (N := 89) hx hb hg iX12 hown hK hW kd_66 rfl 46 (by decide) (hg (Cond.fieldLink RX12 379 "SlabWalkModel" "nWalkers" "I") m1360) (fun _ h9 => h9) rfl rfl dX12_readWalker_3 ?_
  have qc_2 : (3 : Int32).toInt = 3 := rfl
  refine S_callv (va_runV (As := [.int 3, .int (G.1 66 46)]) (rest := []) ⟨hx, hb, hml, hown, hts⟩ (n_newName l D k A a z G 3 (G.1 66 46) ⟨by decide, by decide⟩ ⟨by omega, by omega⟩) (cwV 2 hts (gd_V hgd m1632 m1634 m55 m131 m1635) rfl rfl rfl (by decide +kernel) ⟨Nat.le_of_ble_eq_true rfl, Nat.le_of_ble_eq_true rfl⟩) (pre_V hW hB_G hK hZ hS kd_66 rfl) rfl rfl hl.1 rfl (lv_room (Nat.le_of_ble_eq_true rfl)) dX12_readWalker_6 ⟨Nat.le_of_ble_eq_true rfl, Nat.le_of_ble_eq_true rfl⟩) hS (fun G_4 H locs hpo hW hS => ?_)
  obtain ⟨hB_G_4, hq_5, hp_6⟩ := hpo
  have hF := hF.call hq_5 (by decide) (by decide)
  refine lv_aload_n hx hb dX12_readWalker_9 rfl (lv_at hl 0 rfl) ?_
  refine S_getI (v := (G.1 66 46)) (C := RX12) (T := TX12) (N := 89) hx hb hg iX12 hown hK hW kd_66 rfl 46 (by decide) (hg (Cond.fieldLink RX12 379 "SlabWalkModel" "nWalkers" "I") m1360) (fun _ h9 => h9) rfl ((hq_5.i 66 46 (by decide) (by decide)).trans (rfl)) dX12_readWalker_10 ?_
  refine lv_istore_n (lv' := [(1, .int (G.1 66 46)), (0, .ref (a 66))]) hx hb dX12_readWalker_13 rfl hl (by decide) rfl (fun ls hl => ?_)
  refine lv_aload_n hx hb dX12_readWalker_14 rfl (lv_at hl 1 rfl) ?_
  refine S_getR (n := 82) (C := RX12) (T := TX12) (N := 89) hx hb hg iX12 hown hK hW kd_66 rfl 30 (by decide) (hg (Cond.fieldLink RX12 60 "SlabWalkModel" "nFoot" "[I") m1344) (fun _ h9 => h9) rfl dX12_readWalker_15 ?_
  refine lv_iload_n hx hb dX12_readWalker_18 rfl (lv_at hl 0 rfl) ?_
  refine lv_aload_n hx hb dX12_readWalker_19 rfl (lv_at hl 1 rfl) ?_
  refine lv_ldc2 (v := 1718579060) hx hb hown (hg (Cond.constantLong RX12 227 1718579060) m1646) dX12_readWalker_20 ?_
  refine lv_iconst (v := 1) hx hb dX12_readWalker_23 (by decide) ?_
  refine lv_bipush (v := 12) hx hb dX12_readWalker_24 (by decide) ?_
  have qc_7 : (1 : Int32).toInt = 1 := rfl
  have qc_8 : (12 : Int32).toInt = 12 := rfl
  have b_9 : 0 ≤ (G_4.1 66 2).toInt ∧ (G_4.1 66 2).toInt ≤ 4 := hB_G_4.i 66 2 rfl rfl
  have b_10 : 0 ≤ (G_4.1 66 4).toInt ∧ (G_4.1 66 4).toInt ≤ 1600 := hB_G_4.i 66 4 rfl rfl
  refine S_calli (va_runV (As := [.long 1718579060, .int 1, .int 12]) (rest := [.int (G.1 66 46), .ref (a 82)]) ⟨hx, hb, hml, hown, hts⟩ (n_told2 l D k A a z G_4 1718579060 1 12 ) (cwV 3 hts (gd_V hgd m1674 m1676 m60 m131 m1677) rfl rfl rfl (by decide +kernel) ⟨Nat.le_of_ble_eq_true rfl, Nat.le_of_ble_eq_true rfl⟩) (pre_V hW hB_G_4 hK hZ hS kd_66 rfl) rfl rfl hl.1 rfl (lv_room (Nat.le_of_ble_eq_true rfl)) dX12_readWalker_26 ⟨Nat.le_of_ble_eq_true rfl, Nat.le_of_ble_eq_true rfl⟩) hS (fun r_11 G_12 H locs hpo hW hS => ?_)
  obtain ⟨hB_G_12, hq_13, hp_14⟩ := hpo
  have hF := hF.call hq_13 (by decide) (by decide)
  refine S_iast hx hb hK hW hS kd_82 (vin (by omega) (by omega)) dX12_readWalker_29 (fun G_15 H locs eG_15 hW hS => ?_)
  have hB_G_15 : Bd G_15 := hB_G_12.put (lo := (-2147483648)) (hi := 2147483647) eG_15 rfl rfl rfl (tI_rng _).1 (tI_rng _).2 (hB_G_12.2.put eG_15 rfl)
  have hF := hF.put eG_15 (Or.inl (by decide))
  refine lv_aload_n hx hb dX12_readWalker_30 rfl (lv_at hl 1 rfl) ?_
  refine S_getR (n := 83) (C := RX12) (T := TX12) (N := 89) hx hb hg iX12 hown hK hW kd_66 rfl 31 (by decide) (hg (Cond.fieldLink RX12 63 "SlabWalkModel" "nLeast" "[I") m1345) (fun _ h9 => h9) rfl dX12_readWalker_31 ?_
  refine lv_iload_n hx hb dX12_readWalker_34 rfl (lv_at hl 0 rfl) ?_
  refine lv_aload_n hx hb dX12_readWalker_35 rfl (lv_at hl 1 rfl) ?_
  refine lv_ldc2 (v := 1937007984) hx hb hown (hg (Cond.constantLong RX12 229 1937007984) m1647) dX12_readWalker_36 ?_
  refine lv_iconst (v := 1) hx hb dX12_readWalker_39 (by decide) ?_
  refine lv_bipush (v := 60) hx hb dX12_readWalker_40 (by decide) ?_
  have qc_16 : (1 : Int32).toInt = 1 := rfl
  have qc_17 : (60 : Int32).toInt = 60 := rfl
  have b_18 : 0 ≤ (G_12.1 66 2).toInt ∧ (G_12.1 66 2).toInt ≤ 4 := hB_G_12.i 66 2 rfl rfl
  have g_19 : (G_15.1 66 2).toInt = (G_12.1 66 2).toInt := by rw [show G_15.1 66 2 = (G_12.1 66 2) from (gp_ne eG_15 (fun q => absurd q.1 (by decide)))]
  have b_20 : 0 ≤ (G_12.1 66 4).toInt ∧ (G_12.1 66 4).toInt ≤ 1600 := hB_G_12.i 66 4 rfl rfl
  have g_21 : (G_15.1 66 4).toInt = (G_12.1 66 4).toInt := by rw [show G_15.1 66 4 = (G_12.1 66 4) from (gp_ne eG_15 (fun q => absurd q.1 (by decide)))]
  have g_22 : (G_15.1 66 6).toInt = (G_12.1 66 6).toInt := by rw [show G_15.1 66 6 = (G_12.1 66 6) from (gp_ne eG_15 (fun q => absurd q.1 (by decide)))]
  refine S_calli (va_runV (As := [.long 1937007984, .int 1, .int 60]) (rest := [.int (G.1 66 46), .ref (a 83)]) ⟨hx, hb, hml, hown, hts⟩ (n_told2 l D k A a z G_15 1937007984 1 60 ) (cwV 3 hts (gd_V hgd m1674 m1676 m60 m131 m1677) rfl rfl rfl (by decide +kernel) ⟨Nat.le_of_ble_eq_true rfl, Nat.le_of_ble_eq_true rfl⟩) (pre_V hW hB_G_15 hK hZ hS kd_66 rfl) rfl rfl hl.1 rfl (lv_room (Nat.le_of_ble_eq_true rfl)) dX12_readWalker_42 ⟨Nat.le_of_ble_eq_true rfl, Nat.le_of_ble_eq_true rfl⟩) hS (fun r_23 G_24 H locs hpo hW hS => ?_)
  obtain ⟨hB_G_24, hq_25, hp_26⟩ := hpo
  have hF := hF.call hq_25 (by decide) (by decide)
  refine S_iast hx hb hK hW hS kd_83 (vin (by omega) (by omega)) dX12_readWalker_45 (fun G_27 H locs eG_27 hW hS => ?_)
  have hB_G_27 : Bd G_27 := hB_G_24.put (lo := (-2147483648)) (hi := 2147483647) eG_27 rfl rfl rfl (tI_rng _).1 (tI_rng _).2 (hB_G_24.2.put eG_27 rfl)
  have hF := hF.put eG_27 (Or.inl (by decide))
  refine lv_aload_n hx hb dX12_readWalker_46 rfl (lv_at hl 1 rfl) ?_
  refine S_getR (n := 84) (C := RX12) (T := TX12) (N := 89) hx hb hg iX12 hown hK hW kd_66 rfl 32 (by decide) (hg (Cond.fieldLink RX12 66 "SlabWalkModel" "nMost" "[I") m1346) (fun _ h9 => h9) rfl dX12_readWalker_47 ?_
  refine lv_iload_n hx hb dX12_readWalker_50 rfl (lv_at hl 0 rfl) ?_
  refine lv_aload_n hx hb dX12_readWalker_51 rfl (lv_at hl 1 rfl) ?_
  refine lv_ldc2 (v := 29807) hx hb hown (hg (Cond.constantLong RX12 231 29807) m1648) dX12_readWalker_52 ?_
  refine lv_aload_n hx hb dX12_readWalker_55 rfl (lv_at hl 1 rfl) ?_
  refine S_getR (n := 83) (C := RX12) (T := TX12) (N := 89) hx hb hg iX12 hown hK hW kd_66 rfl 31 (by decide) (hg (Cond.fieldLink RX12 63 "SlabWalkModel" "nLeast" "[I") m1345) (fun _ h9 => h9) rfl dX12_readWalker_56 ?_
  refine lv_iload_n hx hb dX12_readWalker_59 rfl (lv_at hl 0 rfl) ?_
  refine S_iald hx hb hK hW kd_83 (vin (by omega) (by omega)) dX12_readWalker_60 (fun y_28 ey_28 => ?_)
  have u_29 : y_28.toInt = r_23.toInt := congrArg Int32.toInt (ey_28.trans ((gp_eq eG_27)))
  refine lv_bipush (v := 60) hx hb dX12_readWalker_61 (by decide) ?_
  have qc_30 : (60 : Int32).toInt = 60 := rfl
  have b_31 : 0 ≤ (G_24.1 66 2).toInt ∧ (G_24.1 66 2).toInt ≤ 4 := hB_G_24.i 66 2 rfl rfl
  have g_32 : (G_27.1 66 2).toInt = (G_24.1 66 2).toInt := by rw [show G_27.1 66 2 = (G_24.1 66 2) from (gp_ne eG_27 (fun q => absurd q.1 (by decide)))]
  have b_33 : 0 ≤ (G_24.1 66 4).toInt ∧ (G_24.1 66 4).toInt ≤ 1600 := hB_G_24.i 66 4 rfl rfl
  have g_34 : (G_27.1 66 4).toInt = (G_24.1 66 4).toInt := by rw [show G_27.1 66 4 = (G_24.1 66 4) from (gp_ne eG_27 (fun q => absurd q.1 (by decide)))]
  have g_35 : (G_27.1 66 6).toInt = (G_24.1 66 6).toInt := by rw [show G_27.1 66 6 = (G_24.1 66 6) from (gp_ne eG_27 (fun q => absurd q.1 (by decide)))]
  refine S_calli (va_runV (As := [.long 29807, .int y_28, .int 60]) (rest := [.int (G.1 66 46), .ref (a 84)]) ⟨hx, hb, hml, hown, hts⟩ (n_told2 l D k A a z G_27 29807 y_28 60 ) (cwV 3 hts (gd_V hgd m1674 m1676 m60 m131 m1677) rfl rfl rfl (by decide +kernel) ⟨Nat.le_of_ble_eq_true rfl, Nat.le_of_ble_eq_true rfl⟩) (pre_V hW hB_G_27 hK hZ hS kd_66 rfl) rfl rfl hl.1 rfl (lv_room (Nat.le_of_ble_eq_true rfl)) dX12_readWalker_63 ⟨Nat.le_of_ble_eq_true rfl, Nat.le_of_ble_eq_true rfl⟩) hS (fun r_36 G_37 H locs hpo hW hS => ?_)
  obtain ⟨hB_G_37, hq_38, hp_39⟩ := hpo
  have hF := hF.call hq_38 (by decide) (by decide)
  refine S_iast hx hb hK hW hS kd_84 (vin (by omega) (by omega)) dX12_readWalker_66 (fun G_40 H locs eG_40 hW hS => ?_)
  have hB_G_40 : Bd G_40 := hB_G_37.put (lo := (-2147483648)) (hi := 2147483647) eG_40 rfl rfl rfl (tI_rng _).1 (tI_rng _).2 (hB_G_37.2.put eG_40 rfl)
  have hF := hF.put eG_40 (Or.inl (by decide))
  refine lv_aload_n hx hb dX12_readWalker_67 rfl (lv_at hl 1 rfl) ?_
  refine S_getR (n := 85) (C := RX12) (T := TX12) (N := 89) hx hb hg iX12 hown hK hW kd_66 rfl 33 (by decide) (hg (Cond.fieldLink RX12 69 "SlabWalkModel" "nLeap" "[I") m1347) (fun _ h9 => h9) rfl dX12_readWalker_68 ?_
  refine lv_iload_n hx hb dX12_readWalker_71 rfl (lv_at hl 0 rfl) ?_
  refine lv_aload_n hx hb dX12_readWalker_72 rfl (lv_at hl 1 rfl) ?_
  refine S_getR (n := 84) (C := RX12) (T := TX12) (N := 89) hx hb hg iX12 hown hK hW kd_66 rfl 32 (by decide) (hg (Cond.fieldLink RX12 66 "SlabWalkModel" "nMost" "[I") m1346) (fun _ h9 => h9) rfl dX12_readWalker_73 ?_
  refine lv_iload_n hx hb dX12_readWalker_76 rfl (lv_at hl 0 rfl) ?_
  refine S_iald hx hb hK hW kd_84 (vin (by omega) (by omega)) dX12_readWalker_77 (fun y_41 ey_41 => ?_)
  have u_42 : y_41.toInt = r_36.toInt := congrArg Int32.toInt (ey_41.trans ((gp_eq eG_40)))
  refine S_iast hx hb hK hW hS kd_85 (vin (by omega) (by omega)) dX12_readWalker_78 (fun G_43 H locs eG_43 hW hS => ?_)
  have hB_G_43 : Bd G_43 := hB_G_40.put (lo := (-2147483648)) (hi := 2147483647) eG_43 rfl rfl rfl (tI_rng _).1 (tI_rng _).2 (hB_G_40.2.put eG_43 rfl)
  have hF := hF.put eG_43 (Or.inl (by decide))
  refine lv_aload_n hx hb dX12_readWalker_79 rfl (lv_at hl 1 rfl) ?_
  refine lv_ldc2 (v := 1818583408) hx hb hown (hg (Cond.constantLong RX12 233 1818583408) m1649) dX12_readWalker_80 ?_
  have b_44 : 0 ≤ (G_37.1 66 4).toInt ∧ (G_37.1 66 4).toInt ≤ 1600 := hB_G_37.i 66 4 rfl rfl
  have g_45 : (G_43.1 66 4).toInt = (G_37.1 66 4).toInt := by rw [show G_43.1 66 4 = (G_37.1 66 4) from ((gp_ne eG_43 (fun q => absurd q.1 (by decide))).trans (gp_ne eG_40 (fun q => absurd q.1 (by decide))))]
  have g_46 : (G_43.1 66 6).toInt = (G_37.1 66 6).toInt := by rw [show G_43.1 66 6 = (G_37.1 66 6) from ((gp_ne eG_43 (fun q => absurd q.1 (by decide))).trans (gp_ne eG_40 (fun q => absurd q.1 (by decide))))]
  refine S_calli (va_runV (As := [.long 1818583408]) (rest := []) ⟨hx, hb, hml, hown, hts⟩ (n_takes l D k A a z G_43 1818583408 ) (cwV 1 hts (gd_V hgd m1702 m1704 m67 m131 m1705) rfl rfl rfl (by decide +kernel) ⟨Nat.le_of_ble_eq_true rfl, Nat.le_of_ble_eq_true rfl⟩) (pre_V hW hB_G_43 hK hZ hS kd_66 rfl) rfl rfl hl.1 rfl (lv_room (Nat.le_of_ble_eq_true rfl)) dX12_readWalker_83 ⟨Nat.le_of_ble_eq_true rfl, Nat.le_of_ble_eq_true rfl⟩) hS (fun r_47 G_48 H locs hpo hW hS => ?_)
  obtain ⟨hB_G_48, hq_49, f_51, hp_50⟩ := hpo
  have hF := hF.call hq_49 (by decide) (by decide)
  refine lv_if_eq (tgt := 109) hx hb dX12_readWalker_86 (by decide) (fun c_52 => ?_) (fun c_52 => ?_)
  · have c_52 : r_47.toInt = 0 := xI_eq rfl rfl c_52
    refine lv_aload_n hx hb dX12_readWalker_109 rfl (lv_at hl 1 rfl) ?_
    have b_53 : 0 ≤ (G_37.1 66 2).toInt ∧ (G_37.1 66 2).toInt ≤ 4 := hB_G_37.i 66 2 rfl rfl
    refine S_getI (v := (G_37.1 66 2)) (C := RX12) (T := TX12) (N := 89) hx hb hg iX12 hown hK hW kd_66 rfl 2 (by decide) (hg (Cond.fieldLink RX12 218 "SlabWalkModel" "fault" "I") m1316) (fun _ h9 => h9) rfl ((hq_49.i 66 2 (by decide) (by decide)).trans ((gp_ne eG_43 (fun q => absurd q.1 (by decide))).trans (gp_ne eG_40 (fun q => absurd q.1 (by decide))))) dX12_readWalker_110 ?_
    refine lv_if_ne (tgt := 126) hx hb dX12_readWalker_113 (by decide) (fun c_54 => ?_) (fun c_54 => ?_)
    · have c_54 : (G_37.1 66 2).toInt ≠ 0 := xI_ne rfl rfl c_54
      have g_55 : gN G_48 = gN G_43 := gN_fr (rs := []) (fs := [(66, 4), (66, 6), (66, 7), (66, 8), (66, 9)]) (Fr.rf.call hq_49 (by decide) (by decide)) (by decide) (by decide)
      have g_56 : (G_48.1 66 2).toInt = (G_37.1 66 2).toInt := by rw [show G_48.1 66 2 = (G_37.1 66 2) from ((hq_49.i 66 2 (by decide) (by decide)).trans ((gp_ne eG_43 (fun q => absurd q.1 (by decide))).trans ((gp_ne eG_40 (fun q => absurd q.1 (by decide))).trans (rfl))))]
      have b_57 : 0 ≤ (G_48.1 66 4).toInt ∧ (G_48.1 66 4).toInt ≤ 1600 := hB_G_48.i 66 4 rfl rfl
      exact W.vret hx hb hr (fun t ht _ => ⟨⟨G_48, rfl, ⟨hB_G_48, hF, (by omega)⟩, wd_t ht hW⟩, hS.F ht⟩) hS.2.2 dX12_readWalker_126
    · have c_54 : (G_37.1 66 2).toInt = 0 := xI_eq rfl rfl c_54
      refine lv_aload_n hx hb dX12_readWalker_116 rfl (lv_at hl 1 rfl) ?_
      refine lv_dup hx hb dX12_readWalker_117 rfl ?_
      refine S_getI (v := (G.1 66 46)) (C := RX12) (T := TX12) (N := 89) hx hb hg iX12 hown hK hW kd_66 rfl 46 (by decide) (hg (Cond.fieldLink RX12 379 "SlabWalkModel" "nWalkers" "I") m1360) (fun _ h9 => h9) rfl ((hq_49.i 66 46 (by decide) (by decide)).trans ((gp_ne eG_43 (fun q => absurd q.1 (by decide))).trans ((gp_ne eG_40 (fun q => absurd q.1 (by decide))).trans ((hq_38.i 66 46 (by decide) (by decide)).trans ((gp_ne eG_27 (fun q => absurd q.1 (by decide))).trans ((hq_25.i 66 46 (by decide) (by decide)).trans ((gp_ne eG_15 (fun q => absurd q.1 (by decide))).trans ((hq_13.i 66 46 (by decide) (by decide)).trans ((hq_5.i 66 46 (by decide) (by decide)).trans (rfl)))))))))) dX12_readWalker_118 ?_
      refine lv_iconst (v := 1) hx hb dX12_readWalker_121 (by decide) ?_
      refine lv_iadd hx hb dX12_readWalker_122 ?_
      refine lv_topi (fun y_58 ey_58 => ?_)
      have ty_58 : y_58.toInt = (G.1 66 46).toInt + 1 := xI_add rfl rfl ey_58 (by omega) (by omega)
      refine S_putI (ty := .int) (C := RX12) (T := TX12) (N := 89) hx hb hg iX12 tyX12 tyX12_ok nmX12 hown hK hW hS kd_66 rfl 46 (by decide) (hg (Cond.fieldLink RX12 379 "SlabWalkModel" "nWalkers" "I") m1360) (fun _ h9 => h9) rfl (by decide +kernel) rfl rfl rfl dX12_readWalker_123 (fun G_59 H locs eG_59 hW hS => ?_)
      have hB_G_59 : Bd G_59 := hB_G_48.put (V := y_58.toInt) (lo := 0) (hi := 4) eG_59 rfl rfl rfl (by omega) (by omega) (hB_G_48.2.put eG_59 rfl)
      have hF := hF.put eG_59 (Or.inr (by decide))
      have u_60 : gN G_59 = 1 := walk_gh (G := G) (x := (G.1 66 46)) hN9 (by omega) (by omega) (gp_eq eG_59) (by omega) (fun j hj => ((gp_ne eG_59 (fun q => absurd q.1 (by decide))).trans ((hq_49.ri 82 (by decide) (by decide) j).trans ((gp_ne eG_43 (fun q => absurd q.1 (by decide))).trans ((gp_ne eG_40 (fun q => absurd q.1 (by decide))).trans ((hq_38.ri 82 (by decide) (by decide) j).trans ((gp_ne eG_27 (fun q => absurd q.1 (by decide))).trans ((hq_25.ri 82 (by decide) (by decide) j).trans ((gp_ne eG_15 (fun q => hj q.2)).trans ((hq_13.ri 82 (by decide) (by decide) j).trans (hq_5.ri 82 (by decide) (by decide) j))))))))))) (fun j hj => ((gp_ne eG_59 (fun q => absurd q.1 (by decide))).trans ((hq_49.ri 83 (by decide) (by decide) j).trans ((gp_ne eG_43 (fun q => absurd q.1 (by decide))).trans ((gp_ne eG_40 (fun q => absurd q.1 (by decide))).trans ((hq_38.ri 83 (by decide) (by decide) j).trans ((gp_ne eG_27 (fun q => hj q.2)).trans ((hq_25.ri 83 (by decide) (by decide) j).trans ((gp_ne eG_15 (fun q => absurd q.1 (by decide))).trans ((hq_13.ri 83 (by decide) (by decide) j).trans (hq_5.ri 83 (by decide) (by decide) j))))))))))) (fun j hj => ((gp_ne eG_59 (fun q => absurd q.1 (by decide))).trans ((hq_49.ri 84 (by decide) (by decide) j).trans ((gp_ne eG_43 (fun q => absurd q.1 (by decide))).trans ((gp_ne eG_40 (fun q => hj q.2)).trans ((hq_38.ri 84 (by decide) (by decide) j).trans ((gp_ne eG_27 (fun q => absurd q.1 (by decide))).trans ((hq_25.ri 84 (by decide) (by decide) j).trans ((gp_ne eG_15 (fun q => absurd q.1 (by decide))).trans ((hq_13.ri 84 (by decide) (by decide) j).trans (hq_5.ri 84 (by decide) (by decide) j))))))))))) (fun j hj => ((gp_ne eG_59 (fun q => absurd q.1 (by decide))).trans ((hq_49.ri 85 (by decide) (by decide) j).trans ((gp_ne eG_43 (fun q => hj q.2)).trans ((gp_ne eG_40 (fun q => absurd q.1 (by decide))).trans ((hq_38.ri 85 (by decide) (by decide) j).trans ((gp_ne eG_27 (fun q => absurd q.1 (by decide))).trans ((hq_25.ri 85 (by decide) (by decide) j).trans ((gp_ne eG_15 (fun q => absurd q.1 (by decide))).trans ((hq_13.ri 85 (by decide) (by decide) j).trans (hq_5.ri 85 (by decide) (by decide) j))))))))))) ((gp_ne eG_59 (fun q => absurd q.1 (by decide))).trans ((hq_49.ri 82 (by decide) (by decide) ((G.1 66 46).toNatClampNeg)).trans ((gp_ne eG_43 (fun q => absurd q.1 (by decide))).trans ((gp_ne eG_40 (fun q => absurd q.1 (by decide))).trans ((hq_38.ri 82 (by decide) (by decide) ((G.1 66 46).toNatClampNeg)).trans ((gp_ne eG_27 (fun q => absurd q.1 (by decide))).trans ((hq_25.ri 82 (by decide) (by decide) ((G.1 66 46).toNatClampNeg)).trans (gp_eq eG_15)))))))) ((gp_ne eG_59 (fun q => absurd q.1 (by decide))).trans ((hq_49.ri 83 (by decide) (by decide) ((G.1 66 46).toNatClampNeg)).trans ((gp_ne eG_43 (fun q => absurd q.1 (by decide))).trans ((gp_ne eG_40 (fun q => absurd q.1 (by decide))).trans ((hq_38.ri 83 (by decide) (by decide) ((G.1 66 46).toNatClampNeg)).trans (ey_28.symm)))))) ((gp_ne eG_59 (fun q => absurd q.1 (by decide))).trans ((hq_49.ri 84 (by decide) (by decide) ((G.1 66 46).toNatClampNeg)).trans ((gp_ne eG_43 (fun q => absurd q.1 (by decide))).trans (ey_41.symm)))) ((gp_ne eG_59 (fun q => absurd q.1 (by decide))).trans ((hq_49.ri 85 (by decide) (by decide) ((G.1 66 46).toNatClampNeg)).trans (gp_eq eG_43))) (f := r_11) (l := y_28) (m := y_41) (p := y_41) ⟨by omega, by omega, by omega, by omega, by omega, by omega, by omega⟩
      have g_61 : (G_59.1 66 2).toInt = (G_37.1 66 2).toInt := by rw [show G_59.1 66 2 = (G_37.1 66 2) from ((gp_ne eG_59 (by decide)).trans ((hq_49.i 66 2 (by decide) (by decide)).trans ((gp_ne eG_43 (fun q => absurd q.1 (by decide))).trans ((gp_ne eG_40 (fun q => absurd q.1 (by decide))).trans (rfl)))))]
      have b_62 : 0 ≤ (G_48.1 66 4).toInt ∧ (G_48.1 66 4).toInt ≤ 1600 := hB_G_48.i 66 4 rfl rfl
      have g_63 : (G_59.1 66 4).toInt = (G_48.1 66 4).toInt := by rw [show G_59.1 66 4 = (G_48.1 66 4) from (gp_ne eG_59 (by decide))]
      have g_64 : (G_59.1 66 6).toInt = (G_48.1 66 6).toInt := by rw [show G_59.1 66 6 = (G_48.1 66 6) from (gp_ne eG_59 (by decide))]
      exact W.vret hx hb hr (fun t ht _ => ⟨⟨G_59, rfl, ⟨hB_G_59, hF, (by omega)⟩, wd_t ht hW⟩, hS.F ht⟩) hS.2.2 dX12_readWalker_126
  · have c_52 : r_47.toInt ≠ 0 := xI_ne rfl rfl c_52
    refine lv_aload_n hx hb dX12_readWalker_89 rfl (lv_at hl 1 rfl) ?_
    refine S_getR (n := 85) (C := RX12) (T := TX12) (N := 89) hx hb hg iX12 hown hK hW kd_66 rfl 33 (by decide) (hg (Cond.fieldLink RX12 69 "SlabWalkModel" "nLeap" "[I") m1347) (fun _ h9 => h9) rfl dX12_readWalker_90 ?_
    refine lv_iload_n hx hb dX12_readWalker_93 rfl (lv_at hl 0 rfl) ?_
    refine lv_aload_n hx hb dX12_readWalker_94 rfl (lv_at hl 1 rfl) ?_
    refine lv_aload_n hx hb dX12_readWalker_95 rfl (lv_at hl 1 rfl) ?_
    refine S_getR (n := 84) (C := RX12) (T := TX12) (N := 89) hx hb hg iX12 hown hK hW kd_66 rfl 32 (by decide) (hg (Cond.fieldLink RX12 66 "SlabWalkModel" "nMost" "[I") m1346) (fun _ h9 => h9) rfl dX12_readWalker_96 ?_
    refine lv_iload_n hx hb dX12_readWalker_99 rfl (lv_at hl 0 rfl) ?_
    refine S_iald hx hb hK hW kd_84 (vin (by omega) (by omega)) dX12_readWalker_100 (fun y_65 ey_65 => ?_)
    have u_66 : y_65.toInt = y_41.toInt := congrArg Int32.toInt (ey_65.trans (((hq_49.ri 84 (by decide) (by decide) ((G.1 66 46).toNatClampNeg)).trans ((gp_ne eG_43 (fun q => absurd q.1 (by decide))).trans (ey_41.symm)))))
    refine lv_iconst (v := 1) hx hb dX12_readWalker_101 (by decide) ?_
    refine lv_iadd hx hb dX12_readWalker_102 ?_
    refine lv_topi (fun y_67 ey_67 => ?_)
    have u_68 := xI_addC ey_67
    refine lv_bipush (v := 99) hx hb dX12_readWalker_103 (by decide) ?_
    have qc_69 : (99 : Int32).toInt = 99 := rfl
    have b_70 : 0 ≤ (G_37.1 66 2).toInt ∧ (G_37.1 66 2).toInt ≤ 4 := hB_G_37.i 66 2 rfl rfl
    have g_71 : (G_48.1 66 2).toInt = (G_37.1 66 2).toInt := by rw [show G_48.1 66 2 = (G_37.1 66 2) from ((hq_49.i 66 2 (by decide) (by decide)).trans ((gp_ne eG_43 (fun q => absurd q.1 (by decide))).trans (gp_ne eG_40 (fun q => absurd q.1 (by decide)))))]
    have b_72 : 0 ≤ (G_48.1 66 4).toInt ∧ (G_48.1 66 4).toInt ≤ 1600 := hB_G_48.i 66 4 rfl rfl
    refine S_calli (va_runV (As := [.int y_67, .int 99]) (rest := [.int (G.1 66 46), .ref (a 85)]) ⟨hx, hb, hml, hown, hts⟩ (n_told l D k A a z G_48 y_67 99 ) (cwV 2 hts (gd_V hgd m1682 m1684 m62 m131 m1685) rfl rfl rfl (by decide +kernel) ⟨Nat.le_of_ble_eq_true rfl, Nat.le_of_ble_eq_true rfl⟩) (pre_V hW hB_G_48 hK hZ hS kd_66 rfl) rfl rfl hl.1 rfl (lv_room (Nat.le_of_ble_eq_true rfl)) dX12_readWalker_105 ⟨Nat.le_of_ble_eq_true rfl, Nat.le_of_ble_eq_true rfl⟩) hS (fun r_73 G_74 H locs hpo hW hS => ?_)
    obtain ⟨hB_G_74, hq_75, hp_76⟩ := hpo
    have hF := hF.call hq_75 (by decide) (by decide)
    refine S_iast hx hb hK hW hS kd_85 (vin (by omega) (by omega)) dX12_readWalker_108 (fun G_77 H locs eG_77 hW hS => ?_)
    have hB_G_77 : Bd G_77 := hB_G_74.put (lo := (-2147483648)) (hi := 2147483647) eG_77 rfl rfl rfl (tI_rng _).1 (tI_rng _).2 (hB_G_74.2.put eG_77 rfl)
    have hF := hF.put eG_77 (Or.inl (by decide))
    refine lv_aload_n hx hb dX12_readWalker_109 rfl (lv_at hl 1 rfl) ?_
    have b_78 : 0 ≤ (G_74.1 66 2).toInt ∧ (G_74.1 66 2).toInt ≤ 4 := hB_G_74.i 66 2 rfl rfl
    refine S_getI (v := (G_74.1 66 2)) (C := RX12) (T := TX12) (N := 89) hx hb hg iX12 hown hK hW kd_66 rfl 2 (by decide) (hg (Cond.fieldLink RX12 218 "SlabWalkModel" "fault" "I") m1316) (fun _ h9 => h9) rfl (gp_ne eG_77 (fun q => absurd q.1 (by decide))) dX12_readWalker_110 ?_
    refine lv_if_ne (tgt := 126) hx hb dX12_readWalker_113 (by decide) (fun c_79 => ?_) (fun c_79 => ?_)
    · have c_79 : (G_74.1 66 2).toInt ≠ 0 := xI_ne rfl rfl c_79
      have g_80 : (G_77.1 66 2).toInt = (G_74.1 66 2).toInt := by rw [show G_77.1 66 2 = (G_74.1 66 2) from ((gp_ne eG_77 (fun q => absurd q.1 (by decide))).trans (rfl))]
      have b_81 : 0 ≤ (G_74.1 66 4).toInt ∧ (G_74.1 66 4).toInt ≤ 1600 := hB_G_74.i 66 4 rfl rfl
      have g_82 : (G_77.1 66 4).toInt = (G_74.1 66 4).toInt := by rw [show G_77.1 66 4 = (G_74.1 66 4) from (gp_ne eG_77 (fun q => absurd q.1 (by decide)))]
      have g_83 : (G_77.1 66 6).toInt = (G_74.1 66 6).toInt := by rw [show G_77.1 66 6 = (G_74.1 66 6) from (gp_ne eG_77 (fun q => absurd q.1 (by decide)))]
      exact W.vret hx hb hr (fun t ht _ => ⟨⟨G_77, rfl, ⟨hB_G_77, hF, (by omega)⟩, wd_t ht hW⟩, hS.F ht⟩) hS.2.2 dX12_readWalker_126
    · have c_79 : (G_74.1 66 2).toInt = 0 := xI_eq rfl rfl c_79
      refine lv_aload_n hx hb dX12_readWalker_116 rfl (lv_at hl 1 rfl) ?_
      refine lv_dup hx hb dX12_readWalker_117 rfl ?_
      refine S_getI (v := (G.1 66 46)) (C := RX12) (T := TX12) (N := 89) hx hb hg iX12 hown hK hW kd_66 rfl 46 (by decide) (hg (Cond.fieldLink RX12 379 "SlabWalkModel" "nWalkers" "I") m1360) (fun _ h9 => h9) rfl ((gp_ne eG_77 (fun q => absurd q.1 (by decide))).trans ((hq_75.i 66 46 (by decide) (by decide)).trans ((hq_49.i 66 46 (by decide) (by decide)).trans ((gp_ne eG_43 (fun q => absurd q.1 (by decide))).trans ((gp_ne eG_40 (fun q => absurd q.1 (by decide))).trans ((hq_38.i 66 46 (by decide) (by decide)).trans ((gp_ne eG_27 (fun q => absurd q.1 (by decide))).trans ((hq_25.i 66 46 (by decide) (by decide)).trans ((gp_ne eG_15 (fun q => absurd q.1 (by decide))).trans ((hq_13.i 66 46 (by decide) (by decide)).trans ((hq_5.i 66 46 (by decide) (by decide)).trans (rfl)))))))))))) dX12_readWalker_118 ?_
      refine lv_iconst (v := 1) hx hb dX12_readWalker_121 (by decide) ?_
      refine lv_iadd hx hb dX12_readWalker_122 ?_
      refine lv_topi (fun y_84 ey_84 => ?_)
      have ty_84 : y_84.toInt = (G.1 66 46).toInt + 1 := xI_add rfl rfl ey_84 (by omega) (by omega)
      refine S_putI (ty := .int) (C := RX12) (T := TX12) (N := 89) hx hb hg iX12 tyX12 tyX12_ok nmX12 hown hK hW hS kd_66 rfl 46 (by decide) (hg (Cond.fieldLink RX12 379 "SlabWalkModel" "nWalkers" "I") m1360) (fun _ h9 => h9) rfl (by decide +kernel) rfl rfl rfl dX12_readWalker_123 (fun G_85 H locs eG_85 hW hS => ?_)
      have hB_G_85 : Bd G_85 := hB_G_77.put (V := y_84.toInt) (lo := 0) (hi := 4) eG_85 rfl rfl rfl (by omega) (by omega) (hB_G_77.2.put eG_85 rfl)
      have hF := hF.put eG_85 (Or.inr (by decide))
      have u_86 : gN G_85 = 1 := walk_gh (G := G) (x := (G.1 66 46)) hN9 (by omega) (by omega) (gp_eq eG_85) (by omega) (fun j hj => ((gp_ne eG_85 (fun q => absurd q.1 (by decide))).trans ((gp_ne eG_77 (fun q => absurd q.1 (by decide))).trans ((hq_75.ri 82 (by decide) (by decide) j).trans ((hq_49.ri 82 (by decide) (by decide) j).trans ((gp_ne eG_43 (fun q => absurd q.1 (by decide))).trans ((gp_ne eG_40 (fun q => absurd q.1 (by decide))).trans ((hq_38.ri 82 (by decide) (by decide) j).trans ((gp_ne eG_27 (fun q => absurd q.1 (by decide))).trans ((hq_25.ri 82 (by decide) (by decide) j).trans ((gp_ne eG_15 (fun q => hj q.2)).trans ((hq_13.ri 82 (by decide) (by decide) j).trans (hq_5.ri 82 (by decide) (by decide) j))))))))))))) (fun j hj => ((gp_ne eG_85 (fun q => absurd q.1 (by decide))).trans ((gp_ne eG_77 (fun q => absurd q.1 (by decide))).trans ((hq_75.ri 83 (by decide) (by decide) j).trans ((hq_49.ri 83 (by decide) (by decide) j).trans ((gp_ne eG_43 (fun q => absurd q.1 (by decide))).trans ((gp_ne eG_40 (fun q => absurd q.1 (by decide))).trans ((hq_38.ri 83 (by decide) (by decide) j).trans ((gp_ne eG_27 (fun q => hj q.2)).trans ((hq_25.ri 83 (by decide) (by decide) j).trans ((gp_ne eG_15 (fun q => absurd q.1 (by decide))).trans ((hq_13.ri 83 (by decide) (by decide) j).trans (hq_5.ri 83 (by decide) (by decide) j))))))))))))) (fun j hj => ((gp_ne eG_85 (fun q => absurd q.1 (by decide))).trans ((gp_ne eG_77 (fun q => absurd q.1 (by decide))).trans ((hq_75.ri 84 (by decide) (by decide) j).trans ((hq_49.ri 84 (by decide) (by decide) j).trans ((gp_ne eG_43 (fun q => absurd q.1 (by decide))).trans ((gp_ne eG_40 (fun q => hj q.2)).trans ((hq_38.ri 84 (by decide) (by decide) j).trans ((gp_ne eG_27 (fun q => absurd q.1 (by decide))).trans ((hq_25.ri 84 (by decide) (by decide) j).trans ((gp_ne eG_15 (fun q => absurd q.1 (by decide))).trans ((hq_13.ri 84 (by decide) (by decide) j).trans (hq_5.ri 84 (by decide) (by decide) j))))))))))))) (fun j hj => ((gp_ne eG_85 (fun q => absurd q.1 (by decide))).trans ((gp_ne eG_77 (fun q => hj q.2)).trans ((hq_75.ri 85 (by decide) (by decide) j).trans ((hq_49.ri 85 (by decide) (by decide) j).trans ((gp_ne eG_43 (fun q => hj q.2)).trans ((gp_ne eG_40 (fun q => absurd q.1 (by decide))).trans ((hq_38.ri 85 (by decide) (by decide) j).trans ((gp_ne eG_27 (fun q => absurd q.1 (by decide))).trans ((hq_25.ri 85 (by decide) (by decide) j).trans ((gp_ne eG_15 (fun q => absurd q.1 (by decide))).trans ((hq_13.ri 85 (by decide) (by decide) j).trans (hq_5.ri 85 (by decide) (by decide) j))))))))))))) ((gp_ne eG_85 (fun q => absurd q.1 (by decide))).trans ((gp_ne eG_77 (fun q => absurd q.1 (by decide))).trans ((hq_75.ri 82 (by decide) (by decide) ((G.1 66 46).toNatClampNeg)).trans ((hq_49.ri 82 (by decide) (by decide) ((G.1 66 46).toNatClampNeg)).trans ((gp_ne eG_43 (fun q => absurd q.1 (by decide))).trans ((gp_ne eG_40 (fun q => absurd q.1 (by decide))).trans ((hq_38.ri 82 (by decide) (by decide) ((G.1 66 46).toNatClampNeg)).trans ((gp_ne eG_27 (fun q => absurd q.1 (by decide))).trans ((hq_25.ri 82 (by decide) (by decide) ((G.1 66 46).toNatClampNeg)).trans (gp_eq eG_15)))))))))) ((gp_ne eG_85 (fun q => absurd q.1 (by decide))).trans ((gp_ne eG_77 (fun q => absurd q.1 (by decide))).trans ((hq_75.ri 83 (by decide) (by decide) ((G.1 66 46).toNatClampNeg)).trans ((hq_49.ri 83 (by decide) (by decide) ((G.1 66 46).toNatClampNeg)).trans ((gp_ne eG_43 (fun q => absurd q.1 (by decide))).trans ((gp_ne eG_40 (fun q => absurd q.1 (by decide))).trans ((hq_38.ri 83 (by decide) (by decide) ((G.1 66 46).toNatClampNeg)).trans (ey_28.symm)))))))) ((gp_ne eG_85 (fun q => absurd q.1 (by decide))).trans ((gp_ne eG_77 (fun q => absurd q.1 (by decide))).trans ((hq_75.ri 84 (by decide) (by decide) ((G.1 66 46).toNatClampNeg)).trans (ey_65.symm)))) ((gp_ne eG_85 (fun q => absurd q.1 (by decide))).trans (gp_eq eG_77)) (f := r_11) (l := y_28) (m := y_65) (p := r_73) ⟨by omega, by omega, by omega, by omega, by omega, by omega, by omega⟩
      have g_87 : (G_85.1 66 2).toInt = (G_74.1 66 2).toInt := by rw [show G_85.1 66 2 = (G_74.1 66 2) from ((gp_ne eG_85 (by decide)).trans ((gp_ne eG_77 (fun q => absurd q.1 (by decide))).trans (rfl)))]
      have b_88 : 0 ≤ (G_74.1 66 4).toInt ∧ (G_74.1 66 4).toInt ≤ 1600 := hB_G_74.i 66 4 rfl rfl
      have g_89 : (G_85.1 66 4).toInt = (G_74.1 66 4).toInt := by rw [show G_85.1 66 4 = (G_74.1 66 4) from ((gp_ne eG_85 (by decide)).trans (gp_ne eG_77 (fun q => absurd q.1 (by decide))))]
      have g_90 : (G_85.1 66 6).toInt = (G_74.1 66 6).toInt := by rw [show G_85.1 66 6 = (G_74.1 66 6) from ((gp_ne eG_85 (by decide)).trans (gp_ne eG_77 (fun q => absurd q.1 (by decide))))]
      exact W.vret hx hb hr (fun t ht _ => ⟨⟨G_85, rfl, ⟨hB_G_85, hF, (by omega)⟩, wd_t ht hW⟩, hS.F ht⟩) hS.2.2 dX12_readWalker_126

set_option maxHeartbeats 4000000 in
set_option maxRecDepth 100000 in
theorem n_readRule (l : Launch) (D : va_G) (k : KT) (A : Nat → Prop) (a : Nat → Nat) (z : SK) (G : GS)  (hnf : (G.1 66 2).toInt = 0) (hr6 : (G.1 66 47).toInt < 6) (hE9 : gE G = 1) : Met l yX12_readRule (WS yX12_readRule cX12_readRule 1 none) ({ frames := 5, cells := 0, slots := 0, locals := 109 }) (va_Pc [.ref (a 66)] (cW D k A a z G)) (va_Qv (fun (G1 : GS) => Bd G1 ∧ Fr [68, 69, 70, 71, 75] [(66, 2), (66, 3), (66, 4), (66, 6), (66, 7), (66, 8), (66, 9), (66, 19), (66, 20), (66, 21), (66, 23), (66, 24), (66, 47)] G G1 ∧ ((G.1 66 4).toInt ≤ (G1.1 66 4).toInt ∧ ((G1.1 66 4).toInt = (G.1 66 4).toInt → (G1.1 66 6).toInt = (G.1 66 6).toInt ∨ (G1.1 66 6).toInt ≤ 3) ∧ ((G1.1 66 2).toInt = 0 → gE G1 = 1))) (fun (G1 : GS) t => Wd D k A a G1 t.heap) A) 0 0 A := by
  refine Met.ofW (cc := cX12_readRule) (maxL := 1) (ret := none) (by decide) rfl ?_
  intro p e s m args below meth c s₁ B hml hv
  obtain ⟨rfl, hW, hB_G, hK, hZ⟩ := hv
  have hx := B.exec
  have hb := B.bytes
  have hr := B.returns
  have hts := atoms_spec (ws := WS yX12_readRule cX12_readRule 1 none) B.pre
  have hgd : ∀ w ∈ gd, w ∈ WS yX12_readRule cX12_readRule 1 none := fun w h => List.mem_cons_of_mem _ h
  have hg : ∀ w ∈ gd, w.before _ s = true := fun w h => hts w (hgd w h)
  have hown : s.vm.findClass RX12 = some m.cls := findClass_of_methodNamed B.named
  have hS : va_S A s.heap s.heap [] := va_S.rf
  have hF : Fr [68, 69, 70, 71, 75] [(66, 2), (66, 3), (66, 4), (66, 6), (66, 7), (66, 8), (66, 9), (66, 19), (66, 20), (66, 21), (66, 23), (66, 24), (66, 47)] G G := Fr.rf
  have hl := lv_entry ([.ref (a 66)]) (n := 1) (Nat.le_of_ble_eq_true rfl)
  rw [lg_entry_eq]
  generalize (lg_sl ([.ref (a 66)]) ++ List.replicate (1 - (lg_sl ([.ref (a 66)])).length) Slot.unset).toArray = ls at hl ⊢
  have hl : lv_has ls 1 [(0, .ref (a 66))] := hl
  refine lv_aload_n hx hb dX12_readRule_0 rfl (lv_at hl 0 rfl) ?_
  refine lv_bipush (v := 7) hx hb dX12_readRule_1 (by decide) ?_
  refine lv_aload_n hx hb dX12_readRule_3 rfl (lv_at hl 0 rfl) ?_
  have b_1 : 0 ≤ (G.1 66 47).toInt ∧ (G.1 66 47).toInt ≤ 6 := hB_G.i 66 47 rfl rfl
  refine S_getI (v := (G.1 66 47)) (C := RX12) (T := TX12) (N := 89) hx hb hg iX12 hown hK hW kd_66 rfl 47 (by decide) (hg (Cond.fieldLink RX12 385 "SlabWalkModel" "nRules" "I") m1361) (fun _ h9 => h9) rfl rfl dX12_readRule_4 ?_
  have qc_2 : (7 : Int32).toInt = 7 := rfl
  refine S_callv (va_runV (As := [.int 7, .int (G.1 66 47)]) (rest := []) ⟨hx, hb, hml, hown, hts⟩ (n_newName l D k A a z G 7 (G.1 66 47) ⟨by decide, by decide⟩ ⟨by omega, by omega⟩) (cwV 2 hts (gd_V hgd m1632 m1634 m55 m131 m1635) rfl rfl rfl (by decide +kernel) ⟨Nat.le_of_ble_eq_true rfl, Nat.le_of_ble_eq_true rfl⟩) (pre_V hW hB_G hK hZ hS kd_66 rfl) rfl rfl hl.1 rfl (lv_room (Nat.le_of_ble_eq_true rfl)) dX12_readRule_7 ⟨Nat.le_of_ble_eq_true rfl, Nat.le_of_ble_eq_true rfl⟩) hS (fun G_4 H locs hpo hW hS => ?_)
  obtain ⟨hB_G_4, hq_5, hp_6⟩ := hpo
  have hF := hF.call hq_5 (by decide) (by decide)
  refine lv_aload_n hx hb dX12_readRule_10 rfl (lv_at hl 0 rfl) ?_
  have b_7 : 0 ≤ (G_4.1 66 2).toInt ∧ (G_4.1 66 2).toInt ≤ 4 := hB_G_4.i 66 2 rfl rfl
  refine S_getI (v := (G_4.1 66 2)) (C := RX12) (T := TX12) (N := 89) hx hb hg iX12 hown hK hW kd_66 rfl 2 (by decide) (hg (Cond.fieldLink RX12 218 "SlabWalkModel" "fault" "I") m1316) (fun _ h9 => h9) rfl rfl dX12_readRule_11 ?_
  refine lv_if_le (tgt := 18) hx hb dX12_readRule_14 (by decide) (fun c_8 => ?_) (fun c_8 => ?_)
  · have c_8 : (G_4.1 66 2).toInt ≤ 0 := xI_le rfl rfl c_8
    refine lv_aload_n hx hb dX12_readRule_18 rfl (lv_at hl 0 rfl) ?_
    refine lv_aload_n hx hb dX12_readRule_19 rfl (lv_at hl 0 rfl) ?_
    refine S_getI (v := (G.1 66 47)) (C := RX12) (T := TX12) (N := 89) hx hb hg iX12 hown hK hW kd_66 rfl 47 (by decide) (hg (Cond.fieldLink RX12 385 "SlabWalkModel" "nRules" "I") m1361) (fun _ h9 => h9) rfl ((hq_5.i 66 47 (by decide) (by decide)).trans (rfl)) dX12_readRule_20 ?_
    have g_9 : gE G_4 = gE G := gE_fr (rs := [68]) (fs := [(66, 2), (66, 3), (66, 4), (66, 6), (66, 7), (66, 8), (66, 9)]) (Fr.rf.call hq_5 (by decide) (by decide)) (by decide) (by decide)
    have g_10 : (G_4.1 66 47).toInt = (G.1 66 47).toInt := by rw [show G_4.1 66 47 = (G.1 66 47) from ((hq_5.i 66 47 (by decide) (by decide)).trans (rfl))]
    have b_11 : 0 ≤ (G_4.1 66 4).toInt ∧ (G_4.1 66 4).toInt ≤ 1600 := hB_G_4.i 66 4 rfl rfl
    refine S_callv (va_runV (As := [.int (G.1 66 47)]) (rest := []) ⟨hx, hb, hml, hown, hts⟩ (n_formula l D k A a z G_4 (G.1 66 47) ⟨by omega, by omega⟩ (by omega) (by omega) (by omega)) (cwV 1 hts (gd_V hgd m1710 m1712 m69 m131 m1713) rfl rfl rfl (by decide +kernel) ⟨Nat.le_of_ble_eq_true rfl, Nat.le_of_ble_eq_true rfl⟩) (pre_V hW hB_G_4 hK hZ hS kd_66 rfl) rfl rfl hl.1 rfl (lv_room (Nat.le_of_ble_eq_true rfl)) dX12_readRule_23 ⟨Nat.le_of_ble_eq_true rfl, Nat.le_of_ble_eq_true rfl⟩) hS (fun G_13 H locs hpo hW hS => ?_)
    obtain ⟨hB_G_13, hq_14, hp_15⟩ := hpo
    have hF := hF.call hq_14 (by decide) (by decide)
    refine lv_aload_n hx hb dX12_readRule_26 rfl (lv_at hl 0 rfl) ?_
    have b_16 : 0 ≤ (G_13.1 66 2).toInt ∧ (G_13.1 66 2).toInt ≤ 4 := hB_G_13.i 66 2 rfl rfl
    refine S_getI (v := (G_13.1 66 2)) (C := RX12) (T := TX12) (N := 89) hx hb hg iX12 hown hK hW kd_66 rfl 2 (by decide) (hg (Cond.fieldLink RX12 218 "SlabWalkModel" "fault" "I") m1316) (fun _ h9 => h9) rfl rfl dX12_readRule_27 ?_
    refine lv_if_ne (tgt := 43) hx hb dX12_readRule_30 (by decide) (fun c_17 => ?_) (fun c_17 => ?_)
    · have c_17 : (G_13.1 66 2).toInt ≠ 0 := xI_ne rfl rfl c_17
      have b_18 : 0 ≤ (G_13.1 66 4).toInt ∧ (G_13.1 66 4).toInt ≤ 1600 := hB_G_13.i 66 4 rfl rfl
      exact W.vret hx hb hr (fun t ht _ => ⟨⟨G_13, rfl, ⟨hB_G_13, hF, (by omega)⟩, wd_t ht hW⟩, hS.F ht⟩) hS.2.2 dX12_readRule_43
    · have c_17 : (G_13.1 66 2).toInt = 0 := xI_eq rfl rfl c_17
      have b_19 : 0 ≤ (G_13.1 66 19).toInt ∧ (G_13.1 66 19).toInt ≤ 5 := hB_G_13.i 66 19 rfl rfl
      have g_20 : (G_13.1 66 47).toInt = (G.1 66 47).toInt := by rw [show G_13.1 66 47 = (G.1 66 47) from ((hq_14.i 66 47 (by decide) (by decide)).trans ((hq_5.i 66 47 (by decide) (by decide)).trans (rfl)))]
      refine lv_aload_n hx hb dX12_readRule_33 rfl (lv_at hl 0 rfl) ?_
      refine lv_dup hx hb dX12_readRule_34 rfl ?_
      refine S_getI (v := (G.1 66 47)) (C := RX12) (T := TX12) (N := 89) hx hb hg iX12 hown hK hW kd_66 rfl 47 (by decide) (hg (Cond.fieldLink RX12 385 "SlabWalkModel" "nRules" "I") m1361) (fun _ h9 => h9) rfl ((hq_14.i 66 47 (by decide) (by decide)).trans ((hq_5.i 66 47 (by decide) (by decide)).trans (rfl))) dX12_readRule_35 ?_
      refine lv_iconst (v := 1) hx hb dX12_readRule_38 (by decide) ?_
      refine lv_iadd hx hb dX12_readRule_39 ?_
      refine lv_topi (fun y_21 ey_21 => ?_)
      have ty_21 : y_21.toInt = (G.1 66 47).toInt + 1 := xI_add rfl rfl ey_21 (by omega) (by omega)
      refine S_putI (ty := .int) (C := RX12) (T := TX12) (N := 89) hx hb hg iX12 tyX12 tyX12_ok nmX12 hown hK hW hS kd_66 rfl 47 (by decide) (hg (Cond.fieldLink RX12 385 "SlabWalkModel" "nRules" "I") m1361) (fun _ h9 => h9) rfl (by decide +kernel) rfl rfl rfl dX12_readRule_40 (fun G_22 H locs eG_22 hW hS => ?_)
      have hB_G_22 : Bd G_22 := hB_G_13.put (V := y_21.toInt) (lo := 0) (hi := 6) eG_22 rfl rfl rfl (by omega) (by omega) (hB_G_13.2.put eG_22 rfl)
      have hF := hF.put eG_22 (Or.inr (by decide))
      have u_23 := rule_gh (Ga := G_13) (by omega) (by omega) eG_22 (by omega) (by omega)
      have g_24 : (G_22.1 66 2).toInt = (G_13.1 66 2).toInt := by rw [show G_22.1 66 2 = (G_13.1 66 2) from ((gp_ne eG_22 (by decide)).trans (rfl))]
      have b_25 : 0 ≤ (G_13.1 66 4).toInt ∧ (G_13.1 66 4).toInt ≤ 1600 := hB_G_13.i 66 4 rfl rfl
      have g_26 : (G_22.1 66 4).toInt = (G_13.1 66 4).toInt := by rw [show G_22.1 66 4 = (G_13.1 66 4) from (gp_ne eG_22 (by decide))]
      have g_27 : (G_22.1 66 6).toInt = (G_13.1 66 6).toInt := by rw [show G_22.1 66 6 = (G_13.1 66 6) from (gp_ne eG_22 (by decide))]
      exact W.vret hx hb hr (fun t ht _ => ⟨⟨G_22, rfl, ⟨hB_G_22, hF, (by omega)⟩, wd_t ht hW⟩, hS.F ht⟩) hS.2.2 dX12_readRule_43
  · have c_8 : 0 < (G_4.1 66 2).toInt := xI_nle rfl rfl c_8
    have g_28 : gE G_4 = gE G := gE_fr (rs := [68]) (fs := [(66, 2), (66, 3), (66, 4), (66, 6), (66, 7), (66, 8), (66, 9)]) (Fr.rf.call hq_5 (by decide) (by decide)) (by decide) (by decide)
    have b_29 : 0 ≤ (G_4.1 66 4).toInt ∧ (G_4.1 66 4).toInt ≤ 1600 := hB_G_4.i 66 4 rfl rfl
    exact W.vret hx hb hr (fun t ht _ => ⟨⟨G_4, rfl, ⟨hB_G_4, hF, (by omega)⟩, wd_t ht hW⟩, hS.F ht⟩) hS.2.2 dX12_readRule_17

set_option maxHeartbeats 4000000 in
set_option maxRecDepth 100000 in
theorem n_readSlip (l : Launch) (D : va_G) (k : KT) (A : Nat → Prop) (a : Nat → Nat) (z : SK) (G : GS)  (hnf : (G.1 66 2).toInt = 0) : Met l yX12_readSlip (WS yX12_readSlip cX12_readSlip 1 none) ({ frames := 3, cells := 0, slots := 0, locals := 66 }) (va_Pc [.ref (a 66)] (cW D k A a z G)) (va_Qv (fun (G1 : GS) => Bd G1 ∧ Fr [86] [(66, 2), (66, 3), (66, 4), (66, 6), (66, 7), (66, 8), (66, 9)] G G1 ∧ ((G.1 66 4).toInt ≤ (G1.1 66 4).toInt ∧ ((G1.1 66 4).toInt = (G.1 66 4).toInt → (G1.1 66 6).toInt = (G.1 66 6).toInt ∨ (G1.1 66 6).toInt ≤ 3) ∧ ((G1.1 66 2).toInt = 0 → 0 ≤ (G1.1 86 0).toInt ∧ (G1.1 86 0).toInt ≤ 9 ∧ 0 ≤ (G1.1 86 1).toInt ∧ (G1.1 86 1).toInt ≤ 9 ∧ 0 ≤ (G1.1 86 2).toInt ∧ (G1.1 86 2).toInt ≤ 9 ∧ 1 ≤ (G1.1 86 0).toInt + (G1.1 86 1).toInt + (G1.1 86 2).toInt))) (fun (G1 : GS) t => Wd D k A a G1 t.heap) A) 0 0 A := by
  refine Met.ofW (cc := cX12_readSlip) (maxL := 1) (ret := none) (by decide) rfl ?_
  intro p e s m args below meth c s₁ B hml hv
  obtain ⟨rfl, hW, hB_G, hK, hZ⟩ := hv
  have hx := B.exec
  have hb := B.bytes
  have hr := B.returns
  have hts := atoms_spec (ws := WS yX12_readSlip cX12_readSlip 1 none) B.pre
  have hgd : ∀ w ∈ gd, w ∈ WS yX12_readSlip cX12_readSlip 1 none := fun w h => List.mem_cons_of_mem _ h
  have hg : ∀ w ∈ gd, w.before _ s = true := fun w h => hts w (hgd w h)
  have hown : s.vm.findClass RX12 = some m.cls := findClass_of_methodNamed B.named
  have hS : va_S A s.heap s.heap [] := va_S.rf
  have hF : Fr [86] [(66, 2), (66, 3), (66, 4), (66, 6), (66, 7), (66, 8), (66, 9)] G G := Fr.rf
  have hl := lv_entry ([.ref (a 66)]) (n := 1) (Nat.le_of_ble_eq_true rfl)
  rw [lg_entry_eq]
  generalize (lg_sl ([.ref (a 66)]) ++ List.replicate (1 - (lg_sl ([.ref (a 66)])).length) Slot.unset).toArray = ls at hl ⊢
  have hl : lv_has ls 1 [(0, .ref (a 66))] := hl
  refine lv_aload_n hx hb dX12_readSlip_0 rfl (lv_at hl 0 rfl) ?_
  refine S_callv (va_runV (As := []) (rest := []) ⟨hx, hb, hml, hown, hts⟩ (n_token l D k A a z G  ) (cwV 0 hts (gd_V hgd m1602 m1604 m50 m131 m1605) rfl rfl rfl (by decide +kernel) ⟨Nat.le_of_ble_eq_true rfl, Nat.le_of_ble_eq_true rfl⟩) (pre_V hW hB_G hK hZ hS kd_66 rfl) rfl rfl hl.1 rfl (lv_room (Nat.le_of_ble_eq_true rfl)) dX12_readSlip_1 ⟨Nat.le_of_ble_eq_true rfl, Nat.le_of_ble_eq_true rfl⟩) hS (fun G_2 H locs hpo hW hS => ?_)
  obtain ⟨hB_G_2, hq_3, hp_4⟩ := hpo
  have hF := hF.call hq_3 (by decide) (by decide)
  refine lv_aload_n hx hb dX12_readSlip_4 rfl (lv_at hl 0 rfl) ?_
  refine S_getR (n := 86) (C := RX12) (T := TX12) (N := 89) hx hb hg iX12 hown hK hW kd_66 rfl 34 (by decide) (hg (Cond.fieldLink RX12 72 "SlabWalkModel" "nSlips" "[I") m1348) (fun _ h9 => h9) rfl dX12_readSlip_5 ?_
  refine lv_iconst (v := 0) hx hb dX12_readSlip_8 (by decide) ?_
  refine lv_aload_n hx hb dX12_readSlip_9 rfl (lv_at hl 0 rfl) ?_
  refine lv_iconst (v := 0) hx hb dX12_readSlip_10 (by decide) ?_
  refine lv_bipush (v := 9) hx hb dX12_readSlip_11 (by decide) ?_
  have qc_5 : (0 : Int32).toInt = 0 := rfl
  have qc_6 : (9 : Int32).toInt = 9 := rfl
  have b_7 : 0 ≤ (G.1 66 2).toInt ∧ (G.1 66 2).toInt ≤ 4 := hB_G.i 66 2 rfl rfl
  have g_8 : (G_2.1 66 2).toInt = (G.1 66 2).toInt := by rw [show G_2.1 66 2 = (G.1 66 2) from (hq_3.i 66 2 (by decide) (by decide))]
  have b_9 : 0 ≤ (G_2.1 66 4).toInt ∧ (G_2.1 66 4).toInt ≤ 1600 := hB_G_2.i 66 4 rfl rfl
  refine S_calli (va_runV (As := [.int 0, .int 9]) (rest := [.int 0, .ref (a 86)]) ⟨hx, hb, hml, hown, hts⟩ (n_told l D k A a z G_2 0 9 ) (cwV 2 hts (gd_V hgd m1682 m1684 m62 m131 m1685) rfl rfl rfl (by decide +kernel) ⟨Nat.le_of_ble_eq_true rfl, Nat.le_of_ble_eq_true rfl⟩) (pre_V hW hB_G_2 hK hZ hS kd_66 rfl) rfl rfl hl.1 rfl (lv_room (Nat.le_of_ble_eq_true rfl)) dX12_readSlip_13 ⟨Nat.le_of_ble_eq_true rfl, Nat.le_of_ble_eq_true rfl⟩) hS (fun r_10 G_11 H locs hpo hW hS => ?_)
  obtain ⟨hB_G_11, hq_12, hp_13⟩ := hpo
  have hF := hF.call hq_12 (by decide) (by decide)
  refine S_iast hx hb hK hW hS kd_86 (vin (by decide) (by decide)) dX12_readSlip_16 (fun G_14 H locs eG_14 hW hS => ?_)
  have hB_G_14 : Bd G_14 := hB_G_11.put (lo := (-2147483648)) (hi := 2147483647) eG_14 rfl rfl rfl (tI_rng _).1 (tI_rng _).2 (hB_G_11.2.put eG_14 rfl)
  have hF := hF.put eG_14 (Or.inl (by decide))
  refine lv_aload_n hx hb dX12_readSlip_17 rfl (lv_at hl 0 rfl) ?_
  refine S_getR (n := 86) (C := RX12) (T := TX12) (N := 89) hx hb hg iX12 hown hK hW kd_66 rfl 34 (by decide) (hg (Cond.fieldLink RX12 72 "SlabWalkModel" "nSlips" "[I") m1348) (fun _ h9 => h9) rfl dX12_readSlip_18 ?_
  refine lv_iconst (v := 1) hx hb dX12_readSlip_21 (by decide) ?_
  refine lv_aload_n hx hb dX12_readSlip_22 rfl (lv_at hl 0 rfl) ?_
  refine lv_iconst (v := 0) hx hb dX12_readSlip_23 (by decide) ?_
  refine lv_bipush (v := 9) hx hb dX12_readSlip_24 (by decide) ?_
  have qc_15 : (0 : Int32).toInt = 0 := rfl
  have qc_16 : (9 : Int32).toInt = 9 := rfl
  have b_17 : 0 ≤ (G_11.1 66 2).toInt ∧ (G_11.1 66 2).toInt ≤ 4 := hB_G_11.i 66 2 rfl rfl
  have g_18 : (G_14.1 66 2).toInt = (G_11.1 66 2).toInt := by rw [show G_14.1 66 2 = (G_11.1 66 2) from (gp_ne eG_14 (fun q => absurd q.1 (by decide)))]
  have b_19 : 0 ≤ (G_11.1 66 4).toInt ∧ (G_11.1 66 4).toInt ≤ 1600 := hB_G_11.i 66 4 rfl rfl
  have g_20 : (G_14.1 66 4).toInt = (G_11.1 66 4).toInt := by rw [show G_14.1 66 4 = (G_11.1 66 4) from (gp_ne eG_14 (fun q => absurd q.1 (by decide)))]
  have g_21 : (G_14.1 66 6).toInt = (G_11.1 66 6).toInt := by rw [show G_14.1 66 6 = (G_11.1 66 6) from (gp_ne eG_14 (fun q => absurd q.1 (by decide)))]
  refine S_calli (va_runV (As := [.int 0, .int 9]) (rest := [.int 1, .ref (a 86)]) ⟨hx, hb, hml, hown, hts⟩ (n_told l D k A a z G_14 0 9 ) (cwV 2 hts (gd_V hgd m1682 m1684 m62 m131 m1685) rfl rfl rfl (by decide +kernel) ⟨Nat.le_of_ble_eq_true rfl, Nat.le_of_ble_eq_true rfl⟩) (pre_V hW hB_G_14 hK hZ hS kd_66 rfl) rfl rfl hl.1 rfl (lv_room (Nat.le_of_ble_eq_true rfl)) dX12_readSlip_26 ⟨Nat.le_of_ble_eq_true rfl, Nat.le_of_ble_eq_true rfl⟩) hS (fun r_22 G_23 H locs hpo hW hS => ?_)
  obtain ⟨hB_G_23, hq_24, hp_25⟩ := hpo
  have hF := hF.call hq_24 (by decide) (by decide)
  refine S_iast hx hb hK hW hS kd_86 (vin (by decide) (by decide)) dX12_readSlip_29 (fun G_26 H locs eG_26 hW hS => ?_)
  have hB_G_26 : Bd G_26 := hB_G_23.put (lo := (-2147483648)) (hi := 2147483647) eG_26 rfl rfl rfl (tI_rng _).1 (tI_rng _).2 (hB_G_23.2.put eG_26 rfl)
  have hF := hF.put eG_26 (Or.inl (by decide))
  refine lv_aload_n hx hb dX12_readSlip_30 rfl (lv_at hl 0 rfl) ?_
  refine S_getR (n := 86) (C := RX12) (T := TX12) (N := 89) hx hb hg iX12 hown hK hW kd_66 rfl 34 (by decide) (hg (Cond.fieldLink RX12 72 "SlabWalkModel" "nSlips" "[I") m1348) (fun _ h9 => h9) rfl dX12_readSlip_31 ?_
  refine lv_iconst (v := 2) hx hb dX12_readSlip_34 (by decide) ?_
  refine lv_aload_n hx hb dX12_readSlip_35 rfl (lv_at hl 0 rfl) ?_
  refine lv_aload_n hx hb dX12_readSlip_36 rfl (lv_at hl 0 rfl) ?_
  refine S_getR (n := 86) (C := RX12) (T := TX12) (N := 89) hx hb hg iX12 hown hK hW kd_66 rfl 34 (by decide) (hg (Cond.fieldLink RX12 72 "SlabWalkModel" "nSlips" "[I") m1348) (fun _ h9 => h9) rfl dX12_readSlip_37 ?_
  refine lv_iconst (v := 0) hx hb dX12_readSlip_40 (by decide) ?_
  refine S_iald hx hb hK hW kd_86 (vin (by decide) (by decide)) dX12_readSlip_41 (fun y_27 ey_27 => ?_)
  have u_28 : y_27.toInt = r_10.toInt := congrArg Int32.toInt (ey_27.trans (((gp_ne eG_26 (fun q => absurd q.2 (by decide))).trans ((hq_24.i 86 0 (by decide) (by decide)).trans (gp_eq eG_14)))))
  refine lv_aload_n hx hb dX12_readSlip_42 rfl (lv_at hl 0 rfl) ?_
  refine S_getR (n := 86) (C := RX12) (T := TX12) (N := 89) hx hb hg iX12 hown hK hW kd_66 rfl 34 (by decide) (hg (Cond.fieldLink RX12 72 "SlabWalkModel" "nSlips" "[I") m1348) (fun _ h9 => h9) rfl dX12_readSlip_43 ?_
  refine lv_iconst (v := 1) hx hb dX12_readSlip_46 (by decide) ?_
  refine S_iald hx hb hK hW kd_86 (vin (by decide) (by decide)) dX12_readSlip_47 (fun y_29 ey_29 => ?_)
  have u_30 : y_29.toInt = r_22.toInt := congrArg Int32.toInt (ey_29.trans ((gp_eq eG_26)))
  refine lv_iadd hx hb dX12_readSlip_48 ?_
  refine lv_topi (fun y_31 ey_31 => ?_)
  have u_32 := xI_addC ey_31
  refine lv_if_ne (tgt := 56) hx hb dX12_readSlip_49 (by decide) (fun c_33 => ?_) (fun c_33 => ?_)
  · have c_33 : y_31.toInt ≠ 0 := xI_ne rfl rfl c_33
    refine lv_iconst (v := 0) hx hb dX12_readSlip_56 (by decide) ?_
    refine lv_bipush (v := 9) hx hb dX12_readSlip_57 (by decide) ?_
    have qc_34 : (0 : Int32).toInt = 0 := rfl
    have qc_35 : (9 : Int32).toInt = 9 := rfl
    have b_36 : 0 ≤ (G_23.1 66 2).toInt ∧ (G_23.1 66 2).toInt ≤ 4 := hB_G_23.i 66 2 rfl rfl
    have g_37 : (G_26.1 66 2).toInt = (G_23.1 66 2).toInt := by rw [show G_26.1 66 2 = (G_23.1 66 2) from (gp_ne eG_26 (fun q => absurd q.1 (by decide)))]
    have b_38 : 0 ≤ (G_23.1 66 4).toInt ∧ (G_23.1 66 4).toInt ≤ 1600 := hB_G_23.i 66 4 rfl rfl
    have g_39 : (G_26.1 66 4).toInt = (G_23.1 66 4).toInt := by rw [show G_26.1 66 4 = (G_23.1 66 4) from (gp_ne eG_26 (fun q => absurd q.1 (by decide)))]
    have g_40 : (G_26.1 66 6).toInt = (G_23.1 66 6).toInt := by rw [show G_26.1 66 6 = (G_23.1 66 6) from (gp_ne eG_26 (fun q => absurd q.1 (by decide)))]
    refine S_calli (va_runV (As := [.int 0, .int 9]) (rest := [.int 2, .ref (a 86)]) ⟨hx, hb, hml, hown, hts⟩ (n_told l D k A a z G_26 0 9 ) (cwV 2 hts (gd_V hgd m1682 m1684 m62 m131 m1685) rfl rfl rfl (by decide +kernel) ⟨Nat.le_of_ble_eq_true rfl, Nat.le_of_ble_eq_true rfl⟩) (pre_V hW hB_G_26 hK hZ hS kd_66 rfl) rfl rfl hl.1 rfl (lv_room (Nat.le_of_ble_eq_true rfl)) dX12_readSlip_59 ⟨Nat.le_of_ble_eq_true rfl, Nat.le_of_ble_eq_true rfl⟩) hS (fun r_41 G_42 H locs hpo hW hS => ?_)
    obtain ⟨hB_G_42, hq_43, hp_44⟩ := hpo
    have hF := hF.call hq_43 (by decide) (by decide)
    refine S_iast hx hb hK hW hS kd_86 (vin (by decide) (by decide)) dX12_readSlip_62 (fun G_45 H locs eG_45 hW hS => ?_)
    have hB_G_45 : Bd G_45 := hB_G_42.put (lo := (-2147483648)) (hi := 2147483647) eG_45 rfl rfl rfl (tI_rng _).1 (tI_rng _).2 (hB_G_42.2.put eG_45 rfl)
    have hF := hF.put eG_45 (Or.inl (by decide))
    have b_46 : 0 ≤ (G_42.1 66 2).toInt ∧ (G_42.1 66 2).toInt ≤ 4 := hB_G_42.i 66 2 rfl rfl
    have g_47 : (G_45.1 66 2).toInt = (G_42.1 66 2).toInt := by rw [show G_45.1 66 2 = (G_42.1 66 2) from (gp_ne eG_45 (fun q => absurd q.1 (by decide)))]
    have b_48 : 0 ≤ (G_42.1 66 4).toInt ∧ (G_42.1 66 4).toInt ≤ 1600 := hB_G_42.i 66 4 rfl rfl
    have g_49 : (G_45.1 66 4).toInt = (G_42.1 66 4).toInt := by rw [show G_45.1 66 4 = (G_42.1 66 4) from (gp_ne eG_45 (fun q => absurd q.1 (by decide)))]
    have g_50 : (G_45.1 66 6).toInt = (G_42.1 66 6).toInt := by rw [show G_45.1 66 6 = (G_42.1 66 6) from (gp_ne eG_45 (fun q => absurd q.1 (by decide)))]
    have g_51 : (G_45.1 86 0).toInt = y_27.toInt := by rw [show G_45.1 86 0 = y_27 from ((gp_ne eG_45 (fun q => absurd q.2 (by decide))).trans ((hq_43.i 86 0 (by decide) (by decide)).trans (ey_27.symm)))]
    have g_52 : (G_45.1 86 1).toInt = y_29.toInt := by rw [show G_45.1 86 1 = y_29 from ((gp_ne eG_45 (fun q => absurd q.2 (by decide))).trans ((hq_43.i 86 1 (by decide) (by decide)).trans (ey_29.symm)))]
    have g_53 : (G_45.1 86 2).toInt = r_41.toInt := by rw [show G_45.1 86 2 = r_41 from (gp_eq eG_45)]
    exact W.vret hx hb hr (fun t ht _ => ⟨⟨G_45, rfl, ⟨hB_G_45, hF, (by omega)⟩, wd_t ht hW⟩, hS.F ht⟩) hS.2.2 dX12_readSlip_63
  · have c_33 : y_31.toInt = 0 := xI_eq rfl rfl c_33
    refine lv_iconst (v := 1) hx hb dX12_readSlip_52 (by decide) ?_
    refine lv_goto (tgt := 57) hx hb dX12_readSlip_53 (by decide) ?_
    refine lv_bipush (v := 9) hx hb dX12_readSlip_57 (by decide) ?_
    have qc_54 : (1 : Int32).toInt = 1 := rfl
    have qc_55 : (9 : Int32).toInt = 9 := rfl
    have b_56 : 0 ≤ (G_23.1 66 2).toInt ∧ (G_23.1 66 2).toInt ≤ 4 := hB_G_23.i 66 2 rfl rfl
    have g_57 : (G_26.1 66 2).toInt = (G_23.1 66 2).toInt := by rw [show G_26.1 66 2 = (G_23.1 66 2) from (gp_ne eG_26 (fun q => absurd q.1 (by decide)))]
    have b_58 : 0 ≤ (G_23.1 66 4).toInt ∧ (G_23.1 66 4).toInt ≤ 1600 := hB_G_23.i 66 4 rfl rfl
    have g_59 : (G_26.1 66 4).toInt = (G_23.1 66 4).toInt := by rw [show G_26.1 66 4 = (G_23.1 66 4) from (gp_ne eG_26 (fun q => absurd q.1 (by decide)))]
    have g_60 : (G_26.1 66 6).toInt = (G_23.1 66 6).toInt := by rw [show G_26.1 66 6 = (G_23.1 66 6) from (gp_ne eG_26 (fun q => absurd q.1 (by decide)))]
    refine S_calli (va_runV (As := [.int 1, .int 9]) (rest := [.int 2, .ref (a 86)]) ⟨hx, hb, hml, hown, hts⟩ (n_told l D k A a z G_26 1 9 ) (cwV 2 hts (gd_V hgd m1682 m1684 m62 m131 m1685) rfl rfl rfl (by decide +kernel) ⟨Nat.le_of_ble_eq_true rfl, Nat.le_of_ble_eq_true rfl⟩) (pre_V hW hB_G_26 hK hZ hS kd_66 rfl) rfl rfl hl.1 rfl (lv_room (Nat.le_of_ble_eq_true rfl)) dX12_readSlip_59 ⟨Nat.le_of_ble_eq_true rfl, Nat.le_of_ble_eq_true rfl⟩) hS (fun r_61 G_62 H locs hpo hW hS => ?_)
    obtain ⟨hB_G_62, hq_63, hp_64⟩ := hpo
    have hF := hF.call hq_63 (by decide) (by decide)
    refine S_iast hx hb hK hW hS kd_86 (vin (by decide) (by decide)) dX12_readSlip_62 (fun G_65 H locs eG_65 hW hS => ?_)
    have hB_G_65 : Bd G_65 := hB_G_62.put (lo := (-2147483648)) (hi := 2147483647) eG_65 rfl rfl rfl (tI_rng _).1 (tI_rng _).2 (hB_G_62.2.put eG_65 rfl)
    have hF := hF.put eG_65 (Or.inl (by decide))
    have b_66 : 0 ≤ (G_62.1 66 2).toInt ∧ (G_62.1 66 2).toInt ≤ 4 := hB_G_62.i 66 2 rfl rfl
    have g_67 : (G_65.1 66 2).toInt = (G_62.1 66 2).toInt := by rw [show G_65.1 66 2 = (G_62.1 66 2) from (gp_ne eG_65 (fun q => absurd q.1 (by decide)))]
    have b_68 : 0 ≤ (G_62.1 66 4).toInt ∧ (G_62.1 66 4).toInt ≤ 1600 := hB_G_62.i 66 4 rfl rfl
    have g_69 : (G_65.1 66 4).toInt = (G_62.1 66 4).toInt := by rw [show G_65.1 66 4 = (G_62.1 66 4) from (gp_ne eG_65 (fun q => absurd q.1 (by decide)))]
    have g_70 : (G_65.1 66 6).toInt = (G_62.1 66 6).toInt := by rw [show G_65.1 66 6 = (G_62.1 66 6) from (gp_ne eG_65 (fun q => absurd q.1 (by decide)))]
    have g_71 : (G_65.1 86 0).toInt = y_27.toInt := by rw [show G_65.1 86 0 = y_27 from ((gp_ne eG_65 (fun q => absurd q.2 (by decide))).trans ((hq_63.i 86 0 (by decide) (by decide)).trans (ey_27.symm)))]
    have g_72 : (G_65.1 86 1).toInt = y_29.toInt := by rw [show G_65.1 86 1 = y_29 from ((gp_ne eG_65 (fun q => absurd q.2 (by decide))).trans ((hq_63.i 86 1 (by decide) (by decide)).trans (ey_29.symm)))]
    have g_73 : (G_65.1 86 2).toInt = r_61.toInt := by rw [show G_65.1 86 2 = r_61 from (gp_eq eG_65)]
    exact W.vret hx hb hr (fun t ht _ => ⟨⟨G_65, rfl, ⟨hB_G_65, hF, (by omega)⟩, wd_t ht hW⟩, hS.F ht⟩) hS.2.2 dX12_readSlip_63
