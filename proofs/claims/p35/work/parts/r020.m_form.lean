theorem m76 : Cond.selects RX12 yX12_add yX12_add ∈ gd := gd_mem 76 (by decide +kernel) (by decide +kernel)
theorem m1325 : Cond.fieldLink RX12 21 "SlabWalkModel" "nStep" "[I" ∈ gd := gd_mem 1325 (by decide +kernel) (by decide +kernel)
theorem m1326 : Cond.fieldLink RX12 24 "SlabWalkModel" "nArg" "[I" ∈ gd := gd_mem 1326 (by decide +kernel) (by decide +kernel)
theorem m1327 : Cond.fieldLink RX12 27 "SlabWalkModel" "nMany" "[I" ∈ gd := gd_mem 1327 (by decide +kernel) (by decide +kernel)
theorem m1331 : Cond.fieldLink RX12 39 "SlabWalkModel" "open" "[I" ∈ gd := gd_mem 1331 (by decide +kernel) (by decide +kernel)
theorem m1333 : Cond.fieldLink RX12 296 "SlabWalkModel" "form" "I" ∈ gd := gd_mem 1333 (by decide +kernel) (by decide +kernel)
theorem m1334 : Cond.fieldLink RX12 299 "SlabWalkModel" "opens" "I" ∈ gd := gd_mem 1334 (by decide +kernel) (by decide +kernel)
theorem m1338 : Cond.fieldLink RX12 309 "SlabWalkModel" "deep" "I" ∈ gd := gd_mem 1338 (by decide +kernel) (by decide +kernel)
theorem m1722 : Cond.methodLink RX12 302 yX12_tight ∈ gd := gd_mem 1722 (by decide +kernel) (by decide +kernel)
theorem m1723 : Cond.static yX12_tight ∈ gd := gd_mem 1723 (by decide +kernel) (by decide +kernel)
theorem m1724 : Cond.code yX12_tight cX12_tight 1 (some .int) ∈ gd := gd_mem 1724 (by decide +kernel) (by decide +kernel)
theorem m1741 : Cond.methodLink RX12 305 yX12_add ∈ gd := gd_mem 1741 (by decide +kernel) (by decide +kernel)
theorem m1743 : Cond.instanceMethod yX12_add ∈ gd := gd_mem 1743 (by decide +kernel) (by decide +kernel)
theorem m1744 : Cond.code yX12_add cX12_add 3 none ∈ gd := gd_mem 1744 (by decide +kernel) (by decide +kernel)
theorem dX12_add_0 : decode cX12_add 0 = .ok (.aload_n 0, 1) := by decide +kernel
theorem dX12_add_1 : decode cX12_add 1 = .ok (.getfield 21, 3) := by decide +kernel
theorem dX12_add_4 : decode cX12_add 4 = .ok (.sipush 320, 3) := by decide +kernel
theorem dX12_add_7 : decode cX12_add 7 = .ok (.aload_n 0, 1) := by decide +kernel
theorem dX12_add_8 : decode cX12_add 8 = .ok (.getfield 296, 3) := by decide +kernel
theorem dX12_add_11 : decode cX12_add 11 = .ok (.imul, 1) := by decide +kernel
theorem dX12_add_12 : decode cX12_add 12 = .ok (.aload_n 0, 1) := by decide +kernel
theorem dX12_add_13 : decode cX12_add 13 = .ok (.getfield 27, 3) := by decide +kernel
theorem dX12_add_16 : decode cX12_add 16 = .ok (.aload_n 0, 1) := by decide +kernel
theorem dX12_add_17 : decode cX12_add 17 = .ok (.getfield 296, 3) := by decide +kernel
theorem dX12_add_20 : decode cX12_add 20 = .ok (.iaload, 1) := by decide +kernel
theorem dX12_add_21 : decode cX12_add 21 = .ok (.iadd, 1) := by decide +kernel
theorem dX12_add_22 : decode cX12_add 22 = .ok (.iload_n 1, 1) := by decide +kernel
theorem dX12_add_23 : decode cX12_add 23 = .ok (.iastore, 1) := by decide +kernel
theorem dX12_add_24 : decode cX12_add 24 = .ok (.aload_n 0, 1) := by decide +kernel
theorem dX12_add_25 : decode cX12_add 25 = .ok (.getfield 24, 3) := by decide +kernel
theorem dX12_add_28 : decode cX12_add 28 = .ok (.sipush 320, 3) := by decide +kernel
theorem dX12_add_31 : decode cX12_add 31 = .ok (.aload_n 0, 1) := by decide +kernel
theorem dX12_add_32 : decode cX12_add 32 = .ok (.getfield 296, 3) := by decide +kernel
theorem dX12_add_35 : decode cX12_add 35 = .ok (.imul, 1) := by decide +kernel
theorem dX12_add_36 : decode cX12_add 36 = .ok (.aload_n 0, 1) := by decide +kernel
theorem dX12_add_37 : decode cX12_add 37 = .ok (.getfield 27, 3) := by decide +kernel
theorem dX12_add_40 : decode cX12_add 40 = .ok (.aload_n 0, 1) := by decide +kernel
theorem dX12_add_41 : decode cX12_add 41 = .ok (.getfield 296, 3) := by decide +kernel
theorem dX12_add_44 : decode cX12_add 44 = .ok (.iaload, 1) := by decide +kernel
theorem dX12_add_45 : decode cX12_add 45 = .ok (.iadd, 1) := by decide +kernel
theorem dX12_add_46 : decode cX12_add 46 = .ok (.iload_n 2, 1) := by decide +kernel
theorem dX12_add_47 : decode cX12_add 47 = .ok (.iastore, 1) := by decide +kernel
theorem dX12_add_48 : decode cX12_add 48 = .ok (.aload_n 0, 1) := by decide +kernel
theorem dX12_add_49 : decode cX12_add 49 = .ok (.getfield 27, 3) := by decide +kernel
theorem dX12_add_52 : decode cX12_add 52 = .ok (.aload_n 0, 1) := by decide +kernel
theorem dX12_add_53 : decode cX12_add 53 = .ok (.getfield 296, 3) := by decide +kernel
theorem dX12_add_56 : decode cX12_add 56 = .ok (.dup2, 1) := by decide +kernel
theorem dX12_add_57 : decode cX12_add 57 = .ok (.iaload, 1) := by decide +kernel
theorem dX12_add_58 : decode cX12_add 58 = .ok (.iconst 1, 1) := by decide +kernel
theorem dX12_add_59 : decode cX12_add 59 = .ok (.iadd, 1) := by decide +kernel
theorem dX12_add_60 : decode cX12_add 60 = .ok (.iastore, 1) := by decide +kernel
theorem dX12_add_61 : decode cX12_add 61 = .ok (.return_, 1) := by decide +kernel
theorem dX12_asked_0 : decode cX12_asked 0 = .ok (.aload_n 0, 1) := by decide +kernel
theorem dX12_asked_1 : decode cX12_asked 1 = .ok (.getfield 205, 3) := by decide +kernel
theorem dX12_asked_4 : decode cX12_asked 4 = .ok (.iconst 1, 1) := by decide +kernel
theorem dX12_asked_5 : decode cX12_asked 5 = .ok (.if_icmp .eq 5, 3) := by decide +kernel
theorem dX12_asked_8 : decode cX12_asked 8 = .ok (.iconst (-1), 1) := by decide +kernel
theorem dX12_asked_9 : decode cX12_asked 9 = .ok (.ireturn, 1) := by decide +kernel
theorem dX12_asked_10 : decode cX12_asked 10 = .ok (.aload_n 0, 1) := by decide +kernel
theorem dX12_asked_11 : decode cX12_asked 11 = .ok (.getfield 198, 3) := by decide +kernel
theorem dX12_asked_14 : decode cX12_asked 14 = .ok (.ldc2_w 223, 3) := by decide +kernel
theorem dX12_asked_17 : decode cX12_asked 17 = .ok (.lcmp, 1) := by decide +kernel
theorem dX12_asked_18 : decode cX12_asked 18 = .ok (.ifCond .ne 5, 3) := by decide +kernel
theorem dX12_asked_21 : decode cX12_asked 21 = .ok (.iconst 0, 1) := by decide +kernel
theorem dX12_asked_22 : decode cX12_asked 22 = .ok (.ireturn, 1) := by decide +kernel
theorem dX12_asked_23 : decode cX12_asked 23 = .ok (.aload_n 0, 1) := by decide +kernel
theorem dX12_asked_24 : decode cX12_asked 24 = .ok (.invokevirtual 245, 3) := by decide +kernel
theorem dX12_asked_27 : decode cX12_asked 27 = .ok (.ifCond .le 33, 3) := by decide +kernel
theorem dX12_asked_30 : decode cX12_asked 30 = .ok (.aload_n 0, 1) := by decide +kernel
theorem dX12_asked_31 : decode cX12_asked 31 = .ok (.invokevirtual 245, 3) := by decide +kernel
theorem dX12_asked_34 : decode cX12_asked 34 = .ok (.bipush 8, 2) := by decide +kernel
theorem dX12_asked_36 : decode cX12_asked 36 = .ok (.if_icmp .ne 7, 3) := by decide +kernel
theorem dX12_asked_39 : decode cX12_asked 39 = .ok (.iconst 4, 1) := by decide +kernel
theorem dX12_asked_40 : decode cX12_asked 40 = .ok (.goto 19, 3) := by decide +kernel
theorem dX12_asked_43 : decode cX12_asked 43 = .ok (.aload_n 0, 1) := by decide +kernel
theorem dX12_asked_44 : decode cX12_asked 44 = .ok (.invokevirtual 245, 3) := by decide +kernel
theorem dX12_asked_47 : decode cX12_asked 47 = .ok (.iconst 4, 1) := by decide +kernel
theorem dX12_asked_48 : decode cX12_asked 48 = .ok (.if_icmp .ne 7, 3) := by decide +kernel
theorem dX12_asked_51 : decode cX12_asked 51 = .ok (.iconst 3, 1) := by decide +kernel
theorem dX12_asked_52 : decode cX12_asked 52 = .ok (.goto 7, 3) := by decide +kernel
theorem dX12_asked_55 : decode cX12_asked 55 = .ok (.aload_n 0, 1) := by decide +kernel
theorem dX12_asked_56 : decode cX12_asked 56 = .ok (.invokevirtual 245, 3) := by decide +kernel
theorem dX12_asked_59 : decode cX12_asked 59 = .ok (.ireturn, 1) := by decide +kernel
theorem dX12_asked_60 : decode cX12_asked 60 = .ok (.aload_n 0, 1) := by decide +kernel
theorem dX12_asked_61 : decode cX12_asked 61 = .ok (.getfield 198, 3) := by decide +kernel
theorem dX12_asked_64 : decode cX12_asked 64 = .ok (.ldc2_w 249, 3) := by decide +kernel
theorem dX12_asked_67 : decode cX12_asked 67 = .ok (.lcmp, 1) := by decide +kernel
theorem dX12_asked_68 : decode cX12_asked 68 = .ok (.ifCond .ne 5, 3) := by decide +kernel
theorem dX12_asked_71 : decode cX12_asked 71 = .ok (.iconst 5, 1) := by decide +kernel
theorem dX12_asked_72 : decode cX12_asked 72 = .ok (.ireturn, 1) := by decide +kernel
theorem dX12_asked_73 : decode cX12_asked 73 = .ok (.aload_n 0, 1) := by decide +kernel
theorem dX12_asked_74 : decode cX12_asked 74 = .ok (.getfield 198, 3) := by decide +kernel
theorem dX12_asked_77 : decode cX12_asked 77 = .ok (.ldc2_w 251, 3) := by decide +kernel
theorem dX12_asked_80 : decode cX12_asked 80 = .ok (.lcmp, 1) := by decide +kernel
theorem dX12_asked_81 : decode cX12_asked 81 = .ok (.ifCond .ne 6, 3) := by decide +kernel
theorem dX12_asked_84 : decode cX12_asked 84 = .ok (.bipush 6, 2) := by decide +kernel
theorem dX12_asked_86 : decode cX12_asked 86 = .ok (.ireturn, 1) := by decide +kernel
theorem dX12_asked_87 : decode cX12_asked 87 = .ok (.aload_n 0, 1) := by decide +kernel
theorem dX12_asked_88 : decode cX12_asked 88 = .ok (.getfield 198, 3) := by decide +kernel
theorem dX12_asked_91 : decode cX12_asked 91 = .ok (.ldc2_w 253, 3) := by decide +kernel
theorem dX12_asked_94 : decode cX12_asked 94 = .ok (.lcmp, 1) := by decide +kernel
theorem dX12_asked_95 : decode cX12_asked 95 = .ok (.ifCond .ne 6, 3) := by decide +kernel
theorem dX12_asked_98 : decode cX12_asked 98 = .ok (.bipush 7, 2) := by decide +kernel
theorem dX12_asked_100 : decode cX12_asked 100 = .ok (.ireturn, 1) := by decide +kernel
theorem dX12_asked_101 : decode cX12_asked 101 = .ok (.aload_n 0, 1) := by decide +kernel
theorem dX12_asked_102 : decode cX12_asked 102 = .ok (.getfield 198, 3) := by decide +kernel
theorem dX12_asked_105 : decode cX12_asked 105 = .ok (.ldc2_w 255, 3) := by decide +kernel
theorem dX12_asked_108 : decode cX12_asked 108 = .ok (.lcmp, 1) := by decide +kernel
theorem dX12_asked_109 : decode cX12_asked 109 = .ok (.ifCond .ne 8, 3) := by decide +kernel
theorem dX12_asked_112 : decode cX12_asked 112 = .ok (.bipush 8, 2) := by decide +kernel
theorem dX12_asked_114 : decode cX12_asked 114 = .ok (.goto 4, 3) := by decide +kernel
theorem dX12_asked_117 : decode cX12_asked 117 = .ok (.iconst (-1), 1) := by decide +kernel
theorem dX12_asked_118 : decode cX12_asked 118 = .ok (.ireturn, 1) := by decide +kernel
theorem dX12_close_0 : decode cX12_close 0 = .ok (.aload_n 0, 1) := by decide +kernel
theorem dX12_close_1 : decode cX12_close 1 = .ok (.getfield 299, 3) := by decide +kernel
theorem dX12_close_4 : decode cX12_close 4 = .ok (.ifCond .le 97, 3) := by decide +kernel
theorem dX12_close_7 : decode cX12_close 7 = .ok (.aload_n 0, 1) := by decide +kernel
theorem dX12_close_8 : decode cX12_close 8 = .ok (.getfield 39, 3) := by decide +kernel
theorem dX12_close_11 : decode cX12_close 11 = .ok (.aload_n 0, 1) := by decide +kernel
theorem dX12_close_12 : decode cX12_close 12 = .ok (.getfield 299, 3) := by decide +kernel
theorem dX12_close_15 : decode cX12_close 15 = .ok (.iconst 1, 1) := by decide +kernel
theorem dX12_close_16 : decode cX12_close 16 = .ok (.isub, 1) := by decide +kernel
theorem dX12_close_17 : decode cX12_close 17 = .ok (.iaload, 1) := by decide +kernel
theorem dX12_close_18 : decode cX12_close 18 = .ok (.bipush 20, 2) := by decide +kernel
theorem dX12_close_20 : decode cX12_close 20 = .ok (.if_icmp .eq 81, 3) := by decide +kernel
theorem dX12_close_23 : decode cX12_close 23 = .ok (.aload_n 0, 1) := by decide +kernel
theorem dX12_close_24 : decode cX12_close 24 = .ok (.getfield 39, 3) := by decide +kernel
theorem dX12_close_27 : decode cX12_close 27 = .ok (.aload_n 0, 1) := by decide +kernel
theorem dX12_close_28 : decode cX12_close 28 = .ok (.getfield 299, 3) := by decide +kernel
theorem dX12_close_31 : decode cX12_close 31 = .ok (.iconst 1, 1) := by decide +kernel
theorem dX12_close_32 : decode cX12_close 32 = .ok (.isub, 1) := by decide +kernel
theorem dX12_close_33 : decode cX12_close 33 = .ok (.iaload, 1) := by decide +kernel
theorem dX12_close_34 : decode cX12_close 34 = .ok (.invokestatic 302, 3) := by decide +kernel
theorem dX12_close_37 : decode cX12_close 37 = .ok (.iload_n 1, 1) := by decide +kernel
theorem dX12_close_38 : decode cX12_close 38 = .ok (.if_icmp .lt 63, 3) := by decide +kernel
theorem dX12_close_41 : decode cX12_close 41 = .ok (.aload_n 0, 1) := by decide +kernel
theorem dX12_close_42 : decode cX12_close 42 = .ok (.dup, 1) := by decide +kernel
theorem dX12_close_43 : decode cX12_close 43 = .ok (.getfield 299, 3) := by decide +kernel
theorem dX12_close_46 : decode cX12_close 46 = .ok (.iconst 1, 1) := by decide +kernel
theorem dX12_close_47 : decode cX12_close 47 = .ok (.isub, 1) := by decide +kernel
theorem dX12_close_48 : decode cX12_close 48 = .ok (.putfield 299, 3) := by decide +kernel
theorem dX12_close_51 : decode cX12_close 51 = .ok (.aload_n 0, 1) := by decide +kernel
theorem dX12_close_52 : decode cX12_close 52 = .ok (.getfield 39, 3) := by decide +kernel
theorem dX12_close_55 : decode cX12_close 55 = .ok (.aload_n 0, 1) := by decide +kernel
theorem dX12_close_56 : decode cX12_close 56 = .ok (.getfield 299, 3) := by decide +kernel
theorem dX12_close_59 : decode cX12_close 59 = .ok (.iaload, 1) := by decide +kernel
theorem dX12_close_60 : decode cX12_close 60 = .ok (.bipush 21, 2) := by decide +kernel
theorem dX12_close_62 : decode cX12_close 62 = .ok (.if_icmp .ne 22, 3) := by decide +kernel
theorem dX12_close_65 : decode cX12_close 65 = .ok (.aload_n 0, 1) := by decide +kernel
theorem dX12_close_66 : decode cX12_close 66 = .ok (.iconst 2, 1) := by decide +kernel
theorem dX12_close_67 : decode cX12_close 67 = .ok (.iconst 0, 1) := by decide +kernel
theorem dX12_close_68 : decode cX12_close 68 = .ok (.invokevirtual 305, 3) := by decide +kernel
theorem dX12_close_71 : decode cX12_close 71 = .ok (.aload_n 0, 1) := by decide +kernel
theorem dX12_close_72 : decode cX12_close 72 = .ok (.dup, 1) := by decide +kernel
theorem dX12_close_73 : decode cX12_close 73 = .ok (.getfield 309, 3) := by decide +kernel
theorem dX12_close_76 : decode cX12_close 76 = .ok (.iconst 1, 1) := by decide +kernel
theorem dX12_close_77 : decode cX12_close 77 = .ok (.isub, 1) := by decide +kernel
theorem dX12_close_78 : decode cX12_close 78 = .ok (.putfield 309, 3) := by decide +kernel
theorem dX12_close_81 : decode cX12_close 81 = .ok (.goto (-81), 3) := by decide +kernel
theorem dX12_close_84 : decode cX12_close 84 = .ok (.aload_n 0, 1) := by decide +kernel
theorem dX12_close_85 : decode cX12_close 85 = .ok (.iconst 3, 1) := by decide +kernel
theorem dX12_close_86 : decode cX12_close 86 = .ok (.aload_n 0, 1) := by decide +kernel
theorem dX12_close_87 : decode cX12_close 87 = .ok (.getfield 39, 3) := by decide +kernel
theorem dX12_close_90 : decode cX12_close 90 = .ok (.aload_n 0, 1) := by decide +kernel
theorem dX12_close_91 : decode cX12_close 91 = .ok (.getfield 299, 3) := by decide +kernel
theorem dX12_close_94 : decode cX12_close 94 = .ok (.iaload, 1) := by decide +kernel
theorem dX12_close_95 : decode cX12_close 95 = .ok (.invokevirtual 305, 3) := by decide +kernel
theorem dX12_close_98 : decode cX12_close 98 = .ok (.goto (-98), 3) := by decide +kernel
theorem dX12_close_101 : decode cX12_close 101 = .ok (.return_, 1) := by decide +kernel
theorem dX12_hasBracket_0 : decode cX12_hasBracket 0 = .ok (.iconst 0, 1) := by decide +kernel
theorem dX12_hasBracket_1 : decode cX12_hasBracket 1 = .ok (.istore_n 1, 1) := by decide +kernel
theorem dX12_hasBracket_2 : decode cX12_hasBracket 2 = .ok (.iconst 0, 1) := by decide +kernel
theorem dX12_hasBracket_3 : decode cX12_hasBracket 3 = .ok (.istore_n 2, 1) := by decide +kernel
theorem dX12_hasBracket_4 : decode cX12_hasBracket 4 = .ok (.iload_n 2, 1) := by decide +kernel
theorem dX12_hasBracket_5 : decode cX12_hasBracket 5 = .ok (.aload_n 0, 1) := by decide +kernel
theorem dX12_hasBracket_6 : decode cX12_hasBracket 6 = .ok (.getfield 299, 3) := by decide +kernel
theorem dX12_hasBracket_9 : decode cX12_hasBracket 9 = .ok (.if_icmp .ge 30, 3) := by decide +kernel
theorem dX12_hasBracket_12 : decode cX12_hasBracket 12 = .ok (.iload_n 1, 1) := by decide +kernel
theorem dX12_hasBracket_13 : decode cX12_hasBracket 13 = .ok (.ifCond .ne 14, 3) := by decide +kernel
theorem dX12_hasBracket_16 : decode cX12_hasBracket 16 = .ok (.aload_n 0, 1) := by decide +kernel
theorem dX12_hasBracket_17 : decode cX12_hasBracket 17 = .ok (.getfield 39, 3) := by decide +kernel
theorem dX12_hasBracket_20 : decode cX12_hasBracket 20 = .ok (.iload_n 2, 1) := by decide +kernel
theorem dX12_hasBracket_21 : decode cX12_hasBracket 21 = .ok (.iaload, 1) := by decide +kernel
theorem dX12_hasBracket_22 : decode cX12_hasBracket 22 = .ok (.bipush 20, 2) := by decide +kernel
theorem dX12_hasBracket_24 : decode cX12_hasBracket 24 = .ok (.if_icmp .ne 7, 3) := by decide +kernel
theorem dX12_hasBracket_27 : decode cX12_hasBracket 27 = .ok (.iconst 1, 1) := by decide +kernel
theorem dX12_hasBracket_28 : decode cX12_hasBracket 28 = .ok (.goto 4, 3) := by decide +kernel
theorem dX12_hasBracket_31 : decode cX12_hasBracket 31 = .ok (.iconst 0, 1) := by decide +kernel
theorem dX12_hasBracket_32 : decode cX12_hasBracket 32 = .ok (.istore_n 1, 1) := by decide +kernel
theorem dX12_hasBracket_33 : decode cX12_hasBracket 33 = .ok (.iinc 2 1, 3) := by decide +kernel
theorem dX12_hasBracket_36 : decode cX12_hasBracket 36 = .ok (.goto (-32), 3) := by decide +kernel
theorem dX12_hasBracket_39 : decode cX12_hasBracket 39 = .ok (.iload_n 1, 1) := by decide +kernel
theorem dX12_hasBracket_40 : decode cX12_hasBracket 40 = .ok (.ireturn, 1) := by decide +kernel
theorem dX12_hasRelation_0 : decode cX12_hasRelation 0 = .ok (.aload_n 0, 1) := by decide +kernel
theorem dX12_hasRelation_1 : decode cX12_hasRelation 1 = .ok (.getfield 299, 3) := by decide +kernel
theorem dX12_hasRelation_4 : decode cX12_hasRelation 4 = .ok (.iconst 1, 1) := by decide +kernel
theorem dX12_hasRelation_5 : decode cX12_hasRelation 5 = .ok (.isub, 1) := by decide +kernel
theorem dX12_hasRelation_6 : decode cX12_hasRelation 6 = .ok (.istore_n 1, 1) := by decide +kernel
theorem dX12_hasRelation_7 : decode cX12_hasRelation 7 = .ok (.iload_n 1, 1) := by decide +kernel
theorem dX12_hasRelation_8 : decode cX12_hasRelation 8 = .ok (.ifCond .lt 33, 3) := by decide +kernel
theorem dX12_hasRelation_11 : decode cX12_hasRelation 11 = .ok (.aload_n 0, 1) := by decide +kernel
theorem dX12_hasRelation_12 : decode cX12_hasRelation 12 = .ok (.getfield 39, 3) := by decide +kernel
theorem dX12_hasRelation_15 : decode cX12_hasRelation 15 = .ok (.iload_n 1, 1) := by decide +kernel
theorem dX12_hasRelation_16 : decode cX12_hasRelation 16 = .ok (.iaload, 1) := by decide +kernel
theorem dX12_hasRelation_17 : decode cX12_hasRelation 17 = .ok (.bipush 20, 2) := by decide +kernel
theorem dX12_hasRelation_19 : decode cX12_hasRelation 19 = .ok (.if_icmp .eq 22, 3) := by decide +kernel
theorem dX12_hasRelation_22 : decode cX12_hasRelation 22 = .ok (.aload_n 0, 1) := by decide +kernel
theorem dX12_hasRelation_23 : decode cX12_hasRelation 23 = .ok (.getfield 39, 3) := by decide +kernel
theorem dX12_hasRelation_26 : decode cX12_hasRelation 26 = .ok (.iload_n 1, 1) := by decide +kernel
theorem dX12_hasRelation_27 : decode cX12_hasRelation 27 = .ok (.iaload, 1) := by decide +kernel
theorem dX12_hasRelation_28 : decode cX12_hasRelation 28 = .ok (.invokestatic 302, 3) := by decide +kernel
theorem dX12_hasRelation_31 : decode cX12_hasRelation 31 = .ok (.iconst 4, 1) := by decide +kernel
theorem dX12_hasRelation_32 : decode cX12_hasRelation 32 = .ok (.if_icmp .le 9, 3) := by decide +kernel
theorem dX12_hasRelation_35 : decode cX12_hasRelation 35 = .ok (.iinc 1 (-1), 3) := by decide +kernel
theorem dX12_hasRelation_38 : decode cX12_hasRelation 38 = .ok (.goto (-31), 3) := by decide +kernel
theorem dX12_hasRelation_41 : decode cX12_hasRelation 41 = .ok (.iload_n 1, 1) := by decide +kernel
theorem dX12_hasRelation_42 : decode cX12_hasRelation 42 = .ok (.ifCond .lt 31, 3) := by decide +kernel
theorem dX12_hasRelation_45 : decode cX12_hasRelation 45 = .ok (.aload_n 0, 1) := by decide +kernel
theorem dX12_hasRelation_46 : decode cX12_hasRelation 46 = .ok (.getfield 39, 3) := by decide +kernel
theorem dX12_hasRelation_49 : decode cX12_hasRelation 49 = .ok (.iload_n 1, 1) := by decide +kernel
theorem dX12_hasRelation_50 : decode cX12_hasRelation 50 = .ok (.iaload, 1) := by decide +kernel
theorem dX12_hasRelation_51 : decode cX12_hasRelation 51 = .ok (.bipush 20, 2) := by decide +kernel
theorem dX12_hasRelation_53 : decode cX12_hasRelation 53 = .ok (.if_icmp .eq 20, 3) := by decide +kernel
theorem dX12_hasRelation_56 : decode cX12_hasRelation 56 = .ok (.aload_n 0, 1) := by decide +kernel
theorem dX12_hasRelation_57 : decode cX12_hasRelation 57 = .ok (.getfield 39, 3) := by decide +kernel
theorem dX12_hasRelation_60 : decode cX12_hasRelation 60 = .ok (.iload_n 1, 1) := by decide +kernel
theorem dX12_hasRelation_61 : decode cX12_hasRelation 61 = .ok (.iaload, 1) := by decide +kernel
theorem dX12_hasRelation_62 : decode cX12_hasRelation 62 = .ok (.invokestatic 302, 3) := by decide +kernel
theorem dX12_hasRelation_65 : decode cX12_hasRelation 65 = .ok (.iconst 4, 1) := by decide +kernel
theorem dX12_hasRelation_66 : decode cX12_hasRelation 66 = .ok (.if_icmp .ne 7, 3) := by decide +kernel
theorem dX12_hasRelation_69 : decode cX12_hasRelation 69 = .ok (.iconst 1, 1) := by decide +kernel
theorem dX12_hasRelation_70 : decode cX12_hasRelation 70 = .ok (.goto 4, 3) := by decide +kernel
theorem dX12_hasRelation_73 : decode cX12_hasRelation 73 = .ok (.iconst 0, 1) := by decide +kernel
theorem dX12_hasRelation_74 : decode cX12_hasRelation 74 = .ok (.ireturn, 1) := by decide +kernel
theorem dX12_mayNot_0 : decode cX12_mayNot 0 = .ok (.aload_n 0, 1) := by decide +kernel
theorem dX12_mayNot_1 : decode cX12_mayNot 1 = .ok (.getfield 299, 3) := by decide +kernel
theorem dX12_mayNot_4 : decode cX12_mayNot 4 = .ok (.ifCond .eq 37, 3) := by decide +kernel
theorem dX12_mayNot_7 : decode cX12_mayNot 7 = .ok (.aload_n 0, 1) := by decide +kernel
theorem dX12_mayNot_8 : decode cX12_mayNot 8 = .ok (.getfield 39, 3) := by decide +kernel
theorem dX12_mayNot_11 : decode cX12_mayNot 11 = .ok (.aload_n 0, 1) := by decide +kernel
theorem dX12_mayNot_12 : decode cX12_mayNot 12 = .ok (.getfield 299, 3) := by decide +kernel
theorem dX12_mayNot_15 : decode cX12_mayNot 15 = .ok (.iconst 1, 1) := by decide +kernel
theorem dX12_mayNot_16 : decode cX12_mayNot 16 = .ok (.isub, 1) := by decide +kernel
theorem dX12_mayNot_17 : decode cX12_mayNot 17 = .ok (.iaload, 1) := by decide +kernel
theorem dX12_mayNot_18 : decode cX12_mayNot 18 = .ok (.bipush 20, 2) := by decide +kernel
theorem dX12_mayNot_20 : decode cX12_mayNot 20 = .ok (.if_icmp .eq 21, 3) := by decide +kernel
theorem dX12_mayNot_23 : decode cX12_mayNot 23 = .ok (.aload_n 0, 1) := by decide +kernel
theorem dX12_mayNot_24 : decode cX12_mayNot 24 = .ok (.getfield 39, 3) := by decide +kernel
theorem dX12_mayNot_27 : decode cX12_mayNot 27 = .ok (.aload_n 0, 1) := by decide +kernel
theorem dX12_mayNot_28 : decode cX12_mayNot 28 = .ok (.getfield 299, 3) := by decide +kernel
theorem dX12_mayNot_31 : decode cX12_mayNot 31 = .ok (.iconst 1, 1) := by decide +kernel
theorem dX12_mayNot_32 : decode cX12_mayNot 32 = .ok (.isub, 1) := by decide +kernel
theorem dX12_mayNot_33 : decode cX12_mayNot 33 = .ok (.iaload, 1) := by decide +kernel
theorem dX12_mayNot_34 : decode cX12_mayNot 34 = .ok (.invokestatic 302, 3) := by decide +kernel
theorem dX12_mayNot_37 : decode cX12_mayNot 37 = .ok (.iconst 4, 1) := by decide +kernel
theorem dX12_mayNot_38 : decode cX12_mayNot 38 = .ok (.if_icmp .ge 7, 3) := by decide +kernel
theorem dX12_mayNot_41 : decode cX12_mayNot 41 = .ok (.iconst 1, 1) := by decide +kernel
theorem dX12_mayNot_42 : decode cX12_mayNot 42 = .ok (.goto 4, 3) := by decide +kernel
theorem dX12_mayNot_45 : decode cX12_mayNot 45 = .ok (.iconst 0, 1) := by decide +kernel
theorem dX12_mayNot_46 : decode cX12_mayNot 46 = .ok (.ireturn, 1) := by decide +kernel
set_option maxHeartbeats 4000000 in
set_option maxRecDepth 100000 in
theorem n_hasBracket (l : Launch) (D : va_G) (k : KT) (A : Nat → Prop) (a : Nat → Nat) (z : SK) (G : GS)   : Met l yX12_hasBracket (WS yX12_hasBracket cX12_hasBracket 3 (some .boolean)) ({ frames := 0, cells := 0, slots := 0, locals := 0 }) (va_Pc [.ref (a 66)] (cW D k A a z G)) (va_Qi (fun (r : Int32) (G1 : GS) => Bd G1 ∧ Fr [] [] G G1 ∧ (0 ≤ r.toInt ∧ r.toInt ≤ 1) ∧ (r.toInt = 1 → 1 ≤ gK G)) (fun (G1 : GS) t => Wd D k A a G1 t.heap) A) 0 0 A := by
  refine Met.ofW (cc := cX12_hasBracket) (maxL := 3) (ret := (some .boolean)) (by decide) rfl ?_
  intro p e s m args below meth c s₁ B hml hv
  obtain ⟨rfl, hW, hB_G, hK, hZ⟩ := hv
  have hx := B.exec
  have hb := B.bytes
  have hr := B.returns
  have hts := atoms_spec (ws := WS yX12_hasBracket cX12_hasBracket 3 (some .boolean)) B.pre
  have hgd : ∀ w ∈ gd, w ∈ WS yX12_hasBracket cX12_hasBracket 3 (some .boolean) := fun w h => List.mem_cons_of_mem _ h
  have hg : ∀ w ∈ gd, w.before _ s = true := fun w h => hts w (hgd w h)
  have hown : s.vm.findClass RX12 = some m.cls := findClass_of_methodNamed B.named
  have hS : va_S A s.heap s.heap [] := va_S.rf
  have hF : Fr [] [] G G := Fr.rf
  have hl := lv_entry ([.ref (a 66)]) (n := 3) (Nat.le_of_ble_eq_true rfl)
  rw [lg_entry_eq]
  generalize (lg_sl ([.ref (a 66)]) ++ List.replicate (3 - (lg_sl ([.ref (a 66)])).length) Slot.unset).toArray = ls at hl ⊢
  have hl : lv_has ls 3 [(0, .ref (a 66))] := hl
  refine lv_iconst (v := 0) hx hb dX12_hasBracket_0 (by decide) ?_
  refine lv_istore_n (lv' := [(1, .int 0), (0, .ref (a 66))]) hx hb dX12_hasBracket_1 rfl hl (by decide) rfl (fun ls hl => ?_)
  refine lv_iconst (v := 0) hx hb dX12_hasBracket_2 (by decide) ?_
  have u_1 := bk_mono (G.1 75) (0 : Int32).toInt
  refine lv_istore_n (lv' := [(2, .int 0), (1, .int 0), (0, .ref (a 66))]) hx hb dX12_hasBracket_3 rfl hl (by decide) rfl (fun ls hl => ?_)
  have b_8 : 0 ≤ (G.1 66 20).toInt ∧ (G.1 66 20).toInt ≤ 160 := hB_G.i 66 20 rfl rfl
  have qc_9 : (0 : Int32).toInt = 0 := rfl
  refine loop_N (Inv := fun n H locs ls => ∃ (G_2 : GS) (x_6 : Int32) (x_7 : Int32), (n : Int) = 160 - x_6.toInt ∧ (0 ≤ x_6.toInt ∧ x_6.toInt ≤ 160) ∧ (0 ≤ x_7.toInt ∧ x_7.toInt ≤ 1) ∧ (x_7.toInt ≤ bkI (G.1 75) x_6.toInt) ∧ (x_6.toInt ≤ (G.1 66 20).toInt) ∧ Wd D k A a G_2 H ∧ Bd G_2 ∧ Fr [] [] G G_2 ∧ Fr [] [] G G_2 ∧ va_S A s.heap H locs ∧ lv_has ls 3 [(2, .int x_6), (1, .int x_7), (0, .ref (a 66))]) (fun n_5 H locs ls ih_4 hI => ?_) (160 - 0 : Int).toNat ⟨G, 0, 0, (Int.toNat_of_nonneg (by omega)), ⟨by omega, by omega⟩, ⟨by omega, by omega⟩, (by omega), (by omega), hW, hB_G, hF, Fr.rf, hS, lv_sub hl [0, 1, 2] rfl⟩
  obtain ⟨G_2, x_6, x_7, hn_14, f_10, f_11, f_12, f_13, hW, hB_G_2, hF, hq_3, hS, hl⟩ := hI
  refine lv_iload_n hx hb dX12_hasBracket_4 rfl (lv_at hl 0 rfl) ?_
  refine lv_aload_n hx hb dX12_hasBracket_5 rfl (lv_at hl 2 rfl) ?_
  refine S_getI (v := (G.1 66 20)) (C := RX12) (T := TX12) (N := 89) hx hb hg iX12 hown hK hW kd_66 rfl 20 (by decide) (hg (Cond.fieldLink RX12 299 "SlabWalkModel" "opens" "I") m1334) (fun _ h9 => h9) rfl ((hq_3.i 66 20 (by decide) (by decide)).trans (rfl)) dX12_hasBracket_6 ?_
  refine lv_icmp_ge (tgt := 39) hx hb dX12_hasBracket_9 (by decide) (fun c_15 => ?_) (fun c_15 => ?_)
  · have c_15 : (G.1 66 20).toInt ≤ x_6.toInt := xI_le rfl rfl c_15
    have u_16 := bk_all (G := G) (x := x_6) (by omega) (by omega)
    refine lv_iload_n hx hb dX12_hasBracket_39 rfl (lv_at hl 1 rfl) ?_
    exact W.zret (v := x_7) hx hb hr (nar_z (by omega) (by omega)) (fun t ht _ => ⟨⟨x_7, G_2, rfl, ⟨hB_G_2, hF, ⟨by omega, by omega⟩, (by omega)⟩, wd_t ht hW⟩, hS.F ht⟩) hS.2.2 dX12_hasBracket_40
  · have c_15 : x_6.toInt < (G.1 66 20).toInt := xI_nle rfl rfl c_15
    refine lv_iload_n hx hb dX12_hasBracket_12 rfl (lv_at hl 1 rfl) ?_
    refine lv_if_ne (tgt := 27) hx hb dX12_hasBracket_13 (by decide) (fun c_17 => ?_) (fun c_17 => ?_)
    · have c_17 : x_7.toInt ≠ 0 := xI_ne rfl rfl c_17
      refine lv_iconst (v := 1) hx hb dX12_hasBracket_27 (by decide) ?_
      refine lv_goto (tgt := 32) hx hb dX12_hasBracket_28 (by decide) ?_
      refine lv_istore_n (lv' := [(1, .int 1), (2, .int x_6), (0, .ref (a 66))]) hx hb dX12_hasBracket_32 rfl hl (by decide) rfl (fun ls hl => ?_)
      have u_18 := bk_mono (G.1 75) x_6.toInt
      obtain ⟨y_19, ey_19⟩ : ∃ q, q = x_6 + 1 := ⟨_, rfl⟩
      have ty_19 : y_19.toInt = x_6.toInt + 1 := xI_add rfl rfl ey_19 (by omega) (by omega)
      refine lv_iinc (v := y_19) (lv' := [(2, .int y_19), (1, .int 1), (0, .ref (a 66))]) hx hb dX12_hasBracket_33 hl (k := 1) rfl (by rw [ey_19]; rfl) (by decide) rfl (fun ls hl => ?_)
      have u_20 : bkI (G.1 75) y_19.toInt = bkI (G.1 75) (x_6.toInt + 1) := by rw [ty_19]
      refine lv_goto (tgt := 4) hx hb dX12_hasBracket_36 (by decide) ?_
      have qc_21 : (1 : Int32).toInt = 1 := rfl
      exact ih_4 (160 - y_19.toInt : Int).toNat (by omega) _ _ _ ⟨G_2, y_19, 1, (Int.toNat_of_nonneg (by omega)), ⟨by omega, by omega⟩, ⟨by omega, by omega⟩, (by omega), (by omega), hW, hB_G_2, hF, (Fr.rf.call hq_3 (by decide) (by decide)), hS, lv_sub hl [0, 1, 2] rfl⟩
    · have c_17 : x_7.toInt = 0 := xI_eq rfl rfl c_17
      refine lv_aload_n hx hb dX12_hasBracket_16 rfl (lv_at hl 2 rfl) ?_
      refine S_getR (n := 75) (C := RX12) (T := TX12) (N := 89) hx hb hg iX12 hown hK hW kd_66 rfl 17 (by decide) (hg (Cond.fieldLink RX12 39 "SlabWalkModel" "open" "[I") m1331) (fun _ h9 => h9) rfl dX12_hasBracket_17 ?_
      refine lv_iload_n hx hb dX12_hasBracket_20 rfl (lv_at hl 0 rfl) ?_
      refine S_iald hx hb hK hW kd_75 (vin (by omega) (by omega)) dX12_hasBracket_21 (fun y_22 ey_22 => ?_)
      have u_23 : y_22.toInt = (G.1 75 x_6.toNatClampNeg).toInt := congrArg Int32.toInt (ey_22.trans ((hq_3.ri 75 (by decide) (by decide) x_6.toNatClampNeg)))
      have u_24 := bk_step (f := G.1 75) (x := x_6) (y := y_22) (by omega) (by omega)
      refine lv_bipush (v := 20) hx hb dX12_hasBracket_22 (by decide) ?_
      refine lv_icmp_ne (tgt := 31) hx hb dX12_hasBracket_24 (by decide) (fun c_25 => ?_) (fun c_25 => ?_)
      · have c_25 : y_22.toInt ≠ 20 := xI_ne rfl rfl c_25
        refine lv_iconst (v := 0) hx hb dX12_hasBracket_31 (by decide) ?_
        refine lv_istore_n (lv' := [(1, .int 0), (2, .int x_6), (0, .ref (a 66))]) hx hb dX12_hasBracket_32 rfl hl (by decide) rfl (fun ls hl => ?_)
        have u_26 := bk_mono (G.1 75) x_6.toInt
        obtain ⟨y_27, ey_27⟩ : ∃ q, q = x_6 + 1 := ⟨_, rfl⟩
        have ty_27 : y_27.toInt = x_6.toInt + 1 := xI_add rfl rfl ey_27 (by omega) (by omega)
        refine lv_iinc (v := y_27) (lv' := [(2, .int y_27), (1, .int 0), (0, .ref (a 66))]) hx hb dX12_hasBracket_33 hl (k := 1) rfl (by rw [ey_27]; rfl) (by decide) rfl (fun ls hl => ?_)
        have u_28 : bkI (G.1 75) y_27.toInt = bkI (G.1 75) (x_6.toInt + 1) := by rw [ty_27]
        refine lv_goto (tgt := 4) hx hb dX12_hasBracket_36 (by decide) ?_
        have qc_29 : (0 : Int32).toInt = 0 := rfl
        exact ih_4 (160 - y_27.toInt : Int).toNat (by omega) _ _ _ ⟨G_2, y_27, 0, (Int.toNat_of_nonneg (by omega)), ⟨by omega, by omega⟩, ⟨by omega, by omega⟩, (by omega), (by omega), hW, hB_G_2, hF, (Fr.rf.call hq_3 (by decide) (by decide)), hS, lv_sub hl [0, 1, 2] rfl⟩
      · have c_25 : y_22.toInt = 20 := xI_eq rfl rfl c_25
        refine lv_iconst (v := 1) hx hb dX12_hasBracket_27 (by decide) ?_
        refine lv_goto (tgt := 32) hx hb dX12_hasBracket_28 (by decide) ?_
        refine lv_istore_n (lv' := [(1, .int 1), (2, .int x_6), (0, .ref (a 66))]) hx hb dX12_hasBracket_32 rfl hl (by decide) rfl (fun ls hl => ?_)
        have u_30 := bk_mono (G.1 75) x_6.toInt
        obtain ⟨y_31, ey_31⟩ : ∃ q, q = x_6 + 1 := ⟨_, rfl⟩
        have ty_31 : y_31.toInt = x_6.toInt + 1 := xI_add rfl rfl ey_31 (by omega) (by omega)
        refine lv_iinc (v := y_31) (lv' := [(2, .int y_31), (1, .int 1), (0, .ref (a 66))]) hx hb dX12_hasBracket_33 hl (k := 1) rfl (by rw [ey_31]; rfl) (by decide) rfl (fun ls hl => ?_)
        have u_32 : bkI (G.1 75) y_31.toInt = bkI (G.1 75) (x_6.toInt + 1) := by rw [ty_31]
        refine lv_goto (tgt := 4) hx hb dX12_hasBracket_36 (by decide) ?_
        have qc_33 : (1 : Int32).toInt = 1 := rfl
        exact ih_4 (160 - y_31.toInt : Int).toNat (by omega) _ _ _ ⟨G_2, y_31, 1, (Int.toNat_of_nonneg (by omega)), ⟨by omega, by omega⟩, ⟨by omega, by omega⟩, (by omega), (by omega), hW, hB_G_2, hF, (Fr.rf.call hq_3 (by decide) (by decide)), hS, lv_sub hl [0, 1, 2] rfl⟩

set_option maxHeartbeats 4000000 in
set_option maxRecDepth 100000 in
theorem n_add (l : Launch) (D : va_G) (k : KT) (A : Nat → Prop) (a : Nat → Nat) (z : SK) (G : GS) (p0 : Int32) (p1 : Int32) (ha_p0 : 0 ≤ p0.toInt ∧ p0.toInt ≤ 3) (hgm9 : gM G ≤ 319) : Met l yX12_add (WS yX12_add cX12_add 3 none) ({ frames := 0, cells := 0, slots := 0, locals := 0 }) (va_Pc [.ref (a 66), .int p0, .int p1] (cW D k A a z G)) (va_Qv (fun (G1 : GS) => Bd G1 ∧ Fr [69, 70, 71] [] G G1 ∧ (gM G1 = gM G + 1 ∧ (p0.toInt ≤ 1 → gD G1 = gD G + 1) ∧ (p0.toInt = 2 → gD G1 = gD G) ∧ (p0.toInt = 3 → gD G1 = gD G - 1) ∧ (gC G = 1 → 0 ≤ gD G → gD G ≤ 40 → (2 ≤ p0.toInt → 1 ≤ gD G) → (3 ≤ p0.toInt → 2 ≤ gD G) → gC G1 = 1))) (fun (G1 : GS) t => Wd D k A a G1 t.heap) A) 0 0 A := by
  refine Met.ofW (cc := cX12_add) (maxL := 3) (ret := none) (by decide) rfl ?_
  intro p e s m args below meth c s₁ B hml hv
  obtain ⟨rfl, hW, hB_G, hK, hZ⟩ := hv
  have hx := B.exec
  have hb := B.bytes
  have hr := B.returns
  have hts := atoms_spec (ws := WS yX12_add cX12_add 3 none) B.pre
  have hgd : ∀ w ∈ gd, w ∈ WS yX12_add cX12_add 3 none := fun w h => List.mem_cons_of_mem _ h
  have hg : ∀ w ∈ gd, w.before _ s = true := fun w h => hts w (hgd w h)
  have hown : s.vm.findClass RX12 = some m.cls := findClass_of_methodNamed B.named
  have hS : va_S A s.heap s.heap [] := va_S.rf
  have hF : Fr [69, 70, 71] [] G G := Fr.rf
  have hl := lv_entry ([.ref (a 66), .int p0, .int p1]) (n := 3) (Nat.le_of_ble_eq_true rfl)
  rw [lg_entry_eq]
  generalize (lg_sl ([.ref (a 66), .int p0, .int p1]) ++ List.replicate (3 - (lg_sl ([.ref (a 66), .int p0, .int p1])).length) Slot.unset).toArray = ls at hl ⊢
  have hl : lv_has ls 3 [(0, .ref (a 66)), (1, .int p0), (2, .int p1)] := hl
  have hgm : gM G = (G.1 71 (G.1 66 19).toNatClampNeg).toInt := rfl
  refine lv_aload_n hx hb dX12_add_0 rfl (lv_at hl 0 rfl) ?_
  refine S_getR (n := 69) (C := RX12) (T := TX12) (N := 89) hx hb hg iX12 hown hK hW kd_66 rfl 11 (by decide) (hg (Cond.fieldLink RX12 21 "SlabWalkModel" "nStep" "[I") m1325) (fun _ h9 => h9) rfl dX12_add_1 ?_
  refine lv_sipush (v := 320) hx hb dX12_add_4 (by decide) ?_
  refine lv_aload_n hx hb dX12_add_7 rfl (lv_at hl 0 rfl) ?_
  have b_1 : 0 ≤ (G.1 66 19).toInt ∧ (G.1 66 19).toInt ≤ 5 := hB_G.i 66 19 rfl rfl
  refine S_getI (v := (G.1 66 19)) (C := RX12) (T := TX12) (N := 89) hx hb hg iX12 hown hK hW kd_66 rfl 19 (by decide) (hg (Cond.fieldLink RX12 296 "SlabWalkModel" "form" "I") m1333) (fun _ h9 => h9) rfl rfl dX12_add_8 ?_
  refine lv_imul hx hb dX12_add_11 ?_
  refine lv_topi (fun y_2 ey_2 => ?_)
  have ty_2 : y_2.toInt = 320 * (G.1 66 19).toInt := xI_mul rfl rfl ey_2 (by omega) (by omega)
  refine lv_aload_n hx hb dX12_add_12 rfl (lv_at hl 0 rfl) ?_
  refine S_getR (n := 71) (C := RX12) (T := TX12) (N := 89) hx hb hg iX12 hown hK hW kd_66 rfl 13 (by decide) (hg (Cond.fieldLink RX12 27 "SlabWalkModel" "nMany" "[I") m1327) (fun _ h9 => h9) rfl dX12_add_13 ?_
  refine lv_aload_n hx hb dX12_add_16 rfl (lv_at hl 0 rfl) ?_
  refine S_getI (v := (G.1 66 19)) (C := RX12) (T := TX12) (N := 89) hx hb hg iX12 hown hK hW kd_66 rfl 19 (by decide) (hg (Cond.fieldLink RX12 296 "SlabWalkModel" "form" "I") m1333) (fun _ h9 => h9) rfl rfl dX12_add_17 ?_
  refine S_iald hx hb hK hW kd_71 (vin (by omega) (by omega)) dX12_add_20 (fun y_3 ey_3 => ?_)
  have ty_3 : 0 ≤ y_3.toInt ∧ y_3.toInt ≤ 320 := hB_G.v ey_3 rfl rfl
  have u_4 : y_3.toInt = (G.1 71 (G.1 66 19).toNatClampNeg).toInt := congrArg Int32.toInt (ey_3)
  refine lv_iadd hx hb dX12_add_21 ?_
  refine lv_topi (fun y_5 ey_5 => ?_)
  have ty_5 : y_5.toInt = y_2.toInt + y_3.toInt := xI_add rfl rfl ey_5 (by omega) (by omega)
  refine lv_iload_n hx hb dX12_add_22 rfl (lv_at hl 1 rfl) ?_
  refine S_iast hx hb hK hW hS kd_69 (vin (by omega) (by omega)) dX12_add_23 (fun G_6 H locs eG_6 hW hS => ?_)
  have hB_G_6 : Bd G_6 := hB_G.put (lo := (-2147483648)) (hi := 2147483647) eG_6 rfl rfl rfl (tI_rng _).1 (tI_rng _).2 (hB_G.2.put eG_6 rfl)
  have hF := hF.put eG_6 (Or.inl (by decide))
  refine lv_aload_n hx hb dX12_add_24 rfl (lv_at hl 0 rfl) ?_
  refine S_getR (n := 70) (C := RX12) (T := TX12) (N := 89) hx hb hg iX12 hown hK hW kd_66 rfl 12 (by decide) (hg (Cond.fieldLink RX12 24 "SlabWalkModel" "nArg" "[I") m1326) (fun _ h9 => h9) rfl dX12_add_25 ?_
  refine lv_sipush (v := 320) hx hb dX12_add_28 (by decide) ?_
  refine lv_aload_n hx hb dX12_add_31 rfl (lv_at hl 0 rfl) ?_
  refine S_getI (v := (G.1 66 19)) (C := RX12) (T := TX12) (N := 89) hx hb hg iX12 hown hK hW kd_66 rfl 19 (by decide) (hg (Cond.fieldLink RX12 296 "SlabWalkModel" "form" "I") m1333) (fun _ h9 => h9) rfl ((gp_ne eG_6 (fun q => absurd q.1 (by decide))).trans (rfl)) dX12_add_32 ?_
  refine lv_imul hx hb dX12_add_35 ?_
  refine lv_topi (fun y_7 ey_7 => ?_)
  have ty_7 : y_7.toInt = 320 * (G.1 66 19).toInt := xI_mul rfl rfl ey_7 (by omega) (by omega)
  refine lv_aload_n hx hb dX12_add_36 rfl (lv_at hl 0 rfl) ?_
  refine S_getR (n := 71) (C := RX12) (T := TX12) (N := 89) hx hb hg iX12 hown hK hW kd_66 rfl 13 (by decide) (hg (Cond.fieldLink RX12 27 "SlabWalkModel" "nMany" "[I") m1327) (fun _ h9 => h9) rfl dX12_add_37 ?_
  refine lv_aload_n hx hb dX12_add_40 rfl (lv_at hl 0 rfl) ?_
  refine S_getI (v := (G.1 66 19)) (C := RX12) (T := TX12) (N := 89) hx hb hg iX12 hown hK hW kd_66 rfl 19 (by decide) (hg (Cond.fieldLink RX12 296 "SlabWalkModel" "form" "I") m1333) (fun _ h9 => h9) rfl ((gp_ne eG_6 (fun q => absurd q.1 (by decide))).trans (rfl)) dX12_add_41 ?_
  refine S_iald hx hb hK hW kd_71 (vin (by omega) (by omega)) dX12_add_44 (fun y_8 ey_8 => ?_)
  have ty_8 : 0 ≤ y_8.toInt ∧ y_8.toInt ≤ 320 := hB_G_6.v ey_8 rfl rfl
  have u_9 : y_8.toInt = y_3.toInt := congrArg Int32.toInt (ey_8.trans (((gp_ne eG_6 (fun q => absurd q.1 (by decide))).trans (ey_3.symm))))
  refine lv_iadd hx hb dX12_add_45 ?_
  refine lv_topi (fun y_10 ey_10 => ?_)
  have ty_10 : y_10.toInt = y_7.toInt + y_8.toInt := xI_add rfl rfl ey_10 (by omega) (by omega)
  refine lv_iload_n hx hb dX12_add_46 rfl (lv_at hl 2 rfl) ?_
  refine S_iast hx hb hK hW hS kd_70 (vin (by omega) (by omega)) dX12_add_47 (fun G_11 H locs eG_11 hW hS => ?_)
  have hB_G_11 : Bd G_11 := hB_G_6.put (lo := (-2147483648)) (hi := 2147483647) eG_11 rfl rfl rfl (tI_rng _).1 (tI_rng _).2 (hB_G_6.2.put eG_11 rfl)
  have hF := hF.put eG_11 (Or.inl (by decide))
  refine lv_aload_n hx hb dX12_add_48 rfl (lv_at hl 0 rfl) ?_
  refine S_getR (n := 71) (C := RX12) (T := TX12) (N := 89) hx hb hg iX12 hown hK hW kd_66 rfl 13 (by decide) (hg (Cond.fieldLink RX12 27 "SlabWalkModel" "nMany" "[I") m1327) (fun _ h9 => h9) rfl dX12_add_49 ?_
  refine lv_aload_n hx hb dX12_add_52 rfl (lv_at hl 0 rfl) ?_
  refine S_getI (v := (G.1 66 19)) (C := RX12) (T := TX12) (N := 89) hx hb hg iX12 hown hK hW kd_66 rfl 19 (by decide) (hg (Cond.fieldLink RX12 296 "SlabWalkModel" "form" "I") m1333) (fun _ h9 => h9) rfl ((gp_ne eG_11 (fun q => absurd q.1 (by decide))).trans ((gp_ne eG_6 (fun q => absurd q.1 (by decide))).trans (rfl))) dX12_add_53 ?_
  refine lv_dup2_11 hx hb dX12_add_56 rfl rfl ?_
  refine S_iald hx hb hK hW kd_71 (vin (by omega) (by omega)) dX12_add_57 (fun y_12 ey_12 => ?_)
  have ty_12 : 0 ≤ y_12.toInt ∧ y_12.toInt ≤ 320 := hB_G_11.v ey_12 rfl rfl
  have u_13 : y_12.toInt = y_8.toInt := congrArg Int32.toInt (ey_12.trans (((gp_ne eG_11 (fun q => absurd q.1 (by decide))).trans (ey_8.symm))))
  refine lv_iconst (v := 1) hx hb dX12_add_58 (by decide) ?_
  refine lv_iadd hx hb dX12_add_59 ?_
  refine lv_topi (fun y_14 ey_14 => ?_)
  have ty_14 : y_14.toInt = y_12.toInt + 1 := xI_add rfl rfl ey_14 (by omega) (by omega)
  refine S_iast hx hb hK hW hS kd_71 (vin (by omega) (by omega)) dX12_add_60 (fun G_15 H locs eG_15 hW hS => ?_)
  have hB_G_15 : Bd G_15 := hB_G_11.put (V := y_14.toInt) (lo := 0) (hi := 320) eG_15 rfl rfl rfl (by omega) (by omega) (hB_G_11.2.put eG_15 rfl)
  have hF := hF.put eG_15 (Or.inl (by decide))
  exact W.vret hx hb hr (fun t ht _ => ⟨⟨G_15, rfl, ⟨hB_G_15, hF, (add_gh hB_G ((gp_ne eG_15 (fun q => absurd q.1 (by decide))).trans ((gp_ne eG_11 (fun q => absurd q.1 (by decide))).trans ((gp_ne eG_6 (fun q => absurd q.1 (by decide))).trans (rfl)))) ha_p0.1 ha_p0.2 hgm9 (x := y_5) (by omega) (fun j hj => ((gp_ne eG_15 (fun q => absurd q.1 (by decide))).trans ((gp_ne eG_11 (fun q => absurd q.1 (by decide))).trans (gp_ne eG_6 (fun q => hj q.2))))) ((gp_ne eG_15 (fun q => absurd q.1 (by decide))).trans ((gp_ne eG_11 (fun q => absurd q.1 (by decide))).trans (gp_eq eG_6))) (fun j hj => ((gp_ne eG_15 (fun q => hj q.2)).trans ((gp_ne eG_11 (fun q => absurd q.1 (by decide))).trans (gp_ne eG_6 (fun q => absurd q.1 (by decide)))))) (by rw [show G_15.1 71 (G.1 66 19).toNatClampNeg = y_14 from (gp_eq eG_15)]; omega))⟩, wd_t ht hW⟩, hS.F ht⟩) hS.2.2 dX12_add_61

set_option maxHeartbeats 4000000 in
set_option maxRecDepth 100000 in
theorem n_close (l : Launch) (D : va_G) (k : KT) (A : Nat → Prop) (a : Nat → Nat) (z : SK) (G : GS) (p0 : Int32) (hcl : gC G = 1 ∧ gD G = gB G + 1 ∧ (G.1 66 24).toInt = (G.1 66 20).toInt - gB G ∧ gM G + (G.1 66 20).toInt ≤ 310 ∧ gD G ≤ 40) : Met l yX12_close (WS yX12_close cX12_close 2 none) ({ frames := 1, cells := 0, slots := 0, locals := 22 }) (va_Pc [.ref (a 66), .int p0] (cW D k A a z G)) (va_Qv (fun (G1 : GS) => Bd G1 ∧ Fr [69, 70, 71] [(66, 20), (66, 24)] G G1 ∧ (gC G1 = 1 ∧ gD G1 = gB G1 + 1 ∧ (G1.1 66 24).toInt = (G1.1 66 20).toInt - gB G1 ∧ gM G1 + (G1.1 66 20).toInt = gM G + (G.1 66 20).toInt ∧ gK G1 = gK G ∧ (G1.1 66 20).toInt ≤ (G.1 66 20).toInt ∧ gD G1 ≤ gD G ∧ (G1.1 66 24).toInt ≤ (G.1 66 24).toInt ∧ ((G1.1 66 20).toInt = 0 ∨ gT G1 = 20 ∨ 1 ≤ p0.toInt))) (fun (G1 : GS) t => Wd D k A a G1 t.heap) A) 0 0 A := by
  refine Met.ofW (cc := cX12_close) (maxL := 2) (ret := none) (by decide) rfl ?_
  intro p e s m args below meth c s₁ B hml hv
  obtain ⟨rfl, hW, hB_G, hK, hZ⟩ := hv
  have hx := B.exec
  have hb := B.bytes
  have hr := B.returns
  have hts := atoms_spec (ws := WS yX12_close cX12_close 2 none) B.pre
  have hgd : ∀ w ∈ gd, w ∈ WS yX12_close cX12_close 2 none := fun w h => List.mem_cons_of_mem _ h
  have hg : ∀ w ∈ gd, w.before _ s = true := fun w h => hts w (hgd w h)
  have hown : s.vm.findClass RX12 = some m.cls := findClass_of_methodNamed B.named
  have hS : va_S A s.heap s.heap [] := va_S.rf
  have hF : Fr [69, 70, 71] [(66, 20), (66, 24)] G G := Fr.rf
  have hl := lv_entry ([.ref (a 66), .int p0]) (n := 2) (Nat.le_of_ble_eq_true rfl)
  rw [lg_entry_eq]
  generalize (lg_sl ([.ref (a 66), .int p0]) ++ List.replicate (2 - (lg_sl ([.ref (a 66), .int p0])).length) Slot.unset).toArray = ls at hl ⊢
  have hl : lv_has ls 2 [(0, .ref (a 66)), (1, .int p0)] := hl
  have b_5 : 0 ≤ (G.1 66 20).toInt ∧ (G.1 66 20).toInt ≤ 160 := hB_G.i 66 20 rfl rfl
  have b_6 : (-1) ≤ (G.1 66 24).toInt ∧ (G.1 66 24).toInt ≤ 200 := hB_G.i 66 24 rfl rfl
  refine loop_N (Inv := fun n H locs ls => ∃ (G_1 : GS), (n : Int) = (G_1.1 66 20).toInt ∧ (gC G_1 = 1) ∧ (gD G_1 = gB G_1 + 1) ∧ ((G_1.1 66 24).toInt = (G_1.1 66 20).toInt - gB G_1) ∧ (gM G_1 + (G_1.1 66 20).toInt = gM G + (G.1 66 20).toInt) ∧ (gK G_1 = gK G) ∧ ((G_1.1 66 20).toInt ≤ (G.1 66 20).toInt) ∧ (gD G_1 ≤ gD G) ∧ ((G_1.1 66 24).toInt ≤ (G.1 66 24).toInt) ∧ Wd D k A a G_1 H ∧ Bd G_1 ∧ Fr [69, 70, 71] [(66, 20), (66, 24)] G G_1 ∧ Fr [69, 70, 71] [(66, 20), (66, 24)] G G_1 ∧ va_S A s.heap H locs ∧ lv_has ls 2 [(0, .ref (a 66)), (1, .int p0)]) (fun n_4 H locs ls ih_3 hI => ?_) ((G.1 66 20).toInt : Int).toNat ⟨G, (Int.toNat_of_nonneg (by omega)), (by omega), (by omega), (by omega), (by omega), (by omega), (by omega), (by omega), (by omega), hW, hB_G, hF, Fr.rf, hS, lv_sub hl [0, 1] rfl⟩
  obtain ⟨G_1, hn_15, f_7, f_8, f_9, f_10, f_11, f_12, f_13, f_14, hW, hB_G_1, hF, hq_2, hS, hl⟩ := hI
  have b_16 : 0 ≤ (G_1.1 66 20).toInt ∧ (G_1.1 66 20).toInt ≤ 160 := hB_G_1.i 66 20 rfl rfl
  have b_17 : (-1) ≤ (G_1.1 66 24).toInt ∧ (G_1.1 66 24).toInt ≤ 200 := hB_G_1.i 66 24 rfl rfl
  have u_18 := gh_pos (G := G_1) (by omega)
  refine lv_aload_n hx hb dX12_close_0 rfl (lv_at hl 0 rfl) ?_
  refine S_getI (v := (G_1.1 66 20)) (C := RX12) (T := TX12) (N := 89) hx hb hg iX12 hown hK hW kd_66 rfl 20 (by decide) (hg (Cond.fieldLink RX12 299 "SlabWalkModel" "opens" "I") m1334) (fun _ h9 => h9) rfl rfl dX12_close_1 ?_
  refine lv_if_le (tgt := 101) hx hb dX12_close_4 (by decide) (fun c_19 => ?_) (fun c_19 => ?_)
  · have c_19 : (G_1.1 66 20).toInt ≤ 0 := xI_le rfl rfl c_19
    exact W.vret hx hb hr (fun t ht _ => ⟨⟨G_1, rfl, ⟨hB_G_1, hF, (by omega)⟩, wd_t ht hW⟩, hS.F ht⟩) hS.2.2 dX12_close_101
  · have c_19 : 0 < (G_1.1 66 20).toInt := xI_nle rfl rfl c_19
    refine lv_aload_n hx hb dX12_close_7 rfl (lv_at hl 0 rfl) ?_
    refine S_getR (n := 75) (C := RX12) (T := TX12) (N := 89) hx hb hg iX12 hown hK hW kd_66 rfl 17 (by decide) (hg (Cond.fieldLink RX12 39 "SlabWalkModel" "open" "[I") m1331) (fun _ h9 => h9) rfl dX12_close_8 ?_
    refine lv_aload_n hx hb dX12_close_11 rfl (lv_at hl 0 rfl) ?_
    refine S_getI (v := (G_1.1 66 20)) (C := RX12) (T := TX12) (N := 89) hx hb hg iX12 hown hK hW kd_66 rfl 20 (by decide) (hg (Cond.fieldLink RX12 299 "SlabWalkModel" "opens" "I") m1334) (fun _ h9 => h9) rfl rfl dX12_close_12 ?_
    refine lv_iconst (v := 1) hx hb dX12_close_15 (by decide) ?_
    refine lv_isub hx hb dX12_close_16 ?_
    refine lv_topi (fun y_20 ey_20 => ?_)
    have ty_20 : y_20.toInt = (G_1.1 66 20).toInt - 1 := xI_sub rfl rfl ey_20 (by omega) (by omega)
    refine S_iald hx hb hK hW kd_75 (vin (by omega) (by omega)) dX12_close_17 (fun y_21 ey_21 => ?_)
    have u_22 := gT_at ey_21 (by omega) (by omega)
    refine lv_bipush (v := 20) hx hb dX12_close_18 (by decide) ?_
    refine lv_icmp_eq (tgt := 101) hx hb dX12_close_20 (by decide) (fun c_23 => ?_) (fun c_23 => ?_)
    · have c_23 : y_21.toInt = 20 := xI_eq rfl rfl c_23
      exact W.vret hx hb hr (fun t ht _ => ⟨⟨G_1, rfl, ⟨hB_G_1, hF, (by omega)⟩, wd_t ht hW⟩, hS.F ht⟩) hS.2.2 dX12_close_101
    · have c_23 : y_21.toInt ≠ 20 := xI_ne rfl rfl c_23
      refine lv_aload_n hx hb dX12_close_23 rfl (lv_at hl 0 rfl) ?_
      refine S_getR (n := 75) (C := RX12) (T := TX12) (N := 89) hx hb hg iX12 hown hK hW kd_66 rfl 17 (by decide) (hg (Cond.fieldLink RX12 39 "SlabWalkModel" "open" "[I") m1331) (fun _ h9 => h9) rfl dX12_close_24 ?_
      refine lv_aload_n hx hb dX12_close_27 rfl (lv_at hl 0 rfl) ?_
      refine S_getI (v := (G_1.1 66 20)) (C := RX12) (T := TX12) (N := 89) hx hb hg iX12 hown hK hW kd_66 rfl 20 (by decide) (hg (Cond.fieldLink RX12 299 "SlabWalkModel" "opens" "I") m1334) (fun _ h9 => h9) rfl rfl dX12_close_28 ?_
      refine lv_iconst (v := 1) hx hb dX12_close_31 (by decide) ?_
      refine lv_isub hx hb dX12_close_32 ?_
      refine lv_topi (fun y_24 ey_24 => ?_)
      have ty_24 : y_24.toInt = (G_1.1 66 20).toInt - 1 := xI_sub rfl rfl ey_24 (by omega) (by omega)
      refine S_iald hx hb hK hW kd_75 (vin (by omega) (by omega)) dX12_close_33 (fun y_25 ey_25 => ?_)
      have u_26 := gT_at ey_25 (by omega) (by omega)
      refine S_calli (va_runS (As := [.int y_25]) (rest := []) ⟨hx, hb, hml, hown, hts⟩ (n_tight l D k A a z G_1 y_25 ) (va_cwS 1 hts (gd_S hgd m1722 m1723 m131 m1724) rfl rfl rfl (by decide +kernel) ⟨Nat.le_of_ble_eq_true rfl, Nat.le_of_ble_eq_true rfl⟩) (pre_S hW hB_G_1 hK hZ hS) rfl rfl hl.1 rfl (lv_room (Nat.le_of_ble_eq_true rfl)) dX12_close_34 ⟨Nat.le_of_ble_eq_true rfl, Nat.le_of_ble_eq_true rfl⟩) hS (fun r_27 G_28 H locs hpo hW hS => ?_)
      obtain ⟨hB_G_28, hq_29, f_31⟩ := hpo
      have hF := hF.call hq_29 (by decide) (by decide)
      refine lv_iload_n hx hb dX12_close_37 rfl (lv_at hl 1 rfl) ?_
      refine lv_icmp_lt (tgt := 101) hx hb dX12_close_38 (by decide) (fun c_32 => ?_) (fun c_32 => ?_)
      · have c_32 : r_27.toInt < p0.toInt := xI_lt rfl rfl c_32
        have g_33 : gB G_28 = gB G_1 := gB_fr (rs := []) (fs := []) (Fr.rf.call hq_29 (by decide) (by decide)) (by decide) (by decide)
        have g_34 : gC G_28 = gC G_1 := gC_fr (rs := []) (fs := []) (Fr.rf.call hq_29 (by decide) (by decide)) (by decide) (by decide)
        have g_35 : gD G_28 = gD G_1 := gD_fr (rs := []) (fs := []) (Fr.rf.call hq_29 (by decide) (by decide)) (by decide) (by decide)
        have g_36 : gK G_28 = gK G_1 := gK_fr (rs := []) (fs := []) (Fr.rf.call hq_29 (by decide) (by decide)) (by decide) (by decide)
        have g_37 : gM G_28 = gM G_1 := gM_fr (rs := []) (fs := []) (Fr.rf.call hq_29 (by decide) (by decide)) (by decide) (by decide)
        have g_38 : gT G_28 = gT G_1 := gT_fr (rs := []) (fs := []) (Fr.rf.call hq_29 (by decide) (by decide)) (by decide) (by decide)
        have g_39 : (G_28.1 66 20).toInt = (G_1.1 66 20).toInt := by rw [show G_28.1 66 20 = (G_1.1 66 20) from ((hq_29.i 66 20 (by decide) (by decide)).trans (rfl))]
        have g_40 : (G_28.1 66 24).toInt = (G_1.1 66 24).toInt := by rw [show G_28.1 66 24 = (G_1.1 66 24) from ((hq_29.i 66 24 (by decide) (by decide)).trans (rfl))]
        exact W.vret hx hb hr (fun t ht _ => ⟨⟨G_28, rfl, ⟨hB_G_28, hF, (by omega)⟩, wd_t ht hW⟩, hS.F ht⟩) hS.2.2 dX12_close_101
      · have c_32 : p0.toInt ≤ r_27.toInt := xI_nlt rfl rfl c_32
        have g_41 : gB G_28 = gB G_1 := gB_fr (rs := []) (fs := []) (Fr.rf.call hq_29 (by decide) (by decide)) (by decide) (by decide)
        have g_42 : gC G_28 = gC G_1 := gC_fr (rs := []) (fs := []) (Fr.rf.call hq_29 (by decide) (by decide)) (by decide) (by decide)
        have g_43 : gD G_28 = gD G_1 := gD_fr (rs := []) (fs := []) (Fr.rf.call hq_29 (by decide) (by decide)) (by decide) (by decide)
        have g_44 : gK G_28 = gK G_1 := gK_fr (rs := []) (fs := []) (Fr.rf.call hq_29 (by decide) (by decide)) (by decide) (by decide)
        have g_45 : gM G_28 = gM G_1 := gM_fr (rs := []) (fs := []) (Fr.rf.call hq_29 (by decide) (by decide)) (by decide) (by decide)
        have g_46 : gT G_28 = gT G_1 := gT_fr (rs := []) (fs := []) (Fr.rf.call hq_29 (by decide) (by decide)) (by decide) (by decide)
        have g_47 : (G_28.1 66 20).toInt = (G_1.1 66 20).toInt := by rw [show G_28.1 66 20 = (G_1.1 66 20) from ((hq_29.i 66 20 (by decide) (by decide)).trans (rfl))]
        refine lv_aload_n hx hb dX12_close_41 rfl (lv_at hl 0 rfl) ?_
        refine lv_dup hx hb dX12_close_42 rfl ?_
        refine S_getI (v := (G_1.1 66 20)) (C := RX12) (T := TX12) (N := 89) hx hb hg iX12 hown hK hW kd_66 rfl 20 (by decide) (hg (Cond.fieldLink RX12 299 "SlabWalkModel" "opens" "I") m1334) (fun _ h9 => h9) rfl ((hq_29.i 66 20 (by decide) (by decide)).trans (rfl)) dX12_close_43 ?_
        refine lv_iconst (v := 1) hx hb dX12_close_46 (by decide) ?_
        refine lv_isub hx hb dX12_close_47 ?_
        refine lv_topi (fun y_48 ey_48 => ?_)
        have ty_48 : y_48.toInt = (G_1.1 66 20).toInt - 1 := xI_sub rfl rfl ey_48 (by omega) (by omega)
        refine S_putI (ty := .int) (C := RX12) (T := TX12) (N := 89) hx hb hg iX12 tyX12 tyX12_ok nmX12 hown hK hW hS kd_66 rfl 20 (by decide) (hg (Cond.fieldLink RX12 299 "SlabWalkModel" "opens" "I") m1334) (fun _ h9 => h9) rfl (by decide +kernel) rfl rfl rfl dX12_close_48 (fun G_49 H locs eG_49 hW hS => ?_)
        have hB_G_49 : Bd G_49 := hB_G_28.put (V := y_48.toInt) (lo := 0) (hi := 160) eG_49 rfl rfl rfl (by omega) (by omega) (hB_G_28.2.put eG_49 rfl)
        have hF := hF.put eG_49 (Or.inr (by decide))
        refine lv_aload_n hx hb dX12_close_51 rfl (lv_at hl 0 rfl) ?_
        refine S_getR (n := 75) (C := RX12) (T := TX12) (N := 89) hx hb hg iX12 hown hK hW kd_66 rfl 17 (by decide) (hg (Cond.fieldLink RX12 39 "SlabWalkModel" "open" "[I") m1331) (fun _ h9 => h9) rfl dX12_close_52 ?_
        refine lv_aload_n hx hb dX12_close_55 rfl (lv_at hl 0 rfl) ?_
        refine S_getI (v := y_48) (C := RX12) (T := TX12) (N := 89) hx hb hg iX12 hown hK hW kd_66 rfl 20 (by decide) (hg (Cond.fieldLink RX12 299 "SlabWalkModel" "opens" "I") m1334) (fun _ h9 => h9) rfl (gp_eq eG_49) dX12_close_56 ?_
        refine S_iald hx hb hK hW kd_75 (vin (by omega) (by omega)) dX12_close_59 (fun y_50 ey_50 => ?_)
        have u_51 := gT_at2 eG_49 ey_50 (by omega) (by omega)
        have u_52 := gh_pop eG_49 (by omega) (by omega)
        have g_53 : (G_49.1 66 20).toInt = y_48.toInt := by rw [show G_49.1 66 20 = y_48 from (gp_eq eG_49)]
        have u_54 := gh_pos (G := G_49) (by omega)
        refine lv_bipush (v := 21) hx hb dX12_close_60 (by decide) ?_
        refine lv_icmp_ne (tgt := 84) hx hb dX12_close_62 (by decide) (fun c_55 => ?_) (fun c_55 => ?_)
        · have c_55 : y_50.toInt ≠ 21 := xI_ne rfl rfl c_55
          refine lv_aload_n hx hb dX12_close_84 rfl (lv_at hl 0 rfl) ?_
          refine lv_iconst (v := 3) hx hb dX12_close_85 (by decide) ?_
          refine lv_aload_n hx hb dX12_close_86 rfl (lv_at hl 0 rfl) ?_
          refine S_getR (n := 75) (C := RX12) (T := TX12) (N := 89) hx hb hg iX12 hown hK hW kd_66 rfl 17 (by decide) (hg (Cond.fieldLink RX12 39 "SlabWalkModel" "open" "[I") m1331) (fun _ h9 => h9) rfl dX12_close_87 ?_
          refine lv_aload_n hx hb dX12_close_90 rfl (lv_at hl 0 rfl) ?_
          refine S_getI (v := y_48) (C := RX12) (T := TX12) (N := 89) hx hb hg iX12 hown hK hW kd_66 rfl 20 (by decide) (hg (Cond.fieldLink RX12 299 "SlabWalkModel" "opens" "I") m1334) (fun _ h9 => h9) rfl (gp_eq eG_49) dX12_close_91 ?_
          refine S_iald hx hb hK hW kd_75 (vin (by omega) (by omega)) dX12_close_94 (fun y_56 ey_56 => ?_)
          have g_57 : gM G_49 = gM G_1 := gM_fr (rs := []) (fs := [(66, 20)]) ((Fr.rf.call hq_29 (by decide) (by decide)).put eG_49 (Or.inr (by decide))) (by decide) (by decide)
          have qc_58 : (3 : Int32).toInt = 3 := rfl
          have g_59 : gC G_49 = gC G_1 := gC_fr (rs := []) (fs := [(66, 20)]) ((Fr.rf.call hq_29 (by decide) (by decide)).put eG_49 (Or.inr (by decide))) (by decide) (by decide)
          have g_60 : gD G_49 = gD G_1 := gD_fr (rs := []) (fs := [(66, 20)]) ((Fr.rf.call hq_29 (by decide) (by decide)).put eG_49 (Or.inr (by decide))) (by decide) (by decide)
          refine S_callv (va_runV (As := [.int 3, .int y_56]) (rest := []) ⟨hx, hb, hml, hown, hts⟩ (n_add l D k A a z G_49 3 y_56 ⟨by decide, by decide⟩ (by omega)) (cwV 2 hts (gd_V hgd m1741 m1743 m76 m131 m1744) rfl rfl rfl (by decide +kernel) ⟨Nat.le_of_ble_eq_true rfl, Nat.le_of_ble_eq_true rfl⟩) (pre_V hW hB_G_49 hK hZ hS kd_66 rfl) rfl rfl hl.1 rfl (lv_room (Nat.le_of_ble_eq_true rfl)) dX12_close_95 ⟨Nat.le_of_ble_eq_true rfl, Nat.le_of_ble_eq_true rfl⟩) hS (fun G_62 H locs hpo hW hS => ?_)
          obtain ⟨hB_G_62, hq_63, hp_64⟩ := hpo
          have hF := hF.call hq_63 (by decide) (by decide)
          refine lv_goto (tgt := 0) hx hb dX12_close_98 (by decide) ?_
          have g_65 : (G_62.1 66 20).toInt = y_48.toInt := by rw [show G_62.1 66 20 = y_48 from ((hq_63.i 66 20 (by decide) (by decide)).trans (gp_eq eG_49))]
          have g_66 : gB G_62 = gB G_49 := gB_fr (rs := [69, 70, 71]) (fs := []) (Fr.rf.call hq_63 (by decide) (by decide)) (by decide) (by decide)
          have g_67 : (G_62.1 66 20).toInt = y_48.toInt := by rw [show G_62.1 66 20 = y_48 from ((hq_63.i 66 20 (by decide) (by decide)).trans (gp_eq eG_49))]
          have g_68 : (G_62.1 66 24).toInt = (G_1.1 66 24).toInt := by rw [show G_62.1 66 24 = (G_1.1 66 24) from ((hq_63.i 66 24 (by decide) (by decide)).trans ((gp_ne eG_49 (by decide)).trans ((hq_29.i 66 24 (by decide) (by decide)).trans (rfl))))]
          have g_69 : (G_62.1 66 20).toInt = y_48.toInt := by rw [show G_62.1 66 20 = y_48 from ((hq_63.i 66 20 (by decide) (by decide)).trans (gp_eq eG_49))]
          have g_70 : gK G_62 = gK G_49 := gK_fr (rs := [69, 70, 71]) (fs := []) (Fr.rf.call hq_63 (by decide) (by decide)) (by decide) (by decide)
          have g_71 : (G_62.1 66 20).toInt = y_48.toInt := by rw [show G_62.1 66 20 = y_48 from ((hq_63.i 66 20 (by decide) (by decide)).trans (gp_eq eG_49))]
          have g_72 : (G_62.1 66 24).toInt = (G_1.1 66 24).toInt := by rw [show G_62.1 66 24 = (G_1.1 66 24) from ((hq_63.i 66 24 (by decide) (by decide)).trans ((gp_ne eG_49 (by decide)).trans ((hq_29.i 66 24 (by decide) (by decide)).trans (rfl))))]
          exact ih_3 ((G_62.1 66 20).toInt : Int).toNat (by omega) _ _ _ ⟨G_62, (Int.toNat_of_nonneg (by omega)), (by omega), (by omega), (by omega), (by omega), (by omega), (by omega), (by omega), (by omega), hW, hB_G_62, hF, ((((Fr.rf.call hq_2 (by decide) (by decide)).call hq_29 (by decide) (by decide)).put eG_49 (Or.inr (by decide))).call hq_63 (by decide) (by decide)), hS, lv_sub hl [0, 1] rfl⟩
        · have c_55 : y_50.toInt = 21 := xI_eq rfl rfl c_55
          refine lv_aload_n hx hb dX12_close_65 rfl (lv_at hl 0 rfl) ?_
          refine lv_iconst (v := 2) hx hb dX12_close_66 (by decide) ?_
          refine lv_iconst (v := 0) hx hb dX12_close_67 (by decide) ?_
          have g_73 : gM G_49 = gM G_1 := gM_fr (rs := []) (fs := [(66, 20)]) ((Fr.rf.call hq_29 (by decide) (by decide)).put eG_49 (Or.inr (by decide))) (by decide) (by decide)
          have qc_74 : (2 : Int32).toInt = 2 := rfl
          have qc_75 : (0 : Int32).toInt = 0 := rfl
          have g_76 : gC G_49 = gC G_1 := gC_fr (rs := []) (fs := [(66, 20)]) ((Fr.rf.call hq_29 (by decide) (by decide)).put eG_49 (Or.inr (by decide))) (by decide) (by decide)
          have g_77 : gD G_49 = gD G_1 := gD_fr (rs := []) (fs := [(66, 20)]) ((Fr.rf.call hq_29 (by decide) (by decide)).put eG_49 (Or.inr (by decide))) (by decide) (by decide)
          refine S_callv (va_runV (As := [.int 2, .int 0]) (rest := []) ⟨hx, hb, hml, hown, hts⟩ (n_add l D k A a z G_49 2 0 ⟨by decide, by decide⟩ (by omega)) (cwV 2 hts (gd_V hgd m1741 m1743 m76 m131 m1744) rfl rfl rfl (by decide +kernel) ⟨Nat.le_of_ble_eq_true rfl, Nat.le_of_ble_eq_true rfl⟩) (pre_V hW hB_G_49 hK hZ hS kd_66 rfl) rfl rfl hl.1 rfl (lv_room (Nat.le_of_ble_eq_true rfl)) dX12_close_68 ⟨Nat.le_of_ble_eq_true rfl, Nat.le_of_ble_eq_true rfl⟩) hS (fun G_79 H locs hpo hW hS => ?_)
          obtain ⟨hB_G_79, hq_80, hp_81⟩ := hpo
          have hF := hF.call hq_80 (by decide) (by decide)
          refine lv_aload_n hx hb dX12_close_71 rfl (lv_at hl 0 rfl) ?_
          refine lv_dup hx hb dX12_close_72 rfl ?_
          refine S_getI (v := (G_1.1 66 24)) (C := RX12) (T := TX12) (N := 89) hx hb hg iX12 hown hK hW kd_66 rfl 24 (by decide) (hg (Cond.fieldLink RX12 309 "SlabWalkModel" "deep" "I") m1338) (fun _ h9 => h9) rfl ((hq_80.i 66 24 (by decide) (by decide)).trans ((gp_ne eG_49 (by decide)).trans ((hq_29.i 66 24 (by decide) (by decide)).trans (rfl)))) dX12_close_73 ?_
          refine lv_iconst (v := 1) hx hb dX12_close_76 (by decide) ?_
          refine lv_isub hx hb dX12_close_77 ?_
          refine lv_topi (fun y_82 ey_82 => ?_)
          have ty_82 : y_82.toInt = (G_1.1 66 24).toInt - 1 := xI_sub rfl rfl ey_82 (by omega) (by omega)
          refine S_putI (ty := .int) (C := RX12) (T := TX12) (N := 89) hx hb hg iX12 tyX12 tyX12_ok nmX12 hown hK hW hS kd_66 rfl 24 (by decide) (hg (Cond.fieldLink RX12 309 "SlabWalkModel" "deep" "I") m1338) (fun _ h9 => h9) rfl (by decide +kernel) rfl rfl rfl dX12_close_78 (fun G_83 H locs eG_83 hW hS => ?_)
          have hB_G_83 : Bd G_83 := hB_G_79.put (V := y_82.toInt) (lo := (-1)) (hi := 200) eG_83 rfl rfl rfl (by omega) (by omega) (hB_G_79.2.put eG_83 rfl)
          have hF := hF.put eG_83 (Or.inr (by decide))
          refine lv_goto (tgt := 0) hx hb dX12_close_81 (by decide) ?_
          have g_84 : (G_83.1 66 20).toInt = y_48.toInt := by rw [show G_83.1 66 20 = y_48 from ((gp_ne eG_83 (by decide)).trans ((hq_80.i 66 20 (by decide) (by decide)).trans (gp_eq eG_49)))]
          have g_85 : gC G_83 = gC G_79 := gC_fr (rs := []) (fs := [(66, 24)]) (Fr.rf.put eG_83 (Or.inr (by decide))) (by decide) (by decide)
          have g_86 : gB G_83 = gB G_49 := gB_fr (rs := [69, 70, 71]) (fs := [(66, 24)]) ((Fr.rf.call hq_80 (by decide) (by decide)).put eG_83 (Or.inr (by decide))) (by decide) (by decide)
          have g_87 : gD G_83 = gD G_79 := gD_fr (rs := []) (fs := [(66, 24)]) (Fr.rf.put eG_83 (Or.inr (by decide))) (by decide) (by decide)
          have g_88 : (G_83.1 66 20).toInt = y_48.toInt := by rw [show G_83.1 66 20 = y_48 from ((gp_ne eG_83 (by decide)).trans ((hq_80.i 66 20 (by decide) (by decide)).trans (gp_eq eG_49)))]
          have g_89 : (G_83.1 66 24).toInt = y_82.toInt := by rw [show G_83.1 66 24 = y_82 from (gp_eq eG_83)]
          have g_90 : gM G_83 = gM G_79 := gM_fr (rs := []) (fs := [(66, 24)]) (Fr.rf.put eG_83 (Or.inr (by decide))) (by decide) (by decide)
          have g_91 : (G_83.1 66 20).toInt = y_48.toInt := by rw [show G_83.1 66 20 = y_48 from ((gp_ne eG_83 (by decide)).trans ((hq_80.i 66 20 (by decide) (by decide)).trans (gp_eq eG_49)))]
          have g_92 : gK G_83 = gK G_49 := gK_fr (rs := [69, 70, 71]) (fs := [(66, 24)]) ((Fr.rf.call hq_80 (by decide) (by decide)).put eG_83 (Or.inr (by decide))) (by decide) (by decide)
          have g_93 : (G_83.1 66 20).toInt = y_48.toInt := by rw [show G_83.1 66 20 = y_48 from ((gp_ne eG_83 (by decide)).trans ((hq_80.i 66 20 (by decide) (by decide)).trans (gp_eq eG_49)))]
          have g_94 : (G_83.1 66 24).toInt = y_82.toInt := by rw [show G_83.1 66 24 = y_82 from (gp_eq eG_83)]
          exact ih_3 ((G_83.1 66 20).toInt : Int).toNat (by omega) _ _ _ ⟨G_83, (Int.toNat_of_nonneg (by omega)), (by omega), (by omega), (by omega), (by omega), (by omega), (by omega), (by omega), (by omega), hW, hB_G_83, hF, (((((Fr.rf.call hq_2 (by decide) (by decide)).call hq_29 (by decide) (by decide)).put eG_49 (Or.inr (by decide))).call hq_80 (by decide) (by decide)).put eG_83 (Or.inr (by decide))), hS, lv_sub hl [0, 1] rfl⟩

set_option maxHeartbeats 4000000 in
set_option maxRecDepth 100000 in
theorem n_hasRelation (l : Launch) (D : va_G) (k : KT) (A : Nat → Prop) (a : Nat → Nat) (z : SK) (G : GS)   : Met l yX12_hasRelation (WS yX12_hasRelation cX12_hasRelation 2 (some .boolean)) ({ frames := 1, cells := 0, slots := 0, locals := 20 }) (va_Pc [.ref (a 66)] (cW D k A a z G)) (va_Qi (fun (r : Int32) (G1 : GS) => Bd G1 ∧ Fr [] [] G G1 ∧ (0 ≤ r.toInt ∧ r.toInt ≤ 1)) (fun (G1 : GS) t => Wd D k A a G1 t.heap) A) 0 0 A := by
  refine Met.ofW (cc := cX12_hasRelation) (maxL := 2) (ret := (some .boolean)) (by decide) rfl ?_
  intro p e s m args below meth c s₁ B hml hv
  obtain ⟨rfl, hW, hB_G, hK, hZ⟩ := hv
  have hx := B.exec
  have hb := B.bytes
  have hr := B.returns
  have hts := atoms_spec (ws := WS yX12_hasRelation cX12_hasRelation 2 (some .boolean)) B.pre
  have hgd : ∀ w ∈ gd, w ∈ WS yX12_hasRelation cX12_hasRelation 2 (some .boolean) := fun w h => List.mem_cons_of_mem _ h
  have hg : ∀ w ∈ gd, w.before _ s = true := fun w h => hts w (hgd w h)
  have hown : s.vm.findClass RX12 = some m.cls := findClass_of_methodNamed B.named
  have hS : va_S A s.heap s.heap [] := va_S.rf
  have hF : Fr [] [] G G := Fr.rf
  have hl := lv_entry ([.ref (a 66)]) (n := 2) (Nat.le_of_ble_eq_true rfl)
  rw [lg_entry_eq]
  generalize (lg_sl ([.ref (a 66)]) ++ List.replicate (2 - (lg_sl ([.ref (a 66)])).length) Slot.unset).toArray = ls at hl ⊢
  have hl : lv_has ls 2 [(0, .ref (a 66))] := hl
  refine lv_aload_n hx hb dX12_hasRelation_0 rfl (lv_at hl 0 rfl) ?_
  have b_1 : 0 ≤ (G.1 66 20).toInt ∧ (G.1 66 20).toInt ≤ 160 := hB_G.i 66 20 rfl rfl
  refine S_getI (v := (G.1 66 20)) (C := RX12) (T := TX12) (N := 89) hx hb hg iX12 hown hK hW kd_66 rfl 20 (by decide) (hg (Cond.fieldLink RX12 299 "SlabWalkModel" "opens" "I") m1334) (fun _ h9 => h9) rfl rfl dX12_hasRelation_1 ?_
  refine lv_iconst (v := 1) hx hb dX12_hasRelation_4 (by decide) ?_
  refine lv_isub hx hb dX12_hasRelation_5 ?_
  refine lv_topi (fun y_2 ey_2 => ?_)
  have ty_2 : y_2.toInt = (G.1 66 20).toInt - 1 := xI_sub rfl rfl ey_2 (by omega) (by omega)
  refine lv_istore_n (lv' := [(1, .int y_2), (0, .ref (a 66))]) hx hb dX12_hasRelation_6 rfl hl (by decide) rfl (fun ls hl => ?_)
  refine loop_N (Inv := fun n H locs ls => ∃ (G_3 : GS) (x_7 : Int32), (n : Int) = x_7.toInt - (-1) ∧ ((-1) ≤ x_7.toInt ∧ x_7.toInt ≤ 159) ∧ Wd D k A a G_3 H ∧ Bd G_3 ∧ Fr [] [] G G_3 ∧ Fr [] [] G G_3 ∧ va_S A s.heap H locs ∧ lv_has ls 2 [(1, .int x_7), (0, .ref (a 66))]) (fun n_6 H locs ls ih_5 hI => ?_) (y_2.toInt - (-1) : Int).toNat ⟨G, y_2, (Int.toNat_of_nonneg (by omega)), ⟨by omega, by omega⟩, hW, hB_G, hF, Fr.rf, hS, lv_sub hl [0, 1] rfl⟩
  obtain ⟨G_3, x_7, hn_9, f_8, hW, hB_G_3, hF, hq_4, hS, hl⟩ := hI
  refine lv_iload_n hx hb dX12_hasRelation_7 rfl (lv_at hl 0 rfl) ?_
  refine W.cut (σ := Unit) (pcJ := 41) (J := fun y H locs ls => ∃ (G_12 : GS), Wd D k A a G_12 H ∧ Bd G_12 ∧ Fr [] [] G G_12 ∧ Fr [] [] G_3 G_12 ∧ va_S A s.heap H locs ∧ lv_has ls 2 [(1, .int x_7), (0, .ref (a 66))]) (stJ := fun _ => []) ?_ (fun hJ_13 => ?_)
  · intro y H locs ls hI
    obtain ⟨G_12, hW, hB_G_12, hF, hq_14, hS, hl⟩ := hI
    refine lv_iload_n hx hb dX12_hasRelation_41 rfl (lv_at hl 0 rfl) ?_
    refine lv_if_lt (tgt := 73) hx hb dX12_hasRelation_42 (by decide) (fun c_15 => ?_) (fun c_15 => ?_)
    · have c_15 : x_7.toInt < 0 := xI_lt rfl rfl c_15
      refine lv_iconst (v := 0) hx hb dX12_hasRelation_73 (by decide) ?_
      exact W.zret (v := 0) hx hb hr (by decide) (fun t ht _ => ⟨⟨0, G_12, rfl, ⟨hB_G_12, hF, ⟨by decide, by decide⟩⟩, wd_t ht hW⟩, hS.F ht⟩) hS.2.2 dX12_hasRelation_74
    · have c_15 : 0 ≤ x_7.toInt := xI_nlt rfl rfl c_15
      refine lv_aload_n hx hb dX12_hasRelation_45 rfl (lv_at hl 1 rfl) ?_
      refine S_getR (n := 75) (C := RX12) (T := TX12) (N := 89) hx hb hg iX12 hown hK hW kd_66 rfl 17 (by decide) (hg (Cond.fieldLink RX12 39 "SlabWalkModel" "open" "[I") m1331) (fun _ h9 => h9) rfl dX12_hasRelation_46 ?_
      refine lv_iload_n hx hb dX12_hasRelation_49 rfl (lv_at hl 0 rfl) ?_
      refine S_iald hx hb hK hW kd_75 (vin (by omega) (by omega)) dX12_hasRelation_50 (fun y_16 ey_16 => ?_)
      refine lv_bipush (v := 20) hx hb dX12_hasRelation_51 (by decide) ?_
      refine lv_icmp_eq (tgt := 73) hx hb dX12_hasRelation_53 (by decide) (fun c_17 => ?_) (fun c_17 => ?_)
      · have c_17 : y_16.toInt = 20 := xI_eq rfl rfl c_17
        refine lv_iconst (v := 0) hx hb dX12_hasRelation_73 (by decide) ?_
        exact W.zret (v := 0) hx hb hr (by decide) (fun t ht _ => ⟨⟨0, G_12, rfl, ⟨hB_G_12, hF, ⟨by decide, by decide⟩⟩, wd_t ht hW⟩, hS.F ht⟩) hS.2.2 dX12_hasRelation_74
      · have c_17 : y_16.toInt ≠ 20 := xI_ne rfl rfl c_17
        refine lv_aload_n hx hb dX12_hasRelation_56 rfl (lv_at hl 1 rfl) ?_
        refine S_getR (n := 75) (C := RX12) (T := TX12) (N := 89) hx hb hg iX12 hown hK hW kd_66 rfl 17 (by decide) (hg (Cond.fieldLink RX12 39 "SlabWalkModel" "open" "[I") m1331) (fun _ h9 => h9) rfl dX12_hasRelation_57 ?_
        refine lv_iload_n hx hb dX12_hasRelation_60 rfl (lv_at hl 0 rfl) ?_
        refine S_iald hx hb hK hW kd_75 (vin (by omega) (by omega)) dX12_hasRelation_61 (fun y_18 ey_18 => ?_)
        refine S_calli (va_runS (As := [.int y_18]) (rest := []) ⟨hx, hb, hml, hown, hts⟩ (n_tight l D k A a z G_12 y_18 ) (va_cwS 1 hts (gd_S hgd m1722 m1723 m131 m1724) rfl rfl rfl (by decide +kernel) ⟨Nat.le_of_ble_eq_true rfl, Nat.le_of_ble_eq_true rfl⟩) (pre_S hW hB_G_12 hK hZ hS) rfl rfl hl.1 rfl (lv_room (Nat.le_of_ble_eq_true rfl)) dX12_hasRelation_62 ⟨Nat.le_of_ble_eq_true rfl, Nat.le_of_ble_eq_true rfl⟩) hS (fun r_19 G_20 H locs hpo hW hS => ?_)
        obtain ⟨hB_G_20, hq_21, f_23⟩ := hpo
        have hF := hF.call hq_21 (by decide) (by decide)
        refine lv_iconst (v := 4) hx hb dX12_hasRelation_65 (by decide) ?_
        refine lv_icmp_ne (tgt := 73) hx hb dX12_hasRelation_66 (by decide) (fun c_24 => ?_) (fun c_24 => ?_)
        · have c_24 : r_19.toInt ≠ 4 := xI_ne rfl rfl c_24
          refine lv_iconst (v := 0) hx hb dX12_hasRelation_73 (by decide) ?_
          exact W.zret (v := 0) hx hb hr (by decide) (fun t ht _ => ⟨⟨0, G_20, rfl, ⟨hB_G_20, hF, ⟨by decide, by decide⟩⟩, wd_t ht hW⟩, hS.F ht⟩) hS.2.2 dX12_hasRelation_74
        · have c_24 : r_19.toInt = 4 := xI_eq rfl rfl c_24
          refine lv_iconst (v := 1) hx hb dX12_hasRelation_69 (by decide) ?_
          refine lv_goto (tgt := 74) hx hb dX12_hasRelation_70 (by decide) ?_
          exact W.zret (v := 1) hx hb hr (by decide) (fun t ht _ => ⟨⟨1, G_20, rfl, ⟨hB_G_20, hF, ⟨by decide, by decide⟩⟩, wd_t ht hW⟩, hS.F ht⟩) hS.2.2 dX12_hasRelation_74
  refine lv_if_lt (tgt := 41) hx hb dX12_hasRelation_8 (by decide) (fun c_25 => ?_) (fun c_25 => ?_)
  · have c_25 : x_7.toInt < 0 := xI_lt rfl rfl c_25
    exact hJ_13 () _ _ _ ⟨G_3, hW, hB_G_3, hF, Fr.rf, hS, lv_sub hl [0, 1] rfl⟩
  · have c_25 : 0 ≤ x_7.toInt := xI_nlt rfl rfl c_25
    refine lv_aload_n hx hb dX12_hasRelation_11 rfl (lv_at hl 1 rfl) ?_
    refine S_getR (n := 75) (C := RX12) (T := TX12) (N := 89) hx hb hg iX12 hown hK hW kd_66 rfl 17 (by decide) (hg (Cond.fieldLink RX12 39 "SlabWalkModel" "open" "[I") m1331) (fun _ h9 => h9) rfl dX12_hasRelation_12 ?_
    refine lv_iload_n hx hb dX12_hasRelation_15 rfl (lv_at hl 0 rfl) ?_
    refine S_iald hx hb hK hW kd_75 (vin (by omega) (by omega)) dX12_hasRelation_16 (fun y_26 ey_26 => ?_)
    refine lv_bipush (v := 20) hx hb dX12_hasRelation_17 (by decide) ?_
    refine lv_icmp_eq (tgt := 41) hx hb dX12_hasRelation_19 (by decide) (fun c_27 => ?_) (fun c_27 => ?_)
    · have c_27 : y_26.toInt = 20 := xI_eq rfl rfl c_27
      exact hJ_13 () _ _ _ ⟨G_3, hW, hB_G_3, hF, Fr.rf, hS, lv_sub hl [0, 1] rfl⟩
    · have c_27 : y_26.toInt ≠ 20 := xI_ne rfl rfl c_27
      refine lv_aload_n hx hb dX12_hasRelation_22 rfl (lv_at hl 1 rfl) ?_
      refine S_getR (n := 75) (C := RX12) (T := TX12) (N := 89) hx hb hg iX12 hown hK hW kd_66 rfl 17 (by decide) (hg (Cond.fieldLink RX12 39 "SlabWalkModel" "open" "[I") m1331) (fun _ h9 => h9) rfl dX12_hasRelation_23 ?_
      refine lv_iload_n hx hb dX12_hasRelation_26 rfl (lv_at hl 0 rfl) ?_
      refine S_iald hx hb hK hW kd_75 (vin (by omega) (by omega)) dX12_hasRelation_27 (fun y_28 ey_28 => ?_)
      refine S_calli (va_runS (As := [.int y_28]) (rest := []) ⟨hx, hb, hml, hown, hts⟩ (n_tight l D k A a z G_3 y_28 ) (va_cwS 1 hts (gd_S hgd m1722 m1723 m131 m1724) rfl rfl rfl (by decide +kernel) ⟨Nat.le_of_ble_eq_true rfl, Nat.le_of_ble_eq_true rfl⟩) (pre_S hW hB_G_3 hK hZ hS) rfl rfl hl.1 rfl (lv_room (Nat.le_of_ble_eq_true rfl)) dX12_hasRelation_28 ⟨Nat.le_of_ble_eq_true rfl, Nat.le_of_ble_eq_true rfl⟩) hS (fun r_29 G_30 H locs hpo hW hS => ?_)
      obtain ⟨hB_G_30, hq_31, f_33⟩ := hpo
      have hF := hF.call hq_31 (by decide) (by decide)
      refine lv_iconst (v := 4) hx hb dX12_hasRelation_31 (by decide) ?_
      refine lv_icmp_le (tgt := 41) hx hb dX12_hasRelation_32 (by decide) (fun c_34 => ?_) (fun c_34 => ?_)
      · have c_34 : r_29.toInt ≤ 4 := xI_le rfl rfl c_34
        exact hJ_13 () _ _ _ ⟨G_30, hW, hB_G_30, hF, (Fr.rf.call hq_31 (by decide) (by decide)), hS, lv_sub hl [0, 1] rfl⟩
      · have c_34 : 4 < r_29.toInt := xI_nle rfl rfl c_34
        obtain ⟨y_35, ey_35⟩ : ∃ q, q = x_7 + (-1) := ⟨_, rfl⟩
        have ty_35 : y_35.toInt = x_7.toInt + (-1) := xI_add rfl rfl ey_35 (by omega) (by omega)
        refine lv_iinc (v := y_35) (lv' := [(1, .int y_35), (0, .ref (a 66))]) hx hb dX12_hasRelation_35 hl (k := 0) rfl (by rw [ey_35]; rfl) (by decide) rfl (fun ls hl => ?_)
        refine lv_goto (tgt := 7) hx hb dX12_hasRelation_38 (by decide) ?_
        exact ih_5 (y_35.toInt - (-1) : Int).toNat (by omega) _ _ _ ⟨G_30, y_35, (Int.toNat_of_nonneg (by omega)), ⟨by omega, by omega⟩, hW, hB_G_30, hF, ((Fr.rf.call hq_4 (by decide) (by decide)).call hq_31 (by decide) (by decide)), hS, lv_sub hl [0, 1] rfl⟩

set_option maxHeartbeats 4000000 in
set_option maxRecDepth 100000 in
theorem n_mayNot (l : Launch) (D : va_G) (k : KT) (A : Nat → Prop) (a : Nat → Nat) (z : SK) (G : GS)   : Met l yX12_mayNot (WS yX12_mayNot cX12_mayNot 1 (some .boolean)) ({ frames := 1, cells := 0, slots := 0, locals := 20 }) (va_Pc [.ref (a 66)] (cW D k A a z G)) (va_Qi (fun (r : Int32) (G1 : GS) => Bd G1 ∧ Fr [] [] G G1 ∧ (0 ≤ r.toInt ∧ r.toInt ≤ 1)) (fun (G1 : GS) t => Wd D k A a G1 t.heap) A) 0 0 A := by
  refine Met.ofW (cc := cX12_mayNot) (maxL := 1) (ret := (some .boolean)) (by decide) rfl ?_
  intro p e s m args below meth c s₁ B hml hv
  obtain ⟨rfl, hW, hB_G, hK, hZ⟩ := hv
  have hx := B.exec
  have hb := B.bytes
  have hr := B.returns
  have hts := atoms_spec (ws := WS yX12_mayNot cX12_mayNot 1 (some .boolean)) B.pre
  have hgd : ∀ w ∈ gd, w ∈ WS yX12_mayNot cX12_mayNot 1 (some .boolean) := fun w h => List.mem_cons_of_mem _ h
  have hg : ∀ w ∈ gd, w.before _ s = true := fun w h => hts w (hgd w h)
  have hown : s.vm.findClass RX12 = some m.cls := findClass_of_methodNamed B.named
  have hS : va_S A s.heap s.heap [] := va_S.rf
  have hF : Fr [] [] G G := Fr.rf
  have hl := lv_entry ([.ref (a 66)]) (n := 1) (Nat.le_of_ble_eq_true rfl)
  rw [lg_entry_eq]
  generalize (lg_sl ([.ref (a 66)]) ++ List.replicate (1 - (lg_sl ([.ref (a 66)])).length) Slot.unset).toArray = ls at hl ⊢
  have hl : lv_has ls 1 [(0, .ref (a 66))] := hl
  refine lv_aload_n hx hb dX12_mayNot_0 rfl (lv_at hl 0 rfl) ?_
  have b_1 : 0 ≤ (G.1 66 20).toInt ∧ (G.1 66 20).toInt ≤ 160 := hB_G.i 66 20 rfl rfl
  refine S_getI (v := (G.1 66 20)) (C := RX12) (T := TX12) (N := 89) hx hb hg iX12 hown hK hW kd_66 rfl 20 (by decide) (hg (Cond.fieldLink RX12 299 "SlabWalkModel" "opens" "I") m1334) (fun _ h9 => h9) rfl rfl dX12_mayNot_1 ?_
  refine lv_if_eq (tgt := 41) hx hb dX12_mayNot_4 (by decide) (fun c_2 => ?_) (fun c_2 => ?_)
  · have c_2 : (G.1 66 20).toInt = 0 := xI_eq rfl rfl c_2
    refine lv_iconst (v := 1) hx hb dX12_mayNot_41 (by decide) ?_
    refine lv_goto (tgt := 46) hx hb dX12_mayNot_42 (by decide) ?_
    exact W.zret (v := 1) hx hb hr (by decide) (fun t ht _ => ⟨⟨1, G, rfl, ⟨hB_G, hF, ⟨by decide, by decide⟩⟩, wd_t ht hW⟩, hS.F ht⟩) hS.2.2 dX12_mayNot_46
  · have c_2 : (G.1 66 20).toInt ≠ 0 := xI_ne rfl rfl c_2
    refine lv_aload_n hx hb dX12_mayNot_7 rfl (lv_at hl 0 rfl) ?_
    refine S_getR (n := 75) (C := RX12) (T := TX12) (N := 89) hx hb hg iX12 hown hK hW kd_66 rfl 17 (by decide) (hg (Cond.fieldLink RX12 39 "SlabWalkModel" "open" "[I") m1331) (fun _ h9 => h9) rfl dX12_mayNot_8 ?_
    refine lv_aload_n hx hb dX12_mayNot_11 rfl (lv_at hl 0 rfl) ?_
    refine S_getI (v := (G.1 66 20)) (C := RX12) (T := TX12) (N := 89) hx hb hg iX12 hown hK hW kd_66 rfl 20 (by decide) (hg (Cond.fieldLink RX12 299 "SlabWalkModel" "opens" "I") m1334) (fun _ h9 => h9) rfl rfl dX12_mayNot_12 ?_
    refine lv_iconst (v := 1) hx hb dX12_mayNot_15 (by decide) ?_
    refine lv_isub hx hb dX12_mayNot_16 ?_
    refine lv_topi (fun y_3 ey_3 => ?_)
    have ty_3 : y_3.toInt = (G.1 66 20).toInt - 1 := xI_sub rfl rfl ey_3 (by omega) (by omega)
    refine S_iald hx hb hK hW kd_75 (vin (by omega) (by omega)) dX12_mayNot_17 (fun y_4 ey_4 => ?_)
    refine lv_bipush (v := 20) hx hb dX12_mayNot_18 (by decide) ?_
    refine lv_icmp_eq (tgt := 41) hx hb dX12_mayNot_20 (by decide) (fun c_5 => ?_) (fun c_5 => ?_)
    · have c_5 : y_4.toInt = 20 := xI_eq rfl rfl c_5
      refine lv_iconst (v := 1) hx hb dX12_mayNot_41 (by decide) ?_
      refine lv_goto (tgt := 46) hx hb dX12_mayNot_42 (by decide) ?_
      exact W.zret (v := 1) hx hb hr (by decide) (fun t ht _ => ⟨⟨1, G, rfl, ⟨hB_G, hF, ⟨by decide, by decide⟩⟩, wd_t ht hW⟩, hS.F ht⟩) hS.2.2 dX12_mayNot_46
    · have c_5 : y_4.toInt ≠ 20 := xI_ne rfl rfl c_5
      refine lv_aload_n hx hb dX12_mayNot_23 rfl (lv_at hl 0 rfl) ?_
      refine S_getR (n := 75) (C := RX12) (T := TX12) (N := 89) hx hb hg iX12 hown hK hW kd_66 rfl 17 (by decide) (hg (Cond.fieldLink RX12 39 "SlabWalkModel" "open" "[I") m1331) (fun _ h9 => h9) rfl dX12_mayNot_24 ?_
      refine lv_aload_n hx hb dX12_mayNot_27 rfl (lv_at hl 0 rfl) ?_
      refine S_getI (v := (G.1 66 20)) (C := RX12) (T := TX12) (N := 89) hx hb hg iX12 hown hK hW kd_66 rfl 20 (by decide) (hg (Cond.fieldLink RX12 299 "SlabWalkModel" "opens" "I") m1334) (fun _ h9 => h9) rfl rfl dX12_mayNot_28 ?_
      refine lv_iconst (v := 1) hx hb dX12_mayNot_31 (by decide) ?_
      refine lv_isub hx hb dX12_mayNot_32 ?_
      refine lv_topi (fun y_6 ey_6 => ?_)
      have ty_6 : y_6.toInt = (G.1 66 20).toInt - 1 := xI_sub rfl rfl ey_6 (by omega) (by omega)
      refine S_iald hx hb hK hW kd_75 (vin (by omega) (by omega)) dX12_mayNot_33 (fun y_7 ey_7 => ?_)
      refine S_calli (va_runS (As := [.int y_7]) (rest := []) ⟨hx, hb, hml, hown, hts⟩ (n_tight l D k A a z G y_7 ) (va_cwS 1 hts (gd_S hgd m1722 m1723 m131 m1724) rfl rfl rfl (by decide +kernel) ⟨Nat.le_of_ble_eq_true rfl, Nat.le_of_ble_eq_true rfl⟩) (pre_S hW hB_G hK hZ hS) rfl rfl hl.1 rfl (lv_room (Nat.le_of_ble_eq_true rfl)) dX12_mayNot_34 ⟨Nat.le_of_ble_eq_true rfl, Nat.le_of_ble_eq_true rfl⟩) hS (fun r_8 G_9 H locs hpo hW hS => ?_)
      obtain ⟨hB_G_9, hq_10, f_12⟩ := hpo
      have hF := hF.call hq_10 (by decide) (by decide)
      refine lv_iconst (v := 4) hx hb dX12_mayNot_37 (by decide) ?_
      refine lv_icmp_ge (tgt := 45) hx hb dX12_mayNot_38 (by decide) (fun c_13 => ?_) (fun c_13 => ?_)
      · have c_13 : 4 ≤ r_8.toInt := xI_le rfl rfl c_13
        refine lv_iconst (v := 0) hx hb dX12_mayNot_45 (by decide) ?_
        exact W.zret (v := 0) hx hb hr (by decide) (fun t ht _ => ⟨⟨0, G_9, rfl, ⟨hB_G_9, hF, ⟨by decide, by decide⟩⟩, wd_t ht hW⟩, hS.F ht⟩) hS.2.2 dX12_mayNot_46
      · have c_13 : r_8.toInt < 4 := xI_nle rfl rfl c_13
        refine lv_iconst (v := 1) hx hb dX12_mayNot_41 (by decide) ?_
        refine lv_goto (tgt := 46) hx hb dX12_mayNot_42 (by decide) ?_
        exact W.zret (v := 1) hx hb hr (by decide) (fun t ht _ => ⟨⟨1, G_9, rfl, ⟨hB_G_9, hF, ⟨by decide, by decide⟩⟩, wd_t ht hW⟩, hS.F ht⟩) hS.2.2 dX12_mayNot_46

set_option maxHeartbeats 4000000 in
set_option maxRecDepth 100000 in
theorem n_asked (l : Launch) (D : va_G) (k : KT) (A : Nat → Prop) (a : Nat → Nat) (z : SK) (G : GS)   : Met l yX12_asked (WS yX12_asked cX12_asked 1 (some .int)) ({ frames := 1, cells := 0, slots := 0, locals := 20 }) (va_Pc [.ref (a 66)] (cW D k A a z G)) (va_Qi (fun (r : Int32) (G1 : GS) => Bd G1 ∧ Fr [] [] G G1 ∧ ((-1) ≤ r.toInt ∧ r.toInt ≤ 8)) (fun (G1 : GS) t => Wd D k A a G1 t.heap) A) 0 0 A := by
  refine Met.ofW (cc := cX12_asked) (maxL := 1) (ret := (some .int)) (by decide) rfl ?_
  intro p e s m args below meth c s₁ B hml hv
  obtain ⟨rfl, hW, hB_G, hK, hZ⟩ := hv
  have hx := B.exec
  have hb := B.bytes
  have hr := B.returns
  have hts := atoms_spec (ws := WS yX12_asked cX12_asked 1 (some .int)) B.pre
  have hgd : ∀ w ∈ gd, w ∈ WS yX12_asked cX12_asked 1 (some .int) := fun w h => List.mem_cons_of_mem _ h
  have hg : ∀ w ∈ gd, w.before _ s = true := fun w h => hts w (hgd w h)
  have hown : s.vm.findClass RX12 = some m.cls := findClass_of_methodNamed B.named
  have hS : va_S A s.heap s.heap [] := va_S.rf
  have hF : Fr [] [] G G := Fr.rf
  have hl := lv_entry ([.ref (a 66)]) (n := 1) (Nat.le_of_ble_eq_true rfl)
  rw [lg_entry_eq]
  generalize (lg_sl ([.ref (a 66)]) ++ List.replicate (1 - (lg_sl ([.ref (a 66)])).length) Slot.unset).toArray = ls at hl ⊢
  have hl : lv_has ls 1 [(0, .ref (a 66))] := hl
  refine lv_aload_n hx hb dX12_asked_0 rfl (lv_at hl 0 rfl) ?_
  refine S_getI (v := (G.1 66 6)) (C := RX12) (T := TX12) (N := 89) hx hb hg iX12 hown hK hW kd_66 rfl 6 (by decide) (hg (Cond.fieldLink RX12 205 "SlabWalkModel" "sort" "I") m1320) (fun _ h9 => h9) rfl rfl dX12_asked_1 ?_
  refine lv_iconst (v := 1) hx hb dX12_asked_4 (by decide) ?_
  refine lv_icmp_eq (tgt := 10) hx hb dX12_asked_5 (by decide) (fun c_1 => ?_) (fun c_1 => ?_)
  · have c_1 : (G.1 66 6).toInt = 1 := xI_eq rfl rfl c_1
    refine lv_aload_n hx hb dX12_asked_10 rfl (lv_at hl 0 rfl) ?_
    obtain ⟨y_2, ey_2⟩ : ∃ q, G.2.1 66 9 = q := ⟨_, rfl⟩
    refine S_getL (v := y_2) (C := RX12) (T := TX12) (N := 89) hx hb hg iX12 hown hK hW kd_66 rfl 9 (by decide) (hg (Cond.fieldLink RX12 198 "SlabWalkModel" "word" "J") m1323) (fun _ h9 => h9) rfl ey_2 dX12_asked_11 ?_
    refine lv_ldc2 (v := 457135713908) hx hb hown (hg (Cond.constantLong RX12 223 457135713908) m1644) dX12_asked_14 ?_
    refine W.lcmp hx hb dX12_asked_17 ?_
    refine lv_topi (fun y_3 ey_3 => ?_)
    have ty_3 := lcmp_rng ey_3
    refine lv_if_ne (tgt := 23) hx hb dX12_asked_18 (by decide) (fun c_4 => ?_) (fun c_4 => ?_)
    · have c_4 : y_3.toInt ≠ 0 := xI_ne rfl rfl c_4
      refine lv_aload_n hx hb dX12_asked_23 rfl (lv_at hl 0 rfl) ?_
      refine S_calli (va_runV (As := []) (rest := []) ⟨hx, hb, hml, hown, hts⟩ (n_mark l D k A a z G  ) (cwV 0 hts (gd_V hgd m1655 m1657 m58 m131 m1658) rfl rfl rfl (by decide +kernel) ⟨Nat.le_of_ble_eq_true rfl, Nat.le_of_ble_eq_true rfl⟩) (pre_V hW hB_G hK hZ hS kd_66 rfl) rfl rfl hl.1 rfl (lv_room (Nat.le_of_ble_eq_true rfl)) dX12_asked_24 ⟨Nat.le_of_ble_eq_true rfl, Nat.le_of_ble_eq_true rfl⟩) hS (fun r_5 G_6 H locs hpo hW hS => ?_)
      obtain ⟨hB_G_6, hq_7, f_9, hp_8⟩ := hpo
      have hF := hF.call hq_7 (by decide) (by decide)
      refine lv_if_le (tgt := 60) hx hb dX12_asked_27 (by decide) (fun c_10 => ?_) (fun c_10 => ?_)
      · have c_10 : r_5.toInt ≤ 0 := xI_le rfl rfl c_10
        refine lv_aload_n hx hb dX12_asked_60 rfl (lv_at hl 0 rfl) ?_
        obtain ⟨y_11, ey_11⟩ : ∃ q, G_6.2.1 66 9 = q := ⟨_, rfl⟩
        refine S_getL (v := y_11) (C := RX12) (T := TX12) (N := 89) hx hb hg iX12 hown hK hW kd_66 rfl 9 (by decide) (hg (Cond.fieldLink RX12 198 "SlabWalkModel" "word" "J") m1323) (fun _ h9 => h9) rfl ey_11 dX12_asked_61 ?_
        refine lv_ldc2 (v := 1819242087) hx hb hown (hg (Cond.constantLong RX12 249 1819242087) m1663) dX12_asked_64 ?_
        refine W.lcmp hx hb dX12_asked_67 ?_
        refine lv_topi (fun y_12 ey_12 => ?_)
        have ty_12 := lcmp_rng ey_12
        refine lv_if_ne (tgt := 73) hx hb dX12_asked_68 (by decide) (fun c_13 => ?_) (fun c_13 => ?_)
        · have c_13 : y_12.toInt ≠ 0 := xI_ne rfl rfl c_13
          refine lv_aload_n hx hb dX12_asked_73 rfl (lv_at hl 0 rfl) ?_
          obtain ⟨y_14, ey_14⟩ : ∃ q, G_6.2.1 66 9 = q := ⟨_, rfl⟩
          refine S_getL (v := y_14) (C := RX12) (T := TX12) (N := 89) hx hb hg iX12 hown hK hW kd_66 rfl 9 (by decide) (hg (Cond.fieldLink RX12 198 "SlabWalkModel" "word" "J") m1323) (fun _ h9 => h9) rfl ey_14 dX12_asked_74 ?_
          refine lv_ldc2 (v := 7238760) hx hb hown (hg (Cond.constantLong RX12 251 7238760) m1664) dX12_asked_77 ?_
          refine W.lcmp hx hb dX12_asked_80 ?_
          refine lv_topi (fun y_15 ey_15 => ?_)
          have ty_15 := lcmp_rng ey_15
          refine lv_if_ne (tgt := 87) hx hb dX12_asked_81 (by decide) (fun c_16 => ?_) (fun c_16 => ?_)
          · have c_16 : y_15.toInt ≠ 0 := xI_ne rfl rfl c_16
            refine lv_aload_n hx hb dX12_asked_87 rfl (lv_at hl 0 rfl) ?_
            obtain ⟨y_17, ey_17⟩ : ∃ q, G_6.2.1 66 9 = q := ⟨_, rfl⟩
            refine S_getL (v := y_17) (C := RX12) (T := TX12) (N := 89) hx hb hg iX12 hown hK hW kd_66 rfl 9 (by decide) (hg (Cond.fieldLink RX12 198 "SlabWalkModel" "word" "J") m1323) (fun _ h9 => h9) rfl ey_17 dX12_asked_88 ?_
            refine lv_ldc2 (v := 1768842088) hx hb hown (hg (Cond.constantLong RX12 253 1768842088) m1665) dX12_asked_91 ?_
            refine W.lcmp hx hb dX12_asked_94 ?_
            refine lv_topi (fun y_18 ey_18 => ?_)
            have ty_18 := lcmp_rng ey_18
            refine lv_if_ne (tgt := 101) hx hb dX12_asked_95 (by decide) (fun c_19 => ?_) (fun c_19 => ?_)
            · have c_19 : y_18.toInt ≠ 0 := xI_ne rfl rfl c_19
              refine lv_aload_n hx hb dX12_asked_101 rfl (lv_at hl 0 rfl) ?_
              obtain ⟨y_20, ey_20⟩ : ∃ q, G_6.2.1 66 9 = q := ⟨_, rfl⟩
              refine S_getL (v := y_20) (C := RX12) (T := TX12) (N := 89) hx hb hg iX12 hown hK hW kd_66 rfl 9 (by decide) (hg (Cond.fieldLink RX12 198 "SlabWalkModel" "word" "J") m1323) (fun _ h9 => h9) rfl ey_20 dX12_asked_102 ?_
              refine lv_ldc2 (v := 6578553) hx hb hown (hg (Cond.constantLong RX12 255 6578553) m1666) dX12_asked_105 ?_
              refine W.lcmp hx hb dX12_asked_108 ?_
              refine lv_topi (fun y_21 ey_21 => ?_)
              have ty_21 := lcmp_rng ey_21
              refine lv_if_ne (tgt := 117) hx hb dX12_asked_109 (by decide) (fun c_22 => ?_) (fun c_22 => ?_)
              · have c_22 : y_21.toInt ≠ 0 := xI_ne rfl rfl c_22
                refine lv_iconst (v := (-1)) hx hb dX12_asked_117 (by decide) ?_
                exact W.iret (v := (-1)) hx hb hr (fun t ht _ => ⟨⟨(-1), G_6, rfl, ⟨hB_G_6, hF, ⟨by decide, by decide⟩⟩, wd_t ht hW⟩, hS.F ht⟩) hS.2.2 dX12_asked_118
              · have c_22 : y_21.toInt = 0 := xI_eq rfl rfl c_22
                refine lv_bipush (v := 8) hx hb dX12_asked_112 (by decide) ?_
                refine lv_goto (tgt := 118) hx hb dX12_asked_114 (by decide) ?_
                exact W.iret (v := 8) hx hb hr (fun t ht _ => ⟨⟨8, G_6, rfl, ⟨hB_G_6, hF, ⟨by decide, by decide⟩⟩, wd_t ht hW⟩, hS.F ht⟩) hS.2.2 dX12_asked_118
            · have c_19 : y_18.toInt = 0 := xI_eq rfl rfl c_19
              refine lv_bipush (v := 7) hx hb dX12_asked_98 (by decide) ?_
              exact W.iret (v := 7) hx hb hr (fun t ht _ => ⟨⟨7, G_6, rfl, ⟨hB_G_6, hF, ⟨by decide, by decide⟩⟩, wd_t ht hW⟩, hS.F ht⟩) hS.2.2 dX12_asked_100
          · have c_16 : y_15.toInt = 0 := xI_eq rfl rfl c_16
            refine lv_bipush (v := 6) hx hb dX12_asked_84 (by decide) ?_
            exact W.iret (v := 6) hx hb hr (fun t ht _ => ⟨⟨6, G_6, rfl, ⟨hB_G_6, hF, ⟨by decide, by decide⟩⟩, wd_t ht hW⟩, hS.F ht⟩) hS.2.2 dX12_asked_86
        · have c_13 : y_12.toInt = 0 := xI_eq rfl rfl c_13
          refine lv_iconst (v := 5) hx hb dX12_asked_71 (by decide) ?_
          exact W.iret (v := 5) hx hb hr (fun t ht _ => ⟨⟨5, G_6, rfl, ⟨hB_G_6, hF, ⟨by decide, by decide⟩⟩, wd_t ht hW⟩, hS.F ht⟩) hS.2.2 dX12_asked_72
      · have c_10 : 0 < r_5.toInt := xI_nle rfl rfl c_10
        refine lv_aload_n hx hb dX12_asked_30 rfl (lv_at hl 0 rfl) ?_
        refine S_calli (va_runV (As := []) (rest := []) ⟨hx, hb, hml, hown, hts⟩ (n_mark l D k A a z G_6  ) (cwV 0 hts (gd_V hgd m1655 m1657 m58 m131 m1658) rfl rfl rfl (by decide +kernel) ⟨Nat.le_of_ble_eq_true rfl, Nat.le_of_ble_eq_true rfl⟩) (pre_V hW hB_G_6 hK hZ hS kd_66 rfl) rfl rfl hl.1 rfl (lv_room (Nat.le_of_ble_eq_true rfl)) dX12_asked_31 ⟨Nat.le_of_ble_eq_true rfl, Nat.le_of_ble_eq_true rfl⟩) hS (fun r_23 G_24 H locs hpo hW hS => ?_)
        obtain ⟨hB_G_24, hq_25, f_27, hp_26⟩ := hpo
        have hF := hF.call hq_25 (by decide) (by decide)
        refine lv_bipush (v := 8) hx hb dX12_asked_34 (by decide) ?_
        refine lv_icmp_ne (tgt := 43) hx hb dX12_asked_36 (by decide) (fun c_28 => ?_) (fun c_28 => ?_)
        · have c_28 : r_23.toInt ≠ 8 := xI_ne rfl rfl c_28
          refine lv_aload_n hx hb dX12_asked_43 rfl (lv_at hl 0 rfl) ?_
          refine S_calli (va_runV (As := []) (rest := []) ⟨hx, hb, hml, hown, hts⟩ (n_mark l D k A a z G_24  ) (cwV 0 hts (gd_V hgd m1655 m1657 m58 m131 m1658) rfl rfl rfl (by decide +kernel) ⟨Nat.le_of_ble_eq_true rfl, Nat.le_of_ble_eq_true rfl⟩) (pre_V hW hB_G_24 hK hZ hS kd_66 rfl) rfl rfl hl.1 rfl (lv_room (Nat.le_of_ble_eq_true rfl)) dX12_asked_44 ⟨Nat.le_of_ble_eq_true rfl, Nat.le_of_ble_eq_true rfl⟩) hS (fun r_29 G_30 H locs hpo hW hS => ?_)
          obtain ⟨hB_G_30, hq_31, f_33, hp_32⟩ := hpo
          have hF := hF.call hq_31 (by decide) (by decide)
          refine lv_iconst (v := 4) hx hb dX12_asked_47 (by decide) ?_
          refine lv_icmp_ne (tgt := 55) hx hb dX12_asked_48 (by decide) (fun c_34 => ?_) (fun c_34 => ?_)
          · have c_34 : r_29.toInt ≠ 4 := xI_ne rfl rfl c_34
            refine lv_aload_n hx hb dX12_asked_55 rfl (lv_at hl 0 rfl) ?_
            refine S_calli (va_runV (As := []) (rest := []) ⟨hx, hb, hml, hown, hts⟩ (n_mark l D k A a z G_30  ) (cwV 0 hts (gd_V hgd m1655 m1657 m58 m131 m1658) rfl rfl rfl (by decide +kernel) ⟨Nat.le_of_ble_eq_true rfl, Nat.le_of_ble_eq_true rfl⟩) (pre_V hW hB_G_30 hK hZ hS kd_66 rfl) rfl rfl hl.1 rfl (lv_room (Nat.le_of_ble_eq_true rfl)) dX12_asked_56 ⟨Nat.le_of_ble_eq_true rfl, Nat.le_of_ble_eq_true rfl⟩) hS (fun r_35 G_36 H locs hpo hW hS => ?_)
            obtain ⟨hB_G_36, hq_37, f_39, hp_38⟩ := hpo
            have hF := hF.call hq_37 (by decide) (by decide)
            exact W.iret (v := r_35) hx hb hr (fun t ht _ => ⟨⟨r_35, G_36, rfl, ⟨hB_G_36, hF, ⟨by omega, by omega⟩⟩, wd_t ht hW⟩, hS.F ht⟩) hS.2.2 dX12_asked_59
          · have c_34 : r_29.toInt = 4 := xI_eq rfl rfl c_34
            refine lv_iconst (v := 3) hx hb dX12_asked_51 (by decide) ?_
            refine lv_goto (tgt := 59) hx hb dX12_asked_52 (by decide) ?_
            exact W.iret (v := 3) hx hb hr (fun t ht _ => ⟨⟨3, G_30, rfl, ⟨hB_G_30, hF, ⟨by decide, by decide⟩⟩, wd_t ht hW⟩, hS.F ht⟩) hS.2.2 dX12_asked_59
        · have c_28 : r_23.toInt = 8 := xI_eq rfl rfl c_28
          refine lv_iconst (v := 4) hx hb dX12_asked_39 (by decide) ?_
          refine lv_goto (tgt := 59) hx hb dX12_asked_40 (by decide) ?_
          exact W.iret (v := 4) hx hb hr (fun t ht _ => ⟨⟨4, G_24, rfl, ⟨hB_G_24, hF, ⟨by decide, by decide⟩⟩, wd_t ht hW⟩, hS.F ht⟩) hS.2.2 dX12_asked_59
    · have c_4 : y_3.toInt = 0 := xI_eq rfl rfl c_4
      refine lv_iconst (v := 0) hx hb dX12_asked_21 (by decide) ?_
      exact W.iret (v := 0) hx hb hr (fun t ht _ => ⟨⟨0, G, rfl, ⟨hB_G, hF, ⟨by decide, by decide⟩⟩, wd_t ht hW⟩, hS.F ht⟩) hS.2.2 dX12_asked_22
  · have c_1 : (G.1 66 6).toInt ≠ 1 := xI_ne rfl rfl c_1
    refine lv_iconst (v := (-1)) hx hb dX12_asked_8 (by decide) ?_
    exact W.iret (v := (-1)) hx hb hr (fun t ht _ => ⟨⟨(-1), G, rfl, ⟨hB_G, hF, ⟨by decide, by decide⟩⟩, wd_t ht hW⟩, hS.F ht⟩) hS.2.2 dX12_asked_9
