theorem m70 : Cond.selects RX12 yX12_unit yX12_unit ∈ gd := gd_mem 70 (by decide +kernel) (by decide +kernel)
theorem m71 : Cond.selects RX12 yX12_mayNot yX12_mayNot ∈ gd := gd_mem 71 (by decide +kernel) (by decide +kernel)
theorem m72 : Cond.selects RX12 yX12_openUp yX12_openUp ∈ gd := gd_mem 72 (by decide +kernel) (by decide +kernel)
theorem m73 : Cond.selects RX12 yX12_isFull yX12_isFull ∈ gd := gd_mem 73 (by decide +kernel) (by decide +kernel)
theorem m74 : Cond.selects RX12 yX12_countUnit yX12_countUnit ∈ gd := gd_mem 74 (by decide +kernel) (by decide +kernel)
theorem m75 : Cond.selects RX12 yX12_asked yX12_asked ∈ gd := gd_mem 75 (by decide +kernel) (by decide +kernel)
theorem m76 : Cond.selects RX12 yX12_add yX12_add ∈ gd := gd_mem 76 (by decide +kernel) (by decide +kernel)
theorem m77 : Cond.selects RX12 yX12_sign yX12_sign ∈ gd := gd_mem 77 (by decide +kernel) (by decide +kernel)
theorem m78 : Cond.selects RX12 yX12_hasBracket yX12_hasBracket ∈ gd := gd_mem 78 (by decide +kernel) (by decide +kernel)
theorem m79 : Cond.selects RX12 yX12_close yX12_close ∈ gd := gd_mem 79 (by decide +kernel) (by decide +kernel)
theorem m80 : Cond.selects RX12 yX12_hasRelation yX12_hasRelation ∈ gd := gd_mem 80 (by decide +kernel) (by decide +kernel)
theorem m1325 : Cond.fieldLink RX12 21 "SlabWalkModel" "nStep" "[I" ∈ gd := gd_mem 1325 (by decide +kernel) (by decide +kernel)
theorem m1326 : Cond.fieldLink RX12 24 "SlabWalkModel" "nArg" "[I" ∈ gd := gd_mem 1326 (by decide +kernel) (by decide +kernel)
theorem m1327 : Cond.fieldLink RX12 27 "SlabWalkModel" "nMany" "[I" ∈ gd := gd_mem 1327 (by decide +kernel) (by decide +kernel)
theorem m1331 : Cond.fieldLink RX12 39 "SlabWalkModel" "open" "[I" ∈ gd := gd_mem 1331 (by decide +kernel) (by decide +kernel)
theorem m1333 : Cond.fieldLink RX12 296 "SlabWalkModel" "form" "I" ∈ gd := gd_mem 1333 (by decide +kernel) (by decide +kernel)
theorem m1334 : Cond.fieldLink RX12 299 "SlabWalkModel" "opens" "I" ∈ gd := gd_mem 1334 (by decide +kernel) (by decide +kernel)
theorem m1335 : Cond.fieldLink RX12 312 "SlabWalkModel" "nUnits" "I" ∈ gd := gd_mem 1335 (by decide +kernel) (by decide +kernel)
theorem m1337 : Cond.fieldLink RX12 315 "SlabWalkModel" "ownUnits" "I" ∈ gd := gd_mem 1337 (by decide +kernel) (by decide +kernel)
theorem m1338 : Cond.fieldLink RX12 309 "SlabWalkModel" "deep" "I" ∈ gd := gd_mem 1338 (by decide +kernel) (by decide +kernel)
theorem m1714 : Cond.methodLink RX12 333 yX12_unit ∈ gd := gd_mem 1714 (by decide +kernel) (by decide +kernel)
theorem m1716 : Cond.instanceMethod yX12_unit ∈ gd := gd_mem 1716 (by decide +kernel) (by decide +kernel)
theorem m1717 : Cond.code yX12_unit cX12_unit 3 none ∈ gd := gd_mem 1717 (by decide +kernel) (by decide +kernel)
theorem m1718 : Cond.methodLink RX12 318 yX12_mayNot ∈ gd := gd_mem 1718 (by decide +kernel) (by decide +kernel)
theorem m1720 : Cond.instanceMethod yX12_mayNot ∈ gd := gd_mem 1720 (by decide +kernel) (by decide +kernel)
theorem m1721 : Cond.code yX12_mayNot cX12_mayNot 1 (some .boolean) ∈ gd := gd_mem 1721 (by decide +kernel) (by decide +kernel)
theorem m1722 : Cond.methodLink RX12 302 yX12_tight ∈ gd := gd_mem 1722 (by decide +kernel) (by decide +kernel)
theorem m1723 : Cond.static yX12_tight ∈ gd := gd_mem 1723 (by decide +kernel) (by decide +kernel)
theorem m1724 : Cond.code yX12_tight cX12_tight 1 (some .int) ∈ gd := gd_mem 1724 (by decide +kernel) (by decide +kernel)
theorem m1725 : Cond.methodLink RX12 321 yX12_openUp ∈ gd := gd_mem 1725 (by decide +kernel) (by decide +kernel)
theorem m1727 : Cond.instanceMethod yX12_openUp ∈ gd := gd_mem 1727 (by decide +kernel) (by decide +kernel)
theorem m1728 : Cond.code yX12_openUp cX12_openUp 2 none ∈ gd := gd_mem 1728 (by decide +kernel) (by decide +kernel)
theorem m1729 : Cond.methodLink RX12 324 yX12_isFull ∈ gd := gd_mem 1729 (by decide +kernel) (by decide +kernel)
theorem m1731 : Cond.instanceMethod yX12_isFull ∈ gd := gd_mem 1731 (by decide +kernel) (by decide +kernel)
theorem m1732 : Cond.code yX12_isFull cX12_isFull 1 (some .boolean) ∈ gd := gd_mem 1732 (by decide +kernel) (by decide +kernel)
theorem m1733 : Cond.methodLink RX12 327 yX12_countUnit ∈ gd := gd_mem 1733 (by decide +kernel) (by decide +kernel)
theorem m1735 : Cond.instanceMethod yX12_countUnit ∈ gd := gd_mem 1735 (by decide +kernel) (by decide +kernel)
theorem m1736 : Cond.code yX12_countUnit cX12_countUnit 1 none ∈ gd := gd_mem 1736 (by decide +kernel) (by decide +kernel)
theorem m1737 : Cond.methodLink RX12 330 yX12_asked ∈ gd := gd_mem 1737 (by decide +kernel) (by decide +kernel)
theorem m1739 : Cond.instanceMethod yX12_asked ∈ gd := gd_mem 1739 (by decide +kernel) (by decide +kernel)
theorem m1740 : Cond.code yX12_asked cX12_asked 1 (some .int) ∈ gd := gd_mem 1740 (by decide +kernel) (by decide +kernel)
theorem m1741 : Cond.methodLink RX12 305 yX12_add ∈ gd := gd_mem 1741 (by decide +kernel) (by decide +kernel)
theorem m1743 : Cond.instanceMethod yX12_add ∈ gd := gd_mem 1743 (by decide +kernel) (by decide +kernel)
theorem m1744 : Cond.code yX12_add cX12_add 3 none ∈ gd := gd_mem 1744 (by decide +kernel) (by decide +kernel)
theorem m1745 : Cond.methodLink RX12 336 yX12_sign ∈ gd := gd_mem 1745 (by decide +kernel) (by decide +kernel)
theorem m1747 : Cond.instanceMethod yX12_sign ∈ gd := gd_mem 1747 (by decide +kernel) (by decide +kernel)
theorem m1748 : Cond.code yX12_sign cX12_sign 1 (some .int) ∈ gd := gd_mem 1748 (by decide +kernel) (by decide +kernel)
theorem m1749 : Cond.methodLink RX12 339 yX12_hasBracket ∈ gd := gd_mem 1749 (by decide +kernel) (by decide +kernel)
theorem m1751 : Cond.instanceMethod yX12_hasBracket ∈ gd := gd_mem 1751 (by decide +kernel) (by decide +kernel)
theorem m1752 : Cond.code yX12_hasBracket cX12_hasBracket 3 (some .boolean) ∈ gd := gd_mem 1752 (by decide +kernel) (by decide +kernel)
theorem m1753 : Cond.methodLink RX12 342 yX12_close ∈ gd := gd_mem 1753 (by decide +kernel) (by decide +kernel)
theorem m1755 : Cond.instanceMethod yX12_close ∈ gd := gd_mem 1755 (by decide +kernel) (by decide +kernel)
theorem m1756 : Cond.code yX12_close cX12_close 2 none ∈ gd := gd_mem 1756 (by decide +kernel) (by decide +kernel)
theorem m1757 : Cond.methodLink RX12 345 yX12_hasRelation ∈ gd := gd_mem 1757 (by decide +kernel) (by decide +kernel)
theorem m1759 : Cond.instanceMethod yX12_hasRelation ∈ gd := gd_mem 1759 (by decide +kernel) (by decide +kernel)
theorem m1760 : Cond.code yX12_hasRelation cX12_hasRelation 2 (some .boolean) ∈ gd := gd_mem 1760 (by decide +kernel) (by decide +kernel)
theorem dX12_add_0 : decode cX12_add 0 = .ok (.aload_n 0, 1) := by decide +kernel
theorem dX12_add_1 : decode cX12_add 1 = .ok (.getfield 21, 3) := by decide +kernel
theorem dX12_add_4 : decode cX12_add 4 = .ok (.sipush 320, 3) := by decide +kernel
theorem dX12_add_7 : decode cX12_add 7 = .ok (.aload_n 0, 1) := by decide +kernel
theorem dX12_add_8 : decode cX12_add 8 = .ok (.getfield 296, 3) := by decide +kernel
theorem dX12_add_11 : decode cX12_add 11 = .ok (.imul, 1) := by decide +kernel
theorem dX12_add_12 : decode cX12_add 12 = .ok (.aload_n 0, 1) := by decide +kernel
theorem dX12_add_13 : decode cX12_add 13 = .ok (.getfield 27, 3) := by decide +kernel
theorem dX12_add_16 : decode cX12_add 16 = .ok (.aload_n 0, 1) := by decide +kernel
theorem dX12_add_17 : decode cX12_add 17 = .ok (.getfield 296, 3) := by decide +kernel
theorem dX12_add_20 : decode cX12_add 20 = .ok (.iaload, 1) := by decide +kernel
theorem dX12_add_21 : decode cX12_add 21 = .ok (.iadd, 1) := by decide +kernel
theorem dX12_add_22 : decode cX12_add 22 = .ok (.iload_n 1, 1) := by decide +kernel
theorem dX12_add_23 : decode cX12_add 23 = .ok (.iastore, 1) := by decide +kernel
theorem dX12_add_24 : decode cX12_add 24 = .ok (.aload_n 0, 1) := by decide +kernel
theorem dX12_add_25 : decode cX12_add 25 = .ok (.getfield 24, 3) := by decide +kernel
theorem dX12_add_28 : decode cX12_add 28 = .ok (.sipush 320, 3) := by decide +kernel
theorem dX12_add_31 : decode cX12_add 31 = .ok (.aload_n 0, 1) := by decide +kernel
theorem dX12_add_32 : decode cX12_add 32 = .ok (.getfield 296, 3) := by decide +kernel
theorem dX12_add_35 : decode cX12_add 35 = .ok (.imul, 1) := by decide +kernel
theorem dX12_add_36 : decode cX12_add 36 = .ok (.aload_n 0, 1) := by decide +kernel
theorem dX12_add_37 : decode cX12_add 37 = .ok (.getfield 27, 3) := by decide +kernel
theorem dX12_add_40 : decode cX12_add 40 = .ok (.aload_n 0, 1) := by decide +kernel
theorem dX12_add_41 : decode cX12_add 41 = .ok (.getfield 296, 3) := by decide +kernel
theorem dX12_add_44 : decode cX12_add 44 = .ok (.iaload, 1) := by decide +kernel
theorem dX12_add_45 : decode cX12_add 45 = .ok (.iadd, 1) := by decide +kernel
theorem dX12_add_46 : decode cX12_add 46 = .ok (.iload_n 2, 1) := by decide +kernel
theorem dX12_add_47 : decode cX12_add 47 = .ok (.iastore, 1) := by decide +kernel
theorem dX12_add_48 : decode cX12_add 48 = .ok (.aload_n 0, 1) := by decide +kernel
theorem dX12_add_49 : decode cX12_add 49 = .ok (.getfield 27, 3) := by decide +kernel
theorem dX12_add_52 : decode cX12_add 52 = .ok (.aload_n 0, 1) := by decide +kernel
theorem dX12_add_53 : decode cX12_add 53 = .ok (.getfield 296, 3) := by decide +kernel
theorem dX12_add_56 : decode cX12_add 56 = .ok (.dup2, 1) := by decide +kernel
theorem dX12_add_57 : decode cX12_add 57 = .ok (.iaload, 1) := by decide +kernel
theorem dX12_add_58 : decode cX12_add 58 = .ok (.iconst 1, 1) := by decide +kernel
theorem dX12_add_59 : decode cX12_add 59 = .ok (.iadd, 1) := by decide +kernel
theorem dX12_add_60 : decode cX12_add 60 = .ok (.iastore, 1) := by decide +kernel
theorem dX12_add_61 : decode cX12_add 61 = .ok (.return_, 1) := by decide +kernel
theorem dX12_asked_0 : decode cX12_asked 0 = .ok (.aload_n 0, 1) := by decide +kernel
theorem dX12_asked_1 : decode cX12_asked 1 = .ok (.getfield 205, 3) := by decide +kernel
theorem dX12_asked_4 : decode cX12_asked 4 = .ok (.iconst 1, 1) := by decide +kernel
theorem dX12_asked_5 : decode cX12_asked 5 = .ok (.if_icmp .eq 5, 3) := by decide +kernel
theorem dX12_asked_8 : decode cX12_asked 8 = .ok (.iconst (-1), 1) := by decide +kernel
theorem dX12_asked_9 : decode cX12_asked 9 = .ok (.ireturn, 1) := by decide +kernel
theorem dX12_asked_10 : decode cX12_asked 10 = .ok (.aload_n 0, 1) := by decide +kernel
theorem dX12_asked_11 : decode cX12_asked 11 = .ok (.getfield 198, 3) := by decide +kernel
theorem dX12_asked_14 : decode cX12_asked 14 = .ok (.ldc2_w 223, 3) := by decide +kernel
theorem dX12_asked_17 : decode cX12_asked 17 = .ok (.lcmp, 1) := by decide +kernel
theorem dX12_asked_18 : decode cX12_asked 18 = .ok (.ifCond .ne 5, 3) := by decide +kernel
theorem dX12_asked_21 : decode cX12_asked 21 = .ok (.iconst 0, 1) := by decide +kernel
theorem dX12_asked_22 : decode cX12_asked 22 = .ok (.ireturn, 1) := by decide +kernel
theorem dX12_asked_23 : decode cX12_asked 23 = .ok (.aload_n 0, 1) := by decide +kernel
theorem dX12_asked_24 : decode cX12_asked 24 = .ok (.invokevirtual 245, 3) := by decide +kernel
theorem dX12_asked_27 : decode cX12_asked 27 = .ok (.ifCond .le 33, 3) := by decide +kernel
theorem dX12_asked_30 : decode cX12_asked 30 = .ok (.aload_n 0, 1) := by decide +kernel
theorem dX12_asked_31 : decode cX12_asked 31 = .ok (.invokevirtual 245, 3) := by decide +kernel
theorem dX12_asked_34 : decode cX12_asked 34 = .ok (.bipush 8, 2) := by decide +kernel
theorem dX12_asked_36 : decode cX12_asked 36 = .ok (.if_icmp .ne 7, 3) := by decide +kernel
theorem dX12_asked_39 : decode cX12_asked 39 = .ok (.iconst 4, 1) := by decide +kernel
theorem dX12_asked_40 : decode cX12_asked 40 = .ok (.goto 19, 3) := by decide +kernel
theorem dX12_asked_43 : decode cX12_asked 43 = .ok (.aload_n 0, 1) := by decide +kernel
theorem dX12_asked_44 : decode cX12_asked 44 = .ok (.invokevirtual 245, 3) := by decide +kernel
theorem dX12_asked_47 : decode cX12_asked 47 = .ok (.iconst 4, 1) := by decide +kernel
theorem dX12_asked_48 : decode cX12_asked 48 = .ok (.if_icmp .ne 7, 3) := by decide +kernel
theorem dX12_asked_51 : decode cX12_asked 51 = .ok (.iconst 3, 1) := by decide +kernel
theorem dX12_asked_52 : decode cX12_asked 52 = .ok (.goto 7, 3) := by decide +kernel
theorem dX12_asked_55 : decode cX12_asked 55 = .ok (.aload_n 0, 1) := by decide +kernel
theorem dX12_asked_56 : decode cX12_asked 56 = .ok (.invokevirtual 245, 3) := by decide +kernel
theorem dX12_asked_59 : decode cX12_asked 59 = .ok (.ireturn, 1) := by decide +kernel
theorem dX12_asked_60 : decode cX12_asked 60 = .ok (.aload_n 0, 1) := by decide +kernel
theorem dX12_asked_61 : decode cX12_asked 61 = .ok (.getfield 198, 3) := by decide +kernel
theorem dX12_asked_64 : decode cX12_asked 64 = .ok (.ldc2_w 249, 3) := by decide +kernel
theorem dX12_asked_67 : decode cX12_asked 67 = .ok (.lcmp, 1) := by decide +kernel
theorem dX12_asked_68 : decode cX12_asked 68 = .ok (.ifCond .ne 5, 3) := by decide +kernel
theorem dX12_asked_71 : decode cX12_asked 71 = .ok (.iconst 5, 1) := by decide +kernel
theorem dX12_asked_72 : decode cX12_asked 72 = .ok (.ireturn, 1) := by decide +kernel
theorem dX12_asked_73 : decode cX12_asked 73 = .ok (.aload_n 0, 1) := by decide +kernel
theorem dX12_asked_74 : decode cX12_asked 74 = .ok (.getfield 198, 3) := by decide +kernel
theorem dX12_asked_77 : decode cX12_asked 77 = .ok (.ldc2_w 251, 3) := by decide +kernel
theorem dX12_asked_80 : decode cX12_asked 80 = .ok (.lcmp, 1) := by decide +kernel
theorem dX12_asked_81 : decode cX12_asked 81 = .ok (.ifCond .ne 6, 3) := by decide +kernel
theorem dX12_asked_84 : decode cX12_asked 84 = .ok (.bipush 6, 2) := by decide +kernel
theorem dX12_asked_86 : decode cX12_asked 86 = .ok (.ireturn, 1) := by decide +kernel
theorem dX12_asked_87 : decode cX12_asked 87 = .ok (.aload_n 0, 1) := by decide +kernel
theorem dX12_asked_88 : decode cX12_asked 88 = .ok (.getfield 198, 3) := by decide +kernel
theorem dX12_asked_91 : decode cX12_asked 91 = .ok (.ldc2_w 253, 3) := by decide +kernel
theorem dX12_asked_94 : decode cX12_asked 94 = .ok (.lcmp, 1) := by decide +kernel
theorem dX12_asked_95 : decode cX12_asked 95 = .ok (.ifCond .ne 6, 3) := by decide +kernel
theorem dX12_asked_98 : decode cX12_asked 98 = .ok (.bipush 7, 2) := by decide +kernel
theorem dX12_asked_100 : decode cX12_asked 100 = .ok (.ireturn, 1) := by decide +kernel
theorem dX12_asked_101 : decode cX12_asked 101 = .ok (.aload_n 0, 1) := by decide +kernel
theorem dX12_asked_102 : decode cX12_asked 102 = .ok (.getfield 198, 3) := by decide +kernel
theorem dX12_asked_105 : decode cX12_asked 105 = .ok (.ldc2_w 255, 3) := by decide +kernel
theorem dX12_asked_108 : decode cX12_asked 108 = .ok (.lcmp, 1) := by decide +kernel
theorem dX12_asked_109 : decode cX12_asked 109 = .ok (.ifCond .ne 8, 3) := by decide +kernel
theorem dX12_asked_112 : decode cX12_asked 112 = .ok (.bipush 8, 2) := by decide +kernel
theorem dX12_asked_114 : decode cX12_asked 114 = .ok (.goto 4, 3) := by decide +kernel
theorem dX12_asked_117 : decode cX12_asked 117 = .ok (.iconst (-1), 1) := by decide +kernel
theorem dX12_asked_118 : decode cX12_asked 118 = .ok (.ireturn, 1) := by decide +kernel
theorem dX12_close_0 : decode cX12_close 0 = .ok (.aload_n 0, 1) := by decide +kernel
theorem dX12_close_1 : decode cX12_close 1 = .ok (.getfield 299, 3) := by decide +kernel
theorem dX12_close_4 : decode cX12_close 4 = .ok (.ifCond .le 97, 3) := by decide +kernel
theorem dX12_close_7 : decode cX12_close 7 = .ok (.aload_n 0, 1) := by decide +kernel
theorem dX12_close_8 : decode cX12_close 8 = .ok (.getfield 39, 3) := by decide +kernel
theorem dX12_close_11 : decode cX12_close 11 = .ok (.aload_n 0, 1) := by decide +kernel
theorem dX12_close_12 : decode cX12_close 12 = .ok (.getfield 299, 3) := by decide +kernel
theorem dX12_close_15 : decode cX12_close 15 = .ok (.iconst 1, 1) := by decide +kernel
theorem dX12_close_16 : decode cX12_close 16 = .ok (.isub, 1) := by decide +kernel
theorem dX12_close_17 : decode cX12_close 17 = .ok (.iaload, 1) := by decide +kernel
theorem dX12_close_18 : decode cX12_close 18 = .ok (.bipush 20, 2) := by decide +kernel
theorem dX12_close_20 : decode cX12_close 20 = .ok (.if_icmp .eq 81, 3) := by decide +kernel
theorem dX12_close_23 : decode cX12_close 23 = .ok (.aload_n 0, 1) := by decide +kernel
theorem dX12_close_24 : decode cX12_close 24 = .ok (.getfield 39, 3) := by decide +kernel
theorem dX12_close_27 : decode cX12_close 27 = .ok (.aload_n 0, 1) := by decide +kernel
theorem dX12_close_28 : decode cX12_close 28 = .ok (.getfield 299, 3) := by decide +kernel
theorem dX12_close_31 : decode cX12_close 31 = .ok (.iconst 1, 1) := by decide +kernel
theorem dX12_close_32 : decode cX12_close 32 = .ok (.isub, 1) := by decide +kernel
theorem dX12_close_33 : decode cX12_close 33 = .ok (.iaload, 1) := by decide +kernel
theorem dX12_close_34 : decode cX12_close 34 = .ok (.invokestatic 302, 3) := by decide +kernel
theorem dX12_close_37 : decode cX12_close 37 = .ok (.iload_n 1, 1) := by decide +kernel
theorem dX12_close_38 : decode cX12_close 38 = .ok (.if_icmp .lt 63, 3) := by decide +kernel
theorem dX12_close_41 : decode cX12_close 41 = .ok (.aload_n 0, 1) := by decide +kernel
theorem dX12_close_42 : decode cX12_close 42 = .ok (.dup, 1) := by decide +kernel
theorem dX12_close_43 : decode cX12_close 43 = .ok (.getfield 299, 3) := by decide +kernel
theorem dX12_close_46 : decode cX12_close 46 = .ok (.iconst 1, 1) := by decide +kernel
theorem dX12_close_47 : decode cX12_close 47 = .ok (.isub, 1) := by decide +kernel
theorem dX12_close_48 : decode cX12_close 48 = .ok (.putfield 299, 3) := by decide +kernel
theorem dX12_close_51 : decode cX12_close 51 = .ok (.aload_n 0, 1) := by decide +kernel
theorem dX12_close_52 : decode cX12_close 52 = .ok (.getfield 39, 3) := by decide +kernel
theorem dX12_close_55 : decode cX12_close 55 = .ok (.aload_n 0, 1) := by decide +kernel
theorem dX12_close_56 : decode cX12_close 56 = .ok (.getfield 299, 3) := by decide +kernel
theorem dX12_close_59 : decode cX12_close 59 = .ok (.iaload, 1) := by decide +kernel
theorem dX12_close_60 : decode cX12_close 60 = .ok (.bipush 21, 2) := by decide +kernel
theorem dX12_close_62 : decode cX12_close 62 = .ok (.if_icmp .ne 22, 3) := by decide +kernel
theorem dX12_close_65 : decode cX12_close 65 = .ok (.aload_n 0, 1) := by decide +kernel
theorem dX12_close_66 : decode cX12_close 66 = .ok (.iconst 2, 1) := by decide +kernel
theorem dX12_close_67 : decode cX12_close 67 = .ok (.iconst 0, 1) := by decide +kernel
theorem dX12_close_68 : decode cX12_close 68 = .ok (.invokevirtual 305, 3) := by decide +kernel
theorem dX12_close_71 : decode cX12_close 71 = .ok (.aload_n 0, 1) := by decide +kernel
theorem dX12_close_72 : decode cX12_close 72 = .ok (.dup, 1) := by decide +kernel
theorem dX12_close_73 : decode cX12_close 73 = .ok (.getfield 309, 3) := by decide +kernel
theorem dX12_close_76 : decode cX12_close 76 = .ok (.iconst 1, 1) := by decide +kernel
theorem dX12_close_77 : decode cX12_close 77 = .ok (.isub, 1) := by decide +kernel
theorem dX12_close_78 : decode cX12_close 78 = .ok (.putfield 309, 3) := by decide +kernel
theorem dX12_close_81 : decode cX12_close 81 = .ok (.goto (-81), 3) := by decide +kernel
theorem dX12_close_84 : decode cX12_close 84 = .ok (.aload_n 0, 1) := by decide +kernel
theorem dX12_close_85 : decode cX12_close 85 = .ok (.iconst 3, 1) := by decide +kernel
theorem dX12_close_86 : decode cX12_close 86 = .ok (.aload_n 0, 1) := by decide +kernel
theorem dX12_close_87 : decode cX12_close 87 = .ok (.getfield 39, 3) := by decide +kernel
theorem dX12_close_90 : decode cX12_close 90 = .ok (.aload_n 0, 1) := by decide +kernel
theorem dX12_close_91 : decode cX12_close 91 = .ok (.getfield 299, 3) := by decide +kernel
theorem dX12_close_94 : decode cX12_close 94 = .ok (.iaload, 1) := by decide +kernel
theorem dX12_close_95 : decode cX12_close 95 = .ok (.invokevirtual 305, 3) := by decide +kernel
theorem dX12_close_98 : decode cX12_close 98 = .ok (.goto (-98), 3) := by decide +kernel
theorem dX12_close_101 : decode cX12_close 101 = .ok (.return_, 1) := by decide +kernel
theorem dX12_countUnit_0 : decode cX12_countUnit 0 = .ok (.aload_n 0, 1) := by decide +kernel
theorem dX12_countUnit_1 : decode cX12_countUnit 1 = .ok (.dup, 1) := by decide +kernel
theorem dX12_countUnit_2 : decode cX12_countUnit 2 = .ok (.getfield 312, 3) := by decide +kernel
theorem dX12_countUnit_5 : decode cX12_countUnit 5 = .ok (.iconst 1, 1) := by decide +kernel
theorem dX12_countUnit_6 : decode cX12_countUnit 6 = .ok (.iadd, 1) := by decide +kernel
theorem dX12_countUnit_7 : decode cX12_countUnit 7 = .ok (.putfield 312, 3) := by decide +kernel
theorem dX12_countUnit_10 : decode cX12_countUnit 10 = .ok (.aload_n 0, 1) := by decide +kernel
theorem dX12_countUnit_11 : decode cX12_countUnit 11 = .ok (.dup, 1) := by decide +kernel
theorem dX12_countUnit_12 : decode cX12_countUnit 12 = .ok (.getfield 315, 3) := by decide +kernel
theorem dX12_countUnit_15 : decode cX12_countUnit 15 = .ok (.iconst 1, 1) := by decide +kernel
theorem dX12_countUnit_16 : decode cX12_countUnit 16 = .ok (.iadd, 1) := by decide +kernel
theorem dX12_countUnit_17 : decode cX12_countUnit 17 = .ok (.putfield 315, 3) := by decide +kernel
theorem dX12_countUnit_20 : decode cX12_countUnit 20 = .ok (.return_, 1) := by decide +kernel
theorem dX12_formula_0 : decode cX12_formula 0 = .ok (.aload_n 0, 1) := by decide +kernel
theorem dX12_formula_1 : decode cX12_formula 1 = .ok (.iload_n 1, 1) := by decide +kernel
theorem dX12_formula_2 : decode cX12_formula 2 = .ok (.putfield 296, 3) := by decide +kernel
theorem dX12_formula_5 : decode cX12_formula 5 = .ok (.aload_n 0, 1) := by decide +kernel
theorem dX12_formula_6 : decode cX12_formula 6 = .ok (.getfield 27, 3) := by decide +kernel
theorem dX12_formula_9 : decode cX12_formula 9 = .ok (.aload_n 0, 1) := by decide +kernel
theorem dX12_formula_10 : decode cX12_formula 10 = .ok (.getfield 296, 3) := by decide +kernel
theorem dX12_formula_13 : decode cX12_formula 13 = .ok (.iconst 0, 1) := by decide +kernel
theorem dX12_formula_14 : decode cX12_formula 14 = .ok (.iastore, 1) := by decide +kernel
theorem dX12_formula_15 : decode cX12_formula 15 = .ok (.aload_n 0, 1) := by decide +kernel
theorem dX12_formula_16 : decode cX12_formula 16 = .ok (.iconst 0, 1) := by decide +kernel
theorem dX12_formula_17 : decode cX12_formula 17 = .ok (.putfield 299, 3) := by decide +kernel
theorem dX12_formula_20 : decode cX12_formula 20 = .ok (.aload_n 0, 1) := by decide +kernel
theorem dX12_formula_21 : decode cX12_formula 21 = .ok (.iconst 0, 1) := by decide +kernel
theorem dX12_formula_22 : decode cX12_formula 22 = .ok (.putfield 309, 3) := by decide +kernel
theorem dX12_formula_25 : decode cX12_formula 25 = .ok (.aload_n 0, 1) := by decide +kernel
theorem dX12_formula_26 : decode cX12_formula 26 = .ok (.iconst 0, 1) := by decide +kernel
theorem dX12_formula_27 : decode cX12_formula 27 = .ok (.putfield 315, 3) := by decide +kernel
theorem dX12_formula_30 : decode cX12_formula 30 = .ok (.aload_n 0, 1) := by decide +kernel
theorem dX12_formula_31 : decode cX12_formula 31 = .ok (.invokevirtual 333, 3) := by decide +kernel
theorem dX12_formula_34 : decode cX12_formula 34 = .ok (.iconst 1, 1) := by decide +kernel
theorem dX12_formula_35 : decode cX12_formula 35 = .ok (.istore_n 2, 1) := by decide +kernel
theorem dX12_formula_36 : decode cX12_formula 36 = .ok (.iload_n 2, 1) := by decide +kernel
theorem dX12_formula_37 : decode cX12_formula 37 = .ok (.ifCond .eq 126, 3) := by decide +kernel
theorem dX12_formula_40 : decode cX12_formula 40 = .ok (.aload_n 0, 1) := by decide +kernel
theorem dX12_formula_41 : decode cX12_formula 41 = .ok (.getfield 218, 3) := by decide +kernel
theorem dX12_formula_44 : decode cX12_formula 44 = .ok (.ifCond .ne 119, 3) := by decide +kernel
theorem dX12_formula_47 : decode cX12_formula 47 = .ok (.aload_n 0, 1) := by decide +kernel
theorem dX12_formula_48 : decode cX12_formula 48 = .ok (.invokevirtual 336, 3) := by decide +kernel
theorem dX12_formula_51 : decode cX12_formula 51 = .ok (.istore_n 3, 1) := by decide +kernel
theorem dX12_formula_52 : decode cX12_formula 52 = .ok (.aload_n 0, 1) := by decide +kernel
theorem dX12_formula_53 : decode cX12_formula 53 = .ok (.getfield 205, 3) := by decide +kernel
theorem dX12_formula_56 : decode cX12_formula 56 = .ok (.bipush 41, 2) := by decide +kernel
theorem dX12_formula_58 : decode cX12_formula 58 = .ok (.if_icmp .ne 42, 3) := by decide +kernel
theorem dX12_formula_61 : decode cX12_formula 61 = .ok (.aload_n 0, 1) := by decide +kernel
theorem dX12_formula_62 : decode cX12_formula 62 = .ok (.invokevirtual 339, 3) := by decide +kernel
theorem dX12_formula_65 : decode cX12_formula 65 = .ok (.ifCond .eq 35, 3) := by decide +kernel
theorem dX12_formula_68 : decode cX12_formula 68 = .ok (.aload_n 0, 1) := by decide +kernel
theorem dX12_formula_69 : decode cX12_formula 69 = .ok (.iconst 0, 1) := by decide +kernel
theorem dX12_formula_70 : decode cX12_formula 70 = .ok (.invokevirtual 342, 3) := by decide +kernel
theorem dX12_formula_73 : decode cX12_formula 73 = .ok (.aload_n 0, 1) := by decide +kernel
theorem dX12_formula_74 : decode cX12_formula 74 = .ok (.dup, 1) := by decide +kernel
theorem dX12_formula_75 : decode cX12_formula 75 = .ok (.getfield 299, 3) := by decide +kernel
theorem dX12_formula_78 : decode cX12_formula 78 = .ok (.iconst 1, 1) := by decide +kernel
theorem dX12_formula_79 : decode cX12_formula 79 = .ok (.isub, 1) := by decide +kernel
theorem dX12_formula_80 : decode cX12_formula 80 = .ok (.putfield 299, 3) := by decide +kernel
theorem dX12_formula_83 : decode cX12_formula 83 = .ok (.aload_n 0, 1) := by decide +kernel
theorem dX12_formula_84 : decode cX12_formula 84 = .ok (.dup, 1) := by decide +kernel
theorem dX12_formula_85 : decode cX12_formula 85 = .ok (.getfield 309, 3) := by decide +kernel
theorem dX12_formula_88 : decode cX12_formula 88 = .ok (.iconst 1, 1) := by decide +kernel
theorem dX12_formula_89 : decode cX12_formula 89 = .ok (.isub, 1) := by decide +kernel
theorem dX12_formula_90 : decode cX12_formula 90 = .ok (.putfield 309, 3) := by decide +kernel
theorem dX12_formula_93 : decode cX12_formula 93 = .ok (.aload_n 0, 1) := by decide +kernel
theorem dX12_formula_94 : decode cX12_formula 94 = .ok (.invokevirtual 279, 3) := by decide +kernel
theorem dX12_formula_97 : decode cX12_formula 97 = .ok (.goto 63, 3) := by decide +kernel
theorem dX12_formula_100 : decode cX12_formula 100 = .ok (.iload_n 3, 1) := by decide +kernel
theorem dX12_formula_101 : decode cX12_formula 101 = .ok (.ifCond .eq 57, 3) := by decide +kernel
theorem dX12_formula_104 : decode cX12_formula 104 = .ok (.iload_n 3, 1) := by decide +kernel
theorem dX12_formula_105 : decode cX12_formula 105 = .ok (.invokestatic 302, 3) := by decide +kernel
theorem dX12_formula_108 : decode cX12_formula 108 = .ok (.iconst 4, 1) := by decide +kernel
theorem dX12_formula_109 : decode cX12_formula 109 = .ok (.if_icmp .ne 10, 3) := by decide +kernel
theorem dX12_formula_112 : decode cX12_formula 112 = .ok (.aload_n 0, 1) := by decide +kernel
theorem dX12_formula_113 : decode cX12_formula 113 = .ok (.invokevirtual 345, 3) := by decide +kernel
theorem dX12_formula_116 : decode cX12_formula 116 = .ok (.ifCond .ne 42, 3) := by decide +kernel
theorem dX12_formula_119 : decode cX12_formula 119 = .ok (.aload_n 0, 1) := by decide +kernel
theorem dX12_formula_120 : decode cX12_formula 120 = .ok (.iload_n 3, 1) := by decide +kernel
theorem dX12_formula_121 : decode cX12_formula 121 = .ok (.invokestatic 302, 3) := by decide +kernel
theorem dX12_formula_124 : decode cX12_formula 124 = .ok (.invokevirtual 342, 3) := by decide +kernel
theorem dX12_formula_127 : decode cX12_formula 127 = .ok (.aload_n 0, 1) := by decide +kernel
theorem dX12_formula_128 : decode cX12_formula 128 = .ok (.getfield 39, 3) := by decide +kernel
theorem dX12_formula_131 : decode cX12_formula 131 = .ok (.aload_n 0, 1) := by decide +kernel
theorem dX12_formula_132 : decode cX12_formula 132 = .ok (.getfield 299, 3) := by decide +kernel
theorem dX12_formula_135 : decode cX12_formula 135 = .ok (.iload_n 3, 1) := by decide +kernel
theorem dX12_formula_136 : decode cX12_formula 136 = .ok (.iastore, 1) := by decide +kernel
theorem dX12_formula_137 : decode cX12_formula 137 = .ok (.aload_n 0, 1) := by decide +kernel
theorem dX12_formula_138 : decode cX12_formula 138 = .ok (.dup, 1) := by decide +kernel
theorem dX12_formula_139 : decode cX12_formula 139 = .ok (.getfield 299, 3) := by decide +kernel
theorem dX12_formula_142 : decode cX12_formula 142 = .ok (.iconst 1, 1) := by decide +kernel
theorem dX12_formula_143 : decode cX12_formula 143 = .ok (.iadd, 1) := by decide +kernel
theorem dX12_formula_144 : decode cX12_formula 144 = .ok (.putfield 299, 3) := by decide +kernel
theorem dX12_formula_147 : decode cX12_formula 147 = .ok (.aload_n 0, 1) := by decide +kernel
theorem dX12_formula_148 : decode cX12_formula 148 = .ok (.invokevirtual 279, 3) := by decide +kernel
theorem dX12_formula_151 : decode cX12_formula 151 = .ok (.aload_n 0, 1) := by decide +kernel
theorem dX12_formula_152 : decode cX12_formula 152 = .ok (.invokevirtual 333, 3) := by decide +kernel
theorem dX12_formula_155 : decode cX12_formula 155 = .ok (.goto 5, 3) := by decide +kernel
theorem dX12_formula_158 : decode cX12_formula 158 = .ok (.iconst 0, 1) := by decide +kernel
theorem dX12_formula_159 : decode cX12_formula 159 = .ok (.istore_n 2, 1) := by decide +kernel
theorem dX12_formula_160 : decode cX12_formula 160 = .ok (.goto (-124), 3) := by decide +kernel
theorem dX12_formula_163 : decode cX12_formula 163 = .ok (.aload_n 0, 1) := by decide +kernel
theorem dX12_formula_164 : decode cX12_formula 164 = .ok (.getfield 218, 3) := by decide +kernel
theorem dX12_formula_167 : decode cX12_formula 167 = .ok (.ifCond .ne 15, 3) := by decide +kernel
theorem dX12_formula_170 : decode cX12_formula 170 = .ok (.aload_n 0, 1) := by decide +kernel
theorem dX12_formula_171 : decode cX12_formula 171 = .ok (.invokevirtual 339, 3) := by decide +kernel
theorem dX12_formula_174 : decode cX12_formula 174 = .ok (.ifCond .eq 8, 3) := by decide +kernel
theorem dX12_formula_177 : decode cX12_formula 177 = .ok (.aload_n 0, 1) := by decide +kernel
theorem dX12_formula_178 : decode cX12_formula 178 = .ok (.iconst 2, 1) := by decide +kernel
theorem dX12_formula_179 : decode cX12_formula 179 = .ok (.invokevirtual 282, 3) := by decide +kernel
theorem dX12_formula_182 : decode cX12_formula 182 = .ok (.aload_n 0, 1) := by decide +kernel
theorem dX12_formula_183 : decode cX12_formula 183 = .ok (.getfield 218, 3) := by decide +kernel
theorem dX12_formula_186 : decode cX12_formula 186 = .ok (.ifCond .ne 8, 3) := by decide +kernel
theorem dX12_formula_189 : decode cX12_formula 189 = .ok (.aload_n 0, 1) := by decide +kernel
theorem dX12_formula_190 : decode cX12_formula 190 = .ok (.iconst 0, 1) := by decide +kernel
theorem dX12_formula_191 : decode cX12_formula 191 = .ok (.invokevirtual 342, 3) := by decide +kernel
theorem dX12_formula_194 : decode cX12_formula 194 = .ok (.return_, 1) := by decide +kernel
theorem dX12_hasBracket_0 : decode cX12_hasBracket 0 = .ok (.iconst 0, 1) := by decide +kernel
theorem dX12_hasBracket_1 : decode cX12_hasBracket 1 = .ok (.istore_n 1, 1) := by decide +kernel
theorem dX12_hasBracket_2 : decode cX12_hasBracket 2 = .ok (.iconst 0, 1) := by decide +kernel
theorem dX12_hasBracket_3 : decode cX12_hasBracket 3 = .ok (.istore_n 2, 1) := by decide +kernel
theorem dX12_hasBracket_4 : decode cX12_hasBracket 4 = .ok (.iload_n 2, 1) := by decide +kernel
theorem dX12_hasBracket_5 : decode cX12_hasBracket 5 = .ok (.aload_n 0, 1) := by decide +kernel
theorem dX12_hasBracket_6 : decode cX12_hasBracket 6 = .ok (.getfield 299, 3) := by decide +kernel
theorem dX12_hasBracket_9 : decode cX12_hasBracket 9 = .ok (.if_icmp .ge 30, 3) := by decide +kernel
theorem dX12_hasBracket_12 : decode cX12_hasBracket 12 = .ok (.iload_n 1, 1) := by decide +kernel
theorem dX12_hasBracket_13 : decode cX12_hasBracket 13 = .ok (.ifCond .ne 14, 3) := by decide +kernel
theorem dX12_hasBracket_16 : decode cX12_hasBracket 16 = .ok (.aload_n 0, 1) := by decide +kernel
theorem dX12_hasBracket_17 : decode cX12_hasBracket 17 = .ok (.getfield 39, 3) := by decide +kernel
theorem dX12_hasBracket_20 : decode cX12_hasBracket 20 = .ok (.iload_n 2, 1) := by decide +kernel
theorem dX12_hasBracket_21 : decode cX12_hasBracket 21 = .ok (.iaload, 1) := by decide +kernel
theorem dX12_hasBracket_22 : decode cX12_hasBracket 22 = .ok (.bipush 20, 2) := by decide +kernel
theorem dX12_hasBracket_24 : decode cX12_hasBracket 24 = .ok (.if_icmp .ne 7, 3) := by decide +kernel
theorem dX12_hasBracket_27 : decode cX12_hasBracket 27 = .ok (.iconst 1, 1) := by decide +kernel
theorem dX12_hasBracket_28 : decode cX12_hasBracket 28 = .ok (.goto 4, 3) := by decide +kernel
theorem dX12_hasBracket_31 : decode cX12_hasBracket 31 = .ok (.iconst 0, 1) := by decide +kernel
theorem dX12_hasBracket_32 : decode cX12_hasBracket 32 = .ok (.istore_n 1, 1) := by decide +kernel
theorem dX12_hasBracket_33 : decode cX12_hasBracket 33 = .ok (.iinc 2 1, 3) := by decide +kernel
theorem dX12_hasBracket_36 : decode cX12_hasBracket 36 = .ok (.goto (-32), 3) := by decide +kernel
theorem dX12_hasBracket_39 : decode cX12_hasBracket 39 = .ok (.iload_n 1, 1) := by decide +kernel
theorem dX12_hasBracket_40 : decode cX12_hasBracket 40 = .ok (.ireturn, 1) := by decide +kernel
theorem dX12_hasRelation_0 : decode cX12_hasRelation 0 = .ok (.aload_n 0, 1) := by decide +kernel
theorem dX12_hasRelation_1 : decode cX12_hasRelation 1 = .ok (.getfield 299, 3) := by decide +kernel
theorem dX12_hasRelation_4 : decode cX12_hasRelation 4 = .ok (.iconst 1, 1) := by decide +kernel
theorem dX12_hasRelation_5 : decode cX12_hasRelation 5 = .ok (.isub, 1) := by decide +kernel
theorem dX12_hasRelation_6 : decode cX12_hasRelation 6 = .ok (.istore_n 1, 1) := by decide +kernel
theorem dX12_hasRelation_7 : decode cX12_hasRelation 7 = .ok (.iload_n 1, 1) := by decide +kernel
theorem dX12_hasRelation_8 : decode cX12_hasRelation 8 = .ok (.ifCond .lt 33, 3) := by decide +kernel
theorem dX12_hasRelation_11 : decode cX12_hasRelation 11 = .ok (.aload_n 0, 1) := by decide +kernel
theorem dX12_hasRelation_12 : decode cX12_hasRelation 12 = .ok (.getfield 39, 3) := by decide +kernel
theorem dX12_hasRelation_15 : decode cX12_hasRelation 15 = .ok (.iload_n 1, 1) := by decide +kernel
theorem dX12_hasRelation_16 : decode cX12_hasRelation 16 = .ok (.iaload, 1) := by decide +kernel
theorem dX12_hasRelation_17 : decode cX12_hasRelation 17 = .ok (.bipush 20, 2) := by decide +kernel
theorem dX12_hasRelation_19 : decode cX12_hasRelation 19 = .ok (.if_icmp .eq 22, 3) := by decide +kernel
theorem dX12_hasRelation_22 : decode cX12_hasRelation 22 = .ok (.aload_n 0, 1) := by decide +kernel
theorem dX12_hasRelation_23 : decode cX12_hasRelation 23 = .ok (.getfield 39, 3) := by decide +kernel
theorem dX12_hasRelation_26 : decode cX12_hasRelation 26 = .ok (.iload_n 1, 1) := by decide +kernel
theorem dX12_hasRelation_27 : decode cX12_hasRelation 27 = .ok (.iaload, 1) := by decide +kernel
theorem dX12_hasRelation_28 : decode cX12_hasRelation 28 = .ok (.invokestatic 302, 3) := by decide +kernel
theorem dX12_hasRelation_31 : decode cX12_hasRelation 31 = .ok (.iconst 4, 1) := by decide +kernel
theorem dX12_hasRelation_32 : decode cX12_hasRelation 32 = .ok (.if_icmp .le 9, 3) := by decide +kernel
theorem dX12_hasRelation_35 : decode cX12_hasRelation 35 = .ok (.iinc 1 (-1), 3) := by decide +kernel
theorem dX12_hasRelation_38 : decode cX12_hasRelation 38 = .ok (.goto (-31), 3) := by decide +kernel
theorem dX12_hasRelation_41 : decode cX12_hasRelation 41 = .ok (.iload_n 1, 1) := by decide +kernel
theorem dX12_hasRelation_42 : decode cX12_hasRelation 42 = .ok (.ifCond .lt 31, 3) := by decide +kernel
theorem dX12_hasRelation_45 : decode cX12_hasRelation 45 = .ok (.aload_n 0, 1) := by decide +kernel
theorem dX12_hasRelation_46 : decode cX12_hasRelation 46 = .ok (.getfield 39, 3) := by decide +kernel
theorem dX12_hasRelation_49 : decode cX12_hasRelation 49 = .ok (.iload_n 1, 1) := by decide +kernel
theorem dX12_hasRelation_50 : decode cX12_hasRelation 50 = .ok (.iaload, 1) := by decide +kernel
theorem dX12_hasRelation_51 : decode cX12_hasRelation 51 = .ok (.bipush 20, 2) := by decide +kernel
theorem dX12_hasRelation_53 : decode cX12_hasRelation 53 = .ok (.if_icmp .eq 20, 3) := by decide +kernel
theorem dX12_hasRelation_56 : decode cX12_hasRelation 56 = .ok (.aload_n 0, 1) := by decide +kernel
theorem dX12_hasRelation_57 : decode cX12_hasRelation 57 = .ok (.getfield 39, 3) := by decide +kernel
theorem dX12_hasRelation_60 : decode cX12_hasRelation 60 = .ok (.iload_n 1, 1) := by decide +kernel
theorem dX12_hasRelation_61 : decode cX12_hasRelation 61 = .ok (.iaload, 1) := by decide +kernel
theorem dX12_hasRelation_62 : decode cX12_hasRelation 62 = .ok (.invokestatic 302, 3) := by decide +kernel
theorem dX12_hasRelation_65 : decode cX12_hasRelation 65 = .ok (.iconst 4, 1) := by decide +kernel
theorem dX12_hasRelation_66 : decode cX12_hasRelation 66 = .ok (.if_icmp .ne 7, 3) := by decide +kernel
theorem dX12_hasRelation_69 : decode cX12_hasRelation 69 = .ok (.iconst 1, 1) := by decide +kernel
theorem dX12_hasRelation_70 : decode cX12_hasRelation 70 = .ok (.goto 4, 3) := by decide +kernel
theorem dX12_hasRelation_73 : decode cX12_hasRelation 73 = .ok (.iconst 0, 1) := by decide +kernel
theorem dX12_hasRelation_74 : decode cX12_hasRelation 74 = .ok (.ireturn, 1) := by decide +kernel
theorem dX12_isFull_0 : decode cX12_isFull 0 = .ok (.aload_n 0, 1) := by decide +kernel
theorem dX12_isFull_1 : decode cX12_isFull 1 = .ok (.getfield 312, 3) := by decide +kernel
theorem dX12_isFull_4 : decode cX12_isFull 4 = .ok (.bipush 90, 2) := by decide +kernel
theorem dX12_isFull_6 : decode cX12_isFull 6 = .ok (.if_icmp .eq 12, 3) := by decide +kernel
theorem dX12_isFull_9 : decode cX12_isFull 9 = .ok (.aload_n 0, 1) := by decide +kernel
theorem dX12_isFull_10 : decode cX12_isFull 10 = .ok (.getfield 315, 3) := by decide +kernel
theorem dX12_isFull_13 : decode cX12_isFull 13 = .ok (.bipush 30, 2) := by decide +kernel
theorem dX12_isFull_15 : decode cX12_isFull 15 = .ok (.if_icmp .ne 7, 3) := by decide +kernel
theorem dX12_isFull_18 : decode cX12_isFull 18 = .ok (.iconst 1, 1) := by decide +kernel
theorem dX12_isFull_19 : decode cX12_isFull 19 = .ok (.goto 4, 3) := by decide +kernel
theorem dX12_isFull_22 : decode cX12_isFull 22 = .ok (.iconst 0, 1) := by decide +kernel
theorem dX12_isFull_23 : decode cX12_isFull 23 = .ok (.ireturn, 1) := by decide +kernel
theorem dX12_mayNot_0 : decode cX12_mayNot 0 = .ok (.aload_n 0, 1) := by decide +kernel
theorem dX12_mayNot_1 : decode cX12_mayNot 1 = .ok (.getfield 299, 3) := by decide +kernel
theorem dX12_mayNot_4 : decode cX12_mayNot 4 = .ok (.ifCond .eq 37, 3) := by decide +kernel
theorem dX12_mayNot_7 : decode cX12_mayNot 7 = .ok (.aload_n 0, 1) := by decide +kernel
theorem dX12_mayNot_8 : decode cX12_mayNot 8 = .ok (.getfield 39, 3) := by decide +kernel
theorem dX12_mayNot_11 : decode cX12_mayNot 11 = .ok (.aload_n 0, 1) := by decide +kernel
theorem dX12_mayNot_12 : decode cX12_mayNot 12 = .ok (.getfield 299, 3) := by decide +kernel
theorem dX12_mayNot_15 : decode cX12_mayNot 15 = .ok (.iconst 1, 1) := by decide +kernel
theorem dX12_mayNot_16 : decode cX12_mayNot 16 = .ok (.isub, 1) := by decide +kernel
theorem dX12_mayNot_17 : decode cX12_mayNot 17 = .ok (.iaload, 1) := by decide +kernel
theorem dX12_mayNot_18 : decode cX12_mayNot 18 = .ok (.bipush 20, 2) := by decide +kernel
theorem dX12_mayNot_20 : decode cX12_mayNot 20 = .ok (.if_icmp .eq 21, 3) := by decide +kernel
theorem dX12_mayNot_23 : decode cX12_mayNot 23 = .ok (.aload_n 0, 1) := by decide +kernel
theorem dX12_mayNot_24 : decode cX12_mayNot 24 = .ok (.getfield 39, 3) := by decide +kernel
theorem dX12_mayNot_27 : decode cX12_mayNot 27 = .ok (.aload_n 0, 1) := by decide +kernel
theorem dX12_mayNot_28 : decode cX12_mayNot 28 = .ok (.getfield 299, 3) := by decide +kernel
theorem dX12_mayNot_31 : decode cX12_mayNot 31 = .ok (.iconst 1, 1) := by decide +kernel
theorem dX12_mayNot_32 : decode cX12_mayNot 32 = .ok (.isub, 1) := by decide +kernel
theorem dX12_mayNot_33 : decode cX12_mayNot 33 = .ok (.iaload, 1) := by decide +kernel
theorem dX12_mayNot_34 : decode cX12_mayNot 34 = .ok (.invokestatic 302, 3) := by decide +kernel
theorem dX12_mayNot_37 : decode cX12_mayNot 37 = .ok (.iconst 4, 1) := by decide +kernel
theorem dX12_mayNot_38 : decode cX12_mayNot 38 = .ok (.if_icmp .ge 7, 3) := by decide +kernel
theorem dX12_mayNot_41 : decode cX12_mayNot 41 = .ok (.iconst 1, 1) := by decide +kernel
theorem dX12_mayNot_42 : decode cX12_mayNot 42 = .ok (.goto 4, 3) := by decide +kernel
theorem dX12_mayNot_45 : decode cX12_mayNot 45 = .ok (.iconst 0, 1) := by decide +kernel
theorem dX12_mayNot_46 : decode cX12_mayNot 46 = .ok (.ireturn, 1) := by decide +kernel
theorem dX12_openUp_0 : decode cX12_openUp 0 = .ok (.aload_n 0, 1) := by decide +kernel
theorem dX12_openUp_1 : decode cX12_openUp 1 = .ok (.getfield 39, 3) := by decide +kernel
theorem dX12_openUp_4 : decode cX12_openUp 4 = .ok (.aload_n 0, 1) := by decide +kernel
theorem dX12_openUp_5 : decode cX12_openUp 5 = .ok (.getfield 299, 3) := by decide +kernel
theorem dX12_openUp_8 : decode cX12_openUp 8 = .ok (.iload_n 1, 1) := by decide +kernel
theorem dX12_openUp_9 : decode cX12_openUp 9 = .ok (.iastore, 1) := by decide +kernel
theorem dX12_openUp_10 : decode cX12_openUp 10 = .ok (.aload_n 0, 1) := by decide +kernel
theorem dX12_openUp_11 : decode cX12_openUp 11 = .ok (.dup, 1) := by decide +kernel
theorem dX12_openUp_12 : decode cX12_openUp 12 = .ok (.getfield 299, 3) := by decide +kernel
theorem dX12_openUp_15 : decode cX12_openUp 15 = .ok (.iconst 1, 1) := by decide +kernel
theorem dX12_openUp_16 : decode cX12_openUp 16 = .ok (.iadd, 1) := by decide +kernel
theorem dX12_openUp_17 : decode cX12_openUp 17 = .ok (.putfield 299, 3) := by decide +kernel
theorem dX12_openUp_20 : decode cX12_openUp 20 = .ok (.aload_n 0, 1) := by decide +kernel
theorem dX12_openUp_21 : decode cX12_openUp 21 = .ok (.dup, 1) := by decide +kernel
theorem dX12_openUp_22 : decode cX12_openUp 22 = .ok (.getfield 309, 3) := by decide +kernel
theorem dX12_openUp_25 : decode cX12_openUp 25 = .ok (.iconst 1, 1) := by decide +kernel
theorem dX12_openUp_26 : decode cX12_openUp 26 = .ok (.iadd, 1) := by decide +kernel
theorem dX12_openUp_27 : decode cX12_openUp 27 = .ok (.putfield 309, 3) := by decide +kernel
theorem dX12_openUp_30 : decode cX12_openUp 30 = .ok (.aload_n 0, 1) := by decide +kernel
theorem dX12_openUp_31 : decode cX12_openUp 31 = .ok (.getfield 218, 3) := by decide +kernel
theorem dX12_openUp_34 : decode cX12_openUp 34 = .ok (.ifCond .ne 7, 3) := by decide +kernel
theorem dX12_openUp_37 : decode cX12_openUp 37 = .ok (.aload_n 0, 1) := by decide +kernel
theorem dX12_openUp_38 : decode cX12_openUp 38 = .ok (.invokevirtual 279, 3) := by decide +kernel
theorem dX12_openUp_41 : decode cX12_openUp 41 = .ok (.return_, 1) := by decide +kernel
theorem dX12_sign_0 : decode cX12_sign 0 = .ok (.aload_n 0, 1) := by decide +kernel
theorem dX12_sign_1 : decode cX12_sign 1 = .ok (.ldc2_w 257, 3) := by decide +kernel
theorem dX12_sign_4 : decode cX12_sign 4 = .ok (.invokevirtual 275, 3) := by decide +kernel
theorem dX12_sign_7 : decode cX12_sign 7 = .ok (.ifCond .eq 6, 3) := by decide +kernel
theorem dX12_sign_10 : decode cX12_sign 10 = .ok (.bipush 38, 2) := by decide +kernel
theorem dX12_sign_12 : decode cX12_sign 12 = .ok (.ireturn, 1) := by decide +kernel
theorem dX12_sign_13 : decode cX12_sign 13 = .ok (.aload_n 0, 1) := by decide +kernel
theorem dX12_sign_14 : decode cX12_sign 14 = .ok (.ldc2_w 259, 3) := by decide +kernel
theorem dX12_sign_17 : decode cX12_sign 17 = .ok (.invokevirtual 275, 3) := by decide +kernel
theorem dX12_sign_20 : decode cX12_sign 20 = .ok (.ifCond .eq 6, 3) := by decide +kernel
theorem dX12_sign_23 : decode cX12_sign 23 = .ok (.bipush 124, 2) := by decide +kernel
theorem dX12_sign_25 : decode cX12_sign 25 = .ok (.ireturn, 1) := by decide +kernel
theorem dX12_sign_26 : decode cX12_sign 26 = .ok (.aload_n 0, 1) := by decide +kernel
theorem dX12_sign_27 : decode cX12_sign 27 = .ok (.getfield 205, 3) := by decide +kernel
theorem dX12_sign_30 : decode cX12_sign 30 = .ok (.bipush 60, 2) := by decide +kernel
theorem dX12_sign_32 : decode cX12_sign 32 = .ok (.if_icmp .eq 66, 3) := by decide +kernel
theorem dX12_sign_35 : decode cX12_sign 35 = .ok (.aload_n 0, 1) := by decide +kernel
theorem dX12_sign_36 : decode cX12_sign 36 = .ok (.getfield 205, 3) := by decide +kernel
theorem dX12_sign_39 : decode cX12_sign 39 = .ok (.bipush 62, 2) := by decide +kernel
theorem dX12_sign_41 : decode cX12_sign 41 = .ok (.if_icmp .eq 57, 3) := by decide +kernel
theorem dX12_sign_44 : decode cX12_sign 44 = .ok (.aload_n 0, 1) := by decide +kernel
theorem dX12_sign_45 : decode cX12_sign 45 = .ok (.getfield 205, 3) := by decide +kernel
theorem dX12_sign_48 : decode cX12_sign 48 = .ok (.bipush 61, 2) := by decide +kernel
theorem dX12_sign_50 : decode cX12_sign 50 = .ok (.if_icmp .eq 48, 3) := by decide +kernel
theorem dX12_sign_53 : decode cX12_sign 53 = .ok (.aload_n 0, 1) := by decide +kernel
theorem dX12_sign_54 : decode cX12_sign 54 = .ok (.getfield 205, 3) := by decide +kernel
theorem dX12_sign_57 : decode cX12_sign 57 = .ok (.bipush 43, 2) := by decide +kernel
theorem dX12_sign_59 : decode cX12_sign 59 = .ok (.if_icmp .eq 39, 3) := by decide +kernel
theorem dX12_sign_62 : decode cX12_sign 62 = .ok (.aload_n 0, 1) := by decide +kernel
theorem dX12_sign_63 : decode cX12_sign 63 = .ok (.getfield 205, 3) := by decide +kernel
theorem dX12_sign_66 : decode cX12_sign 66 = .ok (.bipush 45, 2) := by decide +kernel
theorem dX12_sign_68 : decode cX12_sign 68 = .ok (.if_icmp .eq 30, 3) := by decide +kernel
theorem dX12_sign_71 : decode cX12_sign 71 = .ok (.aload_n 0, 1) := by decide +kernel
theorem dX12_sign_72 : decode cX12_sign 72 = .ok (.getfield 205, 3) := by decide +kernel
theorem dX12_sign_75 : decode cX12_sign 75 = .ok (.bipush 42, 2) := by decide +kernel
theorem dX12_sign_77 : decode cX12_sign 77 = .ok (.if_icmp .eq 21, 3) := by decide +kernel
theorem dX12_sign_80 : decode cX12_sign 80 = .ok (.aload_n 0, 1) := by decide +kernel
theorem dX12_sign_81 : decode cX12_sign 81 = .ok (.getfield 205, 3) := by decide +kernel
theorem dX12_sign_84 : decode cX12_sign 84 = .ok (.bipush 47, 2) := by decide +kernel
theorem dX12_sign_86 : decode cX12_sign 86 = .ok (.if_icmp .eq 12, 3) := by decide +kernel
theorem dX12_sign_89 : decode cX12_sign 89 = .ok (.aload_n 0, 1) := by decide +kernel
theorem dX12_sign_90 : decode cX12_sign 90 = .ok (.getfield 205, 3) := by decide +kernel
theorem dX12_sign_93 : decode cX12_sign 93 = .ok (.bipush 37, 2) := by decide +kernel
theorem dX12_sign_95 : decode cX12_sign 95 = .ok (.if_icmp .ne 10, 3) := by decide +kernel
theorem dX12_sign_98 : decode cX12_sign 98 = .ok (.aload_n 0, 1) := by decide +kernel
theorem dX12_sign_99 : decode cX12_sign 99 = .ok (.getfield 205, 3) := by decide +kernel
theorem dX12_sign_102 : decode cX12_sign 102 = .ok (.goto 4, 3) := by decide +kernel
theorem dX12_sign_105 : decode cX12_sign 105 = .ok (.iconst 0, 1) := by decide +kernel
theorem dX12_sign_106 : decode cX12_sign 106 = .ok (.ireturn, 1) := by decide +kernel
theorem dX12_unit_0 : decode cX12_unit 0 = .ok (.iconst 1, 1) := by decide +kernel
theorem dX12_unit_1 : decode cX12_unit 1 = .ok (.istore_n 1, 1) := by decide +kernel
theorem dX12_unit_2 : decode cX12_unit 2 = .ok (.iload_n 1, 1) := by decide +kernel
theorem dX12_unit_3 : decode cX12_unit 3 = .ok (.ifCond .eq 98, 3) := by decide +kernel
theorem dX12_unit_6 : decode cX12_unit 6 = .ok (.aload_n 0, 1) := by decide +kernel
theorem dX12_unit_7 : decode cX12_unit 7 = .ok (.getfield 218, 3) := by decide +kernel
theorem dX12_unit_10 : decode cX12_unit 10 = .ok (.ifCond .ne 91, 3) := by decide +kernel
theorem dX12_unit_13 : decode cX12_unit 13 = .ok (.aload_n 0, 1) := by decide +kernel
theorem dX12_unit_14 : decode cX12_unit 14 = .ok (.ldc2_w 261, 3) := by decide +kernel
theorem dX12_unit_17 : decode cX12_unit 17 = .ok (.invokevirtual 275, 3) := by decide +kernel
theorem dX12_unit_20 : decode cX12_unit 20 = .ok (.ifCond .eq 33, 3) := by decide +kernel
theorem dX12_unit_23 : decode cX12_unit 23 = .ok (.aload_n 0, 1) := by decide +kernel
theorem dX12_unit_24 : decode cX12_unit 24 = .ok (.invokevirtual 318, 3) := by decide +kernel
theorem dX12_unit_27 : decode cX12_unit 27 = .ok (.ifCond .eq 26, 3) := by decide +kernel
theorem dX12_unit_30 : decode cX12_unit 30 = .ok (.aload_n 0, 1) := by decide +kernel
theorem dX12_unit_31 : decode cX12_unit 31 = .ok (.getfield 309, 3) := by decide +kernel
theorem dX12_unit_34 : decode cX12_unit 34 = .ok (.bipush 6, 2) := by decide +kernel
theorem dX12_unit_36 : decode cX12_unit 36 = .ok (.if_icmp .le 8, 3) := by decide +kernel
theorem dX12_unit_39 : decode cX12_unit 39 = .ok (.aload_n 0, 1) := by decide +kernel
theorem dX12_unit_40 : decode cX12_unit 40 = .ok (.iconst 2, 1) := by decide +kernel
theorem dX12_unit_41 : decode cX12_unit 41 = .ok (.invokevirtual 282, 3) := by decide +kernel
theorem dX12_unit_44 : decode cX12_unit 44 = .ok (.aload_n 0, 1) := by decide +kernel
theorem dX12_unit_45 : decode cX12_unit 45 = .ok (.bipush 21, 2) := by decide +kernel
theorem dX12_unit_47 : decode cX12_unit 47 = .ok (.invokevirtual 321, 3) := by decide +kernel
theorem dX12_unit_50 : decode cX12_unit 50 = .ok (.goto (-48), 3) := by decide +kernel
theorem dX12_unit_53 : decode cX12_unit 53 = .ok (.aload_n 0, 1) := by decide +kernel
theorem dX12_unit_54 : decode cX12_unit 54 = .ok (.getfield 205, 3) := by decide +kernel
theorem dX12_unit_57 : decode cX12_unit 57 = .ok (.bipush 40, 2) := by decide +kernel
theorem dX12_unit_59 : decode cX12_unit 59 = .ok (.if_icmp .ne 37, 3) := by decide +kernel
theorem dX12_unit_62 : decode cX12_unit 62 = .ok (.aload_n 0, 1) := by decide +kernel
theorem dX12_unit_63 : decode cX12_unit 63 = .ok (.invokevirtual 324, 3) := by decide +kernel
theorem dX12_unit_66 : decode cX12_unit 66 = .ok (.ifCond .ne 12, 3) := by decide +kernel
theorem dX12_unit_69 : decode cX12_unit 69 = .ok (.aload_n 0, 1) := by decide +kernel
theorem dX12_unit_70 : decode cX12_unit 70 = .ok (.getfield 309, 3) := by decide +kernel
theorem dX12_unit_73 : decode cX12_unit 73 = .ok (.bipush 6, 2) := by decide +kernel
theorem dX12_unit_75 : decode cX12_unit 75 = .ok (.if_icmp .le 8, 3) := by decide +kernel
theorem dX12_unit_78 : decode cX12_unit 78 = .ok (.aload_n 0, 1) := by decide +kernel
theorem dX12_unit_79 : decode cX12_unit 79 = .ok (.iconst 2, 1) := by decide +kernel
theorem dX12_unit_80 : decode cX12_unit 80 = .ok (.invokevirtual 282, 3) := by decide +kernel
theorem dX12_unit_83 : decode cX12_unit 83 = .ok (.aload_n 0, 1) := by decide +kernel
theorem dX12_unit_84 : decode cX12_unit 84 = .ok (.invokevirtual 327, 3) := by decide +kernel
theorem dX12_unit_87 : decode cX12_unit 87 = .ok (.aload_n 0, 1) := by decide +kernel
theorem dX12_unit_88 : decode cX12_unit 88 = .ok (.bipush 20, 2) := by decide +kernel
theorem dX12_unit_90 : decode cX12_unit 90 = .ok (.invokevirtual 321, 3) := by decide +kernel
theorem dX12_unit_93 : decode cX12_unit 93 = .ok (.goto (-91), 3) := by decide +kernel
theorem dX12_unit_96 : decode cX12_unit 96 = .ok (.iconst 0, 1) := by decide +kernel
theorem dX12_unit_97 : decode cX12_unit 97 = .ok (.istore_n 1, 1) := by decide +kernel
theorem dX12_unit_98 : decode cX12_unit 98 = .ok (.goto (-96), 3) := by decide +kernel
theorem dX12_unit_101 : decode cX12_unit 101 = .ok (.aload_n 0, 1) := by decide +kernel
theorem dX12_unit_102 : decode cX12_unit 102 = .ok (.getfield 218, 3) := by decide +kernel
theorem dX12_unit_105 : decode cX12_unit 105 = .ok (.ifCond .le 4, 3) := by decide +kernel
theorem dX12_unit_108 : decode cX12_unit 108 = .ok (.return_, 1) := by decide +kernel
theorem dX12_unit_109 : decode cX12_unit 109 = .ok (.aload_n 0, 1) := by decide +kernel
theorem dX12_unit_110 : decode cX12_unit 110 = .ok (.invokevirtual 330, 3) := by decide +kernel
theorem dX12_unit_113 : decode cX12_unit 113 = .ok (.istore_n 2, 1) := by decide +kernel
theorem dX12_unit_114 : decode cX12_unit 114 = .ok (.aload_n 0, 1) := by decide +kernel
theorem dX12_unit_115 : decode cX12_unit 115 = .ok (.getfield 205, 3) := by decide +kernel
theorem dX12_unit_118 : decode cX12_unit 118 = .ok (.iconst 2, 1) := by decide +kernel
theorem dX12_unit_119 : decode cX12_unit 119 = .ok (.if_icmp .eq 7, 3) := by decide +kernel
theorem dX12_unit_122 : decode cX12_unit 122 = .ok (.iload_n 2, 1) := by decide +kernel
theorem dX12_unit_123 : decode cX12_unit 123 = .ok (.ifCond .lt 10, 3) := by decide +kernel
theorem dX12_unit_126 : decode cX12_unit 126 = .ok (.aload_n 0, 1) := by decide +kernel
theorem dX12_unit_127 : decode cX12_unit 127 = .ok (.invokevirtual 324, 3) := by decide +kernel
theorem dX12_unit_130 : decode cX12_unit 130 = .ok (.ifCond .eq 8, 3) := by decide +kernel
theorem dX12_unit_133 : decode cX12_unit 133 = .ok (.aload_n 0, 1) := by decide +kernel
theorem dX12_unit_134 : decode cX12_unit 134 = .ok (.iconst 2, 1) := by decide +kernel
theorem dX12_unit_135 : decode cX12_unit 135 = .ok (.invokevirtual 282, 3) := by decide +kernel
theorem dX12_unit_138 : decode cX12_unit 138 = .ok (.aload_n 0, 1) := by decide +kernel
theorem dX12_unit_139 : decode cX12_unit 139 = .ok (.getfield 218, 3) := by decide +kernel
theorem dX12_unit_142 : decode cX12_unit 142 = .ok (.ifCond .le 4, 3) := by decide +kernel
theorem dX12_unit_145 : decode cX12_unit 145 = .ok (.return_, 1) := by decide +kernel
theorem dX12_unit_146 : decode cX12_unit 146 = .ok (.aload_n 0, 1) := by decide +kernel
theorem dX12_unit_147 : decode cX12_unit 147 = .ok (.invokevirtual 327, 3) := by decide +kernel
theorem dX12_unit_150 : decode cX12_unit 150 = .ok (.aload_n 0, 1) := by decide +kernel
theorem dX12_unit_151 : decode cX12_unit 151 = .ok (.iload_n 2, 1) := by decide +kernel
theorem dX12_unit_152 : decode cX12_unit 152 = .ok (.ifCond .ge 7, 3) := by decide +kernel
theorem dX12_unit_155 : decode cX12_unit 155 = .ok (.iconst 0, 1) := by decide +kernel
theorem dX12_unit_156 : decode cX12_unit 156 = .ok (.goto 4, 3) := by decide +kernel
theorem dX12_unit_159 : decode cX12_unit 159 = .ok (.iconst 1, 1) := by decide +kernel
theorem dX12_unit_160 : decode cX12_unit 160 = .ok (.iload_n 2, 1) := by decide +kernel
theorem dX12_unit_161 : decode cX12_unit 161 = .ok (.ifCond .ge 10, 3) := by decide +kernel
theorem dX12_unit_164 : decode cX12_unit 164 = .ok (.aload_n 0, 1) := by decide +kernel
theorem dX12_unit_165 : decode cX12_unit 165 = .ok (.getfield 202, 3) := by decide +kernel
theorem dX12_unit_168 : decode cX12_unit 168 = .ok (.goto 4, 3) := by decide +kernel
theorem dX12_unit_171 : decode cX12_unit 171 = .ok (.iload_n 2, 1) := by decide +kernel
theorem dX12_unit_172 : decode cX12_unit 172 = .ok (.invokevirtual 305, 3) := by decide +kernel
theorem dX12_unit_175 : decode cX12_unit 175 = .ok (.aload_n 0, 1) := by decide +kernel
theorem dX12_unit_176 : decode cX12_unit 176 = .ok (.invokevirtual 279, 3) := by decide +kernel
theorem dX12_unit_179 : decode cX12_unit 179 = .ok (.return_, 1) := by decide +kernel
set_option maxHeartbeats 4000000 in
set_option maxRecDepth 100000 in
theorem n_hasBracket (l : Launch) (D : va_G) (k : KT) (A : Nat → Prop) (a : Nat → Nat) (z : SK) (G : GS)   : Met l yX12_hasBracket (WS yX12_hasBracket cX12_hasBracket 3 (some .boolean)) ({ frames := 0, cells := 0, slots := 0, locals := 0 }) (va_Pc [.ref (a 66)] (cW D k A a z G)) (va_Qi (fun (r : Int32) (G1 : GS) => Bd G1 ∧ Fr [] [] G G1 ∧ (0 ≤ r.toInt ∧ r.toInt ≤ 1) ∧ (r.toInt = 1 → 1 ≤ gK G)) (fun (G1 : GS) t => Wd D k A a G1 t.heap) A) 0 0 A := by
  refine Met.ofW (cc := cX12_hasBracket) (maxL := 3) (ret := (some .boolean)) (by decide) rfl ?_
  intro p e s m args below meth c s₁ B hml hv
  obtain ⟨rfl, hW, hB_G, hK, hZ⟩ := hv
  have hx := B.exec
  have hb := B.bytes
  have hr := B.returns
  have hts := atoms_spec (ws := WS yX12_hasBracket cX12_hasBracket 3 (some .boolean)) B.pre
  have hgd : ∀ w ∈ gd, w ∈ WS yX12_hasBracket cX12_hasBracket 3 (some .boolean) := fun w h => List.mem_cons_of_mem _ h
  have hg : ∀ w ∈ gd, w.before _ s = true := fun w h => hts w (hgd w h)
  have hown : s.vm.findClass RX12 = some m.cls := findClass_of_methodNamed B.named
  have hS : va_S A s.heap s.heap [] := va_S.rf
  have hF : Fr [] [] G G := Fr.rf
  have hl := lv_entry ([.ref (a 66)]) (n := 3) (Nat.le_of_ble_eq_true rfl)
  rw [lg_entry_eq]
  generalize (lg_sl ([.ref (a 66)]) ++ List.replicate (3 - (lg_sl ([.ref (a 66)])).length) Slot.unset).toArray = ls at hl ⊢
  have hl : lv_has ls 3 [(0, .ref (a 66))] := hl
  refine lv_iconst (v := 0) hx hb dX12_hasBracket_0 (by decide) ?_
  refine lv_istore_n (lv' := [(1, .int 0), (0, .ref (a 66))]) hx hb dX12_hasBracket_1 rfl hl (by decide) rfl (fun ls hl => ?_)
  refine lv_iconst (v := 0) hx hb dX12_hasBracket_2 (by decide) ?_
  have u_1 := bk_mono (G.1 75) (0 : Int32).toInt
  refine lv_istore_n (lv' := [(2, .int 0), (1, .int 0), (0, .ref (a 66))]) hx hb dX12_hasBracket_3 rfl hl (by decide) rfl (fun ls hl => ?_)
  have b_8 : 0 ≤ (G.1 66 20).toInt ∧ (G.1 66 20).toInt ≤ 160 := hB_G.i 66 20 rfl rfl
  have qc_9 : (0 : Int32).toInt = 0 := rfl
  refine loop_N (Inv := fun n H locs ls => ∃ (G_2 : GS) (x_6 : Int32) (x_7 : Int32), (n : Int) = 160 - x_6.toInt ∧ (0 ≤ x_6.toInt ∧ x_6.toInt ≤ 160) ∧ (0 ≤ x_7.toInt ∧ x_7.toInt ≤ 1) ∧ (x_7.toInt ≤ bkI (G.1 75) x_6.toInt) ∧ (x_6.toInt ≤ (G.1 66 20).toInt) ∧ Wd D k A a G_2 H ∧ Bd G_2 ∧ Fr [] [] G G_2 ∧ Fr [] [] G G_2 ∧ va_S A s.heap H locs ∧ lv_has ls 3 [(2, .int x_6), (1, .int x_7), (0, .ref (a 66))]) (fun n_5 H locs ls ih_4 hI => ?_) (160 - 0 : Int).toNat ⟨G, 0, 0, (Int.toNat_of_nonneg (by omega)), ⟨by omega, by omega⟩, ⟨by omega, by omega⟩, (by omega), (by omega), hW, hB_G, hF, Fr.rf, hS, lv_sub hl [0, 1, 2] rfl⟩
  obtain ⟨G_2, x_6, x_7, hn_14, f_10, f_11, f_12, f_13, hW, hB_G_2, hF, hq_3, hS, hl⟩ := hI
  refine lv_iload_n hx hb dX12_hasBracket_4 rfl (lv_at hl 0 rfl) ?_
  refine lv_aload_n hx hb dX12_hasBracket_5 rfl (lv_at hl 2 rfl) ?_
  refine S_getI (v := (G.1 66 20)) (C := RX12) (T := TX12) (N := 89) hx hb hg iX12 hown hK hW kd_66 rfl 20 (by decide) (hg (Cond.fieldLink RX12 299 "SlabWalkModel" "opens" "I") m1334) (fun _ h9 => h9) rfl ((hq_3.i 66 20 (by decide) (by decide)).trans (rfl)) dX12_hasBracket_6 ?_
  refine lv_icmp_ge (tgt := 39) hx hb dX12_hasBracket_9 (by decide) (fun c_15 => ?_) (fun c_15 => ?_)
  · have c_15 : (G.1 66 20).toInt ≤ x_6.toInt := xI_le rfl rfl c_15
    have u_16 := bk_all (G := G) (x := x_6) (by omega) (by omega)
    refine lv_iload_n hx hb dX12_hasBracket_39 rfl (lv_at hl 1 rfl) ?_
    exact W.zret (v := x_7) hx hb hr (nar_z (by omega) (by omega)) (fun t ht _ => ⟨⟨x_7, G_2, rfl, ⟨hB_G_2, hF, ⟨by omega, by omega⟩, (by omega)⟩, wd_t ht hW⟩, hS.F ht⟩) hS.2.2 dX12_hasBracket_40
  · have c_15 : x_6.toInt < (G.1 66 20).toInt := xI_nle rfl rfl c_15
    refine lv_iload_n hx hb dX12_hasBracket_12 rfl (lv_at hl 1 rfl) ?_
    refine lv_if_ne (tgt := 27) hx hb dX12_hasBracket_13 (by decide) (fun c_17 => ?_) (fun c_17 => ?_)
    · have c_17 : x_7.toInt ≠ 0 := xI_ne rfl rfl c_17
      refine lv_iconst (v := 1) hx hb dX12_hasBracket_27 (by decide) ?_
      refine lv_goto (tgt := 32) hx hb dX12_hasBracket_28 (by decide) ?_
      refine lv_istore_n (lv' := [(1, .int 1), (2, .int x_6), (0, .ref (a 66))]) hx hb dX12_hasBracket_32 rfl hl (by decide) rfl (fun ls hl => ?_)
      have u_18 := bk_mono (G.1 75) x_6.toInt
      obtain ⟨y_19, ey_19⟩ : ∃ q, q = x_6 + 1 := ⟨_, rfl⟩
      have ty_19 : y_19.toInt = x_6.toInt + 1 := xI_add rfl rfl ey_19 (by omega) (by omega)
      refine lv_iinc (v := y_19) (lv' := [(2, .int y_19), (1, .int 1), (0, .ref (a 66))]) hx hb dX12_hasBracket_33 hl (k := 1) rfl (by rw [ey_19]; rfl) (by decide) rfl (fun ls hl => ?_)
      have u_20 : bkI (G.1 75) y_19.toInt = bkI (G.1 75) (x_6.toInt + 1) := by rw [ty_19]
      refine lv_goto (tgt := 4) hx hb dX12_hasBracket_36 (by decide) ?_
      have qc_21 : (1 : Int32).toInt = 1 := rfl
      exact ih_4 (160 - y_19.toInt : Int).toNat (by omega) _ _ _ ⟨G_2, y_19, 1, (Int.toNat_of_nonneg (by omega)), ⟨by omega, by omega⟩, ⟨by omega, by omega⟩, (by omega), (by omega), hW, hB_G_2, hF, (Fr.rf.call hq_3 (by decide) (by decide)), hS, lv_sub hl [0, 1, 2] rfl⟩
    · have c_17 : x_7.toInt = 0 := xI_eq rfl rfl c_17
      refine lv_aload_n hx hb dX12_hasBracket_16 rfl (lv_at hl 2 rfl) ?_
      refine S_getR (n := 75) (C := RX12) (T := TX12) (N := 89) hx hb hg iX12 hown hK hW kd_66 rfl 17 (by decide) (hg (Cond.fieldLink RX12 39 "SlabWalkModel" "open" "[I") m1331) (fun _ h9 => h9) rfl dX12_hasBracket_17 ?_
      refine lv_iload_n hx hb dX12_hasBracket_20 rfl (lv_at hl 0 rfl) ?_
      refine S_iald hx hb hK hW kd_75 (vin (by omega) (by omega)) dX12_hasBracket_21 (fun y_22 ey_22 => ?_)
      have u_23 : y_22.toInt = (G.1 75 x_6.toNatClampNeg).toInt := congrArg Int32.toInt (ey_22.trans ((hq_3.ri 75 (by decide) (by decide) x_6.toNatClampNeg)))
      have u_24 := bk_step (f := G.1 75) (x := x_6) (y := y_22) (by omega) (by omega)
      refine lv_bipush (v := 20) hx hb dX12_hasBracket_22 (by decide) ?_
      refine lv_icmp_ne (tgt := 31) hx hb dX12_hasBracket_24 (by decide) (fun c_25 => ?_) (fun c_25 => ?_)
      · have c_25 : y_22.toInt ≠ 20 := xI_ne rfl rfl c_25
        refine lv_iconst (v := 0) hx hb dX12_hasBracket_31 (by decide) ?_
        refine lv_istore_n (lv' := [(1, .int 0), (2, .int x_6), (0, .ref (a 66))]) hx hb dX12_hasBracket_32 rfl hl (by decide) rfl (fun ls hl => ?_)
        have u_26 := bk_mono (G.1 75) x_6.toInt
        obtain ⟨y_27, ey_27⟩ : ∃ q, q = x_6 + 1 := ⟨_, rfl⟩
        have ty_27 : y_27.toInt = x_6.toInt + 1 := xI_add rfl rfl ey_27 (by omega) (by omega)
        refine lv_iinc (v := y_27) (lv' := [(2, .int y_27), (1, .int 0), (0, .ref (a 66))]) hx hb dX12_hasBracket_33 hl (k := 1) rfl (by rw [ey_27]; rfl) (by decide) rfl (fun ls hl => ?_)
        have u_28 : bkI (G.1 75) y_27.toInt = bkI (G.1 75) (x_6.toInt + 1) := by rw [ty_27]
        refine lv_goto (tgt := 4) hx hb dX12_hasBracket_36 (by decide) ?_
        have qc_29 : (0 : Int32).toInt = 0 := rfl
        exact ih_4 (160 - y_27.toInt : Int).toNat (by omega) _ _ _ ⟨G_2, y_27, 0, (Int.toNat_of_nonneg (by omega)), ⟨by omega, by omega⟩, ⟨by omega, by omega⟩, (by omega), (by omega), hW, hB_G_2, hF, (Fr.rf.call hq_3 (by decide) (by decide)), hS, lv_sub hl [0, 1, 2] rfl⟩
      · have c_25 : y_22.toInt = 20 := xI_eq rfl rfl c_25
        refine lv_iconst (v := 1) hx hb dX12_hasBracket_27 (by decide) ?_
        refine lv_goto (tgt := 32) hx hb dX12_hasBracket_28 (by decide) ?_
        refine lv_istore_n (lv' := [(1, .int 1), (2, .int x_6), (0, .ref (a 66))]) hx hb dX12_hasBracket_32 rfl hl (by decide) rfl (fun ls hl => ?_)
        have u_30 := bk_mono (G.1 75) x_6.toInt
        obtain ⟨y_31, ey_31⟩ : ∃ q, q = x_6 + 1 := ⟨_, rfl⟩
        have ty_31 : y_31.toInt = x_6.toInt + 1 := xI_add rfl rfl ey_31 (by omega) (by omega)
        refine lv_iinc (v := y_31) (lv' := [(2, .int y_31), (1, .int 1), (0, .ref (a 66))]) hx hb dX12_hasBracket_33 hl (k := 1) rfl (by rw [ey_31]; rfl) (by decide) rfl (fun ls hl => ?_)
        have u_32 : bkI (G.1 75) y_31.toInt = bkI (G.1 75) (x_6.toInt + 1) := by rw [ty_31]
        refine lv_goto (tgt := 4) hx hb dX12_hasBracket_36 (by decide) ?_
        have qc_33 : (1 : Int32).toInt = 1 := rfl
        exact ih_4 (160 - y_31.toInt : Int).toNat (by omega) _ _ _ ⟨G_2, y_31, 1, (Int.toNat_of_nonneg (by omega)), ⟨by omega, by omega⟩, ⟨by omega, by omega⟩, (by omega), (by omega), hW, hB_G_2, hF, (Fr.rf.call hq_3 (by decide) (by decide)), hS, lv_sub hl [0, 1, 2] rfl⟩

set_option maxHeartbeats 4000000 in
set_option maxRecDepth 100000 in
theorem n_add (l : Launch) (D : va_G) (k : KT) (A : Nat → Prop) (a : Nat → Nat) (z : SK) (G : GS) (p0 : Int32) (p1 : Int32) (ha_p0 : 0 ≤ p0.toInt ∧ p0.toInt ≤ 3) (hgm9 : gM G ≤ 319) : Met l yX12_add (WS yX12_add cX12_add 3 none) ({ frames := 0, cells := 0, slots := 0, locals := 0 }) (va_Pc [.ref (a 66), .int p0, .int p1] (cW D k A a z G)) (va_Qv (fun (G1 : GS) => Bd G1 ∧ Fr [69, 70, 71] [] G G1 ∧ (gM G1 = gM G + 1 ∧ (p0.toInt ≤ 1 → gD G1 = gD G + 1) ∧ (p0.toInt = 2 → gD G1 = gD G) ∧ (p0.toInt = 3 → gD G1 = gD G - 1) ∧ (gC G = 1 → 0 ≤ gD G → gD G ≤ 40 → (2 ≤ p0.toInt → 1 ≤ gD G) → (3 ≤ p0.toInt → 2 ≤ gD G) → gC G1 = 1))) (fun (G1 : GS) t => Wd D k A a G1 t.heap) A) 0 0 A := by
  refine Met.ofW (cc := cX12_add) (maxL := 3) (ret := none) (by decide) rfl ?_
  intro p e s m args below meth c s₁ B hml hv
  obtain ⟨rfl, hW, hB_G, hK, hZ⟩ := hv
  have hx := B.exec
  have hb := B.bytes
  have hr := B.returns
  have hts := atoms_spec (ws := WS yX12_add cX12_add 3 none) B.pre
  have hgd : ∀ w ∈ gd, w ∈ WS yX12_add cX12_add 3 none := fun w h => List.mem_cons_of_mem _ h
  have hg : ∀ w ∈ gd, w.before _ s = true := fun w h => hts w (hgd w h)
  have hown : s.vm.findClass RX12 = some m.cls := findClass_of_methodNamed B.named
  have hS : va_S A s.heap s.heap [] := va_S.rf
  have hF : Fr [69, 70, 71] [] G G := Fr.rf
  have hl := lv_entry ([.ref (a 66), .int p0, .int p1]) (n := 3) (Nat.le_of_ble_eq_true rfl)
  rw [lg_entry_eq]
  generalize (lg_sl ([.ref (a 66), .int p0, .int p1]) ++ List.replicate (3 - (lg_sl ([.ref (a 66), .int p0, .int p1])).length) Slot.unset).toArray = ls at hl ⊢
  have hl : lv_has ls 3 [(0, .ref (a 66)), (1, .int p0), (2, .int p1)] := hl
  have hgm : gM G = (G.1 71 (G.1 66 19).toNatClampNeg).toInt := rfl
  refine lv_aload_n hx hb dX12_add_0 rfl (lv_at hl 0 rfl) ?_
  refine S_getR (n := 69) (C := RX12) (T := TX12) (N := 89) hx hb hg iX12 hown hK hW kd_66 rfl 11 (by decide) (hg (Cond.fieldLink RX12 21 "SlabWalkModel" "nStep" "[I") m1325) (fun _ h9 => h9) rfl dX12_add_1 ?_
  refine lv_sipush (v := 320) hx hb dX12_add_4 (by decide) ?_
  refine lv_aload_n hx hb dX12_add_7 rfl (lv_at hl 0 rfl) ?_
  have b_1 : 0 ≤ (G.1 66 19).toInt ∧ (G.1 66 19).toInt ≤ 5 := hB_G.i 66 19 rfl rfl
  refine S_getI (v := (G.1 66 19)) (C := RX12) (T := TX12) (N := 89) hx hb hg iX12 hown hK hW kd_66 rfl 19 (by decide) (hg (Cond.fieldLink RX12 296 "SlabWalkModel" "form" "I") m1333) (fun _ h9 => h9) rfl rfl dX12_add_8 ?_
  refine lv_imul hx hb dX12_add_11 ?_
  refine lv_topi (fun y_2 ey_2 => ?_)
  have ty_2 : y_2.toInt = 320 * (G.1 66 19).toInt := xI_mul rfl rfl ey_2 (by omega) (by omega)
  refine lv_aload_n hx hb dX12_add_12 rfl (lv_at hl 0 rfl) ?_
  refine S_getR (n := 71) (C := RX12) (T := TX12) (N := 89) hx hb hg iX12 hown hK hW kd_66 rfl 13 (by decide) (hg (Cond.fieldLink RX12 27 "SlabWalkModel" "nMany" "[I") m1327) (fun _ h9 => h9) rfl dX12_add_13 ?_
  refine lv_aload_n hx hb dX12_add_16 rfl (lv_at hl 0 rfl) ?_
  refine S_getI (v := (G.1 66 19)) (C := RX12) (T := TX12) (N := 89) hx hb hg iX12 hown hK hW kd_66 rfl 19 (by decide) (hg (Cond.fieldLink RX12 296 "SlabWalkModel" "form" "I") m1333) (fun _ h9 => h9) rfl rfl dX12_add_17 ?_
  refine S_iald hx hb hK hW kd_71 (vin (by omega) (by omega)) dX12_add_20 (fun y_3 ey_3 => ?_)
  have ty_3 : 0 ≤ y_3.toInt ∧ y_3.toInt ≤ 320 := hB_G.v ey_3 rfl rfl
  have u_4 : y_3.toInt = (G.1 71 (G.1 66 19).toNatClampNeg).toInt := congrArg Int32.toInt (ey_3)
  refine lv_iadd hx hb dX12_add_21 ?_
  refine lv_topi (fun y_5 ey_5 => ?_)
  have ty_5 : y_5.toInt = y_2.toInt + y_3.toInt := xI_add rfl rfl ey_5 (by omega) (by omega)
  refine lv_iload_n hx hb dX12_add_22 rfl (lv_at hl 1 rfl) ?_
  refine S_iast hx hb hK hW hS kd_69 (vin (by omega) (by omega)) dX12_add_23 (fun G_6 H locs eG_6 hW hS => ?_)
  have hB_G_6 : Bd G_6 := hB_G.put (lo := (-2147483648)) (hi := 2147483647) eG_6 rfl rfl rfl (tI_rng _).1 (tI_rng _).2 (hB_G.2.put eG_6 rfl)
  have hF := hF.put eG_6 (Or.inl (by decide))
  refine lv_aload_n hx hb dX12_add_24 rfl (lv_at hl 0 rfl) ?_
  refine S_getR (n := 70) (C := RX12) (T := TX12) (N := 89) hx hb hg iX12 hown hK hW kd_66 rfl 12 (by decide) (hg (Cond.fieldLink RX12 24 "SlabWalkModel" "nArg" "[I") m1326) (fun _ h9 => h9) rfl dX12_add_25 ?_
  refine lv_sipush (v := 320) hx hb dX12_add_28 (by decide) ?_
  refine lv_aload_n hx hb dX12_add_31 rfl (lv_at hl 0 rfl) ?_
  refine S_getI (v := (G.1 66 19)) (C := RX12) (T := TX12) (N := 89) hx hb hg iX12 hown hK hW kd_66 rfl 19 (by decide) (hg (Cond.fieldLink RX12 296 "SlabWalkModel" "form" "I") m1333) (fun _ h9 => h9) rfl ((gp_ne eG_6 (fun q => absurd q.1 (by decide))).trans (rfl)) dX12_add_32 ?_
  refine lv_imul hx hb dX12_add_35 ?_
  refine lv_topi (fun y_7 ey_7 => ?_)
  have ty_7 : y_7.toInt = 320 * (G.1 66 19).toInt := xI_mul rfl rfl ey_7 (by omega) (by omega)
  refine lv_aload_n hx hb dX12_add_36 rfl (lv_at hl 0 rfl) ?_
  refine S_getR (n := 71) (C := RX12) (T := TX12) (N := 89) hx hb hg iX12 hown hK hW kd_66 rfl 13 (by decide) (hg (Cond.fieldLink RX12 27 "SlabWalkModel" "nMany" "[I") m1327) (fun _ h9 => h9) rfl dX12_add_37 ?_
  refine lv_aload_n hx hb dX12_add_40 rfl (lv_at hl 0 rfl) ?_
  refine S_getI (v := (G.1 66 19)) (C := RX12) (T := TX12) (N := 89) hx hb hg iX12 hown hK hW kd_66 rfl 19 (by decide) (hg (Cond.fieldLink RX12 296 "SlabWalkModel" "form" "I") m1333) (fun _ h9 => h9) rfl ((gp_ne eG_6 (fun q => absurd q.1 (by decide))).trans (rfl)) dX12_add_41 ?_
  refine S_iald hx hb hK hW kd_71 (vin (by omega) (by omega)) dX12_add_44 (fun y_8 ey_8 => ?_)
  have ty_8 : 0 ≤ y_8.toInt ∧ y_8.toInt ≤ 320 := hB_G_6.v ey_8 rfl rfl
  have u_9 : y_8.toInt = y_3.toInt := congrArg Int32.toInt (ey_8.trans (((gp_ne eG_6 (fun q => absurd q.1 (by decide))).trans (ey_3.symm))))
  refine lv_iadd hx hb dX12_add_45 ?_
  refine lv_topi (fun y_10 ey_10 => ?_)
  have ty_10 : y_10.toInt = y_7.toInt + y_8.toInt := xI_add rfl rfl ey_10 (by omega) (by omega)
  refine lv_iload_n hx hb dX12_add_46 rfl (lv_at hl 2 rfl) ?_
  refine S_iast hx hb hK hW hS kd_70 (vin (by omega) (by omega)) dX12_add_47 (fun G_11 H locs eG_11 hW hS => ?_)
  have hB_G_11 : Bd G_11 := hB_G_6.put (lo := (-2147483648)) (hi := 2147483647) eG_11 rfl rfl rfl (tI_rng _).1 (tI_rng _).2 (hB_G_6.2.put eG_11 rfl)
  have hF := hF.put eG_11 (Or.inl (by decide))
  refine lv_aload_n hx hb dX12_add_48 rfl (lv_at hl 0 rfl) ?_
  refine S_getR (n := 71) (C := RX12) (T := TX12) (N := 89) hx hb hg iX12 hown hK hW kd_66 rfl 13 (by decide) (hg (Cond.fieldLink RX12 27 "SlabWalkModel" "nMany" "[I") m1327) (fun _ h9 => h9) rfl dX12_add_49 ?_
  refine lv_aload_n hx hb dX12_add_52 rfl (lv_at hl 0 rfl) ?_
  refine S_getI (v := (G.1 66 19)) (C := RX12) (T := TX12) (N := 89) hx hb hg iX12 hown hK hW kd_66 rfl 19 (by decide) (hg (Cond.fieldLink RX12 296 "SlabWalkModel" "form" "I") m1333) (fun _ h9 => h9) rfl ((gp_ne eG_11 (fun q => absurd q.1 (by decide))).trans ((gp_ne eG_6 (fun q => absurd q.1 (by decide))).trans (rfl))) dX12_add_53 ?_
  refine lv_dup2_11 hx hb dX12_add_56 rfl rfl ?_
  refine S_iald hx hb hK hW kd_71 (vin (by omega) (by omega)) dX12_add_57 (fun y_12 ey_12 => ?_)
  have ty_12 : 0 ≤ y_12.toInt ∧ y_12.toInt ≤ 320 := hB_G_11.v ey_12 rfl rfl
  have u_13 : y_12.toInt = y_8.toInt := congrArg Int32.toInt (ey_12.trans (((gp_ne eG_11 (fun q => absurd q.1 (by decide))).trans (ey_8.symm))))
  refine lv_iconst (v := 1) hx hb dX12_add_58 (by decide) ?_
  refine lv_iadd hx hb dX12_add_59 ?_
  refine lv_topi (fun y_14 ey_14 => ?_)
  have ty_14 : y_14.toInt = y_12.toInt + 1 := xI_add rfl rfl ey_14 (by omega) (by omega)
  refine S_iast hx hb hK hW hS kd_71 (vin (by omega) (by omega)) dX12_add_60 (fun G_15 H locs eG_15 hW hS => ?_)
  have hB_G_15 : Bd G_15 := hB_G_11.put (V := y_14.toInt) (lo := 0) (hi := 320) eG_15 rfl rfl rfl (by omega) (by omega) (hB_G_11.2.put eG_15 rfl)
  have hF := hF.put eG_15 (Or.inl (by decide))
  exact W.vret hx hb hr (fun t ht _ => ⟨⟨G_15, rfl, ⟨hB_G_15, hF, (add_gh hB_G ((gp_ne eG_15 (fun q => absurd q.1 (by decide))).trans ((gp_ne eG_11 (fun q => absurd q.1 (by decide))).trans ((gp_ne eG_6 (fun q => absurd q.1 (by decide))).trans (rfl)))) ha_p0.1 ha_p0.2 hgm9 (x := y_5) (by omega) (fun j hj => ((gp_ne eG_15 (fun q => absurd q.1 (by decide))).trans ((gp_ne eG_11 (fun q => absurd q.1 (by decide))).trans (gp_ne eG_6 (fun q => hj q.2))))) ((gp_ne eG_15 (fun q => absurd q.1 (by decide))).trans ((gp_ne eG_11 (fun q => absurd q.1 (by decide))).trans (gp_eq eG_6))) (fun j hj => ((gp_ne eG_15 (fun q => hj q.2)).trans ((gp_ne eG_11 (fun q => absurd q.1 (by decide))).trans (gp_ne eG_6 (fun q => absurd q.1 (by decide)))))) (by rw [show G_15.1 71 (G.1 66 19).toNatClampNeg = y_14 from (gp_eq eG_15)]; omega))⟩, wd_t ht hW⟩, hS.F ht⟩) hS.2.2 dX12_add_61

set_option maxHeartbeats 4000000 in
set_option maxRecDepth 100000 in
theorem n_close (l : Launch) (D : va_G) (k : KT) (A : Nat → Prop) (a : Nat → Nat) (z : SK) (G : GS) (p0 : Int32) (hcl : gC G = 1 ∧ gD G = gB G + 1 ∧ (G.1 66 24).toInt = (G.1 66 20).toInt - gB G ∧ gM G + (G.1 66 20).toInt ≤ 310 ∧ gD G ≤ 40) : Met l yX12_close (WS yX12_close cX12_close 2 none) ({ frames := 1, cells := 0, slots := 0, locals := 22 }) (va_Pc [.ref (a 66), .int p0] (cW D k A a z G)) (va_Qv (fun (G1 : GS) => Bd G1 ∧ Fr [69, 70, 71] [(66, 20), (66, 24)] G G1 ∧ (gC G1 = 1 ∧ gD G1 = gB G1 + 1 ∧ (G1.1 66 24).toInt = (G1.1 66 20).toInt - gB G1 ∧ gM G1 + (G1.1 66 20).toInt = gM G + (G.1 66 20).toInt ∧ gK G1 = gK G ∧ (G1.1 66 20).toInt ≤ (G.1 66 20).toInt ∧ gD G1 ≤ gD G ∧ (G1.1 66 24).toInt ≤ (G.1 66 24).toInt ∧ ((G1.1 66 20).toInt = 0 ∨ gT G1 = 20 ∨ 1 ≤ p0.toInt))) (fun (G1 : GS) t => Wd D k A a G1 t.heap) A) 0 0 A := by
  refine Met.ofW (cc := cX12_close) (maxL := 2) (ret := none) (by decide) rfl ?_
  intro p e s m args below meth c s₁ B hml hv
  obtain ⟨rfl, hW, hB_G, hK, hZ⟩ := hv
  have hx := B.exec
  have hb := B.bytes
  have hr := B.returns
  have hts := atoms_spec (ws := WS yX12_close cX12_close 2 none) B.pre
  have hgd : ∀ w ∈ gd, w ∈ WS yX12_close cX12_close 2 none := fun w h => List.mem_cons_of_mem _ h
  have hg : ∀ w ∈ gd, w.before _ s = true := fun w h => hts w (hgd w h)
  have hown : s.vm.findClass RX12 = some m.cls := findClass_of_methodNamed B.named
  have hS : va_S A s.heap s.heap [] := va_S.rf
  have hF : Fr [69, 70, 71] [(66, 20), (66, 24)] G G := Fr.rf
  have hl := lv_entry ([.ref (a 66), .int p0]) (n := 2) (Nat.le_of_ble_eq_true rfl)
  rw [lg_entry_eq]
  generalize (lg_sl ([.ref (a 66), .int p0]) ++ List.replicate (2 - (lg_sl ([.ref (a 66), .int p0])).length) Slot.unset).toArray = ls at hl ⊢
  have hl : lv_has ls 2 [(0, .ref (a 66)), (1, .int p0)] := hl
  have b_5 : 0 ≤ (G.1 66 20).toInt ∧ (G.1 66 20).toInt ≤ 160 := hB_G.i 66 20 rfl rfl
  have b_6 : (-1) ≤ (G.1 66 24).toInt ∧ (G.1 66 24).toInt ≤ 200 := hB_G.i 66 24 rfl rfl
  refine loop_N (Inv := fun n H locs ls => ∃ (G_1 : GS), (n : Int) = (G_1.1 66 20).toInt ∧ (gC G_1 = 1) ∧ (gD G_1 = gB G_1 + 1) ∧ ((G_1.1 66 24).toInt = (G_1.1 66 20).toInt - gB G_1) ∧ (gM G_1 + (G_1.1 66 20).toInt = gM G + (G.1 66 20).toInt) ∧ (gK G_1 = gK G) ∧ ((G_1.1 66 20).toInt ≤ (G.1 66 20).toInt) ∧ (gD G_1 ≤ gD G) ∧ ((G_1.1 66 24).toInt ≤ (G.1 66 24).toInt) ∧ Wd D k A a G_1 H ∧ Bd G_1 ∧ Fr [69, 70, 71] [(66, 20), (66, 24)] G G_1 ∧ Fr [69, 70, 71] [(66, 20), (66, 24)] G G_1 ∧ va_S A s.heap H locs ∧ lv_has ls 2 [(0, .ref (a 66)), (1, .int p0)]) (fun n_4 H locs ls ih_3 hI => ?_) ((G.1 66 20).toInt : Int).toNat ⟨G, (Int.toNat_of_nonneg (by omega)), (by omega), (by omega), (by omega), (by omega), (by omega), (by omega), (by omega), (by omega), hW, hB_G, hF, Fr.rf, hS, lv_sub hl [0, 1] rfl⟩
  obtain ⟨G_1, hn_15, f_7, f_8, f_9, f_10, f_11, f_12, f_13, f_14, hW, hB_G_1, hF, hq_2, hS, hl⟩ := hI
  have b_16 : 0 ≤ (G_1.1 66 20).toInt ∧ (G_1.1 66 20).toInt ≤ 160 := hB_G_1.i 66 20 rfl rfl
  have b_17 : (-1) ≤ (G_1.1 66 24).toInt ∧ (G_1.1 66 24).toInt ≤ 200 := hB_G_1.i 66 24 rfl rfl
  have u_18 := gh_pos (G := G_1) (by omega)
  refine lv_aload_n hx hb dX12_close_0 rfl (lv_at hl 0 rfl) ?_
  refine S_getI (v := (G_1.1 66 20)) (C := RX12) (T := TX12) (N := 89) hx hb hg iX12 hown hK hW kd_66 rfl 20 (by decide) (hg (Cond.fieldLink RX12 299 "SlabWalkModel" "opens" "I") m1334) (fun _ h9 => h9) rfl rfl dX12_close_1 ?_
  refine lv_if_le (tgt := 101) hx hb dX12_close_4 (by decide) (fun c_19 => ?_) (fun c_19 => ?_)
  · have c_19 : (G_1.1 66 20).toInt ≤ 0 := xI_le rfl rfl c_19
    exact W.vret hx hb hr (fun t ht _ => ⟨⟨G_1, rfl, ⟨hB_G_1, hF, (by omega)⟩, wd_t ht hW⟩, hS.F ht⟩) hS.2.2 dX12_close_101
  · have c_19 : 0 < (G_1.1 66 20).toInt := xI_nle rfl rfl c_19
    refine lv_aload_n hx hb dX12_close_7 rfl (lv_at hl 0 rfl) ?_
    refine S_getR (n := 75) (C := RX12) (T := TX12) (N := 89) hx hb hg iX12 hown hK hW kd_66 rfl 17 (by decide) (hg (Cond.fieldLink RX12 39 "SlabWalkModel" "open" "[I") m1331) (fun _ h9 => h9) rfl dX12_close_8 ?_
    refine lv_aload_n hx hb dX12_close_11 rfl (lv_at hl 0 rfl) ?_
    refine S_getI (v := (G_1.1 66 20)) (C := RX12) (T := TX12) (N := 89) hx hb hg iX12 hown hK hW kd_66 rfl 20 (by decide) (hg (Cond.fieldLink RX12 299 "SlabWalkModel" "opens" "I") m1334) (fun _ h9 => h9) rfl rfl dX12_close_12 ?_
    refine lv_iconst (v := 1) hx hb dX12_close_15 (by decide) ?_
    refine lv_isub hx hb dX12_close_16 ?_
    refine lv_topi (fun y_20 ey_20 => ?_)
    have ty_20 : y_20.toInt = (G_1.1 66 20).toInt - 1 := xI_sub rfl rfl ey_20 (by omega) (by omega)
    refine S_iald hx hb hK hW kd_75 (vin (by omega) (by omega)) dX12_close_17 (fun y_21 ey_21 => ?_)
    have u_22 := gT_at ey_21 (by omega) (by omega)
    refine lv_bipush (v := 20) hx hb dX12_close_18 (by decide) ?_
    refine lv_icmp_eq (tgt := 101) hx hb dX12_close_20 (by decide) (fun c_23 => ?_) (fun c_23 => ?_)
    · have c_23 : y_21.toInt = 20 := xI_eq rfl rfl c_23
      exact W.vret hx hb hr (fun t ht _ => ⟨⟨G_1, rfl, ⟨hB_G_1, hF, (by omega)⟩, wd_t ht hW⟩, hS.F ht⟩) hS.2.2 dX12_close_101
    · have c_23 : y_21.toInt ≠ 20 := xI_ne rfl rfl c_23
      refine lv_aload_n hx hb dX12_close_23 rfl (lv_at hl 0 rfl) ?_
      refine S_getR (n := 75) (C := RX12) (T := TX12) (N := 89) hx hb hg iX12 hown hK hW kd_66 rfl 17 (by decide) (hg (Cond.fieldLink RX12 39 "SlabWalkModel" "open" "[I") m1331) (fun _ h9 => h9) rfl dX12_close_24 ?_
      refine lv_aload_n hx hb dX12_close_27 rfl (lv_at hl 0 rfl) ?_
      refine S_getI (v := (G_1.1 66 20)) (C := RX12) (T := TX12) (N := 89) hx hb hg iX12 hown hK hW kd_66 rfl 20 (by decide) (hg (Cond.fieldLink RX12 299 "SlabWalkModel" "opens" "I") m1334) (fun _ h9 => h9) rfl rfl dX12_close_28 ?_
      refine lv_iconst (v := 1) hx hb dX12_close_31 (by decide) ?_
      refine lv_isub hx hb dX12_close_32 ?_
      refine lv_topi (fun y_24 ey_24 => ?_)
      have ty_24 : y_24.toInt = (G_1.1 66 20).toInt - 1 := xI_sub rfl rfl ey_24 (by omega) (by omega)
      refine S_iald hx hb hK hW kd_75 (vin (by omega) (by omega)) dX12_close_33 (fun y_25 ey_25 => ?_)
      have u_26 := gT_at ey_25 (by omega) (by omega)
      refine S_calli (va_runS (As := [.int y_25]) (rest := []) ⟨hx, hb, hml, hown, hts⟩ (n_tight l D k A a z G_1 y_25 ) (va_cwS 1 hts (gd_S hgd m1722 m1723 m131 m1724) rfl rfl rfl (by decide +kernel) ⟨Nat.le_of_ble_eq_true rfl, Nat.le_of_ble_eq_true rfl⟩) (pre_S hW hB_G_1 hK hZ hS) rfl rfl hl.1 rfl (lv_room (Nat.le_of_ble_eq_true rfl)) dX12_close_34 ⟨Nat.le_of_ble_eq_true rfl, Nat.le_of_ble_eq_true rfl⟩) hS (fun r_27 G_28 H locs hpo hW hS => ?_)
      obtain ⟨hB_G_28, hq_29, f_31⟩ := hpo
      have hF := hF.call hq_29 (by decide) (by decide)
      refine lv_iload_n hx hb dX12_close_37 rfl (lv_at hl 1 rfl) ?_
      refine lv_icmp_lt (tgt := 101) hx hb dX12_close_38 (by decide) (fun c_32 => ?_) (fun c_32 => ?_)
      · have c_32 : r_27.toInt < p0.toInt := xI_lt rfl rfl c_32
        have g_33 : gB G_28 = gB G_1 := gB_fr (rs := []) (fs := []) (Fr.rf.call hq_29 (by decide) (by decide)) (by decide) (by decide)
        have g_34 : gC G_28 = gC G_1 := gC_fr (rs := []) (fs := []) (Fr.rf.call hq_29 (by decide) (by decide)) (by decide) (by decide)
        have g_35 : gD G_28 = gD G_1 := gD_fr (rs := []) (fs := []) (Fr.rf.call hq_29 (by decide) (by decide)) (by decide) (by decide)
        have g_36 : gK G_28 = gK G_1 := gK_fr (rs := []) (fs := []) (Fr.rf.call hq_29 (by decide) (by decide)) (by decide) (by decide)
        have g_37 : gM G_28 = gM G_1 := gM_fr (rs := []) (fs := []) (Fr.rf.call hq_29 (by decide) (by decide)) (by decide) (by decide)
        have g_38 : gT G_28 = gT G_1 := gT_fr (rs := []) (fs := []) (Fr.rf.call hq_29 (by decide) (by decide)) (by decide) (by decide)
        have g_39 : (G_28.1 66 20).toInt = (G_1.1 66 20).toInt := by rw [show G_28.1 66 20 = (G_1.1 66 20) from ((hq_29.i 66 20 (by decide) (by decide)).trans (rfl))]
        have g_40 : (G_28.1 66 24).toInt = (G_1.1 66 24).toInt := by rw [show G_28.1 66 24 = (G_1.1 66 24) from ((hq_29.i 66 24 (by decide) (by decide)).trans (rfl))]
        exact W.vret hx hb hr (fun t ht _ => ⟨⟨G_28, rfl, ⟨hB_G_28, hF, (by omega)⟩, wd_t ht hW⟩, hS.F ht⟩) hS.2.2 dX12_close_101
      · have c_32 : p0.toInt ≤ r_27.toInt := xI_nlt rfl rfl c_32
        have g_41 : gB G_28 = gB G_1 := gB_fr (rs := []) (fs := []) (Fr.rf.call hq_29 (by decide) (by decide)) (by decide) (by decide)
        have g_42 : gC G_28 = gC G_1 := gC_fr (rs := []) (fs := []) (Fr.rf.call hq_29 (by decide) (by decide)) (by decide) (by decide)
        have g_43 : gD G_28 = gD G_1 := gD_fr (rs := []) (fs := []) (Fr.rf.call hq_29 (by decide) (by decide)) (by decide) (by decide)
        have g_44 : gK G_28 = gK G_1 := gK_fr (rs := []) (fs := []) (Fr.rf.call hq_29 (by decide) (by decide)) (by decide) (by decide)
        have g_45 : gM G_28 = gM G_1 := gM_fr (rs := []) (fs := []) (Fr.rf.call hq_29 (by decide) (by decide)) (by decide) (by decide)
        have g_46 : gT G_28 = gT G_1 := gT_fr (rs := []) (fs := []) (Fr.rf.call hq_29 (by decide) (by decide)) (by decide) (by decide)
        have g_47 : (G_28.1 66 20).toInt = (G_1.1 66 20).toInt := by rw [show G_28.1 66 20 = (G_1.1 66 20) from ((hq_29.i 66 20 (by decide) (by decide)).trans (rfl))]
        refine lv_aload_n hx hb dX12_close_41 rfl (lv_at hl 0 rfl) ?_
        refine lv_dup hx hb dX12_close_42 rfl ?_
        refine S_getI (v := (G_1.1 66 20)) (C := RX12) (T := TX12) (N := 89) hx hb hg iX12 hown hK hW kd_66 rfl 20 (by decide) (hg (Cond.fieldLink RX12 299 "SlabWalkModel" "opens" "I") m1334) (fun _ h9 => h9) rfl ((hq_29.i 66 20 (by decide) (by decide)).trans (rfl)) dX12_close_43 ?_
        refine lv_iconst (v := 1) hx hb dX12_close_46 (by decide) ?_
        refine lv_isub hx hb dX12_close_47 ?_
        refine lv_topi (fun y_48 ey_48 => ?_)
        have ty_48 : y_48.toInt = (G_1.1 66 20).toInt - 1 := xI_sub rfl rfl ey_48 (by omega) (by omega)
        refine S_putI (ty := .int) (C := RX12) (T := TX12) (N := 89) hx hb hg iX12 tyX12 tyX12_ok nmX12 hown hK hW hS kd_66 rfl 20 (by decide) (hg (Cond.fieldLink RX12 299 "SlabWalkModel" "opens" "I") m1334) (fun _ h9 => h9) rfl (by decide +kernel) rfl rfl rfl dX12_close_48 (fun G_49 H locs eG_49 hW hS => ?_)
        have hB_G_49 : Bd G_49 := hB_G_28.put (V := y_48.toInt) (lo := 0) (hi := 160) eG_49 rfl rfl rfl (by omega) (by omega) (hB_G_28.2.put eG_49 rfl)
        have hF := hF.put eG_49 (Or.inr (by decide))
        refine lv_aload_n hx hb dX12_close_51 rfl (lv_at hl 0 rfl) ?_
        refine S_getR (n := 75) (C := RX12) (T := TX12) (N := 89) hx hb hg iX12 hown hK hW kd_66 rfl 17 (by decide) (hg (Cond.fieldLink RX12 39 "SlabWalkModel" "open" "[I") m1331) (fun _ h9 => h9) rfl dX12_close_52 ?_
        refine lv_aload_n hx hb dX12_close_55 rfl (lv_at hl 0 rfl) ?_
        refine S_getI (v := y_48) (C := RX12) (T := TX12) (N := 89) hx hb hg iX12 hown hK hW kd_66 rfl 20 (by decide) (hg (Cond.fieldLink RX12 299 "SlabWalkModel" "opens" "I") m1334) (fun _ h9 => h9) rfl (gp_eq eG_49) dX12_close_56 ?_
        refine S_iald hx hb hK hW kd_75 (vin (by omega) (by omega)) dX12_close_59 (fun y_50 ey_50 => ?_)
        have u_51 := gT_at2 eG_49 ey_50 (by omega) (by omega)
        have u_52 := gh_pop eG_49 (by omega) (by omega)
        have g_53 : (G_49.1 66 20).toInt = y_48.toInt := by rw [show G_49.1 66 20 = y_48 from (gp_eq eG_49)]
        have u_54 := gh_pos (G := G_49) (by omega)
        refine lv_bipush (v := 21) hx hb dX12_close_60 (by decide) ?_
        refine lv_icmp_ne (tgt := 84) hx hb dX12_close_62 (by decide) (fun c_55 => ?_) (fun c_55 => ?_)
        · have c_55 : y_50.toInt ≠ 21 := xI_ne rfl rfl c_55
          refine lv_aload_n hx hb dX12_close_84 rfl (lv_at hl 0 rfl) ?_
          refine lv_iconst (v := 3) hx hb dX12_close_85 (by decide) ?_
          refine lv_aload_n hx hb dX12_close_86 rfl (lv_at hl 0 rfl) ?_
          refine S_getR (n := 75) (C := RX12) (T := TX12) (N := 89) hx hb hg iX12 hown hK hW kd_66 rfl 17 (by decide) (hg (Cond.fieldLink RX12 39 "SlabWalkModel" "open" "[I") m1331) (fun _ h9 => h9) rfl dX12_close_87 ?_
          refine lv_aload_n hx hb dX12_close_90 rfl (lv_at hl 0 rfl) ?_
          refine S_getI (v := y_48) (C := RX12) (T := TX12) (N := 89) hx hb hg iX12 hown hK hW kd_66 rfl 20 (by decide) (hg (Cond.fieldLink RX12 299 "SlabWalkModel" "opens" "I") m1334) (fun _ h9 => h9) rfl (gp_eq eG_49) dX12_close_91 ?_
          refine S_iald hx hb hK hW kd_75 (vin (by omega) (by omega)) dX12_close_94 (fun y_56 ey_56 => ?_)
          have g_57 : gM G_49 = gM G_1 := gM_fr (rs := []) (fs := [(66, 20)]) ((Fr.rf.call hq_29 (by decide) (by decide)).put eG_49 (Or.inr (by decide))) (by decide) (by decide)
          have qc_58 : (3 : Int32).toInt = 3 := rfl
          have g_59 : gC G_49 = gC G_1 := gC_fr (rs := []) (fs := [(66, 20)]) ((Fr.rf.call hq_29 (by decide) (by decide)).put eG_49 (Or.inr (by decide))) (by decide) (by decide)
          have g_60 : gD G_49 = gD G_1 := gD_fr (rs := []) (fs := [(66, 20)]) ((Fr.rf.call hq_29 (by decide) (by decide)).put eG_49 (Or.inr (by decide))) (by decide) (by decide)
          refine S_callv (va_runV (As := [.int 3, .int y_56]) (rest := []) ⟨hx, hb, hml, hown, hts⟩ (n_add l D k A a z G_49 3 y_56 ⟨by decide, by decide⟩ (by omega)) (cwV 2 hts (gd_V hgd m1741 m1743 m76 m131 m1744) rfl rfl rfl (by decide +kernel) ⟨Nat.le_of_ble_eq_true rfl, Nat.le_of_ble_eq_true rfl⟩) (pre_V hW hB_G_49 hK hZ hS kd_66 rfl) rfl rfl hl.1 rfl (lv_room (Nat.le_of_ble_eq_true rfl)) dX12_close_95 ⟨Nat.le_of_ble_eq_true rfl, Nat.le_of_ble_eq_true rfl⟩) hS (fun G_62 H locs hpo hW hS => ?_)
          obtain ⟨hB_G_62, hq_63, hp_64⟩ := hpo
          have hF := hF.call hq_63 (by decide) (by decide)
          refine lv_goto (tgt := 0) hx hb dX12_close_98 (by decide) ?_
          have g_65 : (G_62.1 66 20).toInt = y_48.toInt := by rw [show G_62.1 66 20 = y_48 from ((hq_63.i 66 20 (by decide) (by decide)).trans (gp_eq eG_49))]
          have g_66 : gB G_62 = gB G_49 := gB_fr (rs := [69, 70, 71]) (fs := []) (Fr.rf.call hq_63 (by decide) (by decide)) (by decide) (by decide)
          have g_67 : (G_62.1 66 20).toInt = y_48.toInt := by rw [show G_62.1 66 20 = y_48 from ((hq_63.i 66 20 (by decide) (by decide)).trans (gp_eq eG_49))]
          have g_68 : (G_62.1 66 24).toInt = (G_1.1 66 24).toInt := by rw [show G_62.1 66 24 = (G_1.1 66 24) from ((hq_63.i 66 24 (by decide) (by decide)).trans ((gp_ne eG_49 (by decide)).trans ((hq_29.i 66 24 (by decide) (by decide)).trans (rfl))))]
          have g_69 : (G_62.1 66 20).toInt = y_48.toInt := by rw [show G_62.1 66 20 = y_48 from ((hq_63.i 66 20 (by decide) (by decide)).trans (gp_eq eG_49))]
          have g_70 : gK G_62 = gK G_49 := gK_fr (rs := [69, 70, 71]) (fs := []) (Fr.rf.call hq_63 (by decide) (by decide)) (by decide) (by decide)
          have g_71 : (G_62.1 66 20).toInt = y_48.toInt := by rw [show G_62.1 66 20 = y_48 from ((hq_63.i 66 20 (by decide) (by decide)).trans (gp_eq eG_49))]
          have g_72 : (G_62.1 66 24).toInt = (G_1.1 66 24).toInt := by rw [show G_62.1 66 24 = (G_1.1 66 24) from ((hq_63.i 66 24 (by decide) (by decide)).trans ((gp_ne eG_49 (by decide)).trans ((hq_29.i 66 24 (by decide) (by decide)).trans (rfl))))]
          exact ih_3 ((G_62.1 66 20).toInt : Int).toNat (by omega) _ _ _ ⟨G_62, (Int.toNat_of_nonneg (by omega)), (by omega), (by omega), (by omega), (by omega), (by omega), (by omega), (by omega), (by omega), hW, hB_G_62, hF, ((((Fr.rf.call hq_2 (by decide) (by decide)).call hq_29 (by decide) (by decide)).put eG_49 (Or.inr (by decide))).call hq_63 (by decide) (by decide)), hS, lv_sub hl [0, 1] rfl⟩
        · have c_55 : y_50.toInt = 21 := xI_eq rfl rfl c_55
          refine lv_aload_n hx hb dX12_close_65 rfl (lv_at hl 0 rfl) ?_
          refine lv_iconst (v := 2) hx hb dX12_close_66 (by decide) ?_
          refine lv_iconst (v := 0) hx hb dX12_close_67 (by decide) ?_
          have g_73 : gM G_49 = gM G_1 := gM_fr (rs := []) (fs := [(66, 20)]) ((Fr.rf.call hq_29 (by decide) (by decide)).put eG_49 (Or.inr (by decide))) (by decide) (by decide)
          have qc_74 : (2 : Int32).toInt = 2 := rfl
          have qc_75 : (0 : Int32).toInt = 0 := rfl
          have g_76 : gC G_49 = gC G_1 := gC_fr (rs := []) (fs := [(66, 20)]) ((Fr.rf.call hq_29 (by decide) (by decide)).put eG_49 (Or.inr (by decide))) (by decide) (by decide)
          have g_77 : gD G_49 = gD G_1 := gD_fr (rs := []) (fs := [(66, 20)]) ((Fr.rf.call hq_29 (by decide) (by decide)).put eG_49 (Or.inr (by decide))) (by decide) (by decide)
          refine S_callv (va_runV (As := [.int 2, .int 0]) (rest := []) ⟨hx, hb, hml, hown, hts⟩ (n_add l D k A a z G_49 2 0 ⟨by decide, by decide⟩ (by omega)) (cwV 2 hts (gd_V hgd m1741 m1743 m76 m131 m1744) rfl rfl rfl (by decide +kernel) ⟨Nat.le_of_ble_eq_true rfl, Nat.le_of_ble_eq_true rfl⟩) (pre_V hW hB_G_49 hK hZ hS kd_66 rfl) rfl rfl hl.1 rfl (lv_room (Nat.le_of_ble_eq_true rfl)) dX12_close_68 ⟨Nat.le_of_ble_eq_true rfl, Nat.le_of_ble_eq_true rfl⟩) hS (fun G_79 H locs hpo hW hS => ?_)
          obtain ⟨hB_G_79, hq_80, hp_81⟩ := hpo
          have hF := hF.call hq_80 (by decide) (by decide)
          refine lv_aload_n hx hb dX12_close_71 rfl (lv_at hl 0 rfl) ?_
          refine lv_dup hx hb dX12_close_72 rfl ?_
          refine S_getI (v := (G_1.1 66 24)) (C := RX12) (T := TX12) (N := 89) hx hb hg iX12 hown hK hW kd_66 rfl 24 (by decide) (hg (Cond.fieldLink RX12 309 "SlabWalkModel" "deep" "I") m1338) (fun _ h9 => h9) rfl ((hq_80.i 66 24 (by decide) (by decide)).trans ((gp_ne eG_49 (by decide)).trans ((hq_29.i 66 24 (by decide) (by decide)).trans (rfl)))) dX12_close_73 ?_
          refine lv_iconst (v := 1) hx hb dX12_close_76 (by decide) ?_
          refine lv_isub hx hb dX12_close_77 ?_
          refine lv_topi (fun y_82 ey_82 => ?_)
          have ty_82 : y_82.toInt = (G_1.1 66 24).toInt - 1 := xI_sub rfl rfl ey_82 (by omega) (by omega)
          refine S_putI (ty := .int) (C := RX12) (T := TX12) (N := 89) hx hb hg iX12 tyX12 tyX12_ok nmX12 hown hK hW hS kd_66 rfl 24 (by decide) (hg (Cond.fieldLink RX12 309 "SlabWalkModel" "deep" "I") m1338) (fun _ h9 => h9) rfl (by decide +kernel) rfl rfl rfl dX12_close_78 (fun G_83 H locs eG_83 hW hS => ?_)
          have hB_G_83 : Bd G_83 := hB_G_79.put (V := y_82.toInt) (lo := (-1)) (hi := 200) eG_83 rfl rfl rfl (by omega) (by omega) (hB_G_79.2.put eG_83 rfl)
          have hF := hF.put eG_83 (Or.inr (by decide))
          refine lv_goto (tgt := 0) hx hb dX12_close_81 (by decide) ?_
          have g_84 : (G_83.1 66 20).toInt = y_48.toInt := by rw [show G_83.1 66 20 = y_48 from ((gp_ne eG_83 (by decide)).trans ((hq_80.i 66 20 (by decide) (by decide)).trans (gp_eq eG_49)))]
          have g_85 : gC G_83 = gC G_79 := gC_fr (rs := []) (fs := [(66, 24)]) (Fr.rf.put eG_83 (Or.inr (by decide))) (by decide) (by decide)
          have g_86 : gB G_83 = gB G_49 := gB_fr (rs := [69, 70, 71]) (fs := [(66, 24)]) ((Fr.rf.call hq_80 (by decide) (by decide)).put eG_83 (Or.inr (by decide))) (by decide) (by decide)
          have g_87 : gD G_83 = gD G_79 := gD_fr (rs := []) (fs := [(66, 24)]) (Fr.rf.put eG_83 (Or.inr (by decide))) (by decide) (by decide)
          have g_88 : (G_83.1 66 20).toInt = y_48.toInt := by rw [show G_83.1 66 20 = y_48 from ((gp_ne eG_83 (by decide)).trans ((hq_80.i 66 20 (by decide) (by decide)).trans (gp_eq eG_49)))]
          have g_89 : (G_83.1 66 24).toInt = y_82.toInt := by rw [show G_83.1 66 24 = y_82 from (gp_eq eG_83)]
          have g_90 : gM G_83 = gM G_79 := gM_fr (rs := []) (fs := [(66, 24)]) (Fr.rf.put eG_83 (Or.inr (by decide))) (by decide) (by decide)
          have g_91 : (G_83.1 66 20).toInt = y_48.toInt := by rw [show G_83.1 66 20 = y_48 from ((gp_ne eG_83 (by decide)).trans ((hq_80.i 66 20 (by decide) (by decide)).trans (gp_eq eG_49)))]
          have g_92 : gK G_83 = gK G_49 := gK_fr (rs := [69, 70, 71]) (fs := [(66, 24)]) ((Fr.rf.call hq_80 (by decide) (by decide)).put eG_83 (Or.inr (by decide))) (by decide) (by decide)
          have g_93 : (G_83.1 66 20).toInt = y_48.toInt := by rw [show G_83.1 66 20 = y_48 from ((gp_ne eG_83 (by decide)).trans ((hq_80.i 66 20 (by decide) (by decide)).trans (gp_eq eG_49)))]
          have g_94 : (G_83.1 66 24).toInt = y_82.toInt := by rw [show G_83.1 66 24 = y_82 from (gp_eq eG_83)]
          exact ih_3 ((G_83.1 66 20).toInt : Int).toNat (by omega) _ _ _ ⟨G_83, (Int.toNat_of_nonneg (by omega)), (by omega), (by omega), (by omega), (by omega), (by omega), (by omega), (by omega), (by omega), hW, hB_G_83, hF, (((((Fr.rf.call hq_2 (by decide) (by decide)).call hq_29 (by decide) (by decide)).put eG_49 (Or.inr (by decide))).call hq_80 (by decide) (by decide)).put eG_83 (Or.inr (by decide))), hS, lv_sub hl [0, 1] rfl⟩

set_option maxHeartbeats 4000000 in
set_option maxRecDepth 100000 in
theorem n_hasRelation (l : Launch) (D : va_G) (k : KT) (A : Nat → Prop) (a : Nat → Nat) (z : SK) (G : GS)   : Met l yX12_hasRelation (WS yX12_hasRelation cX12_hasRelation 2 (some .boolean)) ({ frames := 1, cells := 0, slots := 0, locals := 20 }) (va_Pc [.ref (a 66)] (cW D k A a z G)) (va_Qi (fun (r : Int32) (G1 : GS) => Bd G1 ∧ Fr [] [] G G1 ∧ (0 ≤ r.toInt ∧ r.toInt ≤ 1)) (fun (G1 : GS) t => Wd D k A a G1 t.heap) A) 0 0 A := by
  refine Met.ofW (cc := cX12_hasRelation) (maxL := 2) (ret := (some .boolean)) (by decide) rfl ?_
  intro p e s m args below meth c s₁ B hml hv
  obtain ⟨rfl, hW, hB_G, hK, hZ⟩ := hv
  have hx := B.exec
  have hb := B.bytes
  have hr := B.returns
  have hts := atoms_spec (ws := WS yX12_hasRelation cX12_hasRelation 2 (some .boolean)) B.pre
  have hgd : ∀ w ∈ gd, w ∈ WS yX12_hasRelation cX12_hasRelation 2 (some .boolean) := fun w h => List.mem_cons_of_mem _ h
  have hg : ∀ w ∈ gd, w.before _ s = true := fun w h => hts w (hgd w h)
  have hown : s.vm.findClass RX12 = some m.cls := findClass_of_methodNamed B.named
  have hS : va_S A s.heap s.heap [] := va_S.rf
  have hF : Fr [] [] G G := Fr.rf
  have hl := lv_entry ([.ref (a 66)]) (n := 2) (Nat.le_of_ble_eq_true rfl)
  rw [lg_entry_eq]
  generalize (lg_sl ([.ref (a 66)]) ++ List.replicate (2 - (lg_sl ([.ref (a 66)])).length) Slot.unset).toArray = ls at hl ⊢
  have hl : lv_has ls 2 [(0, .ref (a 66))] := hl
  refine lv_aload_n hx hb dX12_hasRelation_0 rfl (lv_at hl 0 rfl) ?_
  have b_1 : 0 ≤ (G.1 66 20).toInt ∧ (G.1 66 20).toInt ≤ 160 := hB_G.i 66 20 rfl rfl
  refine S_getI (v := (G.1 66 20)) (C := RX12) (T := TX12) (N := 89) hx hb hg iX12 hown hK hW kd_66 rfl 20 (by decide) (hg (Cond.fieldLink RX12 299 "SlabWalkModel" "opens" "I") m1334) (fun _ h9 => h9) rfl rfl dX12_hasRelation_1 ?_
  refine lv_iconst (v := 1) hx hb dX12_hasRelation_4 (by decide) ?_
  refine lv_isub hx hb dX12_hasRelation_5 ?_
  refine lv_topi (fun y_2 ey_2 => ?_)
  have ty_2 : y_2.toInt = (G.1 66 20).toInt - 1 := xI_sub rfl rfl ey_2 (by omega) (by omega)
  refine lv_istore_n (lv' := [(1, .int y_2), (0, .ref (a 66))]) hx hb dX12_hasRelation_6 rfl hl (by decide) rfl (fun ls hl => ?_)
  refine loop_N (Inv := fun n H locs ls => ∃ (G_3 : GS) (x_7 : Int32), (n : Int) = x_7.toInt - (-1) ∧ ((-1) ≤ x_7.toInt ∧ x_7.toInt ≤ 159) ∧ Wd D k A a G_3 H ∧ Bd G_3 ∧ Fr [] [] G G_3 ∧ Fr [] [] G G_3 ∧ va_S A s.heap H locs ∧ lv_has ls 2 [(1, .int x_7), (0, .ref (a 66))]) (fun n_6 H locs ls ih_5 hI => ?_) (y_2.toInt - (-1) : Int).toNat ⟨G, y_2, (Int.toNat_of_nonneg (by omega)), ⟨by omega, by omega⟩, hW, hB_G, hF, Fr.rf, hS, lv_sub hl [0, 1] rfl⟩
  obtain ⟨G_3, x_7, hn_9, f_8, hW, hB_G_3, hF, hq_4, hS, hl⟩ := hI
  refine lv_iload_n hx hb dX12_hasRelation_7 rfl (lv_at hl 0 rfl) ?_
  refine W.cut (σ := Unit) (pcJ := 41) (J := fun y H locs ls => ∃ (G_12 : GS), Wd D k A a G_12 H ∧ Bd G_12 ∧ Fr [] [] G G_12 ∧ Fr [] [] G_3 G_12 ∧ va_S A s.heap H locs ∧ lv_has ls 2 [(1, .int x_7), (0, .ref (a 66))]) (stJ := fun _ => []) ?_ (fun hJ_13 => ?_)
  · intro y H locs ls hI
    obtain ⟨G_12, hW, hB_G_12, hF, hq_14, hS, hl⟩ := hI
    refine lv_iload_n hx hb dX12_hasRelation_41 rfl (lv_at hl 0 rfl) ?_
    refine lv_if_lt (tgt := 73) hx hb dX12_hasRelation_42 (by decide) (fun c_15 => ?_) (fun c_15 => ?_)
    · have c_15 : x_7.toInt < 0 := xI_lt rfl rfl c_15
      refine lv_iconst (v := 0) hx hb dX12_hasRelation_73 (by decide) ?_
      exact W.zret (v := 0) hx hb hr (by decide) (fun t ht _ => ⟨⟨0, G_12, rfl, ⟨hB_G_12, hF, ⟨by decide, by decide⟩⟩, wd_t ht hW⟩, hS.F ht⟩) hS.2.2 dX12_hasRelation_74
    · have c_15 : 0 ≤ x_7.toInt := xI_nlt rfl rfl c_15
      refine lv_aload_n hx hb dX12_hasRelation_45 rfl (lv_at hl 1 rfl) ?_
      refine S_getR (n := 75) (C := RX12) (T := TX12) (N := 89) hx hb hg iX12 hown hK hW kd_66 rfl 17 (by decide) (hg (Cond.fieldLink RX12 39 "SlabWalkModel" "open" "[I") m1331) (fun _ h9 => h9) rfl dX12_hasRelation_46 ?_
      refine lv_iload_n hx hb dX12_hasRelation_49 rfl (lv_at hl 0 rfl) ?_
      refine S_iald hx hb hK hW kd_75 (vin (by omega) (by omega)) dX12_hasRelation_50 (fun y_16 ey_16 => ?_)
      refine lv_bipush (v := 20) hx hb dX12_hasRelation_51 (by decide) ?_
      refine lv_icmp_eq (tgt := 73) hx hb dX12_hasRelation_53 (by decide) (fun c_17 => ?_) (fun c_17 => ?_)
      · have c_17 : y_16.toInt = 20 := xI_eq rfl rfl c_17
        refine lv_iconst (v := 0) hx hb dX12_hasRelation_73 (by decide) ?_
        exact W.zret (v := 0) hx hb hr (by decide) (fun t ht _ => ⟨⟨0, G_12, rfl, ⟨hB_G_12, hF, ⟨by decide, by decide⟩⟩, wd_t ht hW⟩, hS.F ht⟩) hS.2.2 dX12_hasRelation_74
      · have c_17 : y_16.toInt ≠ 20 := xI_ne rfl rfl c_17
        refine lv_aload_n hx hb dX12_hasRelation_56 rfl (lv_at hl 1 rfl) ?_
        refine S_getR (n := 75) (C := RX12) (T := TX12) (N := 89) hx hb hg iX12 hown hK hW kd_66 rfl 17 (by decide) (hg (Cond.fieldLink RX12 39 "SlabWalkModel" "open" "[I") m1331) (fun _ h9 => h9) rfl dX12_hasRelation_57 ?_
        refine lv_iload_n hx hb dX12_hasRelation_60 rfl (lv_at hl 0 rfl) ?_
        refine S_iald hx hb hK hW kd_75 (vin (by omega) (by omega)) dX12_hasRelation_61 (fun y_18 ey_18 => ?_)
        refine S_calli (va_runS (As := [.int y_18]) (rest := []) ⟨hx, hb, hml, hown, hts⟩ (n_tight l D k A a z G_12 y_18 ) (va_cwS 1 hts (gd_S hgd m1722 m1723 m131 m1724) rfl rfl rfl (by decide +kernel) ⟨Nat.le_of_ble_eq_true rfl, Nat.le_of_ble_eq_true rfl⟩) (pre_S hW hB_G_12 hK hZ hS) rfl rfl hl.1 rfl (lv_room (Nat.le_of_ble_eq_true rfl)) dX12_hasRelation_62 ⟨Nat.le_of_ble_eq_true rfl, Nat.le_of_ble_eq_true rfl⟩) hS (fun r_19 G_20 H locs hpo hW hS => ?_)
        obtain ⟨hB_G_20, hq_21, f_23⟩ := hpo
        have hF := hF.call hq_21 (by decide) (by decide)
        refine lv_iconst (v := 4) hx hb dX12_hasRelation_65 (by decide) ?_
        refine lv_icmp_ne (tgt := 73) hx hb dX12_hasRelation_66 (by decide) (fun c_24 => ?_) (fun c_24 => ?_)
        · have c_24 : r_19.toInt ≠ 4 := xI_ne rfl rfl c_24
          refine lv_iconst (v := 0) hx hb dX12_hasRelation_73 (by decide) ?_
          exact W.zret (v := 0) hx hb hr (by decide) (fun t ht _ => ⟨⟨0, G_20, rfl, ⟨hB_G_20, hF, ⟨by decide, by decide⟩⟩, wd_t ht hW⟩, hS.F ht⟩) hS.2.2 dX12_hasRelation_74
        · have c_24 : r_19.toInt = 4 := xI_eq rfl rfl c_24
          refine lv_iconst (v := 1) hx hb dX12_hasRelation_69 (by decide) ?_
          refine lv_goto (tgt := 74) hx hb dX12_hasRelation_70 (by decide) ?_
          exact W.zret (v := 1) hx hb hr (by decide) (fun t ht _ => ⟨⟨1, G_20, rfl, ⟨hB_G_20, hF, ⟨by decide, by decide⟩⟩, wd_t ht hW⟩, hS.F ht⟩) hS.2.2 dX12_hasRelation_74
  refine lv_if_lt (tgt := 41) hx hb dX12_hasRelation_8 (by decide) (fun c_25 => ?_) (fun c_25 => ?_)
  · have c_25 : x_7.toInt < 0 := xI_lt rfl rfl c_25
    exact hJ_13 () _ _ _ ⟨G_3, hW, hB_G_3, hF, Fr.rf, hS, lv_sub hl [0, 1] rfl⟩
  · have c_25 : 0 ≤ x_7.toInt := xI_nlt rfl rfl c_25
    refine lv_aload_n hx hb dX12_hasRelation_11 rfl (lv_at hl 1 rfl) ?_
    refine S_getR (n := 75) (C := RX12) (T := TX12) (N := 89) hx hb hg iX12 hown hK hW kd_66 rfl 17 (by decide) (hg (Cond.fieldLink RX12 39 "SlabWalkModel" "open" "[I") m1331) (fun _ h9 => h9) rfl dX12_hasRelation_12 ?_
    refine lv_iload_n hx hb dX12_hasRelation_15 rfl (lv_at hl 0 rfl) ?_
    refine S_iald hx hb hK hW kd_75 (vin (by omega) (by omega)) dX12_hasRelation_16 (fun y_26 ey_26 => ?_)
    refine lv_bipush (v := 20) hx hb dX12_hasRelation_17 (by decide) ?_
    refine lv_icmp_eq (tgt := 41) hx hb dX12_hasRelation_19 (by decide) (fun c_27 => ?_) (fun c_27 => ?_)
    · have c_27 : y_26.toInt = 20 := xI_eq rfl rfl c_27
      exact hJ_13 () _ _ _ ⟨G_3, hW, hB_G_3, hF, Fr.rf, hS, lv_sub hl [0, 1] rfl⟩
    · have c_27 : y_26.toInt ≠ 20 := xI_ne rfl rfl c_27
      refine lv_aload_n hx hb dX12_hasRelation_22 rfl (lv_at hl 1 rfl) ?_
      refine S_getR (n := 75) (C := RX12) (T := TX12) (N := 89) hx hb hg iX12 hown hK hW kd_66 rfl 17 (by decide) (hg (Cond.fieldLink RX12 39 "SlabWalkModel" "open" "[I") m1331) (fun _ h9 => h9) rfl dX12_hasRelation_23 ?_
      refine lv_iload_n hx hb dX12_hasRelation_26 rfl (lv_at hl 0 rfl) ?_
      refine S_iald hx hb hK hW kd_75 (vin (by omega) (by omega)) dX12_hasRelation_27 (fun y_28 ey_28 => ?_)
      refine S_calli (va_runS (As := [.int y_28]) (rest := []) ⟨hx, hb, hml, hown, hts⟩ (n_tight l D k A a z G_3 y_28 ) (va_cwS 1 hts (gd_S hgd m1722 m1723 m131 m1724) rfl rfl rfl (by decide +kernel) ⟨Nat.le_of_ble_eq_true rfl, Nat.le_of_ble_eq_true rfl⟩) (pre_S hW hB_G_3 hK hZ hS) rfl rfl hl.1 rfl (lv_room (Nat.le_of_ble_eq_true rfl)) dX12_hasRelation_28 ⟨Nat.le_of_ble_eq_true rfl, Nat.le_of_ble_eq_true rfl⟩) hS (fun r_29 G_30 H locs hpo hW hS => ?_)
      obtain ⟨hB_G_30, hq_31, f_33⟩ := hpo
      have hF := hF.call hq_31 (by decide) (by decide)
      refine lv_iconst (v := 4) hx hb dX12_hasRelation_31 (by decide) ?_
      refine lv_icmp_le (tgt := 41) hx hb dX12_hasRelation_32 (by decide) (fun c_34 => ?_) (fun c_34 => ?_)
      · have c_34 : r_29.toInt ≤ 4 := xI_le rfl rfl c_34
        exact hJ_13 () _ _ _ ⟨G_30, hW, hB_G_30, hF, (Fr.rf.call hq_31 (by decide) (by decide)), hS, lv_sub hl [0, 1] rfl⟩
      · have c_34 : 4 < r_29.toInt := xI_nle rfl rfl c_34
        obtain ⟨y_35, ey_35⟩ : ∃ q, q = x_7 + (-1) := ⟨_, rfl⟩
        have ty_35 : y_35.toInt = x_7.toInt + (-1) := xI_add rfl rfl ey_35 (by omega) (by omega)
        refine lv_iinc (v := y_35) (lv' := [(1, .int y_35), (0, .ref (a 66))]) hx hb dX12_hasRelation_35 hl (k := 0) rfl (by rw [ey_35]; rfl) (by decide) rfl (fun ls hl => ?_)
        refine lv_goto (tgt := 7) hx hb dX12_hasRelation_38 (by decide) ?_
        exact ih_5 (y_35.toInt - (-1) : Int).toNat (by omega) _ _ _ ⟨G_30, y_35, (Int.toNat_of_nonneg (by omega)), ⟨by omega, by omega⟩, hW, hB_G_30, hF, ((Fr.rf.call hq_4 (by decide) (by decide)).call hq_31 (by decide) (by decide)), hS, lv_sub hl [0, 1] rfl⟩

set_option maxHeartbeats 4000000 in
set_option maxRecDepth 100000 in
theorem n_mayNot (l : Launch) (D : va_G) (k : KT) (A : Nat → Prop) (a : Nat → Nat) (z : SK) (G : GS)   : Met l yX12_mayNot (WS yX12_mayNot cX12_mayNot 1 (some .boolean)) ({ frames := 1, cells := 0, slots := 0, locals := 20 }) (va_Pc [.ref (a 66)] (cW D k A a z G)) (va_Qi (fun (r : Int32) (G1 : GS) => Bd G1 ∧ Fr [] [] G G1 ∧ (0 ≤ r.toInt ∧ r.toInt ≤ 1)) (fun (G1 : GS) t => Wd D k A a G1 t.heap) A) 0 0 A := by
  refine Met.ofW (cc := cX12_mayNot) (maxL := 1) (ret := (some .boolean)) (by decide) rfl ?_
  intro p e s m args below meth c s₁ B hml hv
  obtain ⟨rfl, hW, hB_G, hK, hZ⟩ := hv
  have hx := B.exec
  have hb := B.bytes
  have hr := B.returns
  have hts := atoms_spec (ws := WS yX12_mayNot cX12_mayNot 1 (some .boolean)) B.pre
  have hgd : ∀ w ∈ gd, w ∈ WS yX12_mayNot cX12_mayNot 1 (some .boolean) := fun w h => List.mem_cons_of_mem _ h
  have hg : ∀ w ∈ gd, w.before _ s = true := fun w h => hts w (hgd w h)
  have hown : s.vm.findClass RX12 = some m.cls := findClass_of_methodNamed B.named
  have hS : va_S A s.heap s.heap [] := va_S.rf
  have hF : Fr [] [] G G := Fr.rf
  have hl := lv_entry ([.ref (a 66)]) (n := 1) (Nat.le_of_ble_eq_true rfl)
  rw [lg_entry_eq]
  generalize (lg_sl ([.ref (a 66)]) ++ List.replicate (1 - (lg_sl ([.ref (a 66)])).length) Slot.unset).toArray = ls at hl ⊢
  have hl : lv_has ls 1 [(0, .ref (a 66))] := hl
  refine lv_aload_n hx hb dX12_mayNot_0 rfl (lv_at hl 0 rfl) ?_
  have b_1 : 0 ≤ (G.1 66 20).toInt ∧ (G.1 66 20).toInt ≤ 160 := hB_G.i 66 20 rfl rfl
  refine S_getI (v := (G.1 66 20)) (C := RX12) (T := TX12) (N := 89) hx hb hg iX12 hown hK hW kd_66 rfl 20 (by decide) (hg (Cond.fieldLink RX12 299 "SlabWalkModel" "opens" "I") m1334) (fun _ h9 => h9) rfl rfl dX12_mayNot_1 ?_
  refine lv_if_eq (tgt := 41) hx hb dX12_mayNot_4 (by decide) (fun c_2 => ?_) (fun c_2 => ?_)
  · have c_2 : (G.1 66 20).toInt = 0 := xI_eq rfl rfl c_2
    refine lv_iconst (v := 1) hx hb dX12_mayNot_41 (by decide) ?_
    refine lv_goto (tgt := 46) hx hb dX12_mayNot_42 (by decide) ?_
    exact W.zret (v := 1) hx hb hr (by decide) (fun t ht _ => ⟨⟨1, G, rfl, ⟨hB_G, hF, ⟨by decide, by decide⟩⟩, wd_t ht hW⟩, hS.F ht⟩) hS.2.2 dX12_mayNot_46
  · have c_2 : (G.1 66 20).toInt ≠ 0 := xI_ne rfl rfl c_2
    refine lv_aload_n hx hb dX12_mayNot_7 rfl (lv_at hl 0 rfl) ?_
    refine S_getR (n := 75) (C := RX12) (T := TX12) (N := 89) hx hb hg iX12 hown hK hW kd_66 rfl 17 (by decide) (hg (Cond.fieldLink RX12 39 "SlabWalkModel" "open" "[I") m1331) (fun _ h9 => h9) rfl dX12_mayNot_8 ?_
    refine lv_aload_n hx hb dX12_mayNot_11 rfl (lv_at hl 0 rfl) ?_
    refine S_getI (v := (G.1 66 20)) (C := RX12) (T := TX12) (N := 89) hx hb hg iX12 hown hK hW kd_66 rfl 20 (by decide) (hg (Cond.fieldLink RX12 299 "SlabWalkModel" "opens" "I") m1334) (fun _ h9 => h9) rfl rfl dX12_mayNot_12 ?_
    refine lv_iconst (v := 1) hx hb dX12_mayNot_15 (by decide) ?_
    refine lv_isub hx hb dX12_mayNot_16 ?_
    refine lv_topi (fun y_3 ey_3 => ?_)
    have ty_3 : y_3.toInt = (G.1 66 20).toInt - 1 := xI_sub rfl rfl ey_3 (by omega) (by omega)
    refine S_iald hx hb hK hW kd_75 (vin (by omega) (by omega)) dX12_mayNot_17 (fun y_4 ey_4 => ?_)
    refine lv_bipush (v := 20) hx hb dX12_mayNot_18 (by decide) ?_
    refine lv_icmp_eq (tgt := 41) hx hb dX12_mayNot_20 (by decide) (fun c_5 => ?_) (fun c_5 => ?_)
    · have c_5 : y_4.toInt = 20 := xI_eq rfl rfl c_5
      refine lv_iconst (v := 1) hx hb dX12_mayNot_41 (by decide) ?_
      refine lv_goto (tgt := 46) hx hb dX12_mayNot_42 (by decide) ?_
      exact W.zret (v := 1) hx hb hr (by decide) (fun t ht _ => ⟨⟨1, G, rfl, ⟨hB_G, hF, ⟨by decide, by decide⟩⟩, wd_t ht hW⟩, hS.F ht⟩) hS.2.2 dX12_mayNot_46
    · have c_5 : y_4.toInt ≠ 20 := xI_ne rfl rfl c_5
      refine lv_aload_n hx hb dX12_mayNot_23 rfl (lv_at hl 0 rfl) ?_
      refine S_getR (n := 75) (C := RX12) (T := TX12) (N := 89) hx hb hg iX12 hown hK hW kd_66 rfl 17 (by decide) (hg (Cond.fieldLink RX12 39 "SlabWalkModel" "open" "[I") m1331) (fun _ h9 => h9) rfl dX12_mayNot_24 ?_
      refine lv_aload_n hx hb dX12_mayNot_27 rfl (lv_at hl 0 rfl) ?_
      refine S_getI (v := (G.1 66 20)) (C := RX12) (T := TX12) (N := 89) hx hb hg iX12 hown hK hW kd_66 rfl 20 (by decide) (hg (Cond.fieldLink RX12 299 "SlabWalkModel" "opens" "I") m1334) (fun _ h9 => h9) rfl rfl dX12_mayNot_28 ?_
      refine lv_iconst (v := 1) hx hb dX12_mayNot_31 (by decide) ?_
      refine lv_isub hx hb dX12_mayNot_32 ?_
      refine lv_topi (fun y_6 ey_6 => ?_)
      have ty_6 : y_6.toInt = (G.1 66 20).toInt - 1 := xI_sub rfl rfl ey_6 (by omega) (by omega)
      refine S_iald hx hb hK hW kd_75 (vin (by omega) (by omega)) dX12_mayNot_33 (fun y_7 ey_7 => ?_)
      refine S_calli (va_runS (As := [.int y_7]) (rest := []) ⟨hx, hb, hml, hown, hts⟩ (n_tight l D k A a z G y_7 ) (va_cwS 1 hts (gd_S hgd m1722 m1723 m131 m1724) rfl rfl rfl (by decide +kernel) ⟨Nat.le_of_ble_eq_true rfl, Nat.le_of_ble_eq_true rfl⟩) (pre_S hW hB_G hK hZ hS) rfl rfl hl.1 rfl (lv_room (Nat.le_of_ble_eq_true rfl)) dX12_mayNot_34 ⟨Nat.le_of_ble_eq_true rfl, Nat.le_of_ble_eq_true rfl⟩) hS (fun r_8 G_9 H locs hpo hW hS => ?_)
      obtain ⟨hB_G_9, hq_10, f_12⟩ := hpo
      have hF := hF.call hq_10 (by decide) (by decide)
      refine lv_iconst (v := 4) hx hb dX12_mayNot_37 (by decide) ?_
      refine lv_icmp_ge (tgt := 45) hx hb dX12_mayNot_38 (by decide) (fun c_13 => ?_) (fun c_13 => ?_)
      · have c_13 : 4 ≤ r_8.toInt := xI_le rfl rfl c_13
        refine lv_iconst (v := 0) hx hb dX12_mayNot_45 (by decide) ?_
        exact W.zret (v := 0) hx hb hr (by decide) (fun t ht _ => ⟨⟨0, G_9, rfl, ⟨hB_G_9, hF, ⟨by decide, by decide⟩⟩, wd_t ht hW⟩, hS.F ht⟩) hS.2.2 dX12_mayNot_46
      · have c_13 : r_8.toInt < 4 := xI_nle rfl rfl c_13
        refine lv_iconst (v := 1) hx hb dX12_mayNot_41 (by decide) ?_
        refine lv_goto (tgt := 46) hx hb dX12_mayNot_42 (by decide) ?_
        exact W.zret (v := 1) hx hb hr (by decide) (fun t ht _ => ⟨⟨1, G_9, rfl, ⟨hB_G_9, hF, ⟨by decide, by decide⟩⟩, wd_t ht hW⟩, hS.F ht⟩) hS.2.2 dX12_mayNot_46

set_option maxHeartbeats 4000000 in
set_option maxRecDepth 100000 in
theorem n_asked (l : Launch) (D : va_G) (k : KT) (A : Nat → Prop) (a : Nat → Nat) (z : SK) (G : GS)   : Met l yX12_asked (WS yX12_asked cX12_asked 1 (some .int)) ({ frames := 1, cells := 0, slots := 0, locals := 20 }) (va_Pc [.ref (a 66)] (cW D k A a z G)) (va_Qi (fun (r : Int32) (G1 : GS) => Bd G1 ∧ Fr [] [] G G1 ∧ ((-1) ≤ r.toInt ∧ r.toInt ≤ 8)) (fun (G1 : GS) t => Wd D k A a G1 t.heap) A) 0 0 A := by
  refine Met.ofW (cc := cX12_asked) (maxL := 1) (ret := (some .int)) (by decide) rfl ?_
  intro p e s m args below meth c s₁ B hml hv
  obtain ⟨rfl, hW, hB_G, hK, hZ⟩ := hv
  have hx := B.exec
  have hb := B.bytes
  have hr := B.returns
  have hts := atoms_spec (ws := WS yX12_asked cX12_asked 1 (some .int)) B.pre
  have hgd : ∀ w ∈ gd, w ∈ WS yX12_asked cX12_asked 1 (some .int) := fun w h => List.mem_cons_of_mem _ h
  have hg : ∀ w ∈ gd, w.before _ s = true := fun w h => hts w (hgd w h)
  have hown : s.vm.findClass RX12 = some m.cls := findClass_of_methodNamed B.named
  have hS : va_S A s.heap s.heap [] := va_S.rf
  have hF : Fr [] [] G G := Fr.rf
  have hl := lv_entry ([.ref (a 66)]) (n := 1) (Nat.le_of_ble_eq_true rfl)
  rw [lg_entry_eq]
  generalize (lg_sl ([.ref (a 66)]) ++ List.replicate (1 - (lg_sl ([.ref (a 66)])).length) Slot.unset).toArray = ls at hl ⊢
  have hl : lv_has ls 1 [(0, .ref (a 66))] := hl
  refine lv_aload_n hx hb dX12_asked_0 rfl (lv_at hl 0 rfl) ?_
  refine S_getI (v := (G.1 66 6)) (C := RX12) (T := TX12) (N := 89) hx hb hg iX12 hown hK hW kd_66 rfl 6 (by decide) (hg (Cond.fieldLink RX12 205 "SlabWalkModel" "sort" "I") m1320) (fun _ h9 => h9) rfl rfl dX12_asked_1 ?_
  refine lv_iconst (v := 1) hx hb dX12_asked_4 (by decide) ?_
  refine lv_icmp_eq (tgt := 10) hx hb dX12_asked_5 (by decide) (fun c_1 => ?_) (fun c_1 => ?_)
  · have c_1 : (G.1 66 6).toInt = 1 := xI_eq rfl rfl c_1
    refine lv_aload_n hx hb dX12_asked_10 rfl (lv_at hl 0 rfl) ?_
    obtain ⟨y_2, ey_2⟩ : ∃ q, G.2.1 66 9 = q := ⟨_, rfl⟩
    refine S_getL (v := y_2) (C := RX12) (T := TX12) (N := 89) hx hb hg iX12 hown hK hW kd_66 rfl 9 (by decide) (hg (Cond.fieldLink RX12 198 "SlabWalkModel" "word" "J") m1323) (fun _ h9 => h9) rfl ey_2 dX12_asked_11 ?_
    refine lv_ldc2 (v := 457135713908) hx hb hown (hg (Cond.constantLong RX12 223 457135713908) m1644) dX12_asked_14 ?_
    refine W.lcmp hx hb dX12_asked_17 ?_
    refine lv_topi (fun y_3 ey_3 => ?_)
    have ty_3 := lcmp_rng ey_3
    refine lv_if_ne (tgt := 23) hx hb dX12_asked_18 (by decide) (fun c_4 => ?_) (fun c_4 => ?_)
    · have c_4 : y_3.toInt ≠ 0 := xI_ne rfl rfl c_4
      refine lv_aload_n hx hb dX12_asked_23 rfl (lv_at hl 0 rfl) ?_
      refine S_calli (va_runV (As := []) (rest := []) ⟨hx, hb, hml, hown, hts⟩ (n_mark l D k A a z G  ) (cwV 0 hts (gd_V hgd m1655 m1657 m58 m131 m1658) rfl rfl rfl (by decide +kernel) ⟨Nat.le_of_ble_eq_true rfl, Nat.le_of_ble_eq_true rfl⟩) (pre_V hW hB_G hK hZ hS kd_66 rfl) rfl rfl hl.1 rfl (lv_room (Nat.le_of_ble_eq_true rfl)) dX12_asked_24 ⟨Nat.le_of_ble_eq_true rfl, Nat.le_of_ble_eq_true rfl⟩) hS (fun r_5 G_6 H locs hpo hW hS => ?_)
      obtain ⟨hB_G_6, hq_7, f_9, hp_8⟩ := hpo
      have hF := hF.call hq_7 (by decide) (by decide)
      refine lv_if_le (tgt := 60) hx hb dX12_asked_27 (by decide) (fun c_10 => ?_) (fun c_10 => ?_)
      · have c_10 : r_5.toInt ≤ 0 := xI_le rfl rfl c_10
        refine lv_aload_n hx hb dX12_asked_60 rfl (lv_at hl 0 rfl) ?_
        obtain ⟨y_11, ey_11⟩ : ∃ q, G_6.2.1 66 9 = q := ⟨_, rfl⟩
        refine S_getL (v := y_11) (C := RX12) (T := TX12) (N := 89) hx hb hg iX12 hown hK hW kd_66 rfl 9 (by decide) (hg (Cond.fieldLink RX12 198 "SlabWalkModel" "word" "J") m1323) (fun _ h9 => h9) rfl ey_11 dX12_asked_61 ?_
        refine lv_ldc2 (v := 1819242087) hx hb hown (hg (Cond.constantLong RX12 249 1819242087) m1663) dX12_asked_64 ?_
        refine W.lcmp hx hb dX12_asked_67 ?_
        refine lv_topi (fun y_12 ey_12 => ?_)
        have ty_12 := lcmp_rng ey_12
        refine lv_if_ne (tgt := 73) hx hb dX12_asked_68 (by decide) (fun c_13 => ?_) (fun c_13 => ?_)
        · have c_13 : y_12.toInt ≠ 0 := xI_ne rfl rfl c_13
          refine lv_aload_n hx hb dX12_asked_73 rfl (lv_at hl 0 rfl) ?_
          obtain ⟨y_14, ey_14⟩ : ∃ q, G_6.2.1 66 9 = q := ⟨_, rfl⟩
          refine S_getL (v := y_14) (C := RX12) (T := TX12) (N := 89) hx hb hg iX12 hown hK hW kd_66 rfl 9 (by decide) (hg (Cond.fieldLink RX12 198 "SlabWalkModel" "word" "J") m1323) (fun _ h9 => h9) rfl ey_14 dX12_asked_74 ?_
          refine lv_ldc2 (v := 7238760) hx hb hown (hg (Cond.constantLong RX12 251 7238760) m1664) dX12_asked_77 ?_
          refine W.lcmp hx hb dX12_asked_80 ?_
          refine lv_topi (fun y_15 ey_15 => ?_)
          have ty_15 := lcmp_rng ey_15
          refine lv_if_ne (tgt := 87) hx hb dX12_asked_81 (by decide) (fun c_16 => ?_) (fun c_16 => ?_)
          · have c_16 : y_15.toInt ≠ 0 := xI_ne rfl rfl c_16
            refine lv_aload_n hx hb dX12_asked_87 rfl (lv_at hl 0 rfl) ?_
            obtain ⟨y_17, ey_17⟩ : ∃ q, G_6.2.1 66 9 = q := ⟨_, rfl⟩
            refine S_getL (v := y_17) (C := RX12) (T := TX12) (N := 89) hx hb hg iX12 hown hK hW kd_66 rfl 9 (by decide) (hg (Cond.fieldLink RX12 198 "SlabWalkModel" "word" "J") m1323) (fun _ h9 => h9) rfl ey_17 dX12_asked_88 ?_
            refine lv_ldc2 (v := 1768842088) hx hb hown (hg (Cond.constantLong RX12 253 1768842088) m1665) dX12_asked_91 ?_
            refine W.lcmp hx hb dX12_asked_94 ?_
            refine lv_topi (fun y_18 ey_18 => ?_)
            have ty_18 := lcmp_rng ey_18
            refine lv_if_ne (tgt := 101) hx hb dX12_asked_95 (by decide) (fun c_19 => ?_) (fun c_19 => ?_)
            · have c_19 : y_18.toInt ≠ 0 := xI_ne rfl rfl c_19
              refine lv_aload_n hx hb dX12_asked_101 rfl (lv_at hl 0 rfl) ?_
              obtain ⟨y_20, ey_20⟩ : ∃ q, G_6.2.1 66 9 = q := ⟨_, rfl⟩
              refine S_getL (v := y_20) (C := RX12) (T := TX12) (N := 89) hx hb hg iX12 hown hK hW kd_66 rfl 9 (by decide) (hg (Cond.fieldLink RX12 198 "SlabWalkModel" "word" "J") m1323) (fun _ h9 => h9) rfl ey_20 dX12_asked_102 ?_
              refine lv_ldc2 (v := 6578553) hx hb hown (hg (Cond.constantLong RX12 255 6578553) m1666) dX12_asked_105 ?_
              refine W.lcmp hx hb dX12_asked_108 ?_
              refine lv_topi (fun y_21 ey_21 => ?_)
              have ty_21 := lcmp_rng ey_21
              refine lv_if_ne (tgt := 117) hx hb dX12_asked_109 (by decide) (fun c_22 => ?_) (fun c_22 => ?_)
              · have c_22 : y_21.toInt ≠ 0 := xI_ne rfl rfl c_22
                refine lv_iconst (v := (-1)) hx hb dX12_asked_117 (by decide) ?_
                exact W.iret (v := (-1)) hx hb hr (fun t ht _ => ⟨⟨(-1), G_6, rfl, ⟨hB_G_6, hF, ⟨by decide, by decide⟩⟩, wd_t ht hW⟩, hS.F ht⟩) hS.2.2 dX12_asked_118
              · have c_22 : y_21.toInt = 0 := xI_eq rfl rfl c_22
                refine lv_bipush (v := 8) hx hb dX12_asked_112 (by decide) ?_
                refine lv_goto (tgt := 118) hx hb dX12_asked_114 (by decide) ?_
                exact W.iret (v := 8) hx hb hr (fun t ht _ => ⟨⟨8, G_6, rfl, ⟨hB_G_6, hF, ⟨by decide, by decide⟩⟩, wd_t ht hW⟩, hS.F ht⟩) hS.2.2 dX12_asked_118
            · have c_19 : y_18.toInt = 0 := xI_eq rfl rfl c_19
              refine lv_bipush (v := 7) hx hb dX12_asked_98 (by decide) ?_
              exact W.iret (v := 7) hx hb hr (fun t ht _ => ⟨⟨7, G_6, rfl, ⟨hB_G_6, hF, ⟨by decide, by decide⟩⟩, wd_t ht hW⟩, hS.F ht⟩) hS.2.2 dX12_asked_100
          · have c_16 : y_15.toInt = 0 := xI_eq rfl rfl c_16
            refine lv_bipush (v := 6) hx hb dX12_asked_84 (by decide) ?_
            exact W.iret (v := 6) hx hb hr (fun t ht _ => ⟨⟨6, G_6, rfl, ⟨hB_G_6, hF, ⟨by decide, by decide⟩⟩, wd_t ht hW⟩, hS.F ht⟩) hS.2.2 dX12_asked_86
        · have c_13 : y_12.toInt = 0 := xI_eq rfl rfl c_13
          refine lv_iconst (v := 5) hx hb dX12_asked_71 (by decide) ?_
          exact W.iret (v := 5) hx hb hr (fun t ht _ => ⟨⟨5, G_6, rfl, ⟨hB_G_6, hF, ⟨by decide, by decide⟩⟩, wd_t ht hW⟩, hS.F ht⟩) hS.2.2 dX12_asked_72
      · have c_10 : 0 < r_5.toInt := xI_nle rfl rfl c_10
        refine lv_aload_n hx hb dX12_asked_30 rfl (lv_at hl 0 rfl) ?_
        refine S_calli (va_runV (As := []) (rest := []) ⟨hx, hb, hml, hown, hts⟩ (n_mark l D k A a z G_6  ) (cwV 0 hts (gd_V hgd m1655 m1657 m58 m131 m1658) rfl rfl rfl (by decide +kernel) ⟨Nat.le_of_ble_eq_true rfl, Nat.le_of_ble_eq_true rfl⟩) (pre_V hW hB_G_6 hK hZ hS kd_66 rfl) rfl rfl hl.1 rfl (lv_room (Nat.le_of_ble_eq_true rfl)) dX12_asked_31 ⟨Nat.le_of_ble_eq_true rfl, Nat.le_of_ble_eq_true rfl⟩) hS (fun r_23 G_24 H locs hpo hW hS => ?_)
        obtain ⟨hB_G_24, hq_25, f_27, hp_26⟩ := hpo
        have hF := hF.call hq_25 (by decide) (by decide)
        refine lv_bipush (v := 8) hx hb dX12_asked_34 (by decide) ?_
        refine lv_icmp_ne (tgt := 43) hx hb dX12_asked_36 (by decide) (fun c_28 => ?_) (fun c_28 => ?_)
        · have c_28 : r_23.toInt ≠ 8 := xI_ne rfl rfl c_28
          refine lv_aload_n hx hb dX12_asked_43 rfl (lv_at hl 0 rfl) ?_
          refine S_calli (va_runV (As := []) (rest := []) ⟨hx, hb, hml, hown, hts⟩ (n_mark l D k A a z G_24  ) (cwV 0 hts (gd_V hgd m1655 m1657 m58 m131 m1658) rfl rfl rfl (by decide +kernel) ⟨Nat.le_of_ble_eq_true rfl, Nat.le_of_ble_eq_true rfl⟩) (pre_V hW hB_G_24 hK hZ hS kd_66 rfl) rfl rfl hl.1 rfl (lv_room (Nat.le_of_ble_eq_true rfl)) dX12_asked_44 ⟨Nat.le_of_ble_eq_true rfl, Nat.le_of_ble_eq_true rfl⟩) hS (fun r_29 G_30 H locs hpo hW hS => ?_)
          obtain ⟨hB_G_30, hq_31, f_33, hp_32⟩ := hpo
          have hF := hF.call hq_31 (by decide) (by decide)
          refine lv_iconst (v := 4) hx hb dX12_asked_47 (by decide) ?_
          refine lv_icmp_ne (tgt := 55) hx hb dX12_asked_48 (by decide) (fun c_34 => ?_) (fun c_34 => ?_)
          · have c_34 : r_29.toInt ≠ 4 := xI_ne rfl rfl c_34
            refine lv_aload_n hx hb dX12_asked_55 rfl (lv_at hl 0 rfl) ?_
            refine S_calli (va_runV (As := []) (rest := []) ⟨hx, hb, hml, hown, hts⟩ (n_mark l D k A a z G_30  ) (cwV 0 hts (gd_V hgd m1655 m1657 m58 m131 m1658) rfl rfl rfl (by decide +kernel) ⟨Nat.le_of_ble_eq_true rfl, Nat.le_of_ble_eq_true rfl⟩) (pre_V hW hB_G_30 hK hZ hS kd_66 rfl) rfl rfl hl.1 rfl (lv_room (Nat.le_of_ble_eq_true rfl)) dX12_asked_56 ⟨Nat.le_of_ble_eq_true rfl, Nat.le_of_ble_eq_true rfl⟩) hS (fun r_35 G_36 H locs hpo hW hS => ?_)
            obtain ⟨hB_G_36, hq_37, f_39, hp_38⟩ := hpo
            have hF := hF.call hq_37 (by decide) (by decide)
            exact W.iret (v := r_35) hx hb hr (fun t ht _ => ⟨⟨r_35, G_36, rfl, ⟨hB_G_36, hF, ⟨by omega, by omega⟩⟩, wd_t ht hW⟩, hS.F ht⟩) hS.2.2 dX12_asked_59
          · have c_34 : r_29.toInt = 4 := xI_eq rfl rfl c_34
            refine lv_iconst (v := 3) hx hb dX12_asked_51 (by decide) ?_
            refine lv_goto (tgt := 59) hx hb dX12_asked_52 (by decide) ?_
            exact W.iret (v := 3) hx hb hr (fun t ht _ => ⟨⟨3, G_30, rfl, ⟨hB_G_30, hF, ⟨by decide, by decide⟩⟩, wd_t ht hW⟩, hS.F ht⟩) hS.2.2 dX12_asked_59
        · have c_28 : r_23.toInt = 8 := xI_eq rfl rfl c_28
          refine lv_iconst (v := 4) hx hb dX12_asked_39 (by decide) ?_
          refine lv_goto (tgt := 59) hx hb dX12_asked_40 (by decide) ?_
          exact W.iret (v := 4) hx hb hr (fun t ht _ => ⟨⟨4, G_24, rfl, ⟨hB_G_24, hF, ⟨by decide, by decide⟩⟩, wd_t ht hW⟩, hS.F ht⟩) hS.2.2 dX12_asked_59
    · have c_4 : y_3.toInt = 0 := xI_eq rfl rfl c_4
      refine lv_iconst (v := 0) hx hb dX12_asked_21 (by decide) ?_
      exact W.iret (v := 0) hx hb hr (fun t ht _ => ⟨⟨0, G, rfl, ⟨hB_G, hF, ⟨by decide, by decide⟩⟩, wd_t ht hW⟩, hS.F ht⟩) hS.2.2 dX12_asked_22
  · have c_1 : (G.1 66 6).toInt ≠ 1 := xI_ne rfl rfl c_1
    refine lv_iconst (v := (-1)) hx hb dX12_asked_8 (by decide) ?_
    exact W.iret (v := (-1)) hx hb hr (fun t ht _ => ⟨⟨(-1), G, rfl, ⟨hB_G, hF, ⟨by decide, by decide⟩⟩, wd_t ht hW⟩, hS.F ht⟩) hS.2.2 dX12_asked_9

set_option maxHeartbeats 4000000 in
set_option maxRecDepth 100000 in
theorem n_isFull (l : Launch) (D : va_G) (k : KT) (A : Nat → Prop) (a : Nat → Nat) (z : SK) (G : GS)   : Met l yX12_isFull (WS yX12_isFull cX12_isFull 1 (some .boolean)) ({ frames := 0, cells := 0, slots := 0, locals := 0 }) (va_Pc [.ref (a 66)] (cW D k A a z G)) (va_Qi (fun (r : Int32) (G1 : GS) => Bd G1 ∧ Fr [] [] G G1 ∧ (0 ≤ r.toInt ∧ r.toInt ≤ 1) ∧ (r.toInt = 0 → (G.1 66 23).toInt ≠ 30)) (fun (G1 : GS) t => Wd D k A a G1 t.heap) A) 0 0 A := by
  refine Met.ofW (cc := cX12_isFull) (maxL := 1) (ret := (some .boolean)) (by decide) rfl ?_
  intro p e s m args below meth c s₁ B hml hv
  obtain ⟨rfl, hW, hB_G, hK, hZ⟩ := hv
  have hx := B.exec
  have hb := B.bytes
  have hr := B.returns
  have hts := atoms_spec (ws := WS yX12_isFull cX12_isFull 1 (some .boolean)) B.pre
  have hgd : ∀ w ∈ gd, w ∈ WS yX12_isFull cX12_isFull 1 (some .boolean) := fun w h => List.mem_cons_of_mem _ h
  have hg : ∀ w ∈ gd, w.before _ s = true := fun w h => hts w (hgd w h)
  have hown : s.vm.findClass RX12 = some m.cls := findClass_of_methodNamed B.named
  have hS : va_S A s.heap s.heap [] := va_S.rf
  have hF : Fr [] [] G G := Fr.rf
  have hl := lv_entry ([.ref (a 66)]) (n := 1) (Nat.le_of_ble_eq_true rfl)
  rw [lg_entry_eq]
  generalize (lg_sl ([.ref (a 66)]) ++ List.replicate (1 - (lg_sl ([.ref (a 66)])).length) Slot.unset).toArray = ls at hl ⊢
  have hl : lv_has ls 1 [(0, .ref (a 66))] := hl
  refine lv_aload_n hx hb dX12_isFull_0 rfl (lv_at hl 0 rfl) ?_
  refine S_getI (v := (G.1 66 21)) (C := RX12) (T := TX12) (N := 89) hx hb hg iX12 hown hK hW kd_66 rfl 21 (by decide) (hg (Cond.fieldLink RX12 312 "SlabWalkModel" "nUnits" "I") m1335) (fun _ h9 => h9) rfl rfl dX12_isFull_1 ?_
  refine lv_bipush (v := 90) hx hb dX12_isFull_4 (by decide) ?_
  refine lv_icmp_eq (tgt := 18) hx hb dX12_isFull_6 (by decide) (fun c_1 => ?_) (fun c_1 => ?_)
  · have c_1 : (G.1 66 21).toInt = 90 := xI_eq rfl rfl c_1
    refine lv_iconst (v := 1) hx hb dX12_isFull_18 (by decide) ?_
    refine lv_goto (tgt := 23) hx hb dX12_isFull_19 (by decide) ?_
    have b_2 : 0 ≤ (G.1 66 23).toInt ∧ (G.1 66 23).toInt ≤ 40 := hB_G.i 66 23 rfl rfl
    exact W.zret (v := 1) hx hb hr (by decide) (fun t ht _ => ⟨⟨1, G, rfl, ⟨hB_G, hF, ⟨by decide, by decide⟩, (by have hq : (1 : Int32).toInt = 1 := rfl; (try dsimp only); omega)⟩, wd_t ht hW⟩, hS.F ht⟩) hS.2.2 dX12_isFull_23
  · have c_1 : (G.1 66 21).toInt ≠ 90 := xI_ne rfl rfl c_1
    refine lv_aload_n hx hb dX12_isFull_9 rfl (lv_at hl 0 rfl) ?_
    have b_3 : 0 ≤ (G.1 66 23).toInt ∧ (G.1 66 23).toInt ≤ 40 := hB_G.i 66 23 rfl rfl
    refine S_getI (v := (G.1 66 23)) (C := RX12) (T := TX12) (N := 89) hx hb hg iX12 hown hK hW kd_66 rfl 23 (by decide) (hg (Cond.fieldLink RX12 315 "SlabWalkModel" "ownUnits" "I") m1337) (fun _ h9 => h9) rfl rfl dX12_isFull_10 ?_
    refine lv_bipush (v := 30) hx hb dX12_isFull_13 (by decide) ?_
    refine lv_icmp_ne (tgt := 22) hx hb dX12_isFull_15 (by decide) (fun c_4 => ?_) (fun c_4 => ?_)
    · have c_4 : (G.1 66 23).toInt ≠ 30 := xI_ne rfl rfl c_4
      refine lv_iconst (v := 0) hx hb dX12_isFull_22 (by decide) ?_
      exact W.zret (v := 0) hx hb hr (by decide) (fun t ht _ => ⟨⟨0, G, rfl, ⟨hB_G, hF, ⟨by decide, by decide⟩, (by have hq : (0 : Int32).toInt = 0 := rfl; (try dsimp only); omega)⟩, wd_t ht hW⟩, hS.F ht⟩) hS.2.2 dX12_isFull_23
    · have c_4 : (G.1 66 23).toInt = 30 := xI_eq rfl rfl c_4
      refine lv_iconst (v := 1) hx hb dX12_isFull_18 (by decide) ?_
      refine lv_goto (tgt := 23) hx hb dX12_isFull_19 (by decide) ?_
      exact W.zret (v := 1) hx hb hr (by decide) (fun t ht _ => ⟨⟨1, G, rfl, ⟨hB_G, hF, ⟨by decide, by decide⟩, (by have hq : (1 : Int32).toInt = 1 := rfl; (try dsimp only); omega)⟩, wd_t ht hW⟩, hS.F ht⟩) hS.2.2 dX12_isFull_23

set_option maxHeartbeats 4000000 in
set_option maxRecDepth 100000 in
theorem n_countUnit (l : Launch) (D : va_G) (k : KT) (A : Nat → Prop) (a : Nat → Nat) (z : SK) (G : GS)  (how : (G.1 66 23).toInt ≤ 39) : Met l yX12_countUnit (WS yX12_countUnit cX12_countUnit 1 none) ({ frames := 0, cells := 0, slots := 0, locals := 0 }) (va_Pc [.ref (a 66)] (cW D k A a z G)) (va_Qv (fun (G1 : GS) => Bd G1 ∧ Fr [] [(66, 21), (66, 23)] G G1 ∧ ((G1.1 66 23).toInt = (G.1 66 23).toInt + 1)) (fun (G1 : GS) t => Wd D k A a G1 t.heap) A) 0 0 A := by
  refine Met.ofW (cc := cX12_countUnit) (maxL := 1) (ret := none) (by decide) rfl ?_
  intro p e s m args below meth c s₁ B hml hv
  obtain ⟨rfl, hW, hB_G, hK, hZ⟩ := hv
  have hx := B.exec
  have hb := B.bytes
  have hr := B.returns
  have hts := atoms_spec (ws := WS yX12_countUnit cX12_countUnit 1 none) B.pre
  have hgd : ∀ w ∈ gd, w ∈ WS yX12_countUnit cX12_countUnit 1 none := fun w h => List.mem_cons_of_mem _ h
  have hg : ∀ w ∈ gd, w.before _ s = true := fun w h => hts w (hgd w h)
  have hown : s.vm.findClass RX12 = some m.cls := findClass_of_methodNamed B.named
  have hS : va_S A s.heap s.heap [] := va_S.rf
  have hF : Fr [] [(66, 21), (66, 23)] G G := Fr.rf
  have hl := lv_entry ([.ref (a 66)]) (n := 1) (Nat.le_of_ble_eq_true rfl)
  rw [lg_entry_eq]
  generalize (lg_sl ([.ref (a 66)]) ++ List.replicate (1 - (lg_sl ([.ref (a 66)])).length) Slot.unset).toArray = ls at hl ⊢
  have hl : lv_has ls 1 [(0, .ref (a 66))] := hl
  refine lv_aload_n hx hb dX12_countUnit_0 rfl (lv_at hl 0 rfl) ?_
  refine lv_dup hx hb dX12_countUnit_1 rfl ?_
  refine S_getI (v := (G.1 66 21)) (C := RX12) (T := TX12) (N := 89) hx hb hg iX12 hown hK hW kd_66 rfl 21 (by decide) (hg (Cond.fieldLink RX12 312 "SlabWalkModel" "nUnits" "I") m1335) (fun _ h9 => h9) rfl rfl dX12_countUnit_2 ?_
  refine lv_iconst (v := 1) hx hb dX12_countUnit_5 (by decide) ?_
  refine lv_iadd hx hb dX12_countUnit_6 ?_
  refine lv_topi (fun y_1 ey_1 => ?_)
  refine S_putI (ty := .int) (C := RX12) (T := TX12) (N := 89) hx hb hg iX12 tyX12 tyX12_ok nmX12 hown hK hW hS kd_66 rfl 21 (by decide) (hg (Cond.fieldLink RX12 312 "SlabWalkModel" "nUnits" "I") m1335) (fun _ h9 => h9) rfl (by decide +kernel) rfl rfl rfl dX12_countUnit_7 (fun G_2 H locs eG_2 hW hS => ?_)
  have hB_G_2 : Bd G_2 := hB_G.put (lo := (-2147483648)) (hi := 2147483647) eG_2 rfl rfl rfl (tI_rng _).1 (tI_rng _).2 (hB_G.2.put eG_2 rfl)
  have hF := hF.put eG_2 (Or.inr (by decide))
  refine lv_aload_n hx hb dX12_countUnit_10 rfl (lv_at hl 0 rfl) ?_
  refine lv_dup hx hb dX12_countUnit_11 rfl ?_
  have b_3 : 0 ≤ (G.1 66 23).toInt ∧ (G.1 66 23).toInt ≤ 40 := hB_G.i 66 23 rfl rfl
  refine S_getI (v := (G.1 66 23)) (C := RX12) (T := TX12) (N := 89) hx hb hg iX12 hown hK hW kd_66 rfl 23 (by decide) (hg (Cond.fieldLink RX12 315 "SlabWalkModel" "ownUnits" "I") m1337) (fun _ h9 => h9) rfl (gp_ne eG_2 (by decide)) dX12_countUnit_12 ?_
  refine lv_iconst (v := 1) hx hb dX12_countUnit_15 (by decide) ?_
  refine lv_iadd hx hb dX12_countUnit_16 ?_
  refine lv_topi (fun y_4 ey_4 => ?_)
  have ty_4 : y_4.toInt = (G.1 66 23).toInt + 1 := xI_add rfl rfl ey_4 (by omega) (by omega)
  refine S_putI (ty := .int) (C := RX12) (T := TX12) (N := 89) hx hb hg iX12 tyX12 tyX12_ok nmX12 hown hK hW hS kd_66 rfl 23 (by decide) (hg (Cond.fieldLink RX12 315 "SlabWalkModel" "ownUnits" "I") m1337) (fun _ h9 => h9) rfl (by decide +kernel) rfl rfl rfl dX12_countUnit_17 (fun G_5 H locs eG_5 hW hS => ?_)
  have hB_G_5 : Bd G_5 := hB_G_2.put (V := y_4.toInt) (lo := 0) (hi := 40) eG_5 rfl rfl rfl (by omega) (by omega) (hB_G_2.2.put eG_5 rfl)
  have hF := hF.put eG_5 (Or.inr (by decide))
  have g_6 : (G_5.1 66 23).toInt = y_4.toInt := by rw [show G_5.1 66 23 = y_4 from (gp_eq eG_5)]
  exact W.vret hx hb hr (fun t ht _ => ⟨⟨G_5, rfl, ⟨hB_G_5, hF, (by omega)⟩, wd_t ht hW⟩, hS.F ht⟩) hS.2.2 dX12_countUnit_20

set_option maxHeartbeats 4000000 in
set_option maxRecDepth 100000 in
theorem n_openUp (l : Launch) (D : va_G) (k : KT) (A : Nat → Prop) (a : Nat → Nat) (z : SK) (G : GS) (p0 : Int32) (ha_p0 : 20 ≤ p0.toInt ∧ p0.toInt ≤ 21) (hop : (G.1 66 20).toInt ≤ 159 ∧ (G.1 66 24).toInt ≤ 199) : Met l yX12_openUp (WS yX12_openUp cX12_openUp 2 none) ({ frames := 2, cells := 0, slots := 0, locals := 43 }) (va_Pc [.ref (a 66), .int p0] (cW D k A a z G)) (va_Qv (fun (G1 : GS) => Bd G1 ∧ Fr [75] [(66, 4), (66, 6), (66, 7), (66, 8), (66, 9), (66, 20), (66, 24)] G G1 ∧ ((G1.1 66 20).toInt = (G.1 66 20).toInt + 1 ∧ (G1.1 66 24).toInt = (G.1 66 24).toInt + 1 ∧ gB G1 = gB G ∧ (G.1 66 4).toInt ≤ (G1.1 66 4).toInt ∧ ((G1.1 66 4).toInt = (G.1 66 4).toInt → (G1.1 66 6).toInt = (G.1 66 6).toInt ∨ (G1.1 66 6).toInt ≤ 3))) (fun (G1 : GS) t => Wd D k A a G1 t.heap) A) 0 0 A := by
  refine Met.ofW (cc := cX12_openUp) (maxL := 2) (ret := none) (by decide) rfl ?_
  intro p e s m args below meth c s₁ B hml hv
  obtain ⟨rfl, hW, hB_G, hK, hZ⟩ := hv
  have hx := B.exec
  have hb := B.bytes
  have hr := B.returns
  have hts := atoms_spec (ws := WS yX12_openUp cX12_openUp 2 none) B.pre
  have hgd : ∀ w ∈ gd, w ∈ WS yX12_openUp cX12_openUp 2 none := fun w h => List.mem_cons_of_mem _ h
  have hg : ∀ w ∈ gd, w.before _ s = true := fun w h => hts w (hgd w h)
  have hown : s.vm.findClass RX12 = some m.cls := findClass_of_methodNamed B.named
  have hS : va_S A s.heap s.heap [] := va_S.rf
  have hF : Fr [75] [(66, 4), (66, 6), (66, 7), (66, 8), (66, 9), (66, 20), (66, 24)] G G := Fr.rf
  have hl := lv_entry ([.ref (a 66), .int p0]) (n := 2) (Nat.le_of_ble_eq_true rfl)
  rw [lg_entry_eq]
  generalize (lg_sl ([.ref (a 66), .int p0]) ++ List.replicate (2 - (lg_sl ([.ref (a 66), .int p0])).length) Slot.unset).toArray = ls at hl ⊢
  have hl : lv_has ls 2 [(0, .ref (a 66)), (1, .int p0)] := hl
  refine lv_aload_n hx hb dX12_openUp_0 rfl (lv_at hl 0 rfl) ?_
  refine S_getR (n := 75) (C := RX12) (T := TX12) (N := 89) hx hb hg iX12 hown hK hW kd_66 rfl 17 (by decide) (hg (Cond.fieldLink RX12 39 "SlabWalkModel" "open" "[I") m1331) (fun _ h9 => h9) rfl dX12_openUp_1 ?_
  refine lv_aload_n hx hb dX12_openUp_4 rfl (lv_at hl 0 rfl) ?_
  have b_1 : 0 ≤ (G.1 66 20).toInt ∧ (G.1 66 20).toInt ≤ 160 := hB_G.i 66 20 rfl rfl
  refine S_getI (v := (G.1 66 20)) (C := RX12) (T := TX12) (N := 89) hx hb hg iX12 hown hK hW kd_66 rfl 20 (by decide) (hg (Cond.fieldLink RX12 299 "SlabWalkModel" "opens" "I") m1334) (fun _ h9 => h9) rfl rfl dX12_openUp_5 ?_
  refine lv_iload_n hx hb dX12_openUp_8 rfl (lv_at hl 1 rfl) ?_
  refine S_iast hx hb hK hW hS kd_75 (vin (by omega) (by omega)) dX12_openUp_9 (fun G_2 H locs eG_2 hW hS => ?_)
  have hB_G_2 : Bd G_2 := hB_G.put (lo := (-2147483648)) (hi := 2147483647) eG_2 rfl rfl rfl (tI_rng _).1 (tI_rng _).2 (hB_G.2.put eG_2 rfl)
  have hF := hF.put eG_2 (Or.inl (by decide))
  refine lv_aload_n hx hb dX12_openUp_10 rfl (lv_at hl 0 rfl) ?_
  refine lv_dup hx hb dX12_openUp_11 rfl ?_
  refine S_getI (v := (G.1 66 20)) (C := RX12) (T := TX12) (N := 89) hx hb hg iX12 hown hK hW kd_66 rfl 20 (by decide) (hg (Cond.fieldLink RX12 299 "SlabWalkModel" "opens" "I") m1334) (fun _ h9 => h9) rfl ((gp_ne eG_2 (fun q => absurd q.1 (by decide))).trans (rfl)) dX12_openUp_12 ?_
  refine lv_iconst (v := 1) hx hb dX12_openUp_15 (by decide) ?_
  refine lv_iadd hx hb dX12_openUp_16 ?_
  refine lv_topi (fun y_3 ey_3 => ?_)
  have ty_3 : y_3.toInt = (G.1 66 20).toInt + 1 := xI_add rfl rfl ey_3 (by omega) (by omega)
  refine S_putI (ty := .int) (C := RX12) (T := TX12) (N := 89) hx hb hg iX12 tyX12 tyX12_ok nmX12 hown hK hW hS kd_66 rfl 20 (by decide) (hg (Cond.fieldLink RX12 299 "SlabWalkModel" "opens" "I") m1334) (fun _ h9 => h9) rfl (by decide +kernel) rfl rfl rfl dX12_openUp_17 (fun G_4 H locs eG_4 hW hS => ?_)
  have hB_G_4 : Bd G_4 := hB_G_2.put (V := y_3.toInt) (lo := 0) (hi := 160) eG_4 rfl rfl rfl (by omega) (by omega) (hB_G_2.2.put eG_4 rfl)
  have hF := hF.put eG_4 (Or.inr (by decide))
  have u_5 := gh_push eG_2 eG_4 (by omega) (by omega) (by omega)
  refine lv_aload_n hx hb dX12_openUp_20 rfl (lv_at hl 0 rfl) ?_
  refine lv_dup hx hb dX12_openUp_21 rfl ?_
  have b_6 : (-1) ≤ (G.1 66 24).toInt ∧ (G.1 66 24).toInt ≤ 200 := hB_G.i 66 24 rfl rfl
  refine S_getI (v := (G.1 66 24)) (C := RX12) (T := TX12) (N := 89) hx hb hg iX12 hown hK hW kd_66 rfl 24 (by decide) (hg (Cond.fieldLink RX12 309 "SlabWalkModel" "deep" "I") m1338) (fun _ h9 => h9) rfl ((gp_ne eG_4 (by decide)).trans (gp_ne eG_2 (fun q => absurd q.1 (by decide)))) dX12_openUp_22 ?_
  refine lv_iconst (v := 1) hx hb dX12_openUp_25 (by decide) ?_
  refine lv_iadd hx hb dX12_openUp_26 ?_
  refine lv_topi (fun y_7 ey_7 => ?_)
  have ty_7 : y_7.toInt = (G.1 66 24).toInt + 1 := xI_add rfl rfl ey_7 (by omega) (by omega)
  refine S_putI (ty := .int) (C := RX12) (T := TX12) (N := 89) hx hb hg iX12 tyX12 tyX12_ok nmX12 hown hK hW hS kd_66 rfl 24 (by decide) (hg (Cond.fieldLink RX12 309 "SlabWalkModel" "deep" "I") m1338) (fun _ h9 => h9) rfl (by decide +kernel) rfl rfl rfl dX12_openUp_27 (fun G_8 H locs eG_8 hW hS => ?_)
  have hB_G_8 : Bd G_8 := hB_G_4.put (V := y_7.toInt) (lo := (-1)) (hi := 200) eG_8 rfl rfl rfl (by omega) (by omega) (hB_G_4.2.put eG_8 rfl)
  have hF := hF.put eG_8 (Or.inr (by decide))
  refine lv_aload_n hx hb dX12_openUp_30 rfl (lv_at hl 0 rfl) ?_
  have b_9 : 0 ≤ (G.1 66 2).toInt ∧ (G.1 66 2).toInt ≤ 4 := hB_G.i 66 2 rfl rfl
  refine S_getI (v := (G.1 66 2)) (C := RX12) (T := TX12) (N := 89) hx hb hg iX12 hown hK hW kd_66 rfl 2 (by decide) (hg (Cond.fieldLink RX12 218 "SlabWalkModel" "fault" "I") m1316) (fun _ h9 => h9) rfl ((gp_ne eG_8 (by decide)).trans ((gp_ne eG_4 (by decide)).trans (gp_ne eG_2 (fun q => absurd q.1 (by decide))))) dX12_openUp_31 ?_
  refine lv_if_ne (tgt := 41) hx hb dX12_openUp_34 (by decide) (fun c_10 => ?_) (fun c_10 => ?_)
  · have c_10 : (G.1 66 2).toInt ≠ 0 := xI_ne rfl rfl c_10
    have g_11 : gB G_8 = gB G_4 := gB_fr (rs := []) (fs := [(66, 24)]) (Fr.rf.put eG_8 (Or.inr (by decide))) (by decide) (by decide)
    have g_12 : (G_8.1 66 20).toInt = y_3.toInt := by rw [show G_8.1 66 20 = y_3 from ((gp_ne eG_8 (by decide)).trans (gp_eq eG_4))]
    have g_13 : (G_8.1 66 24).toInt = y_7.toInt := by rw [show G_8.1 66 24 = y_7 from (gp_eq eG_8)]
    have b_14 : 0 ≤ (G.1 66 4).toInt ∧ (G.1 66 4).toInt ≤ 1600 := hB_G.i 66 4 rfl rfl
    have g_15 : (G_8.1 66 4).toInt = (G.1 66 4).toInt := by rw [show G_8.1 66 4 = (G.1 66 4) from ((gp_ne eG_8 (by decide)).trans ((gp_ne eG_4 (by decide)).trans (gp_ne eG_2 (fun q => absurd q.1 (by decide)))))]
    have g_16 : (G_8.1 66 6).toInt = (G.1 66 6).toInt := by rw [show G_8.1 66 6 = (G.1 66 6) from ((gp_ne eG_8 (by decide)).trans ((gp_ne eG_4 (by decide)).trans (gp_ne eG_2 (fun q => absurd q.1 (by decide)))))]
    exact W.vret hx hb hr (fun t ht _ => ⟨⟨G_8, rfl, ⟨hB_G_8, hF, (by omega)⟩, wd_t ht hW⟩, hS.F ht⟩) hS.2.2 dX12_openUp_41
  · have c_10 : (G.1 66 2).toInt = 0 := xI_eq rfl rfl c_10
    refine lv_aload_n hx hb dX12_openUp_37 rfl (lv_at hl 0 rfl) ?_
    have b_17 : 0 ≤ (G.1 66 4).toInt ∧ (G.1 66 4).toInt ≤ 1600 := hB_G.i 66 4 rfl rfl
    have g_18 : (G_8.1 66 4).toInt = (G.1 66 4).toInt := by rw [show G_8.1 66 4 = (G.1 66 4) from ((gp_ne eG_8 (by decide)).trans ((gp_ne eG_4 (by decide)).trans (gp_ne eG_2 (fun q => absurd q.1 (by decide)))))]
    have g_19 : (G_8.1 66 6).toInt = (G.1 66 6).toInt := by rw [show G_8.1 66 6 = (G.1 66 6) from ((gp_ne eG_8 (by decide)).trans ((gp_ne eG_4 (by decide)).trans (gp_ne eG_2 (fun q => absurd q.1 (by decide)))))]
    refine S_callv (va_runV (As := []) (rest := []) ⟨hx, hb, hml, hown, hts⟩ (n_token l D k A a z G_8  ) (cwV 0 hts (gd_V hgd m1602 m1604 m50 m131 m1605) rfl rfl rfl (by decide +kernel) ⟨Nat.le_of_ble_eq_true rfl, Nat.le_of_ble_eq_true rfl⟩) (pre_V hW hB_G_8 hK hZ hS kd_66 rfl) rfl rfl hl.1 rfl (lv_room (Nat.le_of_ble_eq_true rfl)) dX12_openUp_38 ⟨Nat.le_of_ble_eq_true rfl, Nat.le_of_ble_eq_true rfl⟩) hS (fun G_21 H locs hpo hW hS => ?_)
    obtain ⟨hB_G_21, hq_22, hp_23⟩ := hpo
    have hF := hF.call hq_22 (by decide) (by decide)
    have g_24 : gB G_21 = gB G_4 := gB_fr (rs := []) (fs := [(66, 4), (66, 6), (66, 7), (66, 8), (66, 9), (66, 24)]) ((Fr.rf.put eG_8 (Or.inr (by decide))).call hq_22 (by decide) (by decide)) (by decide) (by decide)
    have g_25 : (G_21.1 66 20).toInt = y_3.toInt := by rw [show G_21.1 66 20 = y_3 from ((hq_22.i 66 20 (by decide) (by decide)).trans ((gp_ne eG_8 (by decide)).trans (gp_eq eG_4)))]
    have g_26 : (G_21.1 66 24).toInt = y_7.toInt := by rw [show G_21.1 66 24 = y_7 from ((hq_22.i 66 24 (by decide) (by decide)).trans (gp_eq eG_8))]
    have b_27 : 0 ≤ (G_21.1 66 4).toInt ∧ (G_21.1 66 4).toInt ≤ 1600 := hB_G_21.i 66 4 rfl rfl
    exact W.vret hx hb hr (fun t ht _ => ⟨⟨G_21, rfl, ⟨hB_G_21, hF, (by omega)⟩, wd_t ht hW⟩, hS.F ht⟩) hS.2.2 dX12_openUp_41

set_option maxHeartbeats 4000000 in
set_option maxRecDepth 100000 in
theorem n_signOf (l : Launch) (D : va_G) (k : KT) (A : Nat → Prop) (a : Nat → Nat) (z : SK) (G : GS)   : Met l yX12_sign (WS yX12_sign cX12_sign 1 (some .int)) ({ frames := 1, cells := 0, slots := 0, locals := 22 }) (va_Pc [.ref (a 66)] (cW D k A a z G)) (va_Qi (fun (r : Int32) (G1 : GS) => Bd G1 ∧ Fr [] [] G G1 ∧ (0 ≤ r.toInt ∧ r.toInt ≤ 124) ∧ (r.toInt = 0 ∨ 22 ≤ r.toInt)) (fun (G1 : GS) t => Wd D k A a G1 t.heap) A) 0 0 A := by
  refine Met.ofW (cc := cX12_sign) (maxL := 1) (ret := (some .int)) (by decide) rfl ?_
  intro p e s m args below meth c s₁ B hml hv
  obtain ⟨rfl, hW, hB_G, hK, hZ⟩ := hv
  have hx := B.exec
  have hb := B.bytes
  have hr := B.returns
  have hts := atoms_spec (ws := WS yX12_sign cX12_sign 1 (some .int)) B.pre
  have hgd : ∀ w ∈ gd, w ∈ WS yX12_sign cX12_sign 1 (some .int) := fun w h => List.mem_cons_of_mem _ h
  have hg : ∀ w ∈ gd, w.before _ s = true := fun w h => hts w (hgd w h)
  have hown : s.vm.findClass RX12 = some m.cls := findClass_of_methodNamed B.named
  have hS : va_S A s.heap s.heap [] := va_S.rf
  have hF : Fr [] [] G G := Fr.rf
  have hl := lv_entry ([.ref (a 66)]) (n := 1) (Nat.le_of_ble_eq_true rfl)
  rw [lg_entry_eq]
  generalize (lg_sl ([.ref (a 66)]) ++ List.replicate (1 - (lg_sl ([.ref (a 66)])).length) Slot.unset).toArray = ls at hl ⊢
  have hl : lv_has ls 1 [(0, .ref (a 66))] := hl
  refine lv_aload_n hx hb dX12_sign_0 rfl (lv_at hl 0 rfl) ?_
  refine lv_ldc2 (v := 6385252) hx hb hown (hg (Cond.constantLong RX12 257 6385252) m1667) dX12_sign_1 ?_
  refine S_calli (va_runV (As := [.long 6385252]) (rest := []) ⟨hx, hb, hml, hown, hts⟩ (n_isWord l D k A a z G 6385252 ) (cwV 1 hts (gd_V hgd m1624 m1626 m53 m131 m1627) rfl rfl rfl (by decide +kernel) ⟨Nat.le_of_ble_eq_true rfl, Nat.le_of_ble_eq_true rfl⟩) (pre_V hW hB_G hK hZ hS kd_66 rfl) rfl rfl hl.1 rfl (lv_room (Nat.le_of_ble_eq_true rfl)) dX12_sign_4 ⟨Nat.le_of_ble_eq_true rfl, Nat.le_of_ble_eq_true rfl⟩) hS (fun r_1 G_2 H locs hpo hW hS => ?_)
  obtain ⟨hB_G_2, hq_3, f_5, hp_4⟩ := hpo
  have hF := hF.call hq_3 (by decide) (by decide)
  refine lv_if_eq (tgt := 13) hx hb dX12_sign_7 (by decide) (fun c_6 => ?_) (fun c_6 => ?_)
  · have c_6 : r_1.toInt = 0 := xI_eq rfl rfl c_6
    refine lv_aload_n hx hb dX12_sign_13 rfl (lv_at hl 0 rfl) ?_
    refine lv_ldc2 (v := 28530) hx hb hown (hg (Cond.constantLong RX12 259 28530) m1668) dX12_sign_14 ?_
    have g_7 : (G_2.1 66 6).toInt = (G.1 66 6).toInt := by rw [show G_2.1 66 6 = (G.1 66 6) from (hq_3.i 66 6 (by decide) (by decide))]
    refine S_calli (va_runV (As := [.long 28530]) (rest := []) ⟨hx, hb, hml, hown, hts⟩ (n_isWord l D k A a z G_2 28530 ) (cwV 1 hts (gd_V hgd m1624 m1626 m53 m131 m1627) rfl rfl rfl (by decide +kernel) ⟨Nat.le_of_ble_eq_true rfl, Nat.le_of_ble_eq_true rfl⟩) (pre_V hW hB_G_2 hK hZ hS kd_66 rfl) rfl rfl hl.1 rfl (lv_room (Nat.le_of_ble_eq_true rfl)) dX12_sign_17 ⟨Nat.le_of_ble_eq_true rfl, Nat.le_of_ble_eq_true rfl⟩) hS (fun r_8 G_9 H locs hpo hW hS => ?_)
    obtain ⟨hB_G_9, hq_10, f_12, hp_11⟩ := hpo
    have hF := hF.call hq_10 (by decide) (by decide)
    refine lv_if_eq (tgt := 26) hx hb dX12_sign_20 (by decide) (fun c_13 => ?_) (fun c_13 => ?_)
    · have c_13 : r_8.toInt = 0 := xI_eq rfl rfl c_13
      refine lv_aload_n hx hb dX12_sign_26 rfl (lv_at hl 0 rfl) ?_
      refine S_getI (v := (G.1 66 6)) (C := RX12) (T := TX12) (N := 89) hx hb hg iX12 hown hK hW kd_66 rfl 6 (by decide) (hg (Cond.fieldLink RX12 205 "SlabWalkModel" "sort" "I") m1320) (fun _ h9 => h9) rfl ((hq_10.i 66 6 (by decide) (by decide)).trans ((hq_3.i 66 6 (by decide) (by decide)).trans (rfl))) dX12_sign_27 ?_
      refine lv_bipush (v := 60) hx hb dX12_sign_30 (by decide) ?_
      refine lv_icmp_eq (tgt := 98) hx hb dX12_sign_32 (by decide) (fun c_14 => ?_) (fun c_14 => ?_)
      · have c_14 : (G.1 66 6).toInt = 60 := xI_eq rfl rfl c_14
        refine lv_aload_n hx hb dX12_sign_98 rfl (lv_at hl 0 rfl) ?_
        refine S_getI (v := (G.1 66 6)) (C := RX12) (T := TX12) (N := 89) hx hb hg iX12 hown hK hW kd_66 rfl 6 (by decide) (hg (Cond.fieldLink RX12 205 "SlabWalkModel" "sort" "I") m1320) (fun _ h9 => h9) rfl ((hq_10.i 66 6 (by decide) (by decide)).trans ((hq_3.i 66 6 (by decide) (by decide)).trans (rfl))) dX12_sign_99 ?_
        refine lv_goto (tgt := 106) hx hb dX12_sign_102 (by decide) ?_
        exact W.iret (v := (G.1 66 6)) hx hb hr (fun t ht _ => ⟨⟨(G.1 66 6), G_9, rfl, ⟨hB_G_9, hF, ⟨by omega, by omega⟩, (by omega)⟩, wd_t ht hW⟩, hS.F ht⟩) hS.2.2 dX12_sign_106
      · have c_14 : (G.1 66 6).toInt ≠ 60 := xI_ne rfl rfl c_14
        refine lv_aload_n hx hb dX12_sign_35 rfl (lv_at hl 0 rfl) ?_
        refine S_getI (v := (G.1 66 6)) (C := RX12) (T := TX12) (N := 89) hx hb hg iX12 hown hK hW kd_66 rfl 6 (by decide) (hg (Cond.fieldLink RX12 205 "SlabWalkModel" "sort" "I") m1320) (fun _ h9 => h9) rfl ((hq_10.i 66 6 (by decide) (by decide)).trans ((hq_3.i 66 6 (by decide) (by decide)).trans (rfl))) dX12_sign_36 ?_
        refine lv_bipush (v := 62) hx hb dX12_sign_39 (by decide) ?_
        refine lv_icmp_eq (tgt := 98) hx hb dX12_sign_41 (by decide) (fun c_15 => ?_) (fun c_15 => ?_)
        · have c_15 : (G.1 66 6).toInt = 62 := xI_eq rfl rfl c_15
          refine lv_aload_n hx hb dX12_sign_98 rfl (lv_at hl 0 rfl) ?_
          refine S_getI (v := (G.1 66 6)) (C := RX12) (T := TX12) (N := 89) hx hb hg iX12 hown hK hW kd_66 rfl 6 (by decide) (hg (Cond.fieldLink RX12 205 "SlabWalkModel" "sort" "I") m1320) (fun _ h9 => h9) rfl ((hq_10.i 66 6 (by decide) (by decide)).trans ((hq_3.i 66 6 (by decide) (by decide)).trans (rfl))) dX12_sign_99 ?_
          refine lv_goto (tgt := 106) hx hb dX12_sign_102 (by decide) ?_
          exact W.iret (v := (G.1 66 6)) hx hb hr (fun t ht _ => ⟨⟨(G.1 66 6), G_9, rfl, ⟨hB_G_9, hF, ⟨by omega, by omega⟩, (by omega)⟩, wd_t ht hW⟩, hS.F ht⟩) hS.2.2 dX12_sign_106
        · have c_15 : (G.1 66 6).toInt ≠ 62 := xI_ne rfl rfl c_15
          refine lv_aload_n hx hb dX12_sign_44 rfl (lv_at hl 0 rfl) ?_
          refine S_getI (v := (G.1 66 6)) (C := RX12) (T := TX12) (N := 89) hx hb hg iX12 hown hK hW kd_66 rfl 6 (by decide) (hg (Cond.fieldLink RX12 205 "SlabWalkModel" "sort" "I") m1320) (fun _ h9 => h9) rfl ((hq_10.i 66 6 (by decide) (by decide)).trans ((hq_3.i 66 6 (by decide) (by decide)).trans (rfl))) dX12_sign_45 ?_
          refine lv_bipush (v := 61) hx hb dX12_sign_48 (by decide) ?_
          refine lv_icmp_eq (tgt := 98) hx hb dX12_sign_50 (by decide) (fun c_16 => ?_) (fun c_16 => ?_)
          · have c_16 : (G.1 66 6).toInt = 61 := xI_eq rfl rfl c_16
            refine lv_aload_n hx hb dX12_sign_98 rfl (lv_at hl 0 rfl) ?_
            refine S_getI (v := (G.1 66 6)) (C := RX12) (T := TX12) (N := 89) hx hb hg iX12 hown hK hW kd_66 rfl 6 (by decide) (hg (Cond.fieldLink RX12 205 "SlabWalkModel" "sort" "I") m1320) (fun _ h9 => h9) rfl ((hq_10.i 66 6 (by decide) (by decide)).trans ((hq_3.i 66 6 (by decide) (by decide)).trans (rfl))) dX12_sign_99 ?_
            refine lv_goto (tgt := 106) hx hb dX12_sign_102 (by decide) ?_
            exact W.iret (v := (G.1 66 6)) hx hb hr (fun t ht _ => ⟨⟨(G.1 66 6), G_9, rfl, ⟨hB_G_9, hF, ⟨by omega, by omega⟩, (by omega)⟩, wd_t ht hW⟩, hS.F ht⟩) hS.2.2 dX12_sign_106
          · have c_16 : (G.1 66 6).toInt ≠ 61 := xI_ne rfl rfl c_16
            refine lv_aload_n hx hb dX12_sign_53 rfl (lv_at hl 0 rfl) ?_
            refine S_getI (v := (G.1 66 6)) (C := RX12) (T := TX12) (N := 89) hx hb hg iX12 hown hK hW kd_66 rfl 6 (by decide) (hg (Cond.fieldLink RX12 205 "SlabWalkModel" "sort" "I") m1320) (fun _ h9 => h9) rfl ((hq_10.i 66 6 (by decide) (by decide)).trans ((hq_3.i 66 6 (by decide) (by decide)).trans (rfl))) dX12_sign_54 ?_
            refine lv_bipush (v := 43) hx hb dX12_sign_57 (by decide) ?_
            refine lv_icmp_eq (tgt := 98) hx hb dX12_sign_59 (by decide) (fun c_17 => ?_) (fun c_17 => ?_)
            · have c_17 : (G.1 66 6).toInt = 43 := xI_eq rfl rfl c_17
              refine lv_aload_n hx hb dX12_sign_98 rfl (lv_at hl 0 rfl) ?_
              refine S_getI (v := (G.1 66 6)) (C := RX12) (T := TX12) (N := 89) hx hb hg iX12 hown hK hW kd_66 rfl 6 (by decide) (hg (Cond.fieldLink RX12 205 "SlabWalkModel" "sort" "I") m1320) (fun _ h9 => h9) rfl ((hq_10.i 66 6 (by decide) (by decide)).trans ((hq_3.i 66 6 (by decide) (by decide)).trans (rfl))) dX12_sign_99 ?_
              refine lv_goto (tgt := 106) hx hb dX12_sign_102 (by decide) ?_
              exact W.iret (v := (G.1 66 6)) hx hb hr (fun t ht _ => ⟨⟨(G.1 66 6), G_9, rfl, ⟨hB_G_9, hF, ⟨by omega, by omega⟩, (by omega)⟩, wd_t ht hW⟩, hS.F ht⟩) hS.2.2 dX12_sign_106
            · have c_17 : (G.1 66 6).toInt ≠ 43 := xI_ne rfl rfl c_17
              refine lv_aload_n hx hb dX12_sign_62 rfl (lv_at hl 0 rfl) ?_
              refine S_getI (v := (G.1 66 6)) (C := RX12) (T := TX12) (N := 89) hx hb hg iX12 hown hK hW kd_66 rfl 6 (by decide) (hg (Cond.fieldLink RX12 205 "SlabWalkModel" "sort" "I") m1320) (fun _ h9 => h9) rfl ((hq_10.i 66 6 (by decide) (by decide)).trans ((hq_3.i 66 6 (by decide) (by decide)).trans (rfl))) dX12_sign_63 ?_
              refine lv_bipush (v := 45) hx hb dX12_sign_66 (by decide) ?_
              refine lv_icmp_eq (tgt := 98) hx hb dX12_sign_68 (by decide) (fun c_18 => ?_) (fun c_18 => ?_)
              · have c_18 : (G.1 66 6).toInt = 45 := xI_eq rfl rfl c_18
                refine lv_aload_n hx hb dX12_sign_98 rfl (lv_at hl 0 rfl) ?_
                refine S_getI (v := (G.1 66 6)) (C := RX12) (T := TX12) (N := 89) hx hb hg iX12 hown hK hW kd_66 rfl 6 (by decide) (hg (Cond.fieldLink RX12 205 "SlabWalkModel" "sort" "I") m1320) (fun _ h9 => h9) rfl ((hq_10.i 66 6 (by decide) (by decide)).trans ((hq_3.i 66 6 (by decide) (by decide)).trans (rfl))) dX12_sign_99 ?_
                refine lv_goto (tgt := 106) hx hb dX12_sign_102 (by decide) ?_
                exact W.iret (v := (G.1 66 6)) hx hb hr (fun t ht _ => ⟨⟨(G.1 66 6), G_9, rfl, ⟨hB_G_9, hF, ⟨by omega, by omega⟩, (by omega)⟩, wd_t ht hW⟩, hS.F ht⟩) hS.2.2 dX12_sign_106
              · have c_18 : (G.1 66 6).toInt ≠ 45 := xI_ne rfl rfl c_18
                refine lv_aload_n hx hb dX12_sign_71 rfl (lv_at hl 0 rfl) ?_
                refine S_getI (v := (G.1 66 6)) (C := RX12) (T := TX12) (N := 89) hx hb hg iX12 hown hK hW kd_66 rfl 6 (by decide) (hg (Cond.fieldLink RX12 205 "SlabWalkModel" "sort" "I") m1320) (fun _ h9 => h9) rfl ((hq_10.i 66 6 (by decide) (by decide)).trans ((hq_3.i 66 6 (by decide) (by decide)).trans (rfl))) dX12_sign_72 ?_
                refine lv_bipush (v := 42) hx hb dX12_sign_75 (by decide) ?_
                refine lv_icmp_eq (tgt := 98) hx hb dX12_sign_77 (by decide) (fun c_19 => ?_) (fun c_19 => ?_)
                · have c_19 : (G.1 66 6).toInt = 42 := xI_eq rfl rfl c_19
                  refine lv_aload_n hx hb dX12_sign_98 rfl (lv_at hl 0 rfl) ?_
                  refine S_getI (v := (G.1 66 6)) (C := RX12) (T := TX12) (N := 89) hx hb hg iX12 hown hK hW kd_66 rfl 6 (by decide) (hg (Cond.fieldLink RX12 205 "SlabWalkModel" "sort" "I") m1320) (fun _ h9 => h9) rfl ((hq_10.i 66 6 (by decide) (by decide)).trans ((hq_3.i 66 6 (by decide) (by decide)).trans (rfl))) dX12_sign_99 ?_
                  refine lv_goto (tgt := 106) hx hb dX12_sign_102 (by decide) ?_
                  exact W.iret (v := (G.1 66 6)) hx hb hr (fun t ht _ => ⟨⟨(G.1 66 6), G_9, rfl, ⟨hB_G_9, hF, ⟨by omega, by omega⟩, (by omega)⟩, wd_t ht hW⟩, hS.F ht⟩) hS.2.2 dX12_sign_106
                · have c_19 : (G.1 66 6).toInt ≠ 42 := xI_ne rfl rfl c_19
                  refine lv_aload_n hx hb dX12_sign_80 rfl (lv_at hl 0 rfl) ?_
                  refine S_getI (v := (G.1 66 6)) (C := RX12) (T := TX12) (N := 89) hx hb hg iX12 hown hK hW kd_66 rfl 6 (by decide) (hg (Cond.fieldLink RX12 205 "SlabWalkModel" "sort" "I") m1320) (fun _ h9 => h9) rfl ((hq_10.i 66 6 (by decide) (by decide)).trans ((hq_3.i 66 6 (by decide) (by decide)).trans (rfl))) dX12_sign_81 ?_
                  refine lv_bipush (v := 47) hx hb dX12_sign_84 (by decide) ?_
                  refine lv_icmp_eq (tgt := 98) hx hb dX12_sign_86 (by decide) (fun c_20 => ?_) (fun c_20 => ?_)
                  · have c_20 : (G.1 66 6).toInt = 47 := xI_eq rfl rfl c_20
                    refine lv_aload_n hx hb dX12_sign_98 rfl (lv_at hl 0 rfl) ?_
                    refine S_getI (v := (G.1 66 6)) (C := RX12) (T := TX12) (N := 89) hx hb hg iX12 hown hK hW kd_66 rfl 6 (by decide) (hg (Cond.fieldLink RX12 205 "SlabWalkModel" "sort" "I") m1320) (fun _ h9 => h9) rfl ((hq_10.i 66 6 (by decide) (by decide)).trans ((hq_3.i 66 6 (by decide) (by decide)).trans (rfl))) dX12_sign_99 ?_
                    refine lv_goto (tgt := 106) hx hb dX12_sign_102 (by decide) ?_
                    exact W.iret (v := (G.1 66 6)) hx hb hr (fun t ht _ => ⟨⟨(G.1 66 6), G_9, rfl, ⟨hB_G_9, hF, ⟨by omega, by omega⟩, (by omega)⟩, wd_t ht hW⟩, hS.F ht⟩) hS.2.2 dX12_sign_106
                  · have c_20 : (G.1 66 6).toInt ≠ 47 := xI_ne rfl rfl c_20
                    refine lv_aload_n hx hb dX12_sign_89 rfl (lv_at hl 0 rfl) ?_
                    refine S_getI (v := (G.1 66 6)) (C := RX12) (T := TX12) (N := 89) hx hb hg iX12 hown hK hW kd_66 rfl 6 (by decide) (hg (Cond.fieldLink RX12 205 "SlabWalkModel" "sort" "I") m1320) (fun _ h9 => h9) rfl ((hq_10.i 66 6 (by decide) (by decide)).trans ((hq_3.i 66 6 (by decide) (by decide)).trans (rfl))) dX12_sign_90 ?_
                    refine lv_bipush (v := 37) hx hb dX12_sign_93 (by decide) ?_
                    refine lv_icmp_ne (tgt := 105) hx hb dX12_sign_95 (by decide) (fun c_21 => ?_) (fun c_21 => ?_)
                    · have c_21 : (G.1 66 6).toInt ≠ 37 := xI_ne rfl rfl c_21
                      refine lv_iconst (v := 0) hx hb dX12_sign_105 (by decide) ?_
                      exact W.iret (v := 0) hx hb hr (fun t ht _ => ⟨⟨0, G_9, rfl, ⟨hB_G_9, hF, ⟨by decide, by decide⟩, (by have hq : (0 : Int32).toInt = 0 := rfl; (try dsimp only); omega)⟩, wd_t ht hW⟩, hS.F ht⟩) hS.2.2 dX12_sign_106
                    · have c_21 : (G.1 66 6).toInt = 37 := xI_eq rfl rfl c_21
                      refine lv_aload_n hx hb dX12_sign_98 rfl (lv_at hl 0 rfl) ?_
                      refine S_getI (v := (G.1 66 6)) (C := RX12) (T := TX12) (N := 89) hx hb hg iX12 hown hK hW kd_66 rfl 6 (by decide) (hg (Cond.fieldLink RX12 205 "SlabWalkModel" "sort" "I") m1320) (fun _ h9 => h9) rfl ((hq_10.i 66 6 (by decide) (by decide)).trans ((hq_3.i 66 6 (by decide) (by decide)).trans (rfl))) dX12_sign_99 ?_
                      refine lv_goto (tgt := 106) hx hb dX12_sign_102 (by decide) ?_
                      exact W.iret (v := (G.1 66 6)) hx hb hr (fun t ht _ => ⟨⟨(G.1 66 6), G_9, rfl, ⟨hB_G_9, hF, ⟨by omega, by omega⟩, (by omega)⟩, wd_t ht hW⟩, hS.F ht⟩) hS.2.2 dX12_sign_106
    · have c_13 : r_8.toInt ≠ 0 := xI_ne rfl rfl c_13
      refine lv_bipush (v := 124) hx hb dX12_sign_23 (by decide) ?_
      exact W.iret (v := 124) hx hb hr (fun t ht _ => ⟨⟨124, G_9, rfl, ⟨hB_G_9, hF, ⟨by decide, by decide⟩, (by have hq : (124 : Int32).toInt = 124 := rfl; (try dsimp only); omega)⟩, wd_t ht hW⟩, hS.F ht⟩) hS.2.2 dX12_sign_25
  · have c_6 : r_1.toInt ≠ 0 := xI_ne rfl rfl c_6
    refine lv_bipush (v := 38) hx hb dX12_sign_10 (by decide) ?_
    exact W.iret (v := 38) hx hb hr (fun t ht _ => ⟨⟨38, G_2, rfl, ⟨hB_G_2, hF, ⟨by decide, by decide⟩, (by have hq : (38 : Int32).toInt = 38 := rfl; (try dsimp only); omega)⟩, wd_t ht hW⟩, hS.F ht⟩) hS.2.2 dX12_sign_12

set_option maxHeartbeats 4000000 in
set_option maxRecDepth 100000 in
theorem n_unit (l : Launch) (D : va_G) (k : KT) (A : Nat → Prop) (a : Nat → Nat) (z : SK) (G : GS)  (hnf : (G.1 66 2).toInt = 0) (hun : gC G = 1 ∧ gD G = gB G ∧ (G.1 66 24).toInt = (G.1 66 20).toInt - gB G ∧ gD G ≤ (G.1 66 23).toInt ∧ (G.1 66 23).toInt ≤ 30 ∧ (G.1 66 24).toInt ≤ 7 ∧ gM G + (G.1 66 20).toInt ≤ 10 * (G.1 66 23).toInt + 1) : Met l yX12_unit (WS yX12_unit cX12_unit 3 none) ({ frames := 3, cells := 0, slots := 0, locals := 64 }) (va_Pc [.ref (a 66)] (cW D k A a z G)) (va_Qv (fun (G1 : GS) => Bd G1 ∧ Fr [69, 70, 71, 75] [(66, 2), (66, 3), (66, 4), (66, 6), (66, 7), (66, 8), (66, 9), (66, 20), (66, 21), (66, 23), (66, 24)] G G1 ∧ ((G.1 66 23).toInt ≤ (G1.1 66 23).toInt ∧ ((G1.1 66 2).toInt = 0 → gC G1 = 1 ∧ gD G1 = gB G1 + 1 ∧ (G1.1 66 24).toInt = (G1.1 66 20).toInt - gB G1 ∧ gD G1 ≤ (G1.1 66 23).toInt ∧ (G1.1 66 23).toInt ≤ 30 ∧ gM G1 + (G1.1 66 20).toInt ≤ 10 * (G1.1 66 23).toInt ∧ (G1.1 66 24).toInt ≤ 7 ∧ (G.1 66 23).toInt < (G1.1 66 23).toInt) ∧ (G.1 66 4).toInt ≤ (G1.1 66 4).toInt ∧ ((G1.1 66 4).toInt = (G.1 66 4).toInt → (G1.1 66 6).toInt = (G.1 66 6).toInt ∨ (G1.1 66 6).toInt ≤ 3))) (fun (G1 : GS) t => Wd D k A a G1 t.heap) A) 0 0 A := by
  refine Met.ofW (cc := cX12_unit) (maxL := 3) (ret := none) (by decide) rfl ?_
  intro p e s m args below meth c s₁ B hml hv
  obtain ⟨rfl, hW, hB_G, hK, hZ⟩ := hv
  have hx := B.exec
  have hb := B.bytes
  have hr := B.returns
  have hts := atoms_spec (ws := WS yX12_unit cX12_unit 3 none) B.pre
  have hgd : ∀ w ∈ gd, w ∈ WS yX12_unit cX12_unit 3 none := fun w h => List.mem_cons_of_mem _ h
  have hg : ∀ w ∈ gd, w.before _ s = true := fun w h => hts w (hgd w h)
  have hown : s.vm.findClass RX12 = some m.cls := findClass_of_methodNamed B.named
  have hS : va_S A s.heap s.heap [] := va_S.rf
  have hF : Fr [69, 70, 71, 75] [(66, 2), (66, 3), (66, 4), (66, 6), (66, 7), (66, 8), (66, 9), (66, 20), (66, 21), (66, 23), (66, 24)] G G := Fr.rf
  have hl := lv_entry ([.ref (a 66)]) (n := 3) (Nat.le_of_ble_eq_true rfl)
  rw [lg_entry_eq]
  generalize (lg_sl ([.ref (a 66)]) ++ List.replicate (3 - (lg_sl ([.ref (a 66)])).length) Slot.unset).toArray = ls at hl ⊢
  have hl : lv_has ls 3 [(0, .ref (a 66))] := hl
  have b_1 : 0 ≤ (G.1 66 20).toInt ∧ (G.1 66 20).toInt ≤ 160 := hB_G.i 66 20 rfl rfl
  have u_2 := gh_pos (G := G) (by omega)
  refine lv_iconst (v := 1) hx hb dX12_unit_0 (by decide) ?_
  refine lv_istore_n (lv' := [(1, .int 1), (0, .ref (a 66))]) hx hb dX12_unit_1 rfl hl (by decide) rfl (fun ls hl => ?_)
  have b_8 : (-1) ≤ (G.1 66 24).toInt ∧ (G.1 66 24).toInt ≤ 200 := hB_G.i 66 24 rfl rfl
  have b_9 : 0 ≤ (G.1 66 2).toInt ∧ (G.1 66 2).toInt ≤ 4 := hB_G.i 66 2 rfl rfl
  have b_10 : 0 ≤ (G.1 66 23).toInt ∧ (G.1 66 23).toInt ≤ 40 := hB_G.i 66 23 rfl rfl
  have b_11 : 0 ≤ (G.1 66 4).toInt ∧ (G.1 66 4).toInt ≤ 1600 := hB_G.i 66 4 rfl rfl
  have qc_12 : (1 : Int32).toInt = 1 := rfl
  refine loop_N (Inv := fun n H locs ls => ∃ (G_3 : GS) (x_7 : Int32), (n : Int) = 9 - (G_3.1 66 24).toInt + x_7.toInt ∧ (0 ≤ x_7.toInt ∧ x_7.toInt ≤ 1) ∧ (gC G_3 = 1 ∧ gD G_3 = gB G_3 ∧ (G_3.1 66 24).toInt = (G_3.1 66 20).toInt - gB G_3 ∧ gD G_3 ≤ (G_3.1 66 23).toInt ∧ (G_3.1 66 23).toInt ≤ 31 ∧ (G_3.1 66 24).toInt ≤ 8 ∧ gM G_3 + (G_3.1 66 20).toInt ≤ 10 * (G_3.1 66 23).toInt + 1 + (G_3.1 66 24).toInt ∧ ((G_3.1 66 2).toInt = 0 → (G_3.1 66 23).toInt ≤ 30 ∧ (G_3.1 66 24).toInt ≤ 7)) ∧ ((G.1 66 23).toInt ≤ (G_3.1 66 23).toInt) ∧ ((G.1 66 4).toInt ≤ (G_3.1 66 4).toInt ∧ ((G_3.1 66 4).toInt = (G.1 66 4).toInt → (G_3.1 66 6).toInt = (G.1 66 6).toInt ∨ (G_3.1 66 6).toInt ≤ 3)) ∧ Wd D k A a G_3 H ∧ Bd G_3 ∧ Fr [69, 70, 71, 75] [(66, 2), (66, 3), (66, 4), (66, 6), (66, 7), (66, 8), (66, 9), (66, 20), (66, 21), (66, 23), (66, 24)] G G_3 ∧ Fr [75] [(66, 2), (66, 3), (66, 4), (66, 6), (66, 7), (66, 8), (66, 9), (66, 20), (66, 21), (66, 23), (66, 24)] G G_3 ∧ va_S A s.heap H locs ∧ lv_has ls 3 [(1, .int x_7), (0, .ref (a 66))]) (fun n_6 H locs ls ih_5 hI => ?_) (9 - (G.1 66 24).toInt + 1 : Int).toNat ⟨G, 1, (Int.toNat_of_nonneg (by omega)), ⟨by omega, by omega⟩, (by omega), (by omega), (by omega), hW, hB_G, hF, Fr.rf, hS, lv_sub hl [0, 1] rfl⟩
  obtain ⟨G_3, x_7, hn_17, f_13, f_14, f_15, f_16, hW, hB_G_3, hF, hq_4, hS, hl⟩ := hI
  have g_18 : gC G_3 = gC G := gC_fr (rs := [75]) (fs := [(66, 2), (66, 3), (66, 4), (66, 6), (66, 7), (66, 8), (66, 9), (66, 20), (66, 21), (66, 23), (66, 24)]) (Fr.rf.call hq_4 (by decide) (by decide)) (by decide) (by decide)
  have g_19 : gD G_3 = gD G := gD_fr (rs := [75]) (fs := [(66, 2), (66, 3), (66, 4), (66, 6), (66, 7), (66, 8), (66, 9), (66, 20), (66, 21), (66, 23), (66, 24)]) (Fr.rf.call hq_4 (by decide) (by decide)) (by decide) (by decide)
  have g_20 : gM G_3 = gM G := gM_fr (rs := [75]) (fs := [(66, 2), (66, 3), (66, 4), (66, 6), (66, 7), (66, 8), (66, 9), (66, 20), (66, 21), (66, 23), (66, 24)]) (Fr.rf.call hq_4 (by decide) (by decide)) (by decide) (by decide)
  have b_21 : 0 ≤ (G_3.1 66 2).toInt ∧ (G_3.1 66 2).toInt ≤ 4 := hB_G_3.i 66 2 rfl rfl
  have b_22 : 0 ≤ (G_3.1 66 20).toInt ∧ (G_3.1 66 20).toInt ≤ 160 := hB_G_3.i 66 20 rfl rfl
  have b_23 : 0 ≤ (G_3.1 66 23).toInt ∧ (G_3.1 66 23).toInt ≤ 40 := hB_G_3.i 66 23 rfl rfl
  have b_24 : (-1) ≤ (G_3.1 66 24).toInt ∧ (G_3.1 66 24).toInt ≤ 200 := hB_G_3.i 66 24 rfl rfl
  have b_25 : 0 ≤ (G_3.1 66 4).toInt ∧ (G_3.1 66 4).toInt ≤ 1600 := hB_G_3.i 66 4 rfl rfl
  have u_26 := gh_pos (G := G_3) (by omega)
  refine lv_iload_n hx hb dX12_unit_2 rfl (lv_at hl 0 rfl) ?_
  refine W.cut (σ := Unit) (pcJ := 101) (J := fun y H locs ls => ∃ (G_28 : GS), Wd D k A a G_28 H ∧ Bd G_28 ∧ Fr [69, 70, 71, 75] [(66, 2), (66, 3), (66, 4), (66, 6), (66, 7), (66, 8), (66, 9), (66, 20), (66, 21), (66, 23), (66, 24)] G G_28 ∧ Fr [] [] G_3 G_28 ∧ va_S A s.heap H locs ∧ lv_has ls 3 [(0, .ref (a 66))]) (stJ := fun _ => []) ?_ (fun hJ_29 => ?_)
  · intro y H locs ls hI
    obtain ⟨G_28, hW, hB_G_28, hF, hq_30, hS, hl⟩ := hI
    refine lv_aload_n hx hb dX12_unit_101 rfl (lv_at hl 0 rfl) ?_
    refine S_getI (v := (G_3.1 66 2)) (C := RX12) (T := TX12) (N := 89) hx hb hg iX12 hown hK hW kd_66 rfl 2 (by decide) (hg (Cond.fieldLink RX12 218 "SlabWalkModel" "fault" "I") m1316) (fun _ h9 => h9) rfl ((hq_30.i 66 2 (by decide) (by decide)).trans (rfl)) dX12_unit_102 ?_
    refine lv_if_le (tgt := 109) hx hb dX12_unit_105 (by decide) (fun c_31 => ?_) (fun c_31 => ?_)
    · have c_31 : (G_3.1 66 2).toInt ≤ 0 := xI_le rfl rfl c_31
      refine lv_aload_n hx hb dX12_unit_109 rfl (lv_at hl 0 rfl) ?_
      refine S_calli (va_runV (As := []) (rest := []) ⟨hx, hb, hml, hown, hts⟩ (n_asked l D k A a z G_28  ) (cwV 0 hts (gd_V hgd m1737 m1739 m75 m131 m1740) rfl rfl rfl (by decide +kernel) ⟨Nat.le_of_ble_eq_true rfl, Nat.le_of_ble_eq_true rfl⟩) (pre_V hW hB_G_28 hK hZ hS kd_66 rfl) rfl rfl hl.1 rfl (lv_room (Nat.le_of_ble_eq_true rfl)) dX12_unit_110 ⟨Nat.le_of_ble_eq_true rfl, Nat.le_of_ble_eq_true rfl⟩) hS (fun r_32 G_33 H locs hpo hW hS => ?_)
      obtain ⟨hB_G_33, hq_34, f_36⟩ := hpo
      have hF := hF.call hq_34 (by decide) (by decide)
      refine lv_istore_n (lv' := [(2, .int r_32), (0, .ref (a 66))]) hx hb dX12_unit_113 rfl hl (by decide) rfl (fun ls hl => ?_)
      refine lv_aload_n hx hb dX12_unit_114 rfl (lv_at hl 1 rfl) ?_
      refine S_getI (v := (G_3.1 66 6)) (C := RX12) (T := TX12) (N := 89) hx hb hg iX12 hown hK hW kd_66 rfl 6 (by decide) (hg (Cond.fieldLink RX12 205 "SlabWalkModel" "sort" "I") m1320) (fun _ h9 => h9) rfl ((hq_34.i 66 6 (by decide) (by decide)).trans ((hq_30.i 66 6 (by decide) (by decide)).trans (rfl))) dX12_unit_115 ?_
      refine lv_iconst (v := 2) hx hb dX12_unit_118 (by decide) ?_
      refine lv_icmp_eq (tgt := 126) hx hb dX12_unit_119 (by decide) (fun c_37 => ?_) (fun c_37 => ?_)
      · have c_37 : (G_3.1 66 6).toInt = 2 := xI_eq rfl rfl c_37
        refine lv_aload_n hx hb dX12_unit_126 rfl (lv_at hl 1 rfl) ?_
        have g_38 : (G_33.1 66 23).toInt = (G_3.1 66 23).toInt := by rw [show G_33.1 66 23 = (G_3.1 66 23) from ((hq_34.i 66 23 (by decide) (by decide)).trans ((hq_30.i 66 23 (by decide) (by decide)).trans (rfl)))]
        refine S_calli (va_runV (As := []) (rest := []) ⟨hx, hb, hml, hown, hts⟩ (n_isFull l D k A a z G_33  ) (cwV 0 hts (gd_V hgd m1729 m1731 m73 m131 m1732) rfl rfl rfl (by decide +kernel) ⟨Nat.le_of_ble_eq_true rfl, Nat.le_of_ble_eq_true rfl⟩) (pre_V hW hB_G_33 hK hZ hS kd_66 rfl) rfl rfl hl.1 rfl (lv_room (Nat.le_of_ble_eq_true rfl)) dX12_unit_127 ⟨Nat.le_of_ble_eq_true rfl, Nat.le_of_ble_eq_true rfl⟩) hS (fun r_39 G_40 H locs hpo hW hS => ?_)
        obtain ⟨hB_G_40, hq_41, f_43, hp_42⟩ := hpo
        have hF := hF.call hq_41 (by decide) (by decide)
        refine lv_if_eq (tgt := 138) hx hb dX12_unit_130 (by decide) (fun c_44 => ?_) (fun c_44 => ?_)
        · have c_44 : r_39.toInt = 0 := xI_eq rfl rfl c_44
          refine lv_aload_n hx hb dX12_unit_138 rfl (lv_at hl 1 rfl) ?_
          refine S_getI (v := (G_3.1 66 2)) (C := RX12) (T := TX12) (N := 89) hx hb hg iX12 hown hK hW kd_66 rfl 2 (by decide) (hg (Cond.fieldLink RX12 218 "SlabWalkModel" "fault" "I") m1316) (fun _ h9 => h9) rfl ((hq_41.i 66 2 (by decide) (by decide)).trans ((hq_34.i 66 2 (by decide) (by decide)).trans ((hq_30.i 66 2 (by decide) (by decide)).trans (rfl)))) dX12_unit_139 ?_
          refine lv_if_le (tgt := 146) hx hb dX12_unit_142 (by decide) (fun c_45 => ?_) (fun c_45 => ?_)
          · have c_45 : (G_3.1 66 2).toInt ≤ 0 := xI_le rfl rfl c_45
            refine lv_aload_n hx hb dX12_unit_146 rfl (lv_at hl 1 rfl) ?_
            have g_46 : (G_40.1 66 23).toInt = (G_3.1 66 23).toInt := by rw [show G_40.1 66 23 = (G_3.1 66 23) from ((hq_41.i 66 23 (by decide) (by decide)).trans ((hq_34.i 66 23 (by decide) (by decide)).trans ((hq_30.i 66 23 (by decide) (by decide)).trans (rfl))))]
            have g_47 : (G_40.1 66 23).toInt = (G_3.1 66 23).toInt := by rw [show G_40.1 66 23 = (G_3.1 66 23) from ((hq_41.i 66 23 (by decide) (by decide)).trans ((hq_34.i 66 23 (by decide) (by decide)).trans ((hq_30.i 66 23 (by decide) (by decide)).trans (rfl))))]
            refine S_callv (va_runV (As := []) (rest := []) ⟨hx, hb, hml, hown, hts⟩ (n_countUnit l D k A a z G_40  (by omega)) (cwV 0 hts (gd_V hgd m1733 m1735 m74 m131 m1736) rfl rfl rfl (by decide +kernel) ⟨Nat.le_of_ble_eq_true rfl, Nat.le_of_ble_eq_true rfl⟩) (pre_V hW hB_G_40 hK hZ hS kd_66 rfl) rfl rfl hl.1 rfl (lv_room (Nat.le_of_ble_eq_true rfl)) dX12_unit_147 ⟨Nat.le_of_ble_eq_true rfl, Nat.le_of_ble_eq_true rfl⟩) hS (fun G_49 H locs hpo hW hS => ?_)
            obtain ⟨hB_G_49, hq_50, hp_51⟩ := hpo
            have hF := hF.call hq_50 (by decide) (by decide)
            refine lv_aload_n hx hb dX12_unit_150 rfl (lv_at hl 1 rfl) ?_
            refine lv_iload_n hx hb dX12_unit_151 rfl (lv_at hl 0 rfl) ?_
            refine lv_if_ge (tgt := 159) hx hb dX12_unit_152 (by decide) (fun c_52 => ?_) (fun c_52 => ?_)
            · have c_52 : 0 ≤ r_32.toInt := xI_le rfl rfl c_52
              refine lv_iconst (v := 1) hx hb dX12_unit_159 (by decide) ?_
              refine lv_iload_n hx hb dX12_unit_160 rfl (lv_at hl 0 rfl) ?_
              refine lv_if_ge (tgt := 171) hx hb dX12_unit_161 (by decide) (fun c_53 => ?_) (fun c_53 => ?_)
              · have c_53 : 0 ≤ r_32.toInt := xI_le rfl rfl c_53
                refine lv_iload_n hx hb dX12_unit_171 rfl (lv_at hl 0 rfl) ?_
                have g_54 : gM G_49 = gM G := gM_fr (rs := [75]) (fs := [(66, 2), (66, 3), (66, 4), (66, 6), (66, 7), (66, 8), (66, 9), (66, 20), (66, 21), (66, 23), (66, 24)]) (((((Fr.rf.call hq_4 (by decide) (by decide)).call hq_30 (by decide) (by decide)).call hq_34 (by decide) (by decide)).call hq_41 (by decide) (by decide)).call hq_50 (by decide) (by decide)) (by decide) (by decide)
                have qc_55 : (1 : Int32).toInt = 1 := rfl
                have g_56 : gC G_49 = gC G := gC_fr (rs := [75]) (fs := [(66, 2), (66, 3), (66, 4), (66, 6), (66, 7), (66, 8), (66, 9), (66, 20), (66, 21), (66, 23), (66, 24)]) (((((Fr.rf.call hq_4 (by decide) (by decide)).call hq_30 (by decide) (by decide)).call hq_34 (by decide) (by decide)).call hq_41 (by decide) (by decide)).call hq_50 (by decide) (by decide)) (by decide) (by decide)
                have g_57 : gD G_49 = gD G := gD_fr (rs := [75]) (fs := [(66, 2), (66, 3), (66, 4), (66, 6), (66, 7), (66, 8), (66, 9), (66, 20), (66, 21), (66, 23), (66, 24)]) (((((Fr.rf.call hq_4 (by decide) (by decide)).call hq_30 (by decide) (by decide)).call hq_34 (by decide) (by decide)).call hq_41 (by decide) (by decide)).call hq_50 (by decide) (by decide)) (by decide) (by decide)
                refine S_callv (va_runV (As := [.int 1, .int r_32]) (rest := []) ⟨hx, hb, hml, hown, hts⟩ (n_add l D k A a z G_49 1 r_32 ⟨by decide, by decide⟩ (by omega)) (cwV 2 hts (gd_V hgd m1741 m1743 m76 m131 m1744) rfl rfl rfl (by decide +kernel) ⟨Nat.le_of_ble_eq_true rfl, Nat.le_of_ble_eq_true rfl⟩) (pre_V hW hB_G_49 hK hZ hS kd_66 rfl) rfl rfl hl.1 rfl (lv_room (Nat.le_of_ble_eq_true rfl)) dX12_unit_172 ⟨Nat.le_of_ble_eq_true rfl, Nat.le_of_ble_eq_true rfl⟩) hS (fun G_59 H locs hpo hW hS => ?_)
                obtain ⟨hB_G_59, hq_60, hp_61⟩ := hpo
                have hF := hF.call hq_60 (by decide) (by decide)
                refine lv_aload_n hx hb dX12_unit_175 rfl (lv_at hl 1 rfl) ?_
                have g_62 : (G_59.1 66 4).toInt = (G_3.1 66 4).toInt := by rw [show G_59.1 66 4 = (G_3.1 66 4) from ((hq_60.i 66 4 (by decide) (by decide)).trans ((hq_50.i 66 4 (by decide) (by decide)).trans ((hq_41.i 66 4 (by decide) (by decide)).trans ((hq_34.i 66 4 (by decide) (by decide)).trans ((hq_30.i 66 4 (by decide) (by decide)).trans (rfl))))))]
                have g_63 : (G_59.1 66 6).toInt = (G_3.1 66 6).toInt := by rw [show G_59.1 66 6 = (G_3.1 66 6) from ((hq_60.i 66 6 (by decide) (by decide)).trans ((hq_50.i 66 6 (by decide) (by decide)).trans ((hq_41.i 66 6 (by decide) (by decide)).trans ((hq_34.i 66 6 (by decide) (by decide)).trans ((hq_30.i 66 6 (by decide) (by decide)).trans (rfl))))))]
                refine S_callv (va_runV (As := []) (rest := []) ⟨hx, hb, hml, hown, hts⟩ (n_token l D k A a z G_59  ) (cwV 0 hts (gd_V hgd m1602 m1604 m50 m131 m1605) rfl rfl rfl (by decide +kernel) ⟨Nat.le_of_ble_eq_true rfl, Nat.le_of_ble_eq_true rfl⟩) (pre_V hW hB_G_59 hK hZ hS kd_66 rfl) rfl rfl hl.1 rfl (lv_room (Nat.le_of_ble_eq_true rfl)) dX12_unit_176 ⟨Nat.le_of_ble_eq_true rfl, Nat.le_of_ble_eq_true rfl⟩) hS (fun G_65 H locs hpo hW hS => ?_)
                obtain ⟨hB_G_65, hq_66, hp_67⟩ := hpo
                have hF := hF.call hq_66 (by decide) (by decide)
                have g_68 : gB G_65 = gB G_3 := gB_fr (rs := [69, 70, 71]) (fs := [(66, 4), (66, 6), (66, 7), (66, 8), (66, 9), (66, 21), (66, 23)]) ((((((Fr.rf.call hq_30 (by decide) (by decide)).call hq_34 (by decide) (by decide)).call hq_41 (by decide) (by decide)).call hq_50 (by decide) (by decide)).call hq_60 (by decide) (by decide)).call hq_66 (by decide) (by decide)) (by decide) (by decide)
                have g_69 : gC G_65 = gC G_59 := gC_fr (rs := []) (fs := [(66, 4), (66, 6), (66, 7), (66, 8), (66, 9)]) (Fr.rf.call hq_66 (by decide) (by decide)) (by decide) (by decide)
                have g_70 : gD G_65 = gD G_59 := gD_fr (rs := []) (fs := [(66, 4), (66, 6), (66, 7), (66, 8), (66, 9)]) (Fr.rf.call hq_66 (by decide) (by decide)) (by decide) (by decide)
                have g_71 : gM G_65 = gM G_59 := gM_fr (rs := []) (fs := [(66, 4), (66, 6), (66, 7), (66, 8), (66, 9)]) (Fr.rf.call hq_66 (by decide) (by decide)) (by decide) (by decide)
                have g_72 : (G_65.1 66 2).toInt = (G_3.1 66 2).toInt := by rw [show G_65.1 66 2 = (G_3.1 66 2) from ((hq_66.i 66 2 (by decide) (by decide)).trans ((hq_60.i 66 2 (by decide) (by decide)).trans ((hq_50.i 66 2 (by decide) (by decide)).trans ((hq_41.i 66 2 (by decide) (by decide)).trans ((hq_34.i 66 2 (by decide) (by decide)).trans ((hq_30.i 66 2 (by decide) (by decide)).trans (rfl)))))))]
                have g_73 : (G_65.1 66 20).toInt = (G_3.1 66 20).toInt := by rw [show G_65.1 66 20 = (G_3.1 66 20) from ((hq_66.i 66 20 (by decide) (by decide)).trans ((hq_60.i 66 20 (by decide) (by decide)).trans ((hq_50.i 66 20 (by decide) (by decide)).trans ((hq_41.i 66 20 (by decide) (by decide)).trans ((hq_34.i 66 20 (by decide) (by decide)).trans ((hq_30.i 66 20 (by decide) (by decide)).trans (rfl)))))))]
                have b_74 : 0 ≤ (G_49.1 66 23).toInt ∧ (G_49.1 66 23).toInt ≤ 40 := hB_G_49.i 66 23 rfl rfl
                have g_75 : (G_65.1 66 23).toInt = (G_49.1 66 23).toInt := by rw [show G_65.1 66 23 = (G_49.1 66 23) from ((hq_66.i 66 23 (by decide) (by decide)).trans (hq_60.i 66 23 (by decide) (by decide)))]
                have g_76 : (G_65.1 66 24).toInt = (G_3.1 66 24).toInt := by rw [show G_65.1 66 24 = (G_3.1 66 24) from ((hq_66.i 66 24 (by decide) (by decide)).trans ((hq_60.i 66 24 (by decide) (by decide)).trans ((hq_50.i 66 24 (by decide) (by decide)).trans ((hq_41.i 66 24 (by decide) (by decide)).trans ((hq_34.i 66 24 (by decide) (by decide)).trans ((hq_30.i 66 24 (by decide) (by decide)).trans (rfl)))))))]
                have b_77 : 0 ≤ (G_65.1 66 4).toInt ∧ (G_65.1 66 4).toInt ≤ 1600 := hB_G_65.i 66 4 rfl rfl
                exact W.vret hx hb hr (fun t ht _ => ⟨⟨G_65, rfl, ⟨hB_G_65, hF, (by omega)⟩, wd_t ht hW⟩, hS.F ht⟩) hS.2.2 dX12_unit_179
              · have c_53 : r_32.toInt < 0 := xI_nle rfl rfl c_53
                exfalso; omega
            · have c_52 : r_32.toInt < 0 := xI_nle rfl rfl c_52
              refine lv_iconst (v := 0) hx hb dX12_unit_155 (by decide) ?_
              refine lv_goto (tgt := 160) hx hb dX12_unit_156 (by decide) ?_
              refine lv_iload_n hx hb dX12_unit_160 rfl (lv_at hl 0 rfl) ?_
              refine lv_if_ge (tgt := 171) hx hb dX12_unit_161 (by decide) (fun c_78 => ?_) (fun c_78 => ?_)
              · have c_78 : 0 ≤ r_32.toInt := xI_le rfl rfl c_78
                exfalso; omega
              · have c_78 : r_32.toInt < 0 := xI_nle rfl rfl c_78
                refine lv_aload_n hx hb dX12_unit_164 rfl (lv_at hl 1 rfl) ?_
                refine S_getI (v := (G_3.1 66 8)) (C := RX12) (T := TX12) (N := 89) hx hb hg iX12 hown hK hW kd_66 rfl 8 (by decide) (hg (Cond.fieldLink RX12 202 "SlabWalkModel" "number" "I") m1322) (fun _ h9 => h9) rfl ((hq_50.i 66 8 (by decide) (by decide)).trans ((hq_41.i 66 8 (by decide) (by decide)).trans ((hq_34.i 66 8 (by decide) (by decide)).trans (hq_30.i 66 8 (by decide) (by decide))))) dX12_unit_165 ?_
                refine lv_goto (tgt := 172) hx hb dX12_unit_168 (by decide) ?_
                have g_79 : gM G_49 = gM G := gM_fr (rs := [75]) (fs := [(66, 2), (66, 3), (66, 4), (66, 6), (66, 7), (66, 8), (66, 9), (66, 20), (66, 21), (66, 23), (66, 24)]) (((((Fr.rf.call hq_4 (by decide) (by decide)).call hq_30 (by decide) (by decide)).call hq_34 (by decide) (by decide)).call hq_41 (by decide) (by decide)).call hq_50 (by decide) (by decide)) (by decide) (by decide)
                have qc_80 : (0 : Int32).toInt = 0 := rfl
                have g_81 : gC G_49 = gC G := gC_fr (rs := [75]) (fs := [(66, 2), (66, 3), (66, 4), (66, 6), (66, 7), (66, 8), (66, 9), (66, 20), (66, 21), (66, 23), (66, 24)]) (((((Fr.rf.call hq_4 (by decide) (by decide)).call hq_30 (by decide) (by decide)).call hq_34 (by decide) (by decide)).call hq_41 (by decide) (by decide)).call hq_50 (by decide) (by decide)) (by decide) (by decide)
                have g_82 : gD G_49 = gD G := gD_fr (rs := [75]) (fs := [(66, 2), (66, 3), (66, 4), (66, 6), (66, 7), (66, 8), (66, 9), (66, 20), (66, 21), (66, 23), (66, 24)]) (((((Fr.rf.call hq_4 (by decide) (by decide)).call hq_30 (by decide) (by decide)).call hq_34 (by decide) (by decide)).call hq_41 (by decide) (by decide)).call hq_50 (by decide) (by decide)) (by decide) (by decide)
                refine S_callv (va_runV (As := [.int 0, .int (G_3.1 66 8)]) (rest := []) ⟨hx, hb, hml, hown, hts⟩ (n_add l D k A a z G_49 0 (G_3.1 66 8) ⟨by decide, by decide⟩ (by omega)) (cwV 2 hts (gd_V hgd m1741 m1743 m76 m131 m1744) rfl rfl rfl (by decide +kernel) ⟨Nat.le_of_ble_eq_true rfl, Nat.le_of_ble_eq_true rfl⟩) (pre_V hW hB_G_49 hK hZ hS kd_66 rfl) rfl rfl hl.1 rfl (lv_room (Nat.le_of_ble_eq_true rfl)) dX12_unit_172 ⟨Nat.le_of_ble_eq_true rfl, Nat.le_of_ble_eq_true rfl⟩) hS (fun G_84 H locs hpo hW hS => ?_)
                obtain ⟨hB_G_84, hq_85, hp_86⟩ := hpo
                have hF := hF.call hq_85 (by decide) (by decide)
                refine lv_aload_n hx hb dX12_unit_175 rfl (lv_at hl 1 rfl) ?_
                have g_87 : (G_84.1 66 4).toInt = (G_3.1 66 4).toInt := by rw [show G_84.1 66 4 = (G_3.1 66 4) from ((hq_85.i 66 4 (by decide) (by decide)).trans ((hq_50.i 66 4 (by decide) (by decide)).trans ((hq_41.i 66 4 (by decide) (by decide)).trans ((hq_34.i 66 4 (by decide) (by decide)).trans ((hq_30.i 66 4 (by decide) (by decide)).trans (rfl))))))]
                have g_88 : (G_84.1 66 6).toInt = (G_3.1 66 6).toInt := by rw [show G_84.1 66 6 = (G_3.1 66 6) from ((hq_85.i 66 6 (by decide) (by decide)).trans ((hq_50.i 66 6 (by decide) (by decide)).trans ((hq_41.i 66 6 (by decide) (by decide)).trans ((hq_34.i 66 6 (by decide) (by decide)).trans ((hq_30.i 66 6 (by decide) (by decide)).trans (rfl))))))]
                refine S_callv (va_runV (As := []) (rest := []) ⟨hx, hb, hml, hown, hts⟩ (n_token l D k A a z G_84  ) (cwV 0 hts (gd_V hgd m1602 m1604 m50 m131 m1605) rfl rfl rfl (by decide +kernel) ⟨Nat.le_of_ble_eq_true rfl, Nat.le_of_ble_eq_true rfl⟩) (pre_V hW hB_G_84 hK hZ hS kd_66 rfl) rfl rfl hl.1 rfl (lv_room (Nat.le_of_ble_eq_true rfl)) dX12_unit_176 ⟨Nat.le_of_ble_eq_true rfl, Nat.le_of_ble_eq_true rfl⟩) hS (fun G_90 H locs hpo hW hS => ?_)
                obtain ⟨hB_G_90, hq_91, hp_92⟩ := hpo
                have hF := hF.call hq_91 (by decide) (by decide)
                have g_93 : gB G_90 = gB G_3 := gB_fr (rs := [69, 70, 71]) (fs := [(66, 4), (66, 6), (66, 7), (66, 8), (66, 9), (66, 21), (66, 23)]) ((((((Fr.rf.call hq_30 (by decide) (by decide)).call hq_34 (by decide) (by decide)).call hq_41 (by decide) (by decide)).call hq_50 (by decide) (by decide)).call hq_85 (by decide) (by decide)).call hq_91 (by decide) (by decide)) (by decide) (by decide)
                have g_94 : gC G_90 = gC G_84 := gC_fr (rs := []) (fs := [(66, 4), (66, 6), (66, 7), (66, 8), (66, 9)]) (Fr.rf.call hq_91 (by decide) (by decide)) (by decide) (by decide)
                have g_95 : gD G_90 = gD G_84 := gD_fr (rs := []) (fs := [(66, 4), (66, 6), (66, 7), (66, 8), (66, 9)]) (Fr.rf.call hq_91 (by decide) (by decide)) (by decide) (by decide)
                have g_96 : gM G_90 = gM G_84 := gM_fr (rs := []) (fs := [(66, 4), (66, 6), (66, 7), (66, 8), (66, 9)]) (Fr.rf.call hq_91 (by decide) (by decide)) (by decide) (by decide)
                have g_97 : (G_90.1 66 2).toInt = (G_3.1 66 2).toInt := by rw [show G_90.1 66 2 = (G_3.1 66 2) from ((hq_91.i 66 2 (by decide) (by decide)).trans ((hq_85.i 66 2 (by decide) (by decide)).trans ((hq_50.i 66 2 (by decide) (by decide)).trans ((hq_41.i 66 2 (by decide) (by decide)).trans ((hq_34.i 66 2 (by decide) (by decide)).trans ((hq_30.i 66 2 (by decide) (by decide)).trans (rfl)))))))]
                have g_98 : (G_90.1 66 20).toInt = (G_3.1 66 20).toInt := by rw [show G_90.1 66 20 = (G_3.1 66 20) from ((hq_91.i 66 20 (by decide) (by decide)).trans ((hq_85.i 66 20 (by decide) (by decide)).trans ((hq_50.i 66 20 (by decide) (by decide)).trans ((hq_41.i 66 20 (by decide) (by decide)).trans ((hq_34.i 66 20 (by decide) (by decide)).trans ((hq_30.i 66 20 (by decide) (by decide)).trans (rfl)))))))]
                have b_99 : 0 ≤ (G_49.1 66 23).toInt ∧ (G_49.1 66 23).toInt ≤ 40 := hB_G_49.i 66 23 rfl rfl
                have g_100 : (G_90.1 66 23).toInt = (G_49.1 66 23).toInt := by rw [show G_90.1 66 23 = (G_49.1 66 23) from ((hq_91.i 66 23 (by decide) (by decide)).trans (hq_85.i 66 23 (by decide) (by decide)))]
                have g_101 : (G_90.1 66 24).toInt = (G_3.1 66 24).toInt := by rw [show G_90.1 66 24 = (G_3.1 66 24) from ((hq_91.i 66 24 (by decide) (by decide)).trans ((hq_85.i 66 24 (by decide) (by decide)).trans ((hq_50.i 66 24 (by decide) (by decide)).trans ((hq_41.i 66 24 (by decide) (by decide)).trans ((hq_34.i 66 24 (by decide) (by decide)).trans ((hq_30.i 66 24 (by decide) (by decide)).trans (rfl)))))))]
                have b_102 : 0 ≤ (G_90.1 66 4).toInt ∧ (G_90.1 66 4).toInt ≤ 1600 := hB_G_90.i 66 4 rfl rfl
                exact W.vret hx hb hr (fun t ht _ => ⟨⟨G_90, rfl, ⟨hB_G_90, hF, (by omega)⟩, wd_t ht hW⟩, hS.F ht⟩) hS.2.2 dX12_unit_179
          · have c_45 : 0 < (G_3.1 66 2).toInt := xI_nle rfl rfl c_45
            exfalso; omega
        · have c_44 : r_39.toInt ≠ 0 := xI_ne rfl rfl c_44
          refine lv_aload_n hx hb dX12_unit_133 rfl (lv_at hl 1 rfl) ?_
          refine lv_iconst (v := 2) hx hb dX12_unit_134 (by decide) ?_
          have qc_103 : (2 : Int32).toInt = 2 := rfl
          refine S_callv (va_runV (As := [.int 2]) (rest := []) ⟨hx, hb, hml, hown, hts⟩ (n_wrong l D k A a z G_40 2 ⟨by decide, by decide⟩) (cwV 1 hts (gd_V hgd m1670 m1672 m59 m131 m1673) rfl rfl rfl (by decide +kernel) ⟨Nat.le_of_ble_eq_true rfl, Nat.le_of_ble_eq_true rfl⟩) (pre_V hW hB_G_40 hK hZ hS kd_66 rfl) rfl rfl hl.1 rfl (lv_room (Nat.le_of_ble_eq_true rfl)) dX12_unit_135 ⟨Nat.le_of_ble_eq_true rfl, Nat.le_of_ble_eq_true rfl⟩) hS (fun G_105 H locs hpo hW hS => ?_)
          obtain ⟨hB_G_105, hq_106, hp_107⟩ := hpo
          have hF := hF.call hq_106 (by decide) (by decide)
          refine lv_aload_n hx hb dX12_unit_138 rfl (lv_at hl 1 rfl) ?_
          have b_108 : 0 ≤ (G_105.1 66 2).toInt ∧ (G_105.1 66 2).toInt ≤ 4 := hB_G_105.i 66 2 rfl rfl
          refine S_getI (v := (G_105.1 66 2)) (C := RX12) (T := TX12) (N := 89) hx hb hg iX12 hown hK hW kd_66 rfl 2 (by decide) (hg (Cond.fieldLink RX12 218 "SlabWalkModel" "fault" "I") m1316) (fun _ h9 => h9) rfl rfl dX12_unit_139 ?_
          refine lv_if_le (tgt := 146) hx hb dX12_unit_142 (by decide) (fun c_109 => ?_) (fun c_109 => ?_)
          · have c_109 : (G_105.1 66 2).toInt ≤ 0 := xI_le rfl rfl c_109
            refine lv_aload_n hx hb dX12_unit_146 rfl (lv_at hl 1 rfl) ?_
            have g_110 : (G_105.1 66 23).toInt = (G_3.1 66 23).toInt := by rw [show G_105.1 66 23 = (G_3.1 66 23) from ((hq_106.i 66 23 (by decide) (by decide)).trans ((hq_41.i 66 23 (by decide) (by decide)).trans ((hq_34.i 66 23 (by decide) (by decide)).trans ((hq_30.i 66 23 (by decide) (by decide)).trans (rfl)))))]
            have g_111 : (G_105.1 66 23).toInt = (G_3.1 66 23).toInt := by rw [show G_105.1 66 23 = (G_3.1 66 23) from ((hq_106.i 66 23 (by decide) (by decide)).trans ((hq_41.i 66 23 (by decide) (by decide)).trans ((hq_34.i 66 23 (by decide) (by decide)).trans ((hq_30.i 66 23 (by decide) (by decide)).trans (rfl)))))]
            refine S_callv (va_runV (As := []) (rest := []) ⟨hx, hb, hml, hown, hts⟩ (n_countUnit l D k A a z G_105  (by omega)) (cwV 0 hts (gd_V hgd m1733 m1735 m74 m131 m1736) rfl rfl rfl (by decide +kernel) ⟨Nat.le_of_ble_eq_true rfl, Nat.le_of_ble_eq_true rfl⟩) (pre_V hW hB_G_105 hK hZ hS kd_66 rfl) rfl rfl hl.1 rfl (lv_room (Nat.le_of_ble_eq_true rfl)) dX12_unit_147 ⟨Nat.le_of_ble_eq_true rfl, Nat.le_of_ble_eq_true rfl⟩) hS (fun G_113 H locs hpo hW hS => ?_)
            obtain ⟨hB_G_113, hq_114, hp_115⟩ := hpo
            have hF := hF.call hq_114 (by decide) (by decide)
            refine lv_aload_n hx hb dX12_unit_150 rfl (lv_at hl 1 rfl) ?_
            refine lv_iload_n hx hb dX12_unit_151 rfl (lv_at hl 0 rfl) ?_
            refine lv_if_ge (tgt := 159) hx hb dX12_unit_152 (by decide) (fun c_116 => ?_) (fun c_116 => ?_)
            · have c_116 : 0 ≤ r_32.toInt := xI_le rfl rfl c_116
              refine lv_iconst (v := 1) hx hb dX12_unit_159 (by decide) ?_
              refine lv_iload_n hx hb dX12_unit_160 rfl (lv_at hl 0 rfl) ?_
              refine lv_if_ge (tgt := 171) hx hb dX12_unit_161 (by decide) (fun c_117 => ?_) (fun c_117 => ?_)
              · have c_117 : 0 ≤ r_32.toInt := xI_le rfl rfl c_117
                refine lv_iload_n hx hb dX12_unit_171 rfl (lv_at hl 0 rfl) ?_
                have g_118 : gM G_113 = gM G := gM_fr (rs := [75]) (fs := [(66, 2), (66, 3), (66, 4), (66, 6), (66, 7), (66, 8), (66, 9), (66, 20), (66, 21), (66, 23), (66, 24)]) ((((((Fr.rf.call hq_4 (by decide) (by decide)).call hq_30 (by decide) (by decide)).call hq_34 (by decide) (by decide)).call hq_41 (by decide) (by decide)).call hq_106 (by decide) (by decide)).call hq_114 (by decide) (by decide)) (by decide) (by decide)
                have qc_119 : (1 : Int32).toInt = 1 := rfl
                have g_120 : gC G_113 = gC G := gC_fr (rs := [75]) (fs := [(66, 2), (66, 3), (66, 4), (66, 6), (66, 7), (66, 8), (66, 9), (66, 20), (66, 21), (66, 23), (66, 24)]) ((((((Fr.rf.call hq_4 (by decide) (by decide)).call hq_30 (by decide) (by decide)).call hq_34 (by decide) (by decide)).call hq_41 (by decide) (by decide)).call hq_106 (by decide) (by decide)).call hq_114 (by decide) (by decide)) (by decide) (by decide)
                have g_121 : gD G_113 = gD G := gD_fr (rs := [75]) (fs := [(66, 2), (66, 3), (66, 4), (66, 6), (66, 7), (66, 8), (66, 9), (66, 20), (66, 21), (66, 23), (66, 24)]) ((((((Fr.rf.call hq_4 (by decide) (by decide)).call hq_30 (by decide) (by decide)).call hq_34 (by decide) (by decide)).call hq_41 (by decide) (by decide)).call hq_106 (by decide) (by decide)).call hq_114 (by decide) (by decide)) (by decide) (by decide)
                refine S_callv (va_runV (As := [.int 1, .int r_32]) (rest := []) ⟨hx, hb, hml, hown, hts⟩ (n_add l D k A a z G_113 1 r_32 ⟨by decide, by decide⟩ (by omega)) (cwV 2 hts (gd_V hgd m1741 m1743 m76 m131 m1744) rfl rfl rfl (by decide +kernel) ⟨Nat.le_of_ble_eq_true rfl, Nat.le_of_ble_eq_true rfl⟩) (pre_V hW hB_G_113 hK hZ hS kd_66 rfl) rfl rfl hl.1 rfl (lv_room (Nat.le_of_ble_eq_true rfl)) dX12_unit_172 ⟨Nat.le_of_ble_eq_true rfl, Nat.le_of_ble_eq_true rfl⟩) hS (fun G_123 H locs hpo hW hS => ?_)
                obtain ⟨hB_G_123, hq_124, hp_125⟩ := hpo
                have hF := hF.call hq_124 (by decide) (by decide)
                refine lv_aload_n hx hb dX12_unit_175 rfl (lv_at hl 1 rfl) ?_
                have g_126 : (G_123.1 66 4).toInt = (G_3.1 66 4).toInt := by rw [show G_123.1 66 4 = (G_3.1 66 4) from ((hq_124.i 66 4 (by decide) (by decide)).trans ((hq_114.i 66 4 (by decide) (by decide)).trans ((hq_106.i 66 4 (by decide) (by decide)).trans ((hq_41.i 66 4 (by decide) (by decide)).trans ((hq_34.i 66 4 (by decide) (by decide)).trans ((hq_30.i 66 4 (by decide) (by decide)).trans (rfl)))))))]
                have g_127 : (G_123.1 66 6).toInt = (G_3.1 66 6).toInt := by rw [show G_123.1 66 6 = (G_3.1 66 6) from ((hq_124.i 66 6 (by decide) (by decide)).trans ((hq_114.i 66 6 (by decide) (by decide)).trans ((hq_106.i 66 6 (by decide) (by decide)).trans ((hq_41.i 66 6 (by decide) (by decide)).trans ((hq_34.i 66 6 (by decide) (by decide)).trans ((hq_30.i 66 6 (by decide) (by decide)).trans (rfl)))))))]
                refine S_callv (va_runV (As := []) (rest := []) ⟨hx, hb, hml, hown, hts⟩ (n_token l D k A a z G_123  ) (cwV 0 hts (gd_V hgd m1602 m1604 m50 m131 m1605) rfl rfl rfl (by decide +kernel) ⟨Nat.le_of_ble_eq_true rfl, Nat.le_of_ble_eq_true rfl⟩) (pre_V hW hB_G_123 hK hZ hS kd_66 rfl) rfl rfl hl.1 rfl (lv_room (Nat.le_of_ble_eq_true rfl)) dX12_unit_176 ⟨Nat.le_of_ble_eq_true rfl, Nat.le_of_ble_eq_true rfl⟩) hS (fun G_129 H locs hpo hW hS => ?_)
                obtain ⟨hB_G_129, hq_130, hp_131⟩ := hpo
                have hF := hF.call hq_130 (by decide) (by decide)
                have g_132 : gB G_129 = gB G_3 := gB_fr (rs := [69, 70, 71]) (fs := [(66, 2), (66, 3), (66, 4), (66, 6), (66, 7), (66, 8), (66, 9), (66, 21), (66, 23)]) (((((((Fr.rf.call hq_30 (by decide) (by decide)).call hq_34 (by decide) (by decide)).call hq_41 (by decide) (by decide)).call hq_106 (by decide) (by decide)).call hq_114 (by decide) (by decide)).call hq_124 (by decide) (by decide)).call hq_130 (by decide) (by decide)) (by decide) (by decide)
                have g_133 : gC G_129 = gC G_123 := gC_fr (rs := []) (fs := [(66, 4), (66, 6), (66, 7), (66, 8), (66, 9)]) (Fr.rf.call hq_130 (by decide) (by decide)) (by decide) (by decide)
                have g_134 : gD G_129 = gD G_123 := gD_fr (rs := []) (fs := [(66, 4), (66, 6), (66, 7), (66, 8), (66, 9)]) (Fr.rf.call hq_130 (by decide) (by decide)) (by decide) (by decide)
                have g_135 : gM G_129 = gM G_123 := gM_fr (rs := []) (fs := [(66, 4), (66, 6), (66, 7), (66, 8), (66, 9)]) (Fr.rf.call hq_130 (by decide) (by decide)) (by decide) (by decide)
                have g_136 : (G_129.1 66 2).toInt = (G_105.1 66 2).toInt := by rw [show G_129.1 66 2 = (G_105.1 66 2) from ((hq_130.i 66 2 (by decide) (by decide)).trans ((hq_124.i 66 2 (by decide) (by decide)).trans ((hq_114.i 66 2 (by decide) (by decide)).trans (rfl))))]
                have g_137 : (G_129.1 66 20).toInt = (G_3.1 66 20).toInt := by rw [show G_129.1 66 20 = (G_3.1 66 20) from ((hq_130.i 66 20 (by decide) (by decide)).trans ((hq_124.i 66 20 (by decide) (by decide)).trans ((hq_114.i 66 20 (by decide) (by decide)).trans ((hq_106.i 66 20 (by decide) (by decide)).trans ((hq_41.i 66 20 (by decide) (by decide)).trans ((hq_34.i 66 20 (by decide) (by decide)).trans ((hq_30.i 66 20 (by decide) (by decide)).trans (rfl))))))))]
                have b_138 : 0 ≤ (G_113.1 66 23).toInt ∧ (G_113.1 66 23).toInt ≤ 40 := hB_G_113.i 66 23 rfl rfl
                have g_139 : (G_129.1 66 23).toInt = (G_113.1 66 23).toInt := by rw [show G_129.1 66 23 = (G_113.1 66 23) from ((hq_130.i 66 23 (by decide) (by decide)).trans (hq_124.i 66 23 (by decide) (by decide)))]
                have g_140 : (G_129.1 66 24).toInt = (G_3.1 66 24).toInt := by rw [show G_129.1 66 24 = (G_3.1 66 24) from ((hq_130.i 66 24 (by decide) (by decide)).trans ((hq_124.i 66 24 (by decide) (by decide)).trans ((hq_114.i 66 24 (by decide) (by decide)).trans ((hq_106.i 66 24 (by decide) (by decide)).trans ((hq_41.i 66 24 (by decide) (by decide)).trans ((hq_34.i 66 24 (by decide) (by decide)).trans ((hq_30.i 66 24 (by decide) (by decide)).trans (rfl))))))))]
                have b_141 : 0 ≤ (G_129.1 66 4).toInt ∧ (G_129.1 66 4).toInt ≤ 1600 := hB_G_129.i 66 4 rfl rfl
                exact W.vret hx hb hr (fun t ht _ => ⟨⟨G_129, rfl, ⟨hB_G_129, hF, (by omega)⟩, wd_t ht hW⟩, hS.F ht⟩) hS.2.2 dX12_unit_179
              · have c_117 : r_32.toInt < 0 := xI_nle rfl rfl c_117
                exfalso; omega
            · have c_116 : r_32.toInt < 0 := xI_nle rfl rfl c_116
              refine lv_iconst (v := 0) hx hb dX12_unit_155 (by decide) ?_
              refine lv_goto (tgt := 160) hx hb dX12_unit_156 (by decide) ?_
              refine lv_iload_n hx hb dX12_unit_160 rfl (lv_at hl 0 rfl) ?_
              refine lv_if_ge (tgt := 171) hx hb dX12_unit_161 (by decide) (fun c_142 => ?_) (fun c_142 => ?_)
              · have c_142 : 0 ≤ r_32.toInt := xI_le rfl rfl c_142
                exfalso; omega
              · have c_142 : r_32.toInt < 0 := xI_nle rfl rfl c_142
                refine lv_aload_n hx hb dX12_unit_164 rfl (lv_at hl 1 rfl) ?_
                refine S_getI (v := (G_3.1 66 8)) (C := RX12) (T := TX12) (N := 89) hx hb hg iX12 hown hK hW kd_66 rfl 8 (by decide) (hg (Cond.fieldLink RX12 202 "SlabWalkModel" "number" "I") m1322) (fun _ h9 => h9) rfl ((hq_114.i 66 8 (by decide) (by decide)).trans ((hq_106.i 66 8 (by decide) (by decide)).trans ((hq_41.i 66 8 (by decide) (by decide)).trans ((hq_34.i 66 8 (by decide) (by decide)).trans (hq_30.i 66 8 (by decide) (by decide)))))) dX12_unit_165 ?_
                refine lv_goto (tgt := 172) hx hb dX12_unit_168 (by decide) ?_
                have g_143 : gM G_113 = gM G := gM_fr (rs := [75]) (fs := [(66, 2), (66, 3), (66, 4), (66, 6), (66, 7), (66, 8), (66, 9), (66, 20), (66, 21), (66, 23), (66, 24)]) ((((((Fr.rf.call hq_4 (by decide) (by decide)).call hq_30 (by decide) (by decide)).call hq_34 (by decide) (by decide)).call hq_41 (by decide) (by decide)).call hq_106 (by decide) (by decide)).call hq_114 (by decide) (by decide)) (by decide) (by decide)
                have qc_144 : (0 : Int32).toInt = 0 := rfl
                have g_145 : gC G_113 = gC G := gC_fr (rs := [75]) (fs := [(66, 2), (66, 3), (66, 4), (66, 6), (66, 7), (66, 8), (66, 9), (66, 20), (66, 21), (66, 23), (66, 24)]) ((((((Fr.rf.call hq_4 (by decide) (by decide)).call hq_30 (by decide) (by decide)).call hq_34 (by decide) (by decide)).call hq_41 (by decide) (by decide)).call hq_106 (by decide) (by decide)).call hq_114 (by decide) (by decide)) (by decide) (by decide)
                have g_146 : gD G_113 = gD G := gD_fr (rs := [75]) (fs := [(66, 2), (66, 3), (66, 4), (66, 6), (66, 7), (66, 8), (66, 9), (66, 20), (66, 21), (66, 23), (66, 24)]) ((((((Fr.rf.call hq_4 (by decide) (by decide)).call hq_30 (by decide) (by decide)).call hq_34 (by decide) (by decide)).call hq_41 (by decide) (by decide)).call hq_106 (by decide) (by decide)).call hq_114 (by decide) (by decide)) (by decide) (by decide)
                refine S_callv (va_runV (As := [.int 0, .int (G_3.1 66 8)]) (rest := []) ⟨hx, hb, hml, hown, hts⟩ (n_add l D k A a z G_113 0 (G_3.1 66 8) ⟨by decide, by decide⟩ (by omega)) (cwV 2 hts (gd_V hgd m1741 m1743 m76 m131 m1744) rfl rfl rfl (by decide +kernel) ⟨Nat.le_of_ble_eq_true rfl, Nat.le_of_ble_eq_true rfl⟩) (pre_V hW hB_G_113 hK hZ hS kd_66 rfl) rfl rfl hl.1 rfl (lv_room (Nat.le_of_ble_eq_true rfl)) dX12_unit_172 ⟨Nat.le_of_ble_eq_true rfl, Nat.le_of_ble_eq_true rfl⟩) hS (fun G_148 H locs hpo hW hS => ?_)
                obtain ⟨hB_G_148, hq_149, hp_150⟩ := hpo
                have hF := hF.call hq_149 (by decide) (by decide)
                refine lv_aload_n hx hb dX12_unit_175 rfl (lv_at hl 1 rfl) ?_
                have g_151 : (G_148.1 66 4).toInt = (G_3.1 66 4).toInt := by rw [show G_148.1 66 4 = (G_3.1 66 4) from ((hq_149.i 66 4 (by decide) (by decide)).trans ((hq_114.i 66 4 (by decide) (by decide)).trans ((hq_106.i 66 4 (by decide) (by decide)).trans ((hq_41.i 66 4 (by decide) (by decide)).trans ((hq_34.i 66 4 (by decide) (by decide)).trans ((hq_30.i 66 4 (by decide) (by decide)).trans (rfl)))))))]
                have g_152 : (G_148.1 66 6).toInt = (G_3.1 66 6).toInt := by rw [show G_148.1 66 6 = (G_3.1 66 6) from ((hq_149.i 66 6 (by decide) (by decide)).trans ((hq_114.i 66 6 (by decide) (by decide)).trans ((hq_106.i 66 6 (by decide) (by decide)).trans ((hq_41.i 66 6 (by decide) (by decide)).trans ((hq_34.i 66 6 (by decide) (by decide)).trans ((hq_30.i 66 6 (by decide) (by decide)).trans (rfl)))))))]
                refine S_callv (va_runV (As := []) (rest := []) ⟨hx, hb, hml, hown, hts⟩ (n_token l D k A a z G_148  ) (cwV 0 hts (gd_V hgd m1602 m1604 m50 m131 m1605) rfl rfl rfl (by decide +kernel) ⟨Nat.le_of_ble_eq_true rfl, Nat.le_of_ble_eq_true rfl⟩) (pre_V hW hB_G_148 hK hZ hS kd_66 rfl) rfl rfl hl.1 rfl (lv_room (Nat.le_of_ble_eq_true rfl)) dX12_unit_176 ⟨Nat.le_of_ble_eq_true rfl, Nat.le_of_ble_eq_true rfl⟩) hS (fun G_154 H locs hpo hW hS => ?_)
                obtain ⟨hB_G_154, hq_155, hp_156⟩ := hpo
                have hF := hF.call hq_155 (by decide) (by decide)
                have g_157 : gB G_154 = gB G_3 := gB_fr (rs := [69, 70, 71]) (fs := [(66, 2), (66, 3), (66, 4), (66, 6), (66, 7), (66, 8), (66, 9), (66, 21), (66, 23)]) (((((((Fr.rf.call hq_30 (by decide) (by decide)).call hq_34 (by decide) (by decide)).call hq_41 (by decide) (by decide)).call hq_106 (by decide) (by decide)).call hq_114 (by decide) (by decide)).call hq_149 (by decide) (by decide)).call hq_155 (by decide) (by decide)) (by decide) (by decide)
                have g_158 : gC G_154 = gC G_148 := gC_fr (rs := []) (fs := [(66, 4), (66, 6), (66, 7), (66, 8), (66, 9)]) (Fr.rf.call hq_155 (by decide) (by decide)) (by decide) (by decide)
                have g_159 : gD G_154 = gD G_148 := gD_fr (rs := []) (fs := [(66, 4), (66, 6), (66, 7), (66, 8), (66, 9)]) (Fr.rf.call hq_155 (by decide) (by decide)) (by decide) (by decide)
                have g_160 : gM G_154 = gM G_148 := gM_fr (rs := []) (fs := [(66, 4), (66, 6), (66, 7), (66, 8), (66, 9)]) (Fr.rf.call hq_155 (by decide) (by decide)) (by decide) (by decide)
                have g_161 : (G_154.1 66 2).toInt = (G_105.1 66 2).toInt := by rw [show G_154.1 66 2 = (G_105.1 66 2) from ((hq_155.i 66 2 (by decide) (by decide)).trans ((hq_149.i 66 2 (by decide) (by decide)).trans ((hq_114.i 66 2 (by decide) (by decide)).trans (rfl))))]
                have g_162 : (G_154.1 66 20).toInt = (G_3.1 66 20).toInt := by rw [show G_154.1 66 20 = (G_3.1 66 20) from ((hq_155.i 66 20 (by decide) (by decide)).trans ((hq_149.i 66 20 (by decide) (by decide)).trans ((hq_114.i 66 20 (by decide) (by decide)).trans ((hq_106.i 66 20 (by decide) (by decide)).trans ((hq_41.i 66 20 (by decide) (by decide)).trans ((hq_34.i 66 20 (by decide) (by decide)).trans ((hq_30.i 66 20 (by decide) (by decide)).trans (rfl))))))))]
                have b_163 : 0 ≤ (G_113.1 66 23).toInt ∧ (G_113.1 66 23).toInt ≤ 40 := hB_G_113.i 66 23 rfl rfl
                have g_164 : (G_154.1 66 23).toInt = (G_113.1 66 23).toInt := by rw [show G_154.1 66 23 = (G_113.1 66 23) from ((hq_155.i 66 23 (by decide) (by decide)).trans (hq_149.i 66 23 (by decide) (by decide)))]
                have g_165 : (G_154.1 66 24).toInt = (G_3.1 66 24).toInt := by rw [show G_154.1 66 24 = (G_3.1 66 24) from ((hq_155.i 66 24 (by decide) (by decide)).trans ((hq_149.i 66 24 (by decide) (by decide)).trans ((hq_114.i 66 24 (by decide) (by decide)).trans ((hq_106.i 66 24 (by decide) (by decide)).trans ((hq_41.i 66 24 (by decide) (by decide)).trans ((hq_34.i 66 24 (by decide) (by decide)).trans ((hq_30.i 66 24 (by decide) (by decide)).trans (rfl))))))))]
                have b_166 : 0 ≤ (G_154.1 66 4).toInt ∧ (G_154.1 66 4).toInt ≤ 1600 := hB_G_154.i 66 4 rfl rfl
                exact W.vret hx hb hr (fun t ht _ => ⟨⟨G_154, rfl, ⟨hB_G_154, hF, (by omega)⟩, wd_t ht hW⟩, hS.F ht⟩) hS.2.2 dX12_unit_179
          · have c_109 : 0 < (G_105.1 66 2).toInt := xI_nle rfl rfl c_109
            have g_167 : gB G_105 = gB G_3 := gB_fr (rs := []) (fs := [(66, 2), (66, 3)]) ((((Fr.rf.call hq_30 (by decide) (by decide)).call hq_34 (by decide) (by decide)).call hq_41 (by decide) (by decide)).call hq_106 (by decide) (by decide)) (by decide) (by decide)
            have g_168 : gC G_105 = gC G := gC_fr (rs := [75]) (fs := [(66, 2), (66, 3), (66, 4), (66, 6), (66, 7), (66, 8), (66, 9), (66, 20), (66, 21), (66, 23), (66, 24)]) (((((Fr.rf.call hq_4 (by decide) (by decide)).call hq_30 (by decide) (by decide)).call hq_34 (by decide) (by decide)).call hq_41 (by decide) (by decide)).call hq_106 (by decide) (by decide)) (by decide) (by decide)
            have g_169 : gD G_105 = gD G := gD_fr (rs := [75]) (fs := [(66, 2), (66, 3), (66, 4), (66, 6), (66, 7), (66, 8), (66, 9), (66, 20), (66, 21), (66, 23), (66, 24)]) (((((Fr.rf.call hq_4 (by decide) (by decide)).call hq_30 (by decide) (by decide)).call hq_34 (by decide) (by decide)).call hq_41 (by decide) (by decide)).call hq_106 (by decide) (by decide)) (by decide) (by decide)
            have g_170 : gM G_105 = gM G := gM_fr (rs := [75]) (fs := [(66, 2), (66, 3), (66, 4), (66, 6), (66, 7), (66, 8), (66, 9), (66, 20), (66, 21), (66, 23), (66, 24)]) (((((Fr.rf.call hq_4 (by decide) (by decide)).call hq_30 (by decide) (by decide)).call hq_34 (by decide) (by decide)).call hq_41 (by decide) (by decide)).call hq_106 (by decide) (by decide)) (by decide) (by decide)
            have g_171 : (G_105.1 66 20).toInt = (G_3.1 66 20).toInt := by rw [show G_105.1 66 20 = (G_3.1 66 20) from ((hq_106.i 66 20 (by decide) (by decide)).trans ((hq_41.i 66 20 (by decide) (by decide)).trans ((hq_34.i 66 20 (by decide) (by decide)).trans ((hq_30.i 66 20 (by decide) (by decide)).trans (rfl)))))]
            have g_172 : (G_105.1 66 23).toInt = (G_3.1 66 23).toInt := by rw [show G_105.1 66 23 = (G_3.1 66 23) from ((hq_106.i 66 23 (by decide) (by decide)).trans ((hq_41.i 66 23 (by decide) (by decide)).trans ((hq_34.i 66 23 (by decide) (by decide)).trans ((hq_30.i 66 23 (by decide) (by decide)).trans (rfl)))))]
            have g_173 : (G_105.1 66 24).toInt = (G_3.1 66 24).toInt := by rw [show G_105.1 66 24 = (G_3.1 66 24) from ((hq_106.i 66 24 (by decide) (by decide)).trans ((hq_41.i 66 24 (by decide) (by decide)).trans ((hq_34.i 66 24 (by decide) (by decide)).trans ((hq_30.i 66 24 (by decide) (by decide)).trans (rfl)))))]
            have g_174 : (G_105.1 66 4).toInt = (G_3.1 66 4).toInt := by rw [show G_105.1 66 4 = (G_3.1 66 4) from ((hq_106.i 66 4 (by decide) (by decide)).trans ((hq_41.i 66 4 (by decide) (by decide)).trans ((hq_34.i 66 4 (by decide) (by decide)).trans ((hq_30.i 66 4 (by decide) (by decide)).trans (rfl)))))]
            have g_175 : (G_105.1 66 6).toInt = (G_3.1 66 6).toInt := by rw [show G_105.1 66 6 = (G_3.1 66 6) from ((hq_106.i 66 6 (by decide) (by decide)).trans ((hq_41.i 66 6 (by decide) (by decide)).trans ((hq_34.i 66 6 (by decide) (by decide)).trans ((hq_30.i 66 6 (by decide) (by decide)).trans (rfl)))))]
            exact W.vret hx hb hr (fun t ht _ => ⟨⟨G_105, rfl, ⟨hB_G_105, hF, (by omega)⟩, wd_t ht hW⟩, hS.F ht⟩) hS.2.2 dX12_unit_145
      · have c_37 : (G_3.1 66 6).toInt ≠ 2 := xI_ne rfl rfl c_37
        refine lv_iload_n hx hb dX12_unit_122 rfl (lv_at hl 0 rfl) ?_
        refine lv_if_lt (tgt := 133) hx hb dX12_unit_123 (by decide) (fun c_176 => ?_) (fun c_176 => ?_)
        · have c_176 : r_32.toInt < 0 := xI_lt rfl rfl c_176
          refine lv_aload_n hx hb dX12_unit_133 rfl (lv_at hl 1 rfl) ?_
          refine lv_iconst (v := 2) hx hb dX12_unit_134 (by decide) ?_
          have qc_177 : (2 : Int32).toInt = 2 := rfl
          refine S_callv (va_runV (As := [.int 2]) (rest := []) ⟨hx, hb, hml, hown, hts⟩ (n_wrong l D k A a z G_33 2 ⟨by decide, by decide⟩) (cwV 1 hts (gd_V hgd m1670 m1672 m59 m131 m1673) rfl rfl rfl (by decide +kernel) ⟨Nat.le_of_ble_eq_true rfl, Nat.le_of_ble_eq_true rfl⟩) (pre_V hW hB_G_33 hK hZ hS kd_66 rfl) rfl rfl hl.1 rfl (lv_room (Nat.le_of_ble_eq_true rfl)) dX12_unit_135 ⟨Nat.le_of_ble_eq_true rfl, Nat.le_of_ble_eq_true rfl⟩) hS (fun G_179 H locs hpo hW hS => ?_)
          obtain ⟨hB_G_179, hq_180, hp_181⟩ := hpo
          have hF := hF.call hq_180 (by decide) (by decide)
          refine lv_aload_n hx hb dX12_unit_138 rfl (lv_at hl 1 rfl) ?_
          have b_182 : 0 ≤ (G_179.1 66 2).toInt ∧ (G_179.1 66 2).toInt ≤ 4 := hB_G_179.i 66 2 rfl rfl
          refine S_getI (v := (G_179.1 66 2)) (C := RX12) (T := TX12) (N := 89) hx hb hg iX12 hown hK hW kd_66 rfl 2 (by decide) (hg (Cond.fieldLink RX12 218 "SlabWalkModel" "fault" "I") m1316) (fun _ h9 => h9) rfl rfl dX12_unit_139 ?_
          refine lv_if_le (tgt := 146) hx hb dX12_unit_142 (by decide) (fun c_183 => ?_) (fun c_183 => ?_)
          · have c_183 : (G_179.1 66 2).toInt ≤ 0 := xI_le rfl rfl c_183
            refine lv_aload_n hx hb dX12_unit_146 rfl (lv_at hl 1 rfl) ?_
            have g_184 : (G_179.1 66 23).toInt = (G_3.1 66 23).toInt := by rw [show G_179.1 66 23 = (G_3.1 66 23) from ((hq_180.i 66 23 (by decide) (by decide)).trans ((hq_34.i 66 23 (by decide) (by decide)).trans ((hq_30.i 66 23 (by decide) (by decide)).trans (rfl))))]
            have g_185 : (G_179.1 66 23).toInt = (G_3.1 66 23).toInt := by rw [show G_179.1 66 23 = (G_3.1 66 23) from ((hq_180.i 66 23 (by decide) (by decide)).trans ((hq_34.i 66 23 (by decide) (by decide)).trans ((hq_30.i 66 23 (by decide) (by decide)).trans (rfl))))]
            refine S_callv (va_runV (As := []) (rest := []) ⟨hx, hb, hml, hown, hts⟩ (n_countUnit l D k A a z G_179  (by omega)) (cwV 0 hts (gd_V hgd m1733 m1735 m74 m131 m1736) rfl rfl rfl (by decide +kernel) ⟨Nat.le_of_ble_eq_true rfl, Nat.le_of_ble_eq_true rfl⟩) (pre_V hW hB_G_179 hK hZ hS kd_66 rfl) rfl rfl hl.1 rfl (lv_room (Nat.le_of_ble_eq_true rfl)) dX12_unit_147 ⟨Nat.le_of_ble_eq_true rfl, Nat.le_of_ble_eq_true rfl⟩) hS (fun G_187 H locs hpo hW hS => ?_)
            obtain ⟨hB_G_187, hq_188, hp_189⟩ := hpo
            have hF := hF.call hq_188 (by decide) (by decide)
            refine lv_aload_n hx hb dX12_unit_150 rfl (lv_at hl 1 rfl) ?_
            refine lv_iload_n hx hb dX12_unit_151 rfl (lv_at hl 0 rfl) ?_
            refine lv_if_ge (tgt := 159) hx hb dX12_unit_152 (by decide) (fun c_190 => ?_) (fun c_190 => ?_)
            · have c_190 : 0 ≤ r_32.toInt := xI_le rfl rfl c_190
              exfalso; omega
            · have c_190 : r_32.toInt < 0 := xI_nle rfl rfl c_190
              refine lv_iconst (v := 0) hx hb dX12_unit_155 (by decide) ?_
              refine lv_goto (tgt := 160) hx hb dX12_unit_156 (by decide) ?_
              refine lv_iload_n hx hb dX12_unit_160 rfl (lv_at hl 0 rfl) ?_
              refine lv_if_ge (tgt := 171) hx hb dX12_unit_161 (by decide) (fun c_191 => ?_) (fun c_191 => ?_)
              · have c_191 : 0 ≤ r_32.toInt := xI_le rfl rfl c_191
                exfalso; omega
              · have c_191 : r_32.toInt < 0 := xI_nle rfl rfl c_191
                refine lv_aload_n hx hb dX12_unit_164 rfl (lv_at hl 1 rfl) ?_
                refine S_getI (v := (G_3.1 66 8)) (C := RX12) (T := TX12) (N := 89) hx hb hg iX12 hown hK hW kd_66 rfl 8 (by decide) (hg (Cond.fieldLink RX12 202 "SlabWalkModel" "number" "I") m1322) (fun _ h9 => h9) rfl ((hq_188.i 66 8 (by decide) (by decide)).trans ((hq_180.i 66 8 (by decide) (by decide)).trans ((hq_34.i 66 8 (by decide) (by decide)).trans (hq_30.i 66 8 (by decide) (by decide))))) dX12_unit_165 ?_
                refine lv_goto (tgt := 172) hx hb dX12_unit_168 (by decide) ?_
                have g_192 : gM G_187 = gM G := gM_fr (rs := [75]) (fs := [(66, 2), (66, 3), (66, 4), (66, 6), (66, 7), (66, 8), (66, 9), (66, 20), (66, 21), (66, 23), (66, 24)]) (((((Fr.rf.call hq_4 (by decide) (by decide)).call hq_30 (by decide) (by decide)).call hq_34 (by decide) (by decide)).call hq_180 (by decide) (by decide)).call hq_188 (by decide) (by decide)) (by decide) (by decide)
                have qc_193 : (0 : Int32).toInt = 0 := rfl
                have g_194 : gC G_187 = gC G := gC_fr (rs := [75]) (fs := [(66, 2), (66, 3), (66, 4), (66, 6), (66, 7), (66, 8), (66, 9), (66, 20), (66, 21), (66, 23), (66, 24)]) (((((Fr.rf.call hq_4 (by decide) (by decide)).call hq_30 (by decide) (by decide)).call hq_34 (by decide) (by decide)).call hq_180 (by decide) (by decide)).call hq_188 (by decide) (by decide)) (by decide) (by decide)
                have g_195 : gD G_187 = gD G := gD_fr (rs := [75]) (fs := [(66, 2), (66, 3), (66, 4), (66, 6), (66, 7), (66, 8), (66, 9), (66, 20), (66, 21), (66, 23), (66, 24)]) (((((Fr.rf.call hq_4 (by decide) (by decide)).call hq_30 (by decide) (by decide)).call hq_34 (by decide) (by decide)).call hq_180 (by decide) (by decide)).call hq_188 (by decide) (by decide)) (by decide) (by decide)
                refine S_callv (va_runV (As := [.int 0, .int (G_3.1 66 8)]) (rest := []) ⟨hx, hb, hml, hown, hts⟩ (n_add l D k A a z G_187 0 (G_3.1 66 8) ⟨by decide, by decide⟩ (by omega)) (cwV 2 hts (gd_V hgd m1741 m1743 m76 m131 m1744) rfl rfl rfl (by decide +kernel) ⟨Nat.le_of_ble_eq_true rfl, Nat.le_of_ble_eq_true rfl⟩) (pre_V hW hB_G_187 hK hZ hS kd_66 rfl) rfl rfl hl.1 rfl (lv_room (Nat.le_of_ble_eq_true rfl)) dX12_unit_172 ⟨Nat.le_of_ble_eq_true rfl, Nat.le_of_ble_eq_true rfl⟩) hS (fun G_197 H locs hpo hW hS => ?_)
                obtain ⟨hB_G_197, hq_198, hp_199⟩ := hpo
                have hF := hF.call hq_198 (by decide) (by decide)
                refine lv_aload_n hx hb dX12_unit_175 rfl (lv_at hl 1 rfl) ?_
                have g_200 : (G_197.1 66 4).toInt = (G_3.1 66 4).toInt := by rw [show G_197.1 66 4 = (G_3.1 66 4) from ((hq_198.i 66 4 (by decide) (by decide)).trans ((hq_188.i 66 4 (by decide) (by decide)).trans ((hq_180.i 66 4 (by decide) (by decide)).trans ((hq_34.i 66 4 (by decide) (by decide)).trans ((hq_30.i 66 4 (by decide) (by decide)).trans (rfl))))))]
                have g_201 : (G_197.1 66 6).toInt = (G_3.1 66 6).toInt := by rw [show G_197.1 66 6 = (G_3.1 66 6) from ((hq_198.i 66 6 (by decide) (by decide)).trans ((hq_188.i 66 6 (by decide) (by decide)).trans ((hq_180.i 66 6 (by decide) (by decide)).trans ((hq_34.i 66 6 (by decide) (by decide)).trans ((hq_30.i 66 6 (by decide) (by decide)).trans (rfl))))))]
                refine S_callv (va_runV (As := []) (rest := []) ⟨hx, hb, hml, hown, hts⟩ (n_token l D k A a z G_197  ) (cwV 0 hts (gd_V hgd m1602 m1604 m50 m131 m1605) rfl rfl rfl (by decide +kernel) ⟨Nat.le_of_ble_eq_true rfl, Nat.le_of_ble_eq_true rfl⟩) (pre_V hW hB_G_197 hK hZ hS kd_66 rfl) rfl rfl hl.1 rfl (lv_room (Nat.le_of_ble_eq_true rfl)) dX12_unit_176 ⟨Nat.le_of_ble_eq_true rfl, Nat.le_of_ble_eq_true rfl⟩) hS (fun G_203 H locs hpo hW hS => ?_)
                obtain ⟨hB_G_203, hq_204, hp_205⟩ := hpo
                have hF := hF.call hq_204 (by decide) (by decide)
                have g_206 : gB G_203 = gB G_3 := gB_fr (rs := [69, 70, 71]) (fs := [(66, 2), (66, 3), (66, 4), (66, 6), (66, 7), (66, 8), (66, 9), (66, 21), (66, 23)]) ((((((Fr.rf.call hq_30 (by decide) (by decide)).call hq_34 (by decide) (by decide)).call hq_180 (by decide) (by decide)).call hq_188 (by decide) (by decide)).call hq_198 (by decide) (by decide)).call hq_204 (by decide) (by decide)) (by decide) (by decide)
                have g_207 : gC G_203 = gC G_197 := gC_fr (rs := []) (fs := [(66, 4), (66, 6), (66, 7), (66, 8), (66, 9)]) (Fr.rf.call hq_204 (by decide) (by decide)) (by decide) (by decide)
                have g_208 : gD G_203 = gD G_197 := gD_fr (rs := []) (fs := [(66, 4), (66, 6), (66, 7), (66, 8), (66, 9)]) (Fr.rf.call hq_204 (by decide) (by decide)) (by decide) (by decide)
                have g_209 : gM G_203 = gM G_197 := gM_fr (rs := []) (fs := [(66, 4), (66, 6), (66, 7), (66, 8), (66, 9)]) (Fr.rf.call hq_204 (by decide) (by decide)) (by decide) (by decide)
                have g_210 : (G_203.1 66 2).toInt = (G_179.1 66 2).toInt := by rw [show G_203.1 66 2 = (G_179.1 66 2) from ((hq_204.i 66 2 (by decide) (by decide)).trans ((hq_198.i 66 2 (by decide) (by decide)).trans ((hq_188.i 66 2 (by decide) (by decide)).trans (rfl))))]
                have g_211 : (G_203.1 66 20).toInt = (G_3.1 66 20).toInt := by rw [show G_203.1 66 20 = (G_3.1 66 20) from ((hq_204.i 66 20 (by decide) (by decide)).trans ((hq_198.i 66 20 (by decide) (by decide)).trans ((hq_188.i 66 20 (by decide) (by decide)).trans ((hq_180.i 66 20 (by decide) (by decide)).trans ((hq_34.i 66 20 (by decide) (by decide)).trans ((hq_30.i 66 20 (by decide) (by decide)).trans (rfl)))))))]
                have b_212 : 0 ≤ (G_187.1 66 23).toInt ∧ (G_187.1 66 23).toInt ≤ 40 := hB_G_187.i 66 23 rfl rfl
                have g_213 : (G_203.1 66 23).toInt = (G_187.1 66 23).toInt := by rw [show G_203.1 66 23 = (G_187.1 66 23) from ((hq_204.i 66 23 (by decide) (by decide)).trans (hq_198.i 66 23 (by decide) (by decide)))]
                have g_214 : (G_203.1 66 24).toInt = (G_3.1 66 24).toInt := by rw [show G_203.1 66 24 = (G_3.1 66 24) from ((hq_204.i 66 24 (by decide) (by decide)).trans ((hq_198.i 66 24 (by decide) (by decide)).trans ((hq_188.i 66 24 (by decide) (by decide)).trans ((hq_180.i 66 24 (by decide) (by decide)).trans ((hq_34.i 66 24 (by decide) (by decide)).trans ((hq_30.i 66 24 (by decide) (by decide)).trans (rfl)))))))]
                have b_215 : 0 ≤ (G_203.1 66 4).toInt ∧ (G_203.1 66 4).toInt ≤ 1600 := hB_G_203.i 66 4 rfl rfl
                exact W.vret hx hb hr (fun t ht _ => ⟨⟨G_203, rfl, ⟨hB_G_203, hF, (by omega)⟩, wd_t ht hW⟩, hS.F ht⟩) hS.2.2 dX12_unit_179
          · have c_183 : 0 < (G_179.1 66 2).toInt := xI_nle rfl rfl c_183
            have g_216 : gB G_179 = gB G_3 := gB_fr (rs := []) (fs := [(66, 2), (66, 3)]) (((Fr.rf.call hq_30 (by decide) (by decide)).call hq_34 (by decide) (by decide)).call hq_180 (by decide) (by decide)) (by decide) (by decide)
            have g_217 : gC G_179 = gC G := gC_fr (rs := [75]) (fs := [(66, 2), (66, 3), (66, 4), (66, 6), (66, 7), (66, 8), (66, 9), (66, 20), (66, 21), (66, 23), (66, 24)]) ((((Fr.rf.call hq_4 (by decide) (by decide)).call hq_30 (by decide) (by decide)).call hq_34 (by decide) (by decide)).call hq_180 (by decide) (by decide)) (by decide) (by decide)
            have g_218 : gD G_179 = gD G := gD_fr (rs := [75]) (fs := [(66, 2), (66, 3), (66, 4), (66, 6), (66, 7), (66, 8), (66, 9), (66, 20), (66, 21), (66, 23), (66, 24)]) ((((Fr.rf.call hq_4 (by decide) (by decide)).call hq_30 (by decide) (by decide)).call hq_34 (by decide) (by decide)).call hq_180 (by decide) (by decide)) (by decide) (by decide)
            have g_219 : gM G_179 = gM G := gM_fr (rs := [75]) (fs := [(66, 2), (66, 3), (66, 4), (66, 6), (66, 7), (66, 8), (66, 9), (66, 20), (66, 21), (66, 23), (66, 24)]) ((((Fr.rf.call hq_4 (by decide) (by decide)).call hq_30 (by decide) (by decide)).call hq_34 (by decide) (by decide)).call hq_180 (by decide) (by decide)) (by decide) (by decide)
            have g_220 : (G_179.1 66 20).toInt = (G_3.1 66 20).toInt := by rw [show G_179.1 66 20 = (G_3.1 66 20) from ((hq_180.i 66 20 (by decide) (by decide)).trans ((hq_34.i 66 20 (by decide) (by decide)).trans ((hq_30.i 66 20 (by decide) (by decide)).trans (rfl))))]
            have g_221 : (G_179.1 66 23).toInt = (G_3.1 66 23).toInt := by rw [show G_179.1 66 23 = (G_3.1 66 23) from ((hq_180.i 66 23 (by decide) (by decide)).trans ((hq_34.i 66 23 (by decide) (by decide)).trans ((hq_30.i 66 23 (by decide) (by decide)).trans (rfl))))]
            have g_222 : (G_179.1 66 24).toInt = (G_3.1 66 24).toInt := by rw [show G_179.1 66 24 = (G_3.1 66 24) from ((hq_180.i 66 24 (by decide) (by decide)).trans ((hq_34.i 66 24 (by decide) (by decide)).trans ((hq_30.i 66 24 (by decide) (by decide)).trans (rfl))))]
            have g_223 : (G_179.1 66 4).toInt = (G_3.1 66 4).toInt := by rw [show G_179.1 66 4 = (G_3.1 66 4) from ((hq_180.i 66 4 (by decide) (by decide)).trans ((hq_34.i 66 4 (by decide) (by decide)).trans ((hq_30.i 66 4 (by decide) (by decide)).trans (rfl))))]
            have g_224 : (G_179.1 66 6).toInt = (G_3.1 66 6).toInt := by rw [show G_179.1 66 6 = (G_3.1 66 6) from ((hq_180.i 66 6 (by decide) (by decide)).trans ((hq_34.i 66 6 (by decide) (by decide)).trans ((hq_30.i 66 6 (by decide) (by decide)).trans (rfl))))]
            exact W.vret hx hb hr (fun t ht _ => ⟨⟨G_179, rfl, ⟨hB_G_179, hF, (by omega)⟩, wd_t ht hW⟩, hS.F ht⟩) hS.2.2 dX12_unit_145
        · have c_176 : 0 ≤ r_32.toInt := xI_nlt rfl rfl c_176
          refine lv_aload_n hx hb dX12_unit_126 rfl (lv_at hl 1 rfl) ?_
          have g_225 : (G_33.1 66 23).toInt = (G_3.1 66 23).toInt := by rw [show G_33.1 66 23 = (G_3.1 66 23) from ((hq_34.i 66 23 (by decide) (by decide)).trans ((hq_30.i 66 23 (by decide) (by decide)).trans (rfl)))]
          refine S_calli (va_runV (As := []) (rest := []) ⟨hx, hb, hml, hown, hts⟩ (n_isFull l D k A a z G_33  ) (cwV 0 hts (gd_V hgd m1729 m1731 m73 m131 m1732) rfl rfl rfl (by decide +kernel) ⟨Nat.le_of_ble_eq_true rfl, Nat.le_of_ble_eq_true rfl⟩) (pre_V hW hB_G_33 hK hZ hS kd_66 rfl) rfl rfl hl.1 rfl (lv_room (Nat.le_of_ble_eq_true rfl)) dX12_unit_127 ⟨Nat.le_of_ble_eq_true rfl, Nat.le_of_ble_eq_true rfl⟩) hS (fun r_226 G_227 H locs hpo hW hS => ?_)
          obtain ⟨hB_G_227, hq_228, f_230, hp_229⟩ := hpo
          have hF := hF.call hq_228 (by decide) (by decide)
          refine lv_if_eq (tgt := 138) hx hb dX12_unit_130 (by decide) (fun c_231 => ?_) (fun c_231 => ?_)
          · have c_231 : r_226.toInt = 0 := xI_eq rfl rfl c_231
            refine lv_aload_n hx hb dX12_unit_138 rfl (lv_at hl 1 rfl) ?_
            refine S_getI (v := (G_3.1 66 2)) (C := RX12) (T := TX12) (N := 89) hx hb hg iX12 hown hK hW kd_66 rfl 2 (by decide) (hg (Cond.fieldLink RX12 218 "SlabWalkModel" "fault" "I") m1316) (fun _ h9 => h9) rfl ((hq_228.i 66 2 (by decide) (by decide)).trans ((hq_34.i 66 2 (by decide) (by decide)).trans ((hq_30.i 66 2 (by decide) (by decide)).trans (rfl)))) dX12_unit_139 ?_
            refine lv_if_le (tgt := 146) hx hb dX12_unit_142 (by decide) (fun c_232 => ?_) (fun c_232 => ?_)
            · have c_232 : (G_3.1 66 2).toInt ≤ 0 := xI_le rfl rfl c_232
              refine lv_aload_n hx hb dX12_unit_146 rfl (lv_at hl 1 rfl) ?_
              have g_233 : (G_227.1 66 23).toInt = (G_3.1 66 23).toInt := by rw [show G_227.1 66 23 = (G_3.1 66 23) from ((hq_228.i 66 23 (by decide) (by decide)).trans ((hq_34.i 66 23 (by decide) (by decide)).trans ((hq_30.i 66 23 (by decide) (by decide)).trans (rfl))))]
              have g_234 : (G_227.1 66 23).toInt = (G_3.1 66 23).toInt := by rw [show G_227.1 66 23 = (G_3.1 66 23) from ((hq_228.i 66 23 (by decide) (by decide)).trans ((hq_34.i 66 23 (by decide) (by decide)).trans ((hq_30.i 66 23 (by decide) (by decide)).trans (rfl))))]
              refine S_callv (va_runV (As := []) (rest := []) ⟨hx, hb, hml, hown, hts⟩ (n_countUnit l D k A a z G_227  (by omega)) (cwV 0 hts (gd_V hgd m1733 m1735 m74 m131 m1736) rfl rfl rfl (by decide +kernel) ⟨Nat.le_of_ble_eq_true rfl, Nat.le_of_ble_eq_true rfl⟩) (pre_V hW hB_G_227 hK hZ hS kd_66 rfl) rfl rfl hl.1 rfl (lv_room (Nat.le_of_ble_eq_true rfl)) dX12_unit_147 ⟨Nat.le_of_ble_eq_true rfl, Nat.le_of_ble_eq_true rfl⟩) hS (fun G_236 H locs hpo hW hS => ?_)
              obtain ⟨hB_G_236, hq_237, hp_238⟩ := hpo
              have hF := hF.call hq_237 (by decide) (by decide)
              refine lv_aload_n hx hb dX12_unit_150 rfl (lv_at hl 1 rfl) ?_
              refine lv_iload_n hx hb dX12_unit_151 rfl (lv_at hl 0 rfl) ?_
              refine lv_if_ge (tgt := 159) hx hb dX12_unit_152 (by decide) (fun c_239 => ?_) (fun c_239 => ?_)
              · have c_239 : 0 ≤ r_32.toInt := xI_le rfl rfl c_239
                refine lv_iconst (v := 1) hx hb dX12_unit_159 (by decide) ?_
                refine lv_iload_n hx hb dX12_unit_160 rfl (lv_at hl 0 rfl) ?_
                refine lv_if_ge (tgt := 171) hx hb dX12_unit_161 (by decide) (fun c_240 => ?_) (fun c_240 => ?_)
                · have c_240 : 0 ≤ r_32.toInt := xI_le rfl rfl c_240
                  refine lv_iload_n hx hb dX12_unit_171 rfl (lv_at hl 0 rfl) ?_
                  have g_241 : gM G_236 = gM G := gM_fr (rs := [75]) (fs := [(66, 2), (66, 3), (66, 4), (66, 6), (66, 7), (66, 8), (66, 9), (66, 20), (66, 21), (66, 23), (66, 24)]) (((((Fr.rf.call hq_4 (by decide) (by decide)).call hq_30 (by decide) (by decide)).call hq_34 (by decide) (by decide)).call hq_228 (by decide) (by decide)).call hq_237 (by decide) (by decide)) (by decide) (by decide)
                  have qc_242 : (1 : Int32).toInt = 1 := rfl
                  have g_243 : gC G_236 = gC G := gC_fr (rs := [75]) (fs := [(66, 2), (66, 3), (66, 4), (66, 6), (66, 7), (66, 8), (66, 9), (66, 20), (66, 21), (66, 23), (66, 24)]) (((((Fr.rf.call hq_4 (by decide) (by decide)).call hq_30 (by decide) (by decide)).call hq_34 (by decide) (by decide)).call hq_228 (by decide) (by decide)).call hq_237 (by decide) (by decide)) (by decide) (by decide)
                  have g_244 : gD G_236 = gD G := gD_fr (rs := [75]) (fs := [(66, 2), (66, 3), (66, 4), (66, 6), (66, 7), (66, 8), (66, 9), (66, 20), (66, 21), (66, 23), (66, 24)]) (((((Fr.rf.call hq_4 (by decide) (by decide)).call hq_30 (by decide) (by decide)).call hq_34 (by decide) (by decide)).call hq_228 (by decide) (by decide)).call hq_237 (by decide) (by decide)) (by decide) (by decide)
                  refine S_callv (va_runV (As := [.int 1, .int r_32]) (rest := []) ⟨hx, hb, hml, hown, hts⟩ (n_add l D k A a z G_236 1 r_32 ⟨by decide, by decide⟩ (by omega)) (cwV 2 hts (gd_V hgd m1741 m1743 m76 m131 m1744) rfl rfl rfl (by decide +kernel) ⟨Nat.le_of_ble_eq_true rfl, Nat.le_of_ble_eq_true rfl⟩) (pre_V hW hB_G_236 hK hZ hS kd_66 rfl) rfl rfl hl.1 rfl (lv_room (Nat.le_of_ble_eq_true rfl)) dX12_unit_172 ⟨Nat.le_of_ble_eq_true rfl, Nat.le_of_ble_eq_true rfl⟩) hS (fun G_246 H locs hpo hW hS => ?_)
                  obtain ⟨hB_G_246, hq_247, hp_248⟩ := hpo
                  have hF := hF.call hq_247 (by decide) (by decide)
                  refine lv_aload_n hx hb dX12_unit_175 rfl (lv_at hl 1 rfl) ?_
                  have g_249 : (G_246.1 66 4).toInt = (G_3.1 66 4).toInt := by rw [show G_246.1 66 4 = (G_3.1 66 4) from ((hq_247.i 66 4 (by decide) (by decide)).trans ((hq_237.i 66 4 (by decide) (by decide)).trans ((hq_228.i 66 4 (by decide) (by decide)).trans ((hq_34.i 66 4 (by decide) (by decide)).trans ((hq_30.i 66 4 (by decide) (by decide)).trans (rfl))))))]
                  have g_250 : (G_246.1 66 6).toInt = (G_3.1 66 6).toInt := by rw [show G_246.1 66 6 = (G_3.1 66 6) from ((hq_247.i 66 6 (by decide) (by decide)).trans ((hq_237.i 66 6 (by decide) (by decide)).trans ((hq_228.i 66 6 (by decide) (by decide)).trans ((hq_34.i 66 6 (by decide) (by decide)).trans ((hq_30.i 66 6 (by decide) (by decide)).trans (rfl))))))]
                  refine S_callv (va_runV (As := []) (rest := []) ⟨hx, hb, hml, hown, hts⟩ (n_token l D k A a z G_246  ) (cwV 0 hts (gd_V hgd m1602 m1604 m50 m131 m1605) rfl rfl rfl (by decide +kernel) ⟨Nat.le_of_ble_eq_true rfl, Nat.le_of_ble_eq_true rfl⟩) (pre_V hW hB_G_246 hK hZ hS kd_66 rfl) rfl rfl hl.1 rfl (lv_room (Nat.le_of_ble_eq_true rfl)) dX12_unit_176 ⟨Nat.le_of_ble_eq_true rfl, Nat.le_of_ble_eq_true rfl⟩) hS (fun G_252 H locs hpo hW hS => ?_)
                  obtain ⟨hB_G_252, hq_253, hp_254⟩ := hpo
                  have hF := hF.call hq_253 (by decide) (by decide)
                  have g_255 : gB G_252 = gB G_3 := gB_fr (rs := [69, 70, 71]) (fs := [(66, 4), (66, 6), (66, 7), (66, 8), (66, 9), (66, 21), (66, 23)]) ((((((Fr.rf.call hq_30 (by decide) (by decide)).call hq_34 (by decide) (by decide)).call hq_228 (by decide) (by decide)).call hq_237 (by decide) (by decide)).call hq_247 (by decide) (by decide)).call hq_253 (by decide) (by decide)) (by decide) (by decide)
                  have g_256 : gC G_252 = gC G_246 := gC_fr (rs := []) (fs := [(66, 4), (66, 6), (66, 7), (66, 8), (66, 9)]) (Fr.rf.call hq_253 (by decide) (by decide)) (by decide) (by decide)
                  have g_257 : gD G_252 = gD G_246 := gD_fr (rs := []) (fs := [(66, 4), (66, 6), (66, 7), (66, 8), (66, 9)]) (Fr.rf.call hq_253 (by decide) (by decide)) (by decide) (by decide)
                  have g_258 : gM G_252 = gM G_246 := gM_fr (rs := []) (fs := [(66, 4), (66, 6), (66, 7), (66, 8), (66, 9)]) (Fr.rf.call hq_253 (by decide) (by decide)) (by decide) (by decide)
                  have g_259 : (G_252.1 66 2).toInt = (G_3.1 66 2).toInt := by rw [show G_252.1 66 2 = (G_3.1 66 2) from ((hq_253.i 66 2 (by decide) (by decide)).trans ((hq_247.i 66 2 (by decide) (by decide)).trans ((hq_237.i 66 2 (by decide) (by decide)).trans ((hq_228.i 66 2 (by decide) (by decide)).trans ((hq_34.i 66 2 (by decide) (by decide)).trans ((hq_30.i 66 2 (by decide) (by decide)).trans (rfl)))))))]
                  have g_260 : (G_252.1 66 20).toInt = (G_3.1 66 20).toInt := by rw [show G_252.1 66 20 = (G_3.1 66 20) from ((hq_253.i 66 20 (by decide) (by decide)).trans ((hq_247.i 66 20 (by decide) (by decide)).trans ((hq_237.i 66 20 (by decide) (by decide)).trans ((hq_228.i 66 20 (by decide) (by decide)).trans ((hq_34.i 66 20 (by decide) (by decide)).trans ((hq_30.i 66 20 (by decide) (by decide)).trans (rfl)))))))]
                  have b_261 : 0 ≤ (G_236.1 66 23).toInt ∧ (G_236.1 66 23).toInt ≤ 40 := hB_G_236.i 66 23 rfl rfl
                  have g_262 : (G_252.1 66 23).toInt = (G_236.1 66 23).toInt := by rw [show G_252.1 66 23 = (G_236.1 66 23) from ((hq_253.i 66 23 (by decide) (by decide)).trans (hq_247.i 66 23 (by decide) (by decide)))]
                  have g_263 : (G_252.1 66 24).toInt = (G_3.1 66 24).toInt := by rw [show G_252.1 66 24 = (G_3.1 66 24) from ((hq_253.i 66 24 (by decide) (by decide)).trans ((hq_247.i 66 24 (by decide) (by decide)).trans ((hq_237.i 66 24 (by decide) (by decide)).trans ((hq_228.i 66 24 (by decide) (by decide)).trans ((hq_34.i 66 24 (by decide) (by decide)).trans ((hq_30.i 66 24 (by decide) (by decide)).trans (rfl)))))))]
                  have b_264 : 0 ≤ (G_252.1 66 4).toInt ∧ (G_252.1 66 4).toInt ≤ 1600 := hB_G_252.i 66 4 rfl rfl
                  exact W.vret hx hb hr (fun t ht _ => ⟨⟨G_252, rfl, ⟨hB_G_252, hF, (by omega)⟩, wd_t ht hW⟩, hS.F ht⟩) hS.2.2 dX12_unit_179
                · have c_240 : r_32.toInt < 0 := xI_nle rfl rfl c_240
                  exfalso; omega
              · have c_239 : r_32.toInt < 0 := xI_nle rfl rfl c_239
                exfalso; omega
            · have c_232 : 0 < (G_3.1 66 2).toInt := xI_nle rfl rfl c_232
              exfalso; omega
          · have c_231 : r_226.toInt ≠ 0 := xI_ne rfl rfl c_231
            refine lv_aload_n hx hb dX12_unit_133 rfl (lv_at hl 1 rfl) ?_
            refine lv_iconst (v := 2) hx hb dX12_unit_134 (by decide) ?_
            have qc_265 : (2 : Int32).toInt = 2 := rfl
            refine S_callv (va_runV (As := [.int 2]) (rest := []) ⟨hx, hb, hml, hown, hts⟩ (n_wrong l D k A a z G_227 2 ⟨by decide, by decide⟩) (cwV 1 hts (gd_V hgd m1670 m1672 m59 m131 m1673) rfl rfl rfl (by decide +kernel) ⟨Nat.le_of_ble_eq_true rfl, Nat.le_of_ble_eq_true rfl⟩) (pre_V hW hB_G_227 hK hZ hS kd_66 rfl) rfl rfl hl.1 rfl (lv_room (Nat.le_of_ble_eq_true rfl)) dX12_unit_135 ⟨Nat.le_of_ble_eq_true rfl, Nat.le_of_ble_eq_true rfl⟩) hS (fun G_267 H locs hpo hW hS => ?_)
            obtain ⟨hB_G_267, hq_268, hp_269⟩ := hpo
            have hF := hF.call hq_268 (by decide) (by decide)
            refine lv_aload_n hx hb dX12_unit_138 rfl (lv_at hl 1 rfl) ?_
            have b_270 : 0 ≤ (G_267.1 66 2).toInt ∧ (G_267.1 66 2).toInt ≤ 4 := hB_G_267.i 66 2 rfl rfl
            refine S_getI (v := (G_267.1 66 2)) (C := RX12) (T := TX12) (N := 89) hx hb hg iX12 hown hK hW kd_66 rfl 2 (by decide) (hg (Cond.fieldLink RX12 218 "SlabWalkModel" "fault" "I") m1316) (fun _ h9 => h9) rfl rfl dX12_unit_139 ?_
            refine lv_if_le (tgt := 146) hx hb dX12_unit_142 (by decide) (fun c_271 => ?_) (fun c_271 => ?_)
            · have c_271 : (G_267.1 66 2).toInt ≤ 0 := xI_le rfl rfl c_271
              refine lv_aload_n hx hb dX12_unit_146 rfl (lv_at hl 1 rfl) ?_
              have g_272 : (G_267.1 66 23).toInt = (G_3.1 66 23).toInt := by rw [show G_267.1 66 23 = (G_3.1 66 23) from ((hq_268.i 66 23 (by decide) (by decide)).trans ((hq_228.i 66 23 (by decide) (by decide)).trans ((hq_34.i 66 23 (by decide) (by decide)).trans ((hq_30.i 66 23 (by decide) (by decide)).trans (rfl)))))]
              have g_273 : (G_267.1 66 23).toInt = (G_3.1 66 23).toInt := by rw [show G_267.1 66 23 = (G_3.1 66 23) from ((hq_268.i 66 23 (by decide) (by decide)).trans ((hq_228.i 66 23 (by decide) (by decide)).trans ((hq_34.i 66 23 (by decide) (by decide)).trans ((hq_30.i 66 23 (by decide) (by decide)).trans (rfl)))))]
              refine S_callv (va_runV (As := []) (rest := []) ⟨hx, hb, hml, hown, hts⟩ (n_countUnit l D k A a z G_267  (by omega)) (cwV 0 hts (gd_V hgd m1733 m1735 m74 m131 m1736) rfl rfl rfl (by decide +kernel) ⟨Nat.le_of_ble_eq_true rfl, Nat.le_of_ble_eq_true rfl⟩) (pre_V hW hB_G_267 hK hZ hS kd_66 rfl) rfl rfl hl.1 rfl (lv_room (Nat.le_of_ble_eq_true rfl)) dX12_unit_147 ⟨Nat.le_of_ble_eq_true rfl, Nat.le_of_ble_eq_true rfl⟩) hS (fun G_275 H locs hpo hW hS => ?_)
              obtain ⟨hB_G_275, hq_276, hp_277⟩ := hpo
              have hF := hF.call hq_276 (by decide) (by decide)
              refine lv_aload_n hx hb dX12_unit_150 rfl (lv_at hl 1 rfl) ?_
              refine lv_iload_n hx hb dX12_unit_151 rfl (lv_at hl 0 rfl) ?_
              refine lv_if_ge (tgt := 159) hx hb dX12_unit_152 (by decide) (fun c_278 => ?_) (fun c_278 => ?_)
              · have c_278 : 0 ≤ r_32.toInt := xI_le rfl rfl c_278
                refine lv_iconst (v := 1) hx hb dX12_unit_159 (by decide) ?_
                refine lv_iload_n hx hb dX12_unit_160 rfl (lv_at hl 0 rfl) ?_
                refine lv_if_ge (tgt := 171) hx hb dX12_unit_161 (by decide) (fun c_279 => ?_) (fun c_279 => ?_)
                · have c_279 : 0 ≤ r_32.toInt := xI_le rfl rfl c_279
                  refine lv_iload_n hx hb dX12_unit_171 rfl (lv_at hl 0 rfl) ?_
                  have g_280 : gM G_275 = gM G := gM_fr (rs := [75]) (fs := [(66, 2), (66, 3), (66, 4), (66, 6), (66, 7), (66, 8), (66, 9), (66, 20), (66, 21), (66, 23), (66, 24)]) ((((((Fr.rf.call hq_4 (by decide) (by decide)).call hq_30 (by decide) (by decide)).call hq_34 (by decide) (by decide)).call hq_228 (by decide) (by decide)).call hq_268 (by decide) (by decide)).call hq_276 (by decide) (by decide)) (by decide) (by decide)
                  have qc_281 : (1 : Int32).toInt = 1 := rfl
                  have g_282 : gC G_275 = gC G := gC_fr (rs := [75]) (fs := [(66, 2), (66, 3), (66, 4), (66, 6), (66, 7), (66, 8), (66, 9), (66, 20), (66, 21), (66, 23), (66, 24)]) ((((((Fr.rf.call hq_4 (by decide) (by decide)).call hq_30 (by decide) (by decide)).call hq_34 (by decide) (by decide)).call hq_228 (by decide) (by decide)).call hq_268 (by decide) (by decide)).call hq_276 (by decide) (by decide)) (by decide) (by decide)
                  have g_283 : gD G_275 = gD G := gD_fr (rs := [75]) (fs := [(66, 2), (66, 3), (66, 4), (66, 6), (66, 7), (66, 8), (66, 9), (66, 20), (66, 21), (66, 23), (66, 24)]) ((((((Fr.rf.call hq_4 (by decide) (by decide)).call hq_30 (by decide) (by decide)).call hq_34 (by decide) (by decide)).call hq_228 (by decide) (by decide)).call hq_268 (by decide) (by decide)).call hq_276 (by decide) (by decide)) (by decide) (by decide)
                  refine S_callv (va_runV (As := [.int 1, .int r_32]) (rest := []) ⟨hx, hb, hml, hown, hts⟩ (n_add l D k A a z G_275 1 r_32 ⟨by decide, by decide⟩ (by omega)) (cwV 2 hts (gd_V hgd m1741 m1743 m76 m131 m1744) rfl rfl rfl (by decide +kernel) ⟨Nat.le_of_ble_eq_true rfl, Nat.le_of_ble_eq_true rfl⟩) (pre_V hW hB_G_275 hK hZ hS kd_66 rfl) rfl rfl hl.1 rfl (lv_room (Nat.le_of_ble_eq_true rfl)) dX12_unit_172 ⟨Nat.le_of_ble_eq_true rfl, Nat.le_of_ble_eq_true rfl⟩) hS (fun G_285 H locs hpo hW hS => ?_)
                  obtain ⟨hB_G_285, hq_286, hp_287⟩ := hpo
                  have hF := hF.call hq_286 (by decide) (by decide)
                  refine lv_aload_n hx hb dX12_unit_175 rfl (lv_at hl 1 rfl) ?_
                  have g_288 : (G_285.1 66 4).toInt = (G_3.1 66 4).toInt := by rw [show G_285.1 66 4 = (G_3.1 66 4) from ((hq_286.i 66 4 (by decide) (by decide)).trans ((hq_276.i 66 4 (by decide) (by decide)).trans ((hq_268.i 66 4 (by decide) (by decide)).trans ((hq_228.i 66 4 (by decide) (by decide)).trans ((hq_34.i 66 4 (by decide) (by decide)).trans ((hq_30.i 66 4 (by decide) (by decide)).trans (rfl)))))))]
                  have g_289 : (G_285.1 66 6).toInt = (G_3.1 66 6).toInt := by rw [show G_285.1 66 6 = (G_3.1 66 6) from ((hq_286.i 66 6 (by decide) (by decide)).trans ((hq_276.i 66 6 (by decide) (by decide)).trans ((hq_268.i 66 6 (by decide) (by decide)).trans ((hq_228.i 66 6 (by decide) (by decide)).trans ((hq_34.i 66 6 (by decide) (by decide)).trans ((hq_30.i 66 6 (by decide) (by decide)).trans (rfl)))))))]
                  refine S_callv (va_runV (As := []) (rest := []) ⟨hx, hb, hml, hown, hts⟩ (n_token l D k A a z G_285  ) (cwV 0 hts (gd_V hgd m1602 m1604 m50 m131 m1605) rfl rfl rfl (by decide +kernel) ⟨Nat.le_of_ble_eq_true rfl, Nat.le_of_ble_eq_true rfl⟩) (pre_V hW hB_G_285 hK hZ hS kd_66 rfl) rfl rfl hl.1 rfl (lv_room (Nat.le_of_ble_eq_true rfl)) dX12_unit_176 ⟨Nat.le_of_ble_eq_true rfl, Nat.le_of_ble_eq_true rfl⟩) hS (fun G_291 H locs hpo hW hS => ?_)
                  obtain ⟨hB_G_291, hq_292, hp_293⟩ := hpo
                  have hF := hF.call hq_292 (by decide) (by decide)
                  have g_294 : gB G_291 = gB G_3 := gB_fr (rs := [69, 70, 71]) (fs := [(66, 2), (66, 3), (66, 4), (66, 6), (66, 7), (66, 8), (66, 9), (66, 21), (66, 23)]) (((((((Fr.rf.call hq_30 (by decide) (by decide)).call hq_34 (by decide) (by decide)).call hq_228 (by decide) (by decide)).call hq_268 (by decide) (by decide)).call hq_276 (by decide) (by decide)).call hq_286 (by decide) (by decide)).call hq_292 (by decide) (by decide)) (by decide) (by decide)
                  have g_295 : gC G_291 = gC G_285 := gC_fr (rs := []) (fs := [(66, 4), (66, 6), (66, 7), (66, 8), (66, 9)]) (Fr.rf.call hq_292 (by decide) (by decide)) (by decide) (by decide)
                  have g_296 : gD G_291 = gD G_285 := gD_fr (rs := []) (fs := [(66, 4), (66, 6), (66, 7), (66, 8), (66, 9)]) (Fr.rf.call hq_292 (by decide) (by decide)) (by decide) (by decide)
                  have g_297 : gM G_291 = gM G_285 := gM_fr (rs := []) (fs := [(66, 4), (66, 6), (66, 7), (66, 8), (66, 9)]) (Fr.rf.call hq_292 (by decide) (by decide)) (by decide) (by decide)
                  have g_298 : (G_291.1 66 2).toInt = (G_267.1 66 2).toInt := by rw [show G_291.1 66 2 = (G_267.1 66 2) from ((hq_292.i 66 2 (by decide) (by decide)).trans ((hq_286.i 66 2 (by decide) (by decide)).trans ((hq_276.i 66 2 (by decide) (by decide)).trans (rfl))))]
                  have g_299 : (G_291.1 66 20).toInt = (G_3.1 66 20).toInt := by rw [show G_291.1 66 20 = (G_3.1 66 20) from ((hq_292.i 66 20 (by decide) (by decide)).trans ((hq_286.i 66 20 (by decide) (by decide)).trans ((hq_276.i 66 20 (by decide) (by decide)).trans ((hq_268.i 66 20 (by decide) (by decide)).trans ((hq_228.i 66 20 (by decide) (by decide)).trans ((hq_34.i 66 20 (by decide) (by decide)).trans ((hq_30.i 66 20 (by decide) (by decide)).trans (rfl))))))))]
                  have b_300 : 0 ≤ (G_275.1 66 23).toInt ∧ (G_275.1 66 23).toInt ≤ 40 := hB_G_275.i 66 23 rfl rfl
                  have g_301 : (G_291.1 66 23).toInt = (G_275.1 66 23).toInt := by rw [show G_291.1 66 23 = (G_275.1 66 23) from ((hq_292.i 66 23 (by decide) (by decide)).trans (hq_286.i 66 23 (by decide) (by decide)))]
                  have g_302 : (G_291.1 66 24).toInt = (G_3.1 66 24).toInt := by rw [show G_291.1 66 24 = (G_3.1 66 24) from ((hq_292.i 66 24 (by decide) (by decide)).trans ((hq_286.i 66 24 (by decide) (by decide)).trans ((hq_276.i 66 24 (by decide) (by decide)).trans ((hq_268.i 66 24 (by decide) (by decide)).trans ((hq_228.i 66 24 (by decide) (by decide)).trans ((hq_34.i 66 24 (by decide) (by decide)).trans ((hq_30.i 66 24 (by decide) (by decide)).trans (rfl))))))))]
                  have b_303 : 0 ≤ (G_291.1 66 4).toInt ∧ (G_291.1 66 4).toInt ≤ 1600 := hB_G_291.i 66 4 rfl rfl
                  exact W.vret hx hb hr (fun t ht _ => ⟨⟨G_291, rfl, ⟨hB_G_291, hF, (by omega)⟩, wd_t ht hW⟩, hS.F ht⟩) hS.2.2 dX12_unit_179
                · have c_279 : r_32.toInt < 0 := xI_nle rfl rfl c_279
                  exfalso; omega
              · have c_278 : r_32.toInt < 0 := xI_nle rfl rfl c_278
                exfalso; omega
            · have c_271 : 0 < (G_267.1 66 2).toInt := xI_nle rfl rfl c_271
              have g_304 : gB G_267 = gB G_3 := gB_fr (rs := []) (fs := [(66, 2), (66, 3)]) ((((Fr.rf.call hq_30 (by decide) (by decide)).call hq_34 (by decide) (by decide)).call hq_228 (by decide) (by decide)).call hq_268 (by decide) (by decide)) (by decide) (by decide)
              have g_305 : gC G_267 = gC G := gC_fr (rs := [75]) (fs := [(66, 2), (66, 3), (66, 4), (66, 6), (66, 7), (66, 8), (66, 9), (66, 20), (66, 21), (66, 23), (66, 24)]) (((((Fr.rf.call hq_4 (by decide) (by decide)).call hq_30 (by decide) (by decide)).call hq_34 (by decide) (by decide)).call hq_228 (by decide) (by decide)).call hq_268 (by decide) (by decide)) (by decide) (by decide)
              have g_306 : gD G_267 = gD G := gD_fr (rs := [75]) (fs := [(66, 2), (66, 3), (66, 4), (66, 6), (66, 7), (66, 8), (66, 9), (66, 20), (66, 21), (66, 23), (66, 24)]) (((((Fr.rf.call hq_4 (by decide) (by decide)).call hq_30 (by decide) (by decide)).call hq_34 (by decide) (by decide)).call hq_228 (by decide) (by decide)).call hq_268 (by decide) (by decide)) (by decide) (by decide)
              have g_307 : gM G_267 = gM G := gM_fr (rs := [75]) (fs := [(66, 2), (66, 3), (66, 4), (66, 6), (66, 7), (66, 8), (66, 9), (66, 20), (66, 21), (66, 23), (66, 24)]) (((((Fr.rf.call hq_4 (by decide) (by decide)).call hq_30 (by decide) (by decide)).call hq_34 (by decide) (by decide)).call hq_228 (by decide) (by decide)).call hq_268 (by decide) (by decide)) (by decide) (by decide)
              have g_308 : (G_267.1 66 20).toInt = (G_3.1 66 20).toInt := by rw [show G_267.1 66 20 = (G_3.1 66 20) from ((hq_268.i 66 20 (by decide) (by decide)).trans ((hq_228.i 66 20 (by decide) (by decide)).trans ((hq_34.i 66 20 (by decide) (by decide)).trans ((hq_30.i 66 20 (by decide) (by decide)).trans (rfl)))))]
              have g_309 : (G_267.1 66 23).toInt = (G_3.1 66 23).toInt := by rw [show G_267.1 66 23 = (G_3.1 66 23) from ((hq_268.i 66 23 (by decide) (by decide)).trans ((hq_228.i 66 23 (by decide) (by decide)).trans ((hq_34.i 66 23 (by decide) (by decide)).trans ((hq_30.i 66 23 (by decide) (by decide)).trans (rfl)))))]
              have g_310 : (G_267.1 66 24).toInt = (G_3.1 66 24).toInt := by rw [show G_267.1 66 24 = (G_3.1 66 24) from ((hq_268.i 66 24 (by decide) (by decide)).trans ((hq_228.i 66 24 (by decide) (by decide)).trans ((hq_34.i 66 24 (by decide) (by decide)).trans ((hq_30.i 66 24 (by decide) (by decide)).trans (rfl)))))]
              have g_311 : (G_267.1 66 4).toInt = (G_3.1 66 4).toInt := by rw [show G_267.1 66 4 = (G_3.1 66 4) from ((hq_268.i 66 4 (by decide) (by decide)).trans ((hq_228.i 66 4 (by decide) (by decide)).trans ((hq_34.i 66 4 (by decide) (by decide)).trans ((hq_30.i 66 4 (by decide) (by decide)).trans (rfl)))))]
              have g_312 : (G_267.1 66 6).toInt = (G_3.1 66 6).toInt := by rw [show G_267.1 66 6 = (G_3.1 66 6) from ((hq_268.i 66 6 (by decide) (by decide)).trans ((hq_228.i 66 6 (by decide) (by decide)).trans ((hq_34.i 66 6 (by decide) (by decide)).trans ((hq_30.i 66 6 (by decide) (by decide)).trans (rfl)))))]
              exact W.vret hx hb hr (fun t ht _ => ⟨⟨G_267, rfl, ⟨hB_G_267, hF, (by omega)⟩, wd_t ht hW⟩, hS.F ht⟩) hS.2.2 dX12_unit_145
    · have c_31 : 0 < (G_3.1 66 2).toInt := xI_nle rfl rfl c_31
      have g_313 : gB G_28 = gB G_3 := gB_fr (rs := []) (fs := []) (Fr.rf.call hq_30 (by decide) (by decide)) (by decide) (by decide)
      have g_314 : gC G_28 = gC G := gC_fr (rs := [75]) (fs := [(66, 2), (66, 3), (66, 4), (66, 6), (66, 7), (66, 8), (66, 9), (66, 20), (66, 21), (66, 23), (66, 24)]) ((Fr.rf.call hq_4 (by decide) (by decide)).call hq_30 (by decide) (by decide)) (by decide) (by decide)
      have g_315 : gD G_28 = gD G := gD_fr (rs := [75]) (fs := [(66, 2), (66, 3), (66, 4), (66, 6), (66, 7), (66, 8), (66, 9), (66, 20), (66, 21), (66, 23), (66, 24)]) ((Fr.rf.call hq_4 (by decide) (by decide)).call hq_30 (by decide) (by decide)) (by decide) (by decide)
      have g_316 : gM G_28 = gM G := gM_fr (rs := [75]) (fs := [(66, 2), (66, 3), (66, 4), (66, 6), (66, 7), (66, 8), (66, 9), (66, 20), (66, 21), (66, 23), (66, 24)]) ((Fr.rf.call hq_4 (by decide) (by decide)).call hq_30 (by decide) (by decide)) (by decide) (by decide)
      have g_317 : (G_28.1 66 2).toInt = (G_3.1 66 2).toInt := by rw [show G_28.1 66 2 = (G_3.1 66 2) from ((hq_30.i 66 2 (by decide) (by decide)).trans (rfl))]
      have g_318 : (G_28.1 66 20).toInt = (G_3.1 66 20).toInt := by rw [show G_28.1 66 20 = (G_3.1 66 20) from ((hq_30.i 66 20 (by decide) (by decide)).trans (rfl))]
      have g_319 : (G_28.1 66 23).toInt = (G_3.1 66 23).toInt := by rw [show G_28.1 66 23 = (G_3.1 66 23) from ((hq_30.i 66 23 (by decide) (by decide)).trans (rfl))]
      have g_320 : (G_28.1 66 24).toInt = (G_3.1 66 24).toInt := by rw [show G_28.1 66 24 = (G_3.1 66 24) from ((hq_30.i 66 24 (by decide) (by decide)).trans (rfl))]
      have g_321 : (G_28.1 66 4).toInt = (G_3.1 66 4).toInt := by rw [show G_28.1 66 4 = (G_3.1 66 4) from ((hq_30.i 66 4 (by decide) (by decide)).trans (rfl))]
      have g_322 : (G_28.1 66 6).toInt = (G_3.1 66 6).toInt := by rw [show G_28.1 66 6 = (G_3.1 66 6) from ((hq_30.i 66 6 (by decide) (by decide)).trans (rfl))]
      exact W.vret hx hb hr (fun t ht _ => ⟨⟨G_28, rfl, ⟨hB_G_28, hF, (by omega)⟩, wd_t ht hW⟩, hS.F ht⟩) hS.2.2 dX12_unit_108
  refine lv_if_eq (tgt := 101) hx hb dX12_unit_3 (by decide) (fun c_323 => ?_) (fun c_323 => ?_)
  · have c_323 : x_7.toInt = 0 := xI_eq rfl rfl c_323
    exact hJ_29 () _ _ _ ⟨G_3, hW, hB_G_3, hF, Fr.rf, hS, lv_sub hl [1] rfl⟩
  · have c_323 : x_7.toInt ≠ 0 := xI_ne rfl rfl c_323
    refine lv_aload_n hx hb dX12_unit_6 rfl (lv_at hl 1 rfl) ?_
    refine S_getI (v := (G_3.1 66 2)) (C := RX12) (T := TX12) (N := 89) hx hb hg iX12 hown hK hW kd_66 rfl 2 (by decide) (hg (Cond.fieldLink RX12 218 "SlabWalkModel" "fault" "I") m1316) (fun _ h9 => h9) rfl rfl dX12_unit_7 ?_
    refine lv_if_ne (tgt := 101) hx hb dX12_unit_10 (by decide) (fun c_324 => ?_) (fun c_324 => ?_)
    · have c_324 : (G_3.1 66 2).toInt ≠ 0 := xI_ne rfl rfl c_324
      exact hJ_29 () _ _ _ ⟨G_3, hW, hB_G_3, hF, Fr.rf, hS, lv_sub hl [1] rfl⟩
    · have c_324 : (G_3.1 66 2).toInt = 0 := xI_eq rfl rfl c_324
      refine lv_aload_n hx hb dX12_unit_13 rfl (lv_at hl 1 rfl) ?_
      refine lv_ldc2 (v := 7237492) hx hb hown (hg (Cond.constantLong RX12 261 7237492) m1669) dX12_unit_14 ?_
      refine S_calli (va_runV (As := [.long 7237492]) (rest := []) ⟨hx, hb, hml, hown, hts⟩ (n_isWord l D k A a z G_3 7237492 ) (cwV 1 hts (gd_V hgd m1624 m1626 m53 m131 m1627) rfl rfl rfl (by decide +kernel) ⟨Nat.le_of_ble_eq_true rfl, Nat.le_of_ble_eq_true rfl⟩) (pre_V hW hB_G_3 hK hZ hS kd_66 rfl) rfl rfl hl.1 rfl (lv_room (Nat.le_of_ble_eq_true rfl)) dX12_unit_17 ⟨Nat.le_of_ble_eq_true rfl, Nat.le_of_ble_eq_true rfl⟩) hS (fun r_325 G_326 H locs hpo hW hS => ?_)
      obtain ⟨hB_G_326, hq_327, f_329, hp_328⟩ := hpo
      have hF := hF.call hq_327 (by decide) (by decide)
      refine W.cut (σ := Unit) (pcJ := 53) (J := fun y H locs ls => ∃ (G_332 : GS), Wd D k A a G_332 H ∧ Bd G_332 ∧ Fr [69, 70, 71, 75] [(66, 2), (66, 3), (66, 4), (66, 6), (66, 7), (66, 8), (66, 9), (66, 20), (66, 21), (66, 23), (66, 24)] G G_332 ∧ Fr [] [] G_326 G_332 ∧ va_S A s.heap H locs ∧ lv_has ls 3 [(1, .int x_7), (0, .ref (a 66))]) (stJ := fun _ => []) ?_ (fun hJ_333 => ?_)
      · intro y H locs ls hI
        obtain ⟨G_332, hW, hB_G_332, hF, hq_334, hS, hl⟩ := hI
        refine lv_aload_n hx hb dX12_unit_53 rfl (lv_at hl 1 rfl) ?_
        refine S_getI (v := (G_3.1 66 6)) (C := RX12) (T := TX12) (N := 89) hx hb hg iX12 hown hK hW kd_66 rfl 6 (by decide) (hg (Cond.fieldLink RX12 205 "SlabWalkModel" "sort" "I") m1320) (fun _ h9 => h9) rfl ((hq_334.i 66 6 (by decide) (by decide)).trans ((hq_327.i 66 6 (by decide) (by decide)).trans (rfl))) dX12_unit_54 ?_
        refine lv_bipush (v := 40) hx hb dX12_unit_57 (by decide) ?_
        refine lv_icmp_ne (tgt := 96) hx hb dX12_unit_59 (by decide) (fun c_335 => ?_) (fun c_335 => ?_)
        · have c_335 : (G_3.1 66 6).toInt ≠ 40 := xI_ne rfl rfl c_335
          refine lv_iconst (v := 0) hx hb dX12_unit_96 (by decide) ?_
          refine lv_istore_n (lv' := [(1, .int 0), (0, .ref (a 66))]) hx hb dX12_unit_97 rfl hl (by decide) rfl (fun ls hl => ?_)
          refine lv_goto (tgt := 2) hx hb dX12_unit_98 (by decide) ?_
          have g_336 : (G_332.1 66 24).toInt = (G_3.1 66 24).toInt := by rw [show G_332.1 66 24 = (G_3.1 66 24) from ((hq_334.i 66 24 (by decide) (by decide)).trans ((hq_327.i 66 24 (by decide) (by decide)).trans (rfl)))]
          have g_337 : gB G_332 = gB G_3 := gB_fr (rs := []) (fs := []) ((Fr.rf.call hq_327 (by decide) (by decide)).call hq_334 (by decide) (by decide)) (by decide) (by decide)
          have g_338 : gC G_332 = gC G := gC_fr (rs := [75]) (fs := [(66, 2), (66, 3), (66, 4), (66, 6), (66, 7), (66, 8), (66, 9), (66, 20), (66, 21), (66, 23), (66, 24)]) (((Fr.rf.call hq_4 (by decide) (by decide)).call hq_327 (by decide) (by decide)).call hq_334 (by decide) (by decide)) (by decide) (by decide)
          have g_339 : gD G_332 = gD G := gD_fr (rs := [75]) (fs := [(66, 2), (66, 3), (66, 4), (66, 6), (66, 7), (66, 8), (66, 9), (66, 20), (66, 21), (66, 23), (66, 24)]) (((Fr.rf.call hq_4 (by decide) (by decide)).call hq_327 (by decide) (by decide)).call hq_334 (by decide) (by decide)) (by decide) (by decide)
          have g_340 : gM G_332 = gM G := gM_fr (rs := [75]) (fs := [(66, 2), (66, 3), (66, 4), (66, 6), (66, 7), (66, 8), (66, 9), (66, 20), (66, 21), (66, 23), (66, 24)]) (((Fr.rf.call hq_4 (by decide) (by decide)).call hq_327 (by decide) (by decide)).call hq_334 (by decide) (by decide)) (by decide) (by decide)
          have g_341 : (G_332.1 66 2).toInt = (G_3.1 66 2).toInt := by rw [show G_332.1 66 2 = (G_3.1 66 2) from ((hq_334.i 66 2 (by decide) (by decide)).trans ((hq_327.i 66 2 (by decide) (by decide)).trans (rfl)))]
          have g_342 : (G_332.1 66 20).toInt = (G_3.1 66 20).toInt := by rw [show G_332.1 66 20 = (G_3.1 66 20) from ((hq_334.i 66 20 (by decide) (by decide)).trans ((hq_327.i 66 20 (by decide) (by decide)).trans (rfl)))]
          have g_343 : (G_332.1 66 23).toInt = (G_3.1 66 23).toInt := by rw [show G_332.1 66 23 = (G_3.1 66 23) from ((hq_334.i 66 23 (by decide) (by decide)).trans ((hq_327.i 66 23 (by decide) (by decide)).trans (rfl)))]
          have g_344 : (G_332.1 66 24).toInt = (G_3.1 66 24).toInt := by rw [show G_332.1 66 24 = (G_3.1 66 24) from ((hq_334.i 66 24 (by decide) (by decide)).trans ((hq_327.i 66 24 (by decide) (by decide)).trans (rfl)))]
          have g_345 : (G_332.1 66 23).toInt = (G_3.1 66 23).toInt := by rw [show G_332.1 66 23 = (G_3.1 66 23) from ((hq_334.i 66 23 (by decide) (by decide)).trans ((hq_327.i 66 23 (by decide) (by decide)).trans (rfl)))]
          have g_346 : (G_332.1 66 4).toInt = (G_3.1 66 4).toInt := by rw [show G_332.1 66 4 = (G_3.1 66 4) from ((hq_334.i 66 4 (by decide) (by decide)).trans ((hq_327.i 66 4 (by decide) (by decide)).trans (rfl)))]
          have g_347 : (G_332.1 66 6).toInt = (G_3.1 66 6).toInt := by rw [show G_332.1 66 6 = (G_3.1 66 6) from ((hq_334.i 66 6 (by decide) (by decide)).trans ((hq_327.i 66 6 (by decide) (by decide)).trans (rfl)))]
          have qc_348 : (0 : Int32).toInt = 0 := rfl
          exact ih_5 (9 - (G_332.1 66 24).toInt + 0 : Int).toNat (by omega) _ _ _ ⟨G_332, 0, (Int.toNat_of_nonneg (by omega)), ⟨by omega, by omega⟩, (by omega), (by omega), (by omega), hW, hB_G_332, hF, (((Fr.rf.call hq_4 (by decide) (by decide)).call hq_327 (by decide) (by decide)).call hq_334 (by decide) (by decide)), hS, lv_sub hl [0, 1] rfl⟩
        · have c_335 : (G_3.1 66 6).toInt = 40 := xI_eq rfl rfl c_335
          refine lv_aload_n hx hb dX12_unit_62 rfl (lv_at hl 1 rfl) ?_
          have g_349 : (G_332.1 66 23).toInt = (G_3.1 66 23).toInt := by rw [show G_332.1 66 23 = (G_3.1 66 23) from ((hq_334.i 66 23 (by decide) (by decide)).trans ((hq_327.i 66 23 (by decide) (by decide)).trans (rfl)))]
          refine S_calli (va_runV (As := []) (rest := []) ⟨hx, hb, hml, hown, hts⟩ (n_isFull l D k A a z G_332  ) (cwV 0 hts (gd_V hgd m1729 m1731 m73 m131 m1732) rfl rfl rfl (by decide +kernel) ⟨Nat.le_of_ble_eq_true rfl, Nat.le_of_ble_eq_true rfl⟩) (pre_V hW hB_G_332 hK hZ hS kd_66 rfl) rfl rfl hl.1 rfl (lv_room (Nat.le_of_ble_eq_true rfl)) dX12_unit_63 ⟨Nat.le_of_ble_eq_true rfl, Nat.le_of_ble_eq_true rfl⟩) hS (fun r_350 G_351 H locs hpo hW hS => ?_)
          obtain ⟨hB_G_351, hq_352, f_354, hp_353⟩ := hpo
          have hF := hF.call hq_352 (by decide) (by decide)
          refine lv_if_ne (tgt := 78) hx hb dX12_unit_66 (by decide) (fun c_355 => ?_) (fun c_355 => ?_)
          · have c_355 : r_350.toInt ≠ 0 := xI_ne rfl rfl c_355
            refine lv_aload_n hx hb dX12_unit_78 rfl (lv_at hl 1 rfl) ?_
            refine lv_iconst (v := 2) hx hb dX12_unit_79 (by decide) ?_
            have qc_356 : (2 : Int32).toInt = 2 := rfl
            refine S_callv (va_runV (As := [.int 2]) (rest := []) ⟨hx, hb, hml, hown, hts⟩ (n_wrong l D k A a z G_351 2 ⟨by decide, by decide⟩) (cwV 1 hts (gd_V hgd m1670 m1672 m59 m131 m1673) rfl rfl rfl (by decide +kernel) ⟨Nat.le_of_ble_eq_true rfl, Nat.le_of_ble_eq_true rfl⟩) (pre_V hW hB_G_351 hK hZ hS kd_66 rfl) rfl rfl hl.1 rfl (lv_room (Nat.le_of_ble_eq_true rfl)) dX12_unit_80 ⟨Nat.le_of_ble_eq_true rfl, Nat.le_of_ble_eq_true rfl⟩) hS (fun G_358 H locs hpo hW hS => ?_)
            obtain ⟨hB_G_358, hq_359, hp_360⟩ := hpo
            have hF := hF.call hq_359 (by decide) (by decide)
            refine lv_aload_n hx hb dX12_unit_83 rfl (lv_at hl 1 rfl) ?_
            have g_361 : (G_358.1 66 23).toInt = (G_3.1 66 23).toInt := by rw [show G_358.1 66 23 = (G_3.1 66 23) from ((hq_359.i 66 23 (by decide) (by decide)).trans ((hq_352.i 66 23 (by decide) (by decide)).trans ((hq_334.i 66 23 (by decide) (by decide)).trans ((hq_327.i 66 23 (by decide) (by decide)).trans (rfl)))))]
            have g_362 : (G_358.1 66 23).toInt = (G_3.1 66 23).toInt := by rw [show G_358.1 66 23 = (G_3.1 66 23) from ((hq_359.i 66 23 (by decide) (by decide)).trans ((hq_352.i 66 23 (by decide) (by decide)).trans ((hq_334.i 66 23 (by decide) (by decide)).trans ((hq_327.i 66 23 (by decide) (by decide)).trans (rfl)))))]
            refine S_callv (va_runV (As := []) (rest := []) ⟨hx, hb, hml, hown, hts⟩ (n_countUnit l D k A a z G_358  (by omega)) (cwV 0 hts (gd_V hgd m1733 m1735 m74 m131 m1736) rfl rfl rfl (by decide +kernel) ⟨Nat.le_of_ble_eq_true rfl, Nat.le_of_ble_eq_true rfl⟩) (pre_V hW hB_G_358 hK hZ hS kd_66 rfl) rfl rfl hl.1 rfl (lv_room (Nat.le_of_ble_eq_true rfl)) dX12_unit_84 ⟨Nat.le_of_ble_eq_true rfl, Nat.le_of_ble_eq_true rfl⟩) hS (fun G_364 H locs hpo hW hS => ?_)
            obtain ⟨hB_G_364, hq_365, hp_366⟩ := hpo
            have hF := hF.call hq_365 (by decide) (by decide)
            refine lv_aload_n hx hb dX12_unit_87 rfl (lv_at hl 1 rfl) ?_
            refine lv_bipush (v := 20) hx hb dX12_unit_88 (by decide) ?_
            have g_367 : (G_364.1 66 20).toInt = (G_3.1 66 20).toInt := by rw [show G_364.1 66 20 = (G_3.1 66 20) from ((hq_365.i 66 20 (by decide) (by decide)).trans ((hq_359.i 66 20 (by decide) (by decide)).trans ((hq_352.i 66 20 (by decide) (by decide)).trans ((hq_334.i 66 20 (by decide) (by decide)).trans ((hq_327.i 66 20 (by decide) (by decide)).trans (rfl))))))]
            have g_368 : (G_364.1 66 24).toInt = (G_3.1 66 24).toInt := by rw [show G_364.1 66 24 = (G_3.1 66 24) from ((hq_365.i 66 24 (by decide) (by decide)).trans ((hq_359.i 66 24 (by decide) (by decide)).trans ((hq_352.i 66 24 (by decide) (by decide)).trans ((hq_334.i 66 24 (by decide) (by decide)).trans ((hq_327.i 66 24 (by decide) (by decide)).trans (rfl))))))]
            have qc_369 : (20 : Int32).toInt = 20 := rfl
            have g_370 : gB G_364 = gB G_3 := gB_fr (rs := []) (fs := [(66, 2), (66, 3), (66, 21), (66, 23)]) (((((Fr.rf.call hq_327 (by decide) (by decide)).call hq_334 (by decide) (by decide)).call hq_352 (by decide) (by decide)).call hq_359 (by decide) (by decide)).call hq_365 (by decide) (by decide)) (by decide) (by decide)
            have g_371 : (G_364.1 66 20).toInt = (G_3.1 66 20).toInt := by rw [show G_364.1 66 20 = (G_3.1 66 20) from ((hq_365.i 66 20 (by decide) (by decide)).trans ((hq_359.i 66 20 (by decide) (by decide)).trans ((hq_352.i 66 20 (by decide) (by decide)).trans ((hq_334.i 66 20 (by decide) (by decide)).trans ((hq_327.i 66 20 (by decide) (by decide)).trans (rfl))))))]
            have g_372 : (G_364.1 66 24).toInt = (G_3.1 66 24).toInt := by rw [show G_364.1 66 24 = (G_3.1 66 24) from ((hq_365.i 66 24 (by decide) (by decide)).trans ((hq_359.i 66 24 (by decide) (by decide)).trans ((hq_352.i 66 24 (by decide) (by decide)).trans ((hq_334.i 66 24 (by decide) (by decide)).trans ((hq_327.i 66 24 (by decide) (by decide)).trans (rfl))))))]
            have g_373 : (G_364.1 66 4).toInt = (G_3.1 66 4).toInt := by rw [show G_364.1 66 4 = (G_3.1 66 4) from ((hq_365.i 66 4 (by decide) (by decide)).trans ((hq_359.i 66 4 (by decide) (by decide)).trans ((hq_352.i 66 4 (by decide) (by decide)).trans ((hq_334.i 66 4 (by decide) (by decide)).trans ((hq_327.i 66 4 (by decide) (by decide)).trans (rfl))))))]
            have g_374 : (G_364.1 66 6).toInt = (G_3.1 66 6).toInt := by rw [show G_364.1 66 6 = (G_3.1 66 6) from ((hq_365.i 66 6 (by decide) (by decide)).trans ((hq_359.i 66 6 (by decide) (by decide)).trans ((hq_352.i 66 6 (by decide) (by decide)).trans ((hq_334.i 66 6 (by decide) (by decide)).trans ((hq_327.i 66 6 (by decide) (by decide)).trans (rfl))))))]
            refine S_callv (va_runV (As := [.int 20]) (rest := []) ⟨hx, hb, hml, hown, hts⟩ (n_openUp l D k A a z G_364 20 ⟨by decide, by decide⟩ (by omega)) (cwV 1 hts (gd_V hgd m1725 m1727 m72 m131 m1728) rfl rfl rfl (by decide +kernel) ⟨Nat.le_of_ble_eq_true rfl, Nat.le_of_ble_eq_true rfl⟩) (pre_V hW hB_G_364 hK hZ hS kd_66 rfl) rfl rfl hl.1 rfl (lv_room (Nat.le_of_ble_eq_true rfl)) dX12_unit_90 ⟨Nat.le_of_ble_eq_true rfl, Nat.le_of_ble_eq_true rfl⟩) hS (fun G_376 H locs hpo hW hS => ?_)
            obtain ⟨hB_G_376, hq_377, hp_378⟩ := hpo
            have hF := hF.call hq_377 (by decide) (by decide)
            refine lv_goto (tgt := 2) hx hb dX12_unit_93 (by decide) ?_
            have b_379 : (-1) ≤ (G_376.1 66 24).toInt ∧ (G_376.1 66 24).toInt ≤ 200 := hB_G_376.i 66 24 rfl rfl
            have g_380 : gC G_376 = gC G := gC_fr (rs := [75]) (fs := [(66, 2), (66, 3), (66, 4), (66, 6), (66, 7), (66, 8), (66, 9), (66, 20), (66, 21), (66, 23), (66, 24)]) (((((((Fr.rf.call hq_4 (by decide) (by decide)).call hq_327 (by decide) (by decide)).call hq_334 (by decide) (by decide)).call hq_352 (by decide) (by decide)).call hq_359 (by decide) (by decide)).call hq_365 (by decide) (by decide)).call hq_377 (by decide) (by decide)) (by decide) (by decide)
            have g_381 : gD G_376 = gD G := gD_fr (rs := [75]) (fs := [(66, 2), (66, 3), (66, 4), (66, 6), (66, 7), (66, 8), (66, 9), (66, 20), (66, 21), (66, 23), (66, 24)]) (((((((Fr.rf.call hq_4 (by decide) (by decide)).call hq_327 (by decide) (by decide)).call hq_334 (by decide) (by decide)).call hq_352 (by decide) (by decide)).call hq_359 (by decide) (by decide)).call hq_365 (by decide) (by decide)).call hq_377 (by decide) (by decide)) (by decide) (by decide)
            have g_382 : gM G_376 = gM G := gM_fr (rs := [75]) (fs := [(66, 2), (66, 3), (66, 4), (66, 6), (66, 7), (66, 8), (66, 9), (66, 20), (66, 21), (66, 23), (66, 24)]) (((((((Fr.rf.call hq_4 (by decide) (by decide)).call hq_327 (by decide) (by decide)).call hq_334 (by decide) (by decide)).call hq_352 (by decide) (by decide)).call hq_359 (by decide) (by decide)).call hq_365 (by decide) (by decide)).call hq_377 (by decide) (by decide)) (by decide) (by decide)
            have b_383 : 0 ≤ (G_358.1 66 2).toInt ∧ (G_358.1 66 2).toInt ≤ 4 := hB_G_358.i 66 2 rfl rfl
            have g_384 : (G_376.1 66 2).toInt = (G_358.1 66 2).toInt := by rw [show G_376.1 66 2 = (G_358.1 66 2) from ((hq_377.i 66 2 (by decide) (by decide)).trans (hq_365.i 66 2 (by decide) (by decide)))]
            have b_385 : 0 ≤ (G_376.1 66 20).toInt ∧ (G_376.1 66 20).toInt ≤ 160 := hB_G_376.i 66 20 rfl rfl
            have b_386 : 0 ≤ (G_364.1 66 23).toInt ∧ (G_364.1 66 23).toInt ≤ 40 := hB_G_364.i 66 23 rfl rfl
            have g_387 : (G_376.1 66 23).toInt = (G_364.1 66 23).toInt := by rw [show G_376.1 66 23 = (G_364.1 66 23) from (hq_377.i 66 23 (by decide) (by decide))]
            have g_388 : (G_376.1 66 23).toInt = (G_364.1 66 23).toInt := by rw [show G_376.1 66 23 = (G_364.1 66 23) from ((hq_377.i 66 23 (by decide) (by decide)).trans (rfl))]
            have b_389 : 0 ≤ (G_376.1 66 4).toInt ∧ (G_376.1 66 4).toInt ≤ 1600 := hB_G_376.i 66 4 rfl rfl
            exact ih_5 (9 - (G_376.1 66 24).toInt + x_7.toInt : Int).toNat (by omega) _ _ _ ⟨G_376, x_7, (Int.toNat_of_nonneg (by omega)), ⟨by omega, by omega⟩, (by omega), (by omega), (by omega), hW, hB_G_376, hF, (((((((Fr.rf.call hq_4 (by decide) (by decide)).call hq_327 (by decide) (by decide)).call hq_334 (by decide) (by decide)).call hq_352 (by decide) (by decide)).call hq_359 (by decide) (by decide)).call hq_365 (by decide) (by decide)).call hq_377 (by decide) (by decide)), hS, lv_sub hl [0, 1] rfl⟩
          · have c_355 : r_350.toInt = 0 := xI_eq rfl rfl c_355
            refine lv_aload_n hx hb dX12_unit_69 rfl (lv_at hl 1 rfl) ?_
            refine S_getI (v := (G_3.1 66 24)) (C := RX12) (T := TX12) (N := 89) hx hb hg iX12 hown hK hW kd_66 rfl 24 (by decide) (hg (Cond.fieldLink RX12 309 "SlabWalkModel" "deep" "I") m1338) (fun _ h9 => h9) rfl ((hq_352.i 66 24 (by decide) (by decide)).trans ((hq_334.i 66 24 (by decide) (by decide)).trans ((hq_327.i 66 24 (by decide) (by decide)).trans (rfl)))) dX12_unit_70 ?_
            refine lv_bipush (v := 6) hx hb dX12_unit_73 (by decide) ?_
            refine lv_icmp_le (tgt := 83) hx hb dX12_unit_75 (by decide) (fun c_390 => ?_) (fun c_390 => ?_)
            · have c_390 : (G_3.1 66 24).toInt ≤ 6 := xI_le rfl rfl c_390
              refine lv_aload_n hx hb dX12_unit_83 rfl (lv_at hl 1 rfl) ?_
              have g_391 : (G_351.1 66 23).toInt = (G_3.1 66 23).toInt := by rw [show G_351.1 66 23 = (G_3.1 66 23) from ((hq_352.i 66 23 (by decide) (by decide)).trans ((hq_334.i 66 23 (by decide) (by decide)).trans ((hq_327.i 66 23 (by decide) (by decide)).trans (rfl))))]
              have g_392 : (G_351.1 66 23).toInt = (G_3.1 66 23).toInt := by rw [show G_351.1 66 23 = (G_3.1 66 23) from ((hq_352.i 66 23 (by decide) (by decide)).trans ((hq_334.i 66 23 (by decide) (by decide)).trans ((hq_327.i 66 23 (by decide) (by decide)).trans (rfl))))]
              refine S_callv (va_runV (As := []) (rest := []) ⟨hx, hb, hml, hown, hts⟩ (n_countUnit l D k A a z G_351  (by omega)) (cwV 0 hts (gd_V hgd m1733 m1735 m74 m131 m1736) rfl rfl rfl (by decide +kernel) ⟨Nat.le_of_ble_eq_true rfl, Nat.le_of_ble_eq_true rfl⟩) (pre_V hW hB_G_351 hK hZ hS kd_66 rfl) rfl rfl hl.1 rfl (lv_room (Nat.le_of_ble_eq_true rfl)) dX12_unit_84 ⟨Nat.le_of_ble_eq_true rfl, Nat.le_of_ble_eq_true rfl⟩) hS (fun G_394 H locs hpo hW hS => ?_)
              obtain ⟨hB_G_394, hq_395, hp_396⟩ := hpo
              have hF := hF.call hq_395 (by decide) (by decide)
              refine lv_aload_n hx hb dX12_unit_87 rfl (lv_at hl 1 rfl) ?_
              refine lv_bipush (v := 20) hx hb dX12_unit_88 (by decide) ?_
              have g_397 : (G_394.1 66 20).toInt = (G_3.1 66 20).toInt := by rw [show G_394.1 66 20 = (G_3.1 66 20) from ((hq_395.i 66 20 (by decide) (by decide)).trans ((hq_352.i 66 20 (by decide) (by decide)).trans ((hq_334.i 66 20 (by decide) (by decide)).trans ((hq_327.i 66 20 (by decide) (by decide)).trans (rfl)))))]
              have g_398 : (G_394.1 66 24).toInt = (G_3.1 66 24).toInt := by rw [show G_394.1 66 24 = (G_3.1 66 24) from ((hq_395.i 66 24 (by decide) (by decide)).trans ((hq_352.i 66 24 (by decide) (by decide)).trans ((hq_334.i 66 24 (by decide) (by decide)).trans ((hq_327.i 66 24 (by decide) (by decide)).trans (rfl)))))]
              have qc_399 : (20 : Int32).toInt = 20 := rfl
              have g_400 : gB G_394 = gB G_3 := gB_fr (rs := []) (fs := [(66, 21), (66, 23)]) ((((Fr.rf.call hq_327 (by decide) (by decide)).call hq_334 (by decide) (by decide)).call hq_352 (by decide) (by decide)).call hq_395 (by decide) (by decide)) (by decide) (by decide)
              have g_401 : (G_394.1 66 20).toInt = (G_3.1 66 20).toInt := by rw [show G_394.1 66 20 = (G_3.1 66 20) from ((hq_395.i 66 20 (by decide) (by decide)).trans ((hq_352.i 66 20 (by decide) (by decide)).trans ((hq_334.i 66 20 (by decide) (by decide)).trans ((hq_327.i 66 20 (by decide) (by decide)).trans (rfl)))))]
              have g_402 : (G_394.1 66 24).toInt = (G_3.1 66 24).toInt := by rw [show G_394.1 66 24 = (G_3.1 66 24) from ((hq_395.i 66 24 (by decide) (by decide)).trans ((hq_352.i 66 24 (by decide) (by decide)).trans ((hq_334.i 66 24 (by decide) (by decide)).trans ((hq_327.i 66 24 (by decide) (by decide)).trans (rfl)))))]
              have g_403 : (G_394.1 66 4).toInt = (G_3.1 66 4).toInt := by rw [show G_394.1 66 4 = (G_3.1 66 4) from ((hq_395.i 66 4 (by decide) (by decide)).trans ((hq_352.i 66 4 (by decide) (by decide)).trans ((hq_334.i 66 4 (by decide) (by decide)).trans ((hq_327.i 66 4 (by decide) (by decide)).trans (rfl)))))]
              have g_404 : (G_394.1 66 6).toInt = (G_3.1 66 6).toInt := by rw [show G_394.1 66 6 = (G_3.1 66 6) from ((hq_395.i 66 6 (by decide) (by decide)).trans ((hq_352.i 66 6 (by decide) (by decide)).trans ((hq_334.i 66 6 (by decide) (by decide)).trans ((hq_327.i 66 6 (by decide) (by decide)).trans (rfl)))))]
              refine S_callv (va_runV (As := [.int 20]) (rest := []) ⟨hx, hb, hml, hown, hts⟩ (n_openUp l D k A a z G_394 20 ⟨by decide, by decide⟩ (by omega)) (cwV 1 hts (gd_V hgd m1725 m1727 m72 m131 m1728) rfl rfl rfl (by decide +kernel) ⟨Nat.le_of_ble_eq_true rfl, Nat.le_of_ble_eq_true rfl⟩) (pre_V hW hB_G_394 hK hZ hS kd_66 rfl) rfl rfl hl.1 rfl (lv_room (Nat.le_of_ble_eq_true rfl)) dX12_unit_90 ⟨Nat.le_of_ble_eq_true rfl, Nat.le_of_ble_eq_true rfl⟩) hS (fun G_406 H locs hpo hW hS => ?_)
              obtain ⟨hB_G_406, hq_407, hp_408⟩ := hpo
              have hF := hF.call hq_407 (by decide) (by decide)
              refine lv_goto (tgt := 2) hx hb dX12_unit_93 (by decide) ?_
              have b_409 : (-1) ≤ (G_406.1 66 24).toInt ∧ (G_406.1 66 24).toInt ≤ 200 := hB_G_406.i 66 24 rfl rfl
              have g_410 : gC G_406 = gC G := gC_fr (rs := [75]) (fs := [(66, 2), (66, 3), (66, 4), (66, 6), (66, 7), (66, 8), (66, 9), (66, 20), (66, 21), (66, 23), (66, 24)]) ((((((Fr.rf.call hq_4 (by decide) (by decide)).call hq_327 (by decide) (by decide)).call hq_334 (by decide) (by decide)).call hq_352 (by decide) (by decide)).call hq_395 (by decide) (by decide)).call hq_407 (by decide) (by decide)) (by decide) (by decide)
              have g_411 : gD G_406 = gD G := gD_fr (rs := [75]) (fs := [(66, 2), (66, 3), (66, 4), (66, 6), (66, 7), (66, 8), (66, 9), (66, 20), (66, 21), (66, 23), (66, 24)]) ((((((Fr.rf.call hq_4 (by decide) (by decide)).call hq_327 (by decide) (by decide)).call hq_334 (by decide) (by decide)).call hq_352 (by decide) (by decide)).call hq_395 (by decide) (by decide)).call hq_407 (by decide) (by decide)) (by decide) (by decide)
              have g_412 : gM G_406 = gM G := gM_fr (rs := [75]) (fs := [(66, 2), (66, 3), (66, 4), (66, 6), (66, 7), (66, 8), (66, 9), (66, 20), (66, 21), (66, 23), (66, 24)]) ((((((Fr.rf.call hq_4 (by decide) (by decide)).call hq_327 (by decide) (by decide)).call hq_334 (by decide) (by decide)).call hq_352 (by decide) (by decide)).call hq_395 (by decide) (by decide)).call hq_407 (by decide) (by decide)) (by decide) (by decide)
              have g_413 : (G_406.1 66 2).toInt = (G_3.1 66 2).toInt := by rw [show G_406.1 66 2 = (G_3.1 66 2) from ((hq_407.i 66 2 (by decide) (by decide)).trans ((hq_395.i 66 2 (by decide) (by decide)).trans ((hq_352.i 66 2 (by decide) (by decide)).trans ((hq_334.i 66 2 (by decide) (by decide)).trans ((hq_327.i 66 2 (by decide) (by decide)).trans (rfl))))))]
              have b_414 : 0 ≤ (G_406.1 66 20).toInt ∧ (G_406.1 66 20).toInt ≤ 160 := hB_G_406.i 66 20 rfl rfl
              have b_415 : 0 ≤ (G_394.1 66 23).toInt ∧ (G_394.1 66 23).toInt ≤ 40 := hB_G_394.i 66 23 rfl rfl
              have g_416 : (G_406.1 66 23).toInt = (G_394.1 66 23).toInt := by rw [show G_406.1 66 23 = (G_394.1 66 23) from (hq_407.i 66 23 (by decide) (by decide))]
              have g_417 : (G_406.1 66 23).toInt = (G_394.1 66 23).toInt := by rw [show G_406.1 66 23 = (G_394.1 66 23) from ((hq_407.i 66 23 (by decide) (by decide)).trans (rfl))]
              have b_418 : 0 ≤ (G_406.1 66 4).toInt ∧ (G_406.1 66 4).toInt ≤ 1600 := hB_G_406.i 66 4 rfl rfl
              exact ih_5 (9 - (G_406.1 66 24).toInt + x_7.toInt : Int).toNat (by omega) _ _ _ ⟨G_406, x_7, (Int.toNat_of_nonneg (by omega)), ⟨by omega, by omega⟩, (by omega), (by omega), (by omega), hW, hB_G_406, hF, ((((((Fr.rf.call hq_4 (by decide) (by decide)).call hq_327 (by decide) (by decide)).call hq_334 (by decide) (by decide)).call hq_352 (by decide) (by decide)).call hq_395 (by decide) (by decide)).call hq_407 (by decide) (by decide)), hS, lv_sub hl [0, 1] rfl⟩
            · have c_390 : 6 < (G_3.1 66 24).toInt := xI_nle rfl rfl c_390
              refine lv_aload_n hx hb dX12_unit_78 rfl (lv_at hl 1 rfl) ?_
              refine lv_iconst (v := 2) hx hb dX12_unit_79 (by decide) ?_
              have qc_419 : (2 : Int32).toInt = 2 := rfl
              refine S_callv (va_runV (As := [.int 2]) (rest := []) ⟨hx, hb, hml, hown, hts⟩ (n_wrong l D k A a z G_351 2 ⟨by decide, by decide⟩) (cwV 1 hts (gd_V hgd m1670 m1672 m59 m131 m1673) rfl rfl rfl (by decide +kernel) ⟨Nat.le_of_ble_eq_true rfl, Nat.le_of_ble_eq_true rfl⟩) (pre_V hW hB_G_351 hK hZ hS kd_66 rfl) rfl rfl hl.1 rfl (lv_room (Nat.le_of_ble_eq_true rfl)) dX12_unit_80 ⟨Nat.le_of_ble_eq_true rfl, Nat.le_of_ble_eq_true rfl⟩) hS (fun G_421 H locs hpo hW hS => ?_)
              obtain ⟨hB_G_421, hq_422, hp_423⟩ := hpo
              have hF := hF.call hq_422 (by decide) (by decide)
              refine lv_aload_n hx hb dX12_unit_83 rfl (lv_at hl 1 rfl) ?_
              have g_424 : (G_421.1 66 23).toInt = (G_3.1 66 23).toInt := by rw [show G_421.1 66 23 = (G_3.1 66 23) from ((hq_422.i 66 23 (by decide) (by decide)).trans ((hq_352.i 66 23 (by decide) (by decide)).trans ((hq_334.i 66 23 (by decide) (by decide)).trans ((hq_327.i 66 23 (by decide) (by decide)).trans (rfl)))))]
              have g_425 : (G_421.1 66 23).toInt = (G_3.1 66 23).toInt := by rw [show G_421.1 66 23 = (G_3.1 66 23) from ((hq_422.i 66 23 (by decide) (by decide)).trans ((hq_352.i 66 23 (by decide) (by decide)).trans ((hq_334.i 66 23 (by decide) (by decide)).trans ((hq_327.i 66 23 (by decide) (by decide)).trans (rfl)))))]
              refine S_callv (va_runV (As := []) (rest := []) ⟨hx, hb, hml, hown, hts⟩ (n_countUnit l D k A a z G_421  (by omega)) (cwV 0 hts (gd_V hgd m1733 m1735 m74 m131 m1736) rfl rfl rfl (by decide +kernel) ⟨Nat.le_of_ble_eq_true rfl, Nat.le_of_ble_eq_true rfl⟩) (pre_V hW hB_G_421 hK hZ hS kd_66 rfl) rfl rfl hl.1 rfl (lv_room (Nat.le_of_ble_eq_true rfl)) dX12_unit_84 ⟨Nat.le_of_ble_eq_true rfl, Nat.le_of_ble_eq_true rfl⟩) hS (fun G_427 H locs hpo hW hS => ?_)
              obtain ⟨hB_G_427, hq_428, hp_429⟩ := hpo
              have hF := hF.call hq_428 (by decide) (by decide)
              refine lv_aload_n hx hb dX12_unit_87 rfl (lv_at hl 1 rfl) ?_
              refine lv_bipush (v := 20) hx hb dX12_unit_88 (by decide) ?_
              have g_430 : (G_427.1 66 20).toInt = (G_3.1 66 20).toInt := by rw [show G_427.1 66 20 = (G_3.1 66 20) from ((hq_428.i 66 20 (by decide) (by decide)).trans ((hq_422.i 66 20 (by decide) (by decide)).trans ((hq_352.i 66 20 (by decide) (by decide)).trans ((hq_334.i 66 20 (by decide) (by decide)).trans ((hq_327.i 66 20 (by decide) (by decide)).trans (rfl))))))]
              have g_431 : (G_427.1 66 24).toInt = (G_3.1 66 24).toInt := by rw [show G_427.1 66 24 = (G_3.1 66 24) from ((hq_428.i 66 24 (by decide) (by decide)).trans ((hq_422.i 66 24 (by decide) (by decide)).trans ((hq_352.i 66 24 (by decide) (by decide)).trans ((hq_334.i 66 24 (by decide) (by decide)).trans ((hq_327.i 66 24 (by decide) (by decide)).trans (rfl))))))]
              have qc_432 : (20 : Int32).toInt = 20 := rfl
              have g_433 : gB G_427 = gB G_3 := gB_fr (rs := []) (fs := [(66, 2), (66, 3), (66, 21), (66, 23)]) (((((Fr.rf.call hq_327 (by decide) (by decide)).call hq_334 (by decide) (by decide)).call hq_352 (by decide) (by decide)).call hq_422 (by decide) (by decide)).call hq_428 (by decide) (by decide)) (by decide) (by decide)
              have g_434 : (G_427.1 66 20).toInt = (G_3.1 66 20).toInt := by rw [show G_427.1 66 20 = (G_3.1 66 20) from ((hq_428.i 66 20 (by decide) (by decide)).trans ((hq_422.i 66 20 (by decide) (by decide)).trans ((hq_352.i 66 20 (by decide) (by decide)).trans ((hq_334.i 66 20 (by decide) (by decide)).trans ((hq_327.i 66 20 (by decide) (by decide)).trans (rfl))))))]
              have g_435 : (G_427.1 66 24).toInt = (G_3.1 66 24).toInt := by rw [show G_427.1 66 24 = (G_3.1 66 24) from ((hq_428.i 66 24 (by decide) (by decide)).trans ((hq_422.i 66 24 (by decide) (by decide)).trans ((hq_352.i 66 24 (by decide) (by decide)).trans ((hq_334.i 66 24 (by decide) (by decide)).trans ((hq_327.i 66 24 (by decide) (by decide)).trans (rfl))))))]
              have g_436 : (G_427.1 66 4).toInt = (G_3.1 66 4).toInt := by rw [show G_427.1 66 4 = (G_3.1 66 4) from ((hq_428.i 66 4 (by decide) (by decide)).trans ((hq_422.i 66 4 (by decide) (by decide)).trans ((hq_352.i 66 4 (by decide) (by decide)).trans ((hq_334.i 66 4 (by decide) (by decide)).trans ((hq_327.i 66 4 (by decide) (by decide)).trans (rfl))))))]
              have g_437 : (G_427.1 66 6).toInt = (G_3.1 66 6).toInt := by rw [show G_427.1 66 6 = (G_3.1 66 6) from ((hq_428.i 66 6 (by decide) (by decide)).trans ((hq_422.i 66 6 (by decide) (by decide)).trans ((hq_352.i 66 6 (by decide) (by decide)).trans ((hq_334.i 66 6 (by decide) (by decide)).trans ((hq_327.i 66 6 (by decide) (by decide)).trans (rfl))))))]
              refine S_callv (va_runV (As := [.int 20]) (rest := []) ⟨hx, hb, hml, hown, hts⟩ (n_openUp l D k A a z G_427 20 ⟨by decide, by decide⟩ (by omega)) (cwV 1 hts (gd_V hgd m1725 m1727 m72 m131 m1728) rfl rfl rfl (by decide +kernel) ⟨Nat.le_of_ble_eq_true rfl, Nat.le_of_ble_eq_true rfl⟩) (pre_V hW hB_G_427 hK hZ hS kd_66 rfl) rfl rfl hl.1 rfl (lv_room (Nat.le_of_ble_eq_true rfl)) dX12_unit_90 ⟨Nat.le_of_ble_eq_true rfl, Nat.le_of_ble_eq_true rfl⟩) hS (fun G_439 H locs hpo hW hS => ?_)
              obtain ⟨hB_G_439, hq_440, hp_441⟩ := hpo
              have hF := hF.call hq_440 (by decide) (by decide)
              refine lv_goto (tgt := 2) hx hb dX12_unit_93 (by decide) ?_
              have b_442 : (-1) ≤ (G_439.1 66 24).toInt ∧ (G_439.1 66 24).toInt ≤ 200 := hB_G_439.i 66 24 rfl rfl
              have g_443 : gC G_439 = gC G := gC_fr (rs := [75]) (fs := [(66, 2), (66, 3), (66, 4), (66, 6), (66, 7), (66, 8), (66, 9), (66, 20), (66, 21), (66, 23), (66, 24)]) (((((((Fr.rf.call hq_4 (by decide) (by decide)).call hq_327 (by decide) (by decide)).call hq_334 (by decide) (by decide)).call hq_352 (by decide) (by decide)).call hq_422 (by decide) (by decide)).call hq_428 (by decide) (by decide)).call hq_440 (by decide) (by decide)) (by decide) (by decide)
              have g_444 : gD G_439 = gD G := gD_fr (rs := [75]) (fs := [(66, 2), (66, 3), (66, 4), (66, 6), (66, 7), (66, 8), (66, 9), (66, 20), (66, 21), (66, 23), (66, 24)]) (((((((Fr.rf.call hq_4 (by decide) (by decide)).call hq_327 (by decide) (by decide)).call hq_334 (by decide) (by decide)).call hq_352 (by decide) (by decide)).call hq_422 (by decide) (by decide)).call hq_428 (by decide) (by decide)).call hq_440 (by decide) (by decide)) (by decide) (by decide)
              have g_445 : gM G_439 = gM G := gM_fr (rs := [75]) (fs := [(66, 2), (66, 3), (66, 4), (66, 6), (66, 7), (66, 8), (66, 9), (66, 20), (66, 21), (66, 23), (66, 24)]) (((((((Fr.rf.call hq_4 (by decide) (by decide)).call hq_327 (by decide) (by decide)).call hq_334 (by decide) (by decide)).call hq_352 (by decide) (by decide)).call hq_422 (by decide) (by decide)).call hq_428 (by decide) (by decide)).call hq_440 (by decide) (by decide)) (by decide) (by decide)
              have b_446 : 0 ≤ (G_421.1 66 2).toInt ∧ (G_421.1 66 2).toInt ≤ 4 := hB_G_421.i 66 2 rfl rfl
              have g_447 : (G_439.1 66 2).toInt = (G_421.1 66 2).toInt := by rw [show G_439.1 66 2 = (G_421.1 66 2) from ((hq_440.i 66 2 (by decide) (by decide)).trans (hq_428.i 66 2 (by decide) (by decide)))]
              have b_448 : 0 ≤ (G_439.1 66 20).toInt ∧ (G_439.1 66 20).toInt ≤ 160 := hB_G_439.i 66 20 rfl rfl
              have b_449 : 0 ≤ (G_427.1 66 23).toInt ∧ (G_427.1 66 23).toInt ≤ 40 := hB_G_427.i 66 23 rfl rfl
              have g_450 : (G_439.1 66 23).toInt = (G_427.1 66 23).toInt := by rw [show G_439.1 66 23 = (G_427.1 66 23) from (hq_440.i 66 23 (by decide) (by decide))]
              have g_451 : (G_439.1 66 23).toInt = (G_427.1 66 23).toInt := by rw [show G_439.1 66 23 = (G_427.1 66 23) from ((hq_440.i 66 23 (by decide) (by decide)).trans (rfl))]
              have b_452 : 0 ≤ (G_439.1 66 4).toInt ∧ (G_439.1 66 4).toInt ≤ 1600 := hB_G_439.i 66 4 rfl rfl
              exact ih_5 (9 - (G_439.1 66 24).toInt + x_7.toInt : Int).toNat (by omega) _ _ _ ⟨G_439, x_7, (Int.toNat_of_nonneg (by omega)), ⟨by omega, by omega⟩, (by omega), (by omega), (by omega), hW, hB_G_439, hF, (((((((Fr.rf.call hq_4 (by decide) (by decide)).call hq_327 (by decide) (by decide)).call hq_334 (by decide) (by decide)).call hq_352 (by decide) (by decide)).call hq_422 (by decide) (by decide)).call hq_428 (by decide) (by decide)).call hq_440 (by decide) (by decide)), hS, lv_sub hl [0, 1] rfl⟩
      refine lv_if_eq (tgt := 53) hx hb dX12_unit_20 (by decide) (fun c_453 => ?_) (fun c_453 => ?_)
      · have c_453 : r_325.toInt = 0 := xI_eq rfl rfl c_453
        exact hJ_333 () _ _ _ ⟨G_326, hW, hB_G_326, hF, Fr.rf, hS, lv_sub hl [0, 1] rfl⟩
      · have c_453 : r_325.toInt ≠ 0 := xI_ne rfl rfl c_453
        refine lv_aload_n hx hb dX12_unit_23 rfl (lv_at hl 1 rfl) ?_
        refine S_calli (va_runV (As := []) (rest := []) ⟨hx, hb, hml, hown, hts⟩ (n_mayNot l D k A a z G_326  ) (cwV 0 hts (gd_V hgd m1718 m1720 m71 m131 m1721) rfl rfl rfl (by decide +kernel) ⟨Nat.le_of_ble_eq_true rfl, Nat.le_of_ble_eq_true rfl⟩) (pre_V hW hB_G_326 hK hZ hS kd_66 rfl) rfl rfl hl.1 rfl (lv_room (Nat.le_of_ble_eq_true rfl)) dX12_unit_24 ⟨Nat.le_of_ble_eq_true rfl, Nat.le_of_ble_eq_true rfl⟩) hS (fun r_454 G_455 H locs hpo hW hS => ?_)
        obtain ⟨hB_G_455, hq_456, f_458⟩ := hpo
        have hF := hF.call hq_456 (by decide) (by decide)
        refine lv_if_eq (tgt := 53) hx hb dX12_unit_27 (by decide) (fun c_459 => ?_) (fun c_459 => ?_)
        · have c_459 : r_454.toInt = 0 := xI_eq rfl rfl c_459
          exact hJ_333 () _ _ _ ⟨G_455, hW, hB_G_455, hF, (Fr.rf.call hq_456 (by decide) (by decide)), hS, lv_sub hl [0, 1] rfl⟩
        · have c_459 : r_454.toInt ≠ 0 := xI_ne rfl rfl c_459
          refine lv_aload_n hx hb dX12_unit_30 rfl (lv_at hl 1 rfl) ?_
          refine S_getI (v := (G_3.1 66 24)) (C := RX12) (T := TX12) (N := 89) hx hb hg iX12 hown hK hW kd_66 rfl 24 (by decide) (hg (Cond.fieldLink RX12 309 "SlabWalkModel" "deep" "I") m1338) (fun _ h9 => h9) rfl ((hq_456.i 66 24 (by decide) (by decide)).trans ((hq_327.i 66 24 (by decide) (by decide)).trans (rfl))) dX12_unit_31 ?_
          refine lv_bipush (v := 6) hx hb dX12_unit_34 (by decide) ?_
          refine lv_icmp_le (tgt := 44) hx hb dX12_unit_36 (by decide) (fun c_460 => ?_) (fun c_460 => ?_)
          · have c_460 : (G_3.1 66 24).toInt ≤ 6 := xI_le rfl rfl c_460
            refine lv_aload_n hx hb dX12_unit_44 rfl (lv_at hl 1 rfl) ?_
            refine lv_bipush (v := 21) hx hb dX12_unit_45 (by decide) ?_
            have g_461 : (G_455.1 66 20).toInt = (G_3.1 66 20).toInt := by rw [show G_455.1 66 20 = (G_3.1 66 20) from ((hq_456.i 66 20 (by decide) (by decide)).trans ((hq_327.i 66 20 (by decide) (by decide)).trans (rfl)))]
            have g_462 : (G_455.1 66 24).toInt = (G_3.1 66 24).toInt := by rw [show G_455.1 66 24 = (G_3.1 66 24) from ((hq_456.i 66 24 (by decide) (by decide)).trans ((hq_327.i 66 24 (by decide) (by decide)).trans (rfl)))]
            have qc_463 : (21 : Int32).toInt = 21 := rfl
            have g_464 : gB G_455 = gB G_3 := gB_fr (rs := []) (fs := []) ((Fr.rf.call hq_327 (by decide) (by decide)).call hq_456 (by decide) (by decide)) (by decide) (by decide)
            have g_465 : (G_455.1 66 20).toInt = (G_3.1 66 20).toInt := by rw [show G_455.1 66 20 = (G_3.1 66 20) from ((hq_456.i 66 20 (by decide) (by decide)).trans ((hq_327.i 66 20 (by decide) (by decide)).trans (rfl)))]
            have g_466 : (G_455.1 66 24).toInt = (G_3.1 66 24).toInt := by rw [show G_455.1 66 24 = (G_3.1 66 24) from ((hq_456.i 66 24 (by decide) (by decide)).trans ((hq_327.i 66 24 (by decide) (by decide)).trans (rfl)))]
            have g_467 : (G_455.1 66 4).toInt = (G_3.1 66 4).toInt := by rw [show G_455.1 66 4 = (G_3.1 66 4) from ((hq_456.i 66 4 (by decide) (by decide)).trans ((hq_327.i 66 4 (by decide) (by decide)).trans (rfl)))]
            have g_468 : (G_455.1 66 6).toInt = (G_3.1 66 6).toInt := by rw [show G_455.1 66 6 = (G_3.1 66 6) from ((hq_456.i 66 6 (by decide) (by decide)).trans ((hq_327.i 66 6 (by decide) (by decide)).trans (rfl)))]
            refine S_callv (va_runV (As := [.int 21]) (rest := []) ⟨hx, hb, hml, hown, hts⟩ (n_openUp l D k A a z G_455 21 ⟨by decide, by decide⟩ (by omega)) (cwV 1 hts (gd_V hgd m1725 m1727 m72 m131 m1728) rfl rfl rfl (by decide +kernel) ⟨Nat.le_of_ble_eq_true rfl, Nat.le_of_ble_eq_true rfl⟩) (pre_V hW hB_G_455 hK hZ hS kd_66 rfl) rfl rfl hl.1 rfl (lv_room (Nat.le_of_ble_eq_true rfl)) dX12_unit_47 ⟨Nat.le_of_ble_eq_true rfl, Nat.le_of_ble_eq_true rfl⟩) hS (fun G_470 H locs hpo hW hS => ?_)
            obtain ⟨hB_G_470, hq_471, hp_472⟩ := hpo
            have hF := hF.call hq_471 (by decide) (by decide)
            refine lv_goto (tgt := 2) hx hb dX12_unit_50 (by decide) ?_
            have b_473 : (-1) ≤ (G_470.1 66 24).toInt ∧ (G_470.1 66 24).toInt ≤ 200 := hB_G_470.i 66 24 rfl rfl
            have g_474 : gC G_470 = gC G := gC_fr (rs := [75]) (fs := [(66, 2), (66, 3), (66, 4), (66, 6), (66, 7), (66, 8), (66, 9), (66, 20), (66, 21), (66, 23), (66, 24)]) ((((Fr.rf.call hq_4 (by decide) (by decide)).call hq_327 (by decide) (by decide)).call hq_456 (by decide) (by decide)).call hq_471 (by decide) (by decide)) (by decide) (by decide)
            have g_475 : gD G_470 = gD G := gD_fr (rs := [75]) (fs := [(66, 2), (66, 3), (66, 4), (66, 6), (66, 7), (66, 8), (66, 9), (66, 20), (66, 21), (66, 23), (66, 24)]) ((((Fr.rf.call hq_4 (by decide) (by decide)).call hq_327 (by decide) (by decide)).call hq_456 (by decide) (by decide)).call hq_471 (by decide) (by decide)) (by decide) (by decide)
            have g_476 : gM G_470 = gM G := gM_fr (rs := [75]) (fs := [(66, 2), (66, 3), (66, 4), (66, 6), (66, 7), (66, 8), (66, 9), (66, 20), (66, 21), (66, 23), (66, 24)]) ((((Fr.rf.call hq_4 (by decide) (by decide)).call hq_327 (by decide) (by decide)).call hq_456 (by decide) (by decide)).call hq_471 (by decide) (by decide)) (by decide) (by decide)
            have g_477 : (G_470.1 66 2).toInt = (G_3.1 66 2).toInt := by rw [show G_470.1 66 2 = (G_3.1 66 2) from ((hq_471.i 66 2 (by decide) (by decide)).trans ((hq_456.i 66 2 (by decide) (by decide)).trans ((hq_327.i 66 2 (by decide) (by decide)).trans (rfl))))]
            have b_478 : 0 ≤ (G_470.1 66 20).toInt ∧ (G_470.1 66 20).toInt ≤ 160 := hB_G_470.i 66 20 rfl rfl
            have g_479 : (G_470.1 66 23).toInt = (G_3.1 66 23).toInt := by rw [show G_470.1 66 23 = (G_3.1 66 23) from ((hq_471.i 66 23 (by decide) (by decide)).trans ((hq_456.i 66 23 (by decide) (by decide)).trans ((hq_327.i 66 23 (by decide) (by decide)).trans (rfl))))]
            have g_480 : (G_470.1 66 23).toInt = (G_3.1 66 23).toInt := by rw [show G_470.1 66 23 = (G_3.1 66 23) from ((hq_471.i 66 23 (by decide) (by decide)).trans ((hq_456.i 66 23 (by decide) (by decide)).trans ((hq_327.i 66 23 (by decide) (by decide)).trans (rfl))))]
            have b_481 : 0 ≤ (G_470.1 66 4).toInt ∧ (G_470.1 66 4).toInt ≤ 1600 := hB_G_470.i 66 4 rfl rfl
            exact ih_5 (9 - (G_470.1 66 24).toInt + x_7.toInt : Int).toNat (by omega) _ _ _ ⟨G_470, x_7, (Int.toNat_of_nonneg (by omega)), ⟨by omega, by omega⟩, (by omega), (by omega), (by omega), hW, hB_G_470, hF, ((((Fr.rf.call hq_4 (by decide) (by decide)).call hq_327 (by decide) (by decide)).call hq_456 (by decide) (by decide)).call hq_471 (by decide) (by decide)), hS, lv_sub hl [0, 1] rfl⟩
          · have c_460 : 6 < (G_3.1 66 24).toInt := xI_nle rfl rfl c_460
            refine lv_aload_n hx hb dX12_unit_39 rfl (lv_at hl 1 rfl) ?_
            refine lv_iconst (v := 2) hx hb dX12_unit_40 (by decide) ?_
            have qc_482 : (2 : Int32).toInt = 2 := rfl
            refine S_callv (va_runV (As := [.int 2]) (rest := []) ⟨hx, hb, hml, hown, hts⟩ (n_wrong l D k A a z G_455 2 ⟨by decide, by decide⟩) (cwV 1 hts (gd_V hgd m1670 m1672 m59 m131 m1673) rfl rfl rfl (by decide +kernel) ⟨Nat.le_of_ble_eq_true rfl, Nat.le_of_ble_eq_true rfl⟩) (pre_V hW hB_G_455 hK hZ hS kd_66 rfl) rfl rfl hl.1 rfl (lv_room (Nat.le_of_ble_eq_true rfl)) dX12_unit_41 ⟨Nat.le_of_ble_eq_true rfl, Nat.le_of_ble_eq_true rfl⟩) hS (fun G_484 H locs hpo hW hS => ?_)
            obtain ⟨hB_G_484, hq_485, hp_486⟩ := hpo
            have hF := hF.call hq_485 (by decide) (by decide)
            refine lv_aload_n hx hb dX12_unit_44 rfl (lv_at hl 1 rfl) ?_
            refine lv_bipush (v := 21) hx hb dX12_unit_45 (by decide) ?_
            have g_487 : (G_484.1 66 20).toInt = (G_3.1 66 20).toInt := by rw [show G_484.1 66 20 = (G_3.1 66 20) from ((hq_485.i 66 20 (by decide) (by decide)).trans ((hq_456.i 66 20 (by decide) (by decide)).trans ((hq_327.i 66 20 (by decide) (by decide)).trans (rfl))))]
            have g_488 : (G_484.1 66 24).toInt = (G_3.1 66 24).toInt := by rw [show G_484.1 66 24 = (G_3.1 66 24) from ((hq_485.i 66 24 (by decide) (by decide)).trans ((hq_456.i 66 24 (by decide) (by decide)).trans ((hq_327.i 66 24 (by decide) (by decide)).trans (rfl))))]
            have qc_489 : (21 : Int32).toInt = 21 := rfl
            have g_490 : gB G_484 = gB G_3 := gB_fr (rs := []) (fs := [(66, 2), (66, 3)]) (((Fr.rf.call hq_327 (by decide) (by decide)).call hq_456 (by decide) (by decide)).call hq_485 (by decide) (by decide)) (by decide) (by decide)
            have g_491 : (G_484.1 66 20).toInt = (G_3.1 66 20).toInt := by rw [show G_484.1 66 20 = (G_3.1 66 20) from ((hq_485.i 66 20 (by decide) (by decide)).trans ((hq_456.i 66 20 (by decide) (by decide)).trans ((hq_327.i 66 20 (by decide) (by decide)).trans (rfl))))]
            have g_492 : (G_484.1 66 24).toInt = (G_3.1 66 24).toInt := by rw [show G_484.1 66 24 = (G_3.1 66 24) from ((hq_485.i 66 24 (by decide) (by decide)).trans ((hq_456.i 66 24 (by decide) (by decide)).trans ((hq_327.i 66 24 (by decide) (by decide)).trans (rfl))))]
            have g_493 : (G_484.1 66 4).toInt = (G_3.1 66 4).toInt := by rw [show G_484.1 66 4 = (G_3.1 66 4) from ((hq_485.i 66 4 (by decide) (by decide)).trans ((hq_456.i 66 4 (by decide) (by decide)).trans ((hq_327.i 66 4 (by decide) (by decide)).trans (rfl))))]
            have g_494 : (G_484.1 66 6).toInt = (G_3.1 66 6).toInt := by rw [show G_484.1 66 6 = (G_3.1 66 6) from ((hq_485.i 66 6 (by decide) (by decide)).trans ((hq_456.i 66 6 (by decide) (by decide)).trans ((hq_327.i 66 6 (by decide) (by decide)).trans (rfl))))]
            refine S_callv (va_runV (As := [.int 21]) (rest := []) ⟨hx, hb, hml, hown, hts⟩ (n_openUp l D k A a z G_484 21 ⟨by decide, by decide⟩ (by omega)) (cwV 1 hts (gd_V hgd m1725 m1727 m72 m131 m1728) rfl rfl rfl (by decide +kernel) ⟨Nat.le_of_ble_eq_true rfl, Nat.le_of_ble_eq_true rfl⟩) (pre_V hW hB_G_484 hK hZ hS kd_66 rfl) rfl rfl hl.1 rfl (lv_room (Nat.le_of_ble_eq_true rfl)) dX12_unit_47 ⟨Nat.le_of_ble_eq_true rfl, Nat.le_of_ble_eq_true rfl⟩) hS (fun G_496 H locs hpo hW hS => ?_)
            obtain ⟨hB_G_496, hq_497, hp_498⟩ := hpo
            have hF := hF.call hq_497 (by decide) (by decide)
            refine lv_goto (tgt := 2) hx hb dX12_unit_50 (by decide) ?_
            have b_499 : (-1) ≤ (G_496.1 66 24).toInt ∧ (G_496.1 66 24).toInt ≤ 200 := hB_G_496.i 66 24 rfl rfl
            have g_500 : gC G_496 = gC G := gC_fr (rs := [75]) (fs := [(66, 2), (66, 3), (66, 4), (66, 6), (66, 7), (66, 8), (66, 9), (66, 20), (66, 21), (66, 23), (66, 24)]) (((((Fr.rf.call hq_4 (by decide) (by decide)).call hq_327 (by decide) (by decide)).call hq_456 (by decide) (by decide)).call hq_485 (by decide) (by decide)).call hq_497 (by decide) (by decide)) (by decide) (by decide)
            have g_501 : gD G_496 = gD G := gD_fr (rs := [75]) (fs := [(66, 2), (66, 3), (66, 4), (66, 6), (66, 7), (66, 8), (66, 9), (66, 20), (66, 21), (66, 23), (66, 24)]) (((((Fr.rf.call hq_4 (by decide) (by decide)).call hq_327 (by decide) (by decide)).call hq_456 (by decide) (by decide)).call hq_485 (by decide) (by decide)).call hq_497 (by decide) (by decide)) (by decide) (by decide)
            have g_502 : gM G_496 = gM G := gM_fr (rs := [75]) (fs := [(66, 2), (66, 3), (66, 4), (66, 6), (66, 7), (66, 8), (66, 9), (66, 20), (66, 21), (66, 23), (66, 24)]) (((((Fr.rf.call hq_4 (by decide) (by decide)).call hq_327 (by decide) (by decide)).call hq_456 (by decide) (by decide)).call hq_485 (by decide) (by decide)).call hq_497 (by decide) (by decide)) (by decide) (by decide)
            have b_503 : 0 ≤ (G_484.1 66 2).toInt ∧ (G_484.1 66 2).toInt ≤ 4 := hB_G_484.i 66 2 rfl rfl
            have g_504 : (G_496.1 66 2).toInt = (G_484.1 66 2).toInt := by rw [show G_496.1 66 2 = (G_484.1 66 2) from (hq_497.i 66 2 (by decide) (by decide))]
            have b_505 : 0 ≤ (G_496.1 66 20).toInt ∧ (G_496.1 66 20).toInt ≤ 160 := hB_G_496.i 66 20 rfl rfl
            have g_506 : (G_496.1 66 23).toInt = (G_3.1 66 23).toInt := by rw [show G_496.1 66 23 = (G_3.1 66 23) from ((hq_497.i 66 23 (by decide) (by decide)).trans ((hq_485.i 66 23 (by decide) (by decide)).trans ((hq_456.i 66 23 (by decide) (by decide)).trans ((hq_327.i 66 23 (by decide) (by decide)).trans (rfl)))))]
            have g_507 : (G_496.1 66 23).toInt = (G_3.1 66 23).toInt := by rw [show G_496.1 66 23 = (G_3.1 66 23) from ((hq_497.i 66 23 (by decide) (by decide)).trans ((hq_485.i 66 23 (by decide) (by decide)).trans ((hq_456.i 66 23 (by decide) (by decide)).trans ((hq_327.i 66 23 (by decide) (by decide)).trans (rfl)))))]
            have b_508 : 0 ≤ (G_496.1 66 4).toInt ∧ (G_496.1 66 4).toInt ≤ 1600 := hB_G_496.i 66 4 rfl rfl
            exact ih_5 (9 - (G_496.1 66 24).toInt + x_7.toInt : Int).toNat (by omega) _ _ _ ⟨G_496, x_7, (Int.toNat_of_nonneg (by omega)), ⟨by omega, by omega⟩, (by omega), (by omega), (by omega), hW, hB_G_496, hF, (((((Fr.rf.call hq_4 (by decide) (by decide)).call hq_327 (by decide) (by decide)).call hq_456 (by decide) (by decide)).call hq_485 (by decide) (by decide)).call hq_497 (by decide) (by decide)), hS, lv_sub hl [0, 1] rfl⟩

set_option maxHeartbeats 4000000 in
set_option maxRecDepth 100000 in
theorem n_formula (l : Launch) (D : va_G) (k : KT) (A : Nat → Prop) (a : Nat → Nat) (z : SK) (G : GS) (p0 : Int32) (ha_p0 : 0 ≤ p0.toInt ∧ p0.toInt ≤ 5) (hnf : (G.1 66 2).toInt = 0) (hE9 : gE G = 1) (hp9 : p0.toInt = (G.1 66 47).toInt) : Met l yX12_formula (WS yX12_formula cX12_formula 4 none) ({ frames := 4, cells := 0, slots := 0, locals := 86 }) (va_Pc [.ref (a 66), .int p0] (cW D k A a z G)) (va_Qv (fun (G1 : GS) => Bd G1 ∧ Fr [69, 70, 71, 75] [(66, 2), (66, 3), (66, 4), (66, 6), (66, 7), (66, 8), (66, 9), (66, 19), (66, 20), (66, 21), (66, 23), (66, 24)] G G1 ∧ ((G.1 66 4).toInt ≤ (G1.1 66 4).toInt ∧ ((G1.1 66 4).toInt = (G.1 66 4).toInt → (G1.1 66 6).toInt = (G.1 66 6).toInt ∨ (G1.1 66 6).toInt ≤ 3) ∧ ((G1.1 66 2).toInt = 0 → gC G1 = 1 ∧ (G1.1 66 19).toInt = p0.toInt))) (fun (G1 : GS) t => Wd D k A a G1 t.heap) A) 0 0 A := by
  refine Met.ofW (cc := cX12_formula) (maxL := 4) (ret := none) (by decide) rfl ?_
  intro p e s m args below meth c s₁ B hml hv
  obtain ⟨rfl, hW, hB_G, hK, hZ⟩ := hv
  have hx := B.exec
  have hb := B.bytes
  have hr := B.returns
  have hts := atoms_spec (ws := WS yX12_formula cX12_formula 4 none) B.pre
  have hgd : ∀ w ∈ gd, w ∈ WS yX12_formula cX12_formula 4 none := fun w h => List.mem_cons_of_mem _ h
  have hg : ∀ w ∈ gd, w.before _ s = true := fun w h => hts w (hgd w h)
  have hown : s.vm.findClass RX12 = some m.cls := findClass_of_methodNamed B.named
  have hS : va_S A s.heap s.heap [] := va_S.rf
  have hF : Fr [69, 70, 71, 75] [(66, 2), (66, 3), (66, 4), (66, 6), (66, 7), (66, 8), (66, 9), (66, 19), (66, 20), (66, 21), (66, 23), (66, 24)] G G := Fr.rf
  have hl := lv_entry ([.ref (a 66), .int p0]) (n := 4) (Nat.le_of_ble_eq_true rfl)
  rw [lg_entry_eq]
  generalize (lg_sl ([.ref (a 66), .int p0]) ++ List.replicate (4 - (lg_sl ([.ref (a 66), .int p0])).length) Slot.unset).toArray = ls at hl ⊢
  have hl : lv_has ls 4 [(0, .ref (a 66)), (1, .int p0)] := hl
  refine lv_aload_n hx hb dX12_formula_0 rfl (lv_at hl 0 rfl) ?_
  refine lv_iload_n hx hb dX12_formula_1 rfl (lv_at hl 1 rfl) ?_
  refine S_putI (ty := .int) (C := RX12) (T := TX12) (N := 89) hx hb hg iX12 tyX12 tyX12_ok nmX12 hown hK hW hS kd_66 rfl 19 (by decide) (hg (Cond.fieldLink RX12 296 "SlabWalkModel" "form" "I") m1333) (fun _ h9 => h9) rfl (by decide +kernel) rfl rfl rfl dX12_formula_2 (fun G_1 H locs eG_1 hW hS => ?_)
  have hB_G_1 : Bd G_1 := hB_G.put (V := p0.toInt) (lo := 0) (hi := 5) eG_1 rfl rfl rfl (by omega) (by omega) (hB_G.2.put eG_1 rfl)
  have hF := hF.put eG_1 (Or.inr (by decide))
  refine lv_aload_n hx hb dX12_formula_5 rfl (lv_at hl 0 rfl) ?_
  refine S_getR (n := 71) (C := RX12) (T := TX12) (N := 89) hx hb hg iX12 hown hK hW kd_66 rfl 13 (by decide) (hg (Cond.fieldLink RX12 27 "SlabWalkModel" "nMany" "[I") m1327) (fun _ h9 => h9) rfl dX12_formula_6 ?_
  refine lv_aload_n hx hb dX12_formula_9 rfl (lv_at hl 0 rfl) ?_
  refine S_getI (v := p0) (C := RX12) (T := TX12) (N := 89) hx hb hg iX12 hown hK hW kd_66 rfl 19 (by decide) (hg (Cond.fieldLink RX12 296 "SlabWalkModel" "form" "I") m1333) (fun _ h9 => h9) rfl (gp_eq eG_1) dX12_formula_10 ?_
  refine lv_iconst (v := 0) hx hb dX12_formula_13 (by decide) ?_
  refine S_iast hx hb hK hW hS kd_71 (vin (by omega) (by omega)) dX12_formula_14 (fun G_2 H locs eG_2 hW hS => ?_)
  have hB_G_2 : Bd G_2 := hB_G_1.put (V := 0) (lo := 0) (hi := 320) eG_2 rfl rfl rfl (by omega) (by omega) (hB_G_1.2.put eG_2 rfl)
  have hF := hF.put eG_2 (Or.inl (by decide))
  refine lv_aload_n hx hb dX12_formula_15 rfl (lv_at hl 0 rfl) ?_
  refine lv_iconst (v := 0) hx hb dX12_formula_16 (by decide) ?_
  refine S_putI (ty := .int) (C := RX12) (T := TX12) (N := 89) hx hb hg iX12 tyX12 tyX12_ok nmX12 hown hK hW hS kd_66 rfl 20 (by decide) (hg (Cond.fieldLink RX12 299 "SlabWalkModel" "opens" "I") m1334) (fun _ h9 => h9) rfl (by decide +kernel) rfl rfl rfl dX12_formula_17 (fun G_3 H locs eG_3 hW hS => ?_)
  have hB_G_3 : Bd G_3 := hB_G_2.put (V := 0) (lo := 0) (hi := 160) eG_3 rfl rfl rfl (by omega) (by omega) (hB_G_2.2.put eG_3 rfl)
  have hF := hF.put eG_3 (Or.inr (by decide))
  refine lv_aload_n hx hb dX12_formula_20 rfl (lv_at hl 0 rfl) ?_
  refine lv_iconst (v := 0) hx hb dX12_formula_21 (by decide) ?_
  refine S_putI (ty := .int) (C := RX12) (T := TX12) (N := 89) hx hb hg iX12 tyX12 tyX12_ok nmX12 hown hK hW hS kd_66 rfl 24 (by decide) (hg (Cond.fieldLink RX12 309 "SlabWalkModel" "deep" "I") m1338) (fun _ h9 => h9) rfl (by decide +kernel) rfl rfl rfl dX12_formula_22 (fun G_4 H locs eG_4 hW hS => ?_)
  have hB_G_4 : Bd G_4 := hB_G_3.put (V := 0) (lo := (-1)) (hi := 200) eG_4 rfl rfl rfl (by omega) (by omega) (hB_G_3.2.put eG_4 rfl)
  have hF := hF.put eG_4 (Or.inr (by decide))
  refine lv_aload_n hx hb dX12_formula_25 rfl (lv_at hl 0 rfl) ?_
  refine lv_iconst (v := 0) hx hb dX12_formula_26 (by decide) ?_
  refine S_putI (ty := .int) (C := RX12) (T := TX12) (N := 89) hx hb hg iX12 tyX12 tyX12_ok nmX12 hown hK hW hS kd_66 rfl 23 (by decide) (hg (Cond.fieldLink RX12 315 "SlabWalkModel" "ownUnits" "I") m1337) (fun _ h9 => h9) rfl (by decide +kernel) rfl rfl rfl dX12_formula_27 (fun G_5 H locs eG_5 hW hS => ?_)
  have hB_G_5 : Bd G_5 := hB_G_4.put (V := 0) (lo := 0) (hi := 40) eG_5 rfl rfl rfl (by omega) (by omega) (hB_G_4.2.put eG_5 rfl)
  have hF := hF.put eG_5 (Or.inr (by decide))
  have u_6 := form_gh (G := G) (G1 := G_5) hE9 ((gp_ne eG_5 (by decide)).trans ((gp_ne eG_4 (by decide)).trans ((gp_ne eG_3 (by decide)).trans ((gp_ne eG_2 (fun q => absurd q.1 (by decide))).trans (gp_eq eG_1))))) hp9 (fun j hj => ((gp_ne eG_5 (fun q => absurd q.1 (by decide))).trans ((gp_ne eG_4 (fun q => absurd q.1 (by decide))).trans ((gp_ne eG_3 (fun q => absurd q.1 (by decide))).trans ((gp_ne eG_2 (fun q => absurd q.1 (by decide))).trans (gp_ne eG_1 (fun q => absurd q.1 (by decide)))))))) (fun j hj => ((gp_ne eG_5 (fun q => absurd q.1 (by decide))).trans ((gp_ne eG_4 (fun q => absurd q.1 (by decide))).trans ((gp_ne eG_3 (fun q => absurd q.1 (by decide))).trans ((gp_ne eG_2 (fun q => hj q.2)).trans (gp_ne eG_1 (fun q => absurd q.1 (by decide)))))))) ((gp_ne eG_5 (fun q => absurd q.1 (by decide))).trans ((gp_ne eG_4 (fun q => absurd q.1 (by decide))).trans ((gp_ne eG_3 (fun q => absurd q.1 (by decide))).trans (gp_eq eG_2)))) ((gp_ne eG_5 (by decide)).trans ((gp_ne eG_4 (by decide)).trans (gp_eq eG_3)))
  refine lv_aload_n hx hb dX12_formula_30 rfl (lv_at hl 0 rfl) ?_
  have b_7 : 0 ≤ (G.1 66 2).toInt ∧ (G.1 66 2).toInt ≤ 4 := hB_G.i 66 2 rfl rfl
  have g_8 : (G_5.1 66 2).toInt = (G.1 66 2).toInt := by rw [show G_5.1 66 2 = (G.1 66 2) from ((gp_ne eG_5 (by decide)).trans ((gp_ne eG_4 (by decide)).trans ((gp_ne eG_3 (by decide)).trans ((gp_ne eG_2 (fun q => absurd q.1 (by decide))).trans (gp_ne eG_1 (by decide))))))]
  have g_9 : gB G_5 = gB G_3 := gB_fr (rs := []) (fs := [(66, 23), (66, 24)]) ((Fr.rf.put eG_4 (Or.inr (by decide))).put eG_5 (Or.inr (by decide))) (by decide) (by decide)
  have g_10 : gC G_5 = gC G_2 := gC_fr (rs := []) (fs := [(66, 20), (66, 23), (66, 24)]) (((Fr.rf.put eG_3 (Or.inr (by decide))).put eG_4 (Or.inr (by decide))).put eG_5 (Or.inr (by decide))) (by decide) (by decide)
  have g_11 : gD G_5 = gD G_2 := gD_fr (rs := []) (fs := [(66, 20), (66, 23), (66, 24)]) (((Fr.rf.put eG_3 (Or.inr (by decide))).put eG_4 (Or.inr (by decide))).put eG_5 (Or.inr (by decide))) (by decide) (by decide)
  have g_12 : gM G_5 = gM G_2 := gM_fr (rs := []) (fs := [(66, 20), (66, 23), (66, 24)]) (((Fr.rf.put eG_3 (Or.inr (by decide))).put eG_4 (Or.inr (by decide))).put eG_5 (Or.inr (by decide))) (by decide) (by decide)
  have g_13 : (G_5.1 66 20).toInt = 0 := by rw [show G_5.1 66 20 = 0 from ((gp_ne eG_5 (by decide)).trans ((gp_ne eG_4 (by decide)).trans (gp_eq eG_3)))]; rfl
  have g_14 : (G_5.1 66 23).toInt = 0 := by rw [show G_5.1 66 23 = 0 from (gp_eq eG_5)]; rfl
  have g_15 : (G_5.1 66 24).toInt = 0 := by rw [show G_5.1 66 24 = 0 from ((gp_ne eG_5 (by decide)).trans (gp_eq eG_4))]; rfl
  have g_16 : (G_5.1 66 23).toInt = 0 := by rw [show G_5.1 66 23 = 0 from (gp_eq eG_5)]; rfl
  have b_17 : 0 ≤ (G.1 66 4).toInt ∧ (G.1 66 4).toInt ≤ 1600 := hB_G.i 66 4 rfl rfl
  have g_18 : (G_5.1 66 4).toInt = (G.1 66 4).toInt := by rw [show G_5.1 66 4 = (G.1 66 4) from ((gp_ne eG_5 (by decide)).trans ((gp_ne eG_4 (by decide)).trans ((gp_ne eG_3 (by decide)).trans ((gp_ne eG_2 (fun q => absurd q.1 (by decide))).trans (gp_ne eG_1 (by decide))))))]
  have g_19 : (G_5.1 66 6).toInt = (G.1 66 6).toInt := by rw [show G_5.1 66 6 = (G.1 66 6) from ((gp_ne eG_5 (by decide)).trans ((gp_ne eG_4 (by decide)).trans ((gp_ne eG_3 (by decide)).trans ((gp_ne eG_2 (fun q => absurd q.1 (by decide))).trans (gp_ne eG_1 (by decide))))))]
  refine S_callv (va_runV (As := []) (rest := []) ⟨hx, hb, hml, hown, hts⟩ (n_unit l D k A a z G_5  (by omega) (by omega)) (cwV 0 hts (gd_V hgd m1714 m1716 m70 m131 m1717) rfl rfl rfl (by decide +kernel) ⟨Nat.le_of_ble_eq_true rfl, Nat.le_of_ble_eq_true rfl⟩) (pre_V hW hB_G_5 hK hZ hS kd_66 rfl) rfl rfl hl.1 rfl (lv_room (Nat.le_of_ble_eq_true rfl)) dX12_formula_31 ⟨Nat.le_of_ble_eq_true rfl, Nat.le_of_ble_eq_true rfl⟩) hS (fun G_21 H locs hpo hW hS => ?_)
  obtain ⟨hB_G_21, hq_22, hp_23⟩ := hpo
  have hF := hF.call hq_22 (by decide) (by decide)
  refine lv_iconst (v := 1) hx hb dX12_formula_34 (by decide) ?_
  refine lv_istore_n (lv' := [(2, .int 1), (0, .ref (a 66)), (1, .int p0)]) hx hb dX12_formula_35 rfl hl (by decide) rfl (fun ls hl => ?_)
  have b_29 : 0 ≤ (G_21.1 66 2).toInt ∧ (G_21.1 66 2).toInt ≤ 4 := hB_G_21.i 66 2 rfl rfl
  have b_30 : 0 ≤ (G_21.1 66 20).toInt ∧ (G_21.1 66 20).toInt ≤ 160 := hB_G_21.i 66 20 rfl rfl
  have b_31 : 0 ≤ (G_21.1 66 23).toInt ∧ (G_21.1 66 23).toInt ≤ 40 := hB_G_21.i 66 23 rfl rfl
  have b_32 : (-1) ≤ (G_21.1 66 24).toInt ∧ (G_21.1 66 24).toInt ≤ 200 := hB_G_21.i 66 24 rfl rfl
  have b_33 : 0 ≤ (G_21.1 66 4).toInt ∧ (G_21.1 66 4).toInt ≤ 1600 := hB_G_21.i 66 4 rfl rfl
  have qc_34 : (1 : Int32).toInt = 1 := rfl
  refine loop_N (Inv := fun n H locs ls => ∃ (G_24 : GS) (x_28 : Int32), (n : Int) = 4000 - 1000 * (G_24.1 66 2).toInt + 100 * (40 - (G_24.1 66 23).toInt) + (G_24.1 66 20).toInt + x_28.toInt ∧ (0 ≤ x_28.toInt ∧ x_28.toInt ≤ 1) ∧ ((G_24.1 66 2).toInt = 0 → gC G_24 = 1 ∧ gD G_24 = gB G_24 + 1 ∧ (G_24.1 66 24).toInt = (G_24.1 66 20).toInt - gB G_24 ∧ gD G_24 ≤ (G_24.1 66 23).toInt ∧ (G_24.1 66 23).toInt ≤ 30 ∧ gM G_24 + (G_24.1 66 20).toInt ≤ 10 * (G_24.1 66 23).toInt ∧ (G_24.1 66 24).toInt ≤ 7) ∧ ((G.1 66 4).toInt ≤ (G_24.1 66 4).toInt ∧ ((G_24.1 66 4).toInt = (G.1 66 4).toInt → (G_24.1 66 6).toInt = (G.1 66 6).toInt ∨ (G_24.1 66 6).toInt ≤ 3)) ∧ Wd D k A a G_24 H ∧ Bd G_24 ∧ Fr [69, 70, 71, 75] [(66, 2), (66, 3), (66, 4), (66, 6), (66, 7), (66, 8), (66, 9), (66, 19), (66, 20), (66, 21), (66, 23), (66, 24)] G G_24 ∧ Fr [69, 70, 71, 75] [(66, 2), (66, 3), (66, 4), (66, 6), (66, 7), (66, 8), (66, 9), (66, 20), (66, 21), (66, 23), (66, 24)] G_21 G_24 ∧ va_S A s.heap H locs ∧ lv_has ls 4 [(2, .int x_28), (0, .ref (a 66))]) (fun n_27 H locs ls ih_26 hI => ?_) (4000 - 1000 * (G_21.1 66 2).toInt + 100 * (40 - (G_21.1 66 23).toInt) + (G_21.1 66 20).toInt + 1 : Int).toNat ⟨G_21, 1, (Int.toNat_of_nonneg (by omega)), ⟨by omega, by omega⟩, (by omega), (by omega), hW, hB_G_21, hF, Fr.rf, hS, lv_sub hl [0, 1] rfl⟩
  obtain ⟨G_24, x_28, hn_38, f_35, f_36, f_37, hW, hB_G_24, hF, hq_25, hS, hl⟩ := hI
  have b_39 : 0 ≤ (G_24.1 66 2).toInt ∧ (G_24.1 66 2).toInt ≤ 4 := hB_G_24.i 66 2 rfl rfl
  have b_40 : 0 ≤ (G_24.1 66 20).toInt ∧ (G_24.1 66 20).toInt ≤ 160 := hB_G_24.i 66 20 rfl rfl
  have b_41 : 0 ≤ (G_24.1 66 23).toInt ∧ (G_24.1 66 23).toInt ≤ 40 := hB_G_24.i 66 23 rfl rfl
  have b_42 : (-1) ≤ (G_24.1 66 24).toInt ∧ (G_24.1 66 24).toInt ≤ 200 := hB_G_24.i 66 24 rfl rfl
  have b_43 : 0 ≤ (G_24.1 66 4).toInt ∧ (G_24.1 66 4).toInt ≤ 1600 := hB_G_24.i 66 4 rfl rfl
  have u_44 := gh_pos (G := G_24) (by omega)
  refine lv_iload_n hx hb dX12_formula_36 rfl (lv_at hl 0 rfl) ?_
  refine W.cut (σ := Unit) (pcJ := 163) (J := fun y H locs ls => ∃ (G_46 : GS), Wd D k A a G_46 H ∧ Bd G_46 ∧ Fr [69, 70, 71, 75] [(66, 2), (66, 3), (66, 4), (66, 6), (66, 7), (66, 8), (66, 9), (66, 19), (66, 20), (66, 21), (66, 23), (66, 24)] G G_46 ∧ Fr [] [] G_24 G_46 ∧ va_S A s.heap H locs ∧ lv_has ls 4 [(0, .ref (a 66))]) (stJ := fun _ => []) ?_ (fun hJ_47 => ?_)
  · intro y H locs ls hI
    obtain ⟨G_46, hW, hB_G_46, hF, hq_48, hS, hl⟩ := hI
    refine lv_aload_n hx hb dX12_formula_163 rfl (lv_at hl 0 rfl) ?_
    refine S_getI (v := (G_24.1 66 2)) (C := RX12) (T := TX12) (N := 89) hx hb hg iX12 hown hK hW kd_66 rfl 2 (by decide) (hg (Cond.fieldLink RX12 218 "SlabWalkModel" "fault" "I") m1316) (fun _ h9 => h9) rfl ((hq_48.i 66 2 (by decide) (by decide)).trans (rfl)) dX12_formula_164 ?_
    refine lv_if_ne (tgt := 182) hx hb dX12_formula_167 (by decide) (fun c_49 => ?_) (fun c_49 => ?_)
    · have c_49 : (G_24.1 66 2).toInt ≠ 0 := xI_ne rfl rfl c_49
      refine lv_aload_n hx hb dX12_formula_182 rfl (lv_at hl 0 rfl) ?_
      refine S_getI (v := (G_24.1 66 2)) (C := RX12) (T := TX12) (N := 89) hx hb hg iX12 hown hK hW kd_66 rfl 2 (by decide) (hg (Cond.fieldLink RX12 218 "SlabWalkModel" "fault" "I") m1316) (fun _ h9 => h9) rfl ((hq_48.i 66 2 (by decide) (by decide)).trans (rfl)) dX12_formula_183 ?_
      refine lv_if_ne (tgt := 194) hx hb dX12_formula_186 (by decide) (fun c_50 => ?_) (fun c_50 => ?_)
      · have c_50 : (G_24.1 66 2).toInt ≠ 0 := xI_ne rfl rfl c_50
        have g_51 : gC G_46 = gC G_24 := gC_fr (rs := []) (fs := []) (Fr.rf.call hq_48 (by decide) (by decide)) (by decide) (by decide)
        have g_52 : (G_46.1 66 19).toInt = p0.toInt := by rw [show G_46.1 66 19 = p0 from ((hq_48.i 66 19 (by decide) (by decide)).trans ((hq_25.i 66 19 (by decide) (by decide)).trans ((hq_22.i 66 19 (by decide) (by decide)).trans ((gp_ne eG_5 (by decide)).trans ((gp_ne eG_4 (by decide)).trans ((gp_ne eG_3 (by decide)).trans ((gp_ne eG_2 (fun q => absurd q.1 (by decide))).trans (gp_eq eG_1))))))))]
        have g_53 : (G_46.1 66 2).toInt = (G_24.1 66 2).toInt := by rw [show G_46.1 66 2 = (G_24.1 66 2) from ((hq_48.i 66 2 (by decide) (by decide)).trans (rfl))]
        have g_54 : (G_46.1 66 4).toInt = (G_24.1 66 4).toInt := by rw [show G_46.1 66 4 = (G_24.1 66 4) from ((hq_48.i 66 4 (by decide) (by decide)).trans (rfl))]
        have g_55 : (G_46.1 66 6).toInt = (G_24.1 66 6).toInt := by rw [show G_46.1 66 6 = (G_24.1 66 6) from ((hq_48.i 66 6 (by decide) (by decide)).trans (rfl))]
        exact W.vret hx hb hr (fun t ht _ => ⟨⟨G_46, rfl, ⟨hB_G_46, hF, (by omega)⟩, wd_t ht hW⟩, hS.F ht⟩) hS.2.2 dX12_formula_194
      · have c_50 : (G_24.1 66 2).toInt = 0 := xI_eq rfl rfl c_50
        exfalso; omega
    · have c_49 : (G_24.1 66 2).toInt = 0 := xI_eq rfl rfl c_49
      refine lv_aload_n hx hb dX12_formula_170 rfl (lv_at hl 0 rfl) ?_
      have g_56 : gK G_46 = gK G_24 := gK_fr (rs := []) (fs := []) (Fr.rf.call hq_48 (by decide) (by decide)) (by decide) (by decide)
      refine S_calli (va_runV (As := []) (rest := []) ⟨hx, hb, hml, hown, hts⟩ (n_hasBracket l D k A a z G_46  ) (cwV 0 hts (gd_V hgd m1749 m1751 m78 m131 m1752) rfl rfl rfl (by decide +kernel) ⟨Nat.le_of_ble_eq_true rfl, Nat.le_of_ble_eq_true rfl⟩) (pre_V hW hB_G_46 hK hZ hS kd_66 rfl) rfl rfl hl.1 rfl (lv_room (Nat.le_of_ble_eq_true rfl)) dX12_formula_171 ⟨Nat.le_of_ble_eq_true rfl, Nat.le_of_ble_eq_true rfl⟩) hS (fun r_57 G_58 H locs hpo hW hS => ?_)
      obtain ⟨hB_G_58, hq_59, f_61, hp_60⟩ := hpo
      have hF := hF.call hq_59 (by decide) (by decide)
      refine lv_if_eq (tgt := 182) hx hb dX12_formula_174 (by decide) (fun c_62 => ?_) (fun c_62 => ?_)
      · have c_62 : r_57.toInt = 0 := xI_eq rfl rfl c_62
        refine lv_aload_n hx hb dX12_formula_182 rfl (lv_at hl 0 rfl) ?_
        refine S_getI (v := (G_24.1 66 2)) (C := RX12) (T := TX12) (N := 89) hx hb hg iX12 hown hK hW kd_66 rfl 2 (by decide) (hg (Cond.fieldLink RX12 218 "SlabWalkModel" "fault" "I") m1316) (fun _ h9 => h9) rfl ((hq_59.i 66 2 (by decide) (by decide)).trans ((hq_48.i 66 2 (by decide) (by decide)).trans (rfl))) dX12_formula_183 ?_
        refine lv_if_ne (tgt := 194) hx hb dX12_formula_186 (by decide) (fun c_63 => ?_) (fun c_63 => ?_)
        · have c_63 : (G_24.1 66 2).toInt ≠ 0 := xI_ne rfl rfl c_63
          exfalso; omega
        · have c_63 : (G_24.1 66 2).toInt = 0 := xI_eq rfl rfl c_63
          refine lv_aload_n hx hb dX12_formula_189 rfl (lv_at hl 0 rfl) ?_
          refine lv_iconst (v := 0) hx hb dX12_formula_190 (by decide) ?_
          have g_64 : gB G_58 = gB G_24 := gB_fr (rs := []) (fs := []) ((Fr.rf.call hq_48 (by decide) (by decide)).call hq_59 (by decide) (by decide)) (by decide) (by decide)
          have g_65 : gC G_58 = gC G_24 := gC_fr (rs := []) (fs := []) ((Fr.rf.call hq_48 (by decide) (by decide)).call hq_59 (by decide) (by decide)) (by decide) (by decide)
          have g_66 : gD G_58 = gD G_24 := gD_fr (rs := []) (fs := []) ((Fr.rf.call hq_48 (by decide) (by decide)).call hq_59 (by decide) (by decide)) (by decide) (by decide)
          have g_67 : gM G_58 = gM G_24 := gM_fr (rs := []) (fs := []) ((Fr.rf.call hq_48 (by decide) (by decide)).call hq_59 (by decide) (by decide)) (by decide) (by decide)
          have g_68 : (G_58.1 66 20).toInt = (G_24.1 66 20).toInt := by rw [show G_58.1 66 20 = (G_24.1 66 20) from ((hq_59.i 66 20 (by decide) (by decide)).trans ((hq_48.i 66 20 (by decide) (by decide)).trans (rfl)))]
          have g_69 : (G_58.1 66 24).toInt = (G_24.1 66 24).toInt := by rw [show G_58.1 66 24 = (G_24.1 66 24) from ((hq_59.i 66 24 (by decide) (by decide)).trans ((hq_48.i 66 24 (by decide) (by decide)).trans (rfl)))]
          have qc_70 : (0 : Int32).toInt = 0 := rfl
          have g_71 : gK G_58 = gK G_24 := gK_fr (rs := []) (fs := []) ((Fr.rf.call hq_48 (by decide) (by decide)).call hq_59 (by decide) (by decide)) (by decide) (by decide)
          have g_72 : (G_58.1 66 20).toInt = (G_24.1 66 20).toInt := by rw [show G_58.1 66 20 = (G_24.1 66 20) from ((hq_59.i 66 20 (by decide) (by decide)).trans ((hq_48.i 66 20 (by decide) (by decide)).trans (rfl)))]
          have g_73 : (G_58.1 66 24).toInt = (G_24.1 66 24).toInt := by rw [show G_58.1 66 24 = (G_24.1 66 24) from ((hq_59.i 66 24 (by decide) (by decide)).trans ((hq_48.i 66 24 (by decide) (by decide)).trans (rfl)))]
          refine S_callv (va_runV (As := [.int 0]) (rest := []) ⟨hx, hb, hml, hown, hts⟩ (n_close l D k A a z G_58 0 (by omega)) (cwV 1 hts (gd_V hgd m1753 m1755 m79 m131 m1756) rfl rfl rfl (by decide +kernel) ⟨Nat.le_of_ble_eq_true rfl, Nat.le_of_ble_eq_true rfl⟩) (pre_V hW hB_G_58 hK hZ hS kd_66 rfl) rfl rfl hl.1 rfl (lv_room (Nat.le_of_ble_eq_true rfl)) dX12_formula_191 ⟨Nat.le_of_ble_eq_true rfl, Nat.le_of_ble_eq_true rfl⟩) hS (fun G_75 H locs hpo hW hS => ?_)
          obtain ⟨hB_G_75, hq_76, hp_77⟩ := hpo
          have hF := hF.call hq_76 (by decide) (by decide)
          have g_78 : (G_75.1 66 19).toInt = p0.toInt := by rw [show G_75.1 66 19 = p0 from ((hq_76.i 66 19 (by decide) (by decide)).trans ((hq_59.i 66 19 (by decide) (by decide)).trans ((hq_48.i 66 19 (by decide) (by decide)).trans ((hq_25.i 66 19 (by decide) (by decide)).trans ((hq_22.i 66 19 (by decide) (by decide)).trans ((gp_ne eG_5 (by decide)).trans ((gp_ne eG_4 (by decide)).trans ((gp_ne eG_3 (by decide)).trans ((gp_ne eG_2 (fun q => absurd q.1 (by decide))).trans (gp_eq eG_1))))))))))]
          have g_79 : (G_75.1 66 2).toInt = (G_24.1 66 2).toInt := by rw [show G_75.1 66 2 = (G_24.1 66 2) from ((hq_76.i 66 2 (by decide) (by decide)).trans ((hq_59.i 66 2 (by decide) (by decide)).trans ((hq_48.i 66 2 (by decide) (by decide)).trans (rfl))))]
          have g_80 : (G_75.1 66 4).toInt = (G_24.1 66 4).toInt := by rw [show G_75.1 66 4 = (G_24.1 66 4) from ((hq_76.i 66 4 (by decide) (by decide)).trans ((hq_59.i 66 4 (by decide) (by decide)).trans ((hq_48.i 66 4 (by decide) (by decide)).trans (rfl))))]
          have g_81 : (G_75.1 66 6).toInt = (G_24.1 66 6).toInt := by rw [show G_75.1 66 6 = (G_24.1 66 6) from ((hq_76.i 66 6 (by decide) (by decide)).trans ((hq_59.i 66 6 (by decide) (by decide)).trans ((hq_48.i 66 6 (by decide) (by decide)).trans (rfl))))]
          exact W.vret hx hb hr (fun t ht _ => ⟨⟨G_75, rfl, ⟨hB_G_75, hF, (by omega)⟩, wd_t ht hW⟩, hS.F ht⟩) hS.2.2 dX12_formula_194
      · have c_62 : r_57.toInt ≠ 0 := xI_ne rfl rfl c_62
        refine lv_aload_n hx hb dX12_formula_177 rfl (lv_at hl 0 rfl) ?_
        refine lv_iconst (v := 2) hx hb dX12_formula_178 (by decide) ?_
        have qc_82 : (2 : Int32).toInt = 2 := rfl
        refine S_callv (va_runV (As := [.int 2]) (rest := []) ⟨hx, hb, hml, hown, hts⟩ (n_wrong l D k A a z G_58 2 ⟨by decide, by decide⟩) (cwV 1 hts (gd_V hgd m1670 m1672 m59 m131 m1673) rfl rfl rfl (by decide +kernel) ⟨Nat.le_of_ble_eq_true rfl, Nat.le_of_ble_eq_true rfl⟩) (pre_V hW hB_G_58 hK hZ hS kd_66 rfl) rfl rfl hl.1 rfl (lv_room (Nat.le_of_ble_eq_true rfl)) dX12_formula_179 ⟨Nat.le_of_ble_eq_true rfl, Nat.le_of_ble_eq_true rfl⟩) hS (fun G_84 H locs hpo hW hS => ?_)
        obtain ⟨hB_G_84, hq_85, hp_86⟩ := hpo
        have hF := hF.call hq_85 (by decide) (by decide)
        refine lv_aload_n hx hb dX12_formula_182 rfl (lv_at hl 0 rfl) ?_
        have b_87 : 0 ≤ (G_84.1 66 2).toInt ∧ (G_84.1 66 2).toInt ≤ 4 := hB_G_84.i 66 2 rfl rfl
        refine S_getI (v := (G_84.1 66 2)) (C := RX12) (T := TX12) (N := 89) hx hb hg iX12 hown hK hW kd_66 rfl 2 (by decide) (hg (Cond.fieldLink RX12 218 "SlabWalkModel" "fault" "I") m1316) (fun _ h9 => h9) rfl rfl dX12_formula_183 ?_
        refine lv_if_ne (tgt := 194) hx hb dX12_formula_186 (by decide) (fun c_88 => ?_) (fun c_88 => ?_)
        · have c_88 : (G_84.1 66 2).toInt ≠ 0 := xI_ne rfl rfl c_88
          have g_89 : gC G_84 = gC G_24 := gC_fr (rs := []) (fs := [(66, 2), (66, 3)]) (((Fr.rf.call hq_48 (by decide) (by decide)).call hq_59 (by decide) (by decide)).call hq_85 (by decide) (by decide)) (by decide) (by decide)
          have g_90 : (G_84.1 66 19).toInt = p0.toInt := by rw [show G_84.1 66 19 = p0 from ((hq_85.i 66 19 (by decide) (by decide)).trans ((hq_59.i 66 19 (by decide) (by decide)).trans ((hq_48.i 66 19 (by decide) (by decide)).trans ((hq_25.i 66 19 (by decide) (by decide)).trans ((hq_22.i 66 19 (by decide) (by decide)).trans ((gp_ne eG_5 (by decide)).trans ((gp_ne eG_4 (by decide)).trans ((gp_ne eG_3 (by decide)).trans ((gp_ne eG_2 (fun q => absurd q.1 (by decide))).trans (gp_eq eG_1))))))))))]
          have g_91 : (G_84.1 66 4).toInt = (G_24.1 66 4).toInt := by rw [show G_84.1 66 4 = (G_24.1 66 4) from ((hq_85.i 66 4 (by decide) (by decide)).trans ((hq_59.i 66 4 (by decide) (by decide)).trans ((hq_48.i 66 4 (by decide) (by decide)).trans (rfl))))]
          have g_92 : (G_84.1 66 6).toInt = (G_24.1 66 6).toInt := by rw [show G_84.1 66 6 = (G_24.1 66 6) from ((hq_85.i 66 6 (by decide) (by decide)).trans ((hq_59.i 66 6 (by decide) (by decide)).trans ((hq_48.i 66 6 (by decide) (by decide)).trans (rfl))))]
          exact W.vret hx hb hr (fun t ht _ => ⟨⟨G_84, rfl, ⟨hB_G_84, hF, (by omega)⟩, wd_t ht hW⟩, hS.F ht⟩) hS.2.2 dX12_formula_194
        · have c_88 : (G_84.1 66 2).toInt = 0 := xI_eq rfl rfl c_88
          refine lv_aload_n hx hb dX12_formula_189 rfl (lv_at hl 0 rfl) ?_
          refine lv_iconst (v := 0) hx hb dX12_formula_190 (by decide) ?_
          have g_93 : gB G_84 = gB G_24 := gB_fr (rs := []) (fs := [(66, 2), (66, 3)]) (((Fr.rf.call hq_48 (by decide) (by decide)).call hq_59 (by decide) (by decide)).call hq_85 (by decide) (by decide)) (by decide) (by decide)
          have g_94 : gC G_84 = gC G_24 := gC_fr (rs := []) (fs := [(66, 2), (66, 3)]) (((Fr.rf.call hq_48 (by decide) (by decide)).call hq_59 (by decide) (by decide)).call hq_85 (by decide) (by decide)) (by decide) (by decide)
          have g_95 : gD G_84 = gD G_24 := gD_fr (rs := []) (fs := [(66, 2), (66, 3)]) (((Fr.rf.call hq_48 (by decide) (by decide)).call hq_59 (by decide) (by decide)).call hq_85 (by decide) (by decide)) (by decide) (by decide)
          have g_96 : gM G_84 = gM G_24 := gM_fr (rs := []) (fs := [(66, 2), (66, 3)]) (((Fr.rf.call hq_48 (by decide) (by decide)).call hq_59 (by decide) (by decide)).call hq_85 (by decide) (by decide)) (by decide) (by decide)
          have g_97 : (G_84.1 66 20).toInt = (G_24.1 66 20).toInt := by rw [show G_84.1 66 20 = (G_24.1 66 20) from ((hq_85.i 66 20 (by decide) (by decide)).trans ((hq_59.i 66 20 (by decide) (by decide)).trans ((hq_48.i 66 20 (by decide) (by decide)).trans (rfl))))]
          have g_98 : (G_84.1 66 24).toInt = (G_24.1 66 24).toInt := by rw [show G_84.1 66 24 = (G_24.1 66 24) from ((hq_85.i 66 24 (by decide) (by decide)).trans ((hq_59.i 66 24 (by decide) (by decide)).trans ((hq_48.i 66 24 (by decide) (by decide)).trans (rfl))))]
          have qc_99 : (0 : Int32).toInt = 0 := rfl
          have g_100 : gK G_84 = gK G_24 := gK_fr (rs := []) (fs := [(66, 2), (66, 3)]) (((Fr.rf.call hq_48 (by decide) (by decide)).call hq_59 (by decide) (by decide)).call hq_85 (by decide) (by decide)) (by decide) (by decide)
          have g_101 : (G_84.1 66 20).toInt = (G_24.1 66 20).toInt := by rw [show G_84.1 66 20 = (G_24.1 66 20) from ((hq_85.i 66 20 (by decide) (by decide)).trans ((hq_59.i 66 20 (by decide) (by decide)).trans ((hq_48.i 66 20 (by decide) (by decide)).trans (rfl))))]
          have g_102 : (G_84.1 66 24).toInt = (G_24.1 66 24).toInt := by rw [show G_84.1 66 24 = (G_24.1 66 24) from ((hq_85.i 66 24 (by decide) (by decide)).trans ((hq_59.i 66 24 (by decide) (by decide)).trans ((hq_48.i 66 24 (by decide) (by decide)).trans (rfl))))]
          refine S_callv (va_runV (As := [.int 0]) (rest := []) ⟨hx, hb, hml, hown, hts⟩ (n_close l D k A a z G_84 0 (by omega)) (cwV 1 hts (gd_V hgd m1753 m1755 m79 m131 m1756) rfl rfl rfl (by decide +kernel) ⟨Nat.le_of_ble_eq_true rfl, Nat.le_of_ble_eq_true rfl⟩) (pre_V hW hB_G_84 hK hZ hS kd_66 rfl) rfl rfl hl.1 rfl (lv_room (Nat.le_of_ble_eq_true rfl)) dX12_formula_191 ⟨Nat.le_of_ble_eq_true rfl, Nat.le_of_ble_eq_true rfl⟩) hS (fun G_104 H locs hpo hW hS => ?_)
          obtain ⟨hB_G_104, hq_105, hp_106⟩ := hpo
          have hF := hF.call hq_105 (by decide) (by decide)
          have g_107 : (G_104.1 66 19).toInt = p0.toInt := by rw [show G_104.1 66 19 = p0 from ((hq_105.i 66 19 (by decide) (by decide)).trans ((hq_85.i 66 19 (by decide) (by decide)).trans ((hq_59.i 66 19 (by decide) (by decide)).trans ((hq_48.i 66 19 (by decide) (by decide)).trans ((hq_25.i 66 19 (by decide) (by decide)).trans ((hq_22.i 66 19 (by decide) (by decide)).trans ((gp_ne eG_5 (by decide)).trans ((gp_ne eG_4 (by decide)).trans ((gp_ne eG_3 (by decide)).trans ((gp_ne eG_2 (fun q => absurd q.1 (by decide))).trans (gp_eq eG_1)))))))))))]
          have g_108 : (G_104.1 66 2).toInt = (G_84.1 66 2).toInt := by rw [show G_104.1 66 2 = (G_84.1 66 2) from ((hq_105.i 66 2 (by decide) (by decide)).trans (rfl))]
          have g_109 : (G_104.1 66 4).toInt = (G_24.1 66 4).toInt := by rw [show G_104.1 66 4 = (G_24.1 66 4) from ((hq_105.i 66 4 (by decide) (by decide)).trans ((hq_85.i 66 4 (by decide) (by decide)).trans ((hq_59.i 66 4 (by decide) (by decide)).trans ((hq_48.i 66 4 (by decide) (by decide)).trans (rfl)))))]
          have g_110 : (G_104.1 66 6).toInt = (G_24.1 66 6).toInt := by rw [show G_104.1 66 6 = (G_24.1 66 6) from ((hq_105.i 66 6 (by decide) (by decide)).trans ((hq_85.i 66 6 (by decide) (by decide)).trans ((hq_59.i 66 6 (by decide) (by decide)).trans ((hq_48.i 66 6 (by decide) (by decide)).trans (rfl)))))]
          exact W.vret hx hb hr (fun t ht _ => ⟨⟨G_104, rfl, ⟨hB_G_104, hF, (by omega)⟩, wd_t ht hW⟩, hS.F ht⟩) hS.2.2 dX12_formula_194
  refine lv_if_eq (tgt := 163) hx hb dX12_formula_37 (by decide) (fun c_111 => ?_) (fun c_111 => ?_)
  · have c_111 : x_28.toInt = 0 := xI_eq rfl rfl c_111
    exact hJ_47 () _ _ _ ⟨G_24, hW, hB_G_24, hF, Fr.rf, hS, lv_sub hl [1] rfl⟩
  · have c_111 : x_28.toInt ≠ 0 := xI_ne rfl rfl c_111
    refine lv_aload_n hx hb dX12_formula_40 rfl (lv_at hl 1 rfl) ?_
    refine S_getI (v := (G_24.1 66 2)) (C := RX12) (T := TX12) (N := 89) hx hb hg iX12 hown hK hW kd_66 rfl 2 (by decide) (hg (Cond.fieldLink RX12 218 "SlabWalkModel" "fault" "I") m1316) (fun _ h9 => h9) rfl rfl dX12_formula_41 ?_
    refine lv_if_ne (tgt := 163) hx hb dX12_formula_44 (by decide) (fun c_112 => ?_) (fun c_112 => ?_)
    · have c_112 : (G_24.1 66 2).toInt ≠ 0 := xI_ne rfl rfl c_112
      exact hJ_47 () _ _ _ ⟨G_24, hW, hB_G_24, hF, Fr.rf, hS, lv_sub hl [1] rfl⟩
    · have c_112 : (G_24.1 66 2).toInt = 0 := xI_eq rfl rfl c_112
      refine lv_aload_n hx hb dX12_formula_47 rfl (lv_at hl 1 rfl) ?_
      refine S_calli (va_runV (As := []) (rest := []) ⟨hx, hb, hml, hown, hts⟩ (n_signOf l D k A a z G_24  ) (cwV 0 hts (gd_V hgd m1745 m1747 m77 m131 m1748) rfl rfl rfl (by decide +kernel) ⟨Nat.le_of_ble_eq_true rfl, Nat.le_of_ble_eq_true rfl⟩) (pre_V hW hB_G_24 hK hZ hS kd_66 rfl) rfl rfl hl.1 rfl (lv_room (Nat.le_of_ble_eq_true rfl)) dX12_formula_48 ⟨Nat.le_of_ble_eq_true rfl, Nat.le_of_ble_eq_true rfl⟩) hS (fun r_113 G_114 H locs hpo hW hS => ?_)
      obtain ⟨hB_G_114, hq_115, f_117, hp_116⟩ := hpo
      have hF := hF.call hq_115 (by decide) (by decide)
      refine lv_istore_n (lv' := [(3, .int r_113), (2, .int x_28), (0, .ref (a 66))]) hx hb dX12_formula_51 rfl hl (by decide) rfl (fun ls hl => ?_)
      refine lv_aload_n hx hb dX12_formula_52 rfl (lv_at hl 2 rfl) ?_
      refine S_getI (v := (G_24.1 66 6)) (C := RX12) (T := TX12) (N := 89) hx hb hg iX12 hown hK hW kd_66 rfl 6 (by decide) (hg (Cond.fieldLink RX12 205 "SlabWalkModel" "sort" "I") m1320) (fun _ h9 => h9) rfl ((hq_115.i 66 6 (by decide) (by decide)).trans (rfl)) dX12_formula_53 ?_
      refine lv_bipush (v := 41) hx hb dX12_formula_56 (by decide) ?_
      refine W.cut (σ := Unit) (pcJ := 100) (J := fun y H locs ls => ∃ (G_121 : GS), Wd D k A a G_121 H ∧ Bd G_121 ∧ Fr [69, 70, 71, 75] [(66, 2), (66, 3), (66, 4), (66, 6), (66, 7), (66, 8), (66, 9), (66, 19), (66, 20), (66, 21), (66, 23), (66, 24)] G G_121 ∧ Fr [] [] G_114 G_121 ∧ va_S A s.heap H locs ∧ lv_has ls 4 [(3, .int r_113), (2, .int x_28), (0, .ref (a 66))]) (stJ := fun _ => []) ?_ (fun hJ_122 => ?_)
      · intro y H locs ls hI
        obtain ⟨G_121, hW, hB_G_121, hF, hq_123, hS, hl⟩ := hI
        refine lv_iload_n hx hb dX12_formula_100 rfl (lv_at hl 0 rfl) ?_
        refine lv_if_eq (tgt := 158) hx hb dX12_formula_101 (by decide) (fun c_124 => ?_) (fun c_124 => ?_)
        · have c_124 : r_113.toInt = 0 := xI_eq rfl rfl c_124
          refine lv_iconst (v := 0) hx hb dX12_formula_158 (by decide) ?_
          refine lv_istore_n (lv' := [(2, .int 0), (3, .int r_113), (0, .ref (a 66))]) hx hb dX12_formula_159 rfl hl (by decide) rfl (fun ls hl => ?_)
          refine lv_goto (tgt := 36) hx hb dX12_formula_160 (by decide) ?_
          have g_125 : (G_121.1 66 2).toInt = (G_24.1 66 2).toInt := by rw [show G_121.1 66 2 = (G_24.1 66 2) from ((hq_123.i 66 2 (by decide) (by decide)).trans ((hq_115.i 66 2 (by decide) (by decide)).trans (rfl)))]
          have g_126 : (G_121.1 66 20).toInt = (G_24.1 66 20).toInt := by rw [show G_121.1 66 20 = (G_24.1 66 20) from ((hq_123.i 66 20 (by decide) (by decide)).trans ((hq_115.i 66 20 (by decide) (by decide)).trans (rfl)))]
          have g_127 : (G_121.1 66 23).toInt = (G_24.1 66 23).toInt := by rw [show G_121.1 66 23 = (G_24.1 66 23) from ((hq_123.i 66 23 (by decide) (by decide)).trans ((hq_115.i 66 23 (by decide) (by decide)).trans (rfl)))]
          have g_128 : gB G_121 = gB G_24 := gB_fr (rs := []) (fs := []) ((Fr.rf.call hq_115 (by decide) (by decide)).call hq_123 (by decide) (by decide)) (by decide) (by decide)
          have g_129 : gC G_121 = gC G_24 := gC_fr (rs := []) (fs := []) ((Fr.rf.call hq_115 (by decide) (by decide)).call hq_123 (by decide) (by decide)) (by decide) (by decide)
          have g_130 : gD G_121 = gD G_24 := gD_fr (rs := []) (fs := []) ((Fr.rf.call hq_115 (by decide) (by decide)).call hq_123 (by decide) (by decide)) (by decide) (by decide)
          have g_131 : gM G_121 = gM G_24 := gM_fr (rs := []) (fs := []) ((Fr.rf.call hq_115 (by decide) (by decide)).call hq_123 (by decide) (by decide)) (by decide) (by decide)
          have g_132 : (G_121.1 66 2).toInt = (G_24.1 66 2).toInt := by rw [show G_121.1 66 2 = (G_24.1 66 2) from ((hq_123.i 66 2 (by decide) (by decide)).trans ((hq_115.i 66 2 (by decide) (by decide)).trans (rfl)))]
          have g_133 : (G_121.1 66 20).toInt = (G_24.1 66 20).toInt := by rw [show G_121.1 66 20 = (G_24.1 66 20) from ((hq_123.i 66 20 (by decide) (by decide)).trans ((hq_115.i 66 20 (by decide) (by decide)).trans (rfl)))]
          have g_134 : (G_121.1 66 23).toInt = (G_24.1 66 23).toInt := by rw [show G_121.1 66 23 = (G_24.1 66 23) from ((hq_123.i 66 23 (by decide) (by decide)).trans ((hq_115.i 66 23 (by decide) (by decide)).trans (rfl)))]
          have g_135 : (G_121.1 66 24).toInt = (G_24.1 66 24).toInt := by rw [show G_121.1 66 24 = (G_24.1 66 24) from ((hq_123.i 66 24 (by decide) (by decide)).trans ((hq_115.i 66 24 (by decide) (by decide)).trans (rfl)))]
          have g_136 : (G_121.1 66 4).toInt = (G_24.1 66 4).toInt := by rw [show G_121.1 66 4 = (G_24.1 66 4) from ((hq_123.i 66 4 (by decide) (by decide)).trans ((hq_115.i 66 4 (by decide) (by decide)).trans (rfl)))]
          have g_137 : (G_121.1 66 6).toInt = (G_24.1 66 6).toInt := by rw [show G_121.1 66 6 = (G_24.1 66 6) from ((hq_123.i 66 6 (by decide) (by decide)).trans ((hq_115.i 66 6 (by decide) (by decide)).trans (rfl)))]
          have qc_138 : (0 : Int32).toInt = 0 := rfl
          exact ih_26 (4000 - 1000 * (G_121.1 66 2).toInt + 100 * (40 - (G_121.1 66 23).toInt) + (G_121.1 66 20).toInt + 0 : Int).toNat (by omega) _ _ _ ⟨G_121, 0, (Int.toNat_of_nonneg (by omega)), ⟨by omega, by omega⟩, (by omega), (by omega), hW, hB_G_121, hF, (((Fr.rf.call hq_25 (by decide) (by decide)).call hq_115 (by decide) (by decide)).call hq_123 (by decide) (by decide)), hS, lv_sub hl [0, 2] rfl⟩
        · have c_124 : r_113.toInt ≠ 0 := xI_ne rfl rfl c_124
          refine lv_iload_n hx hb dX12_formula_104 rfl (lv_at hl 0 rfl) ?_
          refine S_calli (va_runS (As := [.int r_113]) (rest := []) ⟨hx, hb, hml, hown, hts⟩ (n_tight l D k A a z G_121 r_113 ) (va_cwS 1 hts (gd_S hgd m1722 m1723 m131 m1724) rfl rfl rfl (by decide +kernel) ⟨Nat.le_of_ble_eq_true rfl, Nat.le_of_ble_eq_true rfl⟩) (pre_S hW hB_G_121 hK hZ hS) rfl rfl hl.1 rfl (lv_room (Nat.le_of_ble_eq_true rfl)) dX12_formula_105 ⟨Nat.le_of_ble_eq_true rfl, Nat.le_of_ble_eq_true rfl⟩) hS (fun r_139 G_140 H locs hpo hW hS => ?_)
          obtain ⟨hB_G_140, hq_141, f_143⟩ := hpo
          have hF := hF.call hq_141 (by decide) (by decide)
          refine lv_iconst (v := 4) hx hb dX12_formula_108 (by decide) ?_
          refine W.cut (σ := Unit) (pcJ := 119) (J := fun y H locs ls => ∃ (G_147 : GS), Wd D k A a G_147 H ∧ Bd G_147 ∧ Fr [69, 70, 71, 75] [(66, 2), (66, 3), (66, 4), (66, 6), (66, 7), (66, 8), (66, 9), (66, 19), (66, 20), (66, 21), (66, 23), (66, 24)] G G_147 ∧ Fr [] [] G_140 G_147 ∧ va_S A s.heap H locs ∧ lv_has ls 4 [(3, .int r_113), (2, .int x_28), (0, .ref (a 66))]) (stJ := fun _ => []) ?_ (fun hJ_148 => ?_)
          · intro y H locs ls hI
            obtain ⟨G_147, hW, hB_G_147, hF, hq_149, hS, hl⟩ := hI
            refine lv_aload_n hx hb dX12_formula_119 rfl (lv_at hl 2 rfl) ?_
            refine lv_iload_n hx hb dX12_formula_120 rfl (lv_at hl 0 rfl) ?_
            refine S_calli (va_runS (As := [.int r_113]) (rest := [.ref (a 66)]) ⟨hx, hb, hml, hown, hts⟩ (n_tight l D k A a z G_147 r_113 ) (va_cwS 1 hts (gd_S hgd m1722 m1723 m131 m1724) rfl rfl rfl (by decide +kernel) ⟨Nat.le_of_ble_eq_true rfl, Nat.le_of_ble_eq_true rfl⟩) (pre_S hW hB_G_147 hK hZ hS) rfl rfl hl.1 rfl (lv_room (Nat.le_of_ble_eq_true rfl)) dX12_formula_121 ⟨Nat.le_of_ble_eq_true rfl, Nat.le_of_ble_eq_true rfl⟩) hS (fun r_150 G_151 H locs hpo hW hS => ?_)
            obtain ⟨hB_G_151, hq_152, f_154⟩ := hpo
            have hF := hF.call hq_152 (by decide) (by decide)
            have g_155 : gB G_151 = gB G_24 := gB_fr (rs := []) (fs := []) (((((Fr.rf.call hq_115 (by decide) (by decide)).call hq_123 (by decide) (by decide)).call hq_141 (by decide) (by decide)).call hq_149 (by decide) (by decide)).call hq_152 (by decide) (by decide)) (by decide) (by decide)
            have g_156 : gC G_151 = gC G_24 := gC_fr (rs := []) (fs := []) (((((Fr.rf.call hq_115 (by decide) (by decide)).call hq_123 (by decide) (by decide)).call hq_141 (by decide) (by decide)).call hq_149 (by decide) (by decide)).call hq_152 (by decide) (by decide)) (by decide) (by decide)
            have g_157 : gD G_151 = gD G_24 := gD_fr (rs := []) (fs := []) (((((Fr.rf.call hq_115 (by decide) (by decide)).call hq_123 (by decide) (by decide)).call hq_141 (by decide) (by decide)).call hq_149 (by decide) (by decide)).call hq_152 (by decide) (by decide)) (by decide) (by decide)
            have g_158 : gM G_151 = gM G_24 := gM_fr (rs := []) (fs := []) (((((Fr.rf.call hq_115 (by decide) (by decide)).call hq_123 (by decide) (by decide)).call hq_141 (by decide) (by decide)).call hq_149 (by decide) (by decide)).call hq_152 (by decide) (by decide)) (by decide) (by decide)
            have g_159 : (G_151.1 66 20).toInt = (G_24.1 66 20).toInt := by rw [show G_151.1 66 20 = (G_24.1 66 20) from ((hq_152.i 66 20 (by decide) (by decide)).trans ((hq_149.i 66 20 (by decide) (by decide)).trans ((hq_141.i 66 20 (by decide) (by decide)).trans ((hq_123.i 66 20 (by decide) (by decide)).trans ((hq_115.i 66 20 (by decide) (by decide)).trans (rfl))))))]
            have g_160 : (G_151.1 66 24).toInt = (G_24.1 66 24).toInt := by rw [show G_151.1 66 24 = (G_24.1 66 24) from ((hq_152.i 66 24 (by decide) (by decide)).trans ((hq_149.i 66 24 (by decide) (by decide)).trans ((hq_141.i 66 24 (by decide) (by decide)).trans ((hq_123.i 66 24 (by decide) (by decide)).trans ((hq_115.i 66 24 (by decide) (by decide)).trans (rfl))))))]
            have g_161 : gK G_151 = gK G_24 := gK_fr (rs := []) (fs := []) (((((Fr.rf.call hq_115 (by decide) (by decide)).call hq_123 (by decide) (by decide)).call hq_141 (by decide) (by decide)).call hq_149 (by decide) (by decide)).call hq_152 (by decide) (by decide)) (by decide) (by decide)
            have g_162 : (G_151.1 66 20).toInt = (G_24.1 66 20).toInt := by rw [show G_151.1 66 20 = (G_24.1 66 20) from ((hq_152.i 66 20 (by decide) (by decide)).trans ((hq_149.i 66 20 (by decide) (by decide)).trans ((hq_141.i 66 20 (by decide) (by decide)).trans ((hq_123.i 66 20 (by decide) (by decide)).trans ((hq_115.i 66 20 (by decide) (by decide)).trans (rfl))))))]
            have g_163 : (G_151.1 66 24).toInt = (G_24.1 66 24).toInt := by rw [show G_151.1 66 24 = (G_24.1 66 24) from ((hq_152.i 66 24 (by decide) (by decide)).trans ((hq_149.i 66 24 (by decide) (by decide)).trans ((hq_141.i 66 24 (by decide) (by decide)).trans ((hq_123.i 66 24 (by decide) (by decide)).trans ((hq_115.i 66 24 (by decide) (by decide)).trans (rfl))))))]
            refine S_callv (va_runV (As := [.int r_150]) (rest := []) ⟨hx, hb, hml, hown, hts⟩ (n_close l D k A a z G_151 r_150 (by omega)) (cwV 1 hts (gd_V hgd m1753 m1755 m79 m131 m1756) rfl rfl rfl (by decide +kernel) ⟨Nat.le_of_ble_eq_true rfl, Nat.le_of_ble_eq_true rfl⟩) (pre_V hW hB_G_151 hK hZ hS kd_66 rfl) rfl rfl hl.1 rfl (lv_room (Nat.le_of_ble_eq_true rfl)) dX12_formula_124 ⟨Nat.le_of_ble_eq_true rfl, Nat.le_of_ble_eq_true rfl⟩) hS (fun G_165 H locs hpo hW hS => ?_)
            obtain ⟨hB_G_165, hq_166, hp_167⟩ := hpo
            have hF := hF.call hq_166 (by decide) (by decide)
            refine lv_aload_n hx hb dX12_formula_127 rfl (lv_at hl 2 rfl) ?_
            refine S_getR (n := 75) (C := RX12) (T := TX12) (N := 89) hx hb hg iX12 hown hK hW kd_66 rfl 17 (by decide) (hg (Cond.fieldLink RX12 39 "SlabWalkModel" "open" "[I") m1331) (fun _ h9 => h9) rfl dX12_formula_128 ?_
            refine lv_aload_n hx hb dX12_formula_131 rfl (lv_at hl 2 rfl) ?_
            have b_168 : 0 ≤ (G_165.1 66 20).toInt ∧ (G_165.1 66 20).toInt ≤ 160 := hB_G_165.i 66 20 rfl rfl
            refine S_getI (v := (G_165.1 66 20)) (C := RX12) (T := TX12) (N := 89) hx hb hg iX12 hown hK hW kd_66 rfl 20 (by decide) (hg (Cond.fieldLink RX12 299 "SlabWalkModel" "opens" "I") m1334) (fun _ h9 => h9) rfl rfl dX12_formula_132 ?_
            refine lv_iload_n hx hb dX12_formula_135 rfl (lv_at hl 0 rfl) ?_
            refine S_iast hx hb hK hW hS kd_75 (vin (by omega) (by omega)) dX12_formula_136 (fun G_169 H locs eG_169 hW hS => ?_)
            have hB_G_169 : Bd G_169 := hB_G_165.put (lo := (-2147483648)) (hi := 2147483647) eG_169 rfl rfl rfl (tI_rng _).1 (tI_rng _).2 (hB_G_165.2.put eG_169 rfl)
            have hF := hF.put eG_169 (Or.inl (by decide))
            refine lv_aload_n hx hb dX12_formula_137 rfl (lv_at hl 2 rfl) ?_
            refine lv_dup hx hb dX12_formula_138 rfl ?_
            refine S_getI (v := (G_165.1 66 20)) (C := RX12) (T := TX12) (N := 89) hx hb hg iX12 hown hK hW kd_66 rfl 20 (by decide) (hg (Cond.fieldLink RX12 299 "SlabWalkModel" "opens" "I") m1334) (fun _ h9 => h9) rfl ((gp_ne eG_169 (fun q => absurd q.1 (by decide))).trans (rfl)) dX12_formula_139 ?_
            refine lv_iconst (v := 1) hx hb dX12_formula_142 (by decide) ?_
            refine lv_iadd hx hb dX12_formula_143 ?_
            refine lv_topi (fun y_170 ey_170 => ?_)
            have ty_170 : y_170.toInt = (G_165.1 66 20).toInt + 1 := xI_add rfl rfl ey_170 (by omega) (by omega)
            refine S_putI (ty := .int) (C := RX12) (T := TX12) (N := 89) hx hb hg iX12 tyX12 tyX12_ok nmX12 hown hK hW hS kd_66 rfl 20 (by decide) (hg (Cond.fieldLink RX12 299 "SlabWalkModel" "opens" "I") m1334) (fun _ h9 => h9) rfl (by decide +kernel) rfl rfl rfl dX12_formula_144 (fun G_171 H locs eG_171 hW hS => ?_)
            have hB_G_171 : Bd G_171 := hB_G_169.put (V := y_170.toInt) (lo := 0) (hi := 160) eG_171 rfl rfl rfl (by omega) (by omega) (hB_G_169.2.put eG_171 rfl)
            have hF := hF.put eG_171 (Or.inr (by decide))
            have u_172 := gh_push eG_169 eG_171 (by omega) (by omega) (by omega)
            refine lv_aload_n hx hb dX12_formula_147 rfl (lv_at hl 2 rfl) ?_
            have g_173 : (G_171.1 66 4).toInt = (G_24.1 66 4).toInt := by rw [show G_171.1 66 4 = (G_24.1 66 4) from ((gp_ne eG_171 (by decide)).trans ((gp_ne eG_169 (fun q => absurd q.1 (by decide))).trans ((hq_166.i 66 4 (by decide) (by decide)).trans ((hq_152.i 66 4 (by decide) (by decide)).trans ((hq_149.i 66 4 (by decide) (by decide)).trans ((hq_141.i 66 4 (by decide) (by decide)).trans ((hq_123.i 66 4 (by decide) (by decide)).trans ((hq_115.i 66 4 (by decide) (by decide)).trans (rfl)))))))))]
            have g_174 : (G_171.1 66 6).toInt = (G_24.1 66 6).toInt := by rw [show G_171.1 66 6 = (G_24.1 66 6) from ((gp_ne eG_171 (by decide)).trans ((gp_ne eG_169 (fun q => absurd q.1 (by decide))).trans ((hq_166.i 66 6 (by decide) (by decide)).trans ((hq_152.i 66 6 (by decide) (by decide)).trans ((hq_149.i 66 6 (by decide) (by decide)).trans ((hq_141.i 66 6 (by decide) (by decide)).trans ((hq_123.i 66 6 (by decide) (by decide)).trans ((hq_115.i 66 6 (by decide) (by decide)).trans (rfl)))))))))]
            refine S_callv (va_runV (As := []) (rest := []) ⟨hx, hb, hml, hown, hts⟩ (n_token l D k A a z G_171  ) (cwV 0 hts (gd_V hgd m1602 m1604 m50 m131 m1605) rfl rfl rfl (by decide +kernel) ⟨Nat.le_of_ble_eq_true rfl, Nat.le_of_ble_eq_true rfl⟩) (pre_V hW hB_G_171 hK hZ hS kd_66 rfl) rfl rfl hl.1 rfl (lv_room (Nat.le_of_ble_eq_true rfl)) dX12_formula_148 ⟨Nat.le_of_ble_eq_true rfl, Nat.le_of_ble_eq_true rfl⟩) hS (fun G_176 H locs hpo hW hS => ?_)
            obtain ⟨hB_G_176, hq_177, hp_178⟩ := hpo
            have hF := hF.call hq_177 (by decide) (by decide)
            refine lv_aload_n hx hb dX12_formula_151 rfl (lv_at hl 2 rfl) ?_
            have g_179 : (G_176.1 66 2).toInt = (G_24.1 66 2).toInt := by rw [show G_176.1 66 2 = (G_24.1 66 2) from ((hq_177.i 66 2 (by decide) (by decide)).trans ((gp_ne eG_171 (by decide)).trans ((gp_ne eG_169 (fun q => absurd q.1 (by decide))).trans ((hq_166.i 66 2 (by decide) (by decide)).trans ((hq_152.i 66 2 (by decide) (by decide)).trans ((hq_149.i 66 2 (by decide) (by decide)).trans ((hq_141.i 66 2 (by decide) (by decide)).trans ((hq_123.i 66 2 (by decide) (by decide)).trans ((hq_115.i 66 2 (by decide) (by decide)).trans (rfl))))))))))]
            have g_180 : gB G_176 = gB G_171 := gB_fr (rs := []) (fs := [(66, 4), (66, 6), (66, 7), (66, 8), (66, 9)]) (Fr.rf.call hq_177 (by decide) (by decide)) (by decide) (by decide)
            have g_181 : gC G_176 = gC G_165 := gC_fr (rs := [75]) (fs := [(66, 4), (66, 6), (66, 7), (66, 8), (66, 9), (66, 20)]) (((Fr.rf.put eG_169 (Or.inl (by decide))).put eG_171 (Or.inr (by decide))).call hq_177 (by decide) (by decide)) (by decide) (by decide)
            have g_182 : gD G_176 = gD G_165 := gD_fr (rs := [75]) (fs := [(66, 4), (66, 6), (66, 7), (66, 8), (66, 9), (66, 20)]) (((Fr.rf.put eG_169 (Or.inl (by decide))).put eG_171 (Or.inr (by decide))).call hq_177 (by decide) (by decide)) (by decide) (by decide)
            have g_183 : gM G_176 = gM G_165 := gM_fr (rs := [75]) (fs := [(66, 4), (66, 6), (66, 7), (66, 8), (66, 9), (66, 20)]) (((Fr.rf.put eG_169 (Or.inl (by decide))).put eG_171 (Or.inr (by decide))).call hq_177 (by decide) (by decide)) (by decide) (by decide)
            have g_184 : (G_176.1 66 20).toInt = y_170.toInt := by rw [show G_176.1 66 20 = y_170 from ((hq_177.i 66 20 (by decide) (by decide)).trans (gp_eq eG_171))]
            have g_185 : (G_176.1 66 23).toInt = (G_24.1 66 23).toInt := by rw [show G_176.1 66 23 = (G_24.1 66 23) from ((hq_177.i 66 23 (by decide) (by decide)).trans ((gp_ne eG_171 (by decide)).trans ((gp_ne eG_169 (fun q => absurd q.1 (by decide))).trans ((hq_166.i 66 23 (by decide) (by decide)).trans ((hq_152.i 66 23 (by decide) (by decide)).trans ((hq_149.i 66 23 (by decide) (by decide)).trans ((hq_141.i 66 23 (by decide) (by decide)).trans ((hq_123.i 66 23 (by decide) (by decide)).trans ((hq_115.i 66 23 (by decide) (by decide)).trans (rfl))))))))))]
            have b_186 : (-1) ≤ (G_165.1 66 24).toInt ∧ (G_165.1 66 24).toInt ≤ 200 := hB_G_165.i 66 24 rfl rfl
            have g_187 : (G_176.1 66 24).toInt = (G_165.1 66 24).toInt := by rw [show G_176.1 66 24 = (G_165.1 66 24) from ((hq_177.i 66 24 (by decide) (by decide)).trans ((gp_ne eG_171 (by decide)).trans (gp_ne eG_169 (fun q => absurd q.1 (by decide)))))]
            have g_188 : (G_176.1 66 23).toInt = (G_24.1 66 23).toInt := by rw [show G_176.1 66 23 = (G_24.1 66 23) from ((hq_177.i 66 23 (by decide) (by decide)).trans ((gp_ne eG_171 (by decide)).trans ((gp_ne eG_169 (fun q => absurd q.1 (by decide))).trans ((hq_166.i 66 23 (by decide) (by decide)).trans ((hq_152.i 66 23 (by decide) (by decide)).trans ((hq_149.i 66 23 (by decide) (by decide)).trans ((hq_141.i 66 23 (by decide) (by decide)).trans ((hq_123.i 66 23 (by decide) (by decide)).trans ((hq_115.i 66 23 (by decide) (by decide)).trans (rfl))))))))))]
            have b_189 : 0 ≤ (G_176.1 66 4).toInt ∧ (G_176.1 66 4).toInt ≤ 1600 := hB_G_176.i 66 4 rfl rfl
            refine S_callv (va_runV (As := []) (rest := []) ⟨hx, hb, hml, hown, hts⟩ (n_unit l D k A a z G_176  (by omega) (by omega)) (cwV 0 hts (gd_V hgd m1714 m1716 m70 m131 m1717) rfl rfl rfl (by decide +kernel) ⟨Nat.le_of_ble_eq_true rfl, Nat.le_of_ble_eq_true rfl⟩) (pre_V hW hB_G_176 hK hZ hS kd_66 rfl) rfl rfl hl.1 rfl (lv_room (Nat.le_of_ble_eq_true rfl)) dX12_formula_152 ⟨Nat.le_of_ble_eq_true rfl, Nat.le_of_ble_eq_true rfl⟩) hS (fun G_191 H locs hpo hW hS => ?_)
            obtain ⟨hB_G_191, hq_192, hp_193⟩ := hpo
            have hF := hF.call hq_192 (by decide) (by decide)
            refine lv_goto (tgt := 160) hx hb dX12_formula_155 (by decide) ?_
            refine lv_goto (tgt := 36) hx hb dX12_formula_160 (by decide) ?_
            have b_194 : 0 ≤ (G_191.1 66 2).toInt ∧ (G_191.1 66 2).toInt ≤ 4 := hB_G_191.i 66 2 rfl rfl
            have b_195 : 0 ≤ (G_191.1 66 20).toInt ∧ (G_191.1 66 20).toInt ≤ 160 := hB_G_191.i 66 20 rfl rfl
            have b_196 : 0 ≤ (G_191.1 66 23).toInt ∧ (G_191.1 66 23).toInt ≤ 40 := hB_G_191.i 66 23 rfl rfl
            have b_197 : (-1) ≤ (G_191.1 66 24).toInt ∧ (G_191.1 66 24).toInt ≤ 200 := hB_G_191.i 66 24 rfl rfl
            have b_198 : 0 ≤ (G_191.1 66 4).toInt ∧ (G_191.1 66 4).toInt ≤ 1600 := hB_G_191.i 66 4 rfl rfl
            exact ih_26 (4000 - 1000 * (G_191.1 66 2).toInt + 100 * (40 - (G_191.1 66 23).toInt) + (G_191.1 66 20).toInt + x_28.toInt : Int).toNat (by omega) _ _ _ ⟨G_191, x_28, (Int.toNat_of_nonneg (by omega)), ⟨by omega, by omega⟩, (by omega), (by omega), hW, hB_G_191, hF, (((((((((((Fr.rf.call hq_25 (by decide) (by decide)).call hq_115 (by decide) (by decide)).call hq_123 (by decide) (by decide)).call hq_141 (by decide) (by decide)).call hq_149 (by decide) (by decide)).call hq_152 (by decide) (by decide)).call hq_166 (by decide) (by decide)).put eG_169 (Or.inl (by decide))).put eG_171 (Or.inr (by decide))).call hq_177 (by decide) (by decide)).call hq_192 (by decide) (by decide)), hS, lv_sub hl [1, 2] rfl⟩
          refine lv_icmp_ne (tgt := 119) hx hb dX12_formula_109 (by decide) (fun c_199 => ?_) (fun c_199 => ?_)
          · have c_199 : r_139.toInt ≠ 4 := xI_ne rfl rfl c_199
            exact hJ_148 () _ _ _ ⟨G_140, hW, hB_G_140, hF, Fr.rf, hS, lv_sub hl [0, 1, 2] rfl⟩
          · have c_199 : r_139.toInt = 4 := xI_eq rfl rfl c_199
            refine lv_aload_n hx hb dX12_formula_112 rfl (lv_at hl 2 rfl) ?_
            refine S_calli (va_runV (As := []) (rest := []) ⟨hx, hb, hml, hown, hts⟩ (n_hasRelation l D k A a z G_140  ) (cwV 0 hts (gd_V hgd m1757 m1759 m80 m131 m1760) rfl rfl rfl (by decide +kernel) ⟨Nat.le_of_ble_eq_true rfl, Nat.le_of_ble_eq_true rfl⟩) (pre_V hW hB_G_140 hK hZ hS kd_66 rfl) rfl rfl hl.1 rfl (lv_room (Nat.le_of_ble_eq_true rfl)) dX12_formula_113 ⟨Nat.le_of_ble_eq_true rfl, Nat.le_of_ble_eq_true rfl⟩) hS (fun r_200 G_201 H locs hpo hW hS => ?_)
            obtain ⟨hB_G_201, hq_202, f_204⟩ := hpo
            have hF := hF.call hq_202 (by decide) (by decide)
            refine lv_if_ne (tgt := 158) hx hb dX12_formula_116 (by decide) (fun c_205 => ?_) (fun c_205 => ?_)
            · have c_205 : r_200.toInt ≠ 0 := xI_ne rfl rfl c_205
              refine lv_iconst (v := 0) hx hb dX12_formula_158 (by decide) ?_
              refine lv_istore_n (lv' := [(2, .int 0), (3, .int r_113), (0, .ref (a 66))]) hx hb dX12_formula_159 rfl hl (by decide) rfl (fun ls hl => ?_)
              refine lv_goto (tgt := 36) hx hb dX12_formula_160 (by decide) ?_
              have g_206 : (G_201.1 66 2).toInt = (G_24.1 66 2).toInt := by rw [show G_201.1 66 2 = (G_24.1 66 2) from ((hq_202.i 66 2 (by decide) (by decide)).trans ((hq_141.i 66 2 (by decide) (by decide)).trans ((hq_123.i 66 2 (by decide) (by decide)).trans ((hq_115.i 66 2 (by decide) (by decide)).trans (rfl)))))]
              have g_207 : (G_201.1 66 20).toInt = (G_24.1 66 20).toInt := by rw [show G_201.1 66 20 = (G_24.1 66 20) from ((hq_202.i 66 20 (by decide) (by decide)).trans ((hq_141.i 66 20 (by decide) (by decide)).trans ((hq_123.i 66 20 (by decide) (by decide)).trans ((hq_115.i 66 20 (by decide) (by decide)).trans (rfl)))))]
              have g_208 : (G_201.1 66 23).toInt = (G_24.1 66 23).toInt := by rw [show G_201.1 66 23 = (G_24.1 66 23) from ((hq_202.i 66 23 (by decide) (by decide)).trans ((hq_141.i 66 23 (by decide) (by decide)).trans ((hq_123.i 66 23 (by decide) (by decide)).trans ((hq_115.i 66 23 (by decide) (by decide)).trans (rfl)))))]
              have g_209 : gB G_201 = gB G_24 := gB_fr (rs := []) (fs := []) ((((Fr.rf.call hq_115 (by decide) (by decide)).call hq_123 (by decide) (by decide)).call hq_141 (by decide) (by decide)).call hq_202 (by decide) (by decide)) (by decide) (by decide)
              have g_210 : gC G_201 = gC G_24 := gC_fr (rs := []) (fs := []) ((((Fr.rf.call hq_115 (by decide) (by decide)).call hq_123 (by decide) (by decide)).call hq_141 (by decide) (by decide)).call hq_202 (by decide) (by decide)) (by decide) (by decide)
              have g_211 : gD G_201 = gD G_24 := gD_fr (rs := []) (fs := []) ((((Fr.rf.call hq_115 (by decide) (by decide)).call hq_123 (by decide) (by decide)).call hq_141 (by decide) (by decide)).call hq_202 (by decide) (by decide)) (by decide) (by decide)
              have g_212 : gM G_201 = gM G_24 := gM_fr (rs := []) (fs := []) ((((Fr.rf.call hq_115 (by decide) (by decide)).call hq_123 (by decide) (by decide)).call hq_141 (by decide) (by decide)).call hq_202 (by decide) (by decide)) (by decide) (by decide)
              have g_213 : (G_201.1 66 2).toInt = (G_24.1 66 2).toInt := by rw [show G_201.1 66 2 = (G_24.1 66 2) from ((hq_202.i 66 2 (by decide) (by decide)).trans ((hq_141.i 66 2 (by decide) (by decide)).trans ((hq_123.i 66 2 (by decide) (by decide)).trans ((hq_115.i 66 2 (by decide) (by decide)).trans (rfl)))))]
              have g_214 : (G_201.1 66 20).toInt = (G_24.1 66 20).toInt := by rw [show G_201.1 66 20 = (G_24.1 66 20) from ((hq_202.i 66 20 (by decide) (by decide)).trans ((hq_141.i 66 20 (by decide) (by decide)).trans ((hq_123.i 66 20 (by decide) (by decide)).trans ((hq_115.i 66 20 (by decide) (by decide)).trans (rfl)))))]
              have g_215 : (G_201.1 66 23).toInt = (G_24.1 66 23).toInt := by rw [show G_201.1 66 23 = (G_24.1 66 23) from ((hq_202.i 66 23 (by decide) (by decide)).trans ((hq_141.i 66 23 (by decide) (by decide)).trans ((hq_123.i 66 23 (by decide) (by decide)).trans ((hq_115.i 66 23 (by decide) (by decide)).trans (rfl)))))]
              have g_216 : (G_201.1 66 24).toInt = (G_24.1 66 24).toInt := by rw [show G_201.1 66 24 = (G_24.1 66 24) from ((hq_202.i 66 24 (by decide) (by decide)).trans ((hq_141.i 66 24 (by decide) (by decide)).trans ((hq_123.i 66 24 (by decide) (by decide)).trans ((hq_115.i 66 24 (by decide) (by decide)).trans (rfl)))))]
              have g_217 : (G_201.1 66 4).toInt = (G_24.1 66 4).toInt := by rw [show G_201.1 66 4 = (G_24.1 66 4) from ((hq_202.i 66 4 (by decide) (by decide)).trans ((hq_141.i 66 4 (by decide) (by decide)).trans ((hq_123.i 66 4 (by decide) (by decide)).trans ((hq_115.i 66 4 (by decide) (by decide)).trans (rfl)))))]
              have g_218 : (G_201.1 66 6).toInt = (G_24.1 66 6).toInt := by rw [show G_201.1 66 6 = (G_24.1 66 6) from ((hq_202.i 66 6 (by decide) (by decide)).trans ((hq_141.i 66 6 (by decide) (by decide)).trans ((hq_123.i 66 6 (by decide) (by decide)).trans ((hq_115.i 66 6 (by decide) (by decide)).trans (rfl)))))]
              have qc_219 : (0 : Int32).toInt = 0 := rfl
              exact ih_26 (4000 - 1000 * (G_201.1 66 2).toInt + 100 * (40 - (G_201.1 66 23).toInt) + (G_201.1 66 20).toInt + 0 : Int).toNat (by omega) _ _ _ ⟨G_201, 0, (Int.toNat_of_nonneg (by omega)), ⟨by omega, by omega⟩, (by omega), (by omega), hW, hB_G_201, hF, (((((Fr.rf.call hq_25 (by decide) (by decide)).call hq_115 (by decide) (by decide)).call hq_123 (by decide) (by decide)).call hq_141 (by decide) (by decide)).call hq_202 (by decide) (by decide)), hS, lv_sub hl [0, 2] rfl⟩
            · have c_205 : r_200.toInt = 0 := xI_eq rfl rfl c_205
              exact hJ_148 () _ _ _ ⟨G_201, hW, hB_G_201, hF, (Fr.rf.call hq_202 (by decide) (by decide)), hS, lv_sub hl [0, 1, 2] rfl⟩
      refine lv_icmp_ne (tgt := 100) hx hb dX12_formula_58 (by decide) (fun c_220 => ?_) (fun c_220 => ?_)
      · have c_220 : (G_24.1 66 6).toInt ≠ 41 := xI_ne rfl rfl c_220
        exact hJ_122 () _ _ _ ⟨G_114, hW, hB_G_114, hF, Fr.rf, hS, lv_sub hl [0, 1, 2] rfl⟩
      · have c_220 : (G_24.1 66 6).toInt = 41 := xI_eq rfl rfl c_220
        refine lv_aload_n hx hb dX12_formula_61 rfl (lv_at hl 2 rfl) ?_
        have g_221 : gK G_114 = gK G_24 := gK_fr (rs := []) (fs := []) (Fr.rf.call hq_115 (by decide) (by decide)) (by decide) (by decide)
        refine S_calli (va_runV (As := []) (rest := []) ⟨hx, hb, hml, hown, hts⟩ (n_hasBracket l D k A a z G_114  ) (cwV 0 hts (gd_V hgd m1749 m1751 m78 m131 m1752) rfl rfl rfl (by decide +kernel) ⟨Nat.le_of_ble_eq_true rfl, Nat.le_of_ble_eq_true rfl⟩) (pre_V hW hB_G_114 hK hZ hS kd_66 rfl) rfl rfl hl.1 rfl (lv_room (Nat.le_of_ble_eq_true rfl)) dX12_formula_62 ⟨Nat.le_of_ble_eq_true rfl, Nat.le_of_ble_eq_true rfl⟩) hS (fun r_222 G_223 H locs hpo hW hS => ?_)
        obtain ⟨hB_G_223, hq_224, f_226, hp_225⟩ := hpo
        have hF := hF.call hq_224 (by decide) (by decide)
        refine lv_if_eq (tgt := 100) hx hb dX12_formula_65 (by decide) (fun c_227 => ?_) (fun c_227 => ?_)
        · have c_227 : r_222.toInt = 0 := xI_eq rfl rfl c_227
          exact hJ_122 () _ _ _ ⟨G_223, hW, hB_G_223, hF, (Fr.rf.call hq_224 (by decide) (by decide)), hS, lv_sub hl [0, 1, 2] rfl⟩
        · have c_227 : r_222.toInt ≠ 0 := xI_ne rfl rfl c_227
          refine lv_aload_n hx hb dX12_formula_68 rfl (lv_at hl 2 rfl) ?_
          refine lv_iconst (v := 0) hx hb dX12_formula_69 (by decide) ?_
          have g_228 : gB G_223 = gB G_24 := gB_fr (rs := []) (fs := []) ((Fr.rf.call hq_115 (by decide) (by decide)).call hq_224 (by decide) (by decide)) (by decide) (by decide)
          have g_229 : gC G_223 = gC G_24 := gC_fr (rs := []) (fs := []) ((Fr.rf.call hq_115 (by decide) (by decide)).call hq_224 (by decide) (by decide)) (by decide) (by decide)
          have g_230 : gD G_223 = gD G_24 := gD_fr (rs := []) (fs := []) ((Fr.rf.call hq_115 (by decide) (by decide)).call hq_224 (by decide) (by decide)) (by decide) (by decide)
          have g_231 : gM G_223 = gM G_24 := gM_fr (rs := []) (fs := []) ((Fr.rf.call hq_115 (by decide) (by decide)).call hq_224 (by decide) (by decide)) (by decide) (by decide)
          have g_232 : (G_223.1 66 20).toInt = (G_24.1 66 20).toInt := by rw [show G_223.1 66 20 = (G_24.1 66 20) from ((hq_224.i 66 20 (by decide) (by decide)).trans ((hq_115.i 66 20 (by decide) (by decide)).trans (rfl)))]
          have g_233 : (G_223.1 66 24).toInt = (G_24.1 66 24).toInt := by rw [show G_223.1 66 24 = (G_24.1 66 24) from ((hq_224.i 66 24 (by decide) (by decide)).trans ((hq_115.i 66 24 (by decide) (by decide)).trans (rfl)))]
          have qc_234 : (0 : Int32).toInt = 0 := rfl
          have g_235 : gK G_223 = gK G_24 := gK_fr (rs := []) (fs := []) ((Fr.rf.call hq_115 (by decide) (by decide)).call hq_224 (by decide) (by decide)) (by decide) (by decide)
          have g_236 : (G_223.1 66 20).toInt = (G_24.1 66 20).toInt := by rw [show G_223.1 66 20 = (G_24.1 66 20) from ((hq_224.i 66 20 (by decide) (by decide)).trans ((hq_115.i 66 20 (by decide) (by decide)).trans (rfl)))]
          have g_237 : (G_223.1 66 24).toInt = (G_24.1 66 24).toInt := by rw [show G_223.1 66 24 = (G_24.1 66 24) from ((hq_224.i 66 24 (by decide) (by decide)).trans ((hq_115.i 66 24 (by decide) (by decide)).trans (rfl)))]
          refine S_callv (va_runV (As := [.int 0]) (rest := []) ⟨hx, hb, hml, hown, hts⟩ (n_close l D k A a z G_223 0 (by omega)) (cwV 1 hts (gd_V hgd m1753 m1755 m79 m131 m1756) rfl rfl rfl (by decide +kernel) ⟨Nat.le_of_ble_eq_true rfl, Nat.le_of_ble_eq_true rfl⟩) (pre_V hW hB_G_223 hK hZ hS kd_66 rfl) rfl rfl hl.1 rfl (lv_room (Nat.le_of_ble_eq_true rfl)) dX12_formula_70 ⟨Nat.le_of_ble_eq_true rfl, Nat.le_of_ble_eq_true rfl⟩) hS (fun G_239 H locs hpo hW hS => ?_)
          obtain ⟨hB_G_239, hq_240, hp_241⟩ := hpo
          have hF := hF.call hq_240 (by decide) (by decide)
          have b_242 : 0 ≤ (G_239.1 66 20).toInt ∧ (G_239.1 66 20).toInt ≤ 160 := hB_G_239.i 66 20 rfl rfl
          have u_243 := gh_pos (G := G_239) (by omega)
          refine lv_aload_n hx hb dX12_formula_73 rfl (lv_at hl 2 rfl) ?_
          refine lv_dup hx hb dX12_formula_74 rfl ?_
          refine S_getI (v := (G_239.1 66 20)) (C := RX12) (T := TX12) (N := 89) hx hb hg iX12 hown hK hW kd_66 rfl 20 (by decide) (hg (Cond.fieldLink RX12 299 "SlabWalkModel" "opens" "I") m1334) (fun _ h9 => h9) rfl rfl dX12_formula_75 ?_
          refine lv_iconst (v := 1) hx hb dX12_formula_78 (by decide) ?_
          refine lv_isub hx hb dX12_formula_79 ?_
          refine lv_topi (fun y_244 ey_244 => ?_)
          have ty_244 : y_244.toInt = (G_239.1 66 20).toInt - 1 := xI_sub rfl rfl ey_244 (by omega) (by omega)
          refine S_putI (ty := .int) (C := RX12) (T := TX12) (N := 89) hx hb hg iX12 tyX12 tyX12_ok nmX12 hown hK hW hS kd_66 rfl 20 (by decide) (hg (Cond.fieldLink RX12 299 "SlabWalkModel" "opens" "I") m1334) (fun _ h9 => h9) rfl (by decide +kernel) rfl rfl rfl dX12_formula_80 (fun G_245 H locs eG_245 hW hS => ?_)
          have hB_G_245 : Bd G_245 := hB_G_239.put (V := y_244.toInt) (lo := 0) (hi := 160) eG_245 rfl rfl rfl (by omega) (by omega) (hB_G_239.2.put eG_245 rfl)
          have hF := hF.put eG_245 (Or.inr (by decide))
          have u_246 := gh_pop eG_245 (by omega) (by omega)
          have g_247 : (G_245.1 66 20).toInt = y_244.toInt := by rw [show G_245.1 66 20 = y_244 from (gp_eq eG_245)]
          have u_248 := gh_pos (G := G_245) (by omega)
          refine lv_aload_n hx hb dX12_formula_83 rfl (lv_at hl 2 rfl) ?_
          refine lv_dup hx hb dX12_formula_84 rfl ?_
          have b_249 : (-1) ≤ (G_239.1 66 24).toInt ∧ (G_239.1 66 24).toInt ≤ 200 := hB_G_239.i 66 24 rfl rfl
          refine S_getI (v := (G_239.1 66 24)) (C := RX12) (T := TX12) (N := 89) hx hb hg iX12 hown hK hW kd_66 rfl 24 (by decide) (hg (Cond.fieldLink RX12 309 "SlabWalkModel" "deep" "I") m1338) (fun _ h9 => h9) rfl (gp_ne eG_245 (by decide)) dX12_formula_85 ?_
          refine lv_iconst (v := 1) hx hb dX12_formula_88 (by decide) ?_
          refine lv_isub hx hb dX12_formula_89 ?_
          refine lv_topi (fun y_250 ey_250 => ?_)
          have ty_250 : y_250.toInt = (G_239.1 66 24).toInt - 1 := xI_sub rfl rfl ey_250 (by omega) (by omega)
          refine S_putI (ty := .int) (C := RX12) (T := TX12) (N := 89) hx hb hg iX12 tyX12 tyX12_ok nmX12 hown hK hW hS kd_66 rfl 24 (by decide) (hg (Cond.fieldLink RX12 309 "SlabWalkModel" "deep" "I") m1338) (fun _ h9 => h9) rfl (by decide +kernel) rfl rfl rfl dX12_formula_90 (fun G_251 H locs eG_251 hW hS => ?_)
          have hB_G_251 : Bd G_251 := hB_G_245.put (V := y_250.toInt) (lo := (-1)) (hi := 200) eG_251 rfl rfl rfl (by omega) (by omega) (hB_G_245.2.put eG_251 rfl)
          have hF := hF.put eG_251 (Or.inr (by decide))
          refine lv_aload_n hx hb dX12_formula_93 rfl (lv_at hl 2 rfl) ?_
          have g_252 : (G_251.1 66 4).toInt = (G_24.1 66 4).toInt := by rw [show G_251.1 66 4 = (G_24.1 66 4) from ((gp_ne eG_251 (by decide)).trans ((gp_ne eG_245 (by decide)).trans ((hq_240.i 66 4 (by decide) (by decide)).trans ((hq_224.i 66 4 (by decide) (by decide)).trans ((hq_115.i 66 4 (by decide) (by decide)).trans (rfl))))))]
          have g_253 : (G_251.1 66 6).toInt = (G_24.1 66 6).toInt := by rw [show G_251.1 66 6 = (G_24.1 66 6) from ((gp_ne eG_251 (by decide)).trans ((gp_ne eG_245 (by decide)).trans ((hq_240.i 66 6 (by decide) (by decide)).trans ((hq_224.i 66 6 (by decide) (by decide)).trans ((hq_115.i 66 6 (by decide) (by decide)).trans (rfl))))))]
          refine S_callv (va_runV (As := []) (rest := []) ⟨hx, hb, hml, hown, hts⟩ (n_token l D k A a z G_251  ) (cwV 0 hts (gd_V hgd m1602 m1604 m50 m131 m1605) rfl rfl rfl (by decide +kernel) ⟨Nat.le_of_ble_eq_true rfl, Nat.le_of_ble_eq_true rfl⟩) (pre_V hW hB_G_251 hK hZ hS kd_66 rfl) rfl rfl hl.1 rfl (lv_room (Nat.le_of_ble_eq_true rfl)) dX12_formula_94 ⟨Nat.le_of_ble_eq_true rfl, Nat.le_of_ble_eq_true rfl⟩) hS (fun G_255 H locs hpo hW hS => ?_)
          obtain ⟨hB_G_255, hq_256, hp_257⟩ := hpo
          have hF := hF.call hq_256 (by decide) (by decide)
          refine lv_goto (tgt := 160) hx hb dX12_formula_97 (by decide) ?_
          refine lv_goto (tgt := 36) hx hb dX12_formula_160 (by decide) ?_
          have g_258 : (G_255.1 66 2).toInt = (G_24.1 66 2).toInt := by rw [show G_255.1 66 2 = (G_24.1 66 2) from ((hq_256.i 66 2 (by decide) (by decide)).trans ((gp_ne eG_251 (by decide)).trans ((gp_ne eG_245 (by decide)).trans ((hq_240.i 66 2 (by decide) (by decide)).trans ((hq_224.i 66 2 (by decide) (by decide)).trans ((hq_115.i 66 2 (by decide) (by decide)).trans (rfl)))))))]
          have g_259 : (G_255.1 66 20).toInt = y_244.toInt := by rw [show G_255.1 66 20 = y_244 from ((hq_256.i 66 20 (by decide) (by decide)).trans ((gp_ne eG_251 (by decide)).trans (gp_eq eG_245)))]
          have g_260 : (G_255.1 66 23).toInt = (G_24.1 66 23).toInt := by rw [show G_255.1 66 23 = (G_24.1 66 23) from ((hq_256.i 66 23 (by decide) (by decide)).trans ((gp_ne eG_251 (by decide)).trans ((gp_ne eG_245 (by decide)).trans ((hq_240.i 66 23 (by decide) (by decide)).trans ((hq_224.i 66 23 (by decide) (by decide)).trans ((hq_115.i 66 23 (by decide) (by decide)).trans (rfl)))))))]
          have g_261 : gB G_255 = gB G_245 := gB_fr (rs := []) (fs := [(66, 4), (66, 6), (66, 7), (66, 8), (66, 9), (66, 24)]) ((Fr.rf.put eG_251 (Or.inr (by decide))).call hq_256 (by decide) (by decide)) (by decide) (by decide)
          have g_262 : gC G_255 = gC G_239 := gC_fr (rs := []) (fs := [(66, 4), (66, 6), (66, 7), (66, 8), (66, 9), (66, 20), (66, 24)]) (((Fr.rf.put eG_245 (Or.inr (by decide))).put eG_251 (Or.inr (by decide))).call hq_256 (by decide) (by decide)) (by decide) (by decide)
          have g_263 : gD G_255 = gD G_239 := gD_fr (rs := []) (fs := [(66, 4), (66, 6), (66, 7), (66, 8), (66, 9), (66, 20), (66, 24)]) (((Fr.rf.put eG_245 (Or.inr (by decide))).put eG_251 (Or.inr (by decide))).call hq_256 (by decide) (by decide)) (by decide) (by decide)
          have g_264 : gM G_255 = gM G_239 := gM_fr (rs := []) (fs := [(66, 4), (66, 6), (66, 7), (66, 8), (66, 9), (66, 20), (66, 24)]) (((Fr.rf.put eG_245 (Or.inr (by decide))).put eG_251 (Or.inr (by decide))).call hq_256 (by decide) (by decide)) (by decide) (by decide)
          have g_265 : (G_255.1 66 2).toInt = (G_24.1 66 2).toInt := by rw [show G_255.1 66 2 = (G_24.1 66 2) from ((hq_256.i 66 2 (by decide) (by decide)).trans ((gp_ne eG_251 (by decide)).trans ((gp_ne eG_245 (by decide)).trans ((hq_240.i 66 2 (by decide) (by decide)).trans ((hq_224.i 66 2 (by decide) (by decide)).trans ((hq_115.i 66 2 (by decide) (by decide)).trans (rfl)))))))]
          have g_266 : (G_255.1 66 20).toInt = y_244.toInt := by rw [show G_255.1 66 20 = y_244 from ((hq_256.i 66 20 (by decide) (by decide)).trans ((gp_ne eG_251 (by decide)).trans (gp_eq eG_245)))]
          have g_267 : (G_255.1 66 23).toInt = (G_24.1 66 23).toInt := by rw [show G_255.1 66 23 = (G_24.1 66 23) from ((hq_256.i 66 23 (by decide) (by decide)).trans ((gp_ne eG_251 (by decide)).trans ((gp_ne eG_245 (by decide)).trans ((hq_240.i 66 23 (by decide) (by decide)).trans ((hq_224.i 66 23 (by decide) (by decide)).trans ((hq_115.i 66 23 (by decide) (by decide)).trans (rfl)))))))]
          have g_268 : (G_255.1 66 24).toInt = y_250.toInt := by rw [show G_255.1 66 24 = y_250 from ((hq_256.i 66 24 (by decide) (by decide)).trans (gp_eq eG_251))]
          have b_269 : 0 ≤ (G_255.1 66 4).toInt ∧ (G_255.1 66 4).toInt ≤ 1600 := hB_G_255.i 66 4 rfl rfl
          exact ih_26 (4000 - 1000 * (G_255.1 66 2).toInt + 100 * (40 - (G_255.1 66 23).toInt) + (G_255.1 66 20).toInt + x_28.toInt : Int).toNat (by omega) _ _ _ ⟨G_255, x_28, (Int.toNat_of_nonneg (by omega)), ⟨by omega, by omega⟩, (by omega), (by omega), hW, hB_G_255, hF, (((((((Fr.rf.call hq_25 (by decide) (by decide)).call hq_115 (by decide) (by decide)).call hq_224 (by decide) (by decide)).call hq_240 (by decide) (by decide)).put eG_245 (Or.inr (by decide))).put eG_251 (Or.inr (by decide))).call hq_256 (by decide) (by decide)), hS, lv_sub hl [1, 2] rfl⟩
