theorem m71 : Cond.selects RX12 yX12_mayNot yX12_mayNot ∈ gd := gd_mem 71 (by decide +kernel) (by decide +kernel)
theorem m72 : Cond.selects RX12 yX12_openUp yX12_openUp ∈ gd := gd_mem 72 (by decide +kernel) (by decide +kernel)
theorem m73 : Cond.selects RX12 yX12_isFull yX12_isFull ∈ gd := gd_mem 73 (by decide +kernel) (by decide +kernel)
theorem m74 : Cond.selects RX12 yX12_countUnit yX12_countUnit ∈ gd := gd_mem 74 (by decide +kernel) (by decide +kernel)
theorem m75 : Cond.selects RX12 yX12_asked yX12_asked ∈ gd := gd_mem 75 (by decide +kernel) (by decide +kernel)
theorem m1335 : Cond.fieldLink RX12 312 "SlabWalkModel" "nUnits" "I" ∈ gd := gd_mem 1335 (by decide +kernel) (by decide +kernel)
theorem m1337 : Cond.fieldLink RX12 315 "SlabWalkModel" "ownUnits" "I" ∈ gd := gd_mem 1337 (by decide +kernel) (by decide +kernel)
theorem m1718 : Cond.methodLink RX12 318 yX12_mayNot ∈ gd := gd_mem 1718 (by decide +kernel) (by decide +kernel)
theorem m1720 : Cond.instanceMethod yX12_mayNot ∈ gd := gd_mem 1720 (by decide +kernel) (by decide +kernel)
theorem m1721 : Cond.code yX12_mayNot cX12_mayNot 1 (some .boolean) ∈ gd := gd_mem 1721 (by decide +kernel) (by decide +kernel)
theorem m1725 : Cond.methodLink RX12 321 yX12_openUp ∈ gd := gd_mem 1725 (by decide +kernel) (by decide +kernel)
theorem m1727 : Cond.instanceMethod yX12_openUp ∈ gd := gd_mem 1727 (by decide +kernel) (by decide +kernel)
theorem m1728 : Cond.code yX12_openUp cX12_openUp 2 none ∈ gd := gd_mem 1728 (by decide +kernel) (by decide +kernel)
theorem m1729 : Cond.methodLink RX12 324 yX12_isFull ∈ gd := gd_mem 1729 (by decide +kernel) (by decide +kernel)
theorem m1731 : Cond.instanceMethod yX12_isFull ∈ gd := gd_mem 1731 (by decide +kernel) (by decide +kernel)
theorem m1732 : Cond.code yX12_isFull cX12_isFull 1 (some .boolean) ∈ gd := gd_mem 1732 (by decide +kernel) (by decide +kernel)
theorem m1733 : Cond.methodLink RX12 327 yX12_countUnit ∈ gd := gd_mem 1733 (by decide +kernel) (by decide +kernel)
theorem m1735 : Cond.instanceMethod yX12_countUnit ∈ gd := gd_mem 1735 (by decide +kernel) (by decide +kernel)
theorem m1736 : Cond.code yX12_countUnit cX12_countUnit 1 none ∈ gd := gd_mem 1736 (by decide +kernel) (by decide +kernel)
theorem m1737 : Cond.methodLink RX12 330 yX12_asked ∈ gd := gd_mem 1737 (by decide +kernel) (by decide +kernel)
theorem m1739 : Cond.instanceMethod yX12_asked ∈ gd := gd_mem 1739 (by decide +kernel) (by decide +kernel)
theorem m1740 : Cond.code yX12_asked cX12_asked 1 (some .int) ∈ gd := gd_mem 1740 (by decide +kernel) (by decide +kernel)
theorem dX12_countUnit_0 : decode cX12_countUnit 0 = .ok (.aload_n 0, 1) := by decide +kernel
theorem dX12_countUnit_1 : decode cX12_countUnit 1 = .ok (.dup, 1) := by decide +kernel
theorem dX12_countUnit_2 : decode cX12_countUnit 2 = .ok (.getfield 312, 3) := by decide +kernel
theorem dX12_countUnit_5 : decode cX12_countUnit 5 = .ok (.iconst 1, 1) := by decide +kernel
theorem dX12_countUnit_6 : decode cX12_countUnit 6 = .ok (.iadd, 1) := by decide +kernel
theorem dX12_countUnit_7 : decode cX12_countUnit 7 = .ok (.putfield 312, 3) := by decide +kernel
theorem dX12_countUnit_10 : decode cX12_countUnit 10 = .ok (.aload_n 0, 1) := by decide +kernel
theorem dX12_countUnit_11 : decode cX12_countUnit 11 = .ok (.dup, 1) := by decide +kernel
theorem dX12_countUnit_12 : decode cX12_countUnit 12 = .ok (.getfield 315, 3) := by decide +kernel
theorem dX12_countUnit_15 : decode cX12_countUnit 15 = .ok (.iconst 1, 1) := by decide +kernel
theorem dX12_countUnit_16 : decode cX12_countUnit 16 = .ok (.iadd, 1) := by decide +kernel
theorem dX12_countUnit_17 : decode cX12_countUnit 17 = .ok (.putfield 315, 3) := by decide +kernel
theorem dX12_countUnit_20 : decode cX12_countUnit 20 = .ok (.return_, 1) := by decide +kernel
theorem dX12_isFull_0 : decode cX12_isFull 0 = .ok (.aload_n 0, 1) := by decide +kernel
theorem dX12_isFull_1 : decode cX12_isFull 1 = .ok (.getfield 312, 3) := by decide +kernel
theorem dX12_isFull_4 : decode cX12_isFull 4 = .ok (.bipush 90, 2) := by decide +kernel
theorem dX12_isFull_6 : decode cX12_isFull 6 = .ok (.if_icmp .eq 12, 3) := by decide +kernel
theorem dX12_isFull_9 : decode cX12_isFull 9 = .ok (.aload_n 0, 1) := by decide +kernel
theorem dX12_isFull_10 : decode cX12_isFull 10 = .ok (.getfield 315, 3) := by decide +kernel
theorem dX12_isFull_13 : decode cX12_isFull 13 = .ok (.bipush 30, 2) := by decide +kernel
theorem dX12_isFull_15 : decode cX12_isFull 15 = .ok (.if_icmp .ne 7, 3) := by decide +kernel
theorem dX12_isFull_18 : decode cX12_isFull 18 = .ok (.iconst 1, 1) := by decide +kernel
theorem dX12_isFull_19 : decode cX12_isFull 19 = .ok (.goto 4, 3) := by decide +kernel
theorem dX12_isFull_22 : decode cX12_isFull 22 = .ok (.iconst 0, 1) := by decide +kernel
theorem dX12_isFull_23 : decode cX12_isFull 23 = .ok (.ireturn, 1) := by decide +kernel
theorem dX12_openUp_0 : decode cX12_openUp 0 = .ok (.aload_n 0, 1) := by decide +kernel
theorem dX12_openUp_1 : decode cX12_openUp 1 = .ok (.getfield 39, 3) := by decide +kernel
theorem dX12_openUp_4 : decode cX12_openUp 4 = .ok (.aload_n 0, 1) := by decide +kernel
theorem dX12_openUp_5 : decode cX12_openUp 5 = .ok (.getfield 299, 3) := by decide +kernel
theorem dX12_openUp_8 : decode cX12_openUp 8 = .ok (.iload_n 1, 1) := by decide +kernel
theorem dX12_openUp_9 : decode cX12_openUp 9 = .ok (.iastore, 1) := by decide +kernel
theorem dX12_openUp_10 : decode cX12_openUp 10 = .ok (.aload_n 0, 1) := by decide +kernel
theorem dX12_openUp_11 : decode cX12_openUp 11 = .ok (.dup, 1) := by decide +kernel
theorem dX12_openUp_12 : decode cX12_openUp 12 = .ok (.getfield 299, 3) := by decide +kernel
theorem dX12_openUp_15 : decode cX12_openUp 15 = .ok (.iconst 1, 1) := by decide +kernel
theorem dX12_openUp_16 : decode cX12_openUp 16 = .ok (.iadd, 1) := by decide +kernel
theorem dX12_openUp_17 : decode cX12_openUp 17 = .ok (.putfield 299, 3) := by decide +kernel
theorem dX12_openUp_20 : decode cX12_openUp 20 = .ok (.aload_n 0, 1) := by decide +kernel
theorem dX12_openUp_21 : decode cX12_openUp 21 = .ok (.dup, 1) := by decide +kernel
theorem dX12_openUp_22 : decode cX12_openUp 22 = .ok (.getfield 309, 3) := by decide +kernel
theorem dX12_openUp_25 : decode cX12_openUp 25 = .ok (.iconst 1, 1) := by decide +kernel
theorem dX12_openUp_26 : decode cX12_openUp 26 = .ok (.iadd, 1) := by decide +kernel
theorem dX12_openUp_27 : decode cX12_openUp 27 = .ok (.putfield 309, 3) := by decide +kernel
theorem dX12_openUp_30 : decode cX12_openUp 30 = .ok (.aload_n 0, 1) := by decide +kernel
theorem dX12_openUp_31 : decode cX12_openUp 31 = .ok (.getfield 218, 3) := by decide +kernel
theorem dX12_openUp_34 : decode cX12_openUp 34 = .ok (.ifCond .ne 7, 3) := by decide +kernel
theorem dX12_openUp_37 : decode cX12_openUp 37 = .ok (.aload_n 0, 1) := by decide +kernel
theorem dX12_openUp_38 : decode cX12_openUp 38 = .ok (.invokevirtual 279, 3) := by decide +kernel
theorem dX12_openUp_41 : decode cX12_openUp 41 = .ok (.return_, 1) := by decide +kernel
theorem dX12_sign_0 : decode cX12_sign 0 = .ok (.aload_n 0, 1) := by decide +kernel
theorem dX12_sign_1 : decode cX12_sign 1 = .ok (.ldc2_w 257, 3) := by decide +kernel
theorem dX12_sign_4 : decode cX12_sign 4 = .ok (.invokevirtual 275, 3) := by decide +kernel
theorem dX12_sign_7 : decode cX12_sign 7 = .ok (.ifCond .eq 6, 3) := by decide +kernel
theorem dX12_sign_10 : decode cX12_sign 10 = .ok (.bipush 38, 2) := by decide +kernel
theorem dX12_sign_12 : decode cX12_sign 12 = .ok (.ireturn, 1) := by decide +kernel
theorem dX12_sign_13 : decode cX12_sign 13 = .ok (.aload_n 0, 1) := by decide +kernel
theorem dX12_sign_14 : decode cX12_sign 14 = .ok (.ldc2_w 259, 3) := by decide +kernel
theorem dX12_sign_17 : decode cX12_sign 17 = .ok (.invokevirtual 275, 3) := by decide +kernel
theorem dX12_sign_20 : decode cX12_sign 20 = .ok (.ifCond .eq 6, 3) := by decide +kernel
theorem dX12_sign_23 : decode cX12_sign 23 = .ok (.bipush 124, 2) := by decide +kernel
theorem dX12_sign_25 : decode cX12_sign 25 = .ok (.ireturn, 1) := by decide +kernel
theorem dX12_sign_26 : decode cX12_sign 26 = .ok (.aload_n 0, 1) := by decide +kernel
theorem dX12_sign_27 : decode cX12_sign 27 = .ok (.getfield 205, 3) := by decide +kernel
theorem dX12_sign_30 : decode cX12_sign 30 = .ok (.bipush 60, 2) := by decide +kernel
theorem dX12_sign_32 : decode cX12_sign 32 = .ok (.if_icmp .eq 66, 3) := by decide +kernel
theorem dX12_sign_35 : decode cX12_sign 35 = .ok (.aload_n 0, 1) := by decide +kernel
theorem dX12_sign_36 : decode cX12_sign 36 = .ok (.getfield 205, 3) := by decide +kernel
theorem dX12_sign_39 : decode cX12_sign 39 = .ok (.bipush 62, 2) := by decide +kernel
theorem dX12_sign_41 : decode cX12_sign 41 = .ok (.if_icmp .eq 57, 3) := by decide +kernel
theorem dX12_sign_44 : decode cX12_sign 44 = .ok (.aload_n 0, 1) := by decide +kernel
theorem dX12_sign_45 : decode cX12_sign 45 = .ok (.getfield 205, 3) := by decide +kernel
theorem dX12_sign_48 : decode cX12_sign 48 = .ok (.bipush 61, 2) := by decide +kernel
theorem dX12_sign_50 : decode cX12_sign 50 = .ok (.if_icmp .eq 48, 3) := by decide +kernel
theorem dX12_sign_53 : decode cX12_sign 53 = .ok (.aload_n 0, 1) := by decide +kernel
theorem dX12_sign_54 : decode cX12_sign 54 = .ok (.getfield 205, 3) := by decide +kernel
theorem dX12_sign_57 : decode cX12_sign 57 = .ok (.bipush 43, 2) := by decide +kernel
theorem dX12_sign_59 : decode cX12_sign 59 = .ok (.if_icmp .eq 39, 3) := by decide +kernel
theorem dX12_sign_62 : decode cX12_sign 62 = .ok (.aload_n 0, 1) := by decide +kernel
theorem dX12_sign_63 : decode cX12_sign 63 = .ok (.getfield 205, 3) := by decide +kernel
theorem dX12_sign_66 : decode cX12_sign 66 = .ok (.bipush 45, 2) := by decide +kernel
theorem dX12_sign_68 : decode cX12_sign 68 = .ok (.if_icmp .eq 30, 3) := by decide +kernel
theorem dX12_sign_71 : decode cX12_sign 71 = .ok (.aload_n 0, 1) := by decide +kernel
theorem dX12_sign_72 : decode cX12_sign 72 = .ok (.getfield 205, 3) := by decide +kernel
theorem dX12_sign_75 : decode cX12_sign 75 = .ok (.bipush 42, 2) := by decide +kernel
theorem dX12_sign_77 : decode cX12_sign 77 = .ok (.if_icmp .eq 21, 3) := by decide +kernel
theorem dX12_sign_80 : decode cX12_sign 80 = .ok (.aload_n 0, 1) := by decide +kernel
theorem dX12_sign_81 : decode cX12_sign 81 = .ok (.getfield 205, 3) := by decide +kernel
theorem dX12_sign_84 : decode cX12_sign 84 = .ok (.bipush 47, 2) := by decide +kernel
theorem dX12_sign_86 : decode cX12_sign 86 = .ok (.if_icmp .eq 12, 3) := by decide +kernel
theorem dX12_sign_89 : decode cX12_sign 89 = .ok (.aload_n 0, 1) := by decide +kernel
theorem dX12_sign_90 : decode cX12_sign 90 = .ok (.getfield 205, 3) := by decide +kernel
theorem dX12_sign_93 : decode cX12_sign 93 = .ok (.bipush 37, 2) := by decide +kernel
theorem dX12_sign_95 : decode cX12_sign 95 = .ok (.if_icmp .ne 10, 3) := by decide +kernel
theorem dX12_sign_98 : decode cX12_sign 98 = .ok (.aload_n 0, 1) := by decide +kernel
theorem dX12_sign_99 : decode cX12_sign 99 = .ok (.getfield 205, 3) := by decide +kernel
theorem dX12_sign_102 : decode cX12_sign 102 = .ok (.goto 4, 3) := by decide +kernel
theorem dX12_sign_105 : decode cX12_sign 105 = .ok (.iconst 0, 1) := by decide +kernel
theorem dX12_sign_106 : decode cX12_sign 106 = .ok (.ireturn, 1) := by decide +kernel
theorem dX12_unit_0 : decode cX12_unit 0 = .ok (.iconst 1, 1) := by decide +kernel
theorem dX12_unit_1 : decode cX12_unit 1 = .ok (.istore_n 1, 1) := by decide +kernel
theorem dX12_unit_2 : decode cX12_unit 2 = .ok (.iload_n 1, 1) := by decide +kernel
theorem dX12_unit_3 : decode cX12_unit 3 = .ok (.ifCond .eq 98, 3) := by decide +kernel
theorem dX12_unit_6 : decode cX12_unit 6 = .ok (.aload_n 0, 1) := by decide +kernel
theorem dX12_unit_7 : decode cX12_unit 7 = .ok (.getfield 218, 3) := by decide +kernel
theorem dX12_unit_10 : decode cX12_unit 10 = .ok (.ifCond .ne 91, 3) := by decide +kernel
theorem dX12_unit_13 : decode cX12_unit 13 = .ok (.aload_n 0, 1) := by decide +kernel
theorem dX12_unit_14 : decode cX12_unit 14 = .ok (.ldc2_w 261, 3) := by decide +kernel
theorem dX12_unit_17 : decode cX12_unit 17 = .ok (.invokevirtual 275, 3) := by decide +kernel
theorem dX12_unit_20 : decode cX12_unit 20 = .ok (.ifCond .eq 33, 3) := by decide +kernel
theorem dX12_unit_23 : decode cX12_unit 23 = .ok (.aload_n 0, 1) := by decide +kernel
theorem dX12_unit_24 : decode cX12_unit 24 = .ok (.invokevirtual 318, 3) := by decide +kernel
theorem dX12_unit_27 : decode cX12_unit 27 = .ok (.ifCond .eq 26, 3) := by decide +kernel
theorem dX12_unit_30 : decode cX12_unit 30 = .ok (.aload_n 0, 1) := by decide +kernel
theorem dX12_unit_31 : decode cX12_unit 31 = .ok (.getfield 309, 3) := by decide +kernel
theorem dX12_unit_34 : decode cX12_unit 34 = .ok (.bipush 6, 2) := by decide +kernel
theorem dX12_unit_36 : decode cX12_unit 36 = .ok (.if_icmp .le 8, 3) := by decide +kernel
theorem dX12_unit_39 : decode cX12_unit 39 = .ok (.aload_n 0, 1) := by decide +kernel
theorem dX12_unit_40 : decode cX12_unit 40 = .ok (.iconst 2, 1) := by decide +kernel
theorem dX12_unit_41 : decode cX12_unit 41 = .ok (.invokevirtual 282, 3) := by decide +kernel
theorem dX12_unit_44 : decode cX12_unit 44 = .ok (.aload_n 0, 1) := by decide +kernel
theorem dX12_unit_45 : decode cX12_unit 45 = .ok (.bipush 21, 2) := by decide +kernel
theorem dX12_unit_47 : decode cX12_unit 47 = .ok (.invokevirtual 321, 3) := by decide +kernel
theorem dX12_unit_50 : decode cX12_unit 50 = .ok (.goto (-48), 3) := by decide +kernel
theorem dX12_unit_53 : decode cX12_unit 53 = .ok (.aload_n 0, 1) := by decide +kernel
theorem dX12_unit_54 : decode cX12_unit 54 = .ok (.getfield 205, 3) := by decide +kernel
theorem dX12_unit_57 : decode cX12_unit 57 = .ok (.bipush 40, 2) := by decide +kernel
theorem dX12_unit_59 : decode cX12_unit 59 = .ok (.if_icmp .ne 37, 3) := by decide +kernel
theorem dX12_unit_62 : decode cX12_unit 62 = .ok (.aload_n 0, 1) := by decide +kernel
theorem dX12_unit_63 : decode cX12_unit 63 = .ok (.invokevirtual 324, 3) := by decide +kernel
theorem dX12_unit_66 : decode cX12_unit 66 = .ok (.ifCond .ne 12, 3) := by decide +kernel
theorem dX12_unit_69 : decode cX12_unit 69 = .ok (.aload_n 0, 1) := by decide +kernel
theorem dX12_unit_70 : decode cX12_unit 70 = .ok (.getfield 309, 3) := by decide +kernel
theorem dX12_unit_73 : decode cX12_unit 73 = .ok (.bipush 6, 2) := by decide +kernel
theorem dX12_unit_75 : decode cX12_unit 75 = .ok (.if_icmp .le 8, 3) := by decide +kernel
theorem dX12_unit_78 : decode cX12_unit 78 = .ok (.aload_n 0, 1) := by decide +kernel
theorem dX12_unit_79 : decode cX12_unit 79 = .ok (.iconst 2, 1) := by decide +kernel
theorem dX12_unit_80 : decode cX12_unit 80 = .ok (.invokevirtual 282, 3) := by decide +kernel
theorem dX12_unit_83 : decode cX12_unit 83 = .ok (.aload_n 0, 1) := by decide +kernel
theorem dX12_unit_84 : decode cX12_unit 84 = .ok (.invokevirtual 327, 3) := by decide +kernel
theorem dX12_unit_87 : decode cX12_unit 87 = .ok (.aload_n 0, 1) := by decide +kernel
theorem dX12_unit_88 : decode cX12_unit 88 = .ok (.bipush 20, 2) := by decide +kernel
theorem dX12_unit_90 : decode cX12_unit 90 = .ok (.invokevirtual 321, 3) := by decide +kernel
theorem dX12_unit_93 : decode cX12_unit 93 = .ok (.goto (-91), 3) := by decide +kernel
theorem dX12_unit_96 : decode cX12_unit 96 = .ok (.iconst 0, 1) := by decide +kernel
theorem dX12_unit_97 : decode cX12_unit 97 = .ok (.istore_n 1, 1) := by decide +kernel
theorem dX12_unit_98 : decode cX12_unit 98 = .ok (.goto (-96), 3) := by decide +kernel
theorem dX12_unit_101 : decode cX12_unit 101 = .ok (.aload_n 0, 1) := by decide +kernel
theorem dX12_unit_102 : decode cX12_unit 102 = .ok (.getfield 218, 3) := by decide +kernel
theorem dX12_unit_105 : decode cX12_unit 105 = .ok (.ifCond .le 4, 3) := by decide +kernel
theorem dX12_unit_108 : decode cX12_unit 108 = .ok (.return_, 1) := by decide +kernel
theorem dX12_unit_109 : decode cX12_unit 109 = .ok (.aload_n 0, 1) := by decide +kernel
theorem dX12_unit_110 : decode cX12_unit 110 = .ok (.invokevirtual 330, 3) := by decide +kernel
theorem dX12_unit_113 : decode cX12_unit 113 = .ok (.istore_n 2, 1) := by decide +kernel
theorem dX12_unit_114 : decode cX12_unit 114 = .ok (.aload_n 0, 1) := by decide +kernel
theorem dX12_unit_115 : decode cX12_unit 115 = .ok (.getfield 205, 3) := by decide +kernel
theorem dX12_unit_118 : decode cX12_unit 118 = .ok (.iconst 2, 1) := by decide +kernel
theorem dX12_unit_119 : decode cX12_unit 119 = .ok (.if_icmp .eq 7, 3) := by decide +kernel
theorem dX12_unit_122 : decode cX12_unit 122 = .ok (.iload_n 2, 1) := by decide +kernel
theorem dX12_unit_123 : decode cX12_unit 123 = .ok (.ifCond .lt 10, 3) := by decide +kernel
theorem dX12_unit_126 : decode cX12_unit 126 = .ok (.aload_n 0, 1) := by decide +kernel
theorem dX12_unit_127 : decode cX12_unit 127 = .ok (.invokevirtual 324, 3) := by decide +kernel
theorem dX12_unit_130 : decode cX12_unit 130 = .ok (.ifCond .eq 8, 3) := by decide +kernel
theorem dX12_unit_133 : decode cX12_unit 133 = .ok (.aload_n 0, 1) := by decide +kernel
theorem dX12_unit_134 : decode cX12_unit 134 = .ok (.iconst 2, 1) := by decide +kernel
theorem dX12_unit_135 : decode cX12_unit 135 = .ok (.invokevirtual 282, 3) := by decide +kernel
theorem dX12_unit_138 : decode cX12_unit 138 = .ok (.aload_n 0, 1) := by decide +kernel
theorem dX12_unit_139 : decode cX12_unit 139 = .ok (.getfield 218, 3) := by decide +kernel
theorem dX12_unit_142 : decode cX12_unit 142 = .ok (.ifCond .le 4, 3) := by decide +kernel
theorem dX12_unit_145 : decode cX12_unit 145 = .ok (.return_, 1) := by decide +kernel
theorem dX12_unit_146 : decode cX12_unit 146 = .ok (.aload_n 0, 1) := by decide +kernel
theorem dX12_unit_147 : decode cX12_unit 147 = .ok (.invokevirtual 327, 3) := by decide +kernel
theorem dX12_unit_150 : decode cX12_unit 150 = .ok (.aload_n 0, 1) := by decide +kernel
theorem dX12_unit_151 : decode cX12_unit 151 = .ok (.iload_n 2, 1) := by decide +kernel
theorem dX12_unit_152 : decode cX12_unit 152 = .ok (.ifCond .ge 7, 3) := by decide +kernel
theorem dX12_unit_155 : decode cX12_unit 155 = .ok (.iconst 0, 1) := by decide +kernel
theorem dX12_unit_156 : decode cX12_unit 156 = .ok (.goto 4, 3) := by decide +kernel
theorem dX12_unit_159 : decode cX12_unit 159 = .ok (.iconst 1, 1) := by decide +kernel
theorem dX12_unit_160 : decode cX12_unit 160 = .ok (.iload_n 2, 1) := by decide +kernel
theorem dX12_unit_161 : decode cX12_unit 161 = .ok (.ifCond .ge 10, 3) := by decide +kernel
theorem dX12_unit_164 : decode cX12_unit 164 = .ok (.aload_n 0, 1) := by decide +kernel
theorem dX12_unit_165 : decode cX12_unit 165 = .ok (.getfield 202, 3) := by decide +kernel
theorem dX12_unit_168 : decode cX12_unit 168 = .ok (.goto 4, 3) := by decide +kernel
theorem dX12_unit_171 : decode cX12_unit 171 = .ok (.iload_n 2, 1) := by decide +kernel
theorem dX12_unit_172 : decode cX12_unit 172 = .ok (.invokevirtual 305, 3) := by decide +kernel
theorem dX12_unit_175 : decode cX12_unit 175 = .ok (.aload_n 0, 1) := by decide +kernel
theorem dX12_unit_176 : decode cX12_unit 176 = .ok (.invokevirtual 279, 3) := by decide +kernel
theorem dX12_unit_179 : decode cX12_unit 179 = .ok (.return_, 1) := by decide +kernel
set_option maxHeartbeats 4000000 in
set_option maxRecDepth 100000 in
theorem n_isFull (l : Launch) (D : va_G) (k : KT) (A : Nat → Prop) (a : Nat → Nat) (z : SK) (G : GS)   : Met l yX12_isFull (WS yX12_isFull cX12_isFull 1 (some .boolean)) ({ frames := 0, cells := 0, slots := 0, locals := 0 }) (va_Pc [.ref (a 66)] (cW D k A a z G)) (va_Qi (fun (r : Int32) (G1 : GS) => Bd G1 ∧ Fr [] [] G G1 ∧ (0 ≤ r.toInt ∧ r.toInt ≤ 1) ∧ (r.toInt = 0 → (G.1 66 23).toInt ≠ 30)) (fun (G1 : GS) t => Wd D k A a G1 t.heap) A) 0 0 A := by
  refine Met.ofW (cc := cX12_isFull) (maxL := 1) (ret := (some .boolean)) (by decide) rfl ?_
  intro p e s m args below meth c s₁ B hml hv
  obtain ⟨rfl, hW, hB_G, hK, hZ⟩ := hv
  have hx := B.exec
  have hb := B.bytes
  have hr := B.returns
  have hts := atoms_spec (ws := WS yX12_isFull cX12_isFull 1 (some .boolean)) B.pre
  have hgd : ∀ w ∈ gd, w ∈ WS yX12_isFull cX12_isFull 1 (some .boolean) := fun w h => List.mem_cons_of_mem _ h
  have hg : ∀ w ∈ gd, w.before _ s = true := fun w h => hts w (hgd w h)
  have hown : s.vm.findClass RX12 = some m.cls := findClass_of_methodNamed B.named
  have hS : va_S A s.heap s.heap [] := va_S.rf
  have hF : Fr [] [] G G := Fr.rf
  have hl := lv_entry ([.ref (a 66)]) (n := 1) (Nat.le_of_ble_eq_true rfl)
  rw [lg_entry_eq]
  generalize (lg_sl ([.ref (a 66)]) ++ List.replicate (1 - (lg_sl ([.ref (a 66)])).length) Slot.unset).toArray = ls at hl ⊢
  have hl : lv_has ls 1 [(0, .ref (a 66))] := hl
  refine lv_aload_n hx hb dX12_isFull_0 rfl (lv_at hl 0 rfl) ?_
  refine S_getI (v := (G.1 66 21)) (C := RX12) (T := TX12) (N := 89) hx hb hg iX12 hown hK hW kd_66 rfl 21 (by decide) (hg (Cond.fieldLink RX12 312 "SlabWalkModel" "nUnits" "I") m1335) (fun _ h9 => h9) rfl rfl dX12_isFull_1 ?_
  refine lv_bipush (v := 90) hx hb dX12_isFull_4 (by decide) ?_
  refine lv_icmp_eq (tgt := 18) hx hb dX12_isFull_6 (by decide) (fun c_1 => ?_) (fun c_1 => ?_)
  · have c_1 : (G.1 66 21).toInt = 90 := xI_eq rfl rfl c_1
    refine lv_iconst (v := 1) hx hb dX12_isFull_18 (by decide) ?_
    refine lv_goto (tgt := 23) hx hb dX12_isFull_19 (by decide) ?_
    have b_2 : 0 ≤ (G.1 66 23).toInt ∧ (G.1 66 23).toInt ≤ 40 := hB_G.i 66 23 rfl rfl
    exact W.zret (v := 1) hx hb hr (by decide) (fun t ht _ => ⟨⟨1, G, rfl, ⟨hB_G, hF, ⟨by decide, by decide⟩, (by have hq : (1 : Int32).toInt = 1 := rfl; (try dsimp only); omega)⟩, wd_t ht hW⟩, hS.F ht⟩) hS.2.2 dX12_isFull_23
  · have c_1 : (G.1 66 21).toInt ≠ 90 := xI_ne rfl rfl c_1
    refine lv_aload_n hx hb dX12_isFull_9 rfl (lv_at hl 0 rfl) ?_
    have b_3 : 0 ≤ (G.1 66 23).toInt ∧ (G.1 66 23).toInt ≤ 40 := hB_G.i 66 23 rfl rfl
    refine S_getI (v := (G.1 66 23)) (C := RX12) (T := TX12) (N := 89) hx hb hg iX12 hown hK hW kd_66 rfl 23 (by decide) (hg (Cond.fieldLink RX12 315 "SlabWalkModel" "ownUnits" "I") m1337) (fun _ h9 => h9) rfl rfl dX12_isFull_10 ?_
    refine lv_bipush (v := 30) hx hb dX12_isFull_13 (by decide) ?_
    refine lv_icmp_ne (tgt := 22) hx hb dX12_isFull_15 (by decide) (fun c_4 => ?_) (fun c_4 => ?_)
    · have c_4 : (G.1 66 23).toInt ≠ 30 := xI_ne rfl rfl c_4
      refine lv_iconst (v := 0) hx hb dX12_isFull_22 (by decide) ?_
      exact W.zret (v := 0) hx hb hr (by decide) (fun t ht _ => ⟨⟨0, G, rfl, ⟨hB_G, hF, ⟨by decide, by decide⟩, (by have hq : (0 : Int32).toInt = 0 := rfl; (try dsimp only); omega)⟩, wd_t ht hW⟩, hS.F ht⟩) hS.2.2 dX12_isFull_23
    · have c_4 : (G.1 66 23).toInt = 30 := xI_eq rfl rfl c_4
      refine lv_iconst (v := 1) hx hb dX12_isFull_18 (by decide) ?_
      refine lv_goto (tgt := 23) hx hb dX12_isFull_19 (by decide) ?_
      exact W.zret (v := 1) hx hb hr (by decide) (fun t ht _ => ⟨⟨1, G, rfl, ⟨hB_G, hF, ⟨by decide, by decide⟩, (by have hq : (1 : Int32).toInt = 1 := rfl; (try dsimp only); omega)⟩, wd_t ht hW⟩, hS.F ht⟩) hS.2.2 dX12_isFull_23

set_option maxHeartbeats 4000000 in
set_option maxRecDepth 100000 in
theorem n_countUnit (l : Launch) (D : va_G) (k : KT) (A : Nat → Prop) (a : Nat → Nat) (z : SK) (G : GS)  (how : (G.1 66 23).toInt ≤ 39) : Met l yX12_countUnit (WS yX12_countUnit cX12_countUnit 1 none) ({ frames := 0, cells := 0, slots := 0, locals := 0 }) (va_Pc [.ref (a 66)] (cW D k A a z G)) (va_Qv (fun (G1 : GS) => Bd G1 ∧ Fr [] [(66, 21), (66, 23)] G G1 ∧ ((G1.1 66 23).toInt = (G.1 66 23).toInt + 1)) (fun (G1 : GS) t => Wd D k A a G1 t.heap) A) 0 0 A := by
  refine Met.ofW (cc := cX12_countUnit) (maxL := 1) (ret := none) (by decide) rfl ?_
  intro p e s m args below meth c s₁ B hml hv
  obtain ⟨rfl, hW, hB_G, hK, hZ⟩ := hv
  have hx := B.exec
  have hb := B.bytes
  have hr := B.returns
  have hts := atoms_spec (ws := WS yX12_countUnit cX12_countUnit 1 none) B.pre
  have hgd : ∀ w ∈ gd, w ∈ WS yX12_countUnit cX12_countUnit 1 none := fun w h => List.mem_cons_of_mem _ h
  have hg : ∀ w ∈ gd, w.before _ s = true := fun w h => hts w (hgd w h)
  have hown : s.vm.findClass RX12 = some m.cls := findClass_of_methodNamed B.named
  have hS : va_S A s.heap s.heap [] := va_S.rf
  have hF : Fr [] [(66, 21), (66, 23)] G G := Fr.rf
  have hl := lv_entry ([.ref (a 66)]) (n := 1) (Nat.le_of_ble_eq_true rfl)
  rw [lg_entry_eq]
  generalize (lg_sl ([.ref (a 66)]) ++ List.replicate (1 - (lg_sl ([.ref (a 66)])).length) Slot.unset).toArray = ls at hl ⊢
  have hl : lv_has ls 1 [(0, .ref (a 66))] := hl
  refine lv_aload_n hx hb dX12_countUnit_0 rfl (lv_at hl 0 rfl) ?_
  refine lv_dup hx hb dX12_countUnit_1 rfl ?_
  refine S_getI (v := (G.1 66 21)) (C := RX12) (T := TX12) (N := 89) hx hb hg iX12 hown hK hW kd_66 rfl 21 (by decide) (hg (Cond.fieldLink RX12 312 "SlabWalkModel" "nUnits" "I") m1335) (fun _ h9 => h9) rfl rfl dX12_countUnit_2 ?_
  refine lv_iconst (v := 1) hx hb dX12_countUnit_5 (by decide) ?_
  refine lv_iadd hx hb dX12_countUnit_6 ?_
  refine lv_topi (fun y_1 ey_1 => ?_)
  refine S_putI (ty := .int) (C := RX12) (T := TX12) (N := 89) hx hb hg iX12 tyX12 tyX12_ok nmX12 hown hK hW hS kd_66 rfl 21 (by decide) (hg (Cond.fieldLink RX12 312 "SlabWalkModel" "nUnits" "I") m1335) (fun _ h9 => h9) rfl (by decide +kernel) rfl rfl rfl dX12_countUnit_7 (fun G_2 H locs eG_2 hW hS => ?_)
  have hB_G_2 : Bd G_2 := hB_G.put (lo := (-2147483648)) (hi := 2147483647) eG_2 rfl rfl rfl (tI_rng _).1 (tI_rng _).2 (hB_G.2.put eG_2 rfl)
  have hF := hF.put eG_2 (Or.inr (by decide))
  refine lv_aload_n hx hb dX12_countUnit_10 rfl (lv_at hl 0 rfl) ?_
  refine lv_dup hx hb dX12_countUnit_11 rfl ?_
  have b_3 : 0 ≤ (G.1 66 23).toInt ∧ (G.1 66 23).toInt ≤ 40 := hB_G.i 66 23 rfl rfl
  refine S_getI (v := (G.1 66 23)) (C := RX12) (T := TX12) (N := 89) hx hb hg iX12 hown hK hW kd_66 rfl 23 (by decide) (hg (Cond.fieldLink RX12 315 "SlabWalkModel" "ownUnits" "I") m1337) (fun _ h9 => h9) rfl (gp_ne eG_2 (by decide)) dX12_countUnit_12 ?_
  refine lv_iconst (v := 1) hx hb dX12_countUnit_15 (by decide) ?_
  refine lv_iadd hx hb dX12_countUnit_16 ?_
  refine lv_topi (fun y_4 ey_4 => ?_)
  have ty_4 : y_4.toInt = (G.1 66 23).toInt + 1 := xI_add rfl rfl ey_4 (by omega) (by omega)
  refine S_putI (ty := .int) (C := RX12) (T := TX12) (N := 89) hx hb hg iX12 tyX12 tyX12_ok nmX12 hown hK hW hS kd_66 rfl 23 (by decide) (hg (Cond.fieldLink RX12 315 "SlabWalkModel" "ownUnits" "I") m1337) (fun _ h9 => h9) rfl (by decide +kernel) rfl rfl rfl dX12_countUnit_17 (fun G_5 H locs eG_5 hW hS => ?_)
  have hB_G_5 : Bd G_5 := hB_G_2.put (V := y_4.toInt) (lo := 0) (hi := 40) eG_5 rfl rfl rfl (by omega) (by omega) (hB_G_2.2.put eG_5 rfl)
  have hF := hF.put eG_5 (Or.inr (by decide))
  have g_6 : (G_5.1 66 23).toInt = y_4.toInt := by rw [show G_5.1 66 23 = y_4 from (gp_eq eG_5)]
  exact W.vret hx hb hr (fun t ht _ => ⟨⟨G_5, rfl, ⟨hB_G_5, hF, (by omega)⟩, wd_t ht hW⟩, hS.F ht⟩) hS.2.2 dX12_countUnit_20

set_option maxHeartbeats 4000000 in
set_option maxRecDepth 100000 in
theorem n_openUp (l : Launch) (D : va_G) (k : KT) (A : Nat → Prop) (a : Nat → Nat) (z : SK) (G : GS) (p0 : Int32) (ha_p0 : 20 ≤ p0.toInt ∧ p0.toInt ≤ 21) (hop : (G.1 66 20).toInt ≤ 159 ∧ (G.1 66 24).toInt ≤ 199) : Met l yX12_openUp (WS yX12_openUp cX12_openUp 2 none) ({ frames := 2, cells := 0, slots := 0, locals := 43 }) (va_Pc [.ref (a 66), .int p0] (cW D k A a z G)) (va_Qv (fun (G1 : GS) => Bd G1 ∧ Fr [75] [(66, 4), (66, 6), (66, 7), (66, 8), (66, 9), (66, 20), (66, 24)] G G1 ∧ ((G1.1 66 20).toInt = (G.1 66 20).toInt + 1 ∧ (G1.1 66 24).toInt = (G.1 66 24).toInt + 1 ∧ gB G1 = gB G ∧ (G.1 66 4).toInt ≤ (G1.1 66 4).toInt ∧ ((G1.1 66 4).toInt = (G.1 66 4).toInt → (G1.1 66 6).toInt = (G.1 66 6).toInt ∨ (G1.1 66 6).toInt ≤ 3))) (fun (G1 : GS) t => Wd D k A a G1 t.heap) A) 0 0 A := by
  refine Met.ofW (cc := cX12_openUp) (maxL := 2) (ret := none) (by decide) rfl ?_
  intro p e s m args below meth c s₁ B hml hv
  obtain ⟨rfl, hW, hB_G, hK, hZ⟩ := hv
  have hx := B.exec
  have hb := B.bytes
  have hr := B.returns
  have hts := atoms_spec (ws := WS yX12_openUp cX12_openUp 2 none) B.pre
  have hgd : ∀ w ∈ gd, w ∈ WS yX12_openUp cX12_openUp 2 none := fun w h => List.mem_cons_of_mem _ h
  have hg : ∀ w ∈ gd, w.before _ s = true := fun w h => hts w (hgd w h)
  have hown : s.vm.findClass RX12 = some m.cls := findClass_of_methodNamed B.named
  have hS : va_S A s.heap s.heap [] := va_S.rf
  have hF : Fr [75] [(66, 4), (66, 6), (66, 7), (66, 8), (66, 9), (66, 20), (66, 24)] G G := Fr.rf
  have hl := lv_entry ([.ref (a 66), .int p0]) (n := 2) (Nat.le_of_ble_eq_true rfl)
  rw [lg_entry_eq]
  generalize (lg_sl ([.ref (a 66), .int p0]) ++ List.replicate (2 - (lg_sl ([.ref (a 66), .int p0])).length) Slot.unset).toArray = ls at hl ⊢
  have hl : lv_has ls 2 [(0, .ref (a 66)), (1, .int p0)] := hl
  refine lv_aload_n hx hb dX12_openUp_0 rfl (lv_at hl 0 rfl) ?_
  refine S_getR (n := 75) (C := RX12) (T := TX12) (N := 89) hx hb hg iX12 hown hK hW kd_66 rfl 17 (by decide) (hg (Cond.fieldLink RX12 39 "SlabWalkModel" "open" "[I") m1331) (fun _ h9 => h9) rfl dX12_openUp_1 ?_
  refine lv_aload_n hx hb dX12_openUp_4 rfl (lv_at hl 0 rfl) ?_
  have b_1 : 0 ≤ (G.1 66 20).toInt ∧ (G.1 66 20).toInt ≤ 160 := hB_G.i 66 20 rfl rfl
  refine S_getI (v := (G.1 66 20)) (C := RX12) (T := TX12) (N := 89) hx hb hg iX12 hown hK hW kd_66 rfl 20 (by decide) (hg (Cond.fieldLink RX12 299 "SlabWalkModel" "opens" "I") m1334) (fun _ h9 => h9) rfl rfl dX12_openUp_5 ?_
  refine lv_iload_n hx hb dX12_openUp_8 rfl (lv_at hl 1 rfl) ?_
  refine S_iast hx hb hK hW hS kd_75 (vin (by omega) (by omega)) dX12_openUp_9 (fun G_2 H locs eG_2 hW hS => ?_)
  have hB_G_2 : Bd G_2 := hB_G.put (lo := (-2147483648)) (hi := 2147483647) eG_2 rfl rfl rfl (tI_rng _).1 (tI_rng _).2 (hB_G.2.put eG_2 rfl)
  have hF := hF.put eG_2 (Or.inl (by decide))
  refine lv_aload_n hx hb dX12_openUp_10 rfl (lv_at hl 0 rfl) ?_
  refine lv_dup hx hb dX12_openUp_11 rfl ?_
  refine S_getI (v := (G.1 66 20)) (C := RX12) (T := TX12) (N := 89) hx hb hg iX12 hown hK hW kd_66 rfl 20 (by decide) (hg (Cond.fieldLink RX12 299 "SlabWalkModel" "opens" "I") m1334) (fun _ h9 => h9) rfl ((gp_ne eG_2 (fun q => absurd q.1 (by decide))).trans (rfl)) dX12_openUp_12 ?_
  refine lv_iconst (v := 1) hx hb dX12_openUp_15 (by decide) ?_
  refine lv_iadd hx hb dX12_openUp_16 ?_
  refine lv_topi (fun y_3 ey_3 => ?_)
  have ty_3 : y_3.toInt = (G.1 66 20).toInt + 1 := xI_add rfl rfl ey_3 (by omega) (by omega)
  refine S_putI (ty := .int) (C := RX12) (T := TX12) (N := 89) hx hb hg iX12 tyX12 tyX12_ok nmX12 hown hK hW hS kd_66 rfl 20 (by decide) (hg (Cond.fieldLink RX12 299 "SlabWalkModel" "opens" "I") m1334) (fun _ h9 => h9) rfl (by decide +kernel) rfl rfl rfl dX12_openUp_17 (fun G_4 H locs eG_4 hW hS => ?_)
  have hB_G_4 : Bd G_4 := hB_G_2.put (V := y_3.toInt) (lo := 0) (hi := 160) eG_4 rfl rfl rfl (by omega) (by omega) (hB_G_2.2.put eG_4 rfl)
  have hF := hF.put eG_4 (Or.inr (by decide))
  have u_5 := gh_push eG_2 eG_4 (by omega) (by omega) (by omega)
  refine lv_aload_n hx hb dX12_openUp_20 rfl (lv_at hl 0 rfl) ?_
  refine lv_dup hx hb dX12_openUp_21 rfl ?_
  have b_6 : (-1) ≤ (G.1 66 24).toInt ∧ (G.1 66 24).toInt ≤ 200 := hB_G.i 66 24 rfl rfl
  refine S_getI (v := (G.1 66 24)) (C := RX12) (T := TX12) (N := 89) hx hb hg iX12 hown hK hW kd_66 rfl 24 (by decide) (hg (Cond.fieldLink RX12 309 "SlabWalkModel" "deep" "I") m1338) (fun _ h9 => h9) rfl ((gp_ne eG_4 (by decide)).trans (gp_ne eG_2 (fun q => absurd q.1 (by decide)))) dX12_openUp_22 ?_
  refine lv_iconst (v := 1) hx hb dX12_openUp_25 (by decide) ?_
  refine lv_iadd hx hb dX12_openUp_26 ?_
  refine lv_topi (fun y_7 ey_7 => ?_)
  have ty_7 : y_7.toInt = (G.1 66 24).toInt + 1 := xI_add rfl rfl ey_7 (by omega) (by omega)
  refine S_putI (ty := .int) (C := RX12) (T := TX12) (N := 89) hx hb hg iX12 tyX12 tyX12_ok nmX12 hown hK hW hS kd_66 rfl 24 (by decide) (hg (Cond.fieldLink RX12 309 "SlabWalkModel" "deep" "I") m1338) (fun _ h9 => h9) rfl (by decide +kernel) rfl rfl rfl dX12_openUp_27 (fun G_8 H locs eG_8 hW hS => ?_)
  have hB_G_8 : Bd G_8 := hB_G_4.put (V := y_7.toInt) (lo := (-1)) (hi := 200) eG_8 rfl rfl rfl (by omega) (by omega) (hB_G_4.2.put eG_8 rfl)
  have hF := hF.put eG_8 (Or.inr (by decide))
  refine lv_aload_n hx hb dX12_openUp_30 rfl (lv_at hl 0 rfl) ?_
  have b_9 : 0 ≤ (G.1 66 2).toInt ∧ (G.1 66 2).toInt ≤ 4 := hB_G.i 66 2 rfl rfl
  refine S_getI (v := (G.1 66 2)) (C := RX12) (T := TX12) (N := 89) hx hb hg iX12 hown hK hW kd_66 rfl 2 (by decide) (hg (Cond.fieldLink RX12 218 "SlabWalkModel" "fault" "I") m1316) (fun _ h9 => h9) rfl ((gp_ne eG_8 (by decide)).trans ((gp_ne eG_4 (by decide)).trans (gp_ne eG_2 (fun q => absurd q.1 (by decide))))) dX12_openUp_31 ?_
  refine lv_if_ne (tgt := 41) hx hb dX12_openUp_34 (by decide) (fun c_10 => ?_) (fun c_10 => ?_)
  · have c_10 : (G.1 66 2).toInt ≠ 0 := xI_ne rfl rfl c_10
    have g_11 : gB G_8 = gB G_4 := gB_fr (rs := []) (fs := [(66, 24)]) (Fr.rf.put eG_8 (Or.inr (by decide))) (by decide) (by decide)
    have g_12 : (G_8.1 66 20).toInt = y_3.toInt := by rw [show G_8.1 66 20 = y_3 from ((gp_ne eG_8 (by decide)).trans (gp_eq eG_4))]
    have g_13 : (G_8.1 66 24).toInt = y_7.toInt := by rw [show G_8.1 66 24 = y_7 from (gp_eq eG_8)]
    have b_14 : 0 ≤ (G.1 66 4).toInt ∧ (G.1 66 4).toInt ≤ 1600 := hB_G.i 66 4 rfl rfl
    have g_15 : (G_8.1 66 4).toInt = (G.1 66 4).toInt := by rw [show G_8.1 66 4 = (G.1 66 4) from ((gp_ne eG_8 (by decide)).trans ((gp_ne eG_4 (by decide)).trans (gp_ne eG_2 (fun q => absurd q.1 (by decide)))))]
    have g_16 : (G_8.1 66 6).toInt = (G.1 66 6).toInt := by rw [show G_8.1 66 6 = (G.1 66 6) from ((gp_ne eG_8 (by decide)).trans ((gp_ne eG_4 (by decide)).trans (gp_ne eG_2 (fun q => absurd q.1 (by decide)))))]
    exact W.vret hx hb hr (fun t ht _ => ⟨⟨G_8, rfl, ⟨hB_G_8, hF, (by omega)⟩, wd_t ht hW⟩, hS.F ht⟩) hS.2.2 dX12_openUp_41
  · have c_10 : (G.1 66 2).toInt = 0 := xI_eq rfl rfl c_10
    refine lv_aload_n hx hb dX12_openUp_37 rfl (lv_at hl 0 rfl) ?_
    have b_17 : 0 ≤ (G.1 66 4).toInt ∧ (G.1 66 4).toInt ≤ 1600 := hB_G.i 66 4 rfl rfl
    have g_18 : (G_8.1 66 4).toInt = (G.1 66 4).toInt := by rw [show G_8.1 66 4 = (G.1 66 4) from ((gp_ne eG_8 (by decide)).trans ((gp_ne eG_4 (by decide)).trans (gp_ne eG_2 (fun q => absurd q.1 (by decide)))))]
    have g_19 : (G_8.1 66 6).toInt = (G.1 66 6).toInt := by rw [show G_8.1 66 6 = (G.1 66 6) from ((gp_ne eG_8 (by decide)).trans ((gp_ne eG_4 (by decide)).trans (gp_ne eG_2 (fun q => absurd q.1 (by decide)))))]
    refine S_callv (va_runV (As := []) (rest := []) ⟨hx, hb, hml, hown, hts⟩ (n_token l D k A a z G_8  ) (cwV 0 hts (gd_V hgd m1602 m1604 m50 m131 m1605) rfl rfl rfl (by decide +kernel) ⟨Nat.le_of_ble_eq_true rfl, Nat.le_of_ble_eq_true rfl⟩) (pre_V hW hB_G_8 hK hZ hS kd_66 rfl) rfl rfl hl.1 rfl (lv_room (Nat.le_of_ble_eq_true rfl)) dX12_openUp_38 ⟨Nat.le_of_ble_eq_true rfl, Nat.le_of_ble_eq_true rfl⟩) hS (fun G_21 H locs hpo hW hS => ?_)
    obtain ⟨hB_G_21, hq_22, hp_23⟩ := hpo
    have hF := hF.call hq_22 (by decide) (by decide)
    have g_24 : gB G_21 = gB G_4 := gB_fr (rs := []) (fs := [(66, 4), (66, 6), (66, 7), (66, 8), (66, 9), (66, 24)]) ((Fr.rf.put eG_8 (Or.inr (by decide))).call hq_22 (by decide) (by decide)) (by decide) (by decide)
    have g_25 : (G_21.1 66 20).toInt = y_3.toInt := by rw [show G_21.1 66 20 = y_3 from ((hq_22.i 66 20 (by decide) (by decide)).trans ((gp_ne eG_8 (by decide)).trans (gp_eq eG_4)))]
    have g_26 : (G_21.1 66 24).toInt = y_7.toInt := by rw [show G_21.1 66 24 = y_7 from ((hq_22.i 66 24 (by decide) (by decide)).trans (gp_eq eG_8))]
    have b_27 : 0 ≤ (G_21.1 66 4).toInt ∧ (G_21.1 66 4).toInt ≤ 1600 := hB_G_21.i 66 4 rfl rfl
    exact W.vret hx hb hr (fun t ht _ => ⟨⟨G_21, rfl, ⟨hB_G_21, hF, (by omega)⟩, wd_t ht hW⟩, hS.F ht⟩) hS.2.2 dX12_openUp_41

set_option maxHeartbeats 4000000 in
set_option maxRecDepth 100000 in
theorem n_signOf (l : Launch) (D : va_G) (k : KT) (A : Nat → Prop) (a : Nat → Nat) (z : SK) (G : GS)   : Met l yX12_sign (WS yX12_sign cX12_sign 1 (some .int)) ({ frames := 1, cells := 0, slots := 0, locals := 22 }) (va_Pc [.ref (a 66)] (cW D k A a z G)) (va_Qi (fun (r : Int32) (G1 : GS) => Bd G1 ∧ Fr [] [] G G1 ∧ (0 ≤ r.toInt ∧ r.toInt ≤ 124) ∧ (r.toInt = 0 ∨ 22 ≤ r.toInt)) (fun (G1 : GS) t => Wd D k A a G1 t.heap) A) 0 0 A := by
  refine Met.ofW (cc := cX12_sign) (maxL := 1) (ret := (some .int)) (by decide) rfl ?_
  intro p e s m args below meth c s₁ B hml hv
  obtain ⟨rfl, hW, hB_G, hK, hZ⟩ := hv
  have hx := B.exec
  have hb := B.bytes
  have hr := B.returns
  have hts := atoms_spec (ws := WS yX12_sign cX12_sign 1 (some .int)) B.pre
  have hgd : ∀ w ∈ gd, w ∈ WS yX12_sign cX12_sign 1 (some .int) := fun w h => List.mem_cons_of_mem _ h
  have hg : ∀ w ∈ gd, w.before _ s = true := fun w h => hts w (hgd w h)
  have hown : s.vm.findClass RX12 = some m.cls := findClass_of_methodNamed B.named
  have hS : va_S A s.heap s.heap [] := va_S.rf
  have hF : Fr [] [] G G := Fr.rf
  have hl := lv_entry ([.ref (a 66)]) (n := 1) (Nat.le_of_ble_eq_true rfl)
  rw [lg_entry_eq]
  generalize (lg_sl ([.ref (a 66)]) ++ List.replicate (1 - (lg_sl ([.ref (a 66)])).length) Slot.unset).toArray = ls at hl ⊢
  have hl : lv_has ls 1 [(0, .ref (a 66))] := hl
  refine lv_aload_n hx hb dX12_sign_0 rfl (lv_at hl 0 rfl) ?_
  refine lv_ldc2 (v := 6385252) hx hb hown (hg (Cond.constantLong RX12 257 6385252) m1667) dX12_sign_1 ?_
  refine S_calli (va_runV (As := [.long 6385252]) (rest := []) ⟨hx, hb, hml, hown, hts⟩ (n_isWord l D k A a z G 6385252 ) (cwV 1 hts (gd_V hgd m1624 m1626 m53 m131 m1627) rfl rfl rfl (by decide +kernel) ⟨Nat.le_of_ble_eq_true rfl, Nat.le_of_ble_eq_true rfl⟩) (pre_V hW hB_G hK hZ hS kd_66 rfl) rfl rfl hl.1 rfl (lv_room (Nat.le_of_ble_eq_true rfl)) dX12_sign_4 ⟨Nat.le_of_ble_eq_true rfl, Nat.le_of_ble_eq_true rfl⟩) hS (fun r_1 G_2 H locs hpo hW hS => ?_)
  obtain ⟨hB_G_2, hq_3, f_5, hp_4⟩ := hpo
  have hF := hF.call hq_3 (by decide) (by decide)
  refine lv_if_eq (tgt := 13) hx hb dX12_sign_7 (by decide) (fun c_6 => ?_) (fun c_6 => ?_)
  · have c_6 : r_1.toInt = 0 := xI_eq rfl rfl c_6
    refine lv_aload_n hx hb dX12_sign_13 rfl (lv_at hl 0 rfl) ?_
    refine lv_ldc2 (v := 28530) hx hb hown (hg (Cond.constantLong RX12 259 28530) m1668) dX12_sign_14 ?_
    have g_7 : (G_2.1 66 6).toInt = (G.1 66 6).toInt := by rw [show G_2.1 66 6 = (G.1 66 6) from (hq_3.i 66 6 (by decide) (by decide))]
    refine S_calli (va_runV (As := [.long 28530]) (rest := []) ⟨hx, hb, hml, hown, hts⟩ (n_isWord l D k A a z G_2 28530 ) (cwV 1 hts (gd_V hgd m1624 m1626 m53 m131 m1627) rfl rfl rfl (by decide +kernel) ⟨Nat.le_of_ble_eq_true rfl, Nat.le_of_ble_eq_true rfl⟩) (pre_V hW hB_G_2 hK hZ hS kd_66 rfl) rfl rfl hl.1 rfl (lv_room (Nat.le_of_ble_eq_true rfl)) dX12_sign_17 ⟨Nat.le_of_ble_eq_true rfl, Nat.le_of_ble_eq_true rfl⟩) hS (fun r_8 G_9 H locs hpo hW hS => ?_)
    obtain ⟨hB_G_9, hq_10, f_12, hp_11⟩ := hpo
    have hF := hF.call hq_10 (by decide) (by decide)
    refine lv_if_eq (tgt := 26) hx hb dX12_sign_20 (by decide) (fun c_13 => ?_) (fun c_13 => ?_)
    · have c_13 : r_8.toInt = 0 := xI_eq rfl rfl c_13
      refine lv_aload_n hx hb dX12_sign_26 rfl (lv_at hl 0 rfl) ?_
      refine S_getI (v := (G.1 66 6)) (C := RX12) (T := TX12) (N := 89) hx hb hg iX12 hown hK hW kd_66 rfl 6 (by decide) (hg (Cond.fieldLink RX12 205 "SlabWalkModel" "sort" "I") m1320) (fun _ h9 => h9) rfl ((hq_10.i 66 6 (by decide) (by decide)).trans ((hq_3.i 66 6 (by decide) (by decide)).trans (rfl))) dX12_sign_27 ?_
      refine lv_bipush (v := 60) hx hb dX12_sign_30 (by decide) ?_
      refine lv_icmp_eq (tgt := 98) hx hb dX12_sign_32 (by decide) (fun c_14 => ?_) (fun c_14 => ?_)
      · have c_14 : (G.1 66 6).toInt = 60 := xI_eq rfl rfl c_14
        refine lv_aload_n hx hb dX12_sign_98 rfl (lv_at hl 0 rfl) ?_
        refine S_getI (v := (G.1 66 6)) (C := RX12) (T := TX12) (N := 89) hx hb hg iX12 hown hK hW kd_66 rfl 6 (by decide) (hg (Cond.fieldLink RX12 205 "SlabWalkModel" "sort" "I") m1320) (fun _ h9 => h9) rfl ((hq_10.i 66 6 (by decide) (by decide)).trans ((hq_3.i 66 6 (by decide) (by decide)).trans (rfl))) dX12_sign_99 ?_
        refine lv_goto (tgt := 106) hx hb dX12_sign_102 (by decide) ?_
        exact W.iret (v := (G.1 66 6)) hx hb hr (fun t ht _ => ⟨⟨(G.1 66 6), G_9, rfl, ⟨hB_G_9, hF, ⟨by omega, by omega⟩, (by omega)⟩, wd_t ht hW⟩, hS.F ht⟩) hS.2.2 dX12_sign_106
      · have c_14 : (G.1 66 6).toInt ≠ 60 := xI_ne rfl rfl c_14
        refine lv_aload_n hx hb dX12_sign_35 rfl (lv_at hl 0 rfl) ?_
        refine S_getI (v := (G.1 66 6)) (C := RX12) (T := TX12) (N := 89) hx hb hg iX12 hown hK hW kd_66 rfl 6 (by decide) (hg (Cond.fieldLink RX12 205 "SlabWalkModel" "sort" "I") m1320) (fun _ h9 => h9) rfl ((hq_10.i 66 6 (by decide) (by decide)).trans ((hq_3.i 66 6 (by decide) (by decide)).trans (rfl))) dX12_sign_36 ?_
        refine lv_bipush (v := 62) hx hb dX12_sign_39 (by decide) ?_
        refine lv_icmp_eq (tgt := 98) hx hb dX12_sign_41 (by decide) (fun c_15 => ?_) (fun c_15 => ?_)
        · have c_15 : (G.1 66 6).toInt = 62 := xI_eq rfl rfl c_15
          refine lv_aload_n hx hb dX12_sign_98 rfl (lv_at hl 0 rfl) ?_
          refine S_getI (v := (G.1 66 6)) (C := RX12) (T := TX12) (N := 89) hx hb hg iX12 hown hK hW kd_66 rfl 6 (by decide) (hg (Cond.fieldLink RX12 205 "SlabWalkModel" "sort" "I") m1320) (fun _ h9 => h9) rfl ((hq_10.i 66 6 (by decide) (by decide)).trans ((hq_3.i 66 6 (by decide) (by decide)).trans (rfl))) dX12_sign_99 ?_
          refine lv_goto (tgt := 106) hx hb dX12_sign_102 (by decide) ?_
          exact W.iret (v := (G.1 66 6)) hx hb hr (fun t ht _ => ⟨⟨(G.1 66 6), G_9, rfl, ⟨hB_G_9, hF, ⟨by omega, by omega⟩, (by omega)⟩, wd_t ht hW⟩, hS.F ht⟩) hS.2.2 dX12_sign_106
        · have c_15 : (G.1 66 6).toInt ≠ 62 := xI_ne rfl rfl c_15
          refine lv_aload_n hx hb dX12_sign_44 rfl (lv_at hl 0 rfl) ?_
          refine S_getI (v := (G.1 66 6)) (C := RX12) (T := TX12) (N := 89) hx hb hg iX12 hown hK hW kd_66 rfl 6 (by decide) (hg (Cond.fieldLink RX12 205 "SlabWalkModel" "sort" "I") m1320) (fun _ h9 => h9) rfl ((hq_10.i 66 6 (by decide) (by decide)).trans ((hq_3.i 66 6 (by decide) (by decide)).trans (rfl))) dX12_sign_45 ?_
          refine lv_bipush (v := 61) hx hb dX12_sign_48 (by decide) ?_
          refine lv_icmp_eq (tgt := 98) hx hb dX12_sign_50 (by decide) (fun c_16 => ?_) (fun c_16 => ?_)
          · have c_16 : (G.1 66 6).toInt = 61 := xI_eq rfl rfl c_16
            refine lv_aload_n hx hb dX12_sign_98 rfl (lv_at hl 0 rfl) ?_
            refine S_getI (v := (G.1 66 6)) (C := RX12) (T := TX12) (N := 89) hx hb hg iX12 hown hK hW kd_66 rfl 6 (by decide) (hg (Cond.fieldLink RX12 205 "SlabWalkModel" "sort" "I") m1320) (fun _ h9 => h9) rfl ((hq_10.i 66 6 (by decide) (by decide)).trans ((hq_3.i 66 6 (by decide) (by decide)).trans (rfl))) dX12_sign_99 ?_
            refine lv_goto (tgt := 106) hx hb dX12_sign_102 (by decide) ?_
            exact W.iret (v := (G.1 66 6)) hx hb hr (fun t ht _ => ⟨⟨(G.1 66 6), G_9, rfl, ⟨hB_G_9, hF, ⟨by omega, by omega⟩, (by omega)⟩, wd_t ht hW⟩, hS.F ht⟩) hS.2.2 dX12_sign_106
          · have c_16 : (G.1 66 6).toInt ≠ 61 := xI_ne rfl rfl c_16
            refine lv_aload_n hx hb dX12_sign_53 rfl (lv_at hl 0 rfl) ?_
            refine S_getI (v := (G.1 66 6)) (C := RX12) (T := TX12) (N := 89) hx hb hg iX12 hown hK hW kd_66 rfl 6 (by decide) (hg (Cond.fieldLink RX12 205 "SlabWalkModel" "sort" "I") m1320) (fun _ h9 => h9) rfl ((hq_10.i 66 6 (by decide) (by decide)).trans ((hq_3.i 66 6 (by decide) (by decide)).trans (rfl))) dX12_sign_54 ?_
            refine lv_bipush (v := 43) hx hb dX12_sign_57 (by decide) ?_
            refine lv_icmp_eq (tgt := 98) hx hb dX12_sign_59 (by decide) (fun c_17 => ?_) (fun c_17 => ?_)
            · have c_17 : (G.1 66 6).toInt = 43 := xI_eq rfl rfl c_17
              refine lv_aload_n hx hb dX12_sign_98 rfl (lv_at hl 0 rfl) ?_
              refine S_getI (v := (G.1 66 6)) (C := RX12) (T := TX12) (N := 89) hx hb hg iX12 hown hK hW kd_66 rfl 6 (by decide) (hg (Cond.fieldLink RX12 205 "SlabWalkModel" "sort" "I") m1320) (fun _ h9 => h9) rfl ((hq_10.i 66 6 (by decide) (by decide)).trans ((hq_3.i 66 6 (by decide) (by decide)).trans (rfl))) dX12_sign_99 ?_
              refine lv_goto (tgt := 106) hx hb dX12_sign_102 (by decide) ?_
              exact W.iret (v := (G.1 66 6)) hx hb hr (fun t ht _ => ⟨⟨(G.1 66 6), G_9, rfl, ⟨hB_G_9, hF, ⟨by omega, by omega⟩, (by omega)⟩, wd_t ht hW⟩, hS.F ht⟩) hS.2.2 dX12_sign_106
            · have c_17 : (G.1 66 6).toInt ≠ 43 := xI_ne rfl rfl c_17
              refine lv_aload_n hx hb dX12_sign_62 rfl (lv_at hl 0 rfl) ?_
              refine S_getI (v := (G.1 66 6)) (C := RX12) (T := TX12) (N := 89) hx hb hg iX12 hown hK hW kd_66 rfl 6 (by decide) (hg (Cond.fieldLink RX12 205 "SlabWalkModel" "sort" "I") m1320) (fun _ h9 => h9) rfl ((hq_10.i 66 6 (by decide) (by decide)).trans ((hq_3.i 66 6 (by decide) (by decide)).trans (rfl))) dX12_sign_63 ?_
              refine lv_bipush (v := 45) hx hb dX12_sign_66 (by decide) ?_
              refine lv_icmp_eq (tgt := 98) hx hb dX12_sign_68 (by decide) (fun c_18 => ?_) (fun c_18 => ?_)
              · have c_18 : (G.1 66 6).toInt = 45 := xI_eq rfl rfl c_18
                refine lv_aload_n hx hb dX12_sign_98 rfl (lv_at hl 0 rfl) ?_
                refine S_getI (v := (G.1 66 6)) (C := RX12) (T := TX12) (N := 89) hx hb hg iX12 hown hK hW kd_66 rfl 6 (by decide) (hg (Cond.fieldLink RX12 205 "SlabWalkModel" "sort" "I") m1320) (fun _ h9 => h9) rfl ((hq_10.i 66 6 (by decide) (by decide)).trans ((hq_3.i 66 6 (by decide) (by decide)).trans (rfl))) dX12_sign_99 ?_
                refine lv_goto (tgt := 106) hx hb dX12_sign_102 (by decide) ?_
                exact W.iret (v := (G.1 66 6)) hx hb hr (fun t ht _ => ⟨⟨(G.1 66 6), G_9, rfl, ⟨hB_G_9, hF, ⟨by omega, by omega⟩, (by omega)⟩, wd_t ht hW⟩, hS.F ht⟩) hS.2.2 dX12_sign_106
              · have c_18 : (G.1 66 6).toInt ≠ 45 := xI_ne rfl rfl c_18
                refine lv_aload_n hx hb dX12_sign_71 rfl (lv_at hl 0 rfl) ?_
                refine S_getI (v := (G.1 66 6)) (C := RX12) (T := TX12) (N := 89) hx hb hg iX12 hown hK hW kd_66 rfl 6 (by decide) (hg (Cond.fieldLink RX12 205 "SlabWalkModel" "sort" "I") m1320) (fun _ h9 => h9) rfl ((hq_10.i 66 6 (by decide) (by decide)).trans ((hq_3.i 66 6 (by decide) (by decide)).trans (rfl))) dX12_sign_72 ?_
                refine lv_bipush (v := 42) hx hb dX12_sign_75 (by decide) ?_
                refine lv_icmp_eq (tgt := 98) hx hb dX12_sign_77 (by decide) (fun c_19 => ?_) (fun c_19 => ?_)
                · have c_19 : (G.1 66 6).toInt = 42 := xI_eq rfl rfl c_19
                  refine lv_aload_n hx hb dX12_sign_98 rfl (lv_at hl 0 rfl) ?_
                  refine S_getI (v := (G.1 66 6)) (C := RX12) (T := TX12) (N := 89) hx hb hg iX12 hown hK hW kd_66 rfl 6 (by decide) (hg (Cond.fieldLink RX12 205 "SlabWalkModel" "sort" "I") m1320) (fun _ h9 => h9) rfl ((hq_10.i 66 6 (by decide) (by decide)).trans ((hq_3.i 66 6 (by decide) (by decide)).trans (rfl))) dX12_sign_99 ?_
                  refine lv_goto (tgt := 106) hx hb dX12_sign_102 (by decide) ?_
                  exact W.iret (v := (G.1 66 6)) hx hb hr (fun t ht _ => ⟨⟨(G.1 66 6), G_9, rfl, ⟨hB_G_9, hF, ⟨by omega, by omega⟩, (by omega)⟩, wd_t ht hW⟩, hS.F ht⟩) hS.2.2 dX12_sign_106
                · have c_19 : (G.1 66 6).toInt ≠ 42 := xI_ne rfl rfl c_19
                  refine lv_aload_n hx hb dX12_sign_80 rfl (lv_at hl 0 rfl) ?_
                  refine S_getI (v := (G.1 66 6)) (C := RX12) (T := TX12) (N := 89) hx hb hg iX12 hown hK hW kd_66 rfl 6 (by decide) (hg (Cond.fieldLink RX12 205 "SlabWalkModel" "sort" "I") m1320) (fun _ h9 => h9) rfl ((hq_10.i 66 6 (by decide) (by decide)).trans ((hq_3.i 66 6 (by decide) (by decide)).trans (rfl))) dX12_sign_81 ?_
                  refine lv_bipush (v := 47) hx hb dX12_sign_84 (by decide) ?_
                  refine lv_icmp_eq (tgt := 98) hx hb dX12_sign_86 (by decide) (fun c_20 => ?_) (fun c_20 => ?_)
                  · have c_20 : (G.1 66 6).toInt = 47 := xI_eq rfl rfl c_20
                    refine lv_aload_n hx hb dX12_sign_98 rfl (lv_at hl 0 rfl) ?_
                    refine S_getI (v := (G.1 66 6)) (C := RX12) (T := TX12) (N := 89) hx hb hg iX12 hown hK hW kd_66 rfl 6 (by decide) (hg (Cond.fieldLink RX12 205 "SlabWalkModel" "sort" "I") m1320) (fun _ h9 => h9) rfl ((hq_10.i 66 6 (by decide) (by decide)).trans ((hq_3.i 66 6 (by decide) (by decide)).trans (rfl))) dX12_sign_99 ?_
                    refine lv_goto (tgt := 106) hx hb dX12_sign_102 (by decide) ?_
                    exact W.iret (v := (G.1 66 6)) hx hb hr (fun t ht _ => ⟨⟨(G.1 66 6), G_9, rfl, ⟨hB_G_9, hF, ⟨by omega, by omega⟩, (by omega)⟩, wd_t ht hW⟩, hS.F ht⟩) hS.2.2 dX12_sign_106
                  · have c_20 : (G.1 66 6).toInt ≠ 47 := xI_ne rfl rfl c_20
                    refine lv_aload_n hx hb dX12_sign_89 rfl (lv_at hl 0 rfl) ?_
                    refine S_getI (v := (G.1 66 6)) (C := RX12) (T := TX12) (N := 89) hx hb hg iX12 hown hK hW kd_66 rfl 6 (by decide) (hg (Cond.fieldLink RX12 205 "SlabWalkModel" "sort" "I") m1320) (fun _ h9 => h9) rfl ((hq_10.i 66 6 (by decide) (by decide)).trans ((hq_3.i 66 6 (by decide) (by decide)).trans (rfl))) dX12_sign_90 ?_
                    refine lv_bipush (v := 37) hx hb dX12_sign_93 (by decide) ?_
                    refine lv_icmp_ne (tgt := 105) hx hb dX12_sign_95 (by decide) (fun c_21 => ?_) (fun c_21 => ?_)
                    · have c_21 : (G.1 66 6).toInt ≠ 37 := xI_ne rfl rfl c_21
                      refine lv_iconst (v := 0) hx hb dX12_sign_105 (by decide) ?_
                      exact W.iret (v := 0) hx hb hr (fun t ht _ => ⟨⟨0, G_9, rfl, ⟨hB_G_9, hF, ⟨by decide, by decide⟩, (by have hq : (0 : Int32).toInt = 0 := rfl; (try dsimp only); omega)⟩, wd_t ht hW⟩, hS.F ht⟩) hS.2.2 dX12_sign_106
                    · have c_21 : (G.1 66 6).toInt = 37 := xI_eq rfl rfl c_21
                      refine lv_aload_n hx hb dX12_sign_98 rfl (lv_at hl 0 rfl) ?_
                      refine S_getI (v := (G.1 66 6)) (C := RX12) (T := TX12) (N := 89) hx hb hg iX12 hown hK hW kd_66 rfl 6 (by decide) (hg (Cond.fieldLink RX12 205 "SlabWalkModel" "sort" "I") m1320) (fun _ h9 => h9) rfl ((hq_10.i 66 6 (by decide) (by decide)).trans ((hq_3.i 66 6 (by decide) (by decide)).trans (rfl))) dX12_sign_99 ?_
                      refine lv_goto (tgt := 106) hx hb dX12_sign_102 (by decide) ?_
                      exact W.iret (v := (G.1 66 6)) hx hb hr (fun t ht _ => ⟨⟨(G.1 66 6), G_9, rfl, ⟨hB_G_9, hF, ⟨by omega, by omega⟩, (by omega)⟩, wd_t ht hW⟩, hS.F ht⟩) hS.2.2 dX12_sign_106
    · have c_13 : r_8.toInt ≠ 0 := xI_ne rfl rfl c_13
      refine lv_bipush (v := 124) hx hb dX12_sign_23 (by decide) ?_
      exact W.iret (v := 124) hx hb hr (fun t ht _ => ⟨⟨124, G_9, rfl, ⟨hB_G_9, hF, ⟨by decide, by decide⟩, (by have hq : (124 : Int32).toInt = 124 := rfl; (try dsimp only); omega)⟩, wd_t ht hW⟩, hS.F ht⟩) hS.2.2 dX12_sign_25
  · have c_6 : r_1.toInt ≠ 0 := xI_ne rfl rfl c_6
    refine lv_bipush (v := 38) hx hb dX12_sign_10 (by decide) ?_
    exact W.iret (v := 38) hx hb hr (fun t ht _ => ⟨⟨38, G_2, rfl, ⟨hB_G_2, hF, ⟨by decide, by decide⟩, (by have hq : (38 : Int32).toInt = 38 := rfl; (try dsimp only); omega)⟩, wd_t ht hW⟩, hS.F ht⟩) hS.2.2 dX12_sign_12

set_option maxHeartbeats 4000000 in
set_option maxRecDepth 100000 in
theorem n_unit (l : Launch) (D : va_G) (k : KT) (A : Nat → Prop) (a : Nat → Nat) (z : SK) (G : GS)  (hnf : (G.1 66 2).toInt = 0) (hun : gC G = 1 ∧ gD G = gB G ∧ (G.1 66 24).toInt = (G.1 66 20).toInt - gB G ∧ gD G ≤ (G.1 66 23).toInt ∧ (G.1 66 23).toInt ≤ 30 ∧ (G.1 66 24).toInt ≤ 7 ∧ gM G + (G.1 66 20).toInt ≤ 10 * (G.1 66 23).toInt + 1) : Met l yX12_unit (WS yX12_unit cX12_unit 3 none) ({ frames := 3, cells := 0, slots := 0, locals := 64 }) (va_Pc [.ref (a 66)] (cW D k A a z G)) (va_Qv (fun (G1 : GS) => Bd G1 ∧ Fr [69, 70, 71, 75] [(66, 2), (66, 3), (66, 4), (66, 6), (66, 7), (66, 8), (66, 9), (66, 20), (66, 21), (66, 23), (66, 24)] G G1 ∧ ((G.1 66 23).toInt ≤ (G1.1 66 23).toInt ∧ ((G1.1 66 2).toInt = 0 → gC G1 = 1 ∧ gD G1 = gB G1 + 1 ∧ (G1.1 66 24).toInt = (G1.1 66 20).toInt - gB G1 ∧ gD G1 ≤ (G1.1 66 23).toInt ∧ (G1.1 66 23).toInt ≤ 30 ∧ gM G1 + (G1.1 66 20).toInt ≤ 10 * (G1.1 66 23).toInt ∧ (G1.1 66 24).toInt ≤ 7 ∧ (G.1 66 23).toInt < (G1.1 66 23).toInt) ∧ (G.1 66 4).toInt ≤ (G1.1 66 4).toInt ∧ ((G1.1 66 4).toInt = (G.1 66 4).toInt → (G1.1 66 6).toInt = (G.1 66 6).toInt ∨ (G1.1 66 6).toInt ≤ 3))) (fun (G1 : GS) t => Wd D k A a G1 t.heap) A) 0 0 A := by
  refine Met.ofW (cc := cX12_unit) (maxL := 3) (ret := none) (by decide) rfl ?_
  intro p e s m args below meth c s₁ B hml hv
  obtain ⟨rfl, hW, hB_G, hK, hZ⟩ := hv
  have hx := B.exec
  have hb := B.bytes
  have hr := B.returns
  have hts := atoms_spec (ws := WS yX12_unit cX12_unit 3 none) B.pre
  have hgd : ∀ w ∈ gd, w ∈ WS yX12_unit cX12_unit 3 none := fun w h => List.mem_cons_of_mem _ h
  have hg : ∀ w ∈ gd, w.before _ s = true := fun w h => hts w (hgd w h)
  have hown : s.vm.findClass RX12 = some m.cls := findClass_of_methodNamed B.named
  have hS : va_S A s.heap s.heap [] := va_S.rf
  have hF : Fr [69, 70, 71, 75] [(66, 2), (66, 3), (66, 4), (66, 6), (66, 7), (66, 8), (66, 9), (66, 20), (66, 21), (66, 23), (66, 24)] G G := Fr.rf
  have hl := lv_entry ([.ref (a 66)]) (n := 3) (Nat.le_of_ble_eq_true rfl)
  rw [lg_entry_eq]
  generalize (lg_sl ([.ref (a 66)]) ++ List.replicate (3 - (lg_sl ([.ref (a 66)])).length) Slot.unset).toArray = ls at hl ⊢
  have hl : lv_has ls 3 [(0, .ref (a 66))] := hl
  have b_1 : 0 ≤ (G.1 66 20).toInt ∧ (G.1 66 20).toInt ≤ 160 := hB_G.i 66 20 rfl rfl
  have u_2 := gh_pos (G := G) (by omega)
  refine lv_iconst (v := 1) hx hb dX12_unit_0 (by decide) ?_
  refine lv_istore_n (lv' := [(1, .int 1), (0, .ref (a 66))]) hx hb dX12_unit_1 rfl hl (by decide) rfl (fun ls hl => ?_)
  have b_8 : (-1) ≤ (G.1 66 24).toInt ∧ (G.1 66 24).toInt ≤ 200 := hB_G.i 66 24 rfl rfl
  have b_9 : 0 ≤ (G.1 66 2).toInt ∧ (G.1 66 2).toInt ≤ 4 := hB_G.i 66 2 rfl rfl
  have b_10 : 0 ≤ (G.1 66 23).toInt ∧ (G.1 66 23).toInt ≤ 40 := hB_G.i 66 23 rfl rfl
  have b_11 : 0 ≤ (G.1 66 4).toInt ∧ (G.1 66 4).toInt ≤ 1600 := hB_G.i 66 4 rfl rfl
  have qc_12 : (1 : Int32).toInt = 1 := rfl
  refine loop_N (Inv := fun n H locs ls => ∃ (G_3 : GS) (x_7 : Int32), (n : Int) = 9 - (G_3.1 66 24).toInt + x_7.toInt ∧ (0 ≤ x_7.toInt ∧ x_7.toInt ≤ 1) ∧ (gC G_3 = 1 ∧ gD G_3 = gB G_3 ∧ (G_3.1 66 24).toInt = (G_3.1 66 20).toInt - gB G_3 ∧ gD G_3 ≤ (G_3.1 66 23).toInt ∧ (G_3.1 66 23).toInt ≤ 31 ∧ (G_3.1 66 24).toInt ≤ 8 ∧ gM G_3 + (G_3.1 66 20).toInt ≤ 10 * (G_3.1 66 23).toInt + 1 + (G_3.1 66 24).toInt ∧ ((G_3.1 66 2).toInt = 0 → (G_3.1 66 23).toInt ≤ 30 ∧ (G_3.1 66 24).toInt ≤ 7)) ∧ ((G.1 66 23).toInt ≤ (G_3.1 66 23).toInt) ∧ ((G.1 66 4).toInt ≤ (G_3.1 66 4).toInt ∧ ((G_3.1 66 4).toInt = (G.1 66 4).toInt → (G_3.1 66 6).toInt = (G.1 66 6).toInt ∨ (G_3.1 66 6).toInt ≤ 3)) ∧ Wd D k A a G_3 H ∧ Bd G_3 ∧ Fr [69, 70, 71, 75] [(66, 2), (66, 3), (66, 4), (66, 6), (66, 7), (66, 8), (66, 9), (66, 20), (66, 21), (66, 23), (66, 24)] G G_3 ∧ Fr [75] [(66, 2), (66, 3), (66, 4), (66, 6), (66, 7), (66, 8), (66, 9), (66, 20), (66, 21), (66, 23), (66, 24)] G G_3 ∧ va_S A s.heap H locs ∧ lv_has ls 3 [(1, .int x_7), (0, .ref (a 66))]) (fun n_6 H locs ls ih_5 hI => ?_) (9 - (G.1 66 24).toInt + 1 : Int).toNat ⟨G, 1, (Int.toNat_of_nonneg (by omega)), ⟨by omega, by omega⟩, (by omega), (by omega), (by omega), hW, hB_G, hF, Fr.rf, hS, lv_sub hl [0, 1] rfl⟩
  obtain ⟨G_3, x_7, hn_17, f_13, f_14, f_15, f_16, hW, hB_G_3, hF, hq_4, hS, hl⟩ := hI
  have g_18 : gC G_3 = gC G := gC_fr (rs := [75]) (fs := [(66, 2), (66, 3), (66, 4), (66, 6), (66, 7), (66, 8), (66, 9), (66, 20), (66, 21), (66, 23), (66, 24)]) (Fr.rf.call hq_4 (by decide) (by decide)) (by decide) (by decide)
  have g_19 : gD G_3 = gD G := gD_fr (rs := [75]) (fs := [(66, 2), (66, 3), (66, 4), (66, 6), (66, 7), (66, 8), (66, 9), (66, 20), (66, 21), (66, 23), (66, 24)]) (Fr.rf.call hq_4 (by decide) (by decide)) (by decide) (by decide)
  have g_20 : gM G_3 = gM G := gM_fr (rs := [75]) (fs := [(66, 2), (66, 3), (66, 4), (66, 6), (66, 7), (66, 8), (66, 9), (66, 20), (66, 21), (66, 23), (66, 24)]) (Fr.rf.call hq_4 (by decide) (by decide)) (by decide) (by decide)
  have b_21 : 0 ≤ (G_3.1 66 2).toInt ∧ (G_3.1 66 2).toInt ≤ 4 := hB_G_3.i 66 2 rfl rfl
  have b_22 : 0 ≤ (G_3.1 66 20).toInt ∧ (G_3.1 66 20).toInt ≤ 160 := hB_G_3.i 66 20 rfl rfl
  have b_23 : 0 ≤ (G_3.1 66 23).toInt ∧ (G_3.1 66 23).toInt ≤ 40 := hB_G_3.i 66 23 rfl rfl
  have b_24 : (-1) ≤ (G_3.1 66 24).toInt ∧ (G_3.1 66 24).toInt ≤ 200 := hB_G_3.i 66 24 rfl rfl
  have b_25 : 0 ≤ (G_3.1 66 4).toInt ∧ (G_3.1 66 4).toInt ≤ 1600 := hB_G_3.i 66 4 rfl rfl
  have u_26 := gh_pos (G := G_3) (by omega)
  refine lv_iload_n hx hb dX12_unit_2 rfl (lv_at hl 0 rfl) ?_
  refine W.cut (σ := Unit) (pcJ := 101) (J := fun y H locs ls => ∃ (G_28 : GS), Wd D k A a G_28 H ∧ Bd G_28 ∧ Fr [69, 70, 71, 75] [(66, 2), (66, 3), (66, 4), (66, 6), (66, 7), (66, 8), (66, 9), (66, 20), (66, 21), (66, 23), (66, 24)] G G_28 ∧ Fr [] [] G_3 G_28 ∧ va_S A s.heap H locs ∧ lv_has ls 3 [(0, .ref (a 66))]) (stJ := fun _ => []) ?_ (fun hJ_29 => ?_)
  · intro y H locs ls hI
    obtain ⟨G_28, hW, hB_G_28, hF, hq_30, hS, hl⟩ := hI
    refine lv_aload_n hx hb dX12_unit_101 rfl (lv_at hl 0 rfl) ?_
    refine S_getI (v := (G_3.1 66 2)) (C := RX12) (T := TX12) (N := 89) hx hb hg iX12 hown hK hW kd_66 rfl 2 (by decide) (hg (Cond.fieldLink RX12 218 "SlabWalkModel" "fault" "I") m1316) (fun _ h9 => h9) rfl ((hq_30.i 66 2 (by decide) (by decide)).trans (rfl)) dX12_unit_102 ?_
    refine lv_if_le (tgt := 109) hx hb dX12_unit_105 (by decide) (fun c_31 => ?_) (fun c_31 => ?_)
    · have c_31 : (G_3.1 66 2).toInt ≤ 0 := xI_le rfl rfl c_31
      refine lv_aload_n hx hb dX12_unit_109 rfl (lv_at hl 0 rfl) ?_
      refine S_calli (va_runV (As := []) (rest := []) ⟨hx, hb, hml, hown, hts⟩ (n_asked l D k A a z G_28  ) (cwV 0 hts (gd_V hgd m1737 m1739 m75 m131 m1740) rfl rfl rfl (by decide +kernel) ⟨Nat.le_of_ble_eq_true rfl, Nat.le_of_ble_eq_true rfl⟩) (pre_V hW hB_G_28 hK hZ hS kd_66 rfl) rfl rfl hl.1 rfl (lv_room (Nat.le_of_ble_eq_true rfl)) dX12_unit_110 ⟨Nat.le_of_ble_eq_true rfl, Nat.le_of_ble_eq_true rfl⟩) hS (fun r_32 G_33 H locs hpo hW hS => ?_)
      obtain ⟨hB_G_33, hq_34, f_36⟩ := hpo
      have hF := hF.call hq_34 (by decide) (by decide)
      refine lv_istore_n (lv' := [(2, .int r_32), (0, .ref (a 66))]) hx hb dX12_unit_113 rfl hl (by decide) rfl (fun ls hl => ?_)
      refine lv_aload_n hx hb dX12_unit_114 rfl (lv_at hl 1 rfl) ?_
      refine S_getI (v := (G_3.1 66 6)) (C := RX12) (T := TX12) (N := 89) hx hb hg iX12 hown hK hW kd_66 rfl 6 (by decide) (hg (Cond.fieldLink RX12 205 "SlabWalkModel" "sort" "I") m1320) (fun _ h9 => h9) rfl ((hq_34.i 66 6 (by decide) (by decide)).trans ((hq_30.i 66 6 (by decide) (by decide)).trans (rfl))) dX12_unit_115 ?_
      refine lv_iconst (v := 2) hx hb dX12_unit_118 (by decide) ?_
      refine lv_icmp_eq (tgt := 126) hx hb dX12_unit_119 (by decide) (fun c_37 => ?_) (fun c_37 => ?_)
      · have c_37 : (G_3.1 66 6).toInt = 2 := xI_eq rfl rfl c_37
        refine lv_aload_n hx hb dX12_unit_126 rfl (lv_at hl 1 rfl) ?_
        have g_38 : (G_33.1 66 23).toInt = (G_3.1 66 23).toInt := by rw [show G_33.1 66 23 = (G_3.1 66 23) from ((hq_34.i 66 23 (by decide) (by decide)).trans ((hq_30.i 66 23 (by decide) (by decide)).trans (rfl)))]
        refine S_calli (va_runV (As := []) (rest := []) ⟨hx, hb, hml, hown, hts⟩ (n_isFull l D k A a z G_33  ) (cwV 0 hts (gd_V hgd m1729 m1731 m73 m131 m1732) rfl rfl rfl (by decide +kernel) ⟨Nat.le_of_ble_eq_true rfl, Nat.le_of_ble_eq_true rfl⟩) (pre_V hW hB_G_33 hK hZ hS kd_66 rfl) rfl rfl hl.1 rfl (lv_room (Nat.le_of_ble_eq_true rfl)) dX12_unit_127 ⟨Nat.le_of_ble_eq_true rfl, Nat.le_of_ble_eq_true rfl⟩) hS (fun r_39 G_40 H locs hpo hW hS => ?_)
        obtain ⟨hB_G_40, hq_41, f_43, hp_42⟩ := hpo
        have hF := hF.call hq_41 (by decide) (by decide)
        refine lv_if_eq (tgt := 138) hx hb dX12_unit_130 (by decide) (fun c_44 => ?_) (fun c_44 => ?_)
        · have c_44 : r_39.toInt = 0 := xI_eq rfl rfl c_44
          refine lv_aload_n hx hb dX12_unit_138 rfl (lv_at hl 1 rfl) ?_
          refine S_getI (v := (G_3.1 66 2)) (C := RX12) (T := TX12) (N := 89) hx hb hg iX12 hown hK hW kd_66 rfl 2 (by decide) (hg (Cond.fieldLink RX12 218 "SlabWalkModel" "fault" "I") m1316) (fun _ h9 => h9) rfl ((hq_41.i 66 2 (by decide) (by decide)).trans ((hq_34.i 66 2 (by decide) (by decide)).trans ((hq_30.i 66 2 (by decide) (by decide)).trans (rfl)))) dX12_unit_139 ?_
          refine lv_if_le (tgt := 146) hx hb dX12_unit_142 (by decide) (fun c_45 => ?_) (fun c_45 => ?_)
          · have c_45 : (G_3.1 66 2).toInt ≤ 0 := xI_le rfl rfl c_45
            refine lv_aload_n hx hb dX12_unit_146 rfl (lv_at hl 1 rfl) ?_
            have g_46 : (G_40.1 66 23).toInt = (G_3.1 66 23).toInt := by rw [show G_40.1 66 23 = (G_3.1 66 23) from ((hq_41.i 66 23 (by decide) (by decide)).trans ((hq_34.i 66 23 (by decide) (by decide)).trans ((hq_30.i 66 23 (by decide) (by decide)).trans (rfl))))]
            have g_47 : (G_40.1 66 23).toInt = (G_3.1 66 23).toInt := by rw [show G_40.1 66 23 = (G_3.1 66 23) from ((hq_41.i 66 23 (by decide) (by decide)).trans ((hq_34.i 66 23 (by decide) (by decide)).trans ((hq_30.i 66 23 (by decide) (by decide)).trans (rfl))))]
            refine S_callv (va_runV (As := []) (rest := []) ⟨hx, hb, hml, hown, hts⟩ (n_countUnit l D k A a z G_40  (by omega)) (cwV 0 hts (gd_V hgd m1733 m1735 m74 m131 m1736) rfl rfl rfl (by decide +kernel) ⟨Nat.le_of_ble_eq_true rfl, Nat.le_of_ble_eq_true rfl⟩) (pre_V hW hB_G_40 hK hZ hS kd_66 rfl) rfl rfl hl.1 rfl (lv_room (Nat.le_of_ble_eq_true rfl)) dX12_unit_147 ⟨Nat.le_of_ble_eq_true rfl, Nat.le_of_ble_eq_true rfl⟩) hS (fun G_49 H locs hpo hW hS => ?_)
            obtain ⟨hB_G_49, hq_50, hp_51⟩ := hpo
            have hF := hF.call hq_50 (by decide) (by decide)
            refine lv_aload_n hx hb dX12_unit_150 rfl (lv_at hl 1 rfl) ?_
            refine lv_iload_n hx hb dX12_unit_151 rfl (lv_at hl 0 rfl) ?_
            refine lv_if_ge (tgt := 159) hx hb dX12_unit_152 (by decide) (fun c_52 => ?_) (fun c_52 => ?_)
            · have c_52 : 0 ≤ r_32.toInt := xI_le rfl rfl c_52
              refine lv_iconst (v := 1) hx hb dX12_unit_159 (by decide) ?_
              refine lv_iload_n hx hb dX12_unit_160 rfl (lv_at hl 0 rfl) ?_
              refine lv_if_ge (tgt := 171) hx hb dX12_unit_161 (by decide) (fun c_53 => ?_) (fun c_53 => ?_)
              · have c_53 : 0 ≤ r_32.toInt := xI_le rfl rfl c_53
                refine lv_iload_n hx hb dX12_unit_171 rfl (lv_at hl 0 rfl) ?_
                have g_54 : gM G_49 = gM G := gM_fr (rs := [75]) (fs := [(66, 2), (66, 3), (66, 4), (66, 6), (66, 7), (66, 8), (66, 9), (66, 20), (66, 21), (66, 23), (66, 24)]) (((((Fr.rf.call hq_4 (by decide) (by decide)).call hq_30 (by decide) (by decide)).call hq_34 (by decide) (by decide)).call hq_41 (by decide) (by decide)).call hq_50 (by decide) (by decide)) (by decide) (by decide)
                have qc_55 : (1 : Int32).toInt = 1 := rfl
                have g_56 : gC G_49 = gC G := gC_fr (rs := [75]) (fs := [(66, 2), (66, 3), (66, 4), (66, 6), (66, 7), (66, 8), (66, 9), (66, 20), (66, 21), (66, 23), (66, 24)]) (((((Fr.rf.call hq_4 (by decide) (by decide)).call hq_30 (by decide) (by decide)).call hq_34 (by decide) (by decide)).call hq_41 (by decide) (by decide)).call hq_50 (by decide) (by decide)) (by decide) (by decide)
                have g_57 : gD G_49 = gD G := gD_fr (rs := [75]) (fs := [(66, 2), (66, 3), (66, 4), (66, 6), (66, 7), (66, 8), (66, 9), (66, 20), (66, 21), (66, 23), (66, 24)]) (((((Fr.rf.call hq_4 (by decide) (by decide)).call hq_30 (by decide) (by decide)).call hq_34 (by decide) (by decide)).call hq_41 (by decide) (by decide)).call hq_50 (by decide) (by decide)) (by decide) (by decide)
                refine S_callv (va_runV (As := [.int 1, .int r_32]) (rest := []) ⟨hx, hb, hml, hown, hts⟩ (n_add l D k A a z G_49 1 r_32 ⟨by decide, by decide⟩ (by omega)) (cwV 2 hts (gd_V hgd m1741 m1743 m76 m131 m1744) rfl rfl rfl (by decide +kernel) ⟨Nat.le_of_ble_eq_true rfl, Nat.le_of_ble_eq_true rfl⟩) (pre_V hW hB_G_49 hK hZ hS kd_66 rfl) rfl rfl hl.1 rfl (lv_room (Nat.le_of_ble_eq_true rfl)) dX12_unit_172 ⟨Nat.le_of_ble_eq_true rfl, Nat.le_of_ble_eq_true rfl⟩) hS (fun G_59 H locs hpo hW hS => ?_)
                obtain ⟨hB_G_59, hq_60, hp_61⟩ := hpo
                have hF := hF.call hq_60 (by decide) (by decide)
                refine lv_aload_n hx hb dX12_unit_175 rfl (lv_at hl 1 rfl) ?_
                have g_62 : (G_59.1 66 4).toInt = (G_3.1 66 4).toInt := by rw [show G_59.1 66 4 = (G_3.1 66 4) from ((hq_60.i 66 4 (by decide) (by decide)).trans ((hq_50.i 66 4 (by decide) (by decide)).trans ((hq_41.i 66 4 (by decide) (by decide)).trans ((hq_34.i 66 4 (by decide) (by decide)).trans ((hq_30.i 66 4 (by decide) (by decide)).trans (rfl))))))]
                have g_63 : (G_59.1 66 6).toInt = (G_3.1 66 6).toInt := by rw [show G_59.1 66 6 = (G_3.1 66 6) from ((hq_60.i 66 6 (by decide) (by decide)).trans ((hq_50.i 66 6 (by decide) (by decide)).trans ((hq_41.i 66 6 (by decide) (by decide)).trans ((hq_34.i 66 6 (by decide) (by decide)).trans ((hq_30.i 66 6 (by decide) (by decide)).trans (rfl))))))]
                refine S_callv (va_runV (As := []) (rest := []) ⟨hx, hb, hml, hown, hts⟩ (n_token l D k A a z G_59  ) (cwV 0 hts (gd_V hgd m1602 m1604 m50 m131 m1605) rfl rfl rfl (by decide +kernel) ⟨Nat.le_of_ble_eq_true rfl, Nat.le_of_ble_eq_true rfl⟩) (pre_V hW hB_G_59 hK hZ hS kd_66 rfl) rfl rfl hl.1 rfl (lv_room (Nat.le_of_ble_eq_true rfl)) dX12_unit_176 ⟨Nat.le_of_ble_eq_true rfl, Nat.le_of_ble_eq_true rfl⟩) hS (fun G_65 H locs hpo hW hS => ?_)
                obtain ⟨hB_G_65, hq_66, hp_67⟩ := hpo
                have hF := hF.call hq_66 (by decide) (by decide)
                have g_68 : gB G_65 = gB G_3 := gB_fr (rs := [69, 70, 71]) (fs := [(66, 4), (66, 6), (66, 7), (66, 8), (66, 9), (66, 21), (66, 23)]) ((((((Fr.rf.call hq_30 (by decide) (by decide)).call hq_34 (by decide) (by decide)).call hq_41 (by decide) (by decide)).call hq_50 (by decide) (by decide)).call hq_60 (by decide) (by decide)).call hq_66 (by decide) (by decide)) (by decide) (by decide)
                have g_69 : gC G_65 = gC G_59 := gC_fr (rs := []) (fs := [(66, 4), (66, 6), (66, 7), (66, 8), (66, 9)]) (Fr.rf.call hq_66 (by decide) (by decide)) (by decide) (by decide)
                have g_70 : gD G_65 = gD G_59 := gD_fr (rs := []) (fs := [(66, 4), (66, 6), (66, 7), (66, 8), (66, 9)]) (Fr.rf.call hq_66 (by decide) (by decide)) (by decide) (by decide)
                have g_71 : gM G_65 = gM G_59 := gM_fr (rs := []) (fs := [(66, 4), (66, 6), (66, 7), (66, 8), (66, 9)]) (Fr.rf.call hq_66 (by decide) (by decide)) (by decide) (by decide)
                have g_72 : (G_65.1 66 2).toInt = (G_3.1 66 2).toInt := by rw [show G_65.1 66 2 = (G_3.1 66 2) from ((hq_66.i 66 2 (by decide) (by decide)).trans ((hq_60.i 66 2 (by decide) (by decide)).trans ((hq_50.i 66 2 (by decide) (by decide)).trans ((hq_41.i 66 2 (by decide) (by decide)).trans ((hq_34.i 66 2 (by decide) (by decide)).trans ((hq_30.i 66 2 (by decide) (by decide)).trans (rfl)))))))]
                have g_73 : (G_65.1 66 20).toInt = (G_3.1 66 20).toInt := by rw [show G_65.1 66 20 = (G_3.1 66 20) from ((hq_66.i 66 20 (by decide) (by decide)).trans ((hq_60.i 66 20 (by decide) (by decide)).trans ((hq_50.i 66 20 (by decide) (by decide)).trans ((hq_41.i 66 20 (by decide) (by decide)).trans ((hq_34.i 66 20 (by decide) (by decide)).trans ((hq_30.i 66 20 (by decide) (by decide)).trans (rfl)))))))]
                have b_74 : 0 ≤ (G_49.1 66 23).toInt ∧ (G_49.1 66 23).toInt ≤ 40 := hB_G_49.i 66 23 rfl rfl
                have g_75 : (G_65.1 66 23).toInt = (G_49.1 66 23).toInt := by rw [show G_65.1 66 23 = (G_49.1 66 23) from ((hq_66.i 66 23 (by decide) (by decide)).trans (hq_60.i 66 23 (by decide) (by decide)))]
                have g_76 : (G_65.1 66 24).toInt = (G_3.1 66 24).toInt := by rw [show G_65.1 66 24 = (G_3.1 66 24) from ((hq_66.i 66 24 (by decide) (by decide)).trans ((hq_60.i 66 24 (by decide) (by decide)).trans ((hq_50.i 66 24 (by decide) (by decide)).trans ((hq_41.i 66 24 (by decide) (by decide)).trans ((hq_34.i 66 24 (by decide) (by decide)).trans ((hq_30.i 66 24 (by decide) (by decide)).trans (rfl)))))))]
                have b_77 : 0 ≤ (G_65.1 66 4).toInt ∧ (G_65.1 66 4).toInt ≤ 1600 := hB_G_65.i 66 4 rfl rfl
                exact W.vret hx hb hr (fun t ht _ => ⟨⟨G_65, rfl, ⟨hB_G_65, hF, (by omega)⟩, wd_t ht hW⟩, hS.F ht⟩) hS.2.2 dX12_unit_179
              · have c_53 : r_32.toInt < 0 := xI_nle rfl rfl c_53
                exfalso; omega
            · have c_52 : r_32.toInt < 0 := xI_nle rfl rfl c_52
              refine lv_iconst (v := 0) hx hb dX12_unit_155 (by decide) ?_
              refine lv_goto (tgt := 160) hx hb dX12_unit_156 (by decide) ?_
              refine lv_iload_n hx hb dX12_unit_160 rfl (lv_at hl 0 rfl) ?_
              refine lv_if_ge (tgt := 171) hx hb dX12_unit_161 (by decide) (fun c_78 => ?_) (fun c_78 => ?_)
              · have c_78 : 0 ≤ r_32.toInt := xI_le rfl rfl c_78
                exfalso; omega
              · have c_78 : r_32.toInt < 0 := xI_nle rfl rfl c_78
                refine lv_aload_n hx hb dX12_unit_164 rfl (lv_at hl 1 rfl) ?_
                refine S_getI (v := (G_3.1 66 8)) (C := RX12) (T := TX12) (N := 89) hx hb hg iX12 hown hK hW kd_66 rfl 8 (by decide) (hg (Cond.fieldLink RX12 202 "SlabWalkModel" "number" "I") m1322) (fun _ h9 => h9) rfl ((hq_50.i 66 8 (by decide) (by decide)).trans ((hq_41.i 66 8 (by decide) (by decide)).trans ((hq_34.i 66 8 (by decide) (by decide)).trans (hq_30.i 66 8 (by decide) (by decide))))) dX12_unit_165 ?_
                refine lv_goto (tgt := 172) hx hb dX12_unit_168 (by decide) ?_
                have g_79 : gM G_49 = gM G := gM_fr (rs := [75]) (fs := [(66, 2), (66, 3), (66, 4), (66, 6), (66, 7), (66, 8), (66, 9), (66, 20), (66, 21), (66, 23), (66, 24)]) (((((Fr.rf.call hq_4 (by decide) (by decide)).call hq_30 (by decide) (by decide)).call hq_34 (by decide) (by decide)).call hq_41 (by decide) (by decide)).call hq_50 (by decide) (by decide)) (by decide) (by decide)
                have qc_80 : (0 : Int32).toInt = 0 := rfl
                have g_81 : gC G_49 = gC G := gC_fr (rs := [75]) (fs := [(66, 2), (66, 3), (66, 4), (66, 6), (66, 7), (66, 8), (66, 9), (66, 20), (66, 21), (66, 23), (66, 24)]) (((((Fr.rf.call hq_4 (by decide) (by decide)).call hq_30 (by decide) (by decide)).call hq_34 (by decide) (by decide)).call hq_41 (by decide) (by decide)).call hq_50 (by decide) (by decide)) (by decide) (by decide)
                have g_82 : gD G_49 = gD G := gD_fr (rs := [75]) (fs := [(66, 2), (66, 3), (66, 4), (66, 6), (66, 7), (66, 8), (66, 9), (66, 20), (66, 21), (66, 23), (66, 24)]) (((((Fr.rf.call hq_4 (by decide) (by decide)).call hq_30 (by decide) (by decide)).call hq_34 (by decide) (by decide)).call hq_41 (by decide) (by decide)).call hq_50 (by decide) (by decide)) (by decide) (by decide)
                refine S_callv (va_runV (As := [.int 0, .int (G_3.1 66 8)]) (rest := []) ⟨hx, hb, hml, hown, hts⟩ (n_add l D k A a z G_49 0 (G_3.1 66 8) ⟨by decide, by decide⟩ (by omega)) (cwV 2 hts (gd_V hgd m1741 m1743 m76 m131 m1744) rfl rfl rfl (by decide +kernel) ⟨Nat.le_of_ble_eq_true rfl, Nat.le_of_ble_eq_true rfl⟩) (pre_V hW hB_G_49 hK hZ hS kd_66 rfl) rfl rfl hl.1 rfl (lv_room (Nat.le_of_ble_eq_true rfl)) dX12_unit_172 ⟨Nat.le_of_ble_eq_true rfl, Nat.le_of_ble_eq_true rfl⟩) hS (fun G_84 H locs hpo hW hS => ?_)
                obtain ⟨hB_G_84, hq_85, hp_86⟩ := hpo
                have hF := hF.call hq_85 (by decide) (by decide)
                refine lv_aload_n hx hb dX12_unit_175 rfl (lv_at hl 1 rfl) ?_
                have g_87 : (G_84.1 66 4).toInt = (G_3.1 66 4).toInt := by rw [show G_84.1 66 4 = (G_3.1 66 4) from ((hq_85.i 66 4 (by decide) (by decide)).trans ((hq_50.i 66 4 (by decide) (by decide)).trans ((hq_41.i 66 4 (by decide) (by decide)).trans ((hq_34.i 66 4 (by decide) (by decide)).trans ((hq_30.i 66 4 (by decide) (by decide)).trans (rfl))))))]
                have g_88 : (G_84.1 66 6).toInt = (G_3.1 66 6).toInt := by rw [show G_84.1 66 6 = (G_3.1 66 6) from ((hq_85.i 66 6 (by decide) (by decide)).trans ((hq_50.i 66 6 (by decide) (by decide)).trans ((hq_41.i 66 6 (by decide) (by decide)).trans ((hq_34.i 66 6 (by decide) (by decide)).trans ((hq_30.i 66 6 (by decide) (by decide)).trans (rfl))))))]
                refine S_callv (va_runV (As := []) (rest := []) ⟨hx, hb, hml, hown, hts⟩ (n_token l D k A a z G_84  ) (cwV 0 hts (gd_V hgd m1602 m1604 m50 m131 m1605) rfl rfl rfl (by decide +kernel) ⟨Nat.le_of_ble_eq_true rfl, Nat.le_of_ble_eq_true rfl⟩) (pre_V hW hB_G_84 hK hZ hS kd_66 rfl) rfl rfl hl.1 rfl (lv_room (Nat.le_of_ble_eq_true rfl)) dX12_unit_176 ⟨Nat.le_of_ble_eq_true rfl, Nat.le_of_ble_eq_true rfl⟩) hS (fun G_90 H locs hpo hW hS => ?_)
                obtain ⟨hB_G_90, hq_91, hp_92⟩ := hpo
                have hF := hF.call hq_91 (by decide) (by decide)
                have g_93 : gB G_90 = gB G_3 := gB_fr (rs := [69, 70, 71]) (fs := [(66, 4), (66, 6), (66, 7), (66, 8), (66, 9), (66, 21), (66, 23)]) ((((((Fr.rf.call hq_30 (by decide) (by decide)).call hq_34 (by decide) (by decide)).call hq_41 (by decide) (by decide)).call hq_50 (by decide) (by decide)).call hq_85 (by decide) (by decide)).call hq_91 (by decide) (by decide)) (by decide) (by decide)
                have g_94 : gC G_90 = gC G_84 := gC_fr (rs := []) (fs := [(66, 4), (66, 6), (66, 7), (66, 8), (66, 9)]) (Fr.rf.call hq_91 (by decide) (by decide)) (by decide) (by decide)
                have g_95 : gD G_90 = gD G_84 := gD_fr (rs := []) (fs := [(66, 4), (66, 6), (66, 7), (66, 8), (66, 9)]) (Fr.rf.call hq_91 (by decide) (by decide)) (by decide) (by decide)
                have g_96 : gM G_90 = gM G_84 := gM_fr (rs := []) (fs := [(66, 4), (66, 6), (66, 7), (66, 8), (66, 9)]) (Fr.rf.call hq_91 (by decide) (by decide)) (by decide) (by decide)
                have g_97 : (G_90.1 66 2).toInt = (G_3.1 66 2).toInt := by rw [show G_90.1 66 2 = (G_3.1 66 2) from ((hq_91.i 66 2 (by decide) (by decide)).trans ((hq_85.i 66 2 (by decide) (by decide)).trans ((hq_50.i 66 2 (by decide) (by decide)).trans ((hq_41.i 66 2 (by decide) (by decide)).trans ((hq_34.i 66 2 (by decide) (by decide)).trans ((hq_30.i 66 2 (by decide) (by decide)).trans (rfl)))))))]
                have g_98 : (G_90.1 66 20).toInt = (G_3.1 66 20).toInt := by rw [show G_90.1 66 20 = (G_3.1 66 20) from ((hq_91.i 66 20 (by decide) (by decide)).trans ((hq_85.i 66 20 (by decide) (by decide)).trans ((hq_50.i 66 20 (by decide) (by decide)).trans ((hq_41.i 66 20 (by decide) (by decide)).trans ((hq_34.i 66 20 (by decide) (by decide)).trans ((hq_30.i 66 20 (by decide) (by decide)).trans (rfl)))))))]
                have b_99 : 0 ≤ (G_49.1 66 23).toInt ∧ (G_49.1 66 23).toInt ≤ 40 := hB_G_49.i 66 23 rfl rfl
                have g_100 : (G_90.1 66 23).toInt = (G_49.1 66 23).toInt := by rw [show G_90.1 66 23 = (G_49.1 66 23) from ((hq_91.i 66 23 (by decide) (by decide)).trans (hq_85.i 66 23 (by decide) (by decide)))]
                have g_101 : (G_90.1 66 24).toInt = (G_3.1 66 24).toInt := by rw [show G_90.1 66 24 = (G_3.1 66 24) from ((hq_91.i 66 24 (by decide) (by decide)).trans ((hq_85.i 66 24 (by decide) (by decide)).trans ((hq_50.i 66 24 (by decide) (by decide)).trans ((hq_41.i 66 24 (by decide) (by decide)).trans ((hq_34.i 66 24 (by decide) (by decide)).trans ((hq_30.i 66 24 (by decide) (by decide)).trans (rfl)))))))]
                have b_102 : 0 ≤ (G_90.1 66 4).toInt ∧ (G_90.1 66 4).toInt ≤ 1600 := hB_G_90.i 66 4 rfl rfl
                exact W.vret hx hb hr (fun t ht _ => ⟨⟨G_90, rfl, ⟨hB_G_90, hF, (by omega)⟩, wd_t ht hW⟩, hS.F ht⟩) hS.2.2 dX12_unit_179
          · have c_45 : 0 < (G_3.1 66 2).toInt := xI_nle rfl rfl c_45
            exfalso; omega
        · have c_44 : r_39.toInt ≠ 0 := xI_ne rfl rfl c_44
          refine lv_aload_n hx hb dX12_unit_133 rfl (lv_at hl 1 rfl) ?_
          refine lv_iconst (v := 2) hx hb dX12_unit_134 (by decide) ?_
          have qc_103 : (2 : Int32).toInt = 2 := rfl
          refine S_callv (va_runV (As := [.int 2]) (rest := []) ⟨hx, hb, hml, hown, hts⟩ (n_wrong l D k A a z G_40 2 ⟨by decide, by decide⟩) (cwV 1 hts (gd_V hgd m1670 m1672 m59 m131 m1673) rfl rfl rfl (by decide +kernel) ⟨Nat.le_of_ble_eq_true rfl, Nat.le_of_ble_eq_true rfl⟩) (pre_V hW hB_G_40 hK hZ hS kd_66 rfl) rfl rfl hl.1 rfl (lv_room (Nat.le_of_ble_eq_true rfl)) dX12_unit_135 ⟨Nat.le_of_ble_eq_true rfl, Nat.le_of_ble_eq_true rfl⟩) hS (fun G_105 H locs hpo hW hS => ?_)
          obtain ⟨hB_G_105, hq_106, hp_107⟩ := hpo
          have hF := hF.call hq_106 (by decide) (by decide)
          refine lv_aload_n hx hb dX12_unit_138 rfl (lv_at hl 1 rfl) ?_
          have b_108 : 0 ≤ (G_105.1 66 2).toInt ∧ (G_105.1 66 2).toInt ≤ 4 := hB_G_105.i 66 2 rfl rfl
          refine S_getI (v := (G_105.1 66 2)) (C := RX12) (T := TX12) (N := 89) hx hb hg iX12 hown hK hW kd_66 rfl 2 (by decide) (hg (Cond.fieldLink RX12 218 "SlabWalkModel" "fault" "I") m1316) (fun _ h9 => h9) rfl rfl dX12_unit_139 ?_
          refine lv_if_le (tgt := 146) hx hb dX12_unit_142 (by decide) (fun c_109 => ?_) (fun c_109 => ?_)
          · have c_109 : (G_105.1 66 2).toInt ≤ 0 := xI_le rfl rfl c_109
            refine lv_aload_n hx hb dX12_unit_146 rfl (lv_at hl 1 rfl) ?_
            have g_110 : (G_105.1 66 23).toInt = (G_3.1 66 23).toInt := by rw [show G_105.1 66 23 = (G_3.1 66 23) from ((hq_106.i 66 23 (by decide) (by decide)).trans ((hq_41.i 66 23 (by decide) (by decide)).trans ((hq_34.i 66 23 (by decide) (by decide)).trans ((hq_30.i 66 23 (by decide) (by decide)).trans (rfl)))))]
            have g_111 : (G_105.1 66 23).toInt = (G_3.1 66 23).toInt := by rw [show G_105.1 66 23 = (G_3.1 66 23) from ((hq_106.i 66 23 (by decide) (by decide)).trans ((hq_41.i 66 23 (by decide) (by decide)).trans ((hq_34.i 66 23 (by decide) (by decide)).trans ((hq_30.i 66 23 (by decide) (by decide)).trans (rfl)))))]
            refine S_callv (va_runV (As := []) (rest := []) ⟨hx, hb, hml, hown, hts⟩ (n_countUnit l D k A a z G_105  (by omega)) (cwV 0 hts (gd_V hgd m1733 m1735 m74 m131 m1736) rfl rfl rfl (by decide +kernel) ⟨Nat.le_of_ble_eq_true rfl, Nat.le_of_ble_eq_true rfl⟩) (pre_V hW hB_G_105 hK hZ hS kd_66 rfl) rfl rfl hl.1 rfl (lv_room (Nat.le_of_ble_eq_true rfl)) dX12_unit_147 ⟨Nat.le_of_ble_eq_true rfl, Nat.le_of_ble_eq_true rfl⟩) hS (fun G_113 H locs hpo hW hS => ?_)
            obtain ⟨hB_G_113, hq_114, hp_115⟩ := hpo
            have hF := hF.call hq_114 (by decide) (by decide)
            refine lv_aload_n hx hb dX12_unit_150 rfl (lv_at hl 1 rfl) ?_
            refine lv_iload_n hx hb dX12_unit_151 rfl (lv_at hl 0 rfl) ?_
            refine lv_if_ge (tgt := 159) hx hb dX12_unit_152 (by decide) (fun c_116 => ?_) (fun c_116 => ?_)
            · have c_116 : 0 ≤ r_32.toInt := xI_le rfl rfl c_116
              refine lv_iconst (v := 1) hx hb dX12_unit_159 (by decide) ?_
              refine lv_iload_n hx hb dX12_unit_160 rfl (lv_at hl 0 rfl) ?_
              refine lv_if_ge (tgt := 171) hx hb dX12_unit_161 (by decide) (fun c_117 => ?_) (fun c_117 => ?_)
              · have c_117 : 0 ≤ r_32.toInt := xI_le rfl rfl c_117
                refine lv_iload_n hx hb dX12_unit_171 rfl (lv_at hl 0 rfl) ?_
                have g_118 : gM G_113 = gM G := gM_fr (rs := [75]) (fs := [(66, 2), (66, 3), (66, 4), (66, 6), (66, 7), (66, 8), (66, 9), (66, 20), (66, 21), (66, 23), (66, 24)]) ((((((Fr.rf.call hq_4 (by decide) (by decide)).call hq_30 (by decide) (by decide)).call hq_34 (by decide) (by decide)).call hq_41 (by decide) (by decide)).call hq_106 (by decide) (by decide)).call hq_114 (by decide) (by decide)) (by decide) (by decide)
                have qc_119 : (1 : Int32).toInt = 1 := rfl
                have g_120 : gC G_113 = gC G := gC_fr (rs := [75]) (fs := [(66, 2), (66, 3), (66, 4), (66, 6), (66, 7), (66, 8), (66, 9), (66, 20), (66, 21), (66, 23), (66, 24)]) ((((((Fr.rf.call hq_4 (by decide) (by decide)).call hq_30 (by decide) (by decide)).call hq_34 (by decide) (by decide)).call hq_41 (by decide) (by decide)).call hq_106 (by decide) (by decide)).call hq_114 (by decide) (by decide)) (by decide) (by decide)
                have g_121 : gD G_113 = gD G := gD_fr (rs := [75]) (fs := [(66, 2), (66, 3), (66, 4), (66, 6), (66, 7), (66, 8), (66, 9), (66, 20), (66, 21), (66, 23), (66, 24)]) ((((((Fr.rf.call hq_4 (by decide) (by decide)).call hq_30 (by decide) (by decide)).call hq_34 (by decide) (by decide)).call hq_41 (by decide) (by decide)).call hq_106 (by decide) (by decide)).call hq_114 (by decide) (by decide)) (by decide) (by decide)
                refine S_callv (va_runV (As := [.int 1, .int r_32]) (rest := []) ⟨hx, hb, hml, hown, hts⟩ (n_add l D k A a z G_113 1 r_32 ⟨by decide, by decide⟩ (by omega)) (cwV 2 hts (gd_V hgd m1741 m1743 m76 m131 m1744) rfl rfl rfl (by decide +kernel) ⟨Nat.le_of_ble_eq_true rfl, Nat.le_of_ble_eq_true rfl⟩) (pre_V hW hB_G_113 hK hZ hS kd_66 rfl) rfl rfl hl.1 rfl (lv_room (Nat.le_of_ble_eq_true rfl)) dX12_unit_172 ⟨Nat.le_of_ble_eq_true rfl, Nat.le_of_ble_eq_true rfl⟩) hS (fun G_123 H locs hpo hW hS => ?_)
                obtain ⟨hB_G_123, hq_124, hp_125⟩ := hpo
                have hF := hF.call hq_124 (by decide) (by decide)
                refine lv_aload_n hx hb dX12_unit_175 rfl (lv_at hl 1 rfl) ?_
                have g_126 : (G_123.1 66 4).toInt = (G_3.1 66 4).toInt := by rw [show G_123.1 66 4 = (G_3.1 66 4) from ((hq_124.i 66 4 (by decide) (by decide)).trans ((hq_114.i 66 4 (by decide) (by decide)).trans ((hq_106.i 66 4 (by decide) (by decide)).trans ((hq_41.i 66 4 (by decide) (by decide)).trans ((hq_34.i 66 4 (by decide) (by decide)).trans ((hq_30.i 66 4 (by decide) (by decide)).trans (rfl)))))))]
                have g_127 : (G_123.1 66 6).toInt = (G_3.1 66 6).toInt := by rw [show G_123.1 66 6 = (G_3.1 66 6) from ((hq_124.i 66 6 (by decide) (by decide)).trans ((hq_114.i 66 6 (by decide) (by decide)).trans ((hq_106.i 66 6 (by decide) (by decide)).trans ((hq_41.i 66 6 (by decide) (by decide)).trans ((hq_34.i 66 6 (by decide) (by decide)).trans ((hq_30.i 66 6 (by decide) (by decide)).trans (rfl)))))))]
                refine S_callv (va_runV (As := []) (rest := []) ⟨hx, hb, hml, hown, hts⟩ (n_token l D k A a z G_123  ) (cwV 0 hts (gd_V hgd m1602 m1604 m50 m131 m1605) rfl rfl rfl (by decide +kernel) ⟨Nat.le_of_ble_eq_true rfl, Nat.le_of_ble_eq_true rfl⟩) (pre_V hW hB_G_123 hK hZ hS kd_66 rfl) rfl rfl hl.1 rfl (lv_room (Nat.le_of_ble_eq_true rfl)) dX12_unit_176 ⟨Nat.le_of_ble_eq_true rfl, Nat.le_of_ble_eq_true rfl⟩) hS (fun G_129 H locs hpo hW hS => ?_)
                obtain ⟨hB_G_129, hq_130, hp_131⟩ := hpo
                have hF := hF.call hq_130 (by decide) (by decide)
                have g_132 : gB G_129 = gB G_3 := gB_fr (rs := [69, 70, 71]) (fs := [(66, 2), (66, 3), (66, 4), (66, 6), (66, 7), (66, 8), (66, 9), (66, 21), (66, 23)]) (((((((Fr.rf.call hq_30 (by decide) (by decide)).call hq_34 (by decide) (by decide)).call hq_41 (by decide) (by decide)).call hq_106 (by decide) (by decide)).call hq_114 (by decide) (by decide)).call hq_124 (by decide) (by decide)).call hq_130 (by decide) (by decide)) (by decide) (by decide)
                have g_133 : gC G_129 = gC G_123 := gC_fr (rs := []) (fs := [(66, 4), (66, 6), (66, 7), (66, 8), (66, 9)]) (Fr.rf.call hq_130 (by decide) (by decide)) (by decide) (by decide)
                have g_134 : gD G_129 = gD G_123 := gD_fr (rs := []) (fs := [(66, 4), (66, 6), (66, 7), (66, 8), (66, 9)]) (Fr.rf.call hq_130 (by decide) (by decide)) (by decide) (by decide)
                have g_135 : gM G_129 = gM G_123 := gM_fr (rs := []) (fs := [(66, 4), (66, 6), (66, 7), (66, 8), (66, 9)]) (Fr.rf.call hq_130 (by decide) (by decide)) (by decide) (by decide)
                have g_136 : (G_129.1 66 2).toInt = (G_105.1 66 2).toInt := by rw [show G_129.1 66 2 = (G_105.1 66 2) from ((hq_130.i 66 2 (by decide) (by decide)).trans ((hq_124.i 66 2 (by decide) (by decide)).trans ((hq_114.i 66 2 (by decide) (by decide)).trans (rfl))))]
                have g_137 : (G_129.1 66 20).toInt = (G_3.1 66 20).toInt := by rw [show G_129.1 66 20 = (G_3.1 66 20) from ((hq_130.i 66 20 (by decide) (by decide)).trans ((hq_124.i 66 20 (by decide) (by decide)).trans ((hq_114.i 66 20 (by decide) (by decide)).trans ((hq_106.i 66 20 (by decide) (by decide)).trans ((hq_41.i 66 20 (by decide) (by decide)).trans ((hq_34.i 66 20 (by decide) (by decide)).trans ((hq_30.i 66 20 (by decide) (by decide)).trans (rfl))))))))]
                have b_138 : 0 ≤ (G_113.1 66 23).toInt ∧ (G_113.1 66 23).toInt ≤ 40 := hB_G_113.i 66 23 rfl rfl
                have g_139 : (G_129.1 66 23).toInt = (G_113.1 66 23).toInt := by rw [show G_129.1 66 23 = (G_113.1 66 23) from ((hq_130.i 66 23 (by decide) (by decide)).trans (hq_124.i 66 23 (by decide) (by decide)))]
                have g_140 : (G_129.1 66 24).toInt = (G_3.1 66 24).toInt := by rw [show G_129.1 66 24 = (G_3.1 66 24) from ((hq_130.i 66 24 (by decide) (by decide)).trans ((hq_124.i 66 24 (by decide) (by decide)).trans ((hq_114.i 66 24 (by decide) (by decide)).trans ((hq_106.i 66 24 (by decide) (by decide)).trans ((hq_41.i 66 24 (by decide) (by decide)).trans ((hq_34.i 66 24 (by decide) (by decide)).trans ((hq_30.i 66 24 (by decide) (by decide)).trans (rfl))))))))]
                have b_141 : 0 ≤ (G_129.1 66 4).toInt ∧ (G_129.1 66 4).toInt ≤ 1600 := hB_G_129.i 66 4 rfl rfl
                exact W.vret hx hb hr (fun t ht _ => ⟨⟨G_129, rfl, ⟨hB_G_129, hF, (by omega)⟩, wd_t ht hW⟩, hS.F ht⟩) hS.2.2 dX12_unit_179
              · have c_117 : r_32.toInt < 0 := xI_nle rfl rfl c_117
                exfalso; omega
            · have c_116 : r_32.toInt < 0 := xI_nle rfl rfl c_116
              refine lv_iconst (v := 0) hx hb dX12_unit_155 (by decide) ?_
              refine lv_goto (tgt := 160) hx hb dX12_unit_156 (by decide) ?_
              refine lv_iload_n hx hb dX12_unit_160 rfl (lv_at hl 0 rfl) ?_
              refine lv_if_ge (tgt := 171) hx hb dX12_unit_161 (by decide) (fun c_142 => ?_) (fun c_142 => ?_)
              · have c_142 : 0 ≤ r_32.toInt := xI_le rfl rfl c_142
                exfalso; omega
              · have c_142 : r_32.toInt < 0 := xI_nle rfl rfl c_142
                refine lv_aload_n hx hb dX12_unit_164 rfl (lv_at hl 1 rfl) ?_
                refine S_getI (v := (G_3.1 66 8)) (C := RX12) (T := TX12) (N := 89) hx hb hg iX12 hown hK hW kd_66 rfl 8 (by decide) (hg (Cond.fieldLink RX12 202 "SlabWalkModel" "number" "I") m1322) (fun _ h9 => h9) rfl ((hq_114.i 66 8 (by decide) (by decide)).trans ((hq_106.i 66 8 (by decide) (by decide)).trans ((hq_41.i 66 8 (by decide) (by decide)).trans ((hq_34.i 66 8 (by decide) (by decide)).trans (hq_30.i 66 8 (by decide) (by decide)))))) dX12_unit_165 ?_
                refine lv_goto (tgt := 172) hx hb dX12_unit_168 (by decide) ?_
                have g_143 : gM G_113 = gM G := gM_fr (rs := [75]) (fs := [(66, 2), (66, 3), (66, 4), (66, 6), (66, 7), (66, 8), (66, 9), (66, 20), (66, 21), (66, 23), (66, 24)]) ((((((Fr.rf.call hq_4 (by decide) (by decide)).call hq_30 (by decide) (by decide)).call hq_34 (by decide) (by decide)).call hq_41 (by decide) (by decide)).call hq_106 (by decide) (by decide)).call hq_114 (by decide) (by decide)) (by decide) (by decide)
                have qc_144 : (0 : Int32).toInt = 0 := rfl
                have g_145 : gC G_113 = gC G := gC_fr (rs := [75]) (fs := [(66, 2), (66, 3), (66, 4), (66, 6), (66, 7), (66, 8), (66, 9), (66, 20), (66, 21), (66, 23), (66, 24)]) ((((((Fr.rf.call hq_4 (by decide) (by decide)).call hq_30 (by decide) (by decide)).call hq_34 (by decide) (by decide)).call hq_41 (by decide) (by decide)).call hq_106 (by decide) (by decide)).call hq_114 (by decide) (by decide)) (by decide) (by decide)
                have g_146 : gD G_113 = gD G := gD_fr (rs := [75]) (fs := [(66, 2), (66, 3), (66, 4), (66, 6), (66, 7), (66, 8), (66, 9), (66, 20), (66, 21), (66, 23), (66, 24)]) ((((((Fr.rf.call hq_4 (by decide) (by decide)).call hq_30 (by decide) (by decide)).call hq_34 (by decide) (by decide)).call hq_41 (by decide) (by decide)).call hq_106 (by decide) (by decide)).call hq_114 (by decide) (by decide)) (by decide) (by decide)
                refine S_callv (va_runV (As := [.int 0, .int (G_3.1 66 8)]) (rest := []) ⟨hx, hb, hml, hown, hts⟩ (n_add l D k A a z G_113 0 (G_3.1 66 8) ⟨by decide, by decide⟩ (by omega)) (cwV 2 hts (gd_V hgd m1741 m1743 m76 m131 m1744) rfl rfl rfl (by decide +kernel) ⟨Nat.le_of_ble_eq_true rfl, Nat.le_of_ble_eq_true rfl⟩) (pre_V hW hB_G_113 hK hZ hS kd_66 rfl) rfl rfl hl.1 rfl (lv_room (Nat.le_of_ble_eq_true rfl)) dX12_unit_172 ⟨Nat.le_of_ble_eq_true rfl, Nat.le_of_ble_eq_true rfl⟩) hS (fun G_148 H locs hpo hW hS => ?_)
                obtain ⟨hB_G_148, hq_149, hp_150⟩ := hpo
                have hF := hF.call hq_149 (by decide) (by decide)
                refine lv_aload_n hx hb dX12_unit_175 rfl (lv_at hl 1 rfl) ?_
                have g_151 : (G_148.1 66 4).toInt = (G_3.1 66 4).toInt := by rw [show G_148.1 66 4 = (G_3.1 66 4) from ((hq_149.i 66 4 (by decide) (by decide)).trans ((hq_114.i 66 4 (by decide) (by decide)).trans ((hq_106.i 66 4 (by decide) (by decide)).trans ((hq_41.i 66 4 (by decide) (by decide)).trans ((hq_34.i 66 4 (by decide) (by decide)).trans ((hq_30.i 66 4 (by decide) (by decide)).trans (rfl)))))))]
                have g_152 : (G_148.1 66 6).toInt = (G_3.1 66 6).toInt := by rw [show G_148.1 66 6 = (G_3.1 66 6) from ((hq_149.i 66 6 (by decide) (by decide)).trans ((hq_114.i 66 6 (by decide) (by decide)).trans ((hq_106.i 66 6 (by decide) (by decide)).trans ((hq_41.i 66 6 (by decide) (by decide)).trans ((hq_34.i 66 6 (by decide) (by decide)).trans ((hq_30.i 66 6 (by decide) (by decide)).trans (rfl)))))))]
                refine S_callv (va_runV (As := []) (rest := []) ⟨hx, hb, hml, hown, hts⟩ (n_token l D k A a z G_148  ) (cwV 0 hts (gd_V hgd m1602 m1604 m50 m131 m1605) rfl rfl rfl (by decide +kernel) ⟨Nat.le_of_ble_eq_true rfl, Nat.le_of_ble_eq_true rfl⟩) (pre_V hW hB_G_148 hK hZ hS kd_66 rfl) rfl rfl hl.1 rfl (lv_room (Nat.le_of_ble_eq_true rfl)) dX12_unit_176 ⟨Nat.le_of_ble_eq_true rfl, Nat.le_of_ble_eq_true rfl⟩) hS (fun G_154 H locs hpo hW hS => ?_)
                obtain ⟨hB_G_154, hq_155, hp_156⟩ := hpo
                have hF := hF.call hq_155 (by decide) (by decide)
                have g_157 : gB G_154 = gB G_3 := gB_fr (rs := [69, 70, 71]) (fs := [(66, 2), (66, 3), (66, 4), (66, 6), (66, 7), (66, 8), (66, 9), (66, 21), (66, 23)]) (((((((Fr.rf.call hq_30 (by decide) (by decide)).call hq_34 (by decide) (by decide)).call hq_41 (by decide) (by decide)).call hq_106 (by decide) (by decide)).call hq_114 (by decide) (by decide)).call hq_149 (by decide) (by decide)).call hq_155 (by decide) (by decide)) (by decide) (by decide)
                have g_158 : gC G_154 = gC G_148 := gC_fr (rs := []) (fs := [(66, 4), (66, 6), (66, 7), (66, 8), (66, 9)]) (Fr.rf.call hq_155 (by decide) (by decide)) (by decide) (by decide)
                have g_159 : gD G_154 = gD G_148 := gD_fr (rs := []) (fs := [(66, 4), (66, 6), (66, 7), (66, 8), (66, 9)]) (Fr.rf.call hq_155 (by decide) (by decide)) (by decide) (by decide)
                have g_160 : gM G_154 = gM G_148 := gM_fr (rs := []) (fs := [(66, 4), (66, 6), (66, 7), (66, 8), (66, 9)]) (Fr.rf.call hq_155 (by decide) (by decide)) (by decide) (by decide)
                have g_161 : (G_154.1 66 2).toInt = (G_105.1 66 2).toInt := by rw [show G_154.1 66 2 = (G_105.1 66 2) from ((hq_155.i 66 2 (by decide) (by decide)).trans ((hq_149.i 66 2 (by decide) (by decide)).trans ((hq_114.i 66 2 (by decide) (by decide)).trans (rfl))))]
                have g_162 : (G_154.1 66 20).toInt = (G_3.1 66 20).toInt := by rw [show G_154.1 66 20 = (G_3.1 66 20) from ((hq_155.i 66 20 (by decide) (by decide)).trans ((hq_149.i 66 20 (by decide) (by decide)).trans ((hq_114.i 66 20 (by decide) (by decide)).trans ((hq_106.i 66 20 (by decide) (by decide)).trans ((hq_41.i 66 20 (by decide) (by decide)).trans ((hq_34.i 66 20 (by decide) (by decide)).trans ((hq_30.i 66 20 (by decide) (by decide)).trans (rfl))))))))]
                have b_163 : 0 ≤ (G_113.1 66 23).toInt ∧ (G_113.1 66 23).toInt ≤ 40 := hB_G_113.i 66 23 rfl rfl
                have g_164 : (G_154.1 66 23).toInt = (G_113.1 66 23).toInt := by rw [show G_154.1 66 23 = (G_113.1 66 23) from ((hq_155.i 66 23 (by decide) (by decide)).trans (hq_149.i 66 23 (by decide) (by decide)))]
                have g_165 : (G_154.1 66 24).toInt = (G_3.1 66 24).toInt := by rw [show G_154.1 66 24 = (G_3.1 66 24) from ((hq_155.i 66 24 (by decide) (by decide)).trans ((hq_149.i 66 24 (by decide) (by decide)).trans ((hq_114.i 66 24 (by decide) (by decide)).trans ((hq_106.i 66 24 (by decide) (by decide)).trans ((hq_41.i 66 24 (by decide) (by decide)).trans ((hq_34.i 66 24 (by decide) (by decide)).trans ((hq_30.i 66 24 (by decide) (by decide)).trans (rfl))))))))]
                have b_166 : 0 ≤ (G_154.1 66 4).toInt ∧ (G_154.1 66 4).toInt ≤ 1600 := hB_G_154.i 66 4 rfl rfl
                exact W.vret hx hb hr (fun t ht _ => ⟨⟨G_154, rfl, ⟨hB_G_154, hF, (by omega)⟩, wd_t ht hW⟩, hS.F ht⟩) hS.2.2 dX12_unit_179
          · have c_109 : 0 < (G_105.1 66 2).toInt := xI_nle rfl rfl c_109
            have g_167 : gB G_105 = gB G_3 := gB_fr (rs := []) (fs := [(66, 2), (66, 3)]) ((((Fr.rf.call hq_30 (by decide) (by decide)).call hq_34 (by decide) (by decide)).call hq_41 (by decide) (by decide)).call hq_106 (by decide) (by decide)) (by decide) (by decide)
            have g_168 : gC G_105 = gC G := gC_fr (rs := [75]) (fs := [(66, 2), (66, 3), (66, 4), (66, 6), (66, 7), (66, 8), (66, 9), (66, 20), (66, 21), (66, 23), (66, 24)]) (((((Fr.rf.call hq_4 (by decide) (by decide)).call hq_30 (by decide) (by decide)).call hq_34 (by decide) (by decide)).call hq_41 (by decide) (by decide)).call hq_106 (by decide) (by decide)) (by decide) (by decide)
            have g_169 : gD G_105 = gD G := gD_fr (rs := [75]) (fs := [(66, 2), (66, 3), (66, 4), (66, 6), (66, 7), (66, 8), (66, 9), (66, 20), (66, 21), (66, 23), (66, 24)]) (((((Fr.rf.call hq_4 (by decide) (by decide)).call hq_30 (by decide) (by decide)).call hq_34 (by decide) (by decide)).call hq_41 (by decide) (by decide)).call hq_106 (by decide) (by decide)) (by decide) (by decide)
            have g_170 : gM G_105 = gM G := gM_fr (rs := [75]) (fs := [(66, 2), (66, 3), (66, 4), (66, 6), (66, 7), (66, 8), (66, 9), (66, 20), (66, 21), (66, 23), (66, 24)]) (((((Fr.rf.call hq_4 (by decide) (by decide)).call hq_30 (by decide) (by decide)).call hq_34 (by decide) (by decide)).call hq_41 (by decide) (by decide)).call hq_106 (by decide) (by decide)) (by decide) (by decide)
            have g_171 : (G_105.1 66 20).toInt = (G_3.1 66 20).toInt := by rw [show G_105.1 66 20 = (G_3.1 66 20) from ((hq_106.i 66 20 (by decide) (by decide)).trans ((hq_41.i 66 20 (by decide) (by decide)).trans ((hq_34.i 66 20 (by decide) (by decide)).trans ((hq_30.i 66 20 (by decide) (by decide)).trans (rfl)))))]
            have g_172 : (G_105.1 66 23).toInt = (G_3.1 66 23).toInt := by rw [show G_105.1 66 23 = (G_3.1 66 23) from ((hq_106.i 66 23 (by decide) (by decide)).trans ((hq_41.i 66 23 (by decide) (by decide)).trans ((hq_34.i 66 23 (by decide) (by decide)).trans ((hq_30.i 66 23 (by decide) (by decide)).trans (rfl)))))]
            have g_173 : (G_105.1 66 24).toInt = (G_3.1 66 24).toInt := by rw [show G_105.1 66 24 = (G_3.1 66 24) from ((hq_106.i 66 24 (by decide) (by decide)).trans ((hq_41.i 66 24 (by decide) (by decide)).trans ((hq_34.i 66 24 (by decide) (by decide)).trans ((hq_30.i 66 24 (by decide) (by decide)).trans (rfl)))))]
            have g_174 : (G_105.1 66 4).toInt = (G_3.1 66 4).toInt := by rw [show G_105.1 66 4 = (G_3.1 66 4) from ((hq_106.i 66 4 (by decide) (by decide)).trans ((hq_41.i 66 4 (by decide) (by decide)).trans ((hq_34.i 66 4 (by decide) (by decide)).trans ((hq_30.i 66 4 (by decide) (by decide)).trans (rfl)))))]
            have g_175 : (G_105.1 66 6).toInt = (G_3.1 66 6).toInt := by rw [show G_105.1 66 6 = (G_3.1 66 6) from ((hq_106.i 66 6 (by decide) (by decide)).trans ((hq_41.i 66 6 (by decide) (by decide)).trans ((hq_34.i 66 6 (by decide) (by decide)).trans ((hq_30.i 66 6 (by decide) (by decide)).trans (rfl)))))]
            exact W.vret hx hb hr (fun t ht _ => ⟨⟨G_105, rfl, ⟨hB_G_105, hF, (by omega)⟩, wd_t ht hW⟩, hS.F ht⟩) hS.2.2 dX12_unit_145
      · have c_37 : (G_3.1 66 6).toInt ≠ 2 := xI_ne rfl rfl c_37
        refine lv_iload_n hx hb dX12_unit_122 rfl (lv_at hl 0 rfl) ?_
        refine lv_if_lt (tgt := 133) hx hb dX12_unit_123 (by decide) (fun c_176 => ?_) (fun c_176 => ?_)
        · have c_176 : r_32.toInt < 0 := xI_lt rfl rfl c_176
          refine lv_aload_n hx hb dX12_unit_133 rfl (lv_at hl 1 rfl) ?_
          refine lv_iconst (v := 2) hx hb dX12_unit_134 (by decide) ?_
          have qc_177 : (2 : Int32).toInt = 2 := rfl
          refine S_callv (va_runV (As := [.int 2]) (rest := []) ⟨hx, hb, hml, hown, hts⟩ (n_wrong l D k A a z G_33 2 ⟨by decide, by decide⟩) (cwV 1 hts (gd_V hgd m1670 m1672 m59 m131 m1673) rfl rfl rfl (by decide +kernel) ⟨Nat.le_of_ble_eq_true rfl, Nat.le_of_ble_eq_true rfl⟩) (pre_V hW hB_G_33 hK hZ hS kd_66 rfl) rfl rfl hl.1 rfl (lv_room (Nat.le_of_ble_eq_true rfl)) dX12_unit_135 ⟨Nat.le_of_ble_eq_true rfl, Nat.le_of_ble_eq_true rfl⟩) hS (fun G_179 H locs hpo hW hS => ?_)
          obtain ⟨hB_G_179, hq_180, hp_181⟩ := hpo
          have hF := hF.call hq_180 (by decide) (by decide)
          refine lv_aload_n hx hb dX12_unit_138 rfl (lv_at hl 1 rfl) ?_
          have b_182 : 0 ≤ (G_179.1 66 2).toInt ∧ (G_179.1 66 2).toInt ≤ 4 := hB_G_179.i 66 2 rfl rfl
          refine S_getI (v := (G_179.1 66 2)) (C := RX12) (T := TX12) (N := 89) hx hb hg iX12 hown hK hW kd_66 rfl 2 (by decide) (hg (Cond.fieldLink RX12 218 "SlabWalkModel" "fault" "I") m1316) (fun _ h9 => h9) rfl rfl dX12_unit_139 ?_
          refine lv_if_le (tgt := 146) hx hb dX12_unit_142 (by decide) (fun c_183 => ?_) (fun c_183 => ?_)
          · have c_183 : (G_179.1 66 2).toInt ≤ 0 := xI_le rfl rfl c_183
            refine lv_aload_n hx hb dX12_unit_146 rfl (lv_at hl 1 rfl) ?_
            have g_184 : (G_179.1 66 23).toInt = (G_3.1 66 23).toInt := by rw [show G_179.1 66 23 = (G_3.1 66 23) from ((hq_180.i 66 23 (by decide) (by decide)).trans ((hq_34.i 66 23 (by decide) (by decide)).trans ((hq_30.i 66 23 (by decide) (by decide)).trans (rfl))))]
            have g_185 : (G_179.1 66 23).toInt = (G_3.1 66 23).toInt := by rw [show G_179.1 66 23 = (G_3.1 66 23) from ((hq_180.i 66 23 (by decide) (by decide)).trans ((hq_34.i 66 23 (by decide) (by decide)).trans ((hq_30.i 66 23 (by decide) (by decide)).trans (rfl))))]
            refine S_callv (va_runV (As := []) (rest := []) ⟨hx, hb, hml, hown, hts⟩ (n_countUnit l D k A a z G_179  (by omega)) (cwV 0 hts (gd_V hgd m1733 m1735 m74 m131 m1736) rfl rfl rfl (by decide +kernel) ⟨Nat.le_of_ble_eq_true rfl, Nat.le_of_ble_eq_true rfl⟩) (pre_V hW hB_G_179 hK hZ hS kd_66 rfl) rfl rfl hl.1 rfl (lv_room (Nat.le_of_ble_eq_true rfl)) dX12_unit_147 ⟨Nat.le_of_ble_eq_true rfl, Nat.le_of_ble_eq_true rfl⟩) hS (fun G_187 H locs hpo hW hS => ?_)
            obtain ⟨hB_G_187, hq_188, hp_189⟩ := hpo
            have hF := hF.call hq_188 (by decide) (by decide)
            refine lv_aload_n hx hb dX12_unit_150 rfl (lv_at hl 1 rfl) ?_
            refine lv_iload_n hx hb dX12_unit_151 rfl (lv_at hl 0 rfl) ?_
            refine lv_if_ge (tgt := 159) hx hb dX12_unit_152 (by decide) (fun c_190 => ?_) (fun c_190 => ?_)
            · have c_190 : 0 ≤ r_32.toInt := xI_le rfl rfl c_190
              exfalso; omega
            · have c_190 : r_32.toInt < 0 := xI_nle rfl rfl c_190
              refine lv_iconst (v := 0) hx hb dX12_unit_155 (by decide) ?_
              refine lv_goto (tgt := 160) hx hb dX12_unit_156 (by decide) ?_
              refine lv_iload_n hx hb dX12_unit_160 rfl (lv_at hl 0 rfl) ?_
              refine lv_if_ge (tgt := 171) hx hb dX12_unit_161 (by decide) (fun c_191 => ?_) (fun c_191 => ?_)
              · have c_191 : 0 ≤ r_32.toInt := xI_le rfl rfl c_191
                exfalso; omega
              · have c_191 : r_32.toInt < 0 := xI_nle rfl rfl c_191
                refine lv_aload_n hx hb dX12_unit_164 rfl (lv_at hl 1 rfl) ?_
                refine S_getI (v := (G_3.1 66 8)) (C := RX12) (T := TX12) (N := 89) hx hb hg iX12 hown hK hW kd_66 rfl 8 (by decide) (hg (Cond.fieldLink RX12 202 "SlabWalkModel" "number" "I") m1322) (fun _ h9 => h9) rfl ((hq_188.i 66 8 (by decide) (by decide)).trans ((hq_180.i 66 8 (by decide) (by decide)).trans ((hq_34.i 66 8 (by decide) (by decide)).trans (hq_30.i 66 8 (by decide) (by decide))))) dX12_unit_165 ?_
                refine lv_goto (tgt := 172) hx hb dX12_unit_168 (by decide) ?_
                have g_192 : gM G_187 = gM G := gM_fr (rs := [75]) (fs := [(66, 2), (66, 3), (66, 4), (66, 6), (66, 7), (66, 8), (66, 9), (66, 20), (66, 21), (66, 23), (66, 24)]) (((((Fr.rf.call hq_4 (by decide) (by decide)).call hq_30 (by decide) (by decide)).call hq_34 (by decide) (by decide)).call hq_180 (by decide) (by decide)).call hq_188 (by decide) (by decide)) (by decide) (by decide)
                have qc_193 : (0 : Int32).toInt = 0 := rfl
                have g_194 : gC G_187 = gC G := gC_fr (rs := [75]) (fs := [(66, 2), (66, 3), (66, 4), (66, 6), (66, 7), (66, 8), (66, 9), (66, 20), (66, 21), (66, 23), (66, 24)]) (((((Fr.rf.call hq_4 (by decide) (by decide)).call hq_30 (by decide) (by decide)).call hq_34 (by decide) (by decide)).call hq_180 (by decide) (by decide)).call hq_188 (by decide) (by decide)) (by decide) (by decide)
                have g_195 : gD G_187 = gD G := gD_fr (rs := [75]) (fs := [(66, 2), (66, 3), (66, 4), (66, 6), (66, 7), (66, 8), (66, 9), (66, 20), (66, 21), (66, 23), (66, 24)]) (((((Fr.rf.call hq_4 (by decide) (by decide)).call hq_30 (by decide) (by decide)).call hq_34 (by decide) (by decide)).call hq_180 (by decide) (by decide)).call hq_188 (by decide) (by decide)) (by decide) (by decide)
                refine S_callv (va_runV (As := [.int 0, .int (G_3.1 66 8)]) (rest := []) ⟨hx, hb, hml, hown, hts⟩ (n_add l D k A a z G_187 0 (G_3.1 66 8) ⟨by decide, by decide⟩ (by omega)) (cwV 2 hts (gd_V hgd m1741 m1743 m76 m131 m1744) rfl rfl rfl (by decide +kernel) ⟨Nat.le_of_ble_eq_true rfl, Nat.le_of_ble_eq_true rfl⟩) (pre_V hW hB_G_187 hK hZ hS kd_66 rfl) rfl rfl hl.1 rfl (lv_room (Nat.le_of_ble_eq_true rfl)) dX12_unit_172 ⟨Nat.le_of_ble_eq_true rfl, Nat.le_of_ble_eq_true rfl⟩) hS (fun G_197 H locs hpo hW hS => ?_)
                obtain ⟨hB_G_197, hq_198, hp_199⟩ := hpo
                have hF := hF.call hq_198 (by decide) (by decide)
                refine lv_aload_n hx hb dX12_unit_175 rfl (lv_at hl 1 rfl) ?_
                have g_200 : (G_197.1 66 4).toInt = (G_3.1 66 4).toInt := by rw [show G_197.1 66 4 = (G_3.1 66 4) from ((hq_198.i 66 4 (by decide) (by decide)).trans ((hq_188.i 66 4 (by decide) (by decide)).trans ((hq_180.i 66 4 (by decide) (by decide)).trans ((hq_34.i 66 4 (by decide) (by decide)).trans ((hq_30.i 66 4 (by decide) (by decide)).trans (rfl))))))]
                have g_201 : (G_197.1 66 6).toInt = (G_3.1 66 6).toInt := by rw [show G_197.1 66 6 = (G_3.1 66 6) from ((hq_198.i 66 6 (by decide) (by decide)).trans ((hq_188.i 66 6 (by decide) (by decide)).trans ((hq_180.i 66 6 (by decide) (by decide)).trans ((hq_34.i 66 6 (by decide) (by decide)).trans ((hq_30.i 66 6 (by decide) (by decide)).trans (rfl))))))]
                refine S_callv (va_runV (As := []) (rest := []) ⟨hx, hb, hml, hown, hts⟩ (n_token l D k A a z G_197  ) (cwV 0 hts (gd_V hgd m1602 m1604 m50 m131 m1605) rfl rfl rfl (by decide +kernel) ⟨Nat.le_of_ble_eq_true rfl, Nat.le_of_ble_eq_true rfl⟩) (pre_V hW hB_G_197 hK hZ hS kd_66 rfl) rfl rfl hl.1 rfl (lv_room (Nat.le_of_ble_eq_true rfl)) dX12_unit_176 ⟨Nat.le_of_ble_eq_true rfl, Nat.le_of_ble_eq_true rfl⟩) hS (fun G_203 H locs hpo hW hS => ?_)
                obtain ⟨hB_G_203, hq_204, hp_205⟩ := hpo
                have hF := hF.call hq_204 (by decide) (by decide)
                have g_206 : gB G_203 = gB G_3 := gB_fr (rs := [69, 70, 71]) (fs := [(66, 2), (66, 3), (66, 4), (66, 6), (66, 7), (66, 8), (66, 9), (66, 21), (66, 23)]) ((((((Fr.rf.call hq_30 (by decide) (by decide)).call hq_34 (by decide) (by decide)).call hq_180 (by decide) (by decide)).call hq_188 (by decide) (by decide)).call hq_198 (by decide) (by decide)).call hq_204 (by decide) (by decide)) (by decide) (by decide)
                have g_207 : gC G_203 = gC G_197 := gC_fr (rs := []) (fs := [(66, 4), (66, 6), (66, 7), (66, 8), (66, 9)]) (Fr.rf.call hq_204 (by decide) (by decide)) (by decide) (by decide)
                have g_208 : gD G_203 = gD G_197 := gD_fr (rs := []) (fs := [(66, 4), (66, 6), (66, 7), (66, 8), (66, 9)]) (Fr.rf.call hq_204 (by decide) (by decide)) (by decide) (by decide)
                have g_209 : gM G_203 = gM G_197 := gM_fr (rs := []) (fs := [(66, 4), (66, 6), (66, 7), (66, 8), (66, 9)]) (Fr.rf.call hq_204 (by decide) (by decide)) (by decide) (by decide)
                have g_210 : (G_203.1 66 2).toInt = (G_179.1 66 2).toInt := by rw [show G_203.1 66 2 = (G_179.1 66 2) from ((hq_204.i 66 2 (by decide) (by decide)).trans ((hq_198.i 66 2 (by decide) (by decide)).trans ((hq_188.i 66 2 (by decide) (by decide)).trans (rfl))))]
                have g_211 : (G_203.1 66 20).toInt = (G_3.1 66 20).toInt := by rw [show G_203.1 66 20 = (G_3.1 66 20) from ((hq_204.i 66 20 (by decide) (by decide)).trans ((hq_198.i 66 20 (by decide) (by decide)).trans ((hq_188.i 66 20 (by decide) (by decide)).trans ((hq_180.i 66 20 (by decide) (by decide)).trans ((hq_34.i 66 20 (by decide) (by decide)).trans ((hq_30.i 66 20 (by decide) (by decide)).trans (rfl)))))))]
                have b_212 : 0 ≤ (G_187.1 66 23).toInt ∧ (G_187.1 66 23).toInt ≤ 40 := hB_G_187.i 66 23 rfl rfl
                have g_213 : (G_203.1 66 23).toInt = (G_187.1 66 23).toInt := by rw [show G_203.1 66 23 = (G_187.1 66 23) from ((hq_204.i 66 23 (by decide) (by decide)).trans (hq_198.i 66 23 (by decide) (by decide)))]
                have g_214 : (G_203.1 66 24).toInt = (G_3.1 66 24).toInt := by rw [show G_203.1 66 24 = (G_3.1 66 24) from ((hq_204.i 66 24 (by decide) (by decide)).trans ((hq_198.i 66 24 (by decide) (by decide)).trans ((hq_188.i 66 24 (by decide) (by decide)).trans ((hq_180.i 66 24 (by decide) (by decide)).trans ((hq_34.i 66 24 (by decide) (by decide)).trans ((hq_30.i 66 24 (by decide) (by decide)).trans (rfl)))))))]
                have b_215 : 0 ≤ (G_203.1 66 4).toInt ∧ (G_203.1 66 4).toInt ≤ 1600 := hB_G_203.i 66 4 rfl rfl
                exact W.vret hx hb hr (fun t ht _ => ⟨⟨G_203, rfl, ⟨hB_G_203, hF, (by omega)⟩, wd_t ht hW⟩, hS.F ht⟩) hS.2.2 dX12_unit_179
          · have c_183 : 0 < (G_179.1 66 2).toInt := xI_nle rfl rfl c_183
            have g_216 : gB G_179 = gB G_3 := gB_fr (rs := []) (fs := [(66, 2), (66, 3)]) (((Fr.rf.call hq_30 (by decide) (by decide)).call hq_34 (by decide) (by decide)).call hq_180 (by decide) (by decide)) (by decide) (by decide)
            have g_217 : gC G_179 = gC G := gC_fr (rs := [75]) (fs := [(66, 2), (66, 3), (66, 4), (66, 6), (66, 7), (66, 8), (66, 9), (66, 20), (66, 21), (66, 23), (66, 24)]) ((((Fr.rf.call hq_4 (by decide) (by decide)).call hq_30 (by decide) (by decide)).call hq_34 (by decide) (by decide)).call hq_180 (by decide) (by decide)) (by decide) (by decide)
            have g_218 : gD G_179 = gD G := gD_fr (rs := [75]) (fs := [(66, 2), (66, 3), (66, 4), (66, 6), (66, 7), (66, 8), (66, 9), (66, 20), (66, 21), (66, 23), (66, 24)]) ((((Fr.rf.call hq_4 (by decide) (by decide)).call hq_30 (by decide) (by decide)).call hq_34 (by decide) (by decide)).call hq_180 (by decide) (by decide)) (by decide) (by decide)
            have g_219 : gM G_179 = gM G := gM_fr (rs := [75]) (fs := [(66, 2), (66, 3), (66, 4), (66, 6), (66, 7), (66, 8), (66, 9), (66, 20), (66, 21), (66, 23), (66, 24)]) ((((Fr.rf.call hq_4 (by decide) (by decide)).call hq_30 (by decide) (by decide)).call hq_34 (by decide) (by decide)).call hq_180 (by decide) (by decide)) (by decide) (by decide)
            have g_220 : (G_179.1 66 20).toInt = (G_3.1 66 20).toInt := by rw [show G_179.1 66 20 = (G_3.1 66 20) from ((hq_180.i 66 20 (by decide) (by decide)).trans ((hq_34.i 66 20 (by decide) (by decide)).trans ((hq_30.i 66 20 (by decide) (by decide)).trans (rfl))))]
            have g_221 : (G_179.1 66 23).toInt = (G_3.1 66 23).toInt := by rw [show G_179.1 66 23 = (G_3.1 66 23) from ((hq_180.i 66 23 (by decide) (by decide)).trans ((hq_34.i 66 23 (by decide) (by decide)).trans ((hq_30.i 66 23 (by decide) (by decide)).trans (rfl))))]
            have g_222 : (G_179.1 66 24).toInt = (G_3.1 66 24).toInt := by rw [show G_179.1 66 24 = (G_3.1 66 24) from ((hq_180.i 66 24 (by decide) (by decide)).trans ((hq_34.i 66 24 (by decide) (by decide)).trans ((hq_30.i 66 24 (by decide) (by decide)).trans (rfl))))]
            have g_223 : (G_179.1 66 4).toInt = (G_3.1 66 4).toInt := by rw [show G_179.1 66 4 = (G_3.1 66 4) from ((hq_180.i 66 4 (by decide) (by decide)).trans ((hq_34.i 66 4 (by decide) (by decide)).trans ((hq_30.i 66 4 (by decide) (by decide)).trans (rfl))))]
            have g_224 : (G_179.1 66 6).toInt = (G_3.1 66 6).toInt := by rw [show G_179.1 66 6 = (G_3.1 66 6) from ((hq_180.i 66 6 (by decide) (by decide)).trans ((hq_34.i 66 6 (by decide) (by decide)).trans ((hq_30.i 66 6 (by decide) (by decide)).trans (rfl))))]
            exact W.vret hx hb hr (fun t ht _ => ⟨⟨G_179, rfl, ⟨hB_G_179, hF, (by omega)⟩, wd_t ht hW⟩, hS.F ht⟩) hS.2.2 dX12_unit_145
        · have c_176 : 0 ≤ r_32.toInt := xI_nlt rfl rfl c_176
          refine lv_aload_n hx hb dX12_unit_126 rfl (lv_at hl 1 rfl) ?_
          have g_225 : (G_33.1 66 23).toInt = (G_3.1 66 23).toInt := by rw [show G_33.1 66 23 = (G_3.1 66 23) from ((hq_34.i 66 23 (by decide) (by decide)).trans ((hq_30.i 66 23 (by decide) (by decide)).trans (rfl)))]
          refine S_calli (va_runV (As := []) (rest := []) ⟨hx, hb, hml, hown, hts⟩ (n_isFull l D k A a z G_33  ) (cwV 0 hts (gd_V hgd m1729 m1731 m73 m131 m1732) rfl rfl rfl (by decide +kernel) ⟨Nat.le_of_ble_eq_true rfl, Nat.le_of_ble_eq_true rfl⟩) (pre_V hW hB_G_33 hK hZ hS kd_66 rfl) rfl rfl hl.1 rfl (lv_room (Nat.le_of_ble_eq_true rfl)) dX12_unit_127 ⟨Nat.le_of_ble_eq_true rfl, Nat.le_of_ble_eq_true rfl⟩) hS (fun r_226 G_227 H locs hpo hW hS => ?_)
          obtain ⟨hB_G_227, hq_228, f_230, hp_229⟩ := hpo
          have hF := hF.call hq_228 (by decide) (by decide)
          refine lv_if_eq (tgt := 138) hx hb dX12_unit_130 (by decide) (fun c_231 => ?_) (fun c_231 => ?_)
          · have c_231 : r_226.toInt = 0 := xI_eq rfl rfl c_231
            refine lv_aload_n hx hb dX12_unit_138 rfl (lv_at hl 1 rfl) ?_
            refine S_getI (v := (G_3.1 66 2)) (C := RX12) (T := TX12) (N := 89) hx hb hg iX12 hown hK hW kd_66 rfl 2 (by decide) (hg (Cond.fieldLink RX12 218 "SlabWalkModel" "fault" "I") m1316) (fun _ h9 => h9) rfl ((hq_228.i 66 2 (by decide) (by decide)).trans ((hq_34.i 66 2 (by decide) (by decide)).trans ((hq_30.i 66 2 (by decide) (by decide)).trans (rfl)))) dX12_unit_139 ?_
            refine lv_if_le (tgt := 146) hx hb dX12_unit_142 (by decide) (fun c_232 => ?_) (fun c_232 => ?_)
            · have c_232 : (G_3.1 66 2).toInt ≤ 0 := xI_le rfl rfl c_232
              refine lv_aload_n hx hb dX12_unit_146 rfl (lv_at hl 1 rfl) ?_
              have g_233 : (G_227.1 66 23).toInt = (G_3.1 66 23).toInt := by rw [show G_227.1 66 23 = (G_3.1 66 23) from ((hq_228.i 66 23 (by decide) (by decide)).trans ((hq_34.i 66 23 (by decide) (by decide)).trans ((hq_30.i 66 23 (by decide) (by decide)).trans (rfl))))]
              have g_234 : (G_227.1 66 23).toInt = (G_3.1 66 23).toInt := by rw [show G_227.1 66 23 = (G_3.1 66 23) from ((hq_228.i 66 23 (by decide) (by decide)).trans ((hq_34.i 66 23 (by decide) (by decide)).trans ((hq_30.i 66 23 (by decide) (by decide)).trans (rfl))))]
              refine S_callv (va_runV (As := []) (rest := []) ⟨hx, hb, hml, hown, hts⟩ (n_countUnit l D k A a z G_227  (by omega)) (cwV 0 hts (gd_V hgd m1733 m1735 m74 m131 m1736) rfl rfl rfl (by decide +kernel) ⟨Nat.le_of_ble_eq_true rfl, Nat.le_of_ble_eq_true rfl⟩) (pre_V hW hB_G_227 hK hZ hS kd_66 rfl) rfl rfl hl.1 rfl (lv_room (Nat.le_of_ble_eq_true rfl)) dX12_unit_147 ⟨Nat.le_of_ble_eq_true rfl, Nat.le_of_ble_eq_true rfl⟩) hS (fun G_236 H locs hpo hW hS => ?_)
              obtain ⟨hB_G_236, hq_237, hp_238⟩ := hpo
              have hF := hF.call hq_237 (by decide) (by decide)
              refine lv_aload_n hx hb dX12_unit_150 rfl (lv_at hl 1 rfl) ?_
              refine lv_iload_n hx hb dX12_unit_151 rfl (lv_at hl 0 rfl) ?_
              refine lv_if_ge (tgt := 159) hx hb dX12_unit_152 (by decide) (fun c_239 => ?_) (fun c_239 => ?_)
              · have c_239 : 0 ≤ r_32.toInt := xI_le rfl rfl c_239
                refine lv_iconst (v := 1) hx hb dX12_unit_159 (by decide) ?_
                refine lv_iload_n hx hb dX12_unit_160 rfl (lv_at hl 0 rfl) ?_
                refine lv_if_ge (tgt := 171) hx hb dX12_unit_161 (by decide) (fun c_240 => ?_) (fun c_240 => ?_)
                · have c_240 : 0 ≤ r_32.toInt := xI_le rfl rfl c_240
                  refine lv_iload_n hx hb dX12_unit_171 rfl (lv_at hl 0 rfl) ?_
                  have g_241 : gM G_236 = gM G := gM_fr (rs := [75]) (fs := [(66, 2), (66, 3), (66, 4), (66, 6), (66, 7), (66, 8), (66, 9), (66, 20), (66, 21), (66, 23), (66, 24)]) (((((Fr.rf.call hq_4 (by decide) (by decide)).call hq_30 (by decide) (by decide)).call hq_34 (by decide) (by decide)).call hq_228 (by decide) (by decide)).call hq_237 (by decide) (by decide)) (by decide) (by decide)
                  have qc_242 : (1 : Int32).toInt = 1 := rfl
                  have g_243 : gC G_236 = gC G := gC_fr (rs := [75]) (fs := [(66, 2), (66, 3), (66, 4), (66, 6), (66, 7), (66, 8), (66, 9), (66, 20), (66, 21), (66, 23), (66, 24)]) (((((Fr.rf.call hq_4 (by decide) (by decide)).call hq_30 (by decide) (by decide)).call hq_34 (by decide) (by decide)).call hq_228 (by decide) (by decide)).call hq_237 (by decide) (by decide)) (by decide) (by decide)
                  have g_244 : gD G_236 = gD G := gD_fr (rs := [75]) (fs := [(66, 2), (66, 3), (66, 4), (66, 6), (66, 7), (66, 8), (66, 9), (66, 20), (66, 21), (66, 23), (66, 24)]) (((((Fr.rf.call hq_4 (by decide) (by decide)).call hq_30 (by decide) (by decide)).call hq_34 (by decide) (by decide)).call hq_228 (by decide) (by decide)).call hq_237 (by decide) (by decide)) (by decide) (by decide)
                  refine S_callv (va_runV (As := [.int 1, .int r_32]) (rest := []) ⟨hx, hb, hml, hown, hts⟩ (n_add l D k A a z G_236 1 r_32 ⟨by decide, by decide⟩ (by omega)) (cwV 2 hts (gd_V hgd m1741 m1743 m76 m131 m1744) rfl rfl rfl (by decide +kernel) ⟨Nat.le_of_ble_eq_true rfl, Nat.le_of_ble_eq_true rfl⟩) (pre_V hW hB_G_236 hK hZ hS kd_66 rfl) rfl rfl hl.1 rfl (lv_room (Nat.le_of_ble_eq_true rfl)) dX12_unit_172 ⟨Nat.le_of_ble_eq_true rfl, Nat.le_of_ble_eq_true rfl⟩) hS (fun G_246 H locs hpo hW hS => ?_)
                  obtain ⟨hB_G_246, hq_247, hp_248⟩ := hpo
                  have hF := hF.call hq_247 (by decide) (by decide)
                  refine lv_aload_n hx hb dX12_unit_175 rfl (lv_at hl 1 rfl) ?_
                  have g_249 : (G_246.1 66 4).toInt = (G_3.1 66 4).toInt := by rw [show G_246.1 66 4 = (G_3.1 66 4) from ((hq_247.i 66 4 (by decide) (by decide)).trans ((hq_237.i 66 4 (by decide) (by decide)).trans ((hq_228.i 66 4 (by decide) (by decide)).trans ((hq_34.i 66 4 (by decide) (by decide)).trans ((hq_30.i 66 4 (by decide) (by decide)).trans (rfl))))))]
                  have g_250 : (G_246.1 66 6).toInt = (G_3.1 66 6).toInt := by rw [show G_246.1 66 6 = (G_3.1 66 6) from ((hq_247.i 66 6 (by decide) (by decide)).trans ((hq_237.i 66 6 (by decide) (by decide)).trans ((hq_228.i 66 6 (by decide) (by decide)).trans ((hq_34.i 66 6 (by decide) (by decide)).trans ((hq_30.i 66 6 (by decide) (by decide)).trans (rfl))))))]
                  refine S_callv (va_runV (As := []) (rest := []) ⟨hx, hb, hml, hown, hts⟩ (n_token l D k A a z G_246  ) (cwV 0 hts (gd_V hgd m1602 m1604 m50 m131 m1605) rfl rfl rfl (by decide +kernel) ⟨Nat.le_of_ble_eq_true rfl, Nat.le_of_ble_eq_true rfl⟩) (pre_V hW hB_G_246 hK hZ hS kd_66 rfl) rfl rfl hl.1 rfl (lv_room (Nat.le_of_ble_eq_true rfl)) dX12_unit_176 ⟨Nat.le_of_ble_eq_true rfl, Nat.le_of_ble_eq_true rfl⟩) hS (fun G_252 H locs hpo hW hS => ?_)
                  obtain ⟨hB_G_252, hq_253, hp_254⟩ := hpo
                  have hF := hF.call hq_253 (by decide) (by decide)
                  have g_255 : gB G_252 = gB G_3 := gB_fr (rs := [69, 70, 71]) (fs := [(66, 4), (66, 6), (66, 7), (66, 8), (66, 9), (66, 21), (66, 23)]) ((((((Fr.rf.call hq_30 (by decide) (by decide)).call hq_34 (by decide) (by decide)).call hq_228 (by decide) (by decide)).call hq_237 (by decide) (by decide)).call hq_247 (by decide) (by decide)).call hq_253 (by decide) (by decide)) (by decide) (by decide)
                  have g_256 : gC G_252 = gC G_246 := gC_fr (rs := []) (fs := [(66, 4), (66, 6), (66, 7), (66, 8), (66, 9)]) (Fr.rf.call hq_253 (by decide) (by decide)) (by decide) (by decide)
                  have g_257 : gD G_252 = gD G_246 := gD_fr (rs := []) (fs := [(66, 4), (66, 6), (66, 7), (66, 8), (66, 9)]) (Fr.rf.call hq_253 (by decide) (by decide)) (by decide) (by decide)
                  have g_258 : gM G_252 = gM G_246 := gM_fr (rs := []) (fs := [(66, 4), (66, 6), (66, 7), (66, 8), (66, 9)]) (Fr.rf.call hq_253 (by decide) (by decide)) (by decide) (by decide)
                  have g_259 : (G_252.1 66 2).toInt = (G_3.1 66 2).toInt := by rw [show G_252.1 66 2 = (G_3.1 66 2) from ((hq_253.i 66 2 (by decide) (by decide)).trans ((hq_247.i 66 2 (by decide) (by decide)).trans ((hq_237.i 66 2 (by decide) (by decide)).trans ((hq_228.i 66 2 (by decide) (by decide)).trans ((hq_34.i 66 2 (by decide) (by decide)).trans ((hq_30.i 66 2 (by decide) (by decide)).trans (rfl)))))))]
                  have g_260 : (G_252.1 66 20).toInt = (G_3.1 66 20).toInt := by rw [show G_252.1 66 20 = (G_3.1 66 20) from ((hq_253.i 66 20 (by decide) (by decide)).trans ((hq_247.i 66 20 (by decide) (by decide)).trans ((hq_237.i 66 20 (by decide) (by decide)).trans ((hq_228.i 66 20 (by decide) (by decide)).trans ((hq_34.i 66 20 (by decide) (by decide)).trans ((hq_30.i 66 20 (by decide) (by decide)).trans (rfl)))))))]
                  have b_261 : 0 ≤ (G_236.1 66 23).toInt ∧ (G_236.1 66 23).toInt ≤ 40 := hB_G_236.i 66 23 rfl rfl
                  have g_262 : (G_252.1 66 23).toInt = (G_236.1 66 23).toInt := by rw [show G_252.1 66 23 = (G_236.1 66 23) from ((hq_253.i 66 23 (by decide) (by decide)).trans (hq_247.i 66 23 (by decide) (by decide)))]
                  have g_263 : (G_252.1 66 24).toInt = (G_3.1 66 24).toInt := by rw [show G_252.1 66 24 = (G_3.1 66 24) from ((hq_253.i 66 24 (by decide) (by decide)).trans ((hq_247.i 66 24 (by decide) (by decide)).trans ((hq_237.i 66 24 (by decide) (by decide)).trans ((hq_228.i 66 24 (by decide) (by decide)).trans ((hq_34.i 66 24 (by decide) (by decide)).trans ((hq_30.i 66 24 (by decide) (by decide)).trans (rfl)))))))]
                  have b_264 : 0 ≤ (G_252.1 66 4).toInt ∧ (G_252.1 66 4).toInt ≤ 1600 := hB_G_252.i 66 4 rfl rfl
                  exact W.vret hx hb hr (fun t ht _ => ⟨⟨G_252, rfl, ⟨hB_G_252, hF, (by omega)⟩, wd_t ht hW⟩, hS.F ht⟩) hS.2.2 dX12_unit_179
                · have c_240 : r_32.toInt < 0 := xI_nle rfl rfl c_240
                  exfalso; omega
              · have c_239 : r_32.toInt < 0 := xI_nle rfl rfl c_239
                exfalso; omega
            · have c_232 : 0 < (G_3.1 66 2).toInt := xI_nle rfl rfl c_232
              exfalso; omega
          · have c_231 : r_226.toInt ≠ 0 := xI_ne rfl rfl c_231
            refine lv_aload_n hx hb dX12_unit_133 rfl (lv_at hl 1 rfl) ?_
            refine lv_iconst (v := 2) hx hb dX12_unit_134 (by decide) ?_
            have qc_265 : (2 : Int32).toInt = 2 := rfl
            refine S_callv (va_runV (As := [.int 2]) (rest := []) ⟨hx, hb, hml, hown, hts⟩ (n_wrong l D k A a z G_227 2 ⟨by decide, by decide⟩) (cwV 1 hts (gd_V hgd m1670 m1672 m59 m131 m1673) rfl rfl rfl (by decide +kernel) ⟨Nat.le_of_ble_eq_true rfl, Nat.le_of_ble_eq_true rfl⟩) (pre_V hW hB_G_227 hK hZ hS kd_66 rfl) rfl rfl hl.1 rfl (lv_room (Nat.le_of_ble_eq_true rfl)) dX12_unit_135 ⟨Nat.le_of_ble_eq_true rfl, Nat.le_of_ble_eq_true rfl⟩) hS (fun G_267 H locs hpo hW hS => ?_)
            obtain ⟨hB_G_267, hq_268, hp_269⟩ := hpo
            have hF := hF.call hq_268 (by decide) (by decide)
            refine lv_aload_n hx hb dX12_unit_138 rfl (lv_at hl 1 rfl) ?_
            have b_270 : 0 ≤ (G_267.1 66 2).toInt ∧ (G_267.1 66 2).toInt ≤ 4 := hB_G_267.i 66 2 rfl rfl
            refine S_getI (v := (G_267.1 66 2)) (C := RX12) (T := TX12) (N := 89) hx hb hg iX12 hown hK hW kd_66 rfl 2 (by decide) (hg (Cond.fieldLink RX12 218 "SlabWalkModel" "fault" "I") m1316) (fun _ h9 => h9) rfl rfl dX12_unit_139 ?_
            refine lv_if_le (tgt := 146) hx hb dX12_unit_142 (by decide) (fun c_271 => ?_) (fun c_271 => ?_)
            · have c_271 : (G_267.1 66 2).toInt ≤ 0 := xI_le rfl rfl c_271
              refine lv_aload_n hx hb dX12_unit_146 rfl (lv_at hl 1 rfl) ?_
              have g_272 : (G_267.1 66 23).toInt = (G_3.1 66 23).toInt := by rw [show G_267.1 66 23 = (G_3.1 66 23) from ((hq_268.i 66 23 (by decide) (by decide)).trans ((hq_228.i 66 23 (by decide) (by decide)).trans ((hq_34.i 66 23 (by decide) (by decide)).trans ((hq_30.i 66 23 (by decide) (by decide)).trans (rfl)))))]
              have g_273 : (G_267.1 66 23).toInt = (G_3.1 66 23).toInt := by rw [show G_267.1 66 23 = (G_3.1 66 23) from ((hq_268.i 66 23 (by decide) (by decide)).trans ((hq_228.i 66 23 (by decide) (by decide)).trans ((hq_34.i 66 23 (by decide) (by decide)).trans ((hq_30.i 66 23 (by decide) (by decide)).trans (rfl)))))]
              refine S_callv (va_runV (As := []) (rest := []) ⟨hx, hb, hml, hown, hts⟩ (n_countUnit l D k A a z G_267  (by omega)) (cwV 0 hts (gd_V hgd m1733 m1735 m74 m131 m1736) rfl rfl rfl (by decide +kernel) ⟨Nat.le_of_ble_eq_true rfl, Nat.le_of_ble_eq_true rfl⟩) (pre_V hW hB_G_267 hK hZ hS kd_66 rfl) rfl rfl hl.1 rfl (lv_room (Nat.le_of_ble_eq_true rfl)) dX12_unit_147 ⟨Nat.le_of_ble_eq_true rfl, Nat.le_of_ble_eq_true rfl⟩) hS (fun G_275 H locs hpo hW hS => ?_)
              obtain ⟨hB_G_275, hq_276, hp_277⟩ := hpo
              have hF := hF.call hq_276 (by decide) (by decide)
              refine lv_aload_n hx hb dX12_unit_150 rfl (lv_at hl 1 rfl) ?_
              refine lv_iload_n hx hb dX12_unit_151 rfl (lv_at hl 0 rfl) ?_
              refine lv_if_ge (tgt := 159) hx hb dX12_unit_152 (by decide) (fun c_278 => ?_) (fun c_278 => ?_)
              · have c_278 : 0 ≤ r_32.toInt := xI_le rfl rfl c_278
                refine lv_iconst (v := 1) hx hb dX12_unit_159 (by decide) ?_
                refine lv_iload_n hx hb dX12_unit_160 rfl (lv_at hl 0 rfl) ?_
                refine lv_if_ge (tgt := 171) hx hb dX12_unit_161 (by decide) (fun c_279 => ?_) (fun c_279 => ?_)
                · have c_279 : 0 ≤ r_32.toInt := xI_le rfl rfl c_279
                  refine lv_iload_n hx hb dX12_unit_171 rfl (lv_at hl 0 rfl) ?_
                  have g_280 : gM G_275 = gM G := gM_fr (rs := [75]) (fs := [(66, 2), (66, 3), (66, 4), (66, 6), (66, 7), (66, 8), (66, 9), (66, 20), (66, 21), (66, 23), (66, 24)]) ((((((Fr.rf.call hq_4 (by decide) (by decide)).call hq_30 (by decide) (by decide)).call hq_34 (by decide) (by decide)).call hq_228 (by decide) (by decide)).call hq_268 (by decide) (by decide)).call hq_276 (by decide) (by decide)) (by decide) (by decide)
                  have qc_281 : (1 : Int32).toInt = 1 := rfl
                  have g_282 : gC G_275 = gC G := gC_fr (rs := [75]) (fs := [(66, 2), (66, 3), (66, 4), (66, 6), (66, 7), (66, 8), (66, 9), (66, 20), (66, 21), (66, 23), (66, 24)]) ((((((Fr.rf.call hq_4 (by decide) (by decide)).call hq_30 (by decide) (by decide)).call hq_34 (by decide) (by decide)).call hq_228 (by decide) (by decide)).call hq_268 (by decide) (by decide)).call hq_276 (by decide) (by decide)) (by decide) (by decide)
                  have g_283 : gD G_275 = gD G := gD_fr (rs := [75]) (fs := [(66, 2), (66, 3), (66, 4), (66, 6), (66, 7), (66, 8), (66, 9), (66, 20), (66, 21), (66, 23), (66, 24)]) ((((((Fr.rf.call hq_4 (by decide) (by decide)).call hq_30 (by decide) (by decide)).call hq_34 (by decide) (by decide)).call hq_228 (by decide) (by decide)).call hq_268 (by decide) (by decide)).call hq_276 (by decide) (by decide)) (by decide) (by decide)
                  refine S_callv (va_runV (As := [.int 1, .int r_32]) (rest := []) ⟨hx, hb, hml, hown, hts⟩ (n_add l D k A a z G_275 1 r_32 ⟨by decide, by decide⟩ (by omega)) (cwV 2 hts (gd_V hgd m1741 m1743 m76 m131 m1744) rfl rfl rfl (by decide +kernel) ⟨Nat.le_of_ble_eq_true rfl, Nat.le_of_ble_eq_true rfl⟩) (pre_V hW hB_G_275 hK hZ hS kd_66 rfl) rfl rfl hl.1 rfl (lv_room (Nat.le_of_ble_eq_true rfl)) dX12_unit_172 ⟨Nat.le_of_ble_eq_true rfl, Nat.le_of_ble_eq_true rfl⟩) hS (fun G_285 H locs hpo hW hS => ?_)
                  obtain ⟨hB_G_285, hq_286, hp_287⟩ := hpo
                  have hF := hF.call hq_286 (by decide) (by decide)
                  refine lv_aload_n hx hb dX12_unit_175 rfl (lv_at hl 1 rfl) ?_
                  have g_288 : (G_285.1 66 4).toInt = (G_3.1 66 4).toInt := by rw [show G_285.1 66 4 = (G_3.1 66 4) from ((hq_286.i 66 4 (by decide) (by decide)).trans ((hq_276.i 66 4 (by decide) (by decide)).trans ((hq_268.i 66 4 (by decide) (by decide)).trans ((hq_228.i 66 4 (by decide) (by decide)).trans ((hq_34.i 66 4 (by decide) (by decide)).trans ((hq_30.i 66 4 (by decide) (by decide)).trans (rfl)))))))]
                  have g_289 : (G_285.1 66 6).toInt = (G_3.1 66 6).toInt := by rw [show G_285.1 66 6 = (G_3.1 66 6) from ((hq_286.i 66 6 (by decide) (by decide)).trans ((hq_276.i 66 6 (by decide) (by decide)).trans ((hq_268.i 66 6 (by decide) (by decide)).trans ((hq_228.i 66 6 (by decide) (by decide)).trans ((hq_34.i 66 6 (by decide) (by decide)).trans ((hq_30.i 66 6 (by decide) (by decide)).trans (rfl)))))))]
                  refine S_callv (va_runV (As := []) (rest := []) ⟨hx, hb, hml, hown, hts⟩ (n_token l D k A a z G_285  ) (cwV 0 hts (gd_V hgd m1602 m1604 m50 m131 m1605) rfl rfl rfl (by decide +kernel) ⟨Nat.le_of_ble_eq_true rfl, Nat.le_of_ble_eq_true rfl⟩) (pre_V hW hB_G_285 hK hZ hS kd_66 rfl) rfl rfl hl.1 rfl (lv_room (Nat.le_of_ble_eq_true rfl)) dX12_unit_176 ⟨Nat.le_of_ble_eq_true rfl, Nat.le_of_ble_eq_true rfl⟩) hS (fun G_291 H locs hpo hW hS => ?_)
                  obtain ⟨hB_G_291, hq_292, hp_293⟩ := hpo
                  have hF := hF.call hq_292 (by decide) (by decide)
                  have g_294 : gB G_291 = gB G_3 := gB_fr (rs := [69, 70, 71]) (fs := [(66, 2), (66, 3), (66, 4), (66, 6), (66, 7), (66, 8), (66, 9), (66, 21), (66, 23)]) (((((((Fr.rf.call hq_30 (by decide) (by decide)).call hq_34 (by decide) (by decide)).call hq_228 (by decide) (by decide)).call hq_268 (by decide) (by decide)).call hq_276 (by decide) (by decide)).call hq_286 (by decide) (by decide)).call hq_292 (by decide) (by decide)) (by decide) (by decide)
                  have g_295 : gC G_291 = gC G_285 := gC_fr (rs := []) (fs := [(66, 4), (66, 6), (66, 7), (66, 8), (66, 9)]) (Fr.rf.call hq_292 (by decide) (by decide)) (by decide) (by decide)
                  have g_296 : gD G_291 = gD G_285 := gD_fr (rs := []) (fs := [(66, 4), (66, 6), (66, 7), (66, 8), (66, 9)]) (Fr.rf.call hq_292 (by decide) (by decide)) (by decide) (by decide)
                  have g_297 : gM G_291 = gM G_285 := gM_fr (rs := []) (fs := [(66, 4), (66, 6), (66, 7), (66, 8), (66, 9)]) (Fr.rf.call hq_292 (by decide) (by decide)) (by decide) (by decide)
                  have g_298 : (G_291.1 66 2).toInt = (G_267.1 66 2).toInt := by rw [show G_291.1 66 2 = (G_267.1 66 2) from ((hq_292.i 66 2 (by decide) (by decide)).trans ((hq_286.i 66 2 (by decide) (by decide)).trans ((hq_276.i 66 2 (by decide) (by decide)).trans (rfl))))]
                  have g_299 : (G_291.1 66 20).toInt = (G_3.1 66 20).toInt := by rw [show G_291.1 66 20 = (G_3.1 66 20) from ((hq_292.i 66 20 (by decide) (by decide)).trans ((hq_286.i 66 20 (by decide) (by decide)).trans ((hq_276.i 66 20 (by decide) (by decide)).trans ((hq_268.i 66 20 (by decide) (by decide)).trans ((hq_228.i 66 20 (by decide) (by decide)).trans ((hq_34.i 66 20 (by decide) (by decide)).trans ((hq_30.i 66 20 (by decide) (by decide)).trans (rfl))))))))]
                  have b_300 : 0 ≤ (G_275.1 66 23).toInt ∧ (G_275.1 66 23).toInt ≤ 40 := hB_G_275.i 66 23 rfl rfl
                  have g_301 : (G_291.1 66 23).toInt = (G_275.1 66 23).toInt := by rw [show G_291.1 66 23 = (G_275.1 66 23) from ((hq_292.i 66 23 (by decide) (by decide)).trans (hq_286.i 66 23 (by decide) (by decide)))]
                  have g_302 : (G_291.1 66 24).toInt = (G_3.1 66 24).toInt := by rw [show G_291.1 66 24 = (G_3.1 66 24) from ((hq_292.i 66 24 (by decide) (by decide)).trans ((hq_286.i 66 24 (by decide) (by decide)).trans ((hq_276.i 66 24 (by decide) (by decide)).trans ((hq_268.i 66 24 (by decide) (by decide)).trans ((hq_228.i 66 24 (by decide) (by decide)).trans ((hq_34.i 66 24 (by decide) (by decide)).trans ((hq_30.i 66 24 (by decide) (by decide)).trans (rfl))))))))]
                  have b_303 : 0 ≤ (G_291.1 66 4).toInt ∧ (G_291.1 66 4).toInt ≤ 1600 := hB_G_291.i 66 4 rfl rfl
                  exact W.vret hx hb hr (fun t ht _ => ⟨⟨G_291, rfl, ⟨hB_G_291, hF, (by omega)⟩, wd_t ht hW⟩, hS.F ht⟩) hS.2.2 dX12_unit_179
                · have c_279 : r_32.toInt < 0 := xI_nle rfl rfl c_279
                  exfalso; omega
              · have c_278 : r_32.toInt < 0 := xI_nle rfl rfl c_278
                exfalso; omega
            · have c_271 : 0 < (G_267.1 66 2).toInt := xI_nle rfl rfl c_271
              have g_304 : gB G_267 = gB G_3 := gB_fr (rs := []) (fs := [(66, 2), (66, 3)]) ((((Fr.rf.call hq_30 (by decide) (by decide)).call hq_34 (by decide) (by decide)).call hq_228 (by decide) (by decide)).call hq_268 (by decide) (by decide)) (by decide) (by decide)
              have g_305 : gC G_267 = gC G := gC_fr (rs := [75]) (fs := [(66, 2), (66, 3), (66, 4), (66, 6), (66, 7), (66, 8), (66, 9), (66, 20), (66, 21), (66, 23), (66, 24)]) (((((Fr.rf.call hq_4 (by decide) (by decide)).call hq_30 (by decide) (by decide)).call hq_34 (by decide) (by decide)).call hq_228 (by decide) (by decide)).call hq_268 (by decide) (by decide)) (by decide) (by decide)
              have g_306 : gD G_267 = gD G := gD_fr (rs := [75]) (fs := [(66, 2), (66, 3), (66, 4), (66, 6), (66, 7), (66, 8), (66, 9), (66, 20), (66, 21), (66, 23), (66, 24)]) (((((Fr.rf.call hq_4 (by decide) (by decide)).call hq_30 (by decide) (by decide)).call hq_34 (by decide) (by decide)).call hq_228 (by decide) (by decide)).call hq_268 (by decide) (by decide)) (by decide) (by decide)
              have g_307 : gM G_267 = gM G := gM_fr (rs := [75]) (fs := [(66, 2), (66, 3), (66, 4), (66, 6), (66, 7), (66, 8), (66, 9), (66, 20), (66, 21), (66, 23), (66, 24)]) (((((Fr.rf.call hq_4 (by decide) (by decide)).call hq_30 (by decide) (by decide)).call hq_34 (by decide) (by decide)).call hq_228 (by decide) (by decide)).call hq_268 (by decide) (by decide)) (by decide) (by decide)
              have g_308 : (G_267.1 66 20).toInt = (G_3.1 66 20).toInt := by rw [show G_267.1 66 20 = (G_3.1 66 20) from ((hq_268.i 66 20 (by decide) (by decide)).trans ((hq_228.i 66 20 (by decide) (by decide)).trans ((hq_34.i 66 20 (by decide) (by decide)).trans ((hq_30.i 66 20 (by decide) (by decide)).trans (rfl)))))]
              have g_309 : (G_267.1 66 23).toInt = (G_3.1 66 23).toInt := by rw [show G_267.1 66 23 = (G_3.1 66 23) from ((hq_268.i 66 23 (by decide) (by decide)).trans ((hq_228.i 66 23 (by decide) (by decide)).trans ((hq_34.i 66 23 (by decide) (by decide)).trans ((hq_30.i 66 23 (by decide) (by decide)).trans (rfl)))))]
              have g_310 : (G_267.1 66 24).toInt = (G_3.1 66 24).toInt := by rw [show G_267.1 66 24 = (G_3.1 66 24) from ((hq_268.i 66 24 (by decide) (by decide)).trans ((hq_228.i 66 24 (by decide) (by decide)).trans ((hq_34.i 66 24 (by decide) (by decide)).trans ((hq_30.i 66 24 (by decide) (by decide)).trans (rfl)))))]
              have g_311 : (G_267.1 66 4).toInt = (G_3.1 66 4).toInt := by rw [show G_267.1 66 4 = (G_3.1 66 4) from ((hq_268.i 66 4 (by decide) (by decide)).trans ((hq_228.i 66 4 (by decide) (by decide)).trans ((hq_34.i 66 4 (by decide) (by decide)).trans ((hq_30.i 66 4 (by decide) (by decide)).trans (rfl)))))]
              have g_312 : (G_267.1 66 6).toInt = (G_3.1 66 6).toInt := by rw [show G_267.1 66 6 = (G_3.1 66 6) from ((hq_268.i 66 6 (by decide) (by decide)).trans ((hq_228.i 66 6 (by decide) (by decide)).trans ((hq_34.i 66 6 (by decide) (by decide)).trans ((hq_30.i 66 6 (by decide) (by decide)).trans (rfl)))))]
              exact W.vret hx hb hr (fun t ht _ => ⟨⟨G_267, rfl, ⟨hB_G_267, hF, (by omega)⟩, wd_t ht hW⟩, hS.F ht⟩) hS.2.2 dX12_unit_145
    · have c_31 : 0 < (G_3.1 66 2).toInt := xI_nle rfl rfl c_31
      have g_313 : gB G_28 = gB G_3 := gB_fr (rs := []) (fs := []) (Fr.rf.call hq_30 (by decide) (by decide)) (by decide) (by decide)
      have g_314 : gC G_28 = gC G := gC_fr (rs := [75]) (fs := [(66, 2), (66, 3), (66, 4), (66, 6), (66, 7), (66, 8), (66, 9), (66, 20), (66, 21), (66, 23), (66, 24)]) ((Fr.rf.call hq_4 (by decide) (by decide)).call hq_30 (by decide) (by decide)) (by decide) (by decide)
      have g_315 : gD G_28 = gD G := gD_fr (rs := [75]) (fs := [(66, 2), (66, 3), (66, 4), (66, 6), (66, 7), (66, 8), (66, 9), (66, 20), (66, 21), (66, 23), (66, 24)]) ((Fr.rf.call hq_4 (by decide) (by decide)).call hq_30 (by decide) (by decide)) (by decide) (by decide)
      have g_316 : gM G_28 = gM G := gM_fr (rs := [75]) (fs := [(66, 2), (66, 3), (66, 4), (66, 6), (66, 7), (66, 8), (66, 9), (66, 20), (66, 21), (66, 23), (66, 24)]) ((Fr.rf.call hq_4 (by decide) (by decide)).call hq_30 (by decide) (by decide)) (by decide) (by decide)
      have g_317 : (G_28.1 66 2).toInt = (G_3.1 66 2).toInt := by rw [show G_28.1 66 2 = (G_3.1 66 2) from ((hq_30.i 66 2 (by decide) (by decide)).trans (rfl))]
      have g_318 : (G_28.1 66 20).toInt = (G_3.1 66 20).toInt := by rw [show G_28.1 66 20 = (G_3.1 66 20) from ((hq_30.i 66 20 (by decide) (by decide)).trans (rfl))]
      have g_319 : (G_28.1 66 23).toInt = (G_3.1 66 23).toInt := by rw [show G_28.1 66 23 = (G_3.1 66 23) from ((hq_30.i 66 23 (by decide) (by decide)).trans (rfl))]
      have g_320 : (G_28.1 66 24).toInt = (G_3.1 66 24).toInt := by rw [show G_28.1 66 24 = (G_3.1 66 24) from ((hq_30.i 66 24 (by decide) (by decide)).trans (rfl))]
      have g_321 : (G_28.1 66 4).toInt = (G_3.1 66 4).toInt := by rw [show G_28.1 66 4 = (G_3.1 66 4) from ((hq_30.i 66 4 (by decide) (by decide)).trans (rfl))]
      have g_322 : (G_28.1 66 6).toInt = (G_3.1 66 6).toInt := by rw [show G_28.1 66 6 = (G_3.1 66 6) from ((hq_30.i 66 6 (by decide) (by decide)).trans (rfl))]
      exact W.vret hx hb hr (fun t ht _ => ⟨⟨G_28, rfl, ⟨hB_G_28, hF, (by omega)⟩, wd_t ht hW⟩, hS.F ht⟩) hS.2.2 dX12_unit_108
  refine lv_if_eq (tgt := 101) hx hb dX12_unit_3 (by decide) (fun c_323 => ?_) (fun c_323 => ?_)
  · have c_323 : x_7.toInt = 0 := xI_eq rfl rfl c_323
    exact hJ_29 () _ _ _ ⟨G_3, hW, hB_G_3, hF, Fr.rf, hS, lv_sub hl [1] rfl⟩
  · have c_323 : x_7.toInt ≠ 0 := xI_ne rfl rfl c_323
    refine lv_aload_n hx hb dX12_unit_6 rfl (lv_at hl 1 rfl) ?_
    refine S_getI (v := (G_3.1 66 2)) (C := RX12) (T := TX12) (N := 89) hx hb hg iX12 hown hK hW kd_66 rfl 2 (by decide) (hg (Cond.fieldLink RX12 218 "SlabWalkModel" "fault" "I") m1316) (fun _ h9 => h9) rfl rfl dX12_unit_7 ?_
    refine lv_if_ne (tgt := 101) hx hb dX12_unit_10 (by decide) (fun c_324 => ?_) (fun c_324 => ?_)
    · have c_324 : (G_3.1 66 2).toInt ≠ 0 := xI_ne rfl rfl c_324
      exact hJ_29 () _ _ _ ⟨G_3, hW, hB_G_3, hF, Fr.rf, hS, lv_sub hl [1] rfl⟩
    · have c_324 : (G_3.1 66 2).toInt = 0 := xI_eq rfl rfl c_324
      refine lv_aload_n hx hb dX12_unit_13 rfl (lv_at hl 1 rfl) ?_
      refine lv_ldc2 (v := 7237492) hx hb hown (hg (Cond.constantLong RX12 261 7237492) m1669) dX12_unit_14 ?_
      refine S_calli (va_runV (As := [.long 7237492]) (rest := []) ⟨hx, hb, hml, hown, hts⟩ (n_isWord l D k A a z G_3 7237492 ) (cwV 1 hts (gd_V hgd m1624 m1626 m53 m131 m1627) rfl rfl rfl (by decide +kernel) ⟨Nat.le_of_ble_eq_true rfl, Nat.le_of_ble_eq_true rfl⟩) (pre_V hW hB_G_3 hK hZ hS kd_66 rfl) rfl rfl hl.1 rfl (lv_room (Nat.le_of_ble_eq_true rfl)) dX12_unit_17 ⟨Nat.le_of_ble_eq_true rfl, Nat.le_of_ble_eq_true rfl⟩) hS (fun r_325 G_326 H locs hpo hW hS => ?_)
      obtain ⟨hB_G_326, hq_327, f_329, hp_328⟩ := hpo
      have hF := hF.call hq_327 (by decide) (by decide)
      refine W.cut (σ := Unit) (pcJ := 53) (J := fun y H locs ls => ∃ (G_332 : GS), Wd D k A a G_332 H ∧ Bd G_332 ∧ Fr [69, 70, 71, 75] [(66, 2), (66, 3), (66, 4), (66, 6), (66, 7), (66, 8), (66, 9), (66, 20), (66, 21), (66, 23), (66, 24)] G G_332 ∧ Fr [] [] G_326 G_332 ∧ va_S A s.heap H locs ∧ lv_has ls 3 [(1, .int x_7), (0, .ref (a 66))]) (stJ := fun _ => []) ?_ (fun hJ_333 => ?_)
      · intro y H locs ls hI
        obtain ⟨G_332, hW, hB_G_332, hF, hq_334, hS, hl⟩ := hI
        refine lv_aload_n hx hb dX12_unit_53 rfl (lv_at hl 1 rfl) ?_
        refine S_getI (v := (G_3.1 66 6)) (C := RX12) (T := TX12) (N := 89) hx hb hg iX12 hown hK hW kd_66 rfl 6 (by decide) (hg (Cond.fieldLink RX12 205 "SlabWalkModel" "sort" "I") m1320) (fun _ h9 => h9) rfl ((hq_334.i 66 6 (by decide) (by decide)).trans ((hq_327.i 66 6 (by decide) (by decide)).trans (rfl))) dX12_unit_54 ?_
        refine lv_bipush (v := 40) hx hb dX12_unit_57 (by decide) ?_
        refine lv_icmp_ne (tgt := 96) hx hb dX12_unit_59 (by decide) (fun c_335 => ?_) (fun c_335 => ?_)
        · have c_335 : (G_3.1 66 6).toInt ≠ 40 := xI_ne rfl rfl c_335
          refine lv_iconst (v := 0) hx hb dX12_unit_96 (by decide) ?_
          refine lv_istore_n (lv' := [(1, .int 0), (0, .ref (a 66))]) hx hb dX12_unit_97 rfl hl (by decide) rfl (fun ls hl => ?_)
          refine lv_goto (tgt := 2) hx hb dX12_unit_98 (by decide) ?_
          have g_336 : (G_332.1 66 24).toInt = (G_3.1 66 24).toInt := by rw [show G_332.1 66 24 = (G_3.1 66 24) from ((hq_334.i 66 24 (by decide) (by decide)).trans ((hq_327.i 66 24 (by decide) (by decide)).trans (rfl)))]
          have g_337 : gB G_332 = gB G_3 := gB_fr (rs := []) (fs := []) ((Fr.rf.call hq_327 (by decide) (by decide)).call hq_334 (by decide) (by decide)) (by decide) (by decide)
          have g_338 : gC G_332 = gC G := gC_fr (rs := [75]) (fs := [(66, 2), (66, 3), (66, 4), (66, 6), (66, 7), (66, 8), (66, 9), (66, 20), (66, 21), (66, 23), (66, 24)]) (((Fr.rf.call hq_4 (by decide) (by decide)).call hq_327 (by decide) (by decide)).call hq_334 (by decide) (by decide)) (by decide) (by decide)
          have g_339 : gD G_332 = gD G := gD_fr (rs := [75]) (fs := [(66, 2), (66, 3), (66, 4), (66, 6), (66, 7), (66, 8), (66, 9), (66, 20), (66, 21), (66, 23), (66, 24)]) (((Fr.rf.call hq_4 (by decide) (by decide)).call hq_327 (by decide) (by decide)).call hq_334 (by decide) (by decide)) (by decide) (by decide)
          have g_340 : gM G_332 = gM G := gM_fr (rs := [75]) (fs := [(66, 2), (66, 3), (66, 4), (66, 6), (66, 7), (66, 8), (66, 9), (66, 20), (66, 21), (66, 23), (66, 24)]) (((Fr.rf.call hq_4 (by decide) (by decide)).call hq_327 (by decide) (by decide)).call hq_334 (by decide) (by decide)) (by decide) (by decide)
          have g_341 : (G_332.1 66 2).toInt = (G_3.1 66 2).toInt := by rw [show G_332.1 66 2 = (G_3.1 66 2) from ((hq_334.i 66 2 (by decide) (by decide)).trans ((hq_327.i 66 2 (by decide) (by decide)).trans (rfl)))]
          have g_342 : (G_332.1 66 20).toInt = (G_3.1 66 20).toInt := by rw [show G_332.1 66 20 = (G_3.1 66 20) from ((hq_334.i 66 20 (by decide) (by decide)).trans ((hq_327.i 66 20 (by decide) (by decide)).trans (rfl)))]
          have g_343 : (G_332.1 66 23).toInt = (G_3.1 66 23).toInt := by rw [show G_332.1 66 23 = (G_3.1 66 23) from ((hq_334.i 66 23 (by decide) (by decide)).trans ((hq_327.i 66 23 (by decide) (by decide)).trans (rfl)))]
          have g_344 : (G_332.1 66 24).toInt = (G_3.1 66 24).toInt := by rw [show G_332.1 66 24 = (G_3.1 66 24) from ((hq_334.i 66 24 (by decide) (by decide)).trans ((hq_327.i 66 24 (by decide) (by decide)).trans (rfl)))]
          have g_345 : (G_332.1 66 23).toInt = (G_3.1 66 23).toInt := by rw [show G_332.1 66 23 = (G_3.1 66 23) from ((hq_334.i 66 23 (by decide) (by decide)).trans ((hq_327.i 66 23 (by decide) (by decide)).trans (rfl)))]
          have g_346 : (G_332.1 66 4).toInt = (G_3.1 66 4).toInt := by rw [show G_332.1 66 4 = (G_3.1 66 4) from ((hq_334.i 66 4 (by decide) (by decide)).trans ((hq_327.i 66 4 (by decide) (by decide)).trans (rfl)))]
          have g_347 : (G_332.1 66 6).toInt = (G_3.1 66 6).toInt := by rw [show G_332.1 66 6 = (G_3.1 66 6) from ((hq_334.i 66 6 (by decide) (by decide)).trans ((hq_327.i 66 6 (by decide) (by decide)).trans (rfl)))]
          have qc_348 : (0 : Int32).toInt = 0 := rfl
          exact ih_5 (9 - (G_332.1 66 24).toInt + 0 : Int).toNat (by omega) _ _ _ ⟨G_332, 0, (Int.toNat_of_nonneg (by omega)), ⟨by omega, by omega⟩, (by omega), (by omega), (by omega), hW, hB_G_332, hF, (((Fr.rf.call hq_4 (by decide) (by decide)).call hq_327 (by decide) (by decide)).call hq_334 (by decide) (by decide)), hS, lv_sub hl [0, 1] rfl⟩
        · have c_335 : (G_3.1 66 6).toInt = 40 := xI_eq rfl rfl c_335
          refine lv_aload_n hx hb dX12_unit_62 rfl (lv_at hl 1 rfl) ?_
          have g_349 : (G_332.1 66 23).toInt = (G_3.1 66 23).toInt := by rw [show G_332.1 66 23 = (G_3.1 66 23) from ((hq_334.i 66 23 (by decide) (by decide)).trans ((hq_327.i 66 23 (by decide) (by decide)).trans (rfl)))]
          refine S_calli (va_runV (As := []) (rest := []) ⟨hx, hb, hml, hown, hts⟩ (n_isFull l D k A a z G_332  ) (cwV 0 hts (gd_V hgd m1729 m1731 m73 m131 m1732) rfl rfl rfl (by decide +kernel) ⟨Nat.le_of_ble_eq_true rfl, Nat.le_of_ble_eq_true rfl⟩) (pre_V hW hB_G_332 hK hZ hS kd_66 rfl) rfl rfl hl.1 rfl (lv_room (Nat.le_of_ble_eq_true rfl)) dX12_unit_63 ⟨Nat.le_of_ble_eq_true rfl, Nat.le_of_ble_eq_true rfl⟩) hS (fun r_350 G_351 H locs hpo hW hS => ?_)
          obtain ⟨hB_G_351, hq_352, f_354, hp_353⟩ := hpo
          have hF := hF.call hq_352 (by decide) (by decide)
          refine lv_if_ne (tgt := 78) hx hb dX12_unit_66 (by decide) (fun c_355 => ?_) (fun c_355 => ?_)
          · have c_355 : r_350.toInt ≠ 0 := xI_ne rfl rfl c_355
            refine lv_aload_n hx hb dX12_unit_78 rfl (lv_at hl 1 rfl) ?_
            refine lv_iconst (v := 2) hx hb dX12_unit_79 (by decide) ?_
            have qc_356 : (2 : Int32).toInt = 2 := rfl
            refine S_callv (va_runV (As := [.int 2]) (rest := []) ⟨hx, hb, hml, hown, hts⟩ (n_wrong l D k A a z G_351 2 ⟨by decide, by decide⟩) (cwV 1 hts (gd_V hgd m1670 m1672 m59 m131 m1673) rfl rfl rfl (by decide +kernel) ⟨Nat.le_of_ble_eq_true rfl, Nat.le_of_ble_eq_true rfl⟩) (pre_V hW hB_G_351 hK hZ hS kd_66 rfl) rfl rfl hl.1 rfl (lv_room (Nat.le_of_ble_eq_true rfl)) dX12_unit_80 ⟨Nat.le_of_ble_eq_true rfl, Nat.le_of_ble_eq_true rfl⟩) hS (fun G_358 H locs hpo hW hS => ?_)
            obtain ⟨hB_G_358, hq_359, hp_360⟩ := hpo
            have hF := hF.call hq_359 (by decide) (by decide)
            refine lv_aload_n hx hb dX12_unit_83 rfl (lv_at hl 1 rfl) ?_
            have g_361 : (G_358.1 66 23).toInt = (G_3.1 66 23).toInt := by rw [show G_358.1 66 23 = (G_3.1 66 23) from ((hq_359.i 66 23 (by decide) (by decide)).trans ((hq_352.i 66 23 (by decide) (by decide)).trans ((hq_334.i 66 23 (by decide) (by decide)).trans ((hq_327.i 66 23 (by decide) (by decide)).trans (rfl)))))]
            have g_362 : (G_358.1 66 23).toInt = (G_3.1 66 23).toInt := by rw [show G_358.1 66 23 = (G_3.1 66 23) from ((hq_359.i 66 23 (by decide) (by decide)).trans ((hq_352.i 66 23 (by decide) (by decide)).trans ((hq_334.i 66 23 (by decide) (by decide)).trans ((hq_327.i 66 23 (by decide) (by decide)).trans (rfl)))))]
            refine S_callv (va_runV (As := []) (rest := []) ⟨hx, hb, hml, hown, hts⟩ (n_countUnit l D k A a z G_358  (by omega)) (cwV 0 hts (gd_V hgd m1733 m1735 m74 m131 m1736) rfl rfl rfl (by decide +kernel) ⟨Nat.le_of_ble_eq_true rfl, Nat.le_of_ble_eq_true rfl⟩) (pre_V hW hB_G_358 hK hZ hS kd_66 rfl) rfl rfl hl.1 rfl (lv_room (Nat.le_of_ble_eq_true rfl)) dX12_unit_84 ⟨Nat.le_of_ble_eq_true rfl, Nat.le_of_ble_eq_true rfl⟩) hS (fun G_364 H locs hpo hW hS => ?_)
            obtain ⟨hB_G_364, hq_365, hp_366⟩ := hpo
            have hF := hF.call hq_365 (by decide) (by decide)
            refine lv_aload_n hx hb dX12_unit_87 rfl (lv_at hl 1 rfl) ?_
            refine lv_bipush (v := 20) hx hb dX12_unit_88 (by decide) ?_
            have g_367 : (G_364.1 66 20).toInt = (G_3.1 66 20).toInt := by rw [show G_364.1 66 20 = (G_3.1 66 20) from ((hq_365.i 66 20 (by decide) (by decide)).trans ((hq_359.i 66 20 (by decide) (by decide)).trans ((hq_352.i 66 20 (by decide) (by decide)).trans ((hq_334.i 66 20 (by decide) (by decide)).trans ((hq_327.i 66 20 (by decide) (by decide)).trans (rfl))))))]
            have g_368 : (G_364.1 66 24).toInt = (G_3.1 66 24).toInt := by rw [show G_364.1 66 24 = (G_3.1 66 24) from ((hq_365.i 66 24 (by decide) (by decide)).trans ((hq_359.i 66 24 (by decide) (by decide)).trans ((hq_352.i 66 24 (by decide) (by decide)).trans ((hq_334.i 66 24 (by decide) (by decide)).trans ((hq_327.i 66 24 (by decide) (by decide)).trans (rfl))))))]
            have qc_369 : (20 : Int32).toInt = 20 := rfl
            have g_370 : gB G_364 = gB G_3 := gB_fr (rs := []) (fs := [(66, 2), (66, 3), (66, 21), (66, 23)]) (((((Fr.rf.call hq_327 (by decide) (by decide)).call hq_334 (by decide) (by decide)).call hq_352 (by decide) (by decide)).call hq_359 (by decide) (by decide)).call hq_365 (by decide) (by decide)) (by decide) (by decide)
            have g_371 : (G_364.1 66 20).toInt = (G_3.1 66 20).toInt := by rw [show G_364.1 66 20 = (G_3.1 66 20) from ((hq_365.i 66 20 (by decide) (by decide)).trans ((hq_359.i 66 20 (by decide) (by decide)).trans ((hq_352.i 66 20 (by decide) (by decide)).trans ((hq_334.i 66 20 (by decide) (by decide)).trans ((hq_327.i 66 20 (by decide) (by decide)).trans (rfl))))))]
            have g_372 : (G_364.1 66 24).toInt = (G_3.1 66 24).toInt := by rw [show G_364.1 66 24 = (G_3.1 66 24) from ((hq_365.i 66 24 (by decide) (by decide)).trans ((hq_359.i 66 24 (by decide) (by decide)).trans ((hq_352.i 66 24 (by decide) (by decide)).trans ((hq_334.i 66 24 (by decide) (by decide)).trans ((hq_327.i 66 24 (by decide) (by decide)).trans (rfl))))))]
            have g_373 : (G_364.1 66 4).toInt = (G_3.1 66 4).toInt := by rw [show G_364.1 66 4 = (G_3.1 66 4) from ((hq_365.i 66 4 (by decide) (by decide)).trans ((hq_359.i 66 4 (by decide) (by decide)).trans ((hq_352.i 66 4 (by decide) (by decide)).trans ((hq_334.i 66 4 (by decide) (by decide)).trans ((hq_327.i 66 4 (by decide) (by decide)).trans (rfl))))))]
            have g_374 : (G_364.1 66 6).toInt = (G_3.1 66 6).toInt := by rw [show G_364.1 66 6 = (G_3.1 66 6) from ((hq_365.i 66 6 (by decide) (by decide)).trans ((hq_359.i 66 6 (by decide) (by decide)).trans ((hq_352.i 66 6 (by decide) (by decide)).trans ((hq_334.i 66 6 (by decide) (by decide)).trans ((hq_327.i 66 6 (by decide) (by decide)).trans (rfl))))))]
            refine S_callv (va_runV (As := [.int 20]) (rest := []) ⟨hx, hb, hml, hown, hts⟩ (n_openUp l D k A a z G_364 20 ⟨by decide, by decide⟩ (by omega)) (cwV 1 hts (gd_V hgd m1725 m1727 m72 m131 m1728) rfl rfl rfl (by decide +kernel) ⟨Nat.le_of_ble_eq_true rfl, Nat.le_of_ble_eq_true rfl⟩) (pre_V hW hB_G_364 hK hZ hS kd_66 rfl) rfl rfl hl.1 rfl (lv_room (Nat.le_of_ble_eq_true rfl)) dX12_unit_90 ⟨Nat.le_of_ble_eq_true rfl, Nat.le_of_ble_eq_true rfl⟩) hS (fun G_376 H locs hpo hW hS => ?_)
            obtain ⟨hB_G_376, hq_377, hp_378⟩ := hpo
            have hF := hF.call hq_377 (by decide) (by decide)
            refine lv_goto (tgt := 2) hx hb dX12_unit_93 (by decide) ?_
            have b_379 : (-1) ≤ (G_376.1 66 24).toInt ∧ (G_376.1 66 24).toInt ≤ 200 := hB_G_376.i 66 24 rfl rfl
            have g_380 : gC G_376 = gC G := gC_fr (rs := [75]) (fs := [(66, 2), (66, 3), (66, 4), (66, 6), (66, 7), (66, 8), (66, 9), (66, 20), (66, 21), (66, 23), (66, 24)]) (((((((Fr.rf.call hq_4 (by decide) (by decide)).call hq_327 (by decide) (by decide)).call hq_334 (by decide) (by decide)).call hq_352 (by decide) (by decide)).call hq_359 (by decide) (by decide)).call hq_365 (by decide) (by decide)).call hq_377 (by decide) (by decide)) (by decide) (by decide)
            have g_381 : gD G_376 = gD G := gD_fr (rs := [75]) (fs := [(66, 2), (66, 3), (66, 4), (66, 6), (66, 7), (66, 8), (66, 9), (66, 20), (66, 21), (66, 23), (66, 24)]) (((((((Fr.rf.call hq_4 (by decide) (by decide)).call hq_327 (by decide) (by decide)).call hq_334 (by decide) (by decide)).call hq_352 (by decide) (by decide)).call hq_359 (by decide) (by decide)).call hq_365 (by decide) (by decide)).call hq_377 (by decide) (by decide)) (by decide) (by decide)
            have g_382 : gM G_376 = gM G := gM_fr (rs := [75]) (fs := [(66, 2), (66, 3), (66, 4), (66, 6), (66, 7), (66, 8), (66, 9), (66, 20), (66, 21), (66, 23), (66, 24)]) (((((((Fr.rf.call hq_4 (by decide) (by decide)).call hq_327 (by decide) (by decide)).call hq_334 (by decide) (by decide)).call hq_352 (by decide) (by decide)).call hq_359 (by decide) (by decide)).call hq_365 (by decide) (by decide)).call hq_377 (by decide) (by decide)) (by decide) (by decide)
            have b_383 : 0 ≤ (G_358.1 66 2).toInt ∧ (G_358.1 66 2).toInt ≤ 4 := hB_G_358.i 66 2 rfl rfl
            have g_384 : (G_376.1 66 2).toInt = (G_358.1 66 2).toInt := by rw [show G_376.1 66 2 = (G_358.1 66 2) from ((hq_377.i 66 2 (by decide) (by decide)).trans (hq_365.i 66 2 (by decide) (by decide)))]
            have b_385 : 0 ≤ (G_376.1 66 20).toInt ∧ (G_376.1 66 20).toInt ≤ 160 := hB_G_376.i 66 20 rfl rfl
            have b_386 : 0 ≤ (G_364.1 66 23).toInt ∧ (G_364.1 66 23).toInt ≤ 40 := hB_G_364.i 66 23 rfl rfl
            have g_387 : (G_376.1 66 23).toInt = (G_364.1 66 23).toInt := by rw [show G_376.1 66 23 = (G_364.1 66 23) from (hq_377.i 66 23 (by decide) (by decide))]
            have g_388 : (G_376.1 66 23).toInt = (G_364.1 66 23).toInt := by rw [show G_376.1 66 23 = (G_364.1 66 23) from ((hq_377.i 66 23 (by decide) (by decide)).trans (rfl))]
            have b_389 : 0 ≤ (G_376.1 66 4).toInt ∧ (G_376.1 66 4).toInt ≤ 1600 := hB_G_376.i 66 4 rfl rfl
            exact ih_5 (9 - (G_376.1 66 24).toInt + x_7.toInt : Int).toNat (by omega) _ _ _ ⟨G_376, x_7, (Int.toNat_of_nonneg (by omega)), ⟨by omega, by omega⟩, (by omega), (by omega), (by omega), hW, hB_G_376, hF, (((((((Fr.rf.call hq_4 (by decide) (by decide)).call hq_327 (by decide) (by decide)).call hq_334 (by decide) (by decide)).call hq_352 (by decide) (by decide)).call hq_359 (by decide) (by decide)).call hq_365 (by decide) (by decide)).call hq_377 (by decide) (by decide)), hS, lv_sub hl [0, 1] rfl⟩
          · have c_355 : r_350.toInt = 0 := xI_eq rfl rfl c_355
            refine lv_aload_n hx hb dX12_unit_69 rfl (lv_at hl 1 rfl) ?_
            refine S_getI (v := (G_3.1 66 24)) (C := RX12) (T := TX12) (N := 89) hx hb hg iX12 hown hK hW kd_66 rfl 24 (by decide) (hg (Cond.fieldLink RX12 309 "SlabWalkModel" "deep" "I") m1338) (fun _ h9 => h9) rfl ((hq_352.i 66 24 (by decide) (by decide)).trans ((hq_334.i 66 24 (by decide) (by decide)).trans ((hq_327.i 66 24 (by decide) (by decide)).trans (rfl)))) dX12_unit_70 ?_
            refine lv_bipush (v := 6) hx hb dX12_unit_73 (by decide) ?_
            refine lv_icmp_le (tgt := 83) hx hb dX12_unit_75 (by decide) (fun c_390 => ?_) (fun c_390 => ?_)
            · have c_390 : (G_3.1 66 24).toInt ≤ 6 := xI_le rfl rfl c_390
              refine lv_aload_n hx hb dX12_unit_83 rfl (lv_at hl 1 rfl) ?_
              have g_391 : (G_351.1 66 23).toInt = (G_3.1 66 23).toInt := by rw [show G_351.1 66 23 = (G_3.1 66 23) from ((hq_352.i 66 23 (by decide) (by decide)).trans ((hq_334.i 66 23 (by decide) (by decide)).trans ((hq_327.i 66 23 (by decide) (by decide)).trans (rfl))))]
              have g_392 : (G_351.1 66 23).toInt = (G_3.1 66 23).toInt := by rw [show G_351.1 66 23 = (G_3.1 66 23) from ((hq_352.i 66 23 (by decide) (by decide)).trans ((hq_334.i 66 23 (by decide) (by decide)).trans ((hq_327.i 66 23 (by decide) (by decide)).trans (rfl))))]
              refine S_callv (va_runV (As := []) (rest := []) ⟨hx, hb, hml, hown, hts⟩ (n_countUnit l D k A a z G_351  (by omega)) (cwV 0 hts (gd_V hgd m1733 m1735 m74 m131 m1736) rfl rfl rfl (by decide +kernel) ⟨Nat.le_of_ble_eq_true rfl, Nat.le_of_ble_eq_true rfl⟩) (pre_V hW hB_G_351 hK hZ hS kd_66 rfl) rfl rfl hl.1 rfl (lv_room (Nat.le_of_ble_eq_true rfl)) dX12_unit_84 ⟨Nat.le_of_ble_eq_true rfl, Nat.le_of_ble_eq_true rfl⟩) hS (fun G_394 H locs hpo hW hS => ?_)
              obtain ⟨hB_G_394, hq_395, hp_396⟩ := hpo
              have hF := hF.call hq_395 (by decide) (by decide)
              refine lv_aload_n hx hb dX12_unit_87 rfl (lv_at hl 1 rfl) ?_
              refine lv_bipush (v := 20) hx hb dX12_unit_88 (by decide) ?_
              have g_397 : (G_394.1 66 20).toInt = (G_3.1 66 20).toInt := by rw [show G_394.1 66 20 = (G_3.1 66 20) from ((hq_395.i 66 20 (by decide) (by decide)).trans ((hq_352.i 66 20 (by decide) (by decide)).trans ((hq_334.i 66 20 (by decide) (by decide)).trans ((hq_327.i 66 20 (by decide) (by decide)).trans (rfl)))))]
              have g_398 : (G_394.1 66 24).toInt = (G_3.1 66 24).toInt := by rw [show G_394.1 66 24 = (G_3.1 66 24) from ((hq_395.i 66 24 (by decide) (by decide)).trans ((hq_352.i 66 24 (by decide) (by decide)).trans ((hq_334.i 66 24 (by decide) (by decide)).trans ((hq_327.i 66 24 (by decide) (by decide)).trans (rfl)))))]
              have qc_399 : (20 : Int32).toInt = 20 := rfl
              have g_400 : gB G_394 = gB G_3 := gB_fr (rs := []) (fs := [(66, 21), (66, 23)]) ((((Fr.rf.call hq_327 (by decide) (by decide)).call hq_334 (by decide) (by decide)).call hq_352 (by decide) (by decide)).call hq_395 (by decide) (by decide)) (by decide) (by decide)
              have g_401 : (G_394.1 66 20).toInt = (G_3.1 66 20).toInt := by rw [show G_394.1 66 20 = (G_3.1 66 20) from ((hq_395.i 66 20 (by decide) (by decide)).trans ((hq_352.i 66 20 (by decide) (by decide)).trans ((hq_334.i 66 20 (by decide) (by decide)).trans ((hq_327.i 66 20 (by decide) (by decide)).trans (rfl)))))]
              have g_402 : (G_394.1 66 24).toInt = (G_3.1 66 24).toInt := by rw [show G_394.1 66 24 = (G_3.1 66 24) from ((hq_395.i 66 24 (by decide) (by decide)).trans ((hq_352.i 66 24 (by decide) (by decide)).trans ((hq_334.i 66 24 (by decide) (by decide)).trans ((hq_327.i 66 24 (by decide) (by decide)).trans (rfl)))))]
              have g_403 : (G_394.1 66 4).toInt = (G_3.1 66 4).toInt := by rw [show G_394.1 66 4 = (G_3.1 66 4) from ((hq_395.i 66 4 (by decide) (by decide)).trans ((hq_352.i 66 4 (by decide) (by decide)).trans ((hq_334.i 66 4 (by decide) (by decide)).trans ((hq_327.i 66 4 (by decide) (by decide)).trans (rfl)))))]
              have g_404 : (G_394.1 66 6).toInt = (G_3.1 66 6).toInt := by rw [show G_394.1 66 6 = (G_3.1 66 6) from ((hq_395.i 66 6 (by decide) (by decide)).trans ((hq_352.i 66 6 (by decide) (by decide)).trans ((hq_334.i 66 6 (by decide) (by decide)).trans ((hq_327.i 66 6 (by decide) (by decide)).trans (rfl)))))]
              refine S_callv (va_runV (As := [.int 20]) (rest := []) ⟨hx, hb, hml, hown, hts⟩ (n_openUp l D k A a z G_394 20 ⟨by decide, by decide⟩ (by omega)) (cwV 1 hts (gd_V hgd m1725 m1727 m72 m131 m1728) rfl rfl rfl (by decide +kernel) ⟨Nat.le_of_ble_eq_true rfl, Nat.le_of_ble_eq_true rfl⟩) (pre_V hW hB_G_394 hK hZ hS kd_66 rfl) rfl rfl hl.1 rfl (lv_room (Nat.le_of_ble_eq_true rfl)) dX12_unit_90 ⟨Nat.le_of_ble_eq_true rfl, Nat.le_of_ble_eq_true rfl⟩) hS (fun G_406 H locs hpo hW hS => ?_)
              obtain ⟨hB_G_406, hq_407, hp_408⟩ := hpo
              have hF := hF.call hq_407 (by decide) (by decide)
              refine lv_goto (tgt := 2) hx hb dX12_unit_93 (by decide) ?_
              have b_409 : (-1) ≤ (G_406.1 66 24).toInt ∧ (G_406.1 66 24).toInt ≤ 200 := hB_G_406.i 66 24 rfl rfl
              have g_410 : gC G_406 = gC G := gC_fr (rs := [75]) (fs := [(66, 2), (66, 3), (66, 4), (66, 6), (66, 7), (66, 8), (66, 9), (66, 20), (66, 21), (66, 23), (66, 24)]) ((((((Fr.rf.call hq_4 (by decide) (by decide)).call hq_327 (by decide) (by decide)).call hq_334 (by decide) (by decide)).call hq_352 (by decide) (by decide)).call hq_395 (by decide) (by decide)).call hq_407 (by decide) (by decide)) (by decide) (by decide)
              have g_411 : gD G_406 = gD G := gD_fr (rs := [75]) (fs := [(66, 2), (66, 3), (66, 4), (66, 6), (66, 7), (66, 8), (66, 9), (66, 20), (66, 21), (66, 23), (66, 24)]) ((((((Fr.rf.call hq_4 (by decide) (by decide)).call hq_327 (by decide) (by decide)).call hq_334 (by decide) (by decide)).call hq_352 (by decide) (by decide)).call hq_395 (by decide) (by decide)).call hq_407 (by decide) (by decide)) (by decide) (by decide)
              have g_412 : gM G_406 = gM G := gM_fr (rs := [75]) (fs := [(66, 2), (66, 3), (66, 4), (66, 6), (66, 7), (66, 8), (66, 9), (66, 20), (66, 21), (66, 23), (66, 24)]) ((((((Fr.rf.call hq_4 (by decide) (by decide)).call hq_327 (by decide) (by decide)).call hq_334 (by decide) (by decide)).call hq_352 (by decide) (by decide)).call hq_395 (by decide) (by decide)).call hq_407 (by decide) (by decide)) (by decide) (by decide)
              have g_413 : (G_406.1 66 2).toInt = (G_3.1 66 2).toInt := by rw [show G_406.1 66 2 = (G_3.1 66 2) from ((hq_407.i 66 2 (by decide) (by decide)).trans ((hq_395.i 66 2 (by decide) (by decide)).trans ((hq_352.i 66 2 (by decide) (by decide)).trans ((hq_334.i 66 2 (by decide) (by decide)).trans ((hq_327.i 66 2 (by decide) (by decide)).trans (rfl))))))]
              have b_414 : 0 ≤ (G_406.1 66 20).toInt ∧ (G_406.1 66 20).toInt ≤ 160 := hB_G_406.i 66 20 rfl rfl
              have b_415 : 0 ≤ (G_394.1 66 23).toInt ∧ (G_394.1 66 23).toInt ≤ 40 := hB_G_394.i 66 23 rfl rfl
              have g_416 : (G_406.1 66 23).toInt = (G_394.1 66 23).toInt := by rw [show G_406.1 66 23 = (G_394.1 66 23) from (hq_407.i 66 23 (by decide) (by decide))]
              have g_417 : (G_406.1 66 23).toInt = (G_394.1 66 23).toInt := by rw [show G_406.1 66 23 = (G_394.1 66 23) from ((hq_407.i 66 23 (by decide) (by decide)).trans (rfl))]
              have b_418 : 0 ≤ (G_406.1 66 4).toInt ∧ (G_406.1 66 4).toInt ≤ 1600 := hB_G_406.i 66 4 rfl rfl
              exact ih_5 (9 - (G_406.1 66 24).toInt + x_7.toInt : Int).toNat (by omega) _ _ _ ⟨G_406, x_7, (Int.toNat_of_nonneg (by omega)), ⟨by omega, by omega⟩, (by omega), (by omega), (by omega), hW, hB_G_406, hF, ((((((Fr.rf.call hq_4 (by decide) (by decide)).call hq_327 (by decide) (by decide)).call hq_334 (by decide) (by decide)).call hq_352 (by decide) (by decide)).call hq_395 (by decide) (by decide)).call hq_407 (by decide) (by decide)), hS, lv_sub hl [0, 1] rfl⟩
            · have c_390 : 6 < (G_3.1 66 24).toInt := xI_nle rfl rfl c_390
              refine lv_aload_n hx hb dX12_unit_78 rfl (lv_at hl 1 rfl) ?_
              refine lv_iconst (v := 2) hx hb dX12_unit_79 (by decide) ?_
              have qc_419 : (2 : Int32).toInt = 2 := rfl
              refine S_callv (va_runV (As := [.int 2]) (rest := []) ⟨hx, hb, hml, hown, hts⟩ (n_wrong l D k A a z G_351 2 ⟨by decide, by decide⟩) (cwV 1 hts (gd_V hgd m1670 m1672 m59 m131 m1673) rfl rfl rfl (by decide +kernel) ⟨Nat.le_of_ble_eq_true rfl, Nat.le_of_ble_eq_true rfl⟩) (pre_V hW hB_G_351 hK hZ hS kd_66 rfl) rfl rfl hl.1 rfl (lv_room (Nat.le_of_ble_eq_true rfl)) dX12_unit_80 ⟨Nat.le_of_ble_eq_true rfl, Nat.le_of_ble_eq_true rfl⟩) hS (fun G_421 H locs hpo hW hS => ?_)
              obtain ⟨hB_G_421, hq_422, hp_423⟩ := hpo
              have hF := hF.call hq_422 (by decide) (by decide)
              refine lv_aload_n hx hb dX12_unit_83 rfl (lv_at hl 1 rfl) ?_
              have g_424 : (G_421.1 66 23).toInt = (G_3.1 66 23).toInt := by rw [show G_421.1 66 23 = (G_3.1 66 23) from ((hq_422.i 66 23 (by decide) (by decide)).trans ((hq_352.i 66 23 (by decide) (by decide)).trans ((hq_334.i 66 23 (by decide) (by decide)).trans ((hq_327.i 66 23 (by decide) (by decide)).trans (rfl)))))]
              have g_425 : (G_421.1 66 23).toInt = (G_3.1 66 23).toInt := by rw [show G_421.1 66 23 = (G_3.1 66 23) from ((hq_422.i 66 23 (by decide) (by decide)).trans ((hq_352.i 66 23 (by decide) (by decide)).trans ((hq_334.i 66 23 (by decide) (by decide)).trans ((hq_327.i 66 23 (by decide) (by decide)).trans (rfl)))))]
              refine S_callv (va_runV (As := []) (rest := []) ⟨hx, hb, hml, hown, hts⟩ (n_countUnit l D k A a z G_421  (by omega)) (cwV 0 hts (gd_V hgd m1733 m1735 m74 m131 m1736) rfl rfl rfl (by decide +kernel) ⟨Nat.le_of_ble_eq_true rfl, Nat.le_of_ble_eq_true rfl⟩) (pre_V hW hB_G_421 hK hZ hS kd_66 rfl) rfl rfl hl.1 rfl (lv_room (Nat.le_of_ble_eq_true rfl)) dX12_unit_84 ⟨Nat.le_of_ble_eq_true rfl, Nat.le_of_ble_eq_true rfl⟩) hS (fun G_427 H locs hpo hW hS => ?_)
              obtain ⟨hB_G_427, hq_428, hp_429⟩ := hpo
              have hF := hF.call hq_428 (by decide) (by decide)
              refine lv_aload_n hx hb dX12_unit_87 rfl (lv_at hl 1 rfl) ?_
              refine lv_bipush (v := 20) hx hb dX12_unit_88 (by decide) ?_
              have g_430 : (G_427.1 66 20).toInt = (G_3.1 66 20).toInt := by rw [show G_427.1 66 20 = (G_3.1 66 20) from ((hq_428.i 66 20 (by decide) (by decide)).trans ((hq_422.i 66 20 (by decide) (by decide)).trans ((hq_352.i 66 20 (by decide) (by decide)).trans ((hq_334.i 66 20 (by decide) (by decide)).trans ((hq_327.i 66 20 (by decide) (by decide)).trans (rfl))))))]
              have g_431 : (G_427.1 66 24).toInt = (G_3.1 66 24).toInt := by rw [show G_427.1 66 24 = (G_3.1 66 24) from ((hq_428.i 66 24 (by decide) (by decide)).trans ((hq_422.i 66 24 (by decide) (by decide)).trans ((hq_352.i 66 24 (by decide) (by decide)).trans ((hq_334.i 66 24 (by decide) (by decide)).trans ((hq_327.i 66 24 (by decide) (by decide)).trans (rfl))))))]
              have qc_432 : (20 : Int32).toInt = 20 := rfl
              have g_433 : gB G_427 = gB G_3 := gB_fr (rs := []) (fs := [(66, 2), (66, 3), (66, 21), (66, 23)]) (((((Fr.rf.call hq_327 (by decide) (by decide)).call hq_334 (by decide) (by decide)).call hq_352 (by decide) (by decide)).call hq_422 (by decide) (by decide)).call hq_428 (by decide) (by decide)) (by decide) (by decide)
              have g_434 : (G_427.1 66 20).toInt = (G_3.1 66 20).toInt := by rw [show G_427.1 66 20 = (G_3.1 66 20) from ((hq_428.i 66 20 (by decide) (by decide)).trans ((hq_422.i 66 20 (by decide) (by decide)).trans ((hq_352.i 66 20 (by decide) (by decide)).trans ((hq_334.i 66 20 (by decide) (by decide)).trans ((hq_327.i 66 20 (by decide) (by decide)).trans (rfl))))))]
              have g_435 : (G_427.1 66 24).toInt = (G_3.1 66 24).toInt := by rw [show G_427.1 66 24 = (G_3.1 66 24) from ((hq_428.i 66 24 (by decide) (by decide)).trans ((hq_422.i 66 24 (by decide) (by decide)).trans ((hq_352.i 66 24 (by decide) (by decide)).trans ((hq_334.i 66 24 (by decide) (by decide)).trans ((hq_327.i 66 24 (by decide) (by decide)).trans (rfl))))))]
              have g_436 : (G_427.1 66 4).toInt = (G_3.1 66 4).toInt := by rw [show G_427.1 66 4 = (G_3.1 66 4) from ((hq_428.i 66 4 (by decide) (by decide)).trans ((hq_422.i 66 4 (by decide) (by decide)).trans ((hq_352.i 66 4 (by decide) (by decide)).trans ((hq_334.i 66 4 (by decide) (by decide)).trans ((hq_327.i 66 4 (by decide) (by decide)).trans (rfl))))))]
              have g_437 : (G_427.1 66 6).toInt = (G_3.1 66 6).toInt := by rw [show G_427.1 66 6 = (G_3.1 66 6) from ((hq_428.i 66 6 (by decide) (by decide)).trans ((hq_422.i 66 6 (by decide) (by decide)).trans ((hq_352.i 66 6 (by decide) (by decide)).trans ((hq_334.i 66 6 (by decide) (by decide)).trans ((hq_327.i 66 6 (by decide) (by decide)).trans (rfl))))))]
              refine S_callv (va_runV (As := [.int 20]) (rest := []) ⟨hx, hb, hml, hown, hts⟩ (n_openUp l D k A a z G_427 20 ⟨by decide, by decide⟩ (by omega)) (cwV 1 hts (gd_V hgd m1725 m1727 m72 m131 m1728) rfl rfl rfl (by decide +kernel) ⟨Nat.le_of_ble_eq_true rfl, Nat.le_of_ble_eq_true rfl⟩) (pre_V hW hB_G_427 hK hZ hS kd_66 rfl) rfl rfl hl.1 rfl (lv_room (Nat.le_of_ble_eq_true rfl)) dX12_unit_90 ⟨Nat.le_of_ble_eq_true rfl, Nat.le_of_ble_eq_true rfl⟩) hS (fun G_439 H locs hpo hW hS => ?_)
              obtain ⟨hB_G_439, hq_440, hp_441⟩ := hpo
              have hF := hF.call hq_440 (by decide) (by decide)
              refine lv_goto (tgt := 2) hx hb dX12_unit_93 (by decide) ?_
              have b_442 : (-1) ≤ (G_439.1 66 24).toInt ∧ (G_439.1 66 24).toInt ≤ 200 := hB_G_439.i 66 24 rfl rfl
              have g_443 : gC G_439 = gC G := gC_fr (rs := [75]) (fs := [(66, 2), (66, 3), (66, 4), (66, 6), (66, 7), (66, 8), (66, 9), (66, 20), (66, 21), (66, 23), (66, 24)]) (((((((Fr.rf.call hq_4 (by decide) (by decide)).call hq_327 (by decide) (by decide)).call hq_334 (by decide) (by decide)).call hq_352 (by decide) (by decide)).call hq_422 (by decide) (by decide)).call hq_428 (by decide) (by decide)).call hq_440 (by decide) (by decide)) (by decide) (by decide)
              have g_444 : gD G_439 = gD G := gD_fr (rs := [75]) (fs := [(66, 2), (66, 3), (66, 4), (66, 6), (66, 7), (66, 8), (66, 9), (66, 20), (66, 21), (66, 23), (66, 24)]) (((((((Fr.rf.call hq_4 (by decide) (by decide)).call hq_327 (by decide) (by decide)).call hq_334 (by decide) (by decide)).call hq_352 (by decide) (by decide)).call hq_422 (by decide) (by decide)).call hq_428 (by decide) (by decide)).call hq_440 (by decide) (by decide)) (by decide) (by decide)
              have g_445 : gM G_439 = gM G := gM_fr (rs := [75]) (fs := [(66, 2), (66, 3), (66, 4), (66, 6), (66, 7), (66, 8), (66, 9), (66, 20), (66, 21), (66, 23), (66, 24)]) (((((((Fr.rf.call hq_4 (by decide) (by decide)).call hq_327 (by decide) (by decide)).call hq_334 (by decide) (by decide)).call hq_352 (by decide) (by decide)).call hq_422 (by decide) (by decide)).call hq_428 (by decide) (by decide)).call hq_440 (by decide) (by decide)) (by decide) (by decide)
              have b_446 : 0 ≤ (G_421.1 66 2).toInt ∧ (G_421.1 66 2).toInt ≤ 4 := hB_G_421.i 66 2 rfl rfl
              have g_447 : (G_439.1 66 2).toInt = (G_421.1 66 2).toInt := by rw [show G_439.1 66 2 = (G_421.1 66 2) from ((hq_440.i 66 2 (by decide) (by decide)).trans (hq_428.i 66 2 (by decide) (by decide)))]
              have b_448 : 0 ≤ (G_439.1 66 20).toInt ∧ (G_439.1 66 20).toInt ≤ 160 := hB_G_439.i 66 20 rfl rfl
              have b_449 : 0 ≤ (G_427.1 66 23).toInt ∧ (G_427.1 66 23).toInt ≤ 40 := hB_G_427.i 66 23 rfl rfl
              have g_450 : (G_439.1 66 23).toInt = (G_427.1 66 23).toInt := by rw [show G_439.1 66 23 = (G_427.1 66 23) from (hq_440.i 66 23 (by decide) (by decide))]
              have g_451 : (G_439.1 66 23).toInt = (G_427.1 66 23).toInt := by rw [show G_439.1 66 23 = (G_427.1 66 23) from ((hq_440.i 66 23 (by decide) (by decide)).trans (rfl))]
              have b_452 : 0 ≤ (G_439.1 66 4).toInt ∧ (G_439.1 66 4).toInt ≤ 1600 := hB_G_439.i 66 4 rfl rfl
              exact ih_5 (9 - (G_439.1 66 24).toInt + x_7.toInt : Int).toNat (by omega) _ _ _ ⟨G_439, x_7, (Int.toNat_of_nonneg (by omega)), ⟨by omega, by omega⟩, (by omega), (by omega), (by omega), hW, hB_G_439, hF, (((((((Fr.rf.call hq_4 (by decide) (by decide)).call hq_327 (by decide) (by decide)).call hq_334 (by decide) (by decide)).call hq_352 (by decide) (by decide)).call hq_422 (by decide) (by decide)).call hq_428 (by decide) (by decide)).call hq_440 (by decide) (by decide)), hS, lv_sub hl [0, 1] rfl⟩
      refine lv_if_eq (tgt := 53) hx hb dX12_unit_20 (by decide) (fun c_453 => ?_) (fun c_453 => ?_)
      · have c_453 : r_325.toInt = 0 := xI_eq rfl rfl c_453
        exact hJ_333 () _ _ _ ⟨G_326, hW, hB_G_326, hF, Fr.rf, hS, lv_sub hl [0, 1] rfl⟩
      · have c_453 : r_325.toInt ≠ 0 := xI_ne rfl rfl c_453
        refine lv_aload_n hx hb dX12_unit_23 rfl (lv_at hl 1 rfl) ?_
        refine S_calli (va_runV (As := []) (rest := []) ⟨hx, hb, hml, hown, hts⟩ (n_mayNot l D k A a z G_326  ) (cwV 0 hts (gd_V hgd m1718 m1720 m71 m131 m1721) rfl rfl rfl (by decide +kernel) ⟨Nat.le_of_ble_eq_true rfl, Nat.le_of_ble_eq_true rfl⟩) (pre_V hW hB_G_326 hK hZ hS kd_66 rfl) rfl rfl hl.1 rfl (lv_room (Nat.le_of_ble_eq_true rfl)) dX12_unit_24 ⟨Nat.le_of_ble_eq_true rfl, Nat.le_of_ble_eq_true rfl⟩) hS (fun r_454 G_455 H locs hpo hW hS => ?_)
        obtain ⟨hB_G_455, hq_456, f_458⟩ := hpo
        have hF := hF.call hq_456 (by decide) (by decide)
        refine lv_if_eq (tgt := 53) hx hb dX12_unit_27 (by decide) (fun c_459 => ?_) (fun c_459 => ?_)
        · have c_459 : r_454.toInt = 0 := xI_eq rfl rfl c_459
          exact hJ_333 () _ _ _ ⟨G_455, hW, hB_G_455, hF, (Fr.rf.call hq_456 (by decide) (by decide)), hS, lv_sub hl [0, 1] rfl⟩
        · have c_459 : r_454.toInt ≠ 0 := xI_ne rfl rfl c_459
          refine lv_aload_n hx hb dX12_unit_30 rfl (lv_at hl 1 rfl) ?_
          refine S_getI (v := (G_3.1 66 24)) (C := RX12) (T := TX12) (N := 89) hx hb hg iX12 hown hK hW kd_66 rfl 24 (by decide) (hg (Cond.fieldLink RX12 309 "SlabWalkModel" "deep" "I") m1338) (fun _ h9 => h9) rfl ((hq_456.i 66 24 (by decide) (by decide)).trans ((hq_327.i 66 24 (by decide) (by decide)).trans (rfl))) dX12_unit_31 ?_
          refine lv_bipush (v := 6) hx hb dX12_unit_34 (by decide) ?_
          refine lv_icmp_le (tgt := 44) hx hb dX12_unit_36 (by decide) (fun c_460 => ?_) (fun c_460 => ?_)
          · have c_460 : (G_3.1 66 24).toInt ≤ 6 := xI_le rfl rfl c_460
            refine lv_aload_n hx hb dX12_unit_44 rfl (lv_at hl 1 rfl) ?_
            refine lv_bipush (v := 21) hx hb dX12_unit_45 (by decide) ?_
            have g_461 : (G_455.1 66 20).toInt = (G_3.1 66 20).toInt := by rw [show G_455.1 66 20 = (G_3.1 66 20) from ((hq_456.i 66 20 (by decide) (by decide)).trans ((hq_327.i 66 20 (by decide) (by decide)).trans (rfl)))]
            have g_462 : (G_455.1 66 24).toInt = (G_3.1 66 24).toInt := by rw [show G_455.1 66 24 = (G_3.1 66 24) from ((hq_456.i 66 24 (by decide) (by decide)).trans ((hq_327.i 66 24 (by decide) (by decide)).trans (rfl)))]
            have qc_463 : (21 : Int32).toInt = 21 := rfl
            have g_464 : gB G_455 = gB G_3 := gB_fr (rs := []) (fs := []) ((Fr.rf.call hq_327 (by decide) (by decide)).call hq_456 (by decide) (by decide)) (by decide) (by decide)
            have g_465 : (G_455.1 66 20).toInt = (G_3.1 66 20).toInt := by rw [show G_455.1 66 20 = (G_3.1 66 20) from ((hq_456.i 66 20 (by decide) (by decide)).trans ((hq_327.i 66 20 (by decide) (by decide)).trans (rfl)))]
            have g_466 : (G_455.1 66 24).toInt = (G_3.1 66 24).toInt := by rw [show G_455.1 66 24 = (G_3.1 66 24) from ((hq_456.i 66 24 (by decide) (by decide)).trans ((hq_327.i 66 24 (by decide) (by decide)).trans (rfl)))]
            have g_467 : (G_455.1 66 4).toInt = (G_3.1 66 4).toInt := by rw [show G_455.1 66 4 = (G_3.1 66 4) from ((hq_456.i 66 4 (by decide) (by decide)).trans ((hq_327.i 66 4 (by decide) (by decide)).trans (rfl)))]
            have g_468 : (G_455.1 66 6).toInt = (G_3.1 66 6).toInt := by rw [show G_455.1 66 6 = (G_3.1 66 6) from ((hq_456.i 66 6 (by decide) (by decide)).trans ((hq_327.i 66 6 (by decide) (by decide)).trans (rfl)))]
            refine S_callv (va_runV (As := [.int 21]) (rest := []) ⟨hx, hb, hml, hown, hts⟩ (n_openUp l D k A a z G_455 21 ⟨by decide, by decide⟩ (by omega)) (cwV 1 hts (gd_V hgd m1725 m1727 m72 m131 m1728) rfl rfl rfl (by decide +kernel) ⟨Nat.le_of_ble_eq_true rfl, Nat.le_of_ble_eq_true rfl⟩) (pre_V hW hB_G_455 hK hZ hS kd_66 rfl) rfl rfl hl.1 rfl (lv_room (Nat.le_of_ble_eq_true rfl)) dX12_unit_47 ⟨Nat.le_of_ble_eq_true rfl, Nat.le_of_ble_eq_true rfl⟩) hS (fun G_470 H locs hpo hW hS => ?_)
            obtain ⟨hB_G_470, hq_471, hp_472⟩ := hpo
            have hF := hF.call hq_471 (by decide) (by decide)
            refine lv_goto (tgt := 2) hx hb dX12_unit_50 (by decide) ?_
            have b_473 : (-1) ≤ (G_470.1 66 24).toInt ∧ (G_470.1 66 24).toInt ≤ 200 := hB_G_470.i 66 24 rfl rfl
            have g_474 : gC G_470 = gC G := gC_fr (rs := [75]) (fs := [(66, 2), (66, 3), (66, 4), (66, 6), (66, 7), (66, 8), (66, 9), (66, 20), (66, 21), (66, 23), (66, 24)]) ((((Fr.rf.call hq_4 (by decide) (by decide)).call hq_327 (by decide) (by decide)).call hq_456 (by decide) (by decide)).call hq_471 (by decide) (by decide)) (by decide) (by decide)
            have g_475 : gD G_470 = gD G := gD_fr (rs := [75]) (fs := [(66, 2), (66, 3), (66, 4), (66, 6), (66, 7), (66, 8), (66, 9), (66, 20), (66, 21), (66, 23), (66, 24)]) ((((Fr.rf.call hq_4 (by decide) (by decide)).call hq_327 (by decide) (by decide)).call hq_456 (by decide) (by decide)).call hq_471 (by decide) (by decide)) (by decide) (by decide)
            have g_476 : gM G_470 = gM G := gM_fr (rs := [75]) (fs := [(66, 2), (66, 3), (66, 4), (66, 6), (66, 7), (66, 8), (66, 9), (66, 20), (66, 21), (66, 23), (66, 24)]) ((((Fr.rf.call hq_4 (by decide) (by decide)).call hq_327 (by decide) (by decide)).call hq_456 (by decide) (by decide)).call hq_471 (by decide) (by decide)) (by decide) (by decide)
            have g_477 : (G_470.1 66 2).toInt = (G_3.1 66 2).toInt := by rw [show G_470.1 66 2 = (G_3.1 66 2) from ((hq_471.i 66 2 (by decide) (by decide)).trans ((hq_456.i 66 2 (by decide) (by decide)).trans ((hq_327.i 66 2 (by decide) (by decide)).trans (rfl))))]
            have b_478 : 0 ≤ (G_470.1 66 20).toInt ∧ (G_470.1 66 20).toInt ≤ 160 := hB_G_470.i 66 20 rfl rfl
            have g_479 : (G_470.1 66 23).toInt = (G_3.1 66 23).toInt := by rw [show G_470.1 66 23 = (G_3.1 66 23) from ((hq_471.i 66 23 (by decide) (by decide)).trans ((hq_456.i 66 23 (by decide) (by decide)).trans ((hq_327.i 66 23 (by decide) (by decide)).trans (rfl))))]
            have g_480 : (G_470.1 66 23).toInt = (G_3.1 66 23).toInt := by rw [show G_470.1 66 23 = (G_3.1 66 23) from ((hq_471.i 66 23 (by decide) (by decide)).trans ((hq_456.i 66 23 (by decide) (by decide)).trans ((hq_327.i 66 23 (by decide) (by decide)).trans (rfl))))]
            have b_481 : 0 ≤ (G_470.1 66 4).toInt ∧ (G_470.1 66 4).toInt ≤ 1600 := hB_G_470.i 66 4 rfl rfl
            exact ih_5 (9 - (G_470.1 66 24).toInt + x_7.toInt : Int).toNat (by omega) _ _ _ ⟨G_470, x_7, (Int.toNat_of_nonneg (by omega)), ⟨by omega, by omega⟩, (by omega), (by omega), (by omega), hW, hB_G_470, hF, ((((Fr.rf.call hq_4 (by decide) (by decide)).call hq_327 (by decide) (by decide)).call hq_456 (by decide) (by decide)).call hq_471 (by decide) (by decide)), hS, lv_sub hl [0, 1] rfl⟩
          · have c_460 : 6 < (G_3.1 66 24).toInt := xI_nle rfl rfl c_460
            refine lv_aload_n hx hb dX12_unit_39 rfl (lv_at hl 1 rfl) ?_
            refine lv_iconst (v := 2) hx hb dX12_unit_40 (by decide) ?_
            have qc_482 : (2 : Int32).toInt = 2 := rfl
            refine S_callv (va_runV (As := [.int 2]) (rest := []) ⟨hx, hb, hml, hown, hts⟩ (n_wrong l D k A a z G_455 2 ⟨by decide, by decide⟩) (cwV 1 hts (gd_V hgd m1670 m1672 m59 m131 m1673) rfl rfl rfl (by decide +kernel) ⟨Nat.le_of_ble_eq_true rfl, Nat.le_of_ble_eq_true rfl⟩) (pre_V hW hB_G_455 hK hZ hS kd_66 rfl) rfl rfl hl.1 rfl (lv_room (Nat.le_of_ble_eq_true rfl)) dX12_unit_41 ⟨Nat.le_of_ble_eq_true rfl, Nat.le_of_ble_eq_true rfl⟩) hS (fun G_484 H locs hpo hW hS => ?_)
            obtain ⟨hB_G_484, hq_485, hp_486⟩ := hpo
            have hF := hF.call hq_485 (by decide) (by decide)
            refine lv_aload_n hx hb dX12_unit_44 rfl (lv_at hl 1 rfl) ?_
            refine lv_bipush (v := 21) hx hb dX12_unit_45 (by decide) ?_
            have g_487 : (G_484.1 66 20).toInt = (G_3.1 66 20).toInt := by rw [show G_484.1 66 20 = (G_3.1 66 20) from ((hq_485.i 66 20 (by decide) (by decide)).trans ((hq_456.i 66 20 (by decide) (by decide)).trans ((hq_327.i 66 20 (by decide) (by decide)).trans (rfl))))]
            have g_488 : (G_484.1 66 24).toInt = (G_3.1 66 24).toInt := by rw [show G_484.1 66 24 = (G_3.1 66 24) from ((hq_485.i 66 24 (by decide) (by decide)).trans ((hq_456.i 66 24 (by decide) (by decide)).trans ((hq_327.i 66 24 (by decide) (by decide)).trans (rfl))))]
            have qc_489 : (21 : Int32).toInt = 21 := rfl
            have g_490 : gB G_484 = gB G_3 := gB_fr (rs := []) (fs := [(66, 2), (66, 3)]) (((Fr.rf.call hq_327 (by decide) (by decide)).call hq_456 (by decide) (by decide)).call hq_485 (by decide) (by decide)) (by decide) (by decide)
            have g_491 : (G_484.1 66 20).toInt = (G_3.1 66 20).toInt := by rw [show G_484.1 66 20 = (G_3.1 66 20) from ((hq_485.i 66 20 (by decide) (by decide)).trans ((hq_456.i 66 20 (by decide) (by decide)).trans ((hq_327.i 66 20 (by decide) (by decide)).trans (rfl))))]
            have g_492 : (G_484.1 66 24).toInt = (G_3.1 66 24).toInt := by rw [show G_484.1 66 24 = (G_3.1 66 24) from ((hq_485.i 66 24 (by decide) (by decide)).trans ((hq_456.i 66 24 (by decide) (by decide)).trans ((hq_327.i 66 24 (by decide) (by decide)).trans (rfl))))]
            have g_493 : (G_484.1 66 4).toInt = (G_3.1 66 4).toInt := by rw [show G_484.1 66 4 = (G_3.1 66 4) from ((hq_485.i 66 4 (by decide) (by decide)).trans ((hq_456.i 66 4 (by decide) (by decide)).trans ((hq_327.i 66 4 (by decide) (by decide)).trans (rfl))))]
            have g_494 : (G_484.1 66 6).toInt = (G_3.1 66 6).toInt := by rw [show G_484.1 66 6 = (G_3.1 66 6) from ((hq_485.i 66 6 (by decide) (by decide)).trans ((hq_456.i 66 6 (by decide) (by decide)).trans ((hq_327.i 66 6 (by decide) (by decide)).trans (rfl))))]
            refine S_callv (va_runV (As := [.int 21]) (rest := []) ⟨hx, hb, hml, hown, hts⟩ (n_openUp l D k A a z G_484 21 ⟨by decide, by decide⟩ (by omega)) (cwV 1 hts (gd_V hgd m1725 m1727 m72 m131 m1728) rfl rfl rfl (by decide +kernel) ⟨Nat.le_of_ble_eq_true rfl, Nat.le_of_ble_eq_true rfl⟩) (pre_V hW hB_G_484 hK hZ hS kd_66 rfl) rfl rfl hl.1 rfl (lv_room (Nat.le_of_ble_eq_true rfl)) dX12_unit_47 ⟨Nat.le_of_ble_eq_true rfl, Nat.le_of_ble_eq_true rfl⟩) hS (fun G_496 H locs hpo hW hS => ?_)
            obtain ⟨hB_G_496, hq_497, hp_498⟩ := hpo
            have hF := hF.call hq_497 (by decide) (by decide)
            refine lv_goto (tgt := 2) hx hb dX12_unit_50 (by decide) ?_
            have b_499 : (-1) ≤ (G_496.1 66 24).toInt ∧ (G_496.1 66 24).toInt ≤ 200 := hB_G_496.i 66 24 rfl rfl
            have g_500 : gC G_496 = gC G := gC_fr (rs := [75]) (fs := [(66, 2), (66, 3), (66, 4), (66, 6), (66, 7), (66, 8), (66, 9), (66, 20), (66, 21), (66, 23), (66, 24)]) (((((Fr.rf.call hq_4 (by decide) (by decide)).call hq_327 (by decide) (by decide)).call hq_456 (by decide) (by decide)).call hq_485 (by decide) (by decide)).call hq_497 (by decide) (by decide)) (by decide) (by decide)
            have g_501 : gD G_496 = gD G := gD_fr (rs := [75]) (fs := [(66, 2), (66, 3), (66, 4), (66, 6), (66, 7), (66, 8), (66, 9), (66, 20), (66, 21), (66, 23), (66, 24)]) (((((Fr.rf.call hq_4 (by decide) (by decide)).call hq_327 (by decide) (by decide)).call hq_456 (by decide) (by decide)).call hq_485 (by decide) (by decide)).call hq_497 (by decide) (by decide)) (by decide) (by decide)
            have g_502 : gM G_496 = gM G := gM_fr (rs := [75]) (fs := [(66, 2), (66, 3), (66, 4), (66, 6), (66, 7), (66, 8), (66, 9), (66, 20), (66, 21), (66, 23), (66, 24)]) (((((Fr.rf.call hq_4 (by decide) (by decide)).call hq_327 (by decide) (by decide)).call hq_456 (by decide) (by decide)).call hq_485 (by decide) (by decide)).call hq_497 (by decide) (by decide)) (by decide) (by decide)
            have b_503 : 0 ≤ (G_484.1 66 2).toInt ∧ (G_484.1 66 2).toInt ≤ 4 := hB_G_484.i 66 2 rfl rfl
            have g_504 : (G_496.1 66 2).toInt = (G_484.1 66 2).toInt := by rw [show G_496.1 66 2 = (G_484.1 66 2) from (hq_497.i 66 2 (by decide) (by decide))]
            have b_505 : 0 ≤ (G_496.1 66 20).toInt ∧ (G_496.1 66 20).toInt ≤ 160 := hB_G_496.i 66 20 rfl rfl
            have g_506 : (G_496.1 66 23).toInt = (G_3.1 66 23).toInt := by rw [show G_496.1 66 23 = (G_3.1 66 23) from ((hq_497.i 66 23 (by decide) (by decide)).trans ((hq_485.i 66 23 (by decide) (by decide)).trans ((hq_456.i 66 23 (by decide) (by decide)).trans ((hq_327.i 66 23 (by decide) (by decide)).trans (rfl)))))]
            have g_507 : (G_496.1 66 23).toInt = (G_3.1 66 23).toInt := by rw [show G_496.1 66 23 = (G_3.1 66 23) from ((hq_497.i 66 23 (by decide) (by decide)).trans ((hq_485.i 66 23 (by decide) (by decide)).trans ((hq_456.i 66 23 (by decide) (by decide)).trans ((hq_327.i 66 23 (by decide) (by decide)).trans (rfl)))))]
            have b_508 : 0 ≤ (G_496.1 66 4).toInt ∧ (G_496.1 66 4).toInt ≤ 1600 := hB_G_496.i 66 4 rfl rfl
            exact ih_5 (9 - (G_496.1 66 24).toInt + x_7.toInt : Int).toNat (by omega) _ _ _ ⟨G_496, x_7, (Int.toNat_of_nonneg (by omega)), ⟨by omega, by omega⟩, (by omega), (by omega), (by omega), hW, hB_G_496, hF, (((((Fr.rf.call hq_4 (by decide) (by decide)).call hq_327 (by decide) (by decide)).call hq_456 (by decide) (by decide)).call hq_485 (by decide) (by decide)).call hq_497 (by decide) (by decide)), hS, lv_sub hl [0, 1] rfl⟩
